section
-- ===== PART A: goes FIRST, ahead of the names: the tables' words, and 'selects' of the private methods out of them =====
/-- a private method of a class that the tables say can be made, by its rows of tables_1 -/
def lw_okq (q : MethodName × Nat) : Prop := (q.1.cls ≠ "java/lang/invoke/MethodHandle" ∧ q.1.cls ≠ "java/lang/invoke/VarHandle") ∧ Cond.instantiable q.1.cls q.2 ∈ tables_1 ∧ Cond.privateMethod q.1 ∈ tables_1 ∧ Cond.instanceMethod q.1 ∈ tables_1
theorem lw_p0 : lw_okq (⟨"KneelingStones", "customAt", "(I)LKneelingStones$Custom;"⟩, 11) := ⟨⟨by decide +kernel, by decide +kernel⟩, List.mem_of_getElem? (i := 13) (by decide +kernel), List.mem_of_getElem? (i := 128) (by decide +kernel), List.mem_of_getElem? (i := 129) (by decide +kernel)⟩
theorem lw_p1 : lw_okq (⟨"KneelingStones$Moor", "put", "(II)V"⟩, 8) := ⟨⟨by decide +kernel, by decide +kernel⟩, List.mem_of_getElem? (i := 40) (by decide +kernel), List.mem_of_getElem? (i := 147) (by decide +kernel), List.mem_of_getElem? (i := 148) (by decide +kernel)⟩
theorem lw_p2 : lw_okq (⟨"KneelingStones$Moor", "walk", "(LKneelingStones$Custom;LKneelingStones$Parish;I)V"⟩, 8) := ⟨⟨by decide +kernel, by decide +kernel⟩, List.mem_of_getElem? (i := 40) (by decide +kernel), List.mem_of_getElem? (i := 191) (by decide +kernel), List.mem_of_getElem? (i := 192) (by decide +kernel)⟩
theorem lw_p3 : lw_okq (⟨"KneelingStones$Moor", "draw", "()I"⟩, 8) := ⟨⟨by decide +kernel, by decide +kernel⟩, List.mem_of_getElem? (i := 40) (by decide +kernel), List.mem_of_getElem? (i := 195) (by decide +kernel), List.mem_of_getElem? (i := 196) (by decide +kernel)⟩
theorem lw_p4 : lw_okq (⟨"KneelingStones$Moor", "cairnBy", "(II)I"⟩, 8) := ⟨⟨by decide +kernel, by decide +kernel⟩, List.mem_of_getElem? (i := 40) (by decide +kernel), List.mem_of_getElem? (i := 202) (by decide +kernel), List.mem_of_getElem? (i := 203) (by decide +kernel)⟩
theorem lw_p5 : lw_okq (⟨"KneelingStones$Moor", "steal", "(II)V"⟩, 8) := ⟨⟨by decide +kernel, by decide +kernel⟩, List.mem_of_getElem? (i := 40) (by decide +kernel), List.mem_of_getElem? (i := 245) (by decide +kernel), List.mem_of_getElem? (i := 246) (by decide +kernel)⟩
theorem lw_p6 : lw_okq (⟨"KneelingStones$Moor", "flood", "()V"⟩, 8) := ⟨⟨by decide +kernel, by decide +kernel⟩, List.mem_of_getElem? (i := 40) (by decide +kernel), List.mem_of_getElem? (i := 255) (by decide +kernel), List.mem_of_getElem? (i := 256) (by decide +kernel)⟩
theorem lw_p7 : lw_okq (⟨"KneelingStones", "dreamOf", "(LKneelingStones$Custom;I)V"⟩, 11) := ⟨⟨by decide +kernel, by decide +kernel⟩, List.mem_of_getElem? (i := 13) (by decide +kernel), List.mem_of_getElem? (i := 267) (by decide +kernel), List.mem_of_getElem? (i := 268) (by decide +kernel)⟩
theorem lw_p8 : lw_okq (⟨"KneelingStones$Page", "codeOf", "(I)I"⟩, 2) := ⟨⟨by decide +kernel, by decide +kernel⟩, List.mem_of_getElem? (i := 21) (by decide +kernel), List.mem_of_getElem? (i := 318) (by decide +kernel), List.mem_of_getElem? (i := 319) (by decide +kernel)⟩
def lw_privs_1 : List (MethodName × Nat) := [(⟨"KneelingStones", "customAt", "(I)LKneelingStones$Custom;"⟩, 11), (⟨"KneelingStones$Moor", "put", "(II)V"⟩, 8), (⟨"KneelingStones$Moor", "walk", "(LKneelingStones$Custom;LKneelingStones$Parish;I)V"⟩, 8), (⟨"KneelingStones$Moor", "draw", "()I"⟩, 8), (⟨"KneelingStones$Moor", "cairnBy", "(II)I"⟩, 8), (⟨"KneelingStones$Moor", "steal", "(II)V"⟩, 8), (⟨"KneelingStones$Moor", "flood", "()V"⟩, 8), (⟨"KneelingStones", "dreamOf", "(LKneelingStones$Custom;I)V"⟩, 11), (⟨"KneelingStones$Page", "codeOf", "(I)I"⟩, 2)]
theorem lw_r1 : ∀ q ∈ lw_privs_1, lw_okq q := List.forall_mem_cons.mpr ⟨lw_p0, List.forall_mem_cons.mpr ⟨lw_p1, List.forall_mem_cons.mpr ⟨lw_p2, List.forall_mem_cons.mpr ⟨lw_p3, List.forall_mem_cons.mpr ⟨lw_p4, List.forall_mem_cons.mpr ⟨lw_p5, List.forall_mem_cons.mpr ⟨lw_p6, List.forall_mem_cons.mpr ⟨lw_p7, List.forall_mem_cons.mpr ⟨lw_p8, fun _ h => absurd h List.not_mem_nil⟩⟩⟩⟩⟩⟩⟩⟩⟩
def lw_privs : List (MethodName × Nat) := lw_privs_1
def lw_tbl : List Cond := k2_sels lw_privs ++ tables_1
theorem lw_privs_ok : ∀ q ∈ lw_privs, lw_okq q := lw_r1
end
section
/-! ===== BEGIN words of one list among another's, by their places ===== -/
theorem goodIn_r {big : List Cond} (ws : List Cond) (ps : List Nat) (hp : ws = ps.filterMap (fun i => big[i]?)) (h : ws.all goodWord = true) : GoodIn big ws := by
  intro w hw
  have h1 := List.all_eq_true.mp h w hw
  rw [hp] at hw
  obtain ⟨i, -, hi⟩ := List.mem_filterMap.mp hw
  have hm : w ∈ big := by first | exact List.mem_of_getElem? hi | exact List.getElem?_mem hi
  exact ⟨hm, good_of_word h1⟩
theorem goodIn_app {big a b : List Cond} (ha : GoodIn big a) (hb : GoodIn big b) : GoodIn big (a ++ b) := fun w h => (List.mem_append.mp h).elim (ha w) (hb w)
theorem goodIn_ca {big a b : List Cond} {c : Cond} (ha : GoodIn big (c :: a)) (hb : GoodIn big b) : GoodIn big (c :: (a ++ b)) := fun w h => (List.mem_cons.mp h).elim (fun e => ha w (List.mem_cons.mpr (Or.inl e))) (fun h => (List.mem_append.mp h).elim (fun h => ha w (List.mem_cons.mpr (Or.inr h))) (hb w))
theorem goodIn_sub {big ws : List Cond} (hm : ∀ w ∈ ws, w ∈ big) (h : ws.all goodWord = true) : GoodIn big ws := fun w hw => ⟨hm w hw, good_of_word (List.all_eq_true.mp h w hw)⟩
/-! ===== END ===== -/

/-! ===== BEGIN printed: names, fields, word lists, decode rows ===== -/
def RX0 : String := "KneelingStones$Boys"
def TX0 : u_T := fun k => match k with
  | 0 => ("KneelingStones$Parish", "n", "I", true)
  | 1 => ("KneelingStones$Parish", "walkers", "I", false)
  | 2 => ("KneelingStones$Parish", "wish", "I", false)
  | _ => ("KneelingStones$Parish", "sin", "I", false)
def tyX0 : Nat → FieldType := fun k => match k with
  | 0 => .int
  | 1 => .int
  | 2 => .int
  | _ => .int
abbrev wsX00 : List Cond := u_ws RX0 TX0 4
theorem nmX0 : ∀ a, a < 4 → ∀ b, b < 4 → a ≠ b → (TX0 a).2.1 ≠ (TX0 b).2.1 := by decide +kernel
theorem tyX0_ok : ∀ k, k < 4 → parseFieldDescriptor (TX0 k).2.2.1 = some (tyX0 k) := by decide +kernel
abbrev cX0_init : ByteArray := prog_2_method_1_code
def yX0_init : MethodName := ⟨RX0, "<init>", "(I)V"⟩
abbrev cX0_sinsAtMost : ByteArray := prog_2_method_3_code
def yX0_sinsAtMost : MethodName := ⟨RX0, "sinsAtMost", "()Z"⟩
def RX1 : String := "KneelingStones$Custom"
def TX1 : u_T := fun k => match k with
  | 0 => ("KneelingStones$Custom", "wishRule", "I", true)
  | 1 => ("KneelingStones$Custom", "sinRule", "I", true)
  | _ => ("KneelingStones$Custom", "every", "I", true)
def tyX1 : Nat → FieldType := fun k => match k with
  | 0 => .int
  | 1 => .int
  | _ => .int
abbrev wsX10 : List Cond := u_ws RX1 TX1 3
theorem nmX1 : ∀ a, a < 3 → ∀ b, b < 3 → a ≠ b → (TX1 a).2.1 ≠ (TX1 b).2.1 := by decide +kernel
theorem tyX1_ok : ∀ k, k < 3 → parseFieldDescriptor (TX1 k).2.2.1 = some (tyX1 k) := by decide +kernel
abbrev cX1_init : ByteArray := prog_3_method_1_code
def yX1_init : MethodName := ⟨RX1, "<init>", "(III)V"⟩
abbrev cX1_told : ByteArray := prog_3_method_2_code
def yX1_told : MethodName := ⟨RX1, "told", "(I)I"⟩
abbrev cX1_floodsIn : ByteArray := prog_3_method_3_code
def yX1_floodsIn : MethodName := ⟨RX1, "floodsIn", "(I)Z"⟩
def RX2 : String := "KneelingStones$Moor"
def TX2 : u_T := fun k => match k with
  | 0 => ("KneelingStones$Moor", "heights", "[I", true)
  | 1 => ("KneelingStones$Moor", "marks", "[I", true)
  | 2 => ("KneelingStones$Moor", "week", "I", false)
  | 3 => ("KneelingStones$Moor", "last", "I", false)
  | 4 => ("KneelingStones$Moor", "seed", "I", false)
  | 5 => ("KneelingStones$Moor", "laid", "I", false)
  | 6 => ("KneelingStones$Moor", "taken", "I", false)
  | _ => ("KneelingStones$Moor", "spilt", "I", false)
def tyX2 : Nat → FieldType := fun k => match k with
  | 0 => .array .int
  | 1 => .array .int
  | 2 => .int
  | 3 => .int
  | 4 => .int
  | 5 => .int
  | 6 => .int
  | _ => .int
abbrev wsX20 : List Cond := u_ws RX2 TX2 8
theorem nmX2 : ∀ a, a < 8 → ∀ b, b < 8 → a ≠ b → (TX2 a).2.1 ≠ (TX2 b).2.1 := by decide +kernel
theorem tyX2_ok : ∀ k, k < 8 → parseFieldDescriptor (TX2 k).2.2.1 = some (tyX2 k) := by decide +kernel
abbrev cX2_init : ByteArray := prog_4_method_1_code
def yX2_init : MethodName := ⟨RX2, "<init>", "()V"⟩
abbrev cX2_become : ByteArray := prog_4_method_2_code
def yX2_become : MethodName := ⟨RX2, "become", "(LKneelingStones$Moor;)V"⟩
abbrev cX2_pebbles : ByteArray := prog_4_method_3_code
def yX2_pebbles : MethodName := ⟨RX2, "pebbles", "()I"⟩
abbrev cX2_markAt : ByteArray := prog_4_method_4_code
def yX2_markAt : MethodName := ⟨RX2, "markAt", "(II)I"⟩
abbrev cX2_most : ByteArray := prog_4_method_5_code
def yX2_most : MethodName := ⟨RX2, "most", "()I"⟩
abbrev cX2_fewest : ByteArray := prog_4_method_6_code
def yX2_fewest : MethodName := ⟨RX2, "fewest", "()I"⟩
abbrev cX2_layNew : ByteArray := prog_4_method_10_code
def yX2_layNew : MethodName := ⟨RX2, "layNew", "(II)V"⟩
abbrev cX2_takeOff : ByteArray := prog_4_method_11_code
def yX2_takeOff : MethodName := ⟨RX2, "takeOff", "(II)V"⟩
abbrev cX2_goOneWeek : ByteArray := prog_4_method_12_code
def yX2_goOneWeek : MethodName := ⟨RX2, "goOneWeek", "(LKneelingStones$Custom;[LKneelingStones$Parish;)V"⟩
abbrev cX2_walk : ByteArray := prog_4_method_13_code
def yX2_walk : MethodName := ⟨RX2, "walk", "(LKneelingStones$Custom;LKneelingStones$Parish;I)V"⟩
abbrev cX2_steal : ByteArray := prog_4_method_14_code
def yX2_steal : MethodName := ⟨RX2, "steal", "(II)V"⟩
abbrev cX2_flood : ByteArray := prog_4_method_15_code
def yX2_flood : MethodName := ⟨RX2, "flood", "()V"⟩
abbrev cX2_put : ByteArray := prog_4_method_16_code
def yX2_put : MethodName := ⟨RX2, "put", "(II)V"⟩
abbrev cX2_cairnBy : ByteArray := prog_4_method_17_code
def yX2_cairnBy : MethodName := ⟨RX2, "cairnBy", "(II)I"⟩
abbrev cX2_draw : ByteArray := prog_4_method_18_code
def yX2_draw : MethodName := ⟨RX2, "draw", "()I"⟩
def RX3 : String := "KneelingStones$Odds"
def TX3 : u_T := fun k => match k with
  | _ => ("", "", "", false)
def tyX3 : Nat → FieldType := fun k => match k with
  | _ => .int
abbrev wsX30 : List Cond := u_ws RX3 TX3 0
theorem nmX3 : ∀ a, a < 0 → ∀ b, b < 0 → a ≠ b → (TX3 a).2.1 ≠ (TX3 b).2.1 := by decide +kernel
theorem tyX3_ok : ∀ k, k < 0 → parseFieldDescriptor (TX3 k).2.2.1 = some (tyX3 k) := by decide +kernel
def RX4 : String := "KneelingStones$Page"
def TX4 : u_T := fun k => match k with
  | 0 => ("KneelingStones$Page", "codes", "[I", true)
  | _ => ("KneelingStones$Page", "length", "I", false)
def tyX4 : Nat → FieldType := fun k => match k with
  | 0 => .array .int
  | _ => .int
abbrev wsX40 : List Cond := u_ws RX4 TX4 2
theorem nmX4 : ∀ a, a < 2 → ∀ b, b < 2 → a ≠ b → (TX4 a).2.1 ≠ (TX4 b).2.1 := by decide +kernel
theorem tyX4_ok : ∀ k, k < 2 → parseFieldDescriptor (TX4 k).2.2.1 = some (tyX4 k) := by decide +kernel
abbrev cX4_init : ByteArray := prog_6_method_1_code
def yX4_init : MethodName := ⟨RX4, "<init>", "()V"⟩
abbrev cX4_lettersIn : ByteArray := prog_6_method_2_code
def yX4_lettersIn : MethodName := ⟨RX4, "lettersIn", "(J)I"⟩
abbrev cX4_codeAt : ByteArray := prog_6_method_3_code
def yX4_codeAt : MethodName := ⟨RX4, "codeAt", "(JI)I"⟩
abbrev cX4_write : ByteArray := prog_6_method_4_code
def yX4_write : MethodName := ⟨RX4, "write", "(JI)V"⟩
abbrev cX4_firstWrong : ByteArray := prog_6_method_5_code
def yX4_firstWrong : MethodName := ⟨RX4, "firstWrong", "()I"⟩
abbrev cX4_isCustom : ByteArray := prog_6_method_6_code
def yX4_isCustom : MethodName := ⟨RX4, "isCustom", "()Z"⟩
abbrev cX4_asCustom : ByteArray := prog_6_method_7_code
def yX4_asCustom : MethodName := ⟨RX4, "asCustom", "()LKneelingStones$Custom;"⟩
abbrev cX4_codeOf : ByteArray := prog_6_method_8_code
def yX4_codeOf : MethodName := ⟨RX4, "codeOf", "(I)I"⟩
abbrev cX4_fits : ByteArray := prog_6_method_9_code
def yX4_fits : MethodName := ⟨RX4, "fits", "(II)Z"⟩
abbrev cX4_ruleOf : ByteArray := prog_6_method_10_code
def yX4_ruleOf : MethodName := ⟨RX4, "ruleOf", "(I)I"⟩
def RX5 : String := "KneelingStones$Parish"
def TX5 : u_T := fun k => match k with
  | 0 => ("KneelingStones$Parish", "n", "I", true)
  | 1 => ("KneelingStones$Parish", "walkers", "I", false)
  | 2 => ("KneelingStones$Parish", "wish", "I", false)
  | _ => ("KneelingStones$Parish", "sin", "I", false)
def tyX5 : Nat → FieldType := fun k => match k with
  | 0 => .int
  | 1 => .int
  | 2 => .int
  | _ => .int
abbrev wsX50 : List Cond := u_ws RX5 TX5 4
theorem nmX5 : ∀ a, a < 4 → ∀ b, b < 4 → a ≠ b → (TX5 a).2.1 ≠ (TX5 b).2.1 := by decide +kernel
theorem tyX5_ok : ∀ k, k < 4 → parseFieldDescriptor (TX5 k).2.2.1 = some (tyX5 k) := by decide +kernel
abbrev cX5_init : ByteArray := prog_7_method_1_code
def yX5_init : MethodName := ⟨RX5, "<init>", "(I)V"⟩
abbrev cX5_gift : ByteArray := prog_7_method_3_code
def yX5_gift : MethodName := ⟨RX5, "gift", "()I"⟩
abbrev cX5_hidesOn : ByteArray := prog_7_method_5_code
def yX5_hidesOn : MethodName := ⟨RX5, "hidesOn", "()I"⟩
abbrev cX5_sinsAtMost : ByteArray := prog_7_method_6_code
def yX5_sinsAtMost : MethodName := ⟨RX5, "sinsAtMost", "()Z"⟩
def RX6 : String := "KneelingStones$Pious"
def TX6 : u_T := fun k => match k with
  | 0 => ("KneelingStones$Parish", "n", "I", true)
  | 1 => ("KneelingStones$Parish", "walkers", "I", false)
  | 2 => ("KneelingStones$Parish", "wish", "I", false)
  | _ => ("KneelingStones$Parish", "sin", "I", false)
def tyX6 : Nat → FieldType := fun k => match k with
  | 0 => .int
  | 1 => .int
  | 2 => .int
  | _ => .int
abbrev wsX60 : List Cond := u_ws RX6 TX6 4
theorem nmX6 : ∀ a, a < 4 → ∀ b, b < 4 → a ≠ b → (TX6 a).2.1 ≠ (TX6 b).2.1 := by decide +kernel
theorem tyX6_ok : ∀ k, k < 4 → parseFieldDescriptor (TX6 k).2.2.1 = some (tyX6 k) := by decide +kernel
abbrev cX6_init : ByteArray := prog_8_method_1_code
def yX6_init : MethodName := ⟨RX6, "<init>", "(I)V"⟩
abbrev cX6_gift : ByteArray := prog_8_method_3_code
def yX6_gift : MethodName := ⟨RX6, "gift", "()I"⟩
def RX7 : String := "KneelingStones$Sly"
def TX7 : u_T := fun k => match k with
  | 0 => ("KneelingStones$Parish", "n", "I", true)
  | 1 => ("KneelingStones$Parish", "walkers", "I", false)
  | 2 => ("KneelingStones$Parish", "wish", "I", false)
  | _ => ("KneelingStones$Parish", "sin", "I", false)
def tyX7 : Nat → FieldType := fun k => match k with
  | 0 => .int
  | 1 => .int
  | 2 => .int
  | _ => .int
abbrev wsX70 : List Cond := u_ws RX7 TX7 4
theorem nmX7 : ∀ a, a < 4 → ∀ b, b < 4 → a ≠ b → (TX7 a).2.1 ≠ (TX7 b).2.1 := by decide +kernel
theorem tyX7_ok : ∀ k, k < 4 → parseFieldDescriptor (TX7 k).2.2.1 = some (tyX7 k) := by decide +kernel
abbrev cX7_init : ByteArray := prog_9_method_1_code
def yX7_init : MethodName := ⟨RX7, "<init>", "(I)V"⟩
abbrev cX7_hidesOn : ByteArray := prog_9_method_4_code
def yX7_hidesOn : MethodName := ⟨RX7, "hidesOn", "()I"⟩
def RX8 : String := "KneelingStones$Ways"
def TX8 : u_T := fun k => match k with
  | 0 => ("KneelingStones$Ways", "row", "[I", false)
  | _ => ("KneelingStones$Ways", "next", "[I", false)
def tyX8 : Nat → FieldType := fun k => match k with
  | 0 => .array .int
  | _ => .array .int
abbrev wsX80 : List Cond := u_ws RX8 TX8 2
theorem nmX8 : ∀ a, a < 2 → ∀ b, b < 2 → a ≠ b → (TX8 a).2.1 ≠ (TX8 b).2.1 := by decide +kernel
theorem tyX8_ok : ∀ k, k < 2 → parseFieldDescriptor (TX8 k).2.2.1 = some (tyX8 k) := by decide +kernel
abbrev cX8_init : ByteArray := prog_10_method_1_code
def yX8_init : MethodName := ⟨RX8, "<init>", "()V"⟩
def RX9 : String := "KneelingStones"
def TX9 : u_T := fun k => match k with
  | 0 => ("KneelingStones", "page", "LKneelingStones$Page;", true)
  | 1 => ("KneelingStones", "customs", "[LKneelingStones$Custom;", true)
  | 2 => ("KneelingStones", "customCount", "I", false)
  | 3 => ("KneelingStones", "parishes", "[LKneelingStones$Parish;", true)
  | 4 => ("KneelingStones", "parishCount", "I", false)
  | 5 => ("KneelingStones", "now", "LKneelingStones$Moor;", true)
  | 6 => ("KneelingStones", "kept", "LKneelingStones$Moor;", true)
  | 7 => ("KneelingStones", "isKept", "Z", false)
  | 8 => ("KneelingStones", "dream", "LKneelingStones$Moor;", true)
  | 9 => ("KneelingStones", "sizes", "[I", true)
  | _ => ("KneelingStones", "ways", "LKneelingStones$Ways;", true)
def tyX9 : Nat → FieldType := fun k => match k with
  | 0 => .object "KneelingStones$Page"
  | 1 => .array (.object "KneelingStones$Custom")
  | 2 => .int
  | 3 => .array (.object "KneelingStones$Parish")
  | 4 => .int
  | 5 => .object "KneelingStones$Moor"
  | 6 => .object "KneelingStones$Moor"
  | 7 => .boolean
  | 8 => .object "KneelingStones$Moor"
  | 9 => .array .int
  | _ => .object "KneelingStones$Ways"
abbrev wsX90 : List Cond := u_ws RX9 TX9 11
theorem nmX9 : ∀ a, a < 11 → ∀ b, b < 11 → a ≠ b → (TX9 a).2.1 ≠ (TX9 b).2.1 := by decide +kernel
theorem tyX9_ok : ∀ k, k < 11 → parseFieldDescriptor (TX9 k).2.2.1 = some (tyX9 k) := by decide +kernel
abbrev cX9_init : ByteArray := prog_1_method_1_code
def yX9_init : MethodName := ⟨RX9, "<init>", "()V"⟩
abbrev cX9_letters : ByteArray := prog_1_method_2_code
def yX9_letters : MethodName := ⟨RX9, "letters", "(J)I"⟩
abbrev cX9_fault : ByteArray := prog_1_method_4_code
def yX9_fault : MethodName := ⟨RX9, "fault", "()I"⟩
abbrev cX9_custom : ByteArray := prog_1_method_5_code
def yX9_custom : MethodName := ⟨RX9, "custom", "()I"⟩
abbrev cX9_customTold : ByteArray := prog_1_method_6_code
def yX9_customTold : MethodName := ⟨RX9, "customTold", "(II)I"⟩
abbrev cX9_parish : ByteArray := prog_1_method_7_code
def yX9_parish : MethodName := ⟨RX9, "parish", "(IIIII)I"⟩
abbrev cX9_lay : ByteArray := prog_1_method_11_code
def yX9_lay : MethodName := ⟨RX9, "lay", "(II)I"⟩
abbrev cX9_take : ByteArray := prog_1_method_12_code
def yX9_take : MethodName := ⟨RX9, "take", "(II)I"⟩
abbrev cX9_height : ByteArray := prog_1_method_13_code
def yX9_height : MethodName := ⟨RX9, "height", "(I)I"⟩
abbrev cX9_mark : ByteArray := prog_1_method_14_code
def yX9_mark : MethodName := ⟨RX9, "mark", "(II)I"⟩
abbrev cX9_dated : ByteArray := prog_1_method_15_code
def yX9_dated : MethodName := ⟨RX9, "dated", "(II)I"⟩
abbrev cX9_seed : ByteArray := prog_1_method_16_code
def yX9_seed : MethodName := ⟨RX9, "seed", "(I)I"⟩
abbrev cX9_weeks : ByteArray := prog_1_method_17_code
def yX9_weeks : MethodName := ⟨RX9, "weeks", "(II)I"⟩
abbrev cX9_would : ByteArray := prog_1_method_18_code
def yX9_would : MethodName := ⟨RX9, "would", "(III)I"⟩
abbrev cX9_count : ByteArray := prog_1_method_31_code
def yX9_count : MethodName := ⟨RX9, "count", "(I)I"⟩
abbrev cX9_customAt : ByteArray := prog_1_method_36_code
def yX9_customAt : MethodName := ⟨RX9, "customAt", "(I)LKneelingStones$Custom;"⟩
abbrev cX9_isCairn : ByteArray := prog_1_method_38_code
def yX9_isCairn : MethodName := ⟨RX9, "isCairn", "(I)Z"⟩
abbrev cX9_isKindWith : ByteArray := prog_1_method_40_code
def yX9_isKindWith : MethodName := ⟨RX9, "isKindWith", "(II)Z"⟩
abbrev cX9_mayBe : ByteArray := prog_1_method_41_code
def yX9_mayBe : MethodName := ⟨RX9, "mayBe", "(II)Z"⟩
abbrev cX9_madeOf : ByteArray := prog_1_method_42_code
def yX9_madeOf : MethodName := ⟨RX9, "madeOf", "(II)LKneelingStones$Parish;"⟩
abbrev cX9_dreamOf : ByteArray := prog_1_method_44_code
def yX9_dreamOf : MethodName := ⟨RX9, "dreamOf", "(LKneelingStones$Custom;I)V"⟩
def RX10 : String := "KneelingStonesModel"
def TX10 : u_T := fun k => match k with
  | _ => ("", "", "", false)
def tyX10 : Nat → FieldType := fun k => match k with
  | _ => .int
abbrev wsX100 : List Cond := u_ws RX10 TX10 0
theorem nmX10 : ∀ a, a < 0 → ∀ b, b < 0 → a ≠ b → (TX10 a).2.1 ≠ (TX10 b).2.1 := by decide +kernel
theorem tyX10_ok : ∀ k, k < 0 → parseFieldDescriptor (TX10 k).2.2.1 = some (tyX10 k) := by decide +kernel
def RJ9 : String := "java/lang/Math"
def TJ9 : u_T := fun k => match k with
  | _ => ("", "", "", false)
def tyJ9 : Nat → FieldType := fun k => match k with
  | _ => .int
abbrev wsJ90 : List Cond := u_ws RJ9 TJ9 0
theorem nmJ9 : ∀ a, a < 0 → ∀ b, b < 0 → a ≠ b → (TJ9 a).2.1 ≠ (TJ9 b).2.1 := by decide +kernel
theorem tyJ9_ok : ∀ k, k < 0 → parseFieldDescriptor (TJ9 k).2.2.1 = some (tyJ9 k) := by decide +kernel
abbrev cJ9_min_7cf53 : ByteArray := prog_13_method_69_code
def yJ9_min_7cf53 : MethodName := ⟨RJ9, "min", "(II)I"⟩
def RJ10 : String := "java/lang/System"
def TJ10 : u_T := fun k => match k with
  | _ => ("", "", "", false)
def tyJ10 : Nat → FieldType := fun k => match k with
  | _ => .int
abbrev wsJ100 : List Cond := u_ws RJ10 TJ10 0
theorem nmJ10 : ∀ a, a < 0 → ∀ b, b < 0 → a ≠ b → (TJ10 a).2.1 ≠ (TJ10 b).2.1 := by decide +kernel
theorem tyJ10_ok : ∀ k, k < 0 → parseFieldDescriptor (TJ10 k).2.2.1 = some (tyJ10 k) := by decide +kernel
def RL : String := "KneelingStonesLaw"
abbrev cL_cell : ByteArray := method_2_code
def yL_cell : MethodName := ⟨RL, "cell", "([II)I"⟩
abbrev cL_put : ByteArray := method_3_code
def yL_put : MethodName := ⟨RL, "put", "(LKneelingStones;I)Z"⟩
abbrev cL_letter : ByteArray := method_4_code
def yL_letter : MethodName := ⟨RL, "letter", "(I)I"⟩
abbrev cL_custom : ByteArray := method_5_code
def yL_custom : MethodName := ⟨RL, "custom", "(LKneelingStones;II[I)Z"⟩
abbrev cL_parishes : ByteArray := method_6_code
def yL_parishes : MethodName := ⟨RL, "parishes", "(LKneelingStones;[IIII[I)Z"⟩
abbrev cL_rule : ByteArray := method_7_code
def yL_rule : MethodName := ⟨RL, "rule", "(I[III)I"⟩
abbrev cL_lay : ByteArray := method_8_code
def yL_lay : MethodName := ⟨RL, "lay", "([I[I[III)V"⟩
abbrev cL_draw : ByteArray := method_9_code
def yL_draw : MethodName := ⟨RL, "draw", "([I[J)I"⟩
abbrev cL_week : ByteArray := method_10_code
def yL_week : MethodName := ⟨RL, "week", "([II[I[I[I[I[J)V"⟩
abbrev cL_copy : ByteArray := method_11_code
def yL_copy : MethodName := ⟨RL, "copy", "([I[I)V"⟩
abbrev cL_all : ByteArray := method_12_code
def yL_all : MethodName := ⟨RL, "all", "([I)I"⟩
abbrev cL_law : ByteArray := code
def yL_law : MethodName := ⟨RL, "law", "([I)Z"⟩
def wsX5_init : List Cond := .code yX5_init cX5_init 2 none :: ([.methodLink RX5 3 objectInit, .instanceMethod objectInit, .code objectInit ⟨#[0xb1]⟩ 1 none, .fieldLink RX5 9 "KneelingStones$Parish" "n" "I"] ++ wsX00 ++ wsX50 ++ wsX60 ++ wsX70)
def wsX7_init : List Cond := .code yX7_init cX7_init 2 none :: ([.methodLink RX7 3 yX5_init, .instanceMethod yX5_init, .initialized RX5, .code yX5_init cX5_init 2 none, .methodLink RX5 3 objectInit, .instanceMethod objectInit, .code objectInit ⟨#[0xb1]⟩ 1 none, .fieldLink RX5 9 "KneelingStones$Parish" "n" "I"] ++ wsX00 ++ wsX50 ++ wsX60 ++ wsX70)
def wsX0_init : List Cond := .code yX0_init cX0_init 2 none :: ([.methodLink RX0 3 yX7_init, .instanceMethod yX7_init, .initialized RX7, .code yX7_init cX7_init 2 none, .methodLink RX7 3 yX5_init, .instanceMethod yX5_init, .initialized RX5, .code yX5_init cX5_init 2 none, .methodLink RX5 3 objectInit, .instanceMethod objectInit, .code objectInit ⟨#[0xb1]⟩ 1 none, .fieldLink RX5 9 "KneelingStones$Parish" "n" "I"] ++ wsX00 ++ wsX50 ++ wsX60 ++ wsX70)
def wsX0_sinsAtMost : List Cond := .code yX0_sinsAtMost cX0_sinsAtMost 1 (some .boolean) :: ([])
def wsX1_init : List Cond := .code yX1_init cX1_init 4 none :: ([.methodLink RX1 1 objectInit, .instanceMethod objectInit, .code objectInit ⟨#[0xb1]⟩ 1 none, .fieldLink RX1 7 "KneelingStones$Custom" "wishRule" "I", .fieldLink RX1 13 "KneelingStones$Custom" "sinRule" "I", .fieldLink RX1 16 "KneelingStones$Custom" "every" "I"] ++ wsX10)
def wsX1_told : List Cond := .code yX1_told cX1_told 2 (some .int) :: ([.fieldLink RX1 7 "KneelingStones$Custom" "wishRule" "I", .fieldLink RX1 13 "KneelingStones$Custom" "sinRule" "I", .fieldLink RX1 16 "KneelingStones$Custom" "every" "I"] ++ wsX10)
def wsX1_floodsIn : List Cond := .code yX1_floodsIn cX1_floodsIn 2 (some .boolean) :: ([.fieldLink RX1 16 "KneelingStones$Custom" "every" "I"] ++ wsX10)
def wsX2_init : List Cond := .code yX2_init cX2_init 1 none :: ([.methodLink RX2 3 objectInit, .instanceMethod objectInit, .code objectInit ⟨#[0xb1]⟩ 1 none, .arrayClass .int, .fieldLink RX2 9 "KneelingStones$Moor" "heights" "[I", .fieldLink RX2 15 "KneelingStones$Moor" "marks" "[I", .fieldLink RX2 18 "KneelingStones$Moor" "seed" "I"] ++ wsX20)
def wsX2_become : List Cond := .code yX2_become cX2_become 2 none :: ([.fieldLink RX2 9 "KneelingStones$Moor" "heights" "[I", .methodLink RX2 22 arraycopyName, .native arraycopyName, .static arraycopyName, .initialized "java/lang/System", .fieldLink RX2 15 "KneelingStones$Moor" "marks" "[I", .fieldLink RX2 28 "KneelingStones$Moor" "week" "I", .fieldLink RX2 31 "KneelingStones$Moor" "last" "I", .fieldLink RX2 18 "KneelingStones$Moor" "seed" "I", .fieldLink RX2 34 "KneelingStones$Moor" "laid" "I", .fieldLink RX2 37 "KneelingStones$Moor" "taken" "I", .fieldLink RX2 40 "KneelingStones$Moor" "spilt" "I"] ++ wsX20)
def wsX2_pebbles : List Cond := .code yX2_pebbles cX2_pebbles 3 (some .int) :: ([.fieldLink RX2 9 "KneelingStones$Moor" "heights" "[I"] ++ wsX20)
def wsX9_isCairn : List Cond := .code yX9_isCairn cX9_isCairn 1 (some .boolean) :: ([])
def wsX2_markAt : List Cond := .code yX2_markAt cX2_markAt 4 (some .int) :: ([.fieldLink RX2 9 "KneelingStones$Moor" "heights" "[I", .fieldLink RX2 15 "KneelingStones$Moor" "marks" "[I", .static yX9_isCairn, .initialized RX9, .code yX9_isCairn cX9_isCairn 1 (some .boolean)] ++ wsX20)
def wsX2_most : List Cond := .code yX2_most cX2_most 3 (some .int) :: ([.fieldLink RX2 9 "KneelingStones$Moor" "heights" "[I"] ++ wsX20)
def wsX2_fewest : List Cond := .code yX2_fewest cX2_fewest 3 (some .int) :: ([.fieldLink RX2 9 "KneelingStones$Moor" "heights" "[I"] ++ wsX20)
def wsX2_put : List Cond := .code yX2_put cX2_put 4 none :: ([.fieldLink RX2 9 "KneelingStones$Moor" "heights" "[I", .fieldLink RX2 40 "KneelingStones$Moor" "spilt" "I", .fieldLink RX2 15 "KneelingStones$Moor" "marks" "[I", .static yX9_isCairn, .initialized RX9, .code yX9_isCairn cX9_isCairn 1 (some .boolean)] ++ wsX20)
def wsX2_layNew : List Cond := .code yX2_layNew cX2_layNew 4 none :: ([.fieldLink RX2 28 "KneelingStones$Moor" "week" "I", .fieldLink RX2 34 "KneelingStones$Moor" "laid" "I", .methodLink RX2 51 yX2_put, .instanceMethod yX2_put, .selects RX2 yX2_put yX2_put, .initialized RX2, .code yX2_put cX2_put 4 none, .fieldLink RX2 9 "KneelingStones$Moor" "heights" "[I", .fieldLink RX2 40 "KneelingStones$Moor" "spilt" "I", .fieldLink RX2 15 "KneelingStones$Moor" "marks" "[I", .static yX9_isCairn, .initialized RX9, .code yX9_isCairn cX9_isCairn 1 (some .boolean)] ++ wsX20)
def wsX2_takeOff : List Cond := .code yX2_takeOff cX2_takeOff 4 none :: ([.fieldLink RX2 9 "KneelingStones$Moor" "heights" "[I", .methodLink RX2 55 Lib.Math.min.name, .static Lib.Math.min.name, .initialized "java/lang/Math", .code Lib.Math.min.name Lib.Math.min.code 2 (some .int), .fieldLink RX2 37 "KneelingStones$Moor" "taken" "I", .static yX9_isCairn, .initialized RX9, .code yX9_isCairn cX9_isCairn 1 (some .boolean)] ++ wsX20)
def wsX2_draw : List Cond := .code yX2_draw cX2_draw 1 (some .int) :: ([.constantLong RX2 124 (1103515245), .fieldLink RX2 18 "KneelingStones$Moor" "seed" "I", .constantLong RX2 126 (12345), .constantLong RX2 128 (2147483647)] ++ wsX20)
def wsX2_cairnBy : List Cond := .code yX2_cairnBy cX2_cairnBy 3 (some .int) :: ([.fieldLink RX2 31 "KneelingStones$Moor" "last" "I", .methodLink RX2 103 yX2_most, .instanceMethod yX2_most, .selects RX2 yX2_most yX2_most, .initialized RX2, .code yX2_most cX2_most 3 (some .int), .fieldLink RX2 9 "KneelingStones$Moor" "heights" "[I", .methodLink RX2 121 yX2_fewest, .instanceMethod yX2_fewest, .selects RX2 yX2_fewest yX2_fewest, .code yX2_fewest cX2_fewest 3 (some .int)] ++ wsX20)
def wsX5_gift : List Cond := .code yX5_gift cX5_gift 1 (some .int) :: ([])
def wsX6_gift : List Cond := .code yX6_gift cX6_gift 1 (some .int) :: ([.fieldLink RX6 9 "KneelingStones$Pious" "n" "I", .sameField "KneelingStones$Pious" "KneelingStones$Parish" "n" "I"] ++ wsX00 ++ wsX50 ++ wsX60 ++ wsX70)
def wsX5_sinsAtMost : List Cond := .code yX5_sinsAtMost cX5_sinsAtMost 1 (some .boolean) :: ([])
def wsX7_hidesOn : List Cond := .code yX7_hidesOn cX7_hidesOn 1 (some .int) :: ([.fieldLink RX7 9 "KneelingStones$Sly" "n" "I", .sameField "KneelingStones$Sly" "KneelingStones$Parish" "n" "I"] ++ wsX00 ++ wsX50 ++ wsX60 ++ wsX70)
def wsX5_hidesOn : List Cond := .code yX5_hidesOn cX5_hidesOn 1 (some .int) :: ([])
def wsX2_steal : List Cond := .code yX2_steal cX2_steal 4 none :: ([.fieldLink RX2 9 "KneelingStones$Moor" "heights" "[I", .methodLink RX2 115 yX2_takeOff, .instanceMethod yX2_takeOff, .selects RX2 yX2_takeOff yX2_takeOff, .initialized RX2, .code yX2_takeOff cX2_takeOff 4 none, .methodLink RX2 55 Lib.Math.min.name, .static Lib.Math.min.name, .initialized "java/lang/Math", .code Lib.Math.min.name Lib.Math.min.code 2 (some .int), .fieldLink RX2 37 "KneelingStones$Moor" "taken" "I", .static yX9_isCairn, .initialized RX9, .code yX9_isCairn cX9_isCairn 1 (some .boolean), .methodLink RX2 118 yX2_markAt, .instanceMethod yX2_markAt, .selects RX2 yX2_markAt yX2_markAt, .code yX2_markAt cX2_markAt 4 (some .int), .fieldLink RX2 15 "KneelingStones$Moor" "marks" "[I", .methodLink RX2 51 yX2_put, .instanceMethod yX2_put, .selects RX2 yX2_put yX2_put, .code yX2_put cX2_put 4 none, .fieldLink RX2 40 "KneelingStones$Moor" "spilt" "I"] ++ wsX20)
def wsX2_walk_r1 : List Cond := [Cond.fieldLink RX2 81 "KneelingStones$Parish" "wish" "I", Cond.fieldLink RX2 84 "KneelingStones$Custom" "wishRule" "I", Cond.fieldLink RX2 31 "KneelingStones$Moor" "last" "I", Cond.fieldLink RX2 96 "KneelingStones$Parish" "sin" "I", Cond.fieldLink RX2 106 "KneelingStones$Custom" "sinRule" "I", Cond.methodLink RX2 77 yX2_draw, Cond.instanceMethod yX2_draw, Cond.selects RX2 yX2_draw yX2_draw, Cond.initialized RX2, Cond.code yX2_draw cX2_draw 1 (some .int), Cond.constantLong RX2 124 (1103515245), Cond.fieldLink RX2 18 "KneelingStones$Moor" "seed" "I", Cond.constantLong RX2 126 (12345), Cond.constantLong RX2 128 (2147483647), Cond.methodLink RX2 87 yX2_cairnBy, Cond.instanceMethod yX2_cairnBy, Cond.selects RX2 yX2_cairnBy yX2_cairnBy, Cond.code yX2_cairnBy cX2_cairnBy 3 (some .int), Cond.methodLink RX2 103 yX2_most, Cond.instanceMethod yX2_most, Cond.selects RX2 yX2_most yX2_most, Cond.code yX2_most cX2_most 3 (some .int), Cond.fieldLink RX2 9 "KneelingStones$Moor" "heights" "[I", Cond.methodLink RX2 121 yX2_fewest]
def wsX2_walk_r2 : List Cond := [Cond.instanceMethod yX2_fewest, Cond.selects RX2 yX2_fewest yX2_fewest, Cond.code yX2_fewest cX2_fewest 3 (some .int), Cond.methodLink RX2 90 ⟨"KneelingStones$Parish", "gift", "()I"⟩, Cond.sameMethod "KneelingStones$Parish" "KneelingStones$Parish" "gift" "()I", Cond.selects RX0 ⟨"KneelingStones$Parish", "gift", "()I"⟩ yX5_gift, Cond.instanceMethod yX5_gift, Cond.initialized RX5, Cond.code yX5_gift cX5_gift 1 (some .int), Cond.methodLink RX2 90 yX5_gift, Cond.selects RX5 yX5_gift yX5_gift, Cond.instanceMethod ⟨"KneelingStones$Parish", "gift", "()I"⟩, Cond.selects RX6 ⟨"KneelingStones$Parish", "gift", "()I"⟩ yX6_gift, Cond.instanceMethod yX6_gift, Cond.initialized RX6, Cond.code yX6_gift cX6_gift 1 (some .int), Cond.fieldLink RX6 9 "KneelingStones$Pious" "n" "I", Cond.sameField "KneelingStones$Pious" "KneelingStones$Parish" "n" "I", Cond.selects RX7 ⟨"KneelingStones$Parish", "gift", "()I"⟩ yX5_gift, Cond.methodLink RX2 93 yX2_layNew, Cond.instanceMethod yX2_layNew, Cond.selects RX2 yX2_layNew yX2_layNew, Cond.code yX2_layNew cX2_layNew 4 none, Cond.fieldLink RX2 28 "KneelingStones$Moor" "week" "I"]
def wsX2_walk_r3 : List Cond := [Cond.fieldLink RX2 34 "KneelingStones$Moor" "laid" "I", Cond.methodLink RX2 51 yX2_put, Cond.instanceMethod yX2_put, Cond.selects RX2 yX2_put yX2_put, Cond.code yX2_put cX2_put 4 none, Cond.fieldLink RX2 40 "KneelingStones$Moor" "spilt" "I", Cond.fieldLink RX2 15 "KneelingStones$Moor" "marks" "[I", Cond.static yX9_isCairn, Cond.initialized RX9, Cond.code yX9_isCairn cX9_isCairn 1 (some .boolean), Cond.methodLink RX2 99 ⟨"KneelingStones$Parish", "sinsAtMost", "()Z"⟩, Cond.sameMethod "KneelingStones$Parish" "KneelingStones$Parish" "sinsAtMost" "()Z", Cond.instanceMethod ⟨"KneelingStones$Parish", "sinsAtMost", "()Z"⟩, Cond.selects RX0 ⟨"KneelingStones$Parish", "sinsAtMost", "()Z"⟩ yX0_sinsAtMost, Cond.instanceMethod yX0_sinsAtMost, Cond.initialized RX0, Cond.code yX0_sinsAtMost cX0_sinsAtMost 1 (some .boolean), Cond.code yX5_sinsAtMost cX5_sinsAtMost 1 (some .boolean), Cond.methodLink RX2 99 yX5_sinsAtMost, Cond.instanceMethod yX5_sinsAtMost, Cond.selects RX5 yX5_sinsAtMost yX5_sinsAtMost, Cond.selects RX6 ⟨"KneelingStones$Parish", "sinsAtMost", "()Z"⟩ yX5_sinsAtMost, Cond.selects RX7 ⟨"KneelingStones$Parish", "sinsAtMost", "()Z"⟩ yX5_sinsAtMost, Cond.methodLink RX2 109 ⟨"KneelingStones$Parish", "hidesOn", "()I"⟩]
def wsX2_walk_r4 : List Cond := [Cond.sameMethod "KneelingStones$Parish" "KneelingStones$Parish" "hidesOn" "()I", Cond.instanceMethod ⟨"KneelingStones$Parish", "hidesOn", "()I"⟩, Cond.selects RX0 ⟨"KneelingStones$Parish", "hidesOn", "()I"⟩ yX7_hidesOn, Cond.instanceMethod yX7_hidesOn, Cond.initialized RX7, Cond.code yX7_hidesOn cX7_hidesOn 1 (some .int), Cond.fieldLink RX7 9 "KneelingStones$Sly" "n" "I", Cond.sameField "KneelingStones$Sly" "KneelingStones$Parish" "n" "I", Cond.code yX5_hidesOn cX5_hidesOn 1 (some .int), Cond.methodLink RX2 109 yX5_hidesOn, Cond.instanceMethod yX5_hidesOn, Cond.selects RX5 yX5_hidesOn yX5_hidesOn, Cond.selects RX6 ⟨"KneelingStones$Parish", "hidesOn", "()I"⟩ yX5_hidesOn, Cond.selects RX7 ⟨"KneelingStones$Parish", "hidesOn", "()I"⟩ yX7_hidesOn, Cond.methodLink RX2 112 yX2_steal, Cond.instanceMethod yX2_steal, Cond.selects RX2 yX2_steal yX2_steal, Cond.code yX2_steal cX2_steal 4 none, Cond.methodLink RX2 115 yX2_takeOff, Cond.instanceMethod yX2_takeOff, Cond.selects RX2 yX2_takeOff yX2_takeOff, Cond.code yX2_takeOff cX2_takeOff 4 none, Cond.methodLink RX2 55 Lib.Math.min.name, Cond.static Lib.Math.min.name]
def wsX2_walk_r5 : List Cond := [Cond.initialized "java/lang/Math", Cond.code Lib.Math.min.name Lib.Math.min.code 2 (some .int), Cond.fieldLink RX2 37 "KneelingStones$Moor" "taken" "I", Cond.methodLink RX2 118 yX2_markAt, Cond.instanceMethod yX2_markAt, Cond.selects RX2 yX2_markAt yX2_markAt, Cond.code yX2_markAt cX2_markAt 4 (some .int)]
def wsX2_walk : List Cond := .code yX2_walk cX2_walk 5 none :: ((wsX2_walk_r1 ++ (wsX2_walk_r2 ++ (wsX2_walk_r3 ++ (wsX2_walk_r4 ++ wsX2_walk_r5)))) ++ wsX00 ++ wsX50 ++ wsX60 ++ wsX70 ++ wsX10 ++ wsX20)
def wsX2_flood : List Cond := .code yX2_flood cX2_flood 2 none :: ([.fieldLink RX2 9 "KneelingStones$Moor" "heights" "[I", .methodLink RX2 121 yX2_fewest, .instanceMethod yX2_fewest, .selects RX2 yX2_fewest yX2_fewest, .initialized RX2, .code yX2_fewest cX2_fewest 3 (some .int), .static yX9_isCairn, .initialized RX9, .code yX9_isCairn cX9_isCairn 1 (some .boolean), .methodLink RX2 115 yX2_takeOff, .instanceMethod yX2_takeOff, .selects RX2 yX2_takeOff yX2_takeOff, .code yX2_takeOff cX2_takeOff 4 none, .methodLink RX2 55 Lib.Math.min.name, .static Lib.Math.min.name, .initialized "java/lang/Math", .code Lib.Math.min.name Lib.Math.min.code 2 (some .int), .fieldLink RX2 37 "KneelingStones$Moor" "taken" "I"] ++ wsX20)
def wsX2_goOneWeek_r1 : List Cond := [Cond.fieldLink RX2 28 "KneelingStones$Moor" "week" "I", Cond.fieldLink RX2 60 "KneelingStones$Parish" "walkers" "I", Cond.methodLink RX2 65 yX2_walk, Cond.instanceMethod yX2_walk, Cond.selects RX2 yX2_walk yX2_walk, Cond.initialized RX2, Cond.code yX2_walk cX2_walk 5 none, Cond.fieldLink RX2 81 "KneelingStones$Parish" "wish" "I", Cond.fieldLink RX2 84 "KneelingStones$Custom" "wishRule" "I", Cond.fieldLink RX2 31 "KneelingStones$Moor" "last" "I", Cond.fieldLink RX2 96 "KneelingStones$Parish" "sin" "I", Cond.fieldLink RX2 106 "KneelingStones$Custom" "sinRule" "I", Cond.methodLink RX2 77 yX2_draw, Cond.instanceMethod yX2_draw, Cond.selects RX2 yX2_draw yX2_draw, Cond.code yX2_draw cX2_draw 1 (some .int), Cond.constantLong RX2 124 (1103515245), Cond.fieldLink RX2 18 "KneelingStones$Moor" "seed" "I", Cond.constantLong RX2 126 (12345), Cond.constantLong RX2 128 (2147483647), Cond.methodLink RX2 87 yX2_cairnBy, Cond.instanceMethod yX2_cairnBy, Cond.selects RX2 yX2_cairnBy yX2_cairnBy, Cond.code yX2_cairnBy cX2_cairnBy 3 (some .int)]
def wsX2_goOneWeek_r2 : List Cond := [Cond.methodLink RX2 103 yX2_most, Cond.instanceMethod yX2_most, Cond.selects RX2 yX2_most yX2_most, Cond.code yX2_most cX2_most 3 (some .int), Cond.fieldLink RX2 9 "KneelingStones$Moor" "heights" "[I", Cond.methodLink RX2 121 yX2_fewest, Cond.instanceMethod yX2_fewest, Cond.selects RX2 yX2_fewest yX2_fewest, Cond.code yX2_fewest cX2_fewest 3 (some .int), Cond.methodLink RX2 90 ⟨"KneelingStones$Parish", "gift", "()I"⟩, Cond.sameMethod "KneelingStones$Parish" "KneelingStones$Parish" "gift" "()I", Cond.selects RX0 ⟨"KneelingStones$Parish", "gift", "()I"⟩ yX5_gift, Cond.instanceMethod yX5_gift, Cond.initialized RX5, Cond.code yX5_gift cX5_gift 1 (some .int), Cond.methodLink RX2 90 yX5_gift, Cond.selects RX5 yX5_gift yX5_gift, Cond.instanceMethod ⟨"KneelingStones$Parish", "gift", "()I"⟩, Cond.selects RX6 ⟨"KneelingStones$Parish", "gift", "()I"⟩ yX6_gift, Cond.instanceMethod yX6_gift, Cond.initialized RX6, Cond.code yX6_gift cX6_gift 1 (some .int), Cond.fieldLink RX6 9 "KneelingStones$Pious" "n" "I", Cond.sameField "KneelingStones$Pious" "KneelingStones$Parish" "n" "I"]
def wsX2_goOneWeek_r3 : List Cond := [Cond.selects RX7 ⟨"KneelingStones$Parish", "gift", "()I"⟩ yX5_gift, Cond.methodLink RX2 93 yX2_layNew, Cond.instanceMethod yX2_layNew, Cond.selects RX2 yX2_layNew yX2_layNew, Cond.code yX2_layNew cX2_layNew 4 none, Cond.fieldLink RX2 34 "KneelingStones$Moor" "laid" "I", Cond.methodLink RX2 51 yX2_put, Cond.instanceMethod yX2_put, Cond.selects RX2 yX2_put yX2_put, Cond.code yX2_put cX2_put 4 none, Cond.fieldLink RX2 40 "KneelingStones$Moor" "spilt" "I", Cond.fieldLink RX2 15 "KneelingStones$Moor" "marks" "[I", Cond.static yX9_isCairn, Cond.initialized RX9, Cond.code yX9_isCairn cX9_isCairn 1 (some .boolean), Cond.methodLink RX2 99 ⟨"KneelingStones$Parish", "sinsAtMost", "()Z"⟩, Cond.sameMethod "KneelingStones$Parish" "KneelingStones$Parish" "sinsAtMost" "()Z", Cond.instanceMethod ⟨"KneelingStones$Parish", "sinsAtMost", "()Z"⟩, Cond.selects RX0 ⟨"KneelingStones$Parish", "sinsAtMost", "()Z"⟩ yX0_sinsAtMost, Cond.instanceMethod yX0_sinsAtMost, Cond.initialized RX0, Cond.code yX0_sinsAtMost cX0_sinsAtMost 1 (some .boolean), Cond.code yX5_sinsAtMost cX5_sinsAtMost 1 (some .boolean), Cond.methodLink RX2 99 yX5_sinsAtMost]
def wsX2_goOneWeek_r4 : List Cond := [Cond.instanceMethod yX5_sinsAtMost, Cond.selects RX5 yX5_sinsAtMost yX5_sinsAtMost, Cond.selects RX6 ⟨"KneelingStones$Parish", "sinsAtMost", "()Z"⟩ yX5_sinsAtMost, Cond.selects RX7 ⟨"KneelingStones$Parish", "sinsAtMost", "()Z"⟩ yX5_sinsAtMost, Cond.methodLink RX2 109 ⟨"KneelingStones$Parish", "hidesOn", "()I"⟩, Cond.sameMethod "KneelingStones$Parish" "KneelingStones$Parish" "hidesOn" "()I", Cond.instanceMethod ⟨"KneelingStones$Parish", "hidesOn", "()I"⟩, Cond.selects RX0 ⟨"KneelingStones$Parish", "hidesOn", "()I"⟩ yX7_hidesOn, Cond.instanceMethod yX7_hidesOn, Cond.initialized RX7, Cond.code yX7_hidesOn cX7_hidesOn 1 (some .int), Cond.fieldLink RX7 9 "KneelingStones$Sly" "n" "I", Cond.sameField "KneelingStones$Sly" "KneelingStones$Parish" "n" "I", Cond.code yX5_hidesOn cX5_hidesOn 1 (some .int), Cond.methodLink RX2 109 yX5_hidesOn, Cond.instanceMethod yX5_hidesOn, Cond.selects RX5 yX5_hidesOn yX5_hidesOn, Cond.selects RX6 ⟨"KneelingStones$Parish", "hidesOn", "()I"⟩ yX5_hidesOn, Cond.selects RX7 ⟨"KneelingStones$Parish", "hidesOn", "()I"⟩ yX7_hidesOn, Cond.methodLink RX2 112 yX2_steal, Cond.instanceMethod yX2_steal, Cond.selects RX2 yX2_steal yX2_steal, Cond.code yX2_steal cX2_steal 4 none, Cond.methodLink RX2 115 yX2_takeOff]
def wsX2_goOneWeek_r5 : List Cond := [Cond.instanceMethod yX2_takeOff, Cond.selects RX2 yX2_takeOff yX2_takeOff, Cond.code yX2_takeOff cX2_takeOff 4 none, Cond.methodLink RX2 55 Lib.Math.min.name, Cond.static Lib.Math.min.name, Cond.initialized "java/lang/Math", Cond.code Lib.Math.min.name Lib.Math.min.code 2 (some .int), Cond.fieldLink RX2 37 "KneelingStones$Moor" "taken" "I", Cond.methodLink RX2 118 yX2_markAt, Cond.instanceMethod yX2_markAt, Cond.selects RX2 yX2_markAt yX2_markAt, Cond.code yX2_markAt cX2_markAt 4 (some .int), Cond.methodLink RX2 69 yX1_floodsIn, Cond.instanceMethod yX1_floodsIn, Cond.selects RX1 yX1_floodsIn yX1_floodsIn, Cond.initialized RX1, Cond.code yX1_floodsIn cX1_floodsIn 2 (some .boolean), Cond.fieldLink RX1 16 "KneelingStones$Custom" "every" "I", Cond.methodLink RX2 74 yX2_flood, Cond.instanceMethod yX2_flood, Cond.selects RX2 yX2_flood yX2_flood, Cond.code yX2_flood cX2_flood 2 none]
def wsX2_goOneWeek : List Cond := .code yX2_goOneWeek cX2_goOneWeek 6 none :: ((wsX2_goOneWeek_r1 ++ (wsX2_goOneWeek_r2 ++ (wsX2_goOneWeek_r3 ++ (wsX2_goOneWeek_r4 ++ wsX2_goOneWeek_r5)))) ++ wsX20 ++ wsX00 ++ wsX50 ++ wsX60 ++ wsX70 ++ wsX10)
def wsX4_init : List Cond := .code yX4_init cX4_init 1 none :: ([.methodLink RX4 3 objectInit, .instanceMethod objectInit, .code objectInit ⟨#[0xb1]⟩ 1 none, .arrayClass .int, .fieldLink RX4 9 "KneelingStones$Page" "codes" "[I"] ++ wsX40)
def wsX4_codeAt : List Cond := .code yX4_codeAt cX4_codeAt 3 (some .int) :: ([.constantLong RX4 19 (255)])
def wsX4_lettersIn : List Cond := .code yX4_lettersIn cX4_lettersIn 5 (some .int) :: ([.methodLink RX4 15 yX4_codeAt, .static yX4_codeAt, .initialized RX4, .code yX4_codeAt cX4_codeAt 3 (some .int), .constantLong RX4 19 (255)])
def wsX4_write : List Cond := .code yX4_write cX4_write 5 none :: ([.fieldLink RX4 21 "KneelingStones$Page" "length" "I", .fieldLink RX4 9 "KneelingStones$Page" "codes" "[I", .methodLink RX4 15 yX4_codeAt, .static yX4_codeAt, .initialized RX4, .code yX4_codeAt cX4_codeAt 3 (some .int), .constantLong RX4 19 (255)] ++ wsX40)
def wsX4_codeOf : List Cond := .code yX4_codeOf cX4_codeOf 2 (some .int) :: ([.fieldLink RX4 9 "KneelingStones$Page" "codes" "[I"] ++ wsX40)
def wsX4_ruleOf : List Cond := .code yX4_ruleOf cX4_ruleOf 1 (some .int) :: ([])
def wsX4_fits : List Cond := .code yX4_fits cX4_fits 2 (some .boolean) :: ([.methodLink RX4 39 yX4_ruleOf, .static yX4_ruleOf, .initialized RX4, .code yX4_ruleOf cX4_ruleOf 1 (some .int)])
def wsX4_firstWrong : List Cond := .code yX4_firstWrong cX4_firstWrong 2 (some .int) :: ([.fieldLink RX4 21 "KneelingStones$Page" "length" "I", .methodLink RX4 25 yX4_codeOf, .instanceMethod yX4_codeOf, .selects RX4 yX4_codeOf yX4_codeOf, .initialized RX4, .code yX4_codeOf cX4_codeOf 2 (some .int), .fieldLink RX4 9 "KneelingStones$Page" "codes" "[I", .methodLink RX4 29 yX4_fits, .static yX4_fits, .code yX4_fits cX4_fits 2 (some .boolean), .methodLink RX4 39 yX4_ruleOf, .static yX4_ruleOf, .code yX4_ruleOf cX4_ruleOf 1 (some .int)] ++ wsX40)
def wsX4_isCustom : List Cond := .code yX4_isCustom cX4_isCustom 1 (some .boolean) :: ([.fieldLink RX4 21 "KneelingStones$Page" "length" "I", .methodLink RX4 33 yX4_firstWrong, .instanceMethod yX4_firstWrong, .selects RX4 yX4_firstWrong yX4_firstWrong, .initialized RX4, .code yX4_firstWrong cX4_firstWrong 2 (some .int), .methodLink RX4 25 yX4_codeOf, .instanceMethod yX4_codeOf, .selects RX4 yX4_codeOf yX4_codeOf, .code yX4_codeOf cX4_codeOf 2 (some .int), .fieldLink RX4 9 "KneelingStones$Page" "codes" "[I", .methodLink RX4 29 yX4_fits, .static yX4_fits, .code yX4_fits cX4_fits 2 (some .boolean), .methodLink RX4 39 yX4_ruleOf, .static yX4_ruleOf, .code yX4_ruleOf cX4_ruleOf 1 (some .int)] ++ wsX40)
def wsX4_asCustom : List Cond := .code yX4_asCustom cX4_asCustom 2 (some (.object "KneelingStones$Custom")) :: ([.fieldLink RX4 21 "KneelingStones$Page" "length" "I", .classLink RX4 37 RX1, .instantiable RX1 3, .initialized RX1, .methodLink RX4 25 yX4_codeOf, .instanceMethod yX4_codeOf, .selects RX4 yX4_codeOf yX4_codeOf, .initialized RX4, .code yX4_codeOf cX4_codeOf 2 (some .int), .fieldLink RX4 9 "KneelingStones$Page" "codes" "[I", .methodLink RX4 39 yX4_ruleOf, .static yX4_ruleOf, .code yX4_ruleOf cX4_ruleOf 1 (some .int), .methodLink RX4 42 yX1_init, .instanceMethod yX1_init, .code yX1_init cX1_init 4 none, .methodLink RX1 1 objectInit, .instanceMethod objectInit, .code objectInit ⟨#[0xb1]⟩ 1 none, .fieldLink RX1 7 "KneelingStones$Custom" "wishRule" "I", .fieldLink RX1 13 "KneelingStones$Custom" "sinRule" "I", .fieldLink RX1 16 "KneelingStones$Custom" "every" "I"] ++ wsX40 ++ wsX10)
def wsX6_init : List Cond := .code yX6_init cX6_init 2 none :: ([.methodLink RX6 3 yX5_init, .instanceMethod yX5_init, .initialized RX5, .code yX5_init cX5_init 2 none, .methodLink RX5 3 objectInit, .instanceMethod objectInit, .code objectInit ⟨#[0xb1]⟩ 1 none, .fieldLink RX5 9 "KneelingStones$Parish" "n" "I"] ++ wsX00 ++ wsX50 ++ wsX60 ++ wsX70)
def wsX8_init : List Cond := .code yX8_init cX8_init 1 none :: ([.methodLink RX8 3 objectInit, .instanceMethod objectInit, .code objectInit ⟨#[0xb1]⟩ 1 none, .arrayClass .int, .fieldLink RX8 11 "KneelingStones$Ways" "row" "[I", .fieldLink RX8 15 "KneelingStones$Ways" "next" "[I"] ++ wsX80)
def wsX9_init_r1 : List Cond := [Cond.methodLink RX9 3 objectInit, Cond.instanceMethod objectInit, Cond.code objectInit ⟨#[0xb1]⟩ 1 none, Cond.classLink RX9 9 RX4, Cond.instantiable RX4 2, Cond.initialized RX4, Cond.fieldLink RX9 12 "KneelingStones" "page" "LKneelingStones$Page;", Cond.classLink RX9 16 RX1, Cond.fieldLink RX9 18 "KneelingStones" "customs" "[LKneelingStones$Custom;", Cond.classLink RX9 22 RX5, Cond.fieldLink RX9 24 "KneelingStones" "parishes" "[LKneelingStones$Parish;", Cond.classLink RX9 28 RX2, Cond.instantiable RX2 8, Cond.initialized RX2, Cond.fieldLink RX9 31 "KneelingStones" "now" "LKneelingStones$Moor;", Cond.fieldLink RX9 35 "KneelingStones" "kept" "LKneelingStones$Moor;", Cond.fieldLink RX9 38 "KneelingStones" "dream" "LKneelingStones$Moor;", Cond.arrayClass .int, Cond.fieldLink RX9 41 "KneelingStones" "sizes" "[I", Cond.classLink RX9 45 RX8, Cond.instantiable RX8 2, Cond.initialized RX8, Cond.fieldLink RX9 48 "KneelingStones" "ways" "LKneelingStones$Ways;", Cond.instanceMethod yX4_init]
def wsX9_init_r2 : List Cond := [Cond.code yX4_init cX4_init 1 none, Cond.methodLink RX4 3 objectInit, Cond.fieldLink RX4 9 "KneelingStones$Page" "codes" "[I", Cond.instanceMethod yX2_init, Cond.code yX2_init cX2_init 1 none, Cond.methodLink RX2 3 objectInit, Cond.fieldLink RX2 9 "KneelingStones$Moor" "heights" "[I", Cond.fieldLink RX2 15 "KneelingStones$Moor" "marks" "[I", Cond.fieldLink RX2 18 "KneelingStones$Moor" "seed" "I", Cond.instanceMethod yX8_init, Cond.code yX8_init cX8_init 1 none, Cond.methodLink RX8 3 objectInit, Cond.fieldLink RX8 11 "KneelingStones$Ways" "row" "[I", Cond.fieldLink RX8 15 "KneelingStones$Ways" "next" "[I"]
def wsX9_init : List Cond := .code yX9_init cX9_init 1 none :: ((wsX9_init_r1 ++ wsX9_init_r2) ++ wsX40 ++ wsX90 ++ wsX20 ++ wsX80)
def wsX9_letters : List Cond := .code yX9_letters cX9_letters 4 (some .int) :: ([.fieldLink RX9 12 "KneelingStones" "page" "LKneelingStones$Page;", .fieldLink RX9 56 "KneelingStones$Page" "length" "I", .methodLink RX9 52 yX4_lettersIn, .static yX4_lettersIn, .initialized RX4, .code yX4_lettersIn cX4_lettersIn 5 (some .int), .methodLink RX4 15 yX4_codeAt, .static yX4_codeAt, .code yX4_codeAt cX4_codeAt 3 (some .int), .constantLong RX4 19 (255), .methodLink RX9 60 yX4_write, .instanceMethod yX4_write, .selects RX4 yX4_write yX4_write, .code yX4_write cX4_write 5 none, .fieldLink RX4 21 "KneelingStones$Page" "length" "I", .fieldLink RX4 9 "KneelingStones$Page" "codes" "[I"] ++ wsX90 ++ wsX40)
def wsX9_fault : List Cond := .code yX9_fault cX9_fault 1 (some .int) :: ([.fieldLink RX9 12 "KneelingStones" "page" "LKneelingStones$Page;", .methodLink RX9 64 yX4_firstWrong, .instanceMethod yX4_firstWrong, .selects RX4 yX4_firstWrong yX4_firstWrong, .initialized RX4, .code yX4_firstWrong cX4_firstWrong 2 (some .int), .fieldLink RX4 21 "KneelingStones$Page" "length" "I", .methodLink RX4 25 yX4_codeOf, .instanceMethod yX4_codeOf, .selects RX4 yX4_codeOf yX4_codeOf, .code yX4_codeOf cX4_codeOf 2 (some .int), .fieldLink RX4 9 "KneelingStones$Page" "codes" "[I", .methodLink RX4 29 yX4_fits, .static yX4_fits, .code yX4_fits cX4_fits 2 (some .boolean), .methodLink RX4 39 yX4_ruleOf, .static yX4_ruleOf, .code yX4_ruleOf cX4_ruleOf 1 (some .int)] ++ wsX90 ++ wsX40)
def wsX9_custom_r1 : List Cond := [Cond.fieldLink RX9 12 "KneelingStones" "page" "LKneelingStones$Page;", Cond.fieldLink RX9 72 "KneelingStones" "customCount" "I", Cond.fieldLink RX9 18 "KneelingStones" "customs" "[LKneelingStones$Custom;", Cond.fieldLink RX9 56 "KneelingStones$Page" "length" "I", Cond.methodLink RX9 68 yX4_isCustom, Cond.instanceMethod yX4_isCustom, Cond.selects RX4 yX4_isCustom yX4_isCustom, Cond.initialized RX4, Cond.code yX4_isCustom cX4_isCustom 1 (some .boolean), Cond.fieldLink RX4 21 "KneelingStones$Page" "length" "I", Cond.methodLink RX4 33 yX4_firstWrong, Cond.instanceMethod yX4_firstWrong, Cond.selects RX4 yX4_firstWrong yX4_firstWrong, Cond.code yX4_firstWrong cX4_firstWrong 2 (some .int), Cond.methodLink RX4 25 yX4_codeOf, Cond.instanceMethod yX4_codeOf, Cond.selects RX4 yX4_codeOf yX4_codeOf, Cond.code yX4_codeOf cX4_codeOf 2 (some .int), Cond.fieldLink RX4 9 "KneelingStones$Page" "codes" "[I", Cond.methodLink RX4 29 yX4_fits, Cond.static yX4_fits, Cond.code yX4_fits cX4_fits 2 (some .boolean), Cond.methodLink RX4 39 yX4_ruleOf, Cond.static yX4_ruleOf]
def wsX9_custom_r2 : List Cond := [Cond.code yX4_ruleOf cX4_ruleOf 1 (some .int), Cond.methodLink RX9 75 yX4_asCustom, Cond.instanceMethod yX4_asCustom, Cond.selects RX4 yX4_asCustom yX4_asCustom, Cond.code yX4_asCustom cX4_asCustom 2 (some (.object "KneelingStones$Custom")), Cond.classLink RX4 37 RX1, Cond.instantiable RX1 3, Cond.initialized RX1, Cond.methodLink RX4 42 yX1_init, Cond.instanceMethod yX1_init, Cond.code yX1_init cX1_init 4 none, Cond.methodLink RX1 1 objectInit, Cond.instanceMethod objectInit, Cond.code objectInit ⟨#[0xb1]⟩ 1 none, Cond.fieldLink RX1 7 "KneelingStones$Custom" "wishRule" "I", Cond.fieldLink RX1 13 "KneelingStones$Custom" "sinRule" "I", Cond.fieldLink RX1 16 "KneelingStones$Custom" "every" "I"]
def wsX9_custom : List Cond := .code yX9_custom cX9_custom 1 (some .int) :: ((wsX9_custom_r1 ++ wsX9_custom_r2) ++ wsX90 ++ wsX40 ++ wsX10)
def wsX9_customAt : List Cond := .code yX9_customAt cX9_customAt 2 (some (.object "KneelingStones$Custom")) :: ([.fieldLink RX9 18 "KneelingStones" "customs" "[LKneelingStones$Custom;"] ++ wsX90)
def wsX9_customTold : List Cond := .code yX9_customTold cX9_customTold 4 (some .int) :: ([.methodLink RX9 79 yX9_customAt, .instanceMethod yX9_customAt, .selects RX9 yX9_customAt yX9_customAt, .initialized RX9, .code yX9_customAt cX9_customAt 2 (some (.object "KneelingStones$Custom")), .fieldLink RX9 18 "KneelingStones" "customs" "[LKneelingStones$Custom;", .methodLink RX9 83 yX1_told, .instanceMethod yX1_told, .selects RX1 yX1_told yX1_told, .initialized RX1, .code yX1_told cX1_told 2 (some .int), .fieldLink RX1 7 "KneelingStones$Custom" "wishRule" "I", .fieldLink RX1 13 "KneelingStones$Custom" "sinRule" "I", .fieldLink RX1 16 "KneelingStones$Custom" "every" "I"] ++ wsX90 ++ wsX10)
def wsX9_isKindWith : List Cond := .code yX9_isKindWith cX9_isKindWith 2 (some .boolean) :: ([.methodLink RX9 119 yX9_isCairn, .static yX9_isCairn, .initialized RX9, .code yX9_isCairn cX9_isCairn 1 (some .boolean)])
def wsX9_mayBe : List Cond := .code yX9_mayBe cX9_mayBe 2 (some .boolean) :: ([])
def wsX9_madeOf_r1 : List Cond := [Cond.classLink RX9 254 RX6, Cond.instantiable RX6 4, Cond.initialized RX6, Cond.classLink RX9 259 RX7, Cond.instantiable RX7 4, Cond.initialized RX7, Cond.classLink RX9 262 RX0, Cond.instantiable RX0 4, Cond.initialized RX0, Cond.classLink RX9 22 RX5, Cond.instantiable RX5 4, Cond.initialized RX5, Cond.methodLink RX9 256 yX6_init, Cond.instanceMethod yX6_init, Cond.code yX6_init cX6_init 2 none, Cond.methodLink RX6 3 yX5_init, Cond.instanceMethod yX5_init, Cond.code yX5_init cX5_init 2 none, Cond.methodLink RX5 3 objectInit, Cond.instanceMethod objectInit, Cond.code objectInit ⟨#[0xb1]⟩ 1 none, Cond.fieldLink RX5 9 "KneelingStones$Parish" "n" "I", Cond.methodLink RX9 261 yX7_init, Cond.instanceMethod yX7_init]
def wsX9_madeOf_r2 : List Cond := [Cond.code yX7_init cX7_init 2 none, Cond.methodLink RX7 3 yX5_init, Cond.methodLink RX9 264 yX0_init, Cond.instanceMethod yX0_init, Cond.code yX0_init cX0_init 2 none, Cond.methodLink RX0 3 yX7_init, Cond.methodLink RX9 265 yX5_init]
def wsX9_madeOf : List Cond := .code yX9_madeOf cX9_madeOf 2 (some (.object "KneelingStones$Parish")) :: ((wsX9_madeOf_r1 ++ wsX9_madeOf_r2) ++ wsX60 ++ wsX70 ++ wsX00 ++ wsX50)
def wsX9_parish_r1 : List Cond := [Cond.fieldLink RX9 94 "KneelingStones" "parishCount" "I", Cond.fieldLink RX9 101 "KneelingStones$Parish" "walkers" "I", Cond.fieldLink RX9 104 "KneelingStones$Parish" "wish" "I", Cond.fieldLink RX9 107 "KneelingStones$Parish" "sin" "I", Cond.fieldLink RX9 24 "KneelingStones" "parishes" "[LKneelingStones$Parish;", Cond.methodLink RX9 87 yX9_isKindWith, Cond.static yX9_isKindWith, Cond.initialized RX9, Cond.code yX9_isKindWith cX9_isKindWith 2 (some .boolean), Cond.methodLink RX9 119 yX9_isCairn, Cond.static yX9_isCairn, Cond.code yX9_isCairn cX9_isCairn 1 (some .boolean), Cond.methodLink RX9 91 yX9_mayBe, Cond.static yX9_mayBe, Cond.code yX9_mayBe cX9_mayBe 2 (some .boolean), Cond.methodLink RX9 97 yX9_madeOf, Cond.static yX9_madeOf, Cond.code yX9_madeOf cX9_madeOf 2 (some (.object "KneelingStones$Parish")), Cond.classLink RX9 254 RX6, Cond.instantiable RX6 4, Cond.initialized RX6, Cond.classLink RX9 259 RX7, Cond.instantiable RX7 4, Cond.initialized RX7]
def wsX9_parish_r2 : List Cond := [Cond.classLink RX9 262 RX0, Cond.instantiable RX0 4, Cond.initialized RX0, Cond.classLink RX9 22 RX5, Cond.instantiable RX5 4, Cond.initialized RX5, Cond.methodLink RX9 256 yX6_init, Cond.instanceMethod yX6_init, Cond.code yX6_init cX6_init 2 none, Cond.methodLink RX6 3 yX5_init, Cond.instanceMethod yX5_init, Cond.code yX5_init cX5_init 2 none, Cond.methodLink RX5 3 objectInit, Cond.instanceMethod objectInit, Cond.code objectInit ⟨#[0xb1]⟩ 1 none, Cond.fieldLink RX5 9 "KneelingStones$Parish" "n" "I", Cond.methodLink RX9 261 yX7_init, Cond.instanceMethod yX7_init, Cond.code yX7_init cX7_init 2 none, Cond.methodLink RX7 3 yX5_init, Cond.methodLink RX9 264 yX0_init, Cond.instanceMethod yX0_init, Cond.code yX0_init cX0_init 2 none, Cond.methodLink RX0 3 yX7_init]
def wsX9_parish_r3 : List Cond := [Cond.methodLink RX9 265 yX5_init]
def wsX9_parish : List Cond := .code yX9_parish cX9_parish 7 (some .int) :: ((wsX9_parish_r1 ++ (wsX9_parish_r2 ++ wsX9_parish_r3)) ++ wsX90 ++ wsX00 ++ wsX50 ++ wsX60 ++ wsX70)
def wsX9_lay : List Cond := .code yX9_lay cX9_lay 3 (some .int) :: ([.fieldLink RX9 31 "KneelingStones" "now" "LKneelingStones$Moor;", .fieldLink RX9 127 "KneelingStones$Moor" "heights" "[I", .methodLink RX9 119 yX9_isCairn, .static yX9_isCairn, .initialized RX9, .code yX9_isCairn cX9_isCairn 1 (some .boolean), .methodLink RX9 123 yX2_layNew, .instanceMethod yX2_layNew, .selects RX2 yX2_layNew yX2_layNew, .initialized RX2, .code yX2_layNew cX2_layNew 4 none, .fieldLink RX2 28 "KneelingStones$Moor" "week" "I", .fieldLink RX2 34 "KneelingStones$Moor" "laid" "I", .methodLink RX2 51 yX2_put, .instanceMethod yX2_put, .selects RX2 yX2_put yX2_put, .code yX2_put cX2_put 4 none, .fieldLink RX2 9 "KneelingStones$Moor" "heights" "[I", .fieldLink RX2 40 "KneelingStones$Moor" "spilt" "I", .fieldLink RX2 15 "KneelingStones$Moor" "marks" "[I"] ++ wsX90 ++ wsX20)
def wsX9_take : List Cond := .code yX9_take cX9_take 3 (some .int) :: ([.fieldLink RX9 31 "KneelingStones" "now" "LKneelingStones$Moor;", .fieldLink RX9 127 "KneelingStones$Moor" "heights" "[I", .methodLink RX9 119 yX9_isCairn, .static yX9_isCairn, .initialized RX9, .code yX9_isCairn cX9_isCairn 1 (some .boolean), .methodLink RX9 130 yX2_takeOff, .instanceMethod yX2_takeOff, .selects RX2 yX2_takeOff yX2_takeOff, .initialized RX2, .code yX2_takeOff cX2_takeOff 4 none, .fieldLink RX2 9 "KneelingStones$Moor" "heights" "[I", .methodLink RX2 55 Lib.Math.min.name, .static Lib.Math.min.name, .initialized "java/lang/Math", .code Lib.Math.min.name Lib.Math.min.code 2 (some .int), .fieldLink RX2 37 "KneelingStones$Moor" "taken" "I"] ++ wsX90 ++ wsX20)
def wsX9_height : List Cond := .code yX9_height cX9_height 2 (some .int) :: ([.fieldLink RX9 31 "KneelingStones" "now" "LKneelingStones$Moor;", .fieldLink RX9 127 "KneelingStones$Moor" "heights" "[I", .methodLink RX9 119 yX9_isCairn, .static yX9_isCairn, .initialized RX9, .code yX9_isCairn cX9_isCairn 1 (some .boolean)] ++ wsX90 ++ wsX20)
def wsX9_mark : List Cond := .code yX9_mark cX9_mark 3 (some .int) :: ([.fieldLink RX9 31 "KneelingStones" "now" "LKneelingStones$Moor;", .methodLink RX9 119 yX9_isCairn, .static yX9_isCairn, .initialized RX9, .code yX9_isCairn cX9_isCairn 1 (some .boolean), .methodLink RX9 133 yX2_markAt, .instanceMethod yX2_markAt, .selects RX2 yX2_markAt yX2_markAt, .initialized RX2, .code yX2_markAt cX2_markAt 4 (some .int), .fieldLink RX2 9 "KneelingStones$Moor" "heights" "[I", .fieldLink RX2 15 "KneelingStones$Moor" "marks" "[I"] ++ wsX90 ++ wsX20)
def wsX9_dated : List Cond := .code yX9_dated cX9_dated 5 (some .int) :: ([.fieldLink RX9 31 "KneelingStones" "now" "LKneelingStones$Moor;", .fieldLink RX9 127 "KneelingStones$Moor" "heights" "[I", .methodLink RX9 119 yX9_isCairn, .static yX9_isCairn, .initialized RX9, .code yX9_isCairn cX9_isCairn 1 (some .boolean), .methodLink RX9 133 yX2_markAt, .instanceMethod yX2_markAt, .selects RX2 yX2_markAt yX2_markAt, .initialized RX2, .code yX2_markAt cX2_markAt 4 (some .int), .fieldLink RX2 9 "KneelingStones$Moor" "heights" "[I", .fieldLink RX2 15 "KneelingStones$Moor" "marks" "[I"] ++ wsX90 ++ wsX20)
def wsX9_seed : List Cond := .code yX9_seed cX9_seed 3 (some .int) :: ([.fieldLink RX9 31 "KneelingStones" "now" "LKneelingStones$Moor;", .fieldLink RX9 137 "KneelingStones$Moor" "seed" "I"] ++ wsX90 ++ wsX20)
def wsX9_weeks_r1 : List Cond := [Cond.fieldLink RX9 31 "KneelingStones" "now" "LKneelingStones$Moor;", Cond.fieldLink RX9 140 "KneelingStones$Moor" "week" "I", Cond.fieldLink RX9 24 "KneelingStones" "parishes" "[LKneelingStones$Parish;", Cond.methodLink RX9 79 yX9_customAt, Cond.instanceMethod yX9_customAt, Cond.selects RX9 yX9_customAt yX9_customAt, Cond.initialized RX9, Cond.code yX9_customAt cX9_customAt 2 (some (.object "KneelingStones$Custom")), Cond.fieldLink RX9 18 "KneelingStones" "customs" "[LKneelingStones$Custom;", Cond.methodLink RX9 143 yX2_goOneWeek, Cond.instanceMethod yX2_goOneWeek, Cond.selects RX2 yX2_goOneWeek yX2_goOneWeek, Cond.initialized RX2, Cond.code yX2_goOneWeek cX2_goOneWeek 6 none, Cond.fieldLink RX2 28 "KneelingStones$Moor" "week" "I", Cond.fieldLink RX2 60 "KneelingStones$Parish" "walkers" "I", Cond.methodLink RX2 65 yX2_walk, Cond.instanceMethod yX2_walk, Cond.selects RX2 yX2_walk yX2_walk, Cond.code yX2_walk cX2_walk 5 none, Cond.fieldLink RX2 81 "KneelingStones$Parish" "wish" "I", Cond.fieldLink RX2 84 "KneelingStones$Custom" "wishRule" "I", Cond.fieldLink RX2 31 "KneelingStones$Moor" "last" "I", Cond.fieldLink RX2 96 "KneelingStones$Parish" "sin" "I"]
def wsX9_weeks_r2 : List Cond := [Cond.fieldLink RX2 106 "KneelingStones$Custom" "sinRule" "I", Cond.methodLink RX2 77 yX2_draw, Cond.instanceMethod yX2_draw, Cond.selects RX2 yX2_draw yX2_draw, Cond.code yX2_draw cX2_draw 1 (some .int), Cond.constantLong RX2 124 (1103515245), Cond.fieldLink RX2 18 "KneelingStones$Moor" "seed" "I", Cond.constantLong RX2 126 (12345), Cond.constantLong RX2 128 (2147483647), Cond.methodLink RX2 87 yX2_cairnBy, Cond.instanceMethod yX2_cairnBy, Cond.selects RX2 yX2_cairnBy yX2_cairnBy, Cond.code yX2_cairnBy cX2_cairnBy 3 (some .int), Cond.methodLink RX2 103 yX2_most, Cond.instanceMethod yX2_most, Cond.selects RX2 yX2_most yX2_most, Cond.code yX2_most cX2_most 3 (some .int), Cond.fieldLink RX2 9 "KneelingStones$Moor" "heights" "[I", Cond.methodLink RX2 121 yX2_fewest, Cond.instanceMethod yX2_fewest, Cond.selects RX2 yX2_fewest yX2_fewest, Cond.code yX2_fewest cX2_fewest 3 (some .int), Cond.methodLink RX2 90 ⟨"KneelingStones$Parish", "gift", "()I"⟩, Cond.sameMethod "KneelingStones$Parish" "KneelingStones$Parish" "gift" "()I"]
def wsX9_weeks_r3 : List Cond := [Cond.selects RX0 ⟨"KneelingStones$Parish", "gift", "()I"⟩ yX5_gift, Cond.instanceMethod yX5_gift, Cond.initialized RX5, Cond.code yX5_gift cX5_gift 1 (some .int), Cond.methodLink RX2 90 yX5_gift, Cond.selects RX5 yX5_gift yX5_gift, Cond.instanceMethod ⟨"KneelingStones$Parish", "gift", "()I"⟩, Cond.selects RX6 ⟨"KneelingStones$Parish", "gift", "()I"⟩ yX6_gift, Cond.instanceMethod yX6_gift, Cond.initialized RX6, Cond.code yX6_gift cX6_gift 1 (some .int), Cond.fieldLink RX6 9 "KneelingStones$Pious" "n" "I", Cond.sameField "KneelingStones$Pious" "KneelingStones$Parish" "n" "I", Cond.selects RX7 ⟨"KneelingStones$Parish", "gift", "()I"⟩ yX5_gift, Cond.methodLink RX2 93 yX2_layNew, Cond.instanceMethod yX2_layNew, Cond.selects RX2 yX2_layNew yX2_layNew, Cond.code yX2_layNew cX2_layNew 4 none, Cond.fieldLink RX2 34 "KneelingStones$Moor" "laid" "I", Cond.methodLink RX2 51 yX2_put, Cond.instanceMethod yX2_put, Cond.selects RX2 yX2_put yX2_put, Cond.code yX2_put cX2_put 4 none, Cond.fieldLink RX2 40 "KneelingStones$Moor" "spilt" "I"]
def wsX9_weeks_r4 : List Cond := [Cond.fieldLink RX2 15 "KneelingStones$Moor" "marks" "[I", Cond.static yX9_isCairn, Cond.code yX9_isCairn cX9_isCairn 1 (some .boolean), Cond.methodLink RX2 99 ⟨"KneelingStones$Parish", "sinsAtMost", "()Z"⟩, Cond.sameMethod "KneelingStones$Parish" "KneelingStones$Parish" "sinsAtMost" "()Z", Cond.instanceMethod ⟨"KneelingStones$Parish", "sinsAtMost", "()Z"⟩, Cond.selects RX0 ⟨"KneelingStones$Parish", "sinsAtMost", "()Z"⟩ yX0_sinsAtMost, Cond.instanceMethod yX0_sinsAtMost, Cond.initialized RX0, Cond.code yX0_sinsAtMost cX0_sinsAtMost 1 (some .boolean), Cond.code yX5_sinsAtMost cX5_sinsAtMost 1 (some .boolean), Cond.methodLink RX2 99 yX5_sinsAtMost, Cond.instanceMethod yX5_sinsAtMost, Cond.selects RX5 yX5_sinsAtMost yX5_sinsAtMost, Cond.selects RX6 ⟨"KneelingStones$Parish", "sinsAtMost", "()Z"⟩ yX5_sinsAtMost, Cond.selects RX7 ⟨"KneelingStones$Parish", "sinsAtMost", "()Z"⟩ yX5_sinsAtMost, Cond.methodLink RX2 109 ⟨"KneelingStones$Parish", "hidesOn", "()I"⟩, Cond.sameMethod "KneelingStones$Parish" "KneelingStones$Parish" "hidesOn" "()I", Cond.instanceMethod ⟨"KneelingStones$Parish", "hidesOn", "()I"⟩, Cond.selects RX0 ⟨"KneelingStones$Parish", "hidesOn", "()I"⟩ yX7_hidesOn, Cond.instanceMethod yX7_hidesOn, Cond.initialized RX7, Cond.code yX7_hidesOn cX7_hidesOn 1 (some .int), Cond.fieldLink RX7 9 "KneelingStones$Sly" "n" "I"]
def wsX9_weeks_r5 : List Cond := [Cond.sameField "KneelingStones$Sly" "KneelingStones$Parish" "n" "I", Cond.code yX5_hidesOn cX5_hidesOn 1 (some .int), Cond.methodLink RX2 109 yX5_hidesOn, Cond.instanceMethod yX5_hidesOn, Cond.selects RX5 yX5_hidesOn yX5_hidesOn, Cond.selects RX6 ⟨"KneelingStones$Parish", "hidesOn", "()I"⟩ yX5_hidesOn, Cond.selects RX7 ⟨"KneelingStones$Parish", "hidesOn", "()I"⟩ yX7_hidesOn, Cond.methodLink RX2 112 yX2_steal, Cond.instanceMethod yX2_steal, Cond.selects RX2 yX2_steal yX2_steal, Cond.code yX2_steal cX2_steal 4 none, Cond.methodLink RX2 115 yX2_takeOff, Cond.instanceMethod yX2_takeOff, Cond.selects RX2 yX2_takeOff yX2_takeOff, Cond.code yX2_takeOff cX2_takeOff 4 none, Cond.methodLink RX2 55 Lib.Math.min.name, Cond.static Lib.Math.min.name, Cond.initialized "java/lang/Math", Cond.code Lib.Math.min.name Lib.Math.min.code 2 (some .int), Cond.fieldLink RX2 37 "KneelingStones$Moor" "taken" "I", Cond.methodLink RX2 118 yX2_markAt, Cond.instanceMethod yX2_markAt, Cond.selects RX2 yX2_markAt yX2_markAt, Cond.code yX2_markAt cX2_markAt 4 (some .int)]
def wsX9_weeks_r6 : List Cond := [Cond.methodLink RX2 69 yX1_floodsIn, Cond.instanceMethod yX1_floodsIn, Cond.selects RX1 yX1_floodsIn yX1_floodsIn, Cond.initialized RX1, Cond.code yX1_floodsIn cX1_floodsIn 2 (some .boolean), Cond.fieldLink RX1 16 "KneelingStones$Custom" "every" "I", Cond.methodLink RX2 74 yX2_flood, Cond.instanceMethod yX2_flood, Cond.selects RX2 yX2_flood yX2_flood, Cond.code yX2_flood cX2_flood 2 none, Cond.methodLink RX9 147 yX2_pebbles, Cond.instanceMethod yX2_pebbles, Cond.selects RX2 yX2_pebbles yX2_pebbles, Cond.code yX2_pebbles cX2_pebbles 3 (some .int)]
def wsX9_weeks : List Cond := .code yX9_weeks cX9_weeks 5 (some .int) :: ((wsX9_weeks_r1 ++ (wsX9_weeks_r2 ++ (wsX9_weeks_r3 ++ (wsX9_weeks_r4 ++ (wsX9_weeks_r5 ++ wsX9_weeks_r6))))) ++ wsX90 ++ wsX20 ++ wsX00 ++ wsX50 ++ wsX60 ++ wsX70 ++ wsX10)
def wsX9_dreamOf_r1 : List Cond := [Cond.fieldLink RX9 38 "KneelingStones" "dream" "LKneelingStones$Moor;", Cond.fieldLink RX9 31 "KneelingStones" "now" "LKneelingStones$Moor;", Cond.fieldLink RX9 24 "KneelingStones" "parishes" "[LKneelingStones$Parish;", Cond.methodLink RX9 196 yX2_become, Cond.instanceMethod yX2_become, Cond.selects RX2 yX2_become yX2_become, Cond.initialized RX2, Cond.code yX2_become cX2_become 2 none, Cond.fieldLink RX2 9 "KneelingStones$Moor" "heights" "[I", Cond.methodLink RX2 22 arraycopyName, Cond.native arraycopyName, Cond.static arraycopyName, Cond.initialized "java/lang/System", Cond.fieldLink RX2 15 "KneelingStones$Moor" "marks" "[I", Cond.fieldLink RX2 28 "KneelingStones$Moor" "week" "I", Cond.fieldLink RX2 31 "KneelingStones$Moor" "last" "I", Cond.fieldLink RX2 18 "KneelingStones$Moor" "seed" "I", Cond.fieldLink RX2 34 "KneelingStones$Moor" "laid" "I", Cond.fieldLink RX2 37 "KneelingStones$Moor" "taken" "I", Cond.fieldLink RX2 40 "KneelingStones$Moor" "spilt" "I", Cond.methodLink RX9 143 yX2_goOneWeek, Cond.instanceMethod yX2_goOneWeek, Cond.selects RX2 yX2_goOneWeek yX2_goOneWeek, Cond.code yX2_goOneWeek cX2_goOneWeek 6 none]
def wsX9_dreamOf_r2 : List Cond := [Cond.fieldLink RX2 60 "KneelingStones$Parish" "walkers" "I", Cond.methodLink RX2 65 yX2_walk, Cond.instanceMethod yX2_walk, Cond.selects RX2 yX2_walk yX2_walk, Cond.code yX2_walk cX2_walk 5 none, Cond.fieldLink RX2 81 "KneelingStones$Parish" "wish" "I", Cond.fieldLink RX2 84 "KneelingStones$Custom" "wishRule" "I", Cond.fieldLink RX2 96 "KneelingStones$Parish" "sin" "I", Cond.fieldLink RX2 106 "KneelingStones$Custom" "sinRule" "I", Cond.methodLink RX2 77 yX2_draw, Cond.instanceMethod yX2_draw, Cond.selects RX2 yX2_draw yX2_draw, Cond.code yX2_draw cX2_draw 1 (some .int), Cond.constantLong RX2 124 (1103515245), Cond.constantLong RX2 126 (12345), Cond.constantLong RX2 128 (2147483647), Cond.methodLink RX2 87 yX2_cairnBy, Cond.instanceMethod yX2_cairnBy, Cond.selects RX2 yX2_cairnBy yX2_cairnBy, Cond.code yX2_cairnBy cX2_cairnBy 3 (some .int), Cond.methodLink RX2 103 yX2_most, Cond.instanceMethod yX2_most, Cond.selects RX2 yX2_most yX2_most, Cond.code yX2_most cX2_most 3 (some .int)]
def wsX9_dreamOf_r3 : List Cond := [Cond.methodLink RX2 121 yX2_fewest, Cond.instanceMethod yX2_fewest, Cond.selects RX2 yX2_fewest yX2_fewest, Cond.code yX2_fewest cX2_fewest 3 (some .int), Cond.methodLink RX2 90 ⟨"KneelingStones$Parish", "gift", "()I"⟩, Cond.sameMethod "KneelingStones$Parish" "KneelingStones$Parish" "gift" "()I", Cond.selects RX0 ⟨"KneelingStones$Parish", "gift", "()I"⟩ yX5_gift, Cond.instanceMethod yX5_gift, Cond.initialized RX5, Cond.code yX5_gift cX5_gift 1 (some .int), Cond.methodLink RX2 90 yX5_gift, Cond.selects RX5 yX5_gift yX5_gift, Cond.instanceMethod ⟨"KneelingStones$Parish", "gift", "()I"⟩, Cond.selects RX6 ⟨"KneelingStones$Parish", "gift", "()I"⟩ yX6_gift, Cond.instanceMethod yX6_gift, Cond.initialized RX6, Cond.code yX6_gift cX6_gift 1 (some .int), Cond.fieldLink RX6 9 "KneelingStones$Pious" "n" "I", Cond.sameField "KneelingStones$Pious" "KneelingStones$Parish" "n" "I", Cond.selects RX7 ⟨"KneelingStones$Parish", "gift", "()I"⟩ yX5_gift, Cond.methodLink RX2 93 yX2_layNew, Cond.instanceMethod yX2_layNew, Cond.selects RX2 yX2_layNew yX2_layNew, Cond.code yX2_layNew cX2_layNew 4 none]
def wsX9_dreamOf_r4 : List Cond := [Cond.methodLink RX2 51 yX2_put, Cond.instanceMethod yX2_put, Cond.selects RX2 yX2_put yX2_put, Cond.code yX2_put cX2_put 4 none, Cond.static yX9_isCairn, Cond.initialized RX9, Cond.code yX9_isCairn cX9_isCairn 1 (some .boolean), Cond.methodLink RX2 99 ⟨"KneelingStones$Parish", "sinsAtMost", "()Z"⟩, Cond.sameMethod "KneelingStones$Parish" "KneelingStones$Parish" "sinsAtMost" "()Z", Cond.instanceMethod ⟨"KneelingStones$Parish", "sinsAtMost", "()Z"⟩, Cond.selects RX0 ⟨"KneelingStones$Parish", "sinsAtMost", "()Z"⟩ yX0_sinsAtMost, Cond.instanceMethod yX0_sinsAtMost, Cond.initialized RX0, Cond.code yX0_sinsAtMost cX0_sinsAtMost 1 (some .boolean), Cond.code yX5_sinsAtMost cX5_sinsAtMost 1 (some .boolean), Cond.methodLink RX2 99 yX5_sinsAtMost, Cond.instanceMethod yX5_sinsAtMost, Cond.selects RX5 yX5_sinsAtMost yX5_sinsAtMost, Cond.selects RX6 ⟨"KneelingStones$Parish", "sinsAtMost", "()Z"⟩ yX5_sinsAtMost, Cond.selects RX7 ⟨"KneelingStones$Parish", "sinsAtMost", "()Z"⟩ yX5_sinsAtMost, Cond.methodLink RX2 109 ⟨"KneelingStones$Parish", "hidesOn", "()I"⟩, Cond.sameMethod "KneelingStones$Parish" "KneelingStones$Parish" "hidesOn" "()I", Cond.instanceMethod ⟨"KneelingStones$Parish", "hidesOn", "()I"⟩, Cond.selects RX0 ⟨"KneelingStones$Parish", "hidesOn", "()I"⟩ yX7_hidesOn]
def wsX9_dreamOf_r5 : List Cond := [Cond.instanceMethod yX7_hidesOn, Cond.initialized RX7, Cond.code yX7_hidesOn cX7_hidesOn 1 (some .int), Cond.fieldLink RX7 9 "KneelingStones$Sly" "n" "I", Cond.sameField "KneelingStones$Sly" "KneelingStones$Parish" "n" "I", Cond.code yX5_hidesOn cX5_hidesOn 1 (some .int), Cond.methodLink RX2 109 yX5_hidesOn, Cond.instanceMethod yX5_hidesOn, Cond.selects RX5 yX5_hidesOn yX5_hidesOn, Cond.selects RX6 ⟨"KneelingStones$Parish", "hidesOn", "()I"⟩ yX5_hidesOn, Cond.selects RX7 ⟨"KneelingStones$Parish", "hidesOn", "()I"⟩ yX7_hidesOn, Cond.methodLink RX2 112 yX2_steal, Cond.instanceMethod yX2_steal, Cond.selects RX2 yX2_steal yX2_steal, Cond.code yX2_steal cX2_steal 4 none, Cond.methodLink RX2 115 yX2_takeOff, Cond.instanceMethod yX2_takeOff, Cond.selects RX2 yX2_takeOff yX2_takeOff, Cond.code yX2_takeOff cX2_takeOff 4 none, Cond.methodLink RX2 55 Lib.Math.min.name, Cond.static Lib.Math.min.name, Cond.initialized "java/lang/Math", Cond.code Lib.Math.min.name Lib.Math.min.code 2 (some .int), Cond.methodLink RX2 118 yX2_markAt]
def wsX9_dreamOf_r6 : List Cond := [Cond.instanceMethod yX2_markAt, Cond.selects RX2 yX2_markAt yX2_markAt, Cond.code yX2_markAt cX2_markAt 4 (some .int), Cond.methodLink RX2 69 yX1_floodsIn, Cond.instanceMethod yX1_floodsIn, Cond.selects RX1 yX1_floodsIn yX1_floodsIn, Cond.initialized RX1, Cond.code yX1_floodsIn cX1_floodsIn 2 (some .boolean), Cond.fieldLink RX1 16 "KneelingStones$Custom" "every" "I", Cond.methodLink RX2 74 yX2_flood, Cond.instanceMethod yX2_flood, Cond.selects RX2 yX2_flood yX2_flood, Cond.code yX2_flood cX2_flood 2 none]
def wsX9_dreamOf : List Cond := .code yX9_dreamOf cX9_dreamOf 4 none :: ((wsX9_dreamOf_r1 ++ (wsX9_dreamOf_r2 ++ (wsX9_dreamOf_r3 ++ (wsX9_dreamOf_r4 ++ (wsX9_dreamOf_r5 ++ wsX9_dreamOf_r6))))) ++ wsX90 ++ wsX20 ++ wsX00 ++ wsX50 ++ wsX60 ++ wsX70 ++ wsX10)
def wsX9_would_r1 : List Cond := [Cond.fieldLink RX9 38 "KneelingStones" "dream" "LKneelingStones$Moor;", Cond.fieldLink RX9 127 "KneelingStones$Moor" "heights" "[I", Cond.methodLink RX9 79 yX9_customAt, Cond.instanceMethod yX9_customAt, Cond.selects RX9 yX9_customAt yX9_customAt, Cond.initialized RX9, Cond.code yX9_customAt cX9_customAt 2 (some (.object "KneelingStones$Custom")), Cond.fieldLink RX9 18 "KneelingStones" "customs" "[LKneelingStones$Custom;", Cond.methodLink RX9 119 yX9_isCairn, Cond.static yX9_isCairn, Cond.code yX9_isCairn cX9_isCairn 1 (some .boolean), Cond.methodLink RX9 150 yX9_dreamOf, Cond.instanceMethod yX9_dreamOf, Cond.selects RX9 yX9_dreamOf yX9_dreamOf, Cond.code yX9_dreamOf cX9_dreamOf 4 none, Cond.fieldLink RX9 31 "KneelingStones" "now" "LKneelingStones$Moor;", Cond.fieldLink RX9 24 "KneelingStones" "parishes" "[LKneelingStones$Parish;", Cond.methodLink RX9 196 yX2_become, Cond.instanceMethod yX2_become, Cond.selects RX2 yX2_become yX2_become, Cond.initialized RX2, Cond.code yX2_become cX2_become 2 none, Cond.fieldLink RX2 9 "KneelingStones$Moor" "heights" "[I", Cond.methodLink RX2 22 arraycopyName]
def wsX9_would_r2 : List Cond := [Cond.native arraycopyName, Cond.static arraycopyName, Cond.initialized "java/lang/System", Cond.fieldLink RX2 15 "KneelingStones$Moor" "marks" "[I", Cond.fieldLink RX2 28 "KneelingStones$Moor" "week" "I", Cond.fieldLink RX2 31 "KneelingStones$Moor" "last" "I", Cond.fieldLink RX2 18 "KneelingStones$Moor" "seed" "I", Cond.fieldLink RX2 34 "KneelingStones$Moor" "laid" "I", Cond.fieldLink RX2 37 "KneelingStones$Moor" "taken" "I", Cond.fieldLink RX2 40 "KneelingStones$Moor" "spilt" "I", Cond.methodLink RX9 143 yX2_goOneWeek, Cond.instanceMethod yX2_goOneWeek, Cond.selects RX2 yX2_goOneWeek yX2_goOneWeek, Cond.code yX2_goOneWeek cX2_goOneWeek 6 none, Cond.fieldLink RX2 60 "KneelingStones$Parish" "walkers" "I", Cond.methodLink RX2 65 yX2_walk, Cond.instanceMethod yX2_walk, Cond.selects RX2 yX2_walk yX2_walk, Cond.code yX2_walk cX2_walk 5 none, Cond.fieldLink RX2 81 "KneelingStones$Parish" "wish" "I", Cond.fieldLink RX2 84 "KneelingStones$Custom" "wishRule" "I", Cond.fieldLink RX2 96 "KneelingStones$Parish" "sin" "I", Cond.fieldLink RX2 106 "KneelingStones$Custom" "sinRule" "I", Cond.methodLink RX2 77 yX2_draw]
def wsX9_would_r3 : List Cond := [Cond.instanceMethod yX2_draw, Cond.selects RX2 yX2_draw yX2_draw, Cond.code yX2_draw cX2_draw 1 (some .int), Cond.constantLong RX2 124 (1103515245), Cond.constantLong RX2 126 (12345), Cond.constantLong RX2 128 (2147483647), Cond.methodLink RX2 87 yX2_cairnBy, Cond.instanceMethod yX2_cairnBy, Cond.selects RX2 yX2_cairnBy yX2_cairnBy, Cond.code yX2_cairnBy cX2_cairnBy 3 (some .int), Cond.methodLink RX2 103 yX2_most, Cond.instanceMethod yX2_most, Cond.selects RX2 yX2_most yX2_most, Cond.code yX2_most cX2_most 3 (some .int), Cond.methodLink RX2 121 yX2_fewest, Cond.instanceMethod yX2_fewest, Cond.selects RX2 yX2_fewest yX2_fewest, Cond.code yX2_fewest cX2_fewest 3 (some .int), Cond.methodLink RX2 90 ⟨"KneelingStones$Parish", "gift", "()I"⟩, Cond.sameMethod "KneelingStones$Parish" "KneelingStones$Parish" "gift" "()I", Cond.selects RX0 ⟨"KneelingStones$Parish", "gift", "()I"⟩ yX5_gift, Cond.instanceMethod yX5_gift, Cond.initialized RX5, Cond.code yX5_gift cX5_gift 1 (some .int)]
def wsX9_would_r4 : List Cond := [Cond.methodLink RX2 90 yX5_gift, Cond.selects RX5 yX5_gift yX5_gift, Cond.instanceMethod ⟨"KneelingStones$Parish", "gift", "()I"⟩, Cond.selects RX6 ⟨"KneelingStones$Parish", "gift", "()I"⟩ yX6_gift, Cond.instanceMethod yX6_gift, Cond.initialized RX6, Cond.code yX6_gift cX6_gift 1 (some .int), Cond.fieldLink RX6 9 "KneelingStones$Pious" "n" "I", Cond.sameField "KneelingStones$Pious" "KneelingStones$Parish" "n" "I", Cond.selects RX7 ⟨"KneelingStones$Parish", "gift", "()I"⟩ yX5_gift, Cond.methodLink RX2 93 yX2_layNew, Cond.instanceMethod yX2_layNew, Cond.selects RX2 yX2_layNew yX2_layNew, Cond.code yX2_layNew cX2_layNew 4 none, Cond.methodLink RX2 51 yX2_put, Cond.instanceMethod yX2_put, Cond.selects RX2 yX2_put yX2_put, Cond.code yX2_put cX2_put 4 none, Cond.methodLink RX2 99 ⟨"KneelingStones$Parish", "sinsAtMost", "()Z"⟩, Cond.sameMethod "KneelingStones$Parish" "KneelingStones$Parish" "sinsAtMost" "()Z", Cond.instanceMethod ⟨"KneelingStones$Parish", "sinsAtMost", "()Z"⟩, Cond.selects RX0 ⟨"KneelingStones$Parish", "sinsAtMost", "()Z"⟩ yX0_sinsAtMost, Cond.instanceMethod yX0_sinsAtMost, Cond.initialized RX0]
def wsX9_would_r5 : List Cond := [Cond.code yX0_sinsAtMost cX0_sinsAtMost 1 (some .boolean), Cond.code yX5_sinsAtMost cX5_sinsAtMost 1 (some .boolean), Cond.methodLink RX2 99 yX5_sinsAtMost, Cond.instanceMethod yX5_sinsAtMost, Cond.selects RX5 yX5_sinsAtMost yX5_sinsAtMost, Cond.selects RX6 ⟨"KneelingStones$Parish", "sinsAtMost", "()Z"⟩ yX5_sinsAtMost, Cond.selects RX7 ⟨"KneelingStones$Parish", "sinsAtMost", "()Z"⟩ yX5_sinsAtMost, Cond.methodLink RX2 109 ⟨"KneelingStones$Parish", "hidesOn", "()I"⟩, Cond.sameMethod "KneelingStones$Parish" "KneelingStones$Parish" "hidesOn" "()I", Cond.instanceMethod ⟨"KneelingStones$Parish", "hidesOn", "()I"⟩, Cond.selects RX0 ⟨"KneelingStones$Parish", "hidesOn", "()I"⟩ yX7_hidesOn, Cond.instanceMethod yX7_hidesOn, Cond.initialized RX7, Cond.code yX7_hidesOn cX7_hidesOn 1 (some .int), Cond.fieldLink RX7 9 "KneelingStones$Sly" "n" "I", Cond.sameField "KneelingStones$Sly" "KneelingStones$Parish" "n" "I", Cond.code yX5_hidesOn cX5_hidesOn 1 (some .int), Cond.methodLink RX2 109 yX5_hidesOn, Cond.instanceMethod yX5_hidesOn, Cond.selects RX5 yX5_hidesOn yX5_hidesOn, Cond.selects RX6 ⟨"KneelingStones$Parish", "hidesOn", "()I"⟩ yX5_hidesOn, Cond.selects RX7 ⟨"KneelingStones$Parish", "hidesOn", "()I"⟩ yX7_hidesOn, Cond.methodLink RX2 112 yX2_steal, Cond.instanceMethod yX2_steal]
def wsX9_would_r6 : List Cond := [Cond.selects RX2 yX2_steal yX2_steal, Cond.code yX2_steal cX2_steal 4 none, Cond.methodLink RX2 115 yX2_takeOff, Cond.instanceMethod yX2_takeOff, Cond.selects RX2 yX2_takeOff yX2_takeOff, Cond.code yX2_takeOff cX2_takeOff 4 none, Cond.methodLink RX2 55 Lib.Math.min.name, Cond.static Lib.Math.min.name, Cond.initialized "java/lang/Math", Cond.code Lib.Math.min.name Lib.Math.min.code 2 (some .int), Cond.methodLink RX2 118 yX2_markAt, Cond.instanceMethod yX2_markAt, Cond.selects RX2 yX2_markAt yX2_markAt, Cond.code yX2_markAt cX2_markAt 4 (some .int), Cond.methodLink RX2 69 yX1_floodsIn, Cond.instanceMethod yX1_floodsIn, Cond.selects RX1 yX1_floodsIn yX1_floodsIn, Cond.initialized RX1, Cond.code yX1_floodsIn cX1_floodsIn 2 (some .boolean), Cond.fieldLink RX1 16 "KneelingStones$Custom" "every" "I", Cond.methodLink RX2 74 yX2_flood, Cond.instanceMethod yX2_flood, Cond.selects RX2 yX2_flood yX2_flood, Cond.code yX2_flood cX2_flood 2 none]
def wsX9_would : List Cond := .code yX9_would cX9_would 5 (some .int) :: ((wsX9_would_r1 ++ (wsX9_would_r2 ++ (wsX9_would_r3 ++ (wsX9_would_r4 ++ (wsX9_would_r5 ++ wsX9_would_r6))))) ++ wsX90 ++ wsX20 ++ wsX00 ++ wsX50 ++ wsX60 ++ wsX70 ++ wsX10)
def wsX9_count : List Cond := .code yX9_count cX9_count 2 (some .int) :: ([.fieldLink RX9 94 "KneelingStones" "parishCount" "I", .fieldLink RX9 72 "KneelingStones" "customCount" "I", .fieldLink RX9 31 "KneelingStones" "now" "LKneelingStones$Moor;", .fieldLink RX9 140 "KneelingStones$Moor" "week" "I", .fieldLink RX9 137 "KneelingStones$Moor" "seed" "I", .fieldLink RX9 219 "KneelingStones$Moor" "last" "I", .fieldLink RX9 222 "KneelingStones$Moor" "laid" "I", .fieldLink RX9 225 "KneelingStones$Moor" "taken" "I", .fieldLink RX9 228 "KneelingStones$Moor" "spilt" "I", .fieldLink RX9 12 "KneelingStones" "page" "LKneelingStones$Page;", .fieldLink RX9 56 "KneelingStones$Page" "length" "I", .methodLink RX9 147 yX2_pebbles, .instanceMethod yX2_pebbles, .selects RX2 yX2_pebbles yX2_pebbles, .initialized RX2, .code yX2_pebbles cX2_pebbles 3 (some .int), .fieldLink RX2 9 "KneelingStones$Moor" "heights" "[I"] ++ wsX90 ++ wsX20 ++ wsX40)
def wsJ9_min_7cf53 : List Cond := .code yJ9_min_7cf53 cJ9_min_7cf53 2 (some .int) :: ([])
def wsL_cell : List Cond := .code yL_cell cL_cell 2 (some .int) :: ([.constant RL 7 (2147483647)])
def wsL_put : List Cond := .code yL_put cL_put 2 (some .boolean) :: ([.methodLink RL 8 yX9_letters, .instanceMethod yX9_letters, .selects RX9 yX9_letters yX9_letters, .initialized RX9, .code yX9_letters cX9_letters 4 (some .int), .fieldLink RX9 12 "KneelingStones" "page" "LKneelingStones$Page;", .fieldLink RX9 56 "KneelingStones$Page" "length" "I", .methodLink RX9 52 yX4_lettersIn, .static yX4_lettersIn, .initialized RX4, .code yX4_lettersIn cX4_lettersIn 5 (some .int), .methodLink RX4 15 yX4_codeAt, .static yX4_codeAt, .code yX4_codeAt cX4_codeAt 3 (some .int), .constantLong RX4 19 (255), .methodLink RX9 60 yX4_write, .instanceMethod yX4_write, .selects RX4 yX4_write yX4_write, .code yX4_write cX4_write 5 none, .fieldLink RX4 21 "KneelingStones$Page" "length" "I", .fieldLink RX4 9 "KneelingStones$Page" "codes" "[I"] ++ wsX90 ++ wsX40)
def wsL_letter : List Cond := .code yL_letter cL_letter 1 (some .int) :: ([])
def wsL_custom_r1 : List Cond := [Cond.methodLink RL 14 yL_put, Cond.static yL_put, Cond.initialized RL, Cond.code yL_put cL_put 2 (some .boolean), Cond.methodLink RL 8 yX9_letters, Cond.instanceMethod yX9_letters, Cond.selects RX9 yX9_letters yX9_letters, Cond.initialized RX9, Cond.code yX9_letters cX9_letters 4 (some .int), Cond.fieldLink RX9 12 "KneelingStones" "page" "LKneelingStones$Page;", Cond.fieldLink RX9 56 "KneelingStones$Page" "length" "I", Cond.methodLink RX9 52 yX4_lettersIn, Cond.static yX4_lettersIn, Cond.initialized RX4, Cond.code yX4_lettersIn cX4_lettersIn 5 (some .int), Cond.methodLink RX4 15 yX4_codeAt, Cond.static yX4_codeAt, Cond.code yX4_codeAt cX4_codeAt 3 (some .int), Cond.constantLong RX4 19 (255), Cond.methodLink RX9 60 yX4_write, Cond.instanceMethod yX4_write, Cond.selects RX4 yX4_write yX4_write, Cond.code yX4_write cX4_write 5 none, Cond.fieldLink RX4 21 "KneelingStones$Page" "length" "I"]
def wsL_custom_r2 : List Cond := [Cond.fieldLink RX4 9 "KneelingStones$Page" "codes" "[I", Cond.methodLink RL 20 yL_letter, Cond.static yL_letter, Cond.code yL_letter cL_letter 1 (some .int), Cond.methodLink RL 24 yX9_fault, Cond.instanceMethod yX9_fault, Cond.selects RX9 yX9_fault yX9_fault, Cond.code yX9_fault cX9_fault 1 (some .int), Cond.methodLink RX9 64 yX4_firstWrong, Cond.instanceMethod yX4_firstWrong, Cond.selects RX4 yX4_firstWrong yX4_firstWrong, Cond.code yX4_firstWrong cX4_firstWrong 2 (some .int), Cond.methodLink RX4 25 yX4_codeOf, Cond.instanceMethod yX4_codeOf, Cond.selects RX4 yX4_codeOf yX4_codeOf, Cond.code yX4_codeOf cX4_codeOf 2 (some .int), Cond.methodLink RX4 29 yX4_fits, Cond.static yX4_fits, Cond.code yX4_fits cX4_fits 2 (some .boolean), Cond.methodLink RX4 39 yX4_ruleOf, Cond.static yX4_ruleOf, Cond.code yX4_ruleOf cX4_ruleOf 1 (some .int), Cond.methodLink RL 28 yX9_count, Cond.instanceMethod yX9_count]
def wsL_custom_r3 : List Cond := [Cond.selects RX9 yX9_count yX9_count, Cond.code yX9_count cX9_count 2 (some .int), Cond.fieldLink RX9 94 "KneelingStones" "parishCount" "I", Cond.fieldLink RX9 72 "KneelingStones" "customCount" "I", Cond.fieldLink RX9 31 "KneelingStones" "now" "LKneelingStones$Moor;", Cond.fieldLink RX9 140 "KneelingStones$Moor" "week" "I", Cond.fieldLink RX9 137 "KneelingStones$Moor" "seed" "I", Cond.fieldLink RX9 219 "KneelingStones$Moor" "last" "I", Cond.fieldLink RX9 222 "KneelingStones$Moor" "laid" "I", Cond.fieldLink RX9 225 "KneelingStones$Moor" "taken" "I", Cond.fieldLink RX9 228 "KneelingStones$Moor" "spilt" "I", Cond.methodLink RX9 147 yX2_pebbles, Cond.instanceMethod yX2_pebbles, Cond.selects RX2 yX2_pebbles yX2_pebbles, Cond.initialized RX2, Cond.code yX2_pebbles cX2_pebbles 3 (some .int), Cond.fieldLink RX2 9 "KneelingStones$Moor" "heights" "[I", Cond.methodLink RL 31 yX9_custom, Cond.instanceMethod yX9_custom, Cond.selects RX9 yX9_custom yX9_custom, Cond.code yX9_custom cX9_custom 1 (some .int), Cond.fieldLink RX9 18 "KneelingStones" "customs" "[LKneelingStones$Custom;", Cond.methodLink RX9 68 yX4_isCustom, Cond.instanceMethod yX4_isCustom]
def wsL_custom_r4 : List Cond := [Cond.selects RX4 yX4_isCustom yX4_isCustom, Cond.code yX4_isCustom cX4_isCustom 1 (some .boolean), Cond.methodLink RX4 33 yX4_firstWrong, Cond.methodLink RX9 75 yX4_asCustom, Cond.instanceMethod yX4_asCustom, Cond.selects RX4 yX4_asCustom yX4_asCustom, Cond.code yX4_asCustom cX4_asCustom 2 (some (.object "KneelingStones$Custom")), Cond.classLink RX4 37 RX1, Cond.instantiable RX1 3, Cond.initialized RX1, Cond.methodLink RX4 42 yX1_init, Cond.instanceMethod yX1_init, Cond.code yX1_init cX1_init 4 none, Cond.methodLink RX1 1 objectInit, Cond.instanceMethod objectInit, Cond.code objectInit ⟨#[0xb1]⟩ 1 none, Cond.fieldLink RX1 7 "KneelingStones$Custom" "wishRule" "I", Cond.fieldLink RX1 13 "KneelingStones$Custom" "sinRule" "I", Cond.fieldLink RX1 16 "KneelingStones$Custom" "every" "I"]
def wsL_custom : List Cond := .code yL_custom cL_custom 5 (some .boolean) :: ((wsL_custom_r1 ++ (wsL_custom_r2 ++ (wsL_custom_r3 ++ wsL_custom_r4))) ++ wsX90 ++ wsX40 ++ wsX20 ++ wsX10)
def wsL_parishes_r1 : List Cond := [Cond.methodLink RL 34 yL_cell, Cond.static yL_cell, Cond.initialized RL, Cond.code yL_cell cL_cell 2 (some .int), Cond.constant RL 7 (2147483647), Cond.methodLink RL 38 yX9_parish, Cond.instanceMethod yX9_parish, Cond.selects RX9 yX9_parish yX9_parish, Cond.initialized RX9, Cond.code yX9_parish cX9_parish 7 (some .int), Cond.fieldLink RX9 94 "KneelingStones" "parishCount" "I", Cond.fieldLink RX9 101 "KneelingStones$Parish" "walkers" "I", Cond.fieldLink RX9 104 "KneelingStones$Parish" "wish" "I", Cond.fieldLink RX9 107 "KneelingStones$Parish" "sin" "I", Cond.fieldLink RX9 24 "KneelingStones" "parishes" "[LKneelingStones$Parish;", Cond.methodLink RX9 87 yX9_isKindWith, Cond.static yX9_isKindWith, Cond.code yX9_isKindWith cX9_isKindWith 2 (some .boolean), Cond.methodLink RX9 119 yX9_isCairn, Cond.static yX9_isCairn, Cond.code yX9_isCairn cX9_isCairn 1 (some .boolean), Cond.methodLink RX9 91 yX9_mayBe, Cond.static yX9_mayBe, Cond.code yX9_mayBe cX9_mayBe 2 (some .boolean)]
def wsL_parishes_r2 : List Cond := [Cond.methodLink RX9 97 yX9_madeOf, Cond.static yX9_madeOf, Cond.code yX9_madeOf cX9_madeOf 2 (some (.object "KneelingStones$Parish")), Cond.classLink RX9 254 RX6, Cond.instantiable RX6 4, Cond.initialized RX6, Cond.classLink RX9 259 RX7, Cond.instantiable RX7 4, Cond.initialized RX7, Cond.classLink RX9 262 RX0, Cond.instantiable RX0 4, Cond.initialized RX0, Cond.classLink RX9 22 RX5, Cond.instantiable RX5 4, Cond.initialized RX5, Cond.methodLink RX9 256 yX6_init, Cond.instanceMethod yX6_init, Cond.code yX6_init cX6_init 2 none, Cond.methodLink RX6 3 yX5_init, Cond.instanceMethod yX5_init, Cond.code yX5_init cX5_init 2 none, Cond.methodLink RX5 3 objectInit, Cond.instanceMethod objectInit, Cond.code objectInit ⟨#[0xb1]⟩ 1 none]
def wsL_parishes_r3 : List Cond := [Cond.fieldLink RX5 9 "KneelingStones$Parish" "n" "I", Cond.methodLink RX9 261 yX7_init, Cond.instanceMethod yX7_init, Cond.code yX7_init cX7_init 2 none, Cond.methodLink RX7 3 yX5_init, Cond.methodLink RX9 264 yX0_init, Cond.instanceMethod yX0_init, Cond.code yX0_init cX0_init 2 none, Cond.methodLink RX0 3 yX7_init, Cond.methodLink RX9 265 yX5_init]
def wsL_parishes : List Cond := .code yL_parishes cL_parishes 9 (some .boolean) :: ((wsL_parishes_r1 ++ (wsL_parishes_r2 ++ wsL_parishes_r3)) ++ wsX90 ++ wsX00 ++ wsX50 ++ wsX60 ++ wsX70)
def wsL_rule : List Cond := .code yL_rule cL_rule 6 (some .int) :: ([])
def wsL_lay : List Cond := .code yL_lay cL_lay 5 none :: ([])
def wsL_draw : List Cond := .code yL_draw cL_draw 2 (some .int) :: ([.constantLong RL 42 (1103515245), .constantLong RL 44 (12345), .constantLong RL 46 (2147483648), .constantLong RL 48 (65536), .constantLong RL 50 (10)])
def wsL_week : List Cond := .code yL_week cL_week 12 none :: ([.methodLink RL 52 yL_draw, .static yL_draw, .initialized RL, .code yL_draw cL_draw 2 (some .int), .constantLong RL 42 (1103515245), .constantLong RL 44 (12345), .constantLong RL 46 (2147483648), .constantLong RL 48 (65536), .constantLong RL 50 (10), .methodLink RL 56 yL_rule, .static yL_rule, .code yL_rule cL_rule 6 (some .int), .methodLink RL 60 yL_lay, .static yL_lay, .code yL_lay cL_lay 5 none])
def wsL_copy : List Cond := .code yL_copy cL_copy 3 none :: ([])
def wsL_all : List Cond := .code yL_all cL_all 1 (some .int) :: ([])
def wsL_law_r1 : List Cond := [Cond.classLink RL 9 RX9, Cond.instantiable RX9 11, Cond.initialized RX9, Cond.arrayClass .int, Cond.arrayClass .long, Cond.methodLink RL 64 yX9_init, Cond.instanceMethod yX9_init, Cond.code yX9_init cX9_init 1 none, Cond.methodLink RX9 3 objectInit, Cond.instanceMethod objectInit, Cond.code objectInit ⟨#[0xb1]⟩ 1 none, Cond.classLink RX9 9 RX4, Cond.instantiable RX4 2, Cond.initialized RX4, Cond.fieldLink RX9 12 "KneelingStones" "page" "LKneelingStones$Page;", Cond.classLink RX9 16 RX1, Cond.fieldLink RX9 18 "KneelingStones" "customs" "[LKneelingStones$Custom;", Cond.classLink RX9 22 RX5, Cond.fieldLink RX9 24 "KneelingStones" "parishes" "[LKneelingStones$Parish;", Cond.classLink RX9 28 RX2, Cond.instantiable RX2 8, Cond.initialized RX2, Cond.fieldLink RX9 31 "KneelingStones" "now" "LKneelingStones$Moor;", Cond.fieldLink RX9 35 "KneelingStones" "kept" "LKneelingStones$Moor;"]
def wsL_law_r2 : List Cond := [Cond.fieldLink RX9 38 "KneelingStones" "dream" "LKneelingStones$Moor;", Cond.fieldLink RX9 41 "KneelingStones" "sizes" "[I", Cond.classLink RX9 45 RX8, Cond.instantiable RX8 2, Cond.initialized RX8, Cond.fieldLink RX9 48 "KneelingStones" "ways" "LKneelingStones$Ways;", Cond.instanceMethod yX4_init, Cond.code yX4_init cX4_init 1 none, Cond.methodLink RX4 3 objectInit, Cond.fieldLink RX4 9 "KneelingStones$Page" "codes" "[I", Cond.instanceMethod yX2_init, Cond.code yX2_init cX2_init 1 none, Cond.methodLink RX2 3 objectInit, Cond.fieldLink RX2 9 "KneelingStones$Moor" "heights" "[I", Cond.fieldLink RX2 15 "KneelingStones$Moor" "marks" "[I", Cond.fieldLink RX2 18 "KneelingStones$Moor" "seed" "I", Cond.instanceMethod yX8_init, Cond.code yX8_init cX8_init 1 none, Cond.methodLink RX8 3 objectInit, Cond.fieldLink RX8 11 "KneelingStones$Ways" "row" "[I", Cond.fieldLink RX8 15 "KneelingStones$Ways" "next" "[I", Cond.methodLink RL 34 yL_cell, Cond.static yL_cell, Cond.initialized RL]
def wsL_law_r3 : List Cond := [Cond.code yL_cell cL_cell 2 (some .int), Cond.constant RL 7 (2147483647), Cond.methodLink RL 65 yL_parishes, Cond.static yL_parishes, Cond.code yL_parishes cL_parishes 9 (some .boolean), Cond.methodLink RL 38 yX9_parish, Cond.instanceMethod yX9_parish, Cond.selects RX9 yX9_parish yX9_parish, Cond.code yX9_parish cX9_parish 7 (some .int), Cond.fieldLink RX9 94 "KneelingStones" "parishCount" "I", Cond.fieldLink RX9 101 "KneelingStones$Parish" "walkers" "I", Cond.fieldLink RX9 104 "KneelingStones$Parish" "wish" "I", Cond.fieldLink RX9 107 "KneelingStones$Parish" "sin" "I", Cond.methodLink RX9 87 yX9_isKindWith, Cond.static yX9_isKindWith, Cond.code yX9_isKindWith cX9_isKindWith 2 (some .boolean), Cond.methodLink RX9 119 yX9_isCairn, Cond.static yX9_isCairn, Cond.code yX9_isCairn cX9_isCairn 1 (some .boolean), Cond.methodLink RX9 91 yX9_mayBe, Cond.static yX9_mayBe, Cond.code yX9_mayBe cX9_mayBe 2 (some .boolean), Cond.methodLink RX9 97 yX9_madeOf, Cond.static yX9_madeOf]
def wsL_law_r4 : List Cond := [Cond.code yX9_madeOf cX9_madeOf 2 (some (.object "KneelingStones$Parish")), Cond.classLink RX9 254 RX6, Cond.instantiable RX6 4, Cond.initialized RX6, Cond.classLink RX9 259 RX7, Cond.instantiable RX7 4, Cond.initialized RX7, Cond.classLink RX9 262 RX0, Cond.instantiable RX0 4, Cond.initialized RX0, Cond.instantiable RX5 4, Cond.initialized RX5, Cond.methodLink RX9 256 yX6_init, Cond.instanceMethod yX6_init, Cond.code yX6_init cX6_init 2 none, Cond.methodLink RX6 3 yX5_init, Cond.instanceMethod yX5_init, Cond.code yX5_init cX5_init 2 none, Cond.methodLink RX5 3 objectInit, Cond.fieldLink RX5 9 "KneelingStones$Parish" "n" "I", Cond.methodLink RX9 261 yX7_init, Cond.instanceMethod yX7_init, Cond.code yX7_init cX7_init 2 none, Cond.methodLink RX7 3 yX5_init]
def wsL_law_r5 : List Cond := [Cond.methodLink RX9 264 yX0_init, Cond.instanceMethod yX0_init, Cond.code yX0_init cX0_init 2 none, Cond.methodLink RX0 3 yX7_init, Cond.methodLink RX9 265 yX5_init, Cond.methodLink RL 69 yX9_seed, Cond.instanceMethod yX9_seed, Cond.selects RX9 yX9_seed yX9_seed, Cond.code yX9_seed cX9_seed 3 (some .int), Cond.fieldLink RX9 137 "KneelingStones$Moor" "seed" "I", Cond.methodLink RL 72 yL_custom, Cond.static yL_custom, Cond.code yL_custom cL_custom 5 (some .boolean), Cond.methodLink RL 14 yL_put, Cond.static yL_put, Cond.code yL_put cL_put 2 (some .boolean), Cond.methodLink RL 8 yX9_letters, Cond.instanceMethod yX9_letters, Cond.selects RX9 yX9_letters yX9_letters, Cond.code yX9_letters cX9_letters 4 (some .int), Cond.fieldLink RX9 56 "KneelingStones$Page" "length" "I", Cond.methodLink RX9 52 yX4_lettersIn, Cond.static yX4_lettersIn, Cond.code yX4_lettersIn cX4_lettersIn 5 (some .int)]
def wsL_law_r6 : List Cond := [Cond.methodLink RX4 15 yX4_codeAt, Cond.static yX4_codeAt, Cond.code yX4_codeAt cX4_codeAt 3 (some .int), Cond.constantLong RX4 19 (255), Cond.methodLink RX9 60 yX4_write, Cond.instanceMethod yX4_write, Cond.selects RX4 yX4_write yX4_write, Cond.code yX4_write cX4_write 5 none, Cond.fieldLink RX4 21 "KneelingStones$Page" "length" "I", Cond.methodLink RL 20 yL_letter, Cond.static yL_letter, Cond.code yL_letter cL_letter 1 (some .int), Cond.methodLink RL 24 yX9_fault, Cond.instanceMethod yX9_fault, Cond.selects RX9 yX9_fault yX9_fault, Cond.code yX9_fault cX9_fault 1 (some .int), Cond.methodLink RX9 64 yX4_firstWrong, Cond.instanceMethod yX4_firstWrong, Cond.selects RX4 yX4_firstWrong yX4_firstWrong, Cond.code yX4_firstWrong cX4_firstWrong 2 (some .int), Cond.methodLink RX4 25 yX4_codeOf, Cond.instanceMethod yX4_codeOf, Cond.selects RX4 yX4_codeOf yX4_codeOf, Cond.code yX4_codeOf cX4_codeOf 2 (some .int)]
def wsL_law_r7 : List Cond := [Cond.methodLink RX4 29 yX4_fits, Cond.static yX4_fits, Cond.code yX4_fits cX4_fits 2 (some .boolean), Cond.methodLink RX4 39 yX4_ruleOf, Cond.static yX4_ruleOf, Cond.code yX4_ruleOf cX4_ruleOf 1 (some .int), Cond.methodLink RL 28 yX9_count, Cond.instanceMethod yX9_count, Cond.selects RX9 yX9_count yX9_count, Cond.code yX9_count cX9_count 2 (some .int), Cond.fieldLink RX9 72 "KneelingStones" "customCount" "I", Cond.fieldLink RX9 140 "KneelingStones$Moor" "week" "I", Cond.fieldLink RX9 219 "KneelingStones$Moor" "last" "I", Cond.fieldLink RX9 222 "KneelingStones$Moor" "laid" "I", Cond.fieldLink RX9 225 "KneelingStones$Moor" "taken" "I", Cond.fieldLink RX9 228 "KneelingStones$Moor" "spilt" "I", Cond.methodLink RX9 147 yX2_pebbles, Cond.instanceMethod yX2_pebbles, Cond.selects RX2 yX2_pebbles yX2_pebbles, Cond.code yX2_pebbles cX2_pebbles 3 (some .int), Cond.methodLink RL 31 yX9_custom, Cond.instanceMethod yX9_custom, Cond.selects RX9 yX9_custom yX9_custom, Cond.code yX9_custom cX9_custom 1 (some .int)]
def wsL_law_r8 : List Cond := [Cond.methodLink RX9 68 yX4_isCustom, Cond.instanceMethod yX4_isCustom, Cond.selects RX4 yX4_isCustom yX4_isCustom, Cond.code yX4_isCustom cX4_isCustom 1 (some .boolean), Cond.methodLink RX4 33 yX4_firstWrong, Cond.methodLink RX9 75 yX4_asCustom, Cond.instanceMethod yX4_asCustom, Cond.selects RX4 yX4_asCustom yX4_asCustom, Cond.code yX4_asCustom cX4_asCustom 2 (some (.object "KneelingStones$Custom")), Cond.classLink RX4 37 RX1, Cond.instantiable RX1 3, Cond.initialized RX1, Cond.methodLink RX4 42 yX1_init, Cond.instanceMethod yX1_init, Cond.code yX1_init cX1_init 4 none, Cond.methodLink RX1 1 objectInit, Cond.fieldLink RX1 7 "KneelingStones$Custom" "wishRule" "I", Cond.fieldLink RX1 13 "KneelingStones$Custom" "sinRule" "I", Cond.fieldLink RX1 16 "KneelingStones$Custom" "every" "I", Cond.methodLink RL 75 yX9_customTold, Cond.instanceMethod yX9_customTold, Cond.selects RX9 yX9_customTold yX9_customTold, Cond.code yX9_customTold cX9_customTold 4 (some .int), Cond.methodLink RX9 79 yX9_customAt]
def wsL_law_r9 : List Cond := [Cond.instanceMethod yX9_customAt, Cond.selects RX9 yX9_customAt yX9_customAt, Cond.code yX9_customAt cX9_customAt 2 (some (.object "KneelingStones$Custom")), Cond.methodLink RX9 83 yX1_told, Cond.instanceMethod yX1_told, Cond.selects RX1 yX1_told yX1_told, Cond.code yX1_told cX1_told 2 (some .int), Cond.methodLink RL 60 yL_lay, Cond.static yL_lay, Cond.code yL_lay cL_lay 5 none, Cond.methodLink RL 79 yX9_lay, Cond.instanceMethod yX9_lay, Cond.selects RX9 yX9_lay yX9_lay, Cond.code yX9_lay cX9_lay 3 (some .int), Cond.fieldLink RX9 127 "KneelingStones$Moor" "heights" "[I", Cond.methodLink RX9 123 yX2_layNew, Cond.instanceMethod yX2_layNew, Cond.selects RX2 yX2_layNew yX2_layNew, Cond.code yX2_layNew cX2_layNew 4 none, Cond.fieldLink RX2 28 "KneelingStones$Moor" "week" "I", Cond.fieldLink RX2 34 "KneelingStones$Moor" "laid" "I", Cond.methodLink RX2 51 yX2_put, Cond.instanceMethod yX2_put, Cond.selects RX2 yX2_put yX2_put]
def wsL_law_r10 : List Cond := [Cond.code yX2_put cX2_put 4 none, Cond.fieldLink RX2 40 "KneelingStones$Moor" "spilt" "I", Cond.methodLink RL 81 yX9_take, Cond.instanceMethod yX9_take, Cond.selects RX9 yX9_take yX9_take, Cond.code yX9_take cX9_take 3 (some .int), Cond.methodLink RX9 130 yX2_takeOff, Cond.instanceMethod yX2_takeOff, Cond.selects RX2 yX2_takeOff yX2_takeOff, Cond.code yX2_takeOff cX2_takeOff 4 none, Cond.methodLink RX2 55 Lib.Math.min.name, Cond.static Lib.Math.min.name, Cond.initialized "java/lang/Math", Cond.code Lib.Math.min.name Lib.Math.min.code 2 (some .int), Cond.fieldLink RX2 37 "KneelingStones$Moor" "taken" "I", Cond.methodLink RL 84 yL_copy, Cond.static yL_copy, Cond.code yL_copy cL_copy 3 none, Cond.methodLink RL 88 yL_week, Cond.static yL_week, Cond.code yL_week cL_week 12 none, Cond.methodLink RL 52 yL_draw, Cond.static yL_draw, Cond.code yL_draw cL_draw 2 (some .int)]
def wsL_law_r11 : List Cond := [Cond.constantLong RL 42 (1103515245), Cond.constantLong RL 44 (12345), Cond.constantLong RL 46 (2147483648), Cond.constantLong RL 48 (65536), Cond.constantLong RL 50 (10), Cond.methodLink RL 56 yL_rule, Cond.static yL_rule, Cond.code yL_rule cL_rule 6 (some .int), Cond.methodLink RL 92 yX9_would, Cond.instanceMethod yX9_would, Cond.selects RX9 yX9_would yX9_would, Cond.code yX9_would cX9_would 5 (some .int), Cond.methodLink RX9 150 yX9_dreamOf, Cond.instanceMethod yX9_dreamOf, Cond.selects RX9 yX9_dreamOf yX9_dreamOf, Cond.code yX9_dreamOf cX9_dreamOf 4 none, Cond.methodLink RX9 196 yX2_become, Cond.instanceMethod yX2_become, Cond.selects RX2 yX2_become yX2_become, Cond.code yX2_become cX2_become 2 none, Cond.methodLink RX2 22 arraycopyName, Cond.native arraycopyName, Cond.static arraycopyName, Cond.initialized "java/lang/System"]
def wsL_law_r12 : List Cond := [Cond.fieldLink RX2 31 "KneelingStones$Moor" "last" "I", Cond.methodLink RX9 143 yX2_goOneWeek, Cond.instanceMethod yX2_goOneWeek, Cond.selects RX2 yX2_goOneWeek yX2_goOneWeek, Cond.code yX2_goOneWeek cX2_goOneWeek 6 none, Cond.fieldLink RX2 60 "KneelingStones$Parish" "walkers" "I", Cond.methodLink RX2 65 yX2_walk, Cond.instanceMethod yX2_walk, Cond.selects RX2 yX2_walk yX2_walk, Cond.code yX2_walk cX2_walk 5 none, Cond.fieldLink RX2 81 "KneelingStones$Parish" "wish" "I", Cond.fieldLink RX2 84 "KneelingStones$Custom" "wishRule" "I", Cond.fieldLink RX2 96 "KneelingStones$Parish" "sin" "I", Cond.fieldLink RX2 106 "KneelingStones$Custom" "sinRule" "I", Cond.methodLink RX2 77 yX2_draw, Cond.instanceMethod yX2_draw, Cond.selects RX2 yX2_draw yX2_draw, Cond.code yX2_draw cX2_draw 1 (some .int), Cond.constantLong RX2 124 (1103515245), Cond.constantLong RX2 126 (12345), Cond.constantLong RX2 128 (2147483647), Cond.methodLink RX2 87 yX2_cairnBy, Cond.instanceMethod yX2_cairnBy, Cond.selects RX2 yX2_cairnBy yX2_cairnBy]
def wsL_law_r13 : List Cond := [Cond.code yX2_cairnBy cX2_cairnBy 3 (some .int), Cond.methodLink RX2 103 yX2_most, Cond.instanceMethod yX2_most, Cond.selects RX2 yX2_most yX2_most, Cond.code yX2_most cX2_most 3 (some .int), Cond.methodLink RX2 121 yX2_fewest, Cond.instanceMethod yX2_fewest, Cond.selects RX2 yX2_fewest yX2_fewest, Cond.code yX2_fewest cX2_fewest 3 (some .int), Cond.methodLink RX2 90 ⟨"KneelingStones$Parish", "gift", "()I"⟩, Cond.sameMethod "KneelingStones$Parish" "KneelingStones$Parish" "gift" "()I", Cond.selects RX0 ⟨"KneelingStones$Parish", "gift", "()I"⟩ yX5_gift, Cond.instanceMethod yX5_gift, Cond.code yX5_gift cX5_gift 1 (some .int), Cond.methodLink RX2 90 yX5_gift, Cond.selects RX5 yX5_gift yX5_gift, Cond.instanceMethod ⟨"KneelingStones$Parish", "gift", "()I"⟩, Cond.selects RX6 ⟨"KneelingStones$Parish", "gift", "()I"⟩ yX6_gift, Cond.instanceMethod yX6_gift, Cond.code yX6_gift cX6_gift 1 (some .int), Cond.fieldLink RX6 9 "KneelingStones$Pious" "n" "I", Cond.sameField "KneelingStones$Pious" "KneelingStones$Parish" "n" "I", Cond.selects RX7 ⟨"KneelingStones$Parish", "gift", "()I"⟩ yX5_gift, Cond.methodLink RX2 93 yX2_layNew]
def wsL_law_r14 : List Cond := [Cond.methodLink RX2 99 ⟨"KneelingStones$Parish", "sinsAtMost", "()Z"⟩, Cond.sameMethod "KneelingStones$Parish" "KneelingStones$Parish" "sinsAtMost" "()Z", Cond.instanceMethod ⟨"KneelingStones$Parish", "sinsAtMost", "()Z"⟩, Cond.selects RX0 ⟨"KneelingStones$Parish", "sinsAtMost", "()Z"⟩ yX0_sinsAtMost, Cond.instanceMethod yX0_sinsAtMost, Cond.code yX0_sinsAtMost cX0_sinsAtMost 1 (some .boolean), Cond.code yX5_sinsAtMost cX5_sinsAtMost 1 (some .boolean), Cond.methodLink RX2 99 yX5_sinsAtMost, Cond.instanceMethod yX5_sinsAtMost, Cond.selects RX5 yX5_sinsAtMost yX5_sinsAtMost, Cond.selects RX6 ⟨"KneelingStones$Parish", "sinsAtMost", "()Z"⟩ yX5_sinsAtMost, Cond.selects RX7 ⟨"KneelingStones$Parish", "sinsAtMost", "()Z"⟩ yX5_sinsAtMost, Cond.methodLink RX2 109 ⟨"KneelingStones$Parish", "hidesOn", "()I"⟩, Cond.sameMethod "KneelingStones$Parish" "KneelingStones$Parish" "hidesOn" "()I", Cond.instanceMethod ⟨"KneelingStones$Parish", "hidesOn", "()I"⟩, Cond.selects RX0 ⟨"KneelingStones$Parish", "hidesOn", "()I"⟩ yX7_hidesOn, Cond.instanceMethod yX7_hidesOn, Cond.code yX7_hidesOn cX7_hidesOn 1 (some .int), Cond.fieldLink RX7 9 "KneelingStones$Sly" "n" "I", Cond.sameField "KneelingStones$Sly" "KneelingStones$Parish" "n" "I", Cond.code yX5_hidesOn cX5_hidesOn 1 (some .int), Cond.methodLink RX2 109 yX5_hidesOn, Cond.instanceMethod yX5_hidesOn, Cond.selects RX5 yX5_hidesOn yX5_hidesOn]
def wsL_law_r15 : List Cond := [Cond.selects RX6 ⟨"KneelingStones$Parish", "hidesOn", "()I"⟩ yX5_hidesOn, Cond.selects RX7 ⟨"KneelingStones$Parish", "hidesOn", "()I"⟩ yX7_hidesOn, Cond.methodLink RX2 112 yX2_steal, Cond.instanceMethod yX2_steal, Cond.selects RX2 yX2_steal yX2_steal, Cond.code yX2_steal cX2_steal 4 none, Cond.methodLink RX2 115 yX2_takeOff, Cond.methodLink RX2 118 yX2_markAt, Cond.instanceMethod yX2_markAt, Cond.selects RX2 yX2_markAt yX2_markAt, Cond.code yX2_markAt cX2_markAt 4 (some .int), Cond.methodLink RX2 69 yX1_floodsIn, Cond.instanceMethod yX1_floodsIn, Cond.selects RX1 yX1_floodsIn yX1_floodsIn, Cond.code yX1_floodsIn cX1_floodsIn 2 (some .boolean), Cond.methodLink RX2 74 yX2_flood, Cond.instanceMethod yX2_flood, Cond.selects RX2 yX2_flood yX2_flood, Cond.code yX2_flood cX2_flood 2 none, Cond.methodLink RL 96 yX9_weeks, Cond.instanceMethod yX9_weeks, Cond.selects RX9 yX9_weeks yX9_weeks, Cond.code yX9_weeks cX9_weeks 5 (some .int), Cond.methodLink RL 99 yL_all]
def wsL_law_r16 : List Cond := [Cond.static yL_all, Cond.code yL_all cL_all 1 (some .int), Cond.methodLink RL 103 yX9_height, Cond.instanceMethod yX9_height, Cond.selects RX9 yX9_height yX9_height, Cond.code yX9_height cX9_height 2 (some .int), Cond.methodLink RL 106 yX9_mark, Cond.instanceMethod yX9_mark, Cond.selects RX9 yX9_mark yX9_mark, Cond.code yX9_mark cX9_mark 3 (some .int), Cond.methodLink RX9 133 yX2_markAt, Cond.methodLink RL 109 yX9_dated, Cond.instanceMethod yX9_dated, Cond.selects RX9 yX9_dated yX9_dated, Cond.code yX9_dated cX9_dated 5 (some .int)]
def wsL_law : List Cond := (wsL_law_r1 ++ (wsL_law_r2 ++ (wsL_law_r3 ++ (wsL_law_r4 ++ (wsL_law_r5 ++ (wsL_law_r6 ++ (wsL_law_r7 ++ (wsL_law_r8 ++ (wsL_law_r9 ++ (wsL_law_r10 ++ (wsL_law_r11 ++ (wsL_law_r12 ++ (wsL_law_r13 ++ (wsL_law_r14 ++ (wsL_law_r15 ++ wsL_law_r16))))))))))))))) ++ wsX90 ++ wsX40 ++ wsX20 ++ wsX80 ++ wsX00 ++ wsX50 ++ wsX60 ++ wsX70 ++ wsX10 ++ ([] : List Cond)
end
section
/-- words by their places (as goodIn_r, the membership alone) -/
theorem j_words {big ws : List Cond} (ps : List Nat) (hp : ws = ps.filterMap (fun i => big[i]?)) : ∀ w ∈ ws, w ∈ big := by
  intro w hw
  rw [hp] at hw
  obtain ⟨i, -, hi⟩ := List.mem_filterMap.mp hw
  first | exact List.mem_of_getElem? hi | exact List.getElem?_mem hi
abbrev vwCl : List vw_C := [(RX0, TX0, 4), (RX1, TX1, 3), (RX2, TX2, 8), (RX4, TX4, 2), (RX5, TX5, 4), (RX6, TX6, 4), (RX7, TX7, 4), (RX8, TX8, 2), (RX9, TX9, 11)]
end
section
theorem dX0_init_0 : decode cX0_init 0 = .ok (.aload_n 0, 1) := by decide +kernel
theorem dX0_init_1 : decode cX0_init 1 = .ok (.iload_n 1, 1) := by decide +kernel
theorem dX0_init_2 : decode cX0_init 2 = .ok (.invokespecial 3, 3) := by decide +kernel
theorem dX0_init_5 : decode cX0_init 5 = .ok (.return_, 1) := by decide +kernel
theorem dX0_sinsAtMost_0 : decode cX0_sinsAtMost 0 = .ok (.iconst 1, 1) := by decide +kernel
theorem dX0_sinsAtMost_1 : decode cX0_sinsAtMost 1 = .ok (.ireturn, 1) := by decide +kernel
theorem dX1_init_0 : decode cX1_init 0 = .ok (.aload_n 0, 1) := by decide +kernel
theorem dX1_init_1 : decode cX1_init 1 = .ok (.invokespecial 1, 3) := by decide +kernel
theorem dX1_init_4 : decode cX1_init 4 = .ok (.aload_n 0, 1) := by decide +kernel
theorem dX1_init_5 : decode cX1_init 5 = .ok (.iload_n 1, 1) := by decide +kernel
theorem dX1_init_6 : decode cX1_init 6 = .ok (.putfield 7, 3) := by decide +kernel
theorem dX1_init_9 : decode cX1_init 9 = .ok (.aload_n 0, 1) := by decide +kernel
theorem dX1_init_10 : decode cX1_init 10 = .ok (.iload_n 2, 1) := by decide +kernel
theorem dX1_init_11 : decode cX1_init 11 = .ok (.putfield 13, 3) := by decide +kernel
theorem dX1_init_14 : decode cX1_init 14 = .ok (.aload_n 0, 1) := by decide +kernel
theorem dX1_init_15 : decode cX1_init 15 = .ok (.iload_n 3, 1) := by decide +kernel
theorem dX1_init_16 : decode cX1_init 16 = .ok (.putfield 16, 3) := by decide +kernel
theorem dX1_init_19 : decode cX1_init 19 = .ok (.return_, 1) := by decide +kernel
theorem dX1_told_0 : decode cX1_told 0 = .ok (.iload_n 1, 1) := by decide +kernel
theorem dX1_told_1 : decode cX1_told 1 = .ok (.ifCond .ne 8, 3) := by decide +kernel
theorem dX1_told_4 : decode cX1_told 4 = .ok (.aload_n 0, 1) := by decide +kernel
theorem dX1_told_5 : decode cX1_told 5 = .ok (.getfield 7, 3) := by decide +kernel
theorem dX1_told_8 : decode cX1_told 8 = .ok (.ireturn, 1) := by decide +kernel
theorem dX1_told_9 : decode cX1_told 9 = .ok (.iload_n 1, 1) := by decide +kernel
theorem dX1_told_10 : decode cX1_told 10 = .ok (.iconst 1, 1) := by decide +kernel
theorem dX1_told_11 : decode cX1_told 11 = .ok (.if_icmp .ne 10, 3) := by decide +kernel
theorem dX1_told_14 : decode cX1_told 14 = .ok (.aload_n 0, 1) := by decide +kernel
theorem dX1_told_15 : decode cX1_told 15 = .ok (.getfield 13, 3) := by decide +kernel
theorem dX1_told_18 : decode cX1_told 18 = .ok (.goto 7, 3) := by decide +kernel
theorem dX1_told_21 : decode cX1_told 21 = .ok (.aload_n 0, 1) := by decide +kernel
theorem dX1_told_22 : decode cX1_told 22 = .ok (.getfield 16, 3) := by decide +kernel
theorem dX1_told_25 : decode cX1_told 25 = .ok (.ireturn, 1) := by decide +kernel
theorem dX1_floodsIn_0 : decode cX1_floodsIn 0 = .ok (.aload_n 0, 1) := by decide +kernel
theorem dX1_floodsIn_1 : decode cX1_floodsIn 1 = .ok (.getfield 16, 3) := by decide +kernel
theorem dX1_floodsIn_4 : decode cX1_floodsIn 4 = .ok (.ifCond .le 16, 3) := by decide +kernel
theorem dX1_floodsIn_7 : decode cX1_floodsIn 7 = .ok (.iload_n 1, 1) := by decide +kernel
theorem dX1_floodsIn_8 : decode cX1_floodsIn 8 = .ok (.aload_n 0, 1) := by decide +kernel
theorem dX1_floodsIn_9 : decode cX1_floodsIn 9 = .ok (.getfield 16, 3) := by decide +kernel
theorem dX1_floodsIn_12 : decode cX1_floodsIn 12 = .ok (.irem, 1) := by decide +kernel
theorem dX1_floodsIn_13 : decode cX1_floodsIn 13 = .ok (.ifCond .ne 7, 3) := by decide +kernel
theorem dX1_floodsIn_16 : decode cX1_floodsIn 16 = .ok (.iconst 1, 1) := by decide +kernel
theorem dX1_floodsIn_17 : decode cX1_floodsIn 17 = .ok (.goto 4, 3) := by decide +kernel
theorem dX1_floodsIn_20 : decode cX1_floodsIn 20 = .ok (.iconst 0, 1) := by decide +kernel
theorem dX1_floodsIn_21 : decode cX1_floodsIn 21 = .ok (.ireturn, 1) := by decide +kernel
theorem dX2_init_0 : decode cX2_init 0 = .ok (.aload_n 0, 1) := by decide +kernel
theorem dX2_init_1 : decode cX2_init 1 = .ok (.invokespecial 3, 3) := by decide +kernel
theorem dX2_init_4 : decode cX2_init 4 = .ok (.aload_n 0, 1) := by decide +kernel
theorem dX2_init_5 : decode cX2_init 5 = .ok (.bipush 7, 2) := by decide +kernel
theorem dX2_init_7 : decode cX2_init 7 = .ok (.newarray .int, 2) := by decide +kernel
theorem dX2_init_9 : decode cX2_init 9 = .ok (.putfield 9, 3) := by decide +kernel
theorem dX2_init_12 : decode cX2_init 12 = .ok (.aload_n 0, 1) := by decide +kernel
theorem dX2_init_13 : decode cX2_init 13 = .ok (.sipush 420, 3) := by decide +kernel
theorem dX2_init_16 : decode cX2_init 16 = .ok (.newarray .int, 2) := by decide +kernel
theorem dX2_init_18 : decode cX2_init 18 = .ok (.putfield 15, 3) := by decide +kernel
theorem dX2_init_21 : decode cX2_init 21 = .ok (.aload_n 0, 1) := by decide +kernel
theorem dX2_init_22 : decode cX2_init 22 = .ok (.iconst 1, 1) := by decide +kernel
theorem dX2_init_23 : decode cX2_init 23 = .ok (.putfield 18, 3) := by decide +kernel
theorem dX2_init_26 : decode cX2_init 26 = .ok (.return_, 1) := by decide +kernel
theorem dX2_become_0 : decode cX2_become 0 = .ok (.aload_n 1, 1) := by decide +kernel
theorem dX2_become_1 : decode cX2_become 1 = .ok (.getfield 9, 3) := by decide +kernel
theorem dX2_become_4 : decode cX2_become 4 = .ok (.iconst 0, 1) := by decide +kernel
theorem dX2_become_5 : decode cX2_become 5 = .ok (.aload_n 0, 1) := by decide +kernel
theorem dX2_become_6 : decode cX2_become 6 = .ok (.getfield 9, 3) := by decide +kernel
theorem dX2_become_9 : decode cX2_become 9 = .ok (.iconst 0, 1) := by decide +kernel
theorem dX2_become_10 : decode cX2_become 10 = .ok (.bipush 7, 2) := by decide +kernel
theorem dX2_become_12 : decode cX2_become 12 = .ok (.invokestatic 22, 3) := by decide +kernel
theorem dX2_become_15 : decode cX2_become 15 = .ok (.aload_n 1, 1) := by decide +kernel
theorem dX2_become_16 : decode cX2_become 16 = .ok (.getfield 15, 3) := by decide +kernel
theorem dX2_become_19 : decode cX2_become 19 = .ok (.iconst 0, 1) := by decide +kernel
theorem dX2_become_20 : decode cX2_become 20 = .ok (.aload_n 0, 1) := by decide +kernel
theorem dX2_become_21 : decode cX2_become 21 = .ok (.getfield 15, 3) := by decide +kernel
theorem dX2_become_24 : decode cX2_become 24 = .ok (.iconst 0, 1) := by decide +kernel
theorem dX2_become_25 : decode cX2_become 25 = .ok (.sipush 420, 3) := by decide +kernel
theorem dX2_become_28 : decode cX2_become 28 = .ok (.invokestatic 22, 3) := by decide +kernel
theorem dX2_become_31 : decode cX2_become 31 = .ok (.aload_n 0, 1) := by decide +kernel
theorem dX2_become_32 : decode cX2_become 32 = .ok (.aload_n 1, 1) := by decide +kernel
theorem dX2_become_33 : decode cX2_become 33 = .ok (.getfield 28, 3) := by decide +kernel
theorem dX2_become_36 : decode cX2_become 36 = .ok (.putfield 28, 3) := by decide +kernel
theorem dX2_become_39 : decode cX2_become 39 = .ok (.aload_n 0, 1) := by decide +kernel
theorem dX2_become_40 : decode cX2_become 40 = .ok (.aload_n 1, 1) := by decide +kernel
theorem dX2_become_41 : decode cX2_become 41 = .ok (.getfield 31, 3) := by decide +kernel
theorem dX2_become_44 : decode cX2_become 44 = .ok (.putfield 31, 3) := by decide +kernel
theorem dX2_become_47 : decode cX2_become 47 = .ok (.aload_n 0, 1) := by decide +kernel
theorem dX2_become_48 : decode cX2_become 48 = .ok (.aload_n 1, 1) := by decide +kernel
theorem dX2_become_49 : decode cX2_become 49 = .ok (.getfield 18, 3) := by decide +kernel
theorem dX2_become_52 : decode cX2_become 52 = .ok (.putfield 18, 3) := by decide +kernel
theorem dX2_become_55 : decode cX2_become 55 = .ok (.aload_n 0, 1) := by decide +kernel
theorem dX2_become_56 : decode cX2_become 56 = .ok (.aload_n 1, 1) := by decide +kernel
theorem dX2_become_57 : decode cX2_become 57 = .ok (.getfield 34, 3) := by decide +kernel
theorem dX2_become_60 : decode cX2_become 60 = .ok (.putfield 34, 3) := by decide +kernel
theorem dX2_become_63 : decode cX2_become 63 = .ok (.aload_n 0, 1) := by decide +kernel
theorem dX2_become_64 : decode cX2_become 64 = .ok (.aload_n 1, 1) := by decide +kernel
theorem dX2_become_65 : decode cX2_become 65 = .ok (.getfield 37, 3) := by decide +kernel
theorem dX2_become_68 : decode cX2_become 68 = .ok (.putfield 37, 3) := by decide +kernel
theorem dX2_become_71 : decode cX2_become 71 = .ok (.aload_n 0, 1) := by decide +kernel
theorem dX2_become_72 : decode cX2_become 72 = .ok (.aload_n 1, 1) := by decide +kernel
theorem dX2_become_73 : decode cX2_become 73 = .ok (.getfield 40, 3) := by decide +kernel
theorem dX2_become_76 : decode cX2_become 76 = .ok (.putfield 40, 3) := by decide +kernel
theorem dX2_become_79 : decode cX2_become 79 = .ok (.return_, 1) := by decide +kernel
theorem dX2_pebbles_0 : decode cX2_pebbles 0 = .ok (.iconst 0, 1) := by decide +kernel
theorem dX2_pebbles_1 : decode cX2_pebbles 1 = .ok (.istore_n 1, 1) := by decide +kernel
theorem dX2_pebbles_2 : decode cX2_pebbles 2 = .ok (.iconst 0, 1) := by decide +kernel
theorem dX2_pebbles_3 : decode cX2_pebbles 3 = .ok (.istore_n 2, 1) := by decide +kernel
theorem dX2_pebbles_4 : decode cX2_pebbles 4 = .ok (.iload_n 2, 1) := by decide +kernel
theorem dX2_pebbles_5 : decode cX2_pebbles 5 = .ok (.bipush 7, 2) := by decide +kernel
theorem dX2_pebbles_7 : decode cX2_pebbles 7 = .ok (.if_icmp .ge 18, 3) := by decide +kernel
theorem dX2_pebbles_10 : decode cX2_pebbles 10 = .ok (.iload_n 1, 1) := by decide +kernel
theorem dX2_pebbles_11 : decode cX2_pebbles 11 = .ok (.aload_n 0, 1) := by decide +kernel
theorem dX2_pebbles_12 : decode cX2_pebbles 12 = .ok (.getfield 9, 3) := by decide +kernel
theorem dX2_pebbles_15 : decode cX2_pebbles 15 = .ok (.iload_n 2, 1) := by decide +kernel
theorem dX2_pebbles_16 : decode cX2_pebbles 16 = .ok (.iaload, 1) := by decide +kernel
theorem dX2_pebbles_17 : decode cX2_pebbles 17 = .ok (.iadd, 1) := by decide +kernel
theorem dX2_pebbles_18 : decode cX2_pebbles 18 = .ok (.istore_n 1, 1) := by decide +kernel
theorem dX2_pebbles_19 : decode cX2_pebbles 19 = .ok (.iinc 2 1, 3) := by decide +kernel
theorem dX2_pebbles_22 : decode cX2_pebbles 22 = .ok (.goto (-18), 3) := by decide +kernel
theorem dX2_pebbles_25 : decode cX2_pebbles 25 = .ok (.iload_n 1, 1) := by decide +kernel
theorem dX2_pebbles_26 : decode cX2_pebbles 26 = .ok (.ireturn, 1) := by decide +kernel
set_option maxRecDepth 20000 in
theorem ggX2_markAt_X9_isCairn : GoodIn wsX2_markAt wsX9_isCairn := goodIn_r _ [5] (by decide +kernel) (by decide +kernel)
set_option maxRecDepth 20000 in
theorem gX2_markAt_X9_isCairn_n43 : GoodIn wsX2_markAt (wsX9_isCairn) := ggX2_markAt_X9_isCairn
theorem dX2_markAt_0 : decode cX2_markAt 0 = .ok (.iload_n 1, 1) := by decide +kernel
theorem dX2_markAt_1 : decode cX2_markAt 1 = .ok (.invokestatic 43, 3) := by decide +kernel
theorem dX2_markAt_4 : decode cX2_markAt 4 = .ok (.ifCond .ne 5, 3) := by decide +kernel
theorem dX2_markAt_7 : decode cX2_markAt 7 = .ok (.iconst (-1), 1) := by decide +kernel
theorem dX2_markAt_8 : decode cX2_markAt 8 = .ok (.ireturn, 1) := by decide +kernel
theorem dX2_markAt_9 : decode cX2_markAt 9 = .ok (.aload_n 0, 1) := by decide +kernel
theorem dX2_markAt_10 : decode cX2_markAt 10 = .ok (.getfield 9, 3) := by decide +kernel
theorem dX2_markAt_13 : decode cX2_markAt 13 = .ok (.iload_n 1, 1) := by decide +kernel
theorem dX2_markAt_14 : decode cX2_markAt 14 = .ok (.iaload, 1) := by decide +kernel
theorem dX2_markAt_15 : decode cX2_markAt 15 = .ok (.iconst 1, 1) := by decide +kernel
theorem dX2_markAt_16 : decode cX2_markAt 16 = .ok (.isub, 1) := by decide +kernel
theorem dX2_markAt_17 : decode cX2_markAt 17 = .ok (.iload_n 2, 1) := by decide +kernel
theorem dX2_markAt_18 : decode cX2_markAt 18 = .ok (.isub, 1) := by decide +kernel
theorem dX2_markAt_19 : decode cX2_markAt 19 = .ok (.istore_n 3, 1) := by decide +kernel
theorem dX2_markAt_20 : decode cX2_markAt 20 = .ok (.iload_n 3, 1) := by decide +kernel
theorem dX2_markAt_21 : decode cX2_markAt 21 = .ok (.ifCond .lt 9, 3) := by decide +kernel
theorem dX2_markAt_24 : decode cX2_markAt 24 = .ok (.iload_n 3, 1) := by decide +kernel
theorem dX2_markAt_25 : decode cX2_markAt 25 = .ok (.bipush 60, 2) := by decide +kernel
theorem dX2_markAt_27 : decode cX2_markAt 27 = .ok (.if_icmp .lt 5, 3) := by decide +kernel
theorem dX2_markAt_30 : decode cX2_markAt 30 = .ok (.iconst (-1), 1) := by decide +kernel
theorem dX2_markAt_31 : decode cX2_markAt 31 = .ok (.ireturn, 1) := by decide +kernel
theorem dX2_markAt_32 : decode cX2_markAt 32 = .ok (.aload_n 0, 1) := by decide +kernel
theorem dX2_markAt_33 : decode cX2_markAt 33 = .ok (.getfield 15, 3) := by decide +kernel
theorem dX2_markAt_36 : decode cX2_markAt 36 = .ok (.iload_n 1, 1) := by decide +kernel
theorem dX2_markAt_37 : decode cX2_markAt 37 = .ok (.bipush 60, 2) := by decide +kernel
theorem dX2_markAt_39 : decode cX2_markAt 39 = .ok (.imul, 1) := by decide +kernel
theorem dX2_markAt_40 : decode cX2_markAt 40 = .ok (.iload_n 3, 1) := by decide +kernel
theorem dX2_markAt_41 : decode cX2_markAt 41 = .ok (.iadd, 1) := by decide +kernel
theorem dX2_markAt_42 : decode cX2_markAt 42 = .ok (.iaload, 1) := by decide +kernel
theorem dX2_markAt_43 : decode cX2_markAt 43 = .ok (.ireturn, 1) := by decide +kernel
theorem dX2_most_0 : decode cX2_most 0 = .ok (.iconst 0, 1) := by decide +kernel
theorem dX2_most_1 : decode cX2_most 1 = .ok (.istore_n 1, 1) := by decide +kernel
theorem dX2_most_2 : decode cX2_most 2 = .ok (.iconst 1, 1) := by decide +kernel
theorem dX2_most_3 : decode cX2_most 3 = .ok (.istore_n 2, 1) := by decide +kernel
theorem dX2_most_4 : decode cX2_most 4 = .ok (.iload_n 2, 1) := by decide +kernel
theorem dX2_most_5 : decode cX2_most 5 = .ok (.bipush 7, 2) := by decide +kernel
theorem dX2_most_7 : decode cX2_most 7 = .ok (.if_icmp .ge 26, 3) := by decide +kernel
theorem dX2_most_10 : decode cX2_most 10 = .ok (.aload_n 0, 1) := by decide +kernel
theorem dX2_most_11 : decode cX2_most 11 = .ok (.getfield 9, 3) := by decide +kernel
theorem dX2_most_14 : decode cX2_most 14 = .ok (.iload_n 2, 1) := by decide +kernel
theorem dX2_most_15 : decode cX2_most 15 = .ok (.iaload, 1) := by decide +kernel
theorem dX2_most_16 : decode cX2_most 16 = .ok (.aload_n 0, 1) := by decide +kernel
theorem dX2_most_17 : decode cX2_most 17 = .ok (.getfield 9, 3) := by decide +kernel
theorem dX2_most_20 : decode cX2_most 20 = .ok (.iload_n 1, 1) := by decide +kernel
theorem dX2_most_21 : decode cX2_most 21 = .ok (.iaload, 1) := by decide +kernel
theorem dX2_most_22 : decode cX2_most 22 = .ok (.if_icmp .le 5, 3) := by decide +kernel
theorem dX2_most_25 : decode cX2_most 25 = .ok (.iload_n 2, 1) := by decide +kernel
theorem dX2_most_26 : decode cX2_most 26 = .ok (.istore_n 1, 1) := by decide +kernel
theorem dX2_most_27 : decode cX2_most 27 = .ok (.iinc 2 1, 3) := by decide +kernel
theorem dX2_most_30 : decode cX2_most 30 = .ok (.goto (-26), 3) := by decide +kernel
theorem dX2_most_33 : decode cX2_most 33 = .ok (.iload_n 1, 1) := by decide +kernel
theorem dX2_most_34 : decode cX2_most 34 = .ok (.ireturn, 1) := by decide +kernel
theorem dX2_fewest_0 : decode cX2_fewest 0 = .ok (.iconst 0, 1) := by decide +kernel
theorem dX2_fewest_1 : decode cX2_fewest 1 = .ok (.istore_n 1, 1) := by decide +kernel
theorem dX2_fewest_2 : decode cX2_fewest 2 = .ok (.iconst 1, 1) := by decide +kernel
theorem dX2_fewest_3 : decode cX2_fewest 3 = .ok (.istore_n 2, 1) := by decide +kernel
theorem dX2_fewest_4 : decode cX2_fewest 4 = .ok (.iload_n 2, 1) := by decide +kernel
theorem dX2_fewest_5 : decode cX2_fewest 5 = .ok (.bipush 7, 2) := by decide +kernel
theorem dX2_fewest_7 : decode cX2_fewest 7 = .ok (.if_icmp .ge 26, 3) := by decide +kernel
theorem dX2_fewest_10 : decode cX2_fewest 10 = .ok (.aload_n 0, 1) := by decide +kernel
theorem dX2_fewest_11 : decode cX2_fewest 11 = .ok (.getfield 9, 3) := by decide +kernel
theorem dX2_fewest_14 : decode cX2_fewest 14 = .ok (.iload_n 2, 1) := by decide +kernel
theorem dX2_fewest_15 : decode cX2_fewest 15 = .ok (.iaload, 1) := by decide +kernel
theorem dX2_fewest_16 : decode cX2_fewest 16 = .ok (.aload_n 0, 1) := by decide +kernel
theorem dX2_fewest_17 : decode cX2_fewest 17 = .ok (.getfield 9, 3) := by decide +kernel
theorem dX2_fewest_20 : decode cX2_fewest 20 = .ok (.iload_n 1, 1) := by decide +kernel
theorem dX2_fewest_21 : decode cX2_fewest 21 = .ok (.iaload, 1) := by decide +kernel
theorem dX2_fewest_22 : decode cX2_fewest 22 = .ok (.if_icmp .ge 5, 3) := by decide +kernel
theorem dX2_fewest_25 : decode cX2_fewest 25 = .ok (.iload_n 2, 1) := by decide +kernel
theorem dX2_fewest_26 : decode cX2_fewest 26 = .ok (.istore_n 1, 1) := by decide +kernel
theorem dX2_fewest_27 : decode cX2_fewest 27 = .ok (.iinc 2 1, 3) := by decide +kernel
theorem dX2_fewest_30 : decode cX2_fewest 30 = .ok (.goto (-26), 3) := by decide +kernel
theorem dX2_fewest_33 : decode cX2_fewest 33 = .ok (.iload_n 1, 1) := by decide +kernel
theorem dX2_fewest_34 : decode cX2_fewest 34 = .ok (.ireturn, 1) := by decide +kernel
set_option maxRecDepth 20000 in
theorem ggX2_layNew_X2_put : GoodIn wsX2_layNew wsX2_put := goodIn_r _ [7, 8, 9, 10, 11, 12, 13, 14, 15, 16, 17, 18, 19, 20, 21] (by decide +kernel) (by decide +kernel)
set_option maxRecDepth 20000 in
theorem gX2_layNew_X2_put : GoodIn wsX2_layNew (wsV RX2 51 RX2 yX2_put wsX2_put) := goodIn_app (goodIn_of _ (by decide +kernel)) ggX2_layNew_X2_put
theorem dX2_layNew_0 : decode cX2_layNew 0 = .ok (.iconst 0, 1) := by decide +kernel
theorem dX2_layNew_1 : decode cX2_layNew 1 = .ok (.istore_n 3, 1) := by decide +kernel
theorem dX2_layNew_2 : decode cX2_layNew 2 = .ok (.iload_n 3, 1) := by decide +kernel
theorem dX2_layNew_3 : decode cX2_layNew 3 = .ok (.iload_n 2, 1) := by decide +kernel
theorem dX2_layNew_4 : decode cX2_layNew 4 = .ok (.if_icmp .ge 18, 3) := by decide +kernel
theorem dX2_layNew_7 : decode cX2_layNew 7 = .ok (.aload_n 0, 1) := by decide +kernel
theorem dX2_layNew_8 : decode cX2_layNew 8 = .ok (.iload_n 1, 1) := by decide +kernel
theorem dX2_layNew_9 : decode cX2_layNew 9 = .ok (.aload_n 0, 1) := by decide +kernel
theorem dX2_layNew_10 : decode cX2_layNew 10 = .ok (.getfield 28, 3) := by decide +kernel
theorem dX2_layNew_13 : decode cX2_layNew 13 = .ok (.invokevirtual 51, 3) := by decide +kernel
theorem dX2_layNew_16 : decode cX2_layNew 16 = .ok (.iinc 3 1, 3) := by decide +kernel
theorem dX2_layNew_19 : decode cX2_layNew 19 = .ok (.goto (-17), 3) := by decide +kernel
theorem dX2_layNew_22 : decode cX2_layNew 22 = .ok (.aload_n 0, 1) := by decide +kernel
theorem dX2_layNew_23 : decode cX2_layNew 23 = .ok (.dup, 1) := by decide +kernel
theorem dX2_layNew_24 : decode cX2_layNew 24 = .ok (.getfield 34, 3) := by decide +kernel
theorem dX2_layNew_27 : decode cX2_layNew 27 = .ok (.iload_n 2, 1) := by decide +kernel
theorem dX2_layNew_28 : decode cX2_layNew 28 = .ok (.iadd, 1) := by decide +kernel
theorem dX2_layNew_29 : decode cX2_layNew 29 = .ok (.putfield 34, 3) := by decide +kernel
theorem dX2_layNew_32 : decode cX2_layNew 32 = .ok (.return_, 1) := by decide +kernel
set_option maxRecDepth 20000 in
theorem ggX2_takeOff_X9_isCairn : GoodIn wsX2_takeOff wsX9_isCairn := goodIn_r _ [9] (by decide +kernel) (by decide +kernel)
set_option maxRecDepth 20000 in
theorem gX2_takeOff_X9_isCairn_n43 : GoodIn wsX2_takeOff (wsX9_isCairn) := ggX2_takeOff_X9_isCairn
theorem dX2_takeOff_0 : decode cX2_takeOff 0 = .ok (.iload_n 1, 1) := by decide +kernel
theorem dX2_takeOff_1 : decode cX2_takeOff 1 = .ok (.invokestatic 43, 3) := by decide +kernel
theorem dX2_takeOff_4 : decode cX2_takeOff 4 = .ok (.ifCond .ne 4, 3) := by decide +kernel
theorem dX2_takeOff_7 : decode cX2_takeOff 7 = .ok (.return_, 1) := by decide +kernel
theorem dX2_takeOff_8 : decode cX2_takeOff 8 = .ok (.iload_n 2, 1) := by decide +kernel
theorem dX2_takeOff_9 : decode cX2_takeOff 9 = .ok (.aload_n 0, 1) := by decide +kernel
theorem dX2_takeOff_10 : decode cX2_takeOff 10 = .ok (.getfield 9, 3) := by decide +kernel
theorem dX2_takeOff_13 : decode cX2_takeOff 13 = .ok (.iload_n 1, 1) := by decide +kernel
theorem dX2_takeOff_14 : decode cX2_takeOff 14 = .ok (.iaload, 1) := by decide +kernel
theorem dX2_takeOff_15 : decode cX2_takeOff 15 = .ok (.invokestatic 55, 3) := by decide +kernel
theorem dX2_takeOff_18 : decode cX2_takeOff 18 = .ok (.istore_n 3, 1) := by decide +kernel
theorem dX2_takeOff_19 : decode cX2_takeOff 19 = .ok (.aload_n 0, 1) := by decide +kernel
theorem dX2_takeOff_20 : decode cX2_takeOff 20 = .ok (.getfield 9, 3) := by decide +kernel
theorem dX2_takeOff_23 : decode cX2_takeOff 23 = .ok (.iload_n 1, 1) := by decide +kernel
theorem dX2_takeOff_24 : decode cX2_takeOff 24 = .ok (.dup2, 1) := by decide +kernel
theorem dX2_takeOff_25 : decode cX2_takeOff 25 = .ok (.iaload, 1) := by decide +kernel
theorem dX2_takeOff_26 : decode cX2_takeOff 26 = .ok (.iload_n 3, 1) := by decide +kernel
theorem dX2_takeOff_27 : decode cX2_takeOff 27 = .ok (.isub, 1) := by decide +kernel
theorem dX2_takeOff_28 : decode cX2_takeOff 28 = .ok (.iastore, 1) := by decide +kernel
theorem dX2_takeOff_29 : decode cX2_takeOff 29 = .ok (.aload_n 0, 1) := by decide +kernel
theorem dX2_takeOff_30 : decode cX2_takeOff 30 = .ok (.dup, 1) := by decide +kernel
theorem dX2_takeOff_31 : decode cX2_takeOff 31 = .ok (.getfield 37, 3) := by decide +kernel
theorem dX2_takeOff_34 : decode cX2_takeOff 34 = .ok (.iload_n 3, 1) := by decide +kernel
theorem dX2_takeOff_35 : decode cX2_takeOff 35 = .ok (.iadd, 1) := by decide +kernel
theorem dX2_takeOff_36 : decode cX2_takeOff 36 = .ok (.putfield 37, 3) := by decide +kernel
theorem dX2_takeOff_39 : decode cX2_takeOff 39 = .ok (.return_, 1) := by decide +kernel
set_option maxRecDepth 20000 in
theorem ggX2_goOneWeek_X2_walk : GoodIn wsX2_goOneWeek wsX2_walk := goodIn_r _ [7, 8, 9, 10, 11, 12, 13, 14, 15, 6, 16, 17, 18, 19, 20, 21, 22, 23, 24, 25, 26, 27, 28, 29, 30, 31, 32, 33, 34, 35, 36, 37, 38, 39, 40, 41, 42, 43, 44, 45, 46, 47, 48, 49, 50, 51, 52, 53, 1, 54, 55, 56, 57, 58, 59, 60, 61, 62, 63, 64, 65, 66, 67, 68, 69, 70, 71, 72, 73, 74, 75, 76, 77, 78, 79, 80, 81, 82, 83, 84, 85, 86, 87, 88, 89, 90, 91, 92, 93, 94, 95, 96, 97, 98, 99, 100, 101, 102, 103, 104, 105, 106, 107, 108, 127, 128, 129, 130, 131, 132, 133, 134, 135, 136, 137, 138, 139, 140, 141, 142, 143, 144, 145, 119, 120, 121, 122, 123, 124, 125, 126] (by decide +kernel) (by decide +kernel)
set_option maxRecDepth 20000 in
theorem gX2_goOneWeek_X2_walk : GoodIn wsX2_goOneWeek (wsV RX2 65 RX2 yX2_walk wsX2_walk) := goodIn_app (goodIn_of _ (by decide +kernel)) ggX2_goOneWeek_X2_walk
set_option maxRecDepth 20000 in
theorem ggX2_goOneWeek_X1_floodsIn : GoodIn wsX2_goOneWeek wsX1_floodsIn := goodIn_r _ [113, 114, 143, 144, 145] (by decide +kernel) (by decide +kernel)
set_option maxRecDepth 20000 in
theorem gX2_goOneWeek_X1_floodsIn : GoodIn wsX2_goOneWeek (wsV RX2 69 RX1 yX1_floodsIn wsX1_floodsIn) := goodIn_app (goodIn_of _ (by decide +kernel)) ggX2_goOneWeek_X1_floodsIn
set_option maxRecDepth 20000 in
theorem ggX2_goOneWeek_X2_flood : GoodIn wsX2_goOneWeek wsX2_flood := goodIn_r _ [118, 29, 30, 31, 32, 6, 33, 61, 62, 63, 96, 97, 98, 99, 100, 101, 102, 103, 104, 119, 120, 121, 122, 123, 124, 125, 126] (by decide +kernel) (by decide +kernel)
set_option maxRecDepth 20000 in
theorem gX2_goOneWeek_X2_flood : GoodIn wsX2_goOneWeek (wsV RX2 74 RX2 yX2_flood wsX2_flood) := goodIn_app (goodIn_of _ (by decide +kernel)) ggX2_goOneWeek_X2_flood
theorem dX2_goOneWeek_0 : decode cX2_goOneWeek 0 = .ok (.aload_n 0, 1) := by decide +kernel
theorem dX2_goOneWeek_1 : decode cX2_goOneWeek 1 = .ok (.dup, 1) := by decide +kernel
theorem dX2_goOneWeek_2 : decode cX2_goOneWeek 2 = .ok (.getfield 28, 3) := by decide +kernel
theorem dX2_goOneWeek_5 : decode cX2_goOneWeek 5 = .ok (.iconst 1, 1) := by decide +kernel
theorem dX2_goOneWeek_6 : decode cX2_goOneWeek 6 = .ok (.iadd, 1) := by decide +kernel
theorem dX2_goOneWeek_7 : decode cX2_goOneWeek 7 = .ok (.putfield 28, 3) := by decide +kernel
theorem dX2_goOneWeek_10 : decode cX2_goOneWeek 10 = .ok (.iconst 0, 1) := by decide +kernel
theorem dX2_goOneWeek_11 : decode cX2_goOneWeek 11 = .ok (.istore_n 3, 1) := by decide +kernel
theorem dX2_goOneWeek_12 : decode cX2_goOneWeek 12 = .ok (.iload_n 3, 1) := by decide +kernel
theorem dX2_goOneWeek_13 : decode cX2_goOneWeek 13 = .ok (.aload_n 2, 1) := by decide +kernel
theorem dX2_goOneWeek_14 : decode cX2_goOneWeek 14 = .ok (.arraylength, 1) := by decide +kernel
theorem dX2_goOneWeek_15 : decode cX2_goOneWeek 15 = .ok (.if_icmp .ge 49, 3) := by decide +kernel
theorem dX2_goOneWeek_18 : decode cX2_goOneWeek 18 = .ok (.aload_n 2, 1) := by decide +kernel
theorem dX2_goOneWeek_19 : decode cX2_goOneWeek 19 = .ok (.iload_n 3, 1) := by decide +kernel
theorem dX2_goOneWeek_20 : decode cX2_goOneWeek 20 = .ok (.aaload, 1) := by decide +kernel
theorem dX2_goOneWeek_21 : decode cX2_goOneWeek 21 = .ok (.astore 4, 2) := by decide +kernel
theorem dX2_goOneWeek_23 : decode cX2_goOneWeek 23 = .ok (.aload 4, 2) := by decide +kernel
theorem dX2_goOneWeek_25 : decode cX2_goOneWeek 25 = .ok (.ifnonnull 6, 3) := by decide +kernel
theorem dX2_goOneWeek_28 : decode cX2_goOneWeek 28 = .ok (.goto 36, 3) := by decide +kernel
theorem dX2_goOneWeek_31 : decode cX2_goOneWeek 31 = .ok (.iconst 0, 1) := by decide +kernel
theorem dX2_goOneWeek_32 : decode cX2_goOneWeek 32 = .ok (.istore 5, 2) := by decide +kernel
theorem dX2_goOneWeek_34 : decode cX2_goOneWeek 34 = .ok (.iload 5, 2) := by decide +kernel
theorem dX2_goOneWeek_36 : decode cX2_goOneWeek 36 = .ok (.aload 4, 2) := by decide +kernel
theorem dX2_goOneWeek_38 : decode cX2_goOneWeek 38 = .ok (.getfield 60, 3) := by decide +kernel
theorem dX2_goOneWeek_41 : decode cX2_goOneWeek 41 = .ok (.if_icmp .ge 17, 3) := by decide +kernel
theorem dX2_goOneWeek_44 : decode cX2_goOneWeek 44 = .ok (.aload_n 0, 1) := by decide +kernel
theorem dX2_goOneWeek_45 : decode cX2_goOneWeek 45 = .ok (.aload_n 1, 1) := by decide +kernel
theorem dX2_goOneWeek_46 : decode cX2_goOneWeek 46 = .ok (.aload 4, 2) := by decide +kernel
theorem dX2_goOneWeek_48 : decode cX2_goOneWeek 48 = .ok (.iload_n 3, 1) := by decide +kernel
theorem dX2_goOneWeek_49 : decode cX2_goOneWeek 49 = .ok (.invokevirtual 65, 3) := by decide +kernel
theorem dX2_goOneWeek_52 : decode cX2_goOneWeek 52 = .ok (.iinc 5 1, 3) := by decide +kernel
theorem dX2_goOneWeek_55 : decode cX2_goOneWeek 55 = .ok (.goto (-21), 3) := by decide +kernel
theorem dX2_goOneWeek_58 : decode cX2_goOneWeek 58 = .ok (.iinc 3 1, 3) := by decide +kernel
theorem dX2_goOneWeek_61 : decode cX2_goOneWeek 61 = .ok (.goto (-49), 3) := by decide +kernel
theorem dX2_goOneWeek_64 : decode cX2_goOneWeek 64 = .ok (.aload_n 1, 1) := by decide +kernel
theorem dX2_goOneWeek_65 : decode cX2_goOneWeek 65 = .ok (.aload_n 0, 1) := by decide +kernel
theorem dX2_goOneWeek_66 : decode cX2_goOneWeek 66 = .ok (.getfield 28, 3) := by decide +kernel
theorem dX2_goOneWeek_69 : decode cX2_goOneWeek 69 = .ok (.invokevirtual 69, 3) := by decide +kernel
theorem dX2_goOneWeek_72 : decode cX2_goOneWeek 72 = .ok (.ifCond .eq 7, 3) := by decide +kernel
theorem dX2_goOneWeek_75 : decode cX2_goOneWeek 75 = .ok (.aload_n 0, 1) := by decide +kernel
theorem dX2_goOneWeek_76 : decode cX2_goOneWeek 76 = .ok (.invokevirtual 74, 3) := by decide +kernel
theorem dX2_goOneWeek_79 : decode cX2_goOneWeek 79 = .ok (.return_, 1) := by decide +kernel
set_option maxRecDepth 20000 in
theorem ggX2_walk_X2_draw : GoodIn wsX2_walk wsX2_draw := goodIn_r _ [10, 11, 12, 13, 14, 123, 124, 125, 126, 127, 128, 129, 130] (by decide +kernel) (by decide +kernel)
set_option maxRecDepth 20000 in
theorem gX2_walk_X2_draw : GoodIn wsX2_walk (wsV RX2 77 RX2 yX2_draw wsX2_draw) := goodIn_app (goodIn_of _ (by decide +kernel)) ggX2_walk_X2_draw
set_option maxRecDepth 20000 in
theorem ggX2_walk_X2_cairnBy : GoodIn wsX2_walk wsX2_cairnBy := goodIn_r _ [18, 3, 19, 20, 21, 9, 22, 23, 24, 25, 26, 27, 123, 124, 125, 126, 127, 128, 129, 130] (by decide +kernel) (by decide +kernel)
set_option maxRecDepth 20000 in
theorem gX2_walk_X2_cairnBy : GoodIn wsX2_walk (wsV RX2 87 RX2 yX2_cairnBy wsX2_cairnBy) := goodIn_app (goodIn_of _ (by decide +kernel)) ggX2_walk_X2_cairnBy
set_option maxRecDepth 20000 in
theorem ggX2_walk_X5_gift : GoodIn wsX2_walk wsX5_gift := goodIn_r _ [33] (by decide +kernel) (by decide +kernel)
set_option maxRecDepth 20000 in
theorem gX2_walk_X5_gift_u90X0 : GoodIn wsX2_walk (va_wsU RX2 90 RX0 "KneelingStones$Parish" ⟨"KneelingStones$Parish", "gift", "()I"⟩ yX5_gift wsX5_gift) := goodIn_app (goodIn_of _ (by decide +kernel)) ggX2_walk_X5_gift
set_option maxRecDepth 20000 in
theorem gX2_walk_X5_gift : GoodIn wsX2_walk (wsV RX2 90 RX5 yX5_gift wsX5_gift) := goodIn_app (goodIn_of _ (by decide +kernel)) ggX2_walk_X5_gift
set_option maxRecDepth 20000 in
theorem ggX2_walk_X6_gift : GoodIn wsX2_walk wsX6_gift := goodIn_r _ [40, 41, 42, 104, 105, 106, 107, 108, 109, 110, 111, 112, 113, 114, 115, 116, 117, 118, 119] (by decide +kernel) (by decide +kernel)
set_option maxRecDepth 20000 in
theorem gX2_walk_X6_gift_u90X6 : GoodIn wsX2_walk (va_wsO RX2 90 RX6 "KneelingStones$Parish" ⟨"KneelingStones$Parish", "gift", "()I"⟩ yX6_gift wsX6_gift) := goodIn_app (goodIn_of _ (by decide +kernel)) ggX2_walk_X6_gift
set_option maxRecDepth 20000 in
theorem gX2_walk_X5_gift_u90X7 : GoodIn wsX2_walk (va_wsU RX2 90 RX7 "KneelingStones$Parish" ⟨"KneelingStones$Parish", "gift", "()I"⟩ yX5_gift wsX5_gift) := goodIn_app (goodIn_of _ (by decide +kernel)) ggX2_walk_X5_gift
set_option maxRecDepth 20000 in
theorem ggX2_walk_X2_layNew : GoodIn wsX2_walk wsX2_layNew := goodIn_r _ [47, 48, 49, 50, 51, 52, 9, 53, 23, 54, 55, 56, 57, 58, 123, 124, 125, 126, 127, 128, 129, 130] (by decide +kernel) (by decide +kernel)
set_option maxRecDepth 20000 in
theorem gX2_walk_X2_layNew : GoodIn wsX2_walk (wsV RX2 93 RX2 yX2_layNew wsX2_layNew) := goodIn_app (goodIn_of _ (by decide +kernel)) ggX2_walk_X2_layNew
set_option maxRecDepth 20000 in
theorem ggX2_walk_X0_sinsAtMost : GoodIn wsX2_walk wsX0_sinsAtMost := goodIn_r _ [65] (by decide +kernel) (by decide +kernel)
set_option maxRecDepth 20000 in
theorem gX2_walk_X0_sinsAtMost_u99X0 : GoodIn wsX2_walk (va_wsO RX2 99 RX0 "KneelingStones$Parish" ⟨"KneelingStones$Parish", "sinsAtMost", "()Z"⟩ yX0_sinsAtMost wsX0_sinsAtMost) := goodIn_app (goodIn_of _ (by decide +kernel)) ggX2_walk_X0_sinsAtMost
set_option maxRecDepth 20000 in
theorem ggX2_walk_X5_sinsAtMost : GoodIn wsX2_walk wsX5_sinsAtMost := goodIn_r _ [66] (by decide +kernel) (by decide +kernel)
set_option maxRecDepth 20000 in
theorem gX2_walk_X5_sinsAtMost : GoodIn wsX2_walk (wsV RX2 99 RX5 yX5_sinsAtMost wsX5_sinsAtMost) := goodIn_app (goodIn_of _ (by decide +kernel)) ggX2_walk_X5_sinsAtMost
set_option maxRecDepth 20000 in
theorem gX2_walk_X5_sinsAtMost_u99X6 : GoodIn wsX2_walk (va_wsU RX2 99 RX6 "KneelingStones$Parish" ⟨"KneelingStones$Parish", "sinsAtMost", "()Z"⟩ yX5_sinsAtMost wsX5_sinsAtMost) := goodIn_app (goodIn_of _ (by decide +kernel)) ggX2_walk_X5_sinsAtMost
set_option maxRecDepth 20000 in
theorem gX2_walk_X5_sinsAtMost_u99X7 : GoodIn wsX2_walk (va_wsU RX2 99 RX7 "KneelingStones$Parish" ⟨"KneelingStones$Parish", "sinsAtMost", "()Z"⟩ yX5_sinsAtMost wsX5_sinsAtMost) := goodIn_app (goodIn_of _ (by decide +kernel)) ggX2_walk_X5_sinsAtMost
set_option maxRecDepth 20000 in
theorem ggX2_walk_X2_most : GoodIn wsX2_walk wsX2_most := goodIn_r _ [22, 23, 123, 124, 125, 126, 127, 128, 129, 130] (by decide +kernel) (by decide +kernel)
set_option maxRecDepth 20000 in
theorem gX2_walk_X2_most : GoodIn wsX2_walk (wsV RX2 103 RX2 yX2_most wsX2_most) := goodIn_app (goodIn_of _ (by decide +kernel)) ggX2_walk_X2_most
set_option maxRecDepth 20000 in
theorem ggX2_walk_X7_hidesOn : GoodIn wsX2_walk wsX7_hidesOn := goodIn_r _ [78, 79, 80, 104, 105, 106, 107, 108, 109, 110, 111, 112, 113, 114, 115, 116, 117, 118, 119] (by decide +kernel) (by decide +kernel)
set_option maxRecDepth 20000 in
theorem gX2_walk_X7_hidesOn_u109X0 : GoodIn wsX2_walk (va_wsO RX2 109 RX0 "KneelingStones$Parish" ⟨"KneelingStones$Parish", "hidesOn", "()I"⟩ yX7_hidesOn wsX7_hidesOn) := goodIn_app (goodIn_of _ (by decide +kernel)) ggX2_walk_X7_hidesOn
set_option maxRecDepth 20000 in
theorem ggX2_walk_X5_hidesOn : GoodIn wsX2_walk wsX5_hidesOn := goodIn_r _ [81] (by decide +kernel) (by decide +kernel)
set_option maxRecDepth 20000 in
theorem gX2_walk_X5_hidesOn : GoodIn wsX2_walk (wsV RX2 109 RX5 yX5_hidesOn wsX5_hidesOn) := goodIn_app (goodIn_of _ (by decide +kernel)) ggX2_walk_X5_hidesOn
set_option maxRecDepth 20000 in
theorem gX2_walk_X5_hidesOn_u109X6 : GoodIn wsX2_walk (va_wsU RX2 109 RX6 "KneelingStones$Parish" ⟨"KneelingStones$Parish", "hidesOn", "()I"⟩ yX5_hidesOn wsX5_hidesOn) := goodIn_app (goodIn_of _ (by decide +kernel)) ggX2_walk_X5_hidesOn
set_option maxRecDepth 20000 in
theorem gX2_walk_X7_hidesOn_u109X7 : GoodIn wsX2_walk (va_wsO RX2 109 RX7 "KneelingStones$Parish" ⟨"KneelingStones$Parish", "hidesOn", "()I"⟩ yX7_hidesOn wsX7_hidesOn) := goodIn_app (goodIn_of _ (by decide +kernel)) ggX2_walk_X7_hidesOn
set_option maxRecDepth 20000 in
theorem ggX2_walk_X2_steal : GoodIn wsX2_walk wsX2_steal := goodIn_r _ [90, 23, 91, 92, 93, 9, 94, 95, 96, 97, 98, 99, 56, 57, 58, 100, 101, 102, 103, 55, 50, 51, 52, 53, 54, 123, 124, 125, 126, 127, 128, 129, 130] (by decide +kernel) (by decide +kernel)
set_option maxRecDepth 20000 in
theorem gX2_walk_X2_steal : GoodIn wsX2_walk (wsV RX2 112 RX2 yX2_steal wsX2_steal) := goodIn_app (goodIn_of _ (by decide +kernel)) ggX2_walk_X2_steal
theorem dX2_walk_0 : decode cX2_walk 0 = .ok (.aload_n 0, 1) := by decide +kernel
theorem dX2_walk_1 : decode cX2_walk 1 = .ok (.invokevirtual 77, 3) := by decide +kernel
theorem dX2_walk_4 : decode cX2_walk 4 = .ok (.aload_n 2, 1) := by decide +kernel
theorem dX2_walk_5 : decode cX2_walk 5 = .ok (.getfield 81, 3) := by decide +kernel
theorem dX2_walk_8 : decode cX2_walk 8 = .ok (.if_icmp .ge 33, 3) := by decide +kernel
theorem dX2_walk_11 : decode cX2_walk 11 = .ok (.aload_n 0, 1) := by decide +kernel
theorem dX2_walk_12 : decode cX2_walk 12 = .ok (.aload_n 1, 1) := by decide +kernel
theorem dX2_walk_13 : decode cX2_walk 13 = .ok (.getfield 84, 3) := by decide +kernel
theorem dX2_walk_16 : decode cX2_walk 16 = .ok (.iload_n 3, 1) := by decide +kernel
theorem dX2_walk_17 : decode cX2_walk 17 = .ok (.invokevirtual 87, 3) := by decide +kernel
theorem dX2_walk_20 : decode cX2_walk 20 = .ok (.istore 4, 2) := by decide +kernel
theorem dX2_walk_22 : decode cX2_walk 22 = .ok (.aload_n 0, 1) := by decide +kernel
theorem dX2_walk_23 : decode cX2_walk 23 = .ok (.iload 4, 2) := by decide +kernel
theorem dX2_walk_25 : decode cX2_walk 25 = .ok (.aload_n 2, 1) := by decide +kernel
theorem dX2_walk_26 : decode cX2_walk 26 = .ok (.invokevirtual 90, 3) := by decide +kernel
theorem dX2_walk_29 : decode cX2_walk 29 = .ok (.invokevirtual 93, 3) := by decide +kernel
theorem dX2_walk_32 : decode cX2_walk 32 = .ok (.aload_n 0, 1) := by decide +kernel
theorem dX2_walk_33 : decode cX2_walk 33 = .ok (.iload 4, 2) := by decide +kernel
theorem dX2_walk_35 : decode cX2_walk 35 = .ok (.putfield 31, 3) := by decide +kernel
theorem dX2_walk_38 : decode cX2_walk 38 = .ok (.goto 55, 3) := by decide +kernel
theorem dX2_walk_41 : decode cX2_walk 41 = .ok (.aload_n 0, 1) := by decide +kernel
theorem dX2_walk_42 : decode cX2_walk 42 = .ok (.invokevirtual 77, 3) := by decide +kernel
theorem dX2_walk_45 : decode cX2_walk 45 = .ok (.aload_n 2, 1) := by decide +kernel
theorem dX2_walk_46 : decode cX2_walk 46 = .ok (.getfield 96, 3) := by decide +kernel
theorem dX2_walk_49 : decode cX2_walk 49 = .ok (.if_icmp .ge 44, 3) := by decide +kernel
theorem dX2_walk_52 : decode cX2_walk 52 = .ok (.aload_n 2, 1) := by decide +kernel
theorem dX2_walk_53 : decode cX2_walk 53 = .ok (.invokevirtual 99, 3) := by decide +kernel
theorem dX2_walk_56 : decode cX2_walk 56 = .ok (.ifCond .eq 10, 3) := by decide +kernel
theorem dX2_walk_59 : decode cX2_walk 59 = .ok (.aload_n 0, 1) := by decide +kernel
theorem dX2_walk_60 : decode cX2_walk 60 = .ok (.invokevirtual 103, 3) := by decide +kernel
theorem dX2_walk_63 : decode cX2_walk 63 = .ok (.goto 12, 3) := by decide +kernel
theorem dX2_walk_66 : decode cX2_walk 66 = .ok (.aload_n 0, 1) := by decide +kernel
theorem dX2_walk_67 : decode cX2_walk 67 = .ok (.aload_n 1, 1) := by decide +kernel
theorem dX2_walk_68 : decode cX2_walk 68 = .ok (.getfield 106, 3) := by decide +kernel
theorem dX2_walk_71 : decode cX2_walk 71 = .ok (.iload_n 3, 1) := by decide +kernel
theorem dX2_walk_72 : decode cX2_walk 72 = .ok (.invokevirtual 87, 3) := by decide +kernel
theorem dX2_walk_75 : decode cX2_walk 75 = .ok (.istore 4, 2) := by decide +kernel
theorem dX2_walk_77 : decode cX2_walk 77 = .ok (.aload_n 0, 1) := by decide +kernel
theorem dX2_walk_78 : decode cX2_walk 78 = .ok (.iload 4, 2) := by decide +kernel
theorem dX2_walk_80 : decode cX2_walk 80 = .ok (.aload_n 2, 1) := by decide +kernel
theorem dX2_walk_81 : decode cX2_walk 81 = .ok (.invokevirtual 109, 3) := by decide +kernel
theorem dX2_walk_84 : decode cX2_walk 84 = .ok (.invokevirtual 112, 3) := by decide +kernel
theorem dX2_walk_87 : decode cX2_walk 87 = .ok (.aload_n 0, 1) := by decide +kernel
theorem dX2_walk_88 : decode cX2_walk 88 = .ok (.iload 4, 2) := by decide +kernel
theorem dX2_walk_90 : decode cX2_walk 90 = .ok (.putfield 31, 3) := by decide +kernel
theorem dX2_walk_93 : decode cX2_walk 93 = .ok (.return_, 1) := by decide +kernel
set_option maxRecDepth 20000 in
theorem ggX2_steal_X2_takeOff : GoodIn wsX2_steal wsX2_takeOff := goodIn_r _ [6, 1, 7, 8, 9, 10, 11, 12, 13, 14, 25, 26, 27, 28, 29, 30, 31, 32] (by decide +kernel) (by decide +kernel)
set_option maxRecDepth 20000 in
theorem gX2_steal_X2_takeOff : GoodIn wsX2_steal (wsV RX2 115 RX2 yX2_takeOff wsX2_takeOff) := goodIn_app (goodIn_of _ (by decide +kernel)) ggX2_steal_X2_takeOff
set_option maxRecDepth 20000 in
theorem ggX2_steal_X2_markAt : GoodIn wsX2_steal wsX2_markAt := goodIn_r _ [18, 1, 19, 12, 13, 14, 25, 26, 27, 28, 29, 30, 31, 32] (by decide +kernel) (by decide +kernel)
set_option maxRecDepth 20000 in
theorem gX2_steal_X2_markAt : GoodIn wsX2_steal (wsV RX2 118 RX2 yX2_markAt wsX2_markAt) := goodIn_app (goodIn_of _ (by decide +kernel)) ggX2_steal_X2_markAt
set_option maxRecDepth 20000 in
theorem ggX2_steal_X9_isCairn : GoodIn wsX2_steal wsX9_isCairn := goodIn_r _ [14] (by decide +kernel) (by decide +kernel)
set_option maxRecDepth 20000 in
theorem gX2_steal_X9_isCairn_n43 : GoodIn wsX2_steal (wsX9_isCairn) := ggX2_steal_X9_isCairn
set_option maxRecDepth 20000 in
theorem ggX2_steal_X2_put : GoodIn wsX2_steal wsX2_put := goodIn_r _ [23, 1, 24, 19, 12, 13, 14, 25, 26, 27, 28, 29, 30, 31, 32] (by decide +kernel) (by decide +kernel)
set_option maxRecDepth 20000 in
theorem gX2_steal_X2_put : GoodIn wsX2_steal (wsV RX2 51 RX2 yX2_put wsX2_put) := goodIn_app (goodIn_of _ (by decide +kernel)) ggX2_steal_X2_put
theorem dX2_steal_0 : decode cX2_steal 0 = .ok (.iload_n 2, 1) := by decide +kernel
theorem dX2_steal_1 : decode cX2_steal 1 = .ok (.iconst (-1), 1) := by decide +kernel
theorem dX2_steal_2 : decode cX2_steal 2 = .ok (.if_icmp .ne 10, 3) := by decide +kernel
theorem dX2_steal_5 : decode cX2_steal 5 = .ok (.aload_n 0, 1) := by decide +kernel
theorem dX2_steal_6 : decode cX2_steal 6 = .ok (.iload_n 1, 1) := by decide +kernel
theorem dX2_steal_7 : decode cX2_steal 7 = .ok (.iconst 1, 1) := by decide +kernel
theorem dX2_steal_8 : decode cX2_steal 8 = .ok (.invokevirtual 115, 3) := by decide +kernel
theorem dX2_steal_11 : decode cX2_steal 11 = .ok (.return_, 1) := by decide +kernel
theorem dX2_steal_12 : decode cX2_steal 12 = .ok (.aload_n 0, 1) := by decide +kernel
theorem dX2_steal_13 : decode cX2_steal 13 = .ok (.iload_n 1, 1) := by decide +kernel
theorem dX2_steal_14 : decode cX2_steal 14 = .ok (.iconst 0, 1) := by decide +kernel
theorem dX2_steal_15 : decode cX2_steal 15 = .ok (.invokevirtual 118, 3) := by decide +kernel
theorem dX2_steal_18 : decode cX2_steal 18 = .ok (.istore_n 3, 1) := by decide +kernel
theorem dX2_steal_19 : decode cX2_steal 19 = .ok (.iload_n 3, 1) := by decide +kernel
theorem dX2_steal_20 : decode cX2_steal 20 = .ok (.iconst (-1), 1) := by decide +kernel
theorem dX2_steal_21 : decode cX2_steal 21 = .ok (.if_icmp .eq 10, 3) := by decide +kernel
theorem dX2_steal_24 : decode cX2_steal 24 = .ok (.iload_n 1, 1) := by decide +kernel
theorem dX2_steal_25 : decode cX2_steal 25 = .ok (.invokestatic 43, 3) := by decide +kernel
theorem dX2_steal_28 : decode cX2_steal 28 = .ok (.ifCond .ne 4, 3) := by decide +kernel
theorem dX2_steal_31 : decode cX2_steal 31 = .ok (.return_, 1) := by decide +kernel
theorem dX2_steal_32 : decode cX2_steal 32 = .ok (.aload_n 0, 1) := by decide +kernel
theorem dX2_steal_33 : decode cX2_steal 33 = .ok (.getfield 9, 3) := by decide +kernel
theorem dX2_steal_36 : decode cX2_steal 36 = .ok (.iload_n 1, 1) := by decide +kernel
theorem dX2_steal_37 : decode cX2_steal 37 = .ok (.dup2, 1) := by decide +kernel
theorem dX2_steal_38 : decode cX2_steal 38 = .ok (.iaload, 1) := by decide +kernel
theorem dX2_steal_39 : decode cX2_steal 39 = .ok (.iconst 1, 1) := by decide +kernel
theorem dX2_steal_40 : decode cX2_steal 40 = .ok (.isub, 1) := by decide +kernel
theorem dX2_steal_41 : decode cX2_steal 41 = .ok (.iastore, 1) := by decide +kernel
theorem dX2_steal_42 : decode cX2_steal 42 = .ok (.aload_n 0, 1) := by decide +kernel
theorem dX2_steal_43 : decode cX2_steal 43 = .ok (.iload_n 2, 1) := by decide +kernel
theorem dX2_steal_44 : decode cX2_steal 44 = .ok (.iload_n 3, 1) := by decide +kernel
theorem dX2_steal_45 : decode cX2_steal 45 = .ok (.invokevirtual 51, 3) := by decide +kernel
theorem dX2_steal_48 : decode cX2_steal 48 = .ok (.return_, 1) := by decide +kernel
set_option maxRecDepth 20000 in
theorem ggX2_flood_X2_fewest : GoodIn wsX2_flood wsX2_fewest := goodIn_r _ [6, 1, 19, 20, 21, 22, 23, 24, 25, 26] (by decide +kernel) (by decide +kernel)
set_option maxRecDepth 20000 in
theorem gX2_flood_X2_fewest : GoodIn wsX2_flood (wsV RX2 121 RX2 yX2_fewest wsX2_fewest) := goodIn_app (goodIn_of _ (by decide +kernel)) ggX2_flood_X2_fewest
set_option maxRecDepth 20000 in
theorem ggX2_flood_X9_isCairn : GoodIn wsX2_flood wsX9_isCairn := goodIn_r _ [9] (by decide +kernel) (by decide +kernel)
set_option maxRecDepth 20000 in
theorem gX2_flood_X9_isCairn_n43 : GoodIn wsX2_flood (wsX9_isCairn) := ggX2_flood_X9_isCairn
set_option maxRecDepth 20000 in
theorem ggX2_flood_X2_takeOff : GoodIn wsX2_flood wsX2_takeOff := goodIn_r _ [13, 1, 14, 15, 16, 17, 18, 7, 8, 9, 19, 20, 21, 22, 23, 24, 25, 26] (by decide +kernel) (by decide +kernel)
set_option maxRecDepth 20000 in
theorem gX2_flood_X2_takeOff : GoodIn wsX2_flood (wsV RX2 115 RX2 yX2_takeOff wsX2_takeOff) := goodIn_app (goodIn_of _ (by decide +kernel)) ggX2_flood_X2_takeOff
theorem dX2_flood_0 : decode cX2_flood 0 = .ok (.aload_n 0, 1) := by decide +kernel
theorem dX2_flood_1 : decode cX2_flood 1 = .ok (.invokevirtual 121, 3) := by decide +kernel
theorem dX2_flood_4 : decode cX2_flood 4 = .ok (.istore_n 1, 1) := by decide +kernel
theorem dX2_flood_5 : decode cX2_flood 5 = .ok (.iload_n 1, 1) := by decide +kernel
theorem dX2_flood_6 : decode cX2_flood 6 = .ok (.invokestatic 43, 3) := by decide +kernel
theorem dX2_flood_9 : decode cX2_flood 9 = .ok (.ifCond .eq 18, 3) := by decide +kernel
theorem dX2_flood_12 : decode cX2_flood 12 = .ok (.aload_n 0, 1) := by decide +kernel
theorem dX2_flood_13 : decode cX2_flood 13 = .ok (.iload_n 1, 1) := by decide +kernel
theorem dX2_flood_14 : decode cX2_flood 14 = .ok (.aload_n 0, 1) := by decide +kernel
theorem dX2_flood_15 : decode cX2_flood 15 = .ok (.getfield 9, 3) := by decide +kernel
theorem dX2_flood_18 : decode cX2_flood 18 = .ok (.iload_n 1, 1) := by decide +kernel
theorem dX2_flood_19 : decode cX2_flood 19 = .ok (.iaload, 1) := by decide +kernel
theorem dX2_flood_20 : decode cX2_flood 20 = .ok (.iconst 1, 1) := by decide +kernel
theorem dX2_flood_21 : decode cX2_flood 21 = .ok (.iadd, 1) := by decide +kernel
theorem dX2_flood_22 : decode cX2_flood 22 = .ok (.iconst 2, 1) := by decide +kernel
theorem dX2_flood_23 : decode cX2_flood 23 = .ok (.idiv, 1) := by decide +kernel
theorem dX2_flood_24 : decode cX2_flood 24 = .ok (.invokevirtual 115, 3) := by decide +kernel
theorem dX2_flood_27 : decode cX2_flood 27 = .ok (.return_, 1) := by decide +kernel
set_option maxRecDepth 20000 in
theorem ggX2_put_X9_isCairn : GoodIn wsX2_put wsX9_isCairn := goodIn_r _ [6] (by decide +kernel) (by decide +kernel)
set_option maxRecDepth 20000 in
theorem gX2_put_X9_isCairn_n43 : GoodIn wsX2_put (wsX9_isCairn) := ggX2_put_X9_isCairn
theorem dX2_put_0 : decode cX2_put 0 = .ok (.iload_n 1, 1) := by decide +kernel
theorem dX2_put_1 : decode cX2_put 1 = .ok (.invokestatic 43, 3) := by decide +kernel
theorem dX2_put_4 : decode cX2_put 4 = .ok (.ifCond .ne 4, 3) := by decide +kernel
theorem dX2_put_7 : decode cX2_put 7 = .ok (.return_, 1) := by decide +kernel
theorem dX2_put_8 : decode cX2_put 8 = .ok (.aload_n 0, 1) := by decide +kernel
theorem dX2_put_9 : decode cX2_put 9 = .ok (.getfield 9, 3) := by decide +kernel
theorem dX2_put_12 : decode cX2_put 12 = .ok (.iload_n 1, 1) := by decide +kernel
theorem dX2_put_13 : decode cX2_put 13 = .ok (.iaload, 1) := by decide +kernel
theorem dX2_put_14 : decode cX2_put 14 = .ok (.istore_n 3, 1) := by decide +kernel
theorem dX2_put_15 : decode cX2_put 15 = .ok (.iload_n 3, 1) := by decide +kernel
theorem dX2_put_16 : decode cX2_put 16 = .ok (.ifCond .lt 9, 3) := by decide +kernel
theorem dX2_put_19 : decode cX2_put 19 = .ok (.iload_n 3, 1) := by decide +kernel
theorem dX2_put_20 : decode cX2_put 20 = .ok (.bipush 60, 2) := by decide +kernel
theorem dX2_put_22 : decode cX2_put 22 = .ok (.if_icmp .lt 14, 3) := by decide +kernel
theorem dX2_put_25 : decode cX2_put 25 = .ok (.aload_n 0, 1) := by decide +kernel
theorem dX2_put_26 : decode cX2_put 26 = .ok (.dup, 1) := by decide +kernel
theorem dX2_put_27 : decode cX2_put 27 = .ok (.getfield 40, 3) := by decide +kernel
theorem dX2_put_30 : decode cX2_put 30 = .ok (.iconst 1, 1) := by decide +kernel
theorem dX2_put_31 : decode cX2_put 31 = .ok (.iadd, 1) := by decide +kernel
theorem dX2_put_32 : decode cX2_put 32 = .ok (.putfield 40, 3) := by decide +kernel
theorem dX2_put_35 : decode cX2_put 35 = .ok (.return_, 1) := by decide +kernel
theorem dX2_put_36 : decode cX2_put 36 = .ok (.aload_n 0, 1) := by decide +kernel
theorem dX2_put_37 : decode cX2_put 37 = .ok (.getfield 15, 3) := by decide +kernel
theorem dX2_put_40 : decode cX2_put 40 = .ok (.iload_n 1, 1) := by decide +kernel
theorem dX2_put_41 : decode cX2_put 41 = .ok (.bipush 60, 2) := by decide +kernel
theorem dX2_put_43 : decode cX2_put 43 = .ok (.imul, 1) := by decide +kernel
theorem dX2_put_44 : decode cX2_put 44 = .ok (.iload_n 3, 1) := by decide +kernel
theorem dX2_put_45 : decode cX2_put 45 = .ok (.iadd, 1) := by decide +kernel
theorem dX2_put_46 : decode cX2_put 46 = .ok (.iload_n 2, 1) := by decide +kernel
theorem dX2_put_47 : decode cX2_put 47 = .ok (.iastore, 1) := by decide +kernel
theorem dX2_put_48 : decode cX2_put 48 = .ok (.aload_n 0, 1) := by decide +kernel
theorem dX2_put_49 : decode cX2_put 49 = .ok (.getfield 9, 3) := by decide +kernel
theorem dX2_put_52 : decode cX2_put 52 = .ok (.iload_n 1, 1) := by decide +kernel
theorem dX2_put_53 : decode cX2_put 53 = .ok (.iload_n 3, 1) := by decide +kernel
theorem dX2_put_54 : decode cX2_put 54 = .ok (.iconst 1, 1) := by decide +kernel
theorem dX2_put_55 : decode cX2_put 55 = .ok (.iadd, 1) := by decide +kernel
theorem dX2_put_56 : decode cX2_put 56 = .ok (.iastore, 1) := by decide +kernel
theorem dX2_put_57 : decode cX2_put 57 = .ok (.return_, 1) := by decide +kernel
set_option maxRecDepth 20000 in
theorem ggX2_cairnBy_X2_most : GoodIn wsX2_cairnBy wsX2_most := goodIn_r _ [6, 7, 12, 13, 14, 15, 16, 17, 18, 19] (by decide +kernel) (by decide +kernel)
set_option maxRecDepth 20000 in
theorem gX2_cairnBy_X2_most : GoodIn wsX2_cairnBy (wsV RX2 103 RX2 yX2_most wsX2_most) := goodIn_app (goodIn_of _ (by decide +kernel)) ggX2_cairnBy_X2_most
set_option maxRecDepth 20000 in
theorem ggX2_cairnBy_X2_fewest : GoodIn wsX2_cairnBy wsX2_fewest := goodIn_r _ [11, 7, 12, 13, 14, 15, 16, 17, 18, 19] (by decide +kernel) (by decide +kernel)
set_option maxRecDepth 20000 in
theorem gX2_cairnBy_X2_fewest : GoodIn wsX2_cairnBy (wsV RX2 121 RX2 yX2_fewest wsX2_fewest) := goodIn_app (goodIn_of _ (by decide +kernel)) ggX2_cairnBy_X2_fewest
theorem dX2_cairnBy_0 : decode cX2_cairnBy 0 = .ok (.iload_n 1, 1) := by decide +kernel
theorem dX2_cairnBy_1 : decode cX2_cairnBy 1 = .ok (.tableswitch 53 7 10 #[31, 36, 41, 43], 31) := by decide +kernel
theorem dX2_cairnBy_32 : decode cX2_cairnBy 32 = .ok (.aload_n 0, 1) := by decide +kernel
theorem dX2_cairnBy_33 : decode cX2_cairnBy 33 = .ok (.invokevirtual 103, 3) := by decide +kernel
theorem dX2_cairnBy_36 : decode cX2_cairnBy 36 = .ok (.ireturn, 1) := by decide +kernel
theorem dX2_cairnBy_37 : decode cX2_cairnBy 37 = .ok (.aload_n 0, 1) := by decide +kernel
theorem dX2_cairnBy_38 : decode cX2_cairnBy 38 = .ok (.invokevirtual 121, 3) := by decide +kernel
theorem dX2_cairnBy_41 : decode cX2_cairnBy 41 = .ok (.ireturn, 1) := by decide +kernel
theorem dX2_cairnBy_42 : decode cX2_cairnBy 42 = .ok (.iload_n 2, 1) := by decide +kernel
theorem dX2_cairnBy_43 : decode cX2_cairnBy 43 = .ok (.ireturn, 1) := by decide +kernel
theorem dX2_cairnBy_44 : decode cX2_cairnBy 44 = .ok (.aload_n 0, 1) := by decide +kernel
theorem dX2_cairnBy_45 : decode cX2_cairnBy 45 = .ok (.getfield 31, 3) := by decide +kernel
theorem dX2_cairnBy_48 : decode cX2_cairnBy 48 = .ok (.iconst 1, 1) := by decide +kernel
theorem dX2_cairnBy_49 : decode cX2_cairnBy 49 = .ok (.iadd, 1) := by decide +kernel
theorem dX2_cairnBy_50 : decode cX2_cairnBy 50 = .ok (.bipush 7, 2) := by decide +kernel
theorem dX2_cairnBy_52 : decode cX2_cairnBy 52 = .ok (.irem, 1) := by decide +kernel
theorem dX2_cairnBy_53 : decode cX2_cairnBy 53 = .ok (.ireturn, 1) := by decide +kernel
theorem dX2_cairnBy_54 : decode cX2_cairnBy 54 = .ok (.iload_n 1, 1) := by decide +kernel
theorem dX2_cairnBy_55 : decode cX2_cairnBy 55 = .ok (.ireturn, 1) := by decide +kernel
theorem dX2_draw_0 : decode cX2_draw 0 = .ok (.aload_n 0, 1) := by decide +kernel
theorem dX2_draw_1 : decode cX2_draw 1 = .ok (.ldc2_w 124, 3) := by decide +kernel
theorem dX2_draw_4 : decode cX2_draw 4 = .ok (.aload_n 0, 1) := by decide +kernel
theorem dX2_draw_5 : decode cX2_draw 5 = .ok (.getfield 18, 3) := by decide +kernel
theorem dX2_draw_8 : decode cX2_draw 8 = .ok (.i2l, 1) := by decide +kernel
theorem dX2_draw_9 : decode cX2_draw 9 = .ok (.lmul, 1) := by decide +kernel
theorem dX2_draw_10 : decode cX2_draw 10 = .ok (.ldc2_w 126, 3) := by decide +kernel
theorem dX2_draw_13 : decode cX2_draw 13 = .ok (.ladd, 1) := by decide +kernel
theorem dX2_draw_14 : decode cX2_draw 14 = .ok (.ldc2_w 128, 3) := by decide +kernel
theorem dX2_draw_17 : decode cX2_draw 17 = .ok (.land, 1) := by decide +kernel
theorem dX2_draw_18 : decode cX2_draw 18 = .ok (.l2i, 1) := by decide +kernel
theorem dX2_draw_19 : decode cX2_draw 19 = .ok (.putfield 18, 3) := by decide +kernel
theorem dX2_draw_22 : decode cX2_draw 22 = .ok (.aload_n 0, 1) := by decide +kernel
theorem dX2_draw_23 : decode cX2_draw 23 = .ok (.getfield 18, 3) := by decide +kernel
theorem dX2_draw_26 : decode cX2_draw 26 = .ok (.bipush 16, 2) := by decide +kernel
theorem dX2_draw_28 : decode cX2_draw 28 = .ok (.ishr, 1) := by decide +kernel
theorem dX2_draw_29 : decode cX2_draw 29 = .ok (.bipush 10, 2) := by decide +kernel
theorem dX2_draw_31 : decode cX2_draw 31 = .ok (.irem, 1) := by decide +kernel
theorem dX2_draw_32 : decode cX2_draw 32 = .ok (.ireturn, 1) := by decide +kernel
theorem dX4_init_0 : decode cX4_init 0 = .ok (.aload_n 0, 1) := by decide +kernel
theorem dX4_init_1 : decode cX4_init 1 = .ok (.invokespecial 3, 3) := by decide +kernel
theorem dX4_init_4 : decode cX4_init 4 = .ok (.aload_n 0, 1) := by decide +kernel
theorem dX4_init_5 : decode cX4_init 5 = .ok (.bipush 16, 2) := by decide +kernel
theorem dX4_init_7 : decode cX4_init 7 = .ok (.newarray .int, 2) := by decide +kernel
theorem dX4_init_9 : decode cX4_init 9 = .ok (.putfield 9, 3) := by decide +kernel
theorem dX4_init_12 : decode cX4_init 12 = .ok (.return_, 1) := by decide +kernel
set_option maxRecDepth 20000 in
theorem ggX4_lettersIn_X4_codeAt : GoodIn wsX4_lettersIn wsX4_codeAt := goodIn_r _ [4, 5] (by decide +kernel) (by decide +kernel)
set_option maxRecDepth 20000 in
theorem gX4_lettersIn_X4_codeAt : GoodIn wsX4_lettersIn (va_wsS RX4 15 yX4_codeAt wsX4_codeAt) := goodIn_app (goodIn_of _ (by decide +kernel)) ggX4_lettersIn_X4_codeAt
theorem dX4_lettersIn_0 : decode cX4_lettersIn 0 = .ok (.iconst 0, 1) := by decide +kernel
theorem dX4_lettersIn_1 : decode cX4_lettersIn 1 = .ok (.istore_n 2, 1) := by decide +kernel
theorem dX4_lettersIn_2 : decode cX4_lettersIn 2 = .ok (.iconst 0, 1) := by decide +kernel
theorem dX4_lettersIn_3 : decode cX4_lettersIn 3 = .ok (.istore_n 3, 1) := by decide +kernel
theorem dX4_lettersIn_4 : decode cX4_lettersIn 4 = .ok (.iload_n 3, 1) := by decide +kernel
theorem dX4_lettersIn_5 : decode cX4_lettersIn 5 = .ok (.bipush 8, 2) := by decide +kernel
theorem dX4_lettersIn_7 : decode cX4_lettersIn 7 = .ok (.if_icmp .ge 43, 3) := by decide +kernel
theorem dX4_lettersIn_10 : decode cX4_lettersIn 10 = .ok (.lload_n 0, 1) := by decide +kernel
theorem dX4_lettersIn_11 : decode cX4_lettersIn 11 = .ok (.iload_n 3, 1) := by decide +kernel
theorem dX4_lettersIn_12 : decode cX4_lettersIn 12 = .ok (.invokestatic 15, 3) := by decide +kernel
theorem dX4_lettersIn_15 : decode cX4_lettersIn 15 = .ok (.istore 4, 2) := by decide +kernel
theorem dX4_lettersIn_17 : decode cX4_lettersIn 17 = .ok (.iload 4, 2) := by decide +kernel
theorem dX4_lettersIn_19 : decode cX4_lettersIn 19 = .ok (.bipush 126, 2) := by decide +kernel
theorem dX4_lettersIn_21 : decode cX4_lettersIn 21 = .ok (.if_icmp .gt 13, 3) := by decide +kernel
theorem dX4_lettersIn_24 : decode cX4_lettersIn 24 = .ok (.iload 4, 2) := by decide +kernel
theorem dX4_lettersIn_26 : decode cX4_lettersIn 26 = .ok (.ifCond .eq 10, 3) := by decide +kernel
theorem dX4_lettersIn_29 : decode cX4_lettersIn 29 = .ok (.iload_n 2, 1) := by decide +kernel
theorem dX4_lettersIn_30 : decode cX4_lettersIn 30 = .ok (.iload_n 3, 1) := by decide +kernel
end
section
theorem dX4_lettersIn_31 : decode cX4_lettersIn 31 = .ok (.if_icmp .ge 5, 3) := by decide +kernel
theorem dX4_lettersIn_34 : decode cX4_lettersIn 34 = .ok (.iconst (-1), 1) := by decide +kernel
theorem dX4_lettersIn_35 : decode cX4_lettersIn 35 = .ok (.ireturn, 1) := by decide +kernel
theorem dX4_lettersIn_36 : decode cX4_lettersIn 36 = .ok (.iload 4, 2) := by decide +kernel
theorem dX4_lettersIn_38 : decode cX4_lettersIn 38 = .ok (.ifCond .eq 6, 3) := by decide +kernel
theorem dX4_lettersIn_41 : decode cX4_lettersIn 41 = .ok (.iinc 2 1, 3) := by decide +kernel
theorem dX4_lettersIn_44 : decode cX4_lettersIn 44 = .ok (.iinc 3 1, 3) := by decide +kernel
theorem dX4_lettersIn_47 : decode cX4_lettersIn 47 = .ok (.goto (-43), 3) := by decide +kernel
theorem dX4_lettersIn_50 : decode cX4_lettersIn 50 = .ok (.iload_n 2, 1) := by decide +kernel
theorem dX4_lettersIn_51 : decode cX4_lettersIn 51 = .ok (.ireturn, 1) := by decide +kernel
theorem dX4_codeAt_0 : decode cX4_codeAt 0 = .ok (.lload_n 0, 1) := by decide +kernel
theorem dX4_codeAt_1 : decode cX4_codeAt 1 = .ok (.bipush 8, 2) := by decide +kernel
theorem dX4_codeAt_3 : decode cX4_codeAt 3 = .ok (.iload_n 2, 1) := by decide +kernel
theorem dX4_codeAt_4 : decode cX4_codeAt 4 = .ok (.imul, 1) := by decide +kernel
theorem dX4_codeAt_5 : decode cX4_codeAt 5 = .ok (.lushr, 1) := by decide +kernel
theorem dX4_codeAt_6 : decode cX4_codeAt 6 = .ok (.ldc2_w 19, 3) := by decide +kernel
theorem dX4_codeAt_9 : decode cX4_codeAt 9 = .ok (.land, 1) := by decide +kernel
theorem dX4_codeAt_10 : decode cX4_codeAt 10 = .ok (.l2i, 1) := by decide +kernel
theorem dX4_codeAt_11 : decode cX4_codeAt 11 = .ok (.ireturn, 1) := by decide +kernel
set_option maxRecDepth 20000 in
theorem ggX4_write_X4_codeAt : GoodIn wsX4_write wsX4_codeAt := goodIn_r _ [6, 7] (by decide +kernel) (by decide +kernel)
set_option maxRecDepth 20000 in
theorem gX4_write_X4_codeAt : GoodIn wsX4_write (va_wsS RX4 15 yX4_codeAt wsX4_codeAt) := goodIn_app (goodIn_of _ (by decide +kernel)) ggX4_write_X4_codeAt
theorem dX4_write_0 : decode cX4_write 0 = .ok (.iconst 0, 1) := by decide +kernel
theorem dX4_write_1 : decode cX4_write 1 = .ok (.istore 4, 2) := by decide +kernel
theorem dX4_write_3 : decode cX4_write 3 = .ok (.iload 4, 2) := by decide +kernel
theorem dX4_write_5 : decode cX4_write 5 = .ok (.iload_n 3, 1) := by decide +kernel
theorem dX4_write_6 : decode cX4_write 6 = .ok (.if_icmp .ge 50, 3) := by decide +kernel
theorem dX4_write_9 : decode cX4_write 9 = .ok (.aload_n 0, 1) := by decide +kernel
theorem dX4_write_10 : decode cX4_write 10 = .ok (.getfield 21, 3) := by decide +kernel
theorem dX4_write_13 : decode cX4_write 13 = .ok (.ifCond .lt 43, 3) := by decide +kernel
theorem dX4_write_16 : decode cX4_write 16 = .ok (.aload_n 0, 1) := by decide +kernel
theorem dX4_write_17 : decode cX4_write 17 = .ok (.getfield 21, 3) := by decide +kernel
theorem dX4_write_20 : decode cX4_write 20 = .ok (.bipush 16, 2) := by decide +kernel
theorem dX4_write_22 : decode cX4_write 22 = .ok (.if_icmp .ge 34, 3) := by decide +kernel
theorem dX4_write_25 : decode cX4_write 25 = .ok (.aload_n 0, 1) := by decide +kernel
theorem dX4_write_26 : decode cX4_write 26 = .ok (.getfield 9, 3) := by decide +kernel
theorem dX4_write_29 : decode cX4_write 29 = .ok (.aload_n 0, 1) := by decide +kernel
theorem dX4_write_30 : decode cX4_write 30 = .ok (.getfield 21, 3) := by decide +kernel
theorem dX4_write_33 : decode cX4_write 33 = .ok (.lload_n 1, 1) := by decide +kernel
theorem dX4_write_34 : decode cX4_write 34 = .ok (.iload 4, 2) := by decide +kernel
theorem dX4_write_36 : decode cX4_write 36 = .ok (.invokestatic 15, 3) := by decide +kernel
theorem dX4_write_39 : decode cX4_write 39 = .ok (.iastore, 1) := by decide +kernel
theorem dX4_write_40 : decode cX4_write 40 = .ok (.aload_n 0, 1) := by decide +kernel
theorem dX4_write_41 : decode cX4_write 41 = .ok (.dup, 1) := by decide +kernel
theorem dX4_write_42 : decode cX4_write 42 = .ok (.getfield 21, 3) := by decide +kernel
theorem dX4_write_45 : decode cX4_write 45 = .ok (.iconst 1, 1) := by decide +kernel
theorem dX4_write_46 : decode cX4_write 46 = .ok (.iadd, 1) := by decide +kernel
theorem dX4_write_47 : decode cX4_write 47 = .ok (.putfield 21, 3) := by decide +kernel
theorem dX4_write_50 : decode cX4_write 50 = .ok (.iinc 4 1, 3) := by decide +kernel
theorem dX4_write_53 : decode cX4_write 53 = .ok (.goto (-50), 3) := by decide +kernel
theorem dX4_write_56 : decode cX4_write 56 = .ok (.return_, 1) := by decide +kernel
set_option maxRecDepth 20000 in
theorem ggX4_firstWrong_X4_codeOf : GoodIn wsX4_firstWrong wsX4_codeOf := goodIn_r _ [6, 7, 14, 15] (by decide +kernel) (by decide +kernel)
set_option maxRecDepth 20000 in
theorem gX4_firstWrong_X4_codeOf : GoodIn wsX4_firstWrong (wsV RX4 25 RX4 yX4_codeOf wsX4_codeOf) := goodIn_app (goodIn_of _ (by decide +kernel)) ggX4_firstWrong_X4_codeOf
set_option maxRecDepth 20000 in
theorem ggX4_firstWrong_X4_fits : GoodIn wsX4_firstWrong wsX4_fits := goodIn_r _ [10, 11, 12, 5, 13] (by decide +kernel) (by decide +kernel)
set_option maxRecDepth 20000 in
theorem gX4_firstWrong_X4_fits : GoodIn wsX4_firstWrong (va_wsS RX4 29 yX4_fits wsX4_fits) := goodIn_app (goodIn_of _ (by decide +kernel)) ggX4_firstWrong_X4_fits
theorem dX4_firstWrong_0 : decode cX4_firstWrong 0 = .ok (.iconst 0, 1) := by decide +kernel
theorem dX4_firstWrong_1 : decode cX4_firstWrong 1 = .ok (.istore_n 1, 1) := by decide +kernel
theorem dX4_firstWrong_2 : decode cX4_firstWrong 2 = .ok (.iload_n 1, 1) := by decide +kernel
theorem dX4_firstWrong_3 : decode cX4_firstWrong 3 = .ok (.aload_n 0, 1) := by decide +kernel
theorem dX4_firstWrong_4 : decode cX4_firstWrong 4 = .ok (.getfield 21, 3) := by decide +kernel
theorem dX4_firstWrong_7 : decode cX4_firstWrong 7 = .ok (.if_icmp .ge 23, 3) := by decide +kernel
theorem dX4_firstWrong_10 : decode cX4_firstWrong 10 = .ok (.iload_n 1, 1) := by decide +kernel
theorem dX4_firstWrong_11 : decode cX4_firstWrong 11 = .ok (.aload_n 0, 1) := by decide +kernel
theorem dX4_firstWrong_12 : decode cX4_firstWrong 12 = .ok (.iload_n 1, 1) := by decide +kernel
theorem dX4_firstWrong_13 : decode cX4_firstWrong 13 = .ok (.invokevirtual 25, 3) := by decide +kernel
theorem dX4_firstWrong_16 : decode cX4_firstWrong 16 = .ok (.invokestatic 29, 3) := by decide +kernel
theorem dX4_firstWrong_19 : decode cX4_firstWrong 19 = .ok (.ifCond .ne 5, 3) := by decide +kernel
theorem dX4_firstWrong_22 : decode cX4_firstWrong 22 = .ok (.iload_n 1, 1) := by decide +kernel
theorem dX4_firstWrong_23 : decode cX4_firstWrong 23 = .ok (.ireturn, 1) := by decide +kernel
theorem dX4_firstWrong_24 : decode cX4_firstWrong 24 = .ok (.iinc 1 1, 3) := by decide +kernel
theorem dX4_firstWrong_27 : decode cX4_firstWrong 27 = .ok (.goto (-25), 3) := by decide +kernel
theorem dX4_firstWrong_30 : decode cX4_firstWrong 30 = .ok (.aload_n 0, 1) := by decide +kernel
theorem dX4_firstWrong_31 : decode cX4_firstWrong 31 = .ok (.getfield 21, 3) := by decide +kernel
theorem dX4_firstWrong_34 : decode cX4_firstWrong 34 = .ok (.ireturn, 1) := by decide +kernel
set_option maxRecDepth 20000 in
theorem ggX4_isCustom_X4_firstWrong : GoodIn wsX4_isCustom wsX4_firstWrong := goodIn_r _ [6, 1, 7, 8, 9, 5, 10, 11, 12, 13, 14, 15, 16, 17, 18, 19] (by decide +kernel) (by decide +kernel)
set_option maxRecDepth 20000 in
theorem gX4_isCustom_X4_firstWrong : GoodIn wsX4_isCustom (wsV RX4 33 RX4 yX4_firstWrong wsX4_firstWrong) := goodIn_app (goodIn_of _ (by decide +kernel)) ggX4_isCustom_X4_firstWrong
theorem dX4_isCustom_0 : decode cX4_isCustom 0 = .ok (.aload_n 0, 1) := by decide +kernel
theorem dX4_isCustom_1 : decode cX4_isCustom 1 = .ok (.getfield 21, 3) := by decide +kernel
theorem dX4_isCustom_4 : decode cX4_isCustom 4 = .ok (.iconst 4, 1) := by decide +kernel
theorem dX4_isCustom_5 : decode cX4_isCustom 5 = .ok (.if_icmp .eq 12, 3) := by decide +kernel
theorem dX4_isCustom_8 : decode cX4_isCustom 8 = .ok (.aload_n 0, 1) := by decide +kernel
theorem dX4_isCustom_9 : decode cX4_isCustom 9 = .ok (.getfield 21, 3) := by decide +kernel
theorem dX4_isCustom_12 : decode cX4_isCustom 12 = .ok (.bipush 6, 2) := by decide +kernel
theorem dX4_isCustom_14 : decode cX4_isCustom 14 = .ok (.if_icmp .ne 18, 3) := by decide +kernel
theorem dX4_isCustom_17 : decode cX4_isCustom 17 = .ok (.aload_n 0, 1) := by decide +kernel
theorem dX4_isCustom_18 : decode cX4_isCustom 18 = .ok (.invokevirtual 33, 3) := by decide +kernel
theorem dX4_isCustom_21 : decode cX4_isCustom 21 = .ok (.aload_n 0, 1) := by decide +kernel
theorem dX4_isCustom_22 : decode cX4_isCustom 22 = .ok (.getfield 21, 3) := by decide +kernel
theorem dX4_isCustom_25 : decode cX4_isCustom 25 = .ok (.if_icmp .ne 7, 3) := by decide +kernel
theorem dX4_isCustom_28 : decode cX4_isCustom 28 = .ok (.iconst 1, 1) := by decide +kernel
theorem dX4_isCustom_29 : decode cX4_isCustom 29 = .ok (.goto 4, 3) := by decide +kernel
theorem dX4_isCustom_32 : decode cX4_isCustom 32 = .ok (.iconst 0, 1) := by decide +kernel
theorem dX4_isCustom_33 : decode cX4_isCustom 33 = .ok (.ireturn, 1) := by decide +kernel
set_option maxRecDepth 20000 in
theorem ggX4_asCustom_X4_codeOf : GoodIn wsX4_asCustom wsX4_codeOf := goodIn_r _ [9, 10, 23, 24] (by decide +kernel) (by decide +kernel)
set_option maxRecDepth 20000 in
theorem gX4_asCustom_X4_codeOf : GoodIn wsX4_asCustom (wsV RX4 25 RX4 yX4_codeOf wsX4_codeOf) := goodIn_app (goodIn_of _ (by decide +kernel)) ggX4_asCustom_X4_codeOf
set_option maxRecDepth 20000 in
theorem ggX4_asCustom_X4_ruleOf : GoodIn wsX4_asCustom wsX4_ruleOf := goodIn_r _ [13] (by decide +kernel) (by decide +kernel)
set_option maxRecDepth 20000 in
theorem gX4_asCustom_X4_ruleOf : GoodIn wsX4_asCustom (va_wsS RX4 39 yX4_ruleOf wsX4_ruleOf) := goodIn_app (goodIn_of _ (by decide +kernel)) ggX4_asCustom_X4_ruleOf
set_option maxRecDepth 20000 in
theorem ggX4_asCustom_X1_init : GoodIn wsX4_asCustom wsX1_init := goodIn_r _ [16, 17, 18, 19, 20, 21, 22, 25, 26, 27] (by decide +kernel) (by decide +kernel)
set_option maxRecDepth 20000 in
theorem gX4_asCustom_X1_init : GoodIn wsX4_asCustom (wsX1_init) := ggX4_asCustom_X1_init
theorem dX4_asCustom_0 : decode cX4_asCustom 0 = .ok (.aload_n 0, 1) := by decide +kernel
theorem dX4_asCustom_1 : decode cX4_asCustom 1 = .ok (.getfield 21, 3) := by decide +kernel
theorem dX4_asCustom_4 : decode cX4_asCustom 4 = .ok (.bipush 6, 2) := by decide +kernel
theorem dX4_asCustom_6 : decode cX4_asCustom 6 = .ok (.if_icmp .ne 14, 3) := by decide +kernel
theorem dX4_asCustom_9 : decode cX4_asCustom 9 = .ok (.aload_n 0, 1) := by decide +kernel
theorem dX4_asCustom_10 : decode cX4_asCustom 10 = .ok (.iconst 5, 1) := by decide +kernel
theorem dX4_asCustom_11 : decode cX4_asCustom 11 = .ok (.invokevirtual 25, 3) := by decide +kernel
theorem dX4_asCustom_14 : decode cX4_asCustom 14 = .ok (.bipush 48, 2) := by decide +kernel
theorem dX4_asCustom_16 : decode cX4_asCustom 16 = .ok (.isub, 1) := by decide +kernel
theorem dX4_asCustom_17 : decode cX4_asCustom 17 = .ok (.goto 4, 3) := by decide +kernel
theorem dX4_asCustom_20 : decode cX4_asCustom 20 = .ok (.iconst 0, 1) := by decide +kernel
theorem dX4_asCustom_21 : decode cX4_asCustom 21 = .ok (.istore_n 1, 1) := by decide +kernel
theorem dX4_asCustom_22 : decode cX4_asCustom 22 = .ok (.new 37, 3) := by decide +kernel
theorem dX4_asCustom_25 : decode cX4_asCustom 25 = .ok (.dup, 1) := by decide +kernel
theorem dX4_asCustom_26 : decode cX4_asCustom 26 = .ok (.aload_n 0, 1) := by decide +kernel
theorem dX4_asCustom_27 : decode cX4_asCustom 27 = .ok (.iconst 1, 1) := by decide +kernel
theorem dX4_asCustom_28 : decode cX4_asCustom 28 = .ok (.invokevirtual 25, 3) := by decide +kernel
theorem dX4_asCustom_31 : decode cX4_asCustom 31 = .ok (.invokestatic 39, 3) := by decide +kernel
theorem dX4_asCustom_34 : decode cX4_asCustom 34 = .ok (.aload_n 0, 1) := by decide +kernel
theorem dX4_asCustom_35 : decode cX4_asCustom 35 = .ok (.iconst 3, 1) := by decide +kernel
theorem dX4_asCustom_36 : decode cX4_asCustom 36 = .ok (.invokevirtual 25, 3) := by decide +kernel
theorem dX4_asCustom_39 : decode cX4_asCustom 39 = .ok (.invokestatic 39, 3) := by decide +kernel
theorem dX4_asCustom_42 : decode cX4_asCustom 42 = .ok (.iload_n 1, 1) := by decide +kernel
theorem dX4_asCustom_43 : decode cX4_asCustom 43 = .ok (.invokespecial 42, 3) := by decide +kernel
theorem dX4_asCustom_46 : decode cX4_asCustom 46 = .ok (.areturn, 1) := by decide +kernel
theorem dX4_codeOf_0 : decode cX4_codeOf 0 = .ok (.iload_n 1, 1) := by decide +kernel
theorem dX4_codeOf_1 : decode cX4_codeOf 1 = .ok (.ifCond .lt 9, 3) := by decide +kernel
theorem dX4_codeOf_4 : decode cX4_codeOf 4 = .ok (.iload_n 1, 1) := by decide +kernel
theorem dX4_codeOf_5 : decode cX4_codeOf 5 = .ok (.bipush 16, 2) := by decide +kernel
theorem dX4_codeOf_7 : decode cX4_codeOf 7 = .ok (.if_icmp .lt 7, 3) := by decide +kernel
theorem dX4_codeOf_10 : decode cX4_codeOf 10 = .ok (.iconst 0, 1) := by decide +kernel
theorem dX4_codeOf_11 : decode cX4_codeOf 11 = .ok (.goto 9, 3) := by decide +kernel
theorem dX4_codeOf_14 : decode cX4_codeOf 14 = .ok (.aload_n 0, 1) := by decide +kernel
theorem dX4_codeOf_15 : decode cX4_codeOf 15 = .ok (.getfield 9, 3) := by decide +kernel
theorem dX4_codeOf_18 : decode cX4_codeOf 18 = .ok (.iload_n 1, 1) := by decide +kernel
theorem dX4_codeOf_19 : decode cX4_codeOf 19 = .ok (.iaload, 1) := by decide +kernel
theorem dX4_codeOf_20 : decode cX4_codeOf 20 = .ok (.ireturn, 1) := by decide +kernel
set_option maxRecDepth 20000 in
theorem ggX4_fits_X4_ruleOf : GoodIn wsX4_fits wsX4_ruleOf := goodIn_r _ [4] (by decide +kernel) (by decide +kernel)
set_option maxRecDepth 20000 in
theorem gX4_fits_X4_ruleOf : GoodIn wsX4_fits (va_wsS RX4 39 yX4_ruleOf wsX4_ruleOf) := goodIn_app (goodIn_of _ (by decide +kernel)) ggX4_fits_X4_ruleOf
theorem dX4_fits_0 : decode cX4_fits 0 = .ok (.iload_n 0, 1) := by decide +kernel
theorem dX4_fits_1 : decode cX4_fits 1 = .ok (.tableswitch 121 0 5 #[39, 51, 65, 77, 91, 103], 39) := by decide +kernel
theorem dX4_fits_40 : decode cX4_fits 40 = .ok (.iload_n 1, 1) := by decide +kernel
theorem dX4_fits_41 : decode cX4_fits 41 = .ok (.bipush 119, 2) := by decide +kernel
theorem dX4_fits_43 : decode cX4_fits 43 = .ok (.if_icmp .ne 7, 3) := by decide +kernel
theorem dX4_fits_46 : decode cX4_fits 46 = .ok (.iconst 1, 1) := by decide +kernel
theorem dX4_fits_47 : decode cX4_fits 47 = .ok (.goto 4, 3) := by decide +kernel
theorem dX4_fits_50 : decode cX4_fits 50 = .ok (.iconst 0, 1) := by decide +kernel
theorem dX4_fits_51 : decode cX4_fits 51 = .ok (.ireturn, 1) := by decide +kernel
theorem dX4_fits_52 : decode cX4_fits 52 = .ok (.iload_n 1, 1) := by decide +kernel
theorem dX4_fits_53 : decode cX4_fits 53 = .ok (.invokestatic 39, 3) := by decide +kernel
theorem dX4_fits_56 : decode cX4_fits 56 = .ok (.iconst (-1), 1) := by decide +kernel
theorem dX4_fits_57 : decode cX4_fits 57 = .ok (.if_icmp .eq 7, 3) := by decide +kernel
theorem dX4_fits_60 : decode cX4_fits 60 = .ok (.iconst 1, 1) := by decide +kernel
theorem dX4_fits_61 : decode cX4_fits 61 = .ok (.goto 4, 3) := by decide +kernel
theorem dX4_fits_64 : decode cX4_fits 64 = .ok (.iconst 0, 1) := by decide +kernel
theorem dX4_fits_65 : decode cX4_fits 65 = .ok (.ireturn, 1) := by decide +kernel
theorem dX4_fits_66 : decode cX4_fits 66 = .ok (.iload_n 1, 1) := by decide +kernel
theorem dX4_fits_67 : decode cX4_fits 67 = .ok (.bipush 115, 2) := by decide +kernel
theorem dX4_fits_69 : decode cX4_fits 69 = .ok (.if_icmp .ne 7, 3) := by decide +kernel
theorem dX4_fits_72 : decode cX4_fits 72 = .ok (.iconst 1, 1) := by decide +kernel
theorem dX4_fits_73 : decode cX4_fits 73 = .ok (.goto 4, 3) := by decide +kernel
theorem dX4_fits_76 : decode cX4_fits 76 = .ok (.iconst 0, 1) := by decide +kernel
theorem dX4_fits_77 : decode cX4_fits 77 = .ok (.ireturn, 1) := by decide +kernel
theorem dX4_fits_78 : decode cX4_fits 78 = .ok (.iload_n 1, 1) := by decide +kernel
theorem dX4_fits_79 : decode cX4_fits 79 = .ok (.invokestatic 39, 3) := by decide +kernel
theorem dX4_fits_82 : decode cX4_fits 82 = .ok (.iconst (-1), 1) := by decide +kernel
theorem dX4_fits_83 : decode cX4_fits 83 = .ok (.if_icmp .eq 7, 3) := by decide +kernel
theorem dX4_fits_86 : decode cX4_fits 86 = .ok (.iconst 1, 1) := by decide +kernel
theorem dX4_fits_87 : decode cX4_fits 87 = .ok (.goto 4, 3) := by decide +kernel
theorem dX4_fits_90 : decode cX4_fits 90 = .ok (.iconst 0, 1) := by decide +kernel
theorem dX4_fits_91 : decode cX4_fits 91 = .ok (.ireturn, 1) := by decide +kernel
theorem dX4_fits_92 : decode cX4_fits 92 = .ok (.iload_n 1, 1) := by decide +kernel
theorem dX4_fits_93 : decode cX4_fits 93 = .ok (.bipush 102, 2) := by decide +kernel
theorem dX4_fits_95 : decode cX4_fits 95 = .ok (.if_icmp .ne 7, 3) := by decide +kernel
theorem dX4_fits_98 : decode cX4_fits 98 = .ok (.iconst 1, 1) := by decide +kernel
theorem dX4_fits_99 : decode cX4_fits 99 = .ok (.goto 4, 3) := by decide +kernel
theorem dX4_fits_102 : decode cX4_fits 102 = .ok (.iconst 0, 1) := by decide +kernel
theorem dX4_fits_103 : decode cX4_fits 103 = .ok (.ireturn, 1) := by decide +kernel
theorem dX4_fits_104 : decode cX4_fits 104 = .ok (.iload_n 1, 1) := by decide +kernel
theorem dX4_fits_105 : decode cX4_fits 105 = .ok (.bipush 49, 2) := by decide +kernel
theorem dX4_fits_107 : decode cX4_fits 107 = .ok (.if_icmp .lt 13, 3) := by decide +kernel
theorem dX4_fits_110 : decode cX4_fits 110 = .ok (.iload_n 1, 1) := by decide +kernel
theorem dX4_fits_111 : decode cX4_fits 111 = .ok (.bipush 57, 2) := by decide +kernel
theorem dX4_fits_113 : decode cX4_fits 113 = .ok (.if_icmp .gt 7, 3) := by decide +kernel
theorem dX4_fits_116 : decode cX4_fits 116 = .ok (.iconst 1, 1) := by decide +kernel
theorem dX4_fits_117 : decode cX4_fits 117 = .ok (.goto 4, 3) := by decide +kernel
theorem dX4_fits_120 : decode cX4_fits 120 = .ok (.iconst 0, 1) := by decide +kernel
theorem dX4_fits_121 : decode cX4_fits 121 = .ok (.ireturn, 1) := by decide +kernel
theorem dX4_fits_122 : decode cX4_fits 122 = .ok (.iconst 0, 1) := by decide +kernel
theorem dX4_fits_123 : decode cX4_fits 123 = .ok (.ireturn, 1) := by decide +kernel
theorem dX4_ruleOf_0 : decode cX4_ruleOf 0 = .ok (.iload_n 0, 1) := by decide +kernel
theorem dX4_ruleOf_1 : decode cX4_ruleOf 1 = .ok (.bipush 48, 2) := by decide +kernel
theorem dX4_ruleOf_3 : decode cX4_ruleOf 3 = .ok (.if_icmp .lt 14, 3) := by decide +kernel
theorem dX4_ruleOf_6 : decode cX4_ruleOf 6 = .ok (.iload_n 0, 1) := by decide +kernel
theorem dX4_ruleOf_7 : decode cX4_ruleOf 7 = .ok (.bipush 54, 2) := by decide +kernel
theorem dX4_ruleOf_9 : decode cX4_ruleOf 9 = .ok (.if_icmp .gt 8, 3) := by decide +kernel
theorem dX4_ruleOf_12 : decode cX4_ruleOf 12 = .ok (.iload_n 0, 1) := by decide +kernel
theorem dX4_ruleOf_13 : decode cX4_ruleOf 13 = .ok (.bipush 48, 2) := by decide +kernel
theorem dX4_ruleOf_15 : decode cX4_ruleOf 15 = .ok (.isub, 1) := by decide +kernel
theorem dX4_ruleOf_16 : decode cX4_ruleOf 16 = .ok (.ireturn, 1) := by decide +kernel
theorem dX4_ruleOf_17 : decode cX4_ruleOf 17 = .ok (.iload_n 0, 1) := by decide +kernel
theorem dX4_ruleOf_18 : decode cX4_ruleOf 18 = .ok (.tableswitch 46 108 112 #[37, 34, 43, 46, 40], 34) := by decide +kernel
theorem dX4_ruleOf_52 : decode cX4_ruleOf 52 = .ok (.bipush 7, 2) := by decide +kernel
theorem dX4_ruleOf_54 : decode cX4_ruleOf 54 = .ok (.ireturn, 1) := by decide +kernel
theorem dX4_ruleOf_55 : decode cX4_ruleOf 55 = .ok (.bipush 8, 2) := by decide +kernel
theorem dX4_ruleOf_57 : decode cX4_ruleOf 57 = .ok (.ireturn, 1) := by decide +kernel
theorem dX4_ruleOf_58 : decode cX4_ruleOf 58 = .ok (.bipush 9, 2) := by decide +kernel
theorem dX4_ruleOf_60 : decode cX4_ruleOf 60 = .ok (.ireturn, 1) := by decide +kernel
theorem dX4_ruleOf_61 : decode cX4_ruleOf 61 = .ok (.bipush 10, 2) := by decide +kernel
theorem dX4_ruleOf_63 : decode cX4_ruleOf 63 = .ok (.ireturn, 1) := by decide +kernel
theorem dX4_ruleOf_64 : decode cX4_ruleOf 64 = .ok (.iconst (-1), 1) := by decide +kernel
theorem dX4_ruleOf_65 : decode cX4_ruleOf 65 = .ok (.ireturn, 1) := by decide +kernel
theorem dX5_init_0 : decode cX5_init 0 = .ok (.aload_n 0, 1) := by decide +kernel
theorem dX5_init_1 : decode cX5_init 1 = .ok (.invokespecial 3, 3) := by decide +kernel
theorem dX5_init_4 : decode cX5_init 4 = .ok (.aload_n 0, 1) := by decide +kernel
theorem dX5_init_5 : decode cX5_init 5 = .ok (.iload_n 1, 1) := by decide +kernel
theorem dX5_init_6 : decode cX5_init 6 = .ok (.putfield 9, 3) := by decide +kernel
theorem dX5_init_9 : decode cX5_init 9 = .ok (.return_, 1) := by decide +kernel
theorem dX5_gift_0 : decode cX5_gift 0 = .ok (.iconst 1, 1) := by decide +kernel
theorem dX5_gift_1 : decode cX5_gift 1 = .ok (.ireturn, 1) := by decide +kernel
theorem dX5_hidesOn_0 : decode cX5_hidesOn 0 = .ok (.iconst (-1), 1) := by decide +kernel
theorem dX5_hidesOn_1 : decode cX5_hidesOn 1 = .ok (.ireturn, 1) := by decide +kernel
theorem dX5_sinsAtMost_0 : decode cX5_sinsAtMost 0 = .ok (.iconst 0, 1) := by decide +kernel
theorem dX5_sinsAtMost_1 : decode cX5_sinsAtMost 1 = .ok (.ireturn, 1) := by decide +kernel
set_option maxRecDepth 20000 in
theorem ggX6_init_X5_init : GoodIn wsX6_init wsX5_init := goodIn_r _ [4, 5, 6, 7, 8, 9, 10, 11, 12, 13, 14, 15, 16, 17, 18, 19, 20, 21, 22, 23, 24] (by decide +kernel) (by decide +kernel)
set_option maxRecDepth 20000 in
theorem gX6_init_X5_init : GoodIn wsX6_init (wsX5_init) := ggX6_init_X5_init
theorem dX6_init_0 : decode cX6_init 0 = .ok (.aload_n 0, 1) := by decide +kernel
theorem dX6_init_1 : decode cX6_init 1 = .ok (.iload_n 1, 1) := by decide +kernel
theorem dX6_init_2 : decode cX6_init 2 = .ok (.invokespecial 3, 3) := by decide +kernel
theorem dX6_init_5 : decode cX6_init 5 = .ok (.return_, 1) := by decide +kernel
theorem dX6_gift_0 : decode cX6_gift 0 = .ok (.aload_n 0, 1) := by decide +kernel
theorem dX6_gift_1 : decode cX6_gift 1 = .ok (.getfield 9, 3) := by decide +kernel
theorem dX6_gift_4 : decode cX6_gift 4 = .ok (.ireturn, 1) := by decide +kernel
set_option maxRecDepth 20000 in
theorem ggX7_init_X5_init : GoodIn wsX7_init wsX5_init := goodIn_r _ [4, 5, 6, 7, 8, 9, 10, 11, 12, 13, 14, 15, 16, 17, 18, 19, 20, 21, 22, 23, 24] (by decide +kernel) (by decide +kernel)
set_option maxRecDepth 20000 in
theorem gX7_init_X5_init : GoodIn wsX7_init (wsX5_init) := ggX7_init_X5_init
theorem dX7_init_0 : decode cX7_init 0 = .ok (.aload_n 0, 1) := by decide +kernel
theorem dX7_init_1 : decode cX7_init 1 = .ok (.iload_n 1, 1) := by decide +kernel
theorem dX7_init_2 : decode cX7_init 2 = .ok (.invokespecial 3, 3) := by decide +kernel
theorem dX7_init_5 : decode cX7_init 5 = .ok (.return_, 1) := by decide +kernel
theorem dX7_hidesOn_0 : decode cX7_hidesOn 0 = .ok (.aload_n 0, 1) := by decide +kernel
theorem dX7_hidesOn_1 : decode cX7_hidesOn 1 = .ok (.getfield 9, 3) := by decide +kernel
theorem dX7_hidesOn_4 : decode cX7_hidesOn 4 = .ok (.ireturn, 1) := by decide +kernel
theorem dX8_init_0 : decode cX8_init 0 = .ok (.aload_n 0, 1) := by decide +kernel
theorem dX8_init_1 : decode cX8_init 1 = .ok (.invokespecial 3, 3) := by decide +kernel
theorem dX8_init_4 : decode cX8_init 4 = .ok (.aload_n 0, 1) := by decide +kernel
theorem dX8_init_5 : decode cX8_init 5 = .ok (.sipush 271, 3) := by decide +kernel
theorem dX8_init_8 : decode cX8_init 8 = .ok (.newarray .int, 2) := by decide +kernel
theorem dX8_init_10 : decode cX8_init 10 = .ok (.putfield 11, 3) := by decide +kernel
theorem dX8_init_13 : decode cX8_init 13 = .ok (.aload_n 0, 1) := by decide +kernel
theorem dX8_init_14 : decode cX8_init 14 = .ok (.sipush 271, 3) := by decide +kernel
theorem dX8_init_17 : decode cX8_init 17 = .ok (.newarray .int, 2) := by decide +kernel
theorem dX8_init_19 : decode cX8_init 19 = .ok (.putfield 15, 3) := by decide +kernel
theorem dX8_init_22 : decode cX8_init 22 = .ok (.return_, 1) := by decide +kernel
set_option maxRecDepth 20000 in
theorem ggX9_init_X4_init : GoodIn wsX9_init wsX4_init := goodIn_r _ [25, 26, 2, 3, 18, 27, 39, 40] (by decide +kernel) (by decide +kernel)
set_option maxRecDepth 20000 in
theorem gX9_init_X4_init_n11 : GoodIn wsX9_init (wsX4_init) := ggX9_init_X4_init
set_option maxRecDepth 20000 in
theorem ggX9_init_X2_init : GoodIn wsX9_init wsX2_init := goodIn_r _ [29, 30, 2, 3, 18, 31, 32, 33, 52, 53, 54, 55, 56, 57, 58, 59] (by decide +kernel) (by decide +kernel)
set_option maxRecDepth 20000 in
theorem gX9_init_X2_init_n30 : GoodIn wsX9_init (wsX2_init) := ggX9_init_X2_init
set_option maxRecDepth 20000 in
theorem ggX9_init_X8_init : GoodIn wsX9_init wsX8_init := goodIn_r _ [35, 36, 2, 3, 18, 37, 38, 60, 61] (by decide +kernel) (by decide +kernel)
set_option maxRecDepth 20000 in
theorem gX9_init_X8_init_n47 : GoodIn wsX9_init (wsX8_init) := ggX9_init_X8_init
theorem dX9_init_0 : decode cX9_init 0 = .ok (.aload_n 0, 1) := by decide +kernel
theorem dX9_init_1 : decode cX9_init 1 = .ok (.invokespecial 3, 3) := by decide +kernel
theorem dX9_init_4 : decode cX9_init 4 = .ok (.aload_n 0, 1) := by decide +kernel
theorem dX9_init_5 : decode cX9_init 5 = .ok (.new 9, 3) := by decide +kernel
theorem dX9_init_8 : decode cX9_init 8 = .ok (.dup, 1) := by decide +kernel
theorem dX9_init_9 : decode cX9_init 9 = .ok (.invokespecial 11, 3) := by decide +kernel
theorem dX9_init_12 : decode cX9_init 12 = .ok (.putfield 12, 3) := by decide +kernel
theorem dX9_init_15 : decode cX9_init 15 = .ok (.aload_n 0, 1) := by decide +kernel
theorem dX9_init_16 : decode cX9_init 16 = .ok (.iconst 4, 1) := by decide +kernel
theorem dX9_init_17 : decode cX9_init 17 = .ok (.anewarray 16, 3) := by decide +kernel
theorem dX9_init_20 : decode cX9_init 20 = .ok (.putfield 18, 3) := by decide +kernel
theorem dX9_init_23 : decode cX9_init 23 = .ok (.aload_n 0, 1) := by decide +kernel
theorem dX9_init_24 : decode cX9_init 24 = .ok (.bipush 6, 2) := by decide +kernel
theorem dX9_init_26 : decode cX9_init 26 = .ok (.anewarray 22, 3) := by decide +kernel
theorem dX9_init_29 : decode cX9_init 29 = .ok (.putfield 24, 3) := by decide +kernel
theorem dX9_init_32 : decode cX9_init 32 = .ok (.aload_n 0, 1) := by decide +kernel
theorem dX9_init_33 : decode cX9_init 33 = .ok (.new 28, 3) := by decide +kernel
theorem dX9_init_36 : decode cX9_init 36 = .ok (.dup, 1) := by decide +kernel
theorem dX9_init_37 : decode cX9_init 37 = .ok (.invokespecial 30, 3) := by decide +kernel
theorem dX9_init_40 : decode cX9_init 40 = .ok (.putfield 31, 3) := by decide +kernel
theorem dX9_init_43 : decode cX9_init 43 = .ok (.aload_n 0, 1) := by decide +kernel
theorem dX9_init_44 : decode cX9_init 44 = .ok (.new 28, 3) := by decide +kernel
theorem dX9_init_47 : decode cX9_init 47 = .ok (.dup, 1) := by decide +kernel
theorem dX9_init_48 : decode cX9_init 48 = .ok (.invokespecial 30, 3) := by decide +kernel
theorem dX9_init_51 : decode cX9_init 51 = .ok (.putfield 35, 3) := by decide +kernel
theorem dX9_init_54 : decode cX9_init 54 = .ok (.aload_n 0, 1) := by decide +kernel
theorem dX9_init_55 : decode cX9_init 55 = .ok (.new 28, 3) := by decide +kernel
theorem dX9_init_58 : decode cX9_init 58 = .ok (.dup, 1) := by decide +kernel
theorem dX9_init_59 : decode cX9_init 59 = .ok (.invokespecial 30, 3) := by decide +kernel
theorem dX9_init_62 : decode cX9_init 62 = .ok (.putfield 38, 3) := by decide +kernel
theorem dX9_init_65 : decode cX9_init 65 = .ok (.aload_n 0, 1) := by decide +kernel
theorem dX9_init_66 : decode cX9_init 66 = .ok (.bipush 7, 2) := by decide +kernel
theorem dX9_init_68 : decode cX9_init 68 = .ok (.newarray .int, 2) := by decide +kernel
theorem dX9_init_70 : decode cX9_init 70 = .ok (.putfield 41, 3) := by decide +kernel
theorem dX9_init_73 : decode cX9_init 73 = .ok (.aload_n 0, 1) := by decide +kernel
theorem dX9_init_74 : decode cX9_init 74 = .ok (.new 45, 3) := by decide +kernel
theorem dX9_init_77 : decode cX9_init 77 = .ok (.dup, 1) := by decide +kernel
theorem dX9_init_78 : decode cX9_init 78 = .ok (.invokespecial 47, 3) := by decide +kernel
theorem dX9_init_81 : decode cX9_init 81 = .ok (.putfield 48, 3) := by decide +kernel
theorem dX9_init_84 : decode cX9_init 84 = .ok (.return_, 1) := by decide +kernel
set_option maxRecDepth 20000 in
theorem ggX9_letters_X4_lettersIn : GoodIn wsX9_letters wsX4_lettersIn := goodIn_r _ [6, 7, 8, 5, 9, 10] (by decide +kernel) (by decide +kernel)
set_option maxRecDepth 20000 in
theorem gX9_letters_X4_lettersIn : GoodIn wsX9_letters (va_wsS RX9 52 yX4_lettersIn wsX4_lettersIn) := goodIn_app (goodIn_of _ (by decide +kernel)) ggX9_letters_X4_lettersIn
set_option maxRecDepth 20000 in
theorem ggX9_letters_X4_write : GoodIn wsX9_letters wsX4_write := goodIn_r _ [14, 15, 16, 7, 8, 5, 9, 10, 28, 29] (by decide +kernel) (by decide +kernel)
set_option maxRecDepth 20000 in
theorem gX9_letters_X4_write : GoodIn wsX9_letters (wsV RX9 60 RX4 yX4_write wsX4_write) := goodIn_app (goodIn_of _ (by decide +kernel)) ggX9_letters_X4_write
theorem dX9_letters_0 : decode cX9_letters 0 = .ok (.lload_n 1, 1) := by decide +kernel
theorem dX9_letters_1 : decode cX9_letters 1 = .ok (.invokestatic 52, 3) := by decide +kernel
theorem dX9_letters_4 : decode cX9_letters 4 = .ok (.istore_n 3, 1) := by decide +kernel
theorem dX9_letters_5 : decode cX9_letters 5 = .ok (.iload_n 3, 1) := by decide +kernel
theorem dX9_letters_6 : decode cX9_letters 6 = .ok (.ifCond .ge 6, 3) := by decide +kernel
theorem dX9_letters_9 : decode cX9_letters 9 = .ok (.bipush (-102), 2) := by decide +kernel
theorem dX9_letters_11 : decode cX9_letters 11 = .ok (.ireturn, 1) := by decide +kernel
theorem dX9_letters_12 : decode cX9_letters 12 = .ok (.aload_n 0, 1) := by decide +kernel
theorem dX9_letters_13 : decode cX9_letters 13 = .ok (.getfield 12, 3) := by decide +kernel
theorem dX9_letters_16 : decode cX9_letters 16 = .ok (.getfield 56, 3) := by decide +kernel
theorem dX9_letters_19 : decode cX9_letters 19 = .ok (.iload_n 3, 1) := by decide +kernel
theorem dX9_letters_20 : decode cX9_letters 20 = .ok (.iadd, 1) := by decide +kernel
theorem dX9_letters_21 : decode cX9_letters 21 = .ok (.bipush 16, 2) := by decide +kernel
theorem dX9_letters_23 : decode cX9_letters 23 = .ok (.if_icmp .le 6, 3) := by decide +kernel
theorem dX9_letters_26 : decode cX9_letters 26 = .ok (.bipush (-104), 2) := by decide +kernel
theorem dX9_letters_28 : decode cX9_letters 28 = .ok (.ireturn, 1) := by decide +kernel
theorem dX9_letters_29 : decode cX9_letters 29 = .ok (.aload_n 0, 1) := by decide +kernel
theorem dX9_letters_30 : decode cX9_letters 30 = .ok (.getfield 12, 3) := by decide +kernel
theorem dX9_letters_33 : decode cX9_letters 33 = .ok (.lload_n 1, 1) := by decide +kernel
theorem dX9_letters_34 : decode cX9_letters 34 = .ok (.iload_n 3, 1) := by decide +kernel
theorem dX9_letters_35 : decode cX9_letters 35 = .ok (.invokevirtual 60, 3) := by decide +kernel
theorem dX9_letters_38 : decode cX9_letters 38 = .ok (.aload_n 0, 1) := by decide +kernel
theorem dX9_letters_39 : decode cX9_letters 39 = .ok (.getfield 12, 3) := by decide +kernel
theorem dX9_letters_42 : decode cX9_letters 42 = .ok (.getfield 56, 3) := by decide +kernel
theorem dX9_letters_45 : decode cX9_letters 45 = .ok (.ireturn, 1) := by decide +kernel
set_option maxRecDepth 20000 in
theorem ggX9_fault_X4_firstWrong : GoodIn wsX9_fault wsX4_firstWrong := goodIn_r _ [6, 7, 8, 9, 10, 5, 11, 12, 13, 14, 15, 16, 17, 18, 30, 31] (by decide +kernel) (by decide +kernel)
set_option maxRecDepth 20000 in
theorem gX9_fault_X4_firstWrong : GoodIn wsX9_fault (wsV RX9 64 RX4 yX4_firstWrong wsX4_firstWrong) := goodIn_app (goodIn_of _ (by decide +kernel)) ggX9_fault_X4_firstWrong
theorem dX9_fault_0 : decode cX9_fault 0 = .ok (.aload_n 0, 1) := by decide +kernel
theorem dX9_fault_1 : decode cX9_fault 1 = .ok (.getfield 12, 3) := by decide +kernel
theorem dX9_fault_4 : decode cX9_fault 4 = .ok (.invokevirtual 64, 3) := by decide +kernel
theorem dX9_fault_7 : decode cX9_fault 7 = .ok (.ireturn, 1) := by decide +kernel
set_option maxRecDepth 20000 in
theorem ggX9_custom_X4_isCustom : GoodIn wsX9_custom wsX4_isCustom := goodIn_r _ [9, 10, 11, 12, 13, 8, 14, 15, 16, 17, 18, 19, 20, 21, 22, 23, 24, 25, 53, 54] (by decide +kernel) (by decide +kernel)
set_option maxRecDepth 20000 in
theorem gX9_custom_X4_isCustom : GoodIn wsX9_custom (wsV RX9 68 RX4 yX4_isCustom wsX4_isCustom) := goodIn_app (goodIn_of _ (by decide +kernel)) ggX9_custom_X4_isCustom
set_option maxRecDepth 20000 in
theorem ggX9_custom_X4_asCustom : GoodIn wsX9_custom wsX4_asCustom := goodIn_r _ [29, 10, 30, 31, 32, 15, 16, 17, 8, 18, 19, 23, 24, 25, 33, 34, 35, 36, 37, 38, 39, 40, 41, 53, 54, 55, 56, 57] (by decide +kernel) (by decide +kernel)
set_option maxRecDepth 20000 in
theorem gX9_custom_X4_asCustom : GoodIn wsX9_custom (wsV RX9 75 RX4 yX4_asCustom wsX4_asCustom) := goodIn_app (goodIn_of _ (by decide +kernel)) ggX9_custom_X4_asCustom
theorem dX9_custom_0 : decode cX9_custom 0 = .ok (.aload_n 0, 1) := by decide +kernel
theorem dX9_custom_1 : decode cX9_custom 1 = .ok (.getfield 12, 3) := by decide +kernel
theorem dX9_custom_4 : decode cX9_custom 4 = .ok (.invokevirtual 68, 3) := by decide +kernel
theorem dX9_custom_7 : decode cX9_custom 7 = .ok (.ifCond .ne 6, 3) := by decide +kernel
theorem dX9_custom_10 : decode cX9_custom 10 = .ok (.bipush (-103), 2) := by decide +kernel
theorem dX9_custom_12 : decode cX9_custom 12 = .ok (.ireturn, 1) := by decide +kernel
theorem dX9_custom_13 : decode cX9_custom 13 = .ok (.aload_n 0, 1) := by decide +kernel
theorem dX9_custom_14 : decode cX9_custom 14 = .ok (.getfield 72, 3) := by decide +kernel
theorem dX9_custom_17 : decode cX9_custom 17 = .ok (.ifCond .lt 11, 3) := by decide +kernel
theorem dX9_custom_20 : decode cX9_custom 20 = .ok (.aload_n 0, 1) := by decide +kernel
theorem dX9_custom_21 : decode cX9_custom 21 = .ok (.getfield 72, 3) := by decide +kernel
theorem dX9_custom_24 : decode cX9_custom 24 = .ok (.iconst 4, 1) := by decide +kernel
theorem dX9_custom_25 : decode cX9_custom 25 = .ok (.if_icmp .lt 6, 3) := by decide +kernel
theorem dX9_custom_28 : decode cX9_custom 28 = .ok (.bipush (-104), 2) := by decide +kernel
theorem dX9_custom_30 : decode cX9_custom 30 = .ok (.ireturn, 1) := by decide +kernel
theorem dX9_custom_31 : decode cX9_custom 31 = .ok (.aload_n 0, 1) := by decide +kernel
theorem dX9_custom_32 : decode cX9_custom 32 = .ok (.getfield 18, 3) := by decide +kernel
theorem dX9_custom_35 : decode cX9_custom 35 = .ok (.aload_n 0, 1) := by decide +kernel
theorem dX9_custom_36 : decode cX9_custom 36 = .ok (.getfield 72, 3) := by decide +kernel
theorem dX9_custom_39 : decode cX9_custom 39 = .ok (.aload_n 0, 1) := by decide +kernel
theorem dX9_custom_40 : decode cX9_custom 40 = .ok (.getfield 12, 3) := by decide +kernel
theorem dX9_custom_43 : decode cX9_custom 43 = .ok (.invokevirtual 75, 3) := by decide +kernel
theorem dX9_custom_46 : decode cX9_custom 46 = .ok (.aastore, 1) := by decide +kernel
theorem dX9_custom_47 : decode cX9_custom 47 = .ok (.aload_n 0, 1) := by decide +kernel
theorem dX9_custom_48 : decode cX9_custom 48 = .ok (.getfield 12, 3) := by decide +kernel
theorem dX9_custom_51 : decode cX9_custom 51 = .ok (.iconst 0, 1) := by decide +kernel
theorem dX9_custom_52 : decode cX9_custom 52 = .ok (.putfield 56, 3) := by decide +kernel
theorem dX9_custom_55 : decode cX9_custom 55 = .ok (.aload_n 0, 1) := by decide +kernel
theorem dX9_custom_56 : decode cX9_custom 56 = .ok (.dup, 1) := by decide +kernel
theorem dX9_custom_57 : decode cX9_custom 57 = .ok (.getfield 72, 3) := by decide +kernel
theorem dX9_custom_60 : decode cX9_custom 60 = .ok (.iconst 1, 1) := by decide +kernel
theorem dX9_custom_61 : decode cX9_custom 61 = .ok (.iadd, 1) := by decide +kernel
theorem dX9_custom_62 : decode cX9_custom 62 = .ok (.putfield 72, 3) := by decide +kernel
theorem dX9_custom_65 : decode cX9_custom 65 = .ok (.aload_n 0, 1) := by decide +kernel
theorem dX9_custom_66 : decode cX9_custom 66 = .ok (.getfield 72, 3) := by decide +kernel
theorem dX9_custom_69 : decode cX9_custom 69 = .ok (.iconst 1, 1) := by decide +kernel
theorem dX9_custom_70 : decode cX9_custom 70 = .ok (.isub, 1) := by decide +kernel
theorem dX9_custom_71 : decode cX9_custom 71 = .ok (.ireturn, 1) := by decide +kernel
set_option maxRecDepth 20000 in
theorem ggX9_customTold_X9_customAt : GoodIn wsX9_customTold wsX9_customAt := goodIn_r _ [5, 6, 15, 16, 17, 18, 19, 20, 21, 22, 23, 24, 25] (by decide +kernel) (by decide +kernel)
set_option maxRecDepth 20000 in
theorem gX9_customTold_X9_customAt : GoodIn wsX9_customTold (wsV RX9 79 RX9 yX9_customAt wsX9_customAt) := goodIn_app (goodIn_of _ (by decide +kernel)) ggX9_customTold_X9_customAt
set_option maxRecDepth 20000 in
theorem ggX9_customTold_X1_told : GoodIn wsX9_customTold wsX1_told := goodIn_r _ [11, 12, 13, 14, 26, 27, 28] (by decide +kernel) (by decide +kernel)
set_option maxRecDepth 20000 in
theorem gX9_customTold_X1_told : GoodIn wsX9_customTold (wsV RX9 83 RX1 yX1_told wsX1_told) := goodIn_app (goodIn_of _ (by decide +kernel)) ggX9_customTold_X1_told
theorem dX9_customTold_0 : decode cX9_customTold 0 = .ok (.aload_n 0, 1) := by decide +kernel
theorem dX9_customTold_1 : decode cX9_customTold 1 = .ok (.iload_n 1, 1) := by decide +kernel
theorem dX9_customTold_2 : decode cX9_customTold 2 = .ok (.invokevirtual 79, 3) := by decide +kernel
theorem dX9_customTold_5 : decode cX9_customTold 5 = .ok (.astore_n 3, 1) := by decide +kernel
theorem dX9_customTold_6 : decode cX9_customTold 6 = .ok (.aload_n 3, 1) := by decide +kernel
theorem dX9_customTold_7 : decode cX9_customTold 7 = .ok (.ifnonnull 6, 3) := by decide +kernel
theorem dX9_customTold_10 : decode cX9_customTold 10 = .ok (.bipush (-101), 2) := by decide +kernel
theorem dX9_customTold_12 : decode cX9_customTold 12 = .ok (.ireturn, 1) := by decide +kernel
theorem dX9_customTold_13 : decode cX9_customTold 13 = .ok (.iload_n 2, 1) := by decide +kernel
theorem dX9_customTold_14 : decode cX9_customTold 14 = .ok (.ifCond .lt 8, 3) := by decide +kernel
theorem dX9_customTold_17 : decode cX9_customTold 17 = .ok (.iload_n 2, 1) := by decide +kernel
theorem dX9_customTold_18 : decode cX9_customTold 18 = .ok (.iconst 2, 1) := by decide +kernel
theorem dX9_customTold_19 : decode cX9_customTold 19 = .ok (.if_icmp .le 6, 3) := by decide +kernel
theorem dX9_customTold_22 : decode cX9_customTold 22 = .ok (.bipush (-102), 2) := by decide +kernel
theorem dX9_customTold_24 : decode cX9_customTold 24 = .ok (.ireturn, 1) := by decide +kernel
theorem dX9_customTold_25 : decode cX9_customTold 25 = .ok (.aload_n 3, 1) := by decide +kernel
theorem dX9_customTold_26 : decode cX9_customTold 26 = .ok (.iload_n 2, 1) := by decide +kernel
theorem dX9_customTold_27 : decode cX9_customTold 27 = .ok (.invokevirtual 83, 3) := by decide +kernel
theorem dX9_customTold_30 : decode cX9_customTold 30 = .ok (.ireturn, 1) := by decide +kernel
set_option maxRecDepth 20000 in
theorem ggX9_parish_X9_isKindWith : GoodIn wsX9_parish wsX9_isKindWith := goodIn_r _ [9, 10, 11, 8, 12] (by decide +kernel) (by decide +kernel)
set_option maxRecDepth 20000 in
theorem gX9_parish_X9_isKindWith : GoodIn wsX9_parish (va_wsS RX9 87 yX9_isKindWith wsX9_isKindWith) := goodIn_app (goodIn_of _ (by decide +kernel)) ggX9_parish_X9_isKindWith
set_option maxRecDepth 20000 in
theorem ggX9_parish_X9_mayBe : GoodIn wsX9_parish wsX9_mayBe := goodIn_r _ [15] (by decide +kernel) (by decide +kernel)
set_option maxRecDepth 20000 in
theorem gX9_parish_X9_mayBe : GoodIn wsX9_parish (va_wsS RX9 91 yX9_mayBe wsX9_mayBe) := goodIn_app (goodIn_of _ (by decide +kernel)) ggX9_parish_X9_mayBe
set_option maxRecDepth 20000 in
theorem ggX9_parish_X9_madeOf : GoodIn wsX9_parish wsX9_madeOf := goodIn_r _ [18, 19, 20, 21, 22, 23, 24, 25, 26, 27, 28, 29, 30, 31, 32, 33, 34, 35, 36, 37, 38, 39, 40, 41, 42, 43, 44, 45, 46, 47, 48, 49, 69, 70, 71, 72, 73, 74, 75, 76, 61, 62, 63, 64, 65, 66, 67, 68] (by decide +kernel) (by decide +kernel)
set_option maxRecDepth 20000 in
theorem gX9_parish_X9_madeOf : GoodIn wsX9_parish (va_wsS RX9 97 yX9_madeOf wsX9_madeOf) := goodIn_app (goodIn_of _ (by decide +kernel)) ggX9_parish_X9_madeOf
theorem dX9_parish_0 : decode cX9_parish 0 = .ok (.iload_n 1, 1) := by decide +kernel
theorem dX9_parish_1 : decode cX9_parish 1 = .ok (.iload_n 2, 1) := by decide +kernel
theorem dX9_parish_2 : decode cX9_parish 2 = .ok (.invokestatic 87, 3) := by decide +kernel
theorem dX9_parish_5 : decode cX9_parish 5 = .ok (.ifCond .ne 6, 3) := by decide +kernel
theorem dX9_parish_8 : decode cX9_parish 8 = .ok (.bipush (-102), 2) := by decide +kernel
theorem dX9_parish_10 : decode cX9_parish 10 = .ok (.ireturn, 1) := by decide +kernel
theorem dX9_parish_11 : decode cX9_parish 11 = .ok (.iconst 2, 1) := by decide +kernel
theorem dX9_parish_12 : decode cX9_parish 12 = .ok (.iload_n 3, 1) := by decide +kernel
theorem dX9_parish_13 : decode cX9_parish 13 = .ok (.invokestatic 91, 3) := by decide +kernel
theorem dX9_parish_16 : decode cX9_parish 16 = .ok (.ifCond .eq 21, 3) := by decide +kernel
theorem dX9_parish_19 : decode cX9_parish 19 = .ok (.iconst 3, 1) := by decide +kernel
theorem dX9_parish_20 : decode cX9_parish 20 = .ok (.iload 4, 2) := by decide +kernel
theorem dX9_parish_22 : decode cX9_parish 22 = .ok (.invokestatic 91, 3) := by decide +kernel
theorem dX9_parish_25 : decode cX9_parish 25 = .ok (.ifCond .eq 12, 3) := by decide +kernel
theorem dX9_parish_28 : decode cX9_parish 28 = .ok (.iconst 4, 1) := by decide +kernel
theorem dX9_parish_29 : decode cX9_parish 29 = .ok (.iload 5, 2) := by decide +kernel
theorem dX9_parish_31 : decode cX9_parish 31 = .ok (.invokestatic 91, 3) := by decide +kernel
theorem dX9_parish_34 : decode cX9_parish 34 = .ok (.ifCond .ne 6, 3) := by decide +kernel
theorem dX9_parish_37 : decode cX9_parish 37 = .ok (.bipush (-102), 2) := by decide +kernel
theorem dX9_parish_39 : decode cX9_parish 39 = .ok (.ireturn, 1) := by decide +kernel
theorem dX9_parish_40 : decode cX9_parish 40 = .ok (.aload_n 0, 1) := by decide +kernel
theorem dX9_parish_41 : decode cX9_parish 41 = .ok (.getfield 94, 3) := by decide +kernel
theorem dX9_parish_44 : decode cX9_parish 44 = .ok (.ifCond .lt 12, 3) := by decide +kernel
theorem dX9_parish_47 : decode cX9_parish 47 = .ok (.aload_n 0, 1) := by decide +kernel
theorem dX9_parish_48 : decode cX9_parish 48 = .ok (.getfield 94, 3) := by decide +kernel
theorem dX9_parish_51 : decode cX9_parish 51 = .ok (.bipush 6, 2) := by decide +kernel
theorem dX9_parish_53 : decode cX9_parish 53 = .ok (.if_icmp .lt 6, 3) := by decide +kernel
theorem dX9_parish_56 : decode cX9_parish 56 = .ok (.bipush (-104), 2) := by decide +kernel
theorem dX9_parish_58 : decode cX9_parish 58 = .ok (.ireturn, 1) := by decide +kernel
theorem dX9_parish_59 : decode cX9_parish 59 = .ok (.iload_n 1, 1) := by decide +kernel
theorem dX9_parish_60 : decode cX9_parish 60 = .ok (.iload_n 2, 1) := by decide +kernel
theorem dX9_parish_61 : decode cX9_parish 61 = .ok (.invokestatic 97, 3) := by decide +kernel
theorem dX9_parish_64 : decode cX9_parish 64 = .ok (.astore 6, 2) := by decide +kernel
theorem dX9_parish_66 : decode cX9_parish 66 = .ok (.aload 6, 2) := by decide +kernel
theorem dX9_parish_68 : decode cX9_parish 68 = .ok (.iload_n 3, 1) := by decide +kernel
theorem dX9_parish_69 : decode cX9_parish 69 = .ok (.putfield 101, 3) := by decide +kernel
theorem dX9_parish_72 : decode cX9_parish 72 = .ok (.aload 6, 2) := by decide +kernel
theorem dX9_parish_74 : decode cX9_parish 74 = .ok (.iload 4, 2) := by decide +kernel
theorem dX9_parish_76 : decode cX9_parish 76 = .ok (.putfield 104, 3) := by decide +kernel
theorem dX9_parish_79 : decode cX9_parish 79 = .ok (.aload 6, 2) := by decide +kernel
theorem dX9_parish_81 : decode cX9_parish 81 = .ok (.iload 5, 2) := by decide +kernel
theorem dX9_parish_83 : decode cX9_parish 83 = .ok (.putfield 107, 3) := by decide +kernel
theorem dX9_parish_86 : decode cX9_parish 86 = .ok (.aload_n 0, 1) := by decide +kernel
theorem dX9_parish_87 : decode cX9_parish 87 = .ok (.getfield 24, 3) := by decide +kernel
theorem dX9_parish_90 : decode cX9_parish 90 = .ok (.aload_n 0, 1) := by decide +kernel
theorem dX9_parish_91 : decode cX9_parish 91 = .ok (.getfield 94, 3) := by decide +kernel
theorem dX9_parish_94 : decode cX9_parish 94 = .ok (.aload 6, 2) := by decide +kernel
theorem dX9_parish_96 : decode cX9_parish 96 = .ok (.aastore, 1) := by decide +kernel
theorem dX9_parish_97 : decode cX9_parish 97 = .ok (.aload_n 0, 1) := by decide +kernel
theorem dX9_parish_98 : decode cX9_parish 98 = .ok (.dup, 1) := by decide +kernel
theorem dX9_parish_99 : decode cX9_parish 99 = .ok (.getfield 94, 3) := by decide +kernel
theorem dX9_parish_102 : decode cX9_parish 102 = .ok (.iconst 1, 1) := by decide +kernel
theorem dX9_parish_103 : decode cX9_parish 103 = .ok (.iadd, 1) := by decide +kernel
theorem dX9_parish_104 : decode cX9_parish 104 = .ok (.putfield 94, 3) := by decide +kernel
theorem dX9_parish_107 : decode cX9_parish 107 = .ok (.aload_n 0, 1) := by decide +kernel
theorem dX9_parish_108 : decode cX9_parish 108 = .ok (.getfield 94, 3) := by decide +kernel
theorem dX9_parish_111 : decode cX9_parish 111 = .ok (.iconst 1, 1) := by decide +kernel
theorem dX9_parish_112 : decode cX9_parish 112 = .ok (.isub, 1) := by decide +kernel
theorem dX9_parish_113 : decode cX9_parish 113 = .ok (.ireturn, 1) := by decide +kernel
set_option maxRecDepth 20000 in
theorem ggX9_lay_X9_isCairn : GoodIn wsX9_lay wsX9_isCairn := goodIn_r _ [6] (by decide +kernel) (by decide +kernel)
set_option maxRecDepth 20000 in
theorem gX9_lay_X9_isCairn : GoodIn wsX9_lay (va_wsS RX9 119 yX9_isCairn wsX9_isCairn) := goodIn_app (goodIn_of _ (by decide +kernel)) ggX9_lay_X9_isCairn
set_option maxRecDepth 20000 in
theorem ggX9_lay_X2_layNew : GoodIn wsX9_lay wsX2_layNew := goodIn_r _ [11, 12, 13, 14, 15, 16, 10, 17, 18, 19, 20, 4, 5, 6, 32, 33, 34, 35, 36, 37, 38, 39] (by decide +kernel) (by decide +kernel)
set_option maxRecDepth 20000 in
theorem gX9_lay_X2_layNew : GoodIn wsX9_lay (wsV RX9 123 RX2 yX2_layNew wsX2_layNew) := goodIn_app (goodIn_of _ (by decide +kernel)) ggX9_lay_X2_layNew
theorem dX9_lay_0 : decode cX9_lay 0 = .ok (.iload_n 1, 1) := by decide +kernel
theorem dX9_lay_1 : decode cX9_lay 1 = .ok (.invokestatic 119, 3) := by decide +kernel
theorem dX9_lay_4 : decode cX9_lay 4 = .ok (.ifCond .ne 6, 3) := by decide +kernel
theorem dX9_lay_7 : decode cX9_lay 7 = .ok (.bipush (-101), 2) := by decide +kernel
theorem dX9_lay_9 : decode cX9_lay 9 = .ok (.ireturn, 1) := by decide +kernel
theorem dX9_lay_10 : decode cX9_lay 10 = .ok (.iload_n 2, 1) := by decide +kernel
theorem dX9_lay_11 : decode cX9_lay 11 = .ok (.iconst 1, 1) := by decide +kernel
theorem dX9_lay_12 : decode cX9_lay 12 = .ok (.if_icmp .lt 9, 3) := by decide +kernel
theorem dX9_lay_15 : decode cX9_lay 15 = .ok (.iload_n 2, 1) := by decide +kernel
theorem dX9_lay_16 : decode cX9_lay 16 = .ok (.bipush 60, 2) := by decide +kernel
theorem dX9_lay_18 : decode cX9_lay 18 = .ok (.if_icmp .le 6, 3) := by decide +kernel
theorem dX9_lay_21 : decode cX9_lay 21 = .ok (.bipush (-102), 2) := by decide +kernel
theorem dX9_lay_23 : decode cX9_lay 23 = .ok (.ireturn, 1) := by decide +kernel
theorem dX9_lay_24 : decode cX9_lay 24 = .ok (.aload_n 0, 1) := by decide +kernel
theorem dX9_lay_25 : decode cX9_lay 25 = .ok (.getfield 31, 3) := by decide +kernel
theorem dX9_lay_28 : decode cX9_lay 28 = .ok (.iload_n 1, 1) := by decide +kernel
theorem dX9_lay_29 : decode cX9_lay 29 = .ok (.iload_n 2, 1) := by decide +kernel
theorem dX9_lay_30 : decode cX9_lay 30 = .ok (.invokevirtual 123, 3) := by decide +kernel
theorem dX9_lay_33 : decode cX9_lay 33 = .ok (.aload_n 0, 1) := by decide +kernel
theorem dX9_lay_34 : decode cX9_lay 34 = .ok (.getfield 31, 3) := by decide +kernel
theorem dX9_lay_37 : decode cX9_lay 37 = .ok (.getfield 127, 3) := by decide +kernel
theorem dX9_lay_40 : decode cX9_lay 40 = .ok (.iload_n 1, 1) := by decide +kernel
theorem dX9_lay_41 : decode cX9_lay 41 = .ok (.iaload, 1) := by decide +kernel
theorem dX9_lay_42 : decode cX9_lay 42 = .ok (.ireturn, 1) := by decide +kernel
set_option maxRecDepth 20000 in
theorem ggX9_take_X9_isCairn : GoodIn wsX9_take wsX9_isCairn := goodIn_r _ [6] (by decide +kernel) (by decide +kernel)
set_option maxRecDepth 20000 in
theorem gX9_take_X9_isCairn : GoodIn wsX9_take (va_wsS RX9 119 yX9_isCairn wsX9_isCairn) := goodIn_app (goodIn_of _ (by decide +kernel)) ggX9_take_X9_isCairn
set_option maxRecDepth 20000 in
theorem ggX9_take_X2_takeOff : GoodIn wsX9_take wsX2_takeOff := goodIn_r _ [11, 12, 13, 14, 15, 16, 17, 4, 5, 6, 29, 30, 31, 32, 33, 34, 35, 36] (by decide +kernel) (by decide +kernel)
set_option maxRecDepth 20000 in
theorem gX9_take_X2_takeOff : GoodIn wsX9_take (wsV RX9 130 RX2 yX2_takeOff wsX2_takeOff) := goodIn_app (goodIn_of _ (by decide +kernel)) ggX9_take_X2_takeOff
theorem dX9_take_0 : decode cX9_take 0 = .ok (.iload_n 1, 1) := by decide +kernel
theorem dX9_take_1 : decode cX9_take 1 = .ok (.invokestatic 119, 3) := by decide +kernel
theorem dX9_take_4 : decode cX9_take 4 = .ok (.ifCond .ne 6, 3) := by decide +kernel
theorem dX9_take_7 : decode cX9_take 7 = .ok (.bipush (-101), 2) := by decide +kernel
theorem dX9_take_9 : decode cX9_take 9 = .ok (.ireturn, 1) := by decide +kernel
theorem dX9_take_10 : decode cX9_take 10 = .ok (.iload_n 2, 1) := by decide +kernel
theorem dX9_take_11 : decode cX9_take 11 = .ok (.iconst 1, 1) := by decide +kernel
theorem dX9_take_12 : decode cX9_take 12 = .ok (.if_icmp .lt 9, 3) := by decide +kernel
theorem dX9_take_15 : decode cX9_take 15 = .ok (.iload_n 2, 1) := by decide +kernel
theorem dX9_take_16 : decode cX9_take 16 = .ok (.bipush 60, 2) := by decide +kernel
theorem dX9_take_18 : decode cX9_take 18 = .ok (.if_icmp .le 6, 3) := by decide +kernel
theorem dX9_take_21 : decode cX9_take 21 = .ok (.bipush (-102), 2) := by decide +kernel
theorem dX9_take_23 : decode cX9_take 23 = .ok (.ireturn, 1) := by decide +kernel
theorem dX9_take_24 : decode cX9_take 24 = .ok (.aload_n 0, 1) := by decide +kernel
theorem dX9_take_25 : decode cX9_take 25 = .ok (.getfield 31, 3) := by decide +kernel
theorem dX9_take_28 : decode cX9_take 28 = .ok (.iload_n 1, 1) := by decide +kernel
theorem dX9_take_29 : decode cX9_take 29 = .ok (.iload_n 2, 1) := by decide +kernel
theorem dX9_take_30 : decode cX9_take 30 = .ok (.invokevirtual 130, 3) := by decide +kernel
theorem dX9_take_33 : decode cX9_take 33 = .ok (.aload_n 0, 1) := by decide +kernel
theorem dX9_take_34 : decode cX9_take 34 = .ok (.getfield 31, 3) := by decide +kernel
theorem dX9_take_37 : decode cX9_take 37 = .ok (.getfield 127, 3) := by decide +kernel
theorem dX9_take_40 : decode cX9_take 40 = .ok (.iload_n 1, 1) := by decide +kernel
theorem dX9_take_41 : decode cX9_take 41 = .ok (.iaload, 1) := by decide +kernel
theorem dX9_take_42 : decode cX9_take 42 = .ok (.ireturn, 1) := by decide +kernel
set_option maxRecDepth 20000 in
theorem ggX9_height_X9_isCairn : GoodIn wsX9_height wsX9_isCairn := goodIn_r _ [6] (by decide +kernel) (by decide +kernel)
set_option maxRecDepth 20000 in
theorem gX9_height_X9_isCairn : GoodIn wsX9_height (va_wsS RX9 119 yX9_isCairn wsX9_isCairn) := goodIn_app (goodIn_of _ (by decide +kernel)) ggX9_height_X9_isCairn
theorem dX9_height_0 : decode cX9_height 0 = .ok (.iload_n 1, 1) := by decide +kernel
theorem dX9_height_1 : decode cX9_height 1 = .ok (.invokestatic 119, 3) := by decide +kernel
theorem dX9_height_4 : decode cX9_height 4 = .ok (.ifCond .ne 6, 3) := by decide +kernel
theorem dX9_height_7 : decode cX9_height 7 = .ok (.bipush (-101), 2) := by decide +kernel
theorem dX9_height_9 : decode cX9_height 9 = .ok (.ireturn, 1) := by decide +kernel
theorem dX9_height_10 : decode cX9_height 10 = .ok (.aload_n 0, 1) := by decide +kernel
theorem dX9_height_11 : decode cX9_height 11 = .ok (.getfield 31, 3) := by decide +kernel
theorem dX9_height_14 : decode cX9_height 14 = .ok (.getfield 127, 3) := by decide +kernel
theorem dX9_height_17 : decode cX9_height 17 = .ok (.iload_n 1, 1) := by decide +kernel
theorem dX9_height_18 : decode cX9_height 18 = .ok (.iaload, 1) := by decide +kernel
theorem dX9_height_19 : decode cX9_height 19 = .ok (.ireturn, 1) := by decide +kernel
set_option maxRecDepth 20000 in
theorem ggX9_mark_X9_isCairn : GoodIn wsX9_mark wsX9_isCairn := goodIn_r _ [5] (by decide +kernel) (by decide +kernel)
set_option maxRecDepth 20000 in
theorem gX9_mark_X9_isCairn : GoodIn wsX9_mark (va_wsS RX9 119 yX9_isCairn wsX9_isCairn) := goodIn_app (goodIn_of _ (by decide +kernel)) ggX9_mark_X9_isCairn
set_option maxRecDepth 20000 in
theorem ggX9_mark_X2_markAt : GoodIn wsX9_mark wsX2_markAt := goodIn_r _ [10, 11, 12, 3, 4, 5, 24, 25, 26, 27, 28, 29, 30, 31] (by decide +kernel) (by decide +kernel)
set_option maxRecDepth 20000 in
theorem gX9_mark_X2_markAt : GoodIn wsX9_mark (wsV RX9 133 RX2 yX2_markAt wsX2_markAt) := goodIn_app (goodIn_of _ (by decide +kernel)) ggX9_mark_X2_markAt
theorem dX9_mark_0 : decode cX9_mark 0 = .ok (.iload_n 1, 1) := by decide +kernel
theorem dX9_mark_1 : decode cX9_mark 1 = .ok (.invokestatic 119, 3) := by decide +kernel
theorem dX9_mark_4 : decode cX9_mark 4 = .ok (.ifCond .ne 6, 3) := by decide +kernel
theorem dX9_mark_7 : decode cX9_mark 7 = .ok (.bipush (-101), 2) := by decide +kernel
theorem dX9_mark_9 : decode cX9_mark 9 = .ok (.ireturn, 1) := by decide +kernel
end
section
theorem dX9_mark_10 : decode cX9_mark 10 = .ok (.iload_n 2, 1) := by decide +kernel
theorem dX9_mark_11 : decode cX9_mark 11 = .ok (.ifCond .lt 9, 3) := by decide +kernel
theorem dX9_mark_14 : decode cX9_mark 14 = .ok (.iload_n 2, 1) := by decide +kernel
theorem dX9_mark_15 : decode cX9_mark 15 = .ok (.bipush 60, 2) := by decide +kernel
theorem dX9_mark_17 : decode cX9_mark 17 = .ok (.if_icmp .lt 6, 3) := by decide +kernel
theorem dX9_mark_20 : decode cX9_mark 20 = .ok (.bipush (-102), 2) := by decide +kernel
theorem dX9_mark_22 : decode cX9_mark 22 = .ok (.ireturn, 1) := by decide +kernel
theorem dX9_mark_23 : decode cX9_mark 23 = .ok (.aload_n 0, 1) := by decide +kernel
theorem dX9_mark_24 : decode cX9_mark 24 = .ok (.getfield 31, 3) := by decide +kernel
theorem dX9_mark_27 : decode cX9_mark 27 = .ok (.iload_n 1, 1) := by decide +kernel
theorem dX9_mark_28 : decode cX9_mark 28 = .ok (.iload_n 2, 1) := by decide +kernel
theorem dX9_mark_29 : decode cX9_mark 29 = .ok (.invokevirtual 133, 3) := by decide +kernel
theorem dX9_mark_32 : decode cX9_mark 32 = .ok (.ireturn, 1) := by decide +kernel
set_option maxRecDepth 20000 in
theorem ggX9_dated_X9_isCairn : GoodIn wsX9_dated wsX9_isCairn := goodIn_r _ [6] (by decide +kernel) (by decide +kernel)
set_option maxRecDepth 20000 in
theorem gX9_dated_X9_isCairn : GoodIn wsX9_dated (va_wsS RX9 119 yX9_isCairn wsX9_isCairn) := goodIn_app (goodIn_of _ (by decide +kernel)) ggX9_dated_X9_isCairn
set_option maxRecDepth 20000 in
theorem ggX9_dated_X2_markAt : GoodIn wsX9_dated wsX2_markAt := goodIn_r _ [11, 12, 13, 4, 5, 6, 25, 26, 27, 28, 29, 30, 31, 32] (by decide +kernel) (by decide +kernel)
set_option maxRecDepth 20000 in
theorem gX9_dated_X2_markAt : GoodIn wsX9_dated (wsV RX9 133 RX2 yX2_markAt wsX2_markAt) := goodIn_app (goodIn_of _ (by decide +kernel)) ggX9_dated_X2_markAt
theorem dX9_dated_0 : decode cX9_dated 0 = .ok (.iload_n 1, 1) := by decide +kernel
theorem dX9_dated_1 : decode cX9_dated 1 = .ok (.invokestatic 119, 3) := by decide +kernel
theorem dX9_dated_4 : decode cX9_dated 4 = .ok (.ifCond .ne 6, 3) := by decide +kernel
theorem dX9_dated_7 : decode cX9_dated 7 = .ok (.bipush (-101), 2) := by decide +kernel
theorem dX9_dated_9 : decode cX9_dated 9 = .ok (.ireturn, 1) := by decide +kernel
theorem dX9_dated_10 : decode cX9_dated 10 = .ok (.iload_n 2, 1) := by decide +kernel
theorem dX9_dated_11 : decode cX9_dated 11 = .ok (.ifCond .lt 10, 3) := by decide +kernel
theorem dX9_dated_14 : decode cX9_dated 14 = .ok (.iload_n 2, 1) := by decide +kernel
theorem dX9_dated_15 : decode cX9_dated 15 = .ok (.sipush 9999, 3) := by decide +kernel
theorem dX9_dated_18 : decode cX9_dated 18 = .ok (.if_icmp .le 6, 3) := by decide +kernel
theorem dX9_dated_21 : decode cX9_dated 21 = .ok (.bipush (-102), 2) := by decide +kernel
theorem dX9_dated_23 : decode cX9_dated 23 = .ok (.ireturn, 1) := by decide +kernel
theorem dX9_dated_24 : decode cX9_dated 24 = .ok (.iconst 0, 1) := by decide +kernel
theorem dX9_dated_25 : decode cX9_dated 25 = .ok (.istore_n 3, 1) := by decide +kernel
theorem dX9_dated_26 : decode cX9_dated 26 = .ok (.iconst 0, 1) := by decide +kernel
theorem dX9_dated_27 : decode cX9_dated 27 = .ok (.istore 4, 2) := by decide +kernel
theorem dX9_dated_29 : decode cX9_dated 29 = .ok (.iload 4, 2) := by decide +kernel
theorem dX9_dated_31 : decode cX9_dated 31 = .ok (.aload_n 0, 1) := by decide +kernel
theorem dX9_dated_32 : decode cX9_dated 32 = .ok (.getfield 31, 3) := by decide +kernel
theorem dX9_dated_35 : decode cX9_dated 35 = .ok (.getfield 127, 3) := by decide +kernel
theorem dX9_dated_38 : decode cX9_dated 38 = .ok (.iload_n 1, 1) := by decide +kernel
theorem dX9_dated_39 : decode cX9_dated 39 = .ok (.iaload, 1) := by decide +kernel
theorem dX9_dated_40 : decode cX9_dated 40 = .ok (.if_icmp .ge 26, 3) := by decide +kernel
theorem dX9_dated_43 : decode cX9_dated 43 = .ok (.aload_n 0, 1) := by decide +kernel
theorem dX9_dated_44 : decode cX9_dated 44 = .ok (.getfield 31, 3) := by decide +kernel
theorem dX9_dated_47 : decode cX9_dated 47 = .ok (.iload_n 1, 1) := by decide +kernel
theorem dX9_dated_48 : decode cX9_dated 48 = .ok (.iload 4, 2) := by decide +kernel
theorem dX9_dated_50 : decode cX9_dated 50 = .ok (.invokevirtual 133, 3) := by decide +kernel
theorem dX9_dated_53 : decode cX9_dated 53 = .ok (.iload_n 2, 1) := by decide +kernel
theorem dX9_dated_54 : decode cX9_dated 54 = .ok (.if_icmp .ne 6, 3) := by decide +kernel
theorem dX9_dated_57 : decode cX9_dated 57 = .ok (.iinc 3 1, 3) := by decide +kernel
theorem dX9_dated_60 : decode cX9_dated 60 = .ok (.iinc 4 1, 3) := by decide +kernel
theorem dX9_dated_63 : decode cX9_dated 63 = .ok (.goto (-34), 3) := by decide +kernel
theorem dX9_dated_66 : decode cX9_dated 66 = .ok (.iload_n 3, 1) := by decide +kernel
theorem dX9_dated_67 : decode cX9_dated 67 = .ok (.ireturn, 1) := by decide +kernel
theorem dX9_seed_0 : decode cX9_seed 0 = .ok (.iload_n 1, 1) := by decide +kernel
theorem dX9_seed_1 : decode cX9_seed 1 = .ok (.ifCond .ge 6, 3) := by decide +kernel
theorem dX9_seed_4 : decode cX9_seed 4 = .ok (.bipush (-102), 2) := by decide +kernel
theorem dX9_seed_6 : decode cX9_seed 6 = .ok (.ireturn, 1) := by decide +kernel
theorem dX9_seed_7 : decode cX9_seed 7 = .ok (.aload_n 0, 1) := by decide +kernel
theorem dX9_seed_8 : decode cX9_seed 8 = .ok (.getfield 31, 3) := by decide +kernel
theorem dX9_seed_11 : decode cX9_seed 11 = .ok (.getfield 137, 3) := by decide +kernel
theorem dX9_seed_14 : decode cX9_seed 14 = .ok (.istore_n 2, 1) := by decide +kernel
theorem dX9_seed_15 : decode cX9_seed 15 = .ok (.aload_n 0, 1) := by decide +kernel
theorem dX9_seed_16 : decode cX9_seed 16 = .ok (.getfield 31, 3) := by decide +kernel
theorem dX9_seed_19 : decode cX9_seed 19 = .ok (.iload_n 1, 1) := by decide +kernel
theorem dX9_seed_20 : decode cX9_seed 20 = .ok (.putfield 137, 3) := by decide +kernel
theorem dX9_seed_23 : decode cX9_seed 23 = .ok (.iload_n 2, 1) := by decide +kernel
theorem dX9_seed_24 : decode cX9_seed 24 = .ok (.ireturn, 1) := by decide +kernel
set_option maxRecDepth 20000 in
theorem ggX9_weeks_X9_customAt : GoodIn wsX9_weeks wsX9_customAt := goodIn_r _ [8, 9, 135, 136, 137, 138, 139, 140, 141, 142, 143, 144, 145] (by decide +kernel) (by decide +kernel)
set_option maxRecDepth 20000 in
theorem gX9_weeks_X9_customAt : GoodIn wsX9_weeks (wsV RX9 79 RX9 yX9_customAt wsX9_customAt) := goodIn_app (goodIn_of _ (by decide +kernel)) ggX9_weeks_X9_customAt
set_option maxRecDepth 20000 in
theorem ggX9_weeks_X2_goOneWeek : GoodIn wsX9_weeks wsX2_goOneWeek := goodIn_r _ [14, 15, 16, 17, 18, 19, 13, 20, 21, 22, 23, 24, 25, 26, 27, 28, 29, 30, 31, 32, 33, 34, 35, 36, 37, 38, 39, 40, 41, 42, 43, 44, 45, 46, 47, 48, 49, 50, 51, 52, 53, 54, 55, 56, 57, 58, 59, 60, 61, 62, 63, 64, 65, 66, 67, 68, 69, 70, 71, 72, 73, 74, 7, 75, 76, 77, 78, 79, 80, 81, 82, 83, 84, 85, 86, 87, 88, 89, 90, 91, 92, 93, 94, 95, 96, 97, 98, 99, 100, 101, 102, 103, 104, 105, 106, 107, 108, 109, 110, 111, 112, 113, 114, 115, 116, 117, 118, 119, 120, 121, 122, 123, 124, 125, 126, 127, 128, 129, 130, 146, 147, 148, 149, 150, 151, 152, 153, 154, 155, 156, 157, 158, 159, 160, 161, 162, 163, 164, 165, 166, 167, 168, 169, 170, 171, 172] (by decide +kernel) (by decide +kernel)
set_option maxRecDepth 20000 in
theorem gX9_weeks_X2_goOneWeek : GoodIn wsX9_weeks (wsV RX9 143 RX2 yX2_goOneWeek wsX2_goOneWeek) := goodIn_app (goodIn_of _ (by decide +kernel)) ggX9_weeks_X2_goOneWeek
set_option maxRecDepth 20000 in
theorem ggX9_weeks_X2_pebbles : GoodIn wsX9_weeks wsX2_pebbles := goodIn_r _ [134, 42, 146, 147, 148, 149, 150, 151, 152, 153] (by decide +kernel) (by decide +kernel)
set_option maxRecDepth 20000 in
theorem gX9_weeks_X2_pebbles : GoodIn wsX9_weeks (wsV RX9 147 RX2 yX2_pebbles wsX2_pebbles) := goodIn_app (goodIn_of _ (by decide +kernel)) ggX9_weeks_X2_pebbles
theorem dX9_weeks_0 : decode cX9_weeks 0 = .ok (.aload_n 0, 1) := by decide +kernel
theorem dX9_weeks_1 : decode cX9_weeks 1 = .ok (.iload_n 1, 1) := by decide +kernel
theorem dX9_weeks_2 : decode cX9_weeks 2 = .ok (.invokevirtual 79, 3) := by decide +kernel
theorem dX9_weeks_5 : decode cX9_weeks 5 = .ok (.astore_n 3, 1) := by decide +kernel
theorem dX9_weeks_6 : decode cX9_weeks 6 = .ok (.aload_n 3, 1) := by decide +kernel
theorem dX9_weeks_7 : decode cX9_weeks 7 = .ok (.ifnonnull 6, 3) := by decide +kernel
theorem dX9_weeks_10 : decode cX9_weeks 10 = .ok (.bipush (-101), 2) := by decide +kernel
theorem dX9_weeks_12 : decode cX9_weeks 12 = .ok (.ireturn, 1) := by decide +kernel
theorem dX9_weeks_13 : decode cX9_weeks 13 = .ok (.iload_n 2, 1) := by decide +kernel
theorem dX9_weeks_14 : decode cX9_weeks 14 = .ok (.iconst 1, 1) := by decide +kernel
theorem dX9_weeks_15 : decode cX9_weeks 15 = .ok (.if_icmp .lt 9, 3) := by decide +kernel
theorem dX9_weeks_18 : decode cX9_weeks 18 = .ok (.iload_n 2, 1) := by decide +kernel
theorem dX9_weeks_19 : decode cX9_weeks 19 = .ok (.bipush 60, 2) := by decide +kernel
theorem dX9_weeks_21 : decode cX9_weeks 21 = .ok (.if_icmp .le 6, 3) := by decide +kernel
theorem dX9_weeks_24 : decode cX9_weeks 24 = .ok (.bipush (-102), 2) := by decide +kernel
theorem dX9_weeks_26 : decode cX9_weeks 26 = .ok (.ireturn, 1) := by decide +kernel
theorem dX9_weeks_27 : decode cX9_weeks 27 = .ok (.aload_n 0, 1) := by decide +kernel
theorem dX9_weeks_28 : decode cX9_weeks 28 = .ok (.getfield 31, 3) := by decide +kernel
theorem dX9_weeks_31 : decode cX9_weeks 31 = .ok (.getfield 140, 3) := by decide +kernel
theorem dX9_weeks_34 : decode cX9_weeks 34 = .ok (.iload_n 2, 1) := by decide +kernel
theorem dX9_weeks_35 : decode cX9_weeks 35 = .ok (.iadd, 1) := by decide +kernel
theorem dX9_weeks_36 : decode cX9_weeks 36 = .ok (.sipush 9999, 3) := by decide +kernel
theorem dX9_weeks_39 : decode cX9_weeks 39 = .ok (.if_icmp .le 6, 3) := by decide +kernel
theorem dX9_weeks_42 : decode cX9_weeks 42 = .ok (.bipush (-103), 2) := by decide +kernel
theorem dX9_weeks_44 : decode cX9_weeks 44 = .ok (.ireturn, 1) := by decide +kernel
theorem dX9_weeks_45 : decode cX9_weeks 45 = .ok (.iconst 0, 1) := by decide +kernel
theorem dX9_weeks_46 : decode cX9_weeks 46 = .ok (.istore 4, 2) := by decide +kernel
theorem dX9_weeks_48 : decode cX9_weeks 48 = .ok (.iload 4, 2) := by decide +kernel
theorem dX9_weeks_50 : decode cX9_weeks 50 = .ok (.iload_n 2, 1) := by decide +kernel
theorem dX9_weeks_51 : decode cX9_weeks 51 = .ok (.if_icmp .ge 21, 3) := by decide +kernel
theorem dX9_weeks_54 : decode cX9_weeks 54 = .ok (.aload_n 0, 1) := by decide +kernel
theorem dX9_weeks_55 : decode cX9_weeks 55 = .ok (.getfield 31, 3) := by decide +kernel
theorem dX9_weeks_58 : decode cX9_weeks 58 = .ok (.aload_n 3, 1) := by decide +kernel
theorem dX9_weeks_59 : decode cX9_weeks 59 = .ok (.aload_n 0, 1) := by decide +kernel
theorem dX9_weeks_60 : decode cX9_weeks 60 = .ok (.getfield 24, 3) := by decide +kernel
theorem dX9_weeks_63 : decode cX9_weeks 63 = .ok (.invokevirtual 143, 3) := by decide +kernel
theorem dX9_weeks_66 : decode cX9_weeks 66 = .ok (.iinc 4 1, 3) := by decide +kernel
theorem dX9_weeks_69 : decode cX9_weeks 69 = .ok (.goto (-21), 3) := by decide +kernel
theorem dX9_weeks_72 : decode cX9_weeks 72 = .ok (.aload_n 0, 1) := by decide +kernel
theorem dX9_weeks_73 : decode cX9_weeks 73 = .ok (.getfield 31, 3) := by decide +kernel
theorem dX9_weeks_76 : decode cX9_weeks 76 = .ok (.invokevirtual 147, 3) := by decide +kernel
theorem dX9_weeks_79 : decode cX9_weeks 79 = .ok (.ireturn, 1) := by decide +kernel
set_option maxRecDepth 20000 in
theorem ggX9_would_X9_customAt : GoodIn wsX9_would wsX9_customAt := goodIn_r _ [7, 8, 145, 146, 147, 148, 149, 150, 151, 152, 153, 154, 155] (by decide +kernel) (by decide +kernel)
set_option maxRecDepth 20000 in
theorem gX9_would_X9_customAt : GoodIn wsX9_would (wsV RX9 79 RX9 yX9_customAt wsX9_customAt) := goodIn_app (goodIn_of _ (by decide +kernel)) ggX9_would_X9_customAt
set_option maxRecDepth 20000 in
theorem ggX9_would_X9_isCairn : GoodIn wsX9_would wsX9_isCairn := goodIn_r _ [11] (by decide +kernel) (by decide +kernel)
set_option maxRecDepth 20000 in
theorem gX9_would_X9_isCairn : GoodIn wsX9_would (va_wsS RX9 119 yX9_isCairn wsX9_isCairn) := goodIn_app (goodIn_of _ (by decide +kernel)) ggX9_would_X9_isCairn
set_option maxRecDepth 20000 in
theorem ggX9_would_X9_dreamOf : GoodIn wsX9_would wsX9_dreamOf := goodIn_r _ [15, 1, 16, 17, 18, 19, 20, 21, 22, 23, 24, 25, 26, 27, 28, 29, 30, 31, 32, 33, 34, 35, 36, 37, 38, 39, 40, 41, 42, 43, 44, 45, 46, 47, 48, 49, 50, 51, 52, 53, 54, 55, 56, 57, 58, 59, 60, 61, 62, 63, 64, 65, 66, 67, 68, 69, 70, 71, 72, 73, 74, 75, 76, 77, 78, 79, 80, 81, 82, 83, 84, 85, 86, 87, 88, 89, 90, 10, 6, 11, 91, 92, 93, 94, 95, 96, 97, 98, 99, 100, 101, 102, 103, 104, 105, 106, 107, 108, 109, 110, 111, 112, 113, 114, 115, 116, 117, 118, 119, 120, 121, 122, 123, 124, 125, 126, 127, 128, 129, 130, 131, 132, 133, 134, 135, 136, 137, 138, 139, 140, 141, 142, 143, 144, 145, 146, 147, 148, 149, 150, 151, 152, 153, 154, 155, 156, 157, 158, 159, 160, 161, 162, 163, 164, 165, 166, 167, 168, 169, 170, 171, 172, 173, 174, 175, 176, 177, 178, 179, 180, 181, 182] (by decide +kernel) (by decide +kernel)
set_option maxRecDepth 20000 in
theorem gX9_would_X9_dreamOf : GoodIn wsX9_would (wsV RX9 150 RX9 yX9_dreamOf wsX9_dreamOf) := goodIn_app (goodIn_of _ (by decide +kernel)) ggX9_would_X9_dreamOf
theorem dX9_would_0 : decode cX9_would 0 = .ok (.aload_n 0, 1) := by decide +kernel
theorem dX9_would_1 : decode cX9_would 1 = .ok (.iload_n 1, 1) := by decide +kernel
theorem dX9_would_2 : decode cX9_would 2 = .ok (.invokevirtual 79, 3) := by decide +kernel
theorem dX9_would_5 : decode cX9_would 5 = .ok (.astore 4, 2) := by decide +kernel
theorem dX9_would_7 : decode cX9_would 7 = .ok (.aload 4, 2) := by decide +kernel
theorem dX9_would_9 : decode cX9_would 9 = .ok (.ifnull 10, 3) := by decide +kernel
theorem dX9_would_12 : decode cX9_would 12 = .ok (.iload_n 2, 1) := by decide +kernel
theorem dX9_would_13 : decode cX9_would 13 = .ok (.invokestatic 119, 3) := by decide +kernel
theorem dX9_would_16 : decode cX9_would 16 = .ok (.ifCond .ne 6, 3) := by decide +kernel
theorem dX9_would_19 : decode cX9_would 19 = .ok (.bipush (-101), 2) := by decide +kernel
theorem dX9_would_21 : decode cX9_would 21 = .ok (.ireturn, 1) := by decide +kernel
theorem dX9_would_22 : decode cX9_would 22 = .ok (.iload_n 3, 1) := by decide +kernel
theorem dX9_would_23 : decode cX9_would 23 = .ok (.ifCond .lt 9, 3) := by decide +kernel
theorem dX9_would_26 : decode cX9_would 26 = .ok (.iload_n 3, 1) := by decide +kernel
theorem dX9_would_27 : decode cX9_would 27 = .ok (.bipush 60, 2) := by decide +kernel
theorem dX9_would_29 : decode cX9_would 29 = .ok (.if_icmp .le 6, 3) := by decide +kernel
theorem dX9_would_32 : decode cX9_would 32 = .ok (.bipush (-102), 2) := by decide +kernel
theorem dX9_would_34 : decode cX9_would 34 = .ok (.ireturn, 1) := by decide +kernel
theorem dX9_would_35 : decode cX9_would 35 = .ok (.aload_n 0, 1) := by decide +kernel
theorem dX9_would_36 : decode cX9_would 36 = .ok (.aload 4, 2) := by decide +kernel
theorem dX9_would_38 : decode cX9_would 38 = .ok (.iload_n 3, 1) := by decide +kernel
theorem dX9_would_39 : decode cX9_would 39 = .ok (.invokevirtual 150, 3) := by decide +kernel
theorem dX9_would_42 : decode cX9_would 42 = .ok (.aload_n 0, 1) := by decide +kernel
theorem dX9_would_43 : decode cX9_would 43 = .ok (.getfield 38, 3) := by decide +kernel
theorem dX9_would_46 : decode cX9_would 46 = .ok (.getfield 127, 3) := by decide +kernel
theorem dX9_would_49 : decode cX9_would 49 = .ok (.iload_n 2, 1) := by decide +kernel
theorem dX9_would_50 : decode cX9_would 50 = .ok (.iaload, 1) := by decide +kernel
theorem dX9_would_51 : decode cX9_would 51 = .ok (.ireturn, 1) := by decide +kernel
set_option maxRecDepth 20000 in
theorem ggX9_count_X2_pebbles : GoodIn wsX9_count wsX2_pebbles := goodIn_r _ [16, 17, 29, 30, 31, 32, 33, 34, 35, 36] (by decide +kernel) (by decide +kernel)
set_option maxRecDepth 20000 in
theorem gX9_count_X2_pebbles : GoodIn wsX9_count (wsV RX9 147 RX2 yX2_pebbles wsX2_pebbles) := goodIn_app (goodIn_of _ (by decide +kernel)) ggX9_count_X2_pebbles
theorem dX9_count_0 : decode cX9_count 0 = .ok (.iload_n 1, 1) := by decide +kernel
theorem dX9_count_1 : decode cX9_count 1 = .ok (.tableswitch 129 0 9 #[55, 60, 65, 73, 81, 89, 97, 105, 113, 121], 55) := by decide +kernel
theorem dX9_count_56 : decode cX9_count 56 = .ok (.aload_n 0, 1) := by decide +kernel
theorem dX9_count_57 : decode cX9_count 57 = .ok (.getfield 94, 3) := by decide +kernel
theorem dX9_count_60 : decode cX9_count 60 = .ok (.ireturn, 1) := by decide +kernel
theorem dX9_count_61 : decode cX9_count 61 = .ok (.aload_n 0, 1) := by decide +kernel
theorem dX9_count_62 : decode cX9_count 62 = .ok (.getfield 72, 3) := by decide +kernel
theorem dX9_count_65 : decode cX9_count 65 = .ok (.ireturn, 1) := by decide +kernel
theorem dX9_count_66 : decode cX9_count 66 = .ok (.aload_n 0, 1) := by decide +kernel
theorem dX9_count_67 : decode cX9_count 67 = .ok (.getfield 31, 3) := by decide +kernel
theorem dX9_count_70 : decode cX9_count 70 = .ok (.invokevirtual 147, 3) := by decide +kernel
theorem dX9_count_73 : decode cX9_count 73 = .ok (.ireturn, 1) := by decide +kernel
theorem dX9_count_74 : decode cX9_count 74 = .ok (.aload_n 0, 1) := by decide +kernel
theorem dX9_count_75 : decode cX9_count 75 = .ok (.getfield 31, 3) := by decide +kernel
theorem dX9_count_78 : decode cX9_count 78 = .ok (.getfield 140, 3) := by decide +kernel
theorem dX9_count_81 : decode cX9_count 81 = .ok (.ireturn, 1) := by decide +kernel
theorem dX9_count_82 : decode cX9_count 82 = .ok (.aload_n 0, 1) := by decide +kernel
theorem dX9_count_83 : decode cX9_count 83 = .ok (.getfield 31, 3) := by decide +kernel
theorem dX9_count_86 : decode cX9_count 86 = .ok (.getfield 137, 3) := by decide +kernel
theorem dX9_count_89 : decode cX9_count 89 = .ok (.ireturn, 1) := by decide +kernel
theorem dX9_count_90 : decode cX9_count 90 = .ok (.aload_n 0, 1) := by decide +kernel
theorem dX9_count_91 : decode cX9_count 91 = .ok (.getfield 31, 3) := by decide +kernel
theorem dX9_count_94 : decode cX9_count 94 = .ok (.getfield 219, 3) := by decide +kernel
theorem dX9_count_97 : decode cX9_count 97 = .ok (.ireturn, 1) := by decide +kernel
theorem dX9_count_98 : decode cX9_count 98 = .ok (.aload_n 0, 1) := by decide +kernel
theorem dX9_count_99 : decode cX9_count 99 = .ok (.getfield 31, 3) := by decide +kernel
theorem dX9_count_102 : decode cX9_count 102 = .ok (.getfield 222, 3) := by decide +kernel
theorem dX9_count_105 : decode cX9_count 105 = .ok (.ireturn, 1) := by decide +kernel
theorem dX9_count_106 : decode cX9_count 106 = .ok (.aload_n 0, 1) := by decide +kernel
theorem dX9_count_107 : decode cX9_count 107 = .ok (.getfield 31, 3) := by decide +kernel
theorem dX9_count_110 : decode cX9_count 110 = .ok (.getfield 225, 3) := by decide +kernel
theorem dX9_count_113 : decode cX9_count 113 = .ok (.ireturn, 1) := by decide +kernel
theorem dX9_count_114 : decode cX9_count 114 = .ok (.aload_n 0, 1) := by decide +kernel
theorem dX9_count_115 : decode cX9_count 115 = .ok (.getfield 31, 3) := by decide +kernel
theorem dX9_count_118 : decode cX9_count 118 = .ok (.getfield 228, 3) := by decide +kernel
theorem dX9_count_121 : decode cX9_count 121 = .ok (.ireturn, 1) := by decide +kernel
theorem dX9_count_122 : decode cX9_count 122 = .ok (.aload_n 0, 1) := by decide +kernel
theorem dX9_count_123 : decode cX9_count 123 = .ok (.getfield 12, 3) := by decide +kernel
theorem dX9_count_126 : decode cX9_count 126 = .ok (.getfield 56, 3) := by decide +kernel
theorem dX9_count_129 : decode cX9_count 129 = .ok (.ireturn, 1) := by decide +kernel
theorem dX9_count_130 : decode cX9_count 130 = .ok (.bipush (-102), 2) := by decide +kernel
theorem dX9_count_132 : decode cX9_count 132 = .ok (.ireturn, 1) := by decide +kernel
theorem dX9_customAt_0 : decode cX9_customAt 0 = .ok (.iload_n 1, 1) := by decide +kernel
theorem dX9_customAt_1 : decode cX9_customAt 1 = .ok (.ifCond .lt 8, 3) := by decide +kernel
theorem dX9_customAt_4 : decode cX9_customAt 4 = .ok (.iload_n 1, 1) := by decide +kernel
theorem dX9_customAt_5 : decode cX9_customAt 5 = .ok (.iconst 4, 1) := by decide +kernel
theorem dX9_customAt_6 : decode cX9_customAt 6 = .ok (.if_icmp .lt 7, 3) := by decide +kernel
theorem dX9_customAt_9 : decode cX9_customAt 9 = .ok (.aconst_null, 1) := by decide +kernel
theorem dX9_customAt_10 : decode cX9_customAt 10 = .ok (.goto 9, 3) := by decide +kernel
theorem dX9_customAt_13 : decode cX9_customAt 13 = .ok (.aload_n 0, 1) := by decide +kernel
theorem dX9_customAt_14 : decode cX9_customAt 14 = .ok (.getfield 18, 3) := by decide +kernel
theorem dX9_customAt_17 : decode cX9_customAt 17 = .ok (.iload_n 1, 1) := by decide +kernel
theorem dX9_customAt_18 : decode cX9_customAt 18 = .ok (.aaload, 1) := by decide +kernel
theorem dX9_customAt_19 : decode cX9_customAt 19 = .ok (.areturn, 1) := by decide +kernel
theorem dX9_isCairn_0 : decode cX9_isCairn 0 = .ok (.iload_n 0, 1) := by decide +kernel
theorem dX9_isCairn_1 : decode cX9_isCairn 1 = .ok (.ifCond .lt 13, 3) := by decide +kernel
theorem dX9_isCairn_4 : decode cX9_isCairn 4 = .ok (.iload_n 0, 1) := by decide +kernel
theorem dX9_isCairn_5 : decode cX9_isCairn 5 = .ok (.bipush 7, 2) := by decide +kernel
theorem dX9_isCairn_7 : decode cX9_isCairn 7 = .ok (.if_icmp .ge 7, 3) := by decide +kernel
theorem dX9_isCairn_10 : decode cX9_isCairn 10 = .ok (.iconst 1, 1) := by decide +kernel
theorem dX9_isCairn_11 : decode cX9_isCairn 11 = .ok (.goto 4, 3) := by decide +kernel
theorem dX9_isCairn_14 : decode cX9_isCairn 14 = .ok (.iconst 0, 1) := by decide +kernel
theorem dX9_isCairn_15 : decode cX9_isCairn 15 = .ok (.ireturn, 1) := by decide +kernel
set_option maxRecDepth 20000 in
theorem ggX9_isKindWith_X9_isCairn : GoodIn wsX9_isKindWith wsX9_isCairn := goodIn_r _ [4] (by decide +kernel) (by decide +kernel)
set_option maxRecDepth 20000 in
theorem gX9_isKindWith_X9_isCairn : GoodIn wsX9_isKindWith (va_wsS RX9 119 yX9_isCairn wsX9_isCairn) := goodIn_app (goodIn_of _ (by decide +kernel)) ggX9_isKindWith_X9_isCairn
theorem dX9_isKindWith_0 : decode cX9_isKindWith 0 = .ok (.iload_n 0, 1) := by decide +kernel
theorem dX9_isKindWith_1 : decode cX9_isKindWith 1 = .ok (.tableswitch 67 0 3 #[31, 41, 57, 62], 31) := by decide +kernel
theorem dX9_isKindWith_32 : decode cX9_isKindWith 32 = .ok (.iload_n 1, 1) := by decide +kernel
theorem dX9_isKindWith_33 : decode cX9_isKindWith 33 = .ok (.ifCond .ne 7, 3) := by decide +kernel
theorem dX9_isKindWith_36 : decode cX9_isKindWith 36 = .ok (.iconst 1, 1) := by decide +kernel
theorem dX9_isKindWith_37 : decode cX9_isKindWith 37 = .ok (.goto 4, 3) := by decide +kernel
theorem dX9_isKindWith_40 : decode cX9_isKindWith 40 = .ok (.iconst 0, 1) := by decide +kernel
theorem dX9_isKindWith_41 : decode cX9_isKindWith 41 = .ok (.ireturn, 1) := by decide +kernel
theorem dX9_isKindWith_42 : decode cX9_isKindWith 42 = .ok (.iload_n 1, 1) := by decide +kernel
theorem dX9_isKindWith_43 : decode cX9_isKindWith 43 = .ok (.iconst 2, 1) := by decide +kernel
theorem dX9_isKindWith_44 : decode cX9_isKindWith 44 = .ok (.if_icmp .lt 12, 3) := by decide +kernel
theorem dX9_isKindWith_47 : decode cX9_isKindWith 47 = .ok (.iload_n 1, 1) := by decide +kernel
theorem dX9_isKindWith_48 : decode cX9_isKindWith 48 = .ok (.iconst 4, 1) := by decide +kernel
theorem dX9_isKindWith_49 : decode cX9_isKindWith 49 = .ok (.if_icmp .gt 7, 3) := by decide +kernel
theorem dX9_isKindWith_52 : decode cX9_isKindWith 52 = .ok (.iconst 1, 1) := by decide +kernel
theorem dX9_isKindWith_53 : decode cX9_isKindWith 53 = .ok (.goto 4, 3) := by decide +kernel
theorem dX9_isKindWith_56 : decode cX9_isKindWith 56 = .ok (.iconst 0, 1) := by decide +kernel
theorem dX9_isKindWith_57 : decode cX9_isKindWith 57 = .ok (.ireturn, 1) := by decide +kernel
theorem dX9_isKindWith_58 : decode cX9_isKindWith 58 = .ok (.iload_n 1, 1) := by decide +kernel
theorem dX9_isKindWith_59 : decode cX9_isKindWith 59 = .ok (.invokestatic 119, 3) := by decide +kernel
theorem dX9_isKindWith_62 : decode cX9_isKindWith 62 = .ok (.ireturn, 1) := by decide +kernel
theorem dX9_isKindWith_63 : decode cX9_isKindWith 63 = .ok (.iload_n 1, 1) := by decide +kernel
theorem dX9_isKindWith_64 : decode cX9_isKindWith 64 = .ok (.invokestatic 119, 3) := by decide +kernel
theorem dX9_isKindWith_67 : decode cX9_isKindWith 67 = .ok (.ireturn, 1) := by decide +kernel
theorem dX9_isKindWith_68 : decode cX9_isKindWith 68 = .ok (.iconst 0, 1) := by decide +kernel
theorem dX9_isKindWith_69 : decode cX9_isKindWith 69 = .ok (.ireturn, 1) := by decide +kernel
theorem dX9_mayBe_0 : decode cX9_mayBe 0 = .ok (.iload_n 0, 1) := by decide +kernel
theorem dX9_mayBe_1 : decode cX9_mayBe 1 = .ok (.tableswitch 76 2 4 #[27, 44, 60], 27) := by decide +kernel
theorem dX9_mayBe_28 : decode cX9_mayBe 28 = .ok (.iload_n 1, 1) := by decide +kernel
theorem dX9_mayBe_29 : decode cX9_mayBe 29 = .ok (.iconst 1, 1) := by decide +kernel
theorem dX9_mayBe_30 : decode cX9_mayBe 30 = .ok (.if_icmp .lt 13, 3) := by decide +kernel
theorem dX9_mayBe_33 : decode cX9_mayBe 33 = .ok (.iload_n 1, 1) := by decide +kernel
theorem dX9_mayBe_34 : decode cX9_mayBe 34 = .ok (.bipush 9, 2) := by decide +kernel
theorem dX9_mayBe_36 : decode cX9_mayBe 36 = .ok (.if_icmp .gt 7, 3) := by decide +kernel
theorem dX9_mayBe_39 : decode cX9_mayBe 39 = .ok (.iconst 1, 1) := by decide +kernel
theorem dX9_mayBe_40 : decode cX9_mayBe 40 = .ok (.goto 4, 3) := by decide +kernel
theorem dX9_mayBe_43 : decode cX9_mayBe 43 = .ok (.iconst 0, 1) := by decide +kernel
theorem dX9_mayBe_44 : decode cX9_mayBe 44 = .ok (.ireturn, 1) := by decide +kernel
theorem dX9_mayBe_45 : decode cX9_mayBe 45 = .ok (.iload_n 1, 1) := by decide +kernel
theorem dX9_mayBe_46 : decode cX9_mayBe 46 = .ok (.ifCond .lt 13, 3) := by decide +kernel
theorem dX9_mayBe_49 : decode cX9_mayBe 49 = .ok (.iload_n 1, 1) := by decide +kernel
theorem dX9_mayBe_50 : decode cX9_mayBe 50 = .ok (.bipush 10, 2) := by decide +kernel
theorem dX9_mayBe_52 : decode cX9_mayBe 52 = .ok (.if_icmp .gt 7, 3) := by decide +kernel
theorem dX9_mayBe_55 : decode cX9_mayBe 55 = .ok (.iconst 1, 1) := by decide +kernel
theorem dX9_mayBe_56 : decode cX9_mayBe 56 = .ok (.goto 4, 3) := by decide +kernel
theorem dX9_mayBe_59 : decode cX9_mayBe 59 = .ok (.iconst 0, 1) := by decide +kernel
theorem dX9_mayBe_60 : decode cX9_mayBe 60 = .ok (.ireturn, 1) := by decide +kernel
theorem dX9_mayBe_61 : decode cX9_mayBe 61 = .ok (.iload_n 1, 1) := by decide +kernel
theorem dX9_mayBe_62 : decode cX9_mayBe 62 = .ok (.ifCond .lt 13, 3) := by decide +kernel
theorem dX9_mayBe_65 : decode cX9_mayBe 65 = .ok (.iload_n 1, 1) := by decide +kernel
theorem dX9_mayBe_66 : decode cX9_mayBe 66 = .ok (.bipush 10, 2) := by decide +kernel
theorem dX9_mayBe_68 : decode cX9_mayBe 68 = .ok (.if_icmp .gt 7, 3) := by decide +kernel
theorem dX9_mayBe_71 : decode cX9_mayBe 71 = .ok (.iconst 1, 1) := by decide +kernel
theorem dX9_mayBe_72 : decode cX9_mayBe 72 = .ok (.goto 4, 3) := by decide +kernel
theorem dX9_mayBe_75 : decode cX9_mayBe 75 = .ok (.iconst 0, 1) := by decide +kernel
theorem dX9_mayBe_76 : decode cX9_mayBe 76 = .ok (.ireturn, 1) := by decide +kernel
theorem dX9_mayBe_77 : decode cX9_mayBe 77 = .ok (.iconst 0, 1) := by decide +kernel
theorem dX9_mayBe_78 : decode cX9_mayBe 78 = .ok (.ireturn, 1) := by decide +kernel
set_option maxRecDepth 20000 in
theorem ggX9_madeOf_X6_init : GoodIn wsX9_madeOf wsX6_init := goodIn_r _ [15, 16, 17, 12, 18, 19, 20, 21, 22, 40, 41, 42, 43, 44, 45, 46, 47, 32, 33, 34, 35, 36, 37, 38, 39] (by decide +kernel) (by decide +kernel)
set_option maxRecDepth 20000 in
theorem gX9_madeOf_X6_init : GoodIn wsX9_madeOf (wsX6_init) := ggX9_madeOf_X6_init
set_option maxRecDepth 20000 in
theorem ggX9_madeOf_X7_init : GoodIn wsX9_madeOf wsX7_init := goodIn_r _ [25, 26, 17, 12, 18, 19, 20, 21, 22, 40, 41, 42, 43, 44, 45, 46, 47, 32, 33, 34, 35, 36, 37, 38, 39] (by decide +kernel) (by decide +kernel)
set_option maxRecDepth 20000 in
theorem gX9_madeOf_X7_init : GoodIn wsX9_madeOf (wsX7_init) := ggX9_madeOf_X7_init
set_option maxRecDepth 20000 in
theorem ggX9_madeOf_X0_init : GoodIn wsX9_madeOf wsX0_init := goodIn_r _ [29, 30, 24, 6, 25, 26, 17, 12, 18, 19, 20, 21, 22, 40, 41, 42, 43, 44, 45, 46, 47, 32, 33, 34, 35, 36, 37, 38, 39] (by decide +kernel) (by decide +kernel)
set_option maxRecDepth 20000 in
theorem gX9_madeOf_X0_init : GoodIn wsX9_madeOf (wsX0_init) := ggX9_madeOf_X0_init
set_option maxRecDepth 20000 in
theorem ggX9_madeOf_X5_init : GoodIn wsX9_madeOf wsX5_init := goodIn_r _ [18, 19, 20, 21, 22, 40, 41, 42, 43, 44, 45, 46, 47, 32, 33, 34, 35, 36, 37, 38, 39] (by decide +kernel) (by decide +kernel)
set_option maxRecDepth 20000 in
theorem gX9_madeOf_X5_init : GoodIn wsX9_madeOf (wsX5_init) := ggX9_madeOf_X5_init
theorem dX9_madeOf_0 : decode cX9_madeOf 0 = .ok (.iload_n 0, 1) := by decide +kernel
theorem dX9_madeOf_1 : decode cX9_madeOf 1 = .ok (.tableswitch 54 1 3 #[27, 36, 45], 27) := by decide +kernel
theorem dX9_madeOf_28 : decode cX9_madeOf 28 = .ok (.new 254, 3) := by decide +kernel
theorem dX9_madeOf_31 : decode cX9_madeOf 31 = .ok (.dup, 1) := by decide +kernel
theorem dX9_madeOf_32 : decode cX9_madeOf 32 = .ok (.iload_n 1, 1) := by decide +kernel
theorem dX9_madeOf_33 : decode cX9_madeOf 33 = .ok (.invokespecial 256, 3) := by decide +kernel
theorem dX9_madeOf_36 : decode cX9_madeOf 36 = .ok (.areturn, 1) := by decide +kernel
theorem dX9_madeOf_37 : decode cX9_madeOf 37 = .ok (.new 259, 3) := by decide +kernel
theorem dX9_madeOf_40 : decode cX9_madeOf 40 = .ok (.dup, 1) := by decide +kernel
theorem dX9_madeOf_41 : decode cX9_madeOf 41 = .ok (.iload_n 1, 1) := by decide +kernel
theorem dX9_madeOf_42 : decode cX9_madeOf 42 = .ok (.invokespecial 261, 3) := by decide +kernel
theorem dX9_madeOf_45 : decode cX9_madeOf 45 = .ok (.areturn, 1) := by decide +kernel
theorem dX9_madeOf_46 : decode cX9_madeOf 46 = .ok (.new 262, 3) := by decide +kernel
theorem dX9_madeOf_49 : decode cX9_madeOf 49 = .ok (.dup, 1) := by decide +kernel
theorem dX9_madeOf_50 : decode cX9_madeOf 50 = .ok (.iload_n 1, 1) := by decide +kernel
theorem dX9_madeOf_51 : decode cX9_madeOf 51 = .ok (.invokespecial 264, 3) := by decide +kernel
theorem dX9_madeOf_54 : decode cX9_madeOf 54 = .ok (.areturn, 1) := by decide +kernel
theorem dX9_madeOf_55 : decode cX9_madeOf 55 = .ok (.new 22, 3) := by decide +kernel
theorem dX9_madeOf_58 : decode cX9_madeOf 58 = .ok (.dup, 1) := by decide +kernel
theorem dX9_madeOf_59 : decode cX9_madeOf 59 = .ok (.iload_n 1, 1) := by decide +kernel
theorem dX9_madeOf_60 : decode cX9_madeOf 60 = .ok (.invokespecial 265, 3) := by decide +kernel
theorem dX9_madeOf_63 : decode cX9_madeOf 63 = .ok (.areturn, 1) := by decide +kernel
set_option maxRecDepth 20000 in
theorem ggX9_dreamOf_X2_become : GoodIn wsX9_dreamOf wsX2_become := goodIn_r _ [8, 9, 10, 11, 12, 13, 14, 15, 16, 17, 18, 19, 20, 145, 146, 147, 148, 149, 150, 151, 152] (by decide +kernel) (by decide +kernel)
set_option maxRecDepth 20000 in
theorem gX9_dreamOf_X2_become : GoodIn wsX9_dreamOf (wsV RX9 196 RX2 yX2_become wsX2_become) := goodIn_app (goodIn_of _ (by decide +kernel)) ggX9_dreamOf_X2_become
set_option maxRecDepth 20000 in
theorem ggX9_dreamOf_X2_goOneWeek : GoodIn wsX9_dreamOf wsX2_goOneWeek := goodIn_r _ [24, 15, 25, 26, 27, 28, 7, 29, 30, 31, 16, 32, 33, 34, 35, 36, 37, 38, 17, 39, 40, 41, 42, 43, 44, 45, 46, 47, 48, 9, 49, 50, 51, 52, 53, 54, 55, 56, 57, 58, 59, 60, 61, 62, 63, 64, 65, 66, 67, 68, 69, 70, 71, 72, 18, 73, 74, 75, 76, 20, 14, 77, 78, 79, 80, 81, 82, 83, 84, 85, 86, 87, 88, 89, 90, 91, 92, 93, 94, 95, 96, 97, 98, 99, 100, 101, 102, 103, 104, 105, 106, 107, 108, 109, 110, 111, 112, 113, 114, 115, 116, 117, 118, 119, 19, 120, 121, 122, 123, 124, 125, 126, 127, 128, 129, 130, 131, 132, 133, 145, 146, 147, 148, 149, 150, 151, 152, 153, 154, 155, 156, 157, 158, 159, 160, 161, 162, 163, 164, 165, 166, 167, 168, 169, 170, 171] (by decide +kernel) (by decide +kernel)
set_option maxRecDepth 20000 in
theorem gX9_dreamOf_X2_goOneWeek : GoodIn wsX9_dreamOf (wsV RX9 143 RX2 yX2_goOneWeek wsX2_goOneWeek) := goodIn_app (goodIn_of _ (by decide +kernel)) ggX9_dreamOf_X2_goOneWeek
theorem dX9_dreamOf_0 : decode cX9_dreamOf 0 = .ok (.aload_n 0, 1) := by decide +kernel
theorem dX9_dreamOf_1 : decode cX9_dreamOf 1 = .ok (.getfield 38, 3) := by decide +kernel
theorem dX9_dreamOf_4 : decode cX9_dreamOf 4 = .ok (.aload_n 0, 1) := by decide +kernel
theorem dX9_dreamOf_5 : decode cX9_dreamOf 5 = .ok (.getfield 31, 3) := by decide +kernel
theorem dX9_dreamOf_8 : decode cX9_dreamOf 8 = .ok (.invokevirtual 196, 3) := by decide +kernel
theorem dX9_dreamOf_11 : decode cX9_dreamOf 11 = .ok (.iconst 0, 1) := by decide +kernel
theorem dX9_dreamOf_12 : decode cX9_dreamOf 12 = .ok (.istore_n 3, 1) := by decide +kernel
theorem dX9_dreamOf_13 : decode cX9_dreamOf 13 = .ok (.iload_n 3, 1) := by decide +kernel
theorem dX9_dreamOf_14 : decode cX9_dreamOf 14 = .ok (.iload_n 2, 1) := by decide +kernel
theorem dX9_dreamOf_15 : decode cX9_dreamOf 15 = .ok (.if_icmp .ge 21, 3) := by decide +kernel
theorem dX9_dreamOf_18 : decode cX9_dreamOf 18 = .ok (.aload_n 0, 1) := by decide +kernel
theorem dX9_dreamOf_19 : decode cX9_dreamOf 19 = .ok (.getfield 38, 3) := by decide +kernel
theorem dX9_dreamOf_22 : decode cX9_dreamOf 22 = .ok (.aload_n 1, 1) := by decide +kernel
theorem dX9_dreamOf_23 : decode cX9_dreamOf 23 = .ok (.aload_n 0, 1) := by decide +kernel
theorem dX9_dreamOf_24 : decode cX9_dreamOf 24 = .ok (.getfield 24, 3) := by decide +kernel
theorem dX9_dreamOf_27 : decode cX9_dreamOf 27 = .ok (.invokevirtual 143, 3) := by decide +kernel
theorem dX9_dreamOf_30 : decode cX9_dreamOf 30 = .ok (.iinc 3 1, 3) := by decide +kernel
theorem dX9_dreamOf_33 : decode cX9_dreamOf 33 = .ok (.goto (-20), 3) := by decide +kernel
theorem dX9_dreamOf_36 : decode cX9_dreamOf 36 = .ok (.return_, 1) := by decide +kernel
theorem dJ9_min_7cf53_0 : decode cJ9_min_7cf53 0 = .ok (.iload_n 0, 1) := by decide +kernel
theorem dJ9_min_7cf53_1 : decode cJ9_min_7cf53 1 = .ok (.iload_n 1, 1) := by decide +kernel
theorem dJ9_min_7cf53_2 : decode cJ9_min_7cf53 2 = .ok (.if_icmp .gt 7, 3) := by decide +kernel
theorem dJ9_min_7cf53_5 : decode cJ9_min_7cf53 5 = .ok (.iload_n 0, 1) := by decide +kernel
theorem dJ9_min_7cf53_6 : decode cJ9_min_7cf53 6 = .ok (.goto 4, 3) := by decide +kernel
theorem dJ9_min_7cf53_9 : decode cJ9_min_7cf53 9 = .ok (.iload_n 1, 1) := by decide +kernel
theorem dJ9_min_7cf53_10 : decode cJ9_min_7cf53 10 = .ok (.ireturn, 1) := by decide +kernel
theorem dL_cell_0 : decode cL_cell 0 = .ok (.iload_n 1, 1) := by decide +kernel
theorem dL_cell_1 : decode cL_cell 1 = .ok (.aload_n 0, 1) := by decide +kernel
theorem dL_cell_2 : decode cL_cell 2 = .ok (.arraylength, 1) := by decide +kernel
theorem dL_cell_3 : decode cL_cell 3 = .ok (.if_icmp .ge 9, 3) := by decide +kernel
theorem dL_cell_6 : decode cL_cell 6 = .ok (.aload_n 0, 1) := by decide +kernel
theorem dL_cell_7 : decode cL_cell 7 = .ok (.iload_n 1, 1) := by decide +kernel
theorem dL_cell_8 : decode cL_cell 8 = .ok (.iaload, 1) := by decide +kernel
theorem dL_cell_9 : decode cL_cell 9 = .ok (.goto 11, 3) := by decide +kernel
theorem dL_cell_12 : decode cL_cell 12 = .ok (.sipush 7919, 3) := by decide +kernel
theorem dL_cell_15 : decode cL_cell 15 = .ok (.iload_n 1, 1) := by decide +kernel
theorem dL_cell_16 : decode cL_cell 16 = .ok (.imul, 1) := by decide +kernel
theorem dL_cell_17 : decode cL_cell 17 = .ok (.bipush 13, 2) := by decide +kernel
theorem dL_cell_19 : decode cL_cell 19 = .ok (.iadd, 1) := by decide +kernel
theorem dL_cell_20 : decode cL_cell 20 = .ok (.ldc 7, 2) := by decide +kernel
theorem dL_cell_22 : decode cL_cell 22 = .ok (.iand, 1) := by decide +kernel
theorem dL_cell_23 : decode cL_cell 23 = .ok (.ireturn, 1) := by decide +kernel
set_option maxRecDepth 20000 in
theorem ggL_put_X9_letters : GoodIn wsL_put wsX9_letters := goodIn_r _ [5, 6, 7, 8, 9, 10, 11, 12, 13, 14, 15, 16, 17, 18, 19, 20, 21, 22, 23, 24, 25, 26, 27, 28, 29, 30, 31, 32, 33, 34] (by decide +kernel) (by decide +kernel)
set_option maxRecDepth 20000 in
theorem gL_put_X9_letters : GoodIn wsL_put (wsV RL 8 RX9 yX9_letters wsX9_letters) := goodIn_app (goodIn_of _ (by decide +kernel)) ggL_put_X9_letters
theorem dL_put_0 : decode cL_put 0 = .ok (.aload_n 0, 1) := by decide +kernel
theorem dL_put_1 : decode cL_put 1 = .ok (.iload_n 1, 1) := by decide +kernel
theorem dL_put_2 : decode cL_put 2 = .ok (.i2l, 1) := by decide +kernel
theorem dL_put_3 : decode cL_put 3 = .ok (.invokevirtual 8, 3) := by decide +kernel
theorem dL_put_6 : decode cL_put 6 = .ok (.ifCond .le 7, 3) := by decide +kernel
theorem dL_put_9 : decode cL_put 9 = .ok (.iconst 1, 1) := by decide +kernel
theorem dL_put_10 : decode cL_put 10 = .ok (.goto 4, 3) := by decide +kernel
theorem dL_put_13 : decode cL_put 13 = .ok (.iconst 0, 1) := by decide +kernel
theorem dL_put_14 : decode cL_put 14 = .ok (.ireturn, 1) := by decide +kernel
theorem dL_letter_0 : decode cL_letter 0 = .ok (.iload_n 0, 1) := by decide +kernel
theorem dL_letter_1 : decode cL_letter 1 = .ok (.bipush 7, 2) := by decide +kernel
theorem dL_letter_3 : decode cL_letter 3 = .ok (.if_icmp .ge 10, 3) := by decide +kernel
theorem dL_letter_6 : decode cL_letter 6 = .ok (.bipush 48, 2) := by decide +kernel
theorem dL_letter_8 : decode cL_letter 8 = .ok (.iload_n 0, 1) := by decide +kernel
theorem dL_letter_9 : decode cL_letter 9 = .ok (.iadd, 1) := by decide +kernel
theorem dL_letter_10 : decode cL_letter 10 = .ok (.goto 38, 3) := by decide +kernel
theorem dL_letter_13 : decode cL_letter 13 = .ok (.iload_n 0, 1) := by decide +kernel
theorem dL_letter_14 : decode cL_letter 14 = .ok (.bipush 7, 2) := by decide +kernel
theorem dL_letter_16 : decode cL_letter 16 = .ok (.if_icmp .ne 8, 3) := by decide +kernel
theorem dL_letter_19 : decode cL_letter 19 = .ok (.bipush 109, 2) := by decide +kernel
theorem dL_letter_21 : decode cL_letter 21 = .ok (.goto 27, 3) := by decide +kernel
theorem dL_letter_24 : decode cL_letter 24 = .ok (.iload_n 0, 1) := by decide +kernel
theorem dL_letter_25 : decode cL_letter 25 = .ok (.bipush 8, 2) := by decide +kernel
theorem dL_letter_27 : decode cL_letter 27 = .ok (.if_icmp .ne 8, 3) := by decide +kernel
theorem dL_letter_30 : decode cL_letter 30 = .ok (.bipush 108, 2) := by decide +kernel
theorem dL_letter_32 : decode cL_letter 32 = .ok (.goto 16, 3) := by decide +kernel
theorem dL_letter_35 : decode cL_letter 35 = .ok (.iload_n 0, 1) := by decide +kernel
theorem dL_letter_36 : decode cL_letter 36 = .ok (.bipush 9, 2) := by decide +kernel
theorem dL_letter_38 : decode cL_letter 38 = .ok (.if_icmp .ne 8, 3) := by decide +kernel
theorem dL_letter_41 : decode cL_letter 41 = .ok (.bipush 112, 2) := by decide +kernel
theorem dL_letter_43 : decode cL_letter 43 = .ok (.goto 5, 3) := by decide +kernel
theorem dL_letter_46 : decode cL_letter 46 = .ok (.bipush 110, 2) := by decide +kernel
theorem dL_letter_48 : decode cL_letter 48 = .ok (.ireturn, 1) := by decide +kernel
set_option maxRecDepth 20000 in
theorem ggL_custom_L_put : GoodIn wsL_custom wsL_put := goodIn_r _ [4, 5, 6, 7, 8, 9, 10, 11, 12, 13, 14, 15, 16, 17, 18, 19, 20, 21, 22, 23, 24, 25, 92, 93, 94, 95, 96, 97, 98, 99, 100, 101, 102, 103, 104] (by decide +kernel) (by decide +kernel)
set_option maxRecDepth 20000 in
theorem gL_custom_L_put : GoodIn wsL_custom (va_wsS RL 14 yL_put wsL_put) := goodIn_app (goodIn_of _ (by decide +kernel)) ggL_custom_L_put
set_option maxRecDepth 20000 in
theorem ggL_custom_L_letter : GoodIn wsL_custom wsL_letter := goodIn_r _ [28] (by decide +kernel) (by decide +kernel)
set_option maxRecDepth 20000 in
theorem gL_custom_L_letter : GoodIn wsL_custom (va_wsS RL 20 yL_letter wsL_letter) := goodIn_app (goodIn_of _ (by decide +kernel)) ggL_custom_L_letter
set_option maxRecDepth 20000 in
theorem ggL_custom_X9_fault : GoodIn wsL_custom wsX9_fault := goodIn_r _ [32, 10, 33, 34, 35, 14, 36, 24, 37, 38, 39, 40, 25, 41, 42, 43, 44, 45, 46, 92, 93, 94, 95, 96, 97, 98, 99, 100, 101, 102, 103, 104] (by decide +kernel) (by decide +kernel)
set_option maxRecDepth 20000 in
theorem gL_custom_X9_fault : GoodIn wsL_custom (wsV RL 24 RX9 yX9_fault wsX9_fault) := goodIn_app (goodIn_of _ (by decide +kernel)) ggL_custom_X9_fault
set_option maxRecDepth 20000 in
theorem ggL_custom_X9_count : GoodIn wsL_custom wsX9_count := goodIn_r _ [50, 51, 52, 53, 54, 55, 56, 57, 58, 59, 10, 11, 60, 61, 62, 63, 64, 65, 92, 93, 94, 95, 96, 97, 98, 99, 100, 101, 102, 105, 106, 107, 108, 109, 110, 111, 112, 103, 104] (by decide +kernel) (by decide +kernel)
set_option maxRecDepth 20000 in
theorem gL_custom_X9_count : GoodIn wsL_custom (wsV RL 28 RX9 yX9_count wsX9_count) := goodIn_app (goodIn_of _ (by decide +kernel)) ggL_custom_X9_count
set_option maxRecDepth 20000 in
theorem ggL_custom_X9_custom : GoodIn wsL_custom wsX9_custom := goodIn_r _ [69, 10, 52, 70, 11, 71, 72, 73, 14, 74, 24, 75, 34, 35, 36, 37, 38, 39, 40, 25, 41, 42, 43, 44, 45, 46, 76, 77, 78, 79, 80, 81, 82, 83, 84, 85, 86, 87, 88, 89, 90, 91, 92, 93, 94, 95, 96, 97, 98, 99, 100, 101, 102, 103, 104, 113, 114, 115] (by decide +kernel) (by decide +kernel)
set_option maxRecDepth 20000 in
theorem gL_custom_X9_custom : GoodIn wsL_custom (wsV RL 31 RX9 yX9_custom wsX9_custom) := goodIn_app (goodIn_of _ (by decide +kernel)) ggL_custom_X9_custom
theorem dL_custom_0 : decode cL_custom 0 = .ok (.aload_n 3, 1) := by decide +kernel
theorem dL_custom_1 : decode cL_custom 1 = .ok (.iconst 0, 1) := by decide +kernel
theorem dL_custom_2 : decode cL_custom 2 = .ok (.iload_n 1, 1) := by decide +kernel
theorem dL_custom_3 : decode cL_custom 3 = .ok (.bipush 11, 2) := by decide +kernel
theorem dL_custom_5 : decode cL_custom 5 = .ok (.irem, 1) := by decide +kernel
theorem dL_custom_6 : decode cL_custom 6 = .ok (.iastore, 1) := by decide +kernel
theorem dL_custom_7 : decode cL_custom 7 = .ok (.aload_n 3, 1) := by decide +kernel
theorem dL_custom_8 : decode cL_custom 8 = .ok (.iconst 1, 1) := by decide +kernel
theorem dL_custom_9 : decode cL_custom 9 = .ok (.iload_n 1, 1) := by decide +kernel
theorem dL_custom_10 : decode cL_custom 10 = .ok (.bipush 16, 2) := by decide +kernel
theorem dL_custom_12 : decode cL_custom 12 = .ok (.idiv, 1) := by decide +kernel
theorem dL_custom_13 : decode cL_custom 13 = .ok (.bipush 11, 2) := by decide +kernel
theorem dL_custom_15 : decode cL_custom 15 = .ok (.irem, 1) := by decide +kernel
theorem dL_custom_16 : decode cL_custom 16 = .ok (.iastore, 1) := by decide +kernel
theorem dL_custom_17 : decode cL_custom 17 = .ok (.aload_n 3, 1) := by decide +kernel
theorem dL_custom_18 : decode cL_custom 18 = .ok (.iconst 2, 1) := by decide +kernel
theorem dL_custom_19 : decode cL_custom 19 = .ok (.iload_n 1, 1) := by decide +kernel
theorem dL_custom_20 : decode cL_custom 20 = .ok (.sipush 256, 3) := by decide +kernel
theorem dL_custom_23 : decode cL_custom 23 = .ok (.idiv, 1) := by decide +kernel
theorem dL_custom_24 : decode cL_custom 24 = .ok (.iconst 3, 1) := by decide +kernel
theorem dL_custom_25 : decode cL_custom 25 = .ok (.irem, 1) := by decide +kernel
theorem dL_custom_26 : decode cL_custom 26 = .ok (.ifCond .ne 16, 3) := by decide +kernel
theorem dL_custom_29 : decode cL_custom 29 = .ok (.iconst 1, 1) := by decide +kernel
theorem dL_custom_30 : decode cL_custom 30 = .ok (.iload_n 1, 1) := by decide +kernel
theorem dL_custom_31 : decode cL_custom 31 = .ok (.sipush 1024, 3) := by decide +kernel
theorem dL_custom_34 : decode cL_custom 34 = .ok (.idiv, 1) := by decide +kernel
theorem dL_custom_35 : decode cL_custom 35 = .ok (.bipush 9, 2) := by decide +kernel
theorem dL_custom_37 : decode cL_custom 37 = .ok (.irem, 1) := by decide +kernel
theorem dL_custom_38 : decode cL_custom 38 = .ok (.iadd, 1) := by decide +kernel
theorem dL_custom_39 : decode cL_custom 39 = .ok (.goto 4, 3) := by decide +kernel
theorem dL_custom_42 : decode cL_custom 42 = .ok (.iconst 0, 1) := by decide +kernel
theorem dL_custom_43 : decode cL_custom 43 = .ok (.iastore, 1) := by decide +kernel
theorem dL_custom_44 : decode cL_custom 44 = .ok (.aload_n 0, 1) := by decide +kernel
theorem dL_custom_45 : decode cL_custom 45 = .ok (.bipush 119, 2) := by decide +kernel
theorem dL_custom_47 : decode cL_custom 47 = .ok (.invokestatic 14, 3) := by decide +kernel
theorem dL_custom_50 : decode cL_custom 50 = .ok (.ifCond .eq 70, 3) := by decide +kernel
theorem dL_custom_53 : decode cL_custom 53 = .ok (.aload_n 0, 1) := by decide +kernel
theorem dL_custom_54 : decode cL_custom 54 = .ok (.aload_n 3, 1) := by decide +kernel
theorem dL_custom_55 : decode cL_custom 55 = .ok (.iconst 0, 1) := by decide +kernel
theorem dL_custom_56 : decode cL_custom 56 = .ok (.iaload, 1) := by decide +kernel
theorem dL_custom_57 : decode cL_custom 57 = .ok (.invokestatic 20, 3) := by decide +kernel
theorem dL_custom_60 : decode cL_custom 60 = .ok (.invokestatic 14, 3) := by decide +kernel
theorem dL_custom_63 : decode cL_custom 63 = .ok (.ifCond .eq 57, 3) := by decide +kernel
theorem dL_custom_66 : decode cL_custom 66 = .ok (.aload_n 0, 1) := by decide +kernel
theorem dL_custom_67 : decode cL_custom 67 = .ok (.bipush 115, 2) := by decide +kernel
theorem dL_custom_69 : decode cL_custom 69 = .ok (.invokestatic 14, 3) := by decide +kernel
theorem dL_custom_72 : decode cL_custom 72 = .ok (.ifCond .eq 48, 3) := by decide +kernel
theorem dL_custom_75 : decode cL_custom 75 = .ok (.aload_n 0, 1) := by decide +kernel
theorem dL_custom_76 : decode cL_custom 76 = .ok (.aload_n 3, 1) := by decide +kernel
theorem dL_custom_77 : decode cL_custom 77 = .ok (.iconst 1, 1) := by decide +kernel
theorem dL_custom_78 : decode cL_custom 78 = .ok (.iaload, 1) := by decide +kernel
theorem dL_custom_79 : decode cL_custom 79 = .ok (.invokestatic 20, 3) := by decide +kernel
theorem dL_custom_82 : decode cL_custom 82 = .ok (.invokestatic 14, 3) := by decide +kernel
theorem dL_custom_85 : decode cL_custom 85 = .ok (.ifCond .eq 35, 3) := by decide +kernel
theorem dL_custom_88 : decode cL_custom 88 = .ok (.aload_n 3, 1) := by decide +kernel
theorem dL_custom_89 : decode cL_custom 89 = .ok (.iconst 2, 1) := by decide +kernel
theorem dL_custom_90 : decode cL_custom 90 = .ok (.iaload, 1) := by decide +kernel
theorem dL_custom_91 : decode cL_custom 91 = .ok (.ifCond .eq 25, 3) := by decide +kernel
theorem dL_custom_94 : decode cL_custom 94 = .ok (.aload_n 0, 1) := by decide +kernel
theorem dL_custom_95 : decode cL_custom 95 = .ok (.bipush 102, 2) := by decide +kernel
theorem dL_custom_97 : decode cL_custom 97 = .ok (.invokestatic 14, 3) := by decide +kernel
theorem dL_custom_100 : decode cL_custom 100 = .ok (.ifCond .eq 20, 3) := by decide +kernel
theorem dL_custom_103 : decode cL_custom 103 = .ok (.aload_n 0, 1) := by decide +kernel
theorem dL_custom_104 : decode cL_custom 104 = .ok (.bipush 48, 2) := by decide +kernel
theorem dL_custom_106 : decode cL_custom 106 = .ok (.aload_n 3, 1) := by decide +kernel
theorem dL_custom_107 : decode cL_custom 107 = .ok (.iconst 2, 1) := by decide +kernel
theorem dL_custom_108 : decode cL_custom 108 = .ok (.iaload, 1) := by decide +kernel
theorem dL_custom_109 : decode cL_custom 109 = .ok (.iadd, 1) := by decide +kernel
theorem dL_custom_110 : decode cL_custom 110 = .ok (.invokestatic 14, 3) := by decide +kernel
theorem dL_custom_113 : decode cL_custom 113 = .ok (.ifCond .eq 7, 3) := by decide +kernel
theorem dL_custom_116 : decode cL_custom 116 = .ok (.iconst 1, 1) := by decide +kernel
theorem dL_custom_117 : decode cL_custom 117 = .ok (.goto 4, 3) := by decide +kernel
theorem dL_custom_120 : decode cL_custom 120 = .ok (.iconst 0, 1) := by decide +kernel
theorem dL_custom_121 : decode cL_custom 121 = .ok (.istore 4, 2) := by decide +kernel
theorem dL_custom_123 : decode cL_custom 123 = .ok (.iload 4, 2) := by decide +kernel
theorem dL_custom_125 : decode cL_custom 125 = .ok (.ifCond .eq 28, 3) := by decide +kernel
theorem dL_custom_128 : decode cL_custom 128 = .ok (.aload_n 0, 1) := by decide +kernel
theorem dL_custom_129 : decode cL_custom 129 = .ok (.invokevirtual 24, 3) := by decide +kernel
theorem dL_custom_132 : decode cL_custom 132 = .ok (.aload_n 0, 1) := by decide +kernel
theorem dL_custom_133 : decode cL_custom 133 = .ok (.bipush 9, 2) := by decide +kernel
theorem dL_custom_135 : decode cL_custom 135 = .ok (.invokevirtual 28, 3) := by decide +kernel
theorem dL_custom_138 : decode cL_custom 138 = .ok (.if_icmp .ne 15, 3) := by decide +kernel
theorem dL_custom_141 : decode cL_custom 141 = .ok (.aload_n 0, 1) := by decide +kernel
theorem dL_custom_142 : decode cL_custom 142 = .ok (.invokevirtual 31, 3) := by decide +kernel
theorem dL_custom_145 : decode cL_custom 145 = .ok (.iload_n 2, 1) := by decide +kernel
theorem dL_custom_146 : decode cL_custom 146 = .ok (.if_icmp .ne 7, 3) := by decide +kernel
theorem dL_custom_149 : decode cL_custom 149 = .ok (.iconst 1, 1) := by decide +kernel
theorem dL_custom_150 : decode cL_custom 150 = .ok (.goto 4, 3) := by decide +kernel
theorem dL_custom_153 : decode cL_custom 153 = .ok (.iconst 0, 1) := by decide +kernel
theorem dL_custom_154 : decode cL_custom 154 = .ok (.ireturn, 1) := by decide +kernel
set_option maxRecDepth 20000 in
theorem ggL_parishes_L_cell : GoodIn wsL_parishes wsL_cell := goodIn_r _ [4, 5] (by decide +kernel) (by decide +kernel)
set_option maxRecDepth 20000 in
theorem gL_parishes_L_cell : GoodIn wsL_parishes (va_wsS RL 34 yL_cell wsL_cell) := goodIn_app (goodIn_of _ (by decide +kernel)) ggL_parishes_L_cell
set_option maxRecDepth 20000 in
theorem ggL_parishes_X9_parish : GoodIn wsL_parishes wsX9_parish := goodIn_r _ [10, 11, 12, 13, 14, 15, 16, 17, 9, 18, 19, 20, 21, 22, 23, 24, 25, 26, 27, 28, 29, 30, 31, 32, 33, 34, 35, 36, 37, 38, 39, 40, 41, 42, 43, 44, 45, 46, 47, 48, 49, 50, 51, 52, 53, 54, 55, 56, 57, 58, 59, 60, 61, 62, 63, 64, 65, 66, 67, 68, 69, 70, 71, 72, 73, 74, 75, 76, 77, 78, 79, 80, 81, 82, 83, 84, 85] (by decide +kernel) (by decide +kernel)
set_option maxRecDepth 20000 in
theorem gL_parishes_X9_parish : GoodIn wsL_parishes (wsV RL 38 RX9 yX9_parish wsX9_parish) := goodIn_app (goodIn_of _ (by decide +kernel)) ggL_parishes_X9_parish
theorem dL_parishes_0 : decode cL_parishes 0 = .ok (.iconst 0, 1) := by decide +kernel
theorem dL_parishes_1 : decode cL_parishes 1 = .ok (.istore 6, 2) := by decide +kernel
theorem dL_parishes_3 : decode cL_parishes 3 = .ok (.iload 6, 2) := by decide +kernel
theorem dL_parishes_5 : decode cL_parishes 5 = .ok (.iload_n 3, 1) := by decide +kernel
theorem dL_parishes_6 : decode cL_parishes 6 = .ok (.if_icmp .ge 182, 3) := by decide +kernel
theorem dL_parishes_9 : decode cL_parishes 9 = .ok (.aload_n 1, 1) := by decide +kernel
theorem dL_parishes_10 : decode cL_parishes 10 = .ok (.iload_n 2, 1) := by decide +kernel
theorem dL_parishes_11 : decode cL_parishes 11 = .ok (.iload 6, 2) := by decide +kernel
theorem dL_parishes_13 : decode cL_parishes 13 = .ok (.iadd, 1) := by decide +kernel
theorem dL_parishes_14 : decode cL_parishes 14 = .ok (.invokestatic 34, 3) := by decide +kernel
theorem dL_parishes_17 : decode cL_parishes 17 = .ok (.istore 7, 2) := by decide +kernel
theorem dL_parishes_19 : decode cL_parishes 19 = .ok (.iload 7, 2) := by decide +kernel
theorem dL_parishes_21 : decode cL_parishes 21 = .ok (.iconst 4, 1) := by decide +kernel
theorem dL_parishes_22 : decode cL_parishes 22 = .ok (.irem, 1) := by decide +kernel
theorem dL_parishes_23 : decode cL_parishes 23 = .ok (.istore 8, 2) := by decide +kernel
theorem dL_parishes_25 : decode cL_parishes 25 = .ok (.aload 5, 2) := by decide +kernel
theorem dL_parishes_27 : decode cL_parishes 27 = .ok (.iconst 5, 1) := by decide +kernel
theorem dL_parishes_28 : decode cL_parishes 28 = .ok (.iload 6, 2) := by decide +kernel
theorem dL_parishes_30 : decode cL_parishes 30 = .ok (.imul, 1) := by decide +kernel
theorem dL_parishes_31 : decode cL_parishes 31 = .ok (.iload 8, 2) := by decide +kernel
theorem dL_parishes_33 : decode cL_parishes 33 = .ok (.iastore, 1) := by decide +kernel
theorem dL_parishes_34 : decode cL_parishes 34 = .ok (.aload 5, 2) := by decide +kernel
theorem dL_parishes_36 : decode cL_parishes 36 = .ok (.iconst 5, 1) := by decide +kernel
theorem dL_parishes_37 : decode cL_parishes 37 = .ok (.iload 6, 2) := by decide +kernel
theorem dL_parishes_39 : decode cL_parishes 39 = .ok (.imul, 1) := by decide +kernel
theorem dL_parishes_40 : decode cL_parishes 40 = .ok (.iconst 1, 1) := by decide +kernel
theorem dL_parishes_41 : decode cL_parishes 41 = .ok (.iadd, 1) := by decide +kernel
theorem dL_parishes_42 : decode cL_parishes 42 = .ok (.iload 8, 2) := by decide +kernel
theorem dL_parishes_44 : decode cL_parishes 44 = .ok (.ifCond .ne 7, 3) := by decide +kernel
theorem dL_parishes_47 : decode cL_parishes 47 = .ok (.iconst 0, 1) := by decide +kernel
theorem dL_parishes_48 : decode cL_parishes 48 = .ok (.goto 29, 3) := by decide +kernel
theorem dL_parishes_51 : decode cL_parishes 51 = .ok (.iload 8, 2) := by decide +kernel
theorem dL_parishes_53 : decode cL_parishes 53 = .ok (.iconst 1, 1) := by decide +kernel
theorem dL_parishes_54 : decode cL_parishes 54 = .ok (.if_icmp .ne 15, 3) := by decide +kernel
theorem dL_parishes_57 : decode cL_parishes 57 = .ok (.iconst 2, 1) := by decide +kernel
theorem dL_parishes_58 : decode cL_parishes 58 = .ok (.iload 7, 2) := by decide +kernel
theorem dL_parishes_60 : decode cL_parishes 60 = .ok (.bipush 8, 2) := by decide +kernel
theorem dL_parishes_62 : decode cL_parishes 62 = .ok (.idiv, 1) := by decide +kernel
theorem dL_parishes_63 : decode cL_parishes 63 = .ok (.iconst 3, 1) := by decide +kernel
theorem dL_parishes_64 : decode cL_parishes 64 = .ok (.irem, 1) := by decide +kernel
theorem dL_parishes_65 : decode cL_parishes 65 = .ok (.iadd, 1) := by decide +kernel
theorem dL_parishes_66 : decode cL_parishes 66 = .ok (.goto 11, 3) := by decide +kernel
theorem dL_parishes_69 : decode cL_parishes 69 = .ok (.iload 7, 2) := by decide +kernel
theorem dL_parishes_71 : decode cL_parishes 71 = .ok (.bipush 8, 2) := by decide +kernel
theorem dL_parishes_73 : decode cL_parishes 73 = .ok (.idiv, 1) := by decide +kernel
theorem dL_parishes_74 : decode cL_parishes 74 = .ok (.bipush 7, 2) := by decide +kernel
theorem dL_parishes_76 : decode cL_parishes 76 = .ok (.irem, 1) := by decide +kernel
theorem dL_parishes_77 : decode cL_parishes 77 = .ok (.iastore, 1) := by decide +kernel
theorem dL_parishes_78 : decode cL_parishes 78 = .ok (.aload 5, 2) := by decide +kernel
theorem dL_parishes_80 : decode cL_parishes 80 = .ok (.iconst 5, 1) := by decide +kernel
theorem dL_parishes_81 : decode cL_parishes 81 = .ok (.iload 6, 2) := by decide +kernel
theorem dL_parishes_83 : decode cL_parishes 83 = .ok (.imul, 1) := by decide +kernel
theorem dL_parishes_84 : decode cL_parishes 84 = .ok (.iconst 2, 1) := by decide +kernel
theorem dL_parishes_85 : decode cL_parishes 85 = .ok (.iadd, 1) := by decide +kernel
theorem dL_parishes_86 : decode cL_parishes 86 = .ok (.iconst 1, 1) := by decide +kernel
theorem dL_parishes_87 : decode cL_parishes 87 = .ok (.iload 7, 2) := by decide +kernel
theorem dL_parishes_89 : decode cL_parishes 89 = .ok (.bipush 64, 2) := by decide +kernel
theorem dL_parishes_91 : decode cL_parishes 91 = .ok (.idiv, 1) := by decide +kernel
theorem dL_parishes_92 : decode cL_parishes 92 = .ok (.iload 4, 2) := by decide +kernel
theorem dL_parishes_94 : decode cL_parishes 94 = .ok (.irem, 1) := by decide +kernel
theorem dL_parishes_95 : decode cL_parishes 95 = .ok (.iadd, 1) := by decide +kernel
theorem dL_parishes_96 : decode cL_parishes 96 = .ok (.iastore, 1) := by decide +kernel
theorem dL_parishes_97 : decode cL_parishes 97 = .ok (.aload 5, 2) := by decide +kernel
theorem dL_parishes_99 : decode cL_parishes 99 = .ok (.iconst 5, 1) := by decide +kernel
end
section
theorem dL_parishes_100 : decode cL_parishes 100 = .ok (.iload 6, 2) := by decide +kernel
theorem dL_parishes_102 : decode cL_parishes 102 = .ok (.imul, 1) := by decide +kernel
theorem dL_parishes_103 : decode cL_parishes 103 = .ok (.iconst 3, 1) := by decide +kernel
theorem dL_parishes_104 : decode cL_parishes 104 = .ok (.iadd, 1) := by decide +kernel
theorem dL_parishes_105 : decode cL_parishes 105 = .ok (.iload 7, 2) := by decide +kernel
theorem dL_parishes_107 : decode cL_parishes 107 = .ok (.sipush 1024, 3) := by decide +kernel
theorem dL_parishes_110 : decode cL_parishes 110 = .ok (.idiv, 1) := by decide +kernel
theorem dL_parishes_111 : decode cL_parishes 111 = .ok (.bipush 11, 2) := by decide +kernel
theorem dL_parishes_113 : decode cL_parishes 113 = .ok (.irem, 1) := by decide +kernel
theorem dL_parishes_114 : decode cL_parishes 114 = .ok (.iastore, 1) := by decide +kernel
theorem dL_parishes_115 : decode cL_parishes 115 = .ok (.aload 5, 2) := by decide +kernel
theorem dL_parishes_117 : decode cL_parishes 117 = .ok (.iconst 5, 1) := by decide +kernel
theorem dL_parishes_118 : decode cL_parishes 118 = .ok (.iload 6, 2) := by decide +kernel
theorem dL_parishes_120 : decode cL_parishes 120 = .ok (.imul, 1) := by decide +kernel
theorem dL_parishes_121 : decode cL_parishes 121 = .ok (.iconst 4, 1) := by decide +kernel
theorem dL_parishes_122 : decode cL_parishes 122 = .ok (.iadd, 1) := by decide +kernel
theorem dL_parishes_123 : decode cL_parishes 123 = .ok (.iload 7, 2) := by decide +kernel
theorem dL_parishes_125 : decode cL_parishes 125 = .ok (.sipush 16384, 3) := by decide +kernel
theorem dL_parishes_128 : decode cL_parishes 128 = .ok (.idiv, 1) := by decide +kernel
theorem dL_parishes_129 : decode cL_parishes 129 = .ok (.bipush 11, 2) := by decide +kernel
theorem dL_parishes_131 : decode cL_parishes 131 = .ok (.irem, 1) := by decide +kernel
theorem dL_parishes_132 : decode cL_parishes 132 = .ok (.iastore, 1) := by decide +kernel
theorem dL_parishes_133 : decode cL_parishes 133 = .ok (.aload_n 0, 1) := by decide +kernel
theorem dL_parishes_134 : decode cL_parishes 134 = .ok (.iload 8, 2) := by decide +kernel
theorem dL_parishes_136 : decode cL_parishes 136 = .ok (.aload 5, 2) := by decide +kernel
theorem dL_parishes_138 : decode cL_parishes 138 = .ok (.iconst 5, 1) := by decide +kernel
theorem dL_parishes_139 : decode cL_parishes 139 = .ok (.iload 6, 2) := by decide +kernel
theorem dL_parishes_141 : decode cL_parishes 141 = .ok (.imul, 1) := by decide +kernel
theorem dL_parishes_142 : decode cL_parishes 142 = .ok (.iconst 1, 1) := by decide +kernel
theorem dL_parishes_143 : decode cL_parishes 143 = .ok (.iadd, 1) := by decide +kernel
theorem dL_parishes_144 : decode cL_parishes 144 = .ok (.iaload, 1) := by decide +kernel
theorem dL_parishes_145 : decode cL_parishes 145 = .ok (.aload 5, 2) := by decide +kernel
theorem dL_parishes_147 : decode cL_parishes 147 = .ok (.iconst 5, 1) := by decide +kernel
theorem dL_parishes_148 : decode cL_parishes 148 = .ok (.iload 6, 2) := by decide +kernel
theorem dL_parishes_150 : decode cL_parishes 150 = .ok (.imul, 1) := by decide +kernel
theorem dL_parishes_151 : decode cL_parishes 151 = .ok (.iconst 2, 1) := by decide +kernel
theorem dL_parishes_152 : decode cL_parishes 152 = .ok (.iadd, 1) := by decide +kernel
theorem dL_parishes_153 : decode cL_parishes 153 = .ok (.iaload, 1) := by decide +kernel
theorem dL_parishes_154 : decode cL_parishes 154 = .ok (.aload 5, 2) := by decide +kernel
theorem dL_parishes_156 : decode cL_parishes 156 = .ok (.iconst 5, 1) := by decide +kernel
theorem dL_parishes_157 : decode cL_parishes 157 = .ok (.iload 6, 2) := by decide +kernel
theorem dL_parishes_159 : decode cL_parishes 159 = .ok (.imul, 1) := by decide +kernel
theorem dL_parishes_160 : decode cL_parishes 160 = .ok (.iconst 3, 1) := by decide +kernel
theorem dL_parishes_161 : decode cL_parishes 161 = .ok (.iadd, 1) := by decide +kernel
theorem dL_parishes_162 : decode cL_parishes 162 = .ok (.iaload, 1) := by decide +kernel
theorem dL_parishes_163 : decode cL_parishes 163 = .ok (.aload 5, 2) := by decide +kernel
theorem dL_parishes_165 : decode cL_parishes 165 = .ok (.iconst 5, 1) := by decide +kernel
theorem dL_parishes_166 : decode cL_parishes 166 = .ok (.iload 6, 2) := by decide +kernel
theorem dL_parishes_168 : decode cL_parishes 168 = .ok (.imul, 1) := by decide +kernel
theorem dL_parishes_169 : decode cL_parishes 169 = .ok (.iconst 4, 1) := by decide +kernel
theorem dL_parishes_170 : decode cL_parishes 170 = .ok (.iadd, 1) := by decide +kernel
theorem dL_parishes_171 : decode cL_parishes 171 = .ok (.iaload, 1) := by decide +kernel
theorem dL_parishes_172 : decode cL_parishes 172 = .ok (.invokevirtual 38, 3) := by decide +kernel
theorem dL_parishes_175 : decode cL_parishes 175 = .ok (.iload 6, 2) := by decide +kernel
theorem dL_parishes_177 : decode cL_parishes 177 = .ok (.if_icmp .eq 5, 3) := by decide +kernel
theorem dL_parishes_180 : decode cL_parishes 180 = .ok (.iconst 0, 1) := by decide +kernel
theorem dL_parishes_181 : decode cL_parishes 181 = .ok (.ireturn, 1) := by decide +kernel
theorem dL_parishes_182 : decode cL_parishes 182 = .ok (.iinc 6 1, 3) := by decide +kernel
theorem dL_parishes_185 : decode cL_parishes 185 = .ok (.goto (-182), 3) := by decide +kernel
theorem dL_parishes_188 : decode cL_parishes 188 = .ok (.iconst 1, 1) := by decide +kernel
theorem dL_parishes_189 : decode cL_parishes 189 = .ok (.ireturn, 1) := by decide +kernel
theorem dL_rule_0 : decode cL_rule 0 = .ok (.iconst 0, 1) := by decide +kernel
theorem dL_rule_1 : decode cL_rule 1 = .ok (.istore 4, 2) := by decide +kernel
theorem dL_rule_3 : decode cL_rule 3 = .ok (.bipush 6, 2) := by decide +kernel
theorem dL_rule_5 : decode cL_rule 5 = .ok (.istore 5, 2) := by decide +kernel
theorem dL_rule_7 : decode cL_rule 7 = .ok (.iload 5, 2) := by decide +kernel
theorem dL_rule_9 : decode cL_rule 9 = .ok (.ifCond .lt 52, 3) := by decide +kernel
theorem dL_rule_12 : decode cL_rule 12 = .ok (.iload_n 0, 1) := by decide +kernel
theorem dL_rule_13 : decode cL_rule 13 = .ok (.bipush 7, 2) := by decide +kernel
theorem dL_rule_15 : decode cL_rule 15 = .ok (.if_icmp .ne 14, 3) := by decide +kernel
theorem dL_rule_18 : decode cL_rule 18 = .ok (.aload_n 1, 1) := by decide +kernel
theorem dL_rule_19 : decode cL_rule 19 = .ok (.iload 5, 2) := by decide +kernel
theorem dL_rule_21 : decode cL_rule 21 = .ok (.iaload, 1) := by decide +kernel
theorem dL_rule_22 : decode cL_rule 22 = .ok (.aload_n 1, 1) := by decide +kernel
theorem dL_rule_23 : decode cL_rule 23 = .ok (.iload 4, 2) := by decide +kernel
theorem dL_rule_25 : decode cL_rule 25 = .ok (.iaload, 1) := by decide +kernel
theorem dL_rule_26 : decode cL_rule 26 = .ok (.if_icmp .ge 20, 3) := by decide +kernel
theorem dL_rule_29 : decode cL_rule 29 = .ok (.iload_n 0, 1) := by decide +kernel
theorem dL_rule_30 : decode cL_rule 30 = .ok (.bipush 8, 2) := by decide +kernel
theorem dL_rule_32 : decode cL_rule 32 = .ok (.if_icmp .ne 19, 3) := by decide +kernel
theorem dL_rule_35 : decode cL_rule 35 = .ok (.aload_n 1, 1) := by decide +kernel
theorem dL_rule_36 : decode cL_rule 36 = .ok (.iload 5, 2) := by decide +kernel
theorem dL_rule_38 : decode cL_rule 38 = .ok (.iaload, 1) := by decide +kernel
theorem dL_rule_39 : decode cL_rule 39 = .ok (.aload_n 1, 1) := by decide +kernel
theorem dL_rule_40 : decode cL_rule 40 = .ok (.iload 4, 2) := by decide +kernel
theorem dL_rule_42 : decode cL_rule 42 = .ok (.iaload, 1) := by decide +kernel
theorem dL_rule_43 : decode cL_rule 43 = .ok (.if_icmp .gt 8, 3) := by decide +kernel
theorem dL_rule_46 : decode cL_rule 46 = .ok (.iload 5, 2) := by decide +kernel
theorem dL_rule_48 : decode cL_rule 48 = .ok (.goto 5, 3) := by decide +kernel
theorem dL_rule_51 : decode cL_rule 51 = .ok (.iload 4, 2) := by decide +kernel
theorem dL_rule_53 : decode cL_rule 53 = .ok (.istore 4, 2) := by decide +kernel
theorem dL_rule_55 : decode cL_rule 55 = .ok (.iinc 5 (-1), 3) := by decide +kernel
theorem dL_rule_58 : decode cL_rule 58 = .ok (.goto (-51), 3) := by decide +kernel
theorem dL_rule_61 : decode cL_rule 61 = .ok (.iload_n 0, 1) := by decide +kernel
theorem dL_rule_62 : decode cL_rule 62 = .ok (.bipush 7, 2) := by decide +kernel
theorem dL_rule_64 : decode cL_rule 64 = .ok (.if_icmp .ge 7, 3) := by decide +kernel
theorem dL_rule_67 : decode cL_rule 67 = .ok (.iload_n 0, 1) := by decide +kernel
theorem dL_rule_68 : decode cL_rule 68 = .ok (.goto 30, 3) := by decide +kernel
theorem dL_rule_71 : decode cL_rule 71 = .ok (.iload_n 0, 1) := by decide +kernel
theorem dL_rule_72 : decode cL_rule 72 = .ok (.bipush 9, 2) := by decide +kernel
theorem dL_rule_74 : decode cL_rule 74 = .ok (.if_icmp .ge 8, 3) := by decide +kernel
theorem dL_rule_77 : decode cL_rule 77 = .ok (.iload 4, 2) := by decide +kernel
theorem dL_rule_79 : decode cL_rule 79 = .ok (.goto 19, 3) := by decide +kernel
theorem dL_rule_82 : decode cL_rule 82 = .ok (.iload_n 0, 1) := by decide +kernel
theorem dL_rule_83 : decode cL_rule 83 = .ok (.bipush 9, 2) := by decide +kernel
theorem dL_rule_85 : decode cL_rule 85 = .ok (.if_icmp .ne 7, 3) := by decide +kernel
theorem dL_rule_88 : decode cL_rule 88 = .ok (.iload_n 3, 1) := by decide +kernel
theorem dL_rule_89 : decode cL_rule 89 = .ok (.goto 9, 3) := by decide +kernel
theorem dL_rule_92 : decode cL_rule 92 = .ok (.iload_n 2, 1) := by decide +kernel
theorem dL_rule_93 : decode cL_rule 93 = .ok (.iconst 1, 1) := by decide +kernel
theorem dL_rule_94 : decode cL_rule 94 = .ok (.iadd, 1) := by decide +kernel
theorem dL_rule_95 : decode cL_rule 95 = .ok (.bipush 7, 2) := by decide +kernel
theorem dL_rule_97 : decode cL_rule 97 = .ok (.irem, 1) := by decide +kernel
theorem dL_rule_98 : decode cL_rule 98 = .ok (.ireturn, 1) := by decide +kernel
theorem dL_lay_0 : decode cL_lay 0 = .ok (.aload_n 0, 1) := by decide +kernel
theorem dL_lay_1 : decode cL_lay 1 = .ok (.iload_n 3, 1) := by decide +kernel
theorem dL_lay_2 : decode cL_lay 2 = .ok (.iaload, 1) := by decide +kernel
theorem dL_lay_3 : decode cL_lay 3 = .ok (.bipush 60, 2) := by decide +kernel
theorem dL_lay_5 : decode cL_lay 5 = .ok (.if_icmp .ne 11, 3) := by decide +kernel
theorem dL_lay_8 : decode cL_lay 8 = .ok (.aload_n 2, 1) := by decide +kernel
theorem dL_lay_9 : decode cL_lay 9 = .ok (.iconst 5, 1) := by decide +kernel
theorem dL_lay_10 : decode cL_lay 10 = .ok (.dup2, 1) := by decide +kernel
theorem dL_lay_11 : decode cL_lay 11 = .ok (.iaload, 1) := by decide +kernel
theorem dL_lay_12 : decode cL_lay 12 = .ok (.iconst 1, 1) := by decide +kernel
theorem dL_lay_13 : decode cL_lay 13 = .ok (.iadd, 1) := by decide +kernel
theorem dL_lay_14 : decode cL_lay 14 = .ok (.iastore, 1) := by decide +kernel
theorem dL_lay_15 : decode cL_lay 15 = .ok (.return_, 1) := by decide +kernel
theorem dL_lay_16 : decode cL_lay 16 = .ok (.aload_n 0, 1) := by decide +kernel
theorem dL_lay_17 : decode cL_lay 17 = .ok (.iload_n 3, 1) := by decide +kernel
theorem dL_lay_18 : decode cL_lay 18 = .ok (.iaload, 1) := by decide +kernel
theorem dL_lay_19 : decode cL_lay 19 = .ok (.bipush 9, 2) := by decide +kernel
theorem dL_lay_21 : decode cL_lay 21 = .ok (.if_icmp .ge 18, 3) := by decide +kernel
theorem dL_lay_24 : decode cL_lay 24 = .ok (.aload_n 1, 1) := by decide +kernel
theorem dL_lay_25 : decode cL_lay 25 = .ok (.bipush 9, 2) := by decide +kernel
theorem dL_lay_27 : decode cL_lay 27 = .ok (.iload_n 3, 1) := by decide +kernel
theorem dL_lay_28 : decode cL_lay 28 = .ok (.imul, 1) := by decide +kernel
theorem dL_lay_29 : decode cL_lay 29 = .ok (.aload_n 0, 1) := by decide +kernel
theorem dL_lay_30 : decode cL_lay 30 = .ok (.iload_n 3, 1) := by decide +kernel
theorem dL_lay_31 : decode cL_lay 31 = .ok (.iaload, 1) := by decide +kernel
theorem dL_lay_32 : decode cL_lay 32 = .ok (.iadd, 1) := by decide +kernel
theorem dL_lay_33 : decode cL_lay 33 = .ok (.iload 4, 2) := by decide +kernel
theorem dL_lay_35 : decode cL_lay 35 = .ok (.iastore, 1) := by decide +kernel
theorem dL_lay_36 : decode cL_lay 36 = .ok (.goto 8, 3) := by decide +kernel
theorem dL_lay_39 : decode cL_lay 39 = .ok (.aload_n 2, 1) := by decide +kernel
theorem dL_lay_40 : decode cL_lay 40 = .ok (.bipush 6, 2) := by decide +kernel
theorem dL_lay_42 : decode cL_lay 42 = .ok (.iconst 1, 1) := by decide +kernel
theorem dL_lay_43 : decode cL_lay 43 = .ok (.iastore, 1) := by decide +kernel
theorem dL_lay_44 : decode cL_lay 44 = .ok (.aload_n 0, 1) := by decide +kernel
theorem dL_lay_45 : decode cL_lay 45 = .ok (.iload_n 3, 1) := by decide +kernel
theorem dL_lay_46 : decode cL_lay 46 = .ok (.dup2, 1) := by decide +kernel
theorem dL_lay_47 : decode cL_lay 47 = .ok (.iaload, 1) := by decide +kernel
theorem dL_lay_48 : decode cL_lay 48 = .ok (.iconst 1, 1) := by decide +kernel
theorem dL_lay_49 : decode cL_lay 49 = .ok (.iadd, 1) := by decide +kernel
theorem dL_lay_50 : decode cL_lay 50 = .ok (.iastore, 1) := by decide +kernel
theorem dL_lay_51 : decode cL_lay 51 = .ok (.return_, 1) := by decide +kernel
theorem dL_draw_0 : decode cL_draw 0 = .ok (.aload_n 1, 1) := by decide +kernel
theorem dL_draw_1 : decode cL_draw 1 = .ok (.iconst 0, 1) := by decide +kernel
theorem dL_draw_2 : decode cL_draw 2 = .ok (.ldc2_w 42, 3) := by decide +kernel
theorem dL_draw_5 : decode cL_draw 5 = .ok (.aload_n 1, 1) := by decide +kernel
theorem dL_draw_6 : decode cL_draw 6 = .ok (.iconst 0, 1) := by decide +kernel
theorem dL_draw_7 : decode cL_draw 7 = .ok (.laload, 1) := by decide +kernel
theorem dL_draw_8 : decode cL_draw 8 = .ok (.lmul, 1) := by decide +kernel
theorem dL_draw_9 : decode cL_draw 9 = .ok (.ldc2_w 44, 3) := by decide +kernel
theorem dL_draw_12 : decode cL_draw 12 = .ok (.ladd, 1) := by decide +kernel
theorem dL_draw_13 : decode cL_draw 13 = .ok (.ldc2_w 46, 3) := by decide +kernel
theorem dL_draw_16 : decode cL_draw 16 = .ok (.lrem, 1) := by decide +kernel
theorem dL_draw_17 : decode cL_draw 17 = .ok (.lastore, 1) := by decide +kernel
theorem dL_draw_18 : decode cL_draw 18 = .ok (.aload_n 1, 1) := by decide +kernel
theorem dL_draw_19 : decode cL_draw 19 = .ok (.iconst 0, 1) := by decide +kernel
theorem dL_draw_20 : decode cL_draw 20 = .ok (.laload, 1) := by decide +kernel
theorem dL_draw_21 : decode cL_draw 21 = .ok (.ldc2_w 48, 3) := by decide +kernel
theorem dL_draw_24 : decode cL_draw 24 = .ok (.ldiv, 1) := by decide +kernel
theorem dL_draw_25 : decode cL_draw 25 = .ok (.ldc2_w 50, 3) := by decide +kernel
theorem dL_draw_28 : decode cL_draw 28 = .ok (.lrem, 1) := by decide +kernel
theorem dL_draw_29 : decode cL_draw 29 = .ok (.l2i, 1) := by decide +kernel
theorem dL_draw_30 : decode cL_draw 30 = .ok (.ireturn, 1) := by decide +kernel
set_option maxRecDepth 20000 in
theorem ggL_week_L_draw : GoodIn wsL_week wsL_draw := goodIn_r _ [4, 5, 6, 7, 8, 9] (by decide +kernel) (by decide +kernel)
set_option maxRecDepth 20000 in
theorem gL_week_L_draw : GoodIn wsL_week (va_wsS RL 52 yL_draw wsL_draw) := goodIn_app (goodIn_of _ (by decide +kernel)) ggL_week_L_draw
set_option maxRecDepth 20000 in
theorem ggL_week_L_rule : GoodIn wsL_week wsL_rule := goodIn_r _ [12] (by decide +kernel) (by decide +kernel)
set_option maxRecDepth 20000 in
theorem gL_week_L_rule : GoodIn wsL_week (va_wsS RL 56 yL_rule wsL_rule) := goodIn_app (goodIn_of _ (by decide +kernel)) ggL_week_L_rule
set_option maxRecDepth 20000 in
theorem ggL_week_L_lay : GoodIn wsL_week wsL_lay := goodIn_r _ [15] (by decide +kernel) (by decide +kernel)
set_option maxRecDepth 20000 in
theorem gL_week_L_lay : GoodIn wsL_week (va_wsS RL 60 yL_lay wsL_lay) := goodIn_app (goodIn_of _ (by decide +kernel)) ggL_week_L_lay
theorem dL_week_0 : decode cL_week 0 = .ok (.aload 5, 2) := by decide +kernel
theorem dL_week_2 : decode cL_week 2 = .ok (.iconst 0, 1) := by decide +kernel
theorem dL_week_3 : decode cL_week 3 = .ok (.dup2, 1) := by decide +kernel
theorem dL_week_4 : decode cL_week 4 = .ok (.iaload, 1) := by decide +kernel
theorem dL_week_5 : decode cL_week 5 = .ok (.iconst 1, 1) := by decide +kernel
theorem dL_week_6 : decode cL_week 6 = .ok (.iadd, 1) := by decide +kernel
theorem dL_week_7 : decode cL_week 7 = .ok (.iastore, 1) := by decide +kernel
theorem dL_week_8 : decode cL_week 8 = .ok (.iconst 0, 1) := by decide +kernel
theorem dL_week_9 : decode cL_week 9 = .ok (.istore 7, 2) := by decide +kernel
theorem dL_week_11 : decode cL_week 11 = .ok (.iload 7, 2) := by decide +kernel
theorem dL_week_13 : decode cL_week 13 = .ok (.iload_n 1, 1) := by decide +kernel
theorem dL_week_14 : decode cL_week 14 = .ok (.if_icmp .ge 272, 3) := by decide +kernel
theorem dL_week_17 : decode cL_week 17 = .ok (.aload_n 0, 1) := by decide +kernel
theorem dL_week_18 : decode cL_week 18 = .ok (.iconst 5, 1) := by decide +kernel
theorem dL_week_19 : decode cL_week 19 = .ok (.iload 7, 2) := by decide +kernel
theorem dL_week_21 : decode cL_week 21 = .ok (.imul, 1) := by decide +kernel
theorem dL_week_22 : decode cL_week 22 = .ok (.iaload, 1) := by decide +kernel
theorem dL_week_23 : decode cL_week 23 = .ok (.istore 8, 2) := by decide +kernel
theorem dL_week_25 : decode cL_week 25 = .ok (.iconst 0, 1) := by decide +kernel
theorem dL_week_26 : decode cL_week 26 = .ok (.istore 9, 2) := by decide +kernel
theorem dL_week_28 : decode cL_week 28 = .ok (.iload 9, 2) := by decide +kernel
theorem dL_week_30 : decode cL_week 30 = .ok (.aload_n 0, 1) := by decide +kernel
theorem dL_week_31 : decode cL_week 31 = .ok (.iconst 5, 1) := by decide +kernel
theorem dL_week_32 : decode cL_week 32 = .ok (.iload 7, 2) := by decide +kernel
theorem dL_week_34 : decode cL_week 34 = .ok (.imul, 1) := by decide +kernel
theorem dL_week_35 : decode cL_week 35 = .ok (.iconst 2, 1) := by decide +kernel
theorem dL_week_36 : decode cL_week 36 = .ok (.iadd, 1) := by decide +kernel
theorem dL_week_37 : decode cL_week 37 = .ok (.iaload, 1) := by decide +kernel
theorem dL_week_38 : decode cL_week 38 = .ok (.if_icmp .ge 242, 3) := by decide +kernel
theorem dL_week_41 : decode cL_week 41 = .ok (.aload 5, 2) := by decide +kernel
theorem dL_week_43 : decode cL_week 43 = .ok (.aload 6, 2) := by decide +kernel
theorem dL_week_45 : decode cL_week 45 = .ok (.invokestatic 52, 3) := by decide +kernel
theorem dL_week_48 : decode cL_week 48 = .ok (.aload_n 0, 1) := by decide +kernel
theorem dL_week_49 : decode cL_week 49 = .ok (.iconst 5, 1) := by decide +kernel
theorem dL_week_50 : decode cL_week 50 = .ok (.iload 7, 2) := by decide +kernel
theorem dL_week_52 : decode cL_week 52 = .ok (.imul, 1) := by decide +kernel
theorem dL_week_53 : decode cL_week 53 = .ok (.iconst 3, 1) := by decide +kernel
theorem dL_week_54 : decode cL_week 54 = .ok (.iadd, 1) := by decide +kernel
theorem dL_week_55 : decode cL_week 55 = .ok (.iaload, 1) := by decide +kernel
theorem dL_week_56 : decode cL_week 56 = .ok (.if_icmp .ge 84, 3) := by decide +kernel
theorem dL_week_59 : decode cL_week 59 = .ok (.aload 5, 2) := by decide +kernel
theorem dL_week_61 : decode cL_week 61 = .ok (.iconst 1, 1) := by decide +kernel
theorem dL_week_62 : decode cL_week 62 = .ok (.aload_n 2, 1) := by decide +kernel
theorem dL_week_63 : decode cL_week 63 = .ok (.iconst 0, 1) := by decide +kernel
theorem dL_week_64 : decode cL_week 64 = .ok (.iaload, 1) := by decide +kernel
theorem dL_week_65 : decode cL_week 65 = .ok (.aload_n 3, 1) := by decide +kernel
theorem dL_week_66 : decode cL_week 66 = .ok (.aload 5, 2) := by decide +kernel
theorem dL_week_68 : decode cL_week 68 = .ok (.iconst 1, 1) := by decide +kernel
theorem dL_week_69 : decode cL_week 69 = .ok (.iaload, 1) := by decide +kernel
theorem dL_week_70 : decode cL_week 70 = .ok (.iload 7, 2) := by decide +kernel
theorem dL_week_72 : decode cL_week 72 = .ok (.invokestatic 56, 3) := by decide +kernel
theorem dL_week_75 : decode cL_week 75 = .ok (.iastore, 1) := by decide +kernel
theorem dL_week_76 : decode cL_week 76 = .ok (.iload 8, 2) := by decide +kernel
theorem dL_week_78 : decode cL_week 78 = .ok (.iconst 1, 1) := by decide +kernel
theorem dL_week_79 : decode cL_week 79 = .ok (.if_icmp .ne 14, 3) := by decide +kernel
theorem dL_week_82 : decode cL_week 82 = .ok (.aload_n 0, 1) := by decide +kernel
theorem dL_week_83 : decode cL_week 83 = .ok (.iconst 5, 1) := by decide +kernel
theorem dL_week_84 : decode cL_week 84 = .ok (.iload 7, 2) := by decide +kernel
theorem dL_week_86 : decode cL_week 86 = .ok (.imul, 1) := by decide +kernel
theorem dL_week_87 : decode cL_week 87 = .ok (.iconst 1, 1) := by decide +kernel
theorem dL_week_88 : decode cL_week 88 = .ok (.iadd, 1) := by decide +kernel
theorem dL_week_89 : decode cL_week 89 = .ok (.iaload, 1) := by decide +kernel
theorem dL_week_90 : decode cL_week 90 = .ok (.goto 4, 3) := by decide +kernel
theorem dL_week_93 : decode cL_week 93 = .ok (.iconst 1, 1) := by decide +kernel
theorem dL_week_94 : decode cL_week 94 = .ok (.istore 10, 2) := by decide +kernel
theorem dL_week_96 : decode cL_week 96 = .ok (.iconst 0, 1) := by decide +kernel
theorem dL_week_97 : decode cL_week 97 = .ok (.istore 11, 2) := by decide +kernel
theorem dL_week_99 : decode cL_week 99 = .ok (.iload 11, 2) := by decide +kernel
theorem dL_week_101 : decode cL_week 101 = .ok (.iload 10, 2) := by decide +kernel
theorem dL_week_103 : decode cL_week 103 = .ok (.if_icmp .ge 25, 3) := by decide +kernel
theorem dL_week_106 : decode cL_week 106 = .ok (.aload_n 3, 1) := by decide +kernel
theorem dL_week_107 : decode cL_week 107 = .ok (.aload 4, 2) := by decide +kernel
theorem dL_week_109 : decode cL_week 109 = .ok (.aload 5, 2) := by decide +kernel
theorem dL_week_111 : decode cL_week 111 = .ok (.aload 5, 2) := by decide +kernel
theorem dL_week_113 : decode cL_week 113 = .ok (.iconst 1, 1) := by decide +kernel
theorem dL_week_114 : decode cL_week 114 = .ok (.iaload, 1) := by decide +kernel
theorem dL_week_115 : decode cL_week 115 = .ok (.aload 5, 2) := by decide +kernel
theorem dL_week_117 : decode cL_week 117 = .ok (.iconst 0, 1) := by decide +kernel
theorem dL_week_118 : decode cL_week 118 = .ok (.iaload, 1) := by decide +kernel
theorem dL_week_119 : decode cL_week 119 = .ok (.invokestatic 60, 3) := by decide +kernel
theorem dL_week_122 : decode cL_week 122 = .ok (.iinc 11 1, 3) := by decide +kernel
theorem dL_week_125 : decode cL_week 125 = .ok (.goto (-26), 3) := by decide +kernel
theorem dL_week_128 : decode cL_week 128 = .ok (.aload 5, 2) := by decide +kernel
theorem dL_week_130 : decode cL_week 130 = .ok (.iconst 2, 1) := by decide +kernel
theorem dL_week_131 : decode cL_week 131 = .ok (.dup2, 1) := by decide +kernel
theorem dL_week_132 : decode cL_week 132 = .ok (.iaload, 1) := by decide +kernel
theorem dL_week_133 : decode cL_week 133 = .ok (.iload 10, 2) := by decide +kernel
theorem dL_week_135 : decode cL_week 135 = .ok (.iadd, 1) := by decide +kernel
theorem dL_week_136 : decode cL_week 136 = .ok (.iastore, 1) := by decide +kernel
theorem dL_week_137 : decode cL_week 137 = .ok (.goto 137, 3) := by decide +kernel
theorem dL_week_140 : decode cL_week 140 = .ok (.aload 5, 2) := by decide +kernel
theorem dL_week_142 : decode cL_week 142 = .ok (.aload 6, 2) := by decide +kernel
theorem dL_week_144 : decode cL_week 144 = .ok (.invokestatic 52, 3) := by decide +kernel
theorem dL_week_147 : decode cL_week 147 = .ok (.aload_n 0, 1) := by decide +kernel
theorem dL_week_148 : decode cL_week 148 = .ok (.iconst 5, 1) := by decide +kernel
theorem dL_week_149 : decode cL_week 149 = .ok (.iload 7, 2) := by decide +kernel
theorem dL_week_151 : decode cL_week 151 = .ok (.imul, 1) := by decide +kernel
theorem dL_week_152 : decode cL_week 152 = .ok (.iconst 4, 1) := by decide +kernel
theorem dL_week_153 : decode cL_week 153 = .ok (.iadd, 1) := by decide +kernel
theorem dL_week_154 : decode cL_week 154 = .ok (.iaload, 1) := by decide +kernel
theorem dL_week_155 : decode cL_week 155 = .ok (.if_icmp .ge 119, 3) := by decide +kernel
theorem dL_week_158 : decode cL_week 158 = .ok (.aload 5, 2) := by decide +kernel
theorem dL_week_160 : decode cL_week 160 = .ok (.iconst 1, 1) := by decide +kernel
theorem dL_week_161 : decode cL_week 161 = .ok (.iload 8, 2) := by decide +kernel
theorem dL_week_163 : decode cL_week 163 = .ok (.iconst 3, 1) := by decide +kernel
theorem dL_week_164 : decode cL_week 164 = .ok (.if_icmp .ne 8, 3) := by decide +kernel
theorem dL_week_167 : decode cL_week 167 = .ok (.bipush 7, 2) := by decide +kernel
theorem dL_week_169 : decode cL_week 169 = .ok (.goto 6, 3) := by decide +kernel
theorem dL_week_172 : decode cL_week 172 = .ok (.aload_n 2, 1) := by decide +kernel
theorem dL_week_173 : decode cL_week 173 = .ok (.iconst 1, 1) := by decide +kernel
theorem dL_week_174 : decode cL_week 174 = .ok (.iaload, 1) := by decide +kernel
theorem dL_week_175 : decode cL_week 175 = .ok (.aload_n 3, 1) := by decide +kernel
theorem dL_week_176 : decode cL_week 176 = .ok (.aload 5, 2) := by decide +kernel
theorem dL_week_178 : decode cL_week 178 = .ok (.iconst 1, 1) := by decide +kernel
theorem dL_week_179 : decode cL_week 179 = .ok (.iaload, 1) := by decide +kernel
theorem dL_week_180 : decode cL_week 180 = .ok (.iload 7, 2) := by decide +kernel
theorem dL_week_182 : decode cL_week 182 = .ok (.invokestatic 56, 3) := by decide +kernel
theorem dL_week_185 : decode cL_week 185 = .ok (.iastore, 1) := by decide +kernel
theorem dL_week_186 : decode cL_week 186 = .ok (.aload_n 3, 1) := by decide +kernel
theorem dL_week_187 : decode cL_week 187 = .ok (.aload 5, 2) := by decide +kernel
theorem dL_week_189 : decode cL_week 189 = .ok (.iconst 1, 1) := by decide +kernel
theorem dL_week_190 : decode cL_week 190 = .ok (.iaload, 1) := by decide +kernel
theorem dL_week_191 : decode cL_week 191 = .ok (.iaload, 1) := by decide +kernel
theorem dL_week_192 : decode cL_week 192 = .ok (.ifCond .le 82, 3) := by decide +kernel
theorem dL_week_195 : decode cL_week 195 = .ok (.aload_n 3, 1) := by decide +kernel
theorem dL_week_196 : decode cL_week 196 = .ok (.aload 5, 2) := by decide +kernel
theorem dL_week_198 : decode cL_week 198 = .ok (.iconst 1, 1) := by decide +kernel
theorem dL_week_199 : decode cL_week 199 = .ok (.iaload, 1) := by decide +kernel
theorem dL_week_200 : decode cL_week 200 = .ok (.dup2, 1) := by decide +kernel
theorem dL_week_201 : decode cL_week 201 = .ok (.iaload, 1) := by decide +kernel
theorem dL_week_202 : decode cL_week 202 = .ok (.iconst 1, 1) := by decide +kernel
theorem dL_week_203 : decode cL_week 203 = .ok (.isub, 1) := by decide +kernel
theorem dL_week_204 : decode cL_week 204 = .ok (.iastore, 1) := by decide +kernel
theorem dL_week_205 : decode cL_week 205 = .ok (.aload_n 3, 1) := by decide +kernel
theorem dL_week_206 : decode cL_week 206 = .ok (.aload 5, 2) := by decide +kernel
theorem dL_week_208 : decode cL_week 208 = .ok (.iconst 1, 1) := by decide +kernel
theorem dL_week_209 : decode cL_week 209 = .ok (.iaload, 1) := by decide +kernel
theorem dL_week_210 : decode cL_week 210 = .ok (.iaload, 1) := by decide +kernel
theorem dL_week_211 : decode cL_week 211 = .ok (.bipush 9, 2) := by decide +kernel
theorem dL_week_213 : decode cL_week 213 = .ok (.if_icmp .ge 23, 3) := by decide +kernel
theorem dL_week_216 : decode cL_week 216 = .ok (.aload 4, 2) := by decide +kernel
theorem dL_week_218 : decode cL_week 218 = .ok (.bipush 9, 2) := by decide +kernel
theorem dL_week_220 : decode cL_week 220 = .ok (.aload 5, 2) := by decide +kernel
theorem dL_week_222 : decode cL_week 222 = .ok (.iconst 1, 1) := by decide +kernel
theorem dL_week_223 : decode cL_week 223 = .ok (.iaload, 1) := by decide +kernel
theorem dL_week_224 : decode cL_week 224 = .ok (.imul, 1) := by decide +kernel
theorem dL_week_225 : decode cL_week 225 = .ok (.aload_n 3, 1) := by decide +kernel
theorem dL_week_226 : decode cL_week 226 = .ok (.aload 5, 2) := by decide +kernel
theorem dL_week_228 : decode cL_week 228 = .ok (.iconst 1, 1) := by decide +kernel
theorem dL_week_229 : decode cL_week 229 = .ok (.iaload, 1) := by decide +kernel
theorem dL_week_230 : decode cL_week 230 = .ok (.iaload, 1) := by decide +kernel
theorem dL_week_231 : decode cL_week 231 = .ok (.iadd, 1) := by decide +kernel
theorem dL_week_232 : decode cL_week 232 = .ok (.iaload, 1) := by decide +kernel
theorem dL_week_233 : decode cL_week 233 = .ok (.goto 4, 3) := by decide +kernel
theorem dL_week_236 : decode cL_week 236 = .ok (.iconst 0, 1) := by decide +kernel
theorem dL_week_237 : decode cL_week 237 = .ok (.istore 10, 2) := by decide +kernel
theorem dL_week_239 : decode cL_week 239 = .ok (.iload 8, 2) := by decide +kernel
theorem dL_week_241 : decode cL_week 241 = .ok (.iconst 1, 1) := by decide +kernel
theorem dL_week_242 : decode cL_week 242 = .ok (.if_icmp .le 24, 3) := by decide +kernel
theorem dL_week_245 : decode cL_week 245 = .ok (.aload_n 3, 1) := by decide +kernel
theorem dL_week_246 : decode cL_week 246 = .ok (.aload 4, 2) := by decide +kernel
theorem dL_week_248 : decode cL_week 248 = .ok (.aload 5, 2) := by decide +kernel
theorem dL_week_250 : decode cL_week 250 = .ok (.aload_n 0, 1) := by decide +kernel
theorem dL_week_251 : decode cL_week 251 = .ok (.iconst 5, 1) := by decide +kernel
theorem dL_week_252 : decode cL_week 252 = .ok (.iload 7, 2) := by decide +kernel
theorem dL_week_254 : decode cL_week 254 = .ok (.imul, 1) := by decide +kernel
theorem dL_week_255 : decode cL_week 255 = .ok (.iconst 1, 1) := by decide +kernel
theorem dL_week_256 : decode cL_week 256 = .ok (.iadd, 1) := by decide +kernel
theorem dL_week_257 : decode cL_week 257 = .ok (.iaload, 1) := by decide +kernel
theorem dL_week_258 : decode cL_week 258 = .ok (.iload 10, 2) := by decide +kernel
theorem dL_week_260 : decode cL_week 260 = .ok (.invokestatic 60, 3) := by decide +kernel
theorem dL_week_263 : decode cL_week 263 = .ok (.goto 11, 3) := by decide +kernel
theorem dL_week_266 : decode cL_week 266 = .ok (.aload 5, 2) := by decide +kernel
theorem dL_week_268 : decode cL_week 268 = .ok (.iconst 3, 1) := by decide +kernel
theorem dL_week_269 : decode cL_week 269 = .ok (.dup2, 1) := by decide +kernel
theorem dL_week_270 : decode cL_week 270 = .ok (.iaload, 1) := by decide +kernel
theorem dL_week_271 : decode cL_week 271 = .ok (.iconst 1, 1) := by decide +kernel
theorem dL_week_272 : decode cL_week 272 = .ok (.iadd, 1) := by decide +kernel
theorem dL_week_273 : decode cL_week 273 = .ok (.iastore, 1) := by decide +kernel
theorem dL_week_274 : decode cL_week 274 = .ok (.iinc 9 1, 3) := by decide +kernel
theorem dL_week_277 : decode cL_week 277 = .ok (.goto (-249), 3) := by decide +kernel
theorem dL_week_280 : decode cL_week 280 = .ok (.iinc 7 1, 3) := by decide +kernel
theorem dL_week_283 : decode cL_week 283 = .ok (.goto (-272), 3) := by decide +kernel
theorem dL_week_286 : decode cL_week 286 = .ok (.aload_n 2, 1) := by decide +kernel
theorem dL_week_287 : decode cL_week 287 = .ok (.iconst 2, 1) := by decide +kernel
theorem dL_week_288 : decode cL_week 288 = .ok (.iaload, 1) := by decide +kernel
theorem dL_week_289 : decode cL_week 289 = .ok (.ifCond .le 55, 3) := by decide +kernel
theorem dL_week_292 : decode cL_week 292 = .ok (.aload 5, 2) := by decide +kernel
theorem dL_week_294 : decode cL_week 294 = .ok (.iconst 0, 1) := by decide +kernel
theorem dL_week_295 : decode cL_week 295 = .ok (.iaload, 1) := by decide +kernel
theorem dL_week_296 : decode cL_week 296 = .ok (.aload_n 2, 1) := by decide +kernel
theorem dL_week_297 : decode cL_week 297 = .ok (.iconst 2, 1) := by decide +kernel
theorem dL_week_298 : decode cL_week 298 = .ok (.iaload, 1) := by decide +kernel
theorem dL_week_299 : decode cL_week 299 = .ok (.irem, 1) := by decide +kernel
theorem dL_week_300 : decode cL_week 300 = .ok (.ifCond .ne 44, 3) := by decide +kernel
theorem dL_week_303 : decode cL_week 303 = .ok (.bipush 8, 2) := by decide +kernel
theorem dL_week_305 : decode cL_week 305 = .ok (.aload_n 3, 1) := by decide +kernel
theorem dL_week_306 : decode cL_week 306 = .ok (.iconst 0, 1) := by decide +kernel
theorem dL_week_307 : decode cL_week 307 = .ok (.iconst 0, 1) := by decide +kernel
theorem dL_week_308 : decode cL_week 308 = .ok (.invokestatic 56, 3) := by decide +kernel
theorem dL_week_311 : decode cL_week 311 = .ok (.istore 7, 2) := by decide +kernel
theorem dL_week_313 : decode cL_week 313 = .ok (.aload_n 3, 1) := by decide +kernel
theorem dL_week_314 : decode cL_week 314 = .ok (.iload 7, 2) := by decide +kernel
theorem dL_week_316 : decode cL_week 316 = .ok (.iaload, 1) := by decide +kernel
theorem dL_week_317 : decode cL_week 317 = .ok (.aload_n 3, 1) := by decide +kernel
theorem dL_week_318 : decode cL_week 318 = .ok (.iload 7, 2) := by decide +kernel
theorem dL_week_320 : decode cL_week 320 = .ok (.iaload, 1) := by decide +kernel
theorem dL_week_321 : decode cL_week 321 = .ok (.iconst 2, 1) := by decide +kernel
theorem dL_week_322 : decode cL_week 322 = .ok (.idiv, 1) := by decide +kernel
theorem dL_week_323 : decode cL_week 323 = .ok (.isub, 1) := by decide +kernel
theorem dL_week_324 : decode cL_week 324 = .ok (.istore 8, 2) := by decide +kernel
theorem dL_week_326 : decode cL_week 326 = .ok (.aload_n 3, 1) := by decide +kernel
theorem dL_week_327 : decode cL_week 327 = .ok (.iload 7, 2) := by decide +kernel
theorem dL_week_329 : decode cL_week 329 = .ok (.dup2, 1) := by decide +kernel
theorem dL_week_330 : decode cL_week 330 = .ok (.iaload, 1) := by decide +kernel
theorem dL_week_331 : decode cL_week 331 = .ok (.iload 8, 2) := by decide +kernel
theorem dL_week_333 : decode cL_week 333 = .ok (.isub, 1) := by decide +kernel
theorem dL_week_334 : decode cL_week 334 = .ok (.iastore, 1) := by decide +kernel
theorem dL_week_335 : decode cL_week 335 = .ok (.aload 5, 2) := by decide +kernel
theorem dL_week_337 : decode cL_week 337 = .ok (.iconst 3, 1) := by decide +kernel
theorem dL_week_338 : decode cL_week 338 = .ok (.dup2, 1) := by decide +kernel
theorem dL_week_339 : decode cL_week 339 = .ok (.iaload, 1) := by decide +kernel
theorem dL_week_340 : decode cL_week 340 = .ok (.iload 8, 2) := by decide +kernel
theorem dL_week_342 : decode cL_week 342 = .ok (.iadd, 1) := by decide +kernel
theorem dL_week_343 : decode cL_week 343 = .ok (.iastore, 1) := by decide +kernel
theorem dL_week_344 : decode cL_week 344 = .ok (.return_, 1) := by decide +kernel
theorem dL_copy_0 : decode cL_copy 0 = .ok (.iconst 0, 1) := by decide +kernel
theorem dL_copy_1 : decode cL_copy 1 = .ok (.istore_n 2, 1) := by decide +kernel
theorem dL_copy_2 : decode cL_copy 2 = .ok (.iload_n 2, 1) := by decide +kernel
theorem dL_copy_3 : decode cL_copy 3 = .ok (.aload_n 0, 1) := by decide +kernel
theorem dL_copy_4 : decode cL_copy 4 = .ok (.arraylength, 1) := by decide +kernel
theorem dL_copy_5 : decode cL_copy 5 = .ok (.if_icmp .ge 15, 3) := by decide +kernel
theorem dL_copy_8 : decode cL_copy 8 = .ok (.aload_n 1, 1) := by decide +kernel
theorem dL_copy_9 : decode cL_copy 9 = .ok (.iload_n 2, 1) := by decide +kernel
theorem dL_copy_10 : decode cL_copy 10 = .ok (.aload_n 0, 1) := by decide +kernel
theorem dL_copy_11 : decode cL_copy 11 = .ok (.iload_n 2, 1) := by decide +kernel
theorem dL_copy_12 : decode cL_copy 12 = .ok (.iaload, 1) := by decide +kernel
theorem dL_copy_13 : decode cL_copy 13 = .ok (.iastore, 1) := by decide +kernel
theorem dL_copy_14 : decode cL_copy 14 = .ok (.iinc 2 1, 3) := by decide +kernel
theorem dL_copy_17 : decode cL_copy 17 = .ok (.goto (-15), 3) := by decide +kernel
theorem dL_copy_20 : decode cL_copy 20 = .ok (.return_, 1) := by decide +kernel
theorem dL_all_0 : decode cL_all 0 = .ok (.aload_n 0, 1) := by decide +kernel
theorem dL_all_1 : decode cL_all 1 = .ok (.iconst 0, 1) := by decide +kernel
theorem dL_all_2 : decode cL_all 2 = .ok (.iaload, 1) := by decide +kernel
theorem dL_all_3 : decode cL_all 3 = .ok (.aload_n 0, 1) := by decide +kernel
theorem dL_all_4 : decode cL_all 4 = .ok (.iconst 1, 1) := by decide +kernel
theorem dL_all_5 : decode cL_all 5 = .ok (.iaload, 1) := by decide +kernel
theorem dL_all_6 : decode cL_all 6 = .ok (.iadd, 1) := by decide +kernel
theorem dL_all_7 : decode cL_all 7 = .ok (.aload_n 0, 1) := by decide +kernel
theorem dL_all_8 : decode cL_all 8 = .ok (.iconst 2, 1) := by decide +kernel
theorem dL_all_9 : decode cL_all 9 = .ok (.iaload, 1) := by decide +kernel
theorem dL_all_10 : decode cL_all 10 = .ok (.iadd, 1) := by decide +kernel
theorem dL_all_11 : decode cL_all 11 = .ok (.aload_n 0, 1) := by decide +kernel
theorem dL_all_12 : decode cL_all 12 = .ok (.iconst 3, 1) := by decide +kernel
theorem dL_all_13 : decode cL_all 13 = .ok (.iaload, 1) := by decide +kernel
theorem dL_all_14 : decode cL_all 14 = .ok (.iadd, 1) := by decide +kernel
theorem dL_all_15 : decode cL_all 15 = .ok (.aload_n 0, 1) := by decide +kernel
theorem dL_all_16 : decode cL_all 16 = .ok (.iconst 4, 1) := by decide +kernel
theorem dL_all_17 : decode cL_all 17 = .ok (.iaload, 1) := by decide +kernel
theorem dL_all_18 : decode cL_all 18 = .ok (.iadd, 1) := by decide +kernel
theorem dL_all_19 : decode cL_all 19 = .ok (.aload_n 0, 1) := by decide +kernel
theorem dL_all_20 : decode cL_all 20 = .ok (.iconst 5, 1) := by decide +kernel
theorem dL_all_21 : decode cL_all 21 = .ok (.iaload, 1) := by decide +kernel
theorem dL_all_22 : decode cL_all 22 = .ok (.iadd, 1) := by decide +kernel
theorem dL_all_23 : decode cL_all 23 = .ok (.aload_n 0, 1) := by decide +kernel
theorem dL_all_24 : decode cL_all 24 = .ok (.bipush 6, 2) := by decide +kernel
theorem dL_all_26 : decode cL_all 26 = .ok (.iaload, 1) := by decide +kernel
theorem dL_all_27 : decode cL_all 27 = .ok (.iadd, 1) := by decide +kernel
theorem dL_all_28 : decode cL_all 28 = .ok (.ireturn, 1) := by decide +kernel
end
section
/-! J: the walk over whole numbers (Int): values, worlds, the judgement jW and its rows -/
/-- an int, a long on the stack, by a whole number -/
def vI (e : Int) : Value := .int (Int32.ofInt e)
def vL (e : Int) : Value := .long (Int64.ofInt e)
/-- a row of ints (bytes), of references; an object -/
def aI (cA : ClassId) (n : Nat) (g : Int → Int) : va_E := .inl (cA, n, .inl (fun k : Nat => Int32.ofInt (g (k : Int))))
def aQ (cA : ClassId) (n : Nat) (g : Int → Option Nat) : va_E := .inl (cA, n, .inr (.inr (.inr (.inr (fun k : Nat => g (k : Int))))))
abbrev oC (ci : Nat) (fs : List Value) : va_E := .inr (ci, fs)
def up {α : Type} (g : Int → α) (i : Int) (x : α) : Int → α := fun j => if j = i then x else g j
theorem up_same {α : Type} (g : Int → α) (i : Int) (x : α) : up g i x i = x := if_pos rfl
theorem up_ne {α : Type} (g : Int → α) (i j : Int) (x : α) (h : j ≠ i) : up g i x j = g j := if_neg h
theorem up_eq {α : Type} (g : Int → α) (i j : Int) (x : α) : up g i x j = if j = i then x else g j := rfl
-- numbers
theorem nj_eq {a b : Int} (h : (-2147483648 ≤ a ∧ a ≤ 2147483647) ∧ (-2147483648 ≤ b ∧ b ≤ 2147483647)) : Int32.ofInt a = Int32.ofInt b ↔ a = b := by
  refine ⟨fun e => ?_, fun e => by rw [e]⟩
  have h1 := congrArg Int32.toInt e
  rwa [Int32.toInt_ofInt_of_le (by omega) (by omega), Int32.toInt_ofInt_of_le (by omega) (by omega)] at h1
theorem nj_lt {a b : Int} (h : (-2147483648 ≤ a ∧ a ≤ 2147483647) ∧ (-2147483648 ≤ b ∧ b ≤ 2147483647)) : Int32.ofInt a < Int32.ofInt b ↔ a < b := by
  rw [Int32.lt_iff_toInt_lt, Int32.toInt_ofInt_of_le (by omega) (by omega), Int32.toInt_ofInt_of_le (by omega) (by omega)]
theorem nj_le {a b : Int} (h : (-2147483648 ≤ a ∧ a ≤ 2147483647) ∧ (-2147483648 ≤ b ∧ b ≤ 2147483647)) : Int32.ofInt a ≤ Int32.ofInt b ↔ a ≤ b := by
  rw [Int32.le_iff_toInt_le, Int32.toInt_ofInt_of_le (by omega) (by omega), Int32.toInt_ofInt_of_le (by omega) (by omega)]
theorem nj_z : (0 : Int32) = Int32.ofInt 0 := rfl
theorem nj_cl {i : Int} (h : 0 ≤ i ∧ i ≤ 2147483647) : (Int32.ofInt i).toNatClampNeg = i.toNat := Int32.toNatClampNeg_ofInt_of_le (by omega) (by omega)
theorem nj_in {i : Int} {n : Nat} (h : 0 ≤ i ∧ i < (n : Int)) (hn : n < 2147483648) : vp_in (Int32.ofInt i) n := by
  intro q
  rcases q with q | q
  · rw [nj_z, nj_lt (by omega)] at q
    omega
  · rw [nj_cl (by omega)] at q
    omega
theorem nj_to {i : Int} (h : 0 ≤ i ∧ i ≤ 2147483647) : ((Int32.ofInt i).toNatClampNeg : Int) = i := by
  rw [nj_cl h]; omega
theorem nj_up {g : Int → Int} {i x : Int} (h : 0 ≤ i ∧ i ≤ 2147483647) : upd (fun k : Nat => Int32.ofInt (g (k : Int))) (Int32.ofInt i).toNatClampNeg (Int32.ofInt x) = fun k : Nat => Int32.ofInt (up g i x (k : Int)) := by
  funext k
  have h1 := nj_to h
  unfold upd up
  by_cases hk : k = (Int32.ofInt i).toNatClampNeg
  · rw [if_pos hk, if_pos (by omega)]
  · rw [if_neg hk, if_neg (by omega)]
theorem nj_upq {g : Int → Option Nat} {i : Int} {x : Option Nat} (h : 0 ≤ i ∧ i ≤ 2147483647) : va_up (fun k : Nat => g (k : Int)) (Int32.ofInt i).toNatClampNeg x = fun k : Nat => up g i x (k : Int) := by
  funext k
  have h1 := nj_to h
  unfold va_up up
  by_cases hk : k = (Int32.ofInt i).toNatClampNeg
  · rw [if_pos hk, if_pos (by omega)]
  · rw [if_neg hk, if_neg (by omega)]
-- the tables' facts that are no words of a method: private nest mates, casts, rows of references
def jN (U : State) : Prop := (va_Nw (.methodLinkNest RX2 43 yX9_isCairn "KneelingStones") U ∧ va_Nw (.methodLinkNest RX9 11 yX4_init "KneelingStones") U ∧ va_Nw (.methodLinkNest RX9 30 yX2_init "KneelingStones") U ∧ va_Nw (.methodLinkNest RX9 47 yX8_init "KneelingStones") U) ∧ (va_AO RX1 U ∧ va_AO RX5 U) ∧ (True ∧ va_Nw (.castable RX6 RX5) U ∧ va_Nw (.castable RX7 RX5) U ∧ va_Nw (.castable RX0 RX5) U) ∧ True
theorem jN.warm {s U : State} (hW : s.WarmedH U.vm) (h : jN s) : jN U := by
  obtain ⟨⟨a1, a2, a3, a4⟩, ⟨b1, b2⟩, ⟨_, c2, c3, c4⟩, _⟩ := h
  exact ⟨⟨a1.warmM hW, a2.warmM hW, a3.warmM hW, a4.warmM hW⟩, ⟨b1.moved hW.alike, b2.moved hW.alike⟩, ⟨trivial, c2.warmC hW, c3.warmC hW, c4.warmC hW⟩, trivial⟩
theorem jN.same {s U : State} (hW : s.vm = U.vm) (h : jN s) : jN U := by
  obtain ⟨⟨a1, a2, a3, a4⟩, ⟨b1, b2⟩, ⟨_, c2, c3, c4⟩, _⟩ := h
  have hA : s.vm.Alike U.vm := hW ▸ Vm.Alike.refl _
  exact ⟨⟨a1.same rfl hW, a2.same rfl hW, a3.same rfl hW, a4.same rfl hW⟩, ⟨b1.moved hA, b2.moved hA⟩, ⟨trivial, c2.same rfl hW, c3.same rfl hW, c4.same rfl hW⟩, trivial⟩
/-- the rows' classes: of ints, of longs, of customs, of parishes -/
def jT (Y : Nat → ClassId) : List (ClassId × FieldType) := [(Y 0, .int), (Y 1, .long), (Y 2, .object RX1), (Y 3, .object RX5)]
def andI (a b : Int) : Int := (Int32.ofInt a &&& Int32.ofInt b).toInt
def orI (a b : Int) : Int := (Int32.ofInt a ||| Int32.ofInt b).toInt
def shlI (a b : Int) : Int := (Int32.ofInt a <<< (Int32.ofInt b &&& 31)).toInt
def shrI (a b : Int) : Int := (Int32.ofInt a >>> (Int32.ofInt b &&& 31)).toInt
def i2bI (a : Int) : Int := (Int32.ofInt a).toInt8.toInt32.toInt
def landI (a b : Int) : Int := (Int64.ofInt a &&& Int64.ofInt b).toInt
def lorI (a b : Int) : Int := (Int64.ofInt a ||| Int64.ofInt b).toInt
def lushrI (a b : Int) : Int := (((Int64.ofInt a).toUInt64 >>> ((Int32.ofInt b).toInt64.toUInt64 &&& Int64.toUInt64 63)).toInt64).toInt
def lshrI (a b : Int) : Int := (Int64.ofInt a >>> ((Int32.ofInt b).toInt64 &&& 63)).toInt
def lshlI (a b : Int) : Int := (Int64.ofInt a <<< ((Int32.ofInt b).toInt64 &&& 63)).toInt
def cmpI (a b : Int) : Int := if a < b then -1 else if a = b then 0 else 1
theorem nj_nz32 {b : Int} (h : 0 < b ∧ b ≤ 2147483647) : ¬ Int32.ofInt b = 0 := by
  rw [nj_z, nj_eq (by omega)]; omega
theorem nj_nz64 {b : Int} (h : 0 < b ∧ b ≤ 9223372036854775807) : ¬ Int64.ofInt b = 0 := by
  intro e
  have h1 := congrArg Int64.toInt e
  rw [Int64.toInt_ofInt_of_le (by omega) (by omega)] at h1
  have h2 : (0 : Int64).toInt = 0 := rfl
  omega
theorem nj_div {a b : Int} (h : 0 ≤ a ∧ a ≤ 2147483647 ∧ 0 < b ∧ b ≤ 2147483647) : Int32.ofInt a / Int32.ofInt b = Int32.ofInt (a / b) := by
  rw [← Int32.ofInt_tdiv (show Int32.minValue.toInt ≤ a by have : Int32.minValue.toInt = -2147483648 := rfl; omega) (show a ≤ Int32.maxValue.toInt by have : Int32.maxValue.toInt = 2147483647 := rfl; omega) (show Int32.minValue.toInt ≤ b by have : Int32.minValue.toInt = -2147483648 := rfl; omega) (show b ≤ Int32.maxValue.toInt by have : Int32.maxValue.toInt = 2147483647 := rfl; omega), Int.tdiv_eq_ediv_of_nonneg h.1]
theorem nj_rem {a b : Int} (h : 0 ≤ a ∧ a ≤ 2147483647 ∧ 0 < b ∧ b ≤ 2147483647) : Int32.ofInt a - Int32.ofInt a / Int32.ofInt b * Int32.ofInt b = Int32.ofInt (a % b) := by
  rw [nj_div h, ← Int32.ofInt_mul, ← Int32.ofInt_sub, Int.emod_def, Int.mul_comm b]
theorem nj_ldiv {a b : Int} (h : 0 ≤ a ∧ a ≤ 9223372036854775807 ∧ 0 < b ∧ b ≤ 9223372036854775807) : Int64.ofInt a / Int64.ofInt b = Int64.ofInt (a / b) := by
  rw [← Int64.ofInt_tdiv (show Int64.minValue.toInt ≤ a by have : Int64.minValue.toInt = -9223372036854775808 := rfl; omega) (show a ≤ Int64.maxValue.toInt by have : Int64.maxValue.toInt = 9223372036854775807 := rfl; omega) (show Int64.minValue.toInt ≤ b by have : Int64.minValue.toInt = -9223372036854775808 := rfl; omega) (show b ≤ Int64.maxValue.toInt by have : Int64.maxValue.toInt = 9223372036854775807 := rfl; omega), Int.tdiv_eq_ediv_of_nonneg h.1]
theorem nj_lrem {a b : Int} (h : 0 ≤ a ∧ a ≤ 9223372036854775807 ∧ 0 < b ∧ b ≤ 9223372036854775807) : Int64.ofInt a - Int64.ofInt a / Int64.ofInt b * Int64.ofInt b = Int64.ofInt (a % b) := by
  rw [nj_ldiv h, ← Int64.ofInt_mul, ← Int64.ofInt_sub, Int.emod_def, Int.mul_comm b]
theorem nj_i2l {a : Int} (h : -2147483648 ≤ a ∧ a ≤ 2147483647) : (Int32.ofInt a).toInt64 = Int64.ofInt a := Int32.toInt64_ofInt (by have : Int32.minValue.toInt = -2147483648 := rfl; omega) (by have : Int32.maxValue.toInt = 2147483647 := rfl; omega)
theorem nj_cmp {a b : Int} (h : (-9223372036854775808 ≤ a ∧ a ≤ 9223372036854775807) ∧ (-9223372036854775808 ≤ b ∧ b ≤ 9223372036854775807)) : lg_cmp (Int64.ofInt a) (Int64.ofInt b) = Int32.ofInt (cmpI a b) := by
  have ea : (Int64.ofInt a).toInt = a := Int64.toInt_ofInt_of_le (by omega) (by omega)
  have eb : (Int64.ofInt b).toInt = b := Int64.toInt_ofInt_of_le (by omega) (by omega)
  have h2 : (Int64.ofInt a = Int64.ofInt b) ↔ a = b := by rw [← Int64.toInt_inj, ea, eb]
  have h3 : (Int64.ofInt b < Int64.ofInt a) ↔ b < a := by rw [Int64.lt_iff_toInt_lt, ea, eb]
  unfold lg_cmp cmpI
  simp only [gt_iff_lt, h2, h3]
  by_cases c1 : b < a
  · rw [if_pos c1, if_neg (by omega), if_neg (by omega)]; rfl
  · by_cases c2 : a = b
    · rw [if_neg c1, if_pos c2, if_neg (by omega), if_pos c2]; rfl
    · rw [if_neg c1, if_neg c2, if_pos (by omega)]; rfl
theorem nj_eqT {a b : Int} (hr : (-2147483648 ≤ a ∧ a ≤ 2147483647) ∧ (-2147483648 ≤ b ∧ b ≤ 2147483647)) (h : Int32.ofInt a = Int32.ofInt b) : a = b := (nj_eq hr).mp h
theorem nj_eqF {a b : Int} (hr : (-2147483648 ≤ a ∧ a ≤ 2147483647) ∧ (-2147483648 ≤ b ∧ b ≤ 2147483647)) (h : ¬ Int32.ofInt a = Int32.ofInt b) : ¬ a = b := fun q => h ((nj_eq hr).mpr q)
theorem nj_neT {a b : Int} (hr : (-2147483648 ≤ a ∧ a ≤ 2147483647) ∧ (-2147483648 ≤ b ∧ b ≤ 2147483647)) (h : ¬ Int32.ofInt a = Int32.ofInt b) : ¬ a = b := fun q => h ((nj_eq hr).mpr q)
theorem nj_neF {a b : Int} (hr : (-2147483648 ≤ a ∧ a ≤ 2147483647) ∧ (-2147483648 ≤ b ∧ b ≤ 2147483647)) (h : Int32.ofInt a = Int32.ofInt b) : a = b := (nj_eq hr).mp h
theorem nj_ltT {a b : Int} (hr : (-2147483648 ≤ a ∧ a ≤ 2147483647) ∧ (-2147483648 ≤ b ∧ b ≤ 2147483647)) (h : Int32.ofInt a < Int32.ofInt b) : a < b := (nj_lt hr).mp h
theorem nj_ltF {a b : Int} (hr : (-2147483648 ≤ a ∧ a ≤ 2147483647) ∧ (-2147483648 ≤ b ∧ b ≤ 2147483647)) (h : ¬ Int32.ofInt a < Int32.ofInt b) : b ≤ a := by rw [nj_lt hr] at h; omega
theorem nj_geT {a b : Int} (hr : (-2147483648 ≤ a ∧ a ≤ 2147483647) ∧ (-2147483648 ≤ b ∧ b ≤ 2147483647)) (h : Int32.ofInt b ≤ Int32.ofInt a) : b ≤ a := (nj_le hr.symm).mp h
theorem nj_geF {a b : Int} (hr : (-2147483648 ≤ a ∧ a ≤ 2147483647) ∧ (-2147483648 ≤ b ∧ b ≤ 2147483647)) (h : ¬ Int32.ofInt b ≤ Int32.ofInt a) : a < b := by rw [nj_le hr.symm] at h; omega
theorem nj_gtT {a b : Int} (hr : (-2147483648 ≤ a ∧ a ≤ 2147483647) ∧ (-2147483648 ≤ b ∧ b ≤ 2147483647)) (h : Int32.ofInt b < Int32.ofInt a) : b < a := (nj_lt hr.symm).mp h
theorem nj_gtF {a b : Int} (hr : (-2147483648 ≤ a ∧ a ≤ 2147483647) ∧ (-2147483648 ≤ b ∧ b ≤ 2147483647)) (h : ¬ Int32.ofInt b < Int32.ofInt a) : a ≤ b := by rw [nj_lt hr.symm] at h; omega
theorem nj_leT {a b : Int} (hr : (-2147483648 ≤ a ∧ a ≤ 2147483647) ∧ (-2147483648 ≤ b ∧ b ≤ 2147483647)) (h : Int32.ofInt a ≤ Int32.ofInt b) : a ≤ b := (nj_le hr).mp h
theorem nj_leF {a b : Int} (hr : (-2147483648 ≤ a ∧ a ≤ 2147483647) ∧ (-2147483648 ≤ b ∧ b ≤ 2147483647)) (h : ¬ Int32.ofInt a ≤ Int32.ofInt b) : b < a := by rw [nj_le hr] at h; omega
theorem j_same {Ts : List Cond} {args : Array Value} {s : State} (hts : ∀ w ∈ Ts, w.before args s = true) {T : u_T} {kf : Nat} {ref : String} (h : (T kf).1 = ref ∨ Cond.sameField ref (T kf).1 (T kf).2.1 (T kf).2.2.1 ∈ Ts) : ∀ x, s.fieldFound? (T kf).1 (T kf).2.1 (T kf).2.2.1 = some x → s.fieldFound? ref (T kf).2.1 (T kf).2.2.1 = some x := by
  rcases h with h | h
  · intro x hx; rw [← h]; exact hx
  · exact fun x9 h9 => u_same (hts _ h) x9 h9
/-- all that stays while a method is walked -/
abbrev jX : Type := Program × Launch × Env × Room × State × MethodId × Array Value × List Frame × Method × Code × (State → Prop) × va_G × (Nat → ClassId) × (Nat → Prop) × Heap × va_W
/-- the frame of a walk: code, locals, class, words, room, numbers of the classes, cells that are only read -/
def jC (X : jX) (cc : ByteArray) (nL : Nat) (own : String) (Ts : List Cond) (rm : Room) (D : va_G) (Y : Nat → ClassId) (RO : va_W) : Prop := match X with
  | (p, l, e, R, s, m, args, below, meth, c, Q, D', Y', A, H0, RO') => (p.tables.exec = Jvm.exec ∧ c.code = cc ∧ c.maxLocals = nL ∧ s.vm.findClass own = some m.cls ∧ ∀ w ∈ Ts, w.before args s = true) ∧ va_K D vwCl (jT Y) s ∧ (∀ q : Nat, H0.size ≤ q → A q) ∧ (R = rm ∧ D' = D ∧ Y' = Y ∧ RO' = RO) ∧ va_P D vwCl RO H0 ∧ (∀ q ∈ RO, ¬ A q.1) ∧ jN s
/-- from any heap that holds the world, with these locals, at this place, with this stack, the machine comes to the end -/
def jW (X : jX) (nL k n : Nat) (ws : va_W) (lc : List (Nat × Value)) (pc : Nat) (st : List Value) : Prop := match X with
  | (p, l, e, R, s, m, args, below, meth, c, Q, D, _, A, H0, _) => ∀ (H : Heap) (locs : List Loc) (ls : Array Slot), va_P D vwCl ws H → va_D A ws → va_S A H0 H locs → lv_has ls nL lc → W p l e R s m args below meth c H locs k n Q (F0 m pc ls st)
theorem va_at_lt {D : va_G} {q : Nat × va_E} {H : Heap} (h : va_at D vwCl q H) : q.1 < H.size := va_at.lt h
/-- a cell that is there: of the world, or only read -/
theorem j_cell {D : va_G} {ws RO : va_W} {A : Nat → Prop} {H0 H : Heap} {locs : List Loc} {q : Nat × va_E} (hq : q ∈ ws ∨ q ∈ RO) (hP : va_P D vwCl ws H) (hR : va_P D vwCl RO H0) (hRA : ∀ q ∈ RO, ¬ A q.1) (hS : va_S A H0 H locs) : va_P D vwCl [q] H := by
  have hat : va_at D vwCl q H := by
    rcases hq with hq | hq
    · obtain ⟨k, hk⟩ := List.mem_iff_getElem?.mp hq
      exact hP k q hk
    · obtain ⟨k, hk⟩ := List.mem_iff_getElem?.mp hq
      have h0 := hR k q hk
      exact h0.kept (hS.2.1 q.1 h0.lt (hRA q hq))
  intro k r hr
  cases k with
  | zero => cases hr; exact hat
  | succ k => simp at hr
section JROWS
variable {X : jX} {cc : ByteArray} {nL : Nat} {own : String} {Ts : List Cond} {rm : Room} {D : va_G} {Y : Nat → ClassId} {RO : va_W} {k n : Nat} {ws : va_W} {lc : List (Nat × Value)} {pc : Nat} {st : List Value}
theorem j_iconst (C : jC X cc nL own Ts rm D Y RO) {v : Int} (hd : decode cc pc = .ok (.iconst v, 1)) (kk : jW X nL k n ws lc (pc + 1) (vI v :: st)) : jW X nL k n ws lc pc st := by
  obtain ⟨p, l, e, R, s, m, args, below, meth, c, Q, D', Y', A, H0, RO'⟩ := X
  obtain ⟨⟨hx, hb, hml, hown, hts⟩, hK, hA, ⟨rfl, rfl, rfl, rfl⟩, hR, hRA, hN⟩ := C
  intro H locs ls hP hD hS hl
  exact lv_iconst hx hb hd rfl (kk H locs ls hP hD hS hl)
theorem j_bipush (C : jC X cc nL own Ts rm D Y RO) {v w : Int} (hv : (Int8.ofInt v).toInt32 = Int32.ofInt w) (hd : decode cc pc = .ok (.bipush v, 2)) (kk : jW X nL k n ws lc (pc + 2) (vI w :: st)) : jW X nL k n ws lc pc st := by
  obtain ⟨p, l, e, R, s, m, args, below, meth, c, Q, D', Y', A, H0, RO'⟩ := X
  obtain ⟨⟨hx, hb, hml, hown, hts⟩, hK, hA, ⟨rfl, rfl, rfl, rfl⟩, hR, hRA, hN⟩ := C
  intro H locs ls hP hD hS hl
  exact lv_bipush hx hb hd hv (kk H locs ls hP hD hS hl)
theorem j_sipush (C : jC X cc nL own Ts rm D Y RO) {v w : Int} (hv : (Int16.ofInt v).toInt32 = Int32.ofInt w) (hd : decode cc pc = .ok (.sipush v, 3)) (kk : jW X nL k n ws lc (pc + 3) (vI w :: st)) : jW X nL k n ws lc pc st := by
  obtain ⟨p, l, e, R, s, m, args, below, meth, c, Q, D', Y', A, H0, RO'⟩ := X
  obtain ⟨⟨hx, hb, hml, hown, hts⟩, hK, hA, ⟨rfl, rfl, rfl, rfl⟩, hR, hRA, hN⟩ := C
  intro H locs ls hP hD hS hl
  exact lv_sipush hx hb hd hv (kk H locs ls hP hD hS hl)
theorem j_lconst (C : jC X cc nL own Ts rm D Y RO) {f : Fin 2} {w : Int} (hv : Int64.ofNat (f : Nat) = Int64.ofInt w) (hd : decode cc pc = .ok (.lconst f, 1)) (kk : jW X nL k n ws lc (pc + 1) (vL w :: st)) : jW X nL k n ws lc pc st := by
  obtain ⟨p, l, e, R, s, m, args, below, meth, c, Q, D', Y', A, H0, RO'⟩ := X
  obtain ⟨⟨hx, hb, hml, hown, hts⟩, hK, hA, ⟨rfl, rfl, rfl, rfl⟩, hR, hRA, hN⟩ := C
  intro H locs ls hP hD hS hl
  exact lv_lconst hx hb hd hv (kk H locs ls hP hD hS hl)
theorem j_ldc (C : jC X cc nL own Ts rm D Y RO) {index : Nat} {w : Int} (hc : Cond.constant own index (Int32.ofInt w) ∈ Ts) (hd : decode cc pc = .ok (.ldc index, 2)) (kk : jW X nL k n ws lc (pc + 2) (vI w :: st)) : jW X nL k n ws lc pc st := by
  obtain ⟨p, l, e, R, s, m, args, below, meth, c, Q, D', Y', A, H0, RO'⟩ := X
  obtain ⟨⟨hx, hb, hml, hown, hts⟩, hK, hA, ⟨rfl, rfl, rfl, rfl⟩, hR, hRA, hN⟩ := C
  intro H locs ls hP hD hS hl
  exact lv_ldc hx hb hown (hts _ hc) hd (kk H locs ls hP hD hS hl)
theorem j_ldc2 (C : jC X cc nL own Ts rm D Y RO) {index : Nat} {w : Int} (hc : Cond.constantLong own index (Int64.ofInt w) ∈ Ts) (hd : decode cc pc = .ok (.ldc2_w index, 3)) (kk : jW X nL k n ws lc (pc + 3) (vL w :: st)) : jW X nL k n ws lc pc st := by
  obtain ⟨p, l, e, R, s, m, args, below, meth, c, Q, D', Y', A, H0, RO'⟩ := X
  obtain ⟨⟨hx, hb, hml, hown, hts⟩, hK, hA, ⟨rfl, rfl, rfl, rfl⟩, hR, hRA, hN⟩ := C
  intro H locs ls hP hD hS hl
  exact lv_ldc2 hx hb hown (hts _ hc) hd (kk H locs ls hP hD hS hl)
theorem j_null (C : jC X cc nL own Ts rm D Y RO)  (hd : decode cc pc = .ok (.aconst_null, 1)) (kk : jW X nL k n ws lc (pc + 1) (.null :: st)) : jW X nL k n ws lc pc st := by
  obtain ⟨p, l, e, R, s, m, args, below, meth, c, Q, D', Y', A, H0, RO'⟩ := X
  obtain ⟨⟨hx, hb, hml, hown, hts⟩, hK, hA, ⟨rfl, rfl, rfl, rfl⟩, hR, hRA, hN⟩ := C
  intro H locs ls hP hD hS hl
  exact lv_null hx hb hd (kk H locs ls hP hD hS hl)
theorem j_iload_n (C : jC X cc nL own Ts rm D Y RO) {a : Int} {f : Fin 4} (i q : Nat) (hi : (f : Nat) = i) (hq : lc[q]? = some (i, (vI a))) (hd : decode cc pc = .ok (.iload_n f, 1)) (kk : jW X nL k n ws lc (pc + 1) ((vI a) :: st)) : jW X nL k n ws lc pc st := by
  obtain ⟨p, l, e, R, s, m, args, below, meth, c, Q, D', Y', A, H0, RO'⟩ := X
  obtain ⟨⟨hx, hb, hml, hown, hts⟩, hK, hA, ⟨rfl, rfl, rfl, rfl⟩, hR, hRA, hN⟩ := C
  intro H locs ls hP hD hS hl
  exact lv_iload_n hx hb hd hi (lv_at hl q hq) (kk H locs ls hP hD hS hl)
theorem j_iload (C : jC X cc nL own Ts rm D Y RO) {a : Int} {i : Nat} (q : Nat) (hq : lc[q]? = some (i, (vI a))) (hd : decode cc pc = .ok (.iload i, 2)) (kk : jW X nL k n ws lc (pc + 2) ((vI a) :: st)) : jW X nL k n ws lc pc st := by
  obtain ⟨p, l, e, R, s, m, args, below, meth, c, Q, D', Y', A, H0, RO'⟩ := X
  obtain ⟨⟨hx, hb, hml, hown, hts⟩, hK, hA, ⟨rfl, rfl, rfl, rfl⟩, hR, hRA, hN⟩ := C
  intro H locs ls hP hD hS hl
  exact lv_iload hx hb hd (lv_at hl q hq) (kk H locs ls hP hD hS hl)
theorem j_lload_n (C : jC X cc nL own Ts rm D Y RO) {a : Int} {f : Fin 4} (i q : Nat) (hi : (f : Nat) = i) (hq : lc[q]? = some (i, (vL a))) (hd : decode cc pc = .ok (.lload_n f, 1)) (kk : jW X nL k n ws lc (pc + 1) ((vL a) :: st)) : jW X nL k n ws lc pc st := by
  obtain ⟨p, l, e, R, s, m, args, below, meth, c, Q, D', Y', A, H0, RO'⟩ := X
  obtain ⟨⟨hx, hb, hml, hown, hts⟩, hK, hA, ⟨rfl, rfl, rfl, rfl⟩, hR, hRA, hN⟩ := C
  intro H locs ls hP hD hS hl
  exact lv_lload_n hx hb hd hi (lv_at hl q hq) (kk H locs ls hP hD hS hl)
theorem j_lload (C : jC X cc nL own Ts rm D Y RO) {a : Int} {i : Nat} (q : Nat) (hq : lc[q]? = some (i, (vL a))) (hd : decode cc pc = .ok (.lload i, 2)) (kk : jW X nL k n ws lc (pc + 2) ((vL a) :: st)) : jW X nL k n ws lc pc st := by
  obtain ⟨p, l, e, R, s, m, args, below, meth, c, Q, D', Y', A, H0, RO'⟩ := X
  obtain ⟨⟨hx, hb, hml, hown, hts⟩, hK, hA, ⟨rfl, rfl, rfl, rfl⟩, hR, hRA, hN⟩ := C
  intro H locs ls hP hD hS hl
  exact lv_lload hx hb hd (lv_at hl q hq) (kk H locs ls hP hD hS hl)
theorem j_aload_n (C : jC X cc nL own Ts rm D Y RO) {a : Nat} {f : Fin 4} (i q : Nat) (hi : (f : Nat) = i) (hq : lc[q]? = some (i, (.ref a))) (hd : decode cc pc = .ok (.aload_n f, 1)) (kk : jW X nL k n ws lc (pc + 1) ((.ref a) :: st)) : jW X nL k n ws lc pc st := by
  obtain ⟨p, l, e, R, s, m, args, below, meth, c, Q, D', Y', A, H0, RO'⟩ := X
  obtain ⟨⟨hx, hb, hml, hown, hts⟩, hK, hA, ⟨rfl, rfl, rfl, rfl⟩, hR, hRA, hN⟩ := C
  intro H locs ls hP hD hS hl
  exact lv_aload_n hx hb hd hi (lv_at hl q hq) (kk H locs ls hP hD hS hl)
theorem j_aload (C : jC X cc nL own Ts rm D Y RO) {a : Nat} {i : Nat} (q : Nat) (hq : lc[q]? = some (i, (.ref a))) (hd : decode cc pc = .ok (.aload i, 2)) (kk : jW X nL k n ws lc (pc + 2) ((.ref a) :: st)) : jW X nL k n ws lc pc st := by
  obtain ⟨p, l, e, R, s, m, args, below, meth, c, Q, D', Y', A, H0, RO'⟩ := X
  obtain ⟨⟨hx, hb, hml, hown, hts⟩, hK, hA, ⟨rfl, rfl, rfl, rfl⟩, hR, hRA, hN⟩ := C
  intro H locs ls hP hD hS hl
  exact lv_aload hx hb hd (lv_at hl q hq) (kk H locs ls hP hD hS hl)
theorem j_aload_nN (C : jC X cc nL own Ts rm D Y RO) {f : Fin 4} (i q : Nat) (hi : (f : Nat) = i) (hq : lc[q]? = some (i, .null)) (hd : decode cc pc = .ok (.aload_n f, 1)) (kk : jW X nL k n ws lc (pc + 1) (.null :: st)) : jW X nL k n ws lc pc st := by
  obtain ⟨p, l, e, R, s, m, args, below, meth, c, Q, D', Y', A, H0, RO'⟩ := X
  obtain ⟨⟨hx, hb, hml, hown, hts⟩, hK, hA, ⟨rfl, rfl, rfl, rfl⟩, hR, hRA, hN⟩ := C
  intro H locs ls hP hD hS hl
  exact lv_aload_nN hx hb hd hi (lv_at hl q hq) (kk H locs ls hP hD hS hl)
theorem j_aloadN (C : jC X cc nL own Ts rm D Y RO) {i : Nat} (q : Nat) (hq : lc[q]? = some (i, .null)) (hd : decode cc pc = .ok (.aload i, 2)) (kk : jW X nL k n ws lc (pc + 2) (.null :: st)) : jW X nL k n ws lc pc st := by
  obtain ⟨p, l, e, R, s, m, args, below, meth, c, Q, D', Y', A, H0, RO'⟩ := X
  obtain ⟨⟨hx, hb, hml, hown, hts⟩, hK, hA, ⟨rfl, rfl, rfl, rfl⟩, hR, hRA, hN⟩ := C
  intro H locs ls hP hD hS hl
  exact lv_aloadN hx hb hd (lv_at hl q hq) (kk H locs ls hP hD hS hl)
theorem j_istore_n (C : jC X cc nL own Ts rm D Y RO) {a : Int} {f : Fin 4} {lc' : List (Nat × Value)} (i : Nat) (hi : (f : Nat) = i) (hn : i < nL) (hl' : (i, (vI a)) :: lc.filter (fun q => !(q.1 == i) && !(q.1 + 1 == i && q.2.category == 2)) = lc') (hd : decode cc pc = .ok (.istore_n f, 1)) (kk : jW X nL k n ws lc' (pc + 1) st) : jW X nL k n ws lc pc ((vI a) :: st) := by
  obtain ⟨p, l, e, R, s, m, args, below, meth, c, Q, D', Y', A, H0, RO'⟩ := X
  obtain ⟨⟨hx, hb, hml, hown, hts⟩, hK, hA, ⟨rfl, rfl, rfl, rfl⟩, hR, hRA, hN⟩ := C
  intro H locs ls hP hD hS hl
  exact lv_istore_n hx hb hd hi hl hn hl' (fun ls hl => kk H locs ls hP hD hS hl)
theorem j_istore (C : jC X cc nL own Ts rm D Y RO) {a : Int} {i : Nat} {lc' : List (Nat × Value)} (hn : i < nL) (hl' : (i, (vI a)) :: lc.filter (fun q => !(q.1 == i) && !(q.1 + 1 == i && q.2.category == 2)) = lc') (hd : decode cc pc = .ok (.istore i, 2)) (kk : jW X nL k n ws lc' (pc + 2) st) : jW X nL k n ws lc pc ((vI a) :: st) := by
  obtain ⟨p, l, e, R, s, m, args, below, meth, c, Q, D', Y', A, H0, RO'⟩ := X
  obtain ⟨⟨hx, hb, hml, hown, hts⟩, hK, hA, ⟨rfl, rfl, rfl, rfl⟩, hR, hRA, hN⟩ := C
  intro H locs ls hP hD hS hl
  exact lv_istore hx hb hd hl hn hl' (fun ls hl => kk H locs ls hP hD hS hl)
theorem j_astore_n (C : jC X cc nL own Ts rm D Y RO) {a : Nat} {f : Fin 4} {lc' : List (Nat × Value)} (i : Nat) (hi : (f : Nat) = i) (hn : i < nL) (hl' : (i, (.ref a)) :: lc.filter (fun q => !(q.1 == i) && !(q.1 + 1 == i && q.2.category == 2)) = lc') (hd : decode cc pc = .ok (.astore_n f, 1)) (kk : jW X nL k n ws lc' (pc + 1) st) : jW X nL k n ws lc pc ((.ref a) :: st) := by
  obtain ⟨p, l, e, R, s, m, args, below, meth, c, Q, D', Y', A, H0, RO'⟩ := X
  obtain ⟨⟨hx, hb, hml, hown, hts⟩, hK, hA, ⟨rfl, rfl, rfl, rfl⟩, hR, hRA, hN⟩ := C
  intro H locs ls hP hD hS hl
  exact lv_astore_n hx hb hd hi hl hn hl' (fun ls hl => kk H locs ls hP hD hS hl)
theorem j_astore (C : jC X cc nL own Ts rm D Y RO) {a : Nat} {i : Nat} {lc' : List (Nat × Value)} (hn : i < nL) (hl' : (i, (.ref a)) :: lc.filter (fun q => !(q.1 == i) && !(q.1 + 1 == i && q.2.category == 2)) = lc') (hd : decode cc pc = .ok (.astore i, 2)) (kk : jW X nL k n ws lc' (pc + 2) st) : jW X nL k n ws lc pc ((.ref a) :: st) := by
  obtain ⟨p, l, e, R, s, m, args, below, meth, c, Q, D', Y', A, H0, RO'⟩ := X
  obtain ⟨⟨hx, hb, hml, hown, hts⟩, hK, hA, ⟨rfl, rfl, rfl, rfl⟩, hR, hRA, hN⟩ := C
  intro H locs ls hP hD hS hl
  exact lv_astore hx hb hd hl hn hl' (fun ls hl => kk H locs ls hP hD hS hl)
theorem j_lstore_n (C : jC X cc nL own Ts rm D Y RO) {a : Int} {f : Fin 4} {lc' : List (Nat × Value)} (i : Nat) (hi : (f : Nat) = i) (hn : i + 1 < nL) (hl' : (i, vL a) :: lc.filter (fun q => !(q.1 == i) && (!(q.1 == i + 1) && !(q.1 + 1 == i && q.2.category == 2))) = lc') (hd : decode cc pc = .ok (.lstore_n f, 1)) (kk : jW X nL k n ws lc' (pc + 1) st) : jW X nL k n ws lc pc (vL a :: st) := by
  obtain ⟨p, l, e, R, s, m, args, below, meth, c, Q, D', Y', A, H0, RO'⟩ := X
  obtain ⟨⟨hx, hb, hml, hown, hts⟩, hK, hA, ⟨rfl, rfl, rfl, rfl⟩, hR, hRA, hN⟩ := C
  intro H locs ls hP hD hS hl
  exact lv_lstore_n hx hb hd hi hl hn hl' (fun ls hl => kk H locs ls hP hD hS hl)
theorem j_lstore (C : jC X cc nL own Ts rm D Y RO) {a : Int} {lc' : List (Nat × Value)} {i : Nat} (hn : i + 1 < nL) (hl' : (i, vL a) :: lc.filter (fun q => !(q.1 == i) && (!(q.1 == i + 1) && !(q.1 + 1 == i && q.2.category == 2))) = lc') (hd : decode cc pc = .ok (.lstore i, 2)) (kk : jW X nL k n ws lc' (pc + 2) st) : jW X nL k n ws lc pc (vL a :: st) := by
  obtain ⟨p, l, e, R, s, m, args, below, meth, c, Q, D', Y', A, H0, RO'⟩ := X
  obtain ⟨⟨hx, hb, hml, hown, hts⟩, hK, hA, ⟨rfl, rfl, rfl, rfl⟩, hR, hRA, hN⟩ := C
  intro H locs ls hP hD hS hl
  exact lv_lstore hx hb hd hl hn hl' (fun ls hl => kk H locs ls hP hD hS hl)
theorem j_iadd (C : jC X cc nL own Ts rm D Y RO) {a b : Int} (hd : decode cc pc = .ok (.iadd, 1)) (kk : jW X nL k n ws lc (pc + 1) (vI (a + b) :: st)) : jW X nL k n ws lc pc (vI b :: vI a :: st) := by
  obtain ⟨p, l, e, R, s, m, args, below, meth, c, Q, D', Y', A, H0, RO'⟩ := X
  obtain ⟨⟨hx, hb, hml, hown, hts⟩, hK, hA, ⟨rfl, rfl, rfl, rfl⟩, hR, hRA, hN⟩ := C
  intro H locs ls hP hD hS hl
  exact lv_iadd hx hb hd (by rw [← Int32.ofInt_add]; exact (kk H locs ls hP hD hS hl))
theorem j_ladd (C : jC X cc nL own Ts rm D Y RO) {a b : Int} (hd : decode cc pc = .ok (.ladd, 1)) (kk : jW X nL k n ws lc (pc + 1) (vL (a + b) :: st)) : jW X nL k n ws lc pc (vL b :: vL a :: st) := by
  obtain ⟨p, l, e, R, s, m, args, below, meth, c, Q, D', Y', A, H0, RO'⟩ := X
  obtain ⟨⟨hx, hb, hml, hown, hts⟩, hK, hA, ⟨rfl, rfl, rfl, rfl⟩, hR, hRA, hN⟩ := C
  intro H locs ls hP hD hS hl
  exact lv_ladd hx hb hd (by rw [← Int64.ofInt_add]; exact (kk H locs ls hP hD hS hl))
theorem j_isub (C : jC X cc nL own Ts rm D Y RO) {a b : Int} (hd : decode cc pc = .ok (.isub, 1)) (kk : jW X nL k n ws lc (pc + 1) (vI (a - b) :: st)) : jW X nL k n ws lc pc (vI b :: vI a :: st) := by
  obtain ⟨p, l, e, R, s, m, args, below, meth, c, Q, D', Y', A, H0, RO'⟩ := X
  obtain ⟨⟨hx, hb, hml, hown, hts⟩, hK, hA, ⟨rfl, rfl, rfl, rfl⟩, hR, hRA, hN⟩ := C
  intro H locs ls hP hD hS hl
  exact lv_isub hx hb hd (by rw [← Int32.ofInt_sub]; exact (kk H locs ls hP hD hS hl))
theorem j_lsub (C : jC X cc nL own Ts rm D Y RO) {a b : Int} (hd : decode cc pc = .ok (.lsub, 1)) (kk : jW X nL k n ws lc (pc + 1) (vL (a - b) :: st)) : jW X nL k n ws lc pc (vL b :: vL a :: st) := by
  obtain ⟨p, l, e, R, s, m, args, below, meth, c, Q, D', Y', A, H0, RO'⟩ := X
  obtain ⟨⟨hx, hb, hml, hown, hts⟩, hK, hA, ⟨rfl, rfl, rfl, rfl⟩, hR, hRA, hN⟩ := C
  intro H locs ls hP hD hS hl
  exact lv_lsub hx hb hd (by rw [← Int64.ofInt_sub]; exact (kk H locs ls hP hD hS hl))
theorem j_imul (C : jC X cc nL own Ts rm D Y RO) {a b : Int} (hd : decode cc pc = .ok (.imul, 1)) (kk : jW X nL k n ws lc (pc + 1) (vI (a * b) :: st)) : jW X nL k n ws lc pc (vI b :: vI a :: st) := by
  obtain ⟨p, l, e, R, s, m, args, below, meth, c, Q, D', Y', A, H0, RO'⟩ := X
  obtain ⟨⟨hx, hb, hml, hown, hts⟩, hK, hA, ⟨rfl, rfl, rfl, rfl⟩, hR, hRA, hN⟩ := C
  intro H locs ls hP hD hS hl
  exact lv_imul hx hb hd (by rw [← Int32.ofInt_mul]; exact (kk H locs ls hP hD hS hl))
theorem j_lmul (C : jC X cc nL own Ts rm D Y RO) {a b : Int} (hd : decode cc pc = .ok (.lmul, 1)) (kk : jW X nL k n ws lc (pc + 1) (vL (a * b) :: st)) : jW X nL k n ws lc pc (vL b :: vL a :: st) := by
  obtain ⟨p, l, e, R, s, m, args, below, meth, c, Q, D', Y', A, H0, RO'⟩ := X
  obtain ⟨⟨hx, hb, hml, hown, hts⟩, hK, hA, ⟨rfl, rfl, rfl, rfl⟩, hR, hRA, hN⟩ := C
  intro H locs ls hP hD hS hl
  exact lv_lmul hx hb hd (by rw [← Int64.ofInt_mul]; exact (kk H locs ls hP hD hS hl))
theorem j_ineg (C : jC X cc nL own Ts rm D Y RO) {a : Int} (hd : decode cc pc = .ok (.ineg, 1)) (kk : jW X nL k n ws lc (pc + 1) (vI (-a) :: st)) : jW X nL k n ws lc pc (vI a :: st) := by
  obtain ⟨p, l, e, R, s, m, args, below, meth, c, Q, D', Y', A, H0, RO'⟩ := X
  obtain ⟨⟨hx, hb, hml, hown, hts⟩, hK, hA, ⟨rfl, rfl, rfl, rfl⟩, hR, hRA, hN⟩ := C
  intro H locs ls hP hD hS hl
  exact lv_ineg hx hb hd (by rw [← Int32.ofInt_neg]; exact (kk H locs ls hP hD hS hl))
theorem j_idiv (C : jC X cc nL own Ts rm D Y RO) {a b : Int} (h : 0 ≤ a ∧ a ≤ 2147483647 ∧ 0 < b ∧ b ≤ 2147483647) (hd : decode cc pc = .ok (.idiv, 1)) (kk : jW X nL k n ws lc (pc + 1) (vI (a / b) :: st)) : jW X nL k n ws lc pc (vI b :: vI a :: st) := by
  obtain ⟨p, l, e, R, s, m, args, below, meth, c, Q, D', Y', A, H0, RO'⟩ := X
  obtain ⟨⟨hx, hb, hml, hown, hts⟩, hK, hA, ⟨rfl, rfl, rfl, rfl⟩, hR, hRA, hN⟩ := C
  intro H locs ls hP hD hS hl
  exact lv_idiv hx hb hd (nj_nz32 (by omega)) (by rw [nj_div h]; exact (kk H locs ls hP hD hS hl))
theorem j_irem (C : jC X cc nL own Ts rm D Y RO) {a b : Int} (h : 0 ≤ a ∧ a ≤ 2147483647 ∧ 0 < b ∧ b ≤ 2147483647) (hd : decode cc pc = .ok (.irem, 1)) (kk : jW X nL k n ws lc (pc + 1) (vI (a % b) :: st)) : jW X nL k n ws lc pc (vI b :: vI a :: st) := by
  obtain ⟨p, l, e, R, s, m, args, below, meth, c, Q, D', Y', A, H0, RO'⟩ := X
  obtain ⟨⟨hx, hb, hml, hown, hts⟩, hK, hA, ⟨rfl, rfl, rfl, rfl⟩, hR, hRA, hN⟩ := C
  intro H locs ls hP hD hS hl
  exact lv_irem hx hb hd (nj_nz32 (by omega)) (by rw [nj_rem h]; exact (kk H locs ls hP hD hS hl))
theorem j_ldiv (C : jC X cc nL own Ts rm D Y RO) {a b : Int} (h : 0 ≤ a ∧ a ≤ 9223372036854775807 ∧ 0 < b ∧ b ≤ 9223372036854775807) (hd : decode cc pc = .ok (.ldiv, 1)) (kk : jW X nL k n ws lc (pc + 1) (vL (a / b) :: st)) : jW X nL k n ws lc pc (vL b :: vL a :: st) := by
  obtain ⟨p, l, e, R, s, m, args, below, meth, c, Q, D', Y', A, H0, RO'⟩ := X
  obtain ⟨⟨hx, hb, hml, hown, hts⟩, hK, hA, ⟨rfl, rfl, rfl, rfl⟩, hR, hRA, hN⟩ := C
  intro H locs ls hP hD hS hl
  exact lv_ldiv hx hb hd (nj_nz64 (by omega)) (by rw [nj_ldiv h]; exact (kk H locs ls hP hD hS hl))
theorem j_lrem (C : jC X cc nL own Ts rm D Y RO) {a b : Int} (h : 0 ≤ a ∧ a ≤ 9223372036854775807 ∧ 0 < b ∧ b ≤ 9223372036854775807) (hd : decode cc pc = .ok (.lrem, 1)) (kk : jW X nL k n ws lc (pc + 1) (vL (a % b) :: st)) : jW X nL k n ws lc pc (vL b :: vL a :: st) := by
  obtain ⟨p, l, e, R, s, m, args, below, meth, c, Q, D', Y', A, H0, RO'⟩ := X
  obtain ⟨⟨hx, hb, hml, hown, hts⟩, hK, hA, ⟨rfl, rfl, rfl, rfl⟩, hR, hRA, hN⟩ := C
  intro H locs ls hP hD hS hl
  exact lv_lrem hx hb hd (nj_nz64 (by omega)) (by rw [nj_lrem h]; exact (kk H locs ls hP hD hS hl))
theorem j_i2l (C : jC X cc nL own Ts rm D Y RO) {a : Int} (h : -2147483648 ≤ a ∧ a ≤ 2147483647) (hd : decode cc pc = .ok (.i2l, 1)) (kk : jW X nL k n ws lc (pc + 1) (vL a :: st)) : jW X nL k n ws lc pc (vI a :: st) := by
  obtain ⟨p, l, e, R, s, m, args, below, meth, c, Q, D', Y', A, H0, RO'⟩ := X
  obtain ⟨⟨hx, hb, hml, hown, hts⟩, hK, hA, ⟨rfl, rfl, rfl, rfl⟩, hR, hRA, hN⟩ := C
  intro H locs ls hP hD hS hl
  exact lv_i2l hx hb hd (nj_i2l h) (kk H locs ls hP hD hS hl)
theorem j_l2i (C : jC X cc nL own Ts rm D Y RO) {a : Int} (hd : decode cc pc = .ok (.l2i, 1)) (kk : jW X nL k n ws lc (pc + 1) (vI a :: st)) : jW X nL k n ws lc pc (vL a :: st) := by
  obtain ⟨p, l, e, R, s, m, args, below, meth, c, Q, D', Y', A, H0, RO'⟩ := X
  obtain ⟨⟨hx, hb, hml, hown, hts⟩, hK, hA, ⟨rfl, rfl, rfl, rfl⟩, hR, hRA, hN⟩ := C
  intro H locs ls hP hD hS hl
  exact lv_l2i hx hb hd Int64.toInt32_ofInt (kk H locs ls hP hD hS hl)
theorem j_dup (C : jC X cc nL own Ts rm D Y RO) {v : Value} (hv : v.category = 1) (hd : decode cc pc = .ok (.dup, 1)) (kk : jW X nL k n ws lc (pc + 1) (v :: v :: st)) : jW X nL k n ws lc pc (v :: st) := by
  obtain ⟨p, l, e, R, s, m, args, below, meth, c, Q, D', Y', A, H0, RO'⟩ := X
  obtain ⟨⟨hx, hb, hml, hown, hts⟩, hK, hA, ⟨rfl, rfl, rfl, rfl⟩, hR, hRA, hN⟩ := C
  intro H locs ls hP hD hS hl
  exact lv_dup hx hb hd hv (kk H locs ls hP hD hS hl)
theorem j_dup2 (C : jC X cc nL own Ts rm D Y RO) {v w : Value} (hv : v.category = 1) (hw : w.category = 1) (hd : decode cc pc = .ok (.dup2, 1)) (kk : jW X nL k n ws lc (pc + 1) (v :: w :: v :: w :: st)) : jW X nL k n ws lc pc (v :: w :: st) := by
  obtain ⟨p, l, e, R, s, m, args, below, meth, c, Q, D', Y', A, H0, RO'⟩ := X
  obtain ⟨⟨hx, hb, hml, hown, hts⟩, hK, hA, ⟨rfl, rfl, rfl, rfl⟩, hR, hRA, hN⟩ := C
  intro H locs ls hP hD hS hl
  exact lv_dup2_11 hx hb hd hv hw (kk H locs ls hP hD hS hl)
theorem j_iand (C : jC X cc nL own Ts rm D Y RO) {a b : Int} (hd : decode cc pc = .ok (.iand, 1)) (kk : jW X nL k n ws lc (pc + 1) (vI (andI a b) :: st)) : jW X nL k n ws lc pc (vI b :: vI a :: st) := by
  obtain ⟨p, l, e, R, s, m, args, below, meth, c, Q, D', Y', A, H0, RO'⟩ := X
  obtain ⟨⟨hx, hb, hml, hown, hts⟩, hK, hA, ⟨rfl, rfl, rfl, rfl⟩, hR, hRA, hN⟩ := C
  intro H locs ls hP hD hS hl
  exact lv_iand hx hb hd (by rw [show Int32.ofInt a &&& Int32.ofInt b = Int32.ofInt (andI a b) from (Int32.ofInt_toInt _).symm]; exact (kk H locs ls hP hD hS hl))
theorem j_ior (C : jC X cc nL own Ts rm D Y RO) {a b : Int} (hd : decode cc pc = .ok (.ior, 1)) (kk : jW X nL k n ws lc (pc + 1) (vI (orI a b) :: st)) : jW X nL k n ws lc pc (vI b :: vI a :: st) := by
  obtain ⟨p, l, e, R, s, m, args, below, meth, c, Q, D', Y', A, H0, RO'⟩ := X
  obtain ⟨⟨hx, hb, hml, hown, hts⟩, hK, hA, ⟨rfl, rfl, rfl, rfl⟩, hR, hRA, hN⟩ := C
  intro H locs ls hP hD hS hl
  exact lv_ior hx hb hd (by rw [show Int32.ofInt a ||| Int32.ofInt b = Int32.ofInt (orI a b) from (Int32.ofInt_toInt _).symm]; exact (kk H locs ls hP hD hS hl))
theorem j_ishl (C : jC X cc nL own Ts rm D Y RO) {a b : Int} (hd : decode cc pc = .ok (.ishl, 1)) (kk : jW X nL k n ws lc (pc + 1) (vI (shlI a b) :: st)) : jW X nL k n ws lc pc (vI b :: vI a :: st) := by
  obtain ⟨p, l, e, R, s, m, args, below, meth, c, Q, D', Y', A, H0, RO'⟩ := X
  obtain ⟨⟨hx, hb, hml, hown, hts⟩, hK, hA, ⟨rfl, rfl, rfl, rfl⟩, hR, hRA, hN⟩ := C
  intro H locs ls hP hD hS hl
  exact lv_ishl hx hb hd (by rw [show Int32.ofInt a <<< (Int32.ofInt b &&& 31) = Int32.ofInt (shlI a b) from (Int32.ofInt_toInt _).symm]; exact (kk H locs ls hP hD hS hl))
theorem j_ishr (C : jC X cc nL own Ts rm D Y RO) {a b : Int} (hd : decode cc pc = .ok (.ishr, 1)) (kk : jW X nL k n ws lc (pc + 1) (vI (shrI a b) :: st)) : jW X nL k n ws lc pc (vI b :: vI a :: st) := by
  obtain ⟨p, l, e, R, s, m, args, below, meth, c, Q, D', Y', A, H0, RO'⟩ := X
  obtain ⟨⟨hx, hb, hml, hown, hts⟩, hK, hA, ⟨rfl, rfl, rfl, rfl⟩, hR, hRA, hN⟩ := C
  intro H locs ls hP hD hS hl
  exact lv_ishr hx hb hd (by rw [show Int32.ofInt a >>> (Int32.ofInt b &&& 31) = Int32.ofInt (shrI a b) from (Int32.ofInt_toInt _).symm]; exact (kk H locs ls hP hD hS hl))
theorem j_i2b (C : jC X cc nL own Ts rm D Y RO) {a : Int} (hd : decode cc pc = .ok (.i2b, 1)) (kk : jW X nL k n ws lc (pc + 1) (vI (i2bI a) :: st)) : jW X nL k n ws lc pc (vI a :: st) := by
  obtain ⟨p, l, e, R, s, m, args, below, meth, c, Q, D', Y', A, H0, RO'⟩ := X
  obtain ⟨⟨hx, hb, hml, hown, hts⟩, hK, hA, ⟨rfl, rfl, rfl, rfl⟩, hR, hRA, hN⟩ := C
  intro H locs ls hP hD hS hl
  exact lv_i2b hx hb hd (Int32.ofInt_toInt _).symm (kk H locs ls hP hD hS hl)
theorem j_land (C : jC X cc nL own Ts rm D Y RO) {a b : Int} (hd : decode cc pc = .ok (.land, 1)) (kk : jW X nL k n ws lc (pc + 1) (vL (landI a b) :: st)) : jW X nL k n ws lc pc (vL b :: vL a :: st) := by
  obtain ⟨p, l, e, R, s, m, args, below, meth, c, Q, D', Y', A, H0, RO'⟩ := X
  obtain ⟨⟨hx, hb, hml, hown, hts⟩, hK, hA, ⟨rfl, rfl, rfl, rfl⟩, hR, hRA, hN⟩ := C
  intro H locs ls hP hD hS hl
  exact lv_land hx hb hd (by rw [show Int64.ofInt a &&& Int64.ofInt b = Int64.ofInt (landI a b) from (Int64.ofInt_toInt _).symm]; exact (kk H locs ls hP hD hS hl))
theorem j_lor (C : jC X cc nL own Ts rm D Y RO) {a b : Int} (hd : decode cc pc = .ok (.lor, 1)) (kk : jW X nL k n ws lc (pc + 1) (vL (lorI a b) :: st)) : jW X nL k n ws lc pc (vL b :: vL a :: st) := by
  obtain ⟨p, l, e, R, s, m, args, below, meth, c, Q, D', Y', A, H0, RO'⟩ := X
  obtain ⟨⟨hx, hb, hml, hown, hts⟩, hK, hA, ⟨rfl, rfl, rfl, rfl⟩, hR, hRA, hN⟩ := C
  intro H locs ls hP hD hS hl
  exact lv_lor hx hb hd (by rw [show Int64.ofInt a ||| Int64.ofInt b = Int64.ofInt (lorI a b) from (Int64.ofInt_toInt _).symm]; exact (kk H locs ls hP hD hS hl))
theorem j_lushr (C : jC X cc nL own Ts rm D Y RO) {a b : Int} (hd : decode cc pc = .ok (.lushr, 1)) (kk : jW X nL k n ws lc (pc + 1) (vL (lushrI a b) :: st)) : jW X nL k n ws lc pc (vI b :: vL a :: st) := by
  obtain ⟨p, l, e, R, s, m, args, below, meth, c, Q, D', Y', A, H0, RO'⟩ := X
  obtain ⟨⟨hx, hb, hml, hown, hts⟩, hK, hA, ⟨rfl, rfl, rfl, rfl⟩, hR, hRA, hN⟩ := C
  intro H locs ls hP hD hS hl
  exact lv_lushr hx hb hd (Int64.ofInt_toInt _).symm (kk H locs ls hP hD hS hl)
theorem j_lshr (C : jC X cc nL own Ts rm D Y RO) {a b : Int} (hd : decode cc pc = .ok (.lshr, 1)) (kk : jW X nL k n ws lc (pc + 1) (vL (lshrI a b) :: st)) : jW X nL k n ws lc pc (vI b :: vL a :: st) := by
  obtain ⟨p, l, e, R, s, m, args, below, meth, c, Q, D', Y', A, H0, RO'⟩ := X
  obtain ⟨⟨hx, hb, hml, hown, hts⟩, hK, hA, ⟨rfl, rfl, rfl, rfl⟩, hR, hRA, hN⟩ := C
  intro H locs ls hP hD hS hl
  exact lv_lshr hx hb hd (Int64.ofInt_toInt _).symm (kk H locs ls hP hD hS hl)
theorem j_lshl (C : jC X cc nL own Ts rm D Y RO) {a b : Int} (hd : decode cc pc = .ok (.lshl, 1)) (kk : jW X nL k n ws lc (pc + 1) (vL (lshlI a b) :: st)) : jW X nL k n ws lc pc (vI b :: vL a :: st) := by
  obtain ⟨p, l, e, R, s, m, args, below, meth, c, Q, D', Y', A, H0, RO'⟩ := X
  obtain ⟨⟨hx, hb, hml, hown, hts⟩, hK, hA, ⟨rfl, rfl, rfl, rfl⟩, hR, hRA, hN⟩ := C
  intro H locs ls hP hD hS hl
  exact lv_lshl hx hb hd (Int64.ofInt_toInt _).symm (kk H locs ls hP hD hS hl)
theorem j_lcmp (C : jC X cc nL own Ts rm D Y RO) {a b : Int} (h : (-9223372036854775808 ≤ a ∧ a ≤ 9223372036854775807) ∧ (-9223372036854775808 ≤ b ∧ b ≤ 9223372036854775807)) (hd : decode cc pc = .ok (.lcmp, 1)) (kk : jW X nL k n ws lc (pc + 1) (vI (cmpI a b) :: st)) : jW X nL k n ws lc pc (vL b :: vL a :: st) := by
  obtain ⟨p, l, e, R, s, m, args, below, meth, c, Q, D', Y', A, H0, RO'⟩ := X
  obtain ⟨⟨hx, hb, hml, hown, hts⟩, hK, hA, ⟨rfl, rfl, rfl, rfl⟩, hR, hRA, hN⟩ := C
  intro H locs ls hP hD hS hl
  exact W.lcmp hx hb hd (by rw [nj_cmp h]; exact (kk H locs ls hP hD hS hl))
theorem j_iinc (C : jC X cc nL own Ts rm D Y RO) {i : Nat} {a d : Int} {lc' : List (Nat × Value)} (q : Nat) (hq : lc[q]? = some (i, vI a)) (hn : i < nL) (hl' : (i, vI (a + d)) :: lc.filter (fun q => !(q.1 == i) && !(q.1 + 1 == i && q.2.category == 2)) = lc') (hd : decode cc pc = .ok (.iinc i d, 3)) (kk : jW X nL k n ws lc' (pc + 3) st) : jW X nL k n ws lc pc st := by
  obtain ⟨p, l, e, R, s, m, args, below, meth, c, Q, D', Y', A, H0, RO'⟩ := X
  obtain ⟨⟨hx, hb, hml, hown, hts⟩, hK, hA, ⟨rfl, rfl, rfl, rfl⟩, hR, hRA, hN⟩ := C
  intro H locs ls hP hD hS hl
  exact lv_iinc hx hb hd hl hq (Int32.ofInt_add a d).symm hn hl' (fun ls hl => kk H locs ls hP hD hS hl)
theorem j_goto (C : jC X cc nL own Ts rm D Y RO) {off : Int} (tgt : Nat) (ht : (pc : Int) + off = (tgt : Int)) (hd : decode cc pc = .ok (.goto off, 3)) (kk : jW X nL k n ws lc tgt st) : jW X nL k n ws lc pc st := by
  obtain ⟨p, l, e, R, s, m, args, below, meth, c, Q, D', Y', A, H0, RO'⟩ := X
  obtain ⟨⟨hx, hb, hml, hown, hts⟩, hK, hA, ⟨rfl, rfl, rfl, rfl⟩, hR, hRA, hN⟩ := C
  intro H locs ls hP hD hS hl
  exact lv_goto hx hb hd ht (kk H locs ls hP hD hS hl)
theorem j_icmp_eq (C : jC X cc nL own Ts rm D Y RO) {a b off : Int} (tgt : Nat) (ht : (pc : Int) + off = (tgt : Int)) (hr : (-2147483648 ≤ a ∧ a ≤ 2147483647) ∧ (-2147483648 ≤ b ∧ b ≤ 2147483647)) (hd : decode cc pc = .ok (.if_icmp .eq off, 3)) (kt : a = b → jW X nL k n ws lc tgt st) (kf : ¬ a = b → jW X nL k n ws lc (pc + 3) st) : jW X nL k n ws lc pc (vI b :: vI a :: st) := by
  obtain ⟨p, l, e, R, s, m, args, below, meth, c, Q, D', Y', A, H0, RO'⟩ := X
  obtain ⟨⟨hx, hb, hml, hown, hts⟩, hK, hA, ⟨rfl, rfl, rfl, rfl⟩, hR, hRA, hN⟩ := C
  intro H locs ls hP hD hS hl
  exact lv_icmp_eq hx hb hd ht (fun h => kt (nj_eqT hr h) H locs ls hP hD hS hl) (fun h => kf (nj_eqF hr h) H locs ls hP hD hS hl)
theorem j_if_eq (C : jC X cc nL own Ts rm D Y RO) {a off : Int} (tgt : Nat) (ht : (pc : Int) + off = (tgt : Int)) (hr : -2147483648 ≤ a ∧ a ≤ 2147483647) (hd : decode cc pc = .ok (.ifCond .eq off, 3)) (kt : a = 0 → jW X nL k n ws lc tgt st) (kf : ¬ a = 0 → jW X nL k n ws lc (pc + 3) st) : jW X nL k n ws lc pc (vI a :: st) := by
  obtain ⟨p, l, e, R, s, m, args, below, meth, c, Q, D', Y', A, H0, RO'⟩ := X
  obtain ⟨⟨hx, hb, hml, hown, hts⟩, hK, hA, ⟨rfl, rfl, rfl, rfl⟩, hR, hRA, hN⟩ := C
  intro H locs ls hP hD hS hl
  exact lv_if_eq hx hb hd ht (fun h => kt (nj_eqT ⟨hr, by decide⟩ h) H locs ls hP hD hS hl) (fun h => kf (nj_eqF ⟨hr, by decide⟩ h) H locs ls hP hD hS hl)
theorem j_icmp_ne (C : jC X cc nL own Ts rm D Y RO) {a b off : Int} (tgt : Nat) (ht : (pc : Int) + off = (tgt : Int)) (hr : (-2147483648 ≤ a ∧ a ≤ 2147483647) ∧ (-2147483648 ≤ b ∧ b ≤ 2147483647)) (hd : decode cc pc = .ok (.if_icmp .ne off, 3)) (kt : ¬ a = b → jW X nL k n ws lc tgt st) (kf : a = b → jW X nL k n ws lc (pc + 3) st) : jW X nL k n ws lc pc (vI b :: vI a :: st) := by
  obtain ⟨p, l, e, R, s, m, args, below, meth, c, Q, D', Y', A, H0, RO'⟩ := X
  obtain ⟨⟨hx, hb, hml, hown, hts⟩, hK, hA, ⟨rfl, rfl, rfl, rfl⟩, hR, hRA, hN⟩ := C
  intro H locs ls hP hD hS hl
  exact lv_icmp_ne hx hb hd ht (fun h => kt (nj_neT hr h) H locs ls hP hD hS hl) (fun h => kf (nj_neF hr h) H locs ls hP hD hS hl)
theorem j_if_ne (C : jC X cc nL own Ts rm D Y RO) {a off : Int} (tgt : Nat) (ht : (pc : Int) + off = (tgt : Int)) (hr : -2147483648 ≤ a ∧ a ≤ 2147483647) (hd : decode cc pc = .ok (.ifCond .ne off, 3)) (kt : ¬ a = 0 → jW X nL k n ws lc tgt st) (kf : a = 0 → jW X nL k n ws lc (pc + 3) st) : jW X nL k n ws lc pc (vI a :: st) := by
  obtain ⟨p, l, e, R, s, m, args, below, meth, c, Q, D', Y', A, H0, RO'⟩ := X
  obtain ⟨⟨hx, hb, hml, hown, hts⟩, hK, hA, ⟨rfl, rfl, rfl, rfl⟩, hR, hRA, hN⟩ := C
  intro H locs ls hP hD hS hl
  exact lv_if_ne hx hb hd ht (fun h => kt (nj_neT ⟨hr, by decide⟩ h) H locs ls hP hD hS hl) (fun h => kf (nj_neF ⟨hr, by decide⟩ h) H locs ls hP hD hS hl)
theorem j_icmp_lt (C : jC X cc nL own Ts rm D Y RO) {a b off : Int} (tgt : Nat) (ht : (pc : Int) + off = (tgt : Int)) (hr : (-2147483648 ≤ a ∧ a ≤ 2147483647) ∧ (-2147483648 ≤ b ∧ b ≤ 2147483647)) (hd : decode cc pc = .ok (.if_icmp .lt off, 3)) (kt : a < b → jW X nL k n ws lc tgt st) (kf : b ≤ a → jW X nL k n ws lc (pc + 3) st) : jW X nL k n ws lc pc (vI b :: vI a :: st) := by
  obtain ⟨p, l, e, R, s, m, args, below, meth, c, Q, D', Y', A, H0, RO'⟩ := X
  obtain ⟨⟨hx, hb, hml, hown, hts⟩, hK, hA, ⟨rfl, rfl, rfl, rfl⟩, hR, hRA, hN⟩ := C
  intro H locs ls hP hD hS hl
  exact lv_icmp_lt hx hb hd ht (fun h => kt (nj_ltT hr h) H locs ls hP hD hS hl) (fun h => kf (nj_ltF hr h) H locs ls hP hD hS hl)
theorem j_if_lt (C : jC X cc nL own Ts rm D Y RO) {a off : Int} (tgt : Nat) (ht : (pc : Int) + off = (tgt : Int)) (hr : -2147483648 ≤ a ∧ a ≤ 2147483647) (hd : decode cc pc = .ok (.ifCond .lt off, 3)) (kt : a < 0 → jW X nL k n ws lc tgt st) (kf : 0 ≤ a → jW X nL k n ws lc (pc + 3) st) : jW X nL k n ws lc pc (vI a :: st) := by
  obtain ⟨p, l, e, R, s, m, args, below, meth, c, Q, D', Y', A, H0, RO'⟩ := X
  obtain ⟨⟨hx, hb, hml, hown, hts⟩, hK, hA, ⟨rfl, rfl, rfl, rfl⟩, hR, hRA, hN⟩ := C
  intro H locs ls hP hD hS hl
  exact lv_if_lt hx hb hd ht (fun h => kt (nj_ltT ⟨hr, by decide⟩ h) H locs ls hP hD hS hl) (fun h => kf (nj_ltF ⟨hr, by decide⟩ h) H locs ls hP hD hS hl)
theorem j_icmp_ge (C : jC X cc nL own Ts rm D Y RO) {a b off : Int} (tgt : Nat) (ht : (pc : Int) + off = (tgt : Int)) (hr : (-2147483648 ≤ a ∧ a ≤ 2147483647) ∧ (-2147483648 ≤ b ∧ b ≤ 2147483647)) (hd : decode cc pc = .ok (.if_icmp .ge off, 3)) (kt : b ≤ a → jW X nL k n ws lc tgt st) (kf : a < b → jW X nL k n ws lc (pc + 3) st) : jW X nL k n ws lc pc (vI b :: vI a :: st) := by
  obtain ⟨p, l, e, R, s, m, args, below, meth, c, Q, D', Y', A, H0, RO'⟩ := X
  obtain ⟨⟨hx, hb, hml, hown, hts⟩, hK, hA, ⟨rfl, rfl, rfl, rfl⟩, hR, hRA, hN⟩ := C
  intro H locs ls hP hD hS hl
  exact lv_icmp_ge hx hb hd ht (fun h => kt (nj_geT hr h) H locs ls hP hD hS hl) (fun h => kf (nj_geF hr h) H locs ls hP hD hS hl)
theorem j_if_ge (C : jC X cc nL own Ts rm D Y RO) {a off : Int} (tgt : Nat) (ht : (pc : Int) + off = (tgt : Int)) (hr : -2147483648 ≤ a ∧ a ≤ 2147483647) (hd : decode cc pc = .ok (.ifCond .ge off, 3)) (kt : 0 ≤ a → jW X nL k n ws lc tgt st) (kf : a < 0 → jW X nL k n ws lc (pc + 3) st) : jW X nL k n ws lc pc (vI a :: st) := by
  obtain ⟨p, l, e, R, s, m, args, below, meth, c, Q, D', Y', A, H0, RO'⟩ := X
  obtain ⟨⟨hx, hb, hml, hown, hts⟩, hK, hA, ⟨rfl, rfl, rfl, rfl⟩, hR, hRA, hN⟩ := C
  intro H locs ls hP hD hS hl
  exact lv_if_ge hx hb hd ht (fun h => kt (nj_geT ⟨hr, by decide⟩ h) H locs ls hP hD hS hl) (fun h => kf (nj_geF ⟨hr, by decide⟩ h) H locs ls hP hD hS hl)
theorem j_icmp_gt (C : jC X cc nL own Ts rm D Y RO) {a b off : Int} (tgt : Nat) (ht : (pc : Int) + off = (tgt : Int)) (hr : (-2147483648 ≤ a ∧ a ≤ 2147483647) ∧ (-2147483648 ≤ b ∧ b ≤ 2147483647)) (hd : decode cc pc = .ok (.if_icmp .gt off, 3)) (kt : b < a → jW X nL k n ws lc tgt st) (kf : a ≤ b → jW X nL k n ws lc (pc + 3) st) : jW X nL k n ws lc pc (vI b :: vI a :: st) := by
  obtain ⟨p, l, e, R, s, m, args, below, meth, c, Q, D', Y', A, H0, RO'⟩ := X
  obtain ⟨⟨hx, hb, hml, hown, hts⟩, hK, hA, ⟨rfl, rfl, rfl, rfl⟩, hR, hRA, hN⟩ := C
  intro H locs ls hP hD hS hl
  exact lv_icmp_gt hx hb hd ht (fun h => kt (nj_gtT hr h) H locs ls hP hD hS hl) (fun h => kf (nj_gtF hr h) H locs ls hP hD hS hl)
theorem j_if_gt (C : jC X cc nL own Ts rm D Y RO) {a off : Int} (tgt : Nat) (ht : (pc : Int) + off = (tgt : Int)) (hr : -2147483648 ≤ a ∧ a ≤ 2147483647) (hd : decode cc pc = .ok (.ifCond .gt off, 3)) (kt : 0 < a → jW X nL k n ws lc tgt st) (kf : a ≤ 0 → jW X nL k n ws lc (pc + 3) st) : jW X nL k n ws lc pc (vI a :: st) := by
  obtain ⟨p, l, e, R, s, m, args, below, meth, c, Q, D', Y', A, H0, RO'⟩ := X
  obtain ⟨⟨hx, hb, hml, hown, hts⟩, hK, hA, ⟨rfl, rfl, rfl, rfl⟩, hR, hRA, hN⟩ := C
  intro H locs ls hP hD hS hl
  exact lv_if_gt hx hb hd ht (fun h => kt (nj_gtT ⟨hr, by decide⟩ h) H locs ls hP hD hS hl) (fun h => kf (nj_gtF ⟨hr, by decide⟩ h) H locs ls hP hD hS hl)
theorem j_icmp_le (C : jC X cc nL own Ts rm D Y RO) {a b off : Int} (tgt : Nat) (ht : (pc : Int) + off = (tgt : Int)) (hr : (-2147483648 ≤ a ∧ a ≤ 2147483647) ∧ (-2147483648 ≤ b ∧ b ≤ 2147483647)) (hd : decode cc pc = .ok (.if_icmp .le off, 3)) (kt : a ≤ b → jW X nL k n ws lc tgt st) (kf : b < a → jW X nL k n ws lc (pc + 3) st) : jW X nL k n ws lc pc (vI b :: vI a :: st) := by
  obtain ⟨p, l, e, R, s, m, args, below, meth, c, Q, D', Y', A, H0, RO'⟩ := X
  obtain ⟨⟨hx, hb, hml, hown, hts⟩, hK, hA, ⟨rfl, rfl, rfl, rfl⟩, hR, hRA, hN⟩ := C
  intro H locs ls hP hD hS hl
  exact lv_icmp_le hx hb hd ht (fun h => kt (nj_leT hr h) H locs ls hP hD hS hl) (fun h => kf (nj_leF hr h) H locs ls hP hD hS hl)
theorem j_if_le (C : jC X cc nL own Ts rm D Y RO) {a off : Int} (tgt : Nat) (ht : (pc : Int) + off = (tgt : Int)) (hr : -2147483648 ≤ a ∧ a ≤ 2147483647) (hd : decode cc pc = .ok (.ifCond .le off, 3)) (kt : a ≤ 0 → jW X nL k n ws lc tgt st) (kf : 0 < a → jW X nL k n ws lc (pc + 3) st) : jW X nL k n ws lc pc (vI a :: st) := by
  obtain ⟨p, l, e, R, s, m, args, below, meth, c, Q, D', Y', A, H0, RO'⟩ := X
  obtain ⟨⟨hx, hb, hml, hown, hts⟩, hK, hA, ⟨rfl, rfl, rfl, rfl⟩, hR, hRA, hN⟩ := C
  intro H locs ls hP hD hS hl
  exact lv_if_le hx hb hd ht (fun h => kt (nj_leT ⟨hr, by decide⟩ h) H locs ls hP hD hS hl) (fun h => kf (nj_leF ⟨hr, by decide⟩ h) H locs ls hP hD hS hl)
theorem j_if_eqb (C : jC X cc nL own Ts rm D Y RO) {P : Prop} [Decidable P] {off : Int} (tgt : Nat) (ht : (pc : Int) + off = (tgt : Int)) (hd : decode cc pc = .ok (.ifCond .eq off, 3)) (kt : ¬ P → jW X nL k n ws lc tgt st) (kf : P → jW X nL k n ws lc (pc + 3) st) : jW X nL k n ws lc pc (vI (if P then 1 else 0) :: st) := by
  refine j_if_eq C tgt ht (by split <;> decide) hd (fun h => kt ?_) (fun h => kf ?_)
  · by_cases q : P <;> simp_all
  · by_cases q : P <;> simp_all
theorem j_if_neb (C : jC X cc nL own Ts rm D Y RO) {P : Prop} [Decidable P] {off : Int} (tgt : Nat) (ht : (pc : Int) + off = (tgt : Int)) (hd : decode cc pc = .ok (.ifCond .ne off, 3)) (kt : P → jW X nL k n ws lc tgt st) (kf : ¬ P → jW X nL k n ws lc (pc + 3) st) : jW X nL k n ws lc pc (vI (if P then 1 else 0) :: st) := by
  refine j_if_ne C tgt ht (by split <;> decide) hd (fun h => kt ?_) (fun h => kf ?_)
  · by_cases q : P <;> simp_all
  · by_cases q : P <;> simp_all
theorem j_ifnull (C : jC X cc nL own Ts rm D Y RO) {a : Nat} {off : Int} (hd : decode cc pc = .ok (.ifnull off, 3)) (kk : jW X nL k n ws lc (pc + 3) st) : jW X nL k n ws lc pc (.ref a :: st) := by
  obtain ⟨p, l, e, R, s, m, args, below, meth, c, Q, D', Y', A, H0, RO'⟩ := X
  obtain ⟨⟨hx, hb, hml, hown, hts⟩, hK, hA, ⟨rfl, rfl, rfl, rfl⟩, hR, hRA, hN⟩ := C
  intro H locs ls hP hD hS hl
  exact lv_ifnull hx hb hd (kk H locs ls hP hD hS hl)
theorem j_ifnonnull (C : jC X cc nL own Ts rm D Y RO) {a : Nat} {off : Int} (tgt : Nat) (ht : (pc : Int) + off = (tgt : Int)) (hd : decode cc pc = .ok (.ifnonnull off, 3)) (kk : jW X nL k n ws lc tgt st) : jW X nL k n ws lc pc (.ref a :: st) := by
  obtain ⟨p, l, e, R, s, m, args, below, meth, c, Q, D', Y', A, H0, RO'⟩ := X
  obtain ⟨⟨hx, hb, hml, hown, hts⟩, hK, hA, ⟨rfl, rfl, rfl, rfl⟩, hR, hRA, hN⟩ := C
  intro H locs ls hP hD hS hl
  exact lv_ifnonnull hx hb hd ht (kk H locs ls hP hD hS hl)
theorem j_ifnullN (C : jC X cc nL own Ts rm D Y RO) {off : Int} (tgt : Nat) (ht : (pc : Int) + off = (tgt : Int)) (hd : decode cc pc = .ok (.ifnull off, 3)) (kk : jW X nL k n ws lc tgt st) : jW X nL k n ws lc pc (.null :: st) := by
  obtain ⟨p, l, e, R, s, m, args, below, meth, c, Q, D', Y', A, H0, RO'⟩ := X
  obtain ⟨⟨hx, hb, hml, hown, hts⟩, hK, hA, ⟨rfl, rfl, rfl, rfl⟩, hR, hRA, hN⟩ := C
  intro H locs ls hP hD hS hl
  exact lv_ifnullN hx hb hd ht (kk H locs ls hP hD hS hl)
theorem j_ifnonnullN (C : jC X cc nL own Ts rm D Y RO) {off : Int} (hd : decode cc pc = .ok (.ifnonnull off, 3)) (kk : jW X nL k n ws lc (pc + 3) st) : jW X nL k n ws lc pc (.null :: st) := by
  obtain ⟨p, l, e, R, s, m, args, below, meth, c, Q, D', Y', A, H0, RO'⟩ := X
  obtain ⟨⟨hx, hb, hml, hown, hts⟩, hK, hA, ⟨rfl, rfl, rfl, rfl⟩, hR, hRA, hN⟩ := C
  intro H locs ls hP hD hS hl
  exact lv_ifnonnullN hx hb hd (kk H locs ls hP hD hS hl)
theorem j_astore_nN (C : jC X cc nL own Ts rm D Y RO) {f : Fin 4} {lc' : List (Nat × Value)} (i : Nat) (hi : (f : Nat) = i) (hn : i < nL) (hl' : (i, Value.null) :: lc.filter (fun q => !(q.1 == i) && !(q.1 + 1 == i && q.2.category == 2)) = lc') (hd : decode cc pc = .ok (.astore_n f, 1)) (kk : jW X nL k n ws lc' (pc + 1) st) : jW X nL k n ws lc pc (.null :: st) := by
  obtain ⟨p, l, e, R, s, m, args, below, meth, c, Q, D', Y', A, H0, RO'⟩ := X
  obtain ⟨⟨hx, hb, hml, hown, hts⟩, hK, hA, ⟨rfl, rfl, rfl, rfl⟩, hR, hRA, hN⟩ := C
  intro H locs ls hP hD hS hl
  exact lv_astore_nN hx hb hd hi hl hn hl' (fun ls hl => kk H locs ls hP hD hS hl)
theorem j_astoreN (C : jC X cc nL own Ts rm D Y RO) {lc' : List (Nat × Value)} {i : Nat} (hn : i < nL) (hl' : (i, Value.null) :: lc.filter (fun q => !(q.1 == i) && !(q.1 + 1 == i && q.2.category == 2)) = lc') (hd : decode cc pc = .ok (.astore i, 2)) (kk : jW X nL k n ws lc' (pc + 2) st) : jW X nL k n ws lc pc (.null :: st) := by
  obtain ⟨p, l, e, R, s, m, args, below, meth, c, Q, D', Y', A, H0, RO'⟩ := X
  obtain ⟨⟨hx, hb, hml, hown, hts⟩, hK, hA, ⟨rfl, rfl, rfl, rfl⟩, hR, hRA, hN⟩ := C
  intro H locs ls hP hD hS hl
  exact lv_astoreN hx hb hd hl hn hl' (fun ls hl => kk H locs ls hP hD hS hl)
theorem j_tableC (C : jC X cc nL own Ts rm D Y RO) {dflt lo hi a : Int} {offs : Array Int} {len : Nat} {off : Int} (v : Int) (tgt : Nat) (h : a = v) (hr : (-2147483648 ≤ v ∧ v ≤ 2147483647) ∧ lo ≤ v ∧ v ≤ hi) (ho : offs[(v - lo).toNat]? = some off) (ht : (pc : Int) + off = (tgt : Int)) (hd : decode cc pc = .ok (.tableswitch dflt lo hi offs, len)) (kk : jW X nL k n ws lc tgt st) : jW X nL k n ws lc pc (vI a :: st) := by
  obtain ⟨p, l, e, R, s, m, args, below, meth, c, Q, D', Y', A, H0, RO'⟩ := X
  obtain ⟨⟨hx, hb, hml, hown, hts⟩, hK, hA, ⟨rfl, rfl, rfl, rfl⟩, hR, hRA, hN⟩ := C
  intro H locs ls hP hD hS hl
  subst h
  have e : (Int32.ofInt a).toInt = a := Int32.toInt_ofInt_of_le (by omega) (by omega)
  exact lv_tableIn hx hb hd (by rw [e]; omega) (by rw [e]; omega) (by rw [e]; exact ho) ht (kk H locs ls hP hD hS hl)
theorem j_tableD (C : jC X cc nL own Ts rm D Y RO) {dflt lo hi a : Int} {offs : Array Int} {len : Nat} (tgt : Nat) (hr : -2147483648 ≤ a ∧ a ≤ 2147483647) (h : a < lo ∨ hi < a) (ht : (pc : Int) + dflt = (tgt : Int)) (hd : decode cc pc = .ok (.tableswitch dflt lo hi offs, len)) (kk : jW X nL k n ws lc tgt st) : jW X nL k n ws lc pc (vI a :: st) := by
  obtain ⟨p, l, e, R, s, m, args, below, meth, c, Q, D', Y', A, H0, RO'⟩ := X
  obtain ⟨⟨hx, hb, hml, hown, hts⟩, hK, hA, ⟨rfl, rfl, rfl, rfl⟩, hR, hRA, hN⟩ := C
  intro H locs ls hP hD hS hl
  have e : (Int32.ofInt a).toInt = a := Int32.toInt_ofInt_of_le (by omega) (by omega)
  exact lv_tableOut hx hb hd (by rw [e]; exact h) ht (kk H locs ls hP hD hS hl)
theorem j_get (C : jC X cc nL own Ts rm D Y RO) {ci index N : Nat} {Cn ref : String} {T : u_T} {fs : List Value} {a : Nat} {v : Value} (hq : (a, oC ci fs) ∈ ws ∨ (a, oC ci fs) ∈ RO) (hc : vwCl[ci]? = some (Cn, T, N)) (hin : ∀ w ∈ u_ws Cn T N, w ∈ Ts) (kf : Nat) (hk : kf < N) (hlink : Cond.fieldLink own index ref (T kf).2.1 (T kf).2.2.1 ∈ Ts) (hsame : (T kf).1 = ref ∨ Cond.sameField ref (T kf).1 (T kf).2.1 (T kf).2.2.1 ∈ Ts) (hv : fs[kf]? = some v) (hd : decode cc pc = .ok (.getfield index, 3)) (kk : jW X nL k n ws lc (pc + 3) (v :: st)) : jW X nL k n ws lc pc (.ref a :: st) := by
  obtain ⟨p, l, e, R, s, m, args, below, meth, c, Q, D', Y', A, H0, RO'⟩ := X
  obtain ⟨⟨hx, hb, hml, hown, hts⟩, hK, hA, ⟨rfl, rfl, rfl, rfl⟩, hR, hRA, hN⟩ := C
  intro H locs ls hP hD hS hl
  exact va_get hx hb hts hin hown hK (j_cell hq hP hR hRA hS) 0 rfl hc kf hk (hts _ hlink) (j_same hts hsame) hv hd (kk H locs ls hP hD hS hl)
theorem j_put (C : jC X cc nL own Ts rm D Y RO) {ci index N : Nat} {Cn ref : String} {T : u_T} {ty0 : Nat → FieldType} {fs : List Value} {a : Nat} {v : Value} {ty : FieldType} {ws' : va_W} (q0 : Nat) (he : ws[q0]? = some (a, oC ci fs)) (hc : vwCl[ci]? = some (Cn, T, N)) (hin : ∀ w ∈ u_ws Cn T N, w ∈ Ts) (hty : ∀ k, k < N → parseFieldDescriptor (T k).2.2.1 = some (ty0 k)) (hnm : ∀ a, a < N → ∀ b, b < N → a ≠ b → (T a).2.1 ≠ (T b).2.1) (kf : Nat) (hk : kf < N) (hlink : Cond.fieldLink own index ref (T kf).2.1 (T kf).2.2.1 ∈ Ts) (hsame : (T kf).1 = ref ∨ Cond.sameField ref (T kf).1 (T kf).2.1 (T kf).2.2.1 ∈ Ts) (hfin : (T kf).2.2.2 = false) (hdd : ty0 kf = ty) (hn : narrow ty v = v) (hfit : fits ty v = true) (hl0 : kf < fs.length) (hw : ws.set q0 (a, oC ci (fs.set kf v)) = ws') (hd : decode cc pc = .ok (.putfield index, 3)) (kk : jW X nL k n ws' lc (pc + 3) st) : jW X nL k n ws lc pc (v :: .ref a :: st) := by
  obtain ⟨p, l, e, R, s, m, args, below, meth, c, Q, D', Y', A, H0, RO'⟩ := X
  obtain ⟨⟨hx, hb, hml, hown, hts⟩, hK, hA, ⟨rfl, rfl, rfl, rfl⟩, hR, hRA, hN⟩ := C
  intro H locs ls hP hD hS hl
  subst hw hdd
  exact va_put hx hb hts hin ty0 hty hnm hown hK hP hD hS q0 he hc kf hk (hts _ hlink) (j_same hts hsame) hfin (hty kf hk) hn hfit hl0 hd (fun H1 locs1 hP hD hS => kk H1 locs1 ls hP hD hS hl)
theorem j_iald (C : jC X cc nL own Ts rm D Y RO) {cA : ClassId} {m0 : Nat} {g : Int → Int} {a : Nat} {i : Int} (hq : (a, aI cA m0 g) ∈ ws ∨ (a, aI cA m0 g) ∈ RO) (hcA : cA = Y 0) (hi : 0 ≤ i ∧ i < (m0 : Int)) (hm : m0 < 2147483648) (hd : decode cc pc = .ok (.iaload, 1)) (kk : jW X nL k n ws lc (pc + 1) (vI (g i) :: st)) : jW X nL k n ws lc pc (vI i :: .ref a :: st) := by
  obtain ⟨p, l, e, R, s, m, args, below, meth, c, Q, D', Y', A, H0, RO'⟩ := X
  obtain ⟨⟨hx, hb, hml, hown, hts⟩, hK, hA, ⟨rfl, rfl, rfl, rfl⟩, hR, hRA, hN⟩ := C
  intro H locs ls hP hD hS hl
  subst hcA
  refine va_iald hx hb hK (j_cell hq hP hR hRA hS) 0 0 (cA := Y' 0) (n := m0) (f := fun k : Nat => Int32.ofInt (g (k : Int))) rfl rfl (nj_in hi hm) hd ?_
  rw [nj_to (by omega)]
  exact (kk H locs ls hP hD hS hl)
theorem j_aaldP (C : jC X cc nL own Ts rm D Y RO) {cA : ClassId} {m0 : Nat} {g : Int → Option Nat} {a : Nat} {i : Int} (hq : (a, aQ cA m0 g) ∈ ws ∨ (a, aQ cA m0 g) ∈ RO) (hcA : cA = Y 3) (hi : 0 ≤ i ∧ i < (m0 : Int)) (hm : m0 < 2147483648) (hd : decode cc pc = .ok (.aaload, 1)) (kk : jW X nL k n ws lc (pc + 1) (va_rf (g i) :: st)) : jW X nL k n ws lc pc (vI i :: .ref a :: st) := by
  obtain ⟨p, l, e, R, s, m, args, below, meth, c, Q, D', Y', A, H0, RO'⟩ := X
  obtain ⟨⟨hx, hb, hml, hown, hts⟩, hK, hA, ⟨rfl, rfl, rfl, rfl⟩, hR, hRA, hN⟩ := C
  intro H locs ls hP hD hS hl
  subst hcA
  refine va_aldq (C := RX5) hx hb hK (j_cell hq hP hR hRA hS) 0 3 (cA := Y' 3) (n := m0) (f := fun k : Nat => g (k : Int)) rfl rfl (nj_in hi hm) hd ?_
  rw [nj_to (by omega)]
  exact (kk H locs ls hP hD hS hl)
theorem j_aaldC (C : jC X cc nL own Ts rm D Y RO) {cA : ClassId} {m0 : Nat} {g : Int → Option Nat} {a : Nat} {i : Int} (hq : (a, aQ cA m0 g) ∈ ws ∨ (a, aQ cA m0 g) ∈ RO) (hcA : cA = Y 2) (hi : 0 ≤ i ∧ i < (m0 : Int)) (hm : m0 < 2147483648) (hd : decode cc pc = .ok (.aaload, 1)) (kk : jW X nL k n ws lc (pc + 1) (va_rf (g i) :: st)) : jW X nL k n ws lc pc (vI i :: .ref a :: st) := by
  obtain ⟨p, l, e, R, s, m, args, below, meth, c, Q, D', Y', A, H0, RO'⟩ := X
  obtain ⟨⟨hx, hb, hml, hown, hts⟩, hK, hA, ⟨rfl, rfl, rfl, rfl⟩, hR, hRA, hN⟩ := C
  intro H locs ls hP hD hS hl
  subst hcA
  refine va_aldq (C := RX1) hx hb hK (j_cell hq hP hR hRA hS) 0 2 (cA := Y' 2) (n := m0) (f := fun k : Nat => g (k : Int)) rfl rfl (nj_in hi hm) hd ?_
  rw [nj_to (by omega)]
  exact (kk H locs ls hP hD hS hl)
theorem j_iast (C : jC X cc nL own Ts rm D Y RO) {cA : ClassId} {m0 : Nat} {g : Int → Int} {a : Nat} {i x : Int} {ws' : va_W} (q0 : Nat) (he : ws[q0]? = some (a, aI cA m0 g)) (hcA : cA = Y 0) (hi : 0 ≤ i ∧ i < (m0 : Int)) (hm : m0 < 2147483648) (hw : ws.set q0 (a, aI cA m0 (up g i x)) = ws') (hd : decode cc pc = .ok (.iastore, 1)) (kk : jW X nL k n ws' lc (pc + 1) st) : jW X nL k n ws lc pc (vI x :: vI i :: .ref a :: st) := by
  obtain ⟨p, l, e, R, s, m, args, below, meth, c, Q, D', Y', A, H0, RO'⟩ := X
  obtain ⟨⟨hx, hb, hml, hown, hts⟩, hK, hA, ⟨rfl, rfl, rfl, rfl⟩, hR, hRA, hN⟩ := C
  intro H locs ls hP hD hS hl
  subst hcA hw
  refine va_iast hx hb hK hP hD hS q0 0 (cA := Y' 0) (n := m0) (f := fun k : Nat => Int32.ofInt (g (k : Int))) he rfl (nj_in hi hm) hd (fun H1 locs1 hP hD hS => ?_)
  rw [nj_up (by omega)] at hP hD
  exact kk H1 locs1 ls hP hD hS hl
theorem j_alenI (C : jC X cc nL own Ts rm D Y RO) {cA : ClassId} {m0 : Nat} {g : Int → Int} {a : Nat} (hq : (a, aI cA m0 g) ∈ ws ∨ (a, aI cA m0 g) ∈ RO) (hcA : cA = Y 0) (hd : decode cc pc = .ok (.arraylength, 1)) (kk : jW X nL k n ws lc (pc + 1) (vI (m0 : Int) :: st)) : jW X nL k n ws lc pc (.ref a :: st) := by
  obtain ⟨p, l, e, R, s, m, args, below, meth, c, Q, D', Y', A, H0, RO'⟩ := X
  obtain ⟨⟨hx, hb, hml, hown, hts⟩, hK, hA, ⟨rfl, rfl, rfl, rfl⟩, hR, hRA, hN⟩ := C
  intro H locs ls hP hD hS hl
  subst hcA
  exact va_alen hx hb hK (j_cell hq hP hR hRA hS) 0 0 rfl rfl (show Int32.ofNat m0 = Int32.ofInt (m0 : Int) from Int32.ofInt_eq_ofNat.symm) hd (kk H locs ls hP hD hS hl)
theorem j_alenP (C : jC X cc nL own Ts rm D Y RO) {cA : ClassId} {m0 : Nat} {g : Int → Option Nat} {a : Nat} (hq : (a, aQ cA m0 g) ∈ ws ∨ (a, aQ cA m0 g) ∈ RO) (hcA : cA = Y 3) (hd : decode cc pc = .ok (.arraylength, 1)) (kk : jW X nL k n ws lc (pc + 1) (vI (m0 : Int) :: st)) : jW X nL k n ws lc pc (.ref a :: st) := by
  obtain ⟨p, l, e, R, s, m, args, below, meth, c, Q, D', Y', A, H0, RO'⟩ := X
  obtain ⟨⟨hx, hb, hml, hown, hts⟩, hK, hA, ⟨rfl, rfl, rfl, rfl⟩, hR, hRA, hN⟩ := C
  intro H locs ls hP hD hS hl
  subst hcA
  exact va_alen hx hb hK (j_cell hq hP hR hRA hS) 0 3 rfl rfl (show Int32.ofNat m0 = Int32.ofInt (m0 : Int) from Int32.ofInt_eq_ofNat.symm) hd (kk H locs ls hP hD hS hl)
theorem j_locals {lc' : List (Nat × Value)} (ks : List Nat) (h : lv_pick lc ks = lc') (kk : jW X nL k n ws lc' pc st) : jW X nL k n ws lc pc st := by
  obtain ⟨p, l, e, R, s, m, args, below, meth, c, Q, D', Y', A, H0, RO'⟩ := X
  intro H locs ls hP hD hS hl
  exact kk H locs ls hP hD hS (lv_sub hl ks h)
theorem j_st {ws' : va_W} {lc' : List (Nat × Value)} {st' : List Value} (h1 : ws = ws') (h2 : lc = lc') (h3 : st = st') (kk : jW X nL k n ws' lc' pc st') : jW X nL k n ws lc pc st := by subst h1 h2 h3; exact kk
theorem j_widen {k' n' : Nat} (h1 : k ≤ k') (h2 : n ≤ n') (kk : jW X nL k' n' ws lc pc st) : jW X nL k n ws lc pc st := by
  obtain ⟨p, l, e, R, s, m, args, below, meth, c, Q, D', Y', A, H0, RO'⟩ := X
  intro H locs ls hP hD hS hl
  exact W.widen h1 h2 (kk H locs ls hP hD hS hl)
end JROWS
/-- what a method's start asks: its own cells w0, those that it reads RO, the tables -/
def jPre (D : va_G) (Y : Nat → ClassId) (w0 RO : va_W) (sz : Nat) : State → Prop := fun U => U.heap.size = sz ∧ va_P D vwCl w0 U.heap ∧ va_K D vwCl (jT Y) U ∧ va_D (fun _ => True) w0 ∧ va_P D vwCl RO U.heap ∧ (∀ a ∈ RO, ∀ b ∈ w0, a.1 ≠ b.1) ∧ jN U
def jB (D : va_G) (w0 : va_W) (sz : Nat) : va_W → State → Prop := fun w1 t => va_P D vwCl w1 t.heap ∧ va_D (va_A w0 sz) w1
/-- contracts: the method returns; post tells the answer and the cells behind it -/
def jMv (l : Launch) (y : MethodName) (wl : List Cond) (rm : Room) (D : va_G) (Y : Nat → ClassId) (RO : va_W) (av : List Value) (w0 : va_W) (post : va_W → Prop) : Prop := ∀ sz : Nat, Met l y wl rm (va_Pc av (jPre D Y w0 RO sz)) (va_Qv (fun w1 : va_W => post w1) (jB D w0 sz) (va_A w0 sz)) rm.cells rm.slots (va_A w0 sz)
def jMi (l : Launch) (y : MethodName) (wl : List Cond) (rm : Room) (D : va_G) (Y : Nat → ClassId) (RO : va_W) (av : List Value) (w0 : va_W) (post : Int → va_W → Prop) : Prop := ∀ sz : Nat, Met l y wl rm (va_Pc av (jPre D Y w0 RO sz)) (va_Qi (fun (r : Int32) (w1 : va_W) => ∃ e : Int, r = Int32.ofInt e ∧ post e w1) (jB D w0 sz) (va_A w0 sz)) rm.cells rm.slots (va_A w0 sz)
def jMl (l : Launch) (y : MethodName) (wl : List Cond) (rm : Room) (D : va_G) (Y : Nat → ClassId) (RO : va_W) (av : List Value) (w0 : va_W) (post : Int → va_W → Prop) : Prop := ∀ sz : Nat, Met l y wl rm (va_Pc av (jPre D Y w0 RO sz)) (va_Ql (fun (r : Int64) (w1 : va_W) => ∃ e : Int, r = Int64.ofInt e ∧ post e w1) (jB D w0 sz) (va_A w0 sz)) rm.cells rm.slots (va_A w0 sz)
def jMr (l : Launch) (y : MethodName) (wl : List Cond) (rm : Room) (D : va_G) (Y : Nat → ClassId) (RO : va_W) (av : List Value) (w0 : va_W) (post : Option Nat → va_W → Prop) : Prop := ∀ sz : Nat, Met l y wl rm (va_Pc av (jPre D Y w0 RO sz)) (va_Qq (fun (r : Option Nat) (w1 : va_W) => post r w1) (jB D w0 sz) (va_A w0 sz)) rm.cells rm.slots (va_A w0 sz)
theorem jPre.blind {D : va_G} {Y : Nat → ClassId} {w0 RO : va_W} {sz : Nat} {av : List Value} : FrameBlind (va_Pc av (jPre D Y w0 RO sz)) := by
  intro a U g mk q
  obtain ⟨q0, q1, qP, qK, qD, qR, qd, qN⟩ := q
  exact ⟨q0, q1, qP, va_K.moved (u := U) (U := U.calling g mk a) (Vm.Alike.refl U.vm) qK, qD, qR, qd, qN.same rfl⟩
theorem j_ros {w0 RO : va_W} {D : va_G} {H : Heap} {sz : Nat} (hsz : H.size = sz) (hR : va_P D vwCl RO H) (hd : ∀ a ∈ RO, ∀ b ∈ w0, a.1 ≠ b.1) : ∀ q ∈ RO, ¬ va_A w0 sz q.1 := by
  intro q hq h
  rcases h with ⟨k, e, h⟩ | h
  · exact hd q hq (q.1, e) (List.mem_of_getElem? h) rfl
  · obtain ⟨k, hk⟩ := List.mem_iff_getElem?.mp hq
    have := (hR k q hk).lt
    omega
theorem j_sub {D : va_G} {ws wc : va_W} {H : Heap} (hP : va_P D vwCl ws H) (is : List Nat) (hC : is.map (fun i => ws[i]?) = wc.map some) : va_P D vwCl wc H := by
  intro k q hq
  have h1 : (is.map (fun i => ws[i]?))[k]? = some (some q) := by rw [hC, List.getElem?_map, hq]; rfl
  rw [List.getElem?_map] at h1
  cases hi : is[k]? with
  | none => rw [hi] at h1; cases h1
  | some i => rw [hi] at h1; exact hP i q (Option.some.inj h1)
theorem j_at' {ws wc : va_W} {is : List Nat} (hC : is.map (fun i => ws[i]?) = wc.map some) {q : Nat × va_E} (hq : q ∈ wc) : ∃ i ∈ is, ws[i]? = some q := by
  obtain ⟨k, hk⟩ := List.mem_iff_getElem?.mp hq
  have h1 : (is.map (fun i => ws[i]?))[k]? = some (some q) := by rw [hC, List.getElem?_map, hk]; rfl
  rw [List.getElem?_map] at h1
  cases hi : is[k]? with
  | none => rw [hi] at h1; cases h1
  | some i => rw [hi] at h1; exact ⟨i, List.mem_of_getElem? hi, Option.some.inj h1⟩
theorem j_ro2 {D : va_G} {ws wr RO : va_W} {A : Nat → Prop} {H0 H : Heap} {locs : List Loc} (hP : va_P D vwCl ws H) (hR : va_P D vwCl RO H0) (hRA : ∀ q ∈ RO, ¬ A q.1) (hS : va_S A H0 H locs) (is : List Nat) (hC : is.map (fun i => ws[i]?) = wr.map some) : va_P D vwCl (wr ++ RO) H := by
  intro k q hq
  have hq1 : q ∈ wr ∨ q ∈ RO := List.mem_append.mp (List.mem_of_getElem? hq)
  exact j_cell hq1 (j_sub hP is hC) hR hRA hS 0 q rfl
theorem j_ap {ws wc wr RO : va_W} {A : Nat → Prop} (hD : va_D A ws) (hRA : ∀ q ∈ RO, ¬ A q.1) (isC isR : List Nat) (hC : isC.map (fun i => ws[i]?) = wc.map some) (hR : isR.map (fun i => ws[i]?) = wr.map some) (hdis : ∀ i ∈ isR, i ∉ isC) : ∀ a ∈ wr ++ RO, ∀ b ∈ wc, a.1 ≠ b.1 := by
  intro a ha b hb e
  obtain ⟨j, hj, hj2⟩ := j_at' hC hb
  rcases List.mem_append.mp ha with ha | ha
  · obtain ⟨i, hi, hi2⟩ := j_at' hR ha
    have := hD.1 i j a b hi2 hj2 e
    subst this
    exact hdis i hi hj
  · exact hRA a ha (e ▸ hD.2 j b hj2)
theorem j_perm {X : jX} {nL k n : Nat} {ws ws' : va_W} {lc : List (Nat × Value)} {pc : Nat} {st : List Value} (is : List Nat) (hn : va_nd is = true) (h : is.map (fun i => ws[i]?) = ws'.map some) (kk : jW X nL k n ws' lc pc st) : jW X nL k n ws lc pc st := by
  obtain ⟨p, l, e, R, s, m, args, below, meth, c, Q, D', Y', A, H0, RO'⟩ := X
  intro H locs ls hP hD hS hl
  exact kk H locs ls (j_sub hP is h) (hD.sub is hn h) hS hl
def jRv (X : jX) (cc : ByteArray) (nL mc ms : Nat) (post : va_W → Prop) : Prop := ∀ (k n : Nat) (w1 : va_W) (lc : List (Nat × Value)) (pc : Nat), k ≤ mc → n ≤ ms → post w1 → decode cc pc = .ok (.return_, 1) → jW X nL k n w1 lc pc []
/-- we are in a constructor -/
def jI (X : jX) : Prop := match X with
  | (p, l, e, R, s, m, args, below, meth, c, Q, D, _, A, H0, _) => meth.name = "<init>"
theorem j_ofv {l : Launch} {y : MethodName} {wl ws' : List Cond} {rm : Room} {D : va_G} {Y : Nat → ClassId} {RO w0 : va_W} {av : List Value} {post : va_W → Prop} {cc : ByteArray} {maxL : Nat} (own : String) (hy : plainName y.cls = true) (hw : wl = Cond.code y cc maxL none :: ws') (ho : y.cls = own) (hlen : (lg_sl av).length ≤ maxL) (body : ∀ X : jX, jC X cc maxL own wl rm D Y RO → jRv X cc maxL rm.cells rm.slots post → (y.name = "<init>" → jI X) → jW X maxL 0 0 w0 (lv_args 0 av) 0 []) : jMv l y wl rm D Y RO av w0 post := by
  intro sz
  refine Met.ofW (cc := cc) (maxL := maxL) (ret := none) hy hw ?_
  intro p e s m args below meth c s₁ B hml hv
  obtain ⟨rfl, hsz, hP, hK, hD0, hRO, hdis, hN⟩ := hv
  have hx := B.exec
  have hb := B.bytes
  have hr := B.returns
  have hts := atoms_spec (ws := wl) B.pre
  have hown : s.vm.findClass own = some m.cls := ho ▸ findClass_of_methodNamed B.named
  have hlocks := B.notSynchronized
  have hRA := j_ros hsz hRO hdis
  subst hsz
  have hD := hD0.self (sz := s.heap.size)
  rw [lg_entry_eq]
  have hl := lv_entry av (n := maxL) hlen
  refine body (p, l, e, (headSpec wl rm).room, s, m, av.toArray, below, meth, c, MQ below (_) av.toArray s rm.cells rm.slots (va_A w0 s.heap.size), D, Y, va_A w0 s.heap.size, s.heap, RO) ⟨⟨hx, hb, hml, hown, hts⟩, hK, fun q h => Or.inr h, ⟨rfl, rfl, rfl, rfl⟩, hRO, hRA, hN⟩ ?_ (fun hy => (name_of_methodNamed B.named B.method).1.trans hy) s.heap [] _ hP hD va_S.rf hl
  intro k n w1 lc pc hk hn hp hd H locs ls hP hD hS hl
  exact W.widen hk hn (W.vret hx hb hr (fun t ht hW => ⟨⟨w1, rfl, hp, by rw [ht]; exact hP, hD⟩, hS.F ht⟩) hS.2.2 hd hlocks)
def jRi (X : jX) (cc : ByteArray) (nL mc ms : Nat) (post : Int → va_W → Prop) : Prop := ∀ (k n : Nat) (w1 : va_W) (lc : List (Nat × Value)) (pc : Nat) (e : Int), k ≤ mc → n ≤ ms → post e w1 → decode cc pc = .ok (.ireturn, 1) → jW X nL k n w1 lc pc [vI e]
theorem j_ofi {l : Launch} {y : MethodName} {wl ws' : List Cond} {rm : Room} {D : va_G} {Y : Nat → ClassId} {RO w0 : va_W} {av : List Value} {post : Int → va_W → Prop} {cc : ByteArray} {maxL : Nat} (own : String) (hy : plainName y.cls = true) (hw : wl = Cond.code y cc maxL (some .int) :: ws') (ho : y.cls = own) (hlen : (lg_sl av).length ≤ maxL) (body : ∀ X : jX, jC X cc maxL own wl rm D Y RO → jRi X cc maxL rm.cells rm.slots post → jW X maxL 0 0 w0 (lv_args 0 av) 0 []) : jMi l y wl rm D Y RO av w0 post := by
  intro sz
  refine Met.ofW (cc := cc) (maxL := maxL) (ret := (some .int)) hy hw ?_
  intro p e s m args below meth c s₁ B hml hv
  obtain ⟨rfl, hsz, hP, hK, hD0, hRO, hdis, hN⟩ := hv
  have hx := B.exec
  have hb := B.bytes
  have hr := B.returns
  have hts := atoms_spec (ws := wl) B.pre
  have hown : s.vm.findClass own = some m.cls := ho ▸ findClass_of_methodNamed B.named
  have hlocks := B.notSynchronized
  have hRA := j_ros hsz hRO hdis
  subst hsz
  have hD := hD0.self (sz := s.heap.size)
  rw [lg_entry_eq]
  have hl := lv_entry av (n := maxL) hlen
  refine body (p, l, e, (headSpec wl rm).room, s, m, av.toArray, below, meth, c, MQ below (_) av.toArray s rm.cells rm.slots (va_A w0 s.heap.size), D, Y, va_A w0 s.heap.size, s.heap, RO) ⟨⟨hx, hb, hml, hown, hts⟩, hK, fun q h => Or.inr h, ⟨rfl, rfl, rfl, rfl⟩, hRO, hRA, hN⟩ ?_ s.heap [] _ hP hD va_S.rf hl
  intro k n w1 lc pc ev hk hn hp hd H locs ls hP hD hS hl
  exact W.widen hk hn (W.iret hx hb hr (fun t ht hW => ⟨⟨_, w1, rfl, ⟨ev, rfl, hp⟩, by rw [ht]; exact hP, hD⟩, hS.F ht⟩) hS.2.2 hd hlocks)
def jRz (X : jX) (cc : ByteArray) (nL mc ms : Nat) (post : Int → va_W → Prop) : Prop := ∀ (k n : Nat) (w1 : va_W) (lc : List (Nat × Value)) (pc : Nat) (e : Int), k ≤ mc → n ≤ ms → (e = 0 ∨ e = 1) → post e w1 → decode cc pc = .ok (.ireturn, 1) → jW X nL k n w1 lc pc [vI e]
theorem j_ofz {l : Launch} {y : MethodName} {wl ws' : List Cond} {rm : Room} {D : va_G} {Y : Nat → ClassId} {RO w0 : va_W} {av : List Value} {post : Int → va_W → Prop} {cc : ByteArray} {maxL : Nat} (own : String) (hy : plainName y.cls = true) (hw : wl = Cond.code y cc maxL (some .boolean) :: ws') (ho : y.cls = own) (hlen : (lg_sl av).length ≤ maxL) (body : ∀ X : jX, jC X cc maxL own wl rm D Y RO → jRz X cc maxL rm.cells rm.slots post → jW X maxL 0 0 w0 (lv_args 0 av) 0 []) : jMi l y wl rm D Y RO av w0 post := by
  intro sz
  refine Met.ofW (cc := cc) (maxL := maxL) (ret := (some .boolean)) hy hw ?_
  intro p e s m args below meth c s₁ B hml hv
  obtain ⟨rfl, hsz, hP, hK, hD0, hRO, hdis, hN⟩ := hv
  have hx := B.exec
  have hb := B.bytes
  have hr := B.returns
  have hts := atoms_spec (ws := wl) B.pre
  have hown : s.vm.findClass own = some m.cls := ho ▸ findClass_of_methodNamed B.named
  have hlocks := B.notSynchronized
  have hRA := j_ros hsz hRO hdis
  subst hsz
  have hD := hD0.self (sz := s.heap.size)
  rw [lg_entry_eq]
  have hl := lv_entry av (n := maxL) hlen
  refine body (p, l, e, (headSpec wl rm).room, s, m, av.toArray, below, meth, c, MQ below (_) av.toArray s rm.cells rm.slots (va_A w0 s.heap.size), D, Y, va_A w0 s.heap.size, s.heap, RO) ⟨⟨hx, hb, hml, hown, hts⟩, hK, fun q h => Or.inr h, ⟨rfl, rfl, rfl, rfl⟩, hRO, hRA, hN⟩ ?_ s.heap [] _ hP hD va_S.rf hl
  intro k n w1 lc pc ev hk hn hz hp hd H locs ls hP hD hS hl
  exact W.widen hk hn (W.zret hx hb hr (by rcases hz with rfl | rfl <;> rfl) (fun t ht hW => ⟨⟨_, w1, rfl, ⟨ev, rfl, hp⟩, by rw [ht]; exact hP, hD⟩, hS.F ht⟩) hS.2.2 hd hlocks)
def jRl (X : jX) (cc : ByteArray) (nL mc ms : Nat) (post : Int → va_W → Prop) : Prop := ∀ (k n : Nat) (w1 : va_W) (lc : List (Nat × Value)) (pc : Nat) (e : Int), k ≤ mc → n ≤ ms → post e w1 → decode cc pc = .ok (.lreturn, 1) → jW X nL k n w1 lc pc [vL e]
theorem j_ofl {l : Launch} {y : MethodName} {wl ws' : List Cond} {rm : Room} {D : va_G} {Y : Nat → ClassId} {RO w0 : va_W} {av : List Value} {post : Int → va_W → Prop} {cc : ByteArray} {maxL : Nat} (own : String) (hy : plainName y.cls = true) (hw : wl = Cond.code y cc maxL (some .long) :: ws') (ho : y.cls = own) (hlen : (lg_sl av).length ≤ maxL) (body : ∀ X : jX, jC X cc maxL own wl rm D Y RO → jRl X cc maxL rm.cells rm.slots post → jW X maxL 0 0 w0 (lv_args 0 av) 0 []) : jMl l y wl rm D Y RO av w0 post := by
  intro sz
  refine Met.ofW (cc := cc) (maxL := maxL) (ret := (some .long)) hy hw ?_
  intro p e s m args below meth c s₁ B hml hv
  obtain ⟨rfl, hsz, hP, hK, hD0, hRO, hdis, hN⟩ := hv
  have hx := B.exec
  have hb := B.bytes
  have hr := B.returns
  have hts := atoms_spec (ws := wl) B.pre
  have hown : s.vm.findClass own = some m.cls := ho ▸ findClass_of_methodNamed B.named
  have hlocks := B.notSynchronized
  have hRA := j_ros hsz hRO hdis
  subst hsz
  have hD := hD0.self (sz := s.heap.size)
  rw [lg_entry_eq]
  have hl := lv_entry av (n := maxL) hlen
  refine body (p, l, e, (headSpec wl rm).room, s, m, av.toArray, below, meth, c, MQ below (_) av.toArray s rm.cells rm.slots (va_A w0 s.heap.size), D, Y, va_A w0 s.heap.size, s.heap, RO) ⟨⟨hx, hb, hml, hown, hts⟩, hK, fun q h => Or.inr h, ⟨rfl, rfl, rfl, rfl⟩, hRO, hRA, hN⟩ ?_ s.heap [] _ hP hD va_S.rf hl
  intro k n w1 lc pc ev hk hn hp hd H locs ls hP hD hS hl
  exact W.widen hk hn (W.lret hx hb hr (fun t ht hW => ⟨⟨_, w1, rfl, ⟨ev, rfl, hp⟩, by rw [ht]; exact hP, hD⟩, hS.F ht⟩) hS.2.2 hd hlocks)
def jRr (X : jX) (cc : ByteArray) (nL mc ms : Nat) (post : Option Nat → va_W → Prop) : Prop := ∀ (k n : Nat) (w1 : va_W) (lc : List (Nat × Value)) (pc : Nat) (e : Option Nat), k ≤ mc → n ≤ ms → post e w1 → decode cc pc = .ok (.areturn, 1) → jW X nL k n w1 lc pc [va_rf e]
theorem j_ofr {l : Launch} {y : MethodName} {wl ws' : List Cond} {rm : Room} {D : va_G} {Y : Nat → ClassId} {RO w0 : va_W} {av : List Value} {post : Option Nat → va_W → Prop} {cc : ByteArray} {maxL : Nat} {rt : String} (own : String) (hy : plainName y.cls = true) (hw : wl = Cond.code y cc maxL (some (.object rt)) :: ws') (ho : y.cls = own) (hlen : (lg_sl av).length ≤ maxL) (body : ∀ X : jX, jC X cc maxL own wl rm D Y RO → jRr X cc maxL rm.cells rm.slots post → jW X maxL 0 0 w0 (lv_args 0 av) 0 []) : jMr l y wl rm D Y RO av w0 post := by
  intro sz
  refine Met.ofW (cc := cc) (maxL := maxL) (ret := (some (.object rt))) hy hw ?_
  intro p e s m args below meth c s₁ B hml hv
  obtain ⟨rfl, hsz, hP, hK, hD0, hRO, hdis, hN⟩ := hv
  have hx := B.exec
  have hb := B.bytes
  have hr := B.returns
  have hts := atoms_spec (ws := wl) B.pre
  have hown : s.vm.findClass own = some m.cls := ho ▸ findClass_of_methodNamed B.named
  have hlocks := B.notSynchronized
  have hRA := j_ros hsz hRO hdis
  subst hsz
  have hD := hD0.self (sz := s.heap.size)
  rw [lg_entry_eq]
  have hl := lv_entry av (n := maxL) hlen
  refine body (p, l, e, (headSpec wl rm).room, s, m, av.toArray, below, meth, c, MQ below (_) av.toArray s rm.cells rm.slots (va_A w0 s.heap.size), D, Y, va_A w0 s.heap.size, s.heap, RO) ⟨⟨hx, hb, hml, hown, hts⟩, hK, fun q h => Or.inr h, ⟨rfl, rfl, rfl, rfl⟩, hRO, hRA, hN⟩ ?_ s.heap [] _ hP hD va_S.rf hl
  intro k n w1 lc pc ev hk hn hp hd H locs ls hP hD hS hl
  exact W.widen hk hn (W.aret hx hb hr (Or.inl ⟨_, rfl⟩) (by cases ev with | none => exact Or.inl rfl | some a => exact Or.inr ⟨a, rfl⟩) (fun t ht hW => ⟨⟨ev, w1, rfl, hp, by rw [ht]; exact hP, hD⟩, hS.F ht⟩) hS.2.2 hd hlocks)
theorem j_cell2 {D : va_G} {wc RO : va_W} {H : Heap} {q : Nat × va_E} (hq : q ∈ wc ∨ q ∈ RO) (hP : va_P D vwCl wc H) (hR : va_P D vwCl RO H) : va_P D vwCl [q] H := by
  have hat : va_at D vwCl q H := by
    rcases hq with hq | hq
    · obtain ⟨k, hk⟩ := List.mem_iff_getElem?.mp hq
      exact hP k q hk
    · obtain ⟨k, hk⟩ := List.mem_iff_getElem?.mp hq
      exact hR k q hk
  intro k r hr
  cases k with
  | zero => cases hr; exact hat
  | succ k => simp at hr
theorem j_callVv {X : jX} {cc : ByteArray} {nL : Nat} {own : String} {Ts : List Cond} {rm : Room} {D : va_G} {Y : Nat → ClassId} {RO : va_W} {k n : Nat} {ws : va_W} {lc : List (Nat × Value)} {pc : Nat} {st stk As : List Value} {b : Nat} {y : MethodName} {wl wl' : List Cond} {rm' : Room} {post : va_W → Prop} {bytes : ByteArray} {maxL index na : Nat} (C : jC X cc nL own Ts rm D Y RO) (isC isR : List Nat) {wc wr : va_W} (hM : ∀ l, jMv l y wl rm' D Y (wr ++ RO) (.ref b :: As) wc post) (hC : isC.map (fun i => ws[i]?) = wc.map some) (hR0 : isR.map (fun i => ws[i]?) = wr.map some) (hnC : va_nd isC = true) (hnR : va_nd isR = true) (hdis : ∀ i ∈ isR, i ∉ isC) {ret : Option FieldType} (hw : wl = Cond.code y bytes maxL ret :: wl') {Cn : String} {T : u_T} {N ci : Nat} {fs : List Value} (hq : (b, oC ci fs) ∈ wc ∨ (b, oC ci fs) ∈ wr ++ RO) (hci : vwCl[ci]? = some (Cn, T, N)) (g : GoodIn Ts (wsV own index Cn y wl)) (hd0 : y.cls = Cn ∧ y.cls ≠ "java/lang/invoke/MethodHandle" ∧ y.cls ≠ "java/lang/invoke/VarHandle" ∧ (parseMethodDescriptor y.desc).map (fun d => d.parameters.length) = some na) (hRm : rm'.frames + 1 ≤ rm.frames ∧ 8 + (maxL + 11) + rm'.locals ≤ rm.locals) (hstk : stk = As.reverse ++ .ref b :: st) (hna : As.length = na) (hcat : (st.map fun v => v.category).sum ≤ 8) (hroom : k + rm'.cells ≤ rm.cells ∧ n + rm'.slots ≤ rm.slots) (hd : decode cc pc = .ok (.invokevirtual index, 3)) (kk : ∀ w1 : va_W, post w1 → jW X nL (k + rm'.cells) (n + rm'.slots) (wr ++ w1) lc (pc + 3) st) : jW X nL k n ws lc pc stk := by
  obtain ⟨p, l, e, R, s, m, args, below, meth, c, Q, D', Y', A, H0, RO'⟩ := X
  obtain ⟨⟨hx, hb, hml, hown, hts⟩, hK, hA, ⟨rfl, rfl, rfl, rfl⟩, hR, hRA, hN⟩ := C
  intro H locs ls hP hD hS hl
  subst hstk
  have hPc := j_sub hP isC hC
  have hDc := hD.sub isC hnC hC
  have hFc := va_free hD hS hA isC hC
  have hROc := j_ro2 hP hR hRA hS isR hR0
  have hap := j_ap hD hRA isC isR hC hR0 hdis
  refine va_callv (va_runV (As := As) (rest := st) ⟨hx, hb, hml, hown, hts⟩ (hM l _) (cwV na hts g hw rfl rfl hd0 hRm) ⟨jPre.blind, va_recv hK (j_cell2 hq hPc hROc) hci (q0 := 0) rfl, fun U hU hW => ⟨rfl, by rw [hU], by rw [hU]; exact hPc, va_K.moved hW.alike hK, hDc.weaken (fun _ _ _ _ => trivial), by rw [hU]; exact hROc, hap, hN.warm hW⟩⟩ rfl hna hl.1 rfl (lv_room hcat) hd hroom) hS (fun q _ h => hFc q h) hFc (fun w1 t H1 locs1 ht hvm hw1 hB hz1 hk1 hS => ?_)
  obtain ⟨hP1, hD1⟩ := hB
  rw [ht] at hP1
  obtain ⟨hP, hD⟩ := va_join hP hD isC isR hC hR0 hnR hdis hk1 hFc hP1 hD1
  exact kk w1 hw1 H1 locs1 ls hP hD hS hl
theorem j_callVi {X : jX} {cc : ByteArray} {nL : Nat} {own : String} {Ts : List Cond} {rm : Room} {D : va_G} {Y : Nat → ClassId} {RO : va_W} {k n : Nat} {ws : va_W} {lc : List (Nat × Value)} {pc : Nat} {st stk As : List Value} {b : Nat} {y : MethodName} {wl wl' : List Cond} {rm' : Room} {post : Int → va_W → Prop} {bytes : ByteArray} {maxL index na : Nat} (C : jC X cc nL own Ts rm D Y RO) (isC isR : List Nat) {wc wr : va_W} (hM : ∀ l, jMi l y wl rm' D Y (wr ++ RO) (.ref b :: As) wc post) (hC : isC.map (fun i => ws[i]?) = wc.map some) (hR0 : isR.map (fun i => ws[i]?) = wr.map some) (hnC : va_nd isC = true) (hnR : va_nd isR = true) (hdis : ∀ i ∈ isR, i ∉ isC) {ret : Option FieldType} (hw : wl = Cond.code y bytes maxL ret :: wl') {Cn : String} {T : u_T} {N ci : Nat} {fs : List Value} (hq : (b, oC ci fs) ∈ wc ∨ (b, oC ci fs) ∈ wr ++ RO) (hci : vwCl[ci]? = some (Cn, T, N)) (g : GoodIn Ts (wsV own index Cn y wl)) (hd0 : y.cls = Cn ∧ y.cls ≠ "java/lang/invoke/MethodHandle" ∧ y.cls ≠ "java/lang/invoke/VarHandle" ∧ (parseMethodDescriptor y.desc).map (fun d => d.parameters.length) = some na) (hRm : rm'.frames + 1 ≤ rm.frames ∧ 8 + (maxL + 11) + rm'.locals ≤ rm.locals) (hstk : stk = As.reverse ++ .ref b :: st) (hna : As.length = na) (hcat : (st.map fun v => v.category).sum ≤ 8) (hroom : k + rm'.cells ≤ rm.cells ∧ n + rm'.slots ≤ rm.slots) (hd : decode cc pc = .ok (.invokevirtual index, 3)) (kk : ∀ (ev : Int) (w1 : va_W), post ev w1 → jW X nL (k + rm'.cells) (n + rm'.slots) (wr ++ w1) lc (pc + 3) (vI ev :: st)) : jW X nL k n ws lc pc stk := by
  obtain ⟨p, l, e, R, s, m, args, below, meth, c, Q, D', Y', A, H0, RO'⟩ := X
  obtain ⟨⟨hx, hb, hml, hown, hts⟩, hK, hA, ⟨rfl, rfl, rfl, rfl⟩, hR, hRA, hN⟩ := C
  intro H locs ls hP hD hS hl
  subst hstk
  have hPc := j_sub hP isC hC
  have hDc := hD.sub isC hnC hC
  have hFc := va_free hD hS hA isC hC
  have hROc := j_ro2 hP hR hRA hS isR hR0
  have hap := j_ap hD hRA isC isR hC hR0 hdis
  refine va_calli (va_runV (As := As) (rest := st) ⟨hx, hb, hml, hown, hts⟩ (hM l _) (cwV na hts g hw rfl rfl hd0 hRm) ⟨jPre.blind, va_recv hK (j_cell2 hq hPc hROc) hci (q0 := 0) rfl, fun U hU hW => ⟨rfl, by rw [hU], by rw [hU]; exact hPc, va_K.moved hW.alike hK, hDc.weaken (fun _ _ _ _ => trivial), by rw [hU]; exact hROc, hap, hN.warm hW⟩⟩ rfl hna hl.1 rfl (lv_room hcat) hd hroom) hS (fun q _ h => hFc q h) hFc (fun r w1 t H1 locs1 ht hvm hw1 hB hz1 hk1 hS => ?_)
  obtain ⟨hP1, hD1⟩ := hB
  rw [ht] at hP1
  obtain ⟨hP, hD⟩ := va_join hP hD isC isR hC hR0 hnR hdis hk1 hFc hP1 hD1
  obtain ⟨ev, rfl, hp⟩ := hw1
  exact kk ev w1 hp H1 locs1 ls hP hD hS hl
theorem j_callVl {X : jX} {cc : ByteArray} {nL : Nat} {own : String} {Ts : List Cond} {rm : Room} {D : va_G} {Y : Nat → ClassId} {RO : va_W} {k n : Nat} {ws : va_W} {lc : List (Nat × Value)} {pc : Nat} {st stk As : List Value} {b : Nat} {y : MethodName} {wl wl' : List Cond} {rm' : Room} {post : Int → va_W → Prop} {bytes : ByteArray} {maxL index na : Nat} (C : jC X cc nL own Ts rm D Y RO) (isC isR : List Nat) {wc wr : va_W} (hM : ∀ l, jMl l y wl rm' D Y (wr ++ RO) (.ref b :: As) wc post) (hC : isC.map (fun i => ws[i]?) = wc.map some) (hR0 : isR.map (fun i => ws[i]?) = wr.map some) (hnC : va_nd isC = true) (hnR : va_nd isR = true) (hdis : ∀ i ∈ isR, i ∉ isC) {ret : Option FieldType} (hw : wl = Cond.code y bytes maxL ret :: wl') {Cn : String} {T : u_T} {N ci : Nat} {fs : List Value} (hq : (b, oC ci fs) ∈ wc ∨ (b, oC ci fs) ∈ wr ++ RO) (hci : vwCl[ci]? = some (Cn, T, N)) (g : GoodIn Ts (wsV own index Cn y wl)) (hd0 : y.cls = Cn ∧ y.cls ≠ "java/lang/invoke/MethodHandle" ∧ y.cls ≠ "java/lang/invoke/VarHandle" ∧ (parseMethodDescriptor y.desc).map (fun d => d.parameters.length) = some na) (hRm : rm'.frames + 1 ≤ rm.frames ∧ 8 + (maxL + 11) + rm'.locals ≤ rm.locals) (hstk : stk = As.reverse ++ .ref b :: st) (hna : As.length = na) (hcat : (st.map fun v => v.category).sum ≤ 8) (hroom : k + rm'.cells ≤ rm.cells ∧ n + rm'.slots ≤ rm.slots) (hd : decode cc pc = .ok (.invokevirtual index, 3)) (kk : ∀ (ev : Int) (w1 : va_W), post ev w1 → jW X nL (k + rm'.cells) (n + rm'.slots) (wr ++ w1) lc (pc + 3) (vL ev :: st)) : jW X nL k n ws lc pc stk := by
  obtain ⟨p, l, e, R, s, m, args, below, meth, c, Q, D', Y', A, H0, RO'⟩ := X
  obtain ⟨⟨hx, hb, hml, hown, hts⟩, hK, hA, ⟨rfl, rfl, rfl, rfl⟩, hR, hRA, hN⟩ := C
  intro H locs ls hP hD hS hl
  subst hstk
  have hPc := j_sub hP isC hC
  have hDc := hD.sub isC hnC hC
  have hFc := va_free hD hS hA isC hC
  have hROc := j_ro2 hP hR hRA hS isR hR0
  have hap := j_ap hD hRA isC isR hC hR0 hdis
  refine va_calll (va_runV (As := As) (rest := st) ⟨hx, hb, hml, hown, hts⟩ (hM l _) (cwV na hts g hw rfl rfl hd0 hRm) ⟨jPre.blind, va_recv hK (j_cell2 hq hPc hROc) hci (q0 := 0) rfl, fun U hU hW => ⟨rfl, by rw [hU], by rw [hU]; exact hPc, va_K.moved hW.alike hK, hDc.weaken (fun _ _ _ _ => trivial), by rw [hU]; exact hROc, hap, hN.warm hW⟩⟩ rfl hna hl.1 rfl (lv_room hcat) hd hroom) hS (fun q _ h => hFc q h) hFc (fun r w1 t H1 locs1 ht hvm hw1 hB hz1 hk1 hS => ?_)
  obtain ⟨hP1, hD1⟩ := hB
  rw [ht] at hP1
  obtain ⟨hP, hD⟩ := va_join hP hD isC isR hC hR0 hnR hdis hk1 hFc hP1 hD1
  obtain ⟨ev, rfl, hp⟩ := hw1
  exact kk ev w1 hp H1 locs1 ls hP hD hS hl
theorem j_callVr {X : jX} {cc : ByteArray} {nL : Nat} {own : String} {Ts : List Cond} {rm : Room} {D : va_G} {Y : Nat → ClassId} {RO : va_W} {k n : Nat} {ws : va_W} {lc : List (Nat × Value)} {pc : Nat} {st stk As : List Value} {b : Nat} {y : MethodName} {wl wl' : List Cond} {rm' : Room} {post : Option Nat → va_W → Prop} {bytes : ByteArray} {maxL index na : Nat} (C : jC X cc nL own Ts rm D Y RO) (isC isR : List Nat) {wc wr : va_W} (hM : ∀ l, jMr l y wl rm' D Y (wr ++ RO) (.ref b :: As) wc post) (hC : isC.map (fun i => ws[i]?) = wc.map some) (hR0 : isR.map (fun i => ws[i]?) = wr.map some) (hnC : va_nd isC = true) (hnR : va_nd isR = true) (hdis : ∀ i ∈ isR, i ∉ isC) {ret : Option FieldType} (hw : wl = Cond.code y bytes maxL ret :: wl') {Cn : String} {T : u_T} {N ci : Nat} {fs : List Value} (hq : (b, oC ci fs) ∈ wc ∨ (b, oC ci fs) ∈ wr ++ RO) (hci : vwCl[ci]? = some (Cn, T, N)) (g : GoodIn Ts (wsV own index Cn y wl)) (hd0 : y.cls = Cn ∧ y.cls ≠ "java/lang/invoke/MethodHandle" ∧ y.cls ≠ "java/lang/invoke/VarHandle" ∧ (parseMethodDescriptor y.desc).map (fun d => d.parameters.length) = some na) (hRm : rm'.frames + 1 ≤ rm.frames ∧ 8 + (maxL + 11) + rm'.locals ≤ rm.locals) (hstk : stk = As.reverse ++ .ref b :: st) (hna : As.length = na) (hcat : (st.map fun v => v.category).sum ≤ 8) (hroom : k + rm'.cells ≤ rm.cells ∧ n + rm'.slots ≤ rm.slots) (hd : decode cc pc = .ok (.invokevirtual index, 3)) (kk : ∀ (ev : Option Nat) (w1 : va_W), post ev w1 → jW X nL (k + rm'.cells) (n + rm'.slots) (wr ++ w1) lc (pc + 3) (va_rf ev :: st)) : jW X nL k n ws lc pc stk := by
  obtain ⟨p, l, e, R, s, m, args, below, meth, c, Q, D', Y', A, H0, RO'⟩ := X
  obtain ⟨⟨hx, hb, hml, hown, hts⟩, hK, hA, ⟨rfl, rfl, rfl, rfl⟩, hR, hRA, hN⟩ := C
  intro H locs ls hP hD hS hl
  subst hstk
  have hPc := j_sub hP isC hC
  have hDc := hD.sub isC hnC hC
  have hFc := va_free hD hS hA isC hC
  have hROc := j_ro2 hP hR hRA hS isR hR0
  have hap := j_ap hD hRA isC isR hC hR0 hdis
  refine va_callq (va_runV (As := As) (rest := st) ⟨hx, hb, hml, hown, hts⟩ (hM l _) (cwV na hts g hw rfl rfl hd0 hRm) ⟨jPre.blind, va_recv hK (j_cell2 hq hPc hROc) hci (q0 := 0) rfl, fun U hU hW => ⟨rfl, by rw [hU], by rw [hU]; exact hPc, va_K.moved hW.alike hK, hDc.weaken (fun _ _ _ _ => trivial), by rw [hU]; exact hROc, hap, hN.warm hW⟩⟩ rfl hna hl.1 rfl (lv_room hcat) hd hroom) hS (fun q _ h => hFc q h) hFc (fun r w1 t H1 locs1 ht hvm hw1 hB hz1 hk1 hS => ?_)
  obtain ⟨hP1, hD1⟩ := hB
  rw [ht] at hP1
  obtain ⟨hP, hD⟩ := va_join hP hD isC isR hC hR0 hnR hdis hk1 hFc hP1 hD1
  exact kk r w1 hw1 H1 locs1 ls hP hD hS hl
theorem j_callUi {X : jX} {cc : ByteArray} {nL : Nat} {own : String} {Ts : List Cond} {rm : Room} {D : va_G} {Y : Nat → ClassId} {RO : va_W} {k n : Nat} {ws : va_W} {lc : List (Nat × Value)} {pc : Nat} {st stk As : List Value} {b : Nat} {y : MethodName} {wl wl' : List Cond} {rm' : Room} {post : Int → va_W → Prop} {bytes : ByteArray} {maxL index na : Nat} (C : jC X cc nL own Ts rm D Y RO) (isC isR : List Nat) {wc wr : va_W} (hM : ∀ l, jMi l y wl rm' D Y (wr ++ RO) (.ref b :: As) wc post) (hC : isC.map (fun i => ws[i]?) = wc.map some) (hR0 : isR.map (fun i => ws[i]?) = wr.map some) (hnC : va_nd isC = true) (hnR : va_nd isR = true) (hdis : ∀ i ∈ isR, i ∉ isC) {ret : Option FieldType} (hw : wl = Cond.code y bytes maxL ret :: wl') {Cn owner : String} {x0 : MethodName} {T : u_T} {N ci : Nat} {fs : List Value} (hq : (b, oC ci fs) ∈ wc ∨ (b, oC ci fs) ∈ wr ++ RO) (hci : vwCl[ci]? = some (Cn, T, N)) (g : GoodIn Ts (va_wsU own index Cn owner x0 y wl)) (hyx : y = ⟨owner, x0.name, x0.desc⟩) (hd0 : owner ≠ "java/lang/invoke/MethodHandle" ∧ owner ≠ "java/lang/invoke/VarHandle" ∧ (parseMethodDescriptor x0.desc).map (fun d => d.parameters.length) = some na) (hRm : rm'.frames + 1 ≤ rm.frames ∧ 8 + (maxL + 11) + rm'.locals ≤ rm.locals) (hstk : stk = As.reverse ++ .ref b :: st) (hna : As.length = na) (hcat : (st.map fun v => v.category).sum ≤ 8) (hroom : k + rm'.cells ≤ rm.cells ∧ n + rm'.slots ≤ rm.slots) (hd : decode cc pc = .ok (.invokevirtual index, 3)) (kk : ∀ (ev : Int) (w1 : va_W), post ev w1 → jW X nL (k + rm'.cells) (n + rm'.slots) (wr ++ w1) lc (pc + 3) (vI ev :: st)) : jW X nL k n ws lc pc stk := by
  obtain ⟨p, l, e, R, s, m, args, below, meth, c, Q, D', Y', A, H0, RO'⟩ := X
  obtain ⟨⟨hx, hb, hml, hown, hts⟩, hK, hA, ⟨rfl, rfl, rfl, rfl⟩, hR, hRA, hN⟩ := C
  intro H locs ls hP hD hS hl
  subst hstk
  have hPc := j_sub hP isC hC
  have hDc := hD.sub isC hnC hC
  have hFc := va_free hD hS hA isC hC
  have hROc := j_ro2 hP hR hRA hS isR hR0
  have hap := j_ap hD hRA isC isR hC hR0 hdis
  refine va_calli (va_runU (As := As) (rest := st) ⟨hx, hb, hml, hown, hts⟩ (hM l _) (va_cwU na hts g hw rfl rfl hyx hd0 hRm) ⟨jPre.blind, va_recv hK (j_cell2 hq hPc hROc) hci (q0 := 0) rfl, fun U hU hW => ⟨rfl, by rw [hU], by rw [hU]; exact hPc, va_K.moved hW.alike hK, hDc.weaken (fun _ _ _ _ => trivial), by rw [hU]; exact hROc, hap, hN.warm hW⟩⟩ rfl hna hl.1 rfl (lv_room hcat) hd hroom) hS (fun q _ h => hFc q h) hFc (fun r w1 t H1 locs1 ht hvm hw1 hB hz1 hk1 hS => ?_)
  obtain ⟨hP1, hD1⟩ := hB
  rw [ht] at hP1
  obtain ⟨hP, hD⟩ := va_join hP hD isC isR hC hR0 hnR hdis hk1 hFc hP1 hD1
  obtain ⟨ev, rfl, hp⟩ := hw1
  exact kk ev w1 hp H1 locs1 ls hP hD hS hl
theorem j_callOi {X : jX} {cc : ByteArray} {nL : Nat} {own : String} {Ts : List Cond} {rm : Room} {D : va_G} {Y : Nat → ClassId} {RO : va_W} {k n : Nat} {ws : va_W} {lc : List (Nat × Value)} {pc : Nat} {st stk As : List Value} {b : Nat} {y : MethodName} {wl wl' : List Cond} {rm' : Room} {post : Int → va_W → Prop} {bytes : ByteArray} {maxL index na : Nat} (C : jC X cc nL own Ts rm D Y RO) (isC isR : List Nat) {wc wr : va_W} (hM : ∀ l, jMi l y wl rm' D Y (wr ++ RO) (.ref b :: As) wc post) (hC : isC.map (fun i => ws[i]?) = wc.map some) (hR0 : isR.map (fun i => ws[i]?) = wr.map some) (hnC : va_nd isC = true) (hnR : va_nd isR = true) (hdis : ∀ i ∈ isR, i ∉ isC) {ret : Option FieldType} (hw : wl = Cond.code y bytes maxL ret :: wl') {Cn owner : String} {x0 : MethodName} {T : u_T} {N ci : Nat} {fs : List Value} {b0 : ByteArray} {m0 : Nat} {r0 : Option FieldType} (hq : (b, oC ci fs) ∈ wc ∨ (b, oC ci fs) ∈ wr ++ RO) (hci : vwCl[ci]? = some (Cn, T, N)) (g : GoodIn Ts (va_wsO own index Cn owner x0 y wl)) (h0 : Cond.code ⟨owner, x0.name, x0.desc⟩ b0 m0 r0 ∈ Ts) (hd0 : owner ≠ "java/lang/invoke/MethodHandle" ∧ owner ≠ "java/lang/invoke/VarHandle" ∧ (parseMethodDescriptor x0.desc).map (fun d => d.parameters.length) = some na) (hRm : rm'.frames + 1 ≤ rm.frames ∧ 8 + (maxL + 11) + rm'.locals ≤ rm.locals) (hstk : stk = As.reverse ++ .ref b :: st) (hna : As.length = na) (hcat : (st.map fun v => v.category).sum ≤ 8) (hroom : k + rm'.cells ≤ rm.cells ∧ n + rm'.slots ≤ rm.slots) (hd : decode cc pc = .ok (.invokevirtual index, 3)) (kk : ∀ (ev : Int) (w1 : va_W), post ev w1 → jW X nL (k + rm'.cells) (n + rm'.slots) (wr ++ w1) lc (pc + 3) (vI ev :: st)) : jW X nL k n ws lc pc stk := by
  obtain ⟨p, l, e, R, s, m, args, below, meth, c, Q, D', Y', A, H0, RO'⟩ := X
  obtain ⟨⟨hx, hb, hml, hown, hts⟩, hK, hA, ⟨rfl, rfl, rfl, rfl⟩, hR, hRA, hN⟩ := C
  intro H locs ls hP hD hS hl
  subst hstk
  have hPc := j_sub hP isC hC
  have hDc := hD.sub isC hnC hC
  have hFc := va_free hD hS hA isC hC
  have hROc := j_ro2 hP hR hRA hS isR hR0
  have hap := j_ap hD hRA isC isR hC hR0 hdis
  refine va_calli (va_runU (As := As) (rest := st) ⟨hx, hb, hml, hown, hts⟩ (hM l _) (va_cwO na hts g hw rfl rfl h0 hd0 hRm) ⟨jPre.blind, va_recv hK (j_cell2 hq hPc hROc) hci (q0 := 0) rfl, fun U hU hW => ⟨rfl, by rw [hU], by rw [hU]; exact hPc, va_K.moved hW.alike hK, hDc.weaken (fun _ _ _ _ => trivial), by rw [hU]; exact hROc, hap, hN.warm hW⟩⟩ rfl hna hl.1 rfl (lv_room hcat) hd hroom) hS (fun q _ h => hFc q h) hFc (fun r w1 t H1 locs1 ht hvm hw1 hB hz1 hk1 hS => ?_)
  obtain ⟨hP1, hD1⟩ := hB
  rw [ht] at hP1
  obtain ⟨hP, hD⟩ := va_join hP hD isC isR hC hR0 hnR hdis hk1 hFc hP1 hD1
  obtain ⟨ev, rfl, hp⟩ := hw1
  exact kk ev w1 hp H1 locs1 ls hP hD hS hl
theorem j_callSv {X : jX} {cc : ByteArray} {nL : Nat} {own : String} {Ts : List Cond} {rm : Room} {D : va_G} {Y : Nat → ClassId} {RO : va_W} {k n : Nat} {ws : va_W} {lc : List (Nat × Value)} {pc : Nat} {st stk As : List Value} {y : MethodName} {wl wl' : List Cond} {rm' : Room} {post : va_W → Prop} {bytes : ByteArray} {maxL index na : Nat} (C : jC X cc nL own Ts rm D Y RO) (isC isR : List Nat) {wc wr : va_W} (hM : ∀ l, jMv l y wl rm' D Y (wr ++ RO) As wc post) (hC : isC.map (fun i => ws[i]?) = wc.map some) (hR0 : isR.map (fun i => ws[i]?) = wr.map some) (hnC : va_nd isC = true) (hnR : va_nd isR = true) (hdis : ∀ i ∈ isR, i ∉ isC) {ret : Option FieldType} (hw : wl = Cond.code y bytes maxL ret :: wl') (g : GoodIn Ts (va_wsS own index y wl)) (hd0 : y.cls ≠ "java/lang/invoke/MethodHandle" ∧ y.cls ≠ "java/lang/invoke/VarHandle" ∧ (parseMethodDescriptor y.desc).map (fun d => d.parameters.length) = some na) (hRm : rm'.frames + 1 ≤ rm.frames ∧ 8 + (maxL + 11) + rm'.locals ≤ rm.locals) (hstk : stk = As.reverse ++ st) (hna : As.length = na) (hcat : (st.map fun v => v.category).sum ≤ 8) (hroom : k + rm'.cells ≤ rm.cells ∧ n + rm'.slots ≤ rm.slots) (hd : decode cc pc = .ok (.invokestatic index, 3)) (kk : ∀ w1 : va_W, post w1 → jW X nL (k + rm'.cells) (n + rm'.slots) (wr ++ w1) lc (pc + 3) st) : jW X nL k n ws lc pc stk := by
  obtain ⟨p, l, e, R, s, m, args, below, meth, c, Q, D', Y', A, H0, RO'⟩ := X
  obtain ⟨⟨hx, hb, hml, hown, hts⟩, hK, hA, ⟨rfl, rfl, rfl, rfl⟩, hR, hRA, hN⟩ := C
  intro H locs ls hP hD hS hl
  subst hstk
  have hPc := j_sub hP isC hC
  have hDc := hD.sub isC hnC hC
  have hFc := va_free hD hS hA isC hC
  have hROc := j_ro2 hP hR hRA hS isR hR0
  have hap := j_ap hD hRA isC isR hC hR0 hdis
  refine va_callv (va_runS (As := As) (rest := st) ⟨hx, hb, hml, hown, hts⟩ (hM l _) (va_cwS na hts g hw rfl rfl hd0 hRm) ⟨jPre.blind, fun U hU hW => ⟨rfl, by rw [hU], by rw [hU]; exact hPc, va_K.moved hW.alike hK, hDc.weaken (fun _ _ _ _ => trivial), by rw [hU]; exact hROc, hap, hN.warm hW⟩⟩ rfl hna hl.1 rfl (lv_room hcat) hd hroom) hS (fun q _ h => hFc q h) hFc (fun w1 t H1 locs1 ht hvm hw1 hB hz1 hk1 hS => ?_)
  obtain ⟨hP1, hD1⟩ := hB
  rw [ht] at hP1
  obtain ⟨hP, hD⟩ := va_join hP hD isC isR hC hR0 hnR hdis hk1 hFc hP1 hD1
  exact kk w1 hw1 H1 locs1 ls hP hD hS hl
theorem j_callSi {X : jX} {cc : ByteArray} {nL : Nat} {own : String} {Ts : List Cond} {rm : Room} {D : va_G} {Y : Nat → ClassId} {RO : va_W} {k n : Nat} {ws : va_W} {lc : List (Nat × Value)} {pc : Nat} {st stk As : List Value} {y : MethodName} {wl wl' : List Cond} {rm' : Room} {post : Int → va_W → Prop} {bytes : ByteArray} {maxL index na : Nat} (C : jC X cc nL own Ts rm D Y RO) (isC isR : List Nat) {wc wr : va_W} (hM : ∀ l, jMi l y wl rm' D Y (wr ++ RO) As wc post) (hC : isC.map (fun i => ws[i]?) = wc.map some) (hR0 : isR.map (fun i => ws[i]?) = wr.map some) (hnC : va_nd isC = true) (hnR : va_nd isR = true) (hdis : ∀ i ∈ isR, i ∉ isC) {ret : Option FieldType} (hw : wl = Cond.code y bytes maxL ret :: wl') (g : GoodIn Ts (va_wsS own index y wl)) (hd0 : y.cls ≠ "java/lang/invoke/MethodHandle" ∧ y.cls ≠ "java/lang/invoke/VarHandle" ∧ (parseMethodDescriptor y.desc).map (fun d => d.parameters.length) = some na) (hRm : rm'.frames + 1 ≤ rm.frames ∧ 8 + (maxL + 11) + rm'.locals ≤ rm.locals) (hstk : stk = As.reverse ++ st) (hna : As.length = na) (hcat : (st.map fun v => v.category).sum ≤ 8) (hroom : k + rm'.cells ≤ rm.cells ∧ n + rm'.slots ≤ rm.slots) (hd : decode cc pc = .ok (.invokestatic index, 3)) (kk : ∀ (ev : Int) (w1 : va_W), post ev w1 → jW X nL (k + rm'.cells) (n + rm'.slots) (wr ++ w1) lc (pc + 3) (vI ev :: st)) : jW X nL k n ws lc pc stk := by
  obtain ⟨p, l, e, R, s, m, args, below, meth, c, Q, D', Y', A, H0, RO'⟩ := X
  obtain ⟨⟨hx, hb, hml, hown, hts⟩, hK, hA, ⟨rfl, rfl, rfl, rfl⟩, hR, hRA, hN⟩ := C
  intro H locs ls hP hD hS hl
  subst hstk
  have hPc := j_sub hP isC hC
  have hDc := hD.sub isC hnC hC
  have hFc := va_free hD hS hA isC hC
  have hROc := j_ro2 hP hR hRA hS isR hR0
  have hap := j_ap hD hRA isC isR hC hR0 hdis
  refine va_calli (va_runS (As := As) (rest := st) ⟨hx, hb, hml, hown, hts⟩ (hM l _) (va_cwS na hts g hw rfl rfl hd0 hRm) ⟨jPre.blind, fun U hU hW => ⟨rfl, by rw [hU], by rw [hU]; exact hPc, va_K.moved hW.alike hK, hDc.weaken (fun _ _ _ _ => trivial), by rw [hU]; exact hROc, hap, hN.warm hW⟩⟩ rfl hna hl.1 rfl (lv_room hcat) hd hroom) hS (fun q _ h => hFc q h) hFc (fun r w1 t H1 locs1 ht hvm hw1 hB hz1 hk1 hS => ?_)
  obtain ⟨hP1, hD1⟩ := hB
  rw [ht] at hP1
  obtain ⟨hP, hD⟩ := va_join hP hD isC isR hC hR0 hnR hdis hk1 hFc hP1 hD1
  obtain ⟨ev, rfl, hp⟩ := hw1
  exact kk ev w1 hp H1 locs1 ls hP hD hS hl
theorem j_callSl {X : jX} {cc : ByteArray} {nL : Nat} {own : String} {Ts : List Cond} {rm : Room} {D : va_G} {Y : Nat → ClassId} {RO : va_W} {k n : Nat} {ws : va_W} {lc : List (Nat × Value)} {pc : Nat} {st stk As : List Value} {y : MethodName} {wl wl' : List Cond} {rm' : Room} {post : Int → va_W → Prop} {bytes : ByteArray} {maxL index na : Nat} (C : jC X cc nL own Ts rm D Y RO) (isC isR : List Nat) {wc wr : va_W} (hM : ∀ l, jMl l y wl rm' D Y (wr ++ RO) As wc post) (hC : isC.map (fun i => ws[i]?) = wc.map some) (hR0 : isR.map (fun i => ws[i]?) = wr.map some) (hnC : va_nd isC = true) (hnR : va_nd isR = true) (hdis : ∀ i ∈ isR, i ∉ isC) {ret : Option FieldType} (hw : wl = Cond.code y bytes maxL ret :: wl') (g : GoodIn Ts (va_wsS own index y wl)) (hd0 : y.cls ≠ "java/lang/invoke/MethodHandle" ∧ y.cls ≠ "java/lang/invoke/VarHandle" ∧ (parseMethodDescriptor y.desc).map (fun d => d.parameters.length) = some na) (hRm : rm'.frames + 1 ≤ rm.frames ∧ 8 + (maxL + 11) + rm'.locals ≤ rm.locals) (hstk : stk = As.reverse ++ st) (hna : As.length = na) (hcat : (st.map fun v => v.category).sum ≤ 8) (hroom : k + rm'.cells ≤ rm.cells ∧ n + rm'.slots ≤ rm.slots) (hd : decode cc pc = .ok (.invokestatic index, 3)) (kk : ∀ (ev : Int) (w1 : va_W), post ev w1 → jW X nL (k + rm'.cells) (n + rm'.slots) (wr ++ w1) lc (pc + 3) (vL ev :: st)) : jW X nL k n ws lc pc stk := by
  obtain ⟨p, l, e, R, s, m, args, below, meth, c, Q, D', Y', A, H0, RO'⟩ := X
  obtain ⟨⟨hx, hb, hml, hown, hts⟩, hK, hA, ⟨rfl, rfl, rfl, rfl⟩, hR, hRA, hN⟩ := C
  intro H locs ls hP hD hS hl
  subst hstk
  have hPc := j_sub hP isC hC
  have hDc := hD.sub isC hnC hC
  have hFc := va_free hD hS hA isC hC
  have hROc := j_ro2 hP hR hRA hS isR hR0
  have hap := j_ap hD hRA isC isR hC hR0 hdis
  refine va_calll (va_runS (As := As) (rest := st) ⟨hx, hb, hml, hown, hts⟩ (hM l _) (va_cwS na hts g hw rfl rfl hd0 hRm) ⟨jPre.blind, fun U hU hW => ⟨rfl, by rw [hU], by rw [hU]; exact hPc, va_K.moved hW.alike hK, hDc.weaken (fun _ _ _ _ => trivial), by rw [hU]; exact hROc, hap, hN.warm hW⟩⟩ rfl hna hl.1 rfl (lv_room hcat) hd hroom) hS (fun q _ h => hFc q h) hFc (fun r w1 t H1 locs1 ht hvm hw1 hB hz1 hk1 hS => ?_)
  obtain ⟨hP1, hD1⟩ := hB
  rw [ht] at hP1
  obtain ⟨hP, hD⟩ := va_join hP hD isC isR hC hR0 hnR hdis hk1 hFc hP1 hD1
  obtain ⟨ev, rfl, hp⟩ := hw1
  exact kk ev w1 hp H1 locs1 ls hP hD hS hl
theorem j_callSr {X : jX} {cc : ByteArray} {nL : Nat} {own : String} {Ts : List Cond} {rm : Room} {D : va_G} {Y : Nat → ClassId} {RO : va_W} {k n : Nat} {ws : va_W} {lc : List (Nat × Value)} {pc : Nat} {st stk As : List Value} {y : MethodName} {wl wl' : List Cond} {rm' : Room} {post : Option Nat → va_W → Prop} {bytes : ByteArray} {maxL index na : Nat} (C : jC X cc nL own Ts rm D Y RO) (isC isR : List Nat) {wc wr : va_W} (hM : ∀ l, jMr l y wl rm' D Y (wr ++ RO) As wc post) (hC : isC.map (fun i => ws[i]?) = wc.map some) (hR0 : isR.map (fun i => ws[i]?) = wr.map some) (hnC : va_nd isC = true) (hnR : va_nd isR = true) (hdis : ∀ i ∈ isR, i ∉ isC) {ret : Option FieldType} (hw : wl = Cond.code y bytes maxL ret :: wl') (g : GoodIn Ts (va_wsS own index y wl)) (hd0 : y.cls ≠ "java/lang/invoke/MethodHandle" ∧ y.cls ≠ "java/lang/invoke/VarHandle" ∧ (parseMethodDescriptor y.desc).map (fun d => d.parameters.length) = some na) (hRm : rm'.frames + 1 ≤ rm.frames ∧ 8 + (maxL + 11) + rm'.locals ≤ rm.locals) (hstk : stk = As.reverse ++ st) (hna : As.length = na) (hcat : (st.map fun v => v.category).sum ≤ 8) (hroom : k + rm'.cells ≤ rm.cells ∧ n + rm'.slots ≤ rm.slots) (hd : decode cc pc = .ok (.invokestatic index, 3)) (kk : ∀ (ev : Option Nat) (w1 : va_W), post ev w1 → jW X nL (k + rm'.cells) (n + rm'.slots) (wr ++ w1) lc (pc + 3) (va_rf ev :: st)) : jW X nL k n ws lc pc stk := by
  obtain ⟨p, l, e, R, s, m, args, below, meth, c, Q, D', Y', A, H0, RO'⟩ := X
  obtain ⟨⟨hx, hb, hml, hown, hts⟩, hK, hA, ⟨rfl, rfl, rfl, rfl⟩, hR, hRA, hN⟩ := C
  intro H locs ls hP hD hS hl
  subst hstk
  have hPc := j_sub hP isC hC
  have hDc := hD.sub isC hnC hC
  have hFc := va_free hD hS hA isC hC
  have hROc := j_ro2 hP hR hRA hS isR hR0
  have hap := j_ap hD hRA isC isR hC hR0 hdis
  refine va_callq (va_runS (As := As) (rest := st) ⟨hx, hb, hml, hown, hts⟩ (hM l _) (va_cwS na hts g hw rfl rfl hd0 hRm) ⟨jPre.blind, fun U hU hW => ⟨rfl, by rw [hU], by rw [hU]; exact hPc, va_K.moved hW.alike hK, hDc.weaken (fun _ _ _ _ => trivial), by rw [hU]; exact hROc, hap, hN.warm hW⟩⟩ rfl hna hl.1 rfl (lv_room hcat) hd hroom) hS (fun q _ h => hFc q h) hFc (fun r w1 t H1 locs1 ht hvm hw1 hB hz1 hk1 hS => ?_)
  obtain ⟨hP1, hD1⟩ := hB
  rw [ht] at hP1
  obtain ⟨hP, hD⟩ := va_join hP hD isC isR hC hR0 hnR hdis hk1 hFc hP1 hD1
  exact kk r w1 hw1 H1 locs1 ls hP hD hS hl
theorem j_callSNi {X : jX} {cc : ByteArray} {nL : Nat} {own : String} {Ts : List Cond} {rm : Room} {D : va_G} {Y : Nat → ClassId} {RO : va_W} {k n : Nat} {ws : va_W} {lc : List (Nat × Value)} {pc : Nat} {st stk As : List Value} {y : MethodName} {wl wl' : List Cond} {rm' : Room} {post : Int → va_W → Prop} {bytes : ByteArray} {maxL index na : Nat} (C : jC X cc nL own Ts rm D Y RO) (isC isR : List Nat) {wc wr : va_W} (hM : ∀ l, jMi l y wl rm' D Y (wr ++ RO) As wc post) (hC : isC.map (fun i => ws[i]?) = wc.map some) (hR0 : isR.map (fun i => ws[i]?) = wr.map some) (hnC : va_nd isC = true) (hnR : va_nd isR = true) (hdis : ∀ i ∈ isR, i ∉ isC) {ret : Option FieldType} (hw : wl = Cond.code y bytes maxL ret :: wl') {host : String} (g : GoodIn Ts wl) (hst : Cond.static y ∈ Ts) (hini : Cond.initialized y.cls ∈ Ts) (hnw : ∀ U, jN U → va_Nw (.methodLinkNest own index y host) U) (hd0 : y.cls ≠ "java/lang/invoke/MethodHandle" ∧ y.cls ≠ "java/lang/invoke/VarHandle" ∧ (parseMethodDescriptor y.desc).map (fun d => d.parameters.length) = some na) (hRm : rm'.frames + 1 ≤ rm.frames ∧ 8 + (maxL + 11) + rm'.locals ≤ rm.locals) (hstk : stk = As.reverse ++ st) (hna : As.length = na) (hcat : (st.map fun v => v.category).sum ≤ 8) (hroom : k + rm'.cells ≤ rm.cells ∧ n + rm'.slots ≤ rm.slots) (hd : decode cc pc = .ok (.invokestatic index, 3)) (kk : ∀ (ev : Int) (w1 : va_W), post ev w1 → jW X nL (k + rm'.cells) (n + rm'.slots) (wr ++ w1) lc (pc + 3) (vI ev :: st)) : jW X nL k n ws lc pc stk := by
  obtain ⟨p, l, e, R, s, m, args, below, meth, c, Q, D', Y', A, H0, RO'⟩ := X
  obtain ⟨⟨hx, hb, hml, hown, hts⟩, hK, hA, ⟨rfl, rfl, rfl, rfl⟩, hR, hRA, hN⟩ := C
  intro H locs ls hP hD hS hl
  subst hstk
  have hPc := j_sub hP isC hC
  have hDc := hD.sub isC hnC hC
  have hFc := va_free hD hS hA isC hC
  have hROc := j_ro2 hP hR hRA hS isR hR0
  have hap := j_ap hD hRA isC isR hC hR0 hdis
  refine va_calli (va_runSN (As := As) (rest := st) ⟨hx, hb, hml, hown, hts⟩ (hM l _) ⟨va_cnB na hts g hw rfl rfl (hnw s hN) (hts _ hini) hd0 hRm, hts _ hst, trivial⟩ ⟨jPre.blind, fun U hU hW => ⟨rfl, by rw [hU], by rw [hU]; exact hPc, va_K.moved hW.alike hK, hDc.weaken (fun _ _ _ _ => trivial), by rw [hU]; exact hROc, hap, hN.warm hW⟩⟩ rfl hna hl.1 rfl (lv_room hcat) hd hroom) hS (fun q _ h => hFc q h) hFc (fun r w1 t H1 locs1 ht hvm hw1 hB hz1 hk1 hS => ?_)
  obtain ⟨hP1, hD1⟩ := hB
  rw [ht] at hP1
  obtain ⟨hP, hD⟩ := va_join hP hD isC isR hC hR0 hnR hdis hk1 hFc hP1 hD1
  obtain ⟨ev, rfl, hp⟩ := hw1
  exact kk ev w1 hp H1 locs1 ls hP hD hS hl
theorem j_callIv {X : jX} {cc : ByteArray} {nL : Nat} {own : String} {Ts : List Cond} {rm : Room} {D : va_G} {Y : Nat → ClassId} {RO : va_W} {k n : Nat} {ws : va_W} {lc : List (Nat × Value)} {pc : Nat} {st stk As : List Value} {b : Nat} {y : MethodName} {wl wl' : List Cond} {rm' : Room} {post : va_W → Prop} {bytes : ByteArray} {maxL index na : Nat} (C : jC X cc nL own Ts rm D Y RO) (isC isR : List Nat) {wc wr : va_W} (hM : ∀ l, jMv l y wl rm' D Y (wr ++ RO) (.ref b :: As) wc post) (hC : isC.map (fun i => ws[i]?) = wc.map some) (hR0 : isR.map (fun i => ws[i]?) = wr.map some) (hnC : va_nd isC = true) (hnR : va_nd isR = true) (hdis : ∀ i ∈ isR, i ∉ isC) (hw : wl = Cond.code y bytes maxL none :: wl') (g : GoodIn Ts wl) (hini : Cond.initialized y.cls ∈ Ts) (hlk : Cond.methodLink own index y ∈ Ts) (hinst : Cond.instanceMethod y ∈ Ts) (hy1 : y.name = "<init>") (hd0 : y.cls ≠ "java/lang/invoke/MethodHandle" ∧ y.cls ≠ "java/lang/invoke/VarHandle" ∧ (parseMethodDescriptor y.desc).map (fun d => d.parameters.length) = some na) (hRm : rm'.frames + 1 ≤ rm.frames ∧ 8 + (maxL + 11) + rm'.locals ≤ rm.locals) (hstk : stk = As.reverse ++ .ref b :: st) (hna : As.length = na) (hcat : (st.map fun v => v.category).sum ≤ 8) (hroom : k + rm'.cells ≤ rm.cells ∧ n + rm'.slots ≤ rm.slots) (hd : decode cc pc = .ok (.invokespecial index, 3)) (kk : ∀ w1 : va_W, post w1 → jW X nL (k + rm'.cells) (n + rm'.slots) (wr ++ w1) lc (pc + 3) st) : jW X nL k n ws lc pc stk := by
  obtain ⟨p, l, e, R, s, m, args, below, meth, c, Q, D', Y', A, H0, RO'⟩ := X
  obtain ⟨⟨hx, hb, hml, hown, hts⟩, hK, hA, ⟨rfl, rfl, rfl, rfl⟩, hR, hRA, hN⟩ := C
  intro H locs ls hP hD hS hl
  subst hstk
  have hPc := j_sub hP isC hC
  have hDc := hD.sub isC hnC hC
  have hFc := va_free hD hS hA isC hC
  have hROc := j_ro2 hP hR hRA hS isR hR0
  have hap := j_ap hD hRA isC isR hC hR0 hdis
  refine va_callv (va_runI (As := As) (rest := st) ⟨hx, hb, hml, hown, hts⟩ (hM l _) (cwI na hts g hw rfl rfl (hts _ hini) (hts _ hlk) (hts _ hinst) hy1 hd0 hRm) ⟨jPre.blind, fun U hU hW => ⟨rfl, by rw [hU], by rw [hU]; exact hPc, va_K.moved hW.alike hK, hDc.weaken (fun _ _ _ _ => trivial), by rw [hU]; exact hROc, hap, hN.warm hW⟩⟩ rfl hna hl.1 rfl (lv_room hcat) hd hroom) hS (fun q _ h => hFc q h) hFc (fun w1 t H1 locs1 ht hvm hw1 hB hz1 hk1 hS => ?_)
  obtain ⟨hP1, hD1⟩ := hB
  rw [ht] at hP1
  obtain ⟨hP, hD⟩ := va_join hP hD isC isR hC hR0 hnR hdis hk1 hFc hP1 hD1
  exact kk w1 hw1 H1 locs1 ls hP hD hS hl
theorem j_callINv {X : jX} {cc : ByteArray} {nL : Nat} {own : String} {Ts : List Cond} {rm : Room} {D : va_G} {Y : Nat → ClassId} {RO : va_W} {k n : Nat} {ws : va_W} {lc : List (Nat × Value)} {pc : Nat} {st stk As : List Value} {b : Nat} {y : MethodName} {wl wl' : List Cond} {rm' : Room} {post : va_W → Prop} {bytes : ByteArray} {maxL index na : Nat} (C : jC X cc nL own Ts rm D Y RO) (isC isR : List Nat) {wc wr : va_W} (hM : ∀ l, jMv l y wl rm' D Y (wr ++ RO) (.ref b :: As) wc post) (hC : isC.map (fun i => ws[i]?) = wc.map some) (hR0 : isR.map (fun i => ws[i]?) = wr.map some) (hnC : va_nd isC = true) (hnR : va_nd isR = true) (hdis : ∀ i ∈ isR, i ∉ isC) (hw : wl = Cond.code y bytes maxL none :: wl') {host : String} (g : GoodIn Ts wl) (hini : Cond.initialized y.cls ∈ Ts) (hinst : Cond.instanceMethod y ∈ Ts) (hnw : ∀ U, jN U → va_Nw (.methodLinkNest own index y host) U) (hy1 : y.name = "<init>") (hd0 : y.cls ≠ "java/lang/invoke/MethodHandle" ∧ y.cls ≠ "java/lang/invoke/VarHandle" ∧ (parseMethodDescriptor y.desc).map (fun d => d.parameters.length) = some na) (hRm : rm'.frames + 1 ≤ rm.frames ∧ 8 + (maxL + 11) + rm'.locals ≤ rm.locals) (hstk : stk = As.reverse ++ .ref b :: st) (hna : As.length = na) (hcat : (st.map fun v => v.category).sum ≤ 8) (hroom : k + rm'.cells ≤ rm.cells ∧ n + rm'.slots ≤ rm.slots) (hd : decode cc pc = .ok (.invokespecial index, 3)) (kk : ∀ w1 : va_W, post w1 → jW X nL (k + rm'.cells) (n + rm'.slots) (wr ++ w1) lc (pc + 3) st) : jW X nL k n ws lc pc stk := by
  obtain ⟨p, l, e, R, s, m, args, below, meth, c, Q, D', Y', A, H0, RO'⟩ := X
  obtain ⟨⟨hx, hb, hml, hown, hts⟩, hK, hA, ⟨rfl, rfl, rfl, rfl⟩, hR, hRA, hN⟩ := C
  intro H locs ls hP hD hS hl
  subst hstk
  have hPc := j_sub hP isC hC
  have hDc := hD.sub isC hnC hC
  have hFc := va_free hD hS hA isC hC
  have hROc := j_ro2 hP hR hRA hS isR hR0
  have hap := j_ap hD hRA isC isR hC hR0 hdis
  refine va_callv (va_runIN (As := As) (rest := st) ⟨hx, hb, hml, hown, hts⟩ (hM l _) ⟨va_cnB na hts g hw rfl rfl (hnw s hN) (hts _ hini) hd0 hRm, hy1, hts _ hinst⟩ ⟨jPre.blind, fun U hU hW => ⟨rfl, by rw [hU], by rw [hU]; exact hPc, va_K.moved hW.alike hK, hDc.weaken (fun _ _ _ _ => trivial), by rw [hU]; exact hROc, hap, hN.warm hW⟩⟩ rfl hna hl.1 rfl (lv_room hcat) hd hroom) hS (fun q _ h => hFc q h) hFc (fun w1 t H1 locs1 ht hvm hw1 hB hz1 hk1 hS => ?_)
  obtain ⟨hP1, hD1⟩ := hB
  rw [ht] at hP1
  obtain ⟨hP, hD⟩ := va_join hP hD isC isR hC hR0 hnR hdis hk1 hFc hP1 hD1
  exact kk w1 hw1 H1 locs1 ls hP hD hS hl
end
section
theorem va_P_cong {D : va_G} {ws : va_W} {H : Heap} {q1 a : Nat} {cA : ClassId} {x x' : vp_A} (he : vp_cell cA x = vp_cell cA x') (h : va_P D vwCl (ws.set q1 (a, .inl (cA, x))) H) : va_P D vwCl (ws.set q1 (a, .inl (cA, x'))) H := by
  intro k q hk
  by_cases e : q1 = k
  · subst e
    by_cases hl : q1 < ws.length
    · rw [List.getElem?_set_self hl] at hk
      cases hk
      have := h q1 (a, .inl (cA, x)) (List.getElem?_set_self hl)
      show H[a]? = some (vp_cell cA x')
      rw [← he]
      exact this
    · rw [List.getElem?_eq_none (by rw [List.length_set]; omega)] at hk
      cases hk
  · rw [List.getElem?_set_ne e] at hk
    exact h k q (by rw [List.getElem?_set_ne e]; exact hk)
theorem arrV_cong {cA : ClassId} {n : Nat} {f g : Nat → Value} (h : ∀ k, k < n → f k = g k) : arrV cA n f = arrV cA n g := by
  unfold arrV
  congr 1
  congr 1
  funext j
  exact h j.val j.isLt
theorem j_copy {X : jX} {cc : ByteArray} {nL : Nat} {own : String} {Ts : List Cond} {rm : Room} {D : va_G} {Y : Nat → ClassId} {RO : va_W} {k n : Nat} {ws ws' : va_W} {lc : List (Nat × Value)} {pc index : Nat} {st : List Value} (C : jC X cc nL own Ts rm D Y RO) (q0 q1 : Nat) {cA : ClassId} {m0 : Nat} {f g : Int → Int} {a0 a : Nat} (ha0 : ws[q0]? = some (a0, aI cA m0 f)) (ha1 : ws[q1]? = some (a, aI cA m0 g)) (hcA : cA = Y 0) (hm : m0 < 2147483648) {t : Int} (ht : t = (m0 : Int)) (hlink : Cond.methodLink own index arraycopyName ∈ Ts) (hnat : Cond.native arraycopyName ∈ Ts) (hstat : Cond.static arraycopyName ∈ Ts) (hini : Cond.initialized "java/lang/System" ∈ Ts) (hfr : 1 ≤ rm.frames) (hlo : (st.map fun v => v.category).sum + (nativeFrameWords "java/lang/System" "arraycopy" 5 + 11) ≤ rm.locals) (hw : ws.set q1 (a, aI cA m0 f) = ws') (hd : decode cc pc = .ok (.invokestatic index, 3)) (kk : jW X nL k n ws' lc (pc + 3) st) : jW X nL k n ws lc pc (vI t :: vI 0 :: .ref a :: vI 0 :: .ref a0 :: st) := by
  obtain ⟨p, l, e, R, s, m, args, below, meth, c, Q, D', Y', A, H0, RO'⟩ := X
  obtain ⟨⟨hx, hb, hml, hown, hts⟩, hK, hA, ⟨rfl, rfl, rfl, rfl⟩, hR, hRA, hN⟩ := C
  intro H locs ls hP hD hS hl
  subst hcA hw ht
  have e0 : (Int32.ofInt 0).toNatClampNeg = 0 := rfl
  have en : (Int32.ofInt (m0 : Int)).toNatClampNeg = m0 := by rw [nj_cl (by omega)]; omega
  have z0 : ¬ Int32.ofInt 0 < 0 := by decide
  have zn : ¬ Int32.ofInt (m0 : Int) < 0 := by rw [nj_z, nj_lt (by omega)]; omega
  refine va_copyi hx hb (by rw [hml]; exact hl.1.symm) hown (hts _ hlink) (hts _ hnat) (hts _ hstat) (hts _ hini) hK hP hD hS q0 q1 0 0 (c0 := Y' 0) (c1 := Y' 0) (n0 := m0) (n1 := m0) (f := fun k : Nat => Int32.ofInt (f (k : Int))) (g := fun k : Nat => Int32.ofInt (g (k : Int))) ha0 ha1 rfl rfl rfl z0 z0 zn (by rw [e0, en]; omega) (by rw [e0, en]; omega) (fun _ _ => rfl) hfr hlo hd (fun H1 locs1 hP1 hD1 hS1 => ?_)
  refine kk H1 locs1 ls (va_P_cong ?_ hP1) (hD.set ha1) hS1 hl
  rw [vp_cell_i, vp_cell_i]
  refine arrV_cong (fun k hk => ?_)
  unfold va_cpy
  rw [e0, en, if_pos (by omega)]
  simp
theorem j_mmin {X : jX} {cc : ByteArray} {nL : Nat} {own : String} {Ts : List Cond} {rm : Room} {D : va_G} {Y : Nat → ClassId} {RO : va_W} {k n : Nat} {ws : va_W} {lc : List (Nat × Value)} {pc index : Nat} {st : List Value} (C : jC X cc nL own Ts rm D Y RO) {a b : Int} (hr : (-2147483648 ≤ a ∧ a ≤ 2147483647) ∧ (-2147483648 ≤ b ∧ b ≤ 2147483647)) (hlink : Cond.methodLink own index Lib.Math.min.name ∈ Ts) (hstat : Cond.static Lib.Math.min.name ∈ Ts) (hini : Cond.initialized "java/lang/Math" ∈ Ts) (hcode : Cond.code Lib.Math.min.name Lib.Math.min.code 2 (some .int) ∈ Ts) (hfr : 1 ≤ rm.frames) (hlo : (st.map fun v => v.category).sum + 13 ≤ rm.locals) (hcl : k ≤ rm.cells ∧ n ≤ rm.slots) (hd : decode cc pc = .ok (.invokestatic index, 3)) (kk : jW X nL k n ws lc (pc + 3) (vI (if b < a then b else a) :: st)) : jW X nL k n ws lc pc (vI b :: vI a :: st) := by
  obtain ⟨p, l, e, R, s, m, args, below, meth, c, Q, D', Y', A, H0, RO'⟩ := X
  obtain ⟨⟨hx, hb, hml, hown, hts⟩, hK, hA, ⟨rfl, rfl, rfl, rfl⟩, hR, hRA, hN⟩ := C
  intro H locs ls hP hD hS hl
  refine va_mmin hx hb (by rw [hml]; exact hl.1.symm) hown (hts _ hlink) (hts _ hstat) (hts _ hini) (hts _ hcode) hfr hlo hcl.1 hcl.2 hd ?_
  have e1 : (if Int32.ofInt b < Int32.ofInt a then Int32.ofInt b else Int32.ofInt a) = Int32.ofInt (if b < a then b else a) := by
    by_cases q : b < a
    · rw [if_pos ((nj_lt hr.symm).mpr q), if_pos q]
    · rw [if_neg (fun h => q ((nj_lt hr.symm).mp h)), if_neg q]
  rw [e1]
  exact kk H locs ls hP hD hS hl
theorem j_mabs {X : jX} {cc : ByteArray} {nL : Nat} {own : String} {Ts : List Cond} {rm : Room} {D : va_G} {Y : Nat → ClassId} {RO : va_W} {k n : Nat} {ws : va_W} {lc : List (Nat × Value)} {pc index : Nat} {st : List Value} (C : jC X cc nL own Ts rm D Y RO) {a : Int} (hr : -2147483648 ≤ a ∧ a ≤ 2147483647) (hlink : Cond.methodLink own index Lib.Math.abs.name ∈ Ts) (hstat : Cond.static Lib.Math.abs.name ∈ Ts) (hini : Cond.initialized "java/lang/Math" ∈ Ts) (hcode : Cond.code Lib.Math.abs.name Lib.Math.abs.code 1 (some .int) ∈ Ts) (hfr : 1 ≤ rm.frames) (hlo : (st.map fun v => v.category).sum + 13 ≤ rm.locals) (hcl : k ≤ rm.cells ∧ n ≤ rm.slots) (hd : decode cc pc = .ok (.invokestatic index, 3)) (kk : jW X nL k n ws lc (pc + 3) (vI (if 0 ≤ a then a else -a) :: st)) : jW X nL k n ws lc pc (vI a :: st) := by
  obtain ⟨p, l, e, R, s, m, args, below, meth, c, Q, D', Y', A, H0, RO'⟩ := X
  obtain ⟨⟨hx, hb, hml, hown, hts⟩, hK, hA, ⟨rfl, rfl, rfl, rfl⟩, hR, hRA, hN⟩ := C
  intro H locs ls hP hD hS hl
  refine va_mabs hx hb (by rw [hml]; exact hl.1.symm) hown (hts _ hlink) (hts _ hstat) (hts _ hini) (hts _ hcode) hfr hlo hcl.1 hcl.2 hd ?_
  have e1 : (if 0 ≤ Int32.ofInt a then Int32.ofInt a else 0 - Int32.ofInt a) = Int32.ofInt (if 0 ≤ a then a else -a) := by
    have h0 : (0 : Int32) ≤ Int32.ofInt a ↔ 0 ≤ a := by rw [nj_z]; exact nj_le ⟨by decide, hr⟩
    by_cases q : 0 ≤ a
    · rw [if_pos (h0.mpr q), if_pos q]
    · rw [if_neg (fun h => q (h0.mp h)), if_neg q, nj_z, ← Int32.ofInt_sub]; congr 1; omega
  rw [e1]
  exact kk H locs ls hP hD hS hl
theorem j_putF {X : jX} {cc : ByteArray} {nL : Nat} {own : String} {Ts : List Cond} {rm : Room} {D : va_G} {Y : Nat → ClassId} {RO : va_W} {k n : Nat} {ws : va_W} {lc : List (Nat × Value)} {pc : Nat} {st : List Value} (C : jC X cc nL own Ts rm D Y RO) {ci index N : Nat} {Cn ref : String} {T : u_T} {ty0 : Nat → FieldType} {fs : List Value} {a : Nat} {v : Value} {ty : FieldType} {ws' : va_W} (q0 : Nat) (he : ws[q0]? = some (a, oC ci fs)) (hc : vwCl[ci]? = some (Cn, T, N)) (hin : ∀ w ∈ u_ws Cn T N, w ∈ Ts) (hty : ∀ k, k < N → parseFieldDescriptor (T k).2.2.1 = some (ty0 k)) (hnm : ∀ a, a < N → ∀ b, b < N → a ≠ b → (T a).2.1 ≠ (T b).2.1) (kf : Nat) (hk : kf < N) (hlink : Cond.fieldLink own index ref (T kf).2.1 (T kf).2.2.1 ∈ Ts) (hsame : (T kf).1 = ref ∨ Cond.sameField ref (T kf).1 (T kf).2.1 (T kf).2.2.1 ∈ Ts) (hfin : (T kf).2.2.2 = true) (hI : jI X) (hdecl : (T kf).1 = own) (hdd : ty0 kf = ty) (hn : narrow ty v = v) (hfit : fits ty v = true) (hl0 : kf < fs.length) (hw : ws.set q0 (a, oC ci (fs.set kf v)) = ws') (hd : decode cc pc = .ok (.putfield index, 3)) (kk : jW X nL k n ws' lc (pc + 3) st) : jW X nL k n ws lc pc (v :: .ref a :: st) := by
  obtain ⟨p, l, e, R, s, m, args, below, meth, c, Q, D', Y', A, H0, RO'⟩ := X
  obtain ⟨⟨hx, hb, hml, hown, hts⟩, hK, hA, ⟨rfl, rfl, rfl, rfl⟩, hR, hRA, hN⟩ := C
  intro H locs ls hP hD hS hl
  subst hw hdd
  exact va_putF hx hb hts hin ty0 hty hnm hown hK hP hD hS q0 he hc kf hk (hts _ hlink) (j_same hts hsame) hfin hI hdecl (hty kf hk) hn hfit hl0 hd (fun H1 locs1 hP hD hS => kk H1 locs1 ls hP hD hS hl)
theorem j_objInit {X : jX} {cc : ByteArray} {nL : Nat} {own : String} {Ts : List Cond} {rm : Room} {D : va_G} {Y : Nat → ClassId} {RO : va_W} {k n : Nat} {ws : va_W} {lc : List (Nat × Value)} {pc : Nat} {st : List Value} (C : jC X cc nL own Ts rm D Y RO) {idx a : Nat} (hlink : Cond.methodLink own idx objectInit ∈ Ts) (hinst : Cond.instanceMethod objectInit ∈ Ts) (hcode : Cond.code objectInit ⟨#[0xb1]⟩ 1 none ∈ Ts) (hfr : 1 ≤ rm.frames) (hlo : (st.map fun v => v.category).sum + 12 ≤ rm.locals) (hd : decode cc pc = .ok (.invokespecial idx, 3)) (kk : jW X nL k n ws lc (pc + 3) st) : jW X nL k n ws lc pc (.ref a :: st) := by
  obtain ⟨p, l, e, R, s, m, args, below, meth, c, Q, D', Y', A, H0, RO'⟩ := X
  obtain ⟨⟨hx, hb, hml, hown, hts⟩, hK, hA, ⟨rfl, rfl, rfl, rfl⟩, hR, hRA, hN⟩ := C
  intro H locs ls hP hD hS hl
  exact W.objInit hx hb hown (hts _ hlink) (hts _ hinst) (hts _ hcode) rfl (by rw [hml]; exact hl.1) rfl hd hfr (by show 2 * 0 + _ + 12 ≤ _; omega) (kk H locs ls hP hD hS hl)
theorem j_new {X : jX} {cc : ByteArray} {nL : Nat} {own : String} {Ts : List Cond} {rm : Room} {D : va_G} {Y : Nat → ClassId} {RO : va_W} {k n : Nat} {ws : va_W} {lc : List (Nat × Value)} {pc : Nat} {st : List Value} (C : jC X cc nL own Ts rm D Y RO) {ci index N : Nat} {Cn : String} {T : u_T} (fs : List Value) {ty0 : Nat → FieldType} (hc : vwCl[ci]? = some (Cn, T, N)) (hin : ∀ w ∈ u_ws Cn T N, w ∈ Ts) (hty : ∀ k, k < N → parseFieldDescriptor (T k).2.2.1 = some (ty0 k)) (hcl : Cond.classLink own index Cn ∈ Ts) (hinst : Cond.instantiable Cn N ∈ Ts) (hini : Cond.initialized Cn ∈ Ts) (hfs : ∀ j, j < N → defaultValue (ty0 j) = vp_V fs j) (hroom : k + 1 ≤ rm.cells ∧ n + N ≤ rm.slots) (hd : decode cc pc = .ok (.new index, 3)) (kk : ∀ q : Nat, jW X nL (k + 1) (n + N) (ws ++ [(q, oC ci fs)]) lc (pc + 3) (.ref q :: st)) : jW X nL k n ws lc pc st := by
  obtain ⟨p, l, e, R, s, m, args, below, meth, c, Q, D', Y', A, H0, RO'⟩ := X
  obtain ⟨⟨hx, hb, hml, hown, hts⟩, hK, hA, ⟨rfl, rfl, rfl, rfl⟩, hR, hRA, hN⟩ := C
  intro H locs ls hP hD hS hl
  exact va_new hx hb hts hin ty0 hty hown (hts _ hcl) (hts _ hinst) (hts _ hini) hK hP hD hS hA hc hfs hroom.1 hroom.2 hd (fun q H1 hP hD hS => kk q H1 locs ls hP hD hS hl)
theorem list_set_same {α : Type} {l : List α} {q0 : Nat} {x : α} (h : l[q0]? = some x) : l.set q0 x = l := by
  apply List.ext_getElem?
  intro i
  by_cases e : q0 = i
  · subst e
    have hl := (List.getElem?_eq_some_iff.mp h).1
    rw [List.getElem?_set_self hl, h]
  · rw [List.getElem?_set_ne e]
theorem j_ext {X : jX} {nL k n : Nat} {ws ws' : va_W} {lc : List (Nat × Value)} {pc : Nat} {st : List Value} {a m0 : Nat} {cA : ClassId} {g g' : Int → Int} (q0 : Nat) (he : ws[q0]? = some (a, aI cA m0 g)) (hg : ∀ i : Int, 0 ≤ i ∧ i < (m0 : Int) → g i = g' i) (hw : ws.set q0 (a, aI cA m0 g') = ws') (kk : jW X nL k n ws' lc pc st) : jW X nL k n ws lc pc st := by
  obtain ⟨p, l, e, R, s, m, args, below, meth, c, Q, D', Y', A, H0, RO'⟩ := X
  intro H locs ls hP hD hS hl
  subst hw
  refine kk H locs ls ?_ (hD.set he) hS hl
  have h1 : va_P D' vwCl (ws.set q0 (a, aI cA m0 g)) H := by rw [list_set_same he]; exact hP
  refine va_P_cong (x := (m0, .inl (fun k : Nat => Int32.ofInt (g (k : Int))))) ?_ h1
  rw [vp_cell_i, vp_cell_i]
  exact arrV_cong (fun k hk => by rw [hg (k : Int) (by omega)])
end
section
/-! what the calls do, over whole numbers -/
def foldI {σ : Type} (f : Int → σ → σ) : Nat → σ → σ
  | 0, s => s
  | k + 1, s => f (k : Int) (foldI f k s)
/-- f over 0, 1 .. n-1 -/
def fo {σ : Type} (f : Int → σ → σ) (n : Int) (s : σ) : σ := foldI f n.toNat s
theorem fo_zero {σ : Type} (f : Int → σ → σ) (s : σ) : fo f 0 s = s := rfl
theorem fo_succ {σ : Type} (f : Int → σ → σ) {n : Int} (h : 0 ≤ n) (s : σ) : fo f (n + 1) s = f n (fo f n s) := by
  unfold fo
  have e : (n + 1).toNat = n.toNat + 1 := by omega
  rw [e]
  show f ((n.toNat : Nat) : Int) _ = _
  rw [show ((n.toNat : Nat) : Int) = n by omega]
theorem fo_neg {σ : Type} (f : Int → σ → σ) {n : Int} (h : n ≤ 0) (s : σ) : fo f n s = s := by
  unfold fo
  rw [show n.toNat = 0 by omega]
  rfl
/-- what holds at the start and is kept holds in the end -/
theorem fo_ind {σ : Type} {f : Int → σ → σ} (P : Int → σ → Prop) {n : Int} (hn : 0 ≤ n) {s : σ} (h0 : P 0 s) (hs : ∀ (k : Int) (t : σ), 0 ≤ k → k < n → P k t → P (k + 1) (f k t)) : P n (fo f n s) := by
  have go : ∀ m : Nat, (m : Int) ≤ n → P (m : Int) (foldI f m s) := by
    intro m
    induction m with
    | zero => intro _; exact h0
    | succ m ih =>
      intro hm
      have := hs (m : Int) _ (by omega) (by omega) (ih (by omega))
      rw [show ((m + 1 : Nat) : Int) = (m : Int) + 1 by omega]
      exact this
  have := go n.toNat (by omega)
  rwa [show ((n.toNat : Nat) : Int) = n by omega] at this
theorem up_self {α : Type} (g : Int → α) (i : Int) : up g i (g i) = g := by
  funext j
  unfold up
  by_cases h : j = i
  · rw [if_pos h, h]
  · rw [if_neg h]
/-- the moor: heights, marks, week, last, seed, laid, taken, spilt -/
abbrev MS : Type := (Int → Int) × (Int → Int) × Int × Int × Int × Int × Int × Int
abbrev ms_h (S : MS) : Int → Int := S.1
abbrev ms_m (S : MS) : Int → Int := S.2.1
abbrev ms_w (S : MS) : Int := S.2.2.1
abbrev ms_l (S : MS) : Int := S.2.2.2.1
abbrev ms_s (S : MS) : Int := S.2.2.2.2.1
abbrev ms_a (S : MS) : Int := S.2.2.2.2.2.1
abbrev ms_t (S : MS) : Int := S.2.2.2.2.2.2.1
abbrev ms_p (S : MS) : Int := S.2.2.2.2.2.2.2
def okS (S : MS) : Prop := (∀ i : Int, 0 ≤ i ∧ i < 7 → 0 ≤ ms_h S i ∧ ms_h S i ≤ 60) ∧ (∀ j : Int, 0 ≤ ms_m S j ∧ ms_m S j ≤ ms_w S) ∧ (0 ≤ ms_l S ∧ ms_l S < 7) ∧ (0 ≤ ms_s S ∧ ms_s S ≤ 2147483647)
theorem okS.w {S : MS} (h : okS S) : 0 ≤ ms_w S := by have := h.2.1 0; omega
/-- a pebble with its mark comes upon a cairn -/
def putS (c x : Int) (S : MS) : MS := if ms_h S c = 60 then (ms_h S, ms_m S, ms_w S, ms_l S, ms_s S, ms_a S, ms_t S, ms_p S + 1) else (up (ms_h S) c (ms_h S c + 1), up (ms_m S) (60 * c + ms_h S c) x, ms_w S, ms_l S, ms_s S, ms_a S, ms_t S, ms_p S)
theorem putS_full {c x : Int} {S : MS} (h : ms_h S c = 60) : putS c x S = (ms_h S, ms_m S, ms_w S, ms_l S, ms_s S, ms_a S, ms_t S, ms_p S + 1) := if_pos h
theorem putS_not {c x : Int} {S : MS} (h : ¬ ms_h S c = 60) : putS c x S = (up (ms_h S) c (ms_h S c + 1), up (ms_m S) (60 * c + ms_h S c) x, ms_w S, ms_l S, ms_s S, ms_a S, ms_t S, ms_p S) := if_neg h
theorem putS_w (c x : Int) (S : MS) : ms_w (putS c x S) = ms_w S := by unfold putS; split <;> rfl
theorem putS_l (c x : Int) (S : MS) : ms_l (putS c x S) = ms_l S := by unfold putS; split <;> rfl
theorem putS_s (c x : Int) (S : MS) : ms_s (putS c x S) = ms_s S := by unfold putS; split <;> rfl
theorem putS_a (c x : Int) (S : MS) : ms_a (putS c x S) = ms_a S := by unfold putS; split <;> rfl
theorem putS_t (c x : Int) (S : MS) : ms_t (putS c x S) = ms_t S := by unfold putS; split <;> rfl
theorem okS_put {c x : Int} {S : MS} (h : okS S) (hc : 0 ≤ c ∧ c < 7) (hx : 0 ≤ x ∧ x ≤ ms_w S) : okS (putS c x S) := by
  by_cases hf : ms_h S c = 60
  · rw [putS_full hf]; exact h
  · rw [putS_not hf]
    refine ⟨fun i hi => ?_, fun j => ?_, h.2.2⟩
    · show 0 ≤ up (ms_h S) c _ i ∧ up (ms_h S) c _ i ≤ 60
      unfold up
      have h1 := h.1 i hi
      have h2 := h.1 c hc
      split <;> omega
    · show 0 ≤ up (ms_m S) _ x j ∧ up (ms_m S) _ x j ≤ ms_w S
      unfold up
      split
      · exact hx
      · exact h.2.1 j
def setA (S : MS) (v : Int) : MS := (ms_h S, ms_m S, ms_w S, ms_l S, ms_s S, v, ms_t S, ms_p S)
def setL (S : MS) (v : Int) : MS := (ms_h S, ms_m S, ms_w S, v, ms_s S, ms_a S, ms_t S, ms_p S)
def setW (S : MS) (v : Int) : MS := (ms_h S, ms_m S, v, ms_l S, ms_s S, ms_a S, ms_t S, ms_p S)
def setD (S : MS) (v : Int) : MS := (ms_h S, ms_m S, ms_w S, ms_l S, v, ms_a S, ms_t S, ms_p S)
def setH (S : MS) (v : Int → Int) : MS := (v, ms_m S, ms_w S, ms_l S, ms_s S, ms_a S, ms_t S, ms_p S)
def putW (c : Int) (S : MS) : MS := putS c (ms_w S) S
def putN (c n : Int) (S : MS) : MS := fo (fun _ T => putW c T) n S
/-- so many new pebbles are laid on a cairn -/
def layS (c n : Int) (S : MS) : MS := setA (putN c n S) (ms_a (putN c n S) + n)
theorem okS_putN {c n : Int} {S : MS} (h : okS S) (hc : 0 ≤ c ∧ c < 7) (hn : 0 ≤ n) : okS (putN c n S) ∧ ms_w (putN c n S) = ms_w S ∧ ms_a (putN c n S) = ms_a S := by
  refine fo_ind (P := fun _ T => okS T ∧ ms_w T = ms_w S ∧ ms_a T = ms_a S) hn ⟨h, rfl, rfl⟩ (fun k T _ _ hT => ?_)
  exact ⟨okS_put hT.1 hc ⟨hT.1.w, Int.le_refl _⟩, (putS_w _ _ _).trans hT.2.1, (putS_a _ _ _).trans hT.2.2⟩
theorem okS_lay {c n : Int} {S : MS} (h : okS S) (hc : 0 ≤ c ∧ c < 7) (hn : 0 ≤ n) : okS (layS c n S) := (okS_putN h hc hn).1
theorem layS_w {c n : Int} {S : MS} (h : okS S) (hc : 0 ≤ c ∧ c < 7) (hn : 0 ≤ n) : ms_w (layS c n S) = ms_w S := (okS_putN h hc hn).2.1
theorem putS_setA (c x v : Int) (S : MS) : putS c x (setA S v) = setA (putS c x S) v := by
  by_cases h : ms_h S c = 60
  · rw [putS_full (S := setA S v) h, putS_full h]; rfl
  · rw [putS_not (S := setA S v) h, putS_not h]; rfl
theorem putN_setA (c n v : Int) (S : MS) : putN c n (setA S v) = setA (putN c n S) v := by
  unfold putN fo
  induction n.toNat with
  | zero => rfl
  | succ k ih => show putW c (foldI _ k _) = setA (putW c (foldI _ k _)) v; rw [ih]; exact putS_setA c _ v _
/-- so many taken off a cairn, as far as there are some -/
def offS (c n : Int) (S : MS) : Int := if ms_h S c < n then ms_h S c else n
def takeS (c n : Int) (S : MS) : MS := (up (ms_h S) c (ms_h S c - offS c n S), ms_m S, ms_w S, ms_l S, ms_s S, ms_a S, ms_t S + offS c n S, ms_p S)
theorem okS_take {c n : Int} {S : MS} (h : okS S) (hc : 0 ≤ c ∧ c < 7) (hn : 0 ≤ n) : okS (takeS c n S) := by
  refine ⟨fun i hi => ?_, h.2.1, h.2.2⟩
  show 0 ≤ up (ms_h S) c _ i ∧ up (ms_h S) c _ i ≤ 60
  have h1 := h.1 i hi
  have h2 := h.1 c hc
  unfold up offS
  split <;> (try split) <;> omega
/-- the cairn with most, with fewest (of like ones the least) -/
def mostF (h : Int → Int) (i b : Int) : Int := if h b < h i then i else b
def leastF (h : Int → Int) (i b : Int) : Int := if h i < h b then i else b
def mostI (h : Int → Int) : Int := fo (mostF h) 7 0
def leastI (h : Int → Int) : Int := fo (leastF h) 7 0
theorem mostI_in (h : Int → Int) : 0 ≤ mostI h ∧ mostI h < 7 := by
  have := fo_ind (f := mostF h) (s := 0) (n := 7) (P := fun k b => 0 ≤ b ∧ (b < k ∨ (k = 0 ∧ b = 0))) (by decide) (by decide) (fun k b hk _ hb => by unfold mostF; split <;> omega)
  unfold mostI; omega
theorem leastI_in (h : Int → Int) : 0 ≤ leastI h ∧ leastI h < 7 := by
  have := fo_ind (f := leastF h) (s := 0) (n := 7) (P := fun k b => 0 ≤ b ∧ (b < k ∨ (k = 0 ∧ b = 0))) (by decide) (by decide) (fun k b hk _ hb => by unfold leastF; split <;> omega)
  unfold leastI; omega
def sumF (h : Int → Int) (i s : Int) : Int := s + h i
def sumI (h : Int → Int) (n : Int) : Int := fo (sumF h) n 0
/-- a draw -/
def drawS (S : MS) : MS := setD S ((1103515245 * ms_s S + 12345) % 2147483648)
def drawV (S : MS) : Int := (ms_s S / 65536) % 10
theorem okS_draw {S : MS} (h : okS S) : okS (drawS S) := ⟨h.1, h.2.1, h.2.2.1, by show 0 ≤ (1103515245 * ms_s S + 12345) % 2147483648 ∧ (1103515245 * ms_s S + 12345) % 2147483648 ≤ 2147483647; omega⟩
/-- a rule's cairn -/
def ruleS (r num : Int) (S : MS) : Int := if r = 7 then mostI (ms_h S) else if r = 8 then leastI (ms_h S) else if r = 9 then num else if r = 10 then (ms_l S + 1) % 7 else r
def okR (r : Int) : Prop := 0 ≤ r ∧ r ≤ 10
theorem ruleS_in {r num : Int} {S : MS} (hr : okR r) (hn : 0 ≤ num ∧ num < 7) (h : okS S) : 0 ≤ ruleS r num S ∧ ruleS r num S < 7 := by
  unfold ruleS
  have h1 := mostI_in (ms_h S)
  have h2 := leastI_in (ms_h S)
  have h3 := h.2.2.1
  unfold okR at hr
  split
  · exact h1
  split
  · exact h2
  split
  · exact hn
  split
  · omega
  · omega
/-- a parish: kind, n, walkers, wish, sin; a custom: the rule of a wish, of a sin, every -/
abbrev PT : Type := Int × Int × Int × Int × Int
abbrev pk (P : PT) : Int := P.1
abbrev pn (P : PT) : Int := P.2.1
abbrev pw (P : PT) : Int := P.2.2.1
abbrev pi (P : PT) : Int := P.2.2.2.1
abbrev pz (P : PT) : Int := P.2.2.2.2
abbrev CT : Type := Int × Int × Int
abbrev cw (C : CT) : Int := C.1
abbrev cz (C : CT) : Int := C.2.1
abbrev ce (C : CT) : Int := C.2.2
def okP (P : PT) : Prop := (0 ≤ pk P ∧ pk P ≤ 3) ∧ (pk P = 0 → pn P = 0) ∧ (pk P = 1 → 2 ≤ pn P ∧ pn P ≤ 4) ∧ (2 ≤ pk P → 0 ≤ pn P ∧ pn P < 7) ∧ (1 ≤ pw P ∧ pw P ≤ 9) ∧ (0 ≤ pi P ∧ pi P ≤ 10) ∧ (0 ≤ pz P ∧ pz P ≤ 10)
def okC (C : CT) : Prop := okR (cw C) ∧ okR (cz C) ∧ (0 ≤ ce C ∧ ce C ≤ 9)
def giftP (P : PT) : Int := if pk P = 1 then pn P else 1
def lossP (P : PT) : Int := if 2 ≤ pk P then 0 else 1
def hideP (P : PT) : Int := if 2 ≤ pk P then pn P else -1
theorem giftP_in {P : PT} (h : okP P) : 1 ≤ giftP P ∧ giftP P ≤ 4 := by
  unfold giftP
  have := h.2.2.1
  split
  · have := this (by assumption); omega
  · omega
theorem lossP_in (P : PT) : 0 ≤ lossP P ∧ lossP P ≤ 1 := by unfold lossP; split <;> omega
theorem hideP_in {P : PT} (h : okP P) : -1 ≤ hideP P ∧ hideP P < 7 := by
  unfold hideP
  have := h.2.2.2.1
  split
  · have := this (by assumption); omega
  · omega
/-- the mark so deep in a cairn -/
def markS (c d : Int) (S : MS) : Int := if 0 ≤ d ∧ d < ms_h S c then ms_m S (60 * c + (ms_h S c - 1 - d)) else -1
def wishS (C : CT) (P : PT) (num : Int) (S : MS) : MS := setL (layS (ruleS (cw C) num S) (giftP P) S) (ruleS (cw C) num S)
def stealS (c to : Int) (S : MS) : MS := if to = -1 then takeS c 1 S else if ms_h S c = 0 then S else putS to (markS c 0 S) (setH S (up (ms_h S) c (ms_h S c - 1)))
def fromS (C : CT) (P : PT) (num : Int) (S : MS) : Int := if pk P = 3 then mostI (ms_h S) else ruleS (cz C) num S
def sinS (C : CT) (P : PT) (num : Int) (S : MS) : MS := setL (stealS (fromS C P num S) (hideP P) S) (fromS C P num S)
def walkS (C : CT) (P : PT) (num : Int) (S : MS) : MS := if drawV (drawS S) < pi P then wishS C P num (drawS S) else if drawV (drawS (drawS S)) < pz P then sinS C P num (drawS (drawS S)) else drawS (drawS S)
def parS (C : CT) (P : PT) (num n : Int) (S : MS) : MS := fo (fun _ T => walkS C P num T) n S
def allS (C : CT) (ps : Int → PT) (np : Int) (S : MS) : MS := fo (fun p T => parS C (ps p) p (pw (ps p)) T) np S
def floodP (C : CT) (w : Int) : Prop := 0 < ce C ∧ w % ce C = 0
def drownS (S : MS) : MS := takeS (leastI (ms_h S)) ((ms_h S (leastI (ms_h S)) + 1) / 2) S
def floodS (C : CT) (S : MS) : MS := if 0 < ce C ∧ ms_w S % ce C = 0 then drownS S else S
def goS (C : CT) (ps : Int → PT) (np : Int) (S : MS) : MS := floodS C (allS C ps np (setW S (ms_w S + 1)))
def weeksS (C : CT) (ps : Int → PT) (np n : Int) (S : MS) : MS := fo (fun _ T => goS C ps np T) n S
theorem okS_L {S : MS} (h : okS S) {c : Int} (hc : 0 ≤ c ∧ c < 7) : okS (setL S c) := ⟨h.1, h.2.1, hc, h.2.2.2⟩
theorem okS_W {S : MS} (h : okS S) : okS (setW S (ms_w S + 1)) := ⟨h.1, fun j => by have := h.2.1 j; show 0 ≤ ms_m S j ∧ ms_m S j ≤ ms_w S + 1; omega, h.2.2⟩
theorem okS_H {S : MS} (h : okS S) {c : Int} (hc : 0 ≤ c ∧ c < 7) (h0 : ¬ ms_h S c = 0) : okS (setH S (up (ms_h S) c (ms_h S c - 1))) := by
  refine ⟨fun i hi => ?_, h.2.1, h.2.2⟩
  show 0 ≤ up (ms_h S) c _ i ∧ up (ms_h S) c _ i ≤ 60
  have h1 := h.1 i hi
  have h2 := h.1 c hc
  unfold up
  split <;> omega
theorem markS_in {c d : Int} {S : MS} (h : okS S) : -1 ≤ markS c d S ∧ markS c d S ≤ ms_w S := by
  unfold markS
  have := h.w
  split
  · have := h.2.1 (60 * c + (ms_h S c - 1 - d)); omega
  · omega
theorem okS_steal {c to : Int} {S : MS} (h : okS S) (hc : 0 ≤ c ∧ c < 7) (ht : -1 ≤ to ∧ to < 7) : okS (stealS c to S) ∧ ms_w (stealS c to S) = ms_w S := by
  unfold stealS
  split
  · exact ⟨okS_take h hc (by decide), rfl⟩
  split
  · exact ⟨h, rfl⟩
  · next h1 h2 =>
    refine ⟨okS_put (okS_H h hc h2) (by omega) ?_, putS_w _ _ _⟩
    have h3 := h.1 c hc
    unfold markS
    rw [if_pos (by omega)]
    exact h.2.1 _
theorem fromS_in {C : CT} {P : PT} {num : Int} {S : MS} (h : okS S) (hC : okC C) (hn : 0 ≤ num ∧ num < 7) : 0 ≤ fromS C P num S ∧ fromS C P num S < 7 := by
  unfold fromS
  split
  · exact mostI_in _
  · exact ruleS_in hC.2.1 hn h
theorem okS_walk {C : CT} {P : PT} {num : Int} {S : MS} (h : okS S) (hC : okC C) (hP : okP P) (hn : 0 ≤ num ∧ num < 7) : okS (walkS C P num S) ∧ ms_w (walkS C P num S) = ms_w S := by
  have h1 := okS_draw h
  have h2 := okS_draw h1
  unfold walkS
  split
  · have hr := ruleS_in hC.1 hn h1
    have hg := giftP_in hP
    exact ⟨okS_L (okS_lay h1 hr (by omega)) hr, layS_w h1 hr (by omega)⟩
  split
  · have hr := fromS_in (P := P) h2 hC hn
    have := okS_steal h2 hr (hideP_in hP)
    exact ⟨okS_L this.1 hr, this.2⟩
  · exact ⟨h2, rfl⟩
theorem okS_par {C : CT} {P : PT} {num n : Int} {S : MS} (h : okS S) (hC : okC C) (hP : okP P) (hn : 0 ≤ num ∧ num < 7) (h0 : 0 ≤ n) : okS (parS C P num n S) ∧ ms_w (parS C P num n S) = ms_w S := by
  refine fo_ind (P := fun _ T => okS T ∧ ms_w T = ms_w S) h0 ⟨h, rfl⟩ (fun k T _ _ hT => ?_)
  have := okS_walk (num := num) hT.1 hC hP hn
  exact ⟨this.1, this.2.trans hT.2⟩
theorem okS_all {C : CT} {ps : Int → PT} {np : Int} {S : MS} (h : okS S) (hC : okC C) (hp : ∀ i, 0 ≤ i ∧ i < np → okP (ps i)) (hn : 0 ≤ np ∧ np ≤ 6) : okS (allS C ps np S) ∧ ms_w (allS C ps np S) = ms_w S := by
  refine fo_ind (P := fun _ T => okS T ∧ ms_w T = ms_w S) hn.1 ⟨h, rfl⟩ (fun k T h0 h1 hT => ?_)
  have hk := hp k ⟨h0, h1⟩
  have := okS_par (num := k) hT.1 hC hk (by omega) (n := pw (ps k)) (by have := hk.2.2.2.2.1; omega)
  exact ⟨this.1, this.2.trans hT.2⟩
theorem okS_flood {C : CT} {S : MS} (h : okS S) : okS (floodS C S) ∧ ms_w (floodS C S) = ms_w S := by
  unfold floodS
  split
  · have hl := leastI_in (ms_h S)
    have := h.1 _ hl
    exact ⟨okS_take h hl (by omega), rfl⟩
  · exact ⟨h, rfl⟩
theorem okS_go {C : CT} {ps : Int → PT} {np : Int} {S : MS} (h : okS S) (hC : okC C) (hp : ∀ i, 0 ≤ i ∧ i < np → okP (ps i)) (hn : 0 ≤ np ∧ np ≤ 6) : okS (goS C ps np S) ∧ ms_w (goS C ps np S) = ms_w S + 1 := by
  have h1 := okS_all (okS_W h) hC hp hn
  have h2 := okS_flood (C := C) h1.1
  exact ⟨h2.1, h2.2.trans h1.2⟩
theorem okS_weeks {C : CT} {ps : Int → PT} {np n : Int} {S : MS} (h : okS S) (hC : okC C) (hp : ∀ i, 0 ≤ i ∧ i < np → okP (ps i)) (hn : 0 ≤ np ∧ np ≤ 6) (h0 : 0 ≤ n) : okS (weeksS C ps np n S) ∧ ms_w (weeksS C ps np n S) = ms_w S + n := by
  refine fo_ind (P := fun k T => okS T ∧ ms_w T = ms_w S + k) h0 ⟨h, by omega⟩ (fun k T _ _ hT => ?_)
  have := okS_go hT.1 hC hp hn
  exact ⟨this.1, by rw [this.2, hT.2]; omega⟩
/-- the class's cells of a parish, of a custom; the row of the parishes -/
def pcl (kd : Int) : Nat := if kd = 0 then 4 else if kd = 1 then 5 else if kd = 2 then 6 else 0
def pC (a : Nat) (P : PT) : Nat × va_E := (a, oC (pcl (pk P)) [vI (pn P), vI (pw P), vI (pi P), vI (pz P)])
def cC (a : Nat) (C : CT) : Nat × va_E := (a, oC 1 [vI (cw C), vI (cz C), vI (ce C)])
def orow (n : Int) (ad : Int → Nat) : Int → Option Nat := fun i => if 0 ≤ i ∧ i < n then some (ad i) else none
theorem orow_in {n i : Int} {ad : Int → Nat} (h : 0 ≤ i ∧ i < n) : orow n ad i = some (ad i) := if_pos h
theorem orow_out {n i : Int} {ad : Int → Nat} (h : ¬ (0 ≤ i ∧ i < n)) : orow n ad i = none := if_neg h
theorem putN_succ {c n : Int} {S : MS} (h : 0 ≤ n) : putN c (n + 1) S = putS c (ms_w (putN c n S)) (putN c n S) := fo_succ _ h S
theorem weeksS_succ {C : CT} {ps : Int → PT} {np n : Int} {S : MS} (h : 0 ≤ n) : weeksS C ps np (n + 1) S = goS C ps np (weeksS C ps np n S) := fo_succ _ h S
theorem parS_succ {C : CT} {P : PT} {num n : Int} {S : MS} (h : 0 ≤ n) : parS C P num (n + 1) S = walkS C P num (parS C P num n S) := fo_succ _ h S
theorem up_agree {z f : Int → Int} {i : Int} (h : ∀ j : Int, 0 ≤ j → j < i → z j = f j) : ∀ j : Int, 0 ≤ j → j < i + 1 → up z i (f i) j = f j := by
  intro j h0 h1
  unfold up
  by_cases q : j = i
  · rw [if_pos q, q]
  · rw [if_neg q]; exact h j h0 (by omega)
theorem pC_0 {a : Nat} {P : PT} (h : pk P = 0) : pC a P = (a, oC 4 [vI (pn P), vI (pw P), vI (pi P), vI (pz P)]) := by unfold pC pcl; rw [if_pos h]
theorem pC_1 {a : Nat} {P : PT} (h : pk P = 1) : pC a P = (a, oC 5 [vI (pn P), vI (pw P), vI (pi P), vI (pz P)]) := by unfold pC pcl; rw [if_neg (by omega), if_pos h]
theorem pC_2 {a : Nat} {P : PT} (h : pk P = 2) : pC a P = (a, oC 6 [vI (pn P), vI (pw P), vI (pi P), vI (pz P)]) := by unfold pC pcl; rw [if_neg (by omega), if_neg (by omega), if_pos h]
theorem pC_3 {a : Nat} {P : PT} (h : pk P = 3) : pC a P = (a, oC 0 [vI (pn P), vI (pw P), vI (pi P), vI (pz P)]) := by unfold pC pcl; rw [if_neg (by omega), if_neg (by omega), if_neg (by omega)]
theorem j_getP {X : jX} {cc : ByteArray} {nL : Nat} {own : String} {Ts : List Cond} {rm : Room} {D : va_G} {Y : Nat → ClassId} {RO : va_W} {k n : Nat} {ws : va_W} {lc : List (Nat × Value)} {pc index : Nat} {ref : String} {st : List Value} (C : jC X cc nL own Ts rm D Y RO) {a : Nat} {P : PT} {v : Value} (hq : pC a P ∈ ws ∨ pC a P ∈ RO) (hk : 0 ≤ pk P ∧ pk P ≤ 3) (h4 : ∀ w ∈ u_ws RX5 TX5 4, w ∈ Ts) (h5 : ∀ w ∈ u_ws RX6 TX6 4, w ∈ Ts) (h6 : ∀ w ∈ u_ws RX7 TX7 4, w ∈ Ts) (h0 : ∀ w ∈ u_ws RX0 TX0 4, w ∈ Ts) (kf : Nat) (hkf : kf < 4) (hlink : Cond.fieldLink own index ref (TX5 kf).2.1 (TX5 kf).2.2.1 ∈ Ts) (hsame : (TX5 kf).1 = ref ∨ Cond.sameField ref (TX5 kf).1 (TX5 kf).2.1 (TX5 kf).2.2.1 ∈ Ts) (hv : [vI (pn P), vI (pw P), vI (pi P), vI (pz P)][kf]? = some v) (hd : decode cc pc = .ok (.getfield index, 3)) (kk : jW X nL k n ws lc (pc + 3) (v :: st)) : jW X nL k n ws lc pc (.ref a :: st) := by
  have e6 : TX6 = TX5 := rfl
  have e7 : TX7 = TX5 := rfl
  have e0 : TX0 = TX5 := rfl
  rcases (show pk P = 0 ∨ pk P = 1 ∨ pk P = 2 ∨ pk P = 3 by omega) with h | h | h | h
  · rw [pC_0 h] at hq
    exact j_get C (T := TX5) hq rfl h4 kf hkf hlink hsame hv hd kk
  · rw [pC_1 h] at hq
    exact j_get C (T := TX6) hq rfl h5 kf hkf hlink hsame hv hd kk
  · rw [pC_2 h] at hq
    exact j_get C (T := TX7) hq rfl h6 kf hkf hlink hsame hv hd kk
  · rw [pC_3 h] at hq
    exact j_get C (T := TX0) hq rfl h0 kf hkf hlink hsame hv hd kk
/-- what about() tells of a parish, customTold() of a custom -/
def toldP (P : PT) (w : Int) : Int := if w = 0 then pk P else if w = 1 then pn P else if w = 2 then pw P else if w = 3 then pi P else if w = 4 then pz P else giftP P
def toldC (C : CT) (w : Int) : Int := if w = 0 then cw C else if w = 1 then cz C else ce C
theorem toldP_0 {P : PT} {w : Int} (h : w = 0) : toldP P w = pk P := by unfold toldP; rw [if_pos h]
theorem toldP_1 {P : PT} {w : Int} (h : w = 1) : toldP P w = pn P := by unfold toldP; rw [if_neg (by omega), if_pos h]
theorem toldP_2 {P : PT} {w : Int} (h : w = 2) : toldP P w = pw P := by unfold toldP; rw [if_neg (by omega), if_neg (by omega), if_pos h]
theorem toldP_3 {P : PT} {w : Int} (h : w = 3) : toldP P w = pi P := by unfold toldP; rw [if_neg (by omega), if_neg (by omega), if_neg (by omega), if_pos h]
theorem toldP_4 {P : PT} {w : Int} (h : w = 4) : toldP P w = pz P := by unfold toldP; rw [if_neg (by omega), if_neg (by omega), if_neg (by omega), if_neg (by omega), if_pos h]
theorem toldP_5 {P : PT} {w : Int} (h : w < 0 ∨ 4 < w) : toldP P w = giftP P := by unfold toldP; rw [if_neg (by omega), if_neg (by omega), if_neg (by omega), if_neg (by omega), if_neg (by omega)]
theorem land31 (x : Int) : landI x 2147483647 = x % 2147483648 := by
  unfold landI
  have h1 : Int64.ofInt x &&& Int64.ofInt 2147483647 = Int64.ofInt (x % 2147483648) := by
    apply Int64.toBitVec.inj
    rw [Int64.toBitVec_and]
    show BitVec.ofInt 64 x &&& BitVec.ofInt 64 2147483647 = BitVec.ofInt 64 (x % 2147483648)
    apply BitVec.eq_of_toNat_eq
    rw [BitVec.toNat_and, BitVec.toNat_ofInt, BitVec.toNat_ofInt, BitVec.toNat_ofInt]
    rw [show ((2147483647 : Int) % ((2 ^ 64 : Nat) : Int)).toNat = 2 ^ 31 - 1 from rfl, Nat.and_two_pow_sub_one_eq_mod]
    omega
  rw [h1, Int64.toInt_ofInt_of_le (by omega) (by omega)]
theorem shr16 {x : Int} (h : 0 ≤ x ∧ x ≤ 2147483647) : shrI x 16 = x / 65536 := by
  unfold shrI
  have h1 : Int32.ofInt x >>> (Int32.ofInt 16 &&& 31) = Int32.ofInt (x / 65536) := by
    apply Int32.toInt_inj.mp
    rw [Int32.toInt_ofInt_of_le (by omega) (by omega)]
    show (BitVec.sshiftRight' (BitVec.ofInt 32 x) ((Int32.ofInt 16 &&& 31).toBitVec.smod 32)).toInt = _
    rw [show ((Int32.ofInt 16 &&& 31).toBitVec.smod 32) = 16#32 from rfl]
    rw [BitVec.sshiftRight', BitVec.toInt_sshiftRight, Int.shiftRight_eq_div_pow, BitVec.toInt_ofInt, show (16#32).toNat = 16 from rfl]
    rw [Int.bmod_eq_of_le (by omega) (by omega)]
    rfl
  rw [h1, Int32.toInt_ofInt_of_le (by omega) (by omega)]
theorem drawV_in {S : MS} (h : okS S) : 0 ≤ drawV S ∧ drawV S < 10 := by
  unfold drawV
  have := h.2.2.2
  omega
/-- how many stand ahead; what the others have above a level -/
def aheadF (h : Int → Int) (c i b : Int) : Int := if h c < h i ∨ (h i = h c ∧ i < c) then b + 1 else b
def aheadI (h : Int → Int) (c : Int) : Int := fo (aheadF h c) 7 0
def surF (h : Int → Int) (lv but i b : Int) : Int := if i ≠ but ∧ lv < h i then b + (h i - lv) else b
def surI (h : Int → Int) (lv but : Int) : Int := fo (surF h lv but) 7 0
theorem surI_in {S : MS} (h : okS S) {lv but : Int} (hl : -1 ≤ lv) : 0 ≤ surI (ms_h S) lv but ∧ surI (ms_h S) lv but ≤ 427 := by
  have := fo_ind (f := surF (ms_h S) lv but) (s := 0) (n := 7) (P := fun k b => 0 ≤ b ∧ b ≤ 61 * k) (by decide) (by decide) (fun k b h0 h1 hb => by have := h.1 k ⟨h0, h1⟩; unfold surF; split <;> omega)
  unfold surI; omega
theorem markS_none {S : MS} (h : okS S) {c : Int} (hc : 0 ≤ c ∧ c < 7) (e : markS c 0 S = -1) : ms_h S c = 0 := by
  have h1 := h.1 c hc
  unfold markS at e
  by_cases q : 0 < ms_h S c
  · rw [if_pos ⟨by decide, q⟩] at e
    have := h.2.1 (60 * c + (ms_h S c - 1 - 0))
    omega
  · omega
abbrev kof (ps : Int → PT) : Int → Int := fun i => pk (ps i)
abbrev nof (ps : Int → PT) : Int → Int := fun i => pn (ps i)
abbrev wof (ps : Int → PT) : Int → Int := fun i => pw (ps i)
abbrev iof (ps : Int → PT) : Int → Int := fun i => pi (ps i)
abbrev zof (ps : Int → PT) : Int → Int := fun i => pz (ps i)
abbrev cwof (cs : Int → CT) : Int → Int := fun i => cw (cs i)
abbrev czof (cs : Int → CT) : Int → Int := fun i => cz (cs i)
abbrev ceof (cs : Int → CT) : Int → Int := fun i => ce (cs i)
/-- the reference's other numbers: parishes, customs, letters, is kept, the kept seed, the saved seed, fault, is whole, new rules and every, h -/
abbrev GS : Type := Int × Int × Int × Int × Int × Int × Int × Int × Int × Int × Int × Int
abbrev g_np (G : GS) : Int := G.1
abbrev g_nc (G : GS) : Int := G.2.1
abbrev g_pl (G : GS) : Int := G.2.2.1
abbrev g_ik (G : GS) : Int := G.2.2.2.1
abbrev g_ks (G : GS) : Int := G.2.2.2.2.1
abbrev g_ss (G : GS) : Int := G.2.2.2.2.2.1
abbrev g_fa (G : GS) : Int := G.2.2.2.2.2.2.1
abbrev g_iw (G : GS) : Int := G.2.2.2.2.2.2.2.1
abbrev g_nw (G : GS) : Int := G.2.2.2.2.2.2.2.2.1
abbrev g_ns (G : GS) : Int := G.2.2.2.2.2.2.2.2.2.1
abbrev g_ne (G : GS) : Int := G.2.2.2.2.2.2.2.2.2.2.1
abbrev g_h (G : GS) : Int := G.2.2.2.2.2.2.2.2.2.2.2
theorem putN_a (c n : Int) (S : MS) : ms_a (putN c n S) = ms_a S := by
  unfold putN fo
  induction n.toNat with
  | zero => rfl
  | succ k ih => show ms_a (putW c (foldI _ k _)) = _; exact (putS_a _ _ _).trans ih
theorem layS_alt (c n : Int) (S : MS) : putN c n (setA S (ms_a S + n)) = layS c n S := by
  rw [putN_setA]
  unfold layS
  rw [putN_a]
theorem putS_setL (c x v : Int) (S : MS) : putS c x (setL S v) = setL (putS c x S) v := by
  by_cases h : ms_h S c = 60
  · rw [putS_full (S := setL S v) h, putS_full h]; rfl
  · rw [putS_not (S := setL S v) h, putS_not h]; rfl
theorem takeS_zero {c : Int} {S : MS} (h : ms_h S c = 0) : takeS c 1 S = S := by
  have e : offS c 1 S = 0 := by unfold offS; rw [if_pos (by omega), h]
  unfold takeS
  rw [e, show ms_h S c - 0 = ms_h S c by omega, up_self, show ms_t S + 0 = ms_t S by omega]
theorem stealS_zero {c to : Int} {S : MS} (h : ms_h S c = 0) : stealS c to S = S := by
  unfold stealS
  rw [takeS_zero h, if_pos h]
  split <;> rfl
end
section
/-! the answers of the calls (of the moor) -/
def rLay (c n : Int) (S : MS) : Int := if c < 0 ∨ 7 ≤ c then -101 else if n < 1 ∨ 60 < n then -102 else ms_h (layS c n S) c
def sLay (c n : Int) (S : MS) : MS := if c < 0 ∨ 7 ≤ c then S else if n < 1 ∨ 60 < n then S else layS c n S
def rTake (c n : Int) (S : MS) : Int := if c < 0 ∨ 7 ≤ c then -101 else if n < 1 ∨ 60 < n then -102 else ms_h (takeS c n S) c
def sTake (c n : Int) (S : MS) : MS := if c < 0 ∨ 7 ≤ c then S else if n < 1 ∨ 60 < n then S else takeS c n S
def rHeight (c : Int) (S : MS) : Int := if c < 0 ∨ 7 ≤ c then -101 else ms_h S c
def rMark (c d : Int) (S : MS) : Int := if c < 0 ∨ 7 ≤ c then -101 else if d < 0 ∨ 60 ≤ d then -102 else markS c d S
def cntF (f : Int → Int) (w i s : Int) : Int := if f i = w then s + 1 else s
def cntI (f : Int → Int) (w n : Int) : Int := fo (cntF f w) n 0
def rDated (c w : Int) (S : MS) : Int := if c < 0 ∨ 7 ≤ c then -101 else if w < 0 ∨ 9999 < w then -102 else cntI (fun d => markS c d S) w (ms_h S c)
def rSeed (v : Int) (S : MS) : Int := if v < 0 then -102 else ms_s S
def sSeed (v : Int) (S : MS) : MS := if v < 0 then S else setD S v
def rWeeks (cu n nc : Int) (cs : Int → CT) (np : Int) (ps : Int → PT) (S : MS) : Int := if cu < 0 ∨ nc ≤ cu then -101 else if n < 1 ∨ 60 < n then -102 else if 9999 < ms_w S + n then -103 else sumI (ms_h (weeksS (cs cu) ps np n S)) 7
def sWeeks (cu n nc : Int) (cs : Int → CT) (np : Int) (ps : Int → PT) (S : MS) : MS := if cu < 0 ∨ nc ≤ cu then S else if n < 1 ∨ 60 < n then S else if 9999 < ms_w S + n then S else weeksS (cs cu) ps np n S
def rWould (cu c n nc : Int) (cs : Int → CT) (np : Int) (ps : Int → PT) (S : MS) : Int := if (cu < 0 ∨ nc ≤ cu) ∨ (c < 0 ∨ 7 ≤ c) then -101 else if n < 0 ∨ 60 < n then -102 else ms_h (weeksS (cs cu) ps np n S) c
/-- the first below n of which P holds; -1: none -/
def fstF (P : Int → Prop) [DecidablePred P] (i r : Int) : Int := if r = -1 ∧ P i then i else r
def fstI (P : Int → Prop) [DecidablePred P] (n : Int) : Int := fo (fstF P) n (-1)
theorem fst_step {P : Int → Prop} [DecidablePred P] {i : Int} (h0 : 0 ≤ i) (h : fstI P i = -1) (hp : ¬ P i) : fstI P (i + 1) = -1 := by
  unfold fstI at h ⊢
  rw [fo_succ _ h0, h]
  unfold fstF
  rw [if_neg (fun q => hp q.2)]
theorem fst_hit {P : Int → Prop} [DecidablePred P] {i n : Int} (h0 : 0 ≤ i) (hn : i < n) (h : fstI P i = -1) (hp : P i) : fstI P n = i := by
  have h1 : fstI P (i + 1) = i := by
    unfold fstI at h ⊢
    rw [fo_succ _ h0, h]
    unfold fstF
    rw [if_pos ⟨rfl, hp⟩]
  have go : ∀ m : Nat, fstI P (i + 1 + m) = i := by
    intro m
    induction m with
    | zero => simpa using h1
    | succ m ih =>
      rw [show i + 1 + ((m + 1 : Nat) : Int) = (i + 1 + m) + 1 by omega]
      unfold fstI at ih ⊢
      rw [fo_succ _ (by omega), ih]
      unfold fstF
      rw [if_neg (by omega)]
  have := go (n - (i + 1)).toNat
  rwa [show i + 1 + (((n - (i + 1)).toNat : Nat) : Int) = n by omega] at this
theorem fst_cases {P : Int → Prop} [DecidablePred P] {n : Int} (hn : 0 ≤ n) : (fstI P n = -1 ∧ ∀ i, 0 ≤ i → i < n → ¬ P i) ∨ (0 ≤ fstI P n ∧ fstI P n < n ∧ P (fstI P n) ∧ ∀ i, 0 ≤ i → i < fstI P n → ¬ P i) := by
  refine fo_ind (f := fstF P) (s := -1) (P := fun k r => (r = -1 ∧ ∀ i, 0 ≤ i → i < k → ¬ P i) ∨ (0 ≤ r ∧ r < k ∧ P r ∧ ∀ i, 0 ≤ i → i < r → ¬ P i)) hn (Or.inl ⟨rfl, fun i _ _ => by omega⟩) (fun k r h0 h1 h => ?_)
  unfold fstF
  rcases h with ⟨e, h⟩ | ⟨a, b, c, d⟩
  · by_cases q : P k
    · rw [if_pos ⟨e, q⟩]
      exact Or.inr ⟨h0, by omega, q, fun i hi hk => h i hi hk⟩
    · rw [if_neg (fun z => q z.2)]
      refine Or.inl ⟨e, fun i hi hk => ?_⟩
      by_cases z : i = k
      · rw [z]; exact q
      · exact h i hi (by omega)
  · rw [if_neg (by omega)]
    exact Or.inr ⟨a, by omega, c, d⟩
def rOrder (i : Int) (S : MS) : Int := if i < 0 ∨ 7 ≤ i then -102 else fstI (fun c => aheadI (ms_h S) c = i) 7
def rShows (cu c n nc : Int) (cs : Int → CT) (np : Int) (ps : Int → PT) (S : MS) : Int := if (cu < 0 ∨ nc ≤ cu) ∨ (c < 0 ∨ 7 ≤ c) then -101 else if n < 0 ∨ 60 < n then -102 else fstI (fun b => ¬ surI (ms_h (weeksS (cs cu) ps np b (layS c n S))) (ms_h (weeksS (cs cu) ps np b (layS c n S)) c - 1) c = 0) 61
def rGone (cu c nc : Int) (cs : Int → CT) (np : Int) (ps : Int → PT) (S : MS) : Int := if (cu < 0 ∨ nc ≤ cu) ∨ (c < 0 ∨ 7 ≤ c) then -101 else fstI (fun b => ms_h (weeksS (cs cu) ps np b S) c = 0) 61
/-- behind how many weeks less one, from the first on, a cairn is empty -/
def drainI (C : CT) (np : Int) (ps : Int → PT) (c n : Int) (S : MS) : Int := fstI (fun b => ms_h (weeksS C ps np (b + 1) S) c = 0) n
def tillI (C : CT) (np : Int) (ps : Int → PT) (c n : Int) (S : MS) : Int := if drainI C np ps c n S = -1 then n + 1 else drainI C np ps c n S + 1
def rSaved (cu c n nc : Int) (cs : Int → CT) (np : Int) (ps : Int → PT) (S : MS) : Int := if (cu < 0 ∨ nc ≤ cu) ∨ (c < 0 ∨ 7 ≤ c) then -101 else if n < 1 ∨ 60 < n then -102 else fstI (fun m => drainI (cs cu) np ps c n (layS c m S) = -1) 61
def absI (a : Int) : Int := if 0 ≤ a then a else -a
def unlF (f g : Int → Int) (i s : Int) : Int := s + absI (f i - g i)
def rUnlike (a b n nc : Int) (cs : Int → CT) (np : Int) (ps : Int → PT) (S : MS) : Int := if (a < 0 ∨ nc ≤ a) ∨ (b < 0 ∨ nc ≤ b) then -101 else if n < 0 ∨ 60 < n then -102 else fo (unlF (ms_h (weeksS (cs a) ps np n S)) (ms_h (weeksS (cs b) ps np n S))) 7 0
def rLie (c : Int) (S : MS) : Int := if c < 0 ∨ 7 ≤ c then -101 else fstI (fun x => surI (ms_h S) (ms_h S c + x - 1) c ≤ x) (sumI (ms_h S) 7 - ms_h S c + 1)
def rCount (w np nc pl : Int) (S : MS) : Int := if w = 0 then np else if w = 1 then nc else if w = 2 then sumI (ms_h S) 7 else if w = 3 then ms_w S else if w = 4 then ms_s S else if w = 5 then ms_l S else if w = 6 then ms_a S else if w = 7 then ms_t S else if w = 8 then ms_p S else if w = 9 then pl else -102
theorem aheadI_in (h : Int → Int) (c : Int) : 0 ≤ aheadI h c ∧ aheadI h c ≤ 7 := by
  have := fo_ind (f := aheadF h c) (s := 0) (n := 7) (P := fun k b => 0 ≤ b ∧ b ≤ k) (by decide) (by decide) (fun k b h0 h1 hb => by unfold aheadF; split <;> omega)
  unfold aheadI; omega
theorem drainI_in (C : CT) (np : Int) (ps : Int → PT) (c : Int) (S : MS) {n : Int} (hn : 0 ≤ n) : -1 ≤ drainI C np ps c n S ∧ drainI C np ps c n S < n ∨ drainI C np ps c n S = -1 := by
  unfold drainI
  rcases fst_cases (P := fun b => ms_h (weeksS C ps np (b + 1) S) c = 0) hn with h | h
  · exact Or.inr h.1
  · exact Or.inl ⟨by omega, h.2.1⟩
theorem tillI_in (C : CT) (np : Int) (ps : Int → PT) (c : Int) (S : MS) {n : Int} (hn : 1 ≤ n) : 0 ≤ tillI C np ps c n S ∧ tillI C np ps c n S ≤ n + 1 := by
  have := drainI_in C np ps c S (show 0 ≤ n by omega)
  unfold tillI
  split <;> omega
theorem gone_till {C : CT} {np : Int} {ps : Int → PT} {c : Int} {S : MS} (h : ¬ ms_h S c = 0) : fstI (fun b => ms_h (weeksS C ps np b S) c = 0) 61 = if 60 < tillI C np ps c 60 S then -1 else tillI C np ps c 60 S := by
  have hd := fst_cases (P := fun b => ms_h (weeksS C ps np (b + 1) S) c = 0) (n := 60) (by decide)
  have hf := fst_cases (P := fun b => ms_h (weeksS C ps np b S) c = 0) (n := 61) (by decide)
  have e0 : ∀ b : Int, b ≤ 0 → weeksS C ps np b S = S := fun b hb => fo_neg _ hb S
  have hd1 : drainI C np ps c 60 S = fstI (fun b => ms_h (weeksS C ps np (b + 1) S) c = 0) 60 := rfl
  unfold tillI
  rw [hd1]
  generalize fstI (fun b => ms_h (weeksS C ps np (b + 1) S) c = 0) 60 = d at *
  generalize fstI (fun b => ms_h (weeksS C ps np b S) c = 0) 61 = f at *
  have hf0 : f = -1 ∨ 1 ≤ f := by
    rcases hf with q | q
    · exact Or.inl q.1
    · refine Or.inr (Classical.byContradiction fun z => ?_)
      have hq := q.2.2.1
      rw [e0 f (by omega)] at hq
      exact h hq
  rcases hd with ⟨rfl, hd⟩ | ⟨d0, d1, d2, d3⟩
  · rw [if_pos rfl, if_pos (by decide)]
    rcases hf with q | q
    · exact q.1
    · have h1 := hd (f - 1) (by omega) (by omega)
      rw [show f - 1 + 1 = f by omega] at h1
      exact absurd q.2.2.1 h1
  · rw [if_neg (by omega), if_neg (by omega)]
    rcases hf with q | q
    · exact absurd d2 (q.2 (d + 1) (by omega) (by omega))
    · have a1 : ¬ f < d + 1 := fun z => by
        have h1 := d3 (f - 1) (by omega) (by omega)
        rw [show f - 1 + 1 = f by omega] at h1
        exact h1 q.2.2.1
      have a2 : ¬ d + 1 < f := fun z => q.2.2.2 (d + 1) (by omega) z d2
      omega
theorem sumI_in {S : MS} (h : okS S) : 0 ≤ sumI (ms_h S) 7 ∧ sumI (ms_h S) 7 ≤ 420 := by
  have := fo_ind (f := sumF (ms_h S)) (s := 0) (n := 7) (P := fun k b => 0 ≤ b ∧ b ≤ 60 * k) (by decide) (by decide) (fun k b h0 h1 hb => by have := h.1 k ⟨h0, h1⟩; unfold sumF; omega)
  unfold sumI; omega
def rRestore (ik : Int) (S T : MS) : Int := if ik = 0 then -103 else sumI (ms_h T) 7
def sRestore (ik : Int) (S T : MS) : MS := if ik = 0 then S else T
theorem sumI_ge {S : MS} (h : okS S) {c : Int} (hc : 0 ≤ c ∧ c < 7) : ms_h S c ≤ sumI (ms_h S) 7 := by
  have := fo_ind (f := sumF (ms_h S)) (s := 0) (n := 7) (P := fun k b => 0 ≤ b ∧ (c < k → ms_h S c ≤ b)) (by decide) ⟨by decide, fun q => by omega⟩ (fun k b h0 h1 hb => by
    have h2 := h.1 k ⟨h0, h1⟩
    unfold sumF
    refine ⟨by omega, fun q => ?_⟩
    by_cases z : c = k
    · rw [z]; omega
    · have := hb.2 (by omega); omega)
  unfold sumI; exact this.2 hc.2
/-! what lies, the weeks, the seed alone tell what would be (laid, taken, spilt don't) -/
def coreE (S T : MS) : Prop := ms_h S = ms_h T ∧ ms_m S = ms_m T ∧ ms_w S = ms_w T ∧ ms_l S = ms_l T ∧ ms_s S = ms_s T
theorem coreE.rf (S : MS) : coreE S S := ⟨rfl, rfl, rfl, rfl, rfl⟩
theorem coreE.tr {S T U : MS} (h : coreE S T) (g : coreE T U) : coreE S U := ⟨h.1.trans g.1, h.2.1.trans g.2.1, h.2.2.1.trans g.2.2.1, h.2.2.2.1.trans g.2.2.2.1, h.2.2.2.2.trans g.2.2.2.2⟩
theorem core_put {c x : Int} {S T : MS} (h : coreE S T) : coreE (putS c x S) (putS c x T) := by
  obtain ⟨h1, h2, h3, h4, h5⟩ := h
  by_cases q : ms_h S c = 60
  · rw [putS_full q, putS_full (S := T) (by rw [← h1]; exact q)]
    exact ⟨h1, h2, h3, h4, h5⟩
  · rw [putS_not q, putS_not (S := T) (by rw [← h1]; exact q)]
    exact ⟨by show up (ms_h S) c _ = up (ms_h T) c _; rw [h1], by show up (ms_m S) _ x = up (ms_m T) _ x; rw [h1, h2], h3, h4, h5⟩
theorem core_putfull {c x : Int} {S : MS} (h : ms_h S c = 60) : coreE (putS c x S) S := by rw [putS_full h]; exact coreE.rf S
theorem core_putN {c n : Int} {S T : MS} (h : coreE S T) : coreE (putN c n S) (putN c n T) := by
  unfold putN fo
  induction n.toNat with
  | zero => exact h
  | succ k ih =>
    show coreE (putW c (foldI _ k S)) (putW c (foldI _ k T))
    have e : ∀ U : MS, putW c U = putS c (ms_w U) U := fun _ => rfl
    rw [e, e, ih.2.2.1]
    exact core_put ih
theorem core_setA {S T : MS} (h : coreE S T) (a b : Int) : coreE (setA S a) (setA T b) := h
theorem core_lay {c n : Int} {S T : MS} (h : coreE S T) : coreE (layS c n S) (layS c n T) := core_setA (core_putN h) _ _
theorem core_take {c n : Int} {S T : MS} (h : coreE S T) : coreE (takeS c n S) (takeS c n T) := by
  obtain ⟨h1, h2, h3, h4, h5⟩ := h
  exact ⟨by show up (ms_h S) c _ = up (ms_h T) c _; unfold offS; rw [h1], h2, h3, h4, h5⟩
theorem core_rule {r num : Int} {S T : MS} (h : coreE S T) : ruleS r num S = ruleS r num T := by unfold ruleS; rw [h.1, h.2.2.2.1]
theorem core_L {S T : MS} (h : coreE S T) (c : Int) : coreE (setL S c) (setL T c) := ⟨h.1, h.2.1, h.2.2.1, rfl, h.2.2.2.2⟩
theorem core_draw {S T : MS} (h : coreE S T) : coreE (drawS S) (drawS T) := ⟨h.1, h.2.1, h.2.2.1, h.2.2.2.1, by show (1103515245 * ms_s S + 12345) % 2147483648 = (1103515245 * ms_s T + 12345) % 2147483648; rw [h.2.2.2.2]⟩
theorem core_drawV {S T : MS} (h : coreE S T) : drawV S = drawV T := by unfold drawV; rw [h.2.2.2.2]
theorem core_wish {C : CT} {P : PT} {num : Int} {S T : MS} (h : coreE S T) : coreE (wishS C P num S) (wishS C P num T) := by
  unfold wishS
  rw [core_rule h]
  exact core_L (core_lay h) _
theorem core_steal {c to : Int} {S T : MS} (h : coreE S T) : coreE (stealS c to S) (stealS c to T) := by
  unfold stealS
  rw [h.1]
  split
  · exact core_take h
  split
  · exact h
  · have e : markS c 0 S = markS c 0 T := by unfold markS; rw [h.1, h.2.1]
    rw [e]
    exact core_put ⟨rfl, h.2.1, h.2.2.1, h.2.2.2.1, h.2.2.2.2⟩
theorem core_sin {C : CT} {P : PT} {num : Int} {S T : MS} (h : coreE S T) : coreE (sinS C P num S) (sinS C P num T) := by
  have e : fromS C P num S = fromS C P num T := by unfold fromS; rw [h.1, core_rule h]
  unfold sinS
  rw [e]
  exact core_L (core_steal h) _
theorem core_walk {C : CT} {P : PT} {num : Int} {S T : MS} (h : coreE S T) : coreE (walkS C P num S) (walkS C P num T) := by
  have h1 := core_draw h
  have h2 := core_draw h1
  unfold walkS
  rw [core_drawV h1, core_drawV h2]
  split
  · exact core_wish h1
  split
  · exact core_sin h2
  · exact h2
theorem core_fo {f : Int → MS → MS} (hf : ∀ (k : Int) (S T : MS), coreE S T → coreE (f k S) (f k T)) {n : Int} {S T : MS} (h : coreE S T) : coreE (fo f n S) (fo f n T) := by
  unfold fo
  induction n.toNat with
  | zero => exact h
  | succ k ih => exact hf _ _ _ ih
theorem core_go {C : CT} {ps : Int → PT} {np : Int} {S T : MS} (h : coreE S T) : coreE (goS C ps np S) (goS C ps np T) := by
  have h1 : coreE (setW S (ms_w S + 1)) (setW T (ms_w T + 1)) := ⟨h.1, h.2.1, by show ms_w S + 1 = ms_w T + 1; rw [h.2.2.1], h.2.2.2⟩
  have h2 : coreE (allS C ps np (setW S (ms_w S + 1))) (allS C ps np (setW T (ms_w T + 1))) := core_fo (f := fun p T => parS C (ps p) p (pw (ps p)) T) (n := np) (fun p S T q => core_fo (f := fun _ T => walkS C (ps p) p T) (n := pw (ps p)) (fun _ S T q => core_walk q) q) h1
  unfold goS floodS
  rw [h2.2.2.1]
  split
  · unfold drownS
    rw [h2.1]
    exact core_take h2
  · exact h2
theorem core_weeks {C : CT} {ps : Int → PT} {np n : Int} {S T : MS} (h : coreE S T) : coreE (weeksS C ps np n S) (weeksS C ps np n T) := core_fo (f := fun _ T => goS C ps np T) (n := n) (fun _ S T q => core_go q) h
theorem fst_congr {P Q : Int → Prop} [DecidablePred P] [DecidablePred Q] {n : Int} (h : ∀ i, 0 ≤ i → i < n → (P i ↔ Q i)) (hn : 0 ≤ n) : fstI P n = fstI Q n := by
  rcases fst_cases (P := P) hn with a | a <;> rcases fst_cases (P := Q) hn with b | b
  · rw [a.1, b.1]
  · exact absurd ((h _ b.1 b.2.1).mpr b.2.2.1) (a.2 _ b.1 b.2.1)
  · exact absurd ((h _ a.1 a.2.1).mp a.2.2.1) (b.2 _ a.1 a.2.1)
  · have a1 : ¬ fstI P n < fstI Q n := fun z => b.2.2.2 _ a.1 z ((h _ a.1 a.2.1).mp a.2.2.1)
    have a2 : ¬ fstI Q n < fstI P n := fun z => a.2.2.2 _ b.1 z ((h _ b.1 b.2.1).mpr b.2.2.1)
    omega
theorem core_drain {C : CT} {ps : Int → PT} {np c n : Int} {S T : MS} (hn : 0 ≤ n) (h : coreE S T) : drainI C np ps c n S = drainI C np ps c n T := fst_congr (fun i _ _ => by rw [(core_weeks h).1]) hn
theorem putN_h {c : Int} {S : MS} (hh : 0 ≤ ms_h S c ∧ ms_h S c ≤ 60) {n : Int} (h0 : 0 ≤ n) (hn : n ≤ 60 - ms_h S c) : ms_h (putN c n S) c = ms_h S c + n := by
  refine fo_ind (P := fun k T => k ≤ 60 - ms_h S c → ms_h T c = ms_h S c + k) h0 (fun _ => by omega) (fun k T _ _ hT hk => ?_) hn
  have e := hT (by omega)
  unfold putW
  rw [putS_not (by omega)]
  show up (ms_h T) c (ms_h T c + 1) c = _
  rw [up_same, e]
  omega
theorem putN_more {c : Int} {S : MS} (hh : 0 ≤ ms_h S c ∧ ms_h S c ≤ 60) {n : Int} (hn : 60 - ms_h S c ≤ n) : coreE (putN c n S) (putN c (60 - ms_h S c) S) := by
  have go : ∀ m : Nat, coreE (putN c (60 - ms_h S c + m) S) (putN c (60 - ms_h S c) S) := by
    intro m
    induction m with
    | zero => simpa using coreE.rf _
    | succ m ih =>
      have e : putN c (60 - ms_h S c + ((m + 1 : Nat) : Int)) S = putW c (putN c (60 - ms_h S c + m) S) := by
        rw [show 60 - ms_h S c + ((m + 1 : Nat) : Int) = (60 - ms_h S c + m) + 1 by omega]
        exact fo_succ _ (by omega) S
      rw [e]
      refine (core_putfull ?_).tr ih
      rw [ih.1, putN_h hh (by omega) (by omega)]
      omega
  have := go (n - (60 - ms_h S c)).toNat
  rwa [show 60 - ms_h S c + (((n - (60 - ms_h S c)).toNat : Nat) : Int) = n by omega] at this
theorem saved_none {C : CT} {ps : Int → PT} {np c n m : Int} {S : MS} (hS : okS S) (hc : 0 ≤ c ∧ c < 7) (hn : 0 ≤ n) (hm : 60 - ms_h S c < m) (hm2 : m ≤ 61) (h : fstI (fun m => drainI C np ps c n (layS c m S) = -1) m = -1) : fstI (fun m => drainI C np ps c n (layS c m S) = -1) 61 = -1 := by
  have hh := hS.1 c hc
  have h1 : ∀ i, 0 ≤ i → i < m → ¬ drainI C np ps c n (layS c i S) = -1 := by
    rcases fst_cases (P := fun m => drainI C np ps c n (layS c m S) = -1) (n := m) (by omega) with q | q
    · exact q.2
    · omega
  rcases fst_cases (P := fun m => drainI C np ps c n (layS c m S) = -1) (n := 61) (by decide) with q | q
  · exact q.1
  · exfalso
    by_cases z : fstI (fun m => drainI C np ps c n (layS c m S) = -1) 61 < m
    · exact h1 _ q.1 z q.2.2.1
    · have e1 : coreE (layS c (fstI (fun m => drainI C np ps c n (layS c m S) = -1) 61) S) (layS c (60 - ms_h S c) S) := core_setA (putN_more hh (by omega)) _ _
      have e2 := q.2.2.1
      rw [core_drain hn e1] at e2
      exact h1 _ (by omega) hm e2
/-! the reference's copies of the moor in a row of 432 -/
def packS (S : MS) : Int → Int := fun j => if j < 420 then ms_m S j else if j < 427 then ms_h S (j - 420) else if j = 427 then ms_w S else if j = 428 then ms_l S else if j = 429 then ms_a S else if j = 430 then ms_t S else ms_p S
theorem packS_m {S : MS} {j : Int} (h : j < 420) : packS S j = ms_m S j := if_pos h
theorem packS_h {S : MS} {j : Int} (h : 0 ≤ j ∧ j < 7) : packS S (420 + j) = ms_h S j := by
  unfold packS
  rw [if_neg (by omega), if_pos (by omega), show 420 + j - 420 = j by omega]
theorem packS_end {S : MS} {v : Int → Int} (h1 : ∀ j : Int, 0 ≤ j → j < 420 → v j = ms_m S j) (h2 : ∀ j : Int, 0 ≤ j → j < 7 → v (420 + j) = ms_h S j) : ∀ j : Int, 0 ≤ j ∧ j < ((432 : Nat) : Int) → up (up (up (up (up v 427 (ms_w S)) 428 (ms_l S)) 429 (ms_a S)) 430 (ms_t S)) 431 (ms_p S) j = packS S j := by
  intro j hj
  by_cases a : j < 420
  · rw [packS_m a, up_ne _ _ _ _ (by omega), up_ne _ _ _ _ (by omega), up_ne _ _ _ _ (by omega), up_ne _ _ _ _ (by omega), up_ne _ _ _ _ (by omega)]
    exact h1 j hj.1 a
  by_cases b : j < 427
  · have e := packS_h (S := S) (j := j - 420) (by omega)
    rw [show 420 + (j - 420) = j by omega] at e
    rw [e, up_ne _ _ _ _ (by omega), up_ne _ _ _ _ (by omega), up_ne _ _ _ _ (by omega), up_ne _ _ _ _ (by omega), up_ne _ _ _ _ (by omega)]
    have := h2 (j - 420) (by omega) (by omega)
    rwa [show 420 + (j - 420) = j by omega] at this
  · rcases (show j = 427 ∨ j = 428 ∨ j = 429 ∨ j = 430 ∨ j = 431 by omega) with rfl | rfl | rfl | rfl | rfl <;> rfl
def gSS (G : GS) (v : Int) : GS := (g_np G, g_nc G, g_pl G, g_ik G, g_ks G, v, g_fa G, g_iw G, g_nw G, g_ns G, g_ne G, g_h G)
/-- what calls show of the reference's other numbers -/
def gEq (G G' : GS) : Prop := g_np G' = g_np G ∧ g_nc G' = g_nc G ∧ g_pl G' = g_pl G ∧ g_ik G' = g_ik G ∧ g_ks G' = g_ks G
theorem gEq.rf (G : GS) : gEq G G := ⟨rfl, rfl, rfl, rfl, rfl⟩
theorem gEq.ss (G : GS) (v : Int) : gEq G (gSS G v) := ⟨rfl, rfl, rfl, rfl, rfl⟩
theorem gEq.tr {G H K : GS} (h : gEq G H) (g : gEq H K) : gEq G K := ⟨g.1.trans h.1, g.2.1.trans h.2.1, g.2.2.1.trans h.2.2.1, g.2.2.2.1.trans h.2.2.2.1, g.2.2.2.2.trans h.2.2.2.2⟩
-- how many of a row, from either end
theorem cnt_head (f : Int → Int) (w : Int) (n : Nat) : foldI (cntF f w) (n + 1) 0 = (if f 0 = w then 1 else 0) + foldI (cntF (fun d => f (d + 1)) w) n 0 := by
  induction n with
  | zero => show cntF f w 0 0 = _; unfold cntF; split <;> rfl
  | succ n ih =>
    show cntF f w ((n + 1 : Nat) : Int) (foldI (cntF f w) (n + 1) 0) = _ + cntF (fun d => f (d + 1)) w (n : Int) (foldI (cntF (fun d => f (d + 1)) w) n 0)
    rw [ih]
    have e : ((n + 1 : Nat) : Int) = (n : Int) + 1 := by omega
    unfold cntF
    rw [e]
    split <;> omega
theorem cnt_revN (g : Int → Int) (w : Int) (n : Nat) : foldI (cntF (fun d => g ((n : Int) - 1 - d)) w) n 0 = foldI (cntF g w) n 0 := by
  induction n with
  | zero => rfl
  | succ n ih =>
    rw [cnt_head]
    show _ = cntF g w (n : Int) (foldI (cntF g w) n 0)
    have e1 : (fun d : Int => g (((n + 1 : Nat) : Int) - 1 - (d + 1))) = fun d : Int => g ((n : Int) - 1 - d) := by
      funext d; congr 1; omega
    have e2 : ((n + 1 : Nat) : Int) - 1 - 0 = (n : Int) := by omega
    rw [e1, ih, e2]
    unfold cntF
    split <;> omega
theorem cnt_congr {f g : Int → Int} {w n : Int} (hn : 0 ≤ n) (h : ∀ i, 0 ≤ i → i < n → f i = g i) : cntI f w n = cntI g w n := by
  have := fo_ind (f := cntF f w) (s := 0) (n := n) (P := fun k b => b = cntI g w k) hn rfl (fun k b h0 h1 hb => by
    unfold cntI at hb ⊢
    rw [fo_succ _ h0, ← hb]
    unfold cntF
    rw [h k h0 h1])
  exact this
theorem cnt_mark {c w : Int} {S : MS} (h : okS S) (hc : 0 ≤ c ∧ c < 7) : cntI (fun d => markS c d S) w (ms_h S c) = cntI (fun k => ms_m S (60 * c + k)) w (ms_h S c) := by
  have hh := h.1 c hc
  have e1 : cntI (fun d => markS c d S) w (ms_h S c) = cntI (fun d => ms_m S (60 * c + (ms_h S c - 1 - d))) w (ms_h S c) := cnt_congr hh.1 (fun i h0 h1 => by unfold markS; rw [if_pos ⟨h0, h1⟩])
  rw [e1]
  have e2 := cnt_revN (fun k => ms_m S (60 * c + k)) w (ms_h S c).toNat
  rw [show (((ms_h S c).toNat : Nat) : Int) = ms_h S c by omega] at e2
  exact e2
theorem alone_step {h : Int → Int} {c i : Int} (h0 : 0 ≤ i) (hp : 0 ≤ fo (surF h (h c - 1) c) i 0) : 0 ≤ fo (surF h (h c - 1) c) (i + 1) 0 ∧ (fo (surF h (h c - 1) c) (i + 1) 0 = 0 ↔ fo (surF h (h c - 1) c) i 0 = 0 ∧ (i = c ∨ h i < h c)) := by
  rw [fo_succ _ h0]
  unfold surF
  unfold surF at hp
  split <;> omega
theorem sur_pos {S : MS} (h : okS S) {lv c : Int} (hl : lv < 0) (hc : 0 ≤ c ∧ c < 7) : 0 < surI (ms_h S) lv c := by
  have := fo_ind (f := surF (ms_h S) lv c) (s := 0) (n := 7) (P := fun k b => k - 1 ≤ b ∧ (k ≤ c → k ≤ b)) (by decide) ⟨by decide, fun _ => by decide⟩ (fun k b h0 h1 hb => by
    have h2 := h.1 k ⟨h0, h1⟩
    unfold surF
    split <;> omega)
  unfold surI; omega
def gIM (G : GS) (v : Int) : GS := (g_np G, g_nc G, g_pl G, 1, v, v, g_fa G, g_iw G, g_nw G, g_ns G, g_ne G, g_h G)
end
section
/-! the page and its customs -/
theorem land255 (x : Int) : landI x 255 = x % 256 := by
  unfold landI
  have h1 : Int64.ofInt x &&& Int64.ofInt 255 = Int64.ofInt (x % 256) := by
    apply Int64.toBitVec.inj
    rw [Int64.toBitVec_and]
    show BitVec.ofInt 64 x &&& BitVec.ofInt 64 255 = BitVec.ofInt 64 (x % 256)
    apply BitVec.eq_of_toNat_eq
    rw [BitVec.toNat_and, BitVec.toNat_ofInt, BitVec.toNat_ofInt, BitVec.toNat_ofInt]
    rw [show ((255 : Int) % ((2 ^ 64 : Nat) : Int)).toNat = 2 ^ 8 - 1 from rfl, Nat.and_two_pow_sub_one_eq_mod]
    omega
  rw [h1, Int64.toInt_ofInt_of_le (by omega) (by omega)]
/-- the i-th byte of a long -/
def codeW (w i : Int) : Int := if i = 0 then w % 256 else if i = 1 then w / 256 % 256 else if i = 2 then w / 65536 % 256 else if i = 3 then w / 16777216 % 256 else if i = 4 then w / 4294967296 % 256 else if i = 5 then w / 1099511627776 % 256 else if i = 6 then w / 281474976710656 % 256 else w / 72057594037927936 % 256
theorem codeW_in (w i : Int) : 0 ≤ codeW w i ∧ codeW w i < 256 := by
  unfold codeW
  split <;> (try split) <;> (try split) <;> (try split) <;> (try split) <;> (try split) <;> (try split) <;> omega
theorem lushr_nat (w : Int) (s : Nat) (hs : s < 64) : lushrI w (s : Int) % 256 = ((w % 18446744073709551616) / (2 ^ s : Nat)) % 256 := by
  unfold lushrI
  have e1 : (Int32.ofInt (s : Int)).toInt64.toUInt64 &&& Int64.toUInt64 63 = UInt64.ofNat s := by
    rcases (show s = 0 ∨ s = 1 ∨ s = 2 ∨ s = 3 ∨ s = 4 ∨ s = 5 ∨ s = 6 ∨ s = 7 ∨ 8 ≤ s by omega) with _ | _ | _ | _ | _ | _ | _ | _ | _ <;> exact (show ∀ s : Fin 64, (Int32.ofInt ((s : Nat) : Int)).toInt64.toUInt64 &&& Int64.toUInt64 63 = UInt64.ofNat s by decide +kernel) ⟨s, hs⟩
  rw [e1]
  show ((Int64.ofInt w).toBitVec >>> (UInt64.ofNat s % 64).toBitVec).toInt % 256 = _
  have e2 : ((UInt64.ofNat s % 64).toBitVec).toNat = s := (show ∀ s : Fin 64, ((UInt64.ofNat (s : Nat) % 64).toBitVec).toNat = s by decide +kernel) ⟨s, hs⟩
  rw [BitVec.ushiftRight_eq', BitVec.toInt_eq_toNat_bmod, BitVec.toNat_ushiftRight, e2]
  show (((BitVec.ofInt 64 w).toNat >>> s : Nat) : Int).bmod _ % 256 = _
  rw [BitVec.toNat_ofInt, Nat.shiftRight_eq_div_pow]
  have e3 : ((((w % ((2 ^ 64 : Nat) : Int)).toNat / 2 ^ s : Nat)) : Int) = (w % 18446744073709551616) / (2 ^ s : Nat) := by
    rw [Int.natCast_ediv, Int.toNat_of_nonneg (by omega)]
    rfl
  rw [e3]
  generalize (w % 18446744073709551616) / ((2 ^ s : Nat) : Int) = z
  rw [← Int.emod_emod_of_dvd (Int.bmod z (2 ^ 64)) (show (256 : Int) ∣ ((2 ^ 64 : Nat) : Int) by decide), Int.bmod_emod, Int.emod_emod_of_dvd z (show (256 : Int) ∣ ((2 ^ 64 : Nat) : Int) by decide)]
theorem lshr_nat (w : Int) (s : Nat) (hs : s < 64) (hw : -9223372036854775808 ≤ w ∧ w ≤ 9223372036854775807) : lshrI w (s : Int) = w / (2 ^ s : Nat) := by
  unfold lshrI
  have e1 : (Int32.ofInt (s : Int)).toInt64 &&& 63 = Int64.ofNat s := (show ∀ s : Fin 64, (Int32.ofInt ((s : Nat) : Int)).toInt64 &&& 63 = Int64.ofNat s by decide +kernel) ⟨s, hs⟩
  rw [e1]
  show (BitVec.sshiftRight' (BitVec.ofInt 64 w) ((Int64.ofNat s).toBitVec.smod 64)).toInt = _
  have e2 : ((Int64.ofNat s).toBitVec.smod 64).toNat = s := (show ∀ s : Fin 64, ((Int64.ofNat (s : Nat)).toBitVec.smod 64).toNat = s by decide +kernel) ⟨s, hs⟩
  rw [BitVec.sshiftRight', BitVec.toInt_sshiftRight, Int.shiftRight_eq_div_pow, BitVec.toInt_ofInt, e2, Int.bmod_eq_of_le (by omega) (by omega)]
theorem cW_u {w i : Int} (h : 0 ≤ i ∧ i < 8) : landI (lushrI w (8 * i)) 255 = codeW w i := by
  rw [land255]
  have e := lushr_nat w (8 * i).toNat (by omega)
  rw [show (((8 * i).toNat : Nat) : Int) = 8 * i by omega] at e
  rw [e]
  unfold codeW
  rcases (show i = 0 ∨ i = 1 ∨ i = 2 ∨ i = 3 ∨ i = 4 ∨ i = 5 ∨ i = 6 ∨ i = 7 by omega) with rfl | rfl | rfl | rfl | rfl | rfl | rfl | rfl <;> simp <;> omega
theorem cW_s {w i : Int} (h : 0 ≤ i ∧ i < 8) (hw : -9223372036854775808 ≤ w ∧ w ≤ 9223372036854775807) : landI (lshrI w (8 * i)) 255 = codeW w i := by
  rw [land255]
  have e := lshr_nat w (8 * i).toNat (by omega) hw
  rw [show (((8 * i).toNat : Nat) : Int) = 8 * i by omega] at e
  rw [e]
  unfold codeW
  rcases (show i = 0 ∨ i = 1 ∨ i = 2 ∨ i = 3 ∨ i = 4 ∨ i = 5 ∨ i = 6 ∨ i = 7 by omega) with rfl | rfl | rfl | rfl | rfl | rfl | rfl | rfl <;> simp
theorem i2b_small {x : Int} (h : x % 256 ≤ 127) : i2bI x = x % 256 := by
  unfold i2bI
  have e : (Int32.ofInt x).toInt8.toInt32.toInt = (x.bmod 256) := by
    rw [Int8.toInt_toInt32, Int32.toInt_toInt8, Int32.toInt_ofInt]
    exact Int.bmod_bmod_of_dvd (by decide)
  rw [e, Int.bmod_def]
  omega
theorem cW_b {w i : Int} (h : 0 ≤ i ∧ i < 8) (hw : -9223372036854775808 ≤ w ∧ w ≤ 9223372036854775807) (hc : codeW w i ≤ 126) : i2bI (lshrI w (8 * i)) = codeW w i := by
  have e := cW_s h hw
  rw [land255] at e
  rw [i2b_small (by omega), e]
theorem nar_small {x : Int} (h : 0 ≤ x ∧ x ≤ 127) : vp_nar .byte (Int32.ofInt x) = Int32.ofInt x := by
  show (Int32.ofInt x).toInt8.toInt32 = _
  apply Int32.toInt_inj.mp
  rw [Int8.toInt_toInt32, Int32.toInt_toInt8, Int32.toInt_ofInt_of_le (by omega) (by omega), Int.bmod_def]
  omega
theorem fo_absorb {σ : Type} {f : Int → σ → σ} {b : σ} (hf : ∀ k, f k b = b) {i n : Int} (h0 : 0 ≤ i) (hn : i ≤ n) {s : σ} (h : fo f i s = b) : fo f n s = b := by
  have go : ∀ m : Nat, fo f (i + m) s = b := by
    intro m
    induction m with
    | zero => simpa using h
    | succ m ih => rw [show i + ((m + 1 : Nat) : Int) = (i + m) + 1 by omega, fo_succ _ (by omega), ih, hf]
  have := go (n - i).toNat
  rwa [show i + (((n - i).toNat : Nat) : Int) = n by omega] at this
/-- how many letters a long tells; -1: it may not be -/
def lnF (w i m : Int) : Int := if m = -1 then -1 else if 126 < codeW w i ∨ (codeW w i ≠ 0 ∧ m < i) then -1 else if codeW w i = 0 then m else m + 1
def lnI (w : Int) : Int := fo (lnF w) 8 0
theorem ln_bad {w i m : Int} (h0 : 0 ≤ i ∧ i < 8) (h : fo (lnF w) i 0 = m) (hb : 126 < codeW w i ∨ (codeW w i ≠ 0 ∧ m < i)) : lnI w = -1 := by
  refine fo_absorb (fun k => by unfold lnF; rw [if_pos rfl]) (i := i + 1) (by omega) (by omega) ?_
  rw [fo_succ _ h0.1, h]
  unfold lnF
  split <;> first | rfl | rw [if_pos hb]
theorem ln_step {w i m : Int} (h0 : 0 ≤ i) (hm : ¬ m = -1) (h : fo (lnF w) i 0 = m) (hb : ¬ (126 < codeW w i ∨ (codeW w i ≠ 0 ∧ m < i))) : fo (lnF w) (i + 1) 0 = if codeW w i = 0 then m else m + 1 := by
  rw [fo_succ _ h0, h]
  unfold lnF
  rw [if_neg hm, if_neg hb]
theorem ln_in {w n : Int} (hn : 0 ≤ n) : fo (lnF w) n 0 = -1 ∨ (0 ≤ fo (lnF w) n 0 ∧ fo (lnF w) n 0 ≤ n ∧ ∀ j, 0 ≤ j → j < fo (lnF w) n 0 → 1 ≤ codeW w j ∧ codeW w j ≤ 126) := by
  refine fo_ind (f := lnF w) (s := 0) (P := fun k m => m = -1 ∨ (0 ≤ m ∧ m ≤ k ∧ ∀ j, 0 ≤ j → j < m → 1 ≤ codeW w j ∧ codeW w j ≤ 126)) hn (Or.inr ⟨by decide, by decide, fun j a b => by omega⟩) (fun k m h0 h1 h => ?_)
  have hc := codeW_in w k
  unfold lnF
  rcases h with h | ⟨a, b, c⟩
  · rw [if_pos h]; exact Or.inl rfl
  · rw [if_neg (by omega)]
    split
    · exact Or.inl rfl
    · next q =>
      split
      · exact Or.inr ⟨a, by omega, c⟩
      · next z =>
        refine Or.inr ⟨by omega, by omega, fun j hj hk => ?_⟩
        by_cases e : j = m
        · have : m = k := by omega
          rw [e, this]
          omega
        · exact c j hj (by omega)
def okPg (pg : Int → Int) (pl : Int) : Prop := (0 ≤ pl ∧ pl ≤ 16) ∧ ∀ i, 0 ≤ i → i < pl → 1 ≤ pg i ∧ pg i ≤ 126
def wrF (w pl i : Int) (g : Int → Int) : Int → Int := up g (pl + i) (codeW w i)
def wrI (w pl n : Int) (g : Int → Int) : Int → Int := fo (wrF w pl) n g
theorem wrI_succ {w pl n : Int} {g : Int → Int} (h : 0 ≤ n) : wrI w pl (n + 1) g = up (wrI w pl n g) (pl + n) (codeW w n) := fo_succ _ h g
def rLetters (w pl : Int) : Int := if lnI w = -1 then -102 else if 16 < pl + lnI w then -104 else pl + lnI w
def sLetG (w pl : Int) (pg : Int → Int) : Int → Int := if lnI w = -1 then pg else if 16 < pl + lnI w then pg else wrI w pl (lnI w) pg
def sLetN (w pl : Int) : Int := if lnI w = -1 then pl else if 16 < pl + lnI w then pl else pl + lnI w
theorem okPg_let {w pl : Int} {pg : Int → Int} (h : okPg pg pl) : okPg (sLetG w pl pg) (sLetN w pl) := by
  unfold sLetG sLetN
  split
  · exact h
  split
  · exact h
  · next a b =>
    rcases ln_in (w := w) (n := 8) (by decide) with q | ⟨q1, q2, q3⟩
    · exact absurd q a
    · have hw : ∀ n : Int, 0 ≤ n → n ≤ lnI w → ∀ i, 0 ≤ i → i < pl + n → 1 ≤ wrI w pl n pg i ∧ wrI w pl n pg i ≤ 126 := by
        intro n hn hl
        refine fo_ind (f := wrF w pl) (s := pg) (n := n) (P := fun k g => ∀ i, 0 ≤ i → i < pl + k → 1 ≤ g i ∧ g i ≤ 126) hn (fun i a b => h.2 i a (by omega)) (fun k g h0 h1 hk i a b => ?_)
        unfold wrF up
        split
        · exact q3 k h0 (by show k < lnI w; omega)
        · exact hk i a (by omega)
      exact ⟨⟨by have := h.1; show 0 ≤ pl + lnI w; unfold lnI; omega, by omega⟩, hw (lnI w) q1 (Int.le_refl _)⟩
def ruleI (c : Int) : Int := if 48 ≤ c ∧ c ≤ 54 then c - 48 else if c = 109 then 7 else if c = 108 then 8 else if c = 112 then 9 else if c = 110 then 10 else -1
theorem ruleI_in (c : Int) : -1 ≤ ruleI c ∧ ruleI c ≤ 10 := by
  unfold ruleI
  split
  · omega
  split
  · omega
  split
  · omega
  split
  · omega
  split <;> omega
abbrev fitP (i c : Int) : Prop := (i = 0 ∧ c = 119) ∨ (i = 1 ∧ ruleI c ≠ -1) ∨ (i = 2 ∧ c = 115) ∨ (i = 3 ∧ ruleI c ≠ -1) ∨ (i = 4 ∧ c = 102) ∨ (i = 5 ∧ 49 ≤ c ∧ c ≤ 57)
def badI (pg : Int → Int) (pl : Int) : Int := fstI (fun i => ¬ fitP i (pg i)) pl
def faultI (pg : Int → Int) (pl : Int) : Int := if badI pg pl = -1 then pl else badI pg pl
abbrev cusP (pg : Int → Int) (pl : Int) : Prop := (pl = 4 ∨ pl = 6) ∧ faultI pg pl = pl
def cusI (pg : Int → Int) (pl : Int) : CT := (ruleI (pg 1), ruleI (pg 3), if pl = 6 then pg 5 - 48 else 0)
theorem bad_no {pg : Int → Int} {pl : Int} (h : okPg pg pl) (hc : cusP pg pl) : ∀ i, 0 ≤ i → i < pl → fitP i (pg i) := by
  rcases fst_cases (P := fun i => ¬ fitP i (pg i)) (n := pl) h.1.1 with q | q
  · exact fun i a b => Classical.byContradiction (fun z => q.2 i a b z)
  · exfalso
    have h1 := hc.2
    unfold faultI badI at h1
    rw [if_neg (by omega)] at h1
    omega
theorem okC_cus {pg : Int → Int} {pl : Int} (h : okPg pg pl) (hc : cusP pg pl) : okC (cusI pg pl) := by
  have hf := bad_no h hc
  have hl : 4 ≤ pl := by rcases hc.1 with e | e <;> omega
  have f1 := hf 1 (by decide) (by omega)
  have f3 := hf 3 (by decide) (by omega)
  have r1 := ruleI_in (pg 1)
  have r3 := ruleI_in (pg 3)
  refine ⟨⟨?_, r1.2⟩, ⟨?_, r3.2⟩, ?_⟩
  · show 0 ≤ ruleI (pg 1); unfold fitP at f1; omega
  · show 0 ≤ ruleI (pg 3); unfold fitP at f3; omega
  · show 0 ≤ (if pl = 6 then pg 5 - 48 else 0) ∧ (if pl = 6 then pg 5 - 48 else 0) ≤ 9
    split
    · next e =>
      have f5 := hf 5 (by decide) (by omega)
      unfold fitP at f5
      omega
    · decide
def rCustom (pg : Int → Int) (pl nc : Int) : Int := if ¬ cusP pg pl then -103 else if 4 ≤ nc then -104 else nc
abbrev cusOk (pg : Int → Int) (pl nc : Int) : Prop := cusP pg pl ∧ nc < 4
theorem orow_push {n : Int} {ad : Int → Nat} {q : Nat} (h : 0 ≤ n) : up (orow n ad) n (some q) = orow (n + 1) (up ad n q) := by
  funext i
  show (if i = n then some q else orow n ad i) = orow (n + 1) (up ad n q) i
  by_cases e : i = n
  · rw [if_pos e, orow_in (by omega), e, up_same]
  · rw [if_neg e]
    by_cases a : 0 ≤ i ∧ i < n
    · rw [orow_in a, orow_in (by omega), up_ne _ _ _ _ e]
    · rw [orow_out a, orow_out (by omega)]
def rCusTold (cu w nc : Int) (cs : Int → CT) : Int := if cu < 0 ∨ nc ≤ cu then -101 else if w < 0 ∨ 2 < w then -102 else toldC (cs cu) w
def gNX (st c : Int) (G : GS) : GS := (g_np G, g_nc G, g_pl G, g_ik G, g_ks G, g_ss G, g_fa G, g_iw G, if st = 1 then ruleI c else g_nw G, if st = 3 then ruleI c else g_ns G, if st = 5 then c - 48 else g_ne G, g_h G)
theorem gEq.nx (st c : Int) (G : GS) : gEq G (gNX st c G) := ⟨rfl, rfl, rfl, rfl, rfl⟩
theorem faultI_in {pg : Int → Int} {pl : Int} (h : okPg pg pl) : 0 ≤ faultI pg pl ∧ faultI pg pl ≤ pl := by
  have hp := h.1
  unfold faultI badI
  rcases fst_cases (P := fun i => ¬ fitP i (pg i)) (n := pl) h.1.1 with q | q
  · rw [if_pos q.1]; omega
  · rw [if_neg (by omega)]; omega
theorem j_aastC {X : jX} {cc : ByteArray} {nL : Nat} {own : String} {Ts : List Cond} {rm : Room} {D : va_G} {Y : Nat → ClassId} {RO : va_W} {k n : Nat} {ws ws' : va_W} {lc : List (Nat × Value)} {pc : Nat} {st : List Value} (C : jC X cc nL own Ts rm D Y RO) {cA : ClassId} {m0 : Nat} {g : Int → Option Nat} {a v : Nat} {i : Int} {vs : List Value} (q0 qk : Nat) (he : ws[q0]? = some (a, aQ cA m0 g)) (hcA : cA = Y 2) (hv : ws[qk]? = some (v, oC 1 vs)) (hi : 0 ≤ i ∧ i < (m0 : Int)) (hm : m0 < 2147483648) (hw : ws.set q0 (a, aQ cA m0 (up g i (some v))) = ws') (hd : decode cc pc = .ok (.aastore, 1)) (kk : jW X nL k n ws' lc (pc + 1) st) : jW X nL k n ws lc pc (.ref v :: vI i :: .ref a :: st) := by
  obtain ⟨p, l, e, R, s, m, args, below, meth, c, Q, D', Y', A, H0, RO'⟩ := X
  obtain ⟨⟨hx, hb, hml, hown, hts⟩, hK, hA, ⟨rfl, rfl, rfl, rfl⟩, hR, hRA, hN⟩ := C
  intro H locs ls hP hD hS hl
  subst hcA hw
  refine va_astq hx hb hK hP hD hS q0 2 qk 1 (cA := Y' 2) (r := (RX1, TX1, 3)) (n := m0) (f := fun k : Nat => g (k : Int)) he rfl hv rfl (nj_in hi hm) hd (fun H1 locs1 hP hD hS => ?_)
  rw [nj_upq (by omega)] at hP hD
  exact kk H1 locs1 ls hP hD hS hl
theorem j_aastP {X : jX} {cc : ByteArray} {nL : Nat} {own : String} {Ts : List Cond} {rm : Room} {D : va_G} {Y : Nat → ClassId} {RO : va_W} {k n : Nat} {ws ws' : va_W} {lc : List (Nat × Value)} {pc : Nat} {st : List Value} (C : jC X cc nL own Ts rm D Y RO) {cA : ClassId} {m0 : Nat} {g : Int → Option Nat} {a v : Nat} {i : Int} {P : PT} (q0 qk : Nat) (he : ws[q0]? = some (a, aQ cA m0 g)) (hcA : cA = Y 3) (hv : ws[qk]? = some (pC v P)) (hk : 0 ≤ pk P ∧ pk P ≤ 3) (hi : 0 ≤ i ∧ i < (m0 : Int)) (hm : m0 < 2147483648) (hw : ws.set q0 (a, aQ cA m0 (up g i (some v))) = ws') (hd : decode cc pc = .ok (.aastore, 1)) (kk : jW X nL k n ws' lc (pc + 1) st) : jW X nL k n ws lc pc (.ref v :: vI i :: .ref a :: st) := by
  obtain ⟨p, l, e, R, s, m, args, below, meth, c, Q, D', Y', A, H0, RO'⟩ := X
  obtain ⟨⟨hx, hb, hml, hown, hts⟩, hK, hA, ⟨rfl, rfl, rfl, rfl⟩, hR, hRA, hN⟩ := C
  intro H locs ls hP hD hS hl
  subst hcA hw
  have kk2 : ∀ (H1 : Heap) (locs1 : List Loc), va_P D' vwCl (ws.set q0 (a, .inl (Y' 3, m0, .inr (.inr (.inr (.inr (va_up (fun k : Nat => g (k : Int)) (Int32.ofInt i).toNatClampNeg (some v)))))))) H1 → va_D A (ws.set q0 (a, .inl (Y' 3, m0, .inr (.inr (.inr (.inr (va_up (fun k : Nat => g (k : Int)) (Int32.ofInt i).toNatClampNeg (some v)))))))) → va_S A H0 H1 locs1 → W p l e R s m args below meth c H1 locs1 k n Q (F0 m (pc + 1) ls st) := by
    intro H1 locs1 hP hD hS
    rw [nj_upq (by omega)] at hP hD
    exact kk H1 locs1 ls hP hD hS hl
  rcases (show pk P = 0 ∨ pk P = 1 ∨ pk P = 2 ∨ pk P = 3 by omega) with h | h | h | h
  · rw [pC_0 h] at hv
    exact va_astq hx hb hK hP hD hS q0 3 qk 4 (cA := Y' 3) (r := (RX5, TX5, 4)) (n := m0) (f := fun k : Nat => g (k : Int)) he rfl hv rfl (nj_in hi hm) hd kk2
  · rw [pC_1 h] at hv
    exact va_astqO hx hb hK hP hD hS q0 3 qk 5 (E := RX5) (cA := Y' 3) (r := (RX6, TX6, 4)) (n := m0) (f := fun k : Nat => g (k : Int)) he rfl hN.2.2.1.2.1 hv rfl (nj_in hi hm) hd kk2
  · rw [pC_2 h] at hv
    exact va_astqO hx hb hK hP hD hS q0 3 qk 6 (E := RX5) (cA := Y' 3) (r := (RX7, TX7, 4)) (n := m0) (f := fun k : Nat => g (k : Int)) he rfl hN.2.2.1.2.2.1 hv rfl (nj_in hi hm) hd kk2
  · rw [pC_3 h] at hv
    exact va_astqO hx hb hK hP hD hS q0 3 qk 0 (E := RX5) (cA := Y' 3) (r := (RX0, TX0, 4)) (n := m0) (f := fun k : Nat => g (k : Int)) he rfl hN.2.2.1.2.2.2 hv rfl (nj_in hi hm) hd kk2
theorem fit_of {q c : Int} (h : ¬ (if fitP q c then q + 1 else -1) = -1) : fitP q c := Classical.byContradiction (fun z => h (if_neg z))
theorem fit_not {q c : Int} (h0 : 0 ≤ q) (h : (if fitP q c then q + 1 else -1) = -1) : ¬ fitP q c := fun z => by rw [if_pos z] at h; omega
def rdP (pg : Int → Int) (k b : Int) (G : GS) : Prop := (2 ≤ k → g_nw G = ruleI (pg 1)) ∧ (4 ≤ k → g_ns G = ruleI (pg 3)) ∧ (b = 1 → k ≤ 5 → g_ne G = 0) ∧ (6 ≤ k → g_ne G = pg 5 - 48)
theorem rd_step {pg : Int → Int} {k q : Int} {G : GS} (hq : q = k) (h : rdP pg k 1 G) (h0 : 0 ≤ k ∧ k ≤ 5) : rdP pg (k + 1) 1 (gNX q (pg k) G) := by
  subst hq
  obtain ⟨a, b, c, d⟩ := h
  refine ⟨fun z => ?_, fun z => ?_, fun _ z => ?_, fun z => ?_⟩
  · show (if q = 1 then ruleI (pg q) else g_nw G) = _
    split
    · next e => rw [e]
    · exact a (by omega)
  · show (if q = 3 then ruleI (pg q) else g_ns G) = _
    split
    · next e => rw [e]
    · exact b (by omega)
  · show (if q = 5 then pg q - 48 else g_ne G) = 0
    rw [if_neg (by omega)]
    exact c rfl (by omega)
  · show (if q = 5 then pg q - 48 else g_ne G) = _
    have e : q = 5 := by omega
    rw [if_pos e, e]
theorem rd_bad {pg : Int → Int} {k q c : Int} {G : GS} (hq : q = k) (h : rdP pg k 1 G) (h0 : 0 ≤ k ∧ k ≤ 6) : rdP pg k 0 (gNX q c G) := by
  subst hq
  obtain ⟨a, b, -, d⟩ := h
  refine ⟨fun z => ?_, fun z => ?_, fun z => by omega, fun z => ?_⟩
  · show (if q = 1 then ruleI c else g_nw G) = _
    rw [if_neg (by omega)]
    exact a z
  · show (if q = 3 then ruleI c else g_ns G) = _
    rw [if_neg (by omega)]
    exact b z
  · show (if q = 5 then c - 48 else g_ne G) = _
    rw [if_neg (by omega)]
    exact d z
theorem fault_eq {pg : Int → Int} {pl k : Int} (h0 : 0 ≤ k) (h : fstI (fun i => ¬ fitP i (pg i)) k = -1) (hk : k = pl ∨ (k < pl ∧ ¬ fitP k (pg k))) : faultI pg pl = k := by
  unfold faultI badI
  rcases hk with hk | hk
  · subst hk
    rw [h, if_pos rfl]
  · rw [fst_hit h0 hk.1 h hk.2, if_neg (by omega)]
theorem rd_end {pg : Int → Int} {pl k b : Int} {G : GS} (h : rdP pg k b G) (hf : faultI pg pl = k) (hb : b = 1 ∨ k < pl) (hc : cusP pg pl) : g_nw G = cw (cusI pg pl) ∧ g_ns G = cz (cusI pg pl) ∧ g_ne G = ce (cusI pg pl) := by
  obtain ⟨a, b, c, d⟩ := h
  have h1 := hc.1
  have h2 := hc.2
  refine ⟨a (by omega), b (by omega), ?_⟩
  show g_ne G = if pl = 6 then pg 5 - 48 else 0
  split
  · exact d (by omega)
  · exact c (by omega) (by omega)
end
section
set_option maxHeartbeats 4000000 in
set_option maxRecDepth 100000 in
theorem c_isCairn (l : Launch) (D : va_G) (Y : Nat → ClassId) (RO : va_W) (c : Int)  (hc : -2147483648 ≤ c ∧ c ≤ 2147483647) : jMi l yX9_isCairn wsX9_isCairn { frames := 0, cells := 0, slots := 0, locals := 0 } D Y RO [vI c] [] (fun e w1 => e = (if 0 ≤ c ∧ c < 7 then 1 else 0) ∧ w1 = []) := by
  refine j_ofz RX9 rfl rfl rfl (Nat.le_of_ble_eq_true rfl) (fun X C Rt => ?_)
  refine j_iload_n (pc := 0) C 0 0 rfl rfl dX9_isCairn_0 ?_
  refine j_if_lt (pc := 1) C 14 rfl (by omega) dX9_isCairn_1 (fun h_1p1 => ?_) (fun h_1p1 => ?_)
  · skip
    refine j_iconst (pc := 14) C dX9_isCairn_14 ?_
    exact Rt _ _ _ _ _ _ (by decide) (by decide) (by decide) ⟨by split <;> omega, rfl⟩ dX9_isCairn_15
  · skip
    refine j_iload_n (pc := 4) C 0 0 rfl rfl dX9_isCairn_4 ?_
    refine j_bipush (pc := 5) (w := 7) C rfl dX9_isCairn_5 ?_
    refine j_icmp_ge (pc := 7) C 14 rfl (by omega) dX9_isCairn_7 (fun h_2p7 => ?_) (fun h_2p7 => ?_)
    · skip
      refine j_iconst (pc := 14) C dX9_isCairn_14 ?_
      exact Rt _ _ _ _ _ _ (by decide) (by decide) (by decide) ⟨by split <;> omega, rfl⟩ dX9_isCairn_15
    · skip
      refine j_iconst (pc := 10) C dX9_isCairn_10 ?_
      refine j_goto (pc := 11) C 15 rfl dX9_isCairn_11 ?_
      exact Rt _ _ _ _ _ _ (by decide) (by decide) (by decide) ⟨by split <;> omega, rfl⟩ dX9_isCairn_15

theorem fX2_put_X2 : ∀ w ∈ u_ws RX2 TX2 8, w ∈ wsX2_put := j_words [7, 8, 9, 10, 11, 12, 13, 14] (by decide +kernel)
set_option maxHeartbeats 4000000 in
set_option maxRecDepth 100000 in
theorem c_put (l : Launch) (D : va_G) (Y : Nat → ClassId) (RO : va_W) (h : Nat) (hh : Nat) (hm : Nat) (S : MS) (c : Int) (x : Int)  (hS : okS S) (hc : 0 ≤ c ∧ c < 7) : jMv l yX2_put wsX2_put { frames := 1, cells := 0, slots := 0, locals := 20 } D Y RO [.ref h, vI c, vI x] [(h, oC 2 [.ref hh, .ref hm, vI (ms_w S), vI (ms_l S), vI (ms_s S), vI (ms_a S), vI (ms_t S), vI (ms_p S)]), (hh, aI (Y 0) 7 (ms_h S)), (hm, aI (Y 0) 420 (ms_m S))] (fun w1 => w1 = [(h, oC 2 [.ref hh, .ref hm, vI (ms_w (putS c x S)), vI (ms_l (putS c x S)), vI (ms_s (putS c x S)), vI (ms_a (putS c x S)), vI (ms_t (putS c x S)), vI (ms_p (putS c x S))]), (hh, aI (Y 0) 7 (ms_h (putS c x S))), (hm, aI (Y 0) 420 (ms_m (putS c x S)))]) := by
  refine j_ofv RX2 rfl rfl rfl (Nat.le_of_ble_eq_true rfl) (fun X C Rt hI => ?_)
  refine j_iload_n (pc := 0) C 1 1 rfl rfl dX2_put_0 ?_
  refine j_callSNi (pc := 1) (As := [vI c]) (na := 1) (st := []) C [] [0, 1, 2] (wr := [(h, oC 2 [.ref hh, .ref hm, vI (ms_w S), vI (ms_l S), vI (ms_s S), vI (ms_a S), vI (ms_t S), vI (ms_p S)]), (hh, aI (Y 0) 7 (ms_h S)), (hm, aI (Y 0) 420 (ms_m S))]) (fun l => c_isCairn l D Y _ c (by first | assumption | omega)) rfl rfl rfl rfl (by decide) rfl (host := "KneelingStones") gX2_put_X9_isCairn_n43 (List.mem_of_getElem? (i := 4) rfl) (List.mem_of_getElem? (i := 5) rfl) (fun _ h => h.1.1) (by decide +kernel) (by decide) rfl rfl (Nat.le_of_ble_eq_true rfl) (by decide) dX2_put_1 (fun e_1 w_2 h_3 => ?_)
  obtain ⟨rfl, rfl⟩ := h_3
  refine j_perm (ws' := [(h, oC 2 [.ref hh, .ref hm, vI (ms_w S), vI (ms_l S), vI (ms_s S), vI (ms_a S), vI (ms_t S), vI (ms_p S)]), (hh, aI (Y 0) 7 (ms_h S)), (hm, aI (Y 0) 420 (ms_m S))]) [0, 1, 2] rfl rfl ?_
  refine j_if_neb (pc := 4) C 8 rfl dX2_put_4 (fun h_4p4 => ?_) (fun h_4p4 => ?_)
  · skip
    refine j_aload_n (pc := 8) C 0 0 rfl rfl dX2_put_8 ?_
    refine j_get (pc := 9) C (Or.inl (List.mem_of_getElem? (i := 0) rfl)) rfl fX2_put_X2 0 (by decide) (List.mem_of_getElem? (i := 1) rfl) (Or.inl rfl) rfl dX2_put_9 ?_
    refine j_iload_n (pc := 12) C 1 1 rfl rfl dX2_put_12 ?_
    refine j_iald (pc := 13) C (Or.inl (List.mem_of_getElem? (i := 1) rfl)) rfl (by omega) (by decide) dX2_put_13 ?_
    have f_5 := hS.1 c (by omega)
    refine j_istore_n (pc := 14) (lc' := [(3, vI (ms_h S c)), (0, .ref h), (1, vI c), (2, vI x)]) C 3 rfl (by decide) rfl dX2_put_14 ?_
    refine j_iload_n (pc := 15) C 3 0 rfl rfl dX2_put_15 ?_
    refine j_if_lt (pc := 16) C 25 rfl (by omega) dX2_put_16 (fun h_6p16 => ?_) (fun h_6p16 => ?_)
    · skip
      refine j_aload_n (pc := 25) C 0 1 rfl rfl dX2_put_25 ?_
      refine j_dup (pc := 26) C rfl dX2_put_26 ?_
      refine j_get (pc := 27) C (Or.inl (List.mem_of_getElem? (i := 0) rfl)) rfl fX2_put_X2 7 (by decide) (List.mem_of_getElem? (i := 2) rfl) (Or.inl rfl) rfl dX2_put_27 ?_
      refine j_iconst (pc := 30) C dX2_put_30 ?_
      refine j_iadd (pc := 31) C dX2_put_31 ?_
      refine j_put (pc := 32) (ws' := [(h, oC 2 [.ref hh, .ref hm, vI (ms_w S), vI (ms_l S), vI (ms_s S), vI (ms_a S), vI (ms_t S), vI (ms_p S + 1)]), (hh, aI (Y 0) 7 (ms_h S)), (hm, aI (Y 0) 420 (ms_m S))]) C 0 rfl rfl fX2_put_X2 tyX2_ok nmX2 7 (by decide) (List.mem_of_getElem? (i := 2) rfl) (Or.inl rfl) rfl rfl rfl rfl (Nat.le_of_ble_eq_true rfl) rfl dX2_put_32 ?_
      exact Rt _ _ _ _ _ (by decide) (by decide) (by rw [putS_full (by omega)]; first | done | rfl) dX2_put_35
    · skip
      refine j_iload_n (pc := 19) C 3 0 rfl rfl dX2_put_19 ?_
      refine j_bipush (pc := 20) (w := 60) C rfl dX2_put_20 ?_
      refine j_icmp_lt (pc := 22) C 36 rfl (by omega) dX2_put_22 (fun h_7p22 => ?_) (fun h_7p22 => ?_)
      · skip
        refine j_aload_n (pc := 36) C 0 1 rfl rfl dX2_put_36 ?_
        refine j_get (pc := 37) C (Or.inl (List.mem_of_getElem? (i := 0) rfl)) rfl fX2_put_X2 1 (by decide) (List.mem_of_getElem? (i := 3) rfl) (Or.inl rfl) rfl dX2_put_37 ?_
        refine j_iload_n (pc := 40) C 1 2 rfl rfl dX2_put_40 ?_
        refine j_bipush (pc := 41) (w := 60) C rfl dX2_put_41 ?_
        refine j_imul (pc := 43) C dX2_put_43 ?_
        rw [show ((c * 60) : Int) = (60 * c) from Int.mul_comm _ _]
        refine j_iload_n (pc := 44) C 3 0 rfl rfl dX2_put_44 ?_
        refine j_iadd (pc := 45) C dX2_put_45 ?_
        refine j_iload_n (pc := 46) C 2 3 rfl rfl dX2_put_46 ?_
        refine j_iast (pc := 47) (ws' := [(h, oC 2 [.ref hh, .ref hm, vI (ms_w S), vI (ms_l S), vI (ms_s S), vI (ms_a S), vI (ms_t S), vI (ms_p S)]), (hh, aI (Y 0) 7 (ms_h S)), (hm, aI (Y 0) 420 (up (ms_m S) ((60 * c) + ms_h S c) x))]) C 2 rfl rfl (by omega) (by decide) rfl dX2_put_47 ?_
        refine j_aload_n (pc := 48) C 0 1 rfl rfl dX2_put_48 ?_
        refine j_get (pc := 49) C (Or.inl (List.mem_of_getElem? (i := 0) rfl)) rfl fX2_put_X2 0 (by decide) (List.mem_of_getElem? (i := 1) rfl) (Or.inl rfl) rfl dX2_put_49 ?_
        refine j_iload_n (pc := 52) C 1 2 rfl rfl dX2_put_52 ?_
        refine j_iload_n (pc := 53) C 3 0 rfl rfl dX2_put_53 ?_
        refine j_iconst (pc := 54) C dX2_put_54 ?_
        refine j_iadd (pc := 55) C dX2_put_55 ?_
        refine j_iast (pc := 56) (ws' := [(h, oC 2 [.ref hh, .ref hm, vI (ms_w S), vI (ms_l S), vI (ms_s S), vI (ms_a S), vI (ms_t S), vI (ms_p S)]), (hh, aI (Y 0) 7 (up (ms_h S) c (ms_h S c + 1))), (hm, aI (Y 0) 420 (up (ms_m S) ((60 * c) + ms_h S c) x))]) C 1 rfl rfl (by omega) (by decide) rfl dX2_put_56 ?_
        exact Rt _ _ _ _ _ (by decide) (by decide) (by rw [putS_not (by omega)]; first | done | rfl) dX2_put_57
      · skip
        refine j_aload_n (pc := 25) C 0 1 rfl rfl dX2_put_25 ?_
        refine j_dup (pc := 26) C rfl dX2_put_26 ?_
        refine j_get (pc := 27) C (Or.inl (List.mem_of_getElem? (i := 0) rfl)) rfl fX2_put_X2 7 (by decide) (List.mem_of_getElem? (i := 2) rfl) (Or.inl rfl) rfl dX2_put_27 ?_
        refine j_iconst (pc := 30) C dX2_put_30 ?_
        refine j_iadd (pc := 31) C dX2_put_31 ?_
        refine j_put (pc := 32) (ws' := [(h, oC 2 [.ref hh, .ref hm, vI (ms_w S), vI (ms_l S), vI (ms_s S), vI (ms_a S), vI (ms_t S), vI (ms_p S + 1)]), (hh, aI (Y 0) 7 (ms_h S)), (hm, aI (Y 0) 420 (ms_m S))]) C 0 rfl rfl fX2_put_X2 tyX2_ok nmX2 7 (by decide) (List.mem_of_getElem? (i := 2) rfl) (Or.inl rfl) rfl rfl rfl rfl (Nat.le_of_ble_eq_true rfl) rfl dX2_put_32 ?_
        exact Rt _ _ _ _ _ (by decide) (by decide) (by rw [putS_full (by omega)]; first | done | rfl) dX2_put_35
  · skip
    exact absurd hc h_4p4

theorem fX2_layNew_X2 : ∀ w ∈ u_ws RX2 TX2 8, w ∈ wsX2_layNew := j_words [14, 15, 16, 17, 18, 19, 20, 21] (by decide +kernel)
set_option maxHeartbeats 4000000 in
set_option maxRecDepth 100000 in
theorem c_layNew (l : Launch) (D : va_G) (Y : Nat → ClassId) (RO : va_W) (h : Nat) (hh : Nat) (hm : Nat) (S : MS) (c : Int) (n : Int)  (hS : okS S) (hc : 0 ≤ c ∧ c < 7) (hn : 0 ≤ n ∧ n ≤ 2147483646) : jMv l yX2_layNew wsX2_layNew { frames := 2, cells := 0, slots := 0, locals := 43 } D Y RO [.ref h, vI c, vI n] [(h, oC 2 [.ref hh, .ref hm, vI (ms_w S), vI (ms_l S), vI (ms_s S), vI (ms_a S), vI (ms_t S), vI (ms_p S)]), (hh, aI (Y 0) 7 (ms_h S)), (hm, aI (Y 0) 420 (ms_m S))] (fun w1 => w1 = [(h, oC 2 [.ref hh, .ref hm, vI (ms_w (layS c n S)), vI (ms_l (layS c n S)), vI (ms_s (layS c n S)), vI (ms_a (layS c n S)), vI (ms_t (layS c n S)), vI (ms_p (layS c n S))]), (hh, aI (Y 0) 7 (ms_h (layS c n S))), (hm, aI (Y 0) 420 (ms_m (layS c n S)))]) := by
  refine j_ofv RX2 rfl rfl rfl (Nat.le_of_ble_eq_true rfl) (fun X C Rt hI => ?_)
  refine j_iconst (pc := 0) C dX2_layNew_0 ?_
  refine j_istore_n (pc := 1) (lc' := [(3, vI 0), (0, .ref h), (1, vI c), (2, vI n)]) C 3 rfl (by decide) rfl dX2_layNew_1 ?_
  have hL2 : ∀ (N2 : Nat) (i : Int) (T : MS), ((n - i).toNat) < N2 → (0 ≤ i ∧ i ≤ n) → (T = putN c i S) → (okS T) → jW X 4 0 0 [(h, oC 2 [.ref hh, .ref hm, vI (ms_w T), vI (ms_l T), vI (ms_s T), vI (ms_a T), vI (ms_t T), vI (ms_p T)]), (hh, aI (Y 0) 7 (ms_h T)), (hm, aI (Y 0) 420 (ms_m T))] [(0, .ref h), (1, vI c), (2, vI n), (3, vI i)] 2 [] := by
    intro N2
    induction N2 with
    | zero => intro i T hm2 i2_0 i2_1 i2_2; omega
    | succ N2 ih2 =>
      intro i T hm2 i2_0 i2_1 i2_2
      refine j_iload_n (pc := 2) C 3 3 rfl rfl dX2_layNew_2 ?_
      refine j_iload_n (pc := 3) C 2 2 rfl rfl dX2_layNew_3 ?_
      refine j_icmp_ge (pc := 4) C 22 rfl (by omega) dX2_layNew_4 (fun h_1p4 => ?_) (fun h_1p4 => ?_)
      · skip
        refine j_aload_n (pc := 22) C 0 0 rfl rfl dX2_layNew_22 ?_
        refine j_dup (pc := 23) C rfl dX2_layNew_23 ?_
        refine j_get (pc := 24) C (Or.inl (List.mem_of_getElem? (i := 0) rfl)) rfl fX2_layNew_X2 5 (by decide) (List.mem_of_getElem? (i := 2) rfl) (Or.inl rfl) rfl dX2_layNew_24 ?_
        refine j_iload_n (pc := 27) C 2 2 rfl rfl dX2_layNew_27 ?_
        refine j_iadd (pc := 28) C dX2_layNew_28 ?_
        refine j_put (pc := 29) (ws' := [(h, oC 2 [.ref hh, .ref hm, vI (ms_w T), vI (ms_l T), vI (ms_s T), vI (ms_a T + n), vI (ms_t T), vI (ms_p T)]), (hh, aI (Y 0) 7 (ms_h T)), (hm, aI (Y 0) 420 (ms_m T))]) C 0 rfl rfl fX2_layNew_X2 tyX2_ok nmX2 5 (by decide) (List.mem_of_getElem? (i := 2) rfl) (Or.inl rfl) rfl rfl rfl rfl (Nat.le_of_ble_eq_true rfl) rfl dX2_layNew_29 ?_
        exact Rt _ _ _ _ _ (by decide) (by decide) (by rw [show n = i by omega]; unfold layS; rw [← i2_1]; first | done | rfl) dX2_layNew_32
      · skip
        refine j_aload_n (pc := 7) C 0 0 rfl rfl dX2_layNew_7 ?_
        refine j_iload_n (pc := 8) C 1 1 rfl rfl dX2_layNew_8 ?_
        refine j_aload_n (pc := 9) C 0 0 rfl rfl dX2_layNew_9 ?_
        refine j_get (pc := 10) C (Or.inl (List.mem_of_getElem? (i := 0) rfl)) rfl fX2_layNew_X2 2 (by decide) (List.mem_of_getElem? (i := 1) rfl) (Or.inl rfl) rfl dX2_layNew_10 ?_
        refine j_callVv (pc := 13) (As := [vI c, vI (ms_w T)]) (na := 2) (st := []) C [0, 1, 2] [] (wr := []) (fun l => c_put l D Y _ h hh hm T c (ms_w T) i2_2 hc) rfl rfl rfl rfl (by decide) rfl (Or.inl (List.mem_of_getElem? (i := 0) rfl)) rfl gX2_layNew_X2_put ⟨rfl, by decide +kernel⟩ (by decide) rfl rfl (Nat.le_of_ble_eq_true rfl) (by decide) dX2_layNew_13 (fun w_3 h_4 => ?_)
        subst h_4
        refine j_perm (ws' := [(h, oC 2 [.ref hh, .ref hm, vI (ms_w (putS c (ms_w T) T)), vI (ms_l (putS c (ms_w T) T)), vI (ms_s (putS c (ms_w T) T)), vI (ms_a (putS c (ms_w T) T)), vI (ms_t (putS c (ms_w T) T)), vI (ms_p (putS c (ms_w T) T))]), (hh, aI (Y 0) 7 (ms_h (putS c (ms_w T) T))), (hm, aI (Y 0) 420 (ms_m (putS c (ms_w T) T)))]) [0, 1, 2] rfl rfl ?_
        refine j_iinc (pc := 16) (lc' := [(3, vI (i + 1)), (0, .ref h), (1, vI c), (2, vI n)]) C 3 rfl (by decide) rfl dX2_layNew_16 ?_
        refine j_goto (pc := 19) C 2 rfl dX2_layNew_19 ?_
        refine j_locals (lc' := [(0, .ref h), (1, vI c), (2, vI n), (3, vI (i + 1))]) [1, 2, 3, 0] rfl ?_
        exact ih2 (i + 1) (putS c (ms_w T) T) (by omega) (by omega) (by rw [i2_1]; exact (putN_succ (by omega)).symm) (okS_put i2_2 hc ⟨i2_2.w, Int.le_refl _⟩)
  refine j_locals (lc' := [(0, .ref h), (1, vI c), (2, vI n), (3, vI 0)]) [1, 2, 3, 0] rfl ?_
  exact hL2 _ 0 S (Nat.lt_succ_self _) (by omega) rfl hS

theorem fX2_most_X2 : ∀ w ∈ u_ws RX2 TX2 8, w ∈ wsX2_most := j_words [2, 3, 4, 5, 6, 7, 8, 9] (by decide +kernel)
set_option maxHeartbeats 4000000 in
set_option maxRecDepth 100000 in
theorem c_most (l : Launch) (D : va_G) (Y : Nat → ClassId) (RO : va_W) (h : Nat) (hh : Nat) (hm : Nat) (S : MS) (r0 : (h, oC 2 [.ref hh, .ref hm, vI (ms_w S), vI (ms_l S), vI (ms_s S), vI (ms_a S), vI (ms_t S), vI (ms_p S)]) ∈ RO) (r1 : (hh, aI (Y 0) 7 (ms_h S)) ∈ RO) (hS : okS S) : jMi l yX2_most wsX2_most { frames := 0, cells := 0, slots := 0, locals := 0 } D Y RO [.ref h] [] (fun e w1 => e = mostI (ms_h S) ∧ w1 = []) := by
  refine j_ofi RX2 rfl rfl rfl (Nat.le_of_ble_eq_true rfl) (fun X C Rt => ?_)
  refine j_iconst (pc := 0) C dX2_most_0 ?_
  refine j_istore_n (pc := 1) (lc' := [(1, vI 0), (0, .ref h)]) C 1 rfl (by decide) rfl dX2_most_1 ?_
  refine j_iconst (pc := 2) C dX2_most_2 ?_
  refine j_istore_n (pc := 3) (lc' := [(2, vI 1), (1, vI 0), (0, .ref h)]) C 2 rfl (by decide) rfl dX2_most_3 ?_
  have hL4 : ∀ (N4 : Nat) (b : Int) (i : Int), ((7 - i).toNat) < N4 → (1 ≤ i ∧ i ≤ 7) → (0 ≤ b ∧ b < i) → (b = fo (mostF (ms_h S)) i 0) → jW X 3 0 0 [] [(0, .ref h), (1, vI b), (2, vI i)] 4 [] := by
    intro N4
    induction N4 with
    | zero => intro b i hm4 i4_0 i4_1 i4_2; omega
    | succ N4 ih4 =>
      intro b i hm4 i4_0 i4_1 i4_2
      refine j_iload_n (pc := 4) C 2 2 rfl rfl dX2_most_4 ?_
      refine j_bipush (pc := 5) (w := 7) C rfl dX2_most_5 ?_
      refine j_icmp_ge (pc := 7) C 33 rfl (by omega) dX2_most_7 (fun h_1p7 => ?_) (fun h_1p7 => ?_)
      · skip
        refine j_iload_n (pc := 33) C 1 1 rfl rfl dX2_most_33 ?_
        exact Rt _ _ _ _ _ _ (by decide) (by decide) ⟨by rw [i4_2, show i = 7 by omega]; rfl, rfl⟩ dX2_most_34
      · skip
        refine j_aload_n (pc := 10) C 0 0 rfl rfl dX2_most_10 ?_
        refine j_get (pc := 11) C (Or.inr r0) rfl fX2_most_X2 0 (by decide) (List.mem_of_getElem? (i := 1) rfl) (Or.inl rfl) rfl dX2_most_11 ?_
        refine j_iload_n (pc := 14) C 2 2 rfl rfl dX2_most_14 ?_
        refine j_iald (pc := 15) C (Or.inr r1) rfl (by omega) (by decide) dX2_most_15 ?_
        have f_2 := hS.1 i (by omega)
        refine j_aload_n (pc := 16) C 0 0 rfl rfl dX2_most_16 ?_
        refine j_get (pc := 17) C (Or.inr r0) rfl fX2_most_X2 0 (by decide) (List.mem_of_getElem? (i := 1) rfl) (Or.inl rfl) rfl dX2_most_17 ?_
        refine j_iload_n (pc := 20) C 1 1 rfl rfl dX2_most_20 ?_
        refine j_iald (pc := 21) C (Or.inr r1) rfl (by omega) (by decide) dX2_most_21 ?_
        have f_3 := hS.1 b (by omega)
        refine j_icmp_le (pc := 22) C 27 rfl (by omega) dX2_most_22 (fun h_4p22 => ?_) (fun h_4p22 => ?_)
        · skip
          refine j_iinc (pc := 27) (lc' := [(2, vI (i + 1)), (0, .ref h), (1, vI b)]) C 2 rfl (by decide) rfl dX2_most_27 ?_
          refine j_goto (pc := 30) C 4 rfl dX2_most_30 ?_
          refine j_locals (lc' := [(0, .ref h), (1, vI b), (2, vI (i + 1))]) [1, 2, 0] rfl ?_
          exact ih4 b (i + 1) (by omega) (by omega) (by omega) (by rw [fo_succ _ (by omega), ← i4_2]; unfold mostF; first | rw [if_pos (by omega)] | rw [if_neg (by omega)])
        · skip
          refine j_iload_n (pc := 25) C 2 2 rfl rfl dX2_most_25 ?_
          refine j_istore_n (pc := 26) (lc' := [(1, vI i), (0, .ref h), (2, vI i)]) C 1 rfl (by decide) rfl dX2_most_26 ?_
          refine j_iinc (pc := 27) (lc' := [(2, vI (i + 1)), (1, vI i), (0, .ref h)]) C 2 rfl (by decide) rfl dX2_most_27 ?_
          refine j_goto (pc := 30) C 4 rfl dX2_most_30 ?_
          refine j_locals (lc' := [(0, .ref h), (1, vI i), (2, vI (i + 1))]) [2, 1, 0] rfl ?_
          exact ih4 i (i + 1) (by omega) (by omega) (by omega) (by rw [fo_succ _ (by omega), ← i4_2]; unfold mostF; first | rw [if_pos (by omega)] | rw [if_neg (by omega)])
  refine j_locals (lc' := [(0, .ref h), (1, vI 0), (2, vI 1)]) [2, 1, 0] rfl ?_
  exact hL4 _ 0 1 (Nat.lt_succ_self _) (by omega) (by omega) (by show (0 : Int) = mostF (ms_h S) 0 0; unfold mostF; split <;> rfl)

theorem fX2_fewest_X2 : ∀ w ∈ u_ws RX2 TX2 8, w ∈ wsX2_fewest := j_words [2, 3, 4, 5, 6, 7, 8, 9] (by decide +kernel)
set_option maxHeartbeats 4000000 in
set_option maxRecDepth 100000 in
theorem c_fewest (l : Launch) (D : va_G) (Y : Nat → ClassId) (RO : va_W) (h : Nat) (hh : Nat) (hm : Nat) (S : MS) (r0 : (h, oC 2 [.ref hh, .ref hm, vI (ms_w S), vI (ms_l S), vI (ms_s S), vI (ms_a S), vI (ms_t S), vI (ms_p S)]) ∈ RO) (r1 : (hh, aI (Y 0) 7 (ms_h S)) ∈ RO) (hS : okS S) : jMi l yX2_fewest wsX2_fewest { frames := 0, cells := 0, slots := 0, locals := 0 } D Y RO [.ref h] [] (fun e w1 => e = leastI (ms_h S) ∧ w1 = []) := by
  refine j_ofi RX2 rfl rfl rfl (Nat.le_of_ble_eq_true rfl) (fun X C Rt => ?_)
  refine j_iconst (pc := 0) C dX2_fewest_0 ?_
  refine j_istore_n (pc := 1) (lc' := [(1, vI 0), (0, .ref h)]) C 1 rfl (by decide) rfl dX2_fewest_1 ?_
  refine j_iconst (pc := 2) C dX2_fewest_2 ?_
  refine j_istore_n (pc := 3) (lc' := [(2, vI 1), (1, vI 0), (0, .ref h)]) C 2 rfl (by decide) rfl dX2_fewest_3 ?_
  have hL4 : ∀ (N4 : Nat) (b : Int) (i : Int), ((7 - i).toNat) < N4 → (1 ≤ i ∧ i ≤ 7) → (0 ≤ b ∧ b < i) → (b = fo (leastF (ms_h S)) i 0) → jW X 3 0 0 [] [(0, .ref h), (1, vI b), (2, vI i)] 4 [] := by
    intro N4
    induction N4 with
    | zero => intro b i hm4 i4_0 i4_1 i4_2; omega
    | succ N4 ih4 =>
      intro b i hm4 i4_0 i4_1 i4_2
      refine j_iload_n (pc := 4) C 2 2 rfl rfl dX2_fewest_4 ?_
      refine j_bipush (pc := 5) (w := 7) C rfl dX2_fewest_5 ?_
      refine j_icmp_ge (pc := 7) C 33 rfl (by omega) dX2_fewest_7 (fun h_1p7 => ?_) (fun h_1p7 => ?_)
      · skip
        refine j_iload_n (pc := 33) C 1 1 rfl rfl dX2_fewest_33 ?_
        exact Rt _ _ _ _ _ _ (by decide) (by decide) ⟨by rw [i4_2, show i = 7 by omega]; rfl, rfl⟩ dX2_fewest_34
      · skip
        refine j_aload_n (pc := 10) C 0 0 rfl rfl dX2_fewest_10 ?_
        refine j_get (pc := 11) C (Or.inr r0) rfl fX2_fewest_X2 0 (by decide) (List.mem_of_getElem? (i := 1) rfl) (Or.inl rfl) rfl dX2_fewest_11 ?_
        refine j_iload_n (pc := 14) C 2 2 rfl rfl dX2_fewest_14 ?_
        refine j_iald (pc := 15) C (Or.inr r1) rfl (by omega) (by decide) dX2_fewest_15 ?_
        have f_2 := hS.1 i (by omega)
        refine j_aload_n (pc := 16) C 0 0 rfl rfl dX2_fewest_16 ?_
        refine j_get (pc := 17) C (Or.inr r0) rfl fX2_fewest_X2 0 (by decide) (List.mem_of_getElem? (i := 1) rfl) (Or.inl rfl) rfl dX2_fewest_17 ?_
        refine j_iload_n (pc := 20) C 1 1 rfl rfl dX2_fewest_20 ?_
        refine j_iald (pc := 21) C (Or.inr r1) rfl (by omega) (by decide) dX2_fewest_21 ?_
        have f_3 := hS.1 b (by omega)
        refine j_icmp_ge (pc := 22) C 27 rfl (by omega) dX2_fewest_22 (fun h_4p22 => ?_) (fun h_4p22 => ?_)
        · skip
          refine j_iinc (pc := 27) (lc' := [(2, vI (i + 1)), (0, .ref h), (1, vI b)]) C 2 rfl (by decide) rfl dX2_fewest_27 ?_
          refine j_goto (pc := 30) C 4 rfl dX2_fewest_30 ?_
          refine j_locals (lc' := [(0, .ref h), (1, vI b), (2, vI (i + 1))]) [1, 2, 0] rfl ?_
          exact ih4 b (i + 1) (by omega) (by omega) (by omega) (by rw [fo_succ _ (by omega), ← i4_2]; unfold leastF; first | rw [if_pos (by omega)] | rw [if_neg (by omega)])
        · skip
          refine j_iload_n (pc := 25) C 2 2 rfl rfl dX2_fewest_25 ?_
          refine j_istore_n (pc := 26) (lc' := [(1, vI i), (0, .ref h), (2, vI i)]) C 1 rfl (by decide) rfl dX2_fewest_26 ?_
          refine j_iinc (pc := 27) (lc' := [(2, vI (i + 1)), (1, vI i), (0, .ref h)]) C 2 rfl (by decide) rfl dX2_fewest_27 ?_
          refine j_goto (pc := 30) C 4 rfl dX2_fewest_30 ?_
          refine j_locals (lc' := [(0, .ref h), (1, vI i), (2, vI (i + 1))]) [2, 1, 0] rfl ?_
          exact ih4 i (i + 1) (by omega) (by omega) (by omega) (by rw [fo_succ _ (by omega), ← i4_2]; unfold leastF; first | rw [if_pos (by omega)] | rw [if_neg (by omega)])
  refine j_locals (lc' := [(0, .ref h), (1, vI 0), (2, vI 1)]) [2, 1, 0] rfl ?_
  exact hL4 _ 0 1 (Nat.lt_succ_self _) (by omega) (by omega) (by show (0 : Int) = leastF (ms_h S) 0 0; unfold leastF; split <;> rfl)

set_option maxHeartbeats 4000000 in
set_option maxRecDepth 100000 in
theorem c_X5_gift (l : Launch) (D : va_G) (Y : Nat → ClassId) (RO : va_W) (a : Nat)   : jMi l yX5_gift wsX5_gift { frames := 0, cells := 0, slots := 0, locals := 0 } D Y RO [.ref a] [] (fun e w1 => e = 1 ∧ w1 = []) := by
  refine j_ofi RX5 rfl rfl rfl (Nat.le_of_ble_eq_true rfl) (fun X C Rt => ?_)
  refine j_iconst (pc := 0) C dX5_gift_0 ?_
  exact Rt _ _ _ _ _ _ (by decide) (by decide) ⟨rfl, rfl⟩ dX5_gift_1

set_option maxHeartbeats 4000000 in
set_option maxRecDepth 100000 in
theorem c_X5_hidesOn (l : Launch) (D : va_G) (Y : Nat → ClassId) (RO : va_W) (a : Nat)   : jMi l yX5_hidesOn wsX5_hidesOn { frames := 0, cells := 0, slots := 0, locals := 0 } D Y RO [.ref a] [] (fun e w1 => e = (-1) ∧ w1 = []) := by
  refine j_ofi RX5 rfl rfl rfl (Nat.le_of_ble_eq_true rfl) (fun X C Rt => ?_)
  refine j_iconst (pc := 0) C dX5_hidesOn_0 ?_
  exact Rt _ _ _ _ _ _ (by decide) (by decide) ⟨rfl, rfl⟩ dX5_hidesOn_1

set_option maxHeartbeats 4000000 in
set_option maxRecDepth 100000 in
theorem c_X5_sinsAtMost (l : Launch) (D : va_G) (Y : Nat → ClassId) (RO : va_W) (a : Nat)   : jMi l yX5_sinsAtMost wsX5_sinsAtMost { frames := 0, cells := 0, slots := 0, locals := 0 } D Y RO [.ref a] [] (fun e w1 => e = 0 ∧ w1 = []) := by
  refine j_ofz RX5 rfl rfl rfl (Nat.le_of_ble_eq_true rfl) (fun X C Rt => ?_)
  refine j_iconst (pc := 0) C dX5_sinsAtMost_0 ?_
  exact Rt _ _ _ _ _ _ (by decide) (by decide) (by decide) ⟨rfl, rfl⟩ dX5_sinsAtMost_1

set_option maxHeartbeats 4000000 in
set_option maxRecDepth 100000 in
theorem c_X0_sinsAtMost (l : Launch) (D : va_G) (Y : Nat → ClassId) (RO : va_W) (a : Nat)   : jMi l yX0_sinsAtMost wsX0_sinsAtMost { frames := 0, cells := 0, slots := 0, locals := 0 } D Y RO [.ref a] [] (fun e w1 => e = 1 ∧ w1 = []) := by
  refine j_ofz RX0 rfl rfl rfl (Nat.le_of_ble_eq_true rfl) (fun X C Rt => ?_)
  refine j_iconst (pc := 0) C dX0_sinsAtMost_0 ?_
  exact Rt _ _ _ _ _ _ (by decide) (by decide) (by decide) ⟨rfl, rfl⟩ dX0_sinsAtMost_1

theorem fX6_gift_X0 : ∀ w ∈ u_ws RX0 TX0 4, w ∈ wsX6_gift := j_words [3, 4, 5, 6] (by decide +kernel)
theorem fX6_gift_X5 : ∀ w ∈ u_ws RX5 TX5 4, w ∈ wsX6_gift := j_words [7, 8, 9, 10] (by decide +kernel)
theorem fX6_gift_X6 : ∀ w ∈ u_ws RX6 TX6 4, w ∈ wsX6_gift := j_words [11, 12, 13, 14] (by decide +kernel)
theorem fX6_gift_X7 : ∀ w ∈ u_ws RX7 TX7 4, w ∈ wsX6_gift := j_words [15, 16, 17, 18] (by decide +kernel)
set_option maxHeartbeats 4000000 in
set_option maxRecDepth 100000 in
theorem c_X6_gift (l : Launch) (D : va_G) (Y : Nat → ClassId) (RO : va_W) (a : Nat) (P : PT) (hp : pC a P ∈ RO) (hP : okP P) : jMi l yX6_gift wsX6_gift { frames := 0, cells := 0, slots := 0, locals := 0 } D Y RO [.ref a] [] (fun e w1 => e = pn P ∧ w1 = []) := by
  refine j_ofi RX6 rfl rfl rfl (Nat.le_of_ble_eq_true rfl) (fun X C Rt => ?_)
  refine j_aload_n (pc := 0) C 0 0 rfl rfl dX6_gift_0 ?_
  refine j_getP (pc := 1) C (Or.inr hp) hP.1 fX6_gift_X5 fX6_gift_X6 fX6_gift_X7 fX6_gift_X0 0 (by decide) (List.mem_of_getElem? (i := 1) rfl) (Or.inr (List.mem_of_getElem? (i := 2) rfl)) rfl dX6_gift_1 ?_
  exact Rt _ _ _ _ _ _ (by decide) (by decide) ⟨rfl, rfl⟩ dX6_gift_4

theorem fX7_hidesOn_X0 : ∀ w ∈ u_ws RX0 TX0 4, w ∈ wsX7_hidesOn := j_words [3, 4, 5, 6] (by decide +kernel)
theorem fX7_hidesOn_X5 : ∀ w ∈ u_ws RX5 TX5 4, w ∈ wsX7_hidesOn := j_words [7, 8, 9, 10] (by decide +kernel)
theorem fX7_hidesOn_X6 : ∀ w ∈ u_ws RX6 TX6 4, w ∈ wsX7_hidesOn := j_words [11, 12, 13, 14] (by decide +kernel)
theorem fX7_hidesOn_X7 : ∀ w ∈ u_ws RX7 TX7 4, w ∈ wsX7_hidesOn := j_words [15, 16, 17, 18] (by decide +kernel)
set_option maxHeartbeats 4000000 in
set_option maxRecDepth 100000 in
theorem c_X7_hidesOn (l : Launch) (D : va_G) (Y : Nat → ClassId) (RO : va_W) (a : Nat) (P : PT) (hp : pC a P ∈ RO) (hP : okP P) : jMi l yX7_hidesOn wsX7_hidesOn { frames := 0, cells := 0, slots := 0, locals := 0 } D Y RO [.ref a] [] (fun e w1 => e = pn P ∧ w1 = []) := by
  refine j_ofi RX7 rfl rfl rfl (Nat.le_of_ble_eq_true rfl) (fun X C Rt => ?_)
  refine j_aload_n (pc := 0) C 0 0 rfl rfl dX7_hidesOn_0 ?_
  refine j_getP (pc := 1) C (Or.inr hp) hP.1 fX7_hidesOn_X5 fX7_hidesOn_X6 fX7_hidesOn_X7 fX7_hidesOn_X0 0 (by decide) (List.mem_of_getElem? (i := 1) rfl) (Or.inr (List.mem_of_getElem? (i := 2) rfl)) rfl dX7_hidesOn_1 ?_
  exact Rt _ _ _ _ _ _ (by decide) (by decide) ⟨rfl, rfl⟩ dX7_hidesOn_4

theorem fX1_told_X1 : ∀ w ∈ u_ws RX1 TX1 3, w ∈ wsX1_told := j_words [4, 5, 6] (by decide +kernel)
set_option maxHeartbeats 4000000 in
set_option maxRecDepth 100000 in
theorem c_ctold (l : Launch) (D : va_G) (Y : Nat → ClassId) (RO : va_W) (a : Nat) (Cu : CT) (what : Int) (hc : (a, oC 1 [vI (cw Cu), vI (cz Cu), vI (ce Cu)]) ∈ RO) (hw : -2147483648 ≤ what ∧ what ≤ 2147483647) : jMi l yX1_told wsX1_told { frames := 0, cells := 0, slots := 0, locals := 0 } D Y RO [.ref a, vI what] [] (fun e w1 => e = toldC Cu what ∧ w1 = []) := by
  refine j_ofi RX1 rfl rfl rfl (Nat.le_of_ble_eq_true rfl) (fun X C Rt => ?_)
  refine j_iload_n (pc := 0) C 1 1 rfl rfl dX1_told_0 ?_
  refine j_if_ne (pc := 1) C 9 rfl (by omega) dX1_told_1 (fun h_1p1 => ?_) (fun h_1p1 => ?_)
  · skip
    refine j_iload_n (pc := 9) C 1 1 rfl rfl dX1_told_9 ?_
    refine j_iconst (pc := 10) C dX1_told_10 ?_
    refine j_icmp_ne (pc := 11) C 21 rfl (by omega) dX1_told_11 (fun h_2p11 => ?_) (fun h_2p11 => ?_)
    · skip
      refine j_aload_n (pc := 21) C 0 0 rfl rfl dX1_told_21 ?_
      refine j_get (pc := 22) C (Or.inr hc) rfl fX1_told_X1 2 (by decide) (List.mem_of_getElem? (i := 3) rfl) (Or.inl rfl) rfl dX1_told_22 ?_
      exact Rt _ _ _ _ _ _ (by decide) (by decide) ⟨by unfold toldC; rw [if_neg (by omega)]; first | rw [if_pos (by omega)] | rw [if_neg (by omega)], rfl⟩ dX1_told_25
    · skip
      refine j_aload_n (pc := 14) C 0 0 rfl rfl dX1_told_14 ?_
      refine j_get (pc := 15) C (Or.inr hc) rfl fX1_told_X1 1 (by decide) (List.mem_of_getElem? (i := 2) rfl) (Or.inl rfl) rfl dX1_told_15 ?_
      refine j_goto (pc := 18) C 25 rfl dX1_told_18 ?_
      exact Rt _ _ _ _ _ _ (by decide) (by decide) ⟨by unfold toldC; rw [if_neg (by omega)]; first | rw [if_pos (by omega)] | rw [if_neg (by omega)], rfl⟩ dX1_told_25
  · skip
    refine j_aload_n (pc := 4) C 0 0 rfl rfl dX1_told_4 ?_
    refine j_get (pc := 5) C (Or.inr hc) rfl fX1_told_X1 0 (by decide) (List.mem_of_getElem? (i := 1) rfl) (Or.inl rfl) rfl dX1_told_5 ?_
    exact Rt _ _ _ _ _ _ (by decide) (by decide) ⟨by unfold toldC; rw [if_pos (by omega)], rfl⟩ dX1_told_8

theorem fX1_floodsIn_X1 : ∀ w ∈ u_ws RX1 TX1 3, w ∈ wsX1_floodsIn := j_words [2, 3, 4] (by decide +kernel)
set_option maxHeartbeats 4000000 in
set_option maxRecDepth 100000 in
theorem c_floodsIn (l : Launch) (D : va_G) (Y : Nat → ClassId) (RO : va_W) (a : Nat) (Cu : CT) (w : Int) (hc : (a, oC 1 [vI (cw Cu), vI (cz Cu), vI (ce Cu)]) ∈ RO) (hC : okC Cu) (hw : 0 ≤ w ∧ w ≤ 2147483646) : jMi l yX1_floodsIn wsX1_floodsIn { frames := 0, cells := 0, slots := 0, locals := 0 } D Y RO [.ref a, vI w] [] (fun e w1 => e = (if 0 < ce Cu ∧ w % ce Cu = 0 then 1 else 0) ∧ w1 = []) := by
  refine j_ofz RX1 rfl rfl rfl (Nat.le_of_ble_eq_true rfl) (fun X C Rt => ?_)
  have hC2 := hC.2.2
  refine j_aload_n (pc := 0) C 0 0 rfl rfl dX1_floodsIn_0 ?_
  refine j_get (pc := 1) C (Or.inr hc) rfl fX1_floodsIn_X1 2 (by decide) (List.mem_of_getElem? (i := 1) rfl) (Or.inl rfl) rfl dX1_floodsIn_1 ?_
  refine j_if_le (pc := 4) C 20 rfl (by omega) dX1_floodsIn_4 (fun h_1p4 => ?_) (fun h_1p4 => ?_)
  · skip
    refine j_iconst (pc := 20) C dX1_floodsIn_20 ?_
    exact Rt _ _ _ _ _ _ (by decide) (by decide) (by decide) ⟨by split <;> first | rfl | (exfalso; omega) | (exfalso; rename_i q; exact q ⟨by omega, by omega⟩) | (exfalso; rename_i q; have := q.2; omega), rfl⟩ dX1_floodsIn_21
  · skip
    refine j_iload_n (pc := 7) C 1 1 rfl rfl dX1_floodsIn_7 ?_
    refine j_aload_n (pc := 8) C 0 0 rfl rfl dX1_floodsIn_8 ?_
    refine j_get (pc := 9) C (Or.inr hc) rfl fX1_floodsIn_X1 2 (by decide) (List.mem_of_getElem? (i := 1) rfl) (Or.inl rfl) rfl dX1_floodsIn_9 ?_
    refine j_irem (pc := 12) C (by omega) dX1_floodsIn_12 ?_
    refine j_if_ne (pc := 13) C 20 rfl (by have := Int.emod_nonneg w (show ce Cu ≠ 0 by omega); have := Int.emod_lt_of_pos w (show 0 < ce Cu by omega); omega) dX1_floodsIn_13 (fun h_2p13 => ?_) (fun h_2p13 => ?_)
    · skip
      refine j_iconst (pc := 20) C dX1_floodsIn_20 ?_
      exact Rt _ _ _ _ _ _ (by decide) (by decide) (by decide) ⟨by split <;> first | rfl | (exfalso; omega) | (exfalso; rename_i q; exact q ⟨by omega, by omega⟩) | (exfalso; rename_i q; have := q.2; omega), rfl⟩ dX1_floodsIn_21
    · skip
      refine j_iconst (pc := 16) C dX1_floodsIn_16 ?_
      refine j_goto (pc := 17) C 21 rfl dX1_floodsIn_17 ?_
      exact Rt _ _ _ _ _ _ (by decide) (by decide) (by decide) ⟨by split <;> first | rfl | (exfalso; omega) | (exfalso; rename_i q; exact q ⟨by omega, by omega⟩) | (exfalso; rename_i q; have := q.2; omega), rfl⟩ dX1_floodsIn_21
end
section
theorem fX2_takeOff_X2 : ∀ w ∈ u_ws RX2 TX2 8, w ∈ wsX2_takeOff := j_words [10, 11, 12, 13, 14, 15, 16, 17] (by decide +kernel)
set_option maxHeartbeats 4000000 in
set_option maxRecDepth 100000 in
theorem c_takeOff (l : Launch) (D : va_G) (Y : Nat → ClassId) (RO : va_W) (h : Nat) (hh : Nat) (hm : Nat) (S : MS) (c : Int) (n : Int)  (hS : okS S) (hc : 0 ≤ c ∧ c < 7) (hn : 0 ≤ n ∧ n ≤ 2147483647) : jMv l yX2_takeOff wsX2_takeOff { frames := 1, cells := 0, slots := 0, locals := 21 } D Y RO [.ref h, vI c, vI n] [(h, oC 2 [.ref hh, .ref hm, vI (ms_w S), vI (ms_l S), vI (ms_s S), vI (ms_a S), vI (ms_t S), vI (ms_p S)]), (hh, aI (Y 0) 7 (ms_h S)), (hm, aI (Y 0) 420 (ms_m S))] (fun w1 => w1 = [(h, oC 2 [.ref hh, .ref hm, vI (ms_w (takeS c n S)), vI (ms_l (takeS c n S)), vI (ms_s (takeS c n S)), vI (ms_a (takeS c n S)), vI (ms_t (takeS c n S)), vI (ms_p (takeS c n S))]), (hh, aI (Y 0) 7 (ms_h (takeS c n S))), (hm, aI (Y 0) 420 (ms_m (takeS c n S)))]) := by
  refine j_ofv RX2 rfl rfl rfl (Nat.le_of_ble_eq_true rfl) (fun X C Rt hI => ?_)
  refine j_iload_n (pc := 0) C 1 1 rfl rfl dX2_takeOff_0 ?_
  refine j_callSNi (pc := 1) (As := [vI c]) (na := 1) (st := []) C [] [0, 1, 2] (wr := [(h, oC 2 [.ref hh, .ref hm, vI (ms_w S), vI (ms_l S), vI (ms_s S), vI (ms_a S), vI (ms_t S), vI (ms_p S)]), (hh, aI (Y 0) 7 (ms_h S)), (hm, aI (Y 0) 420 (ms_m S))]) (fun l => c_isCairn l D Y _ c (by first | assumption | omega)) rfl rfl rfl rfl (by decide) rfl (host := "KneelingStones") gX2_takeOff_X9_isCairn_n43 (List.mem_of_getElem? (i := 7) rfl) (List.mem_of_getElem? (i := 8) rfl) (fun _ h => h.1.1) (by decide +kernel) (by decide) rfl rfl (Nat.le_of_ble_eq_true rfl) (by decide) dX2_takeOff_1 (fun e_1 w_2 h_3 => ?_)
  obtain ⟨rfl, rfl⟩ := h_3
  refine j_perm (ws' := [(h, oC 2 [.ref hh, .ref hm, vI (ms_w S), vI (ms_l S), vI (ms_s S), vI (ms_a S), vI (ms_t S), vI (ms_p S)]), (hh, aI (Y 0) 7 (ms_h S)), (hm, aI (Y 0) 420 (ms_m S))]) [0, 1, 2] rfl rfl ?_
  refine j_if_neb (pc := 4) C 8 rfl dX2_takeOff_4 (fun h_4p4 => ?_) (fun h_4p4 => ?_)
  · skip
    refine j_iload_n (pc := 8) C 2 2 rfl rfl dX2_takeOff_8 ?_
    refine j_aload_n (pc := 9) C 0 0 rfl rfl dX2_takeOff_9 ?_
    refine j_get (pc := 10) C (Or.inl (List.mem_of_getElem? (i := 0) rfl)) rfl fX2_takeOff_X2 0 (by decide) (List.mem_of_getElem? (i := 1) rfl) (Or.inl rfl) rfl dX2_takeOff_10 ?_
    refine j_iload_n (pc := 13) C 1 1 rfl rfl dX2_takeOff_13 ?_
    refine j_iald (pc := 14) C (Or.inl (List.mem_of_getElem? (i := 1) rfl)) rfl (by omega) (by decide) dX2_takeOff_14 ?_
    have f_5 := hS.1 c (by omega)
    refine j_mmin (pc := 15) (st := []) C (by omega) (List.mem_of_getElem? (i := 2) rfl) (List.mem_of_getElem? (i := 3) rfl) (List.mem_of_getElem? (i := 4) rfl) (List.mem_of_getElem? (i := 5) rfl) (by decide) (Nat.le_of_ble_eq_true rfl) (by decide) dX2_takeOff_15 ?_
    refine j_istore_n (pc := 18) (lc' := [(3, vI (if ms_h S c < n then ms_h S c else n)), (0, .ref h), (1, vI c), (2, vI n)]) C 3 rfl (by decide) rfl dX2_takeOff_18 ?_
    refine j_aload_n (pc := 19) C 0 1 rfl rfl dX2_takeOff_19 ?_
    refine j_get (pc := 20) C (Or.inl (List.mem_of_getElem? (i := 0) rfl)) rfl fX2_takeOff_X2 0 (by decide) (List.mem_of_getElem? (i := 1) rfl) (Or.inl rfl) rfl dX2_takeOff_20 ?_
    refine j_iload_n (pc := 23) C 1 2 rfl rfl dX2_takeOff_23 ?_
    refine j_dup2 (pc := 24) C rfl rfl dX2_takeOff_24 ?_
    refine j_iald (pc := 25) C (Or.inl (List.mem_of_getElem? (i := 1) rfl)) rfl (by omega) (by decide) dX2_takeOff_25 ?_
    have f_6 := hS.1 c (by omega)
    refine j_iload_n (pc := 26) C 3 0 rfl rfl dX2_takeOff_26 ?_
    refine j_isub (pc := 27) C dX2_takeOff_27 ?_
    refine j_iast (pc := 28) (ws' := [(h, oC 2 [.ref hh, .ref hm, vI (ms_w S), vI (ms_l S), vI (ms_s S), vI (ms_a S), vI (ms_t S), vI (ms_p S)]), (hh, aI (Y 0) 7 (up (ms_h S) c (ms_h S c - (if ms_h S c < n then ms_h S c else n)))), (hm, aI (Y 0) 420 (ms_m S))]) C 1 rfl rfl (by omega) (by decide) rfl dX2_takeOff_28 ?_
    refine j_aload_n (pc := 29) C 0 1 rfl rfl dX2_takeOff_29 ?_
    refine j_dup (pc := 30) C rfl dX2_takeOff_30 ?_
    refine j_get (pc := 31) C (Or.inl (List.mem_of_getElem? (i := 0) rfl)) rfl fX2_takeOff_X2 6 (by decide) (List.mem_of_getElem? (i := 6) rfl) (Or.inl rfl) rfl dX2_takeOff_31 ?_
    refine j_iload_n (pc := 34) C 3 0 rfl rfl dX2_takeOff_34 ?_
    refine j_iadd (pc := 35) C dX2_takeOff_35 ?_
    refine j_put (pc := 36) (ws' := [(h, oC 2 [.ref hh, .ref hm, vI (ms_w S), vI (ms_l S), vI (ms_s S), vI (ms_a S), vI (ms_t S + (if ms_h S c < n then ms_h S c else n)), vI (ms_p S)]), (hh, aI (Y 0) 7 (up (ms_h S) c (ms_h S c - (if ms_h S c < n then ms_h S c else n)))), (hm, aI (Y 0) 420 (ms_m S))]) C 0 rfl rfl fX2_takeOff_X2 tyX2_ok nmX2 6 (by decide) (List.mem_of_getElem? (i := 6) rfl) (Or.inl rfl) rfl rfl rfl rfl (Nat.le_of_ble_eq_true rfl) rfl dX2_takeOff_36 ?_
    exact Rt _ _ _ _ _ (by decide) (by decide) rfl dX2_takeOff_39
  · skip
    exact absurd hc h_4p4

theorem fX2_markAt_X2 : ∀ w ∈ u_ws RX2 TX2 8, w ∈ wsX2_markAt := j_words [6, 7, 8, 9, 10, 11, 12, 13] (by decide +kernel)
set_option maxHeartbeats 4000000 in
set_option maxRecDepth 100000 in
theorem c_markAt (l : Launch) (D : va_G) (Y : Nat → ClassId) (RO : va_W) (h : Nat) (hh : Nat) (hm : Nat) (S : MS) (c : Int) (d : Int) (r0 : (h, oC 2 [.ref hh, .ref hm, vI (ms_w S), vI (ms_l S), vI (ms_s S), vI (ms_a S), vI (ms_t S), vI (ms_p S)]) ∈ RO) (r1 : (hh, aI (Y 0) 7 (ms_h S)) ∈ RO) (r2 : (hm, aI (Y 0) 420 (ms_m S)) ∈ RO) (hS : okS S) (hc : 0 ≤ c ∧ c < 7) (hd : 0 ≤ d ∧ d ≤ 2147483000) : jMi l yX2_markAt wsX2_markAt { frames := 1, cells := 0, slots := 0, locals := 20 } D Y RO [.ref h, vI c, vI d] [] (fun e w1 => e = markS c d S ∧ w1 = []) := by
  refine j_ofi RX2 rfl rfl rfl (Nat.le_of_ble_eq_true rfl) (fun X C Rt => ?_)
  refine j_iload_n (pc := 0) C 1 1 rfl rfl dX2_markAt_0 ?_
  refine j_callSNi (pc := 1) (As := [vI c]) (na := 1) (st := []) C [] [] (wr := []) (fun l => c_isCairn l D Y _ c (by first | assumption | omega)) rfl rfl rfl rfl (by decide) rfl (host := "KneelingStones") gX2_markAt_X9_isCairn_n43 (List.mem_of_getElem? (i := 3) rfl) (List.mem_of_getElem? (i := 4) rfl) (fun _ h => h.1.1) (by decide +kernel) (by decide) rfl rfl (Nat.le_of_ble_eq_true rfl) (by decide) dX2_markAt_1 (fun e_1 w_2 h_3 => ?_)
  obtain ⟨rfl, rfl⟩ := h_3
  refine j_perm (ws' := []) [] rfl rfl ?_
  refine j_if_neb (pc := 4) C 9 rfl dX2_markAt_4 (fun h_4p4 => ?_) (fun h_4p4 => ?_)
  · skip
    refine j_aload_n (pc := 9) C 0 0 rfl rfl dX2_markAt_9 ?_
    refine j_get (pc := 10) C (Or.inr r0) rfl fX2_markAt_X2 0 (by decide) (List.mem_of_getElem? (i := 1) rfl) (Or.inl rfl) rfl dX2_markAt_10 ?_
    refine j_iload_n (pc := 13) C 1 1 rfl rfl dX2_markAt_13 ?_
    refine j_iald (pc := 14) C (Or.inr r1) rfl (by omega) (by decide) dX2_markAt_14 ?_
    have f_5 := hS.1 c (by omega)
    refine j_iconst (pc := 15) C dX2_markAt_15 ?_
    refine j_isub (pc := 16) C dX2_markAt_16 ?_
    refine j_iload_n (pc := 17) C 2 2 rfl rfl dX2_markAt_17 ?_
    refine j_isub (pc := 18) C dX2_markAt_18 ?_
    refine j_istore_n (pc := 19) (lc' := [(3, vI ((ms_h S c - 1) - d)), (0, .ref h), (1, vI c), (2, vI d)]) C 3 rfl (by decide) rfl dX2_markAt_19 ?_
    refine j_iload_n (pc := 20) C 3 0 rfl rfl dX2_markAt_20 ?_
    refine j_if_lt (pc := 21) C 30 rfl (by omega) dX2_markAt_21 (fun h_6p21 => ?_) (fun h_6p21 => ?_)
    · skip
      refine j_iconst (pc := 30) C dX2_markAt_30 ?_
      exact Rt _ _ _ _ _ _ (by decide) (by decide) ⟨by unfold markS; rw [if_neg (by omega)], rfl⟩ dX2_markAt_31
    · skip
      refine j_iload_n (pc := 24) C 3 0 rfl rfl dX2_markAt_24 ?_
      refine j_bipush (pc := 25) (w := 60) C rfl dX2_markAt_25 ?_
      refine j_icmp_lt (pc := 27) C 32 rfl (by omega) dX2_markAt_27 (fun h_7p27 => ?_) (fun h_7p27 => ?_)
      · skip
        refine j_aload_n (pc := 32) C 0 1 rfl rfl dX2_markAt_32 ?_
        refine j_get (pc := 33) C (Or.inr r0) rfl fX2_markAt_X2 1 (by decide) (List.mem_of_getElem? (i := 2) rfl) (Or.inl rfl) rfl dX2_markAt_33 ?_
        refine j_iload_n (pc := 36) C 1 2 rfl rfl dX2_markAt_36 ?_
        refine j_bipush (pc := 37) (w := 60) C rfl dX2_markAt_37 ?_
        refine j_imul (pc := 39) C dX2_markAt_39 ?_
        rw [show ((c * 60) : Int) = (60 * c) from Int.mul_comm _ _]
        refine j_iload_n (pc := 40) C 3 0 rfl rfl dX2_markAt_40 ?_
        refine j_iadd (pc := 41) C dX2_markAt_41 ?_
        refine j_iald (pc := 42) C (Or.inr r2) rfl (by omega) (by decide) dX2_markAt_42 ?_
        exact Rt _ _ _ _ _ _ (by decide) (by decide) ⟨by unfold markS; rw [if_pos (by omega)], rfl⟩ dX2_markAt_43
      · skip
        refine j_iconst (pc := 30) C dX2_markAt_30 ?_
        exact Rt _ _ _ _ _ _ (by decide) (by decide) ⟨by unfold markS; rw [if_neg (by omega)], rfl⟩ dX2_markAt_31
  · skip
    exact absurd hc h_4p4

theorem fX2_draw_X2 : ∀ w ∈ u_ws RX2 TX2 8, w ∈ wsX2_draw := j_words [5, 6, 7, 8, 9, 10, 11, 12] (by decide +kernel)
set_option maxHeartbeats 4000000 in
set_option maxRecDepth 100000 in
theorem c_draw (l : Launch) (D : va_G) (Y : Nat → ClassId) (RO : va_W) (h : Nat) (hh : Nat) (hm : Nat) (S : MS)  (hS : okS S) : jMi l yX2_draw wsX2_draw { frames := 0, cells := 0, slots := 0, locals := 0 } D Y RO [.ref h] [(h, oC 2 [.ref hh, .ref hm, vI (ms_w S), vI (ms_l S), vI (ms_s S), vI (ms_a S), vI (ms_t S), vI (ms_p S)]), (hh, aI (Y 0) 7 (ms_h S)), (hm, aI (Y 0) 420 (ms_m S))] (fun e w1 => e = drawV (drawS S) ∧ w1 = [(h, oC 2 [.ref hh, .ref hm, vI (ms_w (drawS S)), vI (ms_l (drawS S)), vI (ms_s (drawS S)), vI (ms_a (drawS S)), vI (ms_t (drawS S)), vI (ms_p (drawS S))]), (hh, aI (Y 0) 7 (ms_h (drawS S))), (hm, aI (Y 0) 420 (ms_m (drawS S)))]) := by
  refine j_ofi RX2 rfl rfl rfl (Nat.le_of_ble_eq_true rfl) (fun X C Rt => ?_)
  have hs := hS.2.2.2
  refine j_aload_n (pc := 0) C 0 0 rfl rfl dX2_draw_0 ?_
  refine j_ldc2 (pc := 1) (w := 1103515245) C (List.mem_of_getElem? (i := 1) rfl) dX2_draw_1 ?_
  refine j_aload_n (pc := 4) C 0 0 rfl rfl dX2_draw_4 ?_
  refine j_get (pc := 5) C (Or.inl (List.mem_of_getElem? (i := 0) rfl)) rfl fX2_draw_X2 4 (by decide) (List.mem_of_getElem? (i := 2) rfl) (Or.inl rfl) rfl dX2_draw_5 ?_
  refine j_i2l (pc := 8) C (by omega) dX2_draw_8 ?_
  refine j_lmul (pc := 9) C dX2_draw_9 ?_
  refine j_ldc2 (pc := 10) (w := 12345) C (List.mem_of_getElem? (i := 3) rfl) dX2_draw_10 ?_
  refine j_ladd (pc := 13) C dX2_draw_13 ?_
  refine j_ldc2 (pc := 14) (w := 2147483647) C (List.mem_of_getElem? (i := 4) rfl) dX2_draw_14 ?_
  refine j_land (pc := 17) C dX2_draw_17 ?_
  rw [land31]
  refine j_l2i (pc := 18) C dX2_draw_18 ?_
  refine j_put (pc := 19) (ws' := [(h, oC 2 [.ref hh, .ref hm, vI (ms_w S), vI (ms_l S), vI ((1103515245 * ms_s S + 12345) % 2147483648), vI (ms_a S), vI (ms_t S), vI (ms_p S)]), (hh, aI (Y 0) 7 (ms_h S)), (hm, aI (Y 0) 420 (ms_m S))]) C 0 rfl rfl fX2_draw_X2 tyX2_ok nmX2 4 (by decide) (List.mem_of_getElem? (i := 2) rfl) (Or.inl rfl) rfl rfl rfl rfl (Nat.le_of_ble_eq_true rfl) rfl dX2_draw_19 ?_
  refine j_aload_n (pc := 22) C 0 0 rfl rfl dX2_draw_22 ?_
  refine j_get (pc := 23) C (Or.inl (List.mem_of_getElem? (i := 0) rfl)) rfl fX2_draw_X2 4 (by decide) (List.mem_of_getElem? (i := 2) rfl) (Or.inl rfl) rfl dX2_draw_23 ?_
  refine j_bipush (pc := 26) (w := 16) C rfl dX2_draw_26 ?_
  refine j_ishr (pc := 28) C dX2_draw_28 ?_
  rw [shr16 (by omega)]
  refine j_bipush (pc := 29) (w := 10) C rfl dX2_draw_29 ?_
  refine j_irem (pc := 31) C (by omega) dX2_draw_31 ?_
  exact Rt _ _ _ _ _ _ (by decide) (by decide) ⟨rfl, rfl⟩ dX2_draw_32

theorem fX2_cairnBy_X2 : ∀ w ∈ u_ws RX2 TX2 8, w ∈ wsX2_cairnBy := j_words [12, 13, 14, 15, 16, 17, 18, 19] (by decide +kernel)
set_option maxHeartbeats 4000000 in
set_option maxRecDepth 100000 in
theorem c_cairnBy (l : Launch) (D : va_G) (Y : Nat → ClassId) (RO : va_W) (h : Nat) (hh : Nat) (hm : Nat) (S : MS) (r : Int) (num : Int) (r0 : (h, oC 2 [.ref hh, .ref hm, vI (ms_w S), vI (ms_l S), vI (ms_s S), vI (ms_a S), vI (ms_t S), vI (ms_p S)]) ∈ RO) (r1 : (hh, aI (Y 0) 7 (ms_h S)) ∈ RO) (hS : okS S) (hr : okR r) : jMi l yX2_cairnBy wsX2_cairnBy { frames := 1, cells := 0, slots := 0, locals := 22 } D Y RO [.ref h, vI r, vI num] [] (fun e w1 => e = ruleS r num S ∧ w1 = []) := by
  refine j_ofi RX2 rfl rfl rfl (Nat.le_of_ble_eq_true rfl) (fun X C Rt => ?_)
  have hl := hS.2.2.1
  unfold okR at hr
  refine j_iload_n (pc := 0) C 1 1 rfl rfl dX2_cairnBy_0 ?_
  rcases (show r = 7 ∨ r = 8 ∨ r = 9 ∨ r = 10 ∨ (r < 7 ∨ 10 < r) by omega) with h_1p1 | h_1p1 | h_1p1 | h_1p1 | h_1p1
  · refine j_tableC (pc := 1) C 7 32 h_1p1 (by decide) rfl rfl dX2_cairnBy_1 ?_
    refine j_aload_n (pc := 32) C 0 0 rfl rfl dX2_cairnBy_32 ?_
    refine j_callVi (pc := 33) (As := []) (na := 0) (st := []) C [] [] (wr := []) (fun l => c_most l D Y _ h hh hm S (List.mem_append_right _ r0) (List.mem_append_right _ r1) (by first | assumption | omega)) rfl rfl rfl rfl (by decide) rfl (Or.inr (List.mem_append_right _ r0)) rfl gX2_cairnBy_X2_most ⟨rfl, by decide +kernel⟩ (by decide) rfl rfl (Nat.le_of_ble_eq_true rfl) (by decide) dX2_cairnBy_33 (fun e_2 w_3 h_4 => ?_)
    obtain ⟨rfl, rfl⟩ := h_4
    refine j_perm (ws' := []) [] rfl rfl ?_
    exact Rt _ _ _ _ _ _ (by decide) (by decide) ⟨by unfold ruleS; rw [if_pos (by omega)], rfl⟩ dX2_cairnBy_36
  · refine j_tableC (pc := 1) C 8 37 h_1p1 (by decide) rfl rfl dX2_cairnBy_1 ?_
    refine j_aload_n (pc := 37) C 0 0 rfl rfl dX2_cairnBy_37 ?_
    refine j_callVi (pc := 38) (As := []) (na := 0) (st := []) C [] [] (wr := []) (fun l => c_fewest l D Y _ h hh hm S (List.mem_append_right _ r0) (List.mem_append_right _ r1) (by first | assumption | omega)) rfl rfl rfl rfl (by decide) rfl (Or.inr (List.mem_append_right _ r0)) rfl gX2_cairnBy_X2_fewest ⟨rfl, by decide +kernel⟩ (by decide) rfl rfl (Nat.le_of_ble_eq_true rfl) (by decide) dX2_cairnBy_38 (fun e_5 w_6 h_7 => ?_)
    obtain ⟨rfl, rfl⟩ := h_7
    refine j_perm (ws' := []) [] rfl rfl ?_
    exact Rt _ _ _ _ _ _ (by decide) (by decide) ⟨by unfold ruleS; rw [if_neg (by omega), if_pos (by omega)], rfl⟩ dX2_cairnBy_41
  · refine j_tableC (pc := 1) C 9 42 h_1p1 (by decide) rfl rfl dX2_cairnBy_1 ?_
    refine j_iload_n (pc := 42) C 2 2 rfl rfl dX2_cairnBy_42 ?_
    exact Rt _ _ _ _ _ _ (by decide) (by decide) ⟨by unfold ruleS; rw [if_neg (by omega), if_neg (by omega), if_pos (by omega)], rfl⟩ dX2_cairnBy_43
  · refine j_tableC (pc := 1) C 10 44 h_1p1 (by decide) rfl rfl dX2_cairnBy_1 ?_
    refine j_aload_n (pc := 44) C 0 0 rfl rfl dX2_cairnBy_44 ?_
    refine j_get (pc := 45) C (Or.inr r0) rfl fX2_cairnBy_X2 3 (by decide) (List.mem_of_getElem? (i := 1) rfl) (Or.inl rfl) rfl dX2_cairnBy_45 ?_
    refine j_iconst (pc := 48) C dX2_cairnBy_48 ?_
    refine j_iadd (pc := 49) C dX2_cairnBy_49 ?_
    refine j_bipush (pc := 50) (w := 7) C rfl dX2_cairnBy_50 ?_
    refine j_irem (pc := 52) C (by omega) dX2_cairnBy_52 ?_
    exact Rt _ _ _ _ _ _ (by decide) (by decide) ⟨by unfold ruleS; rw [if_neg (by omega), if_neg (by omega), if_neg (by omega), if_pos (by omega)], rfl⟩ dX2_cairnBy_53
  · refine j_tableD (pc := 1) C 54 (by omega) h_1p1 rfl dX2_cairnBy_1 ?_
    refine j_iload_n (pc := 54) C 1 1 rfl rfl dX2_cairnBy_54 ?_
    exact Rt _ _ _ _ _ _ (by decide) (by decide) ⟨by unfold ruleS; rw [if_neg (by omega), if_neg (by omega), if_neg (by omega), if_neg (by omega)], rfl⟩ dX2_cairnBy_55

theorem fX2_pebbles_X2 : ∀ w ∈ u_ws RX2 TX2 8, w ∈ wsX2_pebbles := j_words [2, 3, 4, 5, 6, 7, 8, 9] (by decide +kernel)
set_option maxHeartbeats 4000000 in
set_option maxRecDepth 100000 in
theorem c_pebbles (l : Launch) (D : va_G) (Y : Nat → ClassId) (RO : va_W) (h : Nat) (hh : Nat) (hm : Nat) (S : MS) (r0 : (h, oC 2 [.ref hh, .ref hm, vI (ms_w S), vI (ms_l S), vI (ms_s S), vI (ms_a S), vI (ms_t S), vI (ms_p S)]) ∈ RO) (r1 : (hh, aI (Y 0) 7 (ms_h S)) ∈ RO)  : jMi l yX2_pebbles wsX2_pebbles { frames := 0, cells := 0, slots := 0, locals := 0 } D Y RO [.ref h] [] (fun e w1 => e = sumI (ms_h S) 7 ∧ w1 = []) := by
  refine j_ofi RX2 rfl rfl rfl (Nat.le_of_ble_eq_true rfl) (fun X C Rt => ?_)
  refine j_iconst (pc := 0) C dX2_pebbles_0 ?_
  refine j_istore_n (pc := 1) (lc' := [(1, vI 0), (0, .ref h)]) C 1 rfl (by decide) rfl dX2_pebbles_1 ?_
  refine j_iconst (pc := 2) C dX2_pebbles_2 ?_
  refine j_istore_n (pc := 3) (lc' := [(2, vI 0), (1, vI 0), (0, .ref h)]) C 2 rfl (by decide) rfl dX2_pebbles_3 ?_
  have hL4 : ∀ (N4 : Nat) (b : Int) (i : Int), ((7 - i).toNat) < N4 → (0 ≤ i ∧ i ≤ 7) → (b = sumI (ms_h S) i) → jW X 3 0 0 [] [(0, .ref h), (1, vI b), (2, vI i)] 4 [] := by
    intro N4
    induction N4 with
    | zero => intro b i hm4 i4_0 i4_1; omega
    | succ N4 ih4 =>
      intro b i hm4 i4_0 i4_1
      refine j_iload_n (pc := 4) C 2 2 rfl rfl dX2_pebbles_4 ?_
      refine j_bipush (pc := 5) (w := 7) C rfl dX2_pebbles_5 ?_
      refine j_icmp_ge (pc := 7) C 25 rfl (by omega) dX2_pebbles_7 (fun h_1p7 => ?_) (fun h_1p7 => ?_)
      · skip
        refine j_iload_n (pc := 25) C 1 1 rfl rfl dX2_pebbles_25 ?_
        exact Rt _ _ _ _ _ _ (by decide) (by decide) ⟨by rw [i4_1, show i = 7 by omega], rfl⟩ dX2_pebbles_26
      · skip
        refine j_iload_n (pc := 10) C 1 1 rfl rfl dX2_pebbles_10 ?_
        refine j_aload_n (pc := 11) C 0 0 rfl rfl dX2_pebbles_11 ?_
        refine j_get (pc := 12) C (Or.inr r0) rfl fX2_pebbles_X2 0 (by decide) (List.mem_of_getElem? (i := 1) rfl) (Or.inl rfl) rfl dX2_pebbles_12 ?_
        refine j_iload_n (pc := 15) C 2 2 rfl rfl dX2_pebbles_15 ?_
        refine j_iald (pc := 16) C (Or.inr r1) rfl (by omega) (by decide) dX2_pebbles_16 ?_
        refine j_iadd (pc := 17) C dX2_pebbles_17 ?_
        refine j_istore_n (pc := 18) (lc' := [(1, vI (b + ms_h S i)), (0, .ref h), (2, vI i)]) C 1 rfl (by decide) rfl dX2_pebbles_18 ?_
        refine j_iinc (pc := 19) (lc' := [(2, vI (i + 1)), (1, vI (b + ms_h S i)), (0, .ref h)]) C 2 rfl (by decide) rfl dX2_pebbles_19 ?_
        refine j_goto (pc := 22) C 4 rfl dX2_pebbles_22 ?_
        refine j_locals (lc' := [(0, .ref h), (1, vI (b + ms_h S i)), (2, vI (i + 1))]) [2, 1, 0] rfl ?_
        exact ih4 (b + ms_h S i) (i + 1) (by omega) (by omega) (by unfold sumI; rw [fo_succ _ (by omega)]; unfold sumI at i4_1; rw [← i4_1]; rfl)
  refine j_locals (lc' := [(0, .ref h), (1, vI 0), (2, vI 0)]) [2, 1, 0] rfl ?_
  exact hL4 _ 0 0 (Nat.lt_succ_self _) (by omega) rfl

theorem fX2_steal_X2 : ∀ w ∈ u_ws RX2 TX2 8, w ∈ wsX2_steal := j_words [25, 26, 27, 28, 29, 30, 31, 32] (by decide +kernel)
set_option maxHeartbeats 4000000 in
set_option maxRecDepth 100000 in
theorem c_steal (l : Launch) (D : va_G) (Y : Nat → ClassId) (RO : va_W) (h : Nat) (hh : Nat) (hm : Nat) (S : MS) (c : Int) (to : Int)  (hS : okS S) (hc : 0 ≤ c ∧ c < 7) (ht : -1 ≤ to ∧ to < 7) (hw : ms_w S ≤ 2147483000) : jMv l yX2_steal wsX2_steal { frames := 2, cells := 0, slots := 0, locals := 44 } D Y RO [.ref h, vI c, vI to] [(h, oC 2 [.ref hh, .ref hm, vI (ms_w S), vI (ms_l S), vI (ms_s S), vI (ms_a S), vI (ms_t S), vI (ms_p S)]), (hh, aI (Y 0) 7 (ms_h S)), (hm, aI (Y 0) 420 (ms_m S))] (fun w1 => w1 = [(h, oC 2 [.ref hh, .ref hm, vI (ms_w (stealS c to S)), vI (ms_l (stealS c to S)), vI (ms_s (stealS c to S)), vI (ms_a (stealS c to S)), vI (ms_t (stealS c to S)), vI (ms_p (stealS c to S))]), (hh, aI (Y 0) 7 (ms_h (stealS c to S))), (hm, aI (Y 0) 420 (ms_m (stealS c to S)))]) := by
  refine j_ofv RX2 rfl rfl rfl (Nat.le_of_ble_eq_true rfl) (fun X C Rt hI => ?_)
  have hmk := markS_in (c := c) (d := 0) hS
  refine j_iload_n (pc := 0) C 2 2 rfl rfl dX2_steal_0 ?_
  refine j_iconst (pc := 1) C dX2_steal_1 ?_
  refine j_icmp_ne (pc := 2) C 12 rfl (by omega) dX2_steal_2 (fun h_1p2 => ?_) (fun h_1p2 => ?_)
  · skip
    refine j_aload_n (pc := 12) C 0 0 rfl rfl dX2_steal_12 ?_
    refine j_iload_n (pc := 13) C 1 1 rfl rfl dX2_steal_13 ?_
    refine j_iconst (pc := 14) C dX2_steal_14 ?_
    refine j_callVi (pc := 15) (As := [vI c, vI 0]) (na := 2) (st := []) C [] [0, 1, 2] (wr := [(h, oC 2 [.ref hh, .ref hm, vI (ms_w S), vI (ms_l S), vI (ms_s S), vI (ms_a S), vI (ms_t S), vI (ms_p S)]), (hh, aI (Y 0) 7 (ms_h S)), (hm, aI (Y 0) 420 (ms_m S))]) (fun l => c_markAt l D Y _ h hh hm S c 0 (List.mem_append_left _ (List.mem_of_getElem? (i := 0) rfl)) (List.mem_append_left _ (List.mem_of_getElem? (i := 1) rfl)) (List.mem_append_left _ (List.mem_of_getElem? (i := 2) rfl)) (by first | assumption | omega) (by first | assumption | omega) (by first | assumption | omega)) rfl rfl rfl rfl (by decide) rfl (Or.inr (List.mem_append_left _ (List.mem_of_getElem? (i := 0) rfl))) rfl gX2_steal_X2_markAt ⟨rfl, by decide +kernel⟩ (by decide) rfl rfl (Nat.le_of_ble_eq_true rfl) (by decide) dX2_steal_15 (fun e_2 w_3 h_4 => ?_)
    obtain ⟨rfl, rfl⟩ := h_4
    refine j_perm (ws' := [(h, oC 2 [.ref hh, .ref hm, vI (ms_w S), vI (ms_l S), vI (ms_s S), vI (ms_a S), vI (ms_t S), vI (ms_p S)]), (hh, aI (Y 0) 7 (ms_h S)), (hm, aI (Y 0) 420 (ms_m S))]) [0, 1, 2] rfl rfl ?_
    refine j_istore_n (pc := 18) (lc' := [(3, vI (markS c 0 S)), (0, .ref h), (1, vI c), (2, vI to)]) C 3 rfl (by decide) rfl dX2_steal_18 ?_
    refine j_iload_n (pc := 19) C 3 0 rfl rfl dX2_steal_19 ?_
    refine j_iconst (pc := 20) C dX2_steal_20 ?_
    refine j_icmp_eq (pc := 21) C 31 rfl (by omega) dX2_steal_21 (fun h_5p21 => ?_) (fun h_5p21 => ?_)
    · skip
      exact Rt _ _ _ _ _ (by decide) (by decide) (by have e : ms_h S c = 0 := markS_none hS hc (by omega); unfold stealS; rw [if_neg (by omega), if_pos e]; first | done | rfl) dX2_steal_31
    · skip
      refine j_iload_n (pc := 24) C 1 2 rfl rfl dX2_steal_24 ?_
      refine j_callSNi (pc := 25) (As := [vI c]) (na := 1) (st := []) C [] [0, 1, 2] (wr := [(h, oC 2 [.ref hh, .ref hm, vI (ms_w S), vI (ms_l S), vI (ms_s S), vI (ms_a S), vI (ms_t S), vI (ms_p S)]), (hh, aI (Y 0) 7 (ms_h S)), (hm, aI (Y 0) 420 (ms_m S))]) (fun l => c_isCairn l D Y _ c (by first | assumption | omega)) rfl rfl rfl rfl (by decide) rfl (host := "KneelingStones") gX2_steal_X9_isCairn_n43 (List.mem_of_getElem? (i := 12) rfl) (List.mem_of_getElem? (i := 13) rfl) (fun _ h => h.1.1) (by decide +kernel) (by decide) rfl rfl (Nat.le_of_ble_eq_true rfl) (by decide) dX2_steal_25 (fun e_6 w_7 h_8 => ?_)
      obtain ⟨rfl, rfl⟩ := h_8
      refine j_perm (ws' := [(h, oC 2 [.ref hh, .ref hm, vI (ms_w S), vI (ms_l S), vI (ms_s S), vI (ms_a S), vI (ms_t S), vI (ms_p S)]), (hh, aI (Y 0) 7 (ms_h S)), (hm, aI (Y 0) 420 (ms_m S))]) [0, 1, 2] rfl rfl ?_
      refine j_if_neb (pc := 28) C 32 rfl dX2_steal_28 (fun h_9p28 => ?_) (fun h_9p28 => ?_)
      · skip
        have hnz : ¬ ms_h S c = 0 := fun q => by have e : markS c 0 S = -1 := by { unfold markS; rw [if_neg (by omega)] }; omega
        refine j_aload_n (pc := 32) C 0 1 rfl rfl dX2_steal_32 ?_
        refine j_get (pc := 33) C (Or.inl (List.mem_of_getElem? (i := 0) rfl)) rfl fX2_steal_X2 0 (by decide) (List.mem_of_getElem? (i := 1) rfl) (Or.inl rfl) rfl dX2_steal_33 ?_
        refine j_iload_n (pc := 36) C 1 2 rfl rfl dX2_steal_36 ?_
        refine j_dup2 (pc := 37) C rfl rfl dX2_steal_37 ?_
        refine j_iald (pc := 38) C (Or.inl (List.mem_of_getElem? (i := 1) rfl)) rfl (by omega) (by decide) dX2_steal_38 ?_
        have f_10 := hS.1 c (by omega)
        refine j_iconst (pc := 39) C dX2_steal_39 ?_
        refine j_isub (pc := 40) C dX2_steal_40 ?_
        refine j_iast (pc := 41) (ws' := [(h, oC 2 [.ref hh, .ref hm, vI (ms_w S), vI (ms_l S), vI (ms_s S), vI (ms_a S), vI (ms_t S), vI (ms_p S)]), (hh, aI (Y 0) 7 (up (ms_h S) c (ms_h S c - 1))), (hm, aI (Y 0) 420 (ms_m S))]) C 1 rfl rfl (by omega) (by decide) rfl dX2_steal_41 ?_
        refine j_aload_n (pc := 42) C 0 1 rfl rfl dX2_steal_42 ?_
        refine j_iload_n (pc := 43) C 2 3 rfl rfl dX2_steal_43 ?_
        refine j_iload_n (pc := 44) C 3 0 rfl rfl dX2_steal_44 ?_
        refine j_callVv (pc := 45) (As := [vI to, vI (markS c 0 S)]) (na := 2) (st := []) C [0, 1, 2] [] (wr := []) (fun l => c_put l D Y _ h hh hm (up (ms_h S) c (ms_h S c - 1), ms_m S, ms_w S, ms_l S, ms_s S, ms_a S, ms_t S, ms_p S) to (markS c 0 S) (okS_H hS hc hnz) (by omega)) rfl rfl rfl rfl (by decide) rfl (Or.inl (List.mem_of_getElem? (i := 0) rfl)) rfl gX2_steal_X2_put ⟨rfl, by decide +kernel⟩ (by decide) rfl rfl (Nat.le_of_ble_eq_true rfl) (by decide) dX2_steal_45 (fun w_12 h_13 => ?_)
        subst h_13
        refine j_perm (ws' := [(h, oC 2 [.ref hh, .ref hm, vI (ms_w (putS to (markS c 0 S) (up (ms_h S) c (ms_h S c - 1), ms_m S, ms_w S, ms_l S, ms_s S, ms_a S, ms_t S, ms_p S))), vI (ms_l (putS to (markS c 0 S) (up (ms_h S) c (ms_h S c - 1), ms_m S, ms_w S, ms_l S, ms_s S, ms_a S, ms_t S, ms_p S))), vI (ms_s (putS to (markS c 0 S) (up (ms_h S) c (ms_h S c - 1), ms_m S, ms_w S, ms_l S, ms_s S, ms_a S, ms_t S, ms_p S))), vI (ms_a (putS to (markS c 0 S) (up (ms_h S) c (ms_h S c - 1), ms_m S, ms_w S, ms_l S, ms_s S, ms_a S, ms_t S, ms_p S))), vI (ms_t (putS to (markS c 0 S) (up (ms_h S) c (ms_h S c - 1), ms_m S, ms_w S, ms_l S, ms_s S, ms_a S, ms_t S, ms_p S))), vI (ms_p (putS to (markS c 0 S) (up (ms_h S) c (ms_h S c - 1), ms_m S, ms_w S, ms_l S, ms_s S, ms_a S, ms_t S, ms_p S)))]), (hh, aI (Y 0) 7 (ms_h (putS to (markS c 0 S) (up (ms_h S) c (ms_h S c - 1), ms_m S, ms_w S, ms_l S, ms_s S, ms_a S, ms_t S, ms_p S)))), (hm, aI (Y 0) 420 (ms_m (putS to (markS c 0 S) (up (ms_h S) c (ms_h S c - 1), ms_m S, ms_w S, ms_l S, ms_s S, ms_a S, ms_t S, ms_p S))))]) [0, 1, 2] rfl rfl ?_
        exact Rt _ _ _ _ _ (by decide) (by decide) (by unfold stealS; rw [if_neg (by omega), if_neg hnz]; first | done | rfl) dX2_steal_48
      · skip
        exact absurd hc h_9p28
  · skip
    refine j_aload_n (pc := 5) C 0 0 rfl rfl dX2_steal_5 ?_
    refine j_iload_n (pc := 6) C 1 1 rfl rfl dX2_steal_6 ?_
    refine j_iconst (pc := 7) C dX2_steal_7 ?_
    refine j_callVv (pc := 8) (As := [vI c, vI 1]) (na := 2) (st := []) C [0, 1, 2] [] (wr := []) (fun l => c_takeOff l D Y _ h hh hm S c 1 (by first | assumption | omega) (by first | assumption | omega) (by first | assumption | omega)) rfl rfl rfl rfl (by decide) rfl (Or.inl (List.mem_of_getElem? (i := 0) rfl)) rfl gX2_steal_X2_takeOff ⟨rfl, by decide +kernel⟩ (by decide) rfl rfl (Nat.le_of_ble_eq_true rfl) (by decide) dX2_steal_8 (fun w_15 h_16 => ?_)
    subst h_16
    refine j_perm (ws' := [(h, oC 2 [.ref hh, .ref hm, vI (ms_w (takeS c 1 S)), vI (ms_l (takeS c 1 S)), vI (ms_s (takeS c 1 S)), vI (ms_a (takeS c 1 S)), vI (ms_t (takeS c 1 S)), vI (ms_p (takeS c 1 S))]), (hh, aI (Y 0) 7 (ms_h (takeS c 1 S))), (hm, aI (Y 0) 420 (ms_m (takeS c 1 S)))]) [0, 1, 2] rfl rfl ?_
    exact Rt _ _ _ _ _ (by decide) (by decide) (by unfold stealS; rw [if_pos (by omega)]; first | done | rfl) dX2_steal_11

theorem fX2_flood_X2 : ∀ w ∈ u_ws RX2 TX2 8, w ∈ wsX2_flood := j_words [19, 20, 21, 22, 23, 24, 25, 26] (by decide +kernel)
set_option maxHeartbeats 4000000 in
set_option maxRecDepth 100000 in
theorem c_flood (l : Launch) (D : va_G) (Y : Nat → ClassId) (RO : va_W) (h : Nat) (hh : Nat) (hm : Nat) (S : MS)  (hS : okS S) : jMv l yX2_flood wsX2_flood { frames := 2, cells := 0, slots := 0, locals := 44 } D Y RO [.ref h] [(h, oC 2 [.ref hh, .ref hm, vI (ms_w S), vI (ms_l S), vI (ms_s S), vI (ms_a S), vI (ms_t S), vI (ms_p S)]), (hh, aI (Y 0) 7 (ms_h S)), (hm, aI (Y 0) 420 (ms_m S))] (fun w1 => w1 = [(h, oC 2 [.ref hh, .ref hm, vI (ms_w (drownS S)), vI (ms_l (drownS S)), vI (ms_s (drownS S)), vI (ms_a (drownS S)), vI (ms_t (drownS S)), vI (ms_p (drownS S))]), (hh, aI (Y 0) 7 (ms_h (drownS S))), (hm, aI (Y 0) 420 (ms_m (drownS S)))]) := by
  refine j_ofv RX2 rfl rfl rfl (Nat.le_of_ble_eq_true rfl) (fun X C Rt hI => ?_)
  have hlc := leastI_in (ms_h S)
  refine j_aload_n (pc := 0) C 0 0 rfl rfl dX2_flood_0 ?_
  refine j_callVi (pc := 1) (As := []) (na := 0) (st := []) C [] [0, 1, 2] (wr := [(h, oC 2 [.ref hh, .ref hm, vI (ms_w S), vI (ms_l S), vI (ms_s S), vI (ms_a S), vI (ms_t S), vI (ms_p S)]), (hh, aI (Y 0) 7 (ms_h S)), (hm, aI (Y 0) 420 (ms_m S))]) (fun l => c_fewest l D Y _ h hh hm S (List.mem_append_left _ (List.mem_of_getElem? (i := 0) rfl)) (List.mem_append_left _ (List.mem_of_getElem? (i := 1) rfl)) (by first | assumption | omega)) rfl rfl rfl rfl (by decide) rfl (Or.inr (List.mem_append_left _ (List.mem_of_getElem? (i := 0) rfl))) rfl gX2_flood_X2_fewest ⟨rfl, by decide +kernel⟩ (by decide) rfl rfl (Nat.le_of_ble_eq_true rfl) (by decide) dX2_flood_1 (fun e_1 w_2 h_3 => ?_)
  obtain ⟨rfl, rfl⟩ := h_3
  refine j_perm (ws' := [(h, oC 2 [.ref hh, .ref hm, vI (ms_w S), vI (ms_l S), vI (ms_s S), vI (ms_a S), vI (ms_t S), vI (ms_p S)]), (hh, aI (Y 0) 7 (ms_h S)), (hm, aI (Y 0) 420 (ms_m S))]) [0, 1, 2] rfl rfl ?_
  refine j_istore_n (pc := 4) (lc' := [(1, vI (leastI (ms_h S))), (0, .ref h)]) C 1 rfl (by decide) rfl dX2_flood_4 ?_
  refine j_iload_n (pc := 5) C 1 0 rfl rfl dX2_flood_5 ?_
  refine j_callSNi (pc := 6) (As := [vI (leastI (ms_h S))]) (na := 1) (st := []) C [] [0, 1, 2] (wr := [(h, oC 2 [.ref hh, .ref hm, vI (ms_w S), vI (ms_l S), vI (ms_s S), vI (ms_a S), vI (ms_t S), vI (ms_p S)]), (hh, aI (Y 0) 7 (ms_h S)), (hm, aI (Y 0) 420 (ms_m S))]) (fun l => c_isCairn l D Y _ (leastI (ms_h S)) (by first | assumption | omega)) rfl rfl rfl rfl (by decide) rfl (host := "KneelingStones") gX2_flood_X9_isCairn_n43 (List.mem_of_getElem? (i := 7) rfl) (List.mem_of_getElem? (i := 8) rfl) (fun _ h => h.1.1) (by decide +kernel) (by decide) rfl rfl (Nat.le_of_ble_eq_true rfl) (by decide) dX2_flood_6 (fun e_4 w_5 h_6 => ?_)
  obtain ⟨rfl, rfl⟩ := h_6
  refine j_perm (ws' := [(h, oC 2 [.ref hh, .ref hm, vI (ms_w S), vI (ms_l S), vI (ms_s S), vI (ms_a S), vI (ms_t S), vI (ms_p S)]), (hh, aI (Y 0) 7 (ms_h S)), (hm, aI (Y 0) 420 (ms_m S))]) [0, 1, 2] rfl rfl ?_
  refine j_if_eqb (pc := 9) C 27 rfl dX2_flood_9 (fun h_7p9 => ?_) (fun h_7p9 => ?_)
  · skip
    exact absurd hlc h_7p9
  · skip
    refine j_aload_n (pc := 12) C 0 1 rfl rfl dX2_flood_12 ?_
    refine j_iload_n (pc := 13) C 1 0 rfl rfl dX2_flood_13 ?_
    refine j_aload_n (pc := 14) C 0 1 rfl rfl dX2_flood_14 ?_
    refine j_get (pc := 15) C (Or.inl (List.mem_of_getElem? (i := 0) rfl)) rfl fX2_flood_X2 0 (by decide) (List.mem_of_getElem? (i := 1) rfl) (Or.inl rfl) rfl dX2_flood_15 ?_
    refine j_iload_n (pc := 18) C 1 0 rfl rfl dX2_flood_18 ?_
    refine j_iald (pc := 19) C (Or.inl (List.mem_of_getElem? (i := 1) rfl)) rfl (by omega) (by decide) dX2_flood_19 ?_
    have f_8 := hS.1 (leastI (ms_h S)) (by omega)
    refine j_iconst (pc := 20) C dX2_flood_20 ?_
    refine j_iadd (pc := 21) C dX2_flood_21 ?_
    refine j_iconst (pc := 22) C dX2_flood_22 ?_
    refine j_idiv (pc := 23) C (by omega) dX2_flood_23 ?_
    refine j_callVv (pc := 24) (As := [vI (leastI (ms_h S)), vI ((ms_h S (leastI (ms_h S)) + 1) / 2)]) (na := 2) (st := []) C [0, 1, 2] [] (wr := []) (fun l => c_takeOff l D Y _ h hh hm S (leastI (ms_h S)) ((ms_h S (leastI (ms_h S)) + 1) / 2) (by first | assumption | omega) (by first | assumption | omega) (by first | assumption | omega)) rfl rfl rfl rfl (by decide) rfl (Or.inl (List.mem_of_getElem? (i := 0) rfl)) rfl gX2_flood_X2_takeOff ⟨rfl, by decide +kernel⟩ (by decide) rfl rfl (Nat.le_of_ble_eq_true rfl) (by decide) dX2_flood_24 (fun w_10 h_11 => ?_)
    subst h_11
    refine j_perm (ws' := [(h, oC 2 [.ref hh, .ref hm, vI (ms_w (takeS (leastI (ms_h S)) ((ms_h S (leastI (ms_h S)) + 1) / 2) S)), vI (ms_l (takeS (leastI (ms_h S)) ((ms_h S (leastI (ms_h S)) + 1) / 2) S)), vI (ms_s (takeS (leastI (ms_h S)) ((ms_h S (leastI (ms_h S)) + 1) / 2) S)), vI (ms_a (takeS (leastI (ms_h S)) ((ms_h S (leastI (ms_h S)) + 1) / 2) S)), vI (ms_t (takeS (leastI (ms_h S)) ((ms_h S (leastI (ms_h S)) + 1) / 2) S)), vI (ms_p (takeS (leastI (ms_h S)) ((ms_h S (leastI (ms_h S)) + 1) / 2) S))]), (hh, aI (Y 0) 7 (ms_h (takeS (leastI (ms_h S)) ((ms_h S (leastI (ms_h S)) + 1) / 2) S))), (hm, aI (Y 0) 420 (ms_m (takeS (leastI (ms_h S)) ((ms_h S (leastI (ms_h S)) + 1) / 2) S)))]) [0, 1, 2] rfl rfl ?_
    exact Rt _ _ _ _ _ (by decide) (by decide) rfl dX2_flood_27

theorem fX2_walk_X0 : ∀ w ∈ u_ws RX0 TX0 4, w ∈ wsX2_walk := j_words [104, 105, 106, 107] (by decide +kernel)
theorem fX2_walk_X1 : ∀ w ∈ u_ws RX1 TX1 3, w ∈ wsX2_walk := j_words [120, 121, 122] (by decide +kernel)
theorem fX2_walk_X2 : ∀ w ∈ u_ws RX2 TX2 8, w ∈ wsX2_walk := j_words [123, 124, 125, 126, 127, 128, 129, 130] (by decide +kernel)
theorem fX2_walk_X5 : ∀ w ∈ u_ws RX5 TX5 4, w ∈ wsX2_walk := j_words [108, 109, 110, 111] (by decide +kernel)
theorem fX2_walk_X6 : ∀ w ∈ u_ws RX6 TX6 4, w ∈ wsX2_walk := j_words [112, 113, 114, 115] (by decide +kernel)
theorem fX2_walk_X7 : ∀ w ∈ u_ws RX7 TX7 4, w ∈ wsX2_walk := j_words [116, 117, 118, 119] (by decide +kernel)
set_option maxHeartbeats 4000000 in
set_option maxRecDepth 100000 in
theorem c_walk (l : Launch) (D : va_G) (Y : Nat → ClassId) (RO : va_W) (h : Nat) (hh : Nat) (hm : Nat) (S : MS) (ca : Nat) (Cu : CT) (a : Nat) (P : PT) (num : Int) (hc : (ca, oC 1 [vI (cw Cu), vI (cz Cu), vI (ce Cu)]) ∈ RO) (hp : pC a P ∈ RO) (hS : okS S) (hC : okC Cu) (hP : okP P) (hn : 0 ≤ num ∧ num < 7) (hw : ms_w S ≤ 2147483000) : jMv l yX2_walk wsX2_walk { frames := 3, cells := 0, slots := 0, locals := 67 } D Y RO [.ref h, .ref ca, .ref a, vI num] [(h, oC 2 [.ref hh, .ref hm, vI (ms_w S), vI (ms_l S), vI (ms_s S), vI (ms_a S), vI (ms_t S), vI (ms_p S)]), (hh, aI (Y 0) 7 (ms_h S)), (hm, aI (Y 0) 420 (ms_m S))] (fun w1 => w1 = [(h, oC 2 [.ref hh, .ref hm, vI (ms_w (walkS Cu P num S)), vI (ms_l (walkS Cu P num S)), vI (ms_s (walkS Cu P num S)), vI (ms_a (walkS Cu P num S)), vI (ms_t (walkS Cu P num S)), vI (ms_p (walkS Cu P num S))]), (hh, aI (Y 0) 7 (ms_h (walkS Cu P num S))), (hm, aI (Y 0) 420 (ms_m (walkS Cu P num S)))]) := by
  refine j_ofv RX2 rfl rfl rfl (Nat.le_of_ble_eq_true rfl) (fun X C Rt hI => ?_)
  have hP6 := hP.2.2.2.2.2
  have hS1 := okS_draw hS
  have hS2 := okS_draw hS1
  have hr1 := ruleS_in hC.1 hn hS1
  have hf2 := fromS_in (P := P) hS2 hC hn
  have hg := giftP_in hP
  have hhd := hideP_in hP
  have hd1 := drawV_in hS1
  have hd2 := drawV_in hS2
  refine j_aload_n (pc := 0) C 0 0 rfl rfl dX2_walk_0 ?_
  refine j_callVi (pc := 1) (As := []) (na := 0) (st := []) C [0, 1, 2] [] (wr := []) (fun l => c_draw l D Y _ h hh hm S (by first | assumption | omega)) rfl rfl rfl rfl (by decide) rfl (Or.inl (List.mem_of_getElem? (i := 0) rfl)) rfl gX2_walk_X2_draw ⟨rfl, by decide +kernel⟩ (by decide) rfl rfl (Nat.le_of_ble_eq_true rfl) (by decide) dX2_walk_1 (fun e_1 w_2 h_3 => ?_)
  obtain ⟨rfl, rfl⟩ := h_3
  refine j_perm (ws' := [(h, oC 2 [.ref hh, .ref hm, vI (ms_w (drawS S)), vI (ms_l (drawS S)), vI (ms_s (drawS S)), vI (ms_a (drawS S)), vI (ms_t (drawS S)), vI (ms_p (drawS S))]), (hh, aI (Y 0) 7 (ms_h (drawS S))), (hm, aI (Y 0) 420 (ms_m (drawS S)))]) [0, 1, 2] rfl rfl ?_
  refine j_aload_n (pc := 4) C 2 2 rfl rfl dX2_walk_4 ?_
  refine j_getP (pc := 5) C (Or.inr hp) hP.1 fX2_walk_X5 fX2_walk_X6 fX2_walk_X7 fX2_walk_X0 2 (by decide) (List.mem_of_getElem? (i := 1) rfl) (Or.inl rfl) rfl dX2_walk_5 ?_
  refine j_icmp_ge (pc := 8) C 41 rfl (by omega) dX2_walk_8 (fun h_4p8 => ?_) (fun h_4p8 => ?_)
  · skip
    refine j_aload_n (pc := 41) C 0 0 rfl rfl dX2_walk_41 ?_
    refine j_callVi (pc := 42) (As := []) (na := 0) (st := []) C [0, 1, 2] [] (wr := []) (fun l => c_draw l D Y _ h hh hm (drawS S) hS1) rfl rfl rfl rfl (by decide) rfl (Or.inl (List.mem_of_getElem? (i := 0) rfl)) rfl gX2_walk_X2_draw ⟨rfl, by decide +kernel⟩ (by decide) rfl rfl (Nat.le_of_ble_eq_true rfl) (by decide) dX2_walk_42 (fun e_5 w_6 h_7 => ?_)
    obtain ⟨rfl, rfl⟩ := h_7
    refine j_perm (ws' := [(h, oC 2 [.ref hh, .ref hm, vI (ms_w (drawS (drawS S))), vI (ms_l (drawS (drawS S))), vI (ms_s (drawS (drawS S))), vI (ms_a (drawS (drawS S))), vI (ms_t (drawS (drawS S))), vI (ms_p (drawS (drawS S)))]), (hh, aI (Y 0) 7 (ms_h (drawS (drawS S)))), (hm, aI (Y 0) 420 (ms_m (drawS (drawS S))))]) [0, 1, 2] rfl rfl ?_
    refine j_aload_n (pc := 45) C 2 2 rfl rfl dX2_walk_45 ?_
    refine j_getP (pc := 46) C (Or.inr hp) hP.1 fX2_walk_X5 fX2_walk_X6 fX2_walk_X7 fX2_walk_X0 3 (by decide) (List.mem_of_getElem? (i := 4) rfl) (Or.inl rfl) rfl dX2_walk_46 ?_
    refine j_icmp_ge (pc := 49) C 93 rfl (by omega) dX2_walk_49 (fun h_8p49 => ?_) (fun h_8p49 => ?_)
    · skip
      exact Rt _ _ _ _ _ (by decide) (by decide) (by unfold walkS; first | (rw [if_pos (by omega)]; first | done | rfl) | (rw [if_neg (by omega), if_pos (by omega)]; first | done | rfl) | (rw [if_neg (by omega), if_neg (by omega)]; first | done | rfl)) dX2_walk_93
    · skip
      refine j_aload_n (pc := 52) C 2 2 rfl rfl dX2_walk_52 ?_
      have kk_9 : jW X 5 0 0 [(h, oC 2 [.ref hh, .ref hm, vI (ms_w (drawS (drawS S))), vI (ms_l (drawS (drawS S))), vI (ms_s (drawS (drawS S))), vI (ms_a (drawS (drawS S))), vI (ms_t (drawS (drawS S))), vI (ms_p (drawS (drawS S)))]), (hh, aI (Y 0) 7 (ms_h (drawS (drawS S)))), (hm, aI (Y 0) 420 (ms_m (drawS (drawS S))))] [(0, .ref h), (1, .ref ca), (2, .ref a), (3, vI num)] 56 [vI (if pk P = 3 then 1 else 0)] := by
        refine j_if_eqb (pc := 56) C 66 rfl dX2_walk_56 (fun h_10p56 => ?_) (fun h_10p56 => ?_)
        · skip
          refine j_aload_n (pc := 66) C 0 0 rfl rfl dX2_walk_66 ?_
          refine j_aload_n (pc := 67) C 1 1 rfl rfl dX2_walk_67 ?_
          refine j_get (pc := 68) C (Or.inr hc) rfl fX2_walk_X1 1 (by decide) (List.mem_of_getElem? (i := 5) rfl) (Or.inl rfl) rfl dX2_walk_68 ?_
          refine j_iload_n (pc := 71) C 3 3 rfl rfl dX2_walk_71 ?_
          refine j_callVi (pc := 72) (As := [vI (cz Cu), vI num]) (na := 2) (st := []) C [] [0, 1, 2] (wr := [(h, oC 2 [.ref hh, .ref hm, vI (ms_w (drawS (drawS S))), vI (ms_l (drawS (drawS S))), vI (ms_s (drawS (drawS S))), vI (ms_a (drawS (drawS S))), vI (ms_t (drawS (drawS S))), vI (ms_p (drawS (drawS S)))]), (hh, aI (Y 0) 7 (ms_h (drawS (drawS S)))), (hm, aI (Y 0) 420 (ms_m (drawS (drawS S))))]) (fun l => c_cairnBy l D Y _ h hh hm (drawS (drawS S)) (cz Cu) num (List.mem_append_left _ (List.mem_of_getElem? (i := 0) rfl)) (List.mem_append_left _ (List.mem_of_getElem? (i := 1) rfl)) hS2 hC.2.1) rfl rfl rfl rfl (by decide) rfl (Or.inr (List.mem_append_left _ (List.mem_of_getElem? (i := 0) rfl))) rfl gX2_walk_X2_cairnBy ⟨rfl, by decide +kernel⟩ (by decide) rfl rfl (Nat.le_of_ble_eq_true rfl) (by decide) dX2_walk_72 (fun e_11 w_12 h_13 => ?_)
          obtain ⟨rfl, rfl⟩ := h_13
          refine j_perm (ws' := [(h, oC 2 [.ref hh, .ref hm, vI (ms_w (drawS (drawS S))), vI (ms_l (drawS (drawS S))), vI (ms_s (drawS (drawS S))), vI (ms_a (drawS (drawS S))), vI (ms_t (drawS (drawS S))), vI (ms_p (drawS (drawS S)))]), (hh, aI (Y 0) 7 (ms_h (drawS (drawS S)))), (hm, aI (Y 0) 420 (ms_m (drawS (drawS S))))]) [0, 1, 2] rfl rfl ?_
          rw [show ruleS (cz Cu) num (drawS (drawS S)) = fromS Cu P num (drawS (drawS S)) by unfold fromS; first | rw [if_pos (by omega)] | rw [if_neg (by omega)]]
          refine j_istore (pc := 75) (lc' := [(4, vI (fromS Cu P num (drawS (drawS S)))), (0, .ref h), (1, .ref ca), (2, .ref a), (3, vI num)]) C (by decide) rfl dX2_walk_75 ?_
          refine j_aload_n (pc := 77) C 0 1 rfl rfl dX2_walk_77 ?_
          refine j_iload (pc := 78) C 0 rfl dX2_walk_78 ?_
          refine j_aload_n (pc := 80) C 2 3 rfl rfl dX2_walk_80 ?_
          have kk_14 : jW X 5 0 0 [(h, oC 2 [.ref hh, .ref hm, vI (ms_w (drawS (drawS S))), vI (ms_l (drawS (drawS S))), vI (ms_s (drawS (drawS S))), vI (ms_a (drawS (drawS S))), vI (ms_t (drawS (drawS S))), vI (ms_p (drawS (drawS S)))]), (hh, aI (Y 0) 7 (ms_h (drawS (drawS S)))), (hm, aI (Y 0) 420 (ms_m (drawS (drawS S))))] [(4, vI (fromS Cu P num (drawS (drawS S)))), (0, .ref h), (1, .ref ca), (2, .ref a), (3, vI num)] 84 [vI (hideP P), vI (fromS Cu P num (drawS (drawS S))), .ref h] := by
            refine j_callVv (pc := 84) (As := [vI (fromS Cu P num (drawS (drawS S))), vI (hideP P)]) (na := 2) (st := []) C [0, 1, 2] [] (wr := []) (fun l => c_steal l D Y _ h hh hm (drawS (drawS S)) (fromS Cu P num (drawS (drawS S))) (hideP P) hS2 hf2 hhd hw) rfl rfl rfl rfl (by decide) rfl (Or.inl (List.mem_of_getElem? (i := 0) rfl)) rfl gX2_walk_X2_steal ⟨rfl, by decide +kernel⟩ (by decide) rfl rfl (Nat.le_of_ble_eq_true rfl) (by decide) dX2_walk_84 (fun w_16 h_17 => ?_)
            subst h_17
            refine j_perm (ws' := [(h, oC 2 [.ref hh, .ref hm, vI (ms_w (stealS (fromS Cu P num (drawS (drawS S))) (hideP P) (drawS (drawS S)))), vI (ms_l (stealS (fromS Cu P num (drawS (drawS S))) (hideP P) (drawS (drawS S)))), vI (ms_s (stealS (fromS Cu P num (drawS (drawS S))) (hideP P) (drawS (drawS S)))), vI (ms_a (stealS (fromS Cu P num (drawS (drawS S))) (hideP P) (drawS (drawS S)))), vI (ms_t (stealS (fromS Cu P num (drawS (drawS S))) (hideP P) (drawS (drawS S)))), vI (ms_p (stealS (fromS Cu P num (drawS (drawS S))) (hideP P) (drawS (drawS S))))]), (hh, aI (Y 0) 7 (ms_h (stealS (fromS Cu P num (drawS (drawS S))) (hideP P) (drawS (drawS S))))), (hm, aI (Y 0) 420 (ms_m (stealS (fromS Cu P num (drawS (drawS S))) (hideP P) (drawS (drawS S)))))]) [0, 1, 2] rfl rfl ?_
            refine j_aload_n (pc := 87) C 0 1 rfl rfl dX2_walk_87 ?_
            refine j_iload (pc := 88) C 0 rfl dX2_walk_88 ?_
            refine j_put (pc := 90) (ws' := [(h, oC 2 [.ref hh, .ref hm, vI (ms_w (stealS (fromS Cu P num (drawS (drawS S))) (hideP P) (drawS (drawS S)))), vI (fromS Cu P num (drawS (drawS S))), vI (ms_s (stealS (fromS Cu P num (drawS (drawS S))) (hideP P) (drawS (drawS S)))), vI (ms_a (stealS (fromS Cu P num (drawS (drawS S))) (hideP P) (drawS (drawS S)))), vI (ms_t (stealS (fromS Cu P num (drawS (drawS S))) (hideP P) (drawS (drawS S)))), vI (ms_p (stealS (fromS Cu P num (drawS (drawS S))) (hideP P) (drawS (drawS S))))]), (hh, aI (Y 0) 7 (ms_h (stealS (fromS Cu P num (drawS (drawS S))) (hideP P) (drawS (drawS S))))), (hm, aI (Y 0) 420 (ms_m (stealS (fromS Cu P num (drawS (drawS S))) (hideP P) (drawS (drawS S)))))]) C 0 rfl rfl fX2_walk_X2 tyX2_ok nmX2 3 (by decide) (List.mem_of_getElem? (i := 3) rfl) (Or.inl rfl) rfl rfl rfl rfl (Nat.le_of_ble_eq_true rfl) rfl dX2_walk_90 ?_
            exact Rt _ _ _ _ _ (by decide) (by decide) (by unfold walkS; first | (rw [if_pos (by omega)]; first | done | rfl) | (rw [if_neg (by omega), if_pos (by omega)]; first | done | rfl) | (rw [if_neg (by omega), if_neg (by omega)]; first | done | rfl)) dX2_walk_93
          rcases (show pk P = 0 ∨ pk P = 1 ∨ pk P = 2 ∨ pk P = 3 by have := hP.1; omega) with h_18 | h_18 | h_18 | h_18
          · have hpm := hp
            rw [pC_0 h_18] at hpm
            refine j_callVi (pc := 81) (As := []) (na := 0) (st := [vI (fromS Cu P num (drawS (drawS S))), .ref h]) C [] [0, 1, 2] (wr := [(h, oC 2 [.ref hh, .ref hm, vI (ms_w (drawS (drawS S))), vI (ms_l (drawS (drawS S))), vI (ms_s (drawS (drawS S))), vI (ms_a (drawS (drawS S))), vI (ms_t (drawS (drawS S))), vI (ms_p (drawS (drawS S)))]), (hh, aI (Y 0) 7 (ms_h (drawS (drawS S)))), (hm, aI (Y 0) 420 (ms_m (drawS (drawS S))))]) (fun l => c_X5_hidesOn l D Y _ a  ) rfl rfl rfl rfl (by decide) rfl (Or.inr (List.mem_append_right _ hpm)) rfl gX2_walk_X5_hidesOn ⟨rfl, by decide +kernel⟩ (by decide) rfl rfl (Nat.le_of_ble_eq_true rfl) (by decide) dX2_walk_81 (fun e w1 hq => ?_)
            obtain ⟨rfl, rfl⟩ := hq
            refine j_perm (ws' := [(h, oC 2 [.ref hh, .ref hm, vI (ms_w (drawS (drawS S))), vI (ms_l (drawS (drawS S))), vI (ms_s (drawS (drawS S))), vI (ms_a (drawS (drawS S))), vI (ms_t (drawS (drawS S))), vI (ms_p (drawS (drawS S)))]), (hh, aI (Y 0) 7 (ms_h (drawS (drawS S)))), (hm, aI (Y 0) 420 (ms_m (drawS (drawS S))))]) [0, 1, 2] rfl rfl ?_
            exact j_st rfl rfl (by unfold hideP; simp [h_18]) kk_14
          · have hpm := hp
            rw [pC_1 h_18] at hpm
            refine j_callUi (pc := 81) (As := []) (na := 0) (st := [vI (fromS Cu P num (drawS (drawS S))), .ref h]) C [] [0, 1, 2] (wr := [(h, oC 2 [.ref hh, .ref hm, vI (ms_w (drawS (drawS S))), vI (ms_l (drawS (drawS S))), vI (ms_s (drawS (drawS S))), vI (ms_a (drawS (drawS S))), vI (ms_t (drawS (drawS S))), vI (ms_p (drawS (drawS S)))]), (hh, aI (Y 0) 7 (ms_h (drawS (drawS S)))), (hm, aI (Y 0) 420 (ms_m (drawS (drawS S))))]) (fun l => c_X5_hidesOn l D Y _ a  ) rfl rfl rfl rfl (by decide) rfl (Or.inr (List.mem_append_right _ hpm)) rfl gX2_walk_X5_hidesOn_u109X6 rfl (by decide +kernel) (by decide) rfl rfl (Nat.le_of_ble_eq_true rfl) (by decide) dX2_walk_81 (fun e w1 hq => ?_)
            obtain ⟨rfl, rfl⟩ := hq
            refine j_perm (ws' := [(h, oC 2 [.ref hh, .ref hm, vI (ms_w (drawS (drawS S))), vI (ms_l (drawS (drawS S))), vI (ms_s (drawS (drawS S))), vI (ms_a (drawS (drawS S))), vI (ms_t (drawS (drawS S))), vI (ms_p (drawS (drawS S)))]), (hh, aI (Y 0) 7 (ms_h (drawS (drawS S)))), (hm, aI (Y 0) 420 (ms_m (drawS (drawS S))))]) [0, 1, 2] rfl rfl ?_
            exact j_st rfl rfl (by unfold hideP; simp [h_18]) kk_14
          · have hpm := hp
            rw [pC_2 h_18] at hpm
            refine j_callOi (pc := 81) (As := []) (na := 0) (st := [vI (fromS Cu P num (drawS (drawS S))), .ref h]) C [] [0, 1, 2] (wr := [(h, oC 2 [.ref hh, .ref hm, vI (ms_w (drawS (drawS S))), vI (ms_l (drawS (drawS S))), vI (ms_s (drawS (drawS S))), vI (ms_a (drawS (drawS S))), vI (ms_t (drawS (drawS S))), vI (ms_p (drawS (drawS S)))]), (hh, aI (Y 0) 7 (ms_h (drawS (drawS S)))), (hm, aI (Y 0) 420 (ms_m (drawS (drawS S))))]) (fun l => c_X7_hidesOn l D Y _ a P (List.mem_append_right _ hp) hP) rfl rfl rfl rfl (by decide) rfl (Or.inr (List.mem_append_right _ hpm)) rfl gX2_walk_X7_hidesOn_u109X7 (List.mem_of_getElem? (i := 81) rfl) (by decide +kernel) (by decide) rfl rfl (Nat.le_of_ble_eq_true rfl) (by decide) dX2_walk_81 (fun e w1 hq => ?_)
            obtain ⟨rfl, rfl⟩ := hq
            refine j_perm (ws' := [(h, oC 2 [.ref hh, .ref hm, vI (ms_w (drawS (drawS S))), vI (ms_l (drawS (drawS S))), vI (ms_s (drawS (drawS S))), vI (ms_a (drawS (drawS S))), vI (ms_t (drawS (drawS S))), vI (ms_p (drawS (drawS S)))]), (hh, aI (Y 0) 7 (ms_h (drawS (drawS S)))), (hm, aI (Y 0) 420 (ms_m (drawS (drawS S))))]) [0, 1, 2] rfl rfl ?_
            exact j_st rfl rfl (by unfold hideP; simp [h_18]) kk_14
          · have hpm := hp
            rw [pC_3 h_18] at hpm
            refine j_callOi (pc := 81) (As := []) (na := 0) (st := [vI (fromS Cu P num (drawS (drawS S))), .ref h]) C [] [0, 1, 2] (wr := [(h, oC 2 [.ref hh, .ref hm, vI (ms_w (drawS (drawS S))), vI (ms_l (drawS (drawS S))), vI (ms_s (drawS (drawS S))), vI (ms_a (drawS (drawS S))), vI (ms_t (drawS (drawS S))), vI (ms_p (drawS (drawS S)))]), (hh, aI (Y 0) 7 (ms_h (drawS (drawS S)))), (hm, aI (Y 0) 420 (ms_m (drawS (drawS S))))]) (fun l => c_X7_hidesOn l D Y _ a P (List.mem_append_right _ hp) hP) rfl rfl rfl rfl (by decide) rfl (Or.inr (List.mem_append_right _ hpm)) rfl gX2_walk_X7_hidesOn_u109X0 (List.mem_of_getElem? (i := 81) rfl) (by decide +kernel) (by decide) rfl rfl (Nat.le_of_ble_eq_true rfl) (by decide) dX2_walk_81 (fun e w1 hq => ?_)
            obtain ⟨rfl, rfl⟩ := hq
            refine j_perm (ws' := [(h, oC 2 [.ref hh, .ref hm, vI (ms_w (drawS (drawS S))), vI (ms_l (drawS (drawS S))), vI (ms_s (drawS (drawS S))), vI (ms_a (drawS (drawS S))), vI (ms_t (drawS (drawS S))), vI (ms_p (drawS (drawS S)))]), (hh, aI (Y 0) 7 (ms_h (drawS (drawS S)))), (hm, aI (Y 0) 420 (ms_m (drawS (drawS S))))]) [0, 1, 2] rfl rfl ?_
            exact j_st rfl rfl (by unfold hideP; simp [h_18]) kk_14
        · skip
          refine j_aload_n (pc := 59) C 0 0 rfl rfl dX2_walk_59 ?_
          refine j_callVi (pc := 60) (As := []) (na := 0) (st := []) C [] [0, 1, 2] (wr := [(h, oC 2 [.ref hh, .ref hm, vI (ms_w (drawS (drawS S))), vI (ms_l (drawS (drawS S))), vI (ms_s (drawS (drawS S))), vI (ms_a (drawS (drawS S))), vI (ms_t (drawS (drawS S))), vI (ms_p (drawS (drawS S)))]), (hh, aI (Y 0) 7 (ms_h (drawS (drawS S)))), (hm, aI (Y 0) 420 (ms_m (drawS (drawS S))))]) (fun l => c_most l D Y _ h hh hm (drawS (drawS S)) (List.mem_append_left _ (List.mem_of_getElem? (i := 0) rfl)) (List.mem_append_left _ (List.mem_of_getElem? (i := 1) rfl)) hS2) rfl rfl rfl rfl (by decide) rfl (Or.inr (List.mem_append_left _ (List.mem_of_getElem? (i := 0) rfl))) rfl gX2_walk_X2_most ⟨rfl, by decide +kernel⟩ (by decide) rfl rfl (Nat.le_of_ble_eq_true rfl) (by decide) dX2_walk_60 (fun e_19 w_20 h_21 => ?_)
          obtain ⟨rfl, rfl⟩ := h_21
          refine j_perm (ws' := [(h, oC 2 [.ref hh, .ref hm, vI (ms_w (drawS (drawS S))), vI (ms_l (drawS (drawS S))), vI (ms_s (drawS (drawS S))), vI (ms_a (drawS (drawS S))), vI (ms_t (drawS (drawS S))), vI (ms_p (drawS (drawS S)))]), (hh, aI (Y 0) 7 (ms_h (drawS (drawS S)))), (hm, aI (Y 0) 420 (ms_m (drawS (drawS S))))]) [0, 1, 2] rfl rfl ?_
          refine j_goto (pc := 63) C 75 rfl dX2_walk_63 ?_
          rw [show mostI (ms_h (drawS (drawS S))) = fromS Cu P num (drawS (drawS S)) by unfold fromS; first | rw [if_pos (by omega)] | rw [if_neg (by omega)]]
          refine j_istore (pc := 75) (lc' := [(4, vI (fromS Cu P num (drawS (drawS S)))), (0, .ref h), (1, .ref ca), (2, .ref a), (3, vI num)]) C (by decide) rfl dX2_walk_75 ?_
          refine j_aload_n (pc := 77) C 0 1 rfl rfl dX2_walk_77 ?_
          refine j_iload (pc := 78) C 0 rfl dX2_walk_78 ?_
          refine j_aload_n (pc := 80) C 2 3 rfl rfl dX2_walk_80 ?_
          have kk_22 : jW X 5 0 0 [(h, oC 2 [.ref hh, .ref hm, vI (ms_w (drawS (drawS S))), vI (ms_l (drawS (drawS S))), vI (ms_s (drawS (drawS S))), vI (ms_a (drawS (drawS S))), vI (ms_t (drawS (drawS S))), vI (ms_p (drawS (drawS S)))]), (hh, aI (Y 0) 7 (ms_h (drawS (drawS S)))), (hm, aI (Y 0) 420 (ms_m (drawS (drawS S))))] [(4, vI (fromS Cu P num (drawS (drawS S)))), (0, .ref h), (1, .ref ca), (2, .ref a), (3, vI num)] 84 [vI (hideP P), vI (fromS Cu P num (drawS (drawS S))), .ref h] := by
            refine j_callVv (pc := 84) (As := [vI (fromS Cu P num (drawS (drawS S))), vI (hideP P)]) (na := 2) (st := []) C [0, 1, 2] [] (wr := []) (fun l => c_steal l D Y _ h hh hm (drawS (drawS S)) (fromS Cu P num (drawS (drawS S))) (hideP P) hS2 hf2 hhd hw) rfl rfl rfl rfl (by decide) rfl (Or.inl (List.mem_of_getElem? (i := 0) rfl)) rfl gX2_walk_X2_steal ⟨rfl, by decide +kernel⟩ (by decide) rfl rfl (Nat.le_of_ble_eq_true rfl) (by decide) dX2_walk_84 (fun w_24 h_25 => ?_)
            subst h_25
            refine j_perm (ws' := [(h, oC 2 [.ref hh, .ref hm, vI (ms_w (stealS (fromS Cu P num (drawS (drawS S))) (hideP P) (drawS (drawS S)))), vI (ms_l (stealS (fromS Cu P num (drawS (drawS S))) (hideP P) (drawS (drawS S)))), vI (ms_s (stealS (fromS Cu P num (drawS (drawS S))) (hideP P) (drawS (drawS S)))), vI (ms_a (stealS (fromS Cu P num (drawS (drawS S))) (hideP P) (drawS (drawS S)))), vI (ms_t (stealS (fromS Cu P num (drawS (drawS S))) (hideP P) (drawS (drawS S)))), vI (ms_p (stealS (fromS Cu P num (drawS (drawS S))) (hideP P) (drawS (drawS S))))]), (hh, aI (Y 0) 7 (ms_h (stealS (fromS Cu P num (drawS (drawS S))) (hideP P) (drawS (drawS S))))), (hm, aI (Y 0) 420 (ms_m (stealS (fromS Cu P num (drawS (drawS S))) (hideP P) (drawS (drawS S)))))]) [0, 1, 2] rfl rfl ?_
            refine j_aload_n (pc := 87) C 0 1 rfl rfl dX2_walk_87 ?_
            refine j_iload (pc := 88) C 0 rfl dX2_walk_88 ?_
            refine j_put (pc := 90) (ws' := [(h, oC 2 [.ref hh, .ref hm, vI (ms_w (stealS (fromS Cu P num (drawS (drawS S))) (hideP P) (drawS (drawS S)))), vI (fromS Cu P num (drawS (drawS S))), vI (ms_s (stealS (fromS Cu P num (drawS (drawS S))) (hideP P) (drawS (drawS S)))), vI (ms_a (stealS (fromS Cu P num (drawS (drawS S))) (hideP P) (drawS (drawS S)))), vI (ms_t (stealS (fromS Cu P num (drawS (drawS S))) (hideP P) (drawS (drawS S)))), vI (ms_p (stealS (fromS Cu P num (drawS (drawS S))) (hideP P) (drawS (drawS S))))]), (hh, aI (Y 0) 7 (ms_h (stealS (fromS Cu P num (drawS (drawS S))) (hideP P) (drawS (drawS S))))), (hm, aI (Y 0) 420 (ms_m (stealS (fromS Cu P num (drawS (drawS S))) (hideP P) (drawS (drawS S)))))]) C 0 rfl rfl fX2_walk_X2 tyX2_ok nmX2 3 (by decide) (List.mem_of_getElem? (i := 3) rfl) (Or.inl rfl) rfl rfl rfl rfl (Nat.le_of_ble_eq_true rfl) rfl dX2_walk_90 ?_
            exact Rt _ _ _ _ _ (by decide) (by decide) (by unfold walkS; first | (rw [if_pos (by omega)]; first | done | rfl) | (rw [if_neg (by omega), if_pos (by omega)]; first | done | rfl) | (rw [if_neg (by omega), if_neg (by omega)]; first | done | rfl)) dX2_walk_93
          rcases (show pk P = 0 ∨ pk P = 1 ∨ pk P = 2 ∨ pk P = 3 by have := hP.1; omega) with h_26 | h_26 | h_26 | h_26
          · have hpm := hp
            rw [pC_0 h_26] at hpm
            refine j_callVi (pc := 81) (As := []) (na := 0) (st := [vI (fromS Cu P num (drawS (drawS S))), .ref h]) C [] [0, 1, 2] (wr := [(h, oC 2 [.ref hh, .ref hm, vI (ms_w (drawS (drawS S))), vI (ms_l (drawS (drawS S))), vI (ms_s (drawS (drawS S))), vI (ms_a (drawS (drawS S))), vI (ms_t (drawS (drawS S))), vI (ms_p (drawS (drawS S)))]), (hh, aI (Y 0) 7 (ms_h (drawS (drawS S)))), (hm, aI (Y 0) 420 (ms_m (drawS (drawS S))))]) (fun l => c_X5_hidesOn l D Y _ a  ) rfl rfl rfl rfl (by decide) rfl (Or.inr (List.mem_append_right _ hpm)) rfl gX2_walk_X5_hidesOn ⟨rfl, by decide +kernel⟩ (by decide) rfl rfl (Nat.le_of_ble_eq_true rfl) (by decide) dX2_walk_81 (fun e w1 hq => ?_)
            obtain ⟨rfl, rfl⟩ := hq
            refine j_perm (ws' := [(h, oC 2 [.ref hh, .ref hm, vI (ms_w (drawS (drawS S))), vI (ms_l (drawS (drawS S))), vI (ms_s (drawS (drawS S))), vI (ms_a (drawS (drawS S))), vI (ms_t (drawS (drawS S))), vI (ms_p (drawS (drawS S)))]), (hh, aI (Y 0) 7 (ms_h (drawS (drawS S)))), (hm, aI (Y 0) 420 (ms_m (drawS (drawS S))))]) [0, 1, 2] rfl rfl ?_
            exact j_st rfl rfl (by unfold hideP; simp [h_26]) kk_22
          · have hpm := hp
            rw [pC_1 h_26] at hpm
            refine j_callUi (pc := 81) (As := []) (na := 0) (st := [vI (fromS Cu P num (drawS (drawS S))), .ref h]) C [] [0, 1, 2] (wr := [(h, oC 2 [.ref hh, .ref hm, vI (ms_w (drawS (drawS S))), vI (ms_l (drawS (drawS S))), vI (ms_s (drawS (drawS S))), vI (ms_a (drawS (drawS S))), vI (ms_t (drawS (drawS S))), vI (ms_p (drawS (drawS S)))]), (hh, aI (Y 0) 7 (ms_h (drawS (drawS S)))), (hm, aI (Y 0) 420 (ms_m (drawS (drawS S))))]) (fun l => c_X5_hidesOn l D Y _ a  ) rfl rfl rfl rfl (by decide) rfl (Or.inr (List.mem_append_right _ hpm)) rfl gX2_walk_X5_hidesOn_u109X6 rfl (by decide +kernel) (by decide) rfl rfl (Nat.le_of_ble_eq_true rfl) (by decide) dX2_walk_81 (fun e w1 hq => ?_)
            obtain ⟨rfl, rfl⟩ := hq
            refine j_perm (ws' := [(h, oC 2 [.ref hh, .ref hm, vI (ms_w (drawS (drawS S))), vI (ms_l (drawS (drawS S))), vI (ms_s (drawS (drawS S))), vI (ms_a (drawS (drawS S))), vI (ms_t (drawS (drawS S))), vI (ms_p (drawS (drawS S)))]), (hh, aI (Y 0) 7 (ms_h (drawS (drawS S)))), (hm, aI (Y 0) 420 (ms_m (drawS (drawS S))))]) [0, 1, 2] rfl rfl ?_
            exact j_st rfl rfl (by unfold hideP; simp [h_26]) kk_22
          · have hpm := hp
            rw [pC_2 h_26] at hpm
            refine j_callOi (pc := 81) (As := []) (na := 0) (st := [vI (fromS Cu P num (drawS (drawS S))), .ref h]) C [] [0, 1, 2] (wr := [(h, oC 2 [.ref hh, .ref hm, vI (ms_w (drawS (drawS S))), vI (ms_l (drawS (drawS S))), vI (ms_s (drawS (drawS S))), vI (ms_a (drawS (drawS S))), vI (ms_t (drawS (drawS S))), vI (ms_p (drawS (drawS S)))]), (hh, aI (Y 0) 7 (ms_h (drawS (drawS S)))), (hm, aI (Y 0) 420 (ms_m (drawS (drawS S))))]) (fun l => c_X7_hidesOn l D Y _ a P (List.mem_append_right _ hp) hP) rfl rfl rfl rfl (by decide) rfl (Or.inr (List.mem_append_right _ hpm)) rfl gX2_walk_X7_hidesOn_u109X7 (List.mem_of_getElem? (i := 81) rfl) (by decide +kernel) (by decide) rfl rfl (Nat.le_of_ble_eq_true rfl) (by decide) dX2_walk_81 (fun e w1 hq => ?_)
            obtain ⟨rfl, rfl⟩ := hq
            refine j_perm (ws' := [(h, oC 2 [.ref hh, .ref hm, vI (ms_w (drawS (drawS S))), vI (ms_l (drawS (drawS S))), vI (ms_s (drawS (drawS S))), vI (ms_a (drawS (drawS S))), vI (ms_t (drawS (drawS S))), vI (ms_p (drawS (drawS S)))]), (hh, aI (Y 0) 7 (ms_h (drawS (drawS S)))), (hm, aI (Y 0) 420 (ms_m (drawS (drawS S))))]) [0, 1, 2] rfl rfl ?_
            exact j_st rfl rfl (by unfold hideP; simp [h_26]) kk_22
          · have hpm := hp
            rw [pC_3 h_26] at hpm
            refine j_callOi (pc := 81) (As := []) (na := 0) (st := [vI (fromS Cu P num (drawS (drawS S))), .ref h]) C [] [0, 1, 2] (wr := [(h, oC 2 [.ref hh, .ref hm, vI (ms_w (drawS (drawS S))), vI (ms_l (drawS (drawS S))), vI (ms_s (drawS (drawS S))), vI (ms_a (drawS (drawS S))), vI (ms_t (drawS (drawS S))), vI (ms_p (drawS (drawS S)))]), (hh, aI (Y 0) 7 (ms_h (drawS (drawS S)))), (hm, aI (Y 0) 420 (ms_m (drawS (drawS S))))]) (fun l => c_X7_hidesOn l D Y _ a P (List.mem_append_right _ hp) hP) rfl rfl rfl rfl (by decide) rfl (Or.inr (List.mem_append_right _ hpm)) rfl gX2_walk_X7_hidesOn_u109X0 (List.mem_of_getElem? (i := 81) rfl) (by decide +kernel) (by decide) rfl rfl (Nat.le_of_ble_eq_true rfl) (by decide) dX2_walk_81 (fun e w1 hq => ?_)
            obtain ⟨rfl, rfl⟩ := hq
            refine j_perm (ws' := [(h, oC 2 [.ref hh, .ref hm, vI (ms_w (drawS (drawS S))), vI (ms_l (drawS (drawS S))), vI (ms_s (drawS (drawS S))), vI (ms_a (drawS (drawS S))), vI (ms_t (drawS (drawS S))), vI (ms_p (drawS (drawS S)))]), (hh, aI (Y 0) 7 (ms_h (drawS (drawS S)))), (hm, aI (Y 0) 420 (ms_m (drawS (drawS S))))]) [0, 1, 2] rfl rfl ?_
            exact j_st rfl rfl (by unfold hideP; simp [h_26]) kk_22
      rcases (show pk P = 0 ∨ pk P = 1 ∨ pk P = 2 ∨ pk P = 3 by have := hP.1; omega) with h_27 | h_27 | h_27 | h_27
      · have hpm := hp
        rw [pC_0 h_27] at hpm
        refine j_callVi (pc := 53) (As := []) (na := 0) (st := []) C [] [0, 1, 2] (wr := [(h, oC 2 [.ref hh, .ref hm, vI (ms_w (drawS (drawS S))), vI (ms_l (drawS (drawS S))), vI (ms_s (drawS (drawS S))), vI (ms_a (drawS (drawS S))), vI (ms_t (drawS (drawS S))), vI (ms_p (drawS (drawS S)))]), (hh, aI (Y 0) 7 (ms_h (drawS (drawS S)))), (hm, aI (Y 0) 420 (ms_m (drawS (drawS S))))]) (fun l => c_X5_sinsAtMost l D Y _ a  ) rfl rfl rfl rfl (by decide) rfl (Or.inr (List.mem_append_right _ hpm)) rfl gX2_walk_X5_sinsAtMost ⟨rfl, by decide +kernel⟩ (by decide) rfl rfl (Nat.le_of_ble_eq_true rfl) (by decide) dX2_walk_53 (fun e w1 hq => ?_)
        obtain ⟨rfl, rfl⟩ := hq
        refine j_perm (ws' := [(h, oC 2 [.ref hh, .ref hm, vI (ms_w (drawS (drawS S))), vI (ms_l (drawS (drawS S))), vI (ms_s (drawS (drawS S))), vI (ms_a (drawS (drawS S))), vI (ms_t (drawS (drawS S))), vI (ms_p (drawS (drawS S)))]), (hh, aI (Y 0) 7 (ms_h (drawS (drawS S)))), (hm, aI (Y 0) 420 (ms_m (drawS (drawS S))))]) [0, 1, 2] rfl rfl ?_
        exact j_st rfl rfl (by simp [h_27]) kk_9
      · have hpm := hp
        rw [pC_1 h_27] at hpm
        refine j_callUi (pc := 53) (As := []) (na := 0) (st := []) C [] [0, 1, 2] (wr := [(h, oC 2 [.ref hh, .ref hm, vI (ms_w (drawS (drawS S))), vI (ms_l (drawS (drawS S))), vI (ms_s (drawS (drawS S))), vI (ms_a (drawS (drawS S))), vI (ms_t (drawS (drawS S))), vI (ms_p (drawS (drawS S)))]), (hh, aI (Y 0) 7 (ms_h (drawS (drawS S)))), (hm, aI (Y 0) 420 (ms_m (drawS (drawS S))))]) (fun l => c_X5_sinsAtMost l D Y _ a  ) rfl rfl rfl rfl (by decide) rfl (Or.inr (List.mem_append_right _ hpm)) rfl gX2_walk_X5_sinsAtMost_u99X6 rfl (by decide +kernel) (by decide) rfl rfl (Nat.le_of_ble_eq_true rfl) (by decide) dX2_walk_53 (fun e w1 hq => ?_)
        obtain ⟨rfl, rfl⟩ := hq
        refine j_perm (ws' := [(h, oC 2 [.ref hh, .ref hm, vI (ms_w (drawS (drawS S))), vI (ms_l (drawS (drawS S))), vI (ms_s (drawS (drawS S))), vI (ms_a (drawS (drawS S))), vI (ms_t (drawS (drawS S))), vI (ms_p (drawS (drawS S)))]), (hh, aI (Y 0) 7 (ms_h (drawS (drawS S)))), (hm, aI (Y 0) 420 (ms_m (drawS (drawS S))))]) [0, 1, 2] rfl rfl ?_
        exact j_st rfl rfl (by simp [h_27]) kk_9
      · have hpm := hp
        rw [pC_2 h_27] at hpm
        refine j_callUi (pc := 53) (As := []) (na := 0) (st := []) C [] [0, 1, 2] (wr := [(h, oC 2 [.ref hh, .ref hm, vI (ms_w (drawS (drawS S))), vI (ms_l (drawS (drawS S))), vI (ms_s (drawS (drawS S))), vI (ms_a (drawS (drawS S))), vI (ms_t (drawS (drawS S))), vI (ms_p (drawS (drawS S)))]), (hh, aI (Y 0) 7 (ms_h (drawS (drawS S)))), (hm, aI (Y 0) 420 (ms_m (drawS (drawS S))))]) (fun l => c_X5_sinsAtMost l D Y _ a  ) rfl rfl rfl rfl (by decide) rfl (Or.inr (List.mem_append_right _ hpm)) rfl gX2_walk_X5_sinsAtMost_u99X7 rfl (by decide +kernel) (by decide) rfl rfl (Nat.le_of_ble_eq_true rfl) (by decide) dX2_walk_53 (fun e w1 hq => ?_)
        obtain ⟨rfl, rfl⟩ := hq
        refine j_perm (ws' := [(h, oC 2 [.ref hh, .ref hm, vI (ms_w (drawS (drawS S))), vI (ms_l (drawS (drawS S))), vI (ms_s (drawS (drawS S))), vI (ms_a (drawS (drawS S))), vI (ms_t (drawS (drawS S))), vI (ms_p (drawS (drawS S)))]), (hh, aI (Y 0) 7 (ms_h (drawS (drawS S)))), (hm, aI (Y 0) 420 (ms_m (drawS (drawS S))))]) [0, 1, 2] rfl rfl ?_
        exact j_st rfl rfl (by simp [h_27]) kk_9
      · have hpm := hp
        rw [pC_3 h_27] at hpm
        refine j_callOi (pc := 53) (As := []) (na := 0) (st := []) C [] [0, 1, 2] (wr := [(h, oC 2 [.ref hh, .ref hm, vI (ms_w (drawS (drawS S))), vI (ms_l (drawS (drawS S))), vI (ms_s (drawS (drawS S))), vI (ms_a (drawS (drawS S))), vI (ms_t (drawS (drawS S))), vI (ms_p (drawS (drawS S)))]), (hh, aI (Y 0) 7 (ms_h (drawS (drawS S)))), (hm, aI (Y 0) 420 (ms_m (drawS (drawS S))))]) (fun l => c_X0_sinsAtMost l D Y _ a  ) rfl rfl rfl rfl (by decide) rfl (Or.inr (List.mem_append_right _ hpm)) rfl gX2_walk_X0_sinsAtMost_u99X0 (List.mem_of_getElem? (i := 66) rfl) (by decide +kernel) (by decide) rfl rfl (Nat.le_of_ble_eq_true rfl) (by decide) dX2_walk_53 (fun e w1 hq => ?_)
        obtain ⟨rfl, rfl⟩ := hq
        refine j_perm (ws' := [(h, oC 2 [.ref hh, .ref hm, vI (ms_w (drawS (drawS S))), vI (ms_l (drawS (drawS S))), vI (ms_s (drawS (drawS S))), vI (ms_a (drawS (drawS S))), vI (ms_t (drawS (drawS S))), vI (ms_p (drawS (drawS S)))]), (hh, aI (Y 0) 7 (ms_h (drawS (drawS S)))), (hm, aI (Y 0) 420 (ms_m (drawS (drawS S))))]) [0, 1, 2] rfl rfl ?_
        exact j_st rfl rfl (by simp [h_27]) kk_9
  · skip
    refine j_aload_n (pc := 11) C 0 0 rfl rfl dX2_walk_11 ?_
    refine j_aload_n (pc := 12) C 1 1 rfl rfl dX2_walk_12 ?_
    refine j_get (pc := 13) C (Or.inr hc) rfl fX2_walk_X1 0 (by decide) (List.mem_of_getElem? (i := 2) rfl) (Or.inl rfl) rfl dX2_walk_13 ?_
    refine j_iload_n (pc := 16) C 3 3 rfl rfl dX2_walk_16 ?_
    refine j_callVi (pc := 17) (As := [vI (cw Cu), vI num]) (na := 2) (st := []) C [] [0, 1, 2] (wr := [(h, oC 2 [.ref hh, .ref hm, vI (ms_w (drawS S)), vI (ms_l (drawS S)), vI (ms_s (drawS S)), vI (ms_a (drawS S)), vI (ms_t (drawS S)), vI (ms_p (drawS S))]), (hh, aI (Y 0) 7 (ms_h (drawS S))), (hm, aI (Y 0) 420 (ms_m (drawS S)))]) (fun l => c_cairnBy l D Y _ h hh hm (drawS S) (cw Cu) num (List.mem_append_left _ (List.mem_of_getElem? (i := 0) rfl)) (List.mem_append_left _ (List.mem_of_getElem? (i := 1) rfl)) (by first | assumption | omega) hC.1) rfl rfl rfl rfl (by decide) rfl (Or.inr (List.mem_append_left _ (List.mem_of_getElem? (i := 0) rfl))) rfl gX2_walk_X2_cairnBy ⟨rfl, by decide +kernel⟩ (by decide) rfl rfl (Nat.le_of_ble_eq_true rfl) (by decide) dX2_walk_17 (fun e_28 w_29 h_30 => ?_)
    obtain ⟨rfl, rfl⟩ := h_30
    refine j_perm (ws' := [(h, oC 2 [.ref hh, .ref hm, vI (ms_w (drawS S)), vI (ms_l (drawS S)), vI (ms_s (drawS S)), vI (ms_a (drawS S)), vI (ms_t (drawS S)), vI (ms_p (drawS S))]), (hh, aI (Y 0) 7 (ms_h (drawS S))), (hm, aI (Y 0) 420 (ms_m (drawS S)))]) [0, 1, 2] rfl rfl ?_
    refine j_istore (pc := 20) (lc' := [(4, vI (ruleS (cw Cu) num (drawS S))), (0, .ref h), (1, .ref ca), (2, .ref a), (3, vI num)]) C (by decide) rfl dX2_walk_20 ?_
    refine j_aload_n (pc := 22) C 0 1 rfl rfl dX2_walk_22 ?_
    refine j_iload (pc := 23) C 0 rfl dX2_walk_23 ?_
    refine j_aload_n (pc := 25) C 2 3 rfl rfl dX2_walk_25 ?_
    have kk_31 : jW X 5 0 0 [(h, oC 2 [.ref hh, .ref hm, vI (ms_w (drawS S)), vI (ms_l (drawS S)), vI (ms_s (drawS S)), vI (ms_a (drawS S)), vI (ms_t (drawS S)), vI (ms_p (drawS S))]), (hh, aI (Y 0) 7 (ms_h (drawS S))), (hm, aI (Y 0) 420 (ms_m (drawS S)))] [(4, vI (ruleS (cw Cu) num (drawS S))), (0, .ref h), (1, .ref ca), (2, .ref a), (3, vI num)] 29 [vI (giftP P), vI (ruleS (cw Cu) num (drawS S)), .ref h] := by
      refine j_callVv (pc := 29) (As := [vI (ruleS (cw Cu) num (drawS S)), vI (giftP P)]) (na := 2) (st := []) C [0, 1, 2] [] (wr := []) (fun l => c_layNew l D Y _ h hh hm (drawS S) (ruleS (cw Cu) num (drawS S)) (giftP P) hS1 hr1 (by first | assumption | omega)) rfl rfl rfl rfl (by decide) rfl (Or.inl (List.mem_of_getElem? (i := 0) rfl)) rfl gX2_walk_X2_layNew ⟨rfl, by decide +kernel⟩ (by decide) rfl rfl (Nat.le_of_ble_eq_true rfl) (by decide) dX2_walk_29 (fun w_33 h_34 => ?_)
      subst h_34
      refine j_perm (ws' := [(h, oC 2 [.ref hh, .ref hm, vI (ms_w (layS (ruleS (cw Cu) num (drawS S)) (giftP P) (drawS S))), vI (ms_l (layS (ruleS (cw Cu) num (drawS S)) (giftP P) (drawS S))), vI (ms_s (layS (ruleS (cw Cu) num (drawS S)) (giftP P) (drawS S))), vI (ms_a (layS (ruleS (cw Cu) num (drawS S)) (giftP P) (drawS S))), vI (ms_t (layS (ruleS (cw Cu) num (drawS S)) (giftP P) (drawS S))), vI (ms_p (layS (ruleS (cw Cu) num (drawS S)) (giftP P) (drawS S)))]), (hh, aI (Y 0) 7 (ms_h (layS (ruleS (cw Cu) num (drawS S)) (giftP P) (drawS S)))), (hm, aI (Y 0) 420 (ms_m (layS (ruleS (cw Cu) num (drawS S)) (giftP P) (drawS S))))]) [0, 1, 2] rfl rfl ?_
      refine j_aload_n (pc := 32) C 0 1 rfl rfl dX2_walk_32 ?_
      refine j_iload (pc := 33) C 0 rfl dX2_walk_33 ?_
      refine j_put (pc := 35) (ws' := [(h, oC 2 [.ref hh, .ref hm, vI (ms_w (layS (ruleS (cw Cu) num (drawS S)) (giftP P) (drawS S))), vI (ruleS (cw Cu) num (drawS S)), vI (ms_s (layS (ruleS (cw Cu) num (drawS S)) (giftP P) (drawS S))), vI (ms_a (layS (ruleS (cw Cu) num (drawS S)) (giftP P) (drawS S))), vI (ms_t (layS (ruleS (cw Cu) num (drawS S)) (giftP P) (drawS S))), vI (ms_p (layS (ruleS (cw Cu) num (drawS S)) (giftP P) (drawS S)))]), (hh, aI (Y 0) 7 (ms_h (layS (ruleS (cw Cu) num (drawS S)) (giftP P) (drawS S)))), (hm, aI (Y 0) 420 (ms_m (layS (ruleS (cw Cu) num (drawS S)) (giftP P) (drawS S))))]) C 0 rfl rfl fX2_walk_X2 tyX2_ok nmX2 3 (by decide) (List.mem_of_getElem? (i := 3) rfl) (Or.inl rfl) rfl rfl rfl rfl (Nat.le_of_ble_eq_true rfl) rfl dX2_walk_35 ?_
      refine j_goto (pc := 38) C 93 rfl dX2_walk_38 ?_
      exact Rt _ _ _ _ _ (by decide) (by decide) (by unfold walkS; first | (rw [if_pos (by omega)]; first | done | rfl) | (rw [if_neg (by omega), if_pos (by omega)]; first | done | rfl) | (rw [if_neg (by omega), if_neg (by omega)]; first | done | rfl)) dX2_walk_93
    rcases (show pk P = 0 ∨ pk P = 1 ∨ pk P = 2 ∨ pk P = 3 by have := hP.1; omega) with h_35 | h_35 | h_35 | h_35
    · have hpm := hp
      rw [pC_0 h_35] at hpm
      refine j_callVi (pc := 26) (As := []) (na := 0) (st := [vI (ruleS (cw Cu) num (drawS S)), .ref h]) C [] [0, 1, 2] (wr := [(h, oC 2 [.ref hh, .ref hm, vI (ms_w (drawS S)), vI (ms_l (drawS S)), vI (ms_s (drawS S)), vI (ms_a (drawS S)), vI (ms_t (drawS S)), vI (ms_p (drawS S))]), (hh, aI (Y 0) 7 (ms_h (drawS S))), (hm, aI (Y 0) 420 (ms_m (drawS S)))]) (fun l => c_X5_gift l D Y _ a  ) rfl rfl rfl rfl (by decide) rfl (Or.inr (List.mem_append_right _ hpm)) rfl gX2_walk_X5_gift ⟨rfl, by decide +kernel⟩ (by decide) rfl rfl (Nat.le_of_ble_eq_true rfl) (by decide) dX2_walk_26 (fun e w1 hq => ?_)
      obtain ⟨rfl, rfl⟩ := hq
      refine j_perm (ws' := [(h, oC 2 [.ref hh, .ref hm, vI (ms_w (drawS S)), vI (ms_l (drawS S)), vI (ms_s (drawS S)), vI (ms_a (drawS S)), vI (ms_t (drawS S)), vI (ms_p (drawS S))]), (hh, aI (Y 0) 7 (ms_h (drawS S))), (hm, aI (Y 0) 420 (ms_m (drawS S)))]) [0, 1, 2] rfl rfl ?_
      exact j_st rfl rfl (by unfold giftP; simp [h_35]) kk_31
    · have hpm := hp
      rw [pC_1 h_35] at hpm
      refine j_callOi (pc := 26) (As := []) (na := 0) (st := [vI (ruleS (cw Cu) num (drawS S)), .ref h]) C [] [0, 1, 2] (wr := [(h, oC 2 [.ref hh, .ref hm, vI (ms_w (drawS S)), vI (ms_l (drawS S)), vI (ms_s (drawS S)), vI (ms_a (drawS S)), vI (ms_t (drawS S)), vI (ms_p (drawS S))]), (hh, aI (Y 0) 7 (ms_h (drawS S))), (hm, aI (Y 0) 420 (ms_m (drawS S)))]) (fun l => c_X6_gift l D Y _ a P (List.mem_append_right _ hp) hP) rfl rfl rfl rfl (by decide) rfl (Or.inr (List.mem_append_right _ hpm)) rfl gX2_walk_X6_gift_u90X6 (List.mem_of_getElem? (i := 33) rfl) (by decide +kernel) (by decide) rfl rfl (Nat.le_of_ble_eq_true rfl) (by decide) dX2_walk_26 (fun e w1 hq => ?_)
      obtain ⟨rfl, rfl⟩ := hq
      refine j_perm (ws' := [(h, oC 2 [.ref hh, .ref hm, vI (ms_w (drawS S)), vI (ms_l (drawS S)), vI (ms_s (drawS S)), vI (ms_a (drawS S)), vI (ms_t (drawS S)), vI (ms_p (drawS S))]), (hh, aI (Y 0) 7 (ms_h (drawS S))), (hm, aI (Y 0) 420 (ms_m (drawS S)))]) [0, 1, 2] rfl rfl ?_
      exact j_st rfl rfl (by unfold giftP; simp [h_35]) kk_31
    · have hpm := hp
      rw [pC_2 h_35] at hpm
      refine j_callUi (pc := 26) (As := []) (na := 0) (st := [vI (ruleS (cw Cu) num (drawS S)), .ref h]) C [] [0, 1, 2] (wr := [(h, oC 2 [.ref hh, .ref hm, vI (ms_w (drawS S)), vI (ms_l (drawS S)), vI (ms_s (drawS S)), vI (ms_a (drawS S)), vI (ms_t (drawS S)), vI (ms_p (drawS S))]), (hh, aI (Y 0) 7 (ms_h (drawS S))), (hm, aI (Y 0) 420 (ms_m (drawS S)))]) (fun l => c_X5_gift l D Y _ a  ) rfl rfl rfl rfl (by decide) rfl (Or.inr (List.mem_append_right _ hpm)) rfl gX2_walk_X5_gift_u90X7 rfl (by decide +kernel) (by decide) rfl rfl (Nat.le_of_ble_eq_true rfl) (by decide) dX2_walk_26 (fun e w1 hq => ?_)
      obtain ⟨rfl, rfl⟩ := hq
      refine j_perm (ws' := [(h, oC 2 [.ref hh, .ref hm, vI (ms_w (drawS S)), vI (ms_l (drawS S)), vI (ms_s (drawS S)), vI (ms_a (drawS S)), vI (ms_t (drawS S)), vI (ms_p (drawS S))]), (hh, aI (Y 0) 7 (ms_h (drawS S))), (hm, aI (Y 0) 420 (ms_m (drawS S)))]) [0, 1, 2] rfl rfl ?_
      exact j_st rfl rfl (by unfold giftP; simp [h_35]) kk_31
    · have hpm := hp
      rw [pC_3 h_35] at hpm
      refine j_callUi (pc := 26) (As := []) (na := 0) (st := [vI (ruleS (cw Cu) num (drawS S)), .ref h]) C [] [0, 1, 2] (wr := [(h, oC 2 [.ref hh, .ref hm, vI (ms_w (drawS S)), vI (ms_l (drawS S)), vI (ms_s (drawS S)), vI (ms_a (drawS S)), vI (ms_t (drawS S)), vI (ms_p (drawS S))]), (hh, aI (Y 0) 7 (ms_h (drawS S))), (hm, aI (Y 0) 420 (ms_m (drawS S)))]) (fun l => c_X5_gift l D Y _ a  ) rfl rfl rfl rfl (by decide) rfl (Or.inr (List.mem_append_right _ hpm)) rfl gX2_walk_X5_gift_u90X0 rfl (by decide +kernel) (by decide) rfl rfl (Nat.le_of_ble_eq_true rfl) (by decide) dX2_walk_26 (fun e w1 hq => ?_)
      obtain ⟨rfl, rfl⟩ := hq
      refine j_perm (ws' := [(h, oC 2 [.ref hh, .ref hm, vI (ms_w (drawS S)), vI (ms_l (drawS S)), vI (ms_s (drawS S)), vI (ms_a (drawS S)), vI (ms_t (drawS S)), vI (ms_p (drawS S))]), (hh, aI (Y 0) 7 (ms_h (drawS S))), (hm, aI (Y 0) 420 (ms_m (drawS S)))]) [0, 1, 2] rfl rfl ?_
      exact j_st rfl rfl (by unfold giftP; simp [h_35]) kk_31

theorem fX2_goOneWeek_X0 : ∀ w ∈ u_ws RX0 TX0 4, w ∈ wsX2_goOneWeek := j_words [127, 128, 129, 130] (by decide +kernel)
theorem fX2_goOneWeek_X2 : ∀ w ∈ u_ws RX2 TX2 8, w ∈ wsX2_goOneWeek := j_words [119, 120, 121, 122, 123, 124, 125, 126] (by decide +kernel)
theorem fX2_goOneWeek_X5 : ∀ w ∈ u_ws RX5 TX5 4, w ∈ wsX2_goOneWeek := j_words [131, 132, 133, 134] (by decide +kernel)
theorem fX2_goOneWeek_X6 : ∀ w ∈ u_ws RX6 TX6 4, w ∈ wsX2_goOneWeek := j_words [135, 136, 137, 138] (by decide +kernel)
theorem fX2_goOneWeek_X7 : ∀ w ∈ u_ws RX7 TX7 4, w ∈ wsX2_goOneWeek := j_words [139, 140, 141, 142] (by decide +kernel)
set_option maxHeartbeats 4000000 in
set_option maxRecDepth 100000 in
theorem c_goOneWeek (l : Launch) (D : va_G) (Y : Nat → ClassId) (RO : va_W) (h : Nat) (hh : Nat) (hm : Nat) (S : MS) (ca : Nat) (Cu : CT) (pa : Nat) (pad : Int → Nat) (np : Int) (ps : Int → PT) (hc : (ca, oC 1 [vI (cw Cu), vI (cz Cu), vI (ce Cu)]) ∈ RO) (hpa : (pa, aQ (Y 3) 6 (orow np pad)) ∈ RO) (hpc : ∀ i, 0 ≤ i ∧ i < np → pC (pad i) (ps i) ∈ RO) (hS : okS S) (hC : okC Cu) (hnp : 0 ≤ np ∧ np ≤ 6) (hps : ∀ i, 0 ≤ i ∧ i < np → okP (ps i)) (hw : ms_w S ≤ 2147482000) : jMv l yX2_goOneWeek wsX2_goOneWeek { frames := 4, cells := 0, slots := 0, locals := 91 } D Y RO [.ref h, .ref ca, .ref pa] [(h, oC 2 [.ref hh, .ref hm, vI (ms_w S), vI (ms_l S), vI (ms_s S), vI (ms_a S), vI (ms_t S), vI (ms_p S)]), (hh, aI (Y 0) 7 (ms_h S)), (hm, aI (Y 0) 420 (ms_m S))] (fun w1 => w1 = [(h, oC 2 [.ref hh, .ref hm, vI (ms_w (goS Cu ps np S)), vI (ms_l (goS Cu ps np S)), vI (ms_s (goS Cu ps np S)), vI (ms_a (goS Cu ps np S)), vI (ms_t (goS Cu ps np S)), vI (ms_p (goS Cu ps np S))]), (hh, aI (Y 0) 7 (ms_h (goS Cu ps np S))), (hm, aI (Y 0) 420 (ms_m (goS Cu ps np S)))]) := by
  refine j_ofv RX2 rfl rfl rfl (Nat.le_of_ble_eq_true rfl) (fun X C Rt hI => ?_)
  have hW0 := hS.w
  refine j_aload_n (pc := 0) C 0 0 rfl rfl dX2_goOneWeek_0 ?_
  refine j_dup (pc := 1) C rfl dX2_goOneWeek_1 ?_
  refine j_get (pc := 2) C (Or.inl (List.mem_of_getElem? (i := 0) rfl)) rfl fX2_goOneWeek_X2 2 (by decide) (List.mem_of_getElem? (i := 1) rfl) (Or.inl rfl) rfl dX2_goOneWeek_2 ?_
  refine j_iconst (pc := 5) C dX2_goOneWeek_5 ?_
  refine j_iadd (pc := 6) C dX2_goOneWeek_6 ?_
  refine j_put (pc := 7) (ws' := [(h, oC 2 [.ref hh, .ref hm, vI (ms_w S + 1), vI (ms_l S), vI (ms_s S), vI (ms_a S), vI (ms_t S), vI (ms_p S)]), (hh, aI (Y 0) 7 (ms_h S)), (hm, aI (Y 0) 420 (ms_m S))]) C 0 rfl rfl fX2_goOneWeek_X2 tyX2_ok nmX2 2 (by decide) (List.mem_of_getElem? (i := 1) rfl) (Or.inl rfl) rfl rfl rfl rfl (Nat.le_of_ble_eq_true rfl) rfl dX2_goOneWeek_7 ?_
  refine j_iconst (pc := 10) C dX2_goOneWeek_10 ?_
  refine j_istore_n (pc := 11) (lc' := [(3, vI 0), (0, .ref h), (1, .ref ca), (2, .ref pa)]) C 3 rfl (by decide) rfl dX2_goOneWeek_11 ?_
  have hL12 : ∀ (N12 : Nat) (i : Int) (T : MS), ((np - i).toNat) < N12 → (0 ≤ i ∧ i ≤ np) → (T = fo (fun p T => parS Cu (ps p) p (pw (ps p)) T) i (setW S (ms_w S + 1))) → (okS T ∧ ms_w T = ms_w S + 1) → jW X 6 0 0 [(h, oC 2 [.ref hh, .ref hm, vI (ms_w T), vI (ms_l T), vI (ms_s T), vI (ms_a T), vI (ms_t T), vI (ms_p T)]), (hh, aI (Y 0) 7 (ms_h T)), (hm, aI (Y 0) 420 (ms_m T))] [(0, .ref h), (1, .ref ca), (2, .ref pa), (3, vI i)] 12 [] := by
    intro N12
    induction N12 with
    | zero => intro i T hm12 i12_0 i12_1 i12_2; omega
    | succ N12 ih12 =>
      intro i T hm12 i12_0 i12_1 i12_2
      refine j_iload_n (pc := 12) C 3 3 rfl rfl dX2_goOneWeek_12 ?_
      refine j_aload_n (pc := 13) C 2 2 rfl rfl dX2_goOneWeek_13 ?_
      refine j_alenP (pc := 14) C (Or.inr hpa) rfl dX2_goOneWeek_14 ?_
      refine j_icmp_ge (pc := 15) C 64 rfl (by omega) dX2_goOneWeek_15 (fun h_1p15 => ?_) (fun h_1p15 => ?_)
      · skip
        refine j_aload_n (pc := 64) C 1 1 rfl rfl dX2_goOneWeek_64 ?_
        refine j_aload_n (pc := 65) C 0 0 rfl rfl dX2_goOneWeek_65 ?_
        refine j_get (pc := 66) C (Or.inl (List.mem_of_getElem? (i := 0) rfl)) rfl fX2_goOneWeek_X2 2 (by decide) (List.mem_of_getElem? (i := 1) rfl) (Or.inl rfl) rfl dX2_goOneWeek_66 ?_
        refine j_callVi (pc := 69) (As := [vI (ms_w T)]) (na := 1) (st := []) C [] [0, 1, 2] (wr := [(h, oC 2 [.ref hh, .ref hm, vI (ms_w T), vI (ms_l T), vI (ms_s T), vI (ms_a T), vI (ms_t T), vI (ms_p T)]), (hh, aI (Y 0) 7 (ms_h T)), (hm, aI (Y 0) 420 (ms_m T))]) (fun l => c_floodsIn l D Y _ ca Cu (ms_w T) (List.mem_append_right _ hc) (by first | assumption | omega) (by omega)) rfl rfl rfl rfl (by decide) rfl (Or.inr (List.mem_append_right _ hc)) rfl gX2_goOneWeek_X1_floodsIn ⟨rfl, by decide +kernel⟩ (by decide) rfl rfl (Nat.le_of_ble_eq_true rfl) (by decide) dX2_goOneWeek_69 (fun e_2 w_3 h_4 => ?_)
        obtain ⟨rfl, rfl⟩ := h_4
        refine j_perm (ws' := [(h, oC 2 [.ref hh, .ref hm, vI (ms_w T), vI (ms_l T), vI (ms_s T), vI (ms_a T), vI (ms_t T), vI (ms_p T)]), (hh, aI (Y 0) 7 (ms_h T)), (hm, aI (Y 0) 420 (ms_m T))]) [0, 1, 2] rfl rfl ?_
        refine j_if_eqb (pc := 72) C 79 rfl dX2_goOneWeek_72 (fun h_5p72 => ?_) (fun h_5p72 => ?_)
        · skip
          exact Rt _ _ _ _ _ (by decide) (by decide) (by unfold goS allS; rw [show np = i by omega, ← i12_1]; unfold floodS; first | (rw [if_pos (by assumption)]; first | done | rfl) | (rw [if_neg (by assumption)]; first | done | rfl)) dX2_goOneWeek_79
        · skip
          refine j_aload_n (pc := 75) C 0 0 rfl rfl dX2_goOneWeek_75 ?_
          refine j_callVv (pc := 76) (As := []) (na := 0) (st := []) C [0, 1, 2] [] (wr := []) (fun l => c_flood l D Y _ h hh hm T i12_2.1) rfl rfl rfl rfl (by decide) rfl (Or.inl (List.mem_of_getElem? (i := 0) rfl)) rfl gX2_goOneWeek_X2_flood ⟨rfl, by decide +kernel⟩ (by decide) rfl rfl (Nat.le_of_ble_eq_true rfl) (by decide) dX2_goOneWeek_76 (fun w_7 h_8 => ?_)
          subst h_8
          refine j_perm (ws' := [(h, oC 2 [.ref hh, .ref hm, vI (ms_w (drownS T)), vI (ms_l (drownS T)), vI (ms_s (drownS T)), vI (ms_a (drownS T)), vI (ms_t (drownS T)), vI (ms_p (drownS T))]), (hh, aI (Y 0) 7 (ms_h (drownS T))), (hm, aI (Y 0) 420 (ms_m (drownS T)))]) [0, 1, 2] rfl rfl ?_
          exact Rt _ _ _ _ _ (by decide) (by decide) (by unfold goS allS; rw [show np = i by omega, ← i12_1]; unfold floodS; first | (rw [if_pos (by assumption)]; first | done | rfl) | (rw [if_neg (by assumption)]; first | done | rfl)) dX2_goOneWeek_79
      · skip
        refine j_aload_n (pc := 18) C 2 2 rfl rfl dX2_goOneWeek_18 ?_
        refine j_iload_n (pc := 19) C 3 3 rfl rfl dX2_goOneWeek_19 ?_
        refine j_aaldP (pc := 20) C (Or.inr hpa) rfl (by omega) (by decide) dX2_goOneWeek_20 ?_
        by_cases hq_9 : i < np
        · rw [show orow np pad i = some (pad i) from orow_in ⟨by omega, hq_9⟩]
          have hp9 := hpc i ⟨by omega, hq_9⟩
          have hP9 := hps i ⟨by omega, hq_9⟩
          have hw9 := hP9.2.2.2.2.1
          refine j_astore (pc := 21) (lc' := [(4, .ref (pad i)), (0, .ref h), (1, .ref ca), (2, .ref pa), (3, vI i)]) C (by decide) rfl dX2_goOneWeek_21 ?_
          refine j_aload (pc := 23) C 0 rfl dX2_goOneWeek_23 ?_
          refine j_ifnonnull (pc := 25) C 31 rfl dX2_goOneWeek_25 ?_
          refine j_iconst (pc := 31) C dX2_goOneWeek_31 ?_
          refine j_istore (pc := 32) (lc' := [(5, vI 0), (4, .ref (pad i)), (0, .ref h), (1, .ref ca), (2, .ref pa), (3, vI i)]) C (by decide) rfl dX2_goOneWeek_32 ?_
          have hL34 : ∀ (N34 : Nat) (j : Int) (U : MS), ((pw (ps i) - j).toNat) < N34 → (0 ≤ j ∧ j ≤ pw (ps i)) → (U = parS Cu (ps i) i j T) → (okS U ∧ ms_w U = ms_w S + 1) → jW X 6 0 0 [(h, oC 2 [.ref hh, .ref hm, vI (ms_w U), vI (ms_l U), vI (ms_s U), vI (ms_a U), vI (ms_t U), vI (ms_p U)]), (hh, aI (Y 0) 7 (ms_h U)), (hm, aI (Y 0) 420 (ms_m U))] [(0, .ref h), (1, .ref ca), (2, .ref pa), (3, vI i), (4, .ref (pad i)), (5, vI j)] 34 [] := by
            intro N34
            induction N34 with
            | zero => intro j U hm34 i34_0 i34_1 i34_2; omega
            | succ N34 ih34 =>
              intro j U hm34 i34_0 i34_1 i34_2
              refine j_iload (pc := 34) C 5 rfl dX2_goOneWeek_34 ?_
              refine j_aload (pc := 36) C 4 rfl dX2_goOneWeek_36 ?_
              refine j_getP (pc := 38) C (Or.inr hp9) hP9.1 fX2_goOneWeek_X5 fX2_goOneWeek_X6 fX2_goOneWeek_X7 fX2_goOneWeek_X0 1 (by decide) (List.mem_of_getElem? (i := 2) rfl) (Or.inl rfl) rfl dX2_goOneWeek_38 ?_
              refine j_icmp_ge (pc := 41) C 58 rfl (by omega) dX2_goOneWeek_41 (fun h_10p41 => ?_) (fun h_10p41 => ?_)
              · skip
                refine j_iinc (pc := 58) (lc' := [(3, vI (i + 1)), (0, .ref h), (1, .ref ca), (2, .ref pa), (4, .ref (pad i)), (5, vI j)]) C 3 rfl (by decide) rfl dX2_goOneWeek_58 ?_
                refine j_goto (pc := 61) C 12 rfl dX2_goOneWeek_61 ?_
                refine j_locals (lc' := [(0, .ref h), (1, .ref ca), (2, .ref pa), (3, vI (i + 1))]) [1, 2, 3, 0] rfl ?_
                exact ih12 (i + 1) U (by omega) (by omega) (by rw [fo_succ _ (n := i) (by omega), ← i12_1, i34_1, show j = pw (ps i) by omega]) i34_2
              · skip
                refine j_aload_n (pc := 44) C 0 0 rfl rfl dX2_goOneWeek_44 ?_
                refine j_aload_n (pc := 45) C 1 1 rfl rfl dX2_goOneWeek_45 ?_
                refine j_aload (pc := 46) C 4 rfl dX2_goOneWeek_46 ?_
                refine j_iload_n (pc := 48) C 3 3 rfl rfl dX2_goOneWeek_48 ?_
                refine j_callVv (pc := 49) (As := [.ref ca, .ref (pad i), vI i]) (na := 3) (st := []) C [0, 1, 2] [] (wr := []) (fun l => c_walk l D Y _ h hh hm U ca Cu (pad i) (ps i) i (List.mem_append_right _ hc) (List.mem_append_right _ hp9) i34_2.1 (by first | assumption | omega) (by first | assumption | omega) (by omega) (by omega)) rfl rfl rfl rfl (by decide) rfl (Or.inl (List.mem_of_getElem? (i := 0) rfl)) rfl gX2_goOneWeek_X2_walk ⟨rfl, by decide +kernel⟩ (by decide) rfl rfl (Nat.le_of_ble_eq_true rfl) (by decide) dX2_goOneWeek_49 (fun w_12 h_13 => ?_)
                subst h_13
                refine j_perm (ws' := [(h, oC 2 [.ref hh, .ref hm, vI (ms_w (walkS Cu (ps i) i U)), vI (ms_l (walkS Cu (ps i) i U)), vI (ms_s (walkS Cu (ps i) i U)), vI (ms_a (walkS Cu (ps i) i U)), vI (ms_t (walkS Cu (ps i) i U)), vI (ms_p (walkS Cu (ps i) i U))]), (hh, aI (Y 0) 7 (ms_h (walkS Cu (ps i) i U))), (hm, aI (Y 0) 420 (ms_m (walkS Cu (ps i) i U)))]) [0, 1, 2] rfl rfl ?_
                refine j_iinc (pc := 52) (lc' := [(5, vI (j + 1)), (0, .ref h), (1, .ref ca), (2, .ref pa), (3, vI i), (4, .ref (pad i))]) C 5 rfl (by decide) rfl dX2_goOneWeek_52 ?_
                refine j_goto (pc := 55) C 34 rfl dX2_goOneWeek_55 ?_
                refine j_locals (lc' := [(0, .ref h), (1, .ref ca), (2, .ref pa), (3, vI i), (4, .ref (pad i)), (5, vI (j + 1))]) [1, 2, 3, 4, 5, 0] rfl ?_
                exact ih34 (j + 1) (walkS Cu (ps i) i U) (by omega) (by omega) (by unfold parS; rw [fo_succ _ (n := j) (by omega)]; unfold parS at i34_1; rw [← i34_1]) (by have := okS_walk (P := ps i) (num := i) i34_2.1 hC (by assumption) (by omega); exact ⟨this.1, this.2.trans i34_2.2⟩)
          refine j_locals (lc' := [(0, .ref h), (1, .ref ca), (2, .ref pa), (3, vI i), (4, .ref (pad i)), (5, vI 0)]) [2, 3, 4, 5, 1, 0] rfl ?_
          exact hL34 _ 0 T (Nat.lt_succ_self _) (by omega) rfl i12_2
        · rw [show orow np pad i = none from orow_out (by omega)]
          refine j_astoreN (pc := 21) (lc' := [(4, .null), (0, .ref h), (1, .ref ca), (2, .ref pa), (3, vI i)]) C (by decide) rfl dX2_goOneWeek_21 ?_
          refine j_aloadN (pc := 23) C 0 rfl dX2_goOneWeek_23 ?_
          refine j_ifnonnullN (pc := 25) C dX2_goOneWeek_25 ?_
          refine j_goto (pc := 28) C 64 rfl dX2_goOneWeek_28 ?_
          refine j_aload_n (pc := 64) C 1 2 rfl rfl dX2_goOneWeek_64 ?_
          refine j_aload_n (pc := 65) C 0 1 rfl rfl dX2_goOneWeek_65 ?_
          refine j_get (pc := 66) C (Or.inl (List.mem_of_getElem? (i := 0) rfl)) rfl fX2_goOneWeek_X2 2 (by decide) (List.mem_of_getElem? (i := 1) rfl) (Or.inl rfl) rfl dX2_goOneWeek_66 ?_
          refine j_callVi (pc := 69) (As := [vI (ms_w T)]) (na := 1) (st := []) C [] [0, 1, 2] (wr := [(h, oC 2 [.ref hh, .ref hm, vI (ms_w T), vI (ms_l T), vI (ms_s T), vI (ms_a T), vI (ms_t T), vI (ms_p T)]), (hh, aI (Y 0) 7 (ms_h T)), (hm, aI (Y 0) 420 (ms_m T))]) (fun l => c_floodsIn l D Y _ ca Cu (ms_w T) (List.mem_append_right _ hc) (by first | assumption | omega) (by omega)) rfl rfl rfl rfl (by decide) rfl (Or.inr (List.mem_append_right _ hc)) rfl gX2_goOneWeek_X1_floodsIn ⟨rfl, by decide +kernel⟩ (by decide) rfl rfl (Nat.le_of_ble_eq_true rfl) (by decide) dX2_goOneWeek_69 (fun e_14 w_15 h_16 => ?_)
          obtain ⟨rfl, rfl⟩ := h_16
          refine j_perm (ws' := [(h, oC 2 [.ref hh, .ref hm, vI (ms_w T), vI (ms_l T), vI (ms_s T), vI (ms_a T), vI (ms_t T), vI (ms_p T)]), (hh, aI (Y 0) 7 (ms_h T)), (hm, aI (Y 0) 420 (ms_m T))]) [0, 1, 2] rfl rfl ?_
          refine j_if_eqb (pc := 72) C 79 rfl dX2_goOneWeek_72 (fun h_17p72 => ?_) (fun h_17p72 => ?_)
          · skip
            exact Rt _ _ _ _ _ (by decide) (by decide) (by unfold goS allS; rw [show np = i by omega, ← i12_1]; unfold floodS; first | (rw [if_pos (by assumption)]; first | done | rfl) | (rw [if_neg (by assumption)]; first | done | rfl)) dX2_goOneWeek_79
          · skip
            refine j_aload_n (pc := 75) C 0 1 rfl rfl dX2_goOneWeek_75 ?_
            refine j_callVv (pc := 76) (As := []) (na := 0) (st := []) C [0, 1, 2] [] (wr := []) (fun l => c_flood l D Y _ h hh hm T i12_2.1) rfl rfl rfl rfl (by decide) rfl (Or.inl (List.mem_of_getElem? (i := 0) rfl)) rfl gX2_goOneWeek_X2_flood ⟨rfl, by decide +kernel⟩ (by decide) rfl rfl (Nat.le_of_ble_eq_true rfl) (by decide) dX2_goOneWeek_76 (fun w_19 h_20 => ?_)
            subst h_20
            refine j_perm (ws' := [(h, oC 2 [.ref hh, .ref hm, vI (ms_w (drownS T)), vI (ms_l (drownS T)), vI (ms_s (drownS T)), vI (ms_a (drownS T)), vI (ms_t (drownS T)), vI (ms_p (drownS T))]), (hh, aI (Y 0) 7 (ms_h (drownS T))), (hm, aI (Y 0) 420 (ms_m (drownS T)))]) [0, 1, 2] rfl rfl ?_
            exact Rt _ _ _ _ _ (by decide) (by decide) (by unfold goS allS; rw [show np = i by omega, ← i12_1]; unfold floodS; first | (rw [if_pos (by assumption)]; first | done | rfl) | (rw [if_neg (by assumption)]; first | done | rfl)) dX2_goOneWeek_79
  refine j_locals (lc' := [(0, .ref h), (1, .ref ca), (2, .ref pa), (3, vI 0)]) [1, 2, 3, 0] rfl ?_
  exact hL12 _ 0 (ms_h S, ms_m S, (ms_w S + 1), ms_l S, ms_s S, ms_a S, ms_t S, ms_p S) (Nat.lt_succ_self _) (by omega) rfl ⟨okS_W hS, rfl⟩

theorem fX2_become_X2 : ∀ w ∈ u_ws RX2 TX2 8, w ∈ wsX2_become := j_words [13, 14, 15, 16, 17, 18, 19, 20] (by decide +kernel)
set_option maxHeartbeats 4000000 in
set_option maxRecDepth 100000 in
theorem c_become (l : Launch) (D : va_G) (Y : Nat → ClassId) (RO : va_W) (h : Nat) (hh : Nat) (hm : Nat) (S : MS) (g : Nat) (gh : Nat) (gm : Nat) (T : MS)   : jMv l yX2_become wsX2_become { frames := 1, cells := 0, slots := 0, locals := 40 } D Y RO [.ref h, .ref g] [(h, oC 2 [.ref hh, .ref hm, vI (ms_w S), vI (ms_l S), vI (ms_s S), vI (ms_a S), vI (ms_t S), vI (ms_p S)]), (hh, aI (Y 0) 7 (ms_h S)), (hm, aI (Y 0) 420 (ms_m S)), (g, oC 2 [.ref gh, .ref gm, vI (ms_w T), vI (ms_l T), vI (ms_s T), vI (ms_a T), vI (ms_t T), vI (ms_p T)]), (gh, aI (Y 0) 7 (ms_h T)), (gm, aI (Y 0) 420 (ms_m T))] (fun w1 => w1 = [(h, oC 2 [.ref hh, .ref hm, vI (ms_w T), vI (ms_l T), vI (ms_s T), vI (ms_a T), vI (ms_t T), vI (ms_p T)]), (hh, aI (Y 0) 7 (ms_h T)), (hm, aI (Y 0) 420 (ms_m T)), (g, oC 2 [.ref gh, .ref gm, vI (ms_w T), vI (ms_l T), vI (ms_s T), vI (ms_a T), vI (ms_t T), vI (ms_p T)]), (gh, aI (Y 0) 7 (ms_h T)), (gm, aI (Y 0) 420 (ms_m T))]) := by
  refine j_ofv RX2 rfl rfl rfl (Nat.le_of_ble_eq_true rfl) (fun X C Rt hI => ?_)
  refine j_aload_n (pc := 0) C 1 1 rfl rfl dX2_become_0 ?_
  refine j_get (pc := 1) C (Or.inl (List.mem_of_getElem? (i := 3) rfl)) rfl fX2_become_X2 0 (by decide) (List.mem_of_getElem? (i := 1) rfl) (Or.inl rfl) rfl dX2_become_1 ?_
  refine j_iconst (pc := 4) C dX2_become_4 ?_
  refine j_aload_n (pc := 5) C 0 0 rfl rfl dX2_become_5 ?_
  refine j_get (pc := 6) C (Or.inl (List.mem_of_getElem? (i := 0) rfl)) rfl fX2_become_X2 0 (by decide) (List.mem_of_getElem? (i := 1) rfl) (Or.inl rfl) rfl dX2_become_6 ?_
  refine j_iconst (pc := 9) C dX2_become_9 ?_
  refine j_bipush (pc := 10) (w := 7) C rfl dX2_become_10 ?_
  refine j_copy (pc := 12) (ws' := [(h, oC 2 [.ref hh, .ref hm, vI (ms_w S), vI (ms_l S), vI (ms_s S), vI (ms_a S), vI (ms_t S), vI (ms_p S)]), (hh, aI (Y 0) 7 (ms_h T)), (hm, aI (Y 0) 420 (ms_m S)), (g, oC 2 [.ref gh, .ref gm, vI (ms_w T), vI (ms_l T), vI (ms_s T), vI (ms_a T), vI (ms_t T), vI (ms_p T)]), (gh, aI (Y 0) 7 (ms_h T)), (gm, aI (Y 0) 420 (ms_m T))]) (st := []) C 4 1 rfl rfl rfl (by decide) rfl (List.mem_of_getElem? (i := 2) rfl) (List.mem_of_getElem? (i := 3) rfl) (List.mem_of_getElem? (i := 4) rfl) (List.mem_of_getElem? (i := 5) rfl) (by decide) (Nat.le_of_ble_eq_true rfl) rfl dX2_become_12 ?_
  refine j_aload_n (pc := 15) C 1 1 rfl rfl dX2_become_15 ?_
  refine j_get (pc := 16) C (Or.inl (List.mem_of_getElem? (i := 3) rfl)) rfl fX2_become_X2 1 (by decide) (List.mem_of_getElem? (i := 6) rfl) (Or.inl rfl) rfl dX2_become_16 ?_
  refine j_iconst (pc := 19) C dX2_become_19 ?_
  refine j_aload_n (pc := 20) C 0 0 rfl rfl dX2_become_20 ?_
  refine j_get (pc := 21) C (Or.inl (List.mem_of_getElem? (i := 0) rfl)) rfl fX2_become_X2 1 (by decide) (List.mem_of_getElem? (i := 6) rfl) (Or.inl rfl) rfl dX2_become_21 ?_
  refine j_iconst (pc := 24) C dX2_become_24 ?_
  refine j_sipush (pc := 25) (w := 420) C rfl dX2_become_25 ?_
  refine j_copy (pc := 28) (ws' := [(h, oC 2 [.ref hh, .ref hm, vI (ms_w S), vI (ms_l S), vI (ms_s S), vI (ms_a S), vI (ms_t S), vI (ms_p S)]), (hh, aI (Y 0) 7 (ms_h T)), (hm, aI (Y 0) 420 (ms_m T)), (g, oC 2 [.ref gh, .ref gm, vI (ms_w T), vI (ms_l T), vI (ms_s T), vI (ms_a T), vI (ms_t T), vI (ms_p T)]), (gh, aI (Y 0) 7 (ms_h T)), (gm, aI (Y 0) 420 (ms_m T))]) (st := []) C 5 2 rfl rfl rfl (by decide) rfl (List.mem_of_getElem? (i := 2) rfl) (List.mem_of_getElem? (i := 3) rfl) (List.mem_of_getElem? (i := 4) rfl) (List.mem_of_getElem? (i := 5) rfl) (by decide) (Nat.le_of_ble_eq_true rfl) rfl dX2_become_28 ?_
  refine j_aload_n (pc := 31) C 0 0 rfl rfl dX2_become_31 ?_
  refine j_aload_n (pc := 32) C 1 1 rfl rfl dX2_become_32 ?_
  refine j_get (pc := 33) C (Or.inl (List.mem_of_getElem? (i := 3) rfl)) rfl fX2_become_X2 2 (by decide) (List.mem_of_getElem? (i := 7) rfl) (Or.inl rfl) rfl dX2_become_33 ?_
  refine j_put (pc := 36) (ws' := [(h, oC 2 [.ref hh, .ref hm, vI (ms_w T), vI (ms_l S), vI (ms_s S), vI (ms_a S), vI (ms_t S), vI (ms_p S)]), (hh, aI (Y 0) 7 (ms_h T)), (hm, aI (Y 0) 420 (ms_m T)), (g, oC 2 [.ref gh, .ref gm, vI (ms_w T), vI (ms_l T), vI (ms_s T), vI (ms_a T), vI (ms_t T), vI (ms_p T)]), (gh, aI (Y 0) 7 (ms_h T)), (gm, aI (Y 0) 420 (ms_m T))]) C 0 rfl rfl fX2_become_X2 tyX2_ok nmX2 2 (by decide) (List.mem_of_getElem? (i := 7) rfl) (Or.inl rfl) rfl rfl rfl rfl (Nat.le_of_ble_eq_true rfl) rfl dX2_become_36 ?_
  refine j_aload_n (pc := 39) C 0 0 rfl rfl dX2_become_39 ?_
  refine j_aload_n (pc := 40) C 1 1 rfl rfl dX2_become_40 ?_
  refine j_get (pc := 41) C (Or.inl (List.mem_of_getElem? (i := 3) rfl)) rfl fX2_become_X2 3 (by decide) (List.mem_of_getElem? (i := 8) rfl) (Or.inl rfl) rfl dX2_become_41 ?_
  refine j_put (pc := 44) (ws' := [(h, oC 2 [.ref hh, .ref hm, vI (ms_w T), vI (ms_l T), vI (ms_s S), vI (ms_a S), vI (ms_t S), vI (ms_p S)]), (hh, aI (Y 0) 7 (ms_h T)), (hm, aI (Y 0) 420 (ms_m T)), (g, oC 2 [.ref gh, .ref gm, vI (ms_w T), vI (ms_l T), vI (ms_s T), vI (ms_a T), vI (ms_t T), vI (ms_p T)]), (gh, aI (Y 0) 7 (ms_h T)), (gm, aI (Y 0) 420 (ms_m T))]) C 0 rfl rfl fX2_become_X2 tyX2_ok nmX2 3 (by decide) (List.mem_of_getElem? (i := 8) rfl) (Or.inl rfl) rfl rfl rfl rfl (Nat.le_of_ble_eq_true rfl) rfl dX2_become_44 ?_
  refine j_aload_n (pc := 47) C 0 0 rfl rfl dX2_become_47 ?_
  refine j_aload_n (pc := 48) C 1 1 rfl rfl dX2_become_48 ?_
  refine j_get (pc := 49) C (Or.inl (List.mem_of_getElem? (i := 3) rfl)) rfl fX2_become_X2 4 (by decide) (List.mem_of_getElem? (i := 9) rfl) (Or.inl rfl) rfl dX2_become_49 ?_
  refine j_put (pc := 52) (ws' := [(h, oC 2 [.ref hh, .ref hm, vI (ms_w T), vI (ms_l T), vI (ms_s T), vI (ms_a S), vI (ms_t S), vI (ms_p S)]), (hh, aI (Y 0) 7 (ms_h T)), (hm, aI (Y 0) 420 (ms_m T)), (g, oC 2 [.ref gh, .ref gm, vI (ms_w T), vI (ms_l T), vI (ms_s T), vI (ms_a T), vI (ms_t T), vI (ms_p T)]), (gh, aI (Y 0) 7 (ms_h T)), (gm, aI (Y 0) 420 (ms_m T))]) C 0 rfl rfl fX2_become_X2 tyX2_ok nmX2 4 (by decide) (List.mem_of_getElem? (i := 9) rfl) (Or.inl rfl) rfl rfl rfl rfl (Nat.le_of_ble_eq_true rfl) rfl dX2_become_52 ?_
  refine j_aload_n (pc := 55) C 0 0 rfl rfl dX2_become_55 ?_
  refine j_aload_n (pc := 56) C 1 1 rfl rfl dX2_become_56 ?_
  refine j_get (pc := 57) C (Or.inl (List.mem_of_getElem? (i := 3) rfl)) rfl fX2_become_X2 5 (by decide) (List.mem_of_getElem? (i := 10) rfl) (Or.inl rfl) rfl dX2_become_57 ?_
  refine j_put (pc := 60) (ws' := [(h, oC 2 [.ref hh, .ref hm, vI (ms_w T), vI (ms_l T), vI (ms_s T), vI (ms_a T), vI (ms_t S), vI (ms_p S)]), (hh, aI (Y 0) 7 (ms_h T)), (hm, aI (Y 0) 420 (ms_m T)), (g, oC 2 [.ref gh, .ref gm, vI (ms_w T), vI (ms_l T), vI (ms_s T), vI (ms_a T), vI (ms_t T), vI (ms_p T)]), (gh, aI (Y 0) 7 (ms_h T)), (gm, aI (Y 0) 420 (ms_m T))]) C 0 rfl rfl fX2_become_X2 tyX2_ok nmX2 5 (by decide) (List.mem_of_getElem? (i := 10) rfl) (Or.inl rfl) rfl rfl rfl rfl (Nat.le_of_ble_eq_true rfl) rfl dX2_become_60 ?_
  refine j_aload_n (pc := 63) C 0 0 rfl rfl dX2_become_63 ?_
  refine j_aload_n (pc := 64) C 1 1 rfl rfl dX2_become_64 ?_
  refine j_get (pc := 65) C (Or.inl (List.mem_of_getElem? (i := 3) rfl)) rfl fX2_become_X2 6 (by decide) (List.mem_of_getElem? (i := 11) rfl) (Or.inl rfl) rfl dX2_become_65 ?_
  refine j_put (pc := 68) (ws' := [(h, oC 2 [.ref hh, .ref hm, vI (ms_w T), vI (ms_l T), vI (ms_s T), vI (ms_a T), vI (ms_t T), vI (ms_p S)]), (hh, aI (Y 0) 7 (ms_h T)), (hm, aI (Y 0) 420 (ms_m T)), (g, oC 2 [.ref gh, .ref gm, vI (ms_w T), vI (ms_l T), vI (ms_s T), vI (ms_a T), vI (ms_t T), vI (ms_p T)]), (gh, aI (Y 0) 7 (ms_h T)), (gm, aI (Y 0) 420 (ms_m T))]) C 0 rfl rfl fX2_become_X2 tyX2_ok nmX2 6 (by decide) (List.mem_of_getElem? (i := 11) rfl) (Or.inl rfl) rfl rfl rfl rfl (Nat.le_of_ble_eq_true rfl) rfl dX2_become_68 ?_
  refine j_aload_n (pc := 71) C 0 0 rfl rfl dX2_become_71 ?_
  refine j_aload_n (pc := 72) C 1 1 rfl rfl dX2_become_72 ?_
  refine j_get (pc := 73) C (Or.inl (List.mem_of_getElem? (i := 3) rfl)) rfl fX2_become_X2 7 (by decide) (List.mem_of_getElem? (i := 12) rfl) (Or.inl rfl) rfl dX2_become_73 ?_
  refine j_put (pc := 76) (ws' := [(h, oC 2 [.ref hh, .ref hm, vI (ms_w T), vI (ms_l T), vI (ms_s T), vI (ms_a T), vI (ms_t T), vI (ms_p T)]), (hh, aI (Y 0) 7 (ms_h T)), (hm, aI (Y 0) 420 (ms_m T)), (g, oC 2 [.ref gh, .ref gm, vI (ms_w T), vI (ms_l T), vI (ms_s T), vI (ms_a T), vI (ms_t T), vI (ms_p T)]), (gh, aI (Y 0) 7 (ms_h T)), (gm, aI (Y 0) 420 (ms_m T))]) C 0 rfl rfl fX2_become_X2 tyX2_ok nmX2 7 (by decide) (List.mem_of_getElem? (i := 12) rfl) (Or.inl rfl) rfl rfl rfl rfl (Nat.le_of_ble_eq_true rfl) rfl dX2_become_76 ?_
  exact Rt _ _ _ _ _ (by decide) (by decide) rfl dX2_become_79
end
section
theorem fX9_lay_X2 : ∀ w ∈ u_ws RX2 TX2 8, w ∈ wsX9_lay := j_words [32, 33, 34, 35, 36, 37, 38, 39] (by decide +kernel)
theorem fX9_lay_X9 : ∀ w ∈ u_ws RX9 TX9 11, w ∈ wsX9_lay := j_words [21, 22, 23, 24, 25, 26, 27, 28, 29, 30, 31] (by decide +kernel)
set_option maxHeartbeats 4000000 in
set_option maxRecDepth 100000 in
theorem k_lay (l : Launch) (D : va_G) (Y : Nat → ClassId) (RO : va_W) (k : Nat → Nat) (nc : Int) (np : Int) (ik : Int) (S : MS) (c : Int) (n : Int) (ko : ((k 0), oC 8 [.ref (k 1), .ref (k 2), vI nc, .ref (k 3), vI np, .ref (k 4), .ref (k 7), vI ik, .ref (k 10), .ref (k 13), .ref (k 14)]) ∈ RO) (hS : okS S) (hc : -2147483648 ≤ c ∧ c ≤ 2147483647) (hn : -2147483648 ≤ n ∧ n ≤ 2147483647) : jMi l yX9_lay wsX9_lay { frames := 3, cells := 0, slots := 0, locals := 66 } D Y RO [.ref (k 0), vI c, vI n] [((k 4), oC 2 [.ref (k 5), .ref (k 6), vI (ms_w S), vI (ms_l S), vI (ms_s S), vI (ms_a S), vI (ms_t S), vI (ms_p S)]), ((k 5), aI (Y 0) 7 (ms_h S)), ((k 6), aI (Y 0) 420 (ms_m S))] (fun e w1 => e = rLay c n S ∧ w1 = [((k 4), oC 2 [.ref (k 5), .ref (k 6), vI (ms_w (sLay c n S)), vI (ms_l (sLay c n S)), vI (ms_s (sLay c n S)), vI (ms_a (sLay c n S)), vI (ms_t (sLay c n S)), vI (ms_p (sLay c n S))]), ((k 5), aI (Y 0) 7 (ms_h (sLay c n S))), ((k 6), aI (Y 0) 420 (ms_m (sLay c n S)))]) := by
  refine j_ofi RX9 rfl rfl rfl (Nat.le_of_ble_eq_true rfl) (fun X C Rt => ?_)
  refine j_iload_n (pc := 0) C 1 1 rfl rfl dX9_lay_0 ?_
  refine j_callSi (pc := 1) (As := [vI c]) (na := 1) (st := []) C [] [0, 1, 2] (wr := [((k 4), oC 2 [.ref (k 5), .ref (k 6), vI (ms_w S), vI (ms_l S), vI (ms_s S), vI (ms_a S), vI (ms_t S), vI (ms_p S)]), ((k 5), aI (Y 0) 7 (ms_h S)), ((k 6), aI (Y 0) 420 (ms_m S))]) (fun l => c_isCairn l D Y _ c (by first | assumption | omega)) rfl rfl rfl rfl (by decide) rfl gX9_lay_X9_isCairn (by decide +kernel) (by decide) rfl rfl (Nat.le_of_ble_eq_true rfl) (by decide) dX9_lay_1 (fun e_1 w_2 h_3 => ?_)
  obtain ⟨rfl, rfl⟩ := h_3
  refine j_perm (ws' := [((k 4), oC 2 [.ref (k 5), .ref (k 6), vI (ms_w S), vI (ms_l S), vI (ms_s S), vI (ms_a S), vI (ms_t S), vI (ms_p S)]), ((k 5), aI (Y 0) 7 (ms_h S)), ((k 6), aI (Y 0) 420 (ms_m S))]) [0, 1, 2] rfl rfl ?_
  refine j_if_neb (pc := 4) C 10 rfl dX9_lay_4 (fun h_4p4 => ?_) (fun h_4p4 => ?_)
  · skip
    refine j_iload_n (pc := 10) C 2 2 rfl rfl dX9_lay_10 ?_
    refine j_iconst (pc := 11) C dX9_lay_11 ?_
    refine j_icmp_lt (pc := 12) C 21 rfl (by omega) dX9_lay_12 (fun h_5p12 => ?_) (fun h_5p12 => ?_)
    · skip
      refine j_bipush (pc := 21) (w := (-102)) C rfl dX9_lay_21 ?_
      exact Rt _ _ _ _ _ _ (by decide) (by decide) ⟨by unfold rLay; rw [if_neg (by omega), if_pos (by omega)], by unfold sLay; rw [if_neg (by omega), if_pos (by omega)]; first | done | rfl⟩ dX9_lay_23
    · skip
      refine j_iload_n (pc := 15) C 2 2 rfl rfl dX9_lay_15 ?_
      refine j_bipush (pc := 16) (w := 60) C rfl dX9_lay_16 ?_
      refine j_icmp_le (pc := 18) C 24 rfl (by omega) dX9_lay_18 (fun h_6p18 => ?_) (fun h_6p18 => ?_)
      · skip
        refine j_aload_n (pc := 24) C 0 0 rfl rfl dX9_lay_24 ?_
        refine j_get (pc := 25) C (Or.inr ko) rfl fX9_lay_X9 5 (by decide) (List.mem_of_getElem? (i := 1) rfl) (Or.inl rfl) rfl dX9_lay_25 ?_
        refine j_iload_n (pc := 28) C 1 1 rfl rfl dX9_lay_28 ?_
        refine j_iload_n (pc := 29) C 2 2 rfl rfl dX9_lay_29 ?_
        refine j_callVv (pc := 30) (As := [vI c, vI n]) (na := 2) (st := []) C [0, 1, 2] [] (wr := []) (fun l => c_layNew l D Y _ (k 4) (k 5) (k 6) S c n hS (by first | assumption | omega) (by first | assumption | omega)) rfl rfl rfl rfl (by decide) rfl (Or.inl (List.mem_of_getElem? (i := 0) rfl)) rfl gX9_lay_X2_layNew ⟨rfl, by decide +kernel⟩ (by decide) rfl rfl (Nat.le_of_ble_eq_true rfl) (by decide) dX9_lay_30 (fun w_8 h_9 => ?_)
        subst h_9
        refine j_perm (ws' := [((k 4), oC 2 [.ref (k 5), .ref (k 6), vI (ms_w (layS c n S)), vI (ms_l (layS c n S)), vI (ms_s (layS c n S)), vI (ms_a (layS c n S)), vI (ms_t (layS c n S)), vI (ms_p (layS c n S))]), ((k 5), aI (Y 0) 7 (ms_h (layS c n S))), ((k 6), aI (Y 0) 420 (ms_m (layS c n S)))]) [0, 1, 2] rfl rfl ?_
        refine j_aload_n (pc := 33) C 0 0 rfl rfl dX9_lay_33 ?_
        refine j_get (pc := 34) C (Or.inr ko) rfl fX9_lay_X9 5 (by decide) (List.mem_of_getElem? (i := 1) rfl) (Or.inl rfl) rfl dX9_lay_34 ?_
        refine j_get (pc := 37) C (Or.inl (List.mem_of_getElem? (i := 0) rfl)) rfl fX9_lay_X2 0 (by decide) (List.mem_of_getElem? (i := 2) rfl) (Or.inl rfl) rfl dX9_lay_37 ?_
        refine j_iload_n (pc := 40) C 1 1 rfl rfl dX9_lay_40 ?_
        refine j_iald (pc := 41) C (Or.inl (List.mem_of_getElem? (i := 1) rfl)) rfl (by omega) (by decide) dX9_lay_41 ?_
        exact Rt _ _ _ _ _ _ (by decide) (by decide) ⟨by unfold rLay; rw [if_neg (by omega), if_neg (by omega)], by unfold sLay; rw [if_neg (by omega), if_neg (by omega)]; first | done | rfl⟩ dX9_lay_42
      · skip
        refine j_bipush (pc := 21) (w := (-102)) C rfl dX9_lay_21 ?_
        exact Rt _ _ _ _ _ _ (by decide) (by decide) ⟨by unfold rLay; rw [if_neg (by omega), if_pos (by omega)], by unfold sLay; rw [if_neg (by omega), if_pos (by omega)]; first | done | rfl⟩ dX9_lay_23
  · skip
    refine j_bipush (pc := 7) (w := (-101)) C rfl dX9_lay_7 ?_
    exact Rt _ _ _ _ _ _ (by decide) (by decide) ⟨by unfold rLay; rw [if_pos (by omega)], by unfold sLay; rw [if_pos (by omega)]; first | done | rfl⟩ dX9_lay_9

theorem fX9_take_X2 : ∀ w ∈ u_ws RX2 TX2 8, w ∈ wsX9_take := j_words [29, 30, 31, 32, 33, 34, 35, 36] (by decide +kernel)
theorem fX9_take_X9 : ∀ w ∈ u_ws RX9 TX9 11, w ∈ wsX9_take := j_words [18, 19, 20, 21, 22, 23, 24, 25, 26, 27, 28] (by decide +kernel)
set_option maxHeartbeats 4000000 in
set_option maxRecDepth 100000 in
theorem k_take (l : Launch) (D : va_G) (Y : Nat → ClassId) (RO : va_W) (k : Nat → Nat) (nc : Int) (np : Int) (ik : Int) (S : MS) (c : Int) (n : Int) (ko : ((k 0), oC 8 [.ref (k 1), .ref (k 2), vI nc, .ref (k 3), vI np, .ref (k 4), .ref (k 7), vI ik, .ref (k 10), .ref (k 13), .ref (k 14)]) ∈ RO) (hS : okS S) (hc : -2147483648 ≤ c ∧ c ≤ 2147483647) (hn : -2147483648 ≤ n ∧ n ≤ 2147483647) : jMi l yX9_take wsX9_take { frames := 2, cells := 0, slots := 0, locals := 44 } D Y RO [.ref (k 0), vI c, vI n] [((k 4), oC 2 [.ref (k 5), .ref (k 6), vI (ms_w S), vI (ms_l S), vI (ms_s S), vI (ms_a S), vI (ms_t S), vI (ms_p S)]), ((k 5), aI (Y 0) 7 (ms_h S)), ((k 6), aI (Y 0) 420 (ms_m S))] (fun e w1 => e = rTake c n S ∧ w1 = [((k 4), oC 2 [.ref (k 5), .ref (k 6), vI (ms_w (sTake c n S)), vI (ms_l (sTake c n S)), vI (ms_s (sTake c n S)), vI (ms_a (sTake c n S)), vI (ms_t (sTake c n S)), vI (ms_p (sTake c n S))]), ((k 5), aI (Y 0) 7 (ms_h (sTake c n S))), ((k 6), aI (Y 0) 420 (ms_m (sTake c n S)))]) := by
  refine j_ofi RX9 rfl rfl rfl (Nat.le_of_ble_eq_true rfl) (fun X C Rt => ?_)
  refine j_iload_n (pc := 0) C 1 1 rfl rfl dX9_take_0 ?_
  refine j_callSi (pc := 1) (As := [vI c]) (na := 1) (st := []) C [] [0, 1, 2] (wr := [((k 4), oC 2 [.ref (k 5), .ref (k 6), vI (ms_w S), vI (ms_l S), vI (ms_s S), vI (ms_a S), vI (ms_t S), vI (ms_p S)]), ((k 5), aI (Y 0) 7 (ms_h S)), ((k 6), aI (Y 0) 420 (ms_m S))]) (fun l => c_isCairn l D Y _ c (by first | assumption | omega)) rfl rfl rfl rfl (by decide) rfl gX9_take_X9_isCairn (by decide +kernel) (by decide) rfl rfl (Nat.le_of_ble_eq_true rfl) (by decide) dX9_take_1 (fun e_1 w_2 h_3 => ?_)
  obtain ⟨rfl, rfl⟩ := h_3
  refine j_perm (ws' := [((k 4), oC 2 [.ref (k 5), .ref (k 6), vI (ms_w S), vI (ms_l S), vI (ms_s S), vI (ms_a S), vI (ms_t S), vI (ms_p S)]), ((k 5), aI (Y 0) 7 (ms_h S)), ((k 6), aI (Y 0) 420 (ms_m S))]) [0, 1, 2] rfl rfl ?_
  refine j_if_neb (pc := 4) C 10 rfl dX9_take_4 (fun h_4p4 => ?_) (fun h_4p4 => ?_)
  · skip
    refine j_iload_n (pc := 10) C 2 2 rfl rfl dX9_take_10 ?_
    refine j_iconst (pc := 11) C dX9_take_11 ?_
    refine j_icmp_lt (pc := 12) C 21 rfl (by omega) dX9_take_12 (fun h_5p12 => ?_) (fun h_5p12 => ?_)
    · skip
      refine j_bipush (pc := 21) (w := (-102)) C rfl dX9_take_21 ?_
      exact Rt _ _ _ _ _ _ (by decide) (by decide) ⟨by unfold rTake; rw [if_neg (by omega), if_pos (by omega)], by unfold sTake; rw [if_neg (by omega), if_pos (by omega)]; first | done | rfl⟩ dX9_take_23
    · skip
      refine j_iload_n (pc := 15) C 2 2 rfl rfl dX9_take_15 ?_
      refine j_bipush (pc := 16) (w := 60) C rfl dX9_take_16 ?_
      refine j_icmp_le (pc := 18) C 24 rfl (by omega) dX9_take_18 (fun h_6p18 => ?_) (fun h_6p18 => ?_)
      · skip
        refine j_aload_n (pc := 24) C 0 0 rfl rfl dX9_take_24 ?_
        refine j_get (pc := 25) C (Or.inr ko) rfl fX9_take_X9 5 (by decide) (List.mem_of_getElem? (i := 1) rfl) (Or.inl rfl) rfl dX9_take_25 ?_
        refine j_iload_n (pc := 28) C 1 1 rfl rfl dX9_take_28 ?_
        refine j_iload_n (pc := 29) C 2 2 rfl rfl dX9_take_29 ?_
        refine j_callVv (pc := 30) (As := [vI c, vI n]) (na := 2) (st := []) C [0, 1, 2] [] (wr := []) (fun l => c_takeOff l D Y _ (k 4) (k 5) (k 6) S c n hS (by first | assumption | omega) (by first | assumption | omega)) rfl rfl rfl rfl (by decide) rfl (Or.inl (List.mem_of_getElem? (i := 0) rfl)) rfl gX9_take_X2_takeOff ⟨rfl, by decide +kernel⟩ (by decide) rfl rfl (Nat.le_of_ble_eq_true rfl) (by decide) dX9_take_30 (fun w_8 h_9 => ?_)
        subst h_9
        refine j_perm (ws' := [((k 4), oC 2 [.ref (k 5), .ref (k 6), vI (ms_w (takeS c n S)), vI (ms_l (takeS c n S)), vI (ms_s (takeS c n S)), vI (ms_a (takeS c n S)), vI (ms_t (takeS c n S)), vI (ms_p (takeS c n S))]), ((k 5), aI (Y 0) 7 (ms_h (takeS c n S))), ((k 6), aI (Y 0) 420 (ms_m (takeS c n S)))]) [0, 1, 2] rfl rfl ?_
        refine j_aload_n (pc := 33) C 0 0 rfl rfl dX9_take_33 ?_
        refine j_get (pc := 34) C (Or.inr ko) rfl fX9_take_X9 5 (by decide) (List.mem_of_getElem? (i := 1) rfl) (Or.inl rfl) rfl dX9_take_34 ?_
        refine j_get (pc := 37) C (Or.inl (List.mem_of_getElem? (i := 0) rfl)) rfl fX9_take_X2 0 (by decide) (List.mem_of_getElem? (i := 2) rfl) (Or.inl rfl) rfl dX9_take_37 ?_
        refine j_iload_n (pc := 40) C 1 1 rfl rfl dX9_take_40 ?_
        refine j_iald (pc := 41) C (Or.inl (List.mem_of_getElem? (i := 1) rfl)) rfl (by omega) (by decide) dX9_take_41 ?_
        exact Rt _ _ _ _ _ _ (by decide) (by decide) ⟨by unfold rTake; rw [if_neg (by omega), if_neg (by omega)], by unfold sTake; rw [if_neg (by omega), if_neg (by omega)]; first | done | rfl⟩ dX9_take_42
      · skip
        refine j_bipush (pc := 21) (w := (-102)) C rfl dX9_take_21 ?_
        exact Rt _ _ _ _ _ _ (by decide) (by decide) ⟨by unfold rTake; rw [if_neg (by omega), if_pos (by omega)], by unfold sTake; rw [if_neg (by omega), if_pos (by omega)]; first | done | rfl⟩ dX9_take_23
  · skip
    refine j_bipush (pc := 7) (w := (-101)) C rfl dX9_take_7 ?_
    exact Rt _ _ _ _ _ _ (by decide) (by decide) ⟨by unfold rTake; rw [if_pos (by omega)], by unfold sTake; rw [if_pos (by omega)]; first | done | rfl⟩ dX9_take_9

theorem fX9_height_X2 : ∀ w ∈ u_ws RX2 TX2 8, w ∈ wsX9_height := j_words [18, 19, 20, 21, 22, 23, 24, 25] (by decide +kernel)
theorem fX9_height_X9 : ∀ w ∈ u_ws RX9 TX9 11, w ∈ wsX9_height := j_words [7, 8, 9, 10, 11, 12, 13, 14, 15, 16, 17] (by decide +kernel)
set_option maxHeartbeats 4000000 in
set_option maxRecDepth 100000 in
theorem k_height (l : Launch) (D : va_G) (Y : Nat → ClassId) (RO : va_W) (k : Nat → Nat) (nc : Int) (np : Int) (ik : Int) (S : MS) (c : Int) (ko : ((k 0), oC 8 [.ref (k 1), .ref (k 2), vI nc, .ref (k 3), vI np, .ref (k 4), .ref (k 7), vI ik, .ref (k 10), .ref (k 13), .ref (k 14)]) ∈ RO) (n0 : ((k 4), oC 2 [.ref (k 5), .ref (k 6), vI (ms_w S), vI (ms_l S), vI (ms_s S), vI (ms_a S), vI (ms_t S), vI (ms_p S)]) ∈ RO) (n1 : ((k 5), aI (Y 0) 7 (ms_h S)) ∈ RO) (hS : okS S) (hc : -2147483648 ≤ c ∧ c ≤ 2147483647) : jMi l yX9_height wsX9_height { frames := 1, cells := 0, slots := 0, locals := 20 } D Y RO [.ref (k 0), vI c] [] (fun e w1 => e = rHeight c S ∧ w1 = []) := by
  refine j_ofi RX9 rfl rfl rfl (Nat.le_of_ble_eq_true rfl) (fun X C Rt => ?_)
  refine j_iload_n (pc := 0) C 1 1 rfl rfl dX9_height_0 ?_
  refine j_callSi (pc := 1) (As := [vI c]) (na := 1) (st := []) C [] [] (wr := []) (fun l => c_isCairn l D Y _ c (by first | assumption | omega)) rfl rfl rfl rfl (by decide) rfl gX9_height_X9_isCairn (by decide +kernel) (by decide) rfl rfl (Nat.le_of_ble_eq_true rfl) (by decide) dX9_height_1 (fun e_1 w_2 h_3 => ?_)
  obtain ⟨rfl, rfl⟩ := h_3
  refine j_perm (ws' := []) [] rfl rfl ?_
  refine j_if_neb (pc := 4) C 10 rfl dX9_height_4 (fun h_4p4 => ?_) (fun h_4p4 => ?_)
  · skip
    refine j_aload_n (pc := 10) C 0 0 rfl rfl dX9_height_10 ?_
    refine j_get (pc := 11) C (Or.inr ko) rfl fX9_height_X9 5 (by decide) (List.mem_of_getElem? (i := 1) rfl) (Or.inl rfl) rfl dX9_height_11 ?_
    refine j_get (pc := 14) C (Or.inr n0) rfl fX9_height_X2 0 (by decide) (List.mem_of_getElem? (i := 2) rfl) (Or.inl rfl) rfl dX9_height_14 ?_
    refine j_iload_n (pc := 17) C 1 1 rfl rfl dX9_height_17 ?_
    refine j_iald (pc := 18) C (Or.inr n1) rfl (by omega) (by decide) dX9_height_18 ?_
    exact Rt _ _ _ _ _ _ (by decide) (by decide) ⟨by unfold rHeight; rw [if_neg (by omega)], rfl⟩ dX9_height_19
  · skip
    refine j_bipush (pc := 7) (w := (-101)) C rfl dX9_height_7 ?_
    exact Rt _ _ _ _ _ _ (by decide) (by decide) ⟨by unfold rHeight; rw [if_pos (by omega)], rfl⟩ dX9_height_9

theorem fX9_mark_X9 : ∀ w ∈ u_ws RX9 TX9 11, w ∈ wsX9_mark := j_words [13, 14, 15, 16, 17, 18, 19, 20, 21, 22, 23] (by decide +kernel)
set_option maxHeartbeats 4000000 in
set_option maxRecDepth 100000 in
theorem k_mark (l : Launch) (D : va_G) (Y : Nat → ClassId) (RO : va_W) (k : Nat → Nat) (nc : Int) (np : Int) (ik : Int) (S : MS) (c : Int) (d : Int) (ko : ((k 0), oC 8 [.ref (k 1), .ref (k 2), vI nc, .ref (k 3), vI np, .ref (k 4), .ref (k 7), vI ik, .ref (k 10), .ref (k 13), .ref (k 14)]) ∈ RO) (n0 : ((k 4), oC 2 [.ref (k 5), .ref (k 6), vI (ms_w S), vI (ms_l S), vI (ms_s S), vI (ms_a S), vI (ms_t S), vI (ms_p S)]) ∈ RO) (n1 : ((k 5), aI (Y 0) 7 (ms_h S)) ∈ RO) (n2 : ((k 6), aI (Y 0) 420 (ms_m S)) ∈ RO) (hS : okS S) (hc : -2147483648 ≤ c ∧ c ≤ 2147483647) (hd : -2147483648 ≤ d ∧ d ≤ 2147483647) : jMi l yX9_mark wsX9_mark { frames := 2, cells := 0, slots := 0, locals := 43 } D Y RO [.ref (k 0), vI c, vI d] [] (fun e w1 => e = rMark c d S ∧ w1 = []) := by
  refine j_ofi RX9 rfl rfl rfl (Nat.le_of_ble_eq_true rfl) (fun X C Rt => ?_)
  refine j_iload_n (pc := 0) C 1 1 rfl rfl dX9_mark_0 ?_
  refine j_callSi (pc := 1) (As := [vI c]) (na := 1) (st := []) C [] [] (wr := []) (fun l => c_isCairn l D Y _ c (by first | assumption | omega)) rfl rfl rfl rfl (by decide) rfl gX9_mark_X9_isCairn (by decide +kernel) (by decide) rfl rfl (Nat.le_of_ble_eq_true rfl) (by decide) dX9_mark_1 (fun e_1 w_2 h_3 => ?_)
  obtain ⟨rfl, rfl⟩ := h_3
  refine j_perm (ws' := []) [] rfl rfl ?_
  refine j_if_neb (pc := 4) C 10 rfl dX9_mark_4 (fun h_4p4 => ?_) (fun h_4p4 => ?_)
  · skip
    refine j_iload_n (pc := 10) C 2 2 rfl rfl dX9_mark_10 ?_
    refine j_if_lt (pc := 11) C 20 rfl (by omega) dX9_mark_11 (fun h_5p11 => ?_) (fun h_5p11 => ?_)
    · skip
      refine j_bipush (pc := 20) (w := (-102)) C rfl dX9_mark_20 ?_
      exact Rt _ _ _ _ _ _ (by decide) (by decide) ⟨by unfold rMark; rw [if_neg (by omega), if_pos (by omega)], rfl⟩ dX9_mark_22
    · skip
      refine j_iload_n (pc := 14) C 2 2 rfl rfl dX9_mark_14 ?_
      refine j_bipush (pc := 15) (w := 60) C rfl dX9_mark_15 ?_
      refine j_icmp_lt (pc := 17) C 23 rfl (by omega) dX9_mark_17 (fun h_6p17 => ?_) (fun h_6p17 => ?_)
      · skip
        refine j_aload_n (pc := 23) C 0 0 rfl rfl dX9_mark_23 ?_
        refine j_get (pc := 24) C (Or.inr ko) rfl fX9_mark_X9 5 (by decide) (List.mem_of_getElem? (i := 1) rfl) (Or.inl rfl) rfl dX9_mark_24 ?_
        refine j_iload_n (pc := 27) C 1 1 rfl rfl dX9_mark_27 ?_
        refine j_iload_n (pc := 28) C 2 2 rfl rfl dX9_mark_28 ?_
        refine j_callVi (pc := 29) (As := [vI c, vI d]) (na := 2) (st := []) C [] [] (wr := []) (fun l => c_markAt l D Y _ (k 4) (k 5) (k 6) S c d (List.mem_append_right _ n0) (List.mem_append_right _ n1) (List.mem_append_right _ n2) hS (by first | assumption | omega) (by first | assumption | omega)) rfl rfl rfl rfl (by decide) rfl (Or.inr (List.mem_append_right _ n0)) rfl gX9_mark_X2_markAt ⟨rfl, by decide +kernel⟩ (by decide) rfl rfl (Nat.le_of_ble_eq_true rfl) (by decide) dX9_mark_29 (fun e_7 w_8 h_9 => ?_)
        obtain ⟨rfl, rfl⟩ := h_9
        refine j_perm (ws' := []) [] rfl rfl ?_
        exact Rt _ _ _ _ _ _ (by decide) (by decide) ⟨by unfold rMark; rw [if_neg (by omega), if_neg (by omega)], rfl⟩ dX9_mark_32
      · skip
        refine j_bipush (pc := 20) (w := (-102)) C rfl dX9_mark_20 ?_
        exact Rt _ _ _ _ _ _ (by decide) (by decide) ⟨by unfold rMark; rw [if_neg (by omega), if_pos (by omega)], rfl⟩ dX9_mark_22
  · skip
    refine j_bipush (pc := 7) (w := (-101)) C rfl dX9_mark_7 ?_
    exact Rt _ _ _ _ _ _ (by decide) (by decide) ⟨by unfold rMark; rw [if_pos (by omega)], rfl⟩ dX9_mark_9

theorem fX9_dated_X2 : ∀ w ∈ u_ws RX2 TX2 8, w ∈ wsX9_dated := j_words [25, 26, 27, 28, 29, 30, 31, 32] (by decide +kernel)
theorem fX9_dated_X9 : ∀ w ∈ u_ws RX9 TX9 11, w ∈ wsX9_dated := j_words [14, 15, 16, 17, 18, 19, 20, 21, 22, 23, 24] (by decide +kernel)
set_option maxHeartbeats 4000000 in
set_option maxRecDepth 100000 in
theorem k_dated (l : Launch) (D : va_G) (Y : Nat → ClassId) (RO : va_W) (k : Nat → Nat) (nc : Int) (np : Int) (ik : Int) (S : MS) (c : Int) (w : Int) (ko : ((k 0), oC 8 [.ref (k 1), .ref (k 2), vI nc, .ref (k 3), vI np, .ref (k 4), .ref (k 7), vI ik, .ref (k 10), .ref (k 13), .ref (k 14)]) ∈ RO) (n0 : ((k 4), oC 2 [.ref (k 5), .ref (k 6), vI (ms_w S), vI (ms_l S), vI (ms_s S), vI (ms_a S), vI (ms_t S), vI (ms_p S)]) ∈ RO) (n1 : ((k 5), aI (Y 0) 7 (ms_h S)) ∈ RO) (n2 : ((k 6), aI (Y 0) 420 (ms_m S)) ∈ RO) (hS : okS S) (hc : -2147483648 ≤ c ∧ c ≤ 2147483647) (hd : -2147483648 ≤ w ∧ w ≤ 2147483647) (hw : ms_w S ≤ 2147482000) : jMi l yX9_dated wsX9_dated { frames := 2, cells := 0, slots := 0, locals := 43 } D Y RO [.ref (k 0), vI c, vI w] [] (fun e w1 => e = rDated c w S ∧ w1 = []) := by
  refine j_ofi RX9 rfl rfl rfl (Nat.le_of_ble_eq_true rfl) (fun X C Rt => ?_)
  refine j_iload_n (pc := 0) C 1 1 rfl rfl dX9_dated_0 ?_
  refine j_callSi (pc := 1) (As := [vI c]) (na := 1) (st := []) C [] [] (wr := []) (fun l => c_isCairn l D Y _ c (by first | assumption | omega)) rfl rfl rfl rfl (by decide) rfl gX9_dated_X9_isCairn (by decide +kernel) (by decide) rfl rfl (Nat.le_of_ble_eq_true rfl) (by decide) dX9_dated_1 (fun e_1 w_2 h_3 => ?_)
  obtain ⟨rfl, rfl⟩ := h_3
  refine j_perm (ws' := []) [] rfl rfl ?_
  refine j_if_neb (pc := 4) C 10 rfl dX9_dated_4 (fun h_4p4 => ?_) (fun h_4p4 => ?_)
  · skip
    refine j_iload_n (pc := 10) C 2 2 rfl rfl dX9_dated_10 ?_
    refine j_if_lt (pc := 11) C 21 rfl (by omega) dX9_dated_11 (fun h_5p11 => ?_) (fun h_5p11 => ?_)
    · skip
      refine j_bipush (pc := 21) (w := (-102)) C rfl dX9_dated_21 ?_
      exact Rt _ _ _ _ _ _ (by decide) (by decide) ⟨by unfold rDated; rw [if_neg (by omega), if_pos (by omega)], rfl⟩ dX9_dated_23
    · skip
      refine j_iload_n (pc := 14) C 2 2 rfl rfl dX9_dated_14 ?_
      refine j_sipush (pc := 15) (w := 9999) C rfl dX9_dated_15 ?_
      refine j_icmp_le (pc := 18) C 24 rfl (by omega) dX9_dated_18 (fun h_6p18 => ?_) (fun h_6p18 => ?_)
      · skip
        have hh := hS.1 c (by omega)
        refine j_iconst (pc := 24) C dX9_dated_24 ?_
        refine j_istore_n (pc := 25) (lc' := [(3, vI 0), (0, .ref (k 0)), (1, vI c), (2, vI w)]) C 3 rfl (by decide) rfl dX9_dated_25 ?_
        refine j_iconst (pc := 26) C dX9_dated_26 ?_
        refine j_istore (pc := 27) (lc' := [(4, vI 0), (3, vI 0), (0, .ref (k 0)), (1, vI c), (2, vI w)]) C (by decide) rfl dX9_dated_27 ?_
        have hL29 : ∀ (N29 : Nat) (b : Int) (i : Int), ((ms_h S c - i).toNat) < N29 → (0 ≤ i ∧ i ≤ ms_h S c) → (b = cntI (fun d => markS c d S) w i) → jW X 5 0 0 [] [(0, .ref (k 0)), (1, vI c), (2, vI w), (3, vI b), (4, vI i)] 29 [] := by
          intro N29
          induction N29 with
          | zero => intro b i hm29 i29_0 i29_1; omega
          | succ N29 ih29 =>
            intro b i hm29 i29_0 i29_1
            refine j_iload (pc := 29) C 4 rfl dX9_dated_29 ?_
            refine j_aload_n (pc := 31) C 0 0 rfl rfl dX9_dated_31 ?_
            refine j_get (pc := 32) C (Or.inr ko) rfl fX9_dated_X9 5 (by decide) (List.mem_of_getElem? (i := 1) rfl) (Or.inl rfl) rfl dX9_dated_32 ?_
            refine j_get (pc := 35) C (Or.inr n0) rfl fX9_dated_X2 0 (by decide) (List.mem_of_getElem? (i := 2) rfl) (Or.inl rfl) rfl dX9_dated_35 ?_
            refine j_iload_n (pc := 38) C 1 1 rfl rfl dX9_dated_38 ?_
            refine j_iald (pc := 39) C (Or.inr n1) rfl (by omega) (by decide) dX9_dated_39 ?_
            have f_7 := hS.1 c (by omega)
            refine j_icmp_ge (pc := 40) C 66 rfl (by omega) dX9_dated_40 (fun h_8p40 => ?_) (fun h_8p40 => ?_)
            · skip
              refine j_iload_n (pc := 66) C 3 3 rfl rfl dX9_dated_66 ?_
              exact Rt _ _ _ _ _ _ (by decide) (by decide) ⟨by unfold rDated; rw [if_neg (by omega), if_neg (by omega), i29_1, show i = ms_h S c by omega], rfl⟩ dX9_dated_67
            · skip
              refine j_aload_n (pc := 43) C 0 0 rfl rfl dX9_dated_43 ?_
              refine j_get (pc := 44) C (Or.inr ko) rfl fX9_dated_X9 5 (by decide) (List.mem_of_getElem? (i := 1) rfl) (Or.inl rfl) rfl dX9_dated_44 ?_
              refine j_iload_n (pc := 47) C 1 1 rfl rfl dX9_dated_47 ?_
              refine j_iload (pc := 48) C 4 rfl dX9_dated_48 ?_
              refine j_callVi (pc := 50) (As := [vI c, vI i]) (na := 2) (st := []) C [] [] (wr := []) (fun l => c_markAt l D Y _ (k 4) (k 5) (k 6) S c i (List.mem_append_right _ n0) (List.mem_append_right _ n1) (List.mem_append_right _ n2) hS (by first | assumption | omega) (by first | assumption | omega)) rfl rfl rfl rfl (by decide) rfl (Or.inr (List.mem_append_right _ n0)) rfl gX9_dated_X2_markAt ⟨rfl, by decide +kernel⟩ (by decide) rfl rfl (Nat.le_of_ble_eq_true rfl) (by decide) dX9_dated_50 (fun e_9 w_10 h_11 => ?_)
              obtain ⟨rfl, rfl⟩ := h_11
              refine j_perm (ws' := []) [] rfl rfl ?_
              have hmk := markS_in (c := c) (d := i) hS
              refine j_iload_n (pc := 53) C 2 2 rfl rfl dX9_dated_53 ?_
              refine j_icmp_ne (pc := 54) C 60 rfl (by omega) dX9_dated_54 (fun h_12p54 => ?_) (fun h_12p54 => ?_)
              · skip
                refine j_iinc (pc := 60) (lc' := [(4, vI (i + 1)), (0, .ref (k 0)), (1, vI c), (2, vI w), (3, vI b)]) C 4 rfl (by decide) rfl dX9_dated_60 ?_
                refine j_goto (pc := 63) C 29 rfl dX9_dated_63 ?_
                refine j_locals (lc' := [(0, .ref (k 0)), (1, vI c), (2, vI w), (3, vI b), (4, vI (i + 1))]) [1, 2, 3, 4, 0] rfl ?_
                exact ih29 b (i + 1) (by omega) (by omega) (by unfold cntI at i29_1 ⊢; rw [fo_succ _ (by omega), ← i29_1]; unfold cntF; first | rw [if_pos (by omega)] | rw [if_neg (by omega)])
              · skip
                refine j_iinc (pc := 57) (lc' := [(3, vI (b + 1)), (0, .ref (k 0)), (1, vI c), (2, vI w), (4, vI i)]) C 3 rfl (by decide) rfl dX9_dated_57 ?_
                refine j_iinc (pc := 60) (lc' := [(4, vI (i + 1)), (3, vI (b + 1)), (0, .ref (k 0)), (1, vI c), (2, vI w)]) C 4 rfl (by decide) rfl dX9_dated_60 ?_
                refine j_goto (pc := 63) C 29 rfl dX9_dated_63 ?_
                refine j_locals (lc' := [(0, .ref (k 0)), (1, vI c), (2, vI w), (3, vI (b + 1)), (4, vI (i + 1))]) [2, 3, 4, 1, 0] rfl ?_
                exact ih29 (b + 1) (i + 1) (by omega) (by omega) (by unfold cntI at i29_1 ⊢; rw [fo_succ _ (by omega), ← i29_1]; unfold cntF; first | rw [if_pos (by omega)] | rw [if_neg (by omega)])
        refine j_locals (lc' := [(0, .ref (k 0)), (1, vI c), (2, vI w), (3, vI 0), (4, vI 0)]) [2, 3, 4, 1, 0] rfl ?_
        exact hL29 _ 0 0 (Nat.lt_succ_self _) (by omega) rfl
      · skip
        refine j_bipush (pc := 21) (w := (-102)) C rfl dX9_dated_21 ?_
        exact Rt _ _ _ _ _ _ (by decide) (by decide) ⟨by unfold rDated; rw [if_neg (by omega), if_pos (by omega)], rfl⟩ dX9_dated_23
  · skip
    refine j_bipush (pc := 7) (w := (-101)) C rfl dX9_dated_7 ?_
    exact Rt _ _ _ _ _ _ (by decide) (by decide) ⟨by unfold rDated; rw [if_pos (by omega)], rfl⟩ dX9_dated_9

theorem fX9_seed_X2 : ∀ w ∈ u_ws RX2 TX2 8, w ∈ wsX9_seed := j_words [14, 15, 16, 17, 18, 19, 20, 21] (by decide +kernel)
theorem fX9_seed_X9 : ∀ w ∈ u_ws RX9 TX9 11, w ∈ wsX9_seed := j_words [3, 4, 5, 6, 7, 8, 9, 10, 11, 12, 13] (by decide +kernel)
set_option maxHeartbeats 4000000 in
set_option maxRecDepth 100000 in
theorem k_seed (l : Launch) (D : va_G) (Y : Nat → ClassId) (RO : va_W) (k : Nat → Nat) (nc : Int) (np : Int) (ik : Int) (S : MS) (v : Int) (ko : ((k 0), oC 8 [.ref (k 1), .ref (k 2), vI nc, .ref (k 3), vI np, .ref (k 4), .ref (k 7), vI ik, .ref (k 10), .ref (k 13), .ref (k 14)]) ∈ RO) (hv : -2147483648 ≤ v ∧ v ≤ 2147483647) : jMi l yX9_seed wsX9_seed { frames := 0, cells := 0, slots := 0, locals := 0 } D Y RO [.ref (k 0), vI v] [((k 4), oC 2 [.ref (k 5), .ref (k 6), vI (ms_w S), vI (ms_l S), vI (ms_s S), vI (ms_a S), vI (ms_t S), vI (ms_p S)]), ((k 5), aI (Y 0) 7 (ms_h S)), ((k 6), aI (Y 0) 420 (ms_m S))] (fun e w1 => e = rSeed v S ∧ w1 = [((k 4), oC 2 [.ref (k 5), .ref (k 6), vI (ms_w (sSeed v S)), vI (ms_l (sSeed v S)), vI (ms_s (sSeed v S)), vI (ms_a (sSeed v S)), vI (ms_t (sSeed v S)), vI (ms_p (sSeed v S))]), ((k 5), aI (Y 0) 7 (ms_h (sSeed v S))), ((k 6), aI (Y 0) 420 (ms_m (sSeed v S)))]) := by
  refine j_ofi RX9 rfl rfl rfl (Nat.le_of_ble_eq_true rfl) (fun X C Rt => ?_)
  refine j_iload_n (pc := 0) C 1 1 rfl rfl dX9_seed_0 ?_
  refine j_if_ge (pc := 1) C 7 rfl (by omega) dX9_seed_1 (fun h_1p1 => ?_) (fun h_1p1 => ?_)
  · skip
    refine j_aload_n (pc := 7) C 0 0 rfl rfl dX9_seed_7 ?_
    refine j_get (pc := 8) C (Or.inr ko) rfl fX9_seed_X9 5 (by decide) (List.mem_of_getElem? (i := 1) rfl) (Or.inl rfl) rfl dX9_seed_8 ?_
    refine j_get (pc := 11) C (Or.inl (List.mem_of_getElem? (i := 0) rfl)) rfl fX9_seed_X2 4 (by decide) (List.mem_of_getElem? (i := 2) rfl) (Or.inl rfl) rfl dX9_seed_11 ?_
    refine j_istore_n (pc := 14) (lc' := [(2, vI (ms_s S)), (0, .ref (k 0)), (1, vI v)]) C 2 rfl (by decide) rfl dX9_seed_14 ?_
    refine j_aload_n (pc := 15) C 0 1 rfl rfl dX9_seed_15 ?_
    refine j_get (pc := 16) C (Or.inr ko) rfl fX9_seed_X9 5 (by decide) (List.mem_of_getElem? (i := 1) rfl) (Or.inl rfl) rfl dX9_seed_16 ?_
    refine j_iload_n (pc := 19) C 1 2 rfl rfl dX9_seed_19 ?_
    refine j_put (pc := 20) (ws' := [((k 4), oC 2 [.ref (k 5), .ref (k 6), vI (ms_w S), vI (ms_l S), vI v, vI (ms_a S), vI (ms_t S), vI (ms_p S)]), ((k 5), aI (Y 0) 7 (ms_h S)), ((k 6), aI (Y 0) 420 (ms_m S))]) C 0 rfl rfl fX9_seed_X2 tyX2_ok nmX2 4 (by decide) (List.mem_of_getElem? (i := 2) rfl) (Or.inl rfl) rfl rfl rfl rfl (Nat.le_of_ble_eq_true rfl) rfl dX9_seed_20 ?_
    refine j_iload_n (pc := 23) C 2 0 rfl rfl dX9_seed_23 ?_
    exact Rt _ _ _ _ _ _ (by decide) (by decide) ⟨by unfold rSeed; rw [if_neg (by omega)], by unfold sSeed; rw [if_neg (by omega)]; first | done | rfl⟩ dX9_seed_24
  · skip
    refine j_bipush (pc := 4) (w := (-102)) C rfl dX9_seed_4 ?_
    exact Rt _ _ _ _ _ _ (by decide) (by decide) ⟨by unfold rSeed; rw [if_pos (by omega)], by unfold sSeed; rw [if_pos (by omega)]; first | done | rfl⟩ dX9_seed_6

theorem fX9_customAt_X9 : ∀ w ∈ u_ws RX9 TX9 11, w ∈ wsX9_customAt := j_words [2, 3, 4, 5, 6, 7, 8, 9, 10, 11, 12] (by decide +kernel)
set_option maxHeartbeats 4000000 in
set_option maxRecDepth 100000 in
theorem k_customAt (l : Launch) (D : va_G) (Y : Nat → ClassId) (RO : va_W) (k : Nat → Nat) (nc : Int) (np : Int) (ik : Int) (cad : Int → Nat) (i : Int) (ko : ((k 0), oC 8 [.ref (k 1), .ref (k 2), vI nc, .ref (k 3), vI np, .ref (k 4), .ref (k 7), vI ik, .ref (k 10), .ref (k 13), .ref (k 14)]) ∈ RO) (kc : ((k 2), aQ (Y 2) 4 (orow nc cad)) ∈ RO) (hi : -2147483648 ≤ i ∧ i ≤ 2147483647) (hnc : 0 ≤ nc ∧ nc ≤ 4) : jMr l yX9_customAt wsX9_customAt { frames := 0, cells := 0, slots := 0, locals := 0 } D Y RO [.ref (k 0), vI i] [] (fun e w1 => e = orow nc cad i ∧ w1 = []) := by
  refine j_ofr RX9 rfl rfl rfl (Nat.le_of_ble_eq_true rfl) (fun X C Rt => ?_)
  refine j_iload_n (pc := 0) C 1 1 rfl rfl dX9_customAt_0 ?_
  refine j_if_lt (pc := 1) C 9 rfl (by omega) dX9_customAt_1 (fun h_1p1 => ?_) (fun h_1p1 => ?_)
  · skip
    refine j_null (pc := 9) C dX9_customAt_9 ?_
    refine j_goto (pc := 10) C 19 rfl dX9_customAt_10 ?_
    exact Rt _ _ _ _ _ none (by decide) (by decide) ⟨(orow_out (by omega)).symm, rfl⟩ dX9_customAt_19
  · skip
    refine j_iload_n (pc := 4) C 1 1 rfl rfl dX9_customAt_4 ?_
    refine j_iconst (pc := 5) C dX9_customAt_5 ?_
    refine j_icmp_lt (pc := 6) C 13 rfl (by omega) dX9_customAt_6 (fun h_2p6 => ?_) (fun h_2p6 => ?_)
    · skip
      refine j_aload_n (pc := 13) C 0 0 rfl rfl dX9_customAt_13 ?_
      refine j_get (pc := 14) C (Or.inr ko) rfl fX9_customAt_X9 1 (by decide) (List.mem_of_getElem? (i := 1) rfl) (Or.inl rfl) rfl dX9_customAt_14 ?_
      refine j_iload_n (pc := 17) C 1 1 rfl rfl dX9_customAt_17 ?_
      refine j_aaldC (pc := 18) C (Or.inr kc) rfl (by omega) (by decide) dX9_customAt_18 ?_
      exact Rt _ _ _ _ _ (orow nc cad i) (by decide) (by decide) ⟨rfl, rfl⟩ dX9_customAt_19
    · skip
      refine j_null (pc := 9) C dX9_customAt_9 ?_
      refine j_goto (pc := 10) C 19 rfl dX9_customAt_10 ?_
      exact Rt _ _ _ _ _ none (by decide) (by decide) ⟨(orow_out (by omega)).symm, rfl⟩ dX9_customAt_19

theorem fX9_weeks_X2 : ∀ w ∈ u_ws RX2 TX2 8, w ∈ wsX9_weeks := j_words [146, 147, 148, 149, 150, 151, 152, 153] (by decide +kernel)
theorem fX9_weeks_X9 : ∀ w ∈ u_ws RX9 TX9 11, w ∈ wsX9_weeks := j_words [135, 136, 137, 138, 139, 140, 141, 142, 143, 144, 145] (by decide +kernel)
set_option maxHeartbeats 4000000 in
set_option maxRecDepth 100000 in
theorem k_weeks (l : Launch) (D : va_G) (Y : Nat → ClassId) (RO : va_W) (k : Nat → Nat) (nc : Int) (np : Int) (ik : Int) (cad : Int → Nat) (cs : Int → CT) (pad : Int → Nat) (ps : Int → PT) (S : MS) (cu : Int) (n : Int) (ko : ((k 0), oC 8 [.ref (k 1), .ref (k 2), vI nc, .ref (k 3), vI np, .ref (k 4), .ref (k 7), vI ik, .ref (k 10), .ref (k 13), .ref (k 14)]) ∈ RO) (kc : ((k 2), aQ (Y 2) 4 (orow nc cad)) ∈ RO) (hcc : ∀ i, 0 ≤ i ∧ i < nc → (cad i, oC 1 [vI (cw (cs i)), vI (cz (cs i)), vI (ce (cs i))]) ∈ RO) (kp : ((k 3), aQ (Y 3) 6 (orow np pad)) ∈ RO) (hpc : ∀ i, 0 ≤ i ∧ i < np → pC (pad i) (ps i) ∈ RO) (hS : okS S) (hw : ms_w S ≤ 9999) (hnc : 0 ≤ nc ∧ nc ≤ 4) (hcs : ∀ i, 0 ≤ i ∧ i < nc → okC (cs i)) (hnp : 0 ≤ np ∧ np ≤ 6) (hps : ∀ i, 0 ≤ i ∧ i < np → okP (ps i)) (hcu : -2147483648 ≤ cu ∧ cu ≤ 2147483647) (hn : -2147483648 ≤ n ∧ n ≤ 2147483647) : jMi l yX9_weeks wsX9_weeks { frames := 5, cells := 0, slots := 0, locals := 116 } D Y RO [.ref (k 0), vI cu, vI n] [((k 4), oC 2 [.ref (k 5), .ref (k 6), vI (ms_w S), vI (ms_l S), vI (ms_s S), vI (ms_a S), vI (ms_t S), vI (ms_p S)]), ((k 5), aI (Y 0) 7 (ms_h S)), ((k 6), aI (Y 0) 420 (ms_m S))] (fun e w1 => e = rWeeks cu n nc cs np ps S ∧ w1 = [((k 4), oC 2 [.ref (k 5), .ref (k 6), vI (ms_w (sWeeks cu n nc cs np ps S)), vI (ms_l (sWeeks cu n nc cs np ps S)), vI (ms_s (sWeeks cu n nc cs np ps S)), vI (ms_a (sWeeks cu n nc cs np ps S)), vI (ms_t (sWeeks cu n nc cs np ps S)), vI (ms_p (sWeeks cu n nc cs np ps S))]), ((k 5), aI (Y 0) 7 (ms_h (sWeeks cu n nc cs np ps S))), ((k 6), aI (Y 0) 420 (ms_m (sWeeks cu n nc cs np ps S)))]) := by
  refine j_ofi RX9 rfl rfl rfl (Nat.le_of_ble_eq_true rfl) (fun X C Rt => ?_)
  have hw0 := hS.w
  refine j_aload_n (pc := 0) C 0 0 rfl rfl dX9_weeks_0 ?_
  refine j_iload_n (pc := 1) C 1 1 rfl rfl dX9_weeks_1 ?_
  refine j_callVr (pc := 2) (As := [vI cu]) (na := 1) (st := []) C [] [0, 1, 2] (wr := [((k 4), oC 2 [.ref (k 5), .ref (k 6), vI (ms_w S), vI (ms_l S), vI (ms_s S), vI (ms_a S), vI (ms_t S), vI (ms_p S)]), ((k 5), aI (Y 0) 7 (ms_h S)), ((k 6), aI (Y 0) 420 (ms_m S))]) (fun l => k_customAt l D Y _ k nc np ik cad cu (List.mem_append_right _ ko) (List.mem_append_right _ kc) (by first | assumption | omega) (by first | assumption | omega)) rfl rfl rfl rfl (by decide) rfl (Or.inr (List.mem_append_right _ ko)) rfl gX9_weeks_X9_customAt ⟨rfl, by decide +kernel⟩ (by decide) rfl rfl (Nat.le_of_ble_eq_true rfl) (by decide) dX9_weeks_2 (fun e_1 w_2 h_3 => ?_)
  obtain ⟨rfl, rfl⟩ := h_3
  refine j_perm (ws' := [((k 4), oC 2 [.ref (k 5), .ref (k 6), vI (ms_w S), vI (ms_l S), vI (ms_s S), vI (ms_a S), vI (ms_t S), vI (ms_p S)]), ((k 5), aI (Y 0) 7 (ms_h S)), ((k 6), aI (Y 0) 420 (ms_m S))]) [0, 1, 2] rfl rfl ?_
  by_cases hq_4 : 0 ≤ cu ∧ cu < nc
  · rw [show orow nc cad cu = some (cad cu) from orow_in hq_4]
    have hc4 := hcc cu hq_4
    have hC4 := hcs cu hq_4
    refine j_astore_n (pc := 5) (lc' := [(3, .ref (cad cu)), (0, .ref (k 0)), (1, vI cu), (2, vI n)]) C 3 rfl (by decide) rfl dX9_weeks_5 ?_
    refine j_aload_n (pc := 6) C 3 0 rfl rfl dX9_weeks_6 ?_
    refine j_ifnonnull (pc := 7) C 13 rfl dX9_weeks_7 ?_
    refine j_iload_n (pc := 13) C 2 3 rfl rfl dX9_weeks_13 ?_
    refine j_iconst (pc := 14) C dX9_weeks_14 ?_
    refine j_icmp_lt (pc := 15) C 24 rfl (by omega) dX9_weeks_15 (fun h_5p15 => ?_) (fun h_5p15 => ?_)
    · skip
      refine j_bipush (pc := 24) (w := (-102)) C rfl dX9_weeks_24 ?_
      exact Rt _ _ _ _ _ _ (by decide) (by decide) ⟨by unfold rWeeks; rw [if_neg (by omega), if_pos (by omega)], by unfold sWeeks; rw [if_neg (by omega), if_pos (by omega)]; first | done | rfl⟩ dX9_weeks_26
    · skip
      refine j_iload_n (pc := 18) C 2 3 rfl rfl dX9_weeks_18 ?_
      refine j_bipush (pc := 19) (w := 60) C rfl dX9_weeks_19 ?_
      refine j_icmp_le (pc := 21) C 27 rfl (by omega) dX9_weeks_21 (fun h_6p21 => ?_) (fun h_6p21 => ?_)
      · skip
        refine j_aload_n (pc := 27) C 0 1 rfl rfl dX9_weeks_27 ?_
        refine j_get (pc := 28) C (Or.inr ko) rfl fX9_weeks_X9 5 (by decide) (List.mem_of_getElem? (i := 1) rfl) (Or.inl rfl) rfl dX9_weeks_28 ?_
        refine j_get (pc := 31) C (Or.inl (List.mem_of_getElem? (i := 0) rfl)) rfl fX9_weeks_X2 2 (by decide) (List.mem_of_getElem? (i := 2) rfl) (Or.inl rfl) rfl dX9_weeks_31 ?_
        refine j_iload_n (pc := 34) C 2 3 rfl rfl dX9_weeks_34 ?_
        refine j_iadd (pc := 35) C dX9_weeks_35 ?_
        refine j_sipush (pc := 36) (w := 9999) C rfl dX9_weeks_36 ?_
        refine j_icmp_le (pc := 39) C 45 rfl (by omega) dX9_weeks_39 (fun h_7p39 => ?_) (fun h_7p39 => ?_)
        · skip
          refine j_iconst (pc := 45) C dX9_weeks_45 ?_
          refine j_istore (pc := 46) (lc' := [(4, vI 0), (3, .ref (cad cu)), (0, .ref (k 0)), (1, vI cu), (2, vI n)]) C (by decide) rfl dX9_weeks_46 ?_
          have hL48 : ∀ (N48 : Nat) (i : Int) (T : MS), ((n - i).toNat) < N48 → (0 ≤ i ∧ i ≤ n) → (T = weeksS (cs cu) ps np i S) → (okS T ∧ ms_w T = ms_w S + i) → jW X 5 0 0 [((k 4), oC 2 [.ref (k 5), .ref (k 6), vI (ms_w T), vI (ms_l T), vI (ms_s T), vI (ms_a T), vI (ms_t T), vI (ms_p T)]), ((k 5), aI (Y 0) 7 (ms_h T)), ((k 6), aI (Y 0) 420 (ms_m T))] [(0, .ref (k 0)), (2, vI n), (3, .ref (cad cu)), (4, vI i)] 48 [] := by
            intro N48
            induction N48 with
            | zero => intro i T hm48 i48_0 i48_1 i48_2; omega
            | succ N48 ih48 =>
              intro i T hm48 i48_0 i48_1 i48_2
              refine j_iload (pc := 48) C 3 rfl dX9_weeks_48 ?_
              refine j_iload_n (pc := 50) C 2 1 rfl rfl dX9_weeks_50 ?_
              refine j_icmp_ge (pc := 51) C 72 rfl (by omega) dX9_weeks_51 (fun h_8p51 => ?_) (fun h_8p51 => ?_)
              · skip
                refine j_aload_n (pc := 72) C 0 0 rfl rfl dX9_weeks_72 ?_
                refine j_get (pc := 73) C (Or.inr ko) rfl fX9_weeks_X9 5 (by decide) (List.mem_of_getElem? (i := 1) rfl) (Or.inl rfl) rfl dX9_weeks_73 ?_
                refine j_callVi (pc := 76) (As := []) (na := 0) (st := []) C [] [0, 1, 2] (wr := [((k 4), oC 2 [.ref (k 5), .ref (k 6), vI (ms_w T), vI (ms_l T), vI (ms_s T), vI (ms_a T), vI (ms_t T), vI (ms_p T)]), ((k 5), aI (Y 0) 7 (ms_h T)), ((k 6), aI (Y 0) 420 (ms_m T))]) (fun l => c_pebbles l D Y _ (k 4) (k 5) (k 6) T (List.mem_append_left _ (List.mem_of_getElem? (i := 0) rfl)) (List.mem_append_left _ (List.mem_of_getElem? (i := 1) rfl)) ) rfl rfl rfl rfl (by decide) rfl (Or.inr (List.mem_append_left _ (List.mem_of_getElem? (i := 0) rfl))) rfl gX9_weeks_X2_pebbles ⟨rfl, by decide +kernel⟩ (by decide) rfl rfl (Nat.le_of_ble_eq_true rfl) (by decide) dX9_weeks_76 (fun e_9 w_10 h_11 => ?_)
                obtain ⟨rfl, rfl⟩ := h_11
                refine j_perm (ws' := [((k 4), oC 2 [.ref (k 5), .ref (k 6), vI (ms_w T), vI (ms_l T), vI (ms_s T), vI (ms_a T), vI (ms_t T), vI (ms_p T)]), ((k 5), aI (Y 0) 7 (ms_h T)), ((k 6), aI (Y 0) 420 (ms_m T))]) [0, 1, 2] rfl rfl ?_
                exact Rt _ _ _ _ _ _ (by decide) (by decide) ⟨by unfold rWeeks; rw [if_neg (by omega), if_neg (by omega), if_neg (by omega), show n = i by omega, ← i48_1], by unfold sWeeks; rw [if_neg (by omega), if_neg (by omega), if_neg (by omega), show n = i by omega, ← i48_1]⟩ dX9_weeks_79
              · skip
                refine j_aload_n (pc := 54) C 0 0 rfl rfl dX9_weeks_54 ?_
                refine j_get (pc := 55) C (Or.inr ko) rfl fX9_weeks_X9 5 (by decide) (List.mem_of_getElem? (i := 1) rfl) (Or.inl rfl) rfl dX9_weeks_55 ?_
                refine j_aload_n (pc := 58) C 3 2 rfl rfl dX9_weeks_58 ?_
                refine j_aload_n (pc := 59) C 0 0 rfl rfl dX9_weeks_59 ?_
                refine j_get (pc := 60) C (Or.inr ko) rfl fX9_weeks_X9 3 (by decide) (List.mem_of_getElem? (i := 3) rfl) (Or.inl rfl) rfl dX9_weeks_60 ?_
                refine j_callVv (pc := 63) (As := [.ref (cad cu), .ref (k 3)]) (na := 2) (st := []) C [0, 1, 2] [] (wr := []) (fun l => c_goOneWeek l D Y _ (k 4) (k 5) (k 6) T (cad cu) (cs cu) (k 3) pad np ps (List.mem_append_right _ hc4) (List.mem_append_right _ kp) (fun i hi => List.mem_append_right _ (hpc i hi)) i48_2.1 (by first | assumption | omega) (by first | assumption | omega) (by first | assumption | omega) (by omega)) rfl rfl rfl rfl (by decide) rfl (Or.inl (List.mem_of_getElem? (i := 0) rfl)) rfl gX9_weeks_X2_goOneWeek ⟨rfl, by decide +kernel⟩ (by decide) rfl rfl (Nat.le_of_ble_eq_true rfl) (by decide) dX9_weeks_63 (fun w_13 h_14 => ?_)
                subst h_14
                refine j_perm (ws' := [((k 4), oC 2 [.ref (k 5), .ref (k 6), vI (ms_w (goS (cs cu) ps np T)), vI (ms_l (goS (cs cu) ps np T)), vI (ms_s (goS (cs cu) ps np T)), vI (ms_a (goS (cs cu) ps np T)), vI (ms_t (goS (cs cu) ps np T)), vI (ms_p (goS (cs cu) ps np T))]), ((k 5), aI (Y 0) 7 (ms_h (goS (cs cu) ps np T))), ((k 6), aI (Y 0) 420 (ms_m (goS (cs cu) ps np T)))]) [0, 1, 2] rfl rfl ?_
                refine j_iinc (pc := 66) (lc' := [(4, vI (i + 1)), (0, .ref (k 0)), (2, vI n), (3, .ref (cad cu))]) C 3 rfl (by decide) rfl dX9_weeks_66 ?_
                refine j_goto (pc := 69) C 48 rfl dX9_weeks_69 ?_
                refine j_locals (lc' := [(0, .ref (k 0)), (2, vI n), (3, .ref (cad cu)), (4, vI (i + 1))]) [1, 2, 3, 0] rfl ?_
                exact ih48 (i + 1) (goS (cs cu) ps np T) (by omega) (by omega) (by rw [i48_1]; exact (weeksS_succ (by omega)).symm) (by have := okS_go i48_2.1 (by assumption) hps hnp; exact ⟨this.1, by rw [this.2, i48_2.2]; omega⟩)
          refine j_locals (lc' := [(0, .ref (k 0)), (2, vI n), (3, .ref (cad cu)), (4, vI 0)]) [2, 4, 1, 0] rfl ?_
          exact hL48 _ 0 S (Nat.lt_succ_self _) (by omega) rfl ⟨hS, by omega⟩
        · skip
          refine j_bipush (pc := 42) (w := (-103)) C rfl dX9_weeks_42 ?_
          exact Rt _ _ _ _ _ _ (by decide) (by decide) ⟨by unfold rWeeks; rw [if_neg (by omega), if_neg (by omega), if_pos (by omega)], by unfold sWeeks; rw [if_neg (by omega), if_neg (by omega), if_pos (by omega)]; first | done | rfl⟩ dX9_weeks_44
      · skip
        refine j_bipush (pc := 24) (w := (-102)) C rfl dX9_weeks_24 ?_
        exact Rt _ _ _ _ _ _ (by decide) (by decide) ⟨by unfold rWeeks; rw [if_neg (by omega), if_pos (by omega)], by unfold sWeeks; rw [if_neg (by omega), if_pos (by omega)]; first | done | rfl⟩ dX9_weeks_26
  · rw [show orow nc cad cu = none from orow_out hq_4]
    refine j_astore_nN (pc := 5) (lc' := [(3, .null), (0, .ref (k 0)), (1, vI cu), (2, vI n)]) C 3 rfl (by decide) rfl dX9_weeks_5 ?_
    refine j_aload_nN (pc := 6) C 3 0 rfl rfl dX9_weeks_6 ?_
    refine j_ifnonnullN (pc := 7) C dX9_weeks_7 ?_
    refine j_bipush (pc := 10) (w := (-101)) C rfl dX9_weeks_10 ?_
    exact Rt _ _ _ _ _ _ (by decide) (by decide) ⟨by unfold rWeeks; rw [if_pos (by omega)], by unfold sWeeks; rw [if_pos (by omega)]; first | done | rfl⟩ dX9_weeks_12

theorem fX9_dreamOf_X9 : ∀ w ∈ u_ws RX9 TX9 11, w ∈ wsX9_dreamOf := j_words [134, 135, 136, 137, 138, 139, 140, 141, 142, 143, 144] (by decide +kernel)
set_option maxHeartbeats 4000000 in
set_option maxRecDepth 100000 in
theorem k_dreamOf (l : Launch) (D : va_G) (Y : Nat → ClassId) (RO : va_W) (k : Nat → Nat) (nc : Int) (np : Int) (ik : Int) (cad : Int → Nat) (cs : Int → CT) (pad : Int → Nat) (ps : Int → PT) (S : MS) (U : MS) (ca : Nat) (Cu : CT) (n : Int) (ko : ((k 0), oC 8 [.ref (k 1), .ref (k 2), vI nc, .ref (k 3), vI np, .ref (k 4), .ref (k 7), vI ik, .ref (k 10), .ref (k 13), .ref (k 14)]) ∈ RO) (kp : ((k 3), aQ (Y 3) 6 (orow np pad)) ∈ RO) (hpc : ∀ i, 0 ≤ i ∧ i < np → pC (pad i) (ps i) ∈ RO) (hc : (ca, oC 1 [vI (cw Cu), vI (cz Cu), vI (ce Cu)]) ∈ RO) (hS : okS S) (hw : ms_w S ≤ 10100) (hC : okC Cu) (hnp : 0 ≤ np ∧ np ≤ 6) (hps : ∀ i, 0 ≤ i ∧ i < np → okP (ps i)) (hn : 0 ≤ n ∧ n ≤ 60) : jMv l yX9_dreamOf wsX9_dreamOf { frames := 5, cells := 0, slots := 0, locals := 116 } D Y RO [.ref (k 0), .ref ca, vI n] [((k 4), oC 2 [.ref (k 5), .ref (k 6), vI (ms_w S), vI (ms_l S), vI (ms_s S), vI (ms_a S), vI (ms_t S), vI (ms_p S)]), ((k 5), aI (Y 0) 7 (ms_h S)), ((k 6), aI (Y 0) 420 (ms_m S)), ((k 10), oC 2 [.ref (k 11), .ref (k 12), vI (ms_w U), vI (ms_l U), vI (ms_s U), vI (ms_a U), vI (ms_t U), vI (ms_p U)]), ((k 11), aI (Y 0) 7 (ms_h U)), ((k 12), aI (Y 0) 420 (ms_m U))] (fun w1 => w1 = [((k 4), oC 2 [.ref (k 5), .ref (k 6), vI (ms_w S), vI (ms_l S), vI (ms_s S), vI (ms_a S), vI (ms_t S), vI (ms_p S)]), ((k 5), aI (Y 0) 7 (ms_h S)), ((k 6), aI (Y 0) 420 (ms_m S)), ((k 10), oC 2 [.ref (k 11), .ref (k 12), vI (ms_w (weeksS Cu ps np n S)), vI (ms_l (weeksS Cu ps np n S)), vI (ms_s (weeksS Cu ps np n S)), vI (ms_a (weeksS Cu ps np n S)), vI (ms_t (weeksS Cu ps np n S)), vI (ms_p (weeksS Cu ps np n S))]), ((k 11), aI (Y 0) 7 (ms_h (weeksS Cu ps np n S))), ((k 12), aI (Y 0) 420 (ms_m (weeksS Cu ps np n S)))]) := by
  refine j_ofv RX9 rfl rfl rfl (Nat.le_of_ble_eq_true rfl) (fun X C Rt hI => ?_)
  refine j_aload_n (pc := 0) C 0 0 rfl rfl dX9_dreamOf_0 ?_
  refine j_get (pc := 1) C (Or.inr ko) rfl fX9_dreamOf_X9 8 (by decide) (List.mem_of_getElem? (i := 1) rfl) (Or.inl rfl) rfl dX9_dreamOf_1 ?_
  refine j_aload_n (pc := 4) C 0 0 rfl rfl dX9_dreamOf_4 ?_
  refine j_get (pc := 5) C (Or.inr ko) rfl fX9_dreamOf_X9 5 (by decide) (List.mem_of_getElem? (i := 2) rfl) (Or.inl rfl) rfl dX9_dreamOf_5 ?_
  refine j_callVv (pc := 8) (As := [.ref (k 4)]) (na := 1) (st := []) C [3, 4, 5, 0, 1, 2] [] (wr := []) (fun l => c_become l D Y _ (k 10) (k 11) (k 12) U (k 4) (k 5) (k 6) S ) rfl rfl rfl rfl (by decide) rfl (Or.inl (List.mem_of_getElem? (i := 0) rfl)) rfl gX9_dreamOf_X2_become ⟨rfl, by decide +kernel⟩ (by decide) rfl rfl (Nat.le_of_ble_eq_true rfl) (by decide) dX9_dreamOf_8 (fun w_2 h_3 => ?_)
  subst h_3
  refine j_perm (ws' := [((k 4), oC 2 [.ref (k 5), .ref (k 6), vI (ms_w S), vI (ms_l S), vI (ms_s S), vI (ms_a S), vI (ms_t S), vI (ms_p S)]), ((k 5), aI (Y 0) 7 (ms_h S)), ((k 6), aI (Y 0) 420 (ms_m S)), ((k 10), oC 2 [.ref (k 11), .ref (k 12), vI (ms_w S), vI (ms_l S), vI (ms_s S), vI (ms_a S), vI (ms_t S), vI (ms_p S)]), ((k 11), aI (Y 0) 7 (ms_h S)), ((k 12), aI (Y 0) 420 (ms_m S))]) [3, 4, 5, 0, 1, 2] rfl rfl ?_
  refine j_iconst (pc := 11) C dX9_dreamOf_11 ?_
  refine j_istore_n (pc := 12) (lc' := [(3, vI 0), (0, .ref (k 0)), (1, .ref ca), (2, vI n)]) C 3 rfl (by decide) rfl dX9_dreamOf_12 ?_
  have hL13 : ∀ (N13 : Nat) (i : Int) (T : MS), ((n - i).toNat) < N13 → (0 ≤ i ∧ i ≤ n) → (T = weeksS Cu ps np i S) → (okS T ∧ ms_w T = ms_w S + i) → jW X 4 0 0 [((k 4), oC 2 [.ref (k 5), .ref (k 6), vI (ms_w S), vI (ms_l S), vI (ms_s S), vI (ms_a S), vI (ms_t S), vI (ms_p S)]), ((k 5), aI (Y 0) 7 (ms_h S)), ((k 6), aI (Y 0) 420 (ms_m S)), ((k 10), oC 2 [.ref (k 11), .ref (k 12), vI (ms_w T), vI (ms_l T), vI (ms_s T), vI (ms_a T), vI (ms_t T), vI (ms_p T)]), ((k 11), aI (Y 0) 7 (ms_h T)), ((k 12), aI (Y 0) 420 (ms_m T))] [(0, .ref (k 0)), (1, .ref ca), (2, vI n), (3, vI i)] 13 [] := by
    intro N13
    induction N13 with
    | zero => intro i T hm13 i13_0 i13_1 i13_2; omega
    | succ N13 ih13 =>
      intro i T hm13 i13_0 i13_1 i13_2
      refine j_iload_n (pc := 13) C 3 3 rfl rfl dX9_dreamOf_13 ?_
      refine j_iload_n (pc := 14) C 2 2 rfl rfl dX9_dreamOf_14 ?_
      refine j_icmp_ge (pc := 15) C 36 rfl (by omega) dX9_dreamOf_15 (fun h_4p15 => ?_) (fun h_4p15 => ?_)
      · skip
        exact Rt _ _ _ _ _ (by decide) (by decide) (by rw [show n = i by omega, ← i13_1]) dX9_dreamOf_36
      · skip
        refine j_aload_n (pc := 18) C 0 0 rfl rfl dX9_dreamOf_18 ?_
        refine j_get (pc := 19) C (Or.inr ko) rfl fX9_dreamOf_X9 8 (by decide) (List.mem_of_getElem? (i := 1) rfl) (Or.inl rfl) rfl dX9_dreamOf_19 ?_
        refine j_aload_n (pc := 22) C 1 1 rfl rfl dX9_dreamOf_22 ?_
        refine j_aload_n (pc := 23) C 0 0 rfl rfl dX9_dreamOf_23 ?_
        refine j_get (pc := 24) C (Or.inr ko) rfl fX9_dreamOf_X9 3 (by decide) (List.mem_of_getElem? (i := 3) rfl) (Or.inl rfl) rfl dX9_dreamOf_24 ?_
        refine j_callVv (pc := 27) (As := [.ref ca, .ref (k 3)]) (na := 2) (st := []) C [3, 4, 5] [0, 1, 2] (wr := [((k 4), oC 2 [.ref (k 5), .ref (k 6), vI (ms_w S), vI (ms_l S), vI (ms_s S), vI (ms_a S), vI (ms_t S), vI (ms_p S)]), ((k 5), aI (Y 0) 7 (ms_h S)), ((k 6), aI (Y 0) 420 (ms_m S))]) (fun l => c_goOneWeek l D Y _ (k 10) (k 11) (k 12) T ca Cu (k 3) pad np ps (List.mem_append_right _ hc) (List.mem_append_right _ kp) (fun i hi => List.mem_append_right _ (hpc i hi)) i13_2.1 (by first | assumption | omega) (by first | assumption | omega) (by first | assumption | omega) (by omega)) rfl rfl rfl rfl (by decide) rfl (Or.inl (List.mem_of_getElem? (i := 0) rfl)) rfl gX9_dreamOf_X2_goOneWeek ⟨rfl, by decide +kernel⟩ (by decide) rfl rfl (Nat.le_of_ble_eq_true rfl) (by decide) dX9_dreamOf_27 (fun w_6 h_7 => ?_)
        subst h_7
        refine j_perm (ws' := [((k 4), oC 2 [.ref (k 5), .ref (k 6), vI (ms_w S), vI (ms_l S), vI (ms_s S), vI (ms_a S), vI (ms_t S), vI (ms_p S)]), ((k 5), aI (Y 0) 7 (ms_h S)), ((k 6), aI (Y 0) 420 (ms_m S)), ((k 10), oC 2 [.ref (k 11), .ref (k 12), vI (ms_w (goS Cu ps np T)), vI (ms_l (goS Cu ps np T)), vI (ms_s (goS Cu ps np T)), vI (ms_a (goS Cu ps np T)), vI (ms_t (goS Cu ps np T)), vI (ms_p (goS Cu ps np T))]), ((k 11), aI (Y 0) 7 (ms_h (goS Cu ps np T))), ((k 12), aI (Y 0) 420 (ms_m (goS Cu ps np T)))]) [0, 1, 2, 3, 4, 5] rfl rfl ?_
        refine j_iinc (pc := 30) (lc' := [(3, vI (i + 1)), (0, .ref (k 0)), (1, .ref ca), (2, vI n)]) C 3 rfl (by decide) rfl dX9_dreamOf_30 ?_
        refine j_goto (pc := 33) C 13 rfl dX9_dreamOf_33 ?_
        refine j_locals (lc' := [(0, .ref (k 0)), (1, .ref ca), (2, vI n), (3, vI (i + 1))]) [1, 2, 3, 0] rfl ?_
        exact ih13 (i + 1) (goS Cu ps np T) (by omega) (by omega) (by rw [i13_1]; exact (weeksS_succ (by omega)).symm) (by have := okS_go i13_2.1 hC hps hnp; exact ⟨this.1, by rw [this.2, i13_2.2]; omega⟩)
  refine j_locals (lc' := [(0, .ref (k 0)), (1, .ref ca), (2, vI n), (3, vI 0)]) [1, 2, 3, 0] rfl ?_
  exact hL13 _ 0 S (Nat.lt_succ_self _) (by omega) rfl ⟨hS, by omega⟩

theorem fX9_would_X2 : ∀ w ∈ u_ws RX2 TX2 8, w ∈ wsX9_would := j_words [156, 157, 158, 159, 160, 161, 162, 163] (by decide +kernel)
theorem fX9_would_X9 : ∀ w ∈ u_ws RX9 TX9 11, w ∈ wsX9_would := j_words [145, 146, 147, 148, 149, 150, 151, 152, 153, 154, 155] (by decide +kernel)
set_option maxHeartbeats 4000000 in
set_option maxRecDepth 100000 in
theorem k_would (l : Launch) (D : va_G) (Y : Nat → ClassId) (RO : va_W) (k : Nat → Nat) (nc : Int) (np : Int) (ik : Int) (cad : Int → Nat) (cs : Int → CT) (pad : Int → Nat) (ps : Int → PT) (S : MS) (U : MS) (cu : Int) (c : Int) (n : Int) (ko : ((k 0), oC 8 [.ref (k 1), .ref (k 2), vI nc, .ref (k 3), vI np, .ref (k 4), .ref (k 7), vI ik, .ref (k 10), .ref (k 13), .ref (k 14)]) ∈ RO) (kc : ((k 2), aQ (Y 2) 4 (orow nc cad)) ∈ RO) (hcc : ∀ i, 0 ≤ i ∧ i < nc → (cad i, oC 1 [vI (cw (cs i)), vI (cz (cs i)), vI (ce (cs i))]) ∈ RO) (kp : ((k 3), aQ (Y 3) 6 (orow np pad)) ∈ RO) (hpc : ∀ i, 0 ≤ i ∧ i < np → pC (pad i) (ps i) ∈ RO) (hS : okS S) (hw : ms_w S ≤ 9999) (hnc : 0 ≤ nc ∧ nc ≤ 4) (hcs : ∀ i, 0 ≤ i ∧ i < nc → okC (cs i)) (hnp : 0 ≤ np ∧ np ≤ 6) (hps : ∀ i, 0 ≤ i ∧ i < np → okP (ps i)) (hcu : -2147483648 ≤ cu ∧ cu ≤ 2147483647) (hc : -2147483648 ≤ c ∧ c ≤ 2147483647) (hn : -2147483648 ≤ n ∧ n ≤ 2147483647) : jMi l yX9_would wsX9_would { frames := 6, cells := 0, slots := 0, locals := 139 } D Y RO [.ref (k 0), vI cu, vI c, vI n] [((k 4), oC 2 [.ref (k 5), .ref (k 6), vI (ms_w S), vI (ms_l S), vI (ms_s S), vI (ms_a S), vI (ms_t S), vI (ms_p S)]), ((k 5), aI (Y 0) 7 (ms_h S)), ((k 6), aI (Y 0) 420 (ms_m S)), ((k 10), oC 2 [.ref (k 11), .ref (k 12), vI (ms_w U), vI (ms_l U), vI (ms_s U), vI (ms_a U), vI (ms_t U), vI (ms_p U)]), ((k 11), aI (Y 0) 7 (ms_h U)), ((k 12), aI (Y 0) 420 (ms_m U))] (fun e w1 => e = rWould cu c n nc cs np ps S ∧ ∃ V : MS, w1 = [((k 4), oC 2 [.ref (k 5), .ref (k 6), vI (ms_w S), vI (ms_l S), vI (ms_s S), vI (ms_a S), vI (ms_t S), vI (ms_p S)]), ((k 5), aI (Y 0) 7 (ms_h S)), ((k 6), aI (Y 0) 420 (ms_m S)), ((k 10), oC 2 [.ref (k 11), .ref (k 12), vI (ms_w V), vI (ms_l V), vI (ms_s V), vI (ms_a V), vI (ms_t V), vI (ms_p V)]), ((k 11), aI (Y 0) 7 (ms_h V)), ((k 12), aI (Y 0) 420 (ms_m V))]) := by
  refine j_ofi RX9 rfl rfl rfl (Nat.le_of_ble_eq_true rfl) (fun X C Rt => ?_)
  have hw0 := hS.w
  refine j_aload_n (pc := 0) C 0 0 rfl rfl dX9_would_0 ?_
  refine j_iload_n (pc := 1) C 1 1 rfl rfl dX9_would_1 ?_
  refine j_callVr (pc := 2) (As := [vI cu]) (na := 1) (st := []) C [] [0, 1, 2, 3, 4, 5] (wr := [((k 4), oC 2 [.ref (k 5), .ref (k 6), vI (ms_w S), vI (ms_l S), vI (ms_s S), vI (ms_a S), vI (ms_t S), vI (ms_p S)]), ((k 5), aI (Y 0) 7 (ms_h S)), ((k 6), aI (Y 0) 420 (ms_m S)), ((k 10), oC 2 [.ref (k 11), .ref (k 12), vI (ms_w U), vI (ms_l U), vI (ms_s U), vI (ms_a U), vI (ms_t U), vI (ms_p U)]), ((k 11), aI (Y 0) 7 (ms_h U)), ((k 12), aI (Y 0) 420 (ms_m U))]) (fun l => k_customAt l D Y _ k nc np ik cad cu (List.mem_append_right _ ko) (List.mem_append_right _ kc) (by first | assumption | omega) (by first | assumption | omega)) rfl rfl rfl rfl (by decide) rfl (Or.inr (List.mem_append_right _ ko)) rfl gX9_would_X9_customAt ⟨rfl, by decide +kernel⟩ (by decide) rfl rfl (Nat.le_of_ble_eq_true rfl) (by decide) dX9_would_2 (fun e_1 w_2 h_3 => ?_)
  obtain ⟨rfl, rfl⟩ := h_3
  refine j_perm (ws' := [((k 4), oC 2 [.ref (k 5), .ref (k 6), vI (ms_w S), vI (ms_l S), vI (ms_s S), vI (ms_a S), vI (ms_t S), vI (ms_p S)]), ((k 5), aI (Y 0) 7 (ms_h S)), ((k 6), aI (Y 0) 420 (ms_m S)), ((k 10), oC 2 [.ref (k 11), .ref (k 12), vI (ms_w U), vI (ms_l U), vI (ms_s U), vI (ms_a U), vI (ms_t U), vI (ms_p U)]), ((k 11), aI (Y 0) 7 (ms_h U)), ((k 12), aI (Y 0) 420 (ms_m U))]) [0, 1, 2, 3, 4, 5] rfl rfl ?_
  by_cases hq_4 : 0 ≤ cu ∧ cu < nc
  · rw [show orow nc cad cu = some (cad cu) from orow_in hq_4]
    have hc4 := hcc cu hq_4
    have hC4 := hcs cu hq_4
    refine j_astore (pc := 5) (lc' := [(4, .ref (cad cu)), (0, .ref (k 0)), (1, vI cu), (2, vI c), (3, vI n)]) C (by decide) rfl dX9_would_5 ?_
    refine j_aload (pc := 7) C 0 rfl dX9_would_7 ?_
    refine j_ifnull (pc := 9) C dX9_would_9 ?_
    refine j_iload_n (pc := 12) C 2 3 rfl rfl dX9_would_12 ?_
    refine j_callSi (pc := 13) (As := [vI c]) (na := 1) (st := []) C [] [0, 1, 2, 3, 4, 5] (wr := [((k 4), oC 2 [.ref (k 5), .ref (k 6), vI (ms_w S), vI (ms_l S), vI (ms_s S), vI (ms_a S), vI (ms_t S), vI (ms_p S)]), ((k 5), aI (Y 0) 7 (ms_h S)), ((k 6), aI (Y 0) 420 (ms_m S)), ((k 10), oC 2 [.ref (k 11), .ref (k 12), vI (ms_w U), vI (ms_l U), vI (ms_s U), vI (ms_a U), vI (ms_t U), vI (ms_p U)]), ((k 11), aI (Y 0) 7 (ms_h U)), ((k 12), aI (Y 0) 420 (ms_m U))]) (fun l => c_isCairn l D Y _ c (by first | assumption | omega)) rfl rfl rfl rfl (by decide) rfl gX9_would_X9_isCairn (by decide +kernel) (by decide) rfl rfl (Nat.le_of_ble_eq_true rfl) (by decide) dX9_would_13 (fun e_5 w_6 h_7 => ?_)
    obtain ⟨rfl, rfl⟩ := h_7
    refine j_perm (ws' := [((k 4), oC 2 [.ref (k 5), .ref (k 6), vI (ms_w S), vI (ms_l S), vI (ms_s S), vI (ms_a S), vI (ms_t S), vI (ms_p S)]), ((k 5), aI (Y 0) 7 (ms_h S)), ((k 6), aI (Y 0) 420 (ms_m S)), ((k 10), oC 2 [.ref (k 11), .ref (k 12), vI (ms_w U), vI (ms_l U), vI (ms_s U), vI (ms_a U), vI (ms_t U), vI (ms_p U)]), ((k 11), aI (Y 0) 7 (ms_h U)), ((k 12), aI (Y 0) 420 (ms_m U))]) [0, 1, 2, 3, 4, 5] rfl rfl ?_
    refine j_if_neb (pc := 16) C 22 rfl dX9_would_16 (fun h_8p16 => ?_) (fun h_8p16 => ?_)
    · skip
      refine j_iload_n (pc := 22) C 3 4 rfl rfl dX9_would_22 ?_
      refine j_if_lt (pc := 23) C 32 rfl (by omega) dX9_would_23 (fun h_9p23 => ?_) (fun h_9p23 => ?_)
      · skip
        refine j_bipush (pc := 32) (w := (-102)) C rfl dX9_would_32 ?_
        exact Rt _ _ _ _ _ _ (by decide) (by decide) ⟨by unfold rWould; rw [if_neg (by omega), if_pos (by omega)], _, rfl⟩ dX9_would_34
      · skip
        refine j_iload_n (pc := 26) C 3 4 rfl rfl dX9_would_26 ?_
        refine j_bipush (pc := 27) (w := 60) C rfl dX9_would_27 ?_
        refine j_icmp_le (pc := 29) C 35 rfl (by omega) dX9_would_29 (fun h_10p29 => ?_) (fun h_10p29 => ?_)
        · skip
          refine j_aload_n (pc := 35) C 0 1 rfl rfl dX9_would_35 ?_
          refine j_aload (pc := 36) C 0 rfl dX9_would_36 ?_
          refine j_iload_n (pc := 38) C 3 4 rfl rfl dX9_would_38 ?_
          refine j_callVv (pc := 39) (As := [.ref (cad cu), vI n]) (na := 2) (st := []) C [0, 1, 2, 3, 4, 5] [] (wr := []) (fun l => k_dreamOf l D Y _ k nc np ik cad cs pad ps S U (cad cu) (cs cu) n (List.mem_append_right _ ko) (List.mem_append_right _ kp) (fun i hi => List.mem_append_right _ (hpc i hi)) (List.mem_append_right _ hc4) (by first | assumption | omega) (by omega) (by first | assumption | omega) (by first | assumption | omega) (by first | assumption | omega) (by first | assumption | omega)) rfl rfl rfl rfl (by decide) rfl (Or.inr (List.mem_append_right _ ko)) rfl gX9_would_X9_dreamOf ⟨rfl, by decide +kernel⟩ (by decide) rfl rfl (Nat.le_of_ble_eq_true rfl) (by decide) dX9_would_39 (fun w_12 h_13 => ?_)
          subst h_13
          refine j_perm (ws' := [((k 4), oC 2 [.ref (k 5), .ref (k 6), vI (ms_w S), vI (ms_l S), vI (ms_s S), vI (ms_a S), vI (ms_t S), vI (ms_p S)]), ((k 5), aI (Y 0) 7 (ms_h S)), ((k 6), aI (Y 0) 420 (ms_m S)), ((k 10), oC 2 [.ref (k 11), .ref (k 12), vI (ms_w (weeksS (cs cu) ps np n S)), vI (ms_l (weeksS (cs cu) ps np n S)), vI (ms_s (weeksS (cs cu) ps np n S)), vI (ms_a (weeksS (cs cu) ps np n S)), vI (ms_t (weeksS (cs cu) ps np n S)), vI (ms_p (weeksS (cs cu) ps np n S))]), ((k 11), aI (Y 0) 7 (ms_h (weeksS (cs cu) ps np n S))), ((k 12), aI (Y 0) 420 (ms_m (weeksS (cs cu) ps np n S)))]) [0, 1, 2, 3, 4, 5] rfl rfl ?_
          refine j_aload_n (pc := 42) C 0 1 rfl rfl dX9_would_42 ?_
          refine j_get (pc := 43) C (Or.inr ko) rfl fX9_would_X9 8 (by decide) (List.mem_of_getElem? (i := 1) rfl) (Or.inl rfl) rfl dX9_would_43 ?_
          refine j_get (pc := 46) C (Or.inl (List.mem_of_getElem? (i := 3) rfl)) rfl fX9_would_X2 0 (by decide) (List.mem_of_getElem? (i := 2) rfl) (Or.inl rfl) rfl dX9_would_46 ?_
          refine j_iload_n (pc := 49) C 2 3 rfl rfl dX9_would_49 ?_
          refine j_iald (pc := 50) C (Or.inl (List.mem_of_getElem? (i := 4) rfl)) rfl (by omega) (by decide) dX9_would_50 ?_
          exact Rt _ _ _ _ _ _ (by decide) (by decide) ⟨by unfold rWould; rw [if_neg (by omega), if_neg (by omega)], _, rfl⟩ dX9_would_51
        · skip
          refine j_bipush (pc := 32) (w := (-102)) C rfl dX9_would_32 ?_
          exact Rt _ _ _ _ _ _ (by decide) (by decide) ⟨by unfold rWould; rw [if_neg (by omega), if_pos (by omega)], _, rfl⟩ dX9_would_34
    · skip
      refine j_bipush (pc := 19) (w := (-101)) C rfl dX9_would_19 ?_
      exact Rt _ _ _ _ _ _ (by decide) (by decide) ⟨by unfold rWould; rw [if_pos (by omega)], _, rfl⟩ dX9_would_21
  · rw [show orow nc cad cu = none from orow_out hq_4]
    refine j_astoreN (pc := 5) (lc' := [(4, .null), (0, .ref (k 0)), (1, vI cu), (2, vI c), (3, vI n)]) C (by decide) rfl dX9_would_5 ?_
    refine j_aloadN (pc := 7) C 0 rfl dX9_would_7 ?_
    refine j_ifnullN (pc := 9) C 19 rfl dX9_would_9 ?_
    refine j_bipush (pc := 19) (w := (-101)) C rfl dX9_would_19 ?_
    exact Rt _ _ _ _ _ _ (by decide) (by decide) ⟨by unfold rWould; rw [if_pos (by omega)], _, rfl⟩ dX9_would_21

theorem fX9_count_X2 : ∀ w ∈ u_ws RX2 TX2 8, w ∈ wsX9_count := j_words [29, 30, 31, 32, 33, 34, 35, 36] (by decide +kernel)
theorem fX9_count_X4 : ∀ w ∈ u_ws RX4 TX4 2, w ∈ wsX9_count := j_words [37, 38] (by decide +kernel)
theorem fX9_count_X9 : ∀ w ∈ u_ws RX9 TX9 11, w ∈ wsX9_count := j_words [18, 19, 20, 21, 22, 23, 24, 25, 26, 27, 28] (by decide +kernel)
set_option maxHeartbeats 4000000 in
set_option maxRecDepth 100000 in
theorem k_count (l : Launch) (D : va_G) (Y : Nat → ClassId) (RO : va_W) (k : Nat → Nat) (nc : Int) (np : Int) (ik : Int) (S : MS) (pl : Int) (w : Int) (ko : ((k 0), oC 8 [.ref (k 1), .ref (k 2), vI nc, .ref (k 3), vI np, .ref (k 4), .ref (k 7), vI ik, .ref (k 10), .ref (k 13), .ref (k 14)]) ∈ RO) (n0 : ((k 4), oC 2 [.ref (k 5), .ref (k 6), vI (ms_w S), vI (ms_l S), vI (ms_s S), vI (ms_a S), vI (ms_t S), vI (ms_p S)]) ∈ RO) (n1 : ((k 5), aI (Y 0) 7 (ms_h S)) ∈ RO) (n2 : ((k 6), aI (Y 0) 420 (ms_m S)) ∈ RO) (pgo : ((k 1), oC 3 [.ref (k 17), vI pl]) ∈ RO) (hw : -2147483648 ≤ w ∧ w ≤ 2147483647) : jMi l yX9_count wsX9_count { frames := 1, cells := 0, slots := 0, locals := 22 } D Y RO [.ref (k 0), vI w] [] (fun e w1 => e = rCount w np nc pl S ∧ w1 = []) := by
  refine j_ofi RX9 rfl rfl rfl (Nat.le_of_ble_eq_true rfl) (fun X C Rt => ?_)
  refine j_iload_n (pc := 0) C 1 1 rfl rfl dX9_count_0 ?_
  rcases (show w = 0 ∨ w = 1 ∨ w = 2 ∨ w = 3 ∨ w = 4 ∨ w = 5 ∨ w = 6 ∨ w = 7 ∨ w = 8 ∨ w = 9 ∨ (w < 0 ∨ 9 < w) by omega) with h_1p1 | h_1p1 | h_1p1 | h_1p1 | h_1p1 | h_1p1 | h_1p1 | h_1p1 | h_1p1 | h_1p1 | h_1p1
  · refine j_tableC (pc := 1) C 0 56 h_1p1 (by decide) rfl rfl dX9_count_1 ?_
    refine j_aload_n (pc := 56) C 0 0 rfl rfl dX9_count_56 ?_
    refine j_get (pc := 57) C (Or.inr ko) rfl fX9_count_X9 4 (by decide) (List.mem_of_getElem? (i := 1) rfl) (Or.inl rfl) rfl dX9_count_57 ?_
    exact Rt _ _ _ _ _ _ (by decide) (by decide) ⟨by unfold rCount; rw [if_pos (by omega)], rfl⟩ dX9_count_60
  · refine j_tableC (pc := 1) C 1 61 h_1p1 (by decide) rfl rfl dX9_count_1 ?_
    refine j_aload_n (pc := 61) C 0 0 rfl rfl dX9_count_61 ?_
    refine j_get (pc := 62) C (Or.inr ko) rfl fX9_count_X9 2 (by decide) (List.mem_of_getElem? (i := 2) rfl) (Or.inl rfl) rfl dX9_count_62 ?_
    exact Rt _ _ _ _ _ _ (by decide) (by decide) ⟨by unfold rCount; rw [if_neg (by omega), if_pos (by omega)], rfl⟩ dX9_count_65
  · refine j_tableC (pc := 1) C 2 66 h_1p1 (by decide) rfl rfl dX9_count_1 ?_
    refine j_aload_n (pc := 66) C 0 0 rfl rfl dX9_count_66 ?_
    refine j_get (pc := 67) C (Or.inr ko) rfl fX9_count_X9 5 (by decide) (List.mem_of_getElem? (i := 3) rfl) (Or.inl rfl) rfl dX9_count_67 ?_
    refine j_callVi (pc := 70) (As := []) (na := 0) (st := []) C [] [] (wr := []) (fun l => c_pebbles l D Y _ (k 4) (k 5) (k 6) S (List.mem_append_right _ n0) (List.mem_append_right _ n1) ) rfl rfl rfl rfl (by decide) rfl (Or.inr (List.mem_append_right _ n0)) rfl gX9_count_X2_pebbles ⟨rfl, by decide +kernel⟩ (by decide) rfl rfl (Nat.le_of_ble_eq_true rfl) (by decide) dX9_count_70 (fun e_2 w_3 h_4 => ?_)
    obtain ⟨rfl, rfl⟩ := h_4
    refine j_perm (ws' := []) [] rfl rfl ?_
    exact Rt _ _ _ _ _ _ (by decide) (by decide) ⟨by unfold rCount; rw [if_neg (by omega), if_neg (by omega), if_pos (by omega)], rfl⟩ dX9_count_73
  · refine j_tableC (pc := 1) C 3 74 h_1p1 (by decide) rfl rfl dX9_count_1 ?_
    refine j_aload_n (pc := 74) C 0 0 rfl rfl dX9_count_74 ?_
    refine j_get (pc := 75) C (Or.inr ko) rfl fX9_count_X9 5 (by decide) (List.mem_of_getElem? (i := 3) rfl) (Or.inl rfl) rfl dX9_count_75 ?_
    refine j_get (pc := 78) C (Or.inr n0) rfl fX9_count_X2 2 (by decide) (List.mem_of_getElem? (i := 4) rfl) (Or.inl rfl) rfl dX9_count_78 ?_
    exact Rt _ _ _ _ _ _ (by decide) (by decide) ⟨by unfold rCount; rw [if_neg (by omega), if_neg (by omega), if_neg (by omega), if_pos (by omega)], rfl⟩ dX9_count_81
  · refine j_tableC (pc := 1) C 4 82 h_1p1 (by decide) rfl rfl dX9_count_1 ?_
    refine j_aload_n (pc := 82) C 0 0 rfl rfl dX9_count_82 ?_
    refine j_get (pc := 83) C (Or.inr ko) rfl fX9_count_X9 5 (by decide) (List.mem_of_getElem? (i := 3) rfl) (Or.inl rfl) rfl dX9_count_83 ?_
    refine j_get (pc := 86) C (Or.inr n0) rfl fX9_count_X2 4 (by decide) (List.mem_of_getElem? (i := 5) rfl) (Or.inl rfl) rfl dX9_count_86 ?_
    exact Rt _ _ _ _ _ _ (by decide) (by decide) ⟨by unfold rCount; rw [if_neg (by omega), if_neg (by omega), if_neg (by omega), if_neg (by omega), if_pos (by omega)], rfl⟩ dX9_count_89
  · refine j_tableC (pc := 1) C 5 90 h_1p1 (by decide) rfl rfl dX9_count_1 ?_
    refine j_aload_n (pc := 90) C 0 0 rfl rfl dX9_count_90 ?_
    refine j_get (pc := 91) C (Or.inr ko) rfl fX9_count_X9 5 (by decide) (List.mem_of_getElem? (i := 3) rfl) (Or.inl rfl) rfl dX9_count_91 ?_
    refine j_get (pc := 94) C (Or.inr n0) rfl fX9_count_X2 3 (by decide) (List.mem_of_getElem? (i := 6) rfl) (Or.inl rfl) rfl dX9_count_94 ?_
    exact Rt _ _ _ _ _ _ (by decide) (by decide) ⟨by unfold rCount; rw [if_neg (by omega), if_neg (by omega), if_neg (by omega), if_neg (by omega), if_neg (by omega), if_pos (by omega)], rfl⟩ dX9_count_97
  · refine j_tableC (pc := 1) C 6 98 h_1p1 (by decide) rfl rfl dX9_count_1 ?_
    refine j_aload_n (pc := 98) C 0 0 rfl rfl dX9_count_98 ?_
    refine j_get (pc := 99) C (Or.inr ko) rfl fX9_count_X9 5 (by decide) (List.mem_of_getElem? (i := 3) rfl) (Or.inl rfl) rfl dX9_count_99 ?_
    refine j_get (pc := 102) C (Or.inr n0) rfl fX9_count_X2 5 (by decide) (List.mem_of_getElem? (i := 7) rfl) (Or.inl rfl) rfl dX9_count_102 ?_
    exact Rt _ _ _ _ _ _ (by decide) (by decide) ⟨by unfold rCount; rw [if_neg (by omega), if_neg (by omega), if_neg (by omega), if_neg (by omega), if_neg (by omega), if_neg (by omega), if_pos (by omega)], rfl⟩ dX9_count_105
  · refine j_tableC (pc := 1) C 7 106 h_1p1 (by decide) rfl rfl dX9_count_1 ?_
    refine j_aload_n (pc := 106) C 0 0 rfl rfl dX9_count_106 ?_
    refine j_get (pc := 107) C (Or.inr ko) rfl fX9_count_X9 5 (by decide) (List.mem_of_getElem? (i := 3) rfl) (Or.inl rfl) rfl dX9_count_107 ?_
    refine j_get (pc := 110) C (Or.inr n0) rfl fX9_count_X2 6 (by decide) (List.mem_of_getElem? (i := 8) rfl) (Or.inl rfl) rfl dX9_count_110 ?_
    exact Rt _ _ _ _ _ _ (by decide) (by decide) ⟨by unfold rCount; rw [if_neg (by omega), if_neg (by omega), if_neg (by omega), if_neg (by omega), if_neg (by omega), if_neg (by omega), if_neg (by omega), if_pos (by omega)], rfl⟩ dX9_count_113
  · refine j_tableC (pc := 1) C 8 114 h_1p1 (by decide) rfl rfl dX9_count_1 ?_
    refine j_aload_n (pc := 114) C 0 0 rfl rfl dX9_count_114 ?_
    refine j_get (pc := 115) C (Or.inr ko) rfl fX9_count_X9 5 (by decide) (List.mem_of_getElem? (i := 3) rfl) (Or.inl rfl) rfl dX9_count_115 ?_
    refine j_get (pc := 118) C (Or.inr n0) rfl fX9_count_X2 7 (by decide) (List.mem_of_getElem? (i := 9) rfl) (Or.inl rfl) rfl dX9_count_118 ?_
    exact Rt _ _ _ _ _ _ (by decide) (by decide) ⟨by unfold rCount; rw [if_neg (by omega), if_neg (by omega), if_neg (by omega), if_neg (by omega), if_neg (by omega), if_neg (by omega), if_neg (by omega), if_neg (by omega), if_pos (by omega)], rfl⟩ dX9_count_121
  · refine j_tableC (pc := 1) C 9 122 h_1p1 (by decide) rfl rfl dX9_count_1 ?_
    refine j_aload_n (pc := 122) C 0 0 rfl rfl dX9_count_122 ?_
    refine j_get (pc := 123) C (Or.inr ko) rfl fX9_count_X9 0 (by decide) (List.mem_of_getElem? (i := 10) rfl) (Or.inl rfl) rfl dX9_count_123 ?_
    refine j_get (pc := 126) C (Or.inr pgo) rfl fX9_count_X4 1 (by decide) (List.mem_of_getElem? (i := 11) rfl) (Or.inl rfl) rfl dX9_count_126 ?_
    exact Rt _ _ _ _ _ _ (by decide) (by decide) ⟨by unfold rCount; rw [if_neg (by omega), if_neg (by omega), if_neg (by omega), if_neg (by omega), if_neg (by omega), if_neg (by omega), if_neg (by omega), if_neg (by omega), if_neg (by omega), if_pos (by omega)], rfl⟩ dX9_count_129
  · refine j_tableD (pc := 1) C 130 (by omega) h_1p1 rfl dX9_count_1 ?_
    refine j_bipush (pc := 130) (w := (-102)) C rfl dX9_count_130 ?_
    exact Rt _ _ _ _ _ _ (by decide) (by decide) ⟨by unfold rCount; rw [if_neg (by omega), if_neg (by omega), if_neg (by omega), if_neg (by omega), if_neg (by omega), if_neg (by omega), if_neg (by omega), if_neg (by omega), if_neg (by omega), if_neg (by omega)], rfl⟩ dX9_count_132
end
section
set_option maxHeartbeats 4000000 in
set_option maxRecDepth 100000 in
theorem c_codeAt (l : Launch) (D : va_G) (Y : Nat → ClassId) (RO : va_W) (w : Int) (i : Int)  (hi : 0 ≤ i ∧ i < 8) : jMi l yX4_codeAt wsX4_codeAt { frames := 0, cells := 0, slots := 0, locals := 0 } D Y RO [vL w, vI i] [] (fun e w1 => e = codeW w i ∧ w1 = []) := by
  refine j_ofi RX4 rfl rfl rfl (Nat.le_of_ble_eq_true rfl) (fun X C Rt => ?_)
  refine j_lload_n (pc := 0) C 0 0 rfl rfl dX4_codeAt_0 ?_
  refine j_bipush (pc := 1) (w := 8) C rfl dX4_codeAt_1 ?_
  refine j_iload_n (pc := 3) C 2 1 rfl rfl dX4_codeAt_3 ?_
  refine j_imul (pc := 4) C dX4_codeAt_4 ?_
  refine j_lushr (pc := 5) C dX4_codeAt_5 ?_
  refine j_ldc2 (pc := 6) (w := 255) C (List.mem_of_getElem? (i := 1) rfl) dX4_codeAt_6 ?_
  refine j_land (pc := 9) C dX4_codeAt_9 ?_
  rw [cW_u hi]
  refine j_l2i (pc := 10) C dX4_codeAt_10 ?_
  exact Rt _ _ _ _ _ _ (by decide) (by decide) ⟨rfl, rfl⟩ dX4_codeAt_11

set_option maxHeartbeats 4000000 in
set_option maxRecDepth 100000 in
theorem c_lettersIn (l : Launch) (D : va_G) (Y : Nat → ClassId) (RO : va_W) (w : Int)   : jMi l yX4_lettersIn wsX4_lettersIn { frames := 1, cells := 0, slots := 0, locals := 22 } D Y RO [vL w] [] (fun e w1 => e = lnI w ∧ w1 = []) := by
  refine j_ofi RX4 rfl rfl rfl (Nat.le_of_ble_eq_true rfl) (fun X C Rt => ?_)
  refine j_iconst (pc := 0) C dX4_lettersIn_0 ?_
  refine j_istore_n (pc := 1) (lc' := [(2, vI 0), (0, vL w)]) C 2 rfl (by decide) rfl dX4_lettersIn_1 ?_
  refine j_iconst (pc := 2) C dX4_lettersIn_2 ?_
  refine j_istore_n (pc := 3) (lc' := [(3, vI 0), (2, vI 0), (0, vL w)]) C 3 rfl (by decide) rfl dX4_lettersIn_3 ?_
  have hL4 : ∀ (N4 : Nat) (m : Int) (i : Int), ((8 - i).toNat) < N4 → (0 ≤ i ∧ i ≤ 8) → (0 ≤ m ∧ m ≤ i) → (fo (lnF w) i 0 = m) → jW X 5 0 0 [] [(0, vL w), (2, vI m), (3, vI i)] 4 [] := by
    intro N4
    induction N4 with
    | zero => intro m i hm4 i4_0 i4_1 i4_2; omega
    | succ N4 ih4 =>
      intro m i hm4 i4_0 i4_1 i4_2
      refine j_iload_n (pc := 4) C 3 2 rfl rfl dX4_lettersIn_4 ?_
      refine j_bipush (pc := 5) (w := 8) C rfl dX4_lettersIn_5 ?_
      refine j_icmp_ge (pc := 7) C 50 rfl (by omega) dX4_lettersIn_7 (fun h_1p7 => ?_) (fun h_1p7 => ?_)
      · skip
        refine j_iload_n (pc := 50) C 2 1 rfl rfl dX4_lettersIn_50 ?_
        exact Rt _ _ _ _ _ _ (by decide) (by decide) ⟨by rw [← i4_2, show i = 8 by omega]; rfl, rfl⟩ dX4_lettersIn_51
      · skip
        refine j_lload_n (pc := 10) C 0 0 rfl rfl dX4_lettersIn_10 ?_
        refine j_iload_n (pc := 11) C 3 2 rfl rfl dX4_lettersIn_11 ?_
        refine j_callSi (pc := 12) (As := [vL w, vI i]) (na := 2) (st := []) C [] [] (wr := []) (fun l => c_codeAt l D Y _ w i (by first | assumption | omega)) rfl rfl rfl rfl (by decide) rfl gX4_lettersIn_X4_codeAt (by decide +kernel) (by decide) rfl rfl (Nat.le_of_ble_eq_true rfl) (by decide) dX4_lettersIn_12 (fun e_2 w_3 h_4 => ?_)
        obtain ⟨rfl, rfl⟩ := h_4
        refine j_perm (ws' := []) [] rfl rfl ?_
        have hcw := codeW_in w i
        refine j_istore (pc := 15) (lc' := [(4, vI (codeW w i)), (0, vL w), (2, vI m), (3, vI i)]) C (by decide) rfl dX4_lettersIn_15 ?_
        refine j_iload (pc := 17) C 0 rfl dX4_lettersIn_17 ?_
        refine j_bipush (pc := 19) (w := 126) C rfl dX4_lettersIn_19 ?_
        refine j_icmp_gt (pc := 21) C 34 rfl (by omega) dX4_lettersIn_21 (fun h_5p21 => ?_) (fun h_5p21 => ?_)
        · skip
          refine j_iconst (pc := 34) C dX4_lettersIn_34 ?_
          exact Rt _ _ _ _ _ _ (by decide) (by decide) ⟨(ln_bad (by omega) i4_2 (by omega)).symm, rfl⟩ dX4_lettersIn_35
        · skip
          refine j_iload (pc := 24) C 0 rfl dX4_lettersIn_24 ?_
          refine j_if_eq (pc := 26) C 36 rfl (by omega) dX4_lettersIn_26 (fun h_6p26 => ?_) (fun h_6p26 => ?_)
          · skip
            refine j_iload (pc := 36) C 0 rfl dX4_lettersIn_36 ?_
            refine j_if_eq (pc := 38) C 44 rfl (by omega) dX4_lettersIn_38 (fun h_7p38 => ?_) (fun h_7p38 => ?_)
            · skip
              refine j_iinc (pc := 44) (lc' := [(3, vI (i + 1)), (4, vI (codeW w i)), (0, vL w), (2, vI m)]) C 3 rfl (by decide) rfl dX4_lettersIn_44 ?_
              refine j_goto (pc := 47) C 4 rfl dX4_lettersIn_47 ?_
              refine j_locals (lc' := [(0, vL w), (2, vI m), (3, vI (i + 1))]) [2, 3, 0] rfl ?_
              exact ih4 m (i + 1) (by omega) (by omega) (by omega) (by first | (exfalso; omega) | (rw [ln_step (by omega) (by omega) i4_2 (by omega)]; first | rw [if_pos (by omega)] | rw [if_neg (by omega)]))
            · skip
              refine j_iinc (pc := 41) (lc' := [(2, vI (m + 1)), (4, vI (codeW w i)), (0, vL w), (3, vI i)]) C 2 rfl (by decide) rfl dX4_lettersIn_41 ?_
              refine j_iinc (pc := 44) (lc' := [(3, vI (i + 1)), (2, vI (m + 1)), (4, vI (codeW w i)), (0, vL w)]) C 3 rfl (by decide) rfl dX4_lettersIn_44 ?_
              refine j_goto (pc := 47) C 4 rfl dX4_lettersIn_47 ?_
              refine j_locals (lc' := [(0, vL w), (2, vI (m + 1)), (3, vI (i + 1))]) [3, 1, 0] rfl ?_
              exact ih4 (m + 1) (i + 1) (by omega) (by omega) (by omega) (by first | (exfalso; omega) | (rw [ln_step (by omega) (by omega) i4_2 (by omega)]; first | rw [if_pos (by omega)] | rw [if_neg (by omega)]))
          · skip
            refine j_iload_n (pc := 29) C 2 2 rfl rfl dX4_lettersIn_29 ?_
            refine j_iload_n (pc := 30) C 3 3 rfl rfl dX4_lettersIn_30 ?_
            refine j_icmp_ge (pc := 31) C 36 rfl (by omega) dX4_lettersIn_31 (fun h_8p31 => ?_) (fun h_8p31 => ?_)
            · skip
              refine j_iload (pc := 36) C 0 rfl dX4_lettersIn_36 ?_
              refine j_if_eq (pc := 38) C 44 rfl (by omega) dX4_lettersIn_38 (fun h_9p38 => ?_) (fun h_9p38 => ?_)
              · skip
                refine j_iinc (pc := 44) (lc' := [(3, vI (i + 1)), (4, vI (codeW w i)), (0, vL w), (2, vI m)]) C 3 rfl (by decide) rfl dX4_lettersIn_44 ?_
                refine j_goto (pc := 47) C 4 rfl dX4_lettersIn_47 ?_
                refine j_locals (lc' := [(0, vL w), (2, vI m), (3, vI (i + 1))]) [2, 3, 0] rfl ?_
                exact ih4 m (i + 1) (by omega) (by omega) (by omega) (by first | (exfalso; omega) | (rw [ln_step (by omega) (by omega) i4_2 (by omega)]; first | rw [if_pos (by omega)] | rw [if_neg (by omega)]))
              · skip
                refine j_iinc (pc := 41) (lc' := [(2, vI (m + 1)), (4, vI (codeW w i)), (0, vL w), (3, vI i)]) C 2 rfl (by decide) rfl dX4_lettersIn_41 ?_
                refine j_iinc (pc := 44) (lc' := [(3, vI (i + 1)), (2, vI (m + 1)), (4, vI (codeW w i)), (0, vL w)]) C 3 rfl (by decide) rfl dX4_lettersIn_44 ?_
                refine j_goto (pc := 47) C 4 rfl dX4_lettersIn_47 ?_
                refine j_locals (lc' := [(0, vL w), (2, vI (m + 1)), (3, vI (i + 1))]) [3, 1, 0] rfl ?_
                exact ih4 (m + 1) (i + 1) (by omega) (by omega) (by omega) (by first | (exfalso; omega) | (rw [ln_step (by omega) (by omega) i4_2 (by omega)]; first | rw [if_pos (by omega)] | rw [if_neg (by omega)]))
            · skip
              refine j_iconst (pc := 34) C dX4_lettersIn_34 ?_
              exact Rt _ _ _ _ _ _ (by decide) (by decide) ⟨(ln_bad (by omega) i4_2 (by omega)).symm, rfl⟩ dX4_lettersIn_35
  refine j_locals (lc' := [(0, vL w), (2, vI 0), (3, vI 0)]) [2, 1, 0] rfl ?_
  exact hL4 _ 0 0 (Nat.lt_succ_self _) (by omega) (by omega) rfl

theorem fX4_write_X4 : ∀ w ∈ u_ws RX4 TX4 2, w ∈ wsX4_write := j_words [8, 9] (by decide +kernel)
set_option maxHeartbeats 4000000 in
set_option maxRecDepth 100000 in
theorem c_write (l : Launch) (D : va_G) (Y : Nat → ClassId) (RO : va_W) (h : Nat) (hc : Nat) (pg : Int → Int) (pl : Int) (w : Int) (n : Int)  (hn : 0 ≤ n ∧ n ≤ 8) (hp : 0 ≤ pl ∧ pl + n ≤ 16) : jMv l yX4_write wsX4_write { frames := 1, cells := 0, slots := 0, locals := 22 } D Y RO [.ref h, vL w, vI n] [(h, oC 3 [.ref hc, vI pl]), (hc, aI (Y 0) 16 pg)] (fun w1 => w1 = [(h, oC 3 [.ref hc, vI (pl + n)]), (hc, aI (Y 0) 16 (wrI w pl n pg))]) := by
  refine j_ofv RX4 rfl rfl rfl (Nat.le_of_ble_eq_true rfl) (fun X C Rt hI => ?_)
  refine j_iconst (pc := 0) C dX4_write_0 ?_
  refine j_istore (pc := 1) (lc' := [(4, vI 0), (0, .ref h), (1, vL w), (3, vI n)]) C (by decide) rfl dX4_write_1 ?_
  have hL3 : ∀ (N3 : Nat) (i : Int) (e : Int) (z : Int → Int), ((n - i).toNat) < N3 → (0 ≤ i ∧ i ≤ n) → (e = pl + i) → (z = wrI w pl i pg) → jW X 5 0 0 [(h, oC 3 [.ref hc, vI e]), (hc, aI (Y 0) 16 z)] [(0, .ref h), (1, vL w), (3, vI n), (4, vI i)] 3 [] := by
    intro N3
    induction N3 with
    | zero => intro i e z hm3 i3_0 i3_1 i3_2; omega
    | succ N3 ih3 =>
      intro i e z hm3 i3_0 i3_1 i3_2
      refine j_iload (pc := 3) C 3 rfl dX4_write_3 ?_
      refine j_iload_n (pc := 5) C 3 2 rfl rfl dX4_write_5 ?_
      refine j_icmp_ge (pc := 6) C 56 rfl (by omega) dX4_write_6 (fun h_1p6 => ?_) (fun h_1p6 => ?_)
      · skip
        exact Rt _ _ _ _ _ (by decide) (by decide) (by first | (exfalso; omega) | rw [show n = i by omega, i3_1, i3_2]) dX4_write_56
      · skip
        refine j_aload_n (pc := 9) C 0 0 rfl rfl dX4_write_9 ?_
        refine j_get (pc := 10) C (Or.inl (List.mem_of_getElem? (i := 0) rfl)) rfl fX4_write_X4 1 (by decide) (List.mem_of_getElem? (i := 1) rfl) (Or.inl rfl) rfl dX4_write_10 ?_
        refine j_if_lt (pc := 13) C 56 rfl (by omega) dX4_write_13 (fun h_2p13 => ?_) (fun h_2p13 => ?_)
        · skip
          exact Rt _ _ _ _ _ (by decide) (by decide) (by first | (exfalso; omega) | rw [show n = i by omega, i3_1, i3_2]) dX4_write_56
        · skip
          refine j_aload_n (pc := 16) C 0 0 rfl rfl dX4_write_16 ?_
          refine j_get (pc := 17) C (Or.inl (List.mem_of_getElem? (i := 0) rfl)) rfl fX4_write_X4 1 (by decide) (List.mem_of_getElem? (i := 1) rfl) (Or.inl rfl) rfl dX4_write_17 ?_
          refine j_bipush (pc := 20) (w := 16) C rfl dX4_write_20 ?_
          refine j_icmp_ge (pc := 22) C 56 rfl (by omega) dX4_write_22 (fun h_3p22 => ?_) (fun h_3p22 => ?_)
          · skip
            exact Rt _ _ _ _ _ (by decide) (by decide) (by first | (exfalso; omega) | rw [show n = i by omega, i3_1, i3_2]) dX4_write_56
          · skip
            refine j_aload_n (pc := 25) C 0 0 rfl rfl dX4_write_25 ?_
            refine j_get (pc := 26) C (Or.inl (List.mem_of_getElem? (i := 0) rfl)) rfl fX4_write_X4 0 (by decide) (List.mem_of_getElem? (i := 2) rfl) (Or.inl rfl) rfl dX4_write_26 ?_
            refine j_aload_n (pc := 29) C 0 0 rfl rfl dX4_write_29 ?_
            refine j_get (pc := 30) C (Or.inl (List.mem_of_getElem? (i := 0) rfl)) rfl fX4_write_X4 1 (by decide) (List.mem_of_getElem? (i := 1) rfl) (Or.inl rfl) rfl dX4_write_30 ?_
            refine j_lload_n (pc := 33) C 1 1 rfl rfl dX4_write_33 ?_
            refine j_iload (pc := 34) C 3 rfl dX4_write_34 ?_
            refine j_callSi (pc := 36) (As := [vL w, vI i]) (na := 2) (st := [vI e, .ref hc]) C [] [0, 1] (wr := [(h, oC 3 [.ref hc, vI e]), (hc, aI (Y 0) 16 z)]) (fun l => c_codeAt l D Y _ w i (by first | assumption | omega)) rfl rfl rfl rfl (by decide) rfl gX4_write_X4_codeAt (by decide +kernel) (by decide) rfl rfl (Nat.le_of_ble_eq_true rfl) (by decide) dX4_write_36 (fun e_4 w_5 h_6 => ?_)
            obtain ⟨rfl, rfl⟩ := h_6
            refine j_perm (ws' := [(h, oC 3 [.ref hc, vI e]), (hc, aI (Y 0) 16 z)]) [0, 1] rfl rfl ?_
            refine j_iast (pc := 39) (ws' := [(h, oC 3 [.ref hc, vI e]), (hc, aI (Y 0) 16 (up z e (codeW w i)))]) C 1 rfl rfl (by omega) (by decide) rfl dX4_write_39 ?_
            refine j_aload_n (pc := 40) C 0 0 rfl rfl dX4_write_40 ?_
            refine j_dup (pc := 41) C rfl dX4_write_41 ?_
            refine j_get (pc := 42) C (Or.inl (List.mem_of_getElem? (i := 0) rfl)) rfl fX4_write_X4 1 (by decide) (List.mem_of_getElem? (i := 1) rfl) (Or.inl rfl) rfl dX4_write_42 ?_
            refine j_iconst (pc := 45) C dX4_write_45 ?_
            refine j_iadd (pc := 46) C dX4_write_46 ?_
            refine j_put (pc := 47) (ws' := [(h, oC 3 [.ref hc, vI (e + 1)]), (hc, aI (Y 0) 16 (up z e (codeW w i)))]) C 0 rfl rfl fX4_write_X4 tyX4_ok nmX4 1 (by decide) (List.mem_of_getElem? (i := 1) rfl) (Or.inl rfl) rfl rfl rfl rfl (Nat.le_of_ble_eq_true rfl) rfl dX4_write_47 ?_
            refine j_iinc (pc := 50) (lc' := [(4, vI (i + 1)), (0, .ref h), (1, vL w), (3, vI n)]) C 3 rfl (by decide) rfl dX4_write_50 ?_
            refine j_goto (pc := 53) C 3 rfl dX4_write_53 ?_
            refine j_locals (lc' := [(0, .ref h), (1, vL w), (3, vI n), (4, vI (i + 1))]) [1, 2, 3, 0] rfl ?_
            exact ih3 (i + 1) (e + 1) (up z e (codeW w i)) (by omega) (by omega) (by omega) (by rw [wrI_succ (by omega), i3_1, i3_2])
  refine j_locals (lc' := [(0, .ref h), (1, vL w), (3, vI n), (4, vI 0)]) [1, 2, 3, 0] rfl ?_
  exact hL3 _ 0 pl pg (Nat.lt_succ_self _) (by omega) (by omega) rfl

theorem fX4_codeOf_X4 : ∀ w ∈ u_ws RX4 TX4 2, w ∈ wsX4_codeOf := j_words [2, 3] (by decide +kernel)
set_option maxHeartbeats 4000000 in
set_option maxRecDepth 100000 in
theorem c_codeOf (l : Launch) (D : va_G) (Y : Nat → ClassId) (RO : va_W) (h : Nat) (hc : Nat) (pg : Int → Int) (pl : Int) (i : Int) (p0 : (h, oC 3 [.ref hc, vI pl]) ∈ RO) (p1 : (hc, aI (Y 0) 16 pg) ∈ RO) (hi : 0 ≤ i ∧ i < 16) : jMi l yX4_codeOf wsX4_codeOf { frames := 0, cells := 0, slots := 0, locals := 0 } D Y RO [.ref h, vI i] [] (fun e w1 => e = (pg i) ∧ w1 = []) := by
  refine j_ofi RX4 rfl rfl rfl (Nat.le_of_ble_eq_true rfl) (fun X C Rt => ?_)
  refine j_iload_n (pc := 0) C 1 1 rfl rfl dX4_codeOf_0 ?_
  refine j_if_lt (pc := 1) C 10 rfl (by omega) dX4_codeOf_1 (fun h_1p1 => ?_) (fun h_1p1 => ?_)
  · skip
    exfalso; omega
  · skip
    refine j_iload_n (pc := 4) C 1 1 rfl rfl dX4_codeOf_4 ?_
    refine j_bipush (pc := 5) (w := 16) C rfl dX4_codeOf_5 ?_
    refine j_icmp_lt (pc := 7) C 14 rfl (by omega) dX4_codeOf_7 (fun h_2p7 => ?_) (fun h_2p7 => ?_)
    · skip
      refine j_aload_n (pc := 14) C 0 0 rfl rfl dX4_codeOf_14 ?_
      refine j_get (pc := 15) C (Or.inr p0) rfl fX4_codeOf_X4 0 (by decide) (List.mem_of_getElem? (i := 1) rfl) (Or.inl rfl) rfl dX4_codeOf_15 ?_
      refine j_iload_n (pc := 18) C 1 1 rfl rfl dX4_codeOf_18 ?_
      refine j_iald (pc := 19) C (Or.inr p1) rfl (by omega) (by decide) dX4_codeOf_19 ?_
      exact Rt _ _ _ _ _ _ (by decide) (by decide) ⟨rfl, rfl⟩ dX4_codeOf_20
    · skip
      exfalso; omega

set_option maxHeartbeats 4000000 in
set_option maxRecDepth 100000 in
theorem c_ruleOf (l : Launch) (D : va_G) (Y : Nat → ClassId) (RO : va_W) (c : Int)  (hc : -2147483648 ≤ c ∧ c ≤ 2147483647) : jMi l yX4_ruleOf wsX4_ruleOf { frames := 0, cells := 0, slots := 0, locals := 0 } D Y RO [vI c] [] (fun e w1 => e = ruleI c ∧ w1 = []) := by
  refine j_ofi RX4 rfl rfl rfl (Nat.le_of_ble_eq_true rfl) (fun X C Rt => ?_)
  refine j_iload_n (pc := 0) C 0 0 rfl rfl dX4_ruleOf_0 ?_
  refine j_bipush (pc := 1) (w := 48) C rfl dX4_ruleOf_1 ?_
  refine j_icmp_lt (pc := 3) C 17 rfl (by omega) dX4_ruleOf_3 (fun h_1p3 => ?_) (fun h_1p3 => ?_)
  · skip
    refine j_iload_n (pc := 17) C 0 0 rfl rfl dX4_ruleOf_17 ?_
    rcases (show c = 108 ∨ c = 109 ∨ c = 110 ∨ c = 111 ∨ c = 112 ∨ (c < 108 ∨ 112 < c) by omega) with h_2p18 | h_2p18 | h_2p18 | h_2p18 | h_2p18 | h_2p18
    · refine j_tableC (pc := 18) C 108 55 h_2p18 (by decide) rfl rfl dX4_ruleOf_18 ?_
      refine j_bipush (pc := 55) (w := 8) C rfl dX4_ruleOf_55 ?_
      exact Rt _ _ _ _ _ _ (by decide) (by decide) ⟨by unfold ruleI; first | (exfalso; omega) | rw [if_pos (by omega)] | (rw [if_neg (by omega)]; first | rw [if_pos (by omega)] | (rw [if_neg (by omega)]; first | rw [if_pos (by omega)] | (rw [if_neg (by omega)]; first | rw [if_pos (by omega)] | (rw [if_neg (by omega)]; first | rw [if_pos (by omega)] | rw [if_neg (by omega)])))), rfl⟩ dX4_ruleOf_57
    · refine j_tableC (pc := 18) C 109 52 h_2p18 (by decide) rfl rfl dX4_ruleOf_18 ?_
      refine j_bipush (pc := 52) (w := 7) C rfl dX4_ruleOf_52 ?_
      exact Rt _ _ _ _ _ _ (by decide) (by decide) ⟨by unfold ruleI; first | (exfalso; omega) | rw [if_pos (by omega)] | (rw [if_neg (by omega)]; first | rw [if_pos (by omega)] | (rw [if_neg (by omega)]; first | rw [if_pos (by omega)] | (rw [if_neg (by omega)]; first | rw [if_pos (by omega)] | (rw [if_neg (by omega)]; first | rw [if_pos (by omega)] | rw [if_neg (by omega)])))), rfl⟩ dX4_ruleOf_54
    · refine j_tableC (pc := 18) C 110 61 h_2p18 (by decide) rfl rfl dX4_ruleOf_18 ?_
      refine j_bipush (pc := 61) (w := 10) C rfl dX4_ruleOf_61 ?_
      exact Rt _ _ _ _ _ _ (by decide) (by decide) ⟨by unfold ruleI; first | (exfalso; omega) | rw [if_pos (by omega)] | (rw [if_neg (by omega)]; first | rw [if_pos (by omega)] | (rw [if_neg (by omega)]; first | rw [if_pos (by omega)] | (rw [if_neg (by omega)]; first | rw [if_pos (by omega)] | (rw [if_neg (by omega)]; first | rw [if_pos (by omega)] | rw [if_neg (by omega)])))), rfl⟩ dX4_ruleOf_63
    · refine j_tableC (pc := 18) C 111 64 h_2p18 (by decide) rfl rfl dX4_ruleOf_18 ?_
      refine j_iconst (pc := 64) C dX4_ruleOf_64 ?_
      exact Rt _ _ _ _ _ _ (by decide) (by decide) ⟨by unfold ruleI; first | (exfalso; omega) | rw [if_pos (by omega)] | (rw [if_neg (by omega)]; first | rw [if_pos (by omega)] | (rw [if_neg (by omega)]; first | rw [if_pos (by omega)] | (rw [if_neg (by omega)]; first | rw [if_pos (by omega)] | (rw [if_neg (by omega)]; first | rw [if_pos (by omega)] | rw [if_neg (by omega)])))), rfl⟩ dX4_ruleOf_65
    · refine j_tableC (pc := 18) C 112 58 h_2p18 (by decide) rfl rfl dX4_ruleOf_18 ?_
      refine j_bipush (pc := 58) (w := 9) C rfl dX4_ruleOf_58 ?_
      exact Rt _ _ _ _ _ _ (by decide) (by decide) ⟨by unfold ruleI; first | (exfalso; omega) | rw [if_pos (by omega)] | (rw [if_neg (by omega)]; first | rw [if_pos (by omega)] | (rw [if_neg (by omega)]; first | rw [if_pos (by omega)] | (rw [if_neg (by omega)]; first | rw [if_pos (by omega)] | (rw [if_neg (by omega)]; first | rw [if_pos (by omega)] | rw [if_neg (by omega)])))), rfl⟩ dX4_ruleOf_60
    · refine j_tableD (pc := 18) C 64 (by omega) h_2p18 rfl dX4_ruleOf_18 ?_
      refine j_iconst (pc := 64) C dX4_ruleOf_64 ?_
      exact Rt _ _ _ _ _ _ (by decide) (by decide) ⟨by unfold ruleI; first | (exfalso; omega) | rw [if_pos (by omega)] | (rw [if_neg (by omega)]; first | rw [if_pos (by omega)] | (rw [if_neg (by omega)]; first | rw [if_pos (by omega)] | (rw [if_neg (by omega)]; first | rw [if_pos (by omega)] | (rw [if_neg (by omega)]; first | rw [if_pos (by omega)] | rw [if_neg (by omega)])))), rfl⟩ dX4_ruleOf_65
  · skip
    refine j_iload_n (pc := 6) C 0 0 rfl rfl dX4_ruleOf_6 ?_
    refine j_bipush (pc := 7) (w := 54) C rfl dX4_ruleOf_7 ?_
    refine j_icmp_gt (pc := 9) C 17 rfl (by omega) dX4_ruleOf_9 (fun h_3p9 => ?_) (fun h_3p9 => ?_)
    · skip
      refine j_iload_n (pc := 17) C 0 0 rfl rfl dX4_ruleOf_17 ?_
      rcases (show c = 108 ∨ c = 109 ∨ c = 110 ∨ c = 111 ∨ c = 112 ∨ (c < 108 ∨ 112 < c) by omega) with h_4p18 | h_4p18 | h_4p18 | h_4p18 | h_4p18 | h_4p18
      · refine j_tableC (pc := 18) C 108 55 h_4p18 (by decide) rfl rfl dX4_ruleOf_18 ?_
        refine j_bipush (pc := 55) (w := 8) C rfl dX4_ruleOf_55 ?_
        exact Rt _ _ _ _ _ _ (by decide) (by decide) ⟨by unfold ruleI; first | (exfalso; omega) | rw [if_pos (by omega)] | (rw [if_neg (by omega)]; first | rw [if_pos (by omega)] | (rw [if_neg (by omega)]; first | rw [if_pos (by omega)] | (rw [if_neg (by omega)]; first | rw [if_pos (by omega)] | (rw [if_neg (by omega)]; first | rw [if_pos (by omega)] | rw [if_neg (by omega)])))), rfl⟩ dX4_ruleOf_57
      · refine j_tableC (pc := 18) C 109 52 h_4p18 (by decide) rfl rfl dX4_ruleOf_18 ?_
        refine j_bipush (pc := 52) (w := 7) C rfl dX4_ruleOf_52 ?_
        exact Rt _ _ _ _ _ _ (by decide) (by decide) ⟨by unfold ruleI; first | (exfalso; omega) | rw [if_pos (by omega)] | (rw [if_neg (by omega)]; first | rw [if_pos (by omega)] | (rw [if_neg (by omega)]; first | rw [if_pos (by omega)] | (rw [if_neg (by omega)]; first | rw [if_pos (by omega)] | (rw [if_neg (by omega)]; first | rw [if_pos (by omega)] | rw [if_neg (by omega)])))), rfl⟩ dX4_ruleOf_54
      · refine j_tableC (pc := 18) C 110 61 h_4p18 (by decide) rfl rfl dX4_ruleOf_18 ?_
        refine j_bipush (pc := 61) (w := 10) C rfl dX4_ruleOf_61 ?_
        exact Rt _ _ _ _ _ _ (by decide) (by decide) ⟨by unfold ruleI; first | (exfalso; omega) | rw [if_pos (by omega)] | (rw [if_neg (by omega)]; first | rw [if_pos (by omega)] | (rw [if_neg (by omega)]; first | rw [if_pos (by omega)] | (rw [if_neg (by omega)]; first | rw [if_pos (by omega)] | (rw [if_neg (by omega)]; first | rw [if_pos (by omega)] | rw [if_neg (by omega)])))), rfl⟩ dX4_ruleOf_63
      · refine j_tableC (pc := 18) C 111 64 h_4p18 (by decide) rfl rfl dX4_ruleOf_18 ?_
        refine j_iconst (pc := 64) C dX4_ruleOf_64 ?_
        exact Rt _ _ _ _ _ _ (by decide) (by decide) ⟨by unfold ruleI; first | (exfalso; omega) | rw [if_pos (by omega)] | (rw [if_neg (by omega)]; first | rw [if_pos (by omega)] | (rw [if_neg (by omega)]; first | rw [if_pos (by omega)] | (rw [if_neg (by omega)]; first | rw [if_pos (by omega)] | (rw [if_neg (by omega)]; first | rw [if_pos (by omega)] | rw [if_neg (by omega)])))), rfl⟩ dX4_ruleOf_65
      · refine j_tableC (pc := 18) C 112 58 h_4p18 (by decide) rfl rfl dX4_ruleOf_18 ?_
        refine j_bipush (pc := 58) (w := 9) C rfl dX4_ruleOf_58 ?_
        exact Rt _ _ _ _ _ _ (by decide) (by decide) ⟨by unfold ruleI; first | (exfalso; omega) | rw [if_pos (by omega)] | (rw [if_neg (by omega)]; first | rw [if_pos (by omega)] | (rw [if_neg (by omega)]; first | rw [if_pos (by omega)] | (rw [if_neg (by omega)]; first | rw [if_pos (by omega)] | (rw [if_neg (by omega)]; first | rw [if_pos (by omega)] | rw [if_neg (by omega)])))), rfl⟩ dX4_ruleOf_60
      · refine j_tableD (pc := 18) C 64 (by omega) h_4p18 rfl dX4_ruleOf_18 ?_
        refine j_iconst (pc := 64) C dX4_ruleOf_64 ?_
        exact Rt _ _ _ _ _ _ (by decide) (by decide) ⟨by unfold ruleI; first | (exfalso; omega) | rw [if_pos (by omega)] | (rw [if_neg (by omega)]; first | rw [if_pos (by omega)] | (rw [if_neg (by omega)]; first | rw [if_pos (by omega)] | (rw [if_neg (by omega)]; first | rw [if_pos (by omega)] | (rw [if_neg (by omega)]; first | rw [if_pos (by omega)] | rw [if_neg (by omega)])))), rfl⟩ dX4_ruleOf_65
    · skip
      refine j_iload_n (pc := 12) C 0 0 rfl rfl dX4_ruleOf_12 ?_
      refine j_bipush (pc := 13) (w := 48) C rfl dX4_ruleOf_13 ?_
      refine j_isub (pc := 15) C dX4_ruleOf_15 ?_
      exact Rt _ _ _ _ _ _ (by decide) (by decide) ⟨by unfold ruleI; first | (exfalso; omega) | rw [if_pos (by omega)] | (rw [if_neg (by omega)]; first | rw [if_pos (by omega)] | (rw [if_neg (by omega)]; first | rw [if_pos (by omega)] | (rw [if_neg (by omega)]; first | rw [if_pos (by omega)] | (rw [if_neg (by omega)]; first | rw [if_pos (by omega)] | rw [if_neg (by omega)])))), rfl⟩ dX4_ruleOf_16

set_option maxHeartbeats 4000000 in
set_option maxRecDepth 100000 in
theorem c_fits (l : Launch) (D : va_G) (Y : Nat → ClassId) (RO : va_W) (i : Int) (c : Int)  (hi : -2147483648 ≤ i ∧ i ≤ 2147483647) (hc : -2147483648 ≤ c ∧ c ≤ 2147483647) : jMi l yX4_fits wsX4_fits { frames := 1, cells := 0, slots := 0, locals := 20 } D Y RO [vI i, vI c] [] (fun e w1 => e = (if fitP i c then 1 else 0) ∧ w1 = []) := by
  refine j_ofz RX4 rfl rfl rfl (Nat.le_of_ble_eq_true rfl) (fun X C Rt => ?_)
  have hru := ruleI_in c
  refine j_iload_n (pc := 0) C 0 0 rfl rfl dX4_fits_0 ?_
  rcases (show i = 0 ∨ i = 1 ∨ i = 2 ∨ i = 3 ∨ i = 4 ∨ i = 5 ∨ (i < 0 ∨ 5 < i) by omega) with h_1p1 | h_1p1 | h_1p1 | h_1p1 | h_1p1 | h_1p1 | h_1p1
  · refine j_tableC (pc := 1) C 0 40 h_1p1 (by decide) rfl rfl dX4_fits_1 ?_
    refine j_iload_n (pc := 40) C 1 1 rfl rfl dX4_fits_40 ?_
    refine j_bipush (pc := 41) (w := 119) C rfl dX4_fits_41 ?_
    refine j_icmp_ne (pc := 43) C 50 rfl (by omega) dX4_fits_43 (fun h_2p43 => ?_) (fun h_2p43 => ?_)
    · skip
      refine j_iconst (pc := 50) C dX4_fits_50 ?_
      exact Rt _ _ _ _ _ _ (by decide) (by decide) (by decide) ⟨by unfold fitP; split <;> omega, rfl⟩ dX4_fits_51
    · skip
      refine j_iconst (pc := 46) C dX4_fits_46 ?_
      refine j_goto (pc := 47) C 51 rfl dX4_fits_47 ?_
      exact Rt _ _ _ _ _ _ (by decide) (by decide) (by decide) ⟨by unfold fitP; split <;> omega, rfl⟩ dX4_fits_51
  · refine j_tableC (pc := 1) C 1 52 h_1p1 (by decide) rfl rfl dX4_fits_1 ?_
    refine j_iload_n (pc := 52) C 1 1 rfl rfl dX4_fits_52 ?_
    refine j_callSi (pc := 53) (As := [vI c]) (na := 1) (st := []) C [] [] (wr := []) (fun l => c_ruleOf l D Y _ c (by first | assumption | omega)) rfl rfl rfl rfl (by decide) rfl gX4_fits_X4_ruleOf (by decide +kernel) (by decide) rfl rfl (Nat.le_of_ble_eq_true rfl) (by decide) dX4_fits_53 (fun e_3 w_4 h_5 => ?_)
    obtain ⟨rfl, rfl⟩ := h_5
    refine j_perm (ws' := []) [] rfl rfl ?_
    refine j_iconst (pc := 56) C dX4_fits_56 ?_
    refine j_icmp_eq (pc := 57) C 64 rfl (by omega) dX4_fits_57 (fun h_6p57 => ?_) (fun h_6p57 => ?_)
    · skip
      refine j_iconst (pc := 64) C dX4_fits_64 ?_
      exact Rt _ _ _ _ _ _ (by decide) (by decide) (by decide) ⟨by unfold fitP; split <;> omega, rfl⟩ dX4_fits_65
    · skip
      refine j_iconst (pc := 60) C dX4_fits_60 ?_
      refine j_goto (pc := 61) C 65 rfl dX4_fits_61 ?_
      exact Rt _ _ _ _ _ _ (by decide) (by decide) (by decide) ⟨by unfold fitP; split <;> omega, rfl⟩ dX4_fits_65
  · refine j_tableC (pc := 1) C 2 66 h_1p1 (by decide) rfl rfl dX4_fits_1 ?_
    refine j_iload_n (pc := 66) C 1 1 rfl rfl dX4_fits_66 ?_
    refine j_bipush (pc := 67) (w := 115) C rfl dX4_fits_67 ?_
    refine j_icmp_ne (pc := 69) C 76 rfl (by omega) dX4_fits_69 (fun h_7p69 => ?_) (fun h_7p69 => ?_)
    · skip
      refine j_iconst (pc := 76) C dX4_fits_76 ?_
      exact Rt _ _ _ _ _ _ (by decide) (by decide) (by decide) ⟨by unfold fitP; split <;> omega, rfl⟩ dX4_fits_77
    · skip
      refine j_iconst (pc := 72) C dX4_fits_72 ?_
      refine j_goto (pc := 73) C 77 rfl dX4_fits_73 ?_
      exact Rt _ _ _ _ _ _ (by decide) (by decide) (by decide) ⟨by unfold fitP; split <;> omega, rfl⟩ dX4_fits_77
  · refine j_tableC (pc := 1) C 3 78 h_1p1 (by decide) rfl rfl dX4_fits_1 ?_
    refine j_iload_n (pc := 78) C 1 1 rfl rfl dX4_fits_78 ?_
    refine j_callSi (pc := 79) (As := [vI c]) (na := 1) (st := []) C [] [] (wr := []) (fun l => c_ruleOf l D Y _ c (by first | assumption | omega)) rfl rfl rfl rfl (by decide) rfl gX4_fits_X4_ruleOf (by decide +kernel) (by decide) rfl rfl (Nat.le_of_ble_eq_true rfl) (by decide) dX4_fits_79 (fun e_8 w_9 h_10 => ?_)
    obtain ⟨rfl, rfl⟩ := h_10
    refine j_perm (ws' := []) [] rfl rfl ?_
    refine j_iconst (pc := 82) C dX4_fits_82 ?_
    refine j_icmp_eq (pc := 83) C 90 rfl (by omega) dX4_fits_83 (fun h_11p83 => ?_) (fun h_11p83 => ?_)
    · skip
      refine j_iconst (pc := 90) C dX4_fits_90 ?_
      exact Rt _ _ _ _ _ _ (by decide) (by decide) (by decide) ⟨by unfold fitP; split <;> omega, rfl⟩ dX4_fits_91
    · skip
      refine j_iconst (pc := 86) C dX4_fits_86 ?_
      refine j_goto (pc := 87) C 91 rfl dX4_fits_87 ?_
      exact Rt _ _ _ _ _ _ (by decide) (by decide) (by decide) ⟨by unfold fitP; split <;> omega, rfl⟩ dX4_fits_91
  · refine j_tableC (pc := 1) C 4 92 h_1p1 (by decide) rfl rfl dX4_fits_1 ?_
    refine j_iload_n (pc := 92) C 1 1 rfl rfl dX4_fits_92 ?_
    refine j_bipush (pc := 93) (w := 102) C rfl dX4_fits_93 ?_
    refine j_icmp_ne (pc := 95) C 102 rfl (by omega) dX4_fits_95 (fun h_12p95 => ?_) (fun h_12p95 => ?_)
    · skip
      refine j_iconst (pc := 102) C dX4_fits_102 ?_
      exact Rt _ _ _ _ _ _ (by decide) (by decide) (by decide) ⟨by unfold fitP; split <;> omega, rfl⟩ dX4_fits_103
    · skip
      refine j_iconst (pc := 98) C dX4_fits_98 ?_
      refine j_goto (pc := 99) C 103 rfl dX4_fits_99 ?_
      exact Rt _ _ _ _ _ _ (by decide) (by decide) (by decide) ⟨by unfold fitP; split <;> omega, rfl⟩ dX4_fits_103
  · refine j_tableC (pc := 1) C 5 104 h_1p1 (by decide) rfl rfl dX4_fits_1 ?_
    refine j_iload_n (pc := 104) C 1 1 rfl rfl dX4_fits_104 ?_
    refine j_bipush (pc := 105) (w := 49) C rfl dX4_fits_105 ?_
    refine j_icmp_lt (pc := 107) C 120 rfl (by omega) dX4_fits_107 (fun h_13p107 => ?_) (fun h_13p107 => ?_)
    · skip
      refine j_iconst (pc := 120) C dX4_fits_120 ?_
      exact Rt _ _ _ _ _ _ (by decide) (by decide) (by decide) ⟨by unfold fitP; split <;> omega, rfl⟩ dX4_fits_121
    · skip
      refine j_iload_n (pc := 110) C 1 1 rfl rfl dX4_fits_110 ?_
      refine j_bipush (pc := 111) (w := 57) C rfl dX4_fits_111 ?_
      refine j_icmp_gt (pc := 113) C 120 rfl (by omega) dX4_fits_113 (fun h_14p113 => ?_) (fun h_14p113 => ?_)
      · skip
        refine j_iconst (pc := 120) C dX4_fits_120 ?_
        exact Rt _ _ _ _ _ _ (by decide) (by decide) (by decide) ⟨by unfold fitP; split <;> omega, rfl⟩ dX4_fits_121
      · skip
        refine j_iconst (pc := 116) C dX4_fits_116 ?_
        refine j_goto (pc := 117) C 121 rfl dX4_fits_117 ?_
        exact Rt _ _ _ _ _ _ (by decide) (by decide) (by decide) ⟨by unfold fitP; split <;> omega, rfl⟩ dX4_fits_121
  · refine j_tableD (pc := 1) C 122 (by omega) h_1p1 rfl dX4_fits_1 ?_
    refine j_iconst (pc := 122) C dX4_fits_122 ?_
    exact Rt _ _ _ _ _ _ (by decide) (by decide) (by decide) ⟨by unfold fitP; split <;> omega, rfl⟩ dX4_fits_123

theorem fX4_firstWrong_X4 : ∀ w ∈ u_ws RX4 TX4 2, w ∈ wsX4_firstWrong := j_words [14, 15] (by decide +kernel)
set_option maxHeartbeats 4000000 in
set_option maxRecDepth 100000 in
theorem c_firstWrong (l : Launch) (D : va_G) (Y : Nat → ClassId) (RO : va_W) (h : Nat) (hc : Nat) (pg : Int → Int) (pl : Int) (p0 : (h, oC 3 [.ref hc, vI pl]) ∈ RO) (p1 : (hc, aI (Y 0) 16 pg) ∈ RO) (hp : okPg pg pl) : jMi l yX4_firstWrong wsX4_firstWrong { frames := 2, cells := 0, slots := 0, locals := 41 } D Y RO [.ref h] [] (fun e w1 => e = faultI pg pl ∧ w1 = []) := by
  refine j_ofi RX4 rfl rfl rfl (Nat.le_of_ble_eq_true rfl) (fun X C Rt => ?_)
  have hpl := hp.1
  refine j_iconst (pc := 0) C dX4_firstWrong_0 ?_
  refine j_istore_n (pc := 1) (lc' := [(1, vI 0), (0, .ref h)]) C 1 rfl (by decide) rfl dX4_firstWrong_1 ?_
  have hL2 : ∀ (N2 : Nat) (i : Int), ((pl - i).toNat) < N2 → (0 ≤ i ∧ i ≤ pl) → (fstI (fun i => ¬ fitP i (pg i)) i = -1) → jW X 2 0 0 [] [(0, .ref h), (1, vI i)] 2 [] := by
    intro N2
    induction N2 with
    | zero => intro i hm2 i2_0 i2_1; omega
    | succ N2 ih2 =>
      intro i hm2 i2_0 i2_1
      refine j_iload_n (pc := 2) C 1 1 rfl rfl dX4_firstWrong_2 ?_
      refine j_aload_n (pc := 3) C 0 0 rfl rfl dX4_firstWrong_3 ?_
      refine j_get (pc := 4) C (Or.inr p0) rfl fX4_firstWrong_X4 1 (by decide) (List.mem_of_getElem? (i := 1) rfl) (Or.inl rfl) rfl dX4_firstWrong_4 ?_
      refine j_icmp_ge (pc := 7) C 30 rfl (by omega) dX4_firstWrong_7 (fun h_1p7 => ?_) (fun h_1p7 => ?_)
      · skip
        refine j_aload_n (pc := 30) C 0 0 rfl rfl dX4_firstWrong_30 ?_
        refine j_get (pc := 31) C (Or.inr p0) rfl fX4_firstWrong_X4 1 (by decide) (List.mem_of_getElem? (i := 1) rfl) (Or.inl rfl) rfl dX4_firstWrong_31 ?_
        exact Rt _ _ _ _ _ _ (by decide) (by decide) ⟨by have e : badI pg pl = -1 := (by rw [show pl = i by omega]; exact i2_1); unfold faultI; rw [e, if_pos rfl], rfl⟩ dX4_firstWrong_34
      · skip
        refine j_iload_n (pc := 10) C 1 1 rfl rfl dX4_firstWrong_10 ?_
        have hpi := hp.2 i (by omega) (by omega)
        refine j_aload_n (pc := 11) C 0 0 rfl rfl dX4_firstWrong_11 ?_
        refine j_iload_n (pc := 12) C 1 1 rfl rfl dX4_firstWrong_12 ?_
        refine j_callVi (pc := 13) (As := [vI i]) (na := 1) (st := [vI i]) C [] [] (wr := []) (fun l => c_codeOf l D Y _ h hc pg pl i (List.mem_append_right _ p0) (List.mem_append_right _ p1) (by first | assumption | omega)) rfl rfl rfl rfl (by decide) rfl (Or.inr (List.mem_append_right _ p0)) rfl gX4_firstWrong_X4_codeOf ⟨rfl, by decide +kernel⟩ (by decide) rfl rfl (Nat.le_of_ble_eq_true rfl) (by decide) dX4_firstWrong_13 (fun e_2 w_3 h_4 => ?_)
        obtain ⟨rfl, rfl⟩ := h_4
        refine j_perm (ws' := []) [] rfl rfl ?_
        refine j_callSi (pc := 16) (As := [vI i, vI (pg i)]) (na := 2) (st := []) C [] [] (wr := []) (fun l => c_fits l D Y _ i (pg i) (by first | assumption | omega) (by first | assumption | omega)) rfl rfl rfl rfl (by decide) rfl gX4_firstWrong_X4_fits (by decide +kernel) (by decide) rfl rfl (Nat.le_of_ble_eq_true rfl) (by decide) dX4_firstWrong_16 (fun e_5 w_6 h_7 => ?_)
        obtain ⟨rfl, rfl⟩ := h_7
        refine j_perm (ws' := []) [] rfl rfl ?_
        refine j_if_neb (pc := 19) C 24 rfl dX4_firstWrong_19 (fun h_8p19 => ?_) (fun h_8p19 => ?_)
        · skip
          refine j_iinc (pc := 24) (lc' := [(1, vI (i + 1)), (0, .ref h)]) C 1 rfl (by decide) rfl dX4_firstWrong_24 ?_
          refine j_goto (pc := 27) C 2 rfl dX4_firstWrong_27 ?_
          refine j_locals (lc' := [(0, .ref h), (1, vI (i + 1))]) [1, 0] rfl ?_
          exact ih2 (i + 1) (by omega) (by omega) (fst_step (P := (fun i => ¬ fitP i (pg i))) (by omega) i2_1 (by (try dsimp only); exact not_not_intro (by assumption)))
        · skip
          refine j_iload_n (pc := 22) C 1 1 rfl rfl dX4_firstWrong_22 ?_
          exact Rt _ _ _ _ _ _ (by decide) (by decide) ⟨by have e : badI pg pl = i := fst_hit (P := (fun i => ¬ fitP i (pg i))) (by omega) (by omega) i2_1 (by assumption); unfold faultI; rw [e, if_neg (by omega)], rfl⟩ dX4_firstWrong_23
  refine j_locals (lc' := [(0, .ref h), (1, vI 0)]) [1, 0] rfl ?_
  exact hL2 _ 0 (Nat.lt_succ_self _) (by omega) rfl

theorem fX4_isCustom_X4 : ∀ w ∈ u_ws RX4 TX4 2, w ∈ wsX4_isCustom := j_words [18, 19] (by decide +kernel)
set_option maxHeartbeats 4000000 in
set_option maxRecDepth 100000 in
theorem c_pisCustom (l : Launch) (D : va_G) (Y : Nat → ClassId) (RO : va_W) (h : Nat) (hc : Nat) (pg : Int → Int) (pl : Int) (p0 : (h, oC 3 [.ref hc, vI pl]) ∈ RO) (p1 : (hc, aI (Y 0) 16 pg) ∈ RO) (hp : okPg pg pl) : jMi l yX4_isCustom wsX4_isCustom { frames := 3, cells := 0, slots := 0, locals := 62 } D Y RO [.ref h] [] (fun e w1 => e = (if cusP pg pl then 1 else 0) ∧ w1 = []) := by
  refine j_ofz RX4 rfl rfl rfl (Nat.le_of_ble_eq_true rfl) (fun X C Rt => ?_)
  have hpl := hp.1
  have hfi := faultI_in hp
  refine j_aload_n (pc := 0) C 0 0 rfl rfl dX4_isCustom_0 ?_
  refine j_get (pc := 1) C (Or.inr p0) rfl fX4_isCustom_X4 1 (by decide) (List.mem_of_getElem? (i := 1) rfl) (Or.inl rfl) rfl dX4_isCustom_1 ?_
  refine j_iconst (pc := 4) C dX4_isCustom_4 ?_
  refine j_icmp_eq (pc := 5) C 17 rfl (by omega) dX4_isCustom_5 (fun h_1p5 => ?_) (fun h_1p5 => ?_)
  · skip
    refine j_aload_n (pc := 17) C 0 0 rfl rfl dX4_isCustom_17 ?_
    refine j_callVi (pc := 18) (As := []) (na := 0) (st := []) C [] [] (wr := []) (fun l => c_firstWrong l D Y _ h hc pg pl (List.mem_append_right _ p0) (List.mem_append_right _ p1) (by first | assumption | omega)) rfl rfl rfl rfl (by decide) rfl (Or.inr (List.mem_append_right _ p0)) rfl gX4_isCustom_X4_firstWrong ⟨rfl, by decide +kernel⟩ (by decide) rfl rfl (Nat.le_of_ble_eq_true rfl) (by decide) dX4_isCustom_18 (fun e_2 w_3 h_4 => ?_)
    obtain ⟨rfl, rfl⟩ := h_4
    refine j_perm (ws' := []) [] rfl rfl ?_
    refine j_aload_n (pc := 21) C 0 0 rfl rfl dX4_isCustom_21 ?_
    refine j_get (pc := 22) C (Or.inr p0) rfl fX4_isCustom_X4 1 (by decide) (List.mem_of_getElem? (i := 1) rfl) (Or.inl rfl) rfl dX4_isCustom_22 ?_
    refine j_icmp_ne (pc := 25) C 32 rfl (by omega) dX4_isCustom_25 (fun h_5p25 => ?_) (fun h_5p25 => ?_)
    · skip
      refine j_iconst (pc := 32) C dX4_isCustom_32 ?_
      exact Rt _ _ _ _ _ _ (by decide) (by decide) (by decide) ⟨by unfold cusP; split <;> omega, rfl⟩ dX4_isCustom_33
    · skip
      refine j_iconst (pc := 28) C dX4_isCustom_28 ?_
      refine j_goto (pc := 29) C 33 rfl dX4_isCustom_29 ?_
      exact Rt _ _ _ _ _ _ (by decide) (by decide) (by decide) ⟨by unfold cusP; split <;> omega, rfl⟩ dX4_isCustom_33
  · skip
    refine j_aload_n (pc := 8) C 0 0 rfl rfl dX4_isCustom_8 ?_
    refine j_get (pc := 9) C (Or.inr p0) rfl fX4_isCustom_X4 1 (by decide) (List.mem_of_getElem? (i := 1) rfl) (Or.inl rfl) rfl dX4_isCustom_9 ?_
    refine j_bipush (pc := 12) (w := 6) C rfl dX4_isCustom_12 ?_
    refine j_icmp_ne (pc := 14) C 32 rfl (by omega) dX4_isCustom_14 (fun h_6p14 => ?_) (fun h_6p14 => ?_)
    · skip
      refine j_iconst (pc := 32) C dX4_isCustom_32 ?_
      exact Rt _ _ _ _ _ _ (by decide) (by decide) (by decide) ⟨by unfold cusP; split <;> omega, rfl⟩ dX4_isCustom_33
    · skip
      refine j_aload_n (pc := 17) C 0 0 rfl rfl dX4_isCustom_17 ?_
      refine j_callVi (pc := 18) (As := []) (na := 0) (st := []) C [] [] (wr := []) (fun l => c_firstWrong l D Y _ h hc pg pl (List.mem_append_right _ p0) (List.mem_append_right _ p1) (by first | assumption | omega)) rfl rfl rfl rfl (by decide) rfl (Or.inr (List.mem_append_right _ p0)) rfl gX4_isCustom_X4_firstWrong ⟨rfl, by decide +kernel⟩ (by decide) rfl rfl (Nat.le_of_ble_eq_true rfl) (by decide) dX4_isCustom_18 (fun e_7 w_8 h_9 => ?_)
      obtain ⟨rfl, rfl⟩ := h_9
      refine j_perm (ws' := []) [] rfl rfl ?_
      refine j_aload_n (pc := 21) C 0 0 rfl rfl dX4_isCustom_21 ?_
      refine j_get (pc := 22) C (Or.inr p0) rfl fX4_isCustom_X4 1 (by decide) (List.mem_of_getElem? (i := 1) rfl) (Or.inl rfl) rfl dX4_isCustom_22 ?_
      refine j_icmp_ne (pc := 25) C 32 rfl (by omega) dX4_isCustom_25 (fun h_10p25 => ?_) (fun h_10p25 => ?_)
      · skip
        refine j_iconst (pc := 32) C dX4_isCustom_32 ?_
        exact Rt _ _ _ _ _ _ (by decide) (by decide) (by decide) ⟨by unfold cusP; split <;> omega, rfl⟩ dX4_isCustom_33
      · skip
        refine j_iconst (pc := 28) C dX4_isCustom_28 ?_
        refine j_goto (pc := 29) C 33 rfl dX4_isCustom_29 ?_
        exact Rt _ _ _ _ _ _ (by decide) (by decide) (by decide) ⟨by unfold cusP; split <;> omega, rfl⟩ dX4_isCustom_33

theorem fX1_init_X1 : ∀ w ∈ u_ws RX1 TX1 3, w ∈ wsX1_init := j_words [7, 8, 9] (by decide +kernel)
set_option maxHeartbeats 4000000 in
set_option maxRecDepth 100000 in
theorem c_cusinit (l : Launch) (D : va_G) (Y : Nat → ClassId) (RO : va_W) (a : Nat) (x : Int) (y : Int) (z : Int)   : jMv l yX1_init wsX1_init { frames := 1, cells := 0, slots := 0, locals := 12 } D Y RO [.ref a, vI x, vI y, vI z] [(a, oC 1 [vI 0, vI 0, vI 0])] (fun w1 => w1 = [(a, oC 1 [vI x, vI y, vI z])]) := by
  refine j_ofv RX1 rfl rfl rfl (Nat.le_of_ble_eq_true rfl) (fun X C Rt hI => ?_)
  refine j_aload_n (pc := 0) C 0 0 rfl rfl dX1_init_0 ?_
  refine j_objInit (pc := 1) (st := []) C (List.mem_of_getElem? (i := 1) rfl) (List.mem_of_getElem? (i := 2) rfl) (List.mem_of_getElem? (i := 3) rfl) (by decide) (Nat.le_of_ble_eq_true rfl) dX1_init_1 ?_
  refine j_aload_n (pc := 4) C 0 0 rfl rfl dX1_init_4 ?_
  refine j_iload_n (pc := 5) C 1 1 rfl rfl dX1_init_5 ?_
  refine j_putF (pc := 6) (ws' := [(a, oC 1 [vI x, vI 0, vI 0])]) C 0 rfl rfl fX1_init_X1 tyX1_ok nmX1 0 (by decide) (List.mem_of_getElem? (i := 4) rfl) (Or.inl rfl) rfl (hI rfl) rfl rfl rfl rfl (Nat.le_of_ble_eq_true rfl) rfl dX1_init_6 ?_
  refine j_aload_n (pc := 9) C 0 0 rfl rfl dX1_init_9 ?_
  refine j_iload_n (pc := 10) C 2 2 rfl rfl dX1_init_10 ?_
  refine j_putF (pc := 11) (ws' := [(a, oC 1 [vI x, vI y, vI 0])]) C 0 rfl rfl fX1_init_X1 tyX1_ok nmX1 1 (by decide) (List.mem_of_getElem? (i := 5) rfl) (Or.inl rfl) rfl (hI rfl) rfl rfl rfl rfl (Nat.le_of_ble_eq_true rfl) rfl dX1_init_11 ?_
  refine j_aload_n (pc := 14) C 0 0 rfl rfl dX1_init_14 ?_
  refine j_iload_n (pc := 15) C 3 3 rfl rfl dX1_init_15 ?_
  refine j_putF (pc := 16) (ws' := [(a, oC 1 [vI x, vI y, vI z])]) C 0 rfl rfl fX1_init_X1 tyX1_ok nmX1 2 (by decide) (List.mem_of_getElem? (i := 6) rfl) (Or.inl rfl) rfl (hI rfl) rfl rfl rfl rfl (Nat.le_of_ble_eq_true rfl) rfl dX1_init_16 ?_
  exact Rt _ _ _ _ _ (by decide) (by decide) rfl dX1_init_19

theorem fX4_asCustom_X1 : ∀ w ∈ u_ws RX1 TX1 3, w ∈ wsX4_asCustom := j_words [25, 26, 27] (by decide +kernel)
theorem fX4_asCustom_X4 : ∀ w ∈ u_ws RX4 TX4 2, w ∈ wsX4_asCustom := j_words [23, 24] (by decide +kernel)
set_option maxHeartbeats 4000000 in
set_option maxRecDepth 100000 in
theorem c_asCustom (l : Launch) (D : va_G) (Y : Nat → ClassId) (RO : va_W) (h : Nat) (hc : Nat) (pg : Int → Int) (pl : Int) (p0 : (h, oC 3 [.ref hc, vI pl]) ∈ RO) (p1 : (hc, aI (Y 0) 16 pg) ∈ RO) (hp : okPg pg pl) (hq : cusP pg pl) : jMr l yX4_asCustom wsX4_asCustom { frames := 2, cells := 1, slots := 3, locals := 35 } D Y RO [.ref h] [] (fun e w1 => ∃ q : Nat, e = some q ∧ w1 = [(q, oC 1 [vI (cw (cusI pg pl)), vI (cz (cusI pg pl)), vI (ce (cusI pg pl))])]) := by
  refine j_ofr RX4 rfl rfl rfl (Nat.le_of_ble_eq_true rfl) (fun X C Rt => ?_)
  have hpl := hp.1
  have hl6 := hq.1
  refine j_aload_n (pc := 0) C 0 0 rfl rfl dX4_asCustom_0 ?_
  refine j_get (pc := 1) C (Or.inr p0) rfl fX4_asCustom_X4 1 (by decide) (List.mem_of_getElem? (i := 1) rfl) (Or.inl rfl) rfl dX4_asCustom_1 ?_
  refine j_bipush (pc := 4) (w := 6) C rfl dX4_asCustom_4 ?_
  refine j_icmp_ne (pc := 6) C 20 rfl (by omega) dX4_asCustom_6 (fun h_1p6 => ?_) (fun h_1p6 => ?_)
  · skip
    refine j_iconst (pc := 20) C dX4_asCustom_20 ?_
    refine j_istore_n (pc := 21) (lc' := [(1, vI 0), (0, .ref h)]) C 1 rfl (by decide) rfl dX4_asCustom_21 ?_
    refine j_new (pc := 22) (ci := 1) C [vI 0, vI 0, vI 0] rfl fX4_asCustom_X1 tyX1_ok (List.mem_of_getElem? (i := 2) rfl) (List.mem_of_getElem? (i := 3) rfl) (List.mem_of_getElem? (i := 4) rfl) (fun j hj => by rcases (show j = 0 ∨ j = 1 ∨ j = 2 by omega) with rfl | rfl | rfl <;> rfl) (by decide) dX4_asCustom_22 (fun q_2 => ?_)
    refine j_st (ws' := [(q_2, oC 1 [vI 0, vI 0, vI 0])]) rfl rfl rfl ?_
    refine j_dup (pc := 25) C rfl dX4_asCustom_25 ?_
    refine j_aload_n (pc := 26) C 0 1 rfl rfl dX4_asCustom_26 ?_
    refine j_iconst (pc := 27) C dX4_asCustom_27 ?_
    refine j_callVi (pc := 28) (As := [vI 1]) (na := 1) (st := [.ref q_2, .ref q_2]) C [] [0] (wr := [(q_2, oC 1 [vI 0, vI 0, vI 0])]) (fun l => c_codeOf l D Y _ h hc pg pl 1 (List.mem_append_right _ p0) (List.mem_append_right _ p1) (by first | assumption | omega)) rfl rfl rfl rfl (by decide) rfl (Or.inr (List.mem_append_right _ p0)) rfl gX4_asCustom_X4_codeOf ⟨rfl, by decide +kernel⟩ (by decide) rfl rfl (Nat.le_of_ble_eq_true rfl) (by decide) dX4_asCustom_28 (fun e_3 w_4 h_5 => ?_)
    obtain ⟨rfl, rfl⟩ := h_5
    refine j_perm (ws' := [(q_2, oC 1 [vI 0, vI 0, vI 0])]) [0] rfl rfl ?_
    have h1 := hp.2 1 (by decide) (by omega)
    refine j_callSi (pc := 31) (As := [vI (pg 1)]) (na := 1) (st := [.ref q_2, .ref q_2]) C [] [0] (wr := [(q_2, oC 1 [vI 0, vI 0, vI 0])]) (fun l => c_ruleOf l D Y _ (pg 1) (by first | assumption | omega)) rfl rfl rfl rfl (by decide) rfl gX4_asCustom_X4_ruleOf (by decide +kernel) (by decide) rfl rfl (Nat.le_of_ble_eq_true rfl) (by decide) dX4_asCustom_31 (fun e_6 w_7 h_8 => ?_)
    obtain ⟨rfl, rfl⟩ := h_8
    refine j_perm (ws' := [(q_2, oC 1 [vI 0, vI 0, vI 0])]) [0] rfl rfl ?_
    refine j_aload_n (pc := 34) C 0 1 rfl rfl dX4_asCustom_34 ?_
    refine j_iconst (pc := 35) C dX4_asCustom_35 ?_
    refine j_callVi (pc := 36) (As := [vI 3]) (na := 1) (st := [vI (ruleI (pg 1)), .ref q_2, .ref q_2]) C [] [0] (wr := [(q_2, oC 1 [vI 0, vI 0, vI 0])]) (fun l => c_codeOf l D Y _ h hc pg pl 3 (List.mem_append_right _ p0) (List.mem_append_right _ p1) (by first | assumption | omega)) rfl rfl rfl rfl (by decide) rfl (Or.inr (List.mem_append_right _ p0)) rfl gX4_asCustom_X4_codeOf ⟨rfl, by decide +kernel⟩ (by decide) rfl rfl (Nat.le_of_ble_eq_true rfl) (by decide) dX4_asCustom_36 (fun e_9 w_10 h_11 => ?_)
    obtain ⟨rfl, rfl⟩ := h_11
    refine j_perm (ws' := [(q_2, oC 1 [vI 0, vI 0, vI 0])]) [0] rfl rfl ?_
    have h3 := hp.2 3 (by decide) (by omega)
    refine j_callSi (pc := 39) (As := [vI (pg 3)]) (na := 1) (st := [vI (ruleI (pg 1)), .ref q_2, .ref q_2]) C [] [0] (wr := [(q_2, oC 1 [vI 0, vI 0, vI 0])]) (fun l => c_ruleOf l D Y _ (pg 3) (by first | assumption | omega)) rfl rfl rfl rfl (by decide) rfl gX4_asCustom_X4_ruleOf (by decide +kernel) (by decide) rfl rfl (Nat.le_of_ble_eq_true rfl) (by decide) dX4_asCustom_39 (fun e_12 w_13 h_14 => ?_)
    obtain ⟨rfl, rfl⟩ := h_14
    refine j_perm (ws' := [(q_2, oC 1 [vI 0, vI 0, vI 0])]) [0] rfl rfl ?_
    refine j_iload_n (pc := 42) C 1 0 rfl rfl dX4_asCustom_42 ?_
    refine j_callIv (pc := 43) (As := [vI (ruleI (pg 1)), vI (ruleI (pg 3)), vI 0]) (na := 3) (st := [.ref q_2]) C [0] [] (wr := []) (fun l => c_cusinit l D Y _ q_2 (ruleI (pg 1)) (ruleI (pg 3)) 0 ) rfl rfl rfl rfl (by decide) rfl gX4_asCustom_X1_init (List.mem_of_getElem? (i := 4) rfl) (List.mem_of_getElem? (i := 14) rfl) (List.mem_of_getElem? (i := 15) rfl) rfl (by decide +kernel) (by decide) rfl rfl (Nat.le_of_ble_eq_true rfl) (by decide) dX4_asCustom_43 (fun w_16 h_17 => ?_)
    subst h_17
    refine j_perm (ws' := [(q_2, oC 1 [vI (ruleI (pg 1)), vI (ruleI (pg 3)), vI 0])]) [0] rfl rfl ?_
    exact Rt _ _ _ _ _ (some q_2) (by decide) (by decide) ⟨_, rfl, by unfold cusI; first | (rw [if_pos (by omega)]; done) | (rw [if_neg (by omega)]; done) | (rw [if_pos (by omega)]; rfl) | (rw [if_neg (by omega)]; rfl)⟩ dX4_asCustom_46
  · skip
    refine j_aload_n (pc := 9) C 0 0 rfl rfl dX4_asCustom_9 ?_
    refine j_iconst (pc := 10) C dX4_asCustom_10 ?_
    refine j_callVi (pc := 11) (As := [vI 5]) (na := 1) (st := []) C [] [] (wr := []) (fun l => c_codeOf l D Y _ h hc pg pl 5 (List.mem_append_right _ p0) (List.mem_append_right _ p1) (by first | assumption | omega)) rfl rfl rfl rfl (by decide) rfl (Or.inr (List.mem_append_right _ p0)) rfl gX4_asCustom_X4_codeOf ⟨rfl, by decide +kernel⟩ (by decide) rfl rfl (Nat.le_of_ble_eq_true rfl) (by decide) dX4_asCustom_11 (fun e_18 w_19 h_20 => ?_)
    obtain ⟨rfl, rfl⟩ := h_20
    refine j_perm (ws' := []) [] rfl rfl ?_
    have h5 := hp.2 5 (by decide) (by omega)
    refine j_bipush (pc := 14) (w := 48) C rfl dX4_asCustom_14 ?_
    refine j_isub (pc := 16) C dX4_asCustom_16 ?_
    refine j_goto (pc := 17) C 21 rfl dX4_asCustom_17 ?_
    refine j_istore_n (pc := 21) (lc' := [(1, vI ((pg 5) - 48)), (0, .ref h)]) C 1 rfl (by decide) rfl dX4_asCustom_21 ?_
    refine j_new (pc := 22) (ci := 1) C [vI 0, vI 0, vI 0] rfl fX4_asCustom_X1 tyX1_ok (List.mem_of_getElem? (i := 2) rfl) (List.mem_of_getElem? (i := 3) rfl) (List.mem_of_getElem? (i := 4) rfl) (fun j hj => by rcases (show j = 0 ∨ j = 1 ∨ j = 2 by omega) with rfl | rfl | rfl <;> rfl) (by decide) dX4_asCustom_22 (fun q_21 => ?_)
    refine j_st (ws' := [(q_21, oC 1 [vI 0, vI 0, vI 0])]) rfl rfl rfl ?_
    refine j_dup (pc := 25) C rfl dX4_asCustom_25 ?_
    refine j_aload_n (pc := 26) C 0 1 rfl rfl dX4_asCustom_26 ?_
    refine j_iconst (pc := 27) C dX4_asCustom_27 ?_
    refine j_callVi (pc := 28) (As := [vI 1]) (na := 1) (st := [.ref q_21, .ref q_21]) C [] [0] (wr := [(q_21, oC 1 [vI 0, vI 0, vI 0])]) (fun l => c_codeOf l D Y _ h hc pg pl 1 (List.mem_append_right _ p0) (List.mem_append_right _ p1) (by first | assumption | omega)) rfl rfl rfl rfl (by decide) rfl (Or.inr (List.mem_append_right _ p0)) rfl gX4_asCustom_X4_codeOf ⟨rfl, by decide +kernel⟩ (by decide) rfl rfl (Nat.le_of_ble_eq_true rfl) (by decide) dX4_asCustom_28 (fun e_22 w_23 h_24 => ?_)
    obtain ⟨rfl, rfl⟩ := h_24
    refine j_perm (ws' := [(q_21, oC 1 [vI 0, vI 0, vI 0])]) [0] rfl rfl ?_
    have h1 := hp.2 1 (by decide) (by omega)
    refine j_callSi (pc := 31) (As := [vI (pg 1)]) (na := 1) (st := [.ref q_21, .ref q_21]) C [] [0] (wr := [(q_21, oC 1 [vI 0, vI 0, vI 0])]) (fun l => c_ruleOf l D Y _ (pg 1) (by first | assumption | omega)) rfl rfl rfl rfl (by decide) rfl gX4_asCustom_X4_ruleOf (by decide +kernel) (by decide) rfl rfl (Nat.le_of_ble_eq_true rfl) (by decide) dX4_asCustom_31 (fun e_25 w_26 h_27 => ?_)
    obtain ⟨rfl, rfl⟩ := h_27
    refine j_perm (ws' := [(q_21, oC 1 [vI 0, vI 0, vI 0])]) [0] rfl rfl ?_
    refine j_aload_n (pc := 34) C 0 1 rfl rfl dX4_asCustom_34 ?_
    refine j_iconst (pc := 35) C dX4_asCustom_35 ?_
    refine j_callVi (pc := 36) (As := [vI 3]) (na := 1) (st := [vI (ruleI (pg 1)), .ref q_21, .ref q_21]) C [] [0] (wr := [(q_21, oC 1 [vI 0, vI 0, vI 0])]) (fun l => c_codeOf l D Y _ h hc pg pl 3 (List.mem_append_right _ p0) (List.mem_append_right _ p1) (by first | assumption | omega)) rfl rfl rfl rfl (by decide) rfl (Or.inr (List.mem_append_right _ p0)) rfl gX4_asCustom_X4_codeOf ⟨rfl, by decide +kernel⟩ (by decide) rfl rfl (Nat.le_of_ble_eq_true rfl) (by decide) dX4_asCustom_36 (fun e_28 w_29 h_30 => ?_)
    obtain ⟨rfl, rfl⟩ := h_30
    refine j_perm (ws' := [(q_21, oC 1 [vI 0, vI 0, vI 0])]) [0] rfl rfl ?_
    have h3 := hp.2 3 (by decide) (by omega)
    refine j_callSi (pc := 39) (As := [vI (pg 3)]) (na := 1) (st := [vI (ruleI (pg 1)), .ref q_21, .ref q_21]) C [] [0] (wr := [(q_21, oC 1 [vI 0, vI 0, vI 0])]) (fun l => c_ruleOf l D Y _ (pg 3) (by first | assumption | omega)) rfl rfl rfl rfl (by decide) rfl gX4_asCustom_X4_ruleOf (by decide +kernel) (by decide) rfl rfl (Nat.le_of_ble_eq_true rfl) (by decide) dX4_asCustom_39 (fun e_31 w_32 h_33 => ?_)
    obtain ⟨rfl, rfl⟩ := h_33
    refine j_perm (ws' := [(q_21, oC 1 [vI 0, vI 0, vI 0])]) [0] rfl rfl ?_
    refine j_iload_n (pc := 42) C 1 0 rfl rfl dX4_asCustom_42 ?_
    refine j_callIv (pc := 43) (As := [vI (ruleI (pg 1)), vI (ruleI (pg 3)), vI ((pg 5) - 48)]) (na := 3) (st := [.ref q_21]) C [0] [] (wr := []) (fun l => c_cusinit l D Y _ q_21 (ruleI (pg 1)) (ruleI (pg 3)) ((pg 5) - 48) ) rfl rfl rfl rfl (by decide) rfl gX4_asCustom_X1_init (List.mem_of_getElem? (i := 4) rfl) (List.mem_of_getElem? (i := 14) rfl) (List.mem_of_getElem? (i := 15) rfl) rfl (by decide +kernel) (by decide) rfl rfl (Nat.le_of_ble_eq_true rfl) (by decide) dX4_asCustom_43 (fun w_35 h_36 => ?_)
    subst h_36
    refine j_perm (ws' := [(q_21, oC 1 [vI (ruleI (pg 1)), vI (ruleI (pg 3)), vI ((pg 5) - 48)])]) [0] rfl rfl ?_
    exact Rt _ _ _ _ _ (some q_21) (by decide) (by decide) ⟨_, rfl, by unfold cusI; first | (rw [if_pos (by omega)]; done) | (rw [if_neg (by omega)]; done) | (rw [if_pos (by omega)]; rfl) | (rw [if_neg (by omega)]; rfl)⟩ dX4_asCustom_46

theorem fX9_letters_X4 : ∀ w ∈ u_ws RX4 TX4 2, w ∈ wsX9_letters := j_words [28, 29] (by decide +kernel)
theorem fX9_letters_X9 : ∀ w ∈ u_ws RX9 TX9 11, w ∈ wsX9_letters := j_words [17, 18, 19, 20, 21, 22, 23, 24, 25, 26, 27] (by decide +kernel)
set_option maxHeartbeats 4000000 in
set_option maxRecDepth 100000 in
theorem k_letters (l : Launch) (D : va_G) (Y : Nat → ClassId) (RO : va_W) (k : Nat → Nat) (nc : Int) (np : Int) (ik : Int) (pg : Int → Int) (pl : Int) (w : Int) (ko : ((k 0), oC 8 [.ref (k 1), .ref (k 2), vI nc, .ref (k 3), vI np, .ref (k 4), .ref (k 7), vI ik, .ref (k 10), .ref (k 13), .ref (k 14)]) ∈ RO) (hp : okPg pg pl) : jMi l yX9_letters wsX9_letters { frames := 2, cells := 0, slots := 0, locals := 46 } D Y RO [.ref (k 0), vL w] [((k 1), oC 3 [.ref (k 17), vI pl]), ((k 17), aI (Y 0) 16 pg)] (fun e w1 => e = rLetters w pl ∧ w1 = [((k 1), oC 3 [.ref (k 17), vI (sLetN w pl)]), ((k 17), aI (Y 0) 16 (sLetG w pl pg))]) := by
  refine j_ofi RX9 rfl rfl rfl (Nat.le_of_ble_eq_true rfl) (fun X C Rt => ?_)
  have hpl := hp.1
  have hln := ln_in (w := w) (n := 8) (by decide)
  change lnI w = -1 ∨ (0 ≤ lnI w ∧ lnI w ≤ 8 ∧ _) at hln
  refine j_lload_n (pc := 0) C 1 1 rfl rfl dX9_letters_0 ?_
  refine j_callSi (pc := 1) (As := [vL w]) (na := 1) (st := []) C [] [0, 1] (wr := [((k 1), oC 3 [.ref (k 17), vI pl]), ((k 17), aI (Y 0) 16 pg)]) (fun l => c_lettersIn l D Y _ w ) rfl rfl rfl rfl (by decide) rfl gX9_letters_X4_lettersIn (by decide +kernel) (by decide) rfl rfl (Nat.le_of_ble_eq_true rfl) (by decide) dX9_letters_1 (fun e_1 w_2 h_3 => ?_)
  obtain ⟨rfl, rfl⟩ := h_3
  refine j_perm (ws' := [((k 1), oC 3 [.ref (k 17), vI pl]), ((k 17), aI (Y 0) 16 pg)]) [0, 1] rfl rfl ?_
  refine j_istore_n (pc := 4) (lc' := [(3, vI (lnI w)), (0, .ref (k 0)), (1, vL w)]) C 3 rfl (by decide) rfl dX9_letters_4 ?_
  refine j_iload_n (pc := 5) C 3 0 rfl rfl dX9_letters_5 ?_
  refine j_if_ge (pc := 6) C 12 rfl (by omega) dX9_letters_6 (fun h_4p6 => ?_) (fun h_4p6 => ?_)
  · skip
    refine j_aload_n (pc := 12) C 0 1 rfl rfl dX9_letters_12 ?_
    refine j_get (pc := 13) C (Or.inr ko) rfl fX9_letters_X9 0 (by decide) (List.mem_of_getElem? (i := 1) rfl) (Or.inl rfl) rfl dX9_letters_13 ?_
    refine j_get (pc := 16) C (Or.inl (List.mem_of_getElem? (i := 0) rfl)) rfl fX9_letters_X4 1 (by decide) (List.mem_of_getElem? (i := 2) rfl) (Or.inl rfl) rfl dX9_letters_16 ?_
    refine j_iload_n (pc := 19) C 3 0 rfl rfl dX9_letters_19 ?_
    refine j_iadd (pc := 20) C dX9_letters_20 ?_
    refine j_bipush (pc := 21) (w := 16) C rfl dX9_letters_21 ?_
    refine j_icmp_le (pc := 23) C 29 rfl (by omega) dX9_letters_23 (fun h_5p23 => ?_) (fun h_5p23 => ?_)
    · skip
      refine j_aload_n (pc := 29) C 0 1 rfl rfl dX9_letters_29 ?_
      refine j_get (pc := 30) C (Or.inr ko) rfl fX9_letters_X9 0 (by decide) (List.mem_of_getElem? (i := 1) rfl) (Or.inl rfl) rfl dX9_letters_30 ?_
      refine j_lload_n (pc := 33) C 1 2 rfl rfl dX9_letters_33 ?_
      refine j_iload_n (pc := 34) C 3 0 rfl rfl dX9_letters_34 ?_
      refine j_callVv (pc := 35) (As := [vL w, vI (lnI w)]) (na := 2) (st := []) C [0, 1] [] (wr := []) (fun l => c_write l D Y _ (k 1) (k 17) pg pl w (lnI w) (by first | assumption | omega) (by first | assumption | omega)) rfl rfl rfl rfl (by decide) rfl (Or.inl (List.mem_of_getElem? (i := 0) rfl)) rfl gX9_letters_X4_write ⟨rfl, by decide +kernel⟩ (by decide) rfl rfl (Nat.le_of_ble_eq_true rfl) (by decide) dX9_letters_35 (fun w_7 h_8 => ?_)
      subst h_8
      refine j_perm (ws' := [((k 1), oC 3 [.ref (k 17), vI (pl + (lnI w))]), ((k 17), aI (Y 0) 16 (wrI w pl (lnI w) pg))]) [0, 1] rfl rfl ?_
      refine j_aload_n (pc := 38) C 0 1 rfl rfl dX9_letters_38 ?_
      refine j_get (pc := 39) C (Or.inr ko) rfl fX9_letters_X9 0 (by decide) (List.mem_of_getElem? (i := 1) rfl) (Or.inl rfl) rfl dX9_letters_39 ?_
      refine j_get (pc := 42) C (Or.inl (List.mem_of_getElem? (i := 0) rfl)) rfl fX9_letters_X4 1 (by decide) (List.mem_of_getElem? (i := 2) rfl) (Or.inl rfl) rfl dX9_letters_42 ?_
      exact Rt _ _ _ _ _ _ (by decide) (by decide) ⟨by unfold rLetters; rw [if_neg (by omega), if_neg (by omega)], by unfold sLetN sLetG; rw [if_neg (by omega), if_neg (by omega), if_neg (by omega), if_neg (by omega)]⟩ dX9_letters_45
    · skip
      refine j_bipush (pc := 26) (w := (-104)) C rfl dX9_letters_26 ?_
      exact Rt _ _ _ _ _ _ (by decide) (by decide) ⟨by unfold rLetters; rw [if_neg (by omega), if_pos (by omega)], by unfold sLetN sLetG; rw [if_neg (by omega), if_pos (by omega), if_neg (by omega), if_pos (by omega)]⟩ dX9_letters_28
  · skip
    refine j_bipush (pc := 9) (w := (-102)) C rfl dX9_letters_9 ?_
    exact Rt _ _ _ _ _ _ (by decide) (by decide) ⟨by unfold rLetters; rw [if_pos (by omega)], by unfold sLetN sLetG; rw [if_pos (by omega), if_pos (by omega)]⟩ dX9_letters_11

theorem fX9_fault_X9 : ∀ w ∈ u_ws RX9 TX9 11, w ∈ wsX9_fault := j_words [19, 20, 21, 22, 23, 24, 25, 26, 27, 28, 29] (by decide +kernel)
set_option maxHeartbeats 4000000 in
set_option maxRecDepth 100000 in
theorem k_fault (l : Launch) (D : va_G) (Y : Nat → ClassId) (RO : va_W) (k : Nat → Nat) (nc : Int) (np : Int) (ik : Int) (pg : Int → Int) (pl : Int) (ko : ((k 0), oC 8 [.ref (k 1), .ref (k 2), vI nc, .ref (k 3), vI np, .ref (k 4), .ref (k 7), vI ik, .ref (k 10), .ref (k 13), .ref (k 14)]) ∈ RO) (p0 : ((k 1), oC 3 [.ref (k 17), vI pl]) ∈ RO) (p1 : ((k 17), aI (Y 0) 16 pg) ∈ RO) (hp : okPg pg pl) : jMi l yX9_fault wsX9_fault { frames := 3, cells := 0, slots := 0, locals := 62 } D Y RO [.ref (k 0)] [] (fun e w1 => e = faultI pg pl ∧ w1 = []) := by
  refine j_ofi RX9 rfl rfl rfl (Nat.le_of_ble_eq_true rfl) (fun X C Rt => ?_)
  refine j_aload_n (pc := 0) C 0 0 rfl rfl dX9_fault_0 ?_
  refine j_get (pc := 1) C (Or.inr ko) rfl fX9_fault_X9 0 (by decide) (List.mem_of_getElem? (i := 1) rfl) (Or.inl rfl) rfl dX9_fault_1 ?_
  refine j_callVi (pc := 4) (As := []) (na := 0) (st := []) C [] [] (wr := []) (fun l => c_firstWrong l D Y _ (k 1) (k 17) pg pl (List.mem_append_right _ p0) (List.mem_append_right _ p1) (by first | assumption | omega)) rfl rfl rfl rfl (by decide) rfl (Or.inr (List.mem_append_right _ p0)) rfl gX9_fault_X4_firstWrong ⟨rfl, by decide +kernel⟩ (by decide) rfl rfl (Nat.le_of_ble_eq_true rfl) (by decide) dX9_fault_4 (fun e_1 w_2 h_3 => ?_)
  obtain ⟨rfl, rfl⟩ := h_3
  refine j_perm (ws' := []) [] rfl rfl ?_
  exact Rt _ _ _ _ _ _ (by decide) (by decide) ⟨rfl, rfl⟩ dX9_fault_7

theorem fX9_custom_X4 : ∀ w ∈ u_ws RX4 TX4 2, w ∈ wsX9_custom := j_words [53, 54] (by decide +kernel)
theorem fX9_custom_X9 : ∀ w ∈ u_ws RX9 TX9 11, w ∈ wsX9_custom := j_words [42, 43, 44, 45, 46, 47, 48, 49, 50, 51, 52] (by decide +kernel)
set_option maxHeartbeats 4000000 in
set_option maxRecDepth 100000 in
theorem k_custom (l : Launch) (D : va_G) (Y : Nat → ClassId) (RO : va_W) (k : Nat → Nat) (nc : Int) (np : Int) (ik : Int) (cad : Int → Nat) (pg : Int → Int) (pl : Int) (p1 : ((k 17), aI (Y 0) 16 pg) ∈ RO) (hp : okPg pg pl) (hnc : 0 ≤ nc ∧ nc ≤ 4) : jMi l yX9_custom wsX9_custom { frames := 4, cells := 1, slots := 3, locals := 82 } D Y RO [.ref (k 0)] [((k 0), oC 8 [.ref (k 1), .ref (k 2), vI nc, .ref (k 3), vI np, .ref (k 4), .ref (k 7), vI ik, .ref (k 10), .ref (k 13), .ref (k 14)]), ((k 2), aQ (Y 2) 4 (orow nc cad)), ((k 1), oC 3 [.ref (k 17), vI pl])] (fun e w1 => e = rCustom pg pl nc ∧ ((¬ cusOk pg pl nc ∧ w1 = [((k 0), oC 8 [.ref (k 1), .ref (k 2), vI nc, .ref (k 3), vI np, .ref (k 4), .ref (k 7), vI ik, .ref (k 10), .ref (k 13), .ref (k 14)]), ((k 2), aQ (Y 2) 4 (orow nc cad)), ((k 1), oC 3 [.ref (k 17), vI pl])]) ∨ (cusOk pg pl nc ∧ ∃ q : Nat, w1 = [((k 0), oC 8 [.ref (k 1), .ref (k 2), vI (nc + 1), .ref (k 3), vI np, .ref (k 4), .ref (k 7), vI ik, .ref (k 10), .ref (k 13), .ref (k 14)]), ((k 2), aQ (Y 2) 4 (orow (nc + 1) (up cad nc q))), ((k 1), oC 3 [.ref (k 17), vI 0]), (q, oC 1 [vI (cw (cusI pg pl)), vI (cz (cusI pg pl)), vI (ce (cusI pg pl))])]))) := by
  refine j_ofi RX9 rfl rfl rfl (Nat.le_of_ble_eq_true rfl) (fun X C Rt => ?_)
  refine j_aload_n (pc := 0) C 0 0 rfl rfl dX9_custom_0 ?_
  refine j_get (pc := 1) C (Or.inl (List.mem_of_getElem? (i := 0) rfl)) rfl fX9_custom_X9 0 (by decide) (List.mem_of_getElem? (i := 1) rfl) (Or.inl rfl) rfl dX9_custom_1 ?_
  refine j_callVi (pc := 4) (As := []) (na := 0) (st := []) C [] [0, 1, 2] (wr := [((k 0), oC 8 [.ref (k 1), .ref (k 2), vI nc, .ref (k 3), vI np, .ref (k 4), .ref (k 7), vI ik, .ref (k 10), .ref (k 13), .ref (k 14)]), ((k 2), aQ (Y 2) 4 (orow nc cad)), ((k 1), oC 3 [.ref (k 17), vI pl])]) (fun l => c_pisCustom l D Y _ (k 1) (k 17) pg pl (List.mem_append_left _ (List.mem_of_getElem? (i := 2) rfl)) (List.mem_append_right _ p1) (by first | assumption | omega)) rfl rfl rfl rfl (by decide) rfl (Or.inr (List.mem_append_left _ (List.mem_of_getElem? (i := 2) rfl))) rfl gX9_custom_X4_isCustom ⟨rfl, by decide +kernel⟩ (by decide) rfl rfl (Nat.le_of_ble_eq_true rfl) (by decide) dX9_custom_4 (fun e_1 w_2 h_3 => ?_)
  obtain ⟨rfl, rfl⟩ := h_3
  refine j_perm (ws' := [((k 0), oC 8 [.ref (k 1), .ref (k 2), vI nc, .ref (k 3), vI np, .ref (k 4), .ref (k 7), vI ik, .ref (k 10), .ref (k 13), .ref (k 14)]), ((k 2), aQ (Y 2) 4 (orow nc cad)), ((k 1), oC 3 [.ref (k 17), vI pl])]) [0, 1, 2] rfl rfl ?_
  refine j_if_neb (pc := 7) C 13 rfl dX9_custom_7 (fun h_4p7 => ?_) (fun h_4p7 => ?_)
  · skip
    refine j_aload_n (pc := 13) C 0 0 rfl rfl dX9_custom_13 ?_
    refine j_get (pc := 14) C (Or.inl (List.mem_of_getElem? (i := 0) rfl)) rfl fX9_custom_X9 2 (by decide) (List.mem_of_getElem? (i := 2) rfl) (Or.inl rfl) rfl dX9_custom_14 ?_
    refine j_if_lt (pc := 17) C 28 rfl (by omega) dX9_custom_17 (fun h_5p17 => ?_) (fun h_5p17 => ?_)
    · skip
      refine j_bipush (pc := 28) (w := (-104)) C rfl dX9_custom_28 ?_
      exact Rt _ _ _ _ _ _ (by decide) (by decide) ⟨by unfold rCustom; rw [if_neg (not_not_intro (by assumption)), if_pos (by omega)], Or.inl ⟨fun q => absurd q.2 (by omega), rfl⟩⟩ dX9_custom_30
    · skip
      refine j_aload_n (pc := 20) C 0 0 rfl rfl dX9_custom_20 ?_
      refine j_get (pc := 21) C (Or.inl (List.mem_of_getElem? (i := 0) rfl)) rfl fX9_custom_X9 2 (by decide) (List.mem_of_getElem? (i := 2) rfl) (Or.inl rfl) rfl dX9_custom_21 ?_
      refine j_iconst (pc := 24) C dX9_custom_24 ?_
      refine j_icmp_lt (pc := 25) C 31 rfl (by omega) dX9_custom_25 (fun h_6p25 => ?_) (fun h_6p25 => ?_)
      · skip
        refine j_aload_n (pc := 31) C 0 0 rfl rfl dX9_custom_31 ?_
        refine j_get (pc := 32) C (Or.inl (List.mem_of_getElem? (i := 0) rfl)) rfl fX9_custom_X9 1 (by decide) (List.mem_of_getElem? (i := 3) rfl) (Or.inl rfl) rfl dX9_custom_32 ?_
        refine j_aload_n (pc := 35) C 0 0 rfl rfl dX9_custom_35 ?_
        refine j_get (pc := 36) C (Or.inl (List.mem_of_getElem? (i := 0) rfl)) rfl fX9_custom_X9 2 (by decide) (List.mem_of_getElem? (i := 2) rfl) (Or.inl rfl) rfl dX9_custom_36 ?_
        refine j_aload_n (pc := 39) C 0 0 rfl rfl dX9_custom_39 ?_
        refine j_get (pc := 40) C (Or.inl (List.mem_of_getElem? (i := 0) rfl)) rfl fX9_custom_X9 0 (by decide) (List.mem_of_getElem? (i := 1) rfl) (Or.inl rfl) rfl dX9_custom_40 ?_
        refine j_callVr (pc := 43) (As := []) (na := 0) (st := [vI nc, .ref (k 2)]) C [] [0, 1, 2] (wr := [((k 0), oC 8 [.ref (k 1), .ref (k 2), vI nc, .ref (k 3), vI np, .ref (k 4), .ref (k 7), vI ik, .ref (k 10), .ref (k 13), .ref (k 14)]), ((k 2), aQ (Y 2) 4 (orow nc cad)), ((k 1), oC 3 [.ref (k 17), vI pl])]) (fun l => c_asCustom l D Y _ (k 1) (k 17) pg pl (List.mem_append_left _ (List.mem_of_getElem? (i := 2) rfl)) (List.mem_append_right _ p1) (by first | assumption | omega) (by assumption)) rfl rfl rfl rfl (by decide) rfl (Or.inr (List.mem_append_left _ (List.mem_of_getElem? (i := 2) rfl))) rfl gX9_custom_X4_asCustom ⟨rfl, by decide +kernel⟩ (by decide) rfl rfl (Nat.le_of_ble_eq_true rfl) (by decide) dX9_custom_43 (fun e_7 w_8 h_9 => ?_)
        obtain ⟨q_10, rfl, rfl⟩ := h_9
        refine j_perm (ws' := [((k 0), oC 8 [.ref (k 1), .ref (k 2), vI nc, .ref (k 3), vI np, .ref (k 4), .ref (k 7), vI ik, .ref (k 10), .ref (k 13), .ref (k 14)]), ((k 2), aQ (Y 2) 4 (orow nc cad)), ((k 1), oC 3 [.ref (k 17), vI pl]), (q_10, oC 1 [vI (cw (cusI pg pl)), vI (cz (cusI pg pl)), vI (ce (cusI pg pl))])]) [0, 1, 2, 3] rfl rfl ?_
        refine j_aastC (pc := 46) (ws' := [((k 0), oC 8 [.ref (k 1), .ref (k 2), vI nc, .ref (k 3), vI np, .ref (k 4), .ref (k 7), vI ik, .ref (k 10), .ref (k 13), .ref (k 14)]), ((k 2), aQ (Y 2) 4 (up (orow nc cad) nc (some q_10))), ((k 1), oC 3 [.ref (k 17), vI pl]), (q_10, oC 1 [vI (cw (cusI pg pl)), vI (cz (cusI pg pl)), vI (ce (cusI pg pl))])]) C 1 3 rfl rfl rfl (by omega) (by decide) rfl dX9_custom_46 ?_
        refine j_aload_n (pc := 47) C 0 0 rfl rfl dX9_custom_47 ?_
        refine j_get (pc := 48) C (Or.inl (List.mem_of_getElem? (i := 0) rfl)) rfl fX9_custom_X9 0 (by decide) (List.mem_of_getElem? (i := 1) rfl) (Or.inl rfl) rfl dX9_custom_48 ?_
        refine j_iconst (pc := 51) C dX9_custom_51 ?_
        refine j_put (pc := 52) (ws' := [((k 0), oC 8 [.ref (k 1), .ref (k 2), vI nc, .ref (k 3), vI np, .ref (k 4), .ref (k 7), vI ik, .ref (k 10), .ref (k 13), .ref (k 14)]), ((k 2), aQ (Y 2) 4 (up (orow nc cad) nc (some q_10))), ((k 1), oC 3 [.ref (k 17), vI 0]), (q_10, oC 1 [vI (cw (cusI pg pl)), vI (cz (cusI pg pl)), vI (ce (cusI pg pl))])]) C 2 rfl rfl fX9_custom_X4 tyX4_ok nmX4 1 (by decide) (List.mem_of_getElem? (i := 4) rfl) (Or.inl rfl) rfl rfl rfl rfl (Nat.le_of_ble_eq_true rfl) rfl dX9_custom_52 ?_
        refine j_aload_n (pc := 55) C 0 0 rfl rfl dX9_custom_55 ?_
        refine j_dup (pc := 56) C rfl dX9_custom_56 ?_
        refine j_get (pc := 57) C (Or.inl (List.mem_of_getElem? (i := 0) rfl)) rfl fX9_custom_X9 2 (by decide) (List.mem_of_getElem? (i := 2) rfl) (Or.inl rfl) rfl dX9_custom_57 ?_
        refine j_iconst (pc := 60) C dX9_custom_60 ?_
        refine j_iadd (pc := 61) C dX9_custom_61 ?_
        refine j_put (pc := 62) (ws' := [((k 0), oC 8 [.ref (k 1), .ref (k 2), vI (nc + 1), .ref (k 3), vI np, .ref (k 4), .ref (k 7), vI ik, .ref (k 10), .ref (k 13), .ref (k 14)]), ((k 2), aQ (Y 2) 4 (up (orow nc cad) nc (some q_10))), ((k 1), oC 3 [.ref (k 17), vI 0]), (q_10, oC 1 [vI (cw (cusI pg pl)), vI (cz (cusI pg pl)), vI (ce (cusI pg pl))])]) C 0 rfl rfl fX9_custom_X9 tyX9_ok nmX9 2 (by decide) (List.mem_of_getElem? (i := 2) rfl) (Or.inl rfl) rfl rfl rfl rfl (Nat.le_of_ble_eq_true rfl) rfl dX9_custom_62 ?_
        refine j_aload_n (pc := 65) C 0 0 rfl rfl dX9_custom_65 ?_
        refine j_get (pc := 66) C (Or.inl (List.mem_of_getElem? (i := 0) rfl)) rfl fX9_custom_X9 2 (by decide) (List.mem_of_getElem? (i := 2) rfl) (Or.inl rfl) rfl dX9_custom_66 ?_
        refine j_iconst (pc := 69) C dX9_custom_69 ?_
        refine j_isub (pc := 70) C dX9_custom_70 ?_
        exact Rt _ _ _ _ _ _ (by decide) (by decide) ⟨by unfold rCustom; rw [if_neg (not_not_intro (by assumption)), if_neg (by omega)]; first | done | omega, Or.inr ⟨⟨by assumption, by omega⟩, _, by rw [← orow_push (by omega)]; first | done | rfl⟩⟩ dX9_custom_71
      · skip
        refine j_bipush (pc := 28) (w := (-104)) C rfl dX9_custom_28 ?_
        exact Rt _ _ _ _ _ _ (by decide) (by decide) ⟨by unfold rCustom; rw [if_neg (not_not_intro (by assumption)), if_pos (by omega)], Or.inl ⟨fun q => absurd q.2 (by omega), rfl⟩⟩ dX9_custom_30
  · skip
    refine j_bipush (pc := 10) (w := (-103)) C rfl dX9_custom_10 ?_
    exact Rt _ _ _ _ _ _ (by decide) (by decide) ⟨by unfold rCustom; rw [if_pos (by assumption)], Or.inl ⟨fun q => absurd q.1 (by assumption), rfl⟩⟩ dX9_custom_12

set_option maxHeartbeats 4000000 in
set_option maxRecDepth 100000 in
theorem k_customTold (l : Launch) (D : va_G) (Y : Nat → ClassId) (RO : va_W) (k : Nat → Nat) (nc : Int) (np : Int) (ik : Int) (cad : Int → Nat) (cs : Int → CT) (cu : Int) (w : Int) (ko : ((k 0), oC 8 [.ref (k 1), .ref (k 2), vI nc, .ref (k 3), vI np, .ref (k 4), .ref (k 7), vI ik, .ref (k 10), .ref (k 13), .ref (k 14)]) ∈ RO) (kc : ((k 2), aQ (Y 2) 4 (orow nc cad)) ∈ RO) (hcc : ∀ i, 0 ≤ i ∧ i < nc → (cad i, oC 1 [vI (cw (cs i)), vI (cz (cs i)), vI (ce (cs i))]) ∈ RO) (hnc : 0 ≤ nc ∧ nc ≤ 4) (hcs : ∀ i, 0 ≤ i ∧ i < nc → okC (cs i)) (hcu : -2147483648 ≤ cu ∧ cu ≤ 2147483647) (hw : -2147483648 ≤ w ∧ w ≤ 2147483647) : jMi l yX9_customTold wsX9_customTold { frames := 1, cells := 0, slots := 0, locals := 21 } D Y RO [.ref (k 0), vI cu, vI w] [] (fun e w1 => e = rCusTold cu w nc cs ∧ w1 = []) := by
  refine j_ofi RX9 rfl rfl rfl (Nat.le_of_ble_eq_true rfl) (fun X C Rt => ?_)
  refine j_aload_n (pc := 0) C 0 0 rfl rfl dX9_customTold_0 ?_
  refine j_iload_n (pc := 1) C 1 1 rfl rfl dX9_customTold_1 ?_
  refine j_callVr (pc := 2) (As := [vI cu]) (na := 1) (st := []) C [] [] (wr := []) (fun l => k_customAt l D Y _ k nc np ik cad cu (List.mem_append_right _ ko) (List.mem_append_right _ kc) (by first | assumption | omega) (by first | assumption | omega)) rfl rfl rfl rfl (by decide) rfl (Or.inr (List.mem_append_right _ ko)) rfl gX9_customTold_X9_customAt ⟨rfl, by decide +kernel⟩ (by decide) rfl rfl (Nat.le_of_ble_eq_true rfl) (by decide) dX9_customTold_2 (fun e_1 w_2 h_3 => ?_)
  obtain ⟨rfl, rfl⟩ := h_3
  refine j_perm (ws' := []) [] rfl rfl ?_
  by_cases hq_4 : 0 ≤ cu ∧ cu < nc
  · rw [show orow nc cad cu = some (cad cu) from orow_in hq_4]
    have hc4 := hcc cu hq_4
    have hC4 := hcs cu hq_4
    refine j_astore_n (pc := 5) (lc' := [(3, .ref (cad cu)), (0, .ref (k 0)), (1, vI cu), (2, vI w)]) C 3 rfl (by decide) rfl dX9_customTold_5 ?_
    refine j_aload_n (pc := 6) C 3 0 rfl rfl dX9_customTold_6 ?_
    refine j_ifnonnull (pc := 7) C 13 rfl dX9_customTold_7 ?_
    refine j_iload_n (pc := 13) C 2 3 rfl rfl dX9_customTold_13 ?_
    refine j_if_lt (pc := 14) C 22 rfl (by omega) dX9_customTold_14 (fun h_5p14 => ?_) (fun h_5p14 => ?_)
    · skip
      refine j_bipush (pc := 22) (w := (-102)) C rfl dX9_customTold_22 ?_
      exact Rt _ _ _ _ _ _ (by decide) (by decide) ⟨by unfold rCusTold; rw [if_neg (by omega), if_pos (by omega)], rfl⟩ dX9_customTold_24
    · skip
      refine j_iload_n (pc := 17) C 2 3 rfl rfl dX9_customTold_17 ?_
      refine j_iconst (pc := 18) C dX9_customTold_18 ?_
      refine j_icmp_le (pc := 19) C 25 rfl (by omega) dX9_customTold_19 (fun h_6p19 => ?_) (fun h_6p19 => ?_)
      · skip
        refine j_aload_n (pc := 25) C 3 0 rfl rfl dX9_customTold_25 ?_
        refine j_iload_n (pc := 26) C 2 3 rfl rfl dX9_customTold_26 ?_
        refine j_callVi (pc := 27) (As := [vI w]) (na := 1) (st := []) C [] [] (wr := []) (fun l => c_ctold l D Y _ (cad cu) (cs cu) w (List.mem_append_right _ hc4) (by first | assumption | omega)) rfl rfl rfl rfl (by decide) rfl (Or.inr (List.mem_append_right _ hc4)) rfl gX9_customTold_X1_told ⟨rfl, by decide +kernel⟩ (by decide) rfl rfl (Nat.le_of_ble_eq_true rfl) (by decide) dX9_customTold_27 (fun e_7 w_8 h_9 => ?_)
        obtain ⟨rfl, rfl⟩ := h_9
        refine j_perm (ws' := []) [] rfl rfl ?_
        exact Rt _ _ _ _ _ _ (by decide) (by decide) ⟨by unfold rCusTold; rw [if_neg (by omega), if_neg (by omega)], rfl⟩ dX9_customTold_30
      · skip
        refine j_bipush (pc := 22) (w := (-102)) C rfl dX9_customTold_22 ?_
        exact Rt _ _ _ _ _ _ (by decide) (by decide) ⟨by unfold rCusTold; rw [if_neg (by omega), if_pos (by omega)], rfl⟩ dX9_customTold_24
  · rw [show orow nc cad cu = none from orow_out hq_4]
    refine j_astore_nN (pc := 5) (lc' := [(3, .null), (0, .ref (k 0)), (1, vI cu), (2, vI w)]) C 3 rfl (by decide) rfl dX9_customTold_5 ?_
    refine j_aload_nN (pc := 6) C 3 0 rfl rfl dX9_customTold_6 ?_
    refine j_ifnonnullN (pc := 7) C dX9_customTold_7 ?_
    refine j_bipush (pc := 10) (w := (-101)) C rfl dX9_customTold_10 ?_
    exact Rt _ _ _ _ _ _ (by decide) (by decide) ⟨by unfold rCusTold; rw [if_pos (by omega)], rfl⟩ dX9_customTold_12
end
section
-- the parishes: making, asking, changing
def stW (P : PT) (x : Int) : PT := (pk P, pn P, x, pi P, pz P)
def stI (P : PT) (x : Int) : PT := (pk P, pn P, pw P, x, pz P)
def stZ (P : PT) (x : Int) : PT := (pk P, pn P, pw P, pi P, x)
theorem j_putP {X : jX} {cc : ByteArray} {nL : Nat} {own : String} {Ts : List Cond} {rm : Room} {D : va_G} {Y : Nat → ClassId} {RO : va_W} {k n : Nat} {ws ws' : va_W} {lc : List (Nat × Value)} {pc index : Nat} {ref : String} {st : List Value} (C : jC X cc nL own Ts rm D Y RO) {a : Nat} {P P' : PT} {x : Int} (q0 : Nat) (he : ws[q0]? = some (pC a P)) (hk : 0 ≤ pk P ∧ pk P ≤ 3) (hpk : pk P' = pk P) (h5 : ∀ w ∈ u_ws RX5 TX5 4, w ∈ Ts) (h6 : ∀ w ∈ u_ws RX6 TX6 4, w ∈ Ts) (h7 : ∀ w ∈ u_ws RX7 TX7 4, w ∈ Ts) (h0 : ∀ w ∈ u_ws RX0 TX0 4, w ∈ Ts) (kf : Nat) (hkf : kf < 4) (hk1 : 1 ≤ kf) (hlink : Cond.fieldLink own index ref (TX5 kf).2.1 (TX5 kf).2.2.1 ∈ Ts) (hsame : (TX5 kf).1 = ref ∨ Cond.sameField ref (TX5 kf).1 (TX5 kf).2.1 (TX5 kf).2.2.1 ∈ Ts) (hv : [vI (pn P), vI (pw P), vI (pi P), vI (pz P)].set kf (vI x) = [vI (pn P'), vI (pw P'), vI (pi P'), vI (pz P')]) (hw : ws.set q0 (pC a P') = ws') (hd : decode cc pc = .ok (.putfield index, 3)) (kk : jW X nL k n ws' lc (pc + 3) st) : jW X nL k n ws lc pc (vI x :: .ref a :: st) := by
  have e6 : TX6 = TX5 := rfl
  have e7 : TX7 = TX5 := rfl
  have e0 : TX0 = TX5 := rfl
  rcases (show kf = 1 ∨ kf = 2 ∨ kf = 3 by omega) with rfl | rfl | rfl <;> (
    rcases (show pk P = 0 ∨ pk P = 1 ∨ pk P = 2 ∨ pk P = 3 by omega) with h | h | h | h
    · rw [pC_0 h] at he; rw [pC_0 (hpk.trans h)] at hw
      exact j_put C (T := TX5) q0 he rfl h5 tyX5_ok nmX5 _ hkf hlink hsame rfl rfl rfl rfl (Nat.le_of_ble_eq_true rfl) (by rw [hv]; exact hw) hd kk
    · rw [pC_1 h] at he; rw [pC_1 (hpk.trans h)] at hw
      exact j_put C (T := TX6) q0 he rfl h6 tyX6_ok nmX6 _ hkf hlink hsame rfl rfl rfl rfl (Nat.le_of_ble_eq_true rfl) (by rw [hv]; exact hw) hd kk
    · rw [pC_2 h] at he; rw [pC_2 (hpk.trans h)] at hw
      exact j_put C (T := TX7) q0 he rfl h7 tyX7_ok nmX7 _ hkf hlink hsame rfl rfl rfl rfl (Nat.le_of_ble_eq_true rfl) (by rw [hv]; exact hw) hd kk
    · rw [pC_3 h] at he; rw [pC_3 (hpk.trans h)] at hw
      exact j_put C (T := TX0) q0 he rfl h0 tyX0_ok nmX0 _ hkf hlink hsame rfl rfl rfl rfl (Nat.le_of_ble_eq_true rfl) (by rw [hv]; exact hw) hd kk)
abbrev kwP (k n : Int) : Prop := (k = 0 ∧ n = 0) ∨ (k = 1 ∧ 2 ≤ n ∧ n ≤ 4) ∨ (2 ≤ k ∧ k ≤ 3 ∧ 0 ≤ n ∧ n < 7)
abbrev mbP (w v : Int) : Prop := (w = 2 ∧ 1 ≤ v ∧ v ≤ 9) ∨ (3 ≤ w ∧ w ≤ 4 ∧ 0 ≤ v ∧ v ≤ 10)
abbrev ofP (P : PT) (k : Int) : Prop := (k ≤ 0 ∨ 3 < k) ∨ (k = 1 ∧ pk P = 1) ∨ (k = 2 ∧ 2 ≤ pk P) ∨ (k = 3 ∧ pk P = 3)
def allP (kd n w x z : Int) : Prop := kwP kd n ∧ mbP 2 w ∧ mbP 3 x ∧ mbP 4 z
theorem okP_all {kd n w x z : Int} (h : allP kd n w x z) : okP (kd, n, w, x, z) := by
  obtain ⟨h1, h2, h3, h4⟩ := h
  unfold kwP at h1; unfold mbP at h2 h3 h4
  show (0 ≤ kd ∧ kd ≤ 3) ∧ (kd = 0 → n = 0) ∧ (kd = 1 → 2 ≤ n ∧ n ≤ 4) ∧ (2 ≤ kd → 0 ≤ n ∧ n < 7) ∧ (1 ≤ w ∧ w ≤ 9) ∧ (0 ≤ x ∧ x ≤ 10) ∧ (0 ≤ z ∧ z ≤ 10)
  refine ⟨by omega, fun q => by omega, fun q => by omega, fun q => by omega, by omega, by omega, by omega⟩
def rParish (kd n w x z np : Int) : Int := if ¬ kwP kd n then -102 else if ¬ mbP 2 w then -102 else if ¬ mbP 3 x then -102 else if ¬ mbP 4 z then -102 else if 6 ≤ np then -104 else np
def rAs (p k np : Int) (ps : Int → PT) : Int := if ¬ (0 ≤ p ∧ p < np) then -101 else if ¬ (0 ≤ k ∧ k < 4) then -102 else if ofP (ps p) k then p else -1
def rAbout (p w np : Int) (ps : Int → PT) : Int := if ¬ (0 ≤ p ∧ p < np) then -101 else if ¬ (0 ≤ w ∧ w ≤ 5) then -102 else toldP (ps p) w
def rChange (p w v np : Int) (ps : Int → PT) : Int := if ¬ (0 ≤ p ∧ p < np) then -101 else if ¬ mbP w v then -102 else toldP (ps p) w
def chP (P : PT) (w v : Int) : PT := if w = 2 then stW P v else if w = 3 then stI P v else stZ P v
theorem kwP_k {k n : Int} (h : kwP k n) : 0 ≤ k ∧ k ≤ 3 := by unfold kwP at h; omega
def parOk (kd n w x z np : Int) : Prop := allP kd n w x z ∧ np < 6
def gNP (G : GS) : GS := (g_np G + 1, g_nc G, g_pl G, g_ik G, g_ks G, g_ss G, g_fa G, g_iw G, g_nw G, g_ns G, g_ne G, g_h G)
theorem up_kof (ps : Int → PT) (n : Int) (P : PT) : kof (up ps n P) = up (kof ps) n (pk P) := by funext i; unfold kof up; dsimp only; split <;> rfl
theorem up_nof (ps : Int → PT) (n : Int) (P : PT) : nof (up ps n P) = up (nof ps) n (pn P) := by funext i; unfold nof up; dsimp only; split <;> rfl
theorem up_wof (ps : Int → PT) (n : Int) (P : PT) : wof (up ps n P) = up (wof ps) n (pw P) := by funext i; unfold wof up; dsimp only; split <;> rfl
theorem up_iof (ps : Int → PT) (n : Int) (P : PT) : iof (up ps n P) = up (iof ps) n (pi P) := by funext i; unfold iof up; dsimp only; split <;> rfl
theorem up_zof (ps : Int → PT) (n : Int) (P : PT) : zof (up ps n P) = up (zof ps) n (pz P) := by funext i; unfold zof up; dsimp only; split <;> rfl
def chS (p w v : Int) (ps : Int → PT) : PT := if mbP w v then chP (ps p) w v else ps p
def psC (p w v np : Int) (ps : Int → PT) : Int → PT := if 0 ≤ p ∧ p < np then up ps p (chS p w v ps) else ps
theorem psC_out {p w v np : Int} {ps : Int → PT} (h : ¬ (0 ≤ p ∧ p < np)) : psC p w v np ps = ps := if_neg h
theorem psC_bad {p w v np : Int} {ps : Int → PT} (h : ¬ mbP w v) : psC p w v np ps = ps := by
  unfold psC chS
  rw [if_neg h]
  split
  · funext i
    show (if i = p then ps p else ps i) = ps i
    split
    · rename_i e; rw [e]
    · rfl
  · rfl
theorem psC_in {p w v np : Int} {ps : Int → PT} (h : 0 ≤ p ∧ p < np) (hm : mbP w v) : psC p w v np ps = up ps p (chP (ps p) w v) := by
  unfold psC chS
  rw [if_pos h, if_pos hm]
theorem gX0_init_X7_init : GoodIn wsX0_init wsX7_init := goodIn_r _ [4, 5, 6, 7, 8, 9, 10, 11, 12, 13, 14, 15, 16, 17, 18, 19, 20, 21, 22, 23, 24, 25, 26, 27, 28] (by decide +kernel) (by decide +kernel)
set_option maxHeartbeats 4000000 in
set_option maxRecDepth 100000 in
theorem c_isKindWith (l : Launch) (D : va_G) (Y : Nat → ClassId) (RO : va_W) (kd : Int) (n : Int)  (hkd : -2147483648 ≤ kd ∧ kd ≤ 2147483647) (hn : -2147483648 ≤ n ∧ n ≤ 2147483647) : jMi l yX9_isKindWith wsX9_isKindWith { frames := 1, cells := 0, slots := 0, locals := 20 } D Y RO [vI kd, vI n] [] (fun e w1 => e = (if kwP kd n then 1 else 0) ∧ w1 = []) := by
  refine j_ofz RX9 rfl rfl rfl (Nat.le_of_ble_eq_true rfl) (fun X C Rt => ?_)
  refine j_iload_n (pc := 0) C 0 0 rfl rfl dX9_isKindWith_0 ?_
  rcases (show kd = 0 ∨ kd = 1 ∨ kd = 2 ∨ kd = 3 ∨ (kd < 0 ∨ 3 < kd) by omega) with h_1p1 | h_1p1 | h_1p1 | h_1p1 | h_1p1
  · refine j_tableC (pc := 1) C 0 32 h_1p1 (by decide) rfl rfl dX9_isKindWith_1 ?_
    refine j_iload_n (pc := 32) C 1 1 rfl rfl dX9_isKindWith_32 ?_
    refine j_if_ne (pc := 33) C 40 rfl (by omega) dX9_isKindWith_33 (fun h_2p33 => ?_) (fun h_2p33 => ?_)
    · skip
      refine j_iconst (pc := 40) C dX9_isKindWith_40 ?_
      exact Rt _ _ _ _ _ _ (by decide) (by decide) (by decide) ⟨by unfold kwP; (repeat' split) <;> first | rfl | omega | (exfalso; omega), rfl⟩ dX9_isKindWith_41
    · skip
      refine j_iconst (pc := 36) C dX9_isKindWith_36 ?_
      refine j_goto (pc := 37) C 41 rfl dX9_isKindWith_37 ?_
      exact Rt _ _ _ _ _ _ (by decide) (by decide) (by decide) ⟨by unfold kwP; (repeat' split) <;> first | rfl | omega | (exfalso; omega), rfl⟩ dX9_isKindWith_41
  · refine j_tableC (pc := 1) C 1 42 h_1p1 (by decide) rfl rfl dX9_isKindWith_1 ?_
    refine j_iload_n (pc := 42) C 1 1 rfl rfl dX9_isKindWith_42 ?_
    refine j_iconst (pc := 43) C dX9_isKindWith_43 ?_
    refine j_icmp_lt (pc := 44) C 56 rfl (by omega) dX9_isKindWith_44 (fun h_3p44 => ?_) (fun h_3p44 => ?_)
    · skip
      refine j_iconst (pc := 56) C dX9_isKindWith_56 ?_
      exact Rt _ _ _ _ _ _ (by decide) (by decide) (by decide) ⟨by unfold kwP; (repeat' split) <;> first | rfl | omega | (exfalso; omega), rfl⟩ dX9_isKindWith_57
    · skip
      refine j_iload_n (pc := 47) C 1 1 rfl rfl dX9_isKindWith_47 ?_
      refine j_iconst (pc := 48) C dX9_isKindWith_48 ?_
      refine j_icmp_gt (pc := 49) C 56 rfl (by omega) dX9_isKindWith_49 (fun h_4p49 => ?_) (fun h_4p49 => ?_)
      · skip
        refine j_iconst (pc := 56) C dX9_isKindWith_56 ?_
        exact Rt _ _ _ _ _ _ (by decide) (by decide) (by decide) ⟨by unfold kwP; (repeat' split) <;> first | rfl | omega | (exfalso; omega), rfl⟩ dX9_isKindWith_57
      · skip
        refine j_iconst (pc := 52) C dX9_isKindWith_52 ?_
        refine j_goto (pc := 53) C 57 rfl dX9_isKindWith_53 ?_
        exact Rt _ _ _ _ _ _ (by decide) (by decide) (by decide) ⟨by unfold kwP; (repeat' split) <;> first | rfl | omega | (exfalso; omega), rfl⟩ dX9_isKindWith_57
  · refine j_tableC (pc := 1) C 2 58 h_1p1 (by decide) rfl rfl dX9_isKindWith_1 ?_
    refine j_iload_n (pc := 58) C 1 1 rfl rfl dX9_isKindWith_58 ?_
    refine j_callSi (pc := 59) (As := [vI n]) (na := 1) (st := []) C [] [] (wr := []) (fun l => c_isCairn l D Y _ n (by first | assumption | omega)) rfl rfl rfl rfl (by decide) rfl gX9_isKindWith_X9_isCairn (by decide +kernel) (by decide) rfl rfl (Nat.le_of_ble_eq_true rfl) (by decide) dX9_isKindWith_59 (fun e_5 w_6 h_7 => ?_)
    obtain ⟨rfl, rfl⟩ := h_7
    refine j_perm (ws' := []) [] rfl rfl ?_
    exact Rt _ _ _ _ _ _ (by decide) (by decide) (by split <;> simp) ⟨by unfold kwP; (repeat' split) <;> first | rfl | omega | (exfalso; omega), rfl⟩ dX9_isKindWith_62
  · refine j_tableC (pc := 1) C 3 63 h_1p1 (by decide) rfl rfl dX9_isKindWith_1 ?_
    refine j_iload_n (pc := 63) C 1 1 rfl rfl dX9_isKindWith_63 ?_
    refine j_callSi (pc := 64) (As := [vI n]) (na := 1) (st := []) C [] [] (wr := []) (fun l => c_isCairn l D Y _ n (by first | assumption | omega)) rfl rfl rfl rfl (by decide) rfl gX9_isKindWith_X9_isCairn (by decide +kernel) (by decide) rfl rfl (Nat.le_of_ble_eq_true rfl) (by decide) dX9_isKindWith_64 (fun e_8 w_9 h_10 => ?_)
    obtain ⟨rfl, rfl⟩ := h_10
    refine j_perm (ws' := []) [] rfl rfl ?_
    exact Rt _ _ _ _ _ _ (by decide) (by decide) (by split <;> simp) ⟨by unfold kwP; (repeat' split) <;> first | rfl | omega | (exfalso; omega), rfl⟩ dX9_isKindWith_67
  · refine j_tableD (pc := 1) C 68 (by omega) h_1p1 rfl dX9_isKindWith_1 ?_
    refine j_iconst (pc := 68) C dX9_isKindWith_68 ?_
    exact Rt _ _ _ _ _ _ (by decide) (by decide) (by decide) ⟨by unfold kwP; (repeat' split) <;> first | rfl | omega | (exfalso; omega), rfl⟩ dX9_isKindWith_69

set_option maxHeartbeats 4000000 in
set_option maxRecDepth 100000 in
theorem c_mayBe (l : Launch) (D : va_G) (Y : Nat → ClassId) (RO : va_W) (w : Int) (v : Int)  (hw : -2147483648 ≤ w ∧ w ≤ 2147483647) (hv : -2147483648 ≤ v ∧ v ≤ 2147483647) : jMi l yX9_mayBe wsX9_mayBe { frames := 0, cells := 0, slots := 0, locals := 0 } D Y RO [vI w, vI v] [] (fun e w1 => e = (if mbP w v then 1 else 0) ∧ w1 = []) := by
  refine j_ofz RX9 rfl rfl rfl (Nat.le_of_ble_eq_true rfl) (fun X C Rt => ?_)
  refine j_iload_n (pc := 0) C 0 0 rfl rfl dX9_mayBe_0 ?_
  rcases (show w = 2 ∨ w = 3 ∨ w = 4 ∨ (w < 2 ∨ 4 < w) by omega) with h_1p1 | h_1p1 | h_1p1 | h_1p1
  · refine j_tableC (pc := 1) C 2 28 h_1p1 (by decide) rfl rfl dX9_mayBe_1 ?_
    refine j_iload_n (pc := 28) C 1 1 rfl rfl dX9_mayBe_28 ?_
    refine j_iconst (pc := 29) C dX9_mayBe_29 ?_
    refine j_icmp_lt (pc := 30) C 43 rfl (by omega) dX9_mayBe_30 (fun h_2p30 => ?_) (fun h_2p30 => ?_)
    · skip
      refine j_iconst (pc := 43) C dX9_mayBe_43 ?_
      exact Rt _ _ _ _ _ _ (by decide) (by decide) (by decide) ⟨by unfold mbP; (repeat' split) <;> first | rfl | omega | (exfalso; omega), rfl⟩ dX9_mayBe_44
    · skip
      refine j_iload_n (pc := 33) C 1 1 rfl rfl dX9_mayBe_33 ?_
      refine j_bipush (pc := 34) (w := 9) C rfl dX9_mayBe_34 ?_
      refine j_icmp_gt (pc := 36) C 43 rfl (by omega) dX9_mayBe_36 (fun h_3p36 => ?_) (fun h_3p36 => ?_)
      · skip
        refine j_iconst (pc := 43) C dX9_mayBe_43 ?_
        exact Rt _ _ _ _ _ _ (by decide) (by decide) (by decide) ⟨by unfold mbP; (repeat' split) <;> first | rfl | omega | (exfalso; omega), rfl⟩ dX9_mayBe_44
      · skip
        refine j_iconst (pc := 39) C dX9_mayBe_39 ?_
        refine j_goto (pc := 40) C 44 rfl dX9_mayBe_40 ?_
        exact Rt _ _ _ _ _ _ (by decide) (by decide) (by decide) ⟨by unfold mbP; (repeat' split) <;> first | rfl | omega | (exfalso; omega), rfl⟩ dX9_mayBe_44
  · refine j_tableC (pc := 1) C 3 45 h_1p1 (by decide) rfl rfl dX9_mayBe_1 ?_
    refine j_iload_n (pc := 45) C 1 1 rfl rfl dX9_mayBe_45 ?_
    refine j_if_lt (pc := 46) C 59 rfl (by omega) dX9_mayBe_46 (fun h_4p46 => ?_) (fun h_4p46 => ?_)
    · skip
      refine j_iconst (pc := 59) C dX9_mayBe_59 ?_
      exact Rt _ _ _ _ _ _ (by decide) (by decide) (by decide) ⟨by unfold mbP; (repeat' split) <;> first | rfl | omega | (exfalso; omega), rfl⟩ dX9_mayBe_60
    · skip
      refine j_iload_n (pc := 49) C 1 1 rfl rfl dX9_mayBe_49 ?_
      refine j_bipush (pc := 50) (w := 10) C rfl dX9_mayBe_50 ?_
      refine j_icmp_gt (pc := 52) C 59 rfl (by omega) dX9_mayBe_52 (fun h_5p52 => ?_) (fun h_5p52 => ?_)
      · skip
        refine j_iconst (pc := 59) C dX9_mayBe_59 ?_
        exact Rt _ _ _ _ _ _ (by decide) (by decide) (by decide) ⟨by unfold mbP; (repeat' split) <;> first | rfl | omega | (exfalso; omega), rfl⟩ dX9_mayBe_60
      · skip
        refine j_iconst (pc := 55) C dX9_mayBe_55 ?_
        refine j_goto (pc := 56) C 60 rfl dX9_mayBe_56 ?_
        exact Rt _ _ _ _ _ _ (by decide) (by decide) (by decide) ⟨by unfold mbP; (repeat' split) <;> first | rfl | omega | (exfalso; omega), rfl⟩ dX9_mayBe_60
  · refine j_tableC (pc := 1) C 4 61 h_1p1 (by decide) rfl rfl dX9_mayBe_1 ?_
    refine j_iload_n (pc := 61) C 1 1 rfl rfl dX9_mayBe_61 ?_
    refine j_if_lt (pc := 62) C 75 rfl (by omega) dX9_mayBe_62 (fun h_6p62 => ?_) (fun h_6p62 => ?_)
    · skip
      refine j_iconst (pc := 75) C dX9_mayBe_75 ?_
      exact Rt _ _ _ _ _ _ (by decide) (by decide) (by decide) ⟨by unfold mbP; (repeat' split) <;> first | rfl | omega | (exfalso; omega), rfl⟩ dX9_mayBe_76
    · skip
      refine j_iload_n (pc := 65) C 1 1 rfl rfl dX9_mayBe_65 ?_
      refine j_bipush (pc := 66) (w := 10) C rfl dX9_mayBe_66 ?_
      refine j_icmp_gt (pc := 68) C 75 rfl (by omega) dX9_mayBe_68 (fun h_7p68 => ?_) (fun h_7p68 => ?_)
      · skip
        refine j_iconst (pc := 75) C dX9_mayBe_75 ?_
        exact Rt _ _ _ _ _ _ (by decide) (by decide) (by decide) ⟨by unfold mbP; (repeat' split) <;> first | rfl | omega | (exfalso; omega), rfl⟩ dX9_mayBe_76
      · skip
        refine j_iconst (pc := 71) C dX9_mayBe_71 ?_
        refine j_goto (pc := 72) C 76 rfl dX9_mayBe_72 ?_
        exact Rt _ _ _ _ _ _ (by decide) (by decide) (by decide) ⟨by unfold mbP; (repeat' split) <;> first | rfl | omega | (exfalso; omega), rfl⟩ dX9_mayBe_76
  · refine j_tableD (pc := 1) C 77 (by omega) h_1p1 rfl dX9_mayBe_1 ?_
    refine j_iconst (pc := 77) C dX9_mayBe_77 ?_
    exact Rt _ _ _ _ _ _ (by decide) (by decide) (by decide) ⟨by unfold mbP; (repeat' split) <;> first | rfl | omega | (exfalso; omega), rfl⟩ dX9_mayBe_78

theorem fX5_init_X5 : ∀ w ∈ u_ws RX5 TX5 4, w ∈ wsX5_init := j_words [9, 10, 11, 12] (by decide +kernel)
set_option maxHeartbeats 4000000 in
set_option maxRecDepth 100000 in
theorem c_pin0 (l : Launch) (D : va_G) (Y : Nat → ClassId) (RO : va_W) (a : Nat) (n : Int)   : jMv l yX5_init wsX5_init { frames := 1, cells := 0, slots := 0, locals := 12 } D Y RO [.ref a, vI n] [(a, oC 4 [vI 0, vI 0, vI 0, vI 0])] (fun w1 => w1 = [(a, oC 4 [vI n, vI 0, vI 0, vI 0])]) := by
  refine j_ofv RX5 rfl rfl rfl (Nat.le_of_ble_eq_true rfl) (fun X C Rt hI => ?_)
  refine j_aload_n (pc := 0) C 0 0 rfl rfl dX5_init_0 ?_
  refine j_objInit (pc := 1) (st := []) C (List.mem_of_getElem? (i := 1) rfl) (List.mem_of_getElem? (i := 2) rfl) (List.mem_of_getElem? (i := 3) rfl) (by decide) (Nat.le_of_ble_eq_true rfl) dX5_init_1 ?_
  refine j_aload_n (pc := 4) C 0 0 rfl rfl dX5_init_4 ?_
  refine j_iload_n (pc := 5) C 1 1 rfl rfl dX5_init_5 ?_
  refine j_putF (pc := 6) (ws' := [(a, oC 4 [vI n, vI 0, vI 0, vI 0])]) C 0 rfl rfl fX5_init_X5 tyX5_ok nmX5 0 (by decide) (List.mem_of_getElem? (i := 4) rfl) (Or.inl rfl) rfl (hI rfl) rfl rfl rfl rfl (Nat.le_of_ble_eq_true rfl) rfl dX5_init_6 ?_
  exact Rt _ _ _ _ _ (by decide) (by decide) rfl dX5_init_9

theorem fX5_init_X6 : ∀ w ∈ u_ws RX6 TX6 4, w ∈ wsX5_init := j_words [13, 14, 15, 16] (by decide +kernel)
set_option maxHeartbeats 4000000 in
set_option maxRecDepth 100000 in
theorem c_pin1 (l : Launch) (D : va_G) (Y : Nat → ClassId) (RO : va_W) (a : Nat) (n : Int)   : jMv l yX5_init wsX5_init { frames := 1, cells := 0, slots := 0, locals := 12 } D Y RO [.ref a, vI n] [(a, oC 5 [vI 0, vI 0, vI 0, vI 0])] (fun w1 => w1 = [(a, oC 5 [vI n, vI 0, vI 0, vI 0])]) := by
  refine j_ofv RX5 rfl rfl rfl (Nat.le_of_ble_eq_true rfl) (fun X C Rt hI => ?_)
  refine j_aload_n (pc := 0) C 0 0 rfl rfl dX5_init_0 ?_
  refine j_objInit (pc := 1) (st := []) C (List.mem_of_getElem? (i := 1) rfl) (List.mem_of_getElem? (i := 2) rfl) (List.mem_of_getElem? (i := 3) rfl) (by decide) (Nat.le_of_ble_eq_true rfl) dX5_init_1 ?_
  refine j_aload_n (pc := 4) C 0 0 rfl rfl dX5_init_4 ?_
  refine j_iload_n (pc := 5) C 1 1 rfl rfl dX5_init_5 ?_
  refine j_putF (pc := 6) (ws' := [(a, oC 5 [vI n, vI 0, vI 0, vI 0])]) C 0 rfl rfl fX5_init_X6 tyX6_ok nmX6 0 (by decide) (List.mem_of_getElem? (i := 4) rfl) (Or.inl rfl) rfl (hI rfl) rfl rfl rfl rfl (Nat.le_of_ble_eq_true rfl) rfl dX5_init_6 ?_
  exact Rt _ _ _ _ _ (by decide) (by decide) rfl dX5_init_9

theorem fX5_init_X7 : ∀ w ∈ u_ws RX7 TX7 4, w ∈ wsX5_init := j_words [17, 18, 19, 20] (by decide +kernel)
set_option maxHeartbeats 4000000 in
set_option maxRecDepth 100000 in
theorem c_pin2 (l : Launch) (D : va_G) (Y : Nat → ClassId) (RO : va_W) (a : Nat) (n : Int)   : jMv l yX5_init wsX5_init { frames := 1, cells := 0, slots := 0, locals := 12 } D Y RO [.ref a, vI n] [(a, oC 6 [vI 0, vI 0, vI 0, vI 0])] (fun w1 => w1 = [(a, oC 6 [vI n, vI 0, vI 0, vI 0])]) := by
  refine j_ofv RX5 rfl rfl rfl (Nat.le_of_ble_eq_true rfl) (fun X C Rt hI => ?_)
  refine j_aload_n (pc := 0) C 0 0 rfl rfl dX5_init_0 ?_
  refine j_objInit (pc := 1) (st := []) C (List.mem_of_getElem? (i := 1) rfl) (List.mem_of_getElem? (i := 2) rfl) (List.mem_of_getElem? (i := 3) rfl) (by decide) (Nat.le_of_ble_eq_true rfl) dX5_init_1 ?_
  refine j_aload_n (pc := 4) C 0 0 rfl rfl dX5_init_4 ?_
  refine j_iload_n (pc := 5) C 1 1 rfl rfl dX5_init_5 ?_
  refine j_putF (pc := 6) (ws' := [(a, oC 6 [vI n, vI 0, vI 0, vI 0])]) C 0 rfl rfl fX5_init_X7 tyX7_ok nmX7 0 (by decide) (List.mem_of_getElem? (i := 4) rfl) (Or.inl rfl) rfl (hI rfl) rfl rfl rfl rfl (Nat.le_of_ble_eq_true rfl) rfl dX5_init_6 ?_
  exact Rt _ _ _ _ _ (by decide) (by decide) rfl dX5_init_9

theorem fX5_init_X0 : ∀ w ∈ u_ws RX0 TX0 4, w ∈ wsX5_init := j_words [5, 6, 7, 8] (by decide +kernel)
set_option maxHeartbeats 4000000 in
set_option maxRecDepth 100000 in
theorem c_pin3 (l : Launch) (D : va_G) (Y : Nat → ClassId) (RO : va_W) (a : Nat) (n : Int)   : jMv l yX5_init wsX5_init { frames := 1, cells := 0, slots := 0, locals := 12 } D Y RO [.ref a, vI n] [(a, oC 0 [vI 0, vI 0, vI 0, vI 0])] (fun w1 => w1 = [(a, oC 0 [vI n, vI 0, vI 0, vI 0])]) := by
  refine j_ofv RX5 rfl rfl rfl (Nat.le_of_ble_eq_true rfl) (fun X C Rt hI => ?_)
  refine j_aload_n (pc := 0) C 0 0 rfl rfl dX5_init_0 ?_
  refine j_objInit (pc := 1) (st := []) C (List.mem_of_getElem? (i := 1) rfl) (List.mem_of_getElem? (i := 2) rfl) (List.mem_of_getElem? (i := 3) rfl) (by decide) (Nat.le_of_ble_eq_true rfl) dX5_init_1 ?_
  refine j_aload_n (pc := 4) C 0 0 rfl rfl dX5_init_4 ?_
  refine j_iload_n (pc := 5) C 1 1 rfl rfl dX5_init_5 ?_
  refine j_putF (pc := 6) (ws' := [(a, oC 0 [vI n, vI 0, vI 0, vI 0])]) C 0 rfl rfl fX5_init_X0 tyX0_ok nmX0 0 (by decide) (List.mem_of_getElem? (i := 4) rfl) (Or.inl rfl) rfl (hI rfl) rfl rfl rfl rfl (Nat.le_of_ble_eq_true rfl) rfl dX5_init_6 ?_
  exact Rt _ _ _ _ _ (by decide) (by decide) rfl dX5_init_9

set_option maxHeartbeats 4000000 in
set_option maxRecDepth 100000 in
theorem c_X6_init (l : Launch) (D : va_G) (Y : Nat → ClassId) (RO : va_W) (a : Nat) (n : Int)   : jMv l yX6_init wsX6_init { frames := 2, cells := 0, slots := 0, locals := 33 } D Y RO [.ref a, vI n] [(a, oC 5 [vI 0, vI 0, vI 0, vI 0])] (fun w1 => w1 = [(a, oC 5 [vI n, vI 0, vI 0, vI 0])]) := by
  refine j_ofv RX6 rfl rfl rfl (Nat.le_of_ble_eq_true rfl) (fun X C Rt hI => ?_)
  refine j_aload_n (pc := 0) C 0 0 rfl rfl dX6_init_0 ?_
  refine j_iload_n (pc := 1) C 1 1 rfl rfl dX6_init_1 ?_
  refine j_callIv (pc := 2) (As := [vI n]) (na := 1) (st := []) C [0] [] (wr := []) (fun l => c_pin1 l D Y _ a n ) rfl rfl rfl rfl (by decide) rfl gX6_init_X5_init (List.mem_of_getElem? (i := 3) rfl) (List.mem_of_getElem? (i := 1) rfl) (List.mem_of_getElem? (i := 2) rfl) rfl (by decide +kernel) (by decide) rfl rfl (Nat.le_of_ble_eq_true rfl) (by decide) dX6_init_2 (fun w_2 h_3 => ?_)
  subst h_3
  refine j_perm (ws' := [(a, oC 5 [vI n, vI 0, vI 0, vI 0])]) [0] rfl rfl ?_
  exact Rt _ _ _ _ _ (by decide) (by decide) rfl dX6_init_5

set_option maxHeartbeats 4000000 in
set_option maxRecDepth 100000 in
theorem c_X7_init (l : Launch) (D : va_G) (Y : Nat → ClassId) (RO : va_W) (a : Nat) (n : Int)   : jMv l yX7_init wsX7_init { frames := 2, cells := 0, slots := 0, locals := 33 } D Y RO [.ref a, vI n] [(a, oC 6 [vI 0, vI 0, vI 0, vI 0])] (fun w1 => w1 = [(a, oC 6 [vI n, vI 0, vI 0, vI 0])]) := by
  refine j_ofv RX7 rfl rfl rfl (Nat.le_of_ble_eq_true rfl) (fun X C Rt hI => ?_)
  refine j_aload_n (pc := 0) C 0 0 rfl rfl dX7_init_0 ?_
  refine j_iload_n (pc := 1) C 1 1 rfl rfl dX7_init_1 ?_
  refine j_callIv (pc := 2) (As := [vI n]) (na := 1) (st := []) C [0] [] (wr := []) (fun l => c_pin2 l D Y _ a n ) rfl rfl rfl rfl (by decide) rfl gX7_init_X5_init (List.mem_of_getElem? (i := 3) rfl) (List.mem_of_getElem? (i := 1) rfl) (List.mem_of_getElem? (i := 2) rfl) rfl (by decide +kernel) (by decide) rfl rfl (Nat.le_of_ble_eq_true rfl) (by decide) dX7_init_2 (fun w_2 h_3 => ?_)
  subst h_3
  refine j_perm (ws' := [(a, oC 6 [vI n, vI 0, vI 0, vI 0])]) [0] rfl rfl ?_
  exact Rt _ _ _ _ _ (by decide) (by decide) rfl dX7_init_5

set_option maxHeartbeats 4000000 in
set_option maxRecDepth 100000 in
theorem c_sin0 (l : Launch) (D : va_G) (Y : Nat → ClassId) (RO : va_W) (a : Nat) (n : Int)   : jMv l yX7_init wsX7_init { frames := 2, cells := 0, slots := 0, locals := 33 } D Y RO [.ref a, vI n] [(a, oC 0 [vI 0, vI 0, vI 0, vI 0])] (fun w1 => w1 = [(a, oC 0 [vI n, vI 0, vI 0, vI 0])]) := by
  refine j_ofv RX7 rfl rfl rfl (Nat.le_of_ble_eq_true rfl) (fun X C Rt hI => ?_)
  refine j_aload_n (pc := 0) C 0 0 rfl rfl dX7_init_0 ?_
  refine j_iload_n (pc := 1) C 1 1 rfl rfl dX7_init_1 ?_
  refine j_callIv (pc := 2) (As := [vI n]) (na := 1) (st := []) C [0] [] (wr := []) (fun l => c_pin3 l D Y _ a n ) rfl rfl rfl rfl (by decide) rfl gX7_init_X5_init (List.mem_of_getElem? (i := 3) rfl) (List.mem_of_getElem? (i := 1) rfl) (List.mem_of_getElem? (i := 2) rfl) rfl (by decide +kernel) (by decide) rfl rfl (Nat.le_of_ble_eq_true rfl) (by decide) dX7_init_2 (fun w_2 h_3 => ?_)
  subst h_3
  refine j_perm (ws' := [(a, oC 0 [vI n, vI 0, vI 0, vI 0])]) [0] rfl rfl ?_
  exact Rt _ _ _ _ _ (by decide) (by decide) rfl dX7_init_5

set_option maxHeartbeats 4000000 in
set_option maxRecDepth 100000 in
theorem c_X0_init (l : Launch) (D : va_G) (Y : Nat → ClassId) (RO : va_W) (a : Nat) (n : Int)   : jMv l yX0_init wsX0_init { frames := 3, cells := 0, slots := 0, locals := 54 } D Y RO [.ref a, vI n] [(a, oC 0 [vI 0, vI 0, vI 0, vI 0])] (fun w1 => w1 = [(a, oC 0 [vI n, vI 0, vI 0, vI 0])]) := by
  refine j_ofv RX0 rfl rfl rfl (Nat.le_of_ble_eq_true rfl) (fun X C Rt hI => ?_)
  refine j_aload_n (pc := 0) C 0 0 rfl rfl dX0_init_0 ?_
  refine j_iload_n (pc := 1) C 1 1 rfl rfl dX0_init_1 ?_
  refine j_callIv (pc := 2) (As := [vI n]) (na := 1) (st := []) C [0] [] (wr := []) (fun l => c_sin0 l D Y _ a n ) rfl rfl rfl rfl (by decide) rfl gX0_init_X7_init (List.mem_of_getElem? (i := 3) rfl) (List.mem_of_getElem? (i := 1) rfl) (List.mem_of_getElem? (i := 2) rfl) rfl (by decide +kernel) (by decide) rfl rfl (Nat.le_of_ble_eq_true rfl) (by decide) dX0_init_2 (fun w_2 h_3 => ?_)
  subst h_3
  refine j_perm (ws' := [(a, oC 0 [vI n, vI 0, vI 0, vI 0])]) [0] rfl rfl ?_
  exact Rt _ _ _ _ _ (by decide) (by decide) rfl dX0_init_5

theorem fX9_madeOf_X0 : ∀ w ∈ u_ws RX0 TX0 4, w ∈ wsX9_madeOf := j_words [40, 41, 42, 43] (by decide +kernel)
theorem fX9_madeOf_X5 : ∀ w ∈ u_ws RX5 TX5 4, w ∈ wsX9_madeOf := j_words [44, 45, 46, 47] (by decide +kernel)
theorem fX9_madeOf_X6 : ∀ w ∈ u_ws RX6 TX6 4, w ∈ wsX9_madeOf := j_words [32, 33, 34, 35] (by decide +kernel)
theorem fX9_madeOf_X7 : ∀ w ∈ u_ws RX7 TX7 4, w ∈ wsX9_madeOf := j_words [36, 37, 38, 39] (by decide +kernel)
set_option maxHeartbeats 4000000 in
set_option maxRecDepth 100000 in
theorem c_madeOf (l : Launch) (D : va_G) (Y : Nat → ClassId) (RO : va_W) (kd : Int) (n : Int)  (hk : 0 ≤ kd ∧ kd ≤ 3) (hn : -2147483648 ≤ n ∧ n ≤ 2147483647) : jMr l yX9_madeOf wsX9_madeOf { frames := 4, cells := 1, slots := 4, locals := 75 } D Y RO [vI kd, vI n] [] (fun e w1 => ∃ q : Nat, e = some q ∧ w1 = [pC q (kd, n, 0, 0, 0)]) := by
  refine j_ofr RX9 rfl rfl rfl (Nat.le_of_ble_eq_true rfl) (fun X C Rt => ?_)
  refine j_iload_n (pc := 0) C 0 0 rfl rfl dX9_madeOf_0 ?_
  rcases (show kd = 1 ∨ kd = 2 ∨ kd = 3 ∨ (kd < 1 ∨ 3 < kd) by omega) with h_1p1 | h_1p1 | h_1p1 | h_1p1
  · refine j_tableC (pc := 1) C 1 28 h_1p1 (by decide) rfl rfl dX9_madeOf_1 ?_
    refine j_new (pc := 28) (ci := 5) C [vI 0, vI 0, vI 0, vI 0] rfl fX9_madeOf_X6 tyX6_ok (List.mem_of_getElem? (i := 1) rfl) (List.mem_of_getElem? (i := 2) rfl) (List.mem_of_getElem? (i := 3) rfl) (fun j hj => by rcases (show j = 0 ∨ j = 1 ∨ j = 2 ∨ j = 3 by omega) with rfl | rfl | rfl | rfl <;> rfl) (by decide) dX9_madeOf_28 (fun q_2 => ?_)
    refine j_st (ws' := [(q_2, oC 5 [vI 0, vI 0, vI 0, vI 0])]) rfl rfl rfl ?_
    refine j_dup (pc := 31) C rfl dX9_madeOf_31 ?_
    refine j_iload_n (pc := 32) C 1 1 rfl rfl dX9_madeOf_32 ?_
    refine j_callIv (pc := 33) (As := [vI n]) (na := 1) (st := [.ref q_2]) C [0] [] (wr := []) (fun l => c_X6_init l D Y _ q_2 n ) rfl rfl rfl rfl (by decide) rfl gX9_madeOf_X6_init (List.mem_of_getElem? (i := 3) rfl) (List.mem_of_getElem? (i := 13) rfl) (List.mem_of_getElem? (i := 14) rfl) rfl (by decide +kernel) (by decide) rfl rfl (Nat.le_of_ble_eq_true rfl) (by decide) dX9_madeOf_33 (fun w_4 h_5 => ?_)
    subst h_5
    refine j_perm (ws' := [(q_2, oC 5 [vI n, vI 0, vI 0, vI 0])]) [0] rfl rfl ?_
    exact Rt _ _ _ _ _ (some q_2) (by decide) (by decide) ⟨_, rfl, by rw [pC_1 (P := (kd, n, 0, 0, 0)) (show kd = 1 by omega)]⟩ dX9_madeOf_36
  · refine j_tableC (pc := 1) C 2 37 h_1p1 (by decide) rfl rfl dX9_madeOf_1 ?_
    refine j_new (pc := 37) (ci := 6) C [vI 0, vI 0, vI 0, vI 0] rfl fX9_madeOf_X7 tyX7_ok (List.mem_of_getElem? (i := 4) rfl) (List.mem_of_getElem? (i := 5) rfl) (List.mem_of_getElem? (i := 6) rfl) (fun j hj => by rcases (show j = 0 ∨ j = 1 ∨ j = 2 ∨ j = 3 by omega) with rfl | rfl | rfl | rfl <;> rfl) (by decide) dX9_madeOf_37 (fun q_6 => ?_)
    refine j_st (ws' := [(q_6, oC 6 [vI 0, vI 0, vI 0, vI 0])]) rfl rfl rfl ?_
    refine j_dup (pc := 40) C rfl dX9_madeOf_40 ?_
    refine j_iload_n (pc := 41) C 1 1 rfl rfl dX9_madeOf_41 ?_
    refine j_callIv (pc := 42) (As := [vI n]) (na := 1) (st := [.ref q_6]) C [0] [] (wr := []) (fun l => c_X7_init l D Y _ q_6 n ) rfl rfl rfl rfl (by decide) rfl gX9_madeOf_X7_init (List.mem_of_getElem? (i := 6) rfl) (List.mem_of_getElem? (i := 23) rfl) (List.mem_of_getElem? (i := 24) rfl) rfl (by decide +kernel) (by decide) rfl rfl (Nat.le_of_ble_eq_true rfl) (by decide) dX9_madeOf_42 (fun w_8 h_9 => ?_)
    subst h_9
    refine j_perm (ws' := [(q_6, oC 6 [vI n, vI 0, vI 0, vI 0])]) [0] rfl rfl ?_
    exact Rt _ _ _ _ _ (some q_6) (by decide) (by decide) ⟨_, rfl, by rw [pC_2 (P := (kd, n, 0, 0, 0)) (show kd = 2 by omega)]⟩ dX9_madeOf_45
  · refine j_tableC (pc := 1) C 3 46 h_1p1 (by decide) rfl rfl dX9_madeOf_1 ?_
    refine j_new (pc := 46) (ci := 0) C [vI 0, vI 0, vI 0, vI 0] rfl fX9_madeOf_X0 tyX0_ok (List.mem_of_getElem? (i := 7) rfl) (List.mem_of_getElem? (i := 8) rfl) (List.mem_of_getElem? (i := 9) rfl) (fun j hj => by rcases (show j = 0 ∨ j = 1 ∨ j = 2 ∨ j = 3 by omega) with rfl | rfl | rfl | rfl <;> rfl) (by decide) dX9_madeOf_46 (fun q_10 => ?_)
    refine j_st (ws' := [(q_10, oC 0 [vI 0, vI 0, vI 0, vI 0])]) rfl rfl rfl ?_
    refine j_dup (pc := 49) C rfl dX9_madeOf_49 ?_
    refine j_iload_n (pc := 50) C 1 1 rfl rfl dX9_madeOf_50 ?_
    refine j_callIv (pc := 51) (As := [vI n]) (na := 1) (st := [.ref q_10]) C [0] [] (wr := []) (fun l => c_X0_init l D Y _ q_10 n ) rfl rfl rfl rfl (by decide) rfl gX9_madeOf_X0_init (List.mem_of_getElem? (i := 9) rfl) (List.mem_of_getElem? (i := 27) rfl) (List.mem_of_getElem? (i := 28) rfl) rfl (by decide +kernel) (by decide) rfl rfl (Nat.le_of_ble_eq_true rfl) (by decide) dX9_madeOf_51 (fun w_12 h_13 => ?_)
    subst h_13
    refine j_perm (ws' := [(q_10, oC 0 [vI n, vI 0, vI 0, vI 0])]) [0] rfl rfl ?_
    exact Rt _ _ _ _ _ (some q_10) (by decide) (by decide) ⟨_, rfl, by rw [pC_3 (P := (kd, n, 0, 0, 0)) (show kd = 3 by omega)]⟩ dX9_madeOf_54
  · refine j_tableD (pc := 1) C 55 (by omega) h_1p1 rfl dX9_madeOf_1 ?_
    refine j_new (pc := 55) (ci := 4) C [vI 0, vI 0, vI 0, vI 0] rfl fX9_madeOf_X5 tyX5_ok (List.mem_of_getElem? (i := 10) rfl) (List.mem_of_getElem? (i := 11) rfl) (List.mem_of_getElem? (i := 12) rfl) (fun j hj => by rcases (show j = 0 ∨ j = 1 ∨ j = 2 ∨ j = 3 by omega) with rfl | rfl | rfl | rfl <;> rfl) (by decide) dX9_madeOf_55 (fun q_14 => ?_)
    refine j_st (ws' := [(q_14, oC 4 [vI 0, vI 0, vI 0, vI 0])]) rfl rfl rfl ?_
    refine j_dup (pc := 58) C rfl dX9_madeOf_58 ?_
    refine j_iload_n (pc := 59) C 1 1 rfl rfl dX9_madeOf_59 ?_
    refine j_callIv (pc := 60) (As := [vI n]) (na := 1) (st := [.ref q_14]) C [0] [] (wr := []) (fun l => c_pin0 l D Y _ q_14 n ) rfl rfl rfl rfl (by decide) rfl gX9_madeOf_X5_init (List.mem_of_getElem? (i := 12) rfl) (List.mem_of_getElem? (i := 31) rfl) (List.mem_of_getElem? (i := 17) rfl) rfl (by decide +kernel) (by decide) rfl rfl (Nat.le_of_ble_eq_true rfl) (by decide) dX9_madeOf_60 (fun w_16 h_17 => ?_)
    subst h_17
    refine j_perm (ws' := [(q_14, oC 4 [vI n, vI 0, vI 0, vI 0])]) [0] rfl rfl ?_
    exact Rt _ _ _ _ _ (some q_14) (by decide) (by decide) ⟨_, rfl, by rw [pC_0 (P := (kd, n, 0, 0, 0)) (show kd = 0 by omega)]⟩ dX9_madeOf_63

theorem fX9_parish_X0 : ∀ w ∈ u_ws RX0 TX0 4, w ∈ wsX9_parish := j_words [61, 62, 63, 64] (by decide +kernel)
theorem fX9_parish_X5 : ∀ w ∈ u_ws RX5 TX5 4, w ∈ wsX9_parish := j_words [65, 66, 67, 68] (by decide +kernel)
theorem fX9_parish_X6 : ∀ w ∈ u_ws RX6 TX6 4, w ∈ wsX9_parish := j_words [69, 70, 71, 72] (by decide +kernel)
theorem fX9_parish_X7 : ∀ w ∈ u_ws RX7 TX7 4, w ∈ wsX9_parish := j_words [73, 74, 75, 76] (by decide +kernel)
theorem fX9_parish_X9 : ∀ w ∈ u_ws RX9 TX9 11, w ∈ wsX9_parish := j_words [50, 51, 52, 53, 54, 55, 56, 57, 58, 59, 60] (by decide +kernel)
set_option maxHeartbeats 4000000 in
set_option maxRecDepth 100000 in
theorem k_parish (l : Launch) (D : va_G) (Y : Nat → ClassId) (RO : va_W) (k : Nat → Nat) (nc : Int) (np : Int) (ik : Int) (pad : Int → Nat) (kd : Int) (n : Int) (w : Int) (x : Int) (z : Int)  (hnp : 0 ≤ np ∧ np ≤ 6) (hkd : -2147483648 ≤ kd ∧ kd ≤ 2147483647) (hn : -2147483648 ≤ n ∧ n ≤ 2147483647) (hw : -2147483648 ≤ w ∧ w ≤ 2147483647) (hx : -2147483648 ≤ x ∧ x ≤ 2147483647) (hz : -2147483648 ≤ z ∧ z ≤ 2147483647) : jMi l yX9_parish wsX9_parish { frames := 5, cells := 1, slots := 4, locals := 96 } D Y RO [.ref (k 0), vI kd, vI n, vI w, vI x, vI z] [((k 0), oC 8 [.ref (k 1), .ref (k 2), vI nc, .ref (k 3), vI np, .ref (k 4), .ref (k 7), vI ik, .ref (k 10), .ref (k 13), .ref (k 14)]), ((k 3), aQ (Y 3) 6 (orow np pad))] (fun e w1 => e = rParish kd n w x z np ∧ ((¬ parOk kd n w x z np ∧ w1 = [((k 0), oC 8 [.ref (k 1), .ref (k 2), vI nc, .ref (k 3), vI np, .ref (k 4), .ref (k 7), vI ik, .ref (k 10), .ref (k 13), .ref (k 14)]), ((k 3), aQ (Y 3) 6 (orow np pad))]) ∨ (parOk kd n w x z np ∧ ∃ q : Nat, w1 = [((k 0), oC 8 [.ref (k 1), .ref (k 2), vI nc, .ref (k 3), vI (np + 1), .ref (k 4), .ref (k 7), vI ik, .ref (k 10), .ref (k 13), .ref (k 14)]), ((k 3), aQ (Y 3) 6 (orow (np + 1) (up pad np q))), pC q (kd, n, w, x, z)]))) := by
  refine j_ofi RX9 rfl rfl rfl (Nat.le_of_ble_eq_true rfl) (fun X C Rt => ?_)
  refine j_iload_n (pc := 0) C 1 1 rfl rfl dX9_parish_0 ?_
  refine j_iload_n (pc := 1) C 2 2 rfl rfl dX9_parish_1 ?_
  refine j_callSi (pc := 2) (As := [vI kd, vI n]) (na := 2) (st := []) C [] [0, 1] (wr := [((k 0), oC 8 [.ref (k 1), .ref (k 2), vI nc, .ref (k 3), vI np, .ref (k 4), .ref (k 7), vI ik, .ref (k 10), .ref (k 13), .ref (k 14)]), ((k 3), aQ (Y 3) 6 (orow np pad))]) (fun l => c_isKindWith l D Y _ kd n (by first | assumption | omega) (by first | assumption | omega)) rfl rfl rfl rfl (by decide) rfl gX9_parish_X9_isKindWith (by decide +kernel) (by decide) rfl rfl (Nat.le_of_ble_eq_true rfl) (by decide) dX9_parish_2 (fun e_1 w_2 h_3 => ?_)
  obtain ⟨rfl, rfl⟩ := h_3
  refine j_perm (ws' := [((k 0), oC 8 [.ref (k 1), .ref (k 2), vI nc, .ref (k 3), vI np, .ref (k 4), .ref (k 7), vI ik, .ref (k 10), .ref (k 13), .ref (k 14)]), ((k 3), aQ (Y 3) 6 (orow np pad))]) [0, 1] rfl rfl ?_
  refine j_if_neb (pc := 5) C 11 rfl dX9_parish_5 (fun h_4p5 => ?_) (fun h_4p5 => ?_)
  · skip
    refine j_iconst (pc := 11) C dX9_parish_11 ?_
    refine j_iload_n (pc := 12) C 3 3 rfl rfl dX9_parish_12 ?_
    refine j_callSi (pc := 13) (As := [vI 2, vI w]) (na := 2) (st := []) C [] [0, 1] (wr := [((k 0), oC 8 [.ref (k 1), .ref (k 2), vI nc, .ref (k 3), vI np, .ref (k 4), .ref (k 7), vI ik, .ref (k 10), .ref (k 13), .ref (k 14)]), ((k 3), aQ (Y 3) 6 (orow np pad))]) (fun l => c_mayBe l D Y _ 2 w (by first | assumption | omega) (by first | assumption | omega)) rfl rfl rfl rfl (by decide) rfl gX9_parish_X9_mayBe (by decide +kernel) (by decide) rfl rfl (Nat.le_of_ble_eq_true rfl) (by decide) dX9_parish_13 (fun e_5 w_6 h_7 => ?_)
    obtain ⟨rfl, rfl⟩ := h_7
    refine j_perm (ws' := [((k 0), oC 8 [.ref (k 1), .ref (k 2), vI nc, .ref (k 3), vI np, .ref (k 4), .ref (k 7), vI ik, .ref (k 10), .ref (k 13), .ref (k 14)]), ((k 3), aQ (Y 3) 6 (orow np pad))]) [0, 1] rfl rfl ?_
    refine j_if_eqb (pc := 16) C 37 rfl dX9_parish_16 (fun h_8p16 => ?_) (fun h_8p16 => ?_)
    · skip
      refine j_bipush (pc := 37) (w := (-102)) C rfl dX9_parish_37 ?_
      exact Rt _ _ _ _ _ _ (by decide) (by decide) (by first | (exact ⟨by unfold rParish; rw [if_neg (not_not_intro (by assumption)), if_pos (by assumption)], Or.inl ⟨fun q => absurd q.1.2.1 (by assumption), rfl⟩⟩) | (exact ⟨by unfold rParish; rw [if_neg (not_not_intro (by assumption)), if_neg (not_not_intro (by assumption)), if_pos (by assumption)], Or.inl ⟨fun q => absurd q.1.2.2.1 (by assumption), rfl⟩⟩) | (exact ⟨by unfold rParish; rw [if_neg (not_not_intro (by assumption)), if_neg (not_not_intro (by assumption)), if_neg (not_not_intro (by assumption)), if_pos (by assumption)], Or.inl ⟨fun q => absurd q.1.2.2.2 (by assumption), rfl⟩⟩)) dX9_parish_39
    · skip
      refine j_iconst (pc := 19) C dX9_parish_19 ?_
      refine j_iload (pc := 20) C 4 rfl dX9_parish_20 ?_
      refine j_callSi (pc := 22) (As := [vI 3, vI x]) (na := 2) (st := []) C [] [0, 1] (wr := [((k 0), oC 8 [.ref (k 1), .ref (k 2), vI nc, .ref (k 3), vI np, .ref (k 4), .ref (k 7), vI ik, .ref (k 10), .ref (k 13), .ref (k 14)]), ((k 3), aQ (Y 3) 6 (orow np pad))]) (fun l => c_mayBe l D Y _ 3 x (by first | assumption | omega) (by first | assumption | omega)) rfl rfl rfl rfl (by decide) rfl gX9_parish_X9_mayBe (by decide +kernel) (by decide) rfl rfl (Nat.le_of_ble_eq_true rfl) (by decide) dX9_parish_22 (fun e_9 w_10 h_11 => ?_)
      obtain ⟨rfl, rfl⟩ := h_11
      refine j_perm (ws' := [((k 0), oC 8 [.ref (k 1), .ref (k 2), vI nc, .ref (k 3), vI np, .ref (k 4), .ref (k 7), vI ik, .ref (k 10), .ref (k 13), .ref (k 14)]), ((k 3), aQ (Y 3) 6 (orow np pad))]) [0, 1] rfl rfl ?_
      refine j_if_eqb (pc := 25) C 37 rfl dX9_parish_25 (fun h_12p25 => ?_) (fun h_12p25 => ?_)
      · skip
        refine j_bipush (pc := 37) (w := (-102)) C rfl dX9_parish_37 ?_
        exact Rt _ _ _ _ _ _ (by decide) (by decide) (by first | (exact ⟨by unfold rParish; rw [if_neg (not_not_intro (by assumption)), if_pos (by assumption)], Or.inl ⟨fun q => absurd q.1.2.1 (by assumption), rfl⟩⟩) | (exact ⟨by unfold rParish; rw [if_neg (not_not_intro (by assumption)), if_neg (not_not_intro (by assumption)), if_pos (by assumption)], Or.inl ⟨fun q => absurd q.1.2.2.1 (by assumption), rfl⟩⟩) | (exact ⟨by unfold rParish; rw [if_neg (not_not_intro (by assumption)), if_neg (not_not_intro (by assumption)), if_neg (not_not_intro (by assumption)), if_pos (by assumption)], Or.inl ⟨fun q => absurd q.1.2.2.2 (by assumption), rfl⟩⟩)) dX9_parish_39
      · skip
        refine j_iconst (pc := 28) C dX9_parish_28 ?_
        refine j_iload (pc := 29) C 5 rfl dX9_parish_29 ?_
        refine j_callSi (pc := 31) (As := [vI 4, vI z]) (na := 2) (st := []) C [] [0, 1] (wr := [((k 0), oC 8 [.ref (k 1), .ref (k 2), vI nc, .ref (k 3), vI np, .ref (k 4), .ref (k 7), vI ik, .ref (k 10), .ref (k 13), .ref (k 14)]), ((k 3), aQ (Y 3) 6 (orow np pad))]) (fun l => c_mayBe l D Y _ 4 z (by first | assumption | omega) (by first | assumption | omega)) rfl rfl rfl rfl (by decide) rfl gX9_parish_X9_mayBe (by decide +kernel) (by decide) rfl rfl (Nat.le_of_ble_eq_true rfl) (by decide) dX9_parish_31 (fun e_13 w_14 h_15 => ?_)
        obtain ⟨rfl, rfl⟩ := h_15
        refine j_perm (ws' := [((k 0), oC 8 [.ref (k 1), .ref (k 2), vI nc, .ref (k 3), vI np, .ref (k 4), .ref (k 7), vI ik, .ref (k 10), .ref (k 13), .ref (k 14)]), ((k 3), aQ (Y 3) 6 (orow np pad))]) [0, 1] rfl rfl ?_
        refine j_if_neb (pc := 34) C 40 rfl dX9_parish_34 (fun h_16p34 => ?_) (fun h_16p34 => ?_)
        · skip
          refine j_aload_n (pc := 40) C 0 0 rfl rfl dX9_parish_40 ?_
          refine j_get (pc := 41) C (Or.inl (List.mem_of_getElem? (i := 0) rfl)) rfl fX9_parish_X9 4 (by decide) (List.mem_of_getElem? (i := 1) rfl) (Or.inl rfl) rfl dX9_parish_41 ?_
          refine j_if_lt (pc := 44) C 56 rfl (by omega) dX9_parish_44 (fun h_17p44 => ?_) (fun h_17p44 => ?_)
          · skip
            refine j_bipush (pc := 56) (w := (-104)) C rfl dX9_parish_56 ?_
            exact Rt _ _ _ _ _ _ (by decide) (by decide) ⟨by unfold rParish; rw [if_neg (not_not_intro (by assumption)), if_neg (not_not_intro (by assumption)), if_neg (not_not_intro (by assumption)), if_neg (not_not_intro (by assumption)), if_pos (by omega)], Or.inl ⟨fun q => absurd q.2 (by omega), rfl⟩⟩ dX9_parish_58
          · skip
            refine j_aload_n (pc := 47) C 0 0 rfl rfl dX9_parish_47 ?_
            refine j_get (pc := 48) C (Or.inl (List.mem_of_getElem? (i := 0) rfl)) rfl fX9_parish_X9 4 (by decide) (List.mem_of_getElem? (i := 1) rfl) (Or.inl rfl) rfl dX9_parish_48 ?_
            refine j_bipush (pc := 51) (w := 6) C rfl dX9_parish_51 ?_
            refine j_icmp_lt (pc := 53) C 59 rfl (by omega) dX9_parish_53 (fun h_18p53 => ?_) (fun h_18p53 => ?_)
            · skip
              have hmk : (0 ≤ kd ∧ kd ≤ 3) ∧ True := ⟨kwP_k (by assumption), trivial⟩
              refine j_iload_n (pc := 59) C 1 1 rfl rfl dX9_parish_59 ?_
              refine j_iload_n (pc := 60) C 2 2 rfl rfl dX9_parish_60 ?_
              refine j_callSr (pc := 61) (As := [vI kd, vI n]) (na := 2) (st := []) C [] [0, 1] (wr := [((k 0), oC 8 [.ref (k 1), .ref (k 2), vI nc, .ref (k 3), vI np, .ref (k 4), .ref (k 7), vI ik, .ref (k 10), .ref (k 13), .ref (k 14)]), ((k 3), aQ (Y 3) 6 (orow np pad))]) (fun l => c_madeOf l D Y _ kd n (kwP_k (by assumption)) (by first | assumption | omega)) rfl rfl rfl rfl (by decide) rfl gX9_parish_X9_madeOf (by decide +kernel) (by decide) rfl rfl (Nat.le_of_ble_eq_true rfl) (by decide) dX9_parish_61 (fun e_19 w_20 h_21 => ?_)
              obtain ⟨q_22, rfl, rfl⟩ := h_21
              refine j_perm (ws' := [((k 0), oC 8 [.ref (k 1), .ref (k 2), vI nc, .ref (k 3), vI np, .ref (k 4), .ref (k 7), vI ik, .ref (k 10), .ref (k 13), .ref (k 14)]), ((k 3), aQ (Y 3) 6 (orow np pad)), pC q_22 (kd, n, 0, 0, 0)]) [0, 1, 2] rfl rfl ?_
              refine j_astore (pc := 64) (lc' := [(6, .ref q_22), (0, .ref (k 0)), (1, vI kd), (2, vI n), (3, vI w), (4, vI x), (5, vI z)]) C (by decide) rfl dX9_parish_64 ?_
              refine j_aload (pc := 66) C 0 rfl dX9_parish_66 ?_
              refine j_iload_n (pc := 68) C 3 4 rfl rfl dX9_parish_68 ?_
              refine j_putP (pc := 69) (P' := (stW (kd, n, 0, 0, 0) w)) (ws' := [((k 0), oC 8 [.ref (k 1), .ref (k 2), vI nc, .ref (k 3), vI np, .ref (k 4), .ref (k 7), vI ik, .ref (k 10), .ref (k 13), .ref (k 14)]), ((k 3), aQ (Y 3) 6 (orow np pad)), pC q_22 (stW (kd, n, 0, 0, 0) w)]) C 2 rfl hmk.1 rfl fX9_parish_X5 fX9_parish_X6 fX9_parish_X7 fX9_parish_X0 1 (by decide) (by decide) (List.mem_of_getElem? (i := 2) rfl) (Or.inl rfl) rfl rfl dX9_parish_69 ?_
              refine j_aload (pc := 72) C 0 rfl dX9_parish_72 ?_
              refine j_iload (pc := 74) C 5 rfl dX9_parish_74 ?_
              refine j_putP (pc := 76) (P' := (stI (stW (kd, n, 0, 0, 0) w) x)) (ws' := [((k 0), oC 8 [.ref (k 1), .ref (k 2), vI nc, .ref (k 3), vI np, .ref (k 4), .ref (k 7), vI ik, .ref (k 10), .ref (k 13), .ref (k 14)]), ((k 3), aQ (Y 3) 6 (orow np pad)), pC q_22 (stI (stW (kd, n, 0, 0, 0) w) x)]) C 2 rfl hmk.1 rfl fX9_parish_X5 fX9_parish_X6 fX9_parish_X7 fX9_parish_X0 2 (by decide) (by decide) (List.mem_of_getElem? (i := 3) rfl) (Or.inl rfl) rfl rfl dX9_parish_76 ?_
              refine j_aload (pc := 79) C 0 rfl dX9_parish_79 ?_
              refine j_iload (pc := 81) C 6 rfl dX9_parish_81 ?_
              refine j_putP (pc := 83) (P' := (stZ (stI (stW (kd, n, 0, 0, 0) w) x) z)) (ws' := [((k 0), oC 8 [.ref (k 1), .ref (k 2), vI nc, .ref (k 3), vI np, .ref (k 4), .ref (k 7), vI ik, .ref (k 10), .ref (k 13), .ref (k 14)]), ((k 3), aQ (Y 3) 6 (orow np pad)), pC q_22 (stZ (stI (stW (kd, n, 0, 0, 0) w) x) z)]) C 2 rfl hmk.1 rfl fX9_parish_X5 fX9_parish_X6 fX9_parish_X7 fX9_parish_X0 3 (by decide) (by decide) (List.mem_of_getElem? (i := 4) rfl) (Or.inl rfl) rfl rfl dX9_parish_83 ?_
              refine j_aload_n (pc := 86) C 0 1 rfl rfl dX9_parish_86 ?_
              refine j_get (pc := 87) C (Or.inl (List.mem_of_getElem? (i := 0) rfl)) rfl fX9_parish_X9 3 (by decide) (List.mem_of_getElem? (i := 5) rfl) (Or.inl rfl) rfl dX9_parish_87 ?_
              refine j_aload_n (pc := 90) C 0 1 rfl rfl dX9_parish_90 ?_
              refine j_get (pc := 91) C (Or.inl (List.mem_of_getElem? (i := 0) rfl)) rfl fX9_parish_X9 4 (by decide) (List.mem_of_getElem? (i := 1) rfl) (Or.inl rfl) rfl dX9_parish_91 ?_
              refine j_aload (pc := 94) C 0 rfl dX9_parish_94 ?_
              refine j_aastP (pc := 96) (ws' := [((k 0), oC 8 [.ref (k 1), .ref (k 2), vI nc, .ref (k 3), vI np, .ref (k 4), .ref (k 7), vI ik, .ref (k 10), .ref (k 13), .ref (k 14)]), ((k 3), aQ (Y 3) 6 (up (orow np pad) np (some q_22))), pC q_22 (stZ (stI (stW (kd, n, 0, 0, 0) w) x) z)]) C 1 2 rfl rfl rfl hmk.1 (by omega) (by decide) rfl dX9_parish_96 ?_
              refine j_aload_n (pc := 97) C 0 1 rfl rfl dX9_parish_97 ?_
              refine j_dup (pc := 98) C rfl dX9_parish_98 ?_
              refine j_get (pc := 99) C (Or.inl (List.mem_of_getElem? (i := 0) rfl)) rfl fX9_parish_X9 4 (by decide) (List.mem_of_getElem? (i := 1) rfl) (Or.inl rfl) rfl dX9_parish_99 ?_
              refine j_iconst (pc := 102) C dX9_parish_102 ?_
              refine j_iadd (pc := 103) C dX9_parish_103 ?_
              refine j_put (pc := 104) (ws' := [((k 0), oC 8 [.ref (k 1), .ref (k 2), vI nc, .ref (k 3), vI (np + 1), .ref (k 4), .ref (k 7), vI ik, .ref (k 10), .ref (k 13), .ref (k 14)]), ((k 3), aQ (Y 3) 6 (up (orow np pad) np (some q_22))), pC q_22 (stZ (stI (stW (kd, n, 0, 0, 0) w) x) z)]) C 0 rfl rfl fX9_parish_X9 tyX9_ok nmX9 4 (by decide) (List.mem_of_getElem? (i := 1) rfl) (Or.inl rfl) rfl rfl rfl rfl (Nat.le_of_ble_eq_true rfl) rfl dX9_parish_104 ?_
              refine j_aload_n (pc := 107) C 0 1 rfl rfl dX9_parish_107 ?_
              refine j_get (pc := 108) C (Or.inl (List.mem_of_getElem? (i := 0) rfl)) rfl fX9_parish_X9 4 (by decide) (List.mem_of_getElem? (i := 1) rfl) (Or.inl rfl) rfl dX9_parish_108 ?_
              refine j_iconst (pc := 111) C dX9_parish_111 ?_
              refine j_isub (pc := 112) C dX9_parish_112 ?_
              exact Rt _ _ _ _ _ _ (by decide) (by decide) ⟨by unfold rParish; rw [if_neg (not_not_intro (by assumption)), if_neg (not_not_intro (by assumption)), if_neg (not_not_intro (by assumption)), if_neg (not_not_intro (by assumption)), if_neg (by omega)]; first | done | omega, Or.inr ⟨⟨⟨by assumption, by assumption, by assumption, by assumption⟩, by omega⟩, _, by rw [← orow_push (by omega)]; first | done | rfl⟩⟩ dX9_parish_113
            · skip
              refine j_bipush (pc := 56) (w := (-104)) C rfl dX9_parish_56 ?_
              exact Rt _ _ _ _ _ _ (by decide) (by decide) ⟨by unfold rParish; rw [if_neg (not_not_intro (by assumption)), if_neg (not_not_intro (by assumption)), if_neg (not_not_intro (by assumption)), if_neg (not_not_intro (by assumption)), if_pos (by omega)], Or.inl ⟨fun q => absurd q.2 (by omega), rfl⟩⟩ dX9_parish_58
        · skip
          refine j_bipush (pc := 37) (w := (-102)) C rfl dX9_parish_37 ?_
          exact Rt _ _ _ _ _ _ (by decide) (by decide) (by first | (exact ⟨by unfold rParish; rw [if_neg (not_not_intro (by assumption)), if_pos (by assumption)], Or.inl ⟨fun q => absurd q.1.2.1 (by assumption), rfl⟩⟩) | (exact ⟨by unfold rParish; rw [if_neg (not_not_intro (by assumption)), if_neg (not_not_intro (by assumption)), if_pos (by assumption)], Or.inl ⟨fun q => absurd q.1.2.2.1 (by assumption), rfl⟩⟩) | (exact ⟨by unfold rParish; rw [if_neg (not_not_intro (by assumption)), if_neg (not_not_intro (by assumption)), if_neg (not_not_intro (by assumption)), if_pos (by assumption)], Or.inl ⟨fun q => absurd q.1.2.2.2 (by assumption), rfl⟩⟩)) dX9_parish_39
  · skip
    refine j_bipush (pc := 8) (w := (-102)) C rfl dX9_parish_8 ?_
    exact Rt _ _ _ _ _ _ (by decide) (by decide) (by exact ⟨by unfold rParish; rw [if_pos (by assumption)], Or.inl ⟨fun q => absurd q.1.1 (by assumption), rfl⟩⟩) dX9_parish_10
end
section
/-! rows for making arrays; the constructors -/
section NEWS
variable {X : jX} {cc : ByteArray} {nL : Nat} {own : String} {Ts : List Cond} {rm : Room} {D : va_G} {Y : Nat → ClassId} {RO : va_W} {k n : Nat} {ws : va_W} {lc : List (Nat × Value)} {pc : Nat} {st : List Value}
theorem j_newI (C : jC X cc nL own Ts rm D Y RO) {m0 : Nat} {e : Int} (he : e = (m0 : Int)) (hm : m0 ≤ 1000) (harr : Cond.arrayClass .int ∈ Ts) (hroom : k + 1 ≤ rm.cells ∧ n + m0 ≤ rm.slots) (hd : decode cc pc = .ok (.newarray .int, 2)) (kk : ∀ q : Nat, jW X nL (k + 1) (n + m0) (ws ++ [(q, aI (Y 0) m0 (fun _ => 0))]) lc (pc + 2) (.ref q :: st)) : jW X nL k n ws lc pc (vI e :: st) := by
  obtain ⟨p, l, ev, R, s, m, args, below, meth, c, Q, D', Y', A, H0, RO'⟩ := X
  obtain ⟨⟨hx, hb, hml, hown, hts⟩, hK, hA, ⟨rfl, rfl, rfl, rfl⟩, hR, hRA, hN⟩ := C
  intro H locs ls hP hD hS hl
  subst he
  refine va_newa (atype := .int) (ty := .int) (N' := m0) (a0 := (m0, .inl (fun _ => 0))) hx hb (hts _ harr) rfl hK hP hD hS hA (fun cA => rfl) ?_ ?_ ?_ hroom.1 hroom.2 hd (fun q cA H1 hK1 hP1 hD1 hS1 => ?_)
  · rw [nj_z, nj_lt (by omega)]; omega
  · rw [nj_cl (by omega)]; omega
  · show m0 * 4 ≤ 536870912
    omega
  · have e := Option.some.inj ((va_nm_int (hK1.2 4 _ rfl).2).symm.trans (va_nm_int (hK.2 0 _ rfl).2))
    subst e
    exact kk q H1 locs ls hP1 hD1 hS1 hl
theorem va_nm_obj {s : State} {a b : ClassId} {T : String} (h : va_RA s a (.object T)) (g : va_RA s b (.object T)) : a = b := by
  obtain ⟨_, _, _, _, _, h4⟩ := h
  obtain ⟨_, _, _, _, _, g4⟩ := g
  exact Option.some.inj (h4.symm.trans g4)
theorem j_newC (C : jC X cc nL own Ts rm D Y RO) {m0 index : Nat} {e : Int} (he : e = (m0 : Int)) (hm : m0 ≤ 1000) (hlk : Cond.classLink own index RX1 ∈ Ts) (hroom : k + 1 ≤ rm.cells ∧ n + m0 ≤ rm.slots) (hd : decode cc pc = .ok (.anewarray index, 3)) (kk : ∀ q : Nat, jW X nL (k + 1) (n + m0) (ws ++ [(q, aQ (Y 2) m0 (fun _ => none))]) lc (pc + 3) (.ref q :: st)) : jW X nL k n ws lc pc (vI e :: st) := by
  obtain ⟨p, l, ev, R, s, m, args, below, meth, c, Q, D', Y', A, H0, RO'⟩ := X
  obtain ⟨⟨hx, hb, hml, hown, hts⟩, hK, hA, ⟨rfl, rfl, rfl, rfl⟩, hR, hRA, hN⟩ := C
  intro H locs ls hP hD hS hl
  subst he
  refine va_newq (N' := m0) hx hb hown (hts _ hlk) hN.2.1.1 hK hP hD hS hA ?_ ?_ ?_ hroom.1 hroom.2 hd (fun q cA H1 hK1 hP1 hD1 hS1 => ?_)
  · rw [nj_z, nj_lt (by omega)]; omega
  · rw [nj_cl (by omega)]; omega
  · omega
  · have e := va_nm_obj (hK1.2 4 _ rfl).2 (hK.2 2 _ rfl).2
    subst e
    exact kk q H1 locs ls hP1 hD1 hS1 hl
theorem j_newP (C : jC X cc nL own Ts rm D Y RO) {m0 index : Nat} {e : Int} (he : e = (m0 : Int)) (hm : m0 ≤ 1000) (hlk : Cond.classLink own index RX5 ∈ Ts) (hroom : k + 1 ≤ rm.cells ∧ n + m0 ≤ rm.slots) (hd : decode cc pc = .ok (.anewarray index, 3)) (kk : ∀ q : Nat, jW X nL (k + 1) (n + m0) (ws ++ [(q, aQ (Y 3) m0 (fun _ => none))]) lc (pc + 3) (.ref q :: st)) : jW X nL k n ws lc pc (vI e :: st) := by
  obtain ⟨p, l, ev, R, s, m, args, below, meth, c, Q, D', Y', A, H0, RO'⟩ := X
  obtain ⟨⟨hx, hb, hml, hown, hts⟩, hK, hA, ⟨rfl, rfl, rfl, rfl⟩, hR, hRA, hN⟩ := C
  intro H locs ls hP hD hS hl
  subst he
  refine va_newq (N' := m0) hx hb hown (hts _ hlk) hN.2.1.2 hK hP hD hS hA ?_ ?_ ?_ hroom.1 hroom.2 hd (fun q cA H1 hK1 hP1 hD1 hS1 => ?_)
  · rw [nj_z, nj_lt (by omega)]; omega
  · rw [nj_cl (by omega)]; omega
  · omega
  · have e := va_nm_obj (hK1.2 4 _ rfl).2 (hK.2 3 _ rfl).2
    subst e
    exact kk q H1 locs ls hP1 hD1 hS1 hl
end NEWS
def MS0 : MS := (fun _ => 0, fun _ => 0, 0, 0, 1, 0, 0, 0)
def PS0 : Int → PT := fun _ => (0, 0, 0, 0, 0)
def CS0 : Int → CT := fun _ => (0, 0, 0)
theorem okS_0 : okS MS0 := ⟨fun i _ => (by decide : (0 : Int) ≤ 0 ∧ (0 : Int) ≤ 60), fun j => (by decide : (0 : Int) ≤ 0 ∧ (0 : Int) ≤ 0), (by decide : (0 : Int) ≤ 0 ∧ (0 : Int) < 7), (by decide : (0 : Int) ≤ 1 ∧ (1 : Int) ≤ 2147483647)⟩
theorem orow_0 {ad : Int → Nat} : orow 0 ad = fun _ => none := by
  funext i
  exact orow_out (by omega)
theorem fX2_init_X2 : ∀ w ∈ u_ws RX2 TX2 8, w ∈ wsX2_init := j_words [8, 9, 10, 11, 12, 13, 14, 15] (by decide +kernel)
set_option maxHeartbeats 4000000 in
set_option maxRecDepth 100000 in
theorem c_minit (l : Launch) (D : va_G) (Y : Nat → ClassId) (RO : va_W) (a : Nat)   : jMv l yX2_init wsX2_init { frames := 1, cells := 2, slots := 427, locals := 12 } D Y RO [.ref a] [(a, oC 2 [.null, .null, vI 0, vI 0, vI 0, vI 0, vI 0, vI 0])] (fun w1 => ∃ (q1 q2 : Nat), w1 = [(a, oC 2 [.ref q1, .ref q2, vI (ms_w MS0), vI (ms_l MS0), vI (ms_s MS0), vI (ms_a MS0), vI (ms_t MS0), vI (ms_p MS0)]), (q1, aI (Y 0) 7 (ms_h MS0)), (q2, aI (Y 0) 420 (ms_m MS0))]) := by
  refine j_ofv RX2 rfl rfl rfl (Nat.le_of_ble_eq_true rfl) (fun X C Rt hI => ?_)
  refine j_aload_n (pc := 0) C 0 0 rfl rfl dX2_init_0 ?_
  refine j_objInit (pc := 1) (st := []) C (List.mem_of_getElem? (i := 1) rfl) (List.mem_of_getElem? (i := 2) rfl) (List.mem_of_getElem? (i := 3) rfl) (by decide) (Nat.le_of_ble_eq_true rfl) dX2_init_1 ?_
  refine j_aload_n (pc := 4) C 0 0 rfl rfl dX2_init_4 ?_
  refine j_bipush (pc := 5) (w := 7) C rfl dX2_init_5 ?_
  refine j_newI (pc := 7) (m0 := 7) C (by rfl) (by decide) (List.mem_of_getElem? (i := 4) rfl) (by decide) dX2_init_7 (fun q_1 => ?_)
  refine j_st (ws' := [(a, oC 2 [.null, .null, vI 0, vI 0, vI 0, vI 0, vI 0, vI 0]), (q_1, aI (Y 0) 7 (fun _ => 0))]) rfl rfl rfl ?_
  refine j_putF (pc := 9) (ws' := [(a, oC 2 [.ref q_1, .null, vI 0, vI 0, vI 0, vI 0, vI 0, vI 0]), (q_1, aI (Y 0) 7 (fun _ => 0))]) C 0 rfl rfl fX2_init_X2 tyX2_ok nmX2 0 (by decide) (List.mem_of_getElem? (i := 5) rfl) (Or.inl rfl) rfl (hI rfl) rfl rfl rfl rfl (Nat.le_of_ble_eq_true rfl) rfl dX2_init_9 ?_
  refine j_aload_n (pc := 12) C 0 0 rfl rfl dX2_init_12 ?_
  refine j_sipush (pc := 13) (w := 420) C rfl dX2_init_13 ?_
  refine j_newI (pc := 16) (m0 := 420) C (by rfl) (by decide) (List.mem_of_getElem? (i := 4) rfl) (by decide) dX2_init_16 (fun q_2 => ?_)
  refine j_st (ws' := [(a, oC 2 [.ref q_1, .null, vI 0, vI 0, vI 0, vI 0, vI 0, vI 0]), (q_1, aI (Y 0) 7 (fun _ => 0)), (q_2, aI (Y 0) 420 (fun _ => 0))]) rfl rfl rfl ?_
  refine j_putF (pc := 18) (ws' := [(a, oC 2 [.ref q_1, .ref q_2, vI 0, vI 0, vI 0, vI 0, vI 0, vI 0]), (q_1, aI (Y 0) 7 (fun _ => 0)), (q_2, aI (Y 0) 420 (fun _ => 0))]) C 0 rfl rfl fX2_init_X2 tyX2_ok nmX2 1 (by decide) (List.mem_of_getElem? (i := 6) rfl) (Or.inl rfl) rfl (hI rfl) rfl rfl rfl rfl (Nat.le_of_ble_eq_true rfl) rfl dX2_init_18 ?_
  refine j_aload_n (pc := 21) C 0 0 rfl rfl dX2_init_21 ?_
  refine j_iconst (pc := 22) C dX2_init_22 ?_
  refine j_put (pc := 23) (ws' := [(a, oC 2 [.ref q_1, .ref q_2, vI 0, vI 0, vI 1, vI 0, vI 0, vI 0]), (q_1, aI (Y 0) 7 (fun _ => 0)), (q_2, aI (Y 0) 420 (fun _ => 0))]) C 0 rfl rfl fX2_init_X2 tyX2_ok nmX2 4 (by decide) (List.mem_of_getElem? (i := 7) rfl) (Or.inl rfl) rfl rfl rfl rfl (Nat.le_of_ble_eq_true rfl) rfl dX2_init_23 ?_
  exact Rt _ _ _ _ _ (by decide) (by decide) ⟨_, _, rfl⟩ dX2_init_26

theorem fX4_init_X4 : ∀ w ∈ u_ws RX4 TX4 2, w ∈ wsX4_init := j_words [6, 7] (by decide +kernel)
set_option maxHeartbeats 4000000 in
set_option maxRecDepth 100000 in
theorem c_pginit (l : Launch) (D : va_G) (Y : Nat → ClassId) (RO : va_W) (a : Nat)   : jMv l yX4_init wsX4_init { frames := 1, cells := 1, slots := 16, locals := 12 } D Y RO [.ref a] [(a, oC 3 [.null, vI 0])] (fun w1 => ∃ (q1 : Nat), w1 = [(a, oC 3 [.ref q1, vI 0]), (q1, aI (Y 0) 16 (fun _ => 0))]) := by
  refine j_ofv RX4 rfl rfl rfl (Nat.le_of_ble_eq_true rfl) (fun X C Rt hI => ?_)
  refine j_aload_n (pc := 0) C 0 0 rfl rfl dX4_init_0 ?_
  refine j_objInit (pc := 1) (st := []) C (List.mem_of_getElem? (i := 1) rfl) (List.mem_of_getElem? (i := 2) rfl) (List.mem_of_getElem? (i := 3) rfl) (by decide) (Nat.le_of_ble_eq_true rfl) dX4_init_1 ?_
  refine j_aload_n (pc := 4) C 0 0 rfl rfl dX4_init_4 ?_
  refine j_bipush (pc := 5) (w := 16) C rfl dX4_init_5 ?_
  refine j_newI (pc := 7) (m0 := 16) C (by rfl) (by decide) (List.mem_of_getElem? (i := 4) rfl) (by decide) dX4_init_7 (fun q_1 => ?_)
  refine j_st (ws' := [(a, oC 3 [.null, vI 0]), (q_1, aI (Y 0) 16 (fun _ => 0))]) rfl rfl rfl ?_
  refine j_putF (pc := 9) (ws' := [(a, oC 3 [.ref q_1, vI 0]), (q_1, aI (Y 0) 16 (fun _ => 0))]) C 0 rfl rfl fX4_init_X4 tyX4_ok nmX4 0 (by decide) (List.mem_of_getElem? (i := 5) rfl) (Or.inl rfl) rfl (hI rfl) rfl rfl rfl rfl (Nat.le_of_ble_eq_true rfl) rfl dX4_init_9 ?_
  exact Rt _ _ _ _ _ (by decide) (by decide) ⟨_, rfl⟩ dX4_init_12

theorem fX8_init_X8 : ∀ w ∈ u_ws RX8 TX8 2, w ∈ wsX8_init := j_words [7, 8] (by decide +kernel)
set_option maxHeartbeats 4000000 in
set_option maxRecDepth 100000 in
theorem c_winit (l : Launch) (D : va_G) (Y : Nat → ClassId) (RO : va_W) (a : Nat)   : jMv l yX8_init wsX8_init { frames := 1, cells := 2, slots := 542, locals := 12 } D Y RO [.ref a] [(a, oC 7 [.null, .null])] (fun w1 => ∃ (q1 q2 : Nat), w1 = [(a, oC 7 [.ref q1, .ref q2]), (q1, aI (Y 0) 271 (fun _ => 0)), (q2, aI (Y 0) 271 (fun _ => 0))]) := by
  refine j_ofv RX8 rfl rfl rfl (Nat.le_of_ble_eq_true rfl) (fun X C Rt hI => ?_)
  refine j_aload_n (pc := 0) C 0 0 rfl rfl dX8_init_0 ?_
  refine j_objInit (pc := 1) (st := []) C (List.mem_of_getElem? (i := 1) rfl) (List.mem_of_getElem? (i := 2) rfl) (List.mem_of_getElem? (i := 3) rfl) (by decide) (Nat.le_of_ble_eq_true rfl) dX8_init_1 ?_
  refine j_aload_n (pc := 4) C 0 0 rfl rfl dX8_init_4 ?_
  refine j_sipush (pc := 5) (w := 271) C rfl dX8_init_5 ?_
  refine j_newI (pc := 8) (m0 := 271) C (by rfl) (by decide) (List.mem_of_getElem? (i := 4) rfl) (by decide) dX8_init_8 (fun q_1 => ?_)
  refine j_st (ws' := [(a, oC 7 [.null, .null]), (q_1, aI (Y 0) 271 (fun _ => 0))]) rfl rfl rfl ?_
  refine j_put (pc := 10) (ws' := [(a, oC 7 [.ref q_1, .null]), (q_1, aI (Y 0) 271 (fun _ => 0))]) C 0 rfl rfl fX8_init_X8 tyX8_ok nmX8 0 (by decide) (List.mem_of_getElem? (i := 5) rfl) (Or.inl rfl) rfl rfl rfl rfl (Nat.le_of_ble_eq_true rfl) rfl dX8_init_10 ?_
  refine j_aload_n (pc := 13) C 0 0 rfl rfl dX8_init_13 ?_
  refine j_sipush (pc := 14) (w := 271) C rfl dX8_init_14 ?_
  refine j_newI (pc := 17) (m0 := 271) C (by rfl) (by decide) (List.mem_of_getElem? (i := 4) rfl) (by decide) dX8_init_17 (fun q_2 => ?_)
  refine j_st (ws' := [(a, oC 7 [.ref q_1, .null]), (q_1, aI (Y 0) 271 (fun _ => 0)), (q_2, aI (Y 0) 271 (fun _ => 0))]) rfl rfl rfl ?_
  refine j_put (pc := 19) (ws' := [(a, oC 7 [.ref q_1, .ref q_2]), (q_1, aI (Y 0) 271 (fun _ => 0)), (q_2, aI (Y 0) 271 (fun _ => 0))]) C 0 rfl rfl fX8_init_X8 tyX8_ok nmX8 1 (by decide) (List.mem_of_getElem? (i := 6) rfl) (Or.inl rfl) rfl rfl rfl rfl (Nat.le_of_ble_eq_true rfl) rfl dX8_init_19 ?_
  exact Rt _ _ _ _ _ (by decide) (by decide) ⟨_, _, rfl⟩ dX8_init_22
end
section
theorem fX9_init_X2 : ∀ w ∈ u_ws RX2 TX2 8, w ∈ wsX9_init := j_words [52, 53, 54, 55, 56, 57, 58, 59] (by decide +kernel)
theorem fX9_init_X4 : ∀ w ∈ u_ws RX4 TX4 2, w ∈ wsX9_init := j_words [39, 40] (by decide +kernel)
theorem fX9_init_X8 : ∀ w ∈ u_ws RX8 TX8 2, w ∈ wsX9_init := j_words [60, 61] (by decide +kernel)
theorem fX9_init_X9 : ∀ w ∈ u_ws RX9 TX9 11, w ∈ wsX9_init := j_words [41, 42, 43, 44, 45, 46, 47, 48, 49, 50, 51] (by decide +kernel)
set_option maxHeartbeats 4000000 in
set_option maxRecDepth 100000 in
theorem k_init (l : Launch) (D : va_G) (Y : Nat → ClassId) (RO : va_W) (a : Nat)   : jMv l yX9_init wsX9_init { frames := 2, cells := 17, slots := 1884, locals := 32 } D Y RO [.ref a] [(a, oC 8 [.null, .null, vI 0, .null, vI 0, .null, .null, vI 0, .null, .null, .null])] (fun w1 => ∃ k : Nat → Nat, k 0 = a ∧ w1 = [((k 0), oC 8 [.ref (k 1), .ref (k 2), vI 0, .ref (k 3), vI 0, .ref (k 4), .ref (k 7), vI 0, .ref (k 10), .ref (k 13), .ref (k 14)]), ((k 1), oC 3 [.ref (k 17), vI 0]), ((k 2), aQ (Y 2) 4 (fun _ => none)), ((k 3), aQ (Y 3) 6 (fun _ => none)), ((k 4), oC 2 [.ref (k 5), .ref (k 6), vI (ms_w MS0), vI (ms_l MS0), vI (ms_s MS0), vI (ms_a MS0), vI (ms_t MS0), vI (ms_p MS0)]), ((k 5), aI (Y 0) 7 (ms_h MS0)), ((k 6), aI (Y 0) 420 (ms_m MS0)), ((k 7), oC 2 [.ref (k 8), .ref (k 9), vI (ms_w MS0), vI (ms_l MS0), vI (ms_s MS0), vI (ms_a MS0), vI (ms_t MS0), vI (ms_p MS0)]), ((k 8), aI (Y 0) 7 (ms_h MS0)), ((k 9), aI (Y 0) 420 (ms_m MS0)), ((k 10), oC 2 [.ref (k 11), .ref (k 12), vI (ms_w MS0), vI (ms_l MS0), vI (ms_s MS0), vI (ms_a MS0), vI (ms_t MS0), vI (ms_p MS0)]), ((k 11), aI (Y 0) 7 (ms_h MS0)), ((k 12), aI (Y 0) 420 (ms_m MS0)), ((k 13), aI (Y 0) 7 (fun _ => 0)), ((k 14), oC 7 [.ref (k 15), .ref (k 16)]), ((k 15), aI (Y 0) 271 (fun _ => 0)), ((k 16), aI (Y 0) 271 (fun _ => 0)), ((k 17), aI (Y 0) 16 (fun _ => 0))]) := by
  refine j_ofv RX9 rfl rfl rfl (Nat.le_of_ble_eq_true rfl) (fun X C Rt hI => ?_)
  refine j_aload_n (pc := 0) C 0 0 rfl rfl dX9_init_0 ?_
  refine j_objInit (pc := 1) (st := []) C (List.mem_of_getElem? (i := 1) rfl) (List.mem_of_getElem? (i := 2) rfl) (List.mem_of_getElem? (i := 3) rfl) (by decide) (Nat.le_of_ble_eq_true rfl) dX9_init_1 ?_
  refine j_aload_n (pc := 4) C 0 0 rfl rfl dX9_init_4 ?_
  refine j_new (pc := 5) (ci := 3) C [.null, vI 0] rfl fX9_init_X4 tyX4_ok (List.mem_of_getElem? (i := 4) rfl) (List.mem_of_getElem? (i := 5) rfl) (List.mem_of_getElem? (i := 6) rfl) (fun j hj => by rcases (show j = 0 ∨ j = 1 by omega) with rfl | rfl <;> rfl) (by decide) dX9_init_5 (fun q_1 => ?_)
  refine j_st (ws' := [(a, oC 8 [.null, .null, vI 0, .null, vI 0, .null, .null, vI 0, .null, .null, .null]), (q_1, oC 3 [.null, vI 0])]) rfl rfl rfl ?_
  refine j_dup (pc := 8) C rfl dX9_init_8 ?_
  refine j_callINv (pc := 9) (As := []) (na := 0) (st := [.ref q_1, .ref a]) C [1] [0] (wr := [(a, oC 8 [.null, .null, vI 0, .null, vI 0, .null, .null, vI 0, .null, .null, .null])]) (fun l => c_pginit l D Y _ q_1 ) rfl rfl rfl rfl (by decide) rfl (host := "KneelingStones") gX9_init_X4_init_n11 (List.mem_of_getElem? (i := 6) rfl) (List.mem_of_getElem? (i := 24) rfl) (fun _ h => h.1.2.1) rfl (by decide +kernel) (by decide) rfl rfl (Nat.le_of_ble_eq_true rfl) (by decide) dX9_init_9 (fun w_3 h_4 => ?_)
  obtain ⟨q1_5, rfl⟩ := h_4
  refine j_perm (ws' := [(a, oC 8 [.null, .null, vI 0, .null, vI 0, .null, .null, vI 0, .null, .null, .null]), (q_1, oC 3 [.ref q1_5, vI 0]), (q1_5, aI (Y 0) 16 (fun _ => 0))]) [0, 1, 2] rfl rfl ?_
  refine j_putF (pc := 12) (ws' := [(a, oC 8 [.ref q_1, .null, vI 0, .null, vI 0, .null, .null, vI 0, .null, .null, .null]), (q_1, oC 3 [.ref q1_5, vI 0]), (q1_5, aI (Y 0) 16 (fun _ => 0))]) C 0 rfl rfl fX9_init_X9 tyX9_ok nmX9 0 (by decide) (List.mem_of_getElem? (i := 7) rfl) (Or.inl rfl) rfl (hI rfl) rfl rfl rfl rfl (Nat.le_of_ble_eq_true rfl) rfl dX9_init_12 ?_
  refine j_aload_n (pc := 15) C 0 0 rfl rfl dX9_init_15 ?_
  refine j_iconst (pc := 16) C dX9_init_16 ?_
  refine j_newC (pc := 17) (m0 := 4) C (by rfl) (by decide) (List.mem_of_getElem? (i := 8) rfl) (by decide) dX9_init_17 (fun q_6 => ?_)
  refine j_st (ws' := [(a, oC 8 [.ref q_1, .null, vI 0, .null, vI 0, .null, .null, vI 0, .null, .null, .null]), (q_1, oC 3 [.ref q1_5, vI 0]), (q1_5, aI (Y 0) 16 (fun _ => 0)), (q_6, aQ (Y 2) 4 (fun _ => none))]) rfl rfl rfl ?_
  refine j_putF (pc := 20) (ws' := [(a, oC 8 [.ref q_1, .ref q_6, vI 0, .null, vI 0, .null, .null, vI 0, .null, .null, .null]), (q_1, oC 3 [.ref q1_5, vI 0]), (q1_5, aI (Y 0) 16 (fun _ => 0)), (q_6, aQ (Y 2) 4 (fun _ => none))]) C 0 rfl rfl fX9_init_X9 tyX9_ok nmX9 1 (by decide) (List.mem_of_getElem? (i := 9) rfl) (Or.inl rfl) rfl (hI rfl) rfl rfl rfl rfl (Nat.le_of_ble_eq_true rfl) rfl dX9_init_20 ?_
  refine j_aload_n (pc := 23) C 0 0 rfl rfl dX9_init_23 ?_
  refine j_bipush (pc := 24) (w := 6) C rfl dX9_init_24 ?_
  refine j_newP (pc := 26) (m0 := 6) C (by rfl) (by decide) (List.mem_of_getElem? (i := 10) rfl) (by decide) dX9_init_26 (fun q_7 => ?_)
  refine j_st (ws' := [(a, oC 8 [.ref q_1, .ref q_6, vI 0, .null, vI 0, .null, .null, vI 0, .null, .null, .null]), (q_1, oC 3 [.ref q1_5, vI 0]), (q1_5, aI (Y 0) 16 (fun _ => 0)), (q_6, aQ (Y 2) 4 (fun _ => none)), (q_7, aQ (Y 3) 6 (fun _ => none))]) rfl rfl rfl ?_
  refine j_putF (pc := 29) (ws' := [(a, oC 8 [.ref q_1, .ref q_6, vI 0, .ref q_7, vI 0, .null, .null, vI 0, .null, .null, .null]), (q_1, oC 3 [.ref q1_5, vI 0]), (q1_5, aI (Y 0) 16 (fun _ => 0)), (q_6, aQ (Y 2) 4 (fun _ => none)), (q_7, aQ (Y 3) 6 (fun _ => none))]) C 0 rfl rfl fX9_init_X9 tyX9_ok nmX9 3 (by decide) (List.mem_of_getElem? (i := 11) rfl) (Or.inl rfl) rfl (hI rfl) rfl rfl rfl rfl (Nat.le_of_ble_eq_true rfl) rfl dX9_init_29 ?_
  refine j_aload_n (pc := 32) C 0 0 rfl rfl dX9_init_32 ?_
  refine j_new (pc := 33) (ci := 2) C [.null, .null, vI 0, vI 0, vI 0, vI 0, vI 0, vI 0] rfl fX9_init_X2 tyX2_ok (List.mem_of_getElem? (i := 12) rfl) (List.mem_of_getElem? (i := 13) rfl) (List.mem_of_getElem? (i := 14) rfl) (fun j hj => by rcases (show j = 0 ∨ j = 1 ∨ j = 2 ∨ j = 3 ∨ j = 4 ∨ j = 5 ∨ j = 6 ∨ j = 7 by omega) with rfl | rfl | rfl | rfl | rfl | rfl | rfl | rfl <;> rfl) (by decide) dX9_init_33 (fun q_8 => ?_)
  refine j_st (ws' := [(a, oC 8 [.ref q_1, .ref q_6, vI 0, .ref q_7, vI 0, .null, .null, vI 0, .null, .null, .null]), (q_1, oC 3 [.ref q1_5, vI 0]), (q1_5, aI (Y 0) 16 (fun _ => 0)), (q_6, aQ (Y 2) 4 (fun _ => none)), (q_7, aQ (Y 3) 6 (fun _ => none)), (q_8, oC 2 [.null, .null, vI 0, vI 0, vI 0, vI 0, vI 0, vI 0])]) rfl rfl rfl ?_
  refine j_dup (pc := 36) C rfl dX9_init_36 ?_
  refine j_callINv (pc := 37) (As := []) (na := 0) (st := [.ref q_8, .ref a]) C [5] [0, 1, 2, 3, 4] (wr := [(a, oC 8 [.ref q_1, .ref q_6, vI 0, .ref q_7, vI 0, .null, .null, vI 0, .null, .null, .null]), (q_1, oC 3 [.ref q1_5, vI 0]), (q1_5, aI (Y 0) 16 (fun _ => 0)), (q_6, aQ (Y 2) 4 (fun _ => none)), (q_7, aQ (Y 3) 6 (fun _ => none))]) (fun l => c_minit l D Y _ q_8 ) rfl rfl rfl rfl (by decide) rfl (host := "KneelingStones") gX9_init_X2_init_n30 (List.mem_of_getElem? (i := 14) rfl) (List.mem_of_getElem? (i := 28) rfl) (fun _ h => h.1.2.2.1) rfl (by decide +kernel) (by decide) rfl rfl (Nat.le_of_ble_eq_true rfl) (by decide) dX9_init_37 (fun w_10 h_11 => ?_)
  obtain ⟨q1_12, q2_13, rfl⟩ := h_11
  refine j_perm (ws' := [(a, oC 8 [.ref q_1, .ref q_6, vI 0, .ref q_7, vI 0, .null, .null, vI 0, .null, .null, .null]), (q_1, oC 3 [.ref q1_5, vI 0]), (q1_5, aI (Y 0) 16 (fun _ => 0)), (q_6, aQ (Y 2) 4 (fun _ => none)), (q_7, aQ (Y 3) 6 (fun _ => none)), (q_8, oC 2 [.ref q1_12, .ref q2_13, vI (ms_w MS0), vI (ms_l MS0), vI (ms_s MS0), vI (ms_a MS0), vI (ms_t MS0), vI (ms_p MS0)]), (q1_12, aI (Y 0) 7 (ms_h MS0)), (q2_13, aI (Y 0) 420 (ms_m MS0))]) [0, 1, 2, 3, 4, 5, 6, 7] rfl rfl ?_
  refine j_putF (pc := 40) (ws' := [(a, oC 8 [.ref q_1, .ref q_6, vI 0, .ref q_7, vI 0, .ref q_8, .null, vI 0, .null, .null, .null]), (q_1, oC 3 [.ref q1_5, vI 0]), (q1_5, aI (Y 0) 16 (fun _ => 0)), (q_6, aQ (Y 2) 4 (fun _ => none)), (q_7, aQ (Y 3) 6 (fun _ => none)), (q_8, oC 2 [.ref q1_12, .ref q2_13, vI (ms_w MS0), vI (ms_l MS0), vI (ms_s MS0), vI (ms_a MS0), vI (ms_t MS0), vI (ms_p MS0)]), (q1_12, aI (Y 0) 7 (ms_h MS0)), (q2_13, aI (Y 0) 420 (ms_m MS0))]) C 0 rfl rfl fX9_init_X9 tyX9_ok nmX9 5 (by decide) (List.mem_of_getElem? (i := 15) rfl) (Or.inl rfl) rfl (hI rfl) rfl rfl rfl rfl (Nat.le_of_ble_eq_true rfl) rfl dX9_init_40 ?_
  refine j_aload_n (pc := 43) C 0 0 rfl rfl dX9_init_43 ?_
  refine j_new (pc := 44) (ci := 2) C [.null, .null, vI 0, vI 0, vI 0, vI 0, vI 0, vI 0] rfl fX9_init_X2 tyX2_ok (List.mem_of_getElem? (i := 12) rfl) (List.mem_of_getElem? (i := 13) rfl) (List.mem_of_getElem? (i := 14) rfl) (fun j hj => by rcases (show j = 0 ∨ j = 1 ∨ j = 2 ∨ j = 3 ∨ j = 4 ∨ j = 5 ∨ j = 6 ∨ j = 7 by omega) with rfl | rfl | rfl | rfl | rfl | rfl | rfl | rfl <;> rfl) (by decide) dX9_init_44 (fun q_14 => ?_)
  refine j_st (ws' := [(a, oC 8 [.ref q_1, .ref q_6, vI 0, .ref q_7, vI 0, .ref q_8, .null, vI 0, .null, .null, .null]), (q_1, oC 3 [.ref q1_5, vI 0]), (q1_5, aI (Y 0) 16 (fun _ => 0)), (q_6, aQ (Y 2) 4 (fun _ => none)), (q_7, aQ (Y 3) 6 (fun _ => none)), (q_8, oC 2 [.ref q1_12, .ref q2_13, vI (ms_w MS0), vI (ms_l MS0), vI (ms_s MS0), vI (ms_a MS0), vI (ms_t MS0), vI (ms_p MS0)]), (q1_12, aI (Y 0) 7 (ms_h MS0)), (q2_13, aI (Y 0) 420 (ms_m MS0)), (q_14, oC 2 [.null, .null, vI 0, vI 0, vI 0, vI 0, vI 0, vI 0])]) rfl rfl rfl ?_
  refine j_dup (pc := 47) C rfl dX9_init_47 ?_
  refine j_callINv (pc := 48) (As := []) (na := 0) (st := [.ref q_14, .ref a]) C [8] [0, 1, 2, 3, 4, 5, 6, 7] (wr := [(a, oC 8 [.ref q_1, .ref q_6, vI 0, .ref q_7, vI 0, .ref q_8, .null, vI 0, .null, .null, .null]), (q_1, oC 3 [.ref q1_5, vI 0]), (q1_5, aI (Y 0) 16 (fun _ => 0)), (q_6, aQ (Y 2) 4 (fun _ => none)), (q_7, aQ (Y 3) 6 (fun _ => none)), (q_8, oC 2 [.ref q1_12, .ref q2_13, vI (ms_w MS0), vI (ms_l MS0), vI (ms_s MS0), vI (ms_a MS0), vI (ms_t MS0), vI (ms_p MS0)]), (q1_12, aI (Y 0) 7 (ms_h MS0)), (q2_13, aI (Y 0) 420 (ms_m MS0))]) (fun l => c_minit l D Y _ q_14 ) rfl rfl rfl rfl (by decide) rfl (host := "KneelingStones") gX9_init_X2_init_n30 (List.mem_of_getElem? (i := 14) rfl) (List.mem_of_getElem? (i := 28) rfl) (fun _ h => h.1.2.2.1) rfl (by decide +kernel) (by decide) rfl rfl (Nat.le_of_ble_eq_true rfl) (by decide) dX9_init_48 (fun w_16 h_17 => ?_)
  obtain ⟨q1_18, q2_19, rfl⟩ := h_17
  refine j_perm (ws' := [(a, oC 8 [.ref q_1, .ref q_6, vI 0, .ref q_7, vI 0, .ref q_8, .null, vI 0, .null, .null, .null]), (q_1, oC 3 [.ref q1_5, vI 0]), (q1_5, aI (Y 0) 16 (fun _ => 0)), (q_6, aQ (Y 2) 4 (fun _ => none)), (q_7, aQ (Y 3) 6 (fun _ => none)), (q_8, oC 2 [.ref q1_12, .ref q2_13, vI (ms_w MS0), vI (ms_l MS0), vI (ms_s MS0), vI (ms_a MS0), vI (ms_t MS0), vI (ms_p MS0)]), (q1_12, aI (Y 0) 7 (ms_h MS0)), (q2_13, aI (Y 0) 420 (ms_m MS0)), (q_14, oC 2 [.ref q1_18, .ref q2_19, vI (ms_w MS0), vI (ms_l MS0), vI (ms_s MS0), vI (ms_a MS0), vI (ms_t MS0), vI (ms_p MS0)]), (q1_18, aI (Y 0) 7 (ms_h MS0)), (q2_19, aI (Y 0) 420 (ms_m MS0))]) [0, 1, 2, 3, 4, 5, 6, 7, 8, 9, 10] rfl rfl ?_
  refine j_putF (pc := 51) (ws' := [(a, oC 8 [.ref q_1, .ref q_6, vI 0, .ref q_7, vI 0, .ref q_8, .ref q_14, vI 0, .null, .null, .null]), (q_1, oC 3 [.ref q1_5, vI 0]), (q1_5, aI (Y 0) 16 (fun _ => 0)), (q_6, aQ (Y 2) 4 (fun _ => none)), (q_7, aQ (Y 3) 6 (fun _ => none)), (q_8, oC 2 [.ref q1_12, .ref q2_13, vI (ms_w MS0), vI (ms_l MS0), vI (ms_s MS0), vI (ms_a MS0), vI (ms_t MS0), vI (ms_p MS0)]), (q1_12, aI (Y 0) 7 (ms_h MS0)), (q2_13, aI (Y 0) 420 (ms_m MS0)), (q_14, oC 2 [.ref q1_18, .ref q2_19, vI (ms_w MS0), vI (ms_l MS0), vI (ms_s MS0), vI (ms_a MS0), vI (ms_t MS0), vI (ms_p MS0)]), (q1_18, aI (Y 0) 7 (ms_h MS0)), (q2_19, aI (Y 0) 420 (ms_m MS0))]) C 0 rfl rfl fX9_init_X9 tyX9_ok nmX9 6 (by decide) (List.mem_of_getElem? (i := 16) rfl) (Or.inl rfl) rfl (hI rfl) rfl rfl rfl rfl (Nat.le_of_ble_eq_true rfl) rfl dX9_init_51 ?_
  refine j_aload_n (pc := 54) C 0 0 rfl rfl dX9_init_54 ?_
  refine j_new (pc := 55) (ci := 2) C [.null, .null, vI 0, vI 0, vI 0, vI 0, vI 0, vI 0] rfl fX9_init_X2 tyX2_ok (List.mem_of_getElem? (i := 12) rfl) (List.mem_of_getElem? (i := 13) rfl) (List.mem_of_getElem? (i := 14) rfl) (fun j hj => by rcases (show j = 0 ∨ j = 1 ∨ j = 2 ∨ j = 3 ∨ j = 4 ∨ j = 5 ∨ j = 6 ∨ j = 7 by omega) with rfl | rfl | rfl | rfl | rfl | rfl | rfl | rfl <;> rfl) (by decide) dX9_init_55 (fun q_20 => ?_)
  refine j_st (ws' := [(a, oC 8 [.ref q_1, .ref q_6, vI 0, .ref q_7, vI 0, .ref q_8, .ref q_14, vI 0, .null, .null, .null]), (q_1, oC 3 [.ref q1_5, vI 0]), (q1_5, aI (Y 0) 16 (fun _ => 0)), (q_6, aQ (Y 2) 4 (fun _ => none)), (q_7, aQ (Y 3) 6 (fun _ => none)), (q_8, oC 2 [.ref q1_12, .ref q2_13, vI (ms_w MS0), vI (ms_l MS0), vI (ms_s MS0), vI (ms_a MS0), vI (ms_t MS0), vI (ms_p MS0)]), (q1_12, aI (Y 0) 7 (ms_h MS0)), (q2_13, aI (Y 0) 420 (ms_m MS0)), (q_14, oC 2 [.ref q1_18, .ref q2_19, vI (ms_w MS0), vI (ms_l MS0), vI (ms_s MS0), vI (ms_a MS0), vI (ms_t MS0), vI (ms_p MS0)]), (q1_18, aI (Y 0) 7 (ms_h MS0)), (q2_19, aI (Y 0) 420 (ms_m MS0)), (q_20, oC 2 [.null, .null, vI 0, vI 0, vI 0, vI 0, vI 0, vI 0])]) rfl rfl rfl ?_
  refine j_dup (pc := 58) C rfl dX9_init_58 ?_
  refine j_callINv (pc := 59) (As := []) (na := 0) (st := [.ref q_20, .ref a]) C [11] [0, 1, 2, 3, 4, 5, 6, 7, 8, 9, 10] (wr := [(a, oC 8 [.ref q_1, .ref q_6, vI 0, .ref q_7, vI 0, .ref q_8, .ref q_14, vI 0, .null, .null, .null]), (q_1, oC 3 [.ref q1_5, vI 0]), (q1_5, aI (Y 0) 16 (fun _ => 0)), (q_6, aQ (Y 2) 4 (fun _ => none)), (q_7, aQ (Y 3) 6 (fun _ => none)), (q_8, oC 2 [.ref q1_12, .ref q2_13, vI (ms_w MS0), vI (ms_l MS0), vI (ms_s MS0), vI (ms_a MS0), vI (ms_t MS0), vI (ms_p MS0)]), (q1_12, aI (Y 0) 7 (ms_h MS0)), (q2_13, aI (Y 0) 420 (ms_m MS0)), (q_14, oC 2 [.ref q1_18, .ref q2_19, vI (ms_w MS0), vI (ms_l MS0), vI (ms_s MS0), vI (ms_a MS0), vI (ms_t MS0), vI (ms_p MS0)]), (q1_18, aI (Y 0) 7 (ms_h MS0)), (q2_19, aI (Y 0) 420 (ms_m MS0))]) (fun l => c_minit l D Y _ q_20 ) rfl rfl rfl rfl (by decide) rfl (host := "KneelingStones") gX9_init_X2_init_n30 (List.mem_of_getElem? (i := 14) rfl) (List.mem_of_getElem? (i := 28) rfl) (fun _ h => h.1.2.2.1) rfl (by decide +kernel) (by decide) rfl rfl (Nat.le_of_ble_eq_true rfl) (by decide) dX9_init_59 (fun w_22 h_23 => ?_)
  obtain ⟨q1_24, q2_25, rfl⟩ := h_23
  refine j_perm (ws' := [(a, oC 8 [.ref q_1, .ref q_6, vI 0, .ref q_7, vI 0, .ref q_8, .ref q_14, vI 0, .null, .null, .null]), (q_1, oC 3 [.ref q1_5, vI 0]), (q1_5, aI (Y 0) 16 (fun _ => 0)), (q_6, aQ (Y 2) 4 (fun _ => none)), (q_7, aQ (Y 3) 6 (fun _ => none)), (q_8, oC 2 [.ref q1_12, .ref q2_13, vI (ms_w MS0), vI (ms_l MS0), vI (ms_s MS0), vI (ms_a MS0), vI (ms_t MS0), vI (ms_p MS0)]), (q1_12, aI (Y 0) 7 (ms_h MS0)), (q2_13, aI (Y 0) 420 (ms_m MS0)), (q_14, oC 2 [.ref q1_18, .ref q2_19, vI (ms_w MS0), vI (ms_l MS0), vI (ms_s MS0), vI (ms_a MS0), vI (ms_t MS0), vI (ms_p MS0)]), (q1_18, aI (Y 0) 7 (ms_h MS0)), (q2_19, aI (Y 0) 420 (ms_m MS0)), (q_20, oC 2 [.ref q1_24, .ref q2_25, vI (ms_w MS0), vI (ms_l MS0), vI (ms_s MS0), vI (ms_a MS0), vI (ms_t MS0), vI (ms_p MS0)]), (q1_24, aI (Y 0) 7 (ms_h MS0)), (q2_25, aI (Y 0) 420 (ms_m MS0))]) [0, 1, 2, 3, 4, 5, 6, 7, 8, 9, 10, 11, 12, 13] rfl rfl ?_
  refine j_putF (pc := 62) (ws' := [(a, oC 8 [.ref q_1, .ref q_6, vI 0, .ref q_7, vI 0, .ref q_8, .ref q_14, vI 0, .ref q_20, .null, .null]), (q_1, oC 3 [.ref q1_5, vI 0]), (q1_5, aI (Y 0) 16 (fun _ => 0)), (q_6, aQ (Y 2) 4 (fun _ => none)), (q_7, aQ (Y 3) 6 (fun _ => none)), (q_8, oC 2 [.ref q1_12, .ref q2_13, vI (ms_w MS0), vI (ms_l MS0), vI (ms_s MS0), vI (ms_a MS0), vI (ms_t MS0), vI (ms_p MS0)]), (q1_12, aI (Y 0) 7 (ms_h MS0)), (q2_13, aI (Y 0) 420 (ms_m MS0)), (q_14, oC 2 [.ref q1_18, .ref q2_19, vI (ms_w MS0), vI (ms_l MS0), vI (ms_s MS0), vI (ms_a MS0), vI (ms_t MS0), vI (ms_p MS0)]), (q1_18, aI (Y 0) 7 (ms_h MS0)), (q2_19, aI (Y 0) 420 (ms_m MS0)), (q_20, oC 2 [.ref q1_24, .ref q2_25, vI (ms_w MS0), vI (ms_l MS0), vI (ms_s MS0), vI (ms_a MS0), vI (ms_t MS0), vI (ms_p MS0)]), (q1_24, aI (Y 0) 7 (ms_h MS0)), (q2_25, aI (Y 0) 420 (ms_m MS0))]) C 0 rfl rfl fX9_init_X9 tyX9_ok nmX9 8 (by decide) (List.mem_of_getElem? (i := 17) rfl) (Or.inl rfl) rfl (hI rfl) rfl rfl rfl rfl (Nat.le_of_ble_eq_true rfl) rfl dX9_init_62 ?_
  refine j_aload_n (pc := 65) C 0 0 rfl rfl dX9_init_65 ?_
  refine j_bipush (pc := 66) (w := 7) C rfl dX9_init_66 ?_
  refine j_newI (pc := 68) (m0 := 7) C (by rfl) (by decide) (List.mem_of_getElem? (i := 18) rfl) (by decide) dX9_init_68 (fun q_26 => ?_)
  refine j_st (ws' := [(a, oC 8 [.ref q_1, .ref q_6, vI 0, .ref q_7, vI 0, .ref q_8, .ref q_14, vI 0, .ref q_20, .null, .null]), (q_1, oC 3 [.ref q1_5, vI 0]), (q1_5, aI (Y 0) 16 (fun _ => 0)), (q_6, aQ (Y 2) 4 (fun _ => none)), (q_7, aQ (Y 3) 6 (fun _ => none)), (q_8, oC 2 [.ref q1_12, .ref q2_13, vI (ms_w MS0), vI (ms_l MS0), vI (ms_s MS0), vI (ms_a MS0), vI (ms_t MS0), vI (ms_p MS0)]), (q1_12, aI (Y 0) 7 (ms_h MS0)), (q2_13, aI (Y 0) 420 (ms_m MS0)), (q_14, oC 2 [.ref q1_18, .ref q2_19, vI (ms_w MS0), vI (ms_l MS0), vI (ms_s MS0), vI (ms_a MS0), vI (ms_t MS0), vI (ms_p MS0)]), (q1_18, aI (Y 0) 7 (ms_h MS0)), (q2_19, aI (Y 0) 420 (ms_m MS0)), (q_20, oC 2 [.ref q1_24, .ref q2_25, vI (ms_w MS0), vI (ms_l MS0), vI (ms_s MS0), vI (ms_a MS0), vI (ms_t MS0), vI (ms_p MS0)]), (q1_24, aI (Y 0) 7 (ms_h MS0)), (q2_25, aI (Y 0) 420 (ms_m MS0)), (q_26, aI (Y 0) 7 (fun _ => 0))]) rfl rfl rfl ?_
  refine j_putF (pc := 70) (ws' := [(a, oC 8 [.ref q_1, .ref q_6, vI 0, .ref q_7, vI 0, .ref q_8, .ref q_14, vI 0, .ref q_20, .ref q_26, .null]), (q_1, oC 3 [.ref q1_5, vI 0]), (q1_5, aI (Y 0) 16 (fun _ => 0)), (q_6, aQ (Y 2) 4 (fun _ => none)), (q_7, aQ (Y 3) 6 (fun _ => none)), (q_8, oC 2 [.ref q1_12, .ref q2_13, vI (ms_w MS0), vI (ms_l MS0), vI (ms_s MS0), vI (ms_a MS0), vI (ms_t MS0), vI (ms_p MS0)]), (q1_12, aI (Y 0) 7 (ms_h MS0)), (q2_13, aI (Y 0) 420 (ms_m MS0)), (q_14, oC 2 [.ref q1_18, .ref q2_19, vI (ms_w MS0), vI (ms_l MS0), vI (ms_s MS0), vI (ms_a MS0), vI (ms_t MS0), vI (ms_p MS0)]), (q1_18, aI (Y 0) 7 (ms_h MS0)), (q2_19, aI (Y 0) 420 (ms_m MS0)), (q_20, oC 2 [.ref q1_24, .ref q2_25, vI (ms_w MS0), vI (ms_l MS0), vI (ms_s MS0), vI (ms_a MS0), vI (ms_t MS0), vI (ms_p MS0)]), (q1_24, aI (Y 0) 7 (ms_h MS0)), (q2_25, aI (Y 0) 420 (ms_m MS0)), (q_26, aI (Y 0) 7 (fun _ => 0))]) C 0 rfl rfl fX9_init_X9 tyX9_ok nmX9 9 (by decide) (List.mem_of_getElem? (i := 19) rfl) (Or.inl rfl) rfl (hI rfl) rfl rfl rfl rfl (Nat.le_of_ble_eq_true rfl) rfl dX9_init_70 ?_
  refine j_aload_n (pc := 73) C 0 0 rfl rfl dX9_init_73 ?_
  refine j_new (pc := 74) (ci := 7) C [.null, .null] rfl fX9_init_X8 tyX8_ok (List.mem_of_getElem? (i := 20) rfl) (List.mem_of_getElem? (i := 21) rfl) (List.mem_of_getElem? (i := 22) rfl) (fun j hj => by rcases (show j = 0 ∨ j = 1 by omega) with rfl | rfl <;> rfl) (by decide) dX9_init_74 (fun q_27 => ?_)
  refine j_st (ws' := [(a, oC 8 [.ref q_1, .ref q_6, vI 0, .ref q_7, vI 0, .ref q_8, .ref q_14, vI 0, .ref q_20, .ref q_26, .null]), (q_1, oC 3 [.ref q1_5, vI 0]), (q1_5, aI (Y 0) 16 (fun _ => 0)), (q_6, aQ (Y 2) 4 (fun _ => none)), (q_7, aQ (Y 3) 6 (fun _ => none)), (q_8, oC 2 [.ref q1_12, .ref q2_13, vI (ms_w MS0), vI (ms_l MS0), vI (ms_s MS0), vI (ms_a MS0), vI (ms_t MS0), vI (ms_p MS0)]), (q1_12, aI (Y 0) 7 (ms_h MS0)), (q2_13, aI (Y 0) 420 (ms_m MS0)), (q_14, oC 2 [.ref q1_18, .ref q2_19, vI (ms_w MS0), vI (ms_l MS0), vI (ms_s MS0), vI (ms_a MS0), vI (ms_t MS0), vI (ms_p MS0)]), (q1_18, aI (Y 0) 7 (ms_h MS0)), (q2_19, aI (Y 0) 420 (ms_m MS0)), (q_20, oC 2 [.ref q1_24, .ref q2_25, vI (ms_w MS0), vI (ms_l MS0), vI (ms_s MS0), vI (ms_a MS0), vI (ms_t MS0), vI (ms_p MS0)]), (q1_24, aI (Y 0) 7 (ms_h MS0)), (q2_25, aI (Y 0) 420 (ms_m MS0)), (q_26, aI (Y 0) 7 (fun _ => 0)), (q_27, oC 7 [.null, .null])]) rfl rfl rfl ?_
  refine j_dup (pc := 77) C rfl dX9_init_77 ?_
  refine j_callINv (pc := 78) (As := []) (na := 0) (st := [.ref q_27, .ref a]) C [15] [0, 1, 2, 3, 4, 5, 6, 7, 8, 9, 10, 11, 12, 13, 14] (wr := [(a, oC 8 [.ref q_1, .ref q_6, vI 0, .ref q_7, vI 0, .ref q_8, .ref q_14, vI 0, .ref q_20, .ref q_26, .null]), (q_1, oC 3 [.ref q1_5, vI 0]), (q1_5, aI (Y 0) 16 (fun _ => 0)), (q_6, aQ (Y 2) 4 (fun _ => none)), (q_7, aQ (Y 3) 6 (fun _ => none)), (q_8, oC 2 [.ref q1_12, .ref q2_13, vI (ms_w MS0), vI (ms_l MS0), vI (ms_s MS0), vI (ms_a MS0), vI (ms_t MS0), vI (ms_p MS0)]), (q1_12, aI (Y 0) 7 (ms_h MS0)), (q2_13, aI (Y 0) 420 (ms_m MS0)), (q_14, oC 2 [.ref q1_18, .ref q2_19, vI (ms_w MS0), vI (ms_l MS0), vI (ms_s MS0), vI (ms_a MS0), vI (ms_t MS0), vI (ms_p MS0)]), (q1_18, aI (Y 0) 7 (ms_h MS0)), (q2_19, aI (Y 0) 420 (ms_m MS0)), (q_20, oC 2 [.ref q1_24, .ref q2_25, vI (ms_w MS0), vI (ms_l MS0), vI (ms_s MS0), vI (ms_a MS0), vI (ms_t MS0), vI (ms_p MS0)]), (q1_24, aI (Y 0) 7 (ms_h MS0)), (q2_25, aI (Y 0) 420 (ms_m MS0)), (q_26, aI (Y 0) 7 (fun _ => 0))]) (fun l => c_winit l D Y _ q_27 ) rfl rfl rfl rfl (by decide) rfl (host := "KneelingStones") gX9_init_X8_init_n47 (List.mem_of_getElem? (i := 22) rfl) (List.mem_of_getElem? (i := 34) rfl) (fun _ h => h.1.2.2.2) rfl (by decide +kernel) (by decide) rfl rfl (Nat.le_of_ble_eq_true rfl) (by decide) dX9_init_78 (fun w_29 h_30 => ?_)
  obtain ⟨q1_31, q2_32, rfl⟩ := h_30
  refine j_perm (ws' := [(a, oC 8 [.ref q_1, .ref q_6, vI 0, .ref q_7, vI 0, .ref q_8, .ref q_14, vI 0, .ref q_20, .ref q_26, .null]), (q_1, oC 3 [.ref q1_5, vI 0]), (q1_5, aI (Y 0) 16 (fun _ => 0)), (q_6, aQ (Y 2) 4 (fun _ => none)), (q_7, aQ (Y 3) 6 (fun _ => none)), (q_8, oC 2 [.ref q1_12, .ref q2_13, vI (ms_w MS0), vI (ms_l MS0), vI (ms_s MS0), vI (ms_a MS0), vI (ms_t MS0), vI (ms_p MS0)]), (q1_12, aI (Y 0) 7 (ms_h MS0)), (q2_13, aI (Y 0) 420 (ms_m MS0)), (q_14, oC 2 [.ref q1_18, .ref q2_19, vI (ms_w MS0), vI (ms_l MS0), vI (ms_s MS0), vI (ms_a MS0), vI (ms_t MS0), vI (ms_p MS0)]), (q1_18, aI (Y 0) 7 (ms_h MS0)), (q2_19, aI (Y 0) 420 (ms_m MS0)), (q_20, oC 2 [.ref q1_24, .ref q2_25, vI (ms_w MS0), vI (ms_l MS0), vI (ms_s MS0), vI (ms_a MS0), vI (ms_t MS0), vI (ms_p MS0)]), (q1_24, aI (Y 0) 7 (ms_h MS0)), (q2_25, aI (Y 0) 420 (ms_m MS0)), (q_26, aI (Y 0) 7 (fun _ => 0)), (q_27, oC 7 [.ref q1_31, .ref q2_32]), (q1_31, aI (Y 0) 271 (fun _ => 0)), (q2_32, aI (Y 0) 271 (fun _ => 0))]) [0, 1, 2, 3, 4, 5, 6, 7, 8, 9, 10, 11, 12, 13, 14, 15, 16, 17] rfl rfl ?_
  refine j_putF (pc := 81) (ws' := [(a, oC 8 [.ref q_1, .ref q_6, vI 0, .ref q_7, vI 0, .ref q_8, .ref q_14, vI 0, .ref q_20, .ref q_26, .ref q_27]), (q_1, oC 3 [.ref q1_5, vI 0]), (q1_5, aI (Y 0) 16 (fun _ => 0)), (q_6, aQ (Y 2) 4 (fun _ => none)), (q_7, aQ (Y 3) 6 (fun _ => none)), (q_8, oC 2 [.ref q1_12, .ref q2_13, vI (ms_w MS0), vI (ms_l MS0), vI (ms_s MS0), vI (ms_a MS0), vI (ms_t MS0), vI (ms_p MS0)]), (q1_12, aI (Y 0) 7 (ms_h MS0)), (q2_13, aI (Y 0) 420 (ms_m MS0)), (q_14, oC 2 [.ref q1_18, .ref q2_19, vI (ms_w MS0), vI (ms_l MS0), vI (ms_s MS0), vI (ms_a MS0), vI (ms_t MS0), vI (ms_p MS0)]), (q1_18, aI (Y 0) 7 (ms_h MS0)), (q2_19, aI (Y 0) 420 (ms_m MS0)), (q_20, oC 2 [.ref q1_24, .ref q2_25, vI (ms_w MS0), vI (ms_l MS0), vI (ms_s MS0), vI (ms_a MS0), vI (ms_t MS0), vI (ms_p MS0)]), (q1_24, aI (Y 0) 7 (ms_h MS0)), (q2_25, aI (Y 0) 420 (ms_m MS0)), (q_26, aI (Y 0) 7 (fun _ => 0)), (q_27, oC 7 [.ref q1_31, .ref q2_32]), (q1_31, aI (Y 0) 271 (fun _ => 0)), (q2_32, aI (Y 0) 271 (fun _ => 0))]) C 0 rfl rfl fX9_init_X9 tyX9_ok nmX9 10 (by decide) (List.mem_of_getElem? (i := 23) rfl) (Or.inl rfl) rfl (hI rfl) rfl rfl rfl rfl (Nat.le_of_ble_eq_true rfl) rfl dX9_init_81 ?_
  refine j_perm (ws' := [(a, oC 8 [.ref q_1, .ref q_6, vI 0, .ref q_7, vI 0, .ref q_8, .ref q_14, vI 0, .ref q_20, .ref q_26, .ref q_27]), (q_1, oC 3 [.ref q1_5, vI 0]), (q_6, aQ (Y 2) 4 (fun _ => none)), (q_7, aQ (Y 3) 6 (fun _ => none)), (q_8, oC 2 [.ref q1_12, .ref q2_13, vI (ms_w MS0), vI (ms_l MS0), vI (ms_s MS0), vI (ms_a MS0), vI (ms_t MS0), vI (ms_p MS0)]), (q1_12, aI (Y 0) 7 (ms_h MS0)), (q2_13, aI (Y 0) 420 (ms_m MS0)), (q_14, oC 2 [.ref q1_18, .ref q2_19, vI (ms_w MS0), vI (ms_l MS0), vI (ms_s MS0), vI (ms_a MS0), vI (ms_t MS0), vI (ms_p MS0)]), (q1_18, aI (Y 0) 7 (ms_h MS0)), (q2_19, aI (Y 0) 420 (ms_m MS0)), (q_20, oC 2 [.ref q1_24, .ref q2_25, vI (ms_w MS0), vI (ms_l MS0), vI (ms_s MS0), vI (ms_a MS0), vI (ms_t MS0), vI (ms_p MS0)]), (q1_24, aI (Y 0) 7 (ms_h MS0)), (q2_25, aI (Y 0) 420 (ms_m MS0)), (q_26, aI (Y 0) 7 (fun _ => 0)), (q_27, oC 7 [.ref q1_31, .ref q2_32]), (q1_31, aI (Y 0) 271 (fun _ => 0)), (q2_32, aI (Y 0) 271 (fun _ => 0)), (q1_5, aI (Y 0) 16 (fun _ => 0))]) [0, 1, 3, 4, 5, 6, 7, 8, 9, 10, 11, 12, 13, 14, 15, 16, 17, 2] rfl rfl ?_
  exact Rt _ _ _ _ _ (by decide) (by decide) ⟨fun i => ([a, q_1, q_6, q_7, q_8, q1_12, q2_13, q_14, q1_18, q2_19, q_20, q1_24, q2_25, q_26, q_27, q1_31, q2_32, q1_5] : List Nat).getD i 0, rfl, rfl⟩ dX9_init_84
end
section
/-! the law: worlds with a tail, the script, the loop's state -/
theorem va_nd_app {a b : List Nat} (ha : va_nd a = true) (hb : va_nd b = true) (h : ∀ i ∈ a, i ∉ b) : va_nd (a ++ b) = true := by
  induction a with
  | nil => exact hb
  | cons x l ih =>
    simp only [va_nd, Bool.and_eq_true, decide_eq_true_eq] at ha
    show va_nd (x :: (l ++ b)) = true
    simp only [va_nd, Bool.and_eq_true, decide_eq_true_eq]
    refine ⟨fun q => ?_, ih ha.2 (fun i hi => h i (List.mem_cons_of_mem _ hi))⟩
    rcases List.mem_append.mp q with q | q
    · exact ha.1 q
    · exact h x List.mem_cons_self q
theorem va_nd_range (n s : Nat) : va_nd (List.range' s n) = true := by
  induction n generalizing s with
  | zero => rfl
  | succ n ih =>
    show va_nd (s :: List.range' (s + 1) n) = true
    simp only [va_nd, Bool.and_eq_true, decide_eq_true_eq]
    exact ⟨fun q => by have := List.mem_range'_1.mp q; omega, ih (s + 1)⟩
theorem tl_map : ∀ (PL L : va_W), (List.range' L.length PL.length).map (fun i => (L ++ PL)[i]?) = PL.map some
  | [], L => rfl
  | x :: PL, L => by
    have h := tl_map PL (L ++ [x])
    rw [List.append_assoc, List.length_append] at h
    show (L ++ x :: PL)[L.length]? :: (List.range' (L.length + 1) PL.length).map (fun i => (L ++ x :: PL)[i]?) = some x :: PL.map some
    rw [show (L ++ x :: PL)[L.length]? = some x by simp]
    exact congrArg _ h
theorem ix_lt {L L' : va_W} {is : List Nat} (h : is.map (fun i => L[i]?) = L'.map some) : ∀ i ∈ is, i < L.length := by
  intro i hi
  have h1 : L[i]? ∈ is.map (fun i => L[i]?) := List.mem_map.mpr ⟨i, hi, rfl⟩
  rw [h] at h1
  obtain ⟨q, _, e⟩ := List.mem_map.mp h1
  exact (List.getElem?_eq_some_iff.mp e.symm).1
theorem hd_map {L L' : va_W} (PL : va_W) {is : List Nat} (h : is.map (fun i => L[i]?) = L'.map some) : is.map (fun i => (L ++ PL)[i]?) = L'.map some := by
  rw [← h]
  exact List.map_congr_left (fun i hi => List.getElem?_append_left (ix_lt h i hi))
theorem va_D_iff {A : Nat → Prop} {ws : va_W} : va_D A ws ↔ ws.Pairwise (fun p q => p.1 ≠ q.1) ∧ ∀ q ∈ ws, A q.1 := by
  constructor
  · intro h
    refine ⟨List.pairwise_iff_getElem.mpr (fun i j hi hj hij e => ?_), fun q hq => ?_⟩
    · have := h.1 i j _ _ (List.getElem?_eq_getElem hi) (List.getElem?_eq_getElem hj) e
      omega
    · obtain ⟨k, hk⟩ := List.mem_iff_getElem?.mp hq
      exact h.2 k q hk
  · intro h
    have hp := List.pairwise_iff_getElem.mp h.1
    refine ⟨fun i j p q hi hj e => ?_, fun k q hk => h.2 q (List.mem_of_getElem? hk)⟩
    obtain ⟨hi1, hi2⟩ := List.getElem?_eq_some_iff.mp hi
    obtain ⟨hj1, hj2⟩ := List.getElem?_eq_some_iff.mp hj
    rcases Nat.lt_trichotomy i j with q1 | q1 | q1
    · exact absurd (by rw [hi2, hj2]; exact e) (hp i j hi1 hj1 q1)
    · exact q1
    · exact absurd (by rw [hi2, hj2]; exact e.symm) (hp j i hj1 hi1 q1)
section LAWR
variable {X : jX} {cc : ByteArray} {nL : Nat} {own : String} {Ts : List Cond} {rm : Room} {D : va_G} {Y : Nat → ClassId} {RO : va_W} {k n : Nat} {ws : va_W} {lc : List (Nat × Value)} {pc : Nat} {st : List Value}
theorem j_permP {ws' : va_W} (h : ws.Perm ws') (kk : jW X nL k n ws' lc pc st) : jW X nL k n ws lc pc st := by
  obtain ⟨p, l, e, R, s, m, args, below, meth, c, Q, D', Y', A, H0, RO'⟩ := X
  intro H locs ls hP hD hS hl
  refine kk H locs ls (fun i q hq => ?_) ?_ hS hl
  · obtain ⟨j, hj⟩ := List.mem_iff_getElem?.mp (h.mem_iff.mpr (List.mem_of_getElem? hq))
    exact hP j q hj
  · have h1 := va_D_iff.mp hD
    exact va_D_iff.mpr ⟨(h.pairwise_iff (fun e => e.symm)).mp h1.1, fun q hq => h1.2 q (h.mem_iff.mpr hq)⟩
theorem j_permT {L L' PL : va_W} (is : List Nat) (hn : va_nd is = true) (h : is.map (fun i => L[i]?) = L'.map some) (kk : jW X nL k n (L' ++ PL) lc pc st) : jW X nL k n (L ++ PL) lc pc st :=
  j_perm (is ++ List.range' L.length PL.length) (va_nd_app hn (va_nd_range _ _) (fun i hi q => by have := ix_lt h i hi; have := List.mem_range'_1.mp q; omega)) (by rw [List.map_append, hd_map PL h, tl_map, List.map_append]) kk
theorem j_swap {A P B : va_W} (kk : jW X nL k n ((A ++ B) ++ P) lc pc st) : jW X nL k n ((A ++ P) ++ B) lc pc st := by
  refine j_permP ?_ kk
  rw [List.append_assoc, List.append_assoc]
  exact List.Perm.append_left A List.perm_append_comm
/-- a call, beside a tail of cells -/
theorem j_lawVi {stk As : List Value} {b : Nat} {y : MethodName} {wl wl' : List Cond} {rm' : Room} {post : Int → va_W → Prop} {bytes : ByteArray} {maxL index na : Nat} (C : jC X cc nL own Ts rm D Y RO) (isC isR : List Nat) {L PL wc wr : va_W} (hM : ∀ l, jMi l y wl rm' D Y ((wr ++ PL) ++ RO) (.ref b :: As) wc post) (hC : isC.map (fun i => L[i]?) = wc.map some) (hR0 : isR.map (fun i => L[i]?) = wr.map some) (hnC : va_nd isC = true) (hnR : va_nd isR = true) (hdis : ∀ i ∈ isR, i ∉ isC) {ret : Option FieldType} (hw : wl = Cond.code y bytes maxL ret :: wl') {Cn : String} {T : u_T} {N ci : Nat} {fs : List Value} (hq : (b, oC ci fs) ∈ wc ∨ (b, oC ci fs) ∈ (wr ++ PL) ++ RO) (hci : vwCl[ci]? = some (Cn, T, N)) (g : GoodIn Ts (wsV own index Cn y wl)) (hd0 : y.cls = Cn ∧ y.cls ≠ "java/lang/invoke/MethodHandle" ∧ y.cls ≠ "java/lang/invoke/VarHandle" ∧ (parseMethodDescriptor y.desc).map (fun d => d.parameters.length) = some na) (hRm : rm'.frames + 1 ≤ rm.frames ∧ 8 + (maxL + 11) + rm'.locals ≤ rm.locals) (hstk : stk = As.reverse ++ .ref b :: st) (hna : As.length = na) (hcat : (st.map fun v => v.category).sum ≤ 8) (hroom : k + rm'.cells ≤ rm.cells ∧ n + rm'.slots ≤ rm.slots) (hd : decode cc pc = .ok (.invokevirtual index, 3)) (kk : ∀ (ev : Int) (w1 : va_W), post ev w1 → jW X nL (k + rm'.cells) (n + rm'.slots) ((wr ++ w1) ++ PL) lc (pc + 3) (vI ev :: st)) : jW X nL k n (L ++ PL) lc pc stk :=
  j_callVi C isC (isR ++ List.range' L.length PL.length) hM (hd_map PL hC) (by rw [List.map_append, hd_map PL hR0, tl_map, List.map_append]) hnC (va_nd_app hnR (va_nd_range _ _) (fun i hi q => by have := ix_lt hR0 i hi; have := List.mem_range'_1.mp q; omega)) (fun i hi => by rcases List.mem_append.mp hi with q | q; { exact hdis i q }; { intro z; have := ix_lt hC i z; have := List.mem_range'_1.mp q; omega }) hw hq hci g hd0 hRm hstk hna hcat hroom hd (fun ev w1 h => j_swap (kk ev w1 h))
theorem j_lawVl {stk As : List Value} {b : Nat} {y : MethodName} {wl wl' : List Cond} {rm' : Room} {post : Int → va_W → Prop} {bytes : ByteArray} {maxL index na : Nat} (C : jC X cc nL own Ts rm D Y RO) (isC isR : List Nat) {L PL wc wr : va_W} (hM : ∀ l, jMl l y wl rm' D Y ((wr ++ PL) ++ RO) (.ref b :: As) wc post) (hC : isC.map (fun i => L[i]?) = wc.map some) (hR0 : isR.map (fun i => L[i]?) = wr.map some) (hnC : va_nd isC = true) (hnR : va_nd isR = true) (hdis : ∀ i ∈ isR, i ∉ isC) {ret : Option FieldType} (hw : wl = Cond.code y bytes maxL ret :: wl') {Cn : String} {T : u_T} {N ci : Nat} {fs : List Value} (hq : (b, oC ci fs) ∈ wc ∨ (b, oC ci fs) ∈ (wr ++ PL) ++ RO) (hci : vwCl[ci]? = some (Cn, T, N)) (g : GoodIn Ts (wsV own index Cn y wl)) (hd0 : y.cls = Cn ∧ y.cls ≠ "java/lang/invoke/MethodHandle" ∧ y.cls ≠ "java/lang/invoke/VarHandle" ∧ (parseMethodDescriptor y.desc).map (fun d => d.parameters.length) = some na) (hRm : rm'.frames + 1 ≤ rm.frames ∧ 8 + (maxL + 11) + rm'.locals ≤ rm.locals) (hstk : stk = As.reverse ++ .ref b :: st) (hna : As.length = na) (hcat : (st.map fun v => v.category).sum ≤ 8) (hroom : k + rm'.cells ≤ rm.cells ∧ n + rm'.slots ≤ rm.slots) (hd : decode cc pc = .ok (.invokevirtual index, 3)) (kk : ∀ (ev : Int) (w1 : va_W), post ev w1 → jW X nL (k + rm'.cells) (n + rm'.slots) ((wr ++ w1) ++ PL) lc (pc + 3) (vL ev :: st)) : jW X nL k n (L ++ PL) lc pc stk :=
  j_callVl C isC (isR ++ List.range' L.length PL.length) hM (hd_map PL hC) (by rw [List.map_append, hd_map PL hR0, tl_map, List.map_append]) hnC (va_nd_app hnR (va_nd_range _ _) (fun i hi q => by have := ix_lt hR0 i hi; have := List.mem_range'_1.mp q; omega)) (fun i hi => by rcases List.mem_append.mp hi with q | q; { exact hdis i q }; { intro z; have := ix_lt hC i z; have := List.mem_range'_1.mp q; omega }) hw hq hci g hd0 hRm hstk hna hcat hroom hd (fun ev w1 h => j_swap (kk ev w1 h))

/-- the script -/
def jSc (X : jX) (b L : Nat) (xs : Nat → Int32) : Prop := match X with
  | (p, l, e, R, s, m, args, below, meth, c, Q, D, _, A, H0, _) => va_X b L xs s H0 ∧ b < H0.size ∧ ¬ A b
def sxI (xs : Nat → Int32) (j : Int) : Int := (xs j.toNat).toInt
theorem sx_in (xs : Nat → Int32) (j : Int) : -2147483648 ≤ sxI xs j ∧ sxI xs j ≤ 2147483647 := by
  have h1 := Int32.le_toInt (xs j.toNat)
  have h2 := Int32.toInt_lt (xs j.toNat)
  unfold sxI
  omega
theorem j_sld (C : jC X cc nL own Ts rm D Y RO) {b L : Nat} {xs : Nat → Int32} (hs : jSc X b L xs) (hL : L ≤ 3072) {i : Int} (hi : 0 ≤ i ∧ i < (L : Int)) (hd : decode cc pc = .ok (.iaload, 1)) (kk : jW X nL k n ws lc (pc + 1) (vI (sxI xs i) :: st)) : jW X nL k n ws lc pc (vI i :: .ref b :: st) := by
  obtain ⟨p, l, e, R, s, m, args, below, meth, c, Q, D', Y', A, H0, RO'⟩ := X
  obtain ⟨⟨hx, hb, hml, hown, hts⟩, hK, hA, ⟨rfl, rfl, rfl, rfl⟩, hR, hRA, hN⟩ := C
  obtain ⟨hX, hbl, hbA⟩ := hs
  intro H locs ls hP hD hS hl
  have k1 := kk H locs ls hP hD hS hl
  have e1 : (Int32.ofInt i).toNatClampNeg = i.toNat := nj_cl (by omega)
  refine va_sld hx hb hX hbl hbA hS (i := Int32.ofInt i) (nj_in hi (by omega)) hd ?_
  rw [e1]
  rw [show vI (sxI xs i) = Value.int (xs i.toNat) by unfold vI sxI; rw [Int32.ofInt_toInt]] at k1
  exact k1
theorem j_slen (C : jC X cc nL own Ts rm D Y RO) {b L : Nat} {xs : Nat → Int32} (hs : jSc X b L xs) (hd : decode cc pc = .ok (.arraylength, 1)) (kk : jW X nL k n ws lc (pc + 1) (vI (L : Int) :: st)) : jW X nL k n ws lc pc (.ref b :: st) := by
  obtain ⟨p, l, e, R, s, m, args, below, meth, c, Q, D', Y', A, H0, RO'⟩ := X
  obtain ⟨⟨hx, hb, hml, hown, hts⟩, hK, hA, ⟨rfl, rfl, rfl, rfl⟩, hR, hRA, hN⟩ := C
  obtain ⟨hX, hbl, hbA⟩ := hs
  intro H locs ls hP hD hS hl
  have k1 := kk H locs ls hP hD hS hl
  rw [show vI (L : Int) = Value.int (Int32.ofNat L) by unfold vI; rw [Int32.ofInt_eq_ofNat]] at k1
  exact va_slen hx hb hX hbl hbA hS hd k1
end LAWR
/-- the cells of parishes, of customs -/
def plP (pad : Int → Nat) (ps : Int → PT) : Nat → va_W
  | 0 => []
  | n + 1 => pC (pad (n : Int)) (ps (n : Int)) :: plP pad ps n
def plC (cad : Int → Nat) (cs : Int → CT) : Nat → va_W
  | 0 => []
  | n + 1 => (cad (n : Int), oC 1 [vI (cw (cs (n : Int))), vI (cz (cs (n : Int))), vI (ce (cs (n : Int)))]) :: plC cad cs n
theorem plP_mem {pad : Int → Nat} {ps : Int → PT} (n : Nat) : ∀ i : Int, 0 ≤ i ∧ i < (n : Int) → pC (pad i) (ps i) ∈ plP pad ps n := by
  induction n with
  | zero => intro i hi; omega
  | succ n ih =>
    intro i hi
    by_cases q : i = (n : Int)
    · rw [q]; exact List.mem_cons_self
    · exact List.mem_cons_of_mem _ (ih i (by omega))
theorem plC_mem {cad : Int → Nat} {cs : Int → CT} (n : Nat) : ∀ i : Int, 0 ≤ i ∧ i < (n : Int) → (cad i, oC 1 [vI (cw (cs i)), vI (cz (cs i)), vI (ce (cs i))]) ∈ plC cad cs n := by
  induction n with
  | zero => intro i hi; omega
  | succ n ih =>
    intro i hi
    by_cases q : i = (n : Int)
    · rw [q]; exact List.mem_cons_self
    · exact List.mem_cons_of_mem _ (ih i (by omega))
theorem plP_cong {pad pad' : Int → Nat} {ps ps' : Int → PT} (n : Nat) (h : ∀ i : Int, 0 ≤ i ∧ i < (n : Int) → pad i = pad' i ∧ ps i = ps' i) : plP pad ps n = plP pad' ps' n := by
  induction n with
  | zero => rfl
  | succ n ih =>
    show pC (pad (n : Int)) (ps (n : Int)) :: plP pad ps n = pC (pad' (n : Int)) (ps' (n : Int)) :: plP pad' ps' n
    rw [(h n (by omega)).1, (h n (by omega)).2, ih (fun i hi => h i (by omega))]
theorem plC_cong {cad cad' : Int → Nat} {cs cs' : Int → CT} (n : Nat) (h : ∀ i : Int, 0 ≤ i ∧ i < (n : Int) → cad i = cad' i ∧ cs i = cs' i) : plC cad cs n = plC cad' cs' n := by
  induction n with
  | zero => rfl
  | succ n ih =>
    show (cad (n : Int), oC 1 [vI (cw (cs (n : Int))), vI (cz (cs (n : Int))), vI (ce (cs (n : Int)))]) :: plC cad cs n = (cad' (n : Int), oC 1 [vI (cw (cs' (n : Int))), vI (cz (cs' (n : Int))), vI (ce (cs' (n : Int)))]) :: plC cad' cs' n
    rw [(h n (by omega)).1, (h n (by omega)).2, ih (fun i hi => h i (by omega))]
/-- one parish's cell out of them, and another in its place -/
theorem plP_out {pad : Int → Nat} {ps : Int → PT} {p : Int} (n : Nat) (hp : 0 ≤ p ∧ p < (n : Int)) : ∃ R : va_W, (plP pad ps n).Perm (pC (pad p) (ps p) :: R) ∧ ∀ P' : PT, (plP pad (up ps p P') n).Perm (pC (pad p) P' :: R) := by
  induction n with
  | zero => omega
  | succ n ih =>
    by_cases q : p = (n : Int)
    · refine ⟨plP pad ps n, ?_, fun P' => ?_⟩
      · rw [q]; exact List.Perm.refl _
      · show (pC (pad (n : Int)) (up ps p P' (n : Int)) :: plP pad (up ps p P') n).Perm _
        rw [← q, up_same, plP_cong (pad' := pad) (ps' := ps) n (fun i hi => ⟨rfl, up_ne _ _ _ _ (by omega)⟩)]
    · obtain ⟨R, h1, h2⟩ := ih (by omega)
      refine ⟨pC (pad (n : Int)) (ps (n : Int)) :: R, (h1.cons _).trans (List.Perm.swap _ _ _), fun P' => ?_⟩
      show (pC (pad (n : Int)) (up ps p P' (n : Int)) :: plP pad (up ps p P') n).Perm _
      rw [up_ne _ _ _ _ (show (n : Int) ≠ p by omega)]
      exact ((h2 P').cons _).trans (List.Perm.swap _ _ _)
def PLW (np nc : Int) (cad pad : Int → Nat) (cs : Int → CT) (ps : Int → PT) : va_W := plP pad ps np.toNat ++ plC cad cs nc.toNat
theorem PLW_p {np nc : Int} {cad pad : Int → Nat} {cs : Int → CT} {ps : Int → PT} : ∀ i : Int, 0 ≤ i ∧ i < np → pC (pad i) (ps i) ∈ PLW np nc cad pad cs ps := fun i hi => List.mem_append_left _ (plP_mem _ i (by omega))
theorem PLW_c {np nc : Int} {cad pad : Int → Nat} {cs : Int → CT} {ps : Int → PT} : ∀ i : Int, 0 ≤ i ∧ i < nc → (cad i, oC 1 [vI (cw (cs i)), vI (cz (cs i)), vI (ce (cs i))]) ∈ PLW np nc cad pad cs ps := fun i hi => List.mem_append_right _ (plC_mem _ i (by omega))
theorem PLW_newP {np nc : Int} {cad pad : Int → Nat} {cs : Int → CT} {ps : Int → PT} (h : 0 ≤ np) (q : Nat) (P : PT) : PLW (np + 1) nc cad (up pad np q) cs (up ps np P) = pC q P :: PLW np nc cad pad cs ps := by
  unfold PLW
  rw [show (np + 1).toNat = np.toNat + 1 by omega]
  show pC (up pad np q (np.toNat : Int)) (up ps np P (np.toNat : Int)) :: (plP (up pad np q) (up ps np P) np.toNat ++ _) = _
  rw [show (np.toNat : Int) = np by omega, up_same, up_same, plP_cong (pad' := pad) (ps' := ps) np.toNat (fun i hi => ⟨up_ne _ _ _ _ (by omega), up_ne _ _ _ _ (by omega)⟩)]
theorem PLW_newC {np nc : Int} {cad pad : Int → Nat} {cs : Int → CT} {ps : Int → PT} (h : 0 ≤ nc) (q : Nat) (C : CT) : ((q, oC 1 [vI (cw C), vI (cz C), vI (ce C)]) :: PLW np nc cad pad cs ps).Perm (PLW np (nc + 1) (up cad nc q) pad (up cs nc C) ps) := by
  unfold PLW
  rw [show (nc + 1).toNat = nc.toNat + 1 by omega]
  show List.Perm _ (plP pad ps np.toNat ++ (up cad nc q (nc.toNat : Int), oC 1 [vI (cw (up cs nc C (nc.toNat : Int))), vI (cz (up cs nc C (nc.toNat : Int))), vI (ce (up cs nc C (nc.toNat : Int)))]) :: plC (up cad nc q) (up cs nc C) nc.toNat)
  rw [show (nc.toNat : Int) = nc by omega, up_same, up_same, plC_cong (cad' := cad) (cs' := cs) nc.toNat (fun i hi => ⟨up_ne _ _ _ _ (by omega), up_ne _ _ _ _ (by omega)⟩)]
  exact List.perm_middle.symm
theorem PLW_out {np nc : Int} {cad pad : Int → Nat} {cs : Int → CT} {ps : Int → PT} {p : Int} (hp : 0 ≤ p ∧ p < np) : ∃ R : va_W, (PLW np nc cad pad cs ps).Perm (pC (pad p) (ps p) :: R) ∧ ∀ P' : PT, (pC (pad p) P' :: R).Perm (PLW np nc cad pad cs (up ps p P')) := by
  obtain ⟨R, h1, h2⟩ := plP_out (pad := pad) (ps := ps) (p := p) np.toNat (by omega)
  exact ⟨R ++ plC cad cs nc.toNat, h1.append_right _, fun P' => ((h2 P').append_right _).symm⟩
end
section
/-! more rows of J: rows of longs, the script beside a method, worlds with a tail -/
def n32 (e : Int) : Int := (Int32.ofInt e).toInt
theorem n32_in (e : Int) : -2147483648 ≤ n32 e ∧ n32 e ≤ 2147483647 := by
  have h1 := Int32.le_toInt (Int32.ofInt e)
  have h2 := Int32.toInt_lt (Int32.ofInt e)
  unfold n32
  omega
theorem vI_n32 (e : Int) : vI e = vI (n32 e) := by
  unfold vI n32
  rw [Int32.ofInt_toInt]
/-- a row of longs -/
def aL (cA : ClassId) (n : Nat) (g : Int → Int) : va_E := .inl (cA, n, .inr (.inl (fun k : Nat => Int64.ofInt (g (k : Int)))))
theorem nj_upL {g : Int → Int} {i x : Int} (h : 0 ≤ i ∧ i ≤ 2147483647) : vp_updL (fun k : Nat => Int64.ofInt (g (k : Int))) (Int32.ofInt i).toNatClampNeg (Int64.ofInt x) = fun k : Nat => Int64.ofInt (up g i x (k : Int)) := by
  funext k
  have h1 := nj_to h
  unfold vp_updL up
  by_cases hk : k = (Int32.ofInt i).toNatClampNeg
  · rw [if_pos hk, if_pos (by omega)]
  · rw [if_neg hk, if_neg (by omega)]
section J34
variable {X : jX} {cc : ByteArray} {nL : Nat} {own : String} {Ts : List Cond} {rm : Room} {D : va_G} {Y : Nat → ClassId} {RO : va_W} {k n : Nat} {ws : va_W} {lc : List (Nat × Value)} {pc : Nat} {st : List Value}
theorem j_newL (C : jC X cc nL own Ts rm D Y RO) {m0 : Nat} {e : Int} (he : e = (m0 : Int)) (hm : m0 ≤ 1000) (harr : Cond.arrayClass .long ∈ Ts) (hroom : k + 1 ≤ rm.cells ∧ n + m0 ≤ rm.slots) (hd : decode cc pc = .ok (.newarray .long, 2)) (kk : ∀ q : Nat, jW X nL (k + 1) (n + m0) (ws ++ [(q, aL (Y 1) m0 (fun _ => 0))]) lc (pc + 2) (.ref q :: st)) : jW X nL k n ws lc pc (vI e :: st) := by
  obtain ⟨p, l, ev, R, s, m, args, below, meth, c, Q, D', Y', A, H0, RO'⟩ := X
  obtain ⟨⟨hx, hb, hml, hown, hts⟩, hK, hA, ⟨rfl, rfl, rfl, rfl⟩, hR, hRA, hN⟩ := C
  intro H locs ls hP hD hS hl
  subst he
  refine va_newa (atype := .long) (ty := .long) (N' := m0) (a0 := (m0, .inr (.inl (fun _ => 0)))) hx hb (hts _ harr) rfl hK hP hD hS hA (fun cA => rfl) ?_ ?_ ?_ hroom.1 hroom.2 hd (fun q cA H1 hK1 hP1 hD1 hS1 => ?_)
  · rw [nj_z, nj_lt (by omega)]; omega
  · rw [nj_cl (by omega)]; omega
  · show m0 * 8 ≤ 536870912
    omega
  · have e := Option.some.inj ((va_nm_long (hK1.2 4 _ rfl).2).symm.trans (va_nm_long (hK.2 1 _ rfl).2))
    subst e
    exact kk q H1 locs ls hP1 hD1 hS1 hl
theorem j_lald (C : jC X cc nL own Ts rm D Y RO) {cA : ClassId} {m0 : Nat} {g : Int → Int} {a : Nat} {i : Int} (hq : (a, aL cA m0 g) ∈ ws ∨ (a, aL cA m0 g) ∈ RO) (hcA : cA = Y 1) (hi : 0 ≤ i ∧ i < (m0 : Int)) (hm : m0 < 2147483648) (hd : decode cc pc = .ok (.laload, 1)) (kk : jW X nL k n ws lc (pc + 1) (vL (g i) :: st)) : jW X nL k n ws lc pc (vI i :: .ref a :: st) := by
  obtain ⟨p, l, e, R, s, m, args, below, meth, c, Q, D', Y', A, H0, RO'⟩ := X
  obtain ⟨⟨hx, hb, hml, hown, hts⟩, hK, hA, ⟨rfl, rfl, rfl, rfl⟩, hR, hRA, hN⟩ := C
  intro H locs ls hP hD hS hl
  subst hcA
  refine va_lald hx hb hK (j_cell hq hP hR hRA hS) 0 1 (cA := Y' 1) (n := m0) (f := fun k : Nat => Int64.ofInt (g (k : Int))) rfl rfl (nj_in hi hm) hd ?_
  rw [nj_to (by omega)]
  exact (kk H locs ls hP hD hS hl)
theorem j_last (C : jC X cc nL own Ts rm D Y RO) {cA : ClassId} {m0 : Nat} {g : Int → Int} {a : Nat} {i x : Int} {ws' : va_W} (q0 : Nat) (he : ws[q0]? = some (a, aL cA m0 g)) (hcA : cA = Y 1) (hi : 0 ≤ i ∧ i < (m0 : Int)) (hm : m0 < 2147483648) (hw : ws.set q0 (a, aL cA m0 (up g i x)) = ws') (hd : decode cc pc = .ok (.lastore, 1)) (kk : jW X nL k n ws' lc (pc + 1) st) : jW X nL k n ws lc pc (vL x :: vI i :: .ref a :: st) := by
  obtain ⟨p, l, e, R, s, m, args, below, meth, c, Q, D', Y', A, H0, RO'⟩ := X
  obtain ⟨⟨hx, hb, hml, hown, hts⟩, hK, hA, ⟨rfl, rfl, rfl, rfl⟩, hR, hRA, hN⟩ := C
  intro H locs ls hP hD hS hl
  subst hcA hw
  refine va_last hx hb hK hP hD hS q0 1 (cA := Y' 1) (n := m0) (f := fun k : Nat => Int64.ofInt (g (k : Int))) he rfl (nj_in hi hm) hd (fun H1 locs1 hP hD hS => ?_)
  rw [nj_upL (by omega)] at hP hD
  exact kk H1 locs1 ls hP hD hS hl
/-- like numbers: a compare's way -/
theorem j_icmpSe (C : jC X cc nL own Ts rm D Y RO) {e off : Int} (tgt : Nat) (ht : (pc : Int) + off = (tgt : Int)) (hd : decode cc pc = .ok (.if_icmp .eq off, 3)) (kk : jW X nL k n ws lc tgt st) : jW X nL k n ws lc pc (vI e :: vI e :: st) := by
  rw [vI_n32 e]
  exact j_icmp_eq C tgt ht ⟨n32_in e, n32_in e⟩ hd (fun _ => kk) (fun h => absurd rfl h)
theorem j_icmpSn (C : jC X cc nL own Ts rm D Y RO) {e off : Int} (tgt : Nat) (ht : (pc : Int) + off = (tgt : Int)) (hd : decode cc pc = .ok (.if_icmp .ne off, 3)) (kk : jW X nL k n ws lc (pc + 3) st) : jW X nL k n ws lc pc (vI e :: vI e :: st) := by
  rw [vI_n32 e]
  exact j_icmp_ne C tgt ht ⟨n32_in e, n32_in e⟩ hd (fun h => absurd rfl h) (fun _ => kk)
/-- a new row, ahead of the tail -/
theorem j_newIT (C : jC X cc nL own Ts rm D Y RO) {L W : va_W} {m0 : Nat} {e : Int} (he : e = (m0 : Int)) (hm : m0 ≤ 1000) (harr : Cond.arrayClass .int ∈ Ts) (hroom : k + 1 ≤ rm.cells ∧ n + m0 ≤ rm.slots) (hd : decode cc pc = .ok (.newarray .int, 2)) (kk : ∀ q : Nat, jW X nL (k + 1) (n + m0) ((L ++ [(q, aI (Y 0) m0 (fun _ => 0))]) ++ W) lc (pc + 2) (.ref q :: st)) : jW X nL k n (L ++ W) lc pc (vI e :: st) :=
  j_newI C he hm harr hroom hd (fun q => j_swap (kk q))
theorem j_newLT (C : jC X cc nL own Ts rm D Y RO) {L W : va_W} {m0 : Nat} {e : Int} (he : e = (m0 : Int)) (hm : m0 ≤ 1000) (harr : Cond.arrayClass .long ∈ Ts) (hroom : k + 1 ≤ rm.cells ∧ n + m0 ≤ rm.slots) (hd : decode cc pc = .ok (.newarray .long, 2)) (kk : ∀ q : Nat, jW X nL (k + 1) (n + m0) ((L ++ [(q, aL (Y 1) m0 (fun _ => 0))]) ++ W) lc (pc + 2) (.ref q :: st)) : jW X nL k n (L ++ W) lc pc (vI e :: st) :=
  j_newL C he hm harr hroom hd (fun q => j_swap (kk q))
theorem j_toF {A P Rows : va_W} (kk : jW X nL k n (A ++ (P ++ Rows)) lc pc st) : jW X nL k n (Rows ++ (A ++ P)) lc pc st := by
  refine j_permP ?_ kk
  rw [← List.append_assoc A P Rows]
  exact List.perm_append_comm
theorem j_ofF {A P Rows : va_W} (kk : jW X nL k n (Rows ++ (A ++ P)) lc pc st) : jW X nL k n (A ++ (P ++ Rows)) lc pc st := by
  refine j_permP ?_ kk
  rw [← List.append_assoc A P Rows]
  exact List.perm_append_comm
end J34
/-- a start with the script beside it -/
def jPreX (b L : Nat) (xs : Nat → Int32) (D : va_G) (Y : Nat → ClassId) (w0 RO : va_W) (sz : Nat) : State → Prop := fun U => jPre D Y w0 RO sz U ∧ va_X b L xs U U.heap ∧ b < sz ∧ ∀ q ∈ w0, q.1 ≠ b
def jMiX (l : Launch) (y : MethodName) (wl : List Cond) (rm : Room) (D : va_G) (Y : Nat → ClassId) (RO : va_W) (b L : Nat) (xs : Nat → Int32) (av : List Value) (w0 : va_W) (post : Int → va_W → Prop) : Prop := ∀ sz : Nat, Met l y wl rm (va_Pc av (jPreX b L xs D Y w0 RO sz)) (va_Qi (fun (r : Int32) (w1 : va_W) => ∃ e : Int, r = Int32.ofInt e ∧ post e w1) (jB D w0 sz) (va_A w0 sz)) rm.cells rm.slots (va_A w0 sz)
theorem jPreX.blind {b L : Nat} {xs : Nat → Int32} {D : va_G} {Y : Nat → ClassId} {w0 RO : va_W} {sz : Nat} {av : List Value} : FrameBlind (va_Pc av (jPreX b L xs D Y w0 RO sz)) := by
  intro a U g mk q
  obtain ⟨q0, ⟨q1, qP, qK, qD, qR, qd, qN⟩, qX, qb⟩ := q
  exact ⟨q0, ⟨q1, qP, va_K.moved (u := U) (U := U.calling g mk a) (Vm.Alike.refl U.vm) qK, qD, qR, qd, qN.same rfl⟩, va_X.moved (u := U) (U := U.calling g mk a) (Vm.Alike.refl U.vm) qX, qb⟩
theorem j_nob {w0 : va_W} {sz b : Nat} (hb : b < sz) (h : ∀ q ∈ w0, q.1 ≠ b) : ¬ va_A w0 sz b := by
  intro q
  rcases q with ⟨k, e, q⟩ | q
  · exact h _ (List.mem_of_getElem? q) rfl
  · omega
theorem j_ofiX {l : Launch} {y : MethodName} {wl ws' : List Cond} {rm : Room} {D : va_G} {Y : Nat → ClassId} {RO w0 : va_W} {b L : Nat} {xs : Nat → Int32} {av : List Value} {post : Int → va_W → Prop} {cc : ByteArray} {maxL : Nat} (own : String) (hy : plainName y.cls = true) (hw : wl = Cond.code y cc maxL (some .int) :: ws') (ho : y.cls = own) (hlen : (lg_sl av).length ≤ maxL) (body : ∀ X : jX, jC X cc maxL own wl rm D Y RO → jSc X b L xs → jRi X cc maxL rm.cells rm.slots post → jW X maxL 0 0 w0 (lv_args 0 av) 0 []) : jMiX l y wl rm D Y RO b L xs av w0 post := by
  intro sz
  refine Met.ofW (cc := cc) (maxL := maxL) (ret := (some .int)) hy hw ?_
  intro p e s m args below meth c s₁ B hml hv
  obtain ⟨rfl, ⟨hsz, hP, hK, hD0, hRO, hdis, hN⟩, hX, hbs, hbw⟩ := hv
  have hx := B.exec
  have hb := B.bytes
  have hr := B.returns
  have hts := atoms_spec (ws := wl) B.pre
  have hown : s.vm.findClass own = some m.cls := ho ▸ findClass_of_methodNamed B.named
  have hlocks := B.notSynchronized
  have hRA := j_ros hsz hRO hdis
  subst hsz
  have hD := hD0.self (sz := s.heap.size)
  rw [lg_entry_eq]
  have hl := lv_entry av (n := maxL) hlen
  refine body (p, l, e, (headSpec wl rm).room, s, m, av.toArray, below, meth, c, MQ below (_) av.toArray s rm.cells rm.slots (va_A w0 s.heap.size), D, Y, va_A w0 s.heap.size, s.heap, RO) ⟨⟨hx, hb, hml, hown, hts⟩, hK, fun q h => Or.inr h, ⟨rfl, rfl, rfl, rfl⟩, hRO, hRA, hN⟩ ⟨hX, hbs, j_nob hbs hbw⟩ ?_ s.heap [] _ hP hD va_S.rf hl
  intro k n w1 lc pc ev hk hn hp hd H locs ls hP hD hS hl
  exact W.widen hk hn (W.iret hx hb hr (fun t ht hW => ⟨⟨_, w1, rfl, ⟨ev, rfl, hp⟩, by rw [ht]; exact hP, hD⟩, hS.F ht⟩) hS.2.2 hd hlocks)
theorem j_ofzX {l : Launch} {y : MethodName} {wl ws' : List Cond} {rm : Room} {D : va_G} {Y : Nat → ClassId} {RO w0 : va_W} {b L : Nat} {xs : Nat → Int32} {av : List Value} {post : Int → va_W → Prop} {cc : ByteArray} {maxL : Nat} (own : String) (hy : plainName y.cls = true) (hw : wl = Cond.code y cc maxL (some .boolean) :: ws') (ho : y.cls = own) (hlen : (lg_sl av).length ≤ maxL) (body : ∀ X : jX, jC X cc maxL own wl rm D Y RO → jSc X b L xs → jRz X cc maxL rm.cells rm.slots post → jW X maxL 0 0 w0 (lv_args 0 av) 0 []) : jMiX l y wl rm D Y RO b L xs av w0 post := by
  intro sz
  refine Met.ofW (cc := cc) (maxL := maxL) (ret := (some .boolean)) hy hw ?_
  intro p e s m args below meth c s₁ B hml hv
  obtain ⟨rfl, ⟨hsz, hP, hK, hD0, hRO, hdis, hN⟩, hX, hbs, hbw⟩ := hv
  have hx := B.exec
  have hb := B.bytes
  have hr := B.returns
  have hts := atoms_spec (ws := wl) B.pre
  have hown : s.vm.findClass own = some m.cls := ho ▸ findClass_of_methodNamed B.named
  have hlocks := B.notSynchronized
  have hRA := j_ros hsz hRO hdis
  subst hsz
  have hD := hD0.self (sz := s.heap.size)
  rw [lg_entry_eq]
  have hl := lv_entry av (n := maxL) hlen
  refine body (p, l, e, (headSpec wl rm).room, s, m, av.toArray, below, meth, c, MQ below (_) av.toArray s rm.cells rm.slots (va_A w0 s.heap.size), D, Y, va_A w0 s.heap.size, s.heap, RO) ⟨⟨hx, hb, hml, hown, hts⟩, hK, fun q h => Or.inr h, ⟨rfl, rfl, rfl, rfl⟩, hRO, hRA, hN⟩ ⟨hX, hbs, j_nob hbs hbw⟩ ?_ s.heap [] _ hP hD va_S.rf hl
  intro k n w1 lc pc ev hk hn hz hp hd H locs ls hP hD hS hl
  exact W.widen hk hn (W.zret hx hb hr (by rcases hz with rfl | rfl <;> rfl) (fun t ht hW => ⟨⟨_, w1, rfl, ⟨ev, rfl, hp⟩, by rw [ht]; exact hP, hD⟩, hS.F ht⟩) hS.2.2 hd hlocks)
theorem j_callSiX {X : jX} {cc : ByteArray} {nL : Nat} {own : String} {Ts : List Cond} {rm : Room} {D : va_G} {Y : Nat → ClassId} {RO : va_W} {k n : Nat} {ws : va_W} {lc : List (Nat × Value)} {pc : Nat} {st stk As : List Value} {y : MethodName} {wl wl' : List Cond} {rm' : Room} {post : Int → va_W → Prop} {bytes : ByteArray} {maxL index na : Nat} (C : jC X cc nL own Ts rm D Y RO) (isC isR : List Nat) {wc wr : va_W} {b L : Nat} {xs : Nat → Int32} (hSc : jSc X b L xs) (hM : ∀ l, jMiX l y wl rm' D Y (wr ++ RO) b L xs As wc post) (hC : isC.map (fun i => ws[i]?) = wc.map some) (hR0 : isR.map (fun i => ws[i]?) = wr.map some) (hnC : va_nd isC = true) (hnR : va_nd isR = true) (hdis : ∀ i ∈ isR, i ∉ isC) {ret : Option FieldType} (hw : wl = Cond.code y bytes maxL ret :: wl') (g : GoodIn Ts (va_wsS own index y wl)) (hd0 : y.cls ≠ "java/lang/invoke/MethodHandle" ∧ y.cls ≠ "java/lang/invoke/VarHandle" ∧ (parseMethodDescriptor y.desc).map (fun d => d.parameters.length) = some na) (hRm : rm'.frames + 1 ≤ rm.frames ∧ 8 + (maxL + 11) + rm'.locals ≤ rm.locals) (hstk : stk = As.reverse ++ st) (hna : As.length = na) (hcat : (st.map fun v => v.category).sum ≤ 8) (hroom : k + rm'.cells ≤ rm.cells ∧ n + rm'.slots ≤ rm.slots) (hd : decode cc pc = .ok (.invokestatic index, 3)) (kk : ∀ (ev : Int) (w1 : va_W), post ev w1 → jW X nL (k + rm'.cells) (n + rm'.slots) (wr ++ w1) lc (pc + 3) (vI ev :: st)) : jW X nL k n ws lc pc stk := by
  obtain ⟨p, l, e, R, s, m, args, below, meth, c, Q, D', Y', A, H0, RO'⟩ := X
  obtain ⟨⟨hx, hb, hml, hown, hts⟩, hK, hA, ⟨rfl, rfl, rfl, rfl⟩, hR, hRA, hN⟩ := C
  obtain ⟨hX, hbl, hbA⟩ := hSc
  intro H locs ls hP hD hS hl
  subst hstk
  have hPc := j_sub hP isC hC
  have hDc := hD.sub isC hnC hC
  have hFc := va_free hD hS hA isC hC
  have hROc := j_ro2 hP hR hRA hS isR hR0
  have hap := j_ap hD hRA isC isR hC hR0 hdis
  refine va_calli (va_runS (As := As) (rest := st) ⟨hx, hb, hml, hown, hts⟩ (hM l _) (va_cwS na hts g hw rfl rfl hd0 hRm) ⟨jPreX.blind, fun U hU hW => ⟨rfl, ⟨by rw [hU], by rw [hU]; exact hPc, va_K.moved hW.alike hK, hDc.weaken (fun _ _ _ _ => trivial), by rw [hU]; exact hROc, hap, hN.warm hW⟩, by rw [hU]; exact (hX.moved hW.alike).kept (hS.2.1 b hbl hbA), Nat.lt_of_lt_of_le hbl hS.1, fun q hq e => hbA (by obtain ⟨j, hj, hj2⟩ := j_at' hC hq; rw [← e]; exact hD.2 j q hj2)⟩⟩ rfl hna hl.1 rfl (lv_room hcat) hd hroom) hS (fun q _ h => hFc q h) hFc (fun r w1 t H1 locs1 ht hvm hw1 hB hz1 hk1 hS => ?_)
  obtain ⟨hP1, hD1⟩ := hB
  rw [ht] at hP1
  obtain ⟨hP, hD⟩ := va_join hP hD isC isR hC hR0 hnR hdis hk1 hFc hP1 hD1
  obtain ⟨ev, rfl, hp⟩ := hw1
  exact kk ev w1 hp H1 locs1 ls hP hD hS hl
section J34C
variable {X : jX} {cc : ByteArray} {nL : Nat} {own : String} {Ts : List Cond} {rm : Room} {D : va_G} {Y : Nat → ClassId} {RO : va_W} {k n : Nat} {ws : va_W} {lc : List (Nat × Value)} {pc : Nat} {st : List Value}
theorem j_lawSi {M0 PL : va_W} {stk As : List Value} {y : MethodName} {wl wl' : List Cond} {rm' : Room} {post : Int → va_W → Prop} {bytes : ByteArray} {maxL index na : Nat} (C : jC X cc nL own Ts rm D Y RO) (isC isR : List Nat) {wc wr : va_W} (hM : ∀ l, jMi l y wl rm' D Y ((wr ++ PL) ++ RO) As wc post) (hC : isC.map (fun i => M0[i]?) = wc.map some) (hR0 : isR.map (fun i => M0[i]?) = wr.map some) (hnC : va_nd isC = true) (hnR : va_nd isR = true) (hdis : ∀ i ∈ isR, i ∉ isC) {ret : Option FieldType} (hw : wl = Cond.code y bytes maxL ret :: wl') (g : GoodIn Ts (va_wsS own index y wl)) (hd0 : y.cls ≠ "java/lang/invoke/MethodHandle" ∧ y.cls ≠ "java/lang/invoke/VarHandle" ∧ (parseMethodDescriptor y.desc).map (fun d => d.parameters.length) = some na) (hRm : rm'.frames + 1 ≤ rm.frames ∧ 8 + (maxL + 11) + rm'.locals ≤ rm.locals) (hstk : stk = As.reverse ++ st) (hna : As.length = na) (hcat : (st.map fun v => v.category).sum ≤ 8) (hroom : k + rm'.cells ≤ rm.cells ∧ n + rm'.slots ≤ rm.slots) (hd : decode cc pc = .ok (.invokestatic index, 3)) (kk : ∀ (ev : Int) (w1 : va_W), post ev w1 → jW X nL (k + rm'.cells) (n + rm'.slots) ((wr ++ w1) ++ PL) lc (pc + 3) (vI ev :: st)) : jW X nL k n (M0 ++ PL) lc pc stk :=
  j_callSi C isC (isR ++ List.range' M0.length PL.length) hM (hd_map PL hC) (by rw [List.map_append, hd_map PL hR0, tl_map, List.map_append]) hnC (va_nd_app hnR (va_nd_range _ _) (fun i hi q => by have := ix_lt hR0 i hi; have := List.mem_range'_1.mp q; omega)) (fun i hi => by rcases List.mem_append.mp hi with q | q; { exact hdis i q }; { intro z; have := ix_lt hC i z; have := List.mem_range'_1.mp q; omega }) hw g hd0 hRm hstk hna hcat hroom hd (fun ev w1 h => j_swap (kk ev w1 h))

theorem j_lawSv {M0 PL : va_W} {stk As : List Value} {y : MethodName} {wl wl' : List Cond} {rm' : Room} {post : va_W → Prop} {bytes : ByteArray} {maxL index na : Nat} (C : jC X cc nL own Ts rm D Y RO) (isC isR : List Nat) {wc wr : va_W} (hM : ∀ l, jMv l y wl rm' D Y ((wr ++ PL) ++ RO) As wc post) (hC : isC.map (fun i => M0[i]?) = wc.map some) (hR0 : isR.map (fun i => M0[i]?) = wr.map some) (hnC : va_nd isC = true) (hnR : va_nd isR = true) (hdis : ∀ i ∈ isR, i ∉ isC) {ret : Option FieldType} (hw : wl = Cond.code y bytes maxL ret :: wl') (g : GoodIn Ts (va_wsS own index y wl)) (hd0 : y.cls ≠ "java/lang/invoke/MethodHandle" ∧ y.cls ≠ "java/lang/invoke/VarHandle" ∧ (parseMethodDescriptor y.desc).map (fun d => d.parameters.length) = some na) (hRm : rm'.frames + 1 ≤ rm.frames ∧ 8 + (maxL + 11) + rm'.locals ≤ rm.locals) (hstk : stk = As.reverse ++ st) (hna : As.length = na) (hcat : (st.map fun v => v.category).sum ≤ 8) (hroom : k + rm'.cells ≤ rm.cells ∧ n + rm'.slots ≤ rm.slots) (hd : decode cc pc = .ok (.invokestatic index, 3)) (kk : ∀ w1 : va_W, post w1 → jW X nL (k + rm'.cells) (n + rm'.slots) ((wr ++ w1) ++ PL) lc (pc + 3) st) : jW X nL k n (M0 ++ PL) lc pc stk :=
  j_callSv C isC (isR ++ List.range' M0.length PL.length) hM (hd_map PL hC) (by rw [List.map_append, hd_map PL hR0, tl_map, List.map_append]) hnC (va_nd_app hnR (va_nd_range _ _) (fun i hi q => by have := ix_lt hR0 i hi; have := List.mem_range'_1.mp q; omega)) (fun i hi => by rcases List.mem_append.mp hi with q | q; { exact hdis i q }; { intro z; have := ix_lt hC i z; have := List.mem_range'_1.mp q; omega }) hw g hd0 hRm hstk hna hcat hroom hd (fun w1 h => j_swap (kk w1 h))

theorem j_lawSiX {M0 PL : va_W} {stk As : List Value} {y : MethodName} {wl wl' : List Cond} {rm' : Room} {post : Int → va_W → Prop} {bytes : ByteArray} {maxL index na : Nat} (C : jC X cc nL own Ts rm D Y RO) (isC isR : List Nat) {wc wr : va_W} {b L : Nat} {xs : Nat → Int32} (hSc : jSc X b L xs) (hM : ∀ l, jMiX l y wl rm' D Y ((wr ++ PL) ++ RO) b L xs As wc post) (hC : isC.map (fun i => M0[i]?) = wc.map some) (hR0 : isR.map (fun i => M0[i]?) = wr.map some) (hnC : va_nd isC = true) (hnR : va_nd isR = true) (hdis : ∀ i ∈ isR, i ∉ isC) {ret : Option FieldType} (hw : wl = Cond.code y bytes maxL ret :: wl') (g : GoodIn Ts (va_wsS own index y wl)) (hd0 : y.cls ≠ "java/lang/invoke/MethodHandle" ∧ y.cls ≠ "java/lang/invoke/VarHandle" ∧ (parseMethodDescriptor y.desc).map (fun d => d.parameters.length) = some na) (hRm : rm'.frames + 1 ≤ rm.frames ∧ 8 + (maxL + 11) + rm'.locals ≤ rm.locals) (hstk : stk = As.reverse ++ st) (hna : As.length = na) (hcat : (st.map fun v => v.category).sum ≤ 8) (hroom : k + rm'.cells ≤ rm.cells ∧ n + rm'.slots ≤ rm.slots) (hd : decode cc pc = .ok (.invokestatic index, 3)) (kk : ∀ (ev : Int) (w1 : va_W), post ev w1 → jW X nL (k + rm'.cells) (n + rm'.slots) ((wr ++ w1) ++ PL) lc (pc + 3) (vI ev :: st)) : jW X nL k n (M0 ++ PL) lc pc stk :=
  j_callSiX C isC (isR ++ List.range' M0.length PL.length) hSc hM (hd_map PL hC) (by rw [List.map_append, hd_map PL hR0, tl_map, List.map_append]) hnC (va_nd_app hnR (va_nd_range _ _) (fun i hi q => by have := ix_lt hR0 i hi; have := List.mem_range'_1.mp q; omega)) (fun i hi => by rcases List.mem_append.mp hi with q | q; { exact hdis i q }; { intro z; have := ix_lt hC i z; have := List.mem_range'_1.mp q; omega }) hw g hd0 hRm hstk hna hcat hroom hd (fun ev w1 h => j_swap (kk ev w1 h))

theorem j_tailSi {M0 PL : va_W} {stk As : List Value} {y : MethodName} {wl wl' : List Cond} {rm' : Room} {post : Int → va_W → Prop} {bytes : ByteArray} {maxL index na : Nat} (C : jC X cc nL own Ts rm D Y RO) (isC isR : List Nat) {wc wr : va_W} (hM : ∀ l, jMi l y wl rm' D Y (wr ++ RO) As (wc ++ PL) post) (hC : isC.map (fun i => M0[i]?) = wc.map some) (hR0 : isR.map (fun i => M0[i]?) = wr.map some) (hnC : va_nd isC = true) (hnR : va_nd isR = true) (hdis : ∀ i ∈ isR, i ∉ isC) {ret : Option FieldType} (hw : wl = Cond.code y bytes maxL ret :: wl') (g : GoodIn Ts (va_wsS own index y wl)) (hd0 : y.cls ≠ "java/lang/invoke/MethodHandle" ∧ y.cls ≠ "java/lang/invoke/VarHandle" ∧ (parseMethodDescriptor y.desc).map (fun d => d.parameters.length) = some na) (hRm : rm'.frames + 1 ≤ rm.frames ∧ 8 + (maxL + 11) + rm'.locals ≤ rm.locals) (hstk : stk = As.reverse ++ st) (hna : As.length = na) (hcat : (st.map fun v => v.category).sum ≤ 8) (hroom : k + rm'.cells ≤ rm.cells ∧ n + rm'.slots ≤ rm.slots) (hd : decode cc pc = .ok (.invokestatic index, 3)) (kk : ∀ (ev : Int) (w1 : va_W), post ev w1 → jW X nL (k + rm'.cells) (n + rm'.slots) (wr ++ w1) lc (pc + 3) (vI ev :: st)) : jW X nL k n (M0 ++ PL) lc pc stk :=
  j_callSi C (isC ++ List.range' M0.length PL.length) isR hM (by rw [List.map_append, hd_map PL hC, tl_map, List.map_append]) (hd_map PL hR0) (va_nd_app hnC (va_nd_range _ _) (fun i hi q => by have := ix_lt hC i hi; have := List.mem_range'_1.mp q; omega)) hnR (fun i hi z => by rcases List.mem_append.mp z with q | q; { exact hdis i hi q }; { have := ix_lt hR0 i hi; have := List.mem_range'_1.mp q; omega }) hw g hd0 hRm hstk hna hcat hroom hd kk

theorem j_tailSiX {M0 PL : va_W} {stk As : List Value} {y : MethodName} {wl wl' : List Cond} {rm' : Room} {post : Int → va_W → Prop} {bytes : ByteArray} {maxL index na : Nat} (C : jC X cc nL own Ts rm D Y RO) (isC isR : List Nat) {wc wr : va_W} {b L : Nat} {xs : Nat → Int32} (hSc : jSc X b L xs) (hM : ∀ l, jMiX l y wl rm' D Y (wr ++ RO) b L xs As (wc ++ PL) post) (hC : isC.map (fun i => M0[i]?) = wc.map some) (hR0 : isR.map (fun i => M0[i]?) = wr.map some) (hnC : va_nd isC = true) (hnR : va_nd isR = true) (hdis : ∀ i ∈ isR, i ∉ isC) {ret : Option FieldType} (hw : wl = Cond.code y bytes maxL ret :: wl') (g : GoodIn Ts (va_wsS own index y wl)) (hd0 : y.cls ≠ "java/lang/invoke/MethodHandle" ∧ y.cls ≠ "java/lang/invoke/VarHandle" ∧ (parseMethodDescriptor y.desc).map (fun d => d.parameters.length) = some na) (hRm : rm'.frames + 1 ≤ rm.frames ∧ 8 + (maxL + 11) + rm'.locals ≤ rm.locals) (hstk : stk = As.reverse ++ st) (hna : As.length = na) (hcat : (st.map fun v => v.category).sum ≤ 8) (hroom : k + rm'.cells ≤ rm.cells ∧ n + rm'.slots ≤ rm.slots) (hd : decode cc pc = .ok (.invokestatic index, 3)) (kk : ∀ (ev : Int) (w1 : va_W), post ev w1 → jW X nL (k + rm'.cells) (n + rm'.slots) (wr ++ w1) lc (pc + 3) (vI ev :: st)) : jW X nL k n (M0 ++ PL) lc pc stk :=
  j_callSiX C (isC ++ List.range' M0.length PL.length) isR hSc hM (by rw [List.map_append, hd_map PL hC, tl_map, List.map_append]) (hd_map PL hR0) (va_nd_app hnC (va_nd_range _ _) (fun i hi q => by have := ix_lt hC i hi; have := List.mem_range'_1.mp q; omega)) hnR (fun i hi z => by rcases List.mem_append.mp z with q | q; { exact hdis i hi q }; { have := ix_lt hR0 i hi; have := List.mem_range'_1.mp q; omega }) hw g hd0 hRm hstk hna hcat hroom hd kk
end J34C
end
section
/-! p34's pictures: the law's own rows beside the moor -/
/-- marks, how: they tell the moor, while no pebble has come on a cairn of 9 -/
def LR (S : MS) (mk hw : Int → Int) : Prop := (∀ j, 0 ≤ mk j ∧ mk j ≤ ms_w S) ∧ (hw 0 = ms_w S ∧ hw 1 = ms_l S ∧ hw 2 = ms_a S ∧ hw 3 = ms_t S ∧ hw 5 = ms_p S) ∧ (hw 6 = 0 ∨ hw 6 = 1) ∧ (hw 6 = 0 → ∀ c, 0 ≤ c → c < 7 → ms_h S c ≤ 9 ∧ ∀ j, 0 ≤ j → j < ms_h S c → mk (9 * c + j) = ms_m S (60 * c + j))
theorem LR_full {S : MS} {mk hw : Int → Int} {c y : Int} (h : LR S mk hw) (e : ms_h S c = 60) : LR (putS c y S) mk (up hw 5 (hw 5 + 1)) := by
  rw [putS_full e]
  obtain ⟨h1, ⟨a, b, c', d, f⟩, h3, h4⟩ := h
  exact ⟨h1, ⟨a, b, c', d, congrArg (· + 1) f⟩, h3, h4⟩
theorem LR_high {S : MS} {mk hw : Int → Int} {c y : Int} (h : LR S mk hw) (e : ¬ ms_h S c = 60) : LR (putS c y S) mk (up hw 6 1) := by
  rw [putS_not e]
  obtain ⟨h1, h2, h3, h4⟩ := h
  exact ⟨h1, h2, Or.inr rfl, fun q => absurd q (by show ¬ (1 : Int) = 0; decide)⟩
theorem LR_low {S : MS} {mk hw : Int → Int} {c x y : Int} (hS : okS S) (h : LR S mk hw) (hc : 0 ≤ c ∧ c < 7) (e : ms_h S c < 9) (hx : 0 ≤ x ∧ x ≤ ms_w S) (hxy : hw 6 = 0 → x = y) : LR (putS c y S) (up mk (9 * c + ms_h S c) x) hw := by
  rw [putS_not (by omega)]
  obtain ⟨h1, h2, h3, h4⟩ := h
  have hh := hS.1 c hc
  refine ⟨fun j => ?_, h2, h3, fun q c' hc0 hc1 => ?_⟩
  · show 0 ≤ up mk _ x j ∧ up mk _ x j ≤ ms_w S
    unfold up
    split
    · exact hx
    · exact h1 j
  · obtain ⟨g1, g2⟩ := h4 q c' hc0 hc1
    have hh' := hS.1 c' ⟨hc0, hc1⟩
    show up (ms_h S) c (ms_h S c + 1) c' ≤ 9 ∧ ∀ j, 0 ≤ j → j < up (ms_h S) c (ms_h S c + 1) c' → up mk (9 * c + ms_h S c) x (9 * c' + j) = up (ms_m S) (60 * c + ms_h S c) y (60 * c' + j)
    by_cases z : c' = c
    · subst z
      rw [up_same]
      refine ⟨by omega, fun j j0 j1 => ?_⟩
      by_cases w : j = ms_h S c'
      · rw [w, up_same, up_same]; exact hxy q
      · rw [up_ne _ _ _ _ (by omega), up_ne _ _ _ _ (by omega)]
        exact g2 j j0 (by omega)
    · rw [up_ne _ _ _ _ z]
      refine ⟨g1, fun j j0 j1 => ?_⟩
      rw [up_ne _ _ _ _ (by omega), up_ne _ _ _ _ (by omega)]
      exact g2 j j0 j1
theorem LR_L {S : MS} {mk hw : Int → Int} (v : Int) (h : LR S mk hw) : LR (setL S v) mk (up hw 1 v) := by
  obtain ⟨h1, ⟨a, b, c', d, f⟩, h3, h4⟩ := h
  exact ⟨h1, ⟨a, rfl, c', d, f⟩, h3, h4⟩
theorem LR_A {S : MS} {mk hw : Int → Int} (n : Int) (h : LR S mk hw) : LR (setA S (ms_a S + n)) mk (up hw 2 (hw 2 + n)) := by
  obtain ⟨h1, ⟨a, b, c', d, f⟩, h3, h4⟩ := h
  exact ⟨h1, ⟨a, b, congrArg (· + n) c', d, f⟩, h3, h4⟩
theorem LR_D {S : MS} {mk hw : Int → Int} (v : Int) (h : LR S mk hw) : LR (setD S v) mk hw := h
theorem LR_W {S : MS} {mk hw : Int → Int} (h : LR S mk hw) : LR (setW S (ms_w S + 1)) mk (up hw 0 (hw 0 + 1)) := by
  obtain ⟨h1, ⟨a, b, c', d, f⟩, h3, h4⟩ := h
  exact ⟨fun j => by have := h1 j; show 0 ≤ mk j ∧ mk j ≤ ms_w S + 1; omega, ⟨congrArg (· + 1) a, b, c', d, f⟩, h3, h4⟩
theorem LR_H {S : MS} {mk hw : Int → Int} {c v : Int} (hv : v ≤ ms_h S c) (h : LR S mk hw) : LR (setH S (up (ms_h S) c v)) mk hw := by
  obtain ⟨h1, h2, h3, h4⟩ := h
  refine ⟨h1, h2, h3, fun q c' hc0 hc1 => ?_⟩
  obtain ⟨g1, g2⟩ := h4 q c' hc0 hc1
  show up (ms_h S) c v c' ≤ 9 ∧ ∀ j, 0 ≤ j → j < up (ms_h S) c v c' → mk (9 * c' + j) = ms_m S (60 * c' + j)
  by_cases z : c' = c
  · subst z
    rw [up_same]
    exact ⟨by omega, fun j j0 j1 => g2 j j0 (by omega)⟩
  · rw [up_ne _ _ _ _ z]
    exact ⟨g1, g2⟩
theorem LR_T {S : MS} {mk hw : Int → Int} (n : Int) (h : LR S mk hw) : LR (ms_h S, ms_m S, ms_w S, ms_l S, ms_s S, ms_a S, ms_t S + n, ms_p S) mk (up hw 3 (hw 3 + n)) := by
  obtain ⟨h1, ⟨a, b, c', d, f⟩, h3, h4⟩ := h
  exact ⟨h1, ⟨a, b, c', congrArg (· + n) d, f⟩, h3, h4⟩
theorem LR_take {S : MS} {mk hw : Int → Int} {c n : Int} (hn : 0 ≤ offS c n S) (h : LR S mk hw) : LR (takeS c n S) mk (up hw 3 (hw 3 + offS c n S)) :=
  LR_T (S := setH S (up (ms_h S) c (ms_h S c - offS c n S))) (offS c n S) (LR_H (by omega) h)
theorem offS_in {S : MS} {c n : Int} (hS : okS S) (hc : 0 ≤ c ∧ c < 7) (hn : 0 ≤ n) : 0 ≤ offS c n S ∧ offS c n S ≤ ms_h S c := by
  have := hS.1 c hc
  unfold offS
  split <;> omega
-- the last cairn is told first
theorem putN_setL (c n v : Int) (S : MS) : putN c n (setL S v) = setL (putN c n S) v := by
  unfold putN fo
  induction n.toNat with
  | zero => rfl
  | succ k ih => show putW c (foldI _ k _) = setL (putW c (foldI _ k _)) v; rw [ih]; exact putS_setL c _ v _
theorem layS_setL (c n v : Int) (S : MS) : layS c n (setL S v) = setL (layS c n S) v := by
  unfold layS
  rw [putN_setL]
  rfl
theorem wish_alt (C : CT) (P : PT) (num : Int) (S : MS) : wishS C P num S = layS (ruleS (cw C) num S) (giftP P) (setL S (ruleS (cw C) num S)) := by
  rw [layS_setL]
  rfl
theorem steal_setL (c to v : Int) (S : MS) : stealS c to (setL S v) = setL (stealS c to S) v := by
  unfold stealS
  split
  · rfl
  · by_cases q : ms_h S c = 0
    · rw [if_pos (show ms_h (setL S v) c = 0 from q), if_pos q]
    · rw [if_neg (show ¬ ms_h (setL S v) c = 0 from q), if_neg q, ← putS_setL]
      rfl
theorem sin_alt (C : CT) (P : PT) (num : Int) (S : MS) : sinS C P num S = stealS (fromS C P num S) (hideP P) (setL S (fromS C P num S)) := by
  rw [steal_setL]
  rfl
theorem lay_succ {c n : Int} {S : MS} (h : 0 ≤ n) : putN c (n + 1) S = putS c (ms_w (putN c n S)) (putN c n S) := putN_succ h
-- a rule's cairn, by heights and the last
def ruleL (rl : Int) (h : Int → Int) (last num : Int) : Int := if rl = 7 then mostI h else if rl = 8 then leastI h else if rl = 9 then num else if rl = 10 then (last + 1) % 7 else rl
theorem ruleL_S (rl num : Int) (S : MS) : ruleL rl (ms_h S) (ms_l S) num = ruleS rl num S := rfl
def mxP (h : Int → Int) (c b : Int) : Prop := (0 ≤ b ∧ b < 7) ∧ (b = 0 ∨ c < b) ∧ (∀ j, c < j → j < 7 → h j ≤ h b) ∧ ∀ j, c < j → j < b → h j < h b
theorem mx_0 (h : Int → Int) : mxP h 6 0 := ⟨by decide, Or.inl rfl, fun j a b => by omega, fun j a b => by omega⟩
theorem mx_take {h : Int → Int} {c b : Int} (hc : 0 ≤ c ∧ c < 7) (p : mxP h c b) (q : h b ≤ h c) : mxP h (c - 1) c := by
  obtain ⟨p1, p2, p3, p4⟩ := p
  refine ⟨hc, Or.inr (by omega), fun j a z => ?_, fun j a z => by omega⟩
  by_cases e : j = c
  · rw [e]; exact Int.le_refl _
  · exact Int.le_trans (p3 j (by omega) z) q
theorem mx_keep {h : Int → Int} {c b : Int} (hc : 0 ≤ c ∧ c < 7) (p : mxP h c b) (q : h c < h b) : mxP h (c - 1) b := by
  obtain ⟨p1, p2, p3, p4⟩ := p
  refine ⟨p1, p2.imp id (fun z => by omega), fun j a z => ?_, fun j a z => ?_⟩
  · by_cases e : j = c
    · rw [e]; omega
    · exact p3 j (by omega) z
  · by_cases e : j = c
    · rw [e]; exact q
    · exact p4 j (by omega) z
theorem mostI_char (h : Int → Int) : ∀ j, 0 ≤ j → j < 7 → h j ≤ h (mostI h) ∧ (j < mostI h → h j < h (mostI h)) := by
  have := fo_ind (f := mostF h) (s := 0) (n := 7) (P := fun k b => (0 ≤ b ∧ (b < k ∨ b = 0)) ∧ ∀ j, 0 ≤ j → j < k → h j ≤ h b ∧ (j < b → h j < h b)) (by decide) ⟨by decide, fun j a b => by omega⟩ (fun k b hk _ hb => by
    obtain ⟨h1, h2⟩ := hb
    unfold mostF
    by_cases q : h b < h k
    · rw [if_pos q]
      refine ⟨by omega, fun j a z => ?_⟩
      by_cases e : j = k
      · rw [e]; exact ⟨Int.le_refl _, fun w => absurd w (Int.lt_irrefl _)⟩
      · have := (h2 j a (by omega)).1
        exact ⟨by omega, fun _ => by omega⟩
    · rw [if_neg q]
      refine ⟨by omega, fun j a z => ?_⟩
      by_cases e : j = k
      · rw [e]
        exact ⟨by omega, fun w => by omega⟩
      · exact h2 j a (by omega))
  exact this.2
theorem mx_end {h : Int → Int} {b : Int} (p : mxP h (-1) b) : mostI h = b := by
  obtain ⟨p1, p2, p3, p4⟩ := p
  have hm := mostI_in h
  have a1 := mostI_char h b p1.1 p1.2
  have b1 := p3 (mostI h) (by omega) hm.2
  rcases Int.lt_trichotomy b (mostI h) with q | q | q
  · have := a1.2 q; omega
  · exact q.symm
  · have := p4 (mostI h) (by omega) q; omega
theorem least_neg (h : Int → Int) : leastI h = mostI (fun j => - h j) := by
  unfold leastI mostI
  have e : leastF h = mostF (fun j => - h j) := by
    funext i b
    show (if h i < h b then i else b) = (if - h b < - h i then i else b)
    by_cases q : h i < h b
    · rw [if_pos q, if_pos (by omega)]
    · rw [if_neg q, if_neg (by omega)]
  rw [e]
theorem sum7 (h : Int → Int) : sumI h 7 = h 0 + h 1 + h 2 + h 3 + h 4 + h 5 + h 6 := by
  have : sumI h 7 = 0 + h 0 + h 1 + h 2 + h 3 + h 4 + h 5 + h 6 := rfl
  omega
theorem sum_up {h : Int → Int} {c : Int} (hc : 0 ≤ c ∧ c < 7) (v : Int) : sumI (up h c v) 7 = sumI h 7 - h c + v := by
  rw [sum7, sum7]
  rcases (show c = 0 ∨ c = 1 ∨ c = 2 ∨ c = 3 ∨ c = 4 ∨ c = 5 ∨ c = 6 by omega) with rfl | rfl | rfl | rfl | rfl | rfl | rfl
  · show v + h 1 + h 2 + h 3 + h 4 + h 5 + h 6 = _; omega
  · show h 0 + v + h 2 + h 3 + h 4 + h 5 + h 6 = _; omega
  · show h 0 + h 1 + v + h 3 + h 4 + h 5 + h 6 = _; omega
  · show h 0 + h 1 + h 2 + v + h 4 + h 5 + h 6 = _; omega
  · show h 0 + h 1 + h 2 + h 3 + v + h 5 + h 6 = _; omega
  · show h 0 + h 1 + h 2 + h 3 + h 4 + v + h 6 = _; omega
  · show h 0 + h 1 + h 2 + h 3 + h 4 + h 5 + v = _; omega
-- what was laid, less what was taken, less what was spilt, lies
def defS (S : MS) : Int := ms_a S - ms_t S - ms_p S - sumI (ms_h S) 7
theorem def_put {c x : Int} {S : MS} (hc : 0 ≤ c ∧ c < 7) : defS (putS c x S) = defS S - 1 := by
  by_cases q : ms_h S c = 60
  · rw [putS_full q]
    show ms_a S - ms_t S - (ms_p S + 1) - sumI (ms_h S) 7 = ms_a S - ms_t S - ms_p S - sumI (ms_h S) 7 - 1
    omega
  · rw [putS_not q]
    show ms_a S - ms_t S - ms_p S - sumI (up (ms_h S) c (ms_h S c + 1)) 7 = ms_a S - ms_t S - ms_p S - sumI (ms_h S) 7 - 1
    rw [sum_up hc]
    omega
theorem def_putN {c n : Int} {S : MS} (hc : 0 ≤ c ∧ c < 7) (hn : 0 ≤ n) : defS (putN c n S) = defS S - n := by
  refine fo_ind (P := fun k T => defS T = defS S - k) hn (by omega) (fun k T _ _ hT => ?_)
  show defS (putS c (ms_w T) T) = _
  rw [def_put hc, hT]
  omega
theorem def_lay {c n : Int} {S : MS} (hc : 0 ≤ c ∧ c < 7) (hn : 0 ≤ n) : defS (layS c n S) = defS S := by
  have h := def_putN (S := S) hc hn
  have e : defS (layS c n S) = defS (putN c n S) + n := by
    show (ms_a (putN c n S) + n) - ms_t (putN c n S) - ms_p (putN c n S) - sumI (ms_h (putN c n S)) 7 = (ms_a (putN c n S) - ms_t (putN c n S) - ms_p (putN c n S) - sumI (ms_h (putN c n S)) 7) + n
    omega
  omega
theorem def_take {c n : Int} {S : MS} (hc : 0 ≤ c ∧ c < 7) : defS (takeS c n S) = defS S := by
  show ms_a S - (ms_t S + offS c n S) - ms_p S - sumI (up (ms_h S) c (ms_h S c - offS c n S)) 7 = ms_a S - ms_t S - ms_p S - sumI (ms_h S) 7
  rw [sum_up hc]
  omega
theorem def_steal {c to : Int} {S : MS} (hc : 0 ≤ c ∧ c < 7) (ht : -1 ≤ to ∧ to < 7) : defS (stealS c to S) = defS S := by
  unfold stealS
  split
  · exact def_take hc
  split
  · rfl
  · rw [def_put (by omega)]
    show ms_a S - ms_t S - ms_p S - sumI (up (ms_h S) c (ms_h S c - 1)) 7 - 1 = ms_a S - ms_t S - ms_p S - sumI (ms_h S) 7
    rw [sum_up hc]
    omega
theorem def_walk {C : CT} {P : PT} {num : Int} {S : MS} (h : okS S) (hC : okC C) (hP : okP P) (hn : 0 ≤ num ∧ num < 7) : defS (walkS C P num S) = defS S := by
  have h1 := okS_draw h
  have h2 := okS_draw h1
  unfold walkS
  split
  · have hr := ruleS_in hC.1 hn h1
    have hg := giftP_in hP
    exact def_lay (S := drawS S) hr (by omega)
  split
  · have hr := fromS_in (P := P) h2 hC hn
    exact def_steal (S := drawS (drawS S)) hr (hideP_in hP)
  · rfl
theorem def_go {C : CT} {ps : Int → PT} {np : Int} {S : MS} (h : okS S) (hC : okC C) (hp : ∀ i, 0 ≤ i ∧ i < np → okP (ps i)) (hn : 0 ≤ np ∧ np ≤ 6) : defS (goS C ps np S) = defS S := by
  have e : defS (allS C ps np (setW S (ms_w S + 1))) = defS S := by
    have := fo_ind (f := fun p T => parS C (ps p) p (pw (ps p)) T) (s := setW S (ms_w S + 1)) (n := np) (P := fun _ T => okS T ∧ defS T = defS S) hn.1 ⟨okS_W h, rfl⟩ (fun k T h0 h1 hT => by
      have hk := hp k ⟨h0, h1⟩
      have := fo_ind (f := fun _ T => walkS C (ps k) k T) (s := T) (n := pw (ps k)) (P := fun _ U => okS U ∧ defS U = defS S) (by have := hk.2.2.2.2.1; omega) hT (fun j U _ _ hU => by
        have h5 := okS_walk (num := k) hU.1 hC hk (by omega)
        exact ⟨h5.1, (def_walk hU.1 hC hk (by omega)).trans hU.2⟩)
      exact this)
    exact this.2
  unfold goS floodS
  split
  · unfold drownS
    rw [def_take (leastI_in _), e]
  · exact e
theorem def_weeks {C : CT} {ps : Int → PT} {np n : Int} {S : MS} (h : okS S) (hC : okC C) (hp : ∀ i, 0 ≤ i ∧ i < np → okP (ps i)) (hn : 0 ≤ np ∧ np ≤ 6) (h0 : 0 ≤ n) : defS (weeksS C ps np n S) = defS S := by
  have := fo_ind (f := fun _ T => goS C ps np T) (s := S) (n := n) (P := fun k T => okS T ∧ defS T = defS S) h0 ⟨h, rfl⟩ (fun k T _ _ hT => by
    have := okS_go hT.1 hC hp hn
    exact ⟨this.1, (def_go hT.1 hC hp hn).trans hT.2⟩)
  exact this.2
/-- the row of the parishes, of a custom, of all customs -/
def RWho (np : Int) (ps : Int → PT) (who : Int → Int) : Prop := ∀ p, 0 ≤ p → p < np → who (5 * p) = pk (ps p) ∧ who (5 * p + 1) = pn (ps p) ∧ who (5 * p + 2) = pw (ps p) ∧ who (5 * p + 3) = pi (ps p) ∧ who (5 * p + 4) = pz (ps p)
def RCu (C : CT) (cu : Int → Int) : Prop := cu 0 = cw C ∧ cu 1 = cz C ∧ cu 2 = ce C
def RAll (nc : Int) (cs : Int → CT) (al : Int → Int) : Prop := ∀ t, 0 ≤ t → t < nc → al (3 * t) = cw (cs t) ∧ al (3 * t + 1) = cz (cs t) ∧ al (3 * t + 2) = ce (cs t)
theorem andmax (x : Int) : 0 ≤ andI x 2147483647 ∧ andI x 2147483647 ≤ 2147483647 := by
  have h1 : Int32.ofInt x &&& Int32.ofInt 2147483647 = Int32.ofInt (x % 2147483648) := by
    apply Int32.toBitVec.inj
    rw [Int32.toBitVec_and]
    show BitVec.ofInt 32 x &&& BitVec.ofInt 32 2147483647 = BitVec.ofInt 32 (x % 2147483648)
    apply BitVec.eq_of_toNat_eq
    rw [BitVec.toNat_and, BitVec.toNat_ofInt, BitVec.toNat_ofInt, BitVec.toNat_ofInt]
    rw [show ((2147483647 : Int) % ((2 ^ 32 : Nat) : Int)).toNat = 2 ^ 31 - 1 from rfl, Nat.and_two_pow_sub_one_eq_mod]
    omega
  unfold andI
  rw [h1, Int32.toInt_ofInt_of_le (by omega) (by omega)]
  omega
-- a page of one custom
def ltC (r : Int) : Int := if r < 7 then 48 + r else if r = 7 then 109 else if r = 8 then 108 else if r = 9 then 112 else 110
theorem ltC_rule {r : Int} (h : okR r) : ruleI (ltC r) = r ∧ 1 ≤ ltC r ∧ ltC r ≤ 126 := by
  unfold okR at h
  rcases (show r = 0 ∨ r = 1 ∨ r = 2 ∨ r = 3 ∨ r = 4 ∨ r = 5 ∨ r = 6 ∨ r = 7 ∨ r = 8 ∨ r = 9 ∨ r = 10 by omega) with rfl | rfl | rfl | rfl | rfl | rfl | rfl | rfl | rfl | rfl | rfl <;> decide
theorem fault_all {pg : Int → Int} {pl : Int} (h0 : 0 ≤ pl) (h : ∀ i, 0 ≤ i → i < pl → fitP i (pg i)) : faultI pg pl = pl := by
  unfold faultI badI
  rcases fst_cases (P := fun i => ¬ fitP i (pg i)) (n := pl) h0 with q | q
  · rw [if_pos q.1]
  · exact absurd (h _ q.1 q.2.1) q.2.2.1
theorem page4 {pg : Int → Int} {a b : Int} (ha : okR a) (hb : okR b) (h0 : pg 0 = 119) (h1 : pg 1 = ltC a) (h2 : pg 2 = 115) (h3 : pg 3 = ltC b) : ∀ i, 0 ≤ i → i < 4 → fitP i (pg i) := by
  intro i i0 i1
  have ra := (ltC_rule ha).1
  have rb := (ltC_rule hb).1
  unfold okR at ha hb
  rcases (show i = 0 ∨ i = 1 ∨ i = 2 ∨ i = 3 by omega) with rfl | rfl | rfl | rfl
  · exact Or.inl ⟨rfl, h0⟩
  · exact Or.inr (Or.inl ⟨rfl, by rw [h1, ra]; omega⟩)
  · exact Or.inr (Or.inr (Or.inl ⟨rfl, h2⟩))
  · exact Or.inr (Or.inr (Or.inr (Or.inl ⟨rfl, by rw [h3, rb]; omega⟩)))
theorem page6 {pg : Int → Int} {a b e : Int} (ha : okR a) (hb : okR b) (he : 1 ≤ e ∧ e ≤ 9) (h0 : pg 0 = 119) (h1 : pg 1 = ltC a) (h2 : pg 2 = 115) (h3 : pg 3 = ltC b) (h4 : pg 4 = 102) (h5 : pg 5 = 48 + e) : ∀ i, 0 ≤ i → i < 6 → fitP i (pg i) := by
  intro i i0 i1
  by_cases q : i < 4
  · exact page4 ha hb h0 h1 h2 h3 i i0 q
  rcases (show i = 4 ∨ i = 5 by omega) with rfl | rfl
  · exact Or.inr (Or.inr (Or.inr (Or.inr (Or.inl ⟨rfl, h4⟩))))
  · exact Or.inr (Or.inr (Or.inr (Or.inr (Or.inr ⟨rfl, by omega⟩))))
theorem cus4 {pg : Int → Int} {a b : Int} (ha : okR a) (hb : okR b) (h0 : pg 0 = 119) (h1 : pg 1 = ltC a) (h2 : pg 2 = 115) (h3 : pg 3 = ltC b) : faultI pg 4 = 4 ∧ cusP pg 4 ∧ cusI pg 4 = (a, b, 0) := by
  have f := fault_all (pl := 4) (by decide) (page4 ha hb h0 h1 h2 h3)
  refine ⟨f, ⟨Or.inl rfl, f⟩, ?_⟩
  unfold cusI
  rw [h1, h3, (ltC_rule ha).1, (ltC_rule hb).1, if_neg (by decide)]
theorem cus6 {pg : Int → Int} {a b e : Int} (ha : okR a) (hb : okR b) (he : 1 ≤ e ∧ e ≤ 9) (h0 : pg 0 = 119) (h1 : pg 1 = ltC a) (h2 : pg 2 = 115) (h3 : pg 3 = ltC b) (h4 : pg 4 = 102) (h5 : pg 5 = 48 + e) : faultI pg 6 = 6 ∧ cusP pg 6 ∧ cusI pg 6 = (a, b, e) := by
  have f := fault_all (pl := 6) (by decide) (page6 ha hb he h0 h1 h2 h3 h4 h5)
  refine ⟨f, ⟨Or.inr rfl, f⟩, ?_⟩
  unfold cusI
  rw [h1, h3, h5, (ltC_rule ha).1, (ltC_rule hb).1, if_pos rfl, show 48 + e - 48 = e by omega]
theorem ln_one {c : Int} (hc : 1 ≤ c ∧ c ≤ 126) : lnI c = 1 := by
  have e0 : codeW c 0 = c := by show c % 256 = c; omega
  have e1 : ∀ i : Int, 1 ≤ i ∧ i < 8 → codeW c i = 0 := by
    intro i hi
    rcases (show i = 1 ∨ i = 2 ∨ i = 3 ∨ i = 4 ∨ i = 5 ∨ i = 6 ∨ i = 7 by omega) with rfl | rfl | rfl | rfl | rfl | rfl | rfl
    · show c / 256 % 256 = 0; omega
    · show c / 65536 % 256 = 0; omega
    · show c / 16777216 % 256 = 0; omega
    · show c / 4294967296 % 256 = 0; omega
    · show c / 1099511627776 % 256 = 0; omega
    · show c / 281474976710656 % 256 = 0; omega
    · show c / 72057594037927936 % 256 = 0; omega
  have := fo_ind (f := lnF c) (s := 0) (n := 8) (P := fun k m => (k = 0 ∧ m = 0) ∨ (0 < k ∧ m = 1)) (by decide) (Or.inl ⟨rfl, rfl⟩) (fun k m h0 h1 h => by
    refine Or.inr ⟨by omega, ?_⟩
    unfold lnF
    rcases h with ⟨a, b⟩ | ⟨a, b⟩
    · subst a b
      rw [if_neg (by decide), e0, if_neg (by omega), if_neg (by omega)]
      rfl
    · rw [b, if_neg (by decide), e1 k (by omega), if_neg (by omega), if_pos rfl])
  unfold lnI
  omega
theorem let_one {c pl : Int} {pg : Int → Int} (hc : 1 ≤ c ∧ c ≤ 126) (hp : 0 ≤ pl ∧ pl < 16) : rLetters c pl = pl + 1 ∧ sLetN c pl = pl + 1 ∧ sLetG c pl pg = up pg pl c := by
  have e := ln_one hc
  unfold rLetters sLetN sLetG
  rw [e, if_neg (by decide), if_neg (by omega), if_neg (by decide), if_neg (by omega), if_neg (by decide), if_neg (by omega)]
  refine ⟨rfl, rfl, ?_⟩
  show up pg (pl + 0) (codeW c 0) = up pg pl c
  rw [show pl + 0 = pl by omega, show codeW c 0 = c by show c % 256 = c; omega]
end
section
/-- the class's world, behind all its calls -/
def KWl (Y : Nat → ClassId) (k : Nat → Nat) (np nc pl : Int) (S U : MS) (pg : Int → Int) (cad pad : Int → Nat) : va_W := [((k 0), oC 8 [.ref (k 1), .ref (k 2), vI nc, .ref (k 3), vI np, .ref (k 4), .ref (k 7), vI 0, .ref (k 10), .ref (k 13), .ref (k 14)]), ((k 1), oC 3 [.ref (k 17), vI pl]), ((k 2), aQ (Y 2) 4 (orow nc cad)), ((k 3), aQ (Y 3) 6 (orow np pad)), ((k 4), oC 2 [.ref (k 5), .ref (k 6), vI (ms_w S), vI (ms_l S), vI (ms_s S), vI (ms_a S), vI (ms_t S), vI (ms_p S)]), ((k 5), aI (Y 0) 7 (ms_h S)), ((k 6), aI (Y 0) 420 (ms_m S)), ((k 7), oC 2 [.ref (k 8), .ref (k 9), vI (ms_w MS0), vI (ms_l MS0), vI (ms_s MS0), vI (ms_a MS0), vI (ms_t MS0), vI (ms_p MS0)]), ((k 8), aI (Y 0) 7 (ms_h MS0)), ((k 9), aI (Y 0) 420 (ms_m MS0)), ((k 10), oC 2 [.ref (k 11), .ref (k 12), vI (ms_w U), vI (ms_l U), vI (ms_s U), vI (ms_a U), vI (ms_t U), vI (ms_p U)]), ((k 11), aI (Y 0) 7 (ms_h U)), ((k 12), aI (Y 0) 420 (ms_m U)), ((k 13), aI (Y 0) 7 (fun _ => 0)), ((k 14), oC 7 [.ref (k 15), .ref (k 16)]), ((k 15), aI (Y 0) 271 (fun _ => 0)), ((k 16), aI (Y 0) 271 (fun _ => 0)), ((k 17), aI (Y 0) 16 pg)]
def KWs (Y : Nat → ClassId) (k : Nat → Nat) (np nc pl : Int) (S : MS) (pg : Int → Int) (cs : Int → CT) (ps : Int → PT) (W : va_W) : Prop := (okS S ∧ ms_w S ≤ 9999) ∧ (0 ≤ np ∧ np ≤ 6) ∧ (∀ i, 0 ≤ i ∧ i < np → okP (ps i)) ∧ (0 ≤ nc ∧ nc ≤ 4) ∧ (∀ i, 0 ≤ i ∧ i < nc → okC (cs i)) ∧ okPg pg pl ∧ ∃ (U : MS) (cad pad : Int → Nat), W = KWl Y k np nc pl S U pg cad pad ++ PLW np nc cad pad cs ps
theorem ok_sLay {c n : Int} {S : MS} (h : okS S ∧ ms_w S ≤ 9999) : okS (sLay c n S) ∧ ms_w (sLay c n S) ≤ 9999 := by
  unfold sLay
  split
  · exact h
  split
  · exact h
  · exact ⟨okS_lay h.1 (by omega) (by omega), by rw [layS_w h.1 (by omega) (by omega)]; exact h.2⟩
theorem ok_sTake {c n : Int} {S : MS} (h : okS S ∧ ms_w S ≤ 9999) : okS (sTake c n S) ∧ ms_w (sTake c n S) ≤ 9999 := by
  unfold sTake
  split
  · exact h
  split
  · exact h
  · exact ⟨okS_take h.1 (by omega) (by omega), h.2⟩
theorem ok_sSeed {v : Int} {S : MS} (h : okS S ∧ ms_w S ≤ 9999) (hv : v ≤ 2147483647) : okS (sSeed v S) ∧ ms_w (sSeed v S) ≤ 9999 := by
  unfold sSeed
  split
  · exact h
  · exact ⟨⟨h.1.1, h.1.2.1, h.1.2.2.1, by show 0 ≤ v ∧ v ≤ 2147483647; omega⟩, h.2⟩
theorem ok_sWeeks {cu n nc np : Int} {cs : Int → CT} {ps : Int → PT} {S : MS} (h : okS S ∧ ms_w S ≤ 9999) (hnp : 0 ≤ np ∧ np ≤ 6) (hps : ∀ i, 0 ≤ i ∧ i < np → okP (ps i)) (hcs : ∀ i, 0 ≤ i ∧ i < nc → okC (cs i)) : okS (sWeeks cu n nc cs np ps S) ∧ ms_w (sWeeks cu n nc cs np ps S) ≤ 9999 := by
  unfold sWeeks
  split
  · exact h
  split
  · exact h
  split
  · exact h
  · have := okS_weeks (C := cs cu) (n := n) h.1 (hcs cu (by omega)) hps hnp (by omega)
    exact ⟨this.1, by rw [this.2]; omega⟩
theorem okC_new {nc : Int} {cs : Int → CT} {C : CT} (hcs : ∀ i, 0 ≤ i ∧ i < nc → okC (cs i)) (hC : okC C) : ∀ i, 0 ≤ i ∧ i < nc + 1 → okC (up cs nc C i) := by
  intro i hi
  unfold up
  split
  · exact hC
  · exact hcs i (by omega)
theorem okP_new {np : Int} {ps : Int → PT} {P : PT} (hps : ∀ i, 0 ≤ i ∧ i < np → okP (ps i)) (hP : okP P) : ∀ i, 0 ≤ i ∧ i < np + 1 → okP (up ps np P i) := by
  intro i hi
  unfold up
  split
  · exact hP
  · exact hps i (by omega)

set_option maxHeartbeats 2000000 in
set_option maxRecDepth 100000 in
theorem tc_letters {X : jX} {cc : ByteArray} {nL : Nat} {own : String} {Ts : List Cond} {rm : Room} {D : va_G} {Y : Nat → ClassId} {RO : va_W} {kc sc : Nat} {lc : List (Nat × Value)} {pc index : Nat} {st : List Value} (C : jC X cc nL own Ts rm D Y RO) {k : Nat → Nat} {np nc pl : Int} {S : MS} {pg : Int → Int} {cs : Int → CT} {ps : Int → PT} {Rows W : va_W} (hW : KWs Y k np nc pl S pg cs ps W) {w : Int}  (g : GoodIn Ts (wsV own index RX9 yX9_letters wsX9_letters)) (hRm : 2 + 1 ≤ rm.frames ∧ 8 + (4 + 11) + 46 ≤ rm.locals) (hcat : Nat.ble ((st.map fun v => v.category).sum) 8 = true) (hroom : kc + 0 ≤ rm.cells ∧ sc + 0 ≤ rm.slots) (hd : decode cc pc = .ok (.invokevirtual index, 3)) (kk : ∀ W' : va_W, KWs Y k np nc (sLetN w pl) S (sLetG w pl pg) cs ps W' → jW X nL (kc + 0) (sc + 0) (Rows ++ W') lc (pc + 3) (vI (rLetters w pl) :: st)) : jW X nL kc sc (Rows ++ W) lc pc (vL w :: .ref (k 0) :: st) := by
  obtain ⟨⟨hS, hwk⟩, hnp, hps, hnc, hcs, hp, U, cad, pad, rfl⟩ := hW
  refine j_toF ?_
  refine j_st (ws' := [((k 0), oC 8 [.ref (k 1), .ref (k 2), vI nc, .ref (k 3), vI np, .ref (k 4), .ref (k 7), vI 0, .ref (k 10), .ref (k 13), .ref (k 14)]), ((k 1), oC 3 [.ref (k 17), vI pl]), ((k 2), aQ (Y 2) 4 (orow nc cad)), ((k 3), aQ (Y 3) 6 (orow np pad)), ((k 4), oC 2 [.ref (k 5), .ref (k 6), vI (ms_w S), vI (ms_l S), vI (ms_s S), vI (ms_a S), vI (ms_t S), vI (ms_p S)]), ((k 5), aI (Y 0) 7 (ms_h S)), ((k 6), aI (Y 0) 420 (ms_m S)), ((k 7), oC 2 [.ref (k 8), .ref (k 9), vI (ms_w MS0), vI (ms_l MS0), vI (ms_s MS0), vI (ms_a MS0), vI (ms_t MS0), vI (ms_p MS0)]), ((k 8), aI (Y 0) 7 (ms_h MS0)), ((k 9), aI (Y 0) 420 (ms_m MS0)), ((k 10), oC 2 [.ref (k 11), .ref (k 12), vI (ms_w U), vI (ms_l U), vI (ms_s U), vI (ms_a U), vI (ms_t U), vI (ms_p U)]), ((k 11), aI (Y 0) 7 (ms_h U)), ((k 12), aI (Y 0) 420 (ms_m U)), ((k 13), aI (Y 0) 7 (fun _ => 0)), ((k 14), oC 7 [.ref (k 15), .ref (k 16)]), ((k 15), aI (Y 0) 271 (fun _ => 0)), ((k 16), aI (Y 0) 271 (fun _ => 0)), ((k 17), aI (Y 0) 16 pg)] ++ (PLW np nc cad pad cs ps ++ Rows)) rfl rfl rfl ?_
  refine j_lawVi (pc := pc) (As := [vL w]) (na := 1) (st := st) C [1, 17] [0, 2, 3, 4, 5, 6, 7, 8, 9, 10, 11, 12, 13, 14, 15, 16] (L := [((k 0), oC 8 [.ref (k 1), .ref (k 2), vI nc, .ref (k 3), vI np, .ref (k 4), .ref (k 7), vI 0, .ref (k 10), .ref (k 13), .ref (k 14)]), ((k 1), oC 3 [.ref (k 17), vI pl]), ((k 2), aQ (Y 2) 4 (orow nc cad)), ((k 3), aQ (Y 3) 6 (orow np pad)), ((k 4), oC 2 [.ref (k 5), .ref (k 6), vI (ms_w S), vI (ms_l S), vI (ms_s S), vI (ms_a S), vI (ms_t S), vI (ms_p S)]), ((k 5), aI (Y 0) 7 (ms_h S)), ((k 6), aI (Y 0) 420 (ms_m S)), ((k 7), oC 2 [.ref (k 8), .ref (k 9), vI (ms_w MS0), vI (ms_l MS0), vI (ms_s MS0), vI (ms_a MS0), vI (ms_t MS0), vI (ms_p MS0)]), ((k 8), aI (Y 0) 7 (ms_h MS0)), ((k 9), aI (Y 0) 420 (ms_m MS0)), ((k 10), oC 2 [.ref (k 11), .ref (k 12), vI (ms_w U), vI (ms_l U), vI (ms_s U), vI (ms_a U), vI (ms_t U), vI (ms_p U)]), ((k 11), aI (Y 0) 7 (ms_h U)), ((k 12), aI (Y 0) 420 (ms_m U)), ((k 13), aI (Y 0) 7 (fun _ => 0)), ((k 14), oC 7 [.ref (k 15), .ref (k 16)]), ((k 15), aI (Y 0) 271 (fun _ => 0)), ((k 16), aI (Y 0) 271 (fun _ => 0)), ((k 17), aI (Y 0) 16 pg)]) (PL := PLW np nc cad pad cs ps ++ Rows) (wc := [((k 1), oC 3 [.ref (k 17), vI pl]), ((k 17), aI (Y 0) 16 pg)]) (wr := [((k 0), oC 8 [.ref (k 1), .ref (k 2), vI nc, .ref (k 3), vI np, .ref (k 4), .ref (k 7), vI 0, .ref (k 10), .ref (k 13), .ref (k 14)]), ((k 2), aQ (Y 2) 4 (orow nc cad)), ((k 3), aQ (Y 3) 6 (orow np pad)), ((k 4), oC 2 [.ref (k 5), .ref (k 6), vI (ms_w S), vI (ms_l S), vI (ms_s S), vI (ms_a S), vI (ms_t S), vI (ms_p S)]), ((k 5), aI (Y 0) 7 (ms_h S)), ((k 6), aI (Y 0) 420 (ms_m S)), ((k 7), oC 2 [.ref (k 8), .ref (k 9), vI (ms_w MS0), vI (ms_l MS0), vI (ms_s MS0), vI (ms_a MS0), vI (ms_t MS0), vI (ms_p MS0)]), ((k 8), aI (Y 0) 7 (ms_h MS0)), ((k 9), aI (Y 0) 420 (ms_m MS0)), ((k 10), oC 2 [.ref (k 11), .ref (k 12), vI (ms_w U), vI (ms_l U), vI (ms_s U), vI (ms_a U), vI (ms_t U), vI (ms_p U)]), ((k 11), aI (Y 0) 7 (ms_h U)), ((k 12), aI (Y 0) 420 (ms_m U)), ((k 13), aI (Y 0) 7 (fun _ => 0)), ((k 14), oC 7 [.ref (k 15), .ref (k 16)]), ((k 15), aI (Y 0) 271 (fun _ => 0)), ((k 16), aI (Y 0) 271 (fun _ => 0))]) (fun l => k_letters l D Y _ k nc np 0 pg pl w (List.mem_append_left _ (List.mem_append_left _ (List.mem_of_getElem? (i := 0) rfl))) (by first | assumption | omega)) rfl rfl rfl rfl (by decide) rfl (Or.inr (List.mem_append_left _ (List.mem_append_left _ (List.mem_of_getElem? (i := 0) rfl)))) rfl g ⟨rfl, by decide +kernel⟩ hRm rfl rfl (Nat.le_of_ble_eq_true hcat) hroom hd (fun e w1 h => ?_)
  obtain ⟨rfl, rfl⟩ := h
  refine j_permT (L' := [((k 0), oC 8 [.ref (k 1), .ref (k 2), vI nc, .ref (k 3), vI np, .ref (k 4), .ref (k 7), vI 0, .ref (k 10), .ref (k 13), .ref (k 14)]), ((k 1), oC 3 [.ref (k 17), vI (sLetN w pl)]), ((k 2), aQ (Y 2) 4 (orow nc cad)), ((k 3), aQ (Y 3) 6 (orow np pad)), ((k 4), oC 2 [.ref (k 5), .ref (k 6), vI (ms_w S), vI (ms_l S), vI (ms_s S), vI (ms_a S), vI (ms_t S), vI (ms_p S)]), ((k 5), aI (Y 0) 7 (ms_h S)), ((k 6), aI (Y 0) 420 (ms_m S)), ((k 7), oC 2 [.ref (k 8), .ref (k 9), vI (ms_w MS0), vI (ms_l MS0), vI (ms_s MS0), vI (ms_a MS0), vI (ms_t MS0), vI (ms_p MS0)]), ((k 8), aI (Y 0) 7 (ms_h MS0)), ((k 9), aI (Y 0) 420 (ms_m MS0)), ((k 10), oC 2 [.ref (k 11), .ref (k 12), vI (ms_w U), vI (ms_l U), vI (ms_s U), vI (ms_a U), vI (ms_t U), vI (ms_p U)]), ((k 11), aI (Y 0) 7 (ms_h U)), ((k 12), aI (Y 0) 420 (ms_m U)), ((k 13), aI (Y 0) 7 (fun _ => 0)), ((k 14), oC 7 [.ref (k 15), .ref (k 16)]), ((k 15), aI (Y 0) 271 (fun _ => 0)), ((k 16), aI (Y 0) 271 (fun _ => 0)), ((k 17), aI (Y 0) 16 (sLetG w pl pg))]) [0, 16, 1, 2, 3, 4, 5, 6, 7, 8, 9, 10, 11, 12, 13, 14, 15, 17] rfl rfl ?_
  refine j_ofF (A := [((k 0), oC 8 [.ref (k 1), .ref (k 2), vI nc, .ref (k 3), vI np, .ref (k 4), .ref (k 7), vI 0, .ref (k 10), .ref (k 13), .ref (k 14)]), ((k 1), oC 3 [.ref (k 17), vI (sLetN w pl)]), ((k 2), aQ (Y 2) 4 (orow nc cad)), ((k 3), aQ (Y 3) 6 (orow np pad)), ((k 4), oC 2 [.ref (k 5), .ref (k 6), vI (ms_w S), vI (ms_l S), vI (ms_s S), vI (ms_a S), vI (ms_t S), vI (ms_p S)]), ((k 5), aI (Y 0) 7 (ms_h S)), ((k 6), aI (Y 0) 420 (ms_m S)), ((k 7), oC 2 [.ref (k 8), .ref (k 9), vI (ms_w MS0), vI (ms_l MS0), vI (ms_s MS0), vI (ms_a MS0), vI (ms_t MS0), vI (ms_p MS0)]), ((k 8), aI (Y 0) 7 (ms_h MS0)), ((k 9), aI (Y 0) 420 (ms_m MS0)), ((k 10), oC 2 [.ref (k 11), .ref (k 12), vI (ms_w U), vI (ms_l U), vI (ms_s U), vI (ms_a U), vI (ms_t U), vI (ms_p U)]), ((k 11), aI (Y 0) 7 (ms_h U)), ((k 12), aI (Y 0) 420 (ms_m U)), ((k 13), aI (Y 0) 7 (fun _ => 0)), ((k 14), oC 7 [.ref (k 15), .ref (k 16)]), ((k 15), aI (Y 0) 271 (fun _ => 0)), ((k 16), aI (Y 0) 271 (fun _ => 0)), ((k 17), aI (Y 0) 16 (sLetG w pl pg))]) (P := PLW np nc cad pad cs ps) ?_
  exact kk _ ⟨⟨hS, hwk⟩, hnp, hps, hnc, hcs, (okPg_let hp), U, cad, pad, rfl⟩

set_option maxHeartbeats 2000000 in
set_option maxRecDepth 100000 in
theorem tc_fault {X : jX} {cc : ByteArray} {nL : Nat} {own : String} {Ts : List Cond} {rm : Room} {D : va_G} {Y : Nat → ClassId} {RO : va_W} {kc sc : Nat} {lc : List (Nat × Value)} {pc index : Nat} {st : List Value} (C : jC X cc nL own Ts rm D Y RO) {k : Nat → Nat} {np nc pl : Int} {S : MS} {pg : Int → Int} {cs : Int → CT} {ps : Int → PT} {Rows W : va_W} (hW : KWs Y k np nc pl S pg cs ps W)   (g : GoodIn Ts (wsV own index RX9 yX9_fault wsX9_fault)) (hRm : 3 + 1 ≤ rm.frames ∧ 8 + (1 + 11) + 62 ≤ rm.locals) (hcat : Nat.ble ((st.map fun v => v.category).sum) 8 = true) (hroom : kc + 0 ≤ rm.cells ∧ sc + 0 ≤ rm.slots) (hd : decode cc pc = .ok (.invokevirtual index, 3)) (kk : ∀ W' : va_W, KWs Y k np nc pl S pg cs ps W' → jW X nL (kc + 0) (sc + 0) (Rows ++ W') lc (pc + 3) (vI (faultI pg pl) :: st)) : jW X nL kc sc (Rows ++ W) lc pc (.ref (k 0) :: st) := by
  obtain ⟨⟨hS, hwk⟩, hnp, hps, hnc, hcs, hp, U, cad, pad, rfl⟩ := hW
  refine j_toF ?_
  refine j_st (ws' := [((k 0), oC 8 [.ref (k 1), .ref (k 2), vI nc, .ref (k 3), vI np, .ref (k 4), .ref (k 7), vI 0, .ref (k 10), .ref (k 13), .ref (k 14)]), ((k 1), oC 3 [.ref (k 17), vI pl]), ((k 2), aQ (Y 2) 4 (orow nc cad)), ((k 3), aQ (Y 3) 6 (orow np pad)), ((k 4), oC 2 [.ref (k 5), .ref (k 6), vI (ms_w S), vI (ms_l S), vI (ms_s S), vI (ms_a S), vI (ms_t S), vI (ms_p S)]), ((k 5), aI (Y 0) 7 (ms_h S)), ((k 6), aI (Y 0) 420 (ms_m S)), ((k 7), oC 2 [.ref (k 8), .ref (k 9), vI (ms_w MS0), vI (ms_l MS0), vI (ms_s MS0), vI (ms_a MS0), vI (ms_t MS0), vI (ms_p MS0)]), ((k 8), aI (Y 0) 7 (ms_h MS0)), ((k 9), aI (Y 0) 420 (ms_m MS0)), ((k 10), oC 2 [.ref (k 11), .ref (k 12), vI (ms_w U), vI (ms_l U), vI (ms_s U), vI (ms_a U), vI (ms_t U), vI (ms_p U)]), ((k 11), aI (Y 0) 7 (ms_h U)), ((k 12), aI (Y 0) 420 (ms_m U)), ((k 13), aI (Y 0) 7 (fun _ => 0)), ((k 14), oC 7 [.ref (k 15), .ref (k 16)]), ((k 15), aI (Y 0) 271 (fun _ => 0)), ((k 16), aI (Y 0) 271 (fun _ => 0)), ((k 17), aI (Y 0) 16 pg)] ++ (PLW np nc cad pad cs ps ++ Rows)) rfl rfl rfl ?_
  refine j_lawVi (pc := pc) (As := []) (na := 0) (st := st) C [] [0, 1, 2, 3, 4, 5, 6, 7, 8, 9, 10, 11, 12, 13, 14, 15, 16, 17] (L := [((k 0), oC 8 [.ref (k 1), .ref (k 2), vI nc, .ref (k 3), vI np, .ref (k 4), .ref (k 7), vI 0, .ref (k 10), .ref (k 13), .ref (k 14)]), ((k 1), oC 3 [.ref (k 17), vI pl]), ((k 2), aQ (Y 2) 4 (orow nc cad)), ((k 3), aQ (Y 3) 6 (orow np pad)), ((k 4), oC 2 [.ref (k 5), .ref (k 6), vI (ms_w S), vI (ms_l S), vI (ms_s S), vI (ms_a S), vI (ms_t S), vI (ms_p S)]), ((k 5), aI (Y 0) 7 (ms_h S)), ((k 6), aI (Y 0) 420 (ms_m S)), ((k 7), oC 2 [.ref (k 8), .ref (k 9), vI (ms_w MS0), vI (ms_l MS0), vI (ms_s MS0), vI (ms_a MS0), vI (ms_t MS0), vI (ms_p MS0)]), ((k 8), aI (Y 0) 7 (ms_h MS0)), ((k 9), aI (Y 0) 420 (ms_m MS0)), ((k 10), oC 2 [.ref (k 11), .ref (k 12), vI (ms_w U), vI (ms_l U), vI (ms_s U), vI (ms_a U), vI (ms_t U), vI (ms_p U)]), ((k 11), aI (Y 0) 7 (ms_h U)), ((k 12), aI (Y 0) 420 (ms_m U)), ((k 13), aI (Y 0) 7 (fun _ => 0)), ((k 14), oC 7 [.ref (k 15), .ref (k 16)]), ((k 15), aI (Y 0) 271 (fun _ => 0)), ((k 16), aI (Y 0) 271 (fun _ => 0)), ((k 17), aI (Y 0) 16 pg)]) (PL := PLW np nc cad pad cs ps ++ Rows) (wc := []) (wr := [((k 0), oC 8 [.ref (k 1), .ref (k 2), vI nc, .ref (k 3), vI np, .ref (k 4), .ref (k 7), vI 0, .ref (k 10), .ref (k 13), .ref (k 14)]), ((k 1), oC 3 [.ref (k 17), vI pl]), ((k 2), aQ (Y 2) 4 (orow nc cad)), ((k 3), aQ (Y 3) 6 (orow np pad)), ((k 4), oC 2 [.ref (k 5), .ref (k 6), vI (ms_w S), vI (ms_l S), vI (ms_s S), vI (ms_a S), vI (ms_t S), vI (ms_p S)]), ((k 5), aI (Y 0) 7 (ms_h S)), ((k 6), aI (Y 0) 420 (ms_m S)), ((k 7), oC 2 [.ref (k 8), .ref (k 9), vI (ms_w MS0), vI (ms_l MS0), vI (ms_s MS0), vI (ms_a MS0), vI (ms_t MS0), vI (ms_p MS0)]), ((k 8), aI (Y 0) 7 (ms_h MS0)), ((k 9), aI (Y 0) 420 (ms_m MS0)), ((k 10), oC 2 [.ref (k 11), .ref (k 12), vI (ms_w U), vI (ms_l U), vI (ms_s U), vI (ms_a U), vI (ms_t U), vI (ms_p U)]), ((k 11), aI (Y 0) 7 (ms_h U)), ((k 12), aI (Y 0) 420 (ms_m U)), ((k 13), aI (Y 0) 7 (fun _ => 0)), ((k 14), oC 7 [.ref (k 15), .ref (k 16)]), ((k 15), aI (Y 0) 271 (fun _ => 0)), ((k 16), aI (Y 0) 271 (fun _ => 0)), ((k 17), aI (Y 0) 16 pg)]) (fun l => k_fault l D Y _ k nc np 0 pg pl (List.mem_append_left _ (List.mem_append_left _ (List.mem_of_getElem? (i := 0) rfl))) (List.mem_append_left _ (List.mem_append_left _ (List.mem_of_getElem? (i := 1) rfl))) (List.mem_append_left _ (List.mem_append_left _ (List.mem_of_getElem? (i := 17) rfl))) (by first | assumption | omega)) rfl rfl rfl rfl (by decide) rfl (Or.inr (List.mem_append_left _ (List.mem_append_left _ (List.mem_of_getElem? (i := 0) rfl)))) rfl g ⟨rfl, by decide +kernel⟩ hRm rfl rfl (Nat.le_of_ble_eq_true hcat) hroom hd (fun e w1 h => ?_)
  obtain ⟨rfl, rfl⟩ := h
  refine j_permT (L' := [((k 0), oC 8 [.ref (k 1), .ref (k 2), vI nc, .ref (k 3), vI np, .ref (k 4), .ref (k 7), vI 0, .ref (k 10), .ref (k 13), .ref (k 14)]), ((k 1), oC 3 [.ref (k 17), vI pl]), ((k 2), aQ (Y 2) 4 (orow nc cad)), ((k 3), aQ (Y 3) 6 (orow np pad)), ((k 4), oC 2 [.ref (k 5), .ref (k 6), vI (ms_w S), vI (ms_l S), vI (ms_s S), vI (ms_a S), vI (ms_t S), vI (ms_p S)]), ((k 5), aI (Y 0) 7 (ms_h S)), ((k 6), aI (Y 0) 420 (ms_m S)), ((k 7), oC 2 [.ref (k 8), .ref (k 9), vI (ms_w MS0), vI (ms_l MS0), vI (ms_s MS0), vI (ms_a MS0), vI (ms_t MS0), vI (ms_p MS0)]), ((k 8), aI (Y 0) 7 (ms_h MS0)), ((k 9), aI (Y 0) 420 (ms_m MS0)), ((k 10), oC 2 [.ref (k 11), .ref (k 12), vI (ms_w U), vI (ms_l U), vI (ms_s U), vI (ms_a U), vI (ms_t U), vI (ms_p U)]), ((k 11), aI (Y 0) 7 (ms_h U)), ((k 12), aI (Y 0) 420 (ms_m U)), ((k 13), aI (Y 0) 7 (fun _ => 0)), ((k 14), oC 7 [.ref (k 15), .ref (k 16)]), ((k 15), aI (Y 0) 271 (fun _ => 0)), ((k 16), aI (Y 0) 271 (fun _ => 0)), ((k 17), aI (Y 0) 16 pg)]) [0, 1, 2, 3, 4, 5, 6, 7, 8, 9, 10, 11, 12, 13, 14, 15, 16, 17] rfl rfl ?_
  refine j_ofF (A := [((k 0), oC 8 [.ref (k 1), .ref (k 2), vI nc, .ref (k 3), vI np, .ref (k 4), .ref (k 7), vI 0, .ref (k 10), .ref (k 13), .ref (k 14)]), ((k 1), oC 3 [.ref (k 17), vI pl]), ((k 2), aQ (Y 2) 4 (orow nc cad)), ((k 3), aQ (Y 3) 6 (orow np pad)), ((k 4), oC 2 [.ref (k 5), .ref (k 6), vI (ms_w S), vI (ms_l S), vI (ms_s S), vI (ms_a S), vI (ms_t S), vI (ms_p S)]), ((k 5), aI (Y 0) 7 (ms_h S)), ((k 6), aI (Y 0) 420 (ms_m S)), ((k 7), oC 2 [.ref (k 8), .ref (k 9), vI (ms_w MS0), vI (ms_l MS0), vI (ms_s MS0), vI (ms_a MS0), vI (ms_t MS0), vI (ms_p MS0)]), ((k 8), aI (Y 0) 7 (ms_h MS0)), ((k 9), aI (Y 0) 420 (ms_m MS0)), ((k 10), oC 2 [.ref (k 11), .ref (k 12), vI (ms_w U), vI (ms_l U), vI (ms_s U), vI (ms_a U), vI (ms_t U), vI (ms_p U)]), ((k 11), aI (Y 0) 7 (ms_h U)), ((k 12), aI (Y 0) 420 (ms_m U)), ((k 13), aI (Y 0) 7 (fun _ => 0)), ((k 14), oC 7 [.ref (k 15), .ref (k 16)]), ((k 15), aI (Y 0) 271 (fun _ => 0)), ((k 16), aI (Y 0) 271 (fun _ => 0)), ((k 17), aI (Y 0) 16 pg)]) (P := PLW np nc cad pad cs ps) ?_
  exact kk _ ⟨⟨hS, hwk⟩, hnp, hps, hnc, hcs, hp, U, cad, pad, rfl⟩

set_option maxHeartbeats 2000000 in
set_option maxRecDepth 100000 in
theorem tc_count {X : jX} {cc : ByteArray} {nL : Nat} {own : String} {Ts : List Cond} {rm : Room} {D : va_G} {Y : Nat → ClassId} {RO : va_W} {kc sc : Nat} {lc : List (Nat × Value)} {pc index : Nat} {st : List Value} (C : jC X cc nL own Ts rm D Y RO) {k : Nat → Nat} {np nc pl : Int} {S : MS} {pg : Int → Int} {cs : Int → CT} {ps : Int → PT} {Rows W : va_W} (hW : KWs Y k np nc pl S pg cs ps W) {w : Int} (hrw : -2147483648 ≤ w ∧ w ≤ 2147483647) (g : GoodIn Ts (wsV own index RX9 yX9_count wsX9_count)) (hRm : 1 + 1 ≤ rm.frames ∧ 8 + (2 + 11) + 22 ≤ rm.locals) (hcat : Nat.ble ((st.map fun v => v.category).sum) 8 = true) (hroom : kc + 0 ≤ rm.cells ∧ sc + 0 ≤ rm.slots) (hd : decode cc pc = .ok (.invokevirtual index, 3)) (kk : ∀ W' : va_W, KWs Y k np nc pl S pg cs ps W' → jW X nL (kc + 0) (sc + 0) (Rows ++ W') lc (pc + 3) (vI (rCount w np nc pl S) :: st)) : jW X nL kc sc (Rows ++ W) lc pc (vI w :: .ref (k 0) :: st) := by
  obtain ⟨⟨hS, hwk⟩, hnp, hps, hnc, hcs, hp, U, cad, pad, rfl⟩ := hW
  refine j_toF ?_
  refine j_st (ws' := [((k 0), oC 8 [.ref (k 1), .ref (k 2), vI nc, .ref (k 3), vI np, .ref (k 4), .ref (k 7), vI 0, .ref (k 10), .ref (k 13), .ref (k 14)]), ((k 1), oC 3 [.ref (k 17), vI pl]), ((k 2), aQ (Y 2) 4 (orow nc cad)), ((k 3), aQ (Y 3) 6 (orow np pad)), ((k 4), oC 2 [.ref (k 5), .ref (k 6), vI (ms_w S), vI (ms_l S), vI (ms_s S), vI (ms_a S), vI (ms_t S), vI (ms_p S)]), ((k 5), aI (Y 0) 7 (ms_h S)), ((k 6), aI (Y 0) 420 (ms_m S)), ((k 7), oC 2 [.ref (k 8), .ref (k 9), vI (ms_w MS0), vI (ms_l MS0), vI (ms_s MS0), vI (ms_a MS0), vI (ms_t MS0), vI (ms_p MS0)]), ((k 8), aI (Y 0) 7 (ms_h MS0)), ((k 9), aI (Y 0) 420 (ms_m MS0)), ((k 10), oC 2 [.ref (k 11), .ref (k 12), vI (ms_w U), vI (ms_l U), vI (ms_s U), vI (ms_a U), vI (ms_t U), vI (ms_p U)]), ((k 11), aI (Y 0) 7 (ms_h U)), ((k 12), aI (Y 0) 420 (ms_m U)), ((k 13), aI (Y 0) 7 (fun _ => 0)), ((k 14), oC 7 [.ref (k 15), .ref (k 16)]), ((k 15), aI (Y 0) 271 (fun _ => 0)), ((k 16), aI (Y 0) 271 (fun _ => 0)), ((k 17), aI (Y 0) 16 pg)] ++ (PLW np nc cad pad cs ps ++ Rows)) rfl rfl rfl ?_
  refine j_lawVi (pc := pc) (As := [vI w]) (na := 1) (st := st) C [] [0, 1, 2, 3, 4, 5, 6, 7, 8, 9, 10, 11, 12, 13, 14, 15, 16, 17] (L := [((k 0), oC 8 [.ref (k 1), .ref (k 2), vI nc, .ref (k 3), vI np, .ref (k 4), .ref (k 7), vI 0, .ref (k 10), .ref (k 13), .ref (k 14)]), ((k 1), oC 3 [.ref (k 17), vI pl]), ((k 2), aQ (Y 2) 4 (orow nc cad)), ((k 3), aQ (Y 3) 6 (orow np pad)), ((k 4), oC 2 [.ref (k 5), .ref (k 6), vI (ms_w S), vI (ms_l S), vI (ms_s S), vI (ms_a S), vI (ms_t S), vI (ms_p S)]), ((k 5), aI (Y 0) 7 (ms_h S)), ((k 6), aI (Y 0) 420 (ms_m S)), ((k 7), oC 2 [.ref (k 8), .ref (k 9), vI (ms_w MS0), vI (ms_l MS0), vI (ms_s MS0), vI (ms_a MS0), vI (ms_t MS0), vI (ms_p MS0)]), ((k 8), aI (Y 0) 7 (ms_h MS0)), ((k 9), aI (Y 0) 420 (ms_m MS0)), ((k 10), oC 2 [.ref (k 11), .ref (k 12), vI (ms_w U), vI (ms_l U), vI (ms_s U), vI (ms_a U), vI (ms_t U), vI (ms_p U)]), ((k 11), aI (Y 0) 7 (ms_h U)), ((k 12), aI (Y 0) 420 (ms_m U)), ((k 13), aI (Y 0) 7 (fun _ => 0)), ((k 14), oC 7 [.ref (k 15), .ref (k 16)]), ((k 15), aI (Y 0) 271 (fun _ => 0)), ((k 16), aI (Y 0) 271 (fun _ => 0)), ((k 17), aI (Y 0) 16 pg)]) (PL := PLW np nc cad pad cs ps ++ Rows) (wc := []) (wr := [((k 0), oC 8 [.ref (k 1), .ref (k 2), vI nc, .ref (k 3), vI np, .ref (k 4), .ref (k 7), vI 0, .ref (k 10), .ref (k 13), .ref (k 14)]), ((k 1), oC 3 [.ref (k 17), vI pl]), ((k 2), aQ (Y 2) 4 (orow nc cad)), ((k 3), aQ (Y 3) 6 (orow np pad)), ((k 4), oC 2 [.ref (k 5), .ref (k 6), vI (ms_w S), vI (ms_l S), vI (ms_s S), vI (ms_a S), vI (ms_t S), vI (ms_p S)]), ((k 5), aI (Y 0) 7 (ms_h S)), ((k 6), aI (Y 0) 420 (ms_m S)), ((k 7), oC 2 [.ref (k 8), .ref (k 9), vI (ms_w MS0), vI (ms_l MS0), vI (ms_s MS0), vI (ms_a MS0), vI (ms_t MS0), vI (ms_p MS0)]), ((k 8), aI (Y 0) 7 (ms_h MS0)), ((k 9), aI (Y 0) 420 (ms_m MS0)), ((k 10), oC 2 [.ref (k 11), .ref (k 12), vI (ms_w U), vI (ms_l U), vI (ms_s U), vI (ms_a U), vI (ms_t U), vI (ms_p U)]), ((k 11), aI (Y 0) 7 (ms_h U)), ((k 12), aI (Y 0) 420 (ms_m U)), ((k 13), aI (Y 0) 7 (fun _ => 0)), ((k 14), oC 7 [.ref (k 15), .ref (k 16)]), ((k 15), aI (Y 0) 271 (fun _ => 0)), ((k 16), aI (Y 0) 271 (fun _ => 0)), ((k 17), aI (Y 0) 16 pg)]) (fun l => k_count l D Y _ k nc np 0 S pl w (List.mem_append_left _ (List.mem_append_left _ (List.mem_of_getElem? (i := 0) rfl))) (List.mem_append_left _ (List.mem_append_left _ (List.mem_of_getElem? (i := 4) rfl))) (List.mem_append_left _ (List.mem_append_left _ (List.mem_of_getElem? (i := 5) rfl))) (List.mem_append_left _ (List.mem_append_left _ (List.mem_of_getElem? (i := 6) rfl))) (List.mem_append_left _ (List.mem_append_left _ (List.mem_of_getElem? (i := 1) rfl))) (by first | assumption | omega)) rfl rfl rfl rfl (by decide) rfl (Or.inr (List.mem_append_left _ (List.mem_append_left _ (List.mem_of_getElem? (i := 0) rfl)))) rfl g ⟨rfl, by decide +kernel⟩ hRm rfl rfl (Nat.le_of_ble_eq_true hcat) hroom hd (fun e w1 h => ?_)
  obtain ⟨rfl, rfl⟩ := h
  refine j_permT (L' := [((k 0), oC 8 [.ref (k 1), .ref (k 2), vI nc, .ref (k 3), vI np, .ref (k 4), .ref (k 7), vI 0, .ref (k 10), .ref (k 13), .ref (k 14)]), ((k 1), oC 3 [.ref (k 17), vI pl]), ((k 2), aQ (Y 2) 4 (orow nc cad)), ((k 3), aQ (Y 3) 6 (orow np pad)), ((k 4), oC 2 [.ref (k 5), .ref (k 6), vI (ms_w S), vI (ms_l S), vI (ms_s S), vI (ms_a S), vI (ms_t S), vI (ms_p S)]), ((k 5), aI (Y 0) 7 (ms_h S)), ((k 6), aI (Y 0) 420 (ms_m S)), ((k 7), oC 2 [.ref (k 8), .ref (k 9), vI (ms_w MS0), vI (ms_l MS0), vI (ms_s MS0), vI (ms_a MS0), vI (ms_t MS0), vI (ms_p MS0)]), ((k 8), aI (Y 0) 7 (ms_h MS0)), ((k 9), aI (Y 0) 420 (ms_m MS0)), ((k 10), oC 2 [.ref (k 11), .ref (k 12), vI (ms_w U), vI (ms_l U), vI (ms_s U), vI (ms_a U), vI (ms_t U), vI (ms_p U)]), ((k 11), aI (Y 0) 7 (ms_h U)), ((k 12), aI (Y 0) 420 (ms_m U)), ((k 13), aI (Y 0) 7 (fun _ => 0)), ((k 14), oC 7 [.ref (k 15), .ref (k 16)]), ((k 15), aI (Y 0) 271 (fun _ => 0)), ((k 16), aI (Y 0) 271 (fun _ => 0)), ((k 17), aI (Y 0) 16 pg)]) [0, 1, 2, 3, 4, 5, 6, 7, 8, 9, 10, 11, 12, 13, 14, 15, 16, 17] rfl rfl ?_
  refine j_ofF (A := [((k 0), oC 8 [.ref (k 1), .ref (k 2), vI nc, .ref (k 3), vI np, .ref (k 4), .ref (k 7), vI 0, .ref (k 10), .ref (k 13), .ref (k 14)]), ((k 1), oC 3 [.ref (k 17), vI pl]), ((k 2), aQ (Y 2) 4 (orow nc cad)), ((k 3), aQ (Y 3) 6 (orow np pad)), ((k 4), oC 2 [.ref (k 5), .ref (k 6), vI (ms_w S), vI (ms_l S), vI (ms_s S), vI (ms_a S), vI (ms_t S), vI (ms_p S)]), ((k 5), aI (Y 0) 7 (ms_h S)), ((k 6), aI (Y 0) 420 (ms_m S)), ((k 7), oC 2 [.ref (k 8), .ref (k 9), vI (ms_w MS0), vI (ms_l MS0), vI (ms_s MS0), vI (ms_a MS0), vI (ms_t MS0), vI (ms_p MS0)]), ((k 8), aI (Y 0) 7 (ms_h MS0)), ((k 9), aI (Y 0) 420 (ms_m MS0)), ((k 10), oC 2 [.ref (k 11), .ref (k 12), vI (ms_w U), vI (ms_l U), vI (ms_s U), vI (ms_a U), vI (ms_t U), vI (ms_p U)]), ((k 11), aI (Y 0) 7 (ms_h U)), ((k 12), aI (Y 0) 420 (ms_m U)), ((k 13), aI (Y 0) 7 (fun _ => 0)), ((k 14), oC 7 [.ref (k 15), .ref (k 16)]), ((k 15), aI (Y 0) 271 (fun _ => 0)), ((k 16), aI (Y 0) 271 (fun _ => 0)), ((k 17), aI (Y 0) 16 pg)]) (P := PLW np nc cad pad cs ps) ?_
  exact kk _ ⟨⟨hS, hwk⟩, hnp, hps, hnc, hcs, hp, U, cad, pad, rfl⟩

set_option maxHeartbeats 2000000 in
set_option maxRecDepth 100000 in
theorem tc_customTold {X : jX} {cc : ByteArray} {nL : Nat} {own : String} {Ts : List Cond} {rm : Room} {D : va_G} {Y : Nat → ClassId} {RO : va_W} {kc sc : Nat} {lc : List (Nat × Value)} {pc index : Nat} {st : List Value} (C : jC X cc nL own Ts rm D Y RO) {k : Nat → Nat} {np nc pl : Int} {S : MS} {pg : Int → Int} {cs : Int → CT} {ps : Int → PT} {Rows W : va_W} (hW : KWs Y k np nc pl S pg cs ps W) {cu : Int} {w : Int} (hrcu : -2147483648 ≤ cu ∧ cu ≤ 2147483647) (hrw : -2147483648 ≤ w ∧ w ≤ 2147483647) (g : GoodIn Ts (wsV own index RX9 yX9_customTold wsX9_customTold)) (hRm : 1 + 1 ≤ rm.frames ∧ 8 + (4 + 11) + 21 ≤ rm.locals) (hcat : Nat.ble ((st.map fun v => v.category).sum) 8 = true) (hroom : kc + 0 ≤ rm.cells ∧ sc + 0 ≤ rm.slots) (hd : decode cc pc = .ok (.invokevirtual index, 3)) (kk : ∀ W' : va_W, KWs Y k np nc pl S pg cs ps W' → jW X nL (kc + 0) (sc + 0) (Rows ++ W') lc (pc + 3) (vI (rCusTold cu w nc cs) :: st)) : jW X nL kc sc (Rows ++ W) lc pc (vI w :: vI cu :: .ref (k 0) :: st) := by
  obtain ⟨⟨hS, hwk⟩, hnp, hps, hnc, hcs, hp, U, cad, pad, rfl⟩ := hW
  refine j_toF ?_
  refine j_st (ws' := [((k 0), oC 8 [.ref (k 1), .ref (k 2), vI nc, .ref (k 3), vI np, .ref (k 4), .ref (k 7), vI 0, .ref (k 10), .ref (k 13), .ref (k 14)]), ((k 1), oC 3 [.ref (k 17), vI pl]), ((k 2), aQ (Y 2) 4 (orow nc cad)), ((k 3), aQ (Y 3) 6 (orow np pad)), ((k 4), oC 2 [.ref (k 5), .ref (k 6), vI (ms_w S), vI (ms_l S), vI (ms_s S), vI (ms_a S), vI (ms_t S), vI (ms_p S)]), ((k 5), aI (Y 0) 7 (ms_h S)), ((k 6), aI (Y 0) 420 (ms_m S)), ((k 7), oC 2 [.ref (k 8), .ref (k 9), vI (ms_w MS0), vI (ms_l MS0), vI (ms_s MS0), vI (ms_a MS0), vI (ms_t MS0), vI (ms_p MS0)]), ((k 8), aI (Y 0) 7 (ms_h MS0)), ((k 9), aI (Y 0) 420 (ms_m MS0)), ((k 10), oC 2 [.ref (k 11), .ref (k 12), vI (ms_w U), vI (ms_l U), vI (ms_s U), vI (ms_a U), vI (ms_t U), vI (ms_p U)]), ((k 11), aI (Y 0) 7 (ms_h U)), ((k 12), aI (Y 0) 420 (ms_m U)), ((k 13), aI (Y 0) 7 (fun _ => 0)), ((k 14), oC 7 [.ref (k 15), .ref (k 16)]), ((k 15), aI (Y 0) 271 (fun _ => 0)), ((k 16), aI (Y 0) 271 (fun _ => 0)), ((k 17), aI (Y 0) 16 pg)] ++ (PLW np nc cad pad cs ps ++ Rows)) rfl rfl rfl ?_
  refine j_lawVi (pc := pc) (As := [vI cu, vI w]) (na := 2) (st := st) C [] [0, 1, 2, 3, 4, 5, 6, 7, 8, 9, 10, 11, 12, 13, 14, 15, 16, 17] (L := [((k 0), oC 8 [.ref (k 1), .ref (k 2), vI nc, .ref (k 3), vI np, .ref (k 4), .ref (k 7), vI 0, .ref (k 10), .ref (k 13), .ref (k 14)]), ((k 1), oC 3 [.ref (k 17), vI pl]), ((k 2), aQ (Y 2) 4 (orow nc cad)), ((k 3), aQ (Y 3) 6 (orow np pad)), ((k 4), oC 2 [.ref (k 5), .ref (k 6), vI (ms_w S), vI (ms_l S), vI (ms_s S), vI (ms_a S), vI (ms_t S), vI (ms_p S)]), ((k 5), aI (Y 0) 7 (ms_h S)), ((k 6), aI (Y 0) 420 (ms_m S)), ((k 7), oC 2 [.ref (k 8), .ref (k 9), vI (ms_w MS0), vI (ms_l MS0), vI (ms_s MS0), vI (ms_a MS0), vI (ms_t MS0), vI (ms_p MS0)]), ((k 8), aI (Y 0) 7 (ms_h MS0)), ((k 9), aI (Y 0) 420 (ms_m MS0)), ((k 10), oC 2 [.ref (k 11), .ref (k 12), vI (ms_w U), vI (ms_l U), vI (ms_s U), vI (ms_a U), vI (ms_t U), vI (ms_p U)]), ((k 11), aI (Y 0) 7 (ms_h U)), ((k 12), aI (Y 0) 420 (ms_m U)), ((k 13), aI (Y 0) 7 (fun _ => 0)), ((k 14), oC 7 [.ref (k 15), .ref (k 16)]), ((k 15), aI (Y 0) 271 (fun _ => 0)), ((k 16), aI (Y 0) 271 (fun _ => 0)), ((k 17), aI (Y 0) 16 pg)]) (PL := PLW np nc cad pad cs ps ++ Rows) (wc := []) (wr := [((k 0), oC 8 [.ref (k 1), .ref (k 2), vI nc, .ref (k 3), vI np, .ref (k 4), .ref (k 7), vI 0, .ref (k 10), .ref (k 13), .ref (k 14)]), ((k 1), oC 3 [.ref (k 17), vI pl]), ((k 2), aQ (Y 2) 4 (orow nc cad)), ((k 3), aQ (Y 3) 6 (orow np pad)), ((k 4), oC 2 [.ref (k 5), .ref (k 6), vI (ms_w S), vI (ms_l S), vI (ms_s S), vI (ms_a S), vI (ms_t S), vI (ms_p S)]), ((k 5), aI (Y 0) 7 (ms_h S)), ((k 6), aI (Y 0) 420 (ms_m S)), ((k 7), oC 2 [.ref (k 8), .ref (k 9), vI (ms_w MS0), vI (ms_l MS0), vI (ms_s MS0), vI (ms_a MS0), vI (ms_t MS0), vI (ms_p MS0)]), ((k 8), aI (Y 0) 7 (ms_h MS0)), ((k 9), aI (Y 0) 420 (ms_m MS0)), ((k 10), oC 2 [.ref (k 11), .ref (k 12), vI (ms_w U), vI (ms_l U), vI (ms_s U), vI (ms_a U), vI (ms_t U), vI (ms_p U)]), ((k 11), aI (Y 0) 7 (ms_h U)), ((k 12), aI (Y 0) 420 (ms_m U)), ((k 13), aI (Y 0) 7 (fun _ => 0)), ((k 14), oC 7 [.ref (k 15), .ref (k 16)]), ((k 15), aI (Y 0) 271 (fun _ => 0)), ((k 16), aI (Y 0) 271 (fun _ => 0)), ((k 17), aI (Y 0) 16 pg)]) (fun l => k_customTold l D Y _ k nc np 0 cad cs cu w (List.mem_append_left _ (List.mem_append_left _ (List.mem_of_getElem? (i := 0) rfl))) (List.mem_append_left _ (List.mem_append_left _ (List.mem_of_getElem? (i := 2) rfl))) (fun i hi => List.mem_append_left _ (List.mem_append_right _ (List.mem_append_left _ (PLW_c i hi)))) hnc hcs (by first | assumption | omega) (by first | assumption | omega)) rfl rfl rfl rfl (by decide) rfl (Or.inr (List.mem_append_left _ (List.mem_append_left _ (List.mem_of_getElem? (i := 0) rfl)))) rfl g ⟨rfl, by decide +kernel⟩ hRm rfl rfl (Nat.le_of_ble_eq_true hcat) hroom hd (fun e w1 h => ?_)
  obtain ⟨rfl, rfl⟩ := h
  refine j_permT (L' := [((k 0), oC 8 [.ref (k 1), .ref (k 2), vI nc, .ref (k 3), vI np, .ref (k 4), .ref (k 7), vI 0, .ref (k 10), .ref (k 13), .ref (k 14)]), ((k 1), oC 3 [.ref (k 17), vI pl]), ((k 2), aQ (Y 2) 4 (orow nc cad)), ((k 3), aQ (Y 3) 6 (orow np pad)), ((k 4), oC 2 [.ref (k 5), .ref (k 6), vI (ms_w S), vI (ms_l S), vI (ms_s S), vI (ms_a S), vI (ms_t S), vI (ms_p S)]), ((k 5), aI (Y 0) 7 (ms_h S)), ((k 6), aI (Y 0) 420 (ms_m S)), ((k 7), oC 2 [.ref (k 8), .ref (k 9), vI (ms_w MS0), vI (ms_l MS0), vI (ms_s MS0), vI (ms_a MS0), vI (ms_t MS0), vI (ms_p MS0)]), ((k 8), aI (Y 0) 7 (ms_h MS0)), ((k 9), aI (Y 0) 420 (ms_m MS0)), ((k 10), oC 2 [.ref (k 11), .ref (k 12), vI (ms_w U), vI (ms_l U), vI (ms_s U), vI (ms_a U), vI (ms_t U), vI (ms_p U)]), ((k 11), aI (Y 0) 7 (ms_h U)), ((k 12), aI (Y 0) 420 (ms_m U)), ((k 13), aI (Y 0) 7 (fun _ => 0)), ((k 14), oC 7 [.ref (k 15), .ref (k 16)]), ((k 15), aI (Y 0) 271 (fun _ => 0)), ((k 16), aI (Y 0) 271 (fun _ => 0)), ((k 17), aI (Y 0) 16 pg)]) [0, 1, 2, 3, 4, 5, 6, 7, 8, 9, 10, 11, 12, 13, 14, 15, 16, 17] rfl rfl ?_
  refine j_ofF (A := [((k 0), oC 8 [.ref (k 1), .ref (k 2), vI nc, .ref (k 3), vI np, .ref (k 4), .ref (k 7), vI 0, .ref (k 10), .ref (k 13), .ref (k 14)]), ((k 1), oC 3 [.ref (k 17), vI pl]), ((k 2), aQ (Y 2) 4 (orow nc cad)), ((k 3), aQ (Y 3) 6 (orow np pad)), ((k 4), oC 2 [.ref (k 5), .ref (k 6), vI (ms_w S), vI (ms_l S), vI (ms_s S), vI (ms_a S), vI (ms_t S), vI (ms_p S)]), ((k 5), aI (Y 0) 7 (ms_h S)), ((k 6), aI (Y 0) 420 (ms_m S)), ((k 7), oC 2 [.ref (k 8), .ref (k 9), vI (ms_w MS0), vI (ms_l MS0), vI (ms_s MS0), vI (ms_a MS0), vI (ms_t MS0), vI (ms_p MS0)]), ((k 8), aI (Y 0) 7 (ms_h MS0)), ((k 9), aI (Y 0) 420 (ms_m MS0)), ((k 10), oC 2 [.ref (k 11), .ref (k 12), vI (ms_w U), vI (ms_l U), vI (ms_s U), vI (ms_a U), vI (ms_t U), vI (ms_p U)]), ((k 11), aI (Y 0) 7 (ms_h U)), ((k 12), aI (Y 0) 420 (ms_m U)), ((k 13), aI (Y 0) 7 (fun _ => 0)), ((k 14), oC 7 [.ref (k 15), .ref (k 16)]), ((k 15), aI (Y 0) 271 (fun _ => 0)), ((k 16), aI (Y 0) 271 (fun _ => 0)), ((k 17), aI (Y 0) 16 pg)]) (P := PLW np nc cad pad cs ps) ?_
  exact kk _ ⟨⟨hS, hwk⟩, hnp, hps, hnc, hcs, hp, U, cad, pad, rfl⟩

set_option maxHeartbeats 2000000 in
set_option maxRecDepth 100000 in
theorem tc_seed {X : jX} {cc : ByteArray} {nL : Nat} {own : String} {Ts : List Cond} {rm : Room} {D : va_G} {Y : Nat → ClassId} {RO : va_W} {kc sc : Nat} {lc : List (Nat × Value)} {pc index : Nat} {st : List Value} (C : jC X cc nL own Ts rm D Y RO) {k : Nat → Nat} {np nc pl : Int} {S : MS} {pg : Int → Int} {cs : Int → CT} {ps : Int → PT} {Rows W : va_W} (hW : KWs Y k np nc pl S pg cs ps W) {v : Int} (hrv : -2147483648 ≤ v ∧ v ≤ 2147483647) (g : GoodIn Ts (wsV own index RX9 yX9_seed wsX9_seed)) (hRm : 0 + 1 ≤ rm.frames ∧ 8 + (3 + 11) + 0 ≤ rm.locals) (hcat : Nat.ble ((st.map fun v => v.category).sum) 8 = true) (hroom : kc + 0 ≤ rm.cells ∧ sc + 0 ≤ rm.slots) (hd : decode cc pc = .ok (.invokevirtual index, 3)) (kk : ∀ W' : va_W, KWs Y k np nc pl (sSeed v S) pg cs ps W' → jW X nL (kc + 0) (sc + 0) (Rows ++ W') lc (pc + 3) (vI (rSeed v S) :: st)) : jW X nL kc sc (Rows ++ W) lc pc (vI v :: .ref (k 0) :: st) := by
  obtain ⟨⟨hS, hwk⟩, hnp, hps, hnc, hcs, hp, U, cad, pad, rfl⟩ := hW
  refine j_toF ?_
  refine j_st (ws' := [((k 0), oC 8 [.ref (k 1), .ref (k 2), vI nc, .ref (k 3), vI np, .ref (k 4), .ref (k 7), vI 0, .ref (k 10), .ref (k 13), .ref (k 14)]), ((k 1), oC 3 [.ref (k 17), vI pl]), ((k 2), aQ (Y 2) 4 (orow nc cad)), ((k 3), aQ (Y 3) 6 (orow np pad)), ((k 4), oC 2 [.ref (k 5), .ref (k 6), vI (ms_w S), vI (ms_l S), vI (ms_s S), vI (ms_a S), vI (ms_t S), vI (ms_p S)]), ((k 5), aI (Y 0) 7 (ms_h S)), ((k 6), aI (Y 0) 420 (ms_m S)), ((k 7), oC 2 [.ref (k 8), .ref (k 9), vI (ms_w MS0), vI (ms_l MS0), vI (ms_s MS0), vI (ms_a MS0), vI (ms_t MS0), vI (ms_p MS0)]), ((k 8), aI (Y 0) 7 (ms_h MS0)), ((k 9), aI (Y 0) 420 (ms_m MS0)), ((k 10), oC 2 [.ref (k 11), .ref (k 12), vI (ms_w U), vI (ms_l U), vI (ms_s U), vI (ms_a U), vI (ms_t U), vI (ms_p U)]), ((k 11), aI (Y 0) 7 (ms_h U)), ((k 12), aI (Y 0) 420 (ms_m U)), ((k 13), aI (Y 0) 7 (fun _ => 0)), ((k 14), oC 7 [.ref (k 15), .ref (k 16)]), ((k 15), aI (Y 0) 271 (fun _ => 0)), ((k 16), aI (Y 0) 271 (fun _ => 0)), ((k 17), aI (Y 0) 16 pg)] ++ (PLW np nc cad pad cs ps ++ Rows)) rfl rfl rfl ?_
  refine j_lawVi (pc := pc) (As := [vI v]) (na := 1) (st := st) C [4, 5, 6] [0, 1, 2, 3, 7, 8, 9, 10, 11, 12, 13, 14, 15, 16, 17] (L := [((k 0), oC 8 [.ref (k 1), .ref (k 2), vI nc, .ref (k 3), vI np, .ref (k 4), .ref (k 7), vI 0, .ref (k 10), .ref (k 13), .ref (k 14)]), ((k 1), oC 3 [.ref (k 17), vI pl]), ((k 2), aQ (Y 2) 4 (orow nc cad)), ((k 3), aQ (Y 3) 6 (orow np pad)), ((k 4), oC 2 [.ref (k 5), .ref (k 6), vI (ms_w S), vI (ms_l S), vI (ms_s S), vI (ms_a S), vI (ms_t S), vI (ms_p S)]), ((k 5), aI (Y 0) 7 (ms_h S)), ((k 6), aI (Y 0) 420 (ms_m S)), ((k 7), oC 2 [.ref (k 8), .ref (k 9), vI (ms_w MS0), vI (ms_l MS0), vI (ms_s MS0), vI (ms_a MS0), vI (ms_t MS0), vI (ms_p MS0)]), ((k 8), aI (Y 0) 7 (ms_h MS0)), ((k 9), aI (Y 0) 420 (ms_m MS0)), ((k 10), oC 2 [.ref (k 11), .ref (k 12), vI (ms_w U), vI (ms_l U), vI (ms_s U), vI (ms_a U), vI (ms_t U), vI (ms_p U)]), ((k 11), aI (Y 0) 7 (ms_h U)), ((k 12), aI (Y 0) 420 (ms_m U)), ((k 13), aI (Y 0) 7 (fun _ => 0)), ((k 14), oC 7 [.ref (k 15), .ref (k 16)]), ((k 15), aI (Y 0) 271 (fun _ => 0)), ((k 16), aI (Y 0) 271 (fun _ => 0)), ((k 17), aI (Y 0) 16 pg)]) (PL := PLW np nc cad pad cs ps ++ Rows) (wc := [((k 4), oC 2 [.ref (k 5), .ref (k 6), vI (ms_w S), vI (ms_l S), vI (ms_s S), vI (ms_a S), vI (ms_t S), vI (ms_p S)]), ((k 5), aI (Y 0) 7 (ms_h S)), ((k 6), aI (Y 0) 420 (ms_m S))]) (wr := [((k 0), oC 8 [.ref (k 1), .ref (k 2), vI nc, .ref (k 3), vI np, .ref (k 4), .ref (k 7), vI 0, .ref (k 10), .ref (k 13), .ref (k 14)]), ((k 1), oC 3 [.ref (k 17), vI pl]), ((k 2), aQ (Y 2) 4 (orow nc cad)), ((k 3), aQ (Y 3) 6 (orow np pad)), ((k 7), oC 2 [.ref (k 8), .ref (k 9), vI (ms_w MS0), vI (ms_l MS0), vI (ms_s MS0), vI (ms_a MS0), vI (ms_t MS0), vI (ms_p MS0)]), ((k 8), aI (Y 0) 7 (ms_h MS0)), ((k 9), aI (Y 0) 420 (ms_m MS0)), ((k 10), oC 2 [.ref (k 11), .ref (k 12), vI (ms_w U), vI (ms_l U), vI (ms_s U), vI (ms_a U), vI (ms_t U), vI (ms_p U)]), ((k 11), aI (Y 0) 7 (ms_h U)), ((k 12), aI (Y 0) 420 (ms_m U)), ((k 13), aI (Y 0) 7 (fun _ => 0)), ((k 14), oC 7 [.ref (k 15), .ref (k 16)]), ((k 15), aI (Y 0) 271 (fun _ => 0)), ((k 16), aI (Y 0) 271 (fun _ => 0)), ((k 17), aI (Y 0) 16 pg)]) (fun l => k_seed l D Y _ k nc np 0 S v (List.mem_append_left _ (List.mem_append_left _ (List.mem_of_getElem? (i := 0) rfl))) (by first | assumption | omega)) rfl rfl rfl rfl (by decide) rfl (Or.inr (List.mem_append_left _ (List.mem_append_left _ (List.mem_of_getElem? (i := 0) rfl)))) rfl g ⟨rfl, by decide +kernel⟩ hRm rfl rfl (Nat.le_of_ble_eq_true hcat) hroom hd (fun e w1 h => ?_)
  obtain ⟨rfl, rfl⟩ := h
  refine j_permT (L' := [((k 0), oC 8 [.ref (k 1), .ref (k 2), vI nc, .ref (k 3), vI np, .ref (k 4), .ref (k 7), vI 0, .ref (k 10), .ref (k 13), .ref (k 14)]), ((k 1), oC 3 [.ref (k 17), vI pl]), ((k 2), aQ (Y 2) 4 (orow nc cad)), ((k 3), aQ (Y 3) 6 (orow np pad)), ((k 4), oC 2 [.ref (k 5), .ref (k 6), vI (ms_w (sSeed v S)), vI (ms_l (sSeed v S)), vI (ms_s (sSeed v S)), vI (ms_a (sSeed v S)), vI (ms_t (sSeed v S)), vI (ms_p (sSeed v S))]), ((k 5), aI (Y 0) 7 (ms_h (sSeed v S))), ((k 6), aI (Y 0) 420 (ms_m (sSeed v S))), ((k 7), oC 2 [.ref (k 8), .ref (k 9), vI (ms_w MS0), vI (ms_l MS0), vI (ms_s MS0), vI (ms_a MS0), vI (ms_t MS0), vI (ms_p MS0)]), ((k 8), aI (Y 0) 7 (ms_h MS0)), ((k 9), aI (Y 0) 420 (ms_m MS0)), ((k 10), oC 2 [.ref (k 11), .ref (k 12), vI (ms_w U), vI (ms_l U), vI (ms_s U), vI (ms_a U), vI (ms_t U), vI (ms_p U)]), ((k 11), aI (Y 0) 7 (ms_h U)), ((k 12), aI (Y 0) 420 (ms_m U)), ((k 13), aI (Y 0) 7 (fun _ => 0)), ((k 14), oC 7 [.ref (k 15), .ref (k 16)]), ((k 15), aI (Y 0) 271 (fun _ => 0)), ((k 16), aI (Y 0) 271 (fun _ => 0)), ((k 17), aI (Y 0) 16 pg)]) [0, 1, 2, 3, 15, 16, 17, 4, 5, 6, 7, 8, 9, 10, 11, 12, 13, 14] rfl rfl ?_
  refine j_ofF (A := [((k 0), oC 8 [.ref (k 1), .ref (k 2), vI nc, .ref (k 3), vI np, .ref (k 4), .ref (k 7), vI 0, .ref (k 10), .ref (k 13), .ref (k 14)]), ((k 1), oC 3 [.ref (k 17), vI pl]), ((k 2), aQ (Y 2) 4 (orow nc cad)), ((k 3), aQ (Y 3) 6 (orow np pad)), ((k 4), oC 2 [.ref (k 5), .ref (k 6), vI (ms_w (sSeed v S)), vI (ms_l (sSeed v S)), vI (ms_s (sSeed v S)), vI (ms_a (sSeed v S)), vI (ms_t (sSeed v S)), vI (ms_p (sSeed v S))]), ((k 5), aI (Y 0) 7 (ms_h (sSeed v S))), ((k 6), aI (Y 0) 420 (ms_m (sSeed v S))), ((k 7), oC 2 [.ref (k 8), .ref (k 9), vI (ms_w MS0), vI (ms_l MS0), vI (ms_s MS0), vI (ms_a MS0), vI (ms_t MS0), vI (ms_p MS0)]), ((k 8), aI (Y 0) 7 (ms_h MS0)), ((k 9), aI (Y 0) 420 (ms_m MS0)), ((k 10), oC 2 [.ref (k 11), .ref (k 12), vI (ms_w U), vI (ms_l U), vI (ms_s U), vI (ms_a U), vI (ms_t U), vI (ms_p U)]), ((k 11), aI (Y 0) 7 (ms_h U)), ((k 12), aI (Y 0) 420 (ms_m U)), ((k 13), aI (Y 0) 7 (fun _ => 0)), ((k 14), oC 7 [.ref (k 15), .ref (k 16)]), ((k 15), aI (Y 0) 271 (fun _ => 0)), ((k 16), aI (Y 0) 271 (fun _ => 0)), ((k 17), aI (Y 0) 16 pg)]) (P := PLW np nc cad pad cs ps) ?_
  exact kk _ ⟨(ok_sSeed ⟨hS, hwk⟩ hrv.2), hnp, hps, hnc, hcs, hp, U, cad, pad, rfl⟩

set_option maxHeartbeats 2000000 in
set_option maxRecDepth 100000 in
theorem tc_lay {X : jX} {cc : ByteArray} {nL : Nat} {own : String} {Ts : List Cond} {rm : Room} {D : va_G} {Y : Nat → ClassId} {RO : va_W} {kc sc : Nat} {lc : List (Nat × Value)} {pc index : Nat} {st : List Value} (C : jC X cc nL own Ts rm D Y RO) {k : Nat → Nat} {np nc pl : Int} {S : MS} {pg : Int → Int} {cs : Int → CT} {ps : Int → PT} {Rows W : va_W} (hW : KWs Y k np nc pl S pg cs ps W) {c : Int} {n : Int} (hrc : -2147483648 ≤ c ∧ c ≤ 2147483647) (hrn : -2147483648 ≤ n ∧ n ≤ 2147483647) (g : GoodIn Ts (wsV own index RX9 yX9_lay wsX9_lay)) (hRm : 3 + 1 ≤ rm.frames ∧ 8 + (3 + 11) + 66 ≤ rm.locals) (hcat : Nat.ble ((st.map fun v => v.category).sum) 8 = true) (hroom : kc + 0 ≤ rm.cells ∧ sc + 0 ≤ rm.slots) (hd : decode cc pc = .ok (.invokevirtual index, 3)) (kk : ∀ W' : va_W, KWs Y k np nc pl (sLay c n S) pg cs ps W' → jW X nL (kc + 0) (sc + 0) (Rows ++ W') lc (pc + 3) (vI (rLay c n S) :: st)) : jW X nL kc sc (Rows ++ W) lc pc (vI n :: vI c :: .ref (k 0) :: st) := by
  obtain ⟨⟨hS, hwk⟩, hnp, hps, hnc, hcs, hp, U, cad, pad, rfl⟩ := hW
  refine j_toF ?_
  refine j_st (ws' := [((k 0), oC 8 [.ref (k 1), .ref (k 2), vI nc, .ref (k 3), vI np, .ref (k 4), .ref (k 7), vI 0, .ref (k 10), .ref (k 13), .ref (k 14)]), ((k 1), oC 3 [.ref (k 17), vI pl]), ((k 2), aQ (Y 2) 4 (orow nc cad)), ((k 3), aQ (Y 3) 6 (orow np pad)), ((k 4), oC 2 [.ref (k 5), .ref (k 6), vI (ms_w S), vI (ms_l S), vI (ms_s S), vI (ms_a S), vI (ms_t S), vI (ms_p S)]), ((k 5), aI (Y 0) 7 (ms_h S)), ((k 6), aI (Y 0) 420 (ms_m S)), ((k 7), oC 2 [.ref (k 8), .ref (k 9), vI (ms_w MS0), vI (ms_l MS0), vI (ms_s MS0), vI (ms_a MS0), vI (ms_t MS0), vI (ms_p MS0)]), ((k 8), aI (Y 0) 7 (ms_h MS0)), ((k 9), aI (Y 0) 420 (ms_m MS0)), ((k 10), oC 2 [.ref (k 11), .ref (k 12), vI (ms_w U), vI (ms_l U), vI (ms_s U), vI (ms_a U), vI (ms_t U), vI (ms_p U)]), ((k 11), aI (Y 0) 7 (ms_h U)), ((k 12), aI (Y 0) 420 (ms_m U)), ((k 13), aI (Y 0) 7 (fun _ => 0)), ((k 14), oC 7 [.ref (k 15), .ref (k 16)]), ((k 15), aI (Y 0) 271 (fun _ => 0)), ((k 16), aI (Y 0) 271 (fun _ => 0)), ((k 17), aI (Y 0) 16 pg)] ++ (PLW np nc cad pad cs ps ++ Rows)) rfl rfl rfl ?_
  refine j_lawVi (pc := pc) (As := [vI c, vI n]) (na := 2) (st := st) C [4, 5, 6] [0, 1, 2, 3, 7, 8, 9, 10, 11, 12, 13, 14, 15, 16, 17] (L := [((k 0), oC 8 [.ref (k 1), .ref (k 2), vI nc, .ref (k 3), vI np, .ref (k 4), .ref (k 7), vI 0, .ref (k 10), .ref (k 13), .ref (k 14)]), ((k 1), oC 3 [.ref (k 17), vI pl]), ((k 2), aQ (Y 2) 4 (orow nc cad)), ((k 3), aQ (Y 3) 6 (orow np pad)), ((k 4), oC 2 [.ref (k 5), .ref (k 6), vI (ms_w S), vI (ms_l S), vI (ms_s S), vI (ms_a S), vI (ms_t S), vI (ms_p S)]), ((k 5), aI (Y 0) 7 (ms_h S)), ((k 6), aI (Y 0) 420 (ms_m S)), ((k 7), oC 2 [.ref (k 8), .ref (k 9), vI (ms_w MS0), vI (ms_l MS0), vI (ms_s MS0), vI (ms_a MS0), vI (ms_t MS0), vI (ms_p MS0)]), ((k 8), aI (Y 0) 7 (ms_h MS0)), ((k 9), aI (Y 0) 420 (ms_m MS0)), ((k 10), oC 2 [.ref (k 11), .ref (k 12), vI (ms_w U), vI (ms_l U), vI (ms_s U), vI (ms_a U), vI (ms_t U), vI (ms_p U)]), ((k 11), aI (Y 0) 7 (ms_h U)), ((k 12), aI (Y 0) 420 (ms_m U)), ((k 13), aI (Y 0) 7 (fun _ => 0)), ((k 14), oC 7 [.ref (k 15), .ref (k 16)]), ((k 15), aI (Y 0) 271 (fun _ => 0)), ((k 16), aI (Y 0) 271 (fun _ => 0)), ((k 17), aI (Y 0) 16 pg)]) (PL := PLW np nc cad pad cs ps ++ Rows) (wc := [((k 4), oC 2 [.ref (k 5), .ref (k 6), vI (ms_w S), vI (ms_l S), vI (ms_s S), vI (ms_a S), vI (ms_t S), vI (ms_p S)]), ((k 5), aI (Y 0) 7 (ms_h S)), ((k 6), aI (Y 0) 420 (ms_m S))]) (wr := [((k 0), oC 8 [.ref (k 1), .ref (k 2), vI nc, .ref (k 3), vI np, .ref (k 4), .ref (k 7), vI 0, .ref (k 10), .ref (k 13), .ref (k 14)]), ((k 1), oC 3 [.ref (k 17), vI pl]), ((k 2), aQ (Y 2) 4 (orow nc cad)), ((k 3), aQ (Y 3) 6 (orow np pad)), ((k 7), oC 2 [.ref (k 8), .ref (k 9), vI (ms_w MS0), vI (ms_l MS0), vI (ms_s MS0), vI (ms_a MS0), vI (ms_t MS0), vI (ms_p MS0)]), ((k 8), aI (Y 0) 7 (ms_h MS0)), ((k 9), aI (Y 0) 420 (ms_m MS0)), ((k 10), oC 2 [.ref (k 11), .ref (k 12), vI (ms_w U), vI (ms_l U), vI (ms_s U), vI (ms_a U), vI (ms_t U), vI (ms_p U)]), ((k 11), aI (Y 0) 7 (ms_h U)), ((k 12), aI (Y 0) 420 (ms_m U)), ((k 13), aI (Y 0) 7 (fun _ => 0)), ((k 14), oC 7 [.ref (k 15), .ref (k 16)]), ((k 15), aI (Y 0) 271 (fun _ => 0)), ((k 16), aI (Y 0) 271 (fun _ => 0)), ((k 17), aI (Y 0) 16 pg)]) (fun l => k_lay l D Y _ k nc np 0 S c n (List.mem_append_left _ (List.mem_append_left _ (List.mem_of_getElem? (i := 0) rfl))) hS (by first | assumption | omega) (by first | assumption | omega)) rfl rfl rfl rfl (by decide) rfl (Or.inr (List.mem_append_left _ (List.mem_append_left _ (List.mem_of_getElem? (i := 0) rfl)))) rfl g ⟨rfl, by decide +kernel⟩ hRm rfl rfl (Nat.le_of_ble_eq_true hcat) hroom hd (fun e w1 h => ?_)
  obtain ⟨rfl, rfl⟩ := h
  refine j_permT (L' := [((k 0), oC 8 [.ref (k 1), .ref (k 2), vI nc, .ref (k 3), vI np, .ref (k 4), .ref (k 7), vI 0, .ref (k 10), .ref (k 13), .ref (k 14)]), ((k 1), oC 3 [.ref (k 17), vI pl]), ((k 2), aQ (Y 2) 4 (orow nc cad)), ((k 3), aQ (Y 3) 6 (orow np pad)), ((k 4), oC 2 [.ref (k 5), .ref (k 6), vI (ms_w (sLay c n S)), vI (ms_l (sLay c n S)), vI (ms_s (sLay c n S)), vI (ms_a (sLay c n S)), vI (ms_t (sLay c n S)), vI (ms_p (sLay c n S))]), ((k 5), aI (Y 0) 7 (ms_h (sLay c n S))), ((k 6), aI (Y 0) 420 (ms_m (sLay c n S))), ((k 7), oC 2 [.ref (k 8), .ref (k 9), vI (ms_w MS0), vI (ms_l MS0), vI (ms_s MS0), vI (ms_a MS0), vI (ms_t MS0), vI (ms_p MS0)]), ((k 8), aI (Y 0) 7 (ms_h MS0)), ((k 9), aI (Y 0) 420 (ms_m MS0)), ((k 10), oC 2 [.ref (k 11), .ref (k 12), vI (ms_w U), vI (ms_l U), vI (ms_s U), vI (ms_a U), vI (ms_t U), vI (ms_p U)]), ((k 11), aI (Y 0) 7 (ms_h U)), ((k 12), aI (Y 0) 420 (ms_m U)), ((k 13), aI (Y 0) 7 (fun _ => 0)), ((k 14), oC 7 [.ref (k 15), .ref (k 16)]), ((k 15), aI (Y 0) 271 (fun _ => 0)), ((k 16), aI (Y 0) 271 (fun _ => 0)), ((k 17), aI (Y 0) 16 pg)]) [0, 1, 2, 3, 15, 16, 17, 4, 5, 6, 7, 8, 9, 10, 11, 12, 13, 14] rfl rfl ?_
  refine j_ofF (A := [((k 0), oC 8 [.ref (k 1), .ref (k 2), vI nc, .ref (k 3), vI np, .ref (k 4), .ref (k 7), vI 0, .ref (k 10), .ref (k 13), .ref (k 14)]), ((k 1), oC 3 [.ref (k 17), vI pl]), ((k 2), aQ (Y 2) 4 (orow nc cad)), ((k 3), aQ (Y 3) 6 (orow np pad)), ((k 4), oC 2 [.ref (k 5), .ref (k 6), vI (ms_w (sLay c n S)), vI (ms_l (sLay c n S)), vI (ms_s (sLay c n S)), vI (ms_a (sLay c n S)), vI (ms_t (sLay c n S)), vI (ms_p (sLay c n S))]), ((k 5), aI (Y 0) 7 (ms_h (sLay c n S))), ((k 6), aI (Y 0) 420 (ms_m (sLay c n S))), ((k 7), oC 2 [.ref (k 8), .ref (k 9), vI (ms_w MS0), vI (ms_l MS0), vI (ms_s MS0), vI (ms_a MS0), vI (ms_t MS0), vI (ms_p MS0)]), ((k 8), aI (Y 0) 7 (ms_h MS0)), ((k 9), aI (Y 0) 420 (ms_m MS0)), ((k 10), oC 2 [.ref (k 11), .ref (k 12), vI (ms_w U), vI (ms_l U), vI (ms_s U), vI (ms_a U), vI (ms_t U), vI (ms_p U)]), ((k 11), aI (Y 0) 7 (ms_h U)), ((k 12), aI (Y 0) 420 (ms_m U)), ((k 13), aI (Y 0) 7 (fun _ => 0)), ((k 14), oC 7 [.ref (k 15), .ref (k 16)]), ((k 15), aI (Y 0) 271 (fun _ => 0)), ((k 16), aI (Y 0) 271 (fun _ => 0)), ((k 17), aI (Y 0) 16 pg)]) (P := PLW np nc cad pad cs ps) ?_
  exact kk _ ⟨(ok_sLay ⟨hS, hwk⟩), hnp, hps, hnc, hcs, hp, U, cad, pad, rfl⟩

set_option maxHeartbeats 2000000 in
set_option maxRecDepth 100000 in
theorem tc_take {X : jX} {cc : ByteArray} {nL : Nat} {own : String} {Ts : List Cond} {rm : Room} {D : va_G} {Y : Nat → ClassId} {RO : va_W} {kc sc : Nat} {lc : List (Nat × Value)} {pc index : Nat} {st : List Value} (C : jC X cc nL own Ts rm D Y RO) {k : Nat → Nat} {np nc pl : Int} {S : MS} {pg : Int → Int} {cs : Int → CT} {ps : Int → PT} {Rows W : va_W} (hW : KWs Y k np nc pl S pg cs ps W) {c : Int} {n : Int} (hrc : -2147483648 ≤ c ∧ c ≤ 2147483647) (hrn : -2147483648 ≤ n ∧ n ≤ 2147483647) (g : GoodIn Ts (wsV own index RX9 yX9_take wsX9_take)) (hRm : 2 + 1 ≤ rm.frames ∧ 8 + (3 + 11) + 44 ≤ rm.locals) (hcat : Nat.ble ((st.map fun v => v.category).sum) 8 = true) (hroom : kc + 0 ≤ rm.cells ∧ sc + 0 ≤ rm.slots) (hd : decode cc pc = .ok (.invokevirtual index, 3)) (kk : ∀ W' : va_W, KWs Y k np nc pl (sTake c n S) pg cs ps W' → jW X nL (kc + 0) (sc + 0) (Rows ++ W') lc (pc + 3) (vI (rTake c n S) :: st)) : jW X nL kc sc (Rows ++ W) lc pc (vI n :: vI c :: .ref (k 0) :: st) := by
  obtain ⟨⟨hS, hwk⟩, hnp, hps, hnc, hcs, hp, U, cad, pad, rfl⟩ := hW
  refine j_toF ?_
  refine j_st (ws' := [((k 0), oC 8 [.ref (k 1), .ref (k 2), vI nc, .ref (k 3), vI np, .ref (k 4), .ref (k 7), vI 0, .ref (k 10), .ref (k 13), .ref (k 14)]), ((k 1), oC 3 [.ref (k 17), vI pl]), ((k 2), aQ (Y 2) 4 (orow nc cad)), ((k 3), aQ (Y 3) 6 (orow np pad)), ((k 4), oC 2 [.ref (k 5), .ref (k 6), vI (ms_w S), vI (ms_l S), vI (ms_s S), vI (ms_a S), vI (ms_t S), vI (ms_p S)]), ((k 5), aI (Y 0) 7 (ms_h S)), ((k 6), aI (Y 0) 420 (ms_m S)), ((k 7), oC 2 [.ref (k 8), .ref (k 9), vI (ms_w MS0), vI (ms_l MS0), vI (ms_s MS0), vI (ms_a MS0), vI (ms_t MS0), vI (ms_p MS0)]), ((k 8), aI (Y 0) 7 (ms_h MS0)), ((k 9), aI (Y 0) 420 (ms_m MS0)), ((k 10), oC 2 [.ref (k 11), .ref (k 12), vI (ms_w U), vI (ms_l U), vI (ms_s U), vI (ms_a U), vI (ms_t U), vI (ms_p U)]), ((k 11), aI (Y 0) 7 (ms_h U)), ((k 12), aI (Y 0) 420 (ms_m U)), ((k 13), aI (Y 0) 7 (fun _ => 0)), ((k 14), oC 7 [.ref (k 15), .ref (k 16)]), ((k 15), aI (Y 0) 271 (fun _ => 0)), ((k 16), aI (Y 0) 271 (fun _ => 0)), ((k 17), aI (Y 0) 16 pg)] ++ (PLW np nc cad pad cs ps ++ Rows)) rfl rfl rfl ?_
  refine j_lawVi (pc := pc) (As := [vI c, vI n]) (na := 2) (st := st) C [4, 5, 6] [0, 1, 2, 3, 7, 8, 9, 10, 11, 12, 13, 14, 15, 16, 17] (L := [((k 0), oC 8 [.ref (k 1), .ref (k 2), vI nc, .ref (k 3), vI np, .ref (k 4), .ref (k 7), vI 0, .ref (k 10), .ref (k 13), .ref (k 14)]), ((k 1), oC 3 [.ref (k 17), vI pl]), ((k 2), aQ (Y 2) 4 (orow nc cad)), ((k 3), aQ (Y 3) 6 (orow np pad)), ((k 4), oC 2 [.ref (k 5), .ref (k 6), vI (ms_w S), vI (ms_l S), vI (ms_s S), vI (ms_a S), vI (ms_t S), vI (ms_p S)]), ((k 5), aI (Y 0) 7 (ms_h S)), ((k 6), aI (Y 0) 420 (ms_m S)), ((k 7), oC 2 [.ref (k 8), .ref (k 9), vI (ms_w MS0), vI (ms_l MS0), vI (ms_s MS0), vI (ms_a MS0), vI (ms_t MS0), vI (ms_p MS0)]), ((k 8), aI (Y 0) 7 (ms_h MS0)), ((k 9), aI (Y 0) 420 (ms_m MS0)), ((k 10), oC 2 [.ref (k 11), .ref (k 12), vI (ms_w U), vI (ms_l U), vI (ms_s U), vI (ms_a U), vI (ms_t U), vI (ms_p U)]), ((k 11), aI (Y 0) 7 (ms_h U)), ((k 12), aI (Y 0) 420 (ms_m U)), ((k 13), aI (Y 0) 7 (fun _ => 0)), ((k 14), oC 7 [.ref (k 15), .ref (k 16)]), ((k 15), aI (Y 0) 271 (fun _ => 0)), ((k 16), aI (Y 0) 271 (fun _ => 0)), ((k 17), aI (Y 0) 16 pg)]) (PL := PLW np nc cad pad cs ps ++ Rows) (wc := [((k 4), oC 2 [.ref (k 5), .ref (k 6), vI (ms_w S), vI (ms_l S), vI (ms_s S), vI (ms_a S), vI (ms_t S), vI (ms_p S)]), ((k 5), aI (Y 0) 7 (ms_h S)), ((k 6), aI (Y 0) 420 (ms_m S))]) (wr := [((k 0), oC 8 [.ref (k 1), .ref (k 2), vI nc, .ref (k 3), vI np, .ref (k 4), .ref (k 7), vI 0, .ref (k 10), .ref (k 13), .ref (k 14)]), ((k 1), oC 3 [.ref (k 17), vI pl]), ((k 2), aQ (Y 2) 4 (orow nc cad)), ((k 3), aQ (Y 3) 6 (orow np pad)), ((k 7), oC 2 [.ref (k 8), .ref (k 9), vI (ms_w MS0), vI (ms_l MS0), vI (ms_s MS0), vI (ms_a MS0), vI (ms_t MS0), vI (ms_p MS0)]), ((k 8), aI (Y 0) 7 (ms_h MS0)), ((k 9), aI (Y 0) 420 (ms_m MS0)), ((k 10), oC 2 [.ref (k 11), .ref (k 12), vI (ms_w U), vI (ms_l U), vI (ms_s U), vI (ms_a U), vI (ms_t U), vI (ms_p U)]), ((k 11), aI (Y 0) 7 (ms_h U)), ((k 12), aI (Y 0) 420 (ms_m U)), ((k 13), aI (Y 0) 7 (fun _ => 0)), ((k 14), oC 7 [.ref (k 15), .ref (k 16)]), ((k 15), aI (Y 0) 271 (fun _ => 0)), ((k 16), aI (Y 0) 271 (fun _ => 0)), ((k 17), aI (Y 0) 16 pg)]) (fun l => k_take l D Y _ k nc np 0 S c n (List.mem_append_left _ (List.mem_append_left _ (List.mem_of_getElem? (i := 0) rfl))) hS (by first | assumption | omega) (by first | assumption | omega)) rfl rfl rfl rfl (by decide) rfl (Or.inr (List.mem_append_left _ (List.mem_append_left _ (List.mem_of_getElem? (i := 0) rfl)))) rfl g ⟨rfl, by decide +kernel⟩ hRm rfl rfl (Nat.le_of_ble_eq_true hcat) hroom hd (fun e w1 h => ?_)
  obtain ⟨rfl, rfl⟩ := h
  refine j_permT (L' := [((k 0), oC 8 [.ref (k 1), .ref (k 2), vI nc, .ref (k 3), vI np, .ref (k 4), .ref (k 7), vI 0, .ref (k 10), .ref (k 13), .ref (k 14)]), ((k 1), oC 3 [.ref (k 17), vI pl]), ((k 2), aQ (Y 2) 4 (orow nc cad)), ((k 3), aQ (Y 3) 6 (orow np pad)), ((k 4), oC 2 [.ref (k 5), .ref (k 6), vI (ms_w (sTake c n S)), vI (ms_l (sTake c n S)), vI (ms_s (sTake c n S)), vI (ms_a (sTake c n S)), vI (ms_t (sTake c n S)), vI (ms_p (sTake c n S))]), ((k 5), aI (Y 0) 7 (ms_h (sTake c n S))), ((k 6), aI (Y 0) 420 (ms_m (sTake c n S))), ((k 7), oC 2 [.ref (k 8), .ref (k 9), vI (ms_w MS0), vI (ms_l MS0), vI (ms_s MS0), vI (ms_a MS0), vI (ms_t MS0), vI (ms_p MS0)]), ((k 8), aI (Y 0) 7 (ms_h MS0)), ((k 9), aI (Y 0) 420 (ms_m MS0)), ((k 10), oC 2 [.ref (k 11), .ref (k 12), vI (ms_w U), vI (ms_l U), vI (ms_s U), vI (ms_a U), vI (ms_t U), vI (ms_p U)]), ((k 11), aI (Y 0) 7 (ms_h U)), ((k 12), aI (Y 0) 420 (ms_m U)), ((k 13), aI (Y 0) 7 (fun _ => 0)), ((k 14), oC 7 [.ref (k 15), .ref (k 16)]), ((k 15), aI (Y 0) 271 (fun _ => 0)), ((k 16), aI (Y 0) 271 (fun _ => 0)), ((k 17), aI (Y 0) 16 pg)]) [0, 1, 2, 3, 15, 16, 17, 4, 5, 6, 7, 8, 9, 10, 11, 12, 13, 14] rfl rfl ?_
  refine j_ofF (A := [((k 0), oC 8 [.ref (k 1), .ref (k 2), vI nc, .ref (k 3), vI np, .ref (k 4), .ref (k 7), vI 0, .ref (k 10), .ref (k 13), .ref (k 14)]), ((k 1), oC 3 [.ref (k 17), vI pl]), ((k 2), aQ (Y 2) 4 (orow nc cad)), ((k 3), aQ (Y 3) 6 (orow np pad)), ((k 4), oC 2 [.ref (k 5), .ref (k 6), vI (ms_w (sTake c n S)), vI (ms_l (sTake c n S)), vI (ms_s (sTake c n S)), vI (ms_a (sTake c n S)), vI (ms_t (sTake c n S)), vI (ms_p (sTake c n S))]), ((k 5), aI (Y 0) 7 (ms_h (sTake c n S))), ((k 6), aI (Y 0) 420 (ms_m (sTake c n S))), ((k 7), oC 2 [.ref (k 8), .ref (k 9), vI (ms_w MS0), vI (ms_l MS0), vI (ms_s MS0), vI (ms_a MS0), vI (ms_t MS0), vI (ms_p MS0)]), ((k 8), aI (Y 0) 7 (ms_h MS0)), ((k 9), aI (Y 0) 420 (ms_m MS0)), ((k 10), oC 2 [.ref (k 11), .ref (k 12), vI (ms_w U), vI (ms_l U), vI (ms_s U), vI (ms_a U), vI (ms_t U), vI (ms_p U)]), ((k 11), aI (Y 0) 7 (ms_h U)), ((k 12), aI (Y 0) 420 (ms_m U)), ((k 13), aI (Y 0) 7 (fun _ => 0)), ((k 14), oC 7 [.ref (k 15), .ref (k 16)]), ((k 15), aI (Y 0) 271 (fun _ => 0)), ((k 16), aI (Y 0) 271 (fun _ => 0)), ((k 17), aI (Y 0) 16 pg)]) (P := PLW np nc cad pad cs ps) ?_
  exact kk _ ⟨(ok_sTake ⟨hS, hwk⟩), hnp, hps, hnc, hcs, hp, U, cad, pad, rfl⟩

set_option maxHeartbeats 2000000 in
set_option maxRecDepth 100000 in
theorem tc_weeks {X : jX} {cc : ByteArray} {nL : Nat} {own : String} {Ts : List Cond} {rm : Room} {D : va_G} {Y : Nat → ClassId} {RO : va_W} {kc sc : Nat} {lc : List (Nat × Value)} {pc index : Nat} {st : List Value} (C : jC X cc nL own Ts rm D Y RO) {k : Nat → Nat} {np nc pl : Int} {S : MS} {pg : Int → Int} {cs : Int → CT} {ps : Int → PT} {Rows W : va_W} (hW : KWs Y k np nc pl S pg cs ps W) {cu : Int} {n : Int} (hrcu : -2147483648 ≤ cu ∧ cu ≤ 2147483647) (hrn : -2147483648 ≤ n ∧ n ≤ 2147483647) (g : GoodIn Ts (wsV own index RX9 yX9_weeks wsX9_weeks)) (hRm : 5 + 1 ≤ rm.frames ∧ 8 + (5 + 11) + 116 ≤ rm.locals) (hcat : Nat.ble ((st.map fun v => v.category).sum) 8 = true) (hroom : kc + 0 ≤ rm.cells ∧ sc + 0 ≤ rm.slots) (hd : decode cc pc = .ok (.invokevirtual index, 3)) (kk : ∀ W' : va_W, KWs Y k np nc pl (sWeeks cu n nc cs np ps S) pg cs ps W' → jW X nL (kc + 0) (sc + 0) (Rows ++ W') lc (pc + 3) (vI (rWeeks cu n nc cs np ps S) :: st)) : jW X nL kc sc (Rows ++ W) lc pc (vI n :: vI cu :: .ref (k 0) :: st) := by
  obtain ⟨⟨hS, hwk⟩, hnp, hps, hnc, hcs, hp, U, cad, pad, rfl⟩ := hW
  refine j_toF ?_
  refine j_st (ws' := [((k 0), oC 8 [.ref (k 1), .ref (k 2), vI nc, .ref (k 3), vI np, .ref (k 4), .ref (k 7), vI 0, .ref (k 10), .ref (k 13), .ref (k 14)]), ((k 1), oC 3 [.ref (k 17), vI pl]), ((k 2), aQ (Y 2) 4 (orow nc cad)), ((k 3), aQ (Y 3) 6 (orow np pad)), ((k 4), oC 2 [.ref (k 5), .ref (k 6), vI (ms_w S), vI (ms_l S), vI (ms_s S), vI (ms_a S), vI (ms_t S), vI (ms_p S)]), ((k 5), aI (Y 0) 7 (ms_h S)), ((k 6), aI (Y 0) 420 (ms_m S)), ((k 7), oC 2 [.ref (k 8), .ref (k 9), vI (ms_w MS0), vI (ms_l MS0), vI (ms_s MS0), vI (ms_a MS0), vI (ms_t MS0), vI (ms_p MS0)]), ((k 8), aI (Y 0) 7 (ms_h MS0)), ((k 9), aI (Y 0) 420 (ms_m MS0)), ((k 10), oC 2 [.ref (k 11), .ref (k 12), vI (ms_w U), vI (ms_l U), vI (ms_s U), vI (ms_a U), vI (ms_t U), vI (ms_p U)]), ((k 11), aI (Y 0) 7 (ms_h U)), ((k 12), aI (Y 0) 420 (ms_m U)), ((k 13), aI (Y 0) 7 (fun _ => 0)), ((k 14), oC 7 [.ref (k 15), .ref (k 16)]), ((k 15), aI (Y 0) 271 (fun _ => 0)), ((k 16), aI (Y 0) 271 (fun _ => 0)), ((k 17), aI (Y 0) 16 pg)] ++ (PLW np nc cad pad cs ps ++ Rows)) rfl rfl rfl ?_
  refine j_lawVi (pc := pc) (As := [vI cu, vI n]) (na := 2) (st := st) C [4, 5, 6] [0, 1, 2, 3, 7, 8, 9, 10, 11, 12, 13, 14, 15, 16, 17] (L := [((k 0), oC 8 [.ref (k 1), .ref (k 2), vI nc, .ref (k 3), vI np, .ref (k 4), .ref (k 7), vI 0, .ref (k 10), .ref (k 13), .ref (k 14)]), ((k 1), oC 3 [.ref (k 17), vI pl]), ((k 2), aQ (Y 2) 4 (orow nc cad)), ((k 3), aQ (Y 3) 6 (orow np pad)), ((k 4), oC 2 [.ref (k 5), .ref (k 6), vI (ms_w S), vI (ms_l S), vI (ms_s S), vI (ms_a S), vI (ms_t S), vI (ms_p S)]), ((k 5), aI (Y 0) 7 (ms_h S)), ((k 6), aI (Y 0) 420 (ms_m S)), ((k 7), oC 2 [.ref (k 8), .ref (k 9), vI (ms_w MS0), vI (ms_l MS0), vI (ms_s MS0), vI (ms_a MS0), vI (ms_t MS0), vI (ms_p MS0)]), ((k 8), aI (Y 0) 7 (ms_h MS0)), ((k 9), aI (Y 0) 420 (ms_m MS0)), ((k 10), oC 2 [.ref (k 11), .ref (k 12), vI (ms_w U), vI (ms_l U), vI (ms_s U), vI (ms_a U), vI (ms_t U), vI (ms_p U)]), ((k 11), aI (Y 0) 7 (ms_h U)), ((k 12), aI (Y 0) 420 (ms_m U)), ((k 13), aI (Y 0) 7 (fun _ => 0)), ((k 14), oC 7 [.ref (k 15), .ref (k 16)]), ((k 15), aI (Y 0) 271 (fun _ => 0)), ((k 16), aI (Y 0) 271 (fun _ => 0)), ((k 17), aI (Y 0) 16 pg)]) (PL := PLW np nc cad pad cs ps ++ Rows) (wc := [((k 4), oC 2 [.ref (k 5), .ref (k 6), vI (ms_w S), vI (ms_l S), vI (ms_s S), vI (ms_a S), vI (ms_t S), vI (ms_p S)]), ((k 5), aI (Y 0) 7 (ms_h S)), ((k 6), aI (Y 0) 420 (ms_m S))]) (wr := [((k 0), oC 8 [.ref (k 1), .ref (k 2), vI nc, .ref (k 3), vI np, .ref (k 4), .ref (k 7), vI 0, .ref (k 10), .ref (k 13), .ref (k 14)]), ((k 1), oC 3 [.ref (k 17), vI pl]), ((k 2), aQ (Y 2) 4 (orow nc cad)), ((k 3), aQ (Y 3) 6 (orow np pad)), ((k 7), oC 2 [.ref (k 8), .ref (k 9), vI (ms_w MS0), vI (ms_l MS0), vI (ms_s MS0), vI (ms_a MS0), vI (ms_t MS0), vI (ms_p MS0)]), ((k 8), aI (Y 0) 7 (ms_h MS0)), ((k 9), aI (Y 0) 420 (ms_m MS0)), ((k 10), oC 2 [.ref (k 11), .ref (k 12), vI (ms_w U), vI (ms_l U), vI (ms_s U), vI (ms_a U), vI (ms_t U), vI (ms_p U)]), ((k 11), aI (Y 0) 7 (ms_h U)), ((k 12), aI (Y 0) 420 (ms_m U)), ((k 13), aI (Y 0) 7 (fun _ => 0)), ((k 14), oC 7 [.ref (k 15), .ref (k 16)]), ((k 15), aI (Y 0) 271 (fun _ => 0)), ((k 16), aI (Y 0) 271 (fun _ => 0)), ((k 17), aI (Y 0) 16 pg)]) (fun l => k_weeks l D Y _ k nc np 0 cad cs pad ps S cu n (List.mem_append_left _ (List.mem_append_left _ (List.mem_of_getElem? (i := 0) rfl))) (List.mem_append_left _ (List.mem_append_left _ (List.mem_of_getElem? (i := 2) rfl))) (fun i hi => List.mem_append_left _ (List.mem_append_right _ (List.mem_append_left _ (PLW_c i hi)))) (List.mem_append_left _ (List.mem_append_left _ (List.mem_of_getElem? (i := 3) rfl))) (fun i hi => List.mem_append_left _ (List.mem_append_right _ (List.mem_append_left _ (PLW_p i hi)))) hS (by first | assumption | omega) hnc hcs hnp hps (by first | assumption | omega) (by first | assumption | omega)) rfl rfl rfl rfl (by decide) rfl (Or.inr (List.mem_append_left _ (List.mem_append_left _ (List.mem_of_getElem? (i := 0) rfl)))) rfl g ⟨rfl, by decide +kernel⟩ hRm rfl rfl (Nat.le_of_ble_eq_true hcat) hroom hd (fun e w1 h => ?_)
  obtain ⟨rfl, rfl⟩ := h
  refine j_permT (L' := [((k 0), oC 8 [.ref (k 1), .ref (k 2), vI nc, .ref (k 3), vI np, .ref (k 4), .ref (k 7), vI 0, .ref (k 10), .ref (k 13), .ref (k 14)]), ((k 1), oC 3 [.ref (k 17), vI pl]), ((k 2), aQ (Y 2) 4 (orow nc cad)), ((k 3), aQ (Y 3) 6 (orow np pad)), ((k 4), oC 2 [.ref (k 5), .ref (k 6), vI (ms_w (sWeeks cu n nc cs np ps S)), vI (ms_l (sWeeks cu n nc cs np ps S)), vI (ms_s (sWeeks cu n nc cs np ps S)), vI (ms_a (sWeeks cu n nc cs np ps S)), vI (ms_t (sWeeks cu n nc cs np ps S)), vI (ms_p (sWeeks cu n nc cs np ps S))]), ((k 5), aI (Y 0) 7 (ms_h (sWeeks cu n nc cs np ps S))), ((k 6), aI (Y 0) 420 (ms_m (sWeeks cu n nc cs np ps S))), ((k 7), oC 2 [.ref (k 8), .ref (k 9), vI (ms_w MS0), vI (ms_l MS0), vI (ms_s MS0), vI (ms_a MS0), vI (ms_t MS0), vI (ms_p MS0)]), ((k 8), aI (Y 0) 7 (ms_h MS0)), ((k 9), aI (Y 0) 420 (ms_m MS0)), ((k 10), oC 2 [.ref (k 11), .ref (k 12), vI (ms_w U), vI (ms_l U), vI (ms_s U), vI (ms_a U), vI (ms_t U), vI (ms_p U)]), ((k 11), aI (Y 0) 7 (ms_h U)), ((k 12), aI (Y 0) 420 (ms_m U)), ((k 13), aI (Y 0) 7 (fun _ => 0)), ((k 14), oC 7 [.ref (k 15), .ref (k 16)]), ((k 15), aI (Y 0) 271 (fun _ => 0)), ((k 16), aI (Y 0) 271 (fun _ => 0)), ((k 17), aI (Y 0) 16 pg)]) [0, 1, 2, 3, 15, 16, 17, 4, 5, 6, 7, 8, 9, 10, 11, 12, 13, 14] rfl rfl ?_
  refine j_ofF (A := [((k 0), oC 8 [.ref (k 1), .ref (k 2), vI nc, .ref (k 3), vI np, .ref (k 4), .ref (k 7), vI 0, .ref (k 10), .ref (k 13), .ref (k 14)]), ((k 1), oC 3 [.ref (k 17), vI pl]), ((k 2), aQ (Y 2) 4 (orow nc cad)), ((k 3), aQ (Y 3) 6 (orow np pad)), ((k 4), oC 2 [.ref (k 5), .ref (k 6), vI (ms_w (sWeeks cu n nc cs np ps S)), vI (ms_l (sWeeks cu n nc cs np ps S)), vI (ms_s (sWeeks cu n nc cs np ps S)), vI (ms_a (sWeeks cu n nc cs np ps S)), vI (ms_t (sWeeks cu n nc cs np ps S)), vI (ms_p (sWeeks cu n nc cs np ps S))]), ((k 5), aI (Y 0) 7 (ms_h (sWeeks cu n nc cs np ps S))), ((k 6), aI (Y 0) 420 (ms_m (sWeeks cu n nc cs np ps S))), ((k 7), oC 2 [.ref (k 8), .ref (k 9), vI (ms_w MS0), vI (ms_l MS0), vI (ms_s MS0), vI (ms_a MS0), vI (ms_t MS0), vI (ms_p MS0)]), ((k 8), aI (Y 0) 7 (ms_h MS0)), ((k 9), aI (Y 0) 420 (ms_m MS0)), ((k 10), oC 2 [.ref (k 11), .ref (k 12), vI (ms_w U), vI (ms_l U), vI (ms_s U), vI (ms_a U), vI (ms_t U), vI (ms_p U)]), ((k 11), aI (Y 0) 7 (ms_h U)), ((k 12), aI (Y 0) 420 (ms_m U)), ((k 13), aI (Y 0) 7 (fun _ => 0)), ((k 14), oC 7 [.ref (k 15), .ref (k 16)]), ((k 15), aI (Y 0) 271 (fun _ => 0)), ((k 16), aI (Y 0) 271 (fun _ => 0)), ((k 17), aI (Y 0) 16 pg)]) (P := PLW np nc cad pad cs ps) ?_
  exact kk _ ⟨(ok_sWeeks ⟨hS, hwk⟩ hnp hps hcs), hnp, hps, hnc, hcs, hp, U, cad, pad, rfl⟩

set_option maxHeartbeats 2000000 in
set_option maxRecDepth 100000 in
theorem tc_would {X : jX} {cc : ByteArray} {nL : Nat} {own : String} {Ts : List Cond} {rm : Room} {D : va_G} {Y : Nat → ClassId} {RO : va_W} {kc sc : Nat} {lc : List (Nat × Value)} {pc index : Nat} {st : List Value} (C : jC X cc nL own Ts rm D Y RO) {k : Nat → Nat} {np nc pl : Int} {S : MS} {pg : Int → Int} {cs : Int → CT} {ps : Int → PT} {Rows W : va_W} (hW : KWs Y k np nc pl S pg cs ps W) {cu : Int} {c : Int} {n : Int} (hrcu : -2147483648 ≤ cu ∧ cu ≤ 2147483647) (hrc : -2147483648 ≤ c ∧ c ≤ 2147483647) (hrn : -2147483648 ≤ n ∧ n ≤ 2147483647) (g : GoodIn Ts (wsV own index RX9 yX9_would wsX9_would)) (hRm : 6 + 1 ≤ rm.frames ∧ 8 + (5 + 11) + 139 ≤ rm.locals) (hcat : Nat.ble ((st.map fun v => v.category).sum) 8 = true) (hroom : kc + 0 ≤ rm.cells ∧ sc + 0 ≤ rm.slots) (hd : decode cc pc = .ok (.invokevirtual index, 3)) (kk : ∀ W' : va_W, KWs Y k np nc pl S pg cs ps W' → jW X nL (kc + 0) (sc + 0) (Rows ++ W') lc (pc + 3) (vI (rWould cu c n nc cs np ps S) :: st)) : jW X nL kc sc (Rows ++ W) lc pc (vI n :: vI c :: vI cu :: .ref (k 0) :: st) := by
  obtain ⟨⟨hS, hwk⟩, hnp, hps, hnc, hcs, hp, U, cad, pad, rfl⟩ := hW
  refine j_toF ?_
  refine j_st (ws' := [((k 0), oC 8 [.ref (k 1), .ref (k 2), vI nc, .ref (k 3), vI np, .ref (k 4), .ref (k 7), vI 0, .ref (k 10), .ref (k 13), .ref (k 14)]), ((k 1), oC 3 [.ref (k 17), vI pl]), ((k 2), aQ (Y 2) 4 (orow nc cad)), ((k 3), aQ (Y 3) 6 (orow np pad)), ((k 4), oC 2 [.ref (k 5), .ref (k 6), vI (ms_w S), vI (ms_l S), vI (ms_s S), vI (ms_a S), vI (ms_t S), vI (ms_p S)]), ((k 5), aI (Y 0) 7 (ms_h S)), ((k 6), aI (Y 0) 420 (ms_m S)), ((k 7), oC 2 [.ref (k 8), .ref (k 9), vI (ms_w MS0), vI (ms_l MS0), vI (ms_s MS0), vI (ms_a MS0), vI (ms_t MS0), vI (ms_p MS0)]), ((k 8), aI (Y 0) 7 (ms_h MS0)), ((k 9), aI (Y 0) 420 (ms_m MS0)), ((k 10), oC 2 [.ref (k 11), .ref (k 12), vI (ms_w U), vI (ms_l U), vI (ms_s U), vI (ms_a U), vI (ms_t U), vI (ms_p U)]), ((k 11), aI (Y 0) 7 (ms_h U)), ((k 12), aI (Y 0) 420 (ms_m U)), ((k 13), aI (Y 0) 7 (fun _ => 0)), ((k 14), oC 7 [.ref (k 15), .ref (k 16)]), ((k 15), aI (Y 0) 271 (fun _ => 0)), ((k 16), aI (Y 0) 271 (fun _ => 0)), ((k 17), aI (Y 0) 16 pg)] ++ (PLW np nc cad pad cs ps ++ Rows)) rfl rfl rfl ?_
  refine j_lawVi (pc := pc) (As := [vI cu, vI c, vI n]) (na := 3) (st := st) C [4, 5, 6, 10, 11, 12] [0, 1, 2, 3, 7, 8, 9, 13, 14, 15, 16, 17] (L := [((k 0), oC 8 [.ref (k 1), .ref (k 2), vI nc, .ref (k 3), vI np, .ref (k 4), .ref (k 7), vI 0, .ref (k 10), .ref (k 13), .ref (k 14)]), ((k 1), oC 3 [.ref (k 17), vI pl]), ((k 2), aQ (Y 2) 4 (orow nc cad)), ((k 3), aQ (Y 3) 6 (orow np pad)), ((k 4), oC 2 [.ref (k 5), .ref (k 6), vI (ms_w S), vI (ms_l S), vI (ms_s S), vI (ms_a S), vI (ms_t S), vI (ms_p S)]), ((k 5), aI (Y 0) 7 (ms_h S)), ((k 6), aI (Y 0) 420 (ms_m S)), ((k 7), oC 2 [.ref (k 8), .ref (k 9), vI (ms_w MS0), vI (ms_l MS0), vI (ms_s MS0), vI (ms_a MS0), vI (ms_t MS0), vI (ms_p MS0)]), ((k 8), aI (Y 0) 7 (ms_h MS0)), ((k 9), aI (Y 0) 420 (ms_m MS0)), ((k 10), oC 2 [.ref (k 11), .ref (k 12), vI (ms_w U), vI (ms_l U), vI (ms_s U), vI (ms_a U), vI (ms_t U), vI (ms_p U)]), ((k 11), aI (Y 0) 7 (ms_h U)), ((k 12), aI (Y 0) 420 (ms_m U)), ((k 13), aI (Y 0) 7 (fun _ => 0)), ((k 14), oC 7 [.ref (k 15), .ref (k 16)]), ((k 15), aI (Y 0) 271 (fun _ => 0)), ((k 16), aI (Y 0) 271 (fun _ => 0)), ((k 17), aI (Y 0) 16 pg)]) (PL := PLW np nc cad pad cs ps ++ Rows) (wc := [((k 4), oC 2 [.ref (k 5), .ref (k 6), vI (ms_w S), vI (ms_l S), vI (ms_s S), vI (ms_a S), vI (ms_t S), vI (ms_p S)]), ((k 5), aI (Y 0) 7 (ms_h S)), ((k 6), aI (Y 0) 420 (ms_m S)), ((k 10), oC 2 [.ref (k 11), .ref (k 12), vI (ms_w U), vI (ms_l U), vI (ms_s U), vI (ms_a U), vI (ms_t U), vI (ms_p U)]), ((k 11), aI (Y 0) 7 (ms_h U)), ((k 12), aI (Y 0) 420 (ms_m U))]) (wr := [((k 0), oC 8 [.ref (k 1), .ref (k 2), vI nc, .ref (k 3), vI np, .ref (k 4), .ref (k 7), vI 0, .ref (k 10), .ref (k 13), .ref (k 14)]), ((k 1), oC 3 [.ref (k 17), vI pl]), ((k 2), aQ (Y 2) 4 (orow nc cad)), ((k 3), aQ (Y 3) 6 (orow np pad)), ((k 7), oC 2 [.ref (k 8), .ref (k 9), vI (ms_w MS0), vI (ms_l MS0), vI (ms_s MS0), vI (ms_a MS0), vI (ms_t MS0), vI (ms_p MS0)]), ((k 8), aI (Y 0) 7 (ms_h MS0)), ((k 9), aI (Y 0) 420 (ms_m MS0)), ((k 13), aI (Y 0) 7 (fun _ => 0)), ((k 14), oC 7 [.ref (k 15), .ref (k 16)]), ((k 15), aI (Y 0) 271 (fun _ => 0)), ((k 16), aI (Y 0) 271 (fun _ => 0)), ((k 17), aI (Y 0) 16 pg)]) (fun l => k_would l D Y _ k nc np 0 cad cs pad ps S U cu c n (List.mem_append_left _ (List.mem_append_left _ (List.mem_of_getElem? (i := 0) rfl))) (List.mem_append_left _ (List.mem_append_left _ (List.mem_of_getElem? (i := 2) rfl))) (fun i hi => List.mem_append_left _ (List.mem_append_right _ (List.mem_append_left _ (PLW_c i hi)))) (List.mem_append_left _ (List.mem_append_left _ (List.mem_of_getElem? (i := 3) rfl))) (fun i hi => List.mem_append_left _ (List.mem_append_right _ (List.mem_append_left _ (PLW_p i hi)))) hS (by first | assumption | omega) hnc hcs hnp hps (by first | assumption | omega) (by first | assumption | omega) (by first | assumption | omega)) rfl rfl rfl rfl (by decide) rfl (Or.inr (List.mem_append_left _ (List.mem_append_left _ (List.mem_of_getElem? (i := 0) rfl)))) rfl g ⟨rfl, by decide +kernel⟩ hRm rfl rfl (Nat.le_of_ble_eq_true hcat) hroom hd (fun e w1 h => ?_)
  obtain ⟨rfl, V1, rfl⟩ := h
  refine j_permT (L' := [((k 0), oC 8 [.ref (k 1), .ref (k 2), vI nc, .ref (k 3), vI np, .ref (k 4), .ref (k 7), vI 0, .ref (k 10), .ref (k 13), .ref (k 14)]), ((k 1), oC 3 [.ref (k 17), vI pl]), ((k 2), aQ (Y 2) 4 (orow nc cad)), ((k 3), aQ (Y 3) 6 (orow np pad)), ((k 4), oC 2 [.ref (k 5), .ref (k 6), vI (ms_w S), vI (ms_l S), vI (ms_s S), vI (ms_a S), vI (ms_t S), vI (ms_p S)]), ((k 5), aI (Y 0) 7 (ms_h S)), ((k 6), aI (Y 0) 420 (ms_m S)), ((k 7), oC 2 [.ref (k 8), .ref (k 9), vI (ms_w MS0), vI (ms_l MS0), vI (ms_s MS0), vI (ms_a MS0), vI (ms_t MS0), vI (ms_p MS0)]), ((k 8), aI (Y 0) 7 (ms_h MS0)), ((k 9), aI (Y 0) 420 (ms_m MS0)), ((k 10), oC 2 [.ref (k 11), .ref (k 12), vI (ms_w V1), vI (ms_l V1), vI (ms_s V1), vI (ms_a V1), vI (ms_t V1), vI (ms_p V1)]), ((k 11), aI (Y 0) 7 (ms_h V1)), ((k 12), aI (Y 0) 420 (ms_m V1)), ((k 13), aI (Y 0) 7 (fun _ => 0)), ((k 14), oC 7 [.ref (k 15), .ref (k 16)]), ((k 15), aI (Y 0) 271 (fun _ => 0)), ((k 16), aI (Y 0) 271 (fun _ => 0)), ((k 17), aI (Y 0) 16 pg)]) [0, 1, 2, 3, 12, 13, 14, 4, 5, 6, 15, 16, 17, 7, 8, 9, 10, 11] rfl rfl ?_
  refine j_ofF (A := [((k 0), oC 8 [.ref (k 1), .ref (k 2), vI nc, .ref (k 3), vI np, .ref (k 4), .ref (k 7), vI 0, .ref (k 10), .ref (k 13), .ref (k 14)]), ((k 1), oC 3 [.ref (k 17), vI pl]), ((k 2), aQ (Y 2) 4 (orow nc cad)), ((k 3), aQ (Y 3) 6 (orow np pad)), ((k 4), oC 2 [.ref (k 5), .ref (k 6), vI (ms_w S), vI (ms_l S), vI (ms_s S), vI (ms_a S), vI (ms_t S), vI (ms_p S)]), ((k 5), aI (Y 0) 7 (ms_h S)), ((k 6), aI (Y 0) 420 (ms_m S)), ((k 7), oC 2 [.ref (k 8), .ref (k 9), vI (ms_w MS0), vI (ms_l MS0), vI (ms_s MS0), vI (ms_a MS0), vI (ms_t MS0), vI (ms_p MS0)]), ((k 8), aI (Y 0) 7 (ms_h MS0)), ((k 9), aI (Y 0) 420 (ms_m MS0)), ((k 10), oC 2 [.ref (k 11), .ref (k 12), vI (ms_w V1), vI (ms_l V1), vI (ms_s V1), vI (ms_a V1), vI (ms_t V1), vI (ms_p V1)]), ((k 11), aI (Y 0) 7 (ms_h V1)), ((k 12), aI (Y 0) 420 (ms_m V1)), ((k 13), aI (Y 0) 7 (fun _ => 0)), ((k 14), oC 7 [.ref (k 15), .ref (k 16)]), ((k 15), aI (Y 0) 271 (fun _ => 0)), ((k 16), aI (Y 0) 271 (fun _ => 0)), ((k 17), aI (Y 0) 16 pg)]) (P := PLW np nc cad pad cs ps) ?_
  exact kk _ ⟨⟨hS, hwk⟩, hnp, hps, hnc, hcs, hp, V1, cad, pad, rfl⟩

set_option maxHeartbeats 2000000 in
set_option maxRecDepth 100000 in
theorem tc_height {X : jX} {cc : ByteArray} {nL : Nat} {own : String} {Ts : List Cond} {rm : Room} {D : va_G} {Y : Nat → ClassId} {RO : va_W} {kc sc : Nat} {lc : List (Nat × Value)} {pc index : Nat} {st : List Value} (C : jC X cc nL own Ts rm D Y RO) {k : Nat → Nat} {np nc pl : Int} {S : MS} {pg : Int → Int} {cs : Int → CT} {ps : Int → PT} {Rows W : va_W} (hW : KWs Y k np nc pl S pg cs ps W) {c : Int} (hrc : -2147483648 ≤ c ∧ c ≤ 2147483647) (g : GoodIn Ts (wsV own index RX9 yX9_height wsX9_height)) (hRm : 1 + 1 ≤ rm.frames ∧ 8 + (2 + 11) + 20 ≤ rm.locals) (hcat : Nat.ble ((st.map fun v => v.category).sum) 8 = true) (hroom : kc + 0 ≤ rm.cells ∧ sc + 0 ≤ rm.slots) (hd : decode cc pc = .ok (.invokevirtual index, 3)) (kk : ∀ W' : va_W, KWs Y k np nc pl S pg cs ps W' → jW X nL (kc + 0) (sc + 0) (Rows ++ W') lc (pc + 3) (vI (rHeight c S) :: st)) : jW X nL kc sc (Rows ++ W) lc pc (vI c :: .ref (k 0) :: st) := by
  obtain ⟨⟨hS, hwk⟩, hnp, hps, hnc, hcs, hp, U, cad, pad, rfl⟩ := hW
  refine j_toF ?_
  refine j_st (ws' := [((k 0), oC 8 [.ref (k 1), .ref (k 2), vI nc, .ref (k 3), vI np, .ref (k 4), .ref (k 7), vI 0, .ref (k 10), .ref (k 13), .ref (k 14)]), ((k 1), oC 3 [.ref (k 17), vI pl]), ((k 2), aQ (Y 2) 4 (orow nc cad)), ((k 3), aQ (Y 3) 6 (orow np pad)), ((k 4), oC 2 [.ref (k 5), .ref (k 6), vI (ms_w S), vI (ms_l S), vI (ms_s S), vI (ms_a S), vI (ms_t S), vI (ms_p S)]), ((k 5), aI (Y 0) 7 (ms_h S)), ((k 6), aI (Y 0) 420 (ms_m S)), ((k 7), oC 2 [.ref (k 8), .ref (k 9), vI (ms_w MS0), vI (ms_l MS0), vI (ms_s MS0), vI (ms_a MS0), vI (ms_t MS0), vI (ms_p MS0)]), ((k 8), aI (Y 0) 7 (ms_h MS0)), ((k 9), aI (Y 0) 420 (ms_m MS0)), ((k 10), oC 2 [.ref (k 11), .ref (k 12), vI (ms_w U), vI (ms_l U), vI (ms_s U), vI (ms_a U), vI (ms_t U), vI (ms_p U)]), ((k 11), aI (Y 0) 7 (ms_h U)), ((k 12), aI (Y 0) 420 (ms_m U)), ((k 13), aI (Y 0) 7 (fun _ => 0)), ((k 14), oC 7 [.ref (k 15), .ref (k 16)]), ((k 15), aI (Y 0) 271 (fun _ => 0)), ((k 16), aI (Y 0) 271 (fun _ => 0)), ((k 17), aI (Y 0) 16 pg)] ++ (PLW np nc cad pad cs ps ++ Rows)) rfl rfl rfl ?_
  refine j_lawVi (pc := pc) (As := [vI c]) (na := 1) (st := st) C [] [0, 1, 2, 3, 4, 5, 6, 7, 8, 9, 10, 11, 12, 13, 14, 15, 16, 17] (L := [((k 0), oC 8 [.ref (k 1), .ref (k 2), vI nc, .ref (k 3), vI np, .ref (k 4), .ref (k 7), vI 0, .ref (k 10), .ref (k 13), .ref (k 14)]), ((k 1), oC 3 [.ref (k 17), vI pl]), ((k 2), aQ (Y 2) 4 (orow nc cad)), ((k 3), aQ (Y 3) 6 (orow np pad)), ((k 4), oC 2 [.ref (k 5), .ref (k 6), vI (ms_w S), vI (ms_l S), vI (ms_s S), vI (ms_a S), vI (ms_t S), vI (ms_p S)]), ((k 5), aI (Y 0) 7 (ms_h S)), ((k 6), aI (Y 0) 420 (ms_m S)), ((k 7), oC 2 [.ref (k 8), .ref (k 9), vI (ms_w MS0), vI (ms_l MS0), vI (ms_s MS0), vI (ms_a MS0), vI (ms_t MS0), vI (ms_p MS0)]), ((k 8), aI (Y 0) 7 (ms_h MS0)), ((k 9), aI (Y 0) 420 (ms_m MS0)), ((k 10), oC 2 [.ref (k 11), .ref (k 12), vI (ms_w U), vI (ms_l U), vI (ms_s U), vI (ms_a U), vI (ms_t U), vI (ms_p U)]), ((k 11), aI (Y 0) 7 (ms_h U)), ((k 12), aI (Y 0) 420 (ms_m U)), ((k 13), aI (Y 0) 7 (fun _ => 0)), ((k 14), oC 7 [.ref (k 15), .ref (k 16)]), ((k 15), aI (Y 0) 271 (fun _ => 0)), ((k 16), aI (Y 0) 271 (fun _ => 0)), ((k 17), aI (Y 0) 16 pg)]) (PL := PLW np nc cad pad cs ps ++ Rows) (wc := []) (wr := [((k 0), oC 8 [.ref (k 1), .ref (k 2), vI nc, .ref (k 3), vI np, .ref (k 4), .ref (k 7), vI 0, .ref (k 10), .ref (k 13), .ref (k 14)]), ((k 1), oC 3 [.ref (k 17), vI pl]), ((k 2), aQ (Y 2) 4 (orow nc cad)), ((k 3), aQ (Y 3) 6 (orow np pad)), ((k 4), oC 2 [.ref (k 5), .ref (k 6), vI (ms_w S), vI (ms_l S), vI (ms_s S), vI (ms_a S), vI (ms_t S), vI (ms_p S)]), ((k 5), aI (Y 0) 7 (ms_h S)), ((k 6), aI (Y 0) 420 (ms_m S)), ((k 7), oC 2 [.ref (k 8), .ref (k 9), vI (ms_w MS0), vI (ms_l MS0), vI (ms_s MS0), vI (ms_a MS0), vI (ms_t MS0), vI (ms_p MS0)]), ((k 8), aI (Y 0) 7 (ms_h MS0)), ((k 9), aI (Y 0) 420 (ms_m MS0)), ((k 10), oC 2 [.ref (k 11), .ref (k 12), vI (ms_w U), vI (ms_l U), vI (ms_s U), vI (ms_a U), vI (ms_t U), vI (ms_p U)]), ((k 11), aI (Y 0) 7 (ms_h U)), ((k 12), aI (Y 0) 420 (ms_m U)), ((k 13), aI (Y 0) 7 (fun _ => 0)), ((k 14), oC 7 [.ref (k 15), .ref (k 16)]), ((k 15), aI (Y 0) 271 (fun _ => 0)), ((k 16), aI (Y 0) 271 (fun _ => 0)), ((k 17), aI (Y 0) 16 pg)]) (fun l => k_height l D Y _ k nc np 0 S c (List.mem_append_left _ (List.mem_append_left _ (List.mem_of_getElem? (i := 0) rfl))) (List.mem_append_left _ (List.mem_append_left _ (List.mem_of_getElem? (i := 4) rfl))) (List.mem_append_left _ (List.mem_append_left _ (List.mem_of_getElem? (i := 5) rfl))) hS (by first | assumption | omega)) rfl rfl rfl rfl (by decide) rfl (Or.inr (List.mem_append_left _ (List.mem_append_left _ (List.mem_of_getElem? (i := 0) rfl)))) rfl g ⟨rfl, by decide +kernel⟩ hRm rfl rfl (Nat.le_of_ble_eq_true hcat) hroom hd (fun e w1 h => ?_)
  obtain ⟨rfl, rfl⟩ := h
  refine j_permT (L' := [((k 0), oC 8 [.ref (k 1), .ref (k 2), vI nc, .ref (k 3), vI np, .ref (k 4), .ref (k 7), vI 0, .ref (k 10), .ref (k 13), .ref (k 14)]), ((k 1), oC 3 [.ref (k 17), vI pl]), ((k 2), aQ (Y 2) 4 (orow nc cad)), ((k 3), aQ (Y 3) 6 (orow np pad)), ((k 4), oC 2 [.ref (k 5), .ref (k 6), vI (ms_w S), vI (ms_l S), vI (ms_s S), vI (ms_a S), vI (ms_t S), vI (ms_p S)]), ((k 5), aI (Y 0) 7 (ms_h S)), ((k 6), aI (Y 0) 420 (ms_m S)), ((k 7), oC 2 [.ref (k 8), .ref (k 9), vI (ms_w MS0), vI (ms_l MS0), vI (ms_s MS0), vI (ms_a MS0), vI (ms_t MS0), vI (ms_p MS0)]), ((k 8), aI (Y 0) 7 (ms_h MS0)), ((k 9), aI (Y 0) 420 (ms_m MS0)), ((k 10), oC 2 [.ref (k 11), .ref (k 12), vI (ms_w U), vI (ms_l U), vI (ms_s U), vI (ms_a U), vI (ms_t U), vI (ms_p U)]), ((k 11), aI (Y 0) 7 (ms_h U)), ((k 12), aI (Y 0) 420 (ms_m U)), ((k 13), aI (Y 0) 7 (fun _ => 0)), ((k 14), oC 7 [.ref (k 15), .ref (k 16)]), ((k 15), aI (Y 0) 271 (fun _ => 0)), ((k 16), aI (Y 0) 271 (fun _ => 0)), ((k 17), aI (Y 0) 16 pg)]) [0, 1, 2, 3, 4, 5, 6, 7, 8, 9, 10, 11, 12, 13, 14, 15, 16, 17] rfl rfl ?_
  refine j_ofF (A := [((k 0), oC 8 [.ref (k 1), .ref (k 2), vI nc, .ref (k 3), vI np, .ref (k 4), .ref (k 7), vI 0, .ref (k 10), .ref (k 13), .ref (k 14)]), ((k 1), oC 3 [.ref (k 17), vI pl]), ((k 2), aQ (Y 2) 4 (orow nc cad)), ((k 3), aQ (Y 3) 6 (orow np pad)), ((k 4), oC 2 [.ref (k 5), .ref (k 6), vI (ms_w S), vI (ms_l S), vI (ms_s S), vI (ms_a S), vI (ms_t S), vI (ms_p S)]), ((k 5), aI (Y 0) 7 (ms_h S)), ((k 6), aI (Y 0) 420 (ms_m S)), ((k 7), oC 2 [.ref (k 8), .ref (k 9), vI (ms_w MS0), vI (ms_l MS0), vI (ms_s MS0), vI (ms_a MS0), vI (ms_t MS0), vI (ms_p MS0)]), ((k 8), aI (Y 0) 7 (ms_h MS0)), ((k 9), aI (Y 0) 420 (ms_m MS0)), ((k 10), oC 2 [.ref (k 11), .ref (k 12), vI (ms_w U), vI (ms_l U), vI (ms_s U), vI (ms_a U), vI (ms_t U), vI (ms_p U)]), ((k 11), aI (Y 0) 7 (ms_h U)), ((k 12), aI (Y 0) 420 (ms_m U)), ((k 13), aI (Y 0) 7 (fun _ => 0)), ((k 14), oC 7 [.ref (k 15), .ref (k 16)]), ((k 15), aI (Y 0) 271 (fun _ => 0)), ((k 16), aI (Y 0) 271 (fun _ => 0)), ((k 17), aI (Y 0) 16 pg)]) (P := PLW np nc cad pad cs ps) ?_
  exact kk _ ⟨⟨hS, hwk⟩, hnp, hps, hnc, hcs, hp, U, cad, pad, rfl⟩

set_option maxHeartbeats 2000000 in
set_option maxRecDepth 100000 in
theorem tc_mark {X : jX} {cc : ByteArray} {nL : Nat} {own : String} {Ts : List Cond} {rm : Room} {D : va_G} {Y : Nat → ClassId} {RO : va_W} {kc sc : Nat} {lc : List (Nat × Value)} {pc index : Nat} {st : List Value} (C : jC X cc nL own Ts rm D Y RO) {k : Nat → Nat} {np nc pl : Int} {S : MS} {pg : Int → Int} {cs : Int → CT} {ps : Int → PT} {Rows W : va_W} (hW : KWs Y k np nc pl S pg cs ps W) {c : Int} {d : Int} (hrc : -2147483648 ≤ c ∧ c ≤ 2147483647) (hrd : -2147483648 ≤ d ∧ d ≤ 2147483647) (g : GoodIn Ts (wsV own index RX9 yX9_mark wsX9_mark)) (hRm : 2 + 1 ≤ rm.frames ∧ 8 + (3 + 11) + 43 ≤ rm.locals) (hcat : Nat.ble ((st.map fun v => v.category).sum) 8 = true) (hroom : kc + 0 ≤ rm.cells ∧ sc + 0 ≤ rm.slots) (hd : decode cc pc = .ok (.invokevirtual index, 3)) (kk : ∀ W' : va_W, KWs Y k np nc pl S pg cs ps W' → jW X nL (kc + 0) (sc + 0) (Rows ++ W') lc (pc + 3) (vI (rMark c d S) :: st)) : jW X nL kc sc (Rows ++ W) lc pc (vI d :: vI c :: .ref (k 0) :: st) := by
  obtain ⟨⟨hS, hwk⟩, hnp, hps, hnc, hcs, hp, U, cad, pad, rfl⟩ := hW
  refine j_toF ?_
  refine j_st (ws' := [((k 0), oC 8 [.ref (k 1), .ref (k 2), vI nc, .ref (k 3), vI np, .ref (k 4), .ref (k 7), vI 0, .ref (k 10), .ref (k 13), .ref (k 14)]), ((k 1), oC 3 [.ref (k 17), vI pl]), ((k 2), aQ (Y 2) 4 (orow nc cad)), ((k 3), aQ (Y 3) 6 (orow np pad)), ((k 4), oC 2 [.ref (k 5), .ref (k 6), vI (ms_w S), vI (ms_l S), vI (ms_s S), vI (ms_a S), vI (ms_t S), vI (ms_p S)]), ((k 5), aI (Y 0) 7 (ms_h S)), ((k 6), aI (Y 0) 420 (ms_m S)), ((k 7), oC 2 [.ref (k 8), .ref (k 9), vI (ms_w MS0), vI (ms_l MS0), vI (ms_s MS0), vI (ms_a MS0), vI (ms_t MS0), vI (ms_p MS0)]), ((k 8), aI (Y 0) 7 (ms_h MS0)), ((k 9), aI (Y 0) 420 (ms_m MS0)), ((k 10), oC 2 [.ref (k 11), .ref (k 12), vI (ms_w U), vI (ms_l U), vI (ms_s U), vI (ms_a U), vI (ms_t U), vI (ms_p U)]), ((k 11), aI (Y 0) 7 (ms_h U)), ((k 12), aI (Y 0) 420 (ms_m U)), ((k 13), aI (Y 0) 7 (fun _ => 0)), ((k 14), oC 7 [.ref (k 15), .ref (k 16)]), ((k 15), aI (Y 0) 271 (fun _ => 0)), ((k 16), aI (Y 0) 271 (fun _ => 0)), ((k 17), aI (Y 0) 16 pg)] ++ (PLW np nc cad pad cs ps ++ Rows)) rfl rfl rfl ?_
  refine j_lawVi (pc := pc) (As := [vI c, vI d]) (na := 2) (st := st) C [] [0, 1, 2, 3, 4, 5, 6, 7, 8, 9, 10, 11, 12, 13, 14, 15, 16, 17] (L := [((k 0), oC 8 [.ref (k 1), .ref (k 2), vI nc, .ref (k 3), vI np, .ref (k 4), .ref (k 7), vI 0, .ref (k 10), .ref (k 13), .ref (k 14)]), ((k 1), oC 3 [.ref (k 17), vI pl]), ((k 2), aQ (Y 2) 4 (orow nc cad)), ((k 3), aQ (Y 3) 6 (orow np pad)), ((k 4), oC 2 [.ref (k 5), .ref (k 6), vI (ms_w S), vI (ms_l S), vI (ms_s S), vI (ms_a S), vI (ms_t S), vI (ms_p S)]), ((k 5), aI (Y 0) 7 (ms_h S)), ((k 6), aI (Y 0) 420 (ms_m S)), ((k 7), oC 2 [.ref (k 8), .ref (k 9), vI (ms_w MS0), vI (ms_l MS0), vI (ms_s MS0), vI (ms_a MS0), vI (ms_t MS0), vI (ms_p MS0)]), ((k 8), aI (Y 0) 7 (ms_h MS0)), ((k 9), aI (Y 0) 420 (ms_m MS0)), ((k 10), oC 2 [.ref (k 11), .ref (k 12), vI (ms_w U), vI (ms_l U), vI (ms_s U), vI (ms_a U), vI (ms_t U), vI (ms_p U)]), ((k 11), aI (Y 0) 7 (ms_h U)), ((k 12), aI (Y 0) 420 (ms_m U)), ((k 13), aI (Y 0) 7 (fun _ => 0)), ((k 14), oC 7 [.ref (k 15), .ref (k 16)]), ((k 15), aI (Y 0) 271 (fun _ => 0)), ((k 16), aI (Y 0) 271 (fun _ => 0)), ((k 17), aI (Y 0) 16 pg)]) (PL := PLW np nc cad pad cs ps ++ Rows) (wc := []) (wr := [((k 0), oC 8 [.ref (k 1), .ref (k 2), vI nc, .ref (k 3), vI np, .ref (k 4), .ref (k 7), vI 0, .ref (k 10), .ref (k 13), .ref (k 14)]), ((k 1), oC 3 [.ref (k 17), vI pl]), ((k 2), aQ (Y 2) 4 (orow nc cad)), ((k 3), aQ (Y 3) 6 (orow np pad)), ((k 4), oC 2 [.ref (k 5), .ref (k 6), vI (ms_w S), vI (ms_l S), vI (ms_s S), vI (ms_a S), vI (ms_t S), vI (ms_p S)]), ((k 5), aI (Y 0) 7 (ms_h S)), ((k 6), aI (Y 0) 420 (ms_m S)), ((k 7), oC 2 [.ref (k 8), .ref (k 9), vI (ms_w MS0), vI (ms_l MS0), vI (ms_s MS0), vI (ms_a MS0), vI (ms_t MS0), vI (ms_p MS0)]), ((k 8), aI (Y 0) 7 (ms_h MS0)), ((k 9), aI (Y 0) 420 (ms_m MS0)), ((k 10), oC 2 [.ref (k 11), .ref (k 12), vI (ms_w U), vI (ms_l U), vI (ms_s U), vI (ms_a U), vI (ms_t U), vI (ms_p U)]), ((k 11), aI (Y 0) 7 (ms_h U)), ((k 12), aI (Y 0) 420 (ms_m U)), ((k 13), aI (Y 0) 7 (fun _ => 0)), ((k 14), oC 7 [.ref (k 15), .ref (k 16)]), ((k 15), aI (Y 0) 271 (fun _ => 0)), ((k 16), aI (Y 0) 271 (fun _ => 0)), ((k 17), aI (Y 0) 16 pg)]) (fun l => k_mark l D Y _ k nc np 0 S c d (List.mem_append_left _ (List.mem_append_left _ (List.mem_of_getElem? (i := 0) rfl))) (List.mem_append_left _ (List.mem_append_left _ (List.mem_of_getElem? (i := 4) rfl))) (List.mem_append_left _ (List.mem_append_left _ (List.mem_of_getElem? (i := 5) rfl))) (List.mem_append_left _ (List.mem_append_left _ (List.mem_of_getElem? (i := 6) rfl))) hS (by first | assumption | omega) (by first | assumption | omega)) rfl rfl rfl rfl (by decide) rfl (Or.inr (List.mem_append_left _ (List.mem_append_left _ (List.mem_of_getElem? (i := 0) rfl)))) rfl g ⟨rfl, by decide +kernel⟩ hRm rfl rfl (Nat.le_of_ble_eq_true hcat) hroom hd (fun e w1 h => ?_)
  obtain ⟨rfl, rfl⟩ := h
  refine j_permT (L' := [((k 0), oC 8 [.ref (k 1), .ref (k 2), vI nc, .ref (k 3), vI np, .ref (k 4), .ref (k 7), vI 0, .ref (k 10), .ref (k 13), .ref (k 14)]), ((k 1), oC 3 [.ref (k 17), vI pl]), ((k 2), aQ (Y 2) 4 (orow nc cad)), ((k 3), aQ (Y 3) 6 (orow np pad)), ((k 4), oC 2 [.ref (k 5), .ref (k 6), vI (ms_w S), vI (ms_l S), vI (ms_s S), vI (ms_a S), vI (ms_t S), vI (ms_p S)]), ((k 5), aI (Y 0) 7 (ms_h S)), ((k 6), aI (Y 0) 420 (ms_m S)), ((k 7), oC 2 [.ref (k 8), .ref (k 9), vI (ms_w MS0), vI (ms_l MS0), vI (ms_s MS0), vI (ms_a MS0), vI (ms_t MS0), vI (ms_p MS0)]), ((k 8), aI (Y 0) 7 (ms_h MS0)), ((k 9), aI (Y 0) 420 (ms_m MS0)), ((k 10), oC 2 [.ref (k 11), .ref (k 12), vI (ms_w U), vI (ms_l U), vI (ms_s U), vI (ms_a U), vI (ms_t U), vI (ms_p U)]), ((k 11), aI (Y 0) 7 (ms_h U)), ((k 12), aI (Y 0) 420 (ms_m U)), ((k 13), aI (Y 0) 7 (fun _ => 0)), ((k 14), oC 7 [.ref (k 15), .ref (k 16)]), ((k 15), aI (Y 0) 271 (fun _ => 0)), ((k 16), aI (Y 0) 271 (fun _ => 0)), ((k 17), aI (Y 0) 16 pg)]) [0, 1, 2, 3, 4, 5, 6, 7, 8, 9, 10, 11, 12, 13, 14, 15, 16, 17] rfl rfl ?_
  refine j_ofF (A := [((k 0), oC 8 [.ref (k 1), .ref (k 2), vI nc, .ref (k 3), vI np, .ref (k 4), .ref (k 7), vI 0, .ref (k 10), .ref (k 13), .ref (k 14)]), ((k 1), oC 3 [.ref (k 17), vI pl]), ((k 2), aQ (Y 2) 4 (orow nc cad)), ((k 3), aQ (Y 3) 6 (orow np pad)), ((k 4), oC 2 [.ref (k 5), .ref (k 6), vI (ms_w S), vI (ms_l S), vI (ms_s S), vI (ms_a S), vI (ms_t S), vI (ms_p S)]), ((k 5), aI (Y 0) 7 (ms_h S)), ((k 6), aI (Y 0) 420 (ms_m S)), ((k 7), oC 2 [.ref (k 8), .ref (k 9), vI (ms_w MS0), vI (ms_l MS0), vI (ms_s MS0), vI (ms_a MS0), vI (ms_t MS0), vI (ms_p MS0)]), ((k 8), aI (Y 0) 7 (ms_h MS0)), ((k 9), aI (Y 0) 420 (ms_m MS0)), ((k 10), oC 2 [.ref (k 11), .ref (k 12), vI (ms_w U), vI (ms_l U), vI (ms_s U), vI (ms_a U), vI (ms_t U), vI (ms_p U)]), ((k 11), aI (Y 0) 7 (ms_h U)), ((k 12), aI (Y 0) 420 (ms_m U)), ((k 13), aI (Y 0) 7 (fun _ => 0)), ((k 14), oC 7 [.ref (k 15), .ref (k 16)]), ((k 15), aI (Y 0) 271 (fun _ => 0)), ((k 16), aI (Y 0) 271 (fun _ => 0)), ((k 17), aI (Y 0) 16 pg)]) (P := PLW np nc cad pad cs ps) ?_
  exact kk _ ⟨⟨hS, hwk⟩, hnp, hps, hnc, hcs, hp, U, cad, pad, rfl⟩

set_option maxHeartbeats 2000000 in
set_option maxRecDepth 100000 in
theorem tc_dated {X : jX} {cc : ByteArray} {nL : Nat} {own : String} {Ts : List Cond} {rm : Room} {D : va_G} {Y : Nat → ClassId} {RO : va_W} {kc sc : Nat} {lc : List (Nat × Value)} {pc index : Nat} {st : List Value} (C : jC X cc nL own Ts rm D Y RO) {k : Nat → Nat} {np nc pl : Int} {S : MS} {pg : Int → Int} {cs : Int → CT} {ps : Int → PT} {Rows W : va_W} (hW : KWs Y k np nc pl S pg cs ps W) {c : Int} {w : Int} (hrc : -2147483648 ≤ c ∧ c ≤ 2147483647) (hrw : -2147483648 ≤ w ∧ w ≤ 2147483647) (g : GoodIn Ts (wsV own index RX9 yX9_dated wsX9_dated)) (hRm : 2 + 1 ≤ rm.frames ∧ 8 + (5 + 11) + 43 ≤ rm.locals) (hcat : Nat.ble ((st.map fun v => v.category).sum) 8 = true) (hroom : kc + 0 ≤ rm.cells ∧ sc + 0 ≤ rm.slots) (hd : decode cc pc = .ok (.invokevirtual index, 3)) (kk : ∀ W' : va_W, KWs Y k np nc pl S pg cs ps W' → jW X nL (kc + 0) (sc + 0) (Rows ++ W') lc (pc + 3) (vI (rDated c w S) :: st)) : jW X nL kc sc (Rows ++ W) lc pc (vI w :: vI c :: .ref (k 0) :: st) := by
  obtain ⟨⟨hS, hwk⟩, hnp, hps, hnc, hcs, hp, U, cad, pad, rfl⟩ := hW
  refine j_toF ?_
  refine j_st (ws' := [((k 0), oC 8 [.ref (k 1), .ref (k 2), vI nc, .ref (k 3), vI np, .ref (k 4), .ref (k 7), vI 0, .ref (k 10), .ref (k 13), .ref (k 14)]), ((k 1), oC 3 [.ref (k 17), vI pl]), ((k 2), aQ (Y 2) 4 (orow nc cad)), ((k 3), aQ (Y 3) 6 (orow np pad)), ((k 4), oC 2 [.ref (k 5), .ref (k 6), vI (ms_w S), vI (ms_l S), vI (ms_s S), vI (ms_a S), vI (ms_t S), vI (ms_p S)]), ((k 5), aI (Y 0) 7 (ms_h S)), ((k 6), aI (Y 0) 420 (ms_m S)), ((k 7), oC 2 [.ref (k 8), .ref (k 9), vI (ms_w MS0), vI (ms_l MS0), vI (ms_s MS0), vI (ms_a MS0), vI (ms_t MS0), vI (ms_p MS0)]), ((k 8), aI (Y 0) 7 (ms_h MS0)), ((k 9), aI (Y 0) 420 (ms_m MS0)), ((k 10), oC 2 [.ref (k 11), .ref (k 12), vI (ms_w U), vI (ms_l U), vI (ms_s U), vI (ms_a U), vI (ms_t U), vI (ms_p U)]), ((k 11), aI (Y 0) 7 (ms_h U)), ((k 12), aI (Y 0) 420 (ms_m U)), ((k 13), aI (Y 0) 7 (fun _ => 0)), ((k 14), oC 7 [.ref (k 15), .ref (k 16)]), ((k 15), aI (Y 0) 271 (fun _ => 0)), ((k 16), aI (Y 0) 271 (fun _ => 0)), ((k 17), aI (Y 0) 16 pg)] ++ (PLW np nc cad pad cs ps ++ Rows)) rfl rfl rfl ?_
  refine j_lawVi (pc := pc) (As := [vI c, vI w]) (na := 2) (st := st) C [] [0, 1, 2, 3, 4, 5, 6, 7, 8, 9, 10, 11, 12, 13, 14, 15, 16, 17] (L := [((k 0), oC 8 [.ref (k 1), .ref (k 2), vI nc, .ref (k 3), vI np, .ref (k 4), .ref (k 7), vI 0, .ref (k 10), .ref (k 13), .ref (k 14)]), ((k 1), oC 3 [.ref (k 17), vI pl]), ((k 2), aQ (Y 2) 4 (orow nc cad)), ((k 3), aQ (Y 3) 6 (orow np pad)), ((k 4), oC 2 [.ref (k 5), .ref (k 6), vI (ms_w S), vI (ms_l S), vI (ms_s S), vI (ms_a S), vI (ms_t S), vI (ms_p S)]), ((k 5), aI (Y 0) 7 (ms_h S)), ((k 6), aI (Y 0) 420 (ms_m S)), ((k 7), oC 2 [.ref (k 8), .ref (k 9), vI (ms_w MS0), vI (ms_l MS0), vI (ms_s MS0), vI (ms_a MS0), vI (ms_t MS0), vI (ms_p MS0)]), ((k 8), aI (Y 0) 7 (ms_h MS0)), ((k 9), aI (Y 0) 420 (ms_m MS0)), ((k 10), oC 2 [.ref (k 11), .ref (k 12), vI (ms_w U), vI (ms_l U), vI (ms_s U), vI (ms_a U), vI (ms_t U), vI (ms_p U)]), ((k 11), aI (Y 0) 7 (ms_h U)), ((k 12), aI (Y 0) 420 (ms_m U)), ((k 13), aI (Y 0) 7 (fun _ => 0)), ((k 14), oC 7 [.ref (k 15), .ref (k 16)]), ((k 15), aI (Y 0) 271 (fun _ => 0)), ((k 16), aI (Y 0) 271 (fun _ => 0)), ((k 17), aI (Y 0) 16 pg)]) (PL := PLW np nc cad pad cs ps ++ Rows) (wc := []) (wr := [((k 0), oC 8 [.ref (k 1), .ref (k 2), vI nc, .ref (k 3), vI np, .ref (k 4), .ref (k 7), vI 0, .ref (k 10), .ref (k 13), .ref (k 14)]), ((k 1), oC 3 [.ref (k 17), vI pl]), ((k 2), aQ (Y 2) 4 (orow nc cad)), ((k 3), aQ (Y 3) 6 (orow np pad)), ((k 4), oC 2 [.ref (k 5), .ref (k 6), vI (ms_w S), vI (ms_l S), vI (ms_s S), vI (ms_a S), vI (ms_t S), vI (ms_p S)]), ((k 5), aI (Y 0) 7 (ms_h S)), ((k 6), aI (Y 0) 420 (ms_m S)), ((k 7), oC 2 [.ref (k 8), .ref (k 9), vI (ms_w MS0), vI (ms_l MS0), vI (ms_s MS0), vI (ms_a MS0), vI (ms_t MS0), vI (ms_p MS0)]), ((k 8), aI (Y 0) 7 (ms_h MS0)), ((k 9), aI (Y 0) 420 (ms_m MS0)), ((k 10), oC 2 [.ref (k 11), .ref (k 12), vI (ms_w U), vI (ms_l U), vI (ms_s U), vI (ms_a U), vI (ms_t U), vI (ms_p U)]), ((k 11), aI (Y 0) 7 (ms_h U)), ((k 12), aI (Y 0) 420 (ms_m U)), ((k 13), aI (Y 0) 7 (fun _ => 0)), ((k 14), oC 7 [.ref (k 15), .ref (k 16)]), ((k 15), aI (Y 0) 271 (fun _ => 0)), ((k 16), aI (Y 0) 271 (fun _ => 0)), ((k 17), aI (Y 0) 16 pg)]) (fun l => k_dated l D Y _ k nc np 0 S c w (List.mem_append_left _ (List.mem_append_left _ (List.mem_of_getElem? (i := 0) rfl))) (List.mem_append_left _ (List.mem_append_left _ (List.mem_of_getElem? (i := 4) rfl))) (List.mem_append_left _ (List.mem_append_left _ (List.mem_of_getElem? (i := 5) rfl))) (List.mem_append_left _ (List.mem_append_left _ (List.mem_of_getElem? (i := 6) rfl))) hS (by first | assumption | omega) (by first | assumption | omega) (by first | assumption | omega)) rfl rfl rfl rfl (by decide) rfl (Or.inr (List.mem_append_left _ (List.mem_append_left _ (List.mem_of_getElem? (i := 0) rfl)))) rfl g ⟨rfl, by decide +kernel⟩ hRm rfl rfl (Nat.le_of_ble_eq_true hcat) hroom hd (fun e w1 h => ?_)
  obtain ⟨rfl, rfl⟩ := h
  refine j_permT (L' := [((k 0), oC 8 [.ref (k 1), .ref (k 2), vI nc, .ref (k 3), vI np, .ref (k 4), .ref (k 7), vI 0, .ref (k 10), .ref (k 13), .ref (k 14)]), ((k 1), oC 3 [.ref (k 17), vI pl]), ((k 2), aQ (Y 2) 4 (orow nc cad)), ((k 3), aQ (Y 3) 6 (orow np pad)), ((k 4), oC 2 [.ref (k 5), .ref (k 6), vI (ms_w S), vI (ms_l S), vI (ms_s S), vI (ms_a S), vI (ms_t S), vI (ms_p S)]), ((k 5), aI (Y 0) 7 (ms_h S)), ((k 6), aI (Y 0) 420 (ms_m S)), ((k 7), oC 2 [.ref (k 8), .ref (k 9), vI (ms_w MS0), vI (ms_l MS0), vI (ms_s MS0), vI (ms_a MS0), vI (ms_t MS0), vI (ms_p MS0)]), ((k 8), aI (Y 0) 7 (ms_h MS0)), ((k 9), aI (Y 0) 420 (ms_m MS0)), ((k 10), oC 2 [.ref (k 11), .ref (k 12), vI (ms_w U), vI (ms_l U), vI (ms_s U), vI (ms_a U), vI (ms_t U), vI (ms_p U)]), ((k 11), aI (Y 0) 7 (ms_h U)), ((k 12), aI (Y 0) 420 (ms_m U)), ((k 13), aI (Y 0) 7 (fun _ => 0)), ((k 14), oC 7 [.ref (k 15), .ref (k 16)]), ((k 15), aI (Y 0) 271 (fun _ => 0)), ((k 16), aI (Y 0) 271 (fun _ => 0)), ((k 17), aI (Y 0) 16 pg)]) [0, 1, 2, 3, 4, 5, 6, 7, 8, 9, 10, 11, 12, 13, 14, 15, 16, 17] rfl rfl ?_
  refine j_ofF (A := [((k 0), oC 8 [.ref (k 1), .ref (k 2), vI nc, .ref (k 3), vI np, .ref (k 4), .ref (k 7), vI 0, .ref (k 10), .ref (k 13), .ref (k 14)]), ((k 1), oC 3 [.ref (k 17), vI pl]), ((k 2), aQ (Y 2) 4 (orow nc cad)), ((k 3), aQ (Y 3) 6 (orow np pad)), ((k 4), oC 2 [.ref (k 5), .ref (k 6), vI (ms_w S), vI (ms_l S), vI (ms_s S), vI (ms_a S), vI (ms_t S), vI (ms_p S)]), ((k 5), aI (Y 0) 7 (ms_h S)), ((k 6), aI (Y 0) 420 (ms_m S)), ((k 7), oC 2 [.ref (k 8), .ref (k 9), vI (ms_w MS0), vI (ms_l MS0), vI (ms_s MS0), vI (ms_a MS0), vI (ms_t MS0), vI (ms_p MS0)]), ((k 8), aI (Y 0) 7 (ms_h MS0)), ((k 9), aI (Y 0) 420 (ms_m MS0)), ((k 10), oC 2 [.ref (k 11), .ref (k 12), vI (ms_w U), vI (ms_l U), vI (ms_s U), vI (ms_a U), vI (ms_t U), vI (ms_p U)]), ((k 11), aI (Y 0) 7 (ms_h U)), ((k 12), aI (Y 0) 420 (ms_m U)), ((k 13), aI (Y 0) 7 (fun _ => 0)), ((k 14), oC 7 [.ref (k 15), .ref (k 16)]), ((k 15), aI (Y 0) 271 (fun _ => 0)), ((k 16), aI (Y 0) 271 (fun _ => 0)), ((k 17), aI (Y 0) 16 pg)]) (P := PLW np nc cad pad cs ps) ?_
  exact kk _ ⟨⟨hS, hwk⟩, hnp, hps, hnc, hcs, hp, U, cad, pad, rfl⟩

set_option maxHeartbeats 2000000 in
set_option maxRecDepth 100000 in
theorem tc_custom {X : jX} {cc : ByteArray} {nL : Nat} {own : String} {Ts : List Cond} {rm : Room} {D : va_G} {Y : Nat → ClassId} {RO : va_W} {kc sc : Nat} {lc : List (Nat × Value)} {pc index : Nat} {st : List Value} (C : jC X cc nL own Ts rm D Y RO) {k : Nat → Nat} {np nc pl : Int} {S : MS} {pg : Int → Int} {cs : Int → CT} {ps : Int → PT} {Rows W : va_W} (hW : KWs Y k np nc pl S pg cs ps W)  (hok : cusOk pg pl nc) (g : GoodIn Ts (wsV own index RX9 yX9_custom wsX9_custom)) (hRm : 4 + 1 ≤ rm.frames ∧ 8 + (1 + 11) + 82 ≤ rm.locals) (hcat : Nat.ble ((st.map fun v => v.category).sum) 8 = true) (hroom : kc + 1 ≤ rm.cells ∧ sc + 3 ≤ rm.slots) (hd : decode cc pc = .ok (.invokevirtual index, 3)) (kk : ∀ W' : va_W, KWs Y k np (nc + 1) 0 S pg (up cs nc (cusI pg pl)) ps W' → jW X nL (kc + 1) (sc + 3) (Rows ++ W') lc (pc + 3) (vI (rCustom pg pl nc) :: st)) : jW X nL kc sc (Rows ++ W) lc pc (.ref (k 0) :: st) := by
  obtain ⟨⟨hS, hwk⟩, hnp, hps, hnc, hcs, hp, U, cad, pad, rfl⟩ := hW
  refine j_toF ?_
  refine j_st (ws' := [((k 0), oC 8 [.ref (k 1), .ref (k 2), vI nc, .ref (k 3), vI np, .ref (k 4), .ref (k 7), vI 0, .ref (k 10), .ref (k 13), .ref (k 14)]), ((k 1), oC 3 [.ref (k 17), vI pl]), ((k 2), aQ (Y 2) 4 (orow nc cad)), ((k 3), aQ (Y 3) 6 (orow np pad)), ((k 4), oC 2 [.ref (k 5), .ref (k 6), vI (ms_w S), vI (ms_l S), vI (ms_s S), vI (ms_a S), vI (ms_t S), vI (ms_p S)]), ((k 5), aI (Y 0) 7 (ms_h S)), ((k 6), aI (Y 0) 420 (ms_m S)), ((k 7), oC 2 [.ref (k 8), .ref (k 9), vI (ms_w MS0), vI (ms_l MS0), vI (ms_s MS0), vI (ms_a MS0), vI (ms_t MS0), vI (ms_p MS0)]), ((k 8), aI (Y 0) 7 (ms_h MS0)), ((k 9), aI (Y 0) 420 (ms_m MS0)), ((k 10), oC 2 [.ref (k 11), .ref (k 12), vI (ms_w U), vI (ms_l U), vI (ms_s U), vI (ms_a U), vI (ms_t U), vI (ms_p U)]), ((k 11), aI (Y 0) 7 (ms_h U)), ((k 12), aI (Y 0) 420 (ms_m U)), ((k 13), aI (Y 0) 7 (fun _ => 0)), ((k 14), oC 7 [.ref (k 15), .ref (k 16)]), ((k 15), aI (Y 0) 271 (fun _ => 0)), ((k 16), aI (Y 0) 271 (fun _ => 0)), ((k 17), aI (Y 0) 16 pg)] ++ (PLW np nc cad pad cs ps ++ Rows)) rfl rfl rfl ?_
  refine j_lawVi (pc := pc) (As := []) (na := 0) (st := st) C [0, 2, 1] [3, 4, 5, 6, 7, 8, 9, 10, 11, 12, 13, 14, 15, 16, 17] (L := [((k 0), oC 8 [.ref (k 1), .ref (k 2), vI nc, .ref (k 3), vI np, .ref (k 4), .ref (k 7), vI 0, .ref (k 10), .ref (k 13), .ref (k 14)]), ((k 1), oC 3 [.ref (k 17), vI pl]), ((k 2), aQ (Y 2) 4 (orow nc cad)), ((k 3), aQ (Y 3) 6 (orow np pad)), ((k 4), oC 2 [.ref (k 5), .ref (k 6), vI (ms_w S), vI (ms_l S), vI (ms_s S), vI (ms_a S), vI (ms_t S), vI (ms_p S)]), ((k 5), aI (Y 0) 7 (ms_h S)), ((k 6), aI (Y 0) 420 (ms_m S)), ((k 7), oC 2 [.ref (k 8), .ref (k 9), vI (ms_w MS0), vI (ms_l MS0), vI (ms_s MS0), vI (ms_a MS0), vI (ms_t MS0), vI (ms_p MS0)]), ((k 8), aI (Y 0) 7 (ms_h MS0)), ((k 9), aI (Y 0) 420 (ms_m MS0)), ((k 10), oC 2 [.ref (k 11), .ref (k 12), vI (ms_w U), vI (ms_l U), vI (ms_s U), vI (ms_a U), vI (ms_t U), vI (ms_p U)]), ((k 11), aI (Y 0) 7 (ms_h U)), ((k 12), aI (Y 0) 420 (ms_m U)), ((k 13), aI (Y 0) 7 (fun _ => 0)), ((k 14), oC 7 [.ref (k 15), .ref (k 16)]), ((k 15), aI (Y 0) 271 (fun _ => 0)), ((k 16), aI (Y 0) 271 (fun _ => 0)), ((k 17), aI (Y 0) 16 pg)]) (PL := PLW np nc cad pad cs ps ++ Rows) (wc := [((k 0), oC 8 [.ref (k 1), .ref (k 2), vI nc, .ref (k 3), vI np, .ref (k 4), .ref (k 7), vI 0, .ref (k 10), .ref (k 13), .ref (k 14)]), ((k 2), aQ (Y 2) 4 (orow nc cad)), ((k 1), oC 3 [.ref (k 17), vI pl])]) (wr := [((k 3), aQ (Y 3) 6 (orow np pad)), ((k 4), oC 2 [.ref (k 5), .ref (k 6), vI (ms_w S), vI (ms_l S), vI (ms_s S), vI (ms_a S), vI (ms_t S), vI (ms_p S)]), ((k 5), aI (Y 0) 7 (ms_h S)), ((k 6), aI (Y 0) 420 (ms_m S)), ((k 7), oC 2 [.ref (k 8), .ref (k 9), vI (ms_w MS0), vI (ms_l MS0), vI (ms_s MS0), vI (ms_a MS0), vI (ms_t MS0), vI (ms_p MS0)]), ((k 8), aI (Y 0) 7 (ms_h MS0)), ((k 9), aI (Y 0) 420 (ms_m MS0)), ((k 10), oC 2 [.ref (k 11), .ref (k 12), vI (ms_w U), vI (ms_l U), vI (ms_s U), vI (ms_a U), vI (ms_t U), vI (ms_p U)]), ((k 11), aI (Y 0) 7 (ms_h U)), ((k 12), aI (Y 0) 420 (ms_m U)), ((k 13), aI (Y 0) 7 (fun _ => 0)), ((k 14), oC 7 [.ref (k 15), .ref (k 16)]), ((k 15), aI (Y 0) 271 (fun _ => 0)), ((k 16), aI (Y 0) 271 (fun _ => 0)), ((k 17), aI (Y 0) 16 pg)]) (fun l => k_custom l D Y _ k nc np 0 cad pg pl (List.mem_append_left _ (List.mem_append_left _ (List.mem_of_getElem? (i := 14) rfl))) (by first | assumption | omega) hnc) rfl rfl rfl rfl (by decide) rfl (Or.inl (List.mem_of_getElem? (i := 0) rfl)) rfl g ⟨rfl, by decide +kernel⟩ hRm rfl rfl (Nat.le_of_ble_eq_true hcat) hroom hd (fun e w1 h => ?_)
  obtain ⟨rfl, hcase⟩ := h
  rcases hcase with ⟨hno, _⟩ | ⟨_, q, rfl⟩
  · exact absurd hok hno
  refine j_permT (L' := [((k 0), oC 8 [.ref (k 1), .ref (k 2), vI (nc + 1), .ref (k 3), vI np, .ref (k 4), .ref (k 7), vI 0, .ref (k 10), .ref (k 13), .ref (k 14)]), ((k 1), oC 3 [.ref (k 17), vI 0]), ((k 2), aQ (Y 2) 4 (orow (nc + 1) (up cad nc q))), ((k 3), aQ (Y 3) 6 (orow np pad)), ((k 4), oC 2 [.ref (k 5), .ref (k 6), vI (ms_w S), vI (ms_l S), vI (ms_s S), vI (ms_a S), vI (ms_t S), vI (ms_p S)]), ((k 5), aI (Y 0) 7 (ms_h S)), ((k 6), aI (Y 0) 420 (ms_m S)), ((k 7), oC 2 [.ref (k 8), .ref (k 9), vI (ms_w MS0), vI (ms_l MS0), vI (ms_s MS0), vI (ms_a MS0), vI (ms_t MS0), vI (ms_p MS0)]), ((k 8), aI (Y 0) 7 (ms_h MS0)), ((k 9), aI (Y 0) 420 (ms_m MS0)), ((k 10), oC 2 [.ref (k 11), .ref (k 12), vI (ms_w U), vI (ms_l U), vI (ms_s U), vI (ms_a U), vI (ms_t U), vI (ms_p U)]), ((k 11), aI (Y 0) 7 (ms_h U)), ((k 12), aI (Y 0) 420 (ms_m U)), ((k 13), aI (Y 0) 7 (fun _ => 0)), ((k 14), oC 7 [.ref (k 15), .ref (k 16)]), ((k 15), aI (Y 0) 271 (fun _ => 0)), ((k 16), aI (Y 0) 271 (fun _ => 0)), ((k 17), aI (Y 0) 16 pg), (q, oC 1 [vI (cw (cusI pg pl)), vI (cz (cusI pg pl)), vI (ce (cusI pg pl))])]) [15, 17, 16, 0, 1, 2, 3, 4, 5, 6, 7, 8, 9, 10, 11, 12, 13, 14, 18] rfl rfl ?_
  refine j_st (ws' := [((k 0), oC 8 [.ref (k 1), .ref (k 2), vI (nc + 1), .ref (k 3), vI np, .ref (k 4), .ref (k 7), vI 0, .ref (k 10), .ref (k 13), .ref (k 14)]), ((k 1), oC 3 [.ref (k 17), vI 0]), ((k 2), aQ (Y 2) 4 (orow (nc + 1) (up cad nc q))), ((k 3), aQ (Y 3) 6 (orow np pad)), ((k 4), oC 2 [.ref (k 5), .ref (k 6), vI (ms_w S), vI (ms_l S), vI (ms_s S), vI (ms_a S), vI (ms_t S), vI (ms_p S)]), ((k 5), aI (Y 0) 7 (ms_h S)), ((k 6), aI (Y 0) 420 (ms_m S)), ((k 7), oC 2 [.ref (k 8), .ref (k 9), vI (ms_w MS0), vI (ms_l MS0), vI (ms_s MS0), vI (ms_a MS0), vI (ms_t MS0), vI (ms_p MS0)]), ((k 8), aI (Y 0) 7 (ms_h MS0)), ((k 9), aI (Y 0) 420 (ms_m MS0)), ((k 10), oC 2 [.ref (k 11), .ref (k 12), vI (ms_w U), vI (ms_l U), vI (ms_s U), vI (ms_a U), vI (ms_t U), vI (ms_p U)]), ((k 11), aI (Y 0) 7 (ms_h U)), ((k 12), aI (Y 0) 420 (ms_m U)), ((k 13), aI (Y 0) 7 (fun _ => 0)), ((k 14), oC 7 [.ref (k 15), .ref (k 16)]), ((k 15), aI (Y 0) 271 (fun _ => 0)), ((k 16), aI (Y 0) 271 (fun _ => 0)), ((k 17), aI (Y 0) 16 pg)] ++ (((q, oC 1 [vI (cw (cusI pg pl)), vI (cz (cusI pg pl)), vI (ce (cusI pg pl))]) :: PLW np nc cad pad cs ps) ++ Rows)) rfl rfl rfl ?_
  refine j_permP (List.Perm.append_left _ (List.Perm.append_right _ (PLW_newC hnc.1 q (cusI pg pl)))) ?_
  refine j_ofF (A := [((k 0), oC 8 [.ref (k 1), .ref (k 2), vI (nc + 1), .ref (k 3), vI np, .ref (k 4), .ref (k 7), vI 0, .ref (k 10), .ref (k 13), .ref (k 14)]), ((k 1), oC 3 [.ref (k 17), vI 0]), ((k 2), aQ (Y 2) 4 (orow (nc + 1) (up cad nc q))), ((k 3), aQ (Y 3) 6 (orow np pad)), ((k 4), oC 2 [.ref (k 5), .ref (k 6), vI (ms_w S), vI (ms_l S), vI (ms_s S), vI (ms_a S), vI (ms_t S), vI (ms_p S)]), ((k 5), aI (Y 0) 7 (ms_h S)), ((k 6), aI (Y 0) 420 (ms_m S)), ((k 7), oC 2 [.ref (k 8), .ref (k 9), vI (ms_w MS0), vI (ms_l MS0), vI (ms_s MS0), vI (ms_a MS0), vI (ms_t MS0), vI (ms_p MS0)]), ((k 8), aI (Y 0) 7 (ms_h MS0)), ((k 9), aI (Y 0) 420 (ms_m MS0)), ((k 10), oC 2 [.ref (k 11), .ref (k 12), vI (ms_w U), vI (ms_l U), vI (ms_s U), vI (ms_a U), vI (ms_t U), vI (ms_p U)]), ((k 11), aI (Y 0) 7 (ms_h U)), ((k 12), aI (Y 0) 420 (ms_m U)), ((k 13), aI (Y 0) 7 (fun _ => 0)), ((k 14), oC 7 [.ref (k 15), .ref (k 16)]), ((k 15), aI (Y 0) 271 (fun _ => 0)), ((k 16), aI (Y 0) 271 (fun _ => 0)), ((k 17), aI (Y 0) 16 pg)]) (P := PLW np (nc + 1) (up cad nc q) pad (up cs nc (cusI pg pl)) ps) ?_
  exact kk _ ⟨⟨hS, hwk⟩, hnp, hps, (by have := hok.2; omega), (okC_new hcs (okC_cus hp hok.1)), ⟨by decide, fun i h0 h1 => by omega⟩, U, (up cad nc q), pad, rfl⟩

set_option maxHeartbeats 2000000 in
set_option maxRecDepth 100000 in
theorem tc_parish {X : jX} {cc : ByteArray} {nL : Nat} {own : String} {Ts : List Cond} {rm : Room} {D : va_G} {Y : Nat → ClassId} {RO : va_W} {kc sc : Nat} {lc : List (Nat × Value)} {pc index : Nat} {st : List Value} (C : jC X cc nL own Ts rm D Y RO) {k : Nat → Nat} {np nc pl : Int} {S : MS} {pg : Int → Int} {cs : Int → CT} {ps : Int → PT} {Rows W : va_W} (hW : KWs Y k np nc pl S pg cs ps W) {kd : Int} {n : Int} {w : Int} {x : Int} {z : Int} (hrkd : -2147483648 ≤ kd ∧ kd ≤ 2147483647) (hrn : -2147483648 ≤ n ∧ n ≤ 2147483647) (hrw : -2147483648 ≤ w ∧ w ≤ 2147483647) (hrx : -2147483648 ≤ x ∧ x ≤ 2147483647) (hrz : -2147483648 ≤ z ∧ z ≤ 2147483647) (hok : parOk kd n w x z np) (g : GoodIn Ts (wsV own index RX9 yX9_parish wsX9_parish)) (hRm : 5 + 1 ≤ rm.frames ∧ 8 + (7 + 11) + 96 ≤ rm.locals) (hcat : Nat.ble ((st.map fun v => v.category).sum) 8 = true) (hroom : kc + 1 ≤ rm.cells ∧ sc + 4 ≤ rm.slots) (hd : decode cc pc = .ok (.invokevirtual index, 3)) (kk : ∀ W' : va_W, KWs Y k (np + 1) nc pl S pg cs (up ps np (kd, n, w, x, z)) W' → jW X nL (kc + 1) (sc + 4) (Rows ++ W') lc (pc + 3) (vI (rParish kd n w x z np) :: st)) : jW X nL kc sc (Rows ++ W) lc pc (vI z :: vI x :: vI w :: vI n :: vI kd :: .ref (k 0) :: st) := by
  obtain ⟨⟨hS, hwk⟩, hnp, hps, hnc, hcs, hp, U, cad, pad, rfl⟩ := hW
  refine j_toF ?_
  refine j_st (ws' := [((k 0), oC 8 [.ref (k 1), .ref (k 2), vI nc, .ref (k 3), vI np, .ref (k 4), .ref (k 7), vI 0, .ref (k 10), .ref (k 13), .ref (k 14)]), ((k 1), oC 3 [.ref (k 17), vI pl]), ((k 2), aQ (Y 2) 4 (orow nc cad)), ((k 3), aQ (Y 3) 6 (orow np pad)), ((k 4), oC 2 [.ref (k 5), .ref (k 6), vI (ms_w S), vI (ms_l S), vI (ms_s S), vI (ms_a S), vI (ms_t S), vI (ms_p S)]), ((k 5), aI (Y 0) 7 (ms_h S)), ((k 6), aI (Y 0) 420 (ms_m S)), ((k 7), oC 2 [.ref (k 8), .ref (k 9), vI (ms_w MS0), vI (ms_l MS0), vI (ms_s MS0), vI (ms_a MS0), vI (ms_t MS0), vI (ms_p MS0)]), ((k 8), aI (Y 0) 7 (ms_h MS0)), ((k 9), aI (Y 0) 420 (ms_m MS0)), ((k 10), oC 2 [.ref (k 11), .ref (k 12), vI (ms_w U), vI (ms_l U), vI (ms_s U), vI (ms_a U), vI (ms_t U), vI (ms_p U)]), ((k 11), aI (Y 0) 7 (ms_h U)), ((k 12), aI (Y 0) 420 (ms_m U)), ((k 13), aI (Y 0) 7 (fun _ => 0)), ((k 14), oC 7 [.ref (k 15), .ref (k 16)]), ((k 15), aI (Y 0) 271 (fun _ => 0)), ((k 16), aI (Y 0) 271 (fun _ => 0)), ((k 17), aI (Y 0) 16 pg)] ++ (PLW np nc cad pad cs ps ++ Rows)) rfl rfl rfl ?_
  refine j_lawVi (pc := pc) (As := [vI kd, vI n, vI w, vI x, vI z]) (na := 5) (st := st) C [0, 3] [1, 2, 4, 5, 6, 7, 8, 9, 10, 11, 12, 13, 14, 15, 16, 17] (L := [((k 0), oC 8 [.ref (k 1), .ref (k 2), vI nc, .ref (k 3), vI np, .ref (k 4), .ref (k 7), vI 0, .ref (k 10), .ref (k 13), .ref (k 14)]), ((k 1), oC 3 [.ref (k 17), vI pl]), ((k 2), aQ (Y 2) 4 (orow nc cad)), ((k 3), aQ (Y 3) 6 (orow np pad)), ((k 4), oC 2 [.ref (k 5), .ref (k 6), vI (ms_w S), vI (ms_l S), vI (ms_s S), vI (ms_a S), vI (ms_t S), vI (ms_p S)]), ((k 5), aI (Y 0) 7 (ms_h S)), ((k 6), aI (Y 0) 420 (ms_m S)), ((k 7), oC 2 [.ref (k 8), .ref (k 9), vI (ms_w MS0), vI (ms_l MS0), vI (ms_s MS0), vI (ms_a MS0), vI (ms_t MS0), vI (ms_p MS0)]), ((k 8), aI (Y 0) 7 (ms_h MS0)), ((k 9), aI (Y 0) 420 (ms_m MS0)), ((k 10), oC 2 [.ref (k 11), .ref (k 12), vI (ms_w U), vI (ms_l U), vI (ms_s U), vI (ms_a U), vI (ms_t U), vI (ms_p U)]), ((k 11), aI (Y 0) 7 (ms_h U)), ((k 12), aI (Y 0) 420 (ms_m U)), ((k 13), aI (Y 0) 7 (fun _ => 0)), ((k 14), oC 7 [.ref (k 15), .ref (k 16)]), ((k 15), aI (Y 0) 271 (fun _ => 0)), ((k 16), aI (Y 0) 271 (fun _ => 0)), ((k 17), aI (Y 0) 16 pg)]) (PL := PLW np nc cad pad cs ps ++ Rows) (wc := [((k 0), oC 8 [.ref (k 1), .ref (k 2), vI nc, .ref (k 3), vI np, .ref (k 4), .ref (k 7), vI 0, .ref (k 10), .ref (k 13), .ref (k 14)]), ((k 3), aQ (Y 3) 6 (orow np pad))]) (wr := [((k 1), oC 3 [.ref (k 17), vI pl]), ((k 2), aQ (Y 2) 4 (orow nc cad)), ((k 4), oC 2 [.ref (k 5), .ref (k 6), vI (ms_w S), vI (ms_l S), vI (ms_s S), vI (ms_a S), vI (ms_t S), vI (ms_p S)]), ((k 5), aI (Y 0) 7 (ms_h S)), ((k 6), aI (Y 0) 420 (ms_m S)), ((k 7), oC 2 [.ref (k 8), .ref (k 9), vI (ms_w MS0), vI (ms_l MS0), vI (ms_s MS0), vI (ms_a MS0), vI (ms_t MS0), vI (ms_p MS0)]), ((k 8), aI (Y 0) 7 (ms_h MS0)), ((k 9), aI (Y 0) 420 (ms_m MS0)), ((k 10), oC 2 [.ref (k 11), .ref (k 12), vI (ms_w U), vI (ms_l U), vI (ms_s U), vI (ms_a U), vI (ms_t U), vI (ms_p U)]), ((k 11), aI (Y 0) 7 (ms_h U)), ((k 12), aI (Y 0) 420 (ms_m U)), ((k 13), aI (Y 0) 7 (fun _ => 0)), ((k 14), oC 7 [.ref (k 15), .ref (k 16)]), ((k 15), aI (Y 0) 271 (fun _ => 0)), ((k 16), aI (Y 0) 271 (fun _ => 0)), ((k 17), aI (Y 0) 16 pg)]) (fun l => k_parish l D Y _ k nc np 0 pad kd n w x z  hnp (by first | assumption | omega) (by first | assumption | omega) (by first | assumption | omega) (by first | assumption | omega) (by first | assumption | omega)) rfl rfl rfl rfl (by decide) rfl (Or.inl (List.mem_of_getElem? (i := 0) rfl)) rfl g ⟨rfl, by decide +kernel⟩ hRm rfl rfl (Nat.le_of_ble_eq_true hcat) hroom hd (fun e w1 h => ?_)
  obtain ⟨rfl, hcase⟩ := h
  rcases hcase with ⟨hno, _⟩ | ⟨_, q, rfl⟩
  · exact absurd hok hno
  refine j_permT (L' := [((k 0), oC 8 [.ref (k 1), .ref (k 2), vI nc, .ref (k 3), vI (np + 1), .ref (k 4), .ref (k 7), vI 0, .ref (k 10), .ref (k 13), .ref (k 14)]), ((k 1), oC 3 [.ref (k 17), vI pl]), ((k 2), aQ (Y 2) 4 (orow nc cad)), ((k 3), aQ (Y 3) 6 (orow (np + 1) (up pad np q))), ((k 4), oC 2 [.ref (k 5), .ref (k 6), vI (ms_w S), vI (ms_l S), vI (ms_s S), vI (ms_a S), vI (ms_t S), vI (ms_p S)]), ((k 5), aI (Y 0) 7 (ms_h S)), ((k 6), aI (Y 0) 420 (ms_m S)), ((k 7), oC 2 [.ref (k 8), .ref (k 9), vI (ms_w MS0), vI (ms_l MS0), vI (ms_s MS0), vI (ms_a MS0), vI (ms_t MS0), vI (ms_p MS0)]), ((k 8), aI (Y 0) 7 (ms_h MS0)), ((k 9), aI (Y 0) 420 (ms_m MS0)), ((k 10), oC 2 [.ref (k 11), .ref (k 12), vI (ms_w U), vI (ms_l U), vI (ms_s U), vI (ms_a U), vI (ms_t U), vI (ms_p U)]), ((k 11), aI (Y 0) 7 (ms_h U)), ((k 12), aI (Y 0) 420 (ms_m U)), ((k 13), aI (Y 0) 7 (fun _ => 0)), ((k 14), oC 7 [.ref (k 15), .ref (k 16)]), ((k 15), aI (Y 0) 271 (fun _ => 0)), ((k 16), aI (Y 0) 271 (fun _ => 0)), ((k 17), aI (Y 0) 16 pg), pC q (kd, n, w, x, z)]) [16, 0, 1, 17, 2, 3, 4, 5, 6, 7, 8, 9, 10, 11, 12, 13, 14, 15, 18] rfl rfl ?_
  refine j_st (ws' := [((k 0), oC 8 [.ref (k 1), .ref (k 2), vI nc, .ref (k 3), vI (np + 1), .ref (k 4), .ref (k 7), vI 0, .ref (k 10), .ref (k 13), .ref (k 14)]), ((k 1), oC 3 [.ref (k 17), vI pl]), ((k 2), aQ (Y 2) 4 (orow nc cad)), ((k 3), aQ (Y 3) 6 (orow (np + 1) (up pad np q))), ((k 4), oC 2 [.ref (k 5), .ref (k 6), vI (ms_w S), vI (ms_l S), vI (ms_s S), vI (ms_a S), vI (ms_t S), vI (ms_p S)]), ((k 5), aI (Y 0) 7 (ms_h S)), ((k 6), aI (Y 0) 420 (ms_m S)), ((k 7), oC 2 [.ref (k 8), .ref (k 9), vI (ms_w MS0), vI (ms_l MS0), vI (ms_s MS0), vI (ms_a MS0), vI (ms_t MS0), vI (ms_p MS0)]), ((k 8), aI (Y 0) 7 (ms_h MS0)), ((k 9), aI (Y 0) 420 (ms_m MS0)), ((k 10), oC 2 [.ref (k 11), .ref (k 12), vI (ms_w U), vI (ms_l U), vI (ms_s U), vI (ms_a U), vI (ms_t U), vI (ms_p U)]), ((k 11), aI (Y 0) 7 (ms_h U)), ((k 12), aI (Y 0) 420 (ms_m U)), ((k 13), aI (Y 0) 7 (fun _ => 0)), ((k 14), oC 7 [.ref (k 15), .ref (k 16)]), ((k 15), aI (Y 0) 271 (fun _ => 0)), ((k 16), aI (Y 0) 271 (fun _ => 0)), ((k 17), aI (Y 0) 16 pg)] ++ ((pC q (kd, n, w, x, z) :: PLW np nc cad pad cs ps) ++ Rows)) rfl rfl rfl ?_
  rw [← PLW_newP hnp.1 q (kd, n, w, x, z)]
  refine j_ofF (A := [((k 0), oC 8 [.ref (k 1), .ref (k 2), vI nc, .ref (k 3), vI (np + 1), .ref (k 4), .ref (k 7), vI 0, .ref (k 10), .ref (k 13), .ref (k 14)]), ((k 1), oC 3 [.ref (k 17), vI pl]), ((k 2), aQ (Y 2) 4 (orow nc cad)), ((k 3), aQ (Y 3) 6 (orow (np + 1) (up pad np q))), ((k 4), oC 2 [.ref (k 5), .ref (k 6), vI (ms_w S), vI (ms_l S), vI (ms_s S), vI (ms_a S), vI (ms_t S), vI (ms_p S)]), ((k 5), aI (Y 0) 7 (ms_h S)), ((k 6), aI (Y 0) 420 (ms_m S)), ((k 7), oC 2 [.ref (k 8), .ref (k 9), vI (ms_w MS0), vI (ms_l MS0), vI (ms_s MS0), vI (ms_a MS0), vI (ms_t MS0), vI (ms_p MS0)]), ((k 8), aI (Y 0) 7 (ms_h MS0)), ((k 9), aI (Y 0) 420 (ms_m MS0)), ((k 10), oC 2 [.ref (k 11), .ref (k 12), vI (ms_w U), vI (ms_l U), vI (ms_s U), vI (ms_a U), vI (ms_t U), vI (ms_p U)]), ((k 11), aI (Y 0) 7 (ms_h U)), ((k 12), aI (Y 0) 420 (ms_m U)), ((k 13), aI (Y 0) 7 (fun _ => 0)), ((k 14), oC 7 [.ref (k 15), .ref (k 16)]), ((k 15), aI (Y 0) 271 (fun _ => 0)), ((k 16), aI (Y 0) 271 (fun _ => 0)), ((k 17), aI (Y 0) 16 pg)]) (P := PLW (np + 1) nc cad (up pad np q) cs (up ps np (kd, n, w, x, z))) ?_
  exact kk _ ⟨⟨hS, hwk⟩, (by have := hok.2; omega), (okP_new hps (okP_all hok.1)), hnc, hcs, hp, U, cad, (up pad np q), rfl⟩
end
