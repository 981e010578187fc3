section
-- ===== PART A: goes FIRST, ahead of the names: the tables' words, and 'selects' of the private methods out of them =====
/-- a private method of a class that the tables say can be made, by its rows of tables_1 -/
def lw_okq (q : MethodName × Nat) : Prop := (q.1.cls ≠ "java/lang/invoke/MethodHandle" ∧ q.1.cls ≠ "java/lang/invoke/VarHandle") ∧ Cond.instantiable q.1.cls q.2 ∈ tables_1 ∧ Cond.privateMethod q.1 ∈ tables_1 ∧ Cond.instanceMethod q.1 ∈ tables_1
theorem lw_p0 : lw_okq (⟨"RollBench", "step", "(I)V"⟩, 8) := ⟨⟨by decide +kernel, by decide +kernel⟩, List.mem_of_getElem? (i := 7) (by decide +kernel), List.mem_of_getElem? (i := 221) (by decide +kernel), List.mem_of_getElem? (i := 222) (by decide +kernel)⟩
theorem lw_p1 : lw_okq (⟨"RollBench", "told", "(II)I"⟩, 8) := ⟨⟨by decide +kernel, by decide +kernel⟩, List.mem_of_getElem? (i := 7) (by decide +kernel), List.mem_of_getElem? (i := 225) (by decide +kernel), List.mem_of_getElem? (i := 226) (by decide +kernel)⟩
theorem lw_p2 : lw_okq (⟨"RollBench", "playNote", "()V"⟩, 8) := ⟨⟨by decide +kernel, by decide +kernel⟩, List.mem_of_getElem? (i := 7) (by decide +kernel), List.mem_of_getElem? (i := 229) (by decide +kernel), List.mem_of_getElem? (i := 230) (by decide +kernel)⟩
theorem lw_p3 : lw_okq (⟨"RollBench", "lowered", "(I)Z"⟩, 8) := ⟨⟨by decide +kernel, by decide +kernel⟩, List.mem_of_getElem? (i := 7) (by decide +kernel), List.mem_of_getElem? (i := 233) (by decide +kernel), List.mem_of_getElem? (i := 234) (by decide +kernel)⟩
theorem lw_p4 : lw_okq (⟨"RollBenchModel", "off", "(I)I"⟩, 16) := ⟨⟨by decide +kernel, by decide +kernel⟩, List.mem_of_getElem? (i := 241) (by decide +kernel), List.mem_of_getElem? (i := 311) (by decide +kernel), List.mem_of_getElem? (i := 312) (by decide +kernel)⟩
theorem lw_p5 : lw_okq (⟨"RollBenchModel", "out", "(I)I"⟩, 16) := ⟨⟨by decide +kernel, by decide +kernel⟩, List.mem_of_getElem? (i := 241) (by decide +kernel), List.mem_of_getElem? (i := 324) (by decide +kernel), List.mem_of_getElem? (i := 325) (by decide +kernel)⟩
theorem lw_p6 : lw_okq (⟨"RollBenchModel", "has", "(I)Z"⟩, 16) := ⟨⟨by decide +kernel, by decide +kernel⟩, List.mem_of_getElem? (i := 241) (by decide +kernel), List.mem_of_getElem? (i := 372) (by decide +kernel), List.mem_of_getElem? (i := 373) (by decide +kernel)⟩
theorem lw_p7 : lw_okq (⟨"RollBenchModel", "step", "()V"⟩, 16) := ⟨⟨by decide +kernel, by decide +kernel⟩, List.mem_of_getElem? (i := 241) (by decide +kernel), List.mem_of_getElem? (i := 376) (by decide +kernel), List.mem_of_getElem? (i := 377) (by decide +kernel)⟩
theorem lw_p8 : lw_okq (⟨"RollBenchModel", "told", "(II)I"⟩, 16) := ⟨⟨by decide +kernel, by decide +kernel⟩, List.mem_of_getElem? (i := 241) (by decide +kernel), List.mem_of_getElem? (i := 380) (by decide +kernel), List.mem_of_getElem? (i := 381) (by decide +kernel)⟩
theorem lw_p9 : lw_okq (⟨"RollBenchModel", "less", "(I)V"⟩, 16) := ⟨⟨by decide +kernel, by decide +kernel⟩, List.mem_of_getElem? (i := 241) (by decide +kernel), List.mem_of_getElem? (i := 384) (by decide +kernel), List.mem_of_getElem? (i := 385) (by decide +kernel)⟩
theorem lw_p10 : lw_okq (⟨"RollBenchModel", "note", "()V"⟩, 16) := ⟨⟨by decide +kernel, by decide +kernel⟩, List.mem_of_getElem? (i := 241) (by decide +kernel), List.mem_of_getElem? (i := 388) (by decide +kernel), List.mem_of_getElem? (i := 389) (by decide +kernel)⟩
def lw_privs_1 : List (MethodName × Nat) := [(⟨"RollBench", "step", "(I)V"⟩, 8), (⟨"RollBench", "told", "(II)I"⟩, 8), (⟨"RollBench", "playNote", "()V"⟩, 8), (⟨"RollBench", "lowered", "(I)Z"⟩, 8), (⟨"RollBenchModel", "off", "(I)I"⟩, 16), (⟨"RollBenchModel", "out", "(I)I"⟩, 16), (⟨"RollBenchModel", "has", "(I)Z"⟩, 16), (⟨"RollBenchModel", "step", "()V"⟩, 16), (⟨"RollBenchModel", "told", "(II)I"⟩, 16), (⟨"RollBenchModel", "less", "(I)V"⟩, 16), (⟨"RollBenchModel", "note", "()V"⟩, 16)]
theorem lw_r1 : ∀ q ∈ lw_privs_1, lw_okq q := List.forall_mem_cons.mpr ⟨lw_p0, List.forall_mem_cons.mpr ⟨lw_p1, List.forall_mem_cons.mpr ⟨lw_p2, List.forall_mem_cons.mpr ⟨lw_p3, List.forall_mem_cons.mpr ⟨lw_p4, List.forall_mem_cons.mpr ⟨lw_p5, List.forall_mem_cons.mpr ⟨lw_p6, List.forall_mem_cons.mpr ⟨lw_p7, List.forall_mem_cons.mpr ⟨lw_p8, List.forall_mem_cons.mpr ⟨lw_p9, List.forall_mem_cons.mpr ⟨lw_p10, fun _ h => absurd h List.not_mem_nil⟩⟩⟩⟩⟩⟩⟩⟩⟩⟩⟩
def lw_privs : List (MethodName × Nat) := lw_privs_1
def lw_tbl : List Cond := k2_sels lw_privs ++ tables_1
theorem lw_privs_ok : ∀ q ∈ lw_privs, lw_okq q := lw_r1
/-! ===== BEGIN words of one list among another's, by their places ===== -/
theorem goodIn_r {big : List Cond} (ws : List Cond) (ps : List Nat) (hp : ws = ps.filterMap (fun i => big[i]?)) (h : ws.all goodWord = true) : GoodIn big ws := by
  intro w hw
  have h1 := List.all_eq_true.mp h w hw
  rw [hp] at hw
  obtain ⟨i, -, hi⟩ := List.mem_filterMap.mp hw
  have hm : w ∈ big := by first | exact List.mem_of_getElem? hi | exact List.getElem?_mem hi
  exact ⟨hm, good_of_word h1⟩
theorem goodIn_app {big a b : List Cond} (ha : GoodIn big a) (hb : GoodIn big b) : GoodIn big (a ++ b) := fun w h => (List.mem_append.mp h).elim (ha w) (hb w)
theorem goodIn_ca {big a b : List Cond} {c : Cond} (ha : GoodIn big (c :: a)) (hb : GoodIn big b) : GoodIn big (c :: (a ++ b)) := fun w h => (List.mem_cons.mp h).elim (fun e => ha w (List.mem_cons.mpr (Or.inl e))) (fun h => (List.mem_append.mp h).elim (fun h => ha w (List.mem_cons.mpr (Or.inr h))) (hb w))
theorem goodIn_sub {big ws : List Cond} (hm : ∀ w ∈ ws, w ∈ big) (h : ws.all goodWord = true) : GoodIn big ws := fun w hw => ⟨hm w hw, good_of_word (List.all_eq_true.mp h w hw)⟩
/-! ===== END ===== -/

/-! ===== BEGIN printed: names, fields, word lists, decode rows ===== -/
def RX0 : String := "RollBench$Lane"
def TX0 : u_T := fun k => match k with
  | 0 => ("RollBench$Lane", "cells", "[I", true)
  | 1 => ("RollBench$Lane", "sheet", "LRollBench$Sheet;", true)
  | 2 => ("RollBench$Lane", "length", "I", false)
  | 3 => ("RollBench$Lane", "offRefusals", "I", false)
  | _ => ("RollBench$Lane", "outRefusals", "I", false)
def tyX0 : Nat → FieldType := fun k => match k with
  | 0 => .array .int
  | 1 => .object "RollBench$Sheet"
  | 2 => .int
  | 3 => .int
  | _ => .int
abbrev wsX00 : List Cond := u_ws RX0 TX0 5
theorem nmX0 : ∀ a, a < 5 → ∀ b, b < 5 → a ≠ b → (TX0 a).2.1 ≠ (TX0 b).2.1 := by decide +kernel
theorem tyX0_ok : ∀ k, k < 5 → parseFieldDescriptor (TX0 k).2.2.1 = some (tyX0 k) := by decide +kernel
abbrev cX0_init : ByteArray := prog_2_method_1_code
def yX0_init : MethodName := ⟨RX0, "<init>", "()V"⟩
abbrev cX0_isOff : ByteArray := prog_2_method_2_code
def yX0_isOff : MethodName := ⟨RX0, "isOff", "()Z"⟩
abbrev cX0_hasCell : ByteArray := prog_2_method_3_code
def yX0_hasCell : MethodName := ⟨RX0, "hasCell", "(I)Z"⟩
abbrev cX0_renew : ByteArray := prog_2_method_4_code
def yX0_renew : MethodName := ⟨RX0, "renew", "(I)V"⟩
abbrev cX0_turnOff : ByteArray := prog_2_method_5_code
def yX0_turnOff : MethodName := ⟨RX0, "turnOff", "()V"⟩
abbrev cX0_refuseOff : ByteArray := prog_2_method_6_code
def yX0_refuseOff : MethodName := ⟨RX0, "refuseOff", "()I"⟩
abbrev cX0_refuseOut : ByteArray := prog_2_method_7_code
def yX0_refuseOut : MethodName := ⟨RX0, "refuseOut", "()I"⟩
abbrev cX0_layInto : ByteArray := prog_2_method_8_code
def yX0_layInto : MethodName := ⟨RX0, "layInto", "(II)I"⟩
def RX1 : String := "RollBench$Sheet"
def TX1 : u_T := fun k => match k with
  | 0 => ("RollBench$Sheet", "numbers", "[I", true)
  | 1 => ("RollBench$Sheet", "rows", "I", false)
  | _ => ("RollBench$Sheet", "columns", "I", false)
def tyX1 : Nat → FieldType := fun k => match k with
  | 0 => .array .int
  | 1 => .int
  | _ => .int
abbrev wsX10 : List Cond := u_ws RX1 TX1 3
theorem nmX1 : ∀ a, a < 3 → ∀ b, b < 3 → a ≠ b → (TX1 a).2.1 ≠ (TX1 b).2.1 := by decide +kernel
theorem tyX1_ok : ∀ k, k < 3 → parseFieldDescriptor (TX1 k).2.2.1 = some (tyX1 k) := by decide +kernel
abbrev cX1_init : ByteArray := prog_3_method_1_code
def yX1_init : MethodName := ⟨RX1, "<init>", "()V"⟩
abbrev cX1_isNone : ByteArray := prog_3_method_2_code
def yX1_isNone : MethodName := ⟨RX1, "isNone", "()Z"⟩
abbrev cX1_hasRow : ByteArray := prog_3_method_3_code
def yX1_hasRow : MethodName := ⟨RX1, "hasRow", "(I)Z"⟩
abbrev cX1_hasColumn : ByteArray := prog_3_method_4_code
def yX1_hasColumn : MethodName := ⟨RX1, "hasColumn", "(I)Z"⟩
abbrev cX1_numberIn : ByteArray := prog_3_method_5_code
def yX1_numberIn : MethodName := ⟨RX1, "numberIn", "(II)I"⟩
abbrev cX1_write : ByteArray := prog_3_method_6_code
def yX1_write : MethodName := ⟨RX1, "write", "(III)V"⟩
abbrev cX1_renew : ByteArray := prog_3_method_7_code
def yX1_renew : MethodName := ⟨RX1, "renew", "(II)V"⟩
abbrev cX1_placeOf : ByteArray := prog_3_method_8_code
def yX1_placeOf : MethodName := ⟨RX1, "placeOf", "(II)I"⟩
def RX2 : String := "RollBench"
def TX2 : u_T := fun k => match k with
  | 0 => ("RollBench", "lanes", "[LRollBench$Lane;", true)
  | 1 => ("RollBench", "head", "I", false)
  | 2 => ("RollBench", "clock", "I", false)
  | 3 => ("RollBench", "shift", "I", false)
  | 4 => ("RollBench", "mark", "I", false)
  | 5 => ("RollBench", "notes", "I", false)
  | 6 => ("RollBench", "sound", "I", false)
  | _ => ("RollBench", "blanks", "I", false)
def tyX2 : Nat → FieldType := fun k => match k with
  | 0 => .array (.object "RollBench$Lane")
  | 1 => .int
  | 2 => .int
  | 3 => .int
  | 4 => .int
  | 5 => .int
  | 6 => .int
  | _ => .int
abbrev wsX20 : List Cond := u_ws RX2 TX2 8
theorem nmX2 : ∀ a, a < 8 → ∀ b, b < 8 → a ≠ b → (TX2 a).2.1 ≠ (TX2 b).2.1 := by decide +kernel
theorem tyX2_ok : ∀ k, k < 8 → parseFieldDescriptor (TX2 k).2.2.1 = some (tyX2 k) := by decide +kernel
abbrev cX2_init : ByteArray := prog_1_method_1_code
def yX2_init : MethodName := ⟨RX2, "<init>", "()V"⟩
abbrev cX2_mount : ByteArray := prog_1_method_2_code
def yX2_mount : MethodName := ⟨RX2, "mount", "(II)I"⟩
abbrev cX2_strip : ByteArray := prog_1_method_3_code
def yX2_strip : MethodName := ⟨RX2, "strip", "(I)I"⟩
abbrev cX2_size : ByteArray := prog_1_method_4_code
def yX2_size : MethodName := ⟨RX2, "size", "(I)I"⟩
abbrev cX2_cell : ByteArray := prog_1_method_5_code
def yX2_cell : MethodName := ⟨RX2, "cell", "(II)I"⟩
abbrev cX2_put : ByteArray := prog_1_method_6_code
def yX2_put : MethodName := ⟨RX2, "put", "(III)I"⟩
abbrev cX2_change : ByteArray := prog_1_method_7_code
def yX2_change : MethodName := ⟨RX2, "change", "(IIII)I"⟩
abbrev cX2_rule : ByteArray := prog_1_method_8_code
def yX2_rule : MethodName := ⟨RX2, "rule", "(III)I"⟩
abbrev cX2_lay : ByteArray := prog_1_method_9_code
def yX2_lay : MethodName := ⟨RX2, "lay", "(III)I"⟩
abbrev cX2_at : ByteArray := prog_1_method_10_code
def yX2_at : MethodName := ⟨RX2, "at", "(III)I"⟩
abbrev cX2_head : ByteArray := prog_1_method_11_code
def yX2_head : MethodName := ⟨RX2, "head", "(I)I"⟩
abbrev cX2_play : ByteArray := prog_1_method_12_code
def yX2_play : MethodName := ⟨RX2, "play", "(I)I"⟩
abbrev cX2_count : ByteArray := prog_1_method_13_code
def yX2_count : MethodName := ⟨RX2, "count", "(I)I"⟩
abbrev cX2_isLane : ByteArray := prog_1_method_14_code
def yX2_isLane : MethodName := ⟨RX2, "isLane", "(I)Z"⟩
abbrev cX2_stored : ByteArray := prog_1_method_15_code
def yX2_stored : MethodName := ⟨RX2, "stored", "(IJ)I"⟩
abbrev cX2_changed : ByteArray := prog_1_method_16_code
def yX2_changed : MethodName := ⟨RX2, "changed", "(IIII)I"⟩
abbrev cX2_changedPedal : ByteArray := prog_1_method_17_code
def yX2_changedPedal : MethodName := ⟨RX2, "changedPedal", "(III)I"⟩
abbrev cX2_reckoned : ByteArray := prog_1_method_18_code
def yX2_reckoned : MethodName := ⟨RX2, "reckoned", "(IJJ)J"⟩
abbrev cX2_step : ByteArray := prog_1_method_19_code
def yX2_step : MethodName := ⟨RX2, "step", "(I)V"⟩
abbrev cX2_playNote : ByteArray := prog_1_method_20_code
def yX2_playNote : MethodName := ⟨RX2, "playNote", "()V"⟩
abbrev cX2_told : ByteArray := prog_1_method_21_code
def yX2_told : MethodName := ⟨RX2, "told", "(II)I"⟩
abbrev cX2_lowered : ByteArray := prog_1_method_22_code
def yX2_lowered : MethodName := ⟨RX2, "lowered", "(I)Z"⟩
def RX3 : String := "RollBenchModel"
def TX3 : u_T := fun k => match k with
  | 0 => ("RollBenchModel", "cells", "[I", true)
  | 1 => ("RollBenchModel", "sizes", "[I", true)
  | 2 => ("RollBenchModel", "isOn", "[Z", true)
  | 3 => ("RollBenchModel", "sheets", "[I", true)
  | 4 => ("RollBenchModel", "rows", "[I", true)
  | 5 => ("RollBenchModel", "columns", "[I", true)
  | 6 => ("RollBenchModel", "isRuled", "[Z", true)
  | 7 => ("RollBenchModel", "offs", "[I", true)
  | 8 => ("RollBenchModel", "outs", "[I", true)
  | 9 => ("RollBenchModel", "head", "I", false)
  | 10 => ("RollBenchModel", "clock", "I", false)
  | 11 => ("RollBenchModel", "shift", "I", false)
  | 12 => ("RollBenchModel", "mark", "I", false)
  | 13 => ("RollBenchModel", "notes", "I", false)
  | 14 => ("RollBenchModel", "sound", "I", false)
  | _ => ("RollBenchModel", "blanks", "I", false)
def tyX3 : Nat → FieldType := fun k => match k with
  | 0 => .array .int
  | 1 => .array .int
  | 2 => .array .boolean
  | 3 => .array .int
  | 4 => .array .int
  | 5 => .array .int
  | 6 => .array .boolean
  | 7 => .array .int
  | 8 => .array .int
  | 9 => .int
  | 10 => .int
  | 11 => .int
  | 12 => .int
  | 13 => .int
  | 14 => .int
  | _ => .int
abbrev wsX30 : List Cond := u_ws RX3 TX3 16
theorem nmX3 : ∀ a, a < 16 → ∀ b, b < 16 → a ≠ b → (TX3 a).2.1 ≠ (TX3 b).2.1 := by decide +kernel
theorem tyX3_ok : ∀ k, k < 16 → parseFieldDescriptor (TX3 k).2.2.1 = some (tyX3 k) := by decide +kernel
abbrev cX3_init : ByteArray := prog_5_method_1_code
def yX3_init : MethodName := ⟨RX3, "<init>", "()V"⟩
abbrev cX3_isLane : ByteArray := prog_5_method_2_code
def yX3_isLane : MethodName := ⟨RX3, "isLane", "(I)Z"⟩
abbrev cX3_off : ByteArray := prog_5_method_3_code
def yX3_off : MethodName := ⟨RX3, "off", "(I)I"⟩
abbrev cX3_out : ByteArray := prog_5_method_4_code
def yX3_out : MethodName := ⟨RX3, "out", "(I)I"⟩
abbrev cX3_stored : ByteArray := prog_5_method_5_code
def yX3_stored : MethodName := ⟨RX3, "stored", "(IJ)I"⟩
abbrev cX3_mount : ByteArray := prog_5_method_6_code
def yX3_mount : MethodName := ⟨RX3, "mount", "(II)I"⟩
abbrev cX3_strip : ByteArray := prog_5_method_7_code
def yX3_strip : MethodName := ⟨RX3, "strip", "(I)I"⟩
abbrev cX3_size : ByteArray := prog_5_method_8_code
def yX3_size : MethodName := ⟨RX3, "size", "(I)I"⟩
abbrev cX3_cell : ByteArray := prog_5_method_9_code
def yX3_cell : MethodName := ⟨RX3, "cell", "(II)I"⟩
abbrev cX3_put : ByteArray := prog_5_method_10_code
def yX3_put : MethodName := ⟨RX3, "put", "(III)I"⟩
abbrev cX3_pressed : ByteArray := prog_5_method_11_code
def yX3_pressed : MethodName := ⟨RX3, "pressed", "(III)I"⟩
abbrev cX3_change : ByteArray := prog_5_method_12_code
def yX3_change : MethodName := ⟨RX3, "change", "(IIII)I"⟩
abbrev cX3_rule : ByteArray := prog_5_method_13_code
def yX3_rule : MethodName := ⟨RX3, "rule", "(III)I"⟩
abbrev cX3_lay : ByteArray := prog_5_method_14_code
def yX3_lay : MethodName := ⟨RX3, "lay", "(III)I"⟩
abbrev cX3_at : ByteArray := prog_5_method_15_code
def yX3_at : MethodName := ⟨RX3, "at", "(III)I"⟩
abbrev cX3_head : ByteArray := prog_5_method_16_code
def yX3_head : MethodName := ⟨RX3, "head", "(I)I"⟩
abbrev cX3_has : ByteArray := prog_5_method_17_code
def yX3_has : MethodName := ⟨RX3, "has", "(I)Z"⟩
abbrev cX3_told : ByteArray := prog_5_method_18_code
def yX3_told : MethodName := ⟨RX3, "told", "(II)I"⟩
abbrev cX3_less : ByteArray := prog_5_method_19_code
def yX3_less : MethodName := ⟨RX3, "less", "(I)V"⟩
abbrev cX3_note : ByteArray := prog_5_method_20_code
def yX3_note : MethodName := ⟨RX3, "note", "()V"⟩
abbrev cX3_step : ByteArray := prog_5_method_21_code
def yX3_step : MethodName := ⟨RX3, "step", "()V"⟩
abbrev cX3_play : ByteArray := prog_5_method_22_code
def yX3_play : MethodName := ⟨RX3, "play", "(I)I"⟩
abbrev cX3_count : ByteArray := prog_5_method_23_code
def yX3_count : MethodName := ⟨RX3, "count", "(I)I"⟩
def RJ9 : String := "java/lang/Math"
def TJ9 : u_T := fun k => match k with
  | _ => ("", "", "", false)
def tyJ9 : Nat → FieldType := fun k => match k with
  | _ => .int
abbrev wsJ90 : List Cond := u_ws RJ9 TJ9 0
theorem nmJ9 : ∀ a, a < 0 → ∀ b, b < 0 → a ≠ b → (TJ9 a).2.1 ≠ (TJ9 b).2.1 := by decide +kernel
theorem tyJ9_ok : ∀ k, k < 0 → parseFieldDescriptor (TJ9 k).2.2.1 = some (tyJ9 k) := by decide +kernel
abbrev cJ9_max_f86c9 : ByteArray := prog_6_method_66_code
def yJ9_max_f86c9 : MethodName := ⟨RJ9, "max", "(JJ)J"⟩
abbrev cJ9_min_7cf53 : ByteArray := prog_6_method_69_code
def yJ9_min_7cf53 : MethodName := ⟨RJ9, "min", "(II)I"⟩
abbrev cJ9_min_f86c9 : ByteArray := prog_6_method_70_code
def yJ9_min_f86c9 : MethodName := ⟨RJ9, "min", "(JJ)J"⟩
def RL : String := "RollBenchLaw"
abbrev cL_law : ByteArray := code
def yL_law : MethodName := ⟨RL, "law", "([I)Z"⟩
def wsX1_init : List Cond := .code yX1_init cX1_init 1 none :: ([.methodLink RX1 3 objectInit, .instanceMethod objectInit, .code objectInit ⟨#[0xb1]⟩ 1 none, .arrayClass .int, .fieldLink RX1 9 "RollBench$Sheet" "numbers" "[I", .fieldLink RX1 15 "RollBench$Sheet" "rows" "I"] ++ wsX10)
def wsX0_init : List Cond := .code yX0_init cX0_init 1 none :: ([.methodLink RX0 3 objectInit, .instanceMethod objectInit, .code objectInit ⟨#[0xb1]⟩ 1 none, .arrayClass .int, .fieldLink RX0 9 "RollBench$Lane" "cells" "[I", .classLink RX0 15 RX1, .instantiable RX1 3, .initialized RX1, .fieldLink RX0 18 "RollBench$Lane" "sheet" "LRollBench$Sheet;", .fieldLink RX0 22 "RollBench$Lane" "length" "I", .methodLink RX0 17 yX1_init, .instanceMethod yX1_init, .code yX1_init cX1_init 1 none, .methodLink RX1 3 objectInit, .fieldLink RX1 9 "RollBench$Sheet" "numbers" "[I", .fieldLink RX1 15 "RollBench$Sheet" "rows" "I"] ++ wsX00 ++ wsX10)
def wsX0_isOff : List Cond := .code yX0_isOff cX0_isOff 1 (some .boolean) :: ([.fieldLink RX0 22 "RollBench$Lane" "length" "I"] ++ wsX00)
def wsX0_hasCell : List Cond := .code yX0_hasCell cX0_hasCell 2 (some .boolean) :: ([.fieldLink RX0 22 "RollBench$Lane" "length" "I"] ++ wsX00)
def wsX0_renew : List Cond := .code yX0_renew cX0_renew 3 none :: ([.fieldLink RX0 9 "RollBench$Lane" "cells" "[I", .fieldLink RX0 22 "RollBench$Lane" "length" "I"] ++ wsX00)
def wsX0_turnOff : List Cond := .code yX0_turnOff cX0_turnOff 1 none :: ([.fieldLink RX0 22 "RollBench$Lane" "length" "I"] ++ wsX00)
def wsX0_refuseOff : List Cond := .code yX0_refuseOff cX0_refuseOff 1 (some .int) :: ([.fieldLink RX0 26 "RollBench$Lane" "offRefusals" "I", .constant RX0 29 (-1000005)] ++ wsX00)
def wsX0_refuseOut : List Cond := .code yX0_refuseOut cX0_refuseOut 1 (some .int) :: ([.fieldLink RX0 30 "RollBench$Lane" "outRefusals" "I", .constant RX0 33 (-1000006)] ++ wsX00)
def wsX1_placeOf : List Cond := .code yX1_placeOf cX1_placeOf 2 (some .int) :: ([])
def wsX1_write : List Cond := .code yX1_write cX1_write 4 none :: ([.fieldLink RX1 9 "RollBench$Sheet" "numbers" "[I", .methodLink RX1 22 yX1_placeOf, .static yX1_placeOf, .initialized RX1, .code yX1_placeOf cX1_placeOf 2 (some .int)] ++ wsX10)
def wsX0_layInto : List Cond := .code yX0_layInto cX0_layInto 5 (some .int) :: ([.fieldLink RX0 22 "RollBench$Lane" "length" "I", .fieldLink RX0 18 "RollBench$Lane" "sheet" "LRollBench$Sheet;", .fieldLink RX0 34 "RollBench$Sheet" "columns" "I", .methodLink RX0 37 Lib.Math.min.name, .static Lib.Math.min.name, .initialized "java/lang/Math", .code Lib.Math.min.name Lib.Math.min.code 2 (some .int), .fieldLink RX0 9 "RollBench$Lane" "cells" "[I", .methodLink RX0 43 yX1_write, .instanceMethod yX1_write, .selects RX1 yX1_write yX1_write, .initialized RX1, .code yX1_write cX1_write 4 none, .fieldLink RX1 9 "RollBench$Sheet" "numbers" "[I", .methodLink RX1 22 yX1_placeOf, .static yX1_placeOf, .code yX1_placeOf cX1_placeOf 2 (some .int)] ++ wsX00 ++ wsX10)
def wsX1_isNone : List Cond := .code yX1_isNone cX1_isNone 1 (some .boolean) :: ([.fieldLink RX1 15 "RollBench$Sheet" "rows" "I"] ++ wsX10)
def wsX1_hasRow : List Cond := .code yX1_hasRow cX1_hasRow 2 (some .boolean) :: ([.fieldLink RX1 15 "RollBench$Sheet" "rows" "I"] ++ wsX10)
def wsX1_hasColumn : List Cond := .code yX1_hasColumn cX1_hasColumn 2 (some .boolean) :: ([.fieldLink RX1 19 "RollBench$Sheet" "columns" "I"] ++ wsX10)
def wsX1_numberIn : List Cond := .code yX1_numberIn cX1_numberIn 3 (some .int) :: ([.fieldLink RX1 9 "RollBench$Sheet" "numbers" "[I", .methodLink RX1 22 yX1_placeOf, .static yX1_placeOf, .initialized RX1, .code yX1_placeOf cX1_placeOf 2 (some .int)] ++ wsX10)
def wsX1_renew : List Cond := .code yX1_renew cX1_renew 4 none :: ([.fieldLink RX1 9 "RollBench$Sheet" "numbers" "[I", .fieldLink RX1 15 "RollBench$Sheet" "rows" "I", .fieldLink RX1 19 "RollBench$Sheet" "columns" "I"] ++ wsX10)
def wsX2_init : List Cond := .code yX2_init cX2_init 2 none :: ([.methodLink RX2 1 objectInit, .instanceMethod objectInit, .code objectInit ⟨#[0xb1]⟩ 1 none, .classLink RX2 9 RX0, .fieldLink RX2 11 "RollBench" "lanes" "[LRollBench$Lane;", .instantiable RX0 5, .initialized RX0, .methodLink RX2 15 yX0_init, .instanceMethod yX0_init, .code yX0_init cX0_init 1 none, .methodLink RX0 3 objectInit, .arrayClass .int, .fieldLink RX0 9 "RollBench$Lane" "cells" "[I", .classLink RX0 15 RX1, .instantiable RX1 3, .initialized RX1, .fieldLink RX0 18 "RollBench$Lane" "sheet" "LRollBench$Sheet;", .fieldLink RX0 22 "RollBench$Lane" "length" "I", .methodLink RX0 17 yX1_init, .instanceMethod yX1_init, .code yX1_init cX1_init 1 none, .methodLink RX1 3 objectInit, .fieldLink RX1 9 "RollBench$Sheet" "numbers" "[I", .fieldLink RX1 15 "RollBench$Sheet" "rows" "I"] ++ wsX20 ++ wsX00 ++ wsX10)
def wsX2_isLane : List Cond := .code yX2_isLane cX2_isLane 1 (some .boolean) :: ([])
def wsX2_mount : List Cond := .code yX2_mount cX2_mount 3 (some .int) :: ([.constant RX2 20 (-1000001), .constant RX2 21 (-1000003), .constant RX2 22 (-1000004), .fieldLink RX2 11 "RollBench" "lanes" "[LRollBench$Lane;", .methodLink RX2 16 yX2_isLane, .static yX2_isLane, .initialized RX2, .code yX2_isLane cX2_isLane 1 (some .boolean), .methodLink RX2 23 yX0_renew, .instanceMethod yX0_renew, .selects RX0 yX0_renew yX0_renew, .initialized RX0, .code yX0_renew cX0_renew 3 none, .fieldLink RX0 9 "RollBench$Lane" "cells" "[I", .fieldLink RX0 22 "RollBench$Lane" "length" "I"] ++ wsX20 ++ wsX00)
def wsX2_strip : List Cond := .code yX2_strip cX2_strip 4 (some .int) :: ([.constant RX2 20 (-1000001), .fieldLink RX2 11 "RollBench" "lanes" "[LRollBench$Lane;", .fieldLink RX2 35 "RollBench$Lane" "length" "I", .methodLink RX2 16 yX2_isLane, .static yX2_isLane, .initialized RX2, .code yX2_isLane cX2_isLane 1 (some .boolean), .methodLink RX2 27 yX0_isOff, .instanceMethod yX0_isOff, .selects RX0 yX0_isOff yX0_isOff, .initialized RX0, .code yX0_isOff cX0_isOff 1 (some .boolean), .fieldLink RX0 22 "RollBench$Lane" "length" "I", .methodLink RX2 31 yX0_refuseOff, .instanceMethod yX0_refuseOff, .selects RX0 yX0_refuseOff yX0_refuseOff, .code yX0_refuseOff cX0_refuseOff 1 (some .int), .fieldLink RX0 26 "RollBench$Lane" "offRefusals" "I", .constant RX0 29 (-1000005), .methodLink RX2 39 yX0_turnOff, .instanceMethod yX0_turnOff, .selects RX0 yX0_turnOff yX0_turnOff, .code yX0_turnOff cX0_turnOff 1 none] ++ wsX20 ++ wsX00)
def wsX2_size : List Cond := .code yX2_size cX2_size 3 (some .int) :: ([.constant RX2 20 (-1000001), .fieldLink RX2 11 "RollBench" "lanes" "[LRollBench$Lane;", .fieldLink RX2 35 "RollBench$Lane" "length" "I", .methodLink RX2 16 yX2_isLane, .static yX2_isLane, .initialized RX2, .code yX2_isLane cX2_isLane 1 (some .boolean), .methodLink RX2 27 yX0_isOff, .instanceMethod yX0_isOff, .selects RX0 yX0_isOff yX0_isOff, .initialized RX0, .code yX0_isOff cX0_isOff 1 (some .boolean), .fieldLink RX0 22 "RollBench$Lane" "length" "I", .methodLink RX2 31 yX0_refuseOff, .instanceMethod yX0_refuseOff, .selects RX0 yX0_refuseOff yX0_refuseOff, .code yX0_refuseOff cX0_refuseOff 1 (some .int), .fieldLink RX0 26 "RollBench$Lane" "offRefusals" "I", .constant RX0 29 (-1000005)] ++ wsX20 ++ wsX00)
def wsX2_cell_r1 : List Cond := [Cond.constant RX2 20 (-1000001), Cond.fieldLink RX2 11 "RollBench" "lanes" "[LRollBench$Lane;", Cond.fieldLink RX2 48 "RollBench$Lane" "cells" "[I", Cond.methodLink RX2 16 yX2_isLane, Cond.static yX2_isLane, Cond.initialized RX2, Cond.code yX2_isLane cX2_isLane 1 (some .boolean), Cond.methodLink RX2 27 yX0_isOff, Cond.instanceMethod yX0_isOff, Cond.selects RX0 yX0_isOff yX0_isOff, Cond.initialized RX0, Cond.code yX0_isOff cX0_isOff 1 (some .boolean), Cond.fieldLink RX0 22 "RollBench$Lane" "length" "I", Cond.methodLink RX2 31 yX0_refuseOff, Cond.instanceMethod yX0_refuseOff, Cond.selects RX0 yX0_refuseOff yX0_refuseOff, Cond.code yX0_refuseOff cX0_refuseOff 1 (some .int), Cond.fieldLink RX0 26 "RollBench$Lane" "offRefusals" "I", Cond.constant RX0 29 (-1000005), Cond.methodLink RX2 42 yX0_hasCell, Cond.instanceMethod yX0_hasCell, Cond.selects RX0 yX0_hasCell yX0_hasCell, Cond.code yX0_hasCell cX0_hasCell 2 (some .boolean), Cond.methodLink RX2 45 yX0_refuseOut]
def wsX2_cell_r2 : List Cond := [Cond.instanceMethod yX0_refuseOut, Cond.selects RX0 yX0_refuseOut yX0_refuseOut, Cond.code yX0_refuseOut cX0_refuseOut 1 (some .int), Cond.fieldLink RX0 30 "RollBench$Lane" "outRefusals" "I", Cond.constant RX0 33 (-1000006)]
def wsX2_cell : List Cond := .code yX2_cell cX2_cell 4 (some .int) :: ((wsX2_cell_r1 ++ wsX2_cell_r2) ++ wsX20 ++ wsX00)
def wsX2_stored : List Cond := .code yX2_stored cX2_stored 3 (some .int) :: ([.constantLong RX2 119 (65535), .constantLong RX2 121 (-8000), .constantLong RX2 123 (8000), .methodLink RX2 125 Lib.MathLoose.min_long.x, .static Lib.MathLoose.min_long.x, .initialized "java/lang/Math", .code Lib.MathLoose.min_long.x Lib.MathLoose.min_long.code 4 (some .long), .methodLink RX2 131 Lib.MathLoose.max_long.x, .static Lib.MathLoose.max_long.x, .code Lib.MathLoose.max_long.x Lib.MathLoose.max_long.code 4 (some .long)])
def wsX2_put_r1 : List Cond := [Cond.constant RX2 20 (-1000001), Cond.fieldLink RX2 11 "RollBench" "lanes" "[LRollBench$Lane;", Cond.fieldLink RX2 48 "RollBench$Lane" "cells" "[I", Cond.methodLink RX2 16 yX2_isLane, Cond.static yX2_isLane, Cond.initialized RX2, Cond.code yX2_isLane cX2_isLane 1 (some .boolean), Cond.methodLink RX2 27 yX0_isOff, Cond.instanceMethod yX0_isOff, Cond.selects RX0 yX0_isOff yX0_isOff, Cond.initialized RX0, Cond.code yX0_isOff cX0_isOff 1 (some .boolean), Cond.fieldLink RX0 22 "RollBench$Lane" "length" "I", Cond.methodLink RX2 31 yX0_refuseOff, Cond.instanceMethod yX0_refuseOff, Cond.selects RX0 yX0_refuseOff yX0_refuseOff, Cond.code yX0_refuseOff cX0_refuseOff 1 (some .int), Cond.fieldLink RX0 26 "RollBench$Lane" "offRefusals" "I", Cond.constant RX0 29 (-1000005), Cond.methodLink RX2 42 yX0_hasCell, Cond.instanceMethod yX0_hasCell, Cond.selects RX0 yX0_hasCell yX0_hasCell, Cond.code yX0_hasCell cX0_hasCell 2 (some .boolean), Cond.methodLink RX2 45 yX0_refuseOut]
def wsX2_put_r2 : List Cond := [Cond.instanceMethod yX0_refuseOut, Cond.selects RX0 yX0_refuseOut yX0_refuseOut, Cond.code yX0_refuseOut cX0_refuseOut 1 (some .int), Cond.fieldLink RX0 30 "RollBench$Lane" "outRefusals" "I", Cond.constant RX0 33 (-1000006), Cond.methodLink RX2 52 yX2_stored, Cond.static yX2_stored, Cond.code yX2_stored cX2_stored 3 (some .int), Cond.constantLong RX2 119 (65535), Cond.constantLong RX2 121 (-8000), Cond.constantLong RX2 123 (8000), Cond.methodLink RX2 125 Lib.MathLoose.min_long.x, Cond.static Lib.MathLoose.min_long.x, Cond.initialized "java/lang/Math", Cond.code Lib.MathLoose.min_long.x Lib.MathLoose.min_long.code 4 (some .long), Cond.methodLink RX2 131 Lib.MathLoose.max_long.x, Cond.static Lib.MathLoose.max_long.x, Cond.code Lib.MathLoose.max_long.x Lib.MathLoose.max_long.code 4 (some .long)]
def wsX2_put : List Cond := .code yX2_put cX2_put 5 (some .int) :: ((wsX2_put_r1 ++ wsX2_put_r2) ++ wsX20 ++ wsX00)
def wsX2_changedPedal : List Cond := .code yX2_changedPedal cX2_changedPedal 3 (some .int) :: ([])
def wsX2_reckoned : List Cond := .code yX2_reckoned cX2_reckoned 5 (some .long) :: ([])
def wsX2_changed : List Cond := .code yX2_changed cX2_changed 4 (some .int) :: ([.methodLink RX2 134 yX2_changedPedal, .static yX2_changedPedal, .initialized RX2, .code yX2_changedPedal cX2_changedPedal 3 (some .int), .methodLink RX2 138 yX2_reckoned, .static yX2_reckoned, .code yX2_reckoned cX2_reckoned 5 (some .long), .methodLink RX2 52 yX2_stored, .static yX2_stored, .code yX2_stored cX2_stored 3 (some .int), .constantLong RX2 119 (65535), .constantLong RX2 121 (-8000), .constantLong RX2 123 (8000), .methodLink RX2 125 Lib.MathLoose.min_long.x, .static Lib.MathLoose.min_long.x, .initialized "java/lang/Math", .code Lib.MathLoose.min_long.x Lib.MathLoose.min_long.code 4 (some .long), .methodLink RX2 131 Lib.MathLoose.max_long.x, .static Lib.MathLoose.max_long.x, .code Lib.MathLoose.max_long.x Lib.MathLoose.max_long.code 4 (some .long)])
def wsX2_change_r1 : List Cond := [Cond.constant RX2 20 (-1000001), Cond.constant RX2 56 (-1000002), Cond.fieldLink RX2 11 "RollBench" "lanes" "[LRollBench$Lane;", Cond.fieldLink RX2 48 "RollBench$Lane" "cells" "[I", Cond.methodLink RX2 16 yX2_isLane, Cond.static yX2_isLane, Cond.initialized RX2, Cond.code yX2_isLane cX2_isLane 1 (some .boolean), Cond.methodLink RX2 27 yX0_isOff, Cond.instanceMethod yX0_isOff, Cond.selects RX0 yX0_isOff yX0_isOff, Cond.initialized RX0, Cond.code yX0_isOff cX0_isOff 1 (some .boolean), Cond.fieldLink RX0 22 "RollBench$Lane" "length" "I", Cond.methodLink RX2 31 yX0_refuseOff, Cond.instanceMethod yX0_refuseOff, Cond.selects RX0 yX0_refuseOff yX0_refuseOff, Cond.code yX0_refuseOff cX0_refuseOff 1 (some .int), Cond.fieldLink RX0 26 "RollBench$Lane" "offRefusals" "I", Cond.constant RX0 29 (-1000005), Cond.methodLink RX2 42 yX0_hasCell, Cond.instanceMethod yX0_hasCell, Cond.selects RX0 yX0_hasCell yX0_hasCell, Cond.code yX0_hasCell cX0_hasCell 2 (some .boolean)]
def wsX2_change_r2 : List Cond := [Cond.methodLink RX2 45 yX0_refuseOut, Cond.instanceMethod yX0_refuseOut, Cond.selects RX0 yX0_refuseOut yX0_refuseOut, Cond.code yX0_refuseOut cX0_refuseOut 1 (some .int), Cond.fieldLink RX0 30 "RollBench$Lane" "outRefusals" "I", Cond.constant RX0 33 (-1000006), Cond.methodLink RX2 57 yX2_changed, Cond.static yX2_changed, Cond.code yX2_changed cX2_changed 4 (some .int), Cond.methodLink RX2 134 yX2_changedPedal, Cond.static yX2_changedPedal, Cond.code yX2_changedPedal cX2_changedPedal 3 (some .int), Cond.methodLink RX2 138 yX2_reckoned, Cond.static yX2_reckoned, Cond.code yX2_reckoned cX2_reckoned 5 (some .long), Cond.methodLink RX2 52 yX2_stored, Cond.static yX2_stored, Cond.code yX2_stored cX2_stored 3 (some .int), Cond.constantLong RX2 119 (65535), Cond.constantLong RX2 121 (-8000), Cond.constantLong RX2 123 (8000), Cond.methodLink RX2 125 Lib.MathLoose.min_long.x, Cond.static Lib.MathLoose.min_long.x, Cond.initialized "java/lang/Math"]
def wsX2_change_r3 : List Cond := [Cond.code Lib.MathLoose.min_long.x Lib.MathLoose.min_long.code 4 (some .long), Cond.methodLink RX2 131 Lib.MathLoose.max_long.x, Cond.static Lib.MathLoose.max_long.x, Cond.code Lib.MathLoose.max_long.x Lib.MathLoose.max_long.code 4 (some .long)]
def wsX2_change : List Cond := .code yX2_change cX2_change 6 (some .int) :: ((wsX2_change_r1 ++ (wsX2_change_r2 ++ wsX2_change_r3)) ++ wsX20 ++ wsX00)
def wsX2_rule : List Cond := .code yX2_rule cX2_rule 4 (some .int) :: ([.constant RX2 20 (-1000001), .constant RX2 21 (-1000003), .constant RX2 22 (-1000004), .fieldLink RX2 11 "RollBench" "lanes" "[LRollBench$Lane;", .fieldLink RX2 61 "RollBench$Lane" "sheet" "LRollBench$Sheet;", .methodLink RX2 16 yX2_isLane, .static yX2_isLane, .initialized RX2, .code yX2_isLane cX2_isLane 1 (some .boolean), .methodLink RX2 65 yX1_renew, .instanceMethod yX1_renew, .selects RX1 yX1_renew yX1_renew, .initialized RX1, .code yX1_renew cX1_renew 4 none, .fieldLink RX1 9 "RollBench$Sheet" "numbers" "[I", .fieldLink RX1 15 "RollBench$Sheet" "rows" "I", .fieldLink RX1 19 "RollBench$Sheet" "columns" "I"] ++ wsX20 ++ wsX00 ++ wsX10)
def wsX2_lay_r1 : List Cond := [Cond.constant RX2 20 (-1000001), Cond.fieldLink RX2 11 "RollBench" "lanes" "[LRollBench$Lane;", Cond.fieldLink RX2 61 "RollBench$Lane" "sheet" "LRollBench$Sheet;", Cond.constant RX2 73 (-1000007), Cond.constant RX2 77 (-1000008), Cond.fieldLink RX2 35 "RollBench$Lane" "length" "I", Cond.methodLink RX2 16 yX2_isLane, Cond.static yX2_isLane, Cond.initialized RX2, Cond.code yX2_isLane cX2_isLane 1 (some .boolean), Cond.methodLink RX2 70 yX1_isNone, Cond.instanceMethod yX1_isNone, Cond.selects RX1 yX1_isNone yX1_isNone, Cond.initialized RX1, Cond.code yX1_isNone cX1_isNone 1 (some .boolean), Cond.fieldLink RX1 15 "RollBench$Sheet" "rows" "I", Cond.methodLink RX2 74 yX1_hasRow, Cond.instanceMethod yX1_hasRow, Cond.selects RX1 yX1_hasRow yX1_hasRow, Cond.code yX1_hasRow cX1_hasRow 2 (some .boolean), Cond.methodLink RX2 27 yX0_isOff, Cond.instanceMethod yX0_isOff, Cond.selects RX0 yX0_isOff yX0_isOff, Cond.initialized RX0]
def wsX2_lay_r2 : List Cond := [Cond.code yX0_isOff cX0_isOff 1 (some .boolean), Cond.fieldLink RX0 22 "RollBench$Lane" "length" "I", Cond.methodLink RX2 31 yX0_refuseOff, Cond.instanceMethod yX0_refuseOff, Cond.selects RX0 yX0_refuseOff yX0_refuseOff, Cond.code yX0_refuseOff cX0_refuseOff 1 (some .int), Cond.fieldLink RX0 26 "RollBench$Lane" "offRefusals" "I", Cond.constant RX0 29 (-1000005), Cond.methodLink RX2 45 yX0_refuseOut, Cond.instanceMethod yX0_refuseOut, Cond.selects RX0 yX0_refuseOut yX0_refuseOut, Cond.code yX0_refuseOut cX0_refuseOut 1 (some .int), Cond.fieldLink RX0 30 "RollBench$Lane" "outRefusals" "I", Cond.constant RX0 33 (-1000006), Cond.methodLink RX2 78 yX0_layInto, Cond.instanceMethod yX0_layInto, Cond.selects RX0 yX0_layInto yX0_layInto, Cond.code yX0_layInto cX0_layInto 5 (some .int), Cond.fieldLink RX0 18 "RollBench$Lane" "sheet" "LRollBench$Sheet;", Cond.fieldLink RX0 34 "RollBench$Sheet" "columns" "I", Cond.methodLink RX0 37 Lib.Math.min.name, Cond.static Lib.Math.min.name, Cond.initialized "java/lang/Math", Cond.code Lib.Math.min.name Lib.Math.min.code 2 (some .int)]
def wsX2_lay_r3 : List Cond := [Cond.fieldLink RX0 9 "RollBench$Lane" "cells" "[I", Cond.methodLink RX0 43 yX1_write, Cond.instanceMethod yX1_write, Cond.selects RX1 yX1_write yX1_write, Cond.code yX1_write cX1_write 4 none, Cond.fieldLink RX1 9 "RollBench$Sheet" "numbers" "[I", Cond.methodLink RX1 22 yX1_placeOf, Cond.static yX1_placeOf, Cond.code yX1_placeOf cX1_placeOf 2 (some .int)]
def wsX2_lay : List Cond := .code yX2_lay cX2_lay 5 (some .int) :: ((wsX2_lay_r1 ++ (wsX2_lay_r2 ++ wsX2_lay_r3)) ++ wsX20 ++ wsX00 ++ wsX10)
def wsX2_at_r1 : List Cond := [Cond.constant RX2 20 (-1000001), Cond.fieldLink RX2 11 "RollBench" "lanes" "[LRollBench$Lane;", Cond.fieldLink RX2 61 "RollBench$Lane" "sheet" "LRollBench$Sheet;", Cond.constant RX2 73 (-1000007), Cond.constant RX2 77 (-1000008), Cond.constant RX2 85 (-1000009), Cond.methodLink RX2 16 yX2_isLane, Cond.static yX2_isLane, Cond.initialized RX2, Cond.code yX2_isLane cX2_isLane 1 (some .boolean), Cond.methodLink RX2 70 yX1_isNone, Cond.instanceMethod yX1_isNone, Cond.selects RX1 yX1_isNone yX1_isNone, Cond.initialized RX1, Cond.code yX1_isNone cX1_isNone 1 (some .boolean), Cond.fieldLink RX1 15 "RollBench$Sheet" "rows" "I", Cond.methodLink RX2 74 yX1_hasRow, Cond.instanceMethod yX1_hasRow, Cond.selects RX1 yX1_hasRow yX1_hasRow, Cond.code yX1_hasRow cX1_hasRow 2 (some .boolean), Cond.methodLink RX2 82 yX1_hasColumn, Cond.instanceMethod yX1_hasColumn, Cond.selects RX1 yX1_hasColumn yX1_hasColumn, Cond.code yX1_hasColumn cX1_hasColumn 2 (some .boolean)]
def wsX2_at_r2 : List Cond := [Cond.fieldLink RX1 19 "RollBench$Sheet" "columns" "I", Cond.methodLink RX2 86 yX1_numberIn, Cond.instanceMethod yX1_numberIn, Cond.selects RX1 yX1_numberIn yX1_numberIn, Cond.code yX1_numberIn cX1_numberIn 3 (some .int), Cond.fieldLink RX1 9 "RollBench$Sheet" "numbers" "[I", Cond.methodLink RX1 22 yX1_placeOf, Cond.static yX1_placeOf, Cond.code yX1_placeOf cX1_placeOf 2 (some .int)]
def wsX2_at : List Cond := .code yX2_at cX2_at 5 (some .int) :: ((wsX2_at_r1 ++ wsX2_at_r2) ++ wsX20 ++ wsX00 ++ wsX10)
def wsX2_head : List Cond := .code yX2_head cX2_head 3 (some .int) :: ([.constant RX2 21 (-1000003), .constant RX2 22 (-1000004), .fieldLink RX2 89 "RollBench" "head" "I"] ++ wsX20)
def wsX2_told : List Cond := .code yX2_told cX2_told 4 (some .int) :: ([.fieldLink RX2 11 "RollBench" "lanes" "[LRollBench$Lane;", .fieldLink RX2 89 "RollBench" "head" "I", .fieldLink RX2 48 "RollBench$Lane" "cells" "[I", .methodLink RX2 42 yX0_hasCell, .instanceMethod yX0_hasCell, .selects RX0 yX0_hasCell yX0_hasCell, .initialized RX0, .code yX0_hasCell cX0_hasCell 2 (some .boolean), .fieldLink RX0 22 "RollBench$Lane" "length" "I"] ++ wsX20 ++ wsX00)
def wsX2_playNote : List Cond := .code yX2_playNote cX2_playNote 2 none :: ([.fieldLink RX2 101 "RollBench" "clock" "I", .fieldLink RX2 110 "RollBench" "notes" "I", .fieldLink RX2 113 "RollBench" "sound" "I", .fieldLink RX2 104 "RollBench" "shift" "I", .methodLink RX2 142 yX2_told, .instanceMethod yX2_told, .selects RX2 yX2_told yX2_told, .initialized RX2, .code yX2_told cX2_told 4 (some .int), .fieldLink RX2 11 "RollBench" "lanes" "[LRollBench$Lane;", .fieldLink RX2 89 "RollBench" "head" "I", .fieldLink RX2 48 "RollBench$Lane" "cells" "[I", .methodLink RX2 42 yX0_hasCell, .instanceMethod yX0_hasCell, .selects RX0 yX0_hasCell yX0_hasCell, .initialized RX0, .code yX0_hasCell cX0_hasCell 2 (some .boolean), .fieldLink RX0 22 "RollBench$Lane" "length" "I"] ++ wsX20 ++ wsX00)
def wsX2_lowered : List Cond := .code yX2_lowered cX2_lowered 3 (some .boolean) :: ([.fieldLink RX2 11 "RollBench" "lanes" "[LRollBench$Lane;", .fieldLink RX2 89 "RollBench" "head" "I", .fieldLink RX2 48 "RollBench$Lane" "cells" "[I", .methodLink RX2 42 yX0_hasCell, .instanceMethod yX0_hasCell, .selects RX0 yX0_hasCell yX0_hasCell, .initialized RX0, .code yX0_hasCell cX0_hasCell 2 (some .boolean), .fieldLink RX0 22 "RollBench$Lane" "length" "I"] ++ wsX20 ++ wsX00)
def wsX2_step_r1 : List Cond := [Cond.fieldLink RX2 101 "RollBench" "clock" "I", Cond.fieldLink RX2 104 "RollBench" "shift" "I", Cond.fieldLink RX2 89 "RollBench" "head" "I", Cond.fieldLink RX2 107 "RollBench" "mark" "I", Cond.fieldLink RX2 116 "RollBench" "blanks" "I", Cond.methodLink RX2 142 yX2_told, Cond.instanceMethod yX2_told, Cond.selects RX2 yX2_told yX2_told, Cond.initialized RX2, Cond.code yX2_told cX2_told 4 (some .int), Cond.fieldLink RX2 11 "RollBench" "lanes" "[LRollBench$Lane;", Cond.fieldLink RX2 48 "RollBench$Lane" "cells" "[I", Cond.methodLink RX2 42 yX0_hasCell, Cond.instanceMethod yX0_hasCell, Cond.selects RX0 yX0_hasCell yX0_hasCell, Cond.initialized RX0, Cond.code yX0_hasCell cX0_hasCell 2 (some .boolean), Cond.fieldLink RX0 22 "RollBench$Lane" "length" "I", Cond.methodLink RX2 145 yX2_playNote, Cond.instanceMethod yX2_playNote, Cond.selects RX2 yX2_playNote yX2_playNote, Cond.code yX2_playNote cX2_playNote 2 none, Cond.fieldLink RX2 110 "RollBench" "notes" "I", Cond.fieldLink RX2 113 "RollBench" "sound" "I"]
def wsX2_step_r2 : List Cond := [Cond.methodLink RX2 148 yX2_lowered, Cond.instanceMethod yX2_lowered, Cond.selects RX2 yX2_lowered yX2_lowered, Cond.code yX2_lowered cX2_lowered 3 (some .boolean)]
def wsX2_step : List Cond := .code yX2_step cX2_step 2 none :: ((wsX2_step_r1 ++ wsX2_step_r2) ++ wsX20 ++ wsX00)
def wsX2_play_r1 : List Cond := [Cond.constant RX2 22 (-1000004), Cond.constant RX2 21 (-1000003), Cond.fieldLink RX2 11 "RollBench" "lanes" "[LRollBench$Lane;", Cond.fieldLink RX2 89 "RollBench" "head" "I", Cond.fieldLink RX2 48 "RollBench$Lane" "cells" "[I", Cond.methodLink RX2 42 yX0_hasCell, Cond.instanceMethod yX0_hasCell, Cond.selects RX0 yX0_hasCell yX0_hasCell, Cond.initialized RX0, Cond.code yX0_hasCell cX0_hasCell 2 (some .boolean), Cond.fieldLink RX0 22 "RollBench$Lane" "length" "I", Cond.methodLink RX2 92 yX2_step, Cond.instanceMethod yX2_step, Cond.selects RX2 yX2_step yX2_step, Cond.initialized RX2, Cond.code yX2_step cX2_step 2 none, Cond.fieldLink RX2 101 "RollBench" "clock" "I", Cond.fieldLink RX2 104 "RollBench" "shift" "I", Cond.fieldLink RX2 107 "RollBench" "mark" "I", Cond.fieldLink RX2 116 "RollBench" "blanks" "I", Cond.methodLink RX2 142 yX2_told, Cond.instanceMethod yX2_told, Cond.selects RX2 yX2_told yX2_told, Cond.code yX2_told cX2_told 4 (some .int)]
def wsX2_play_r2 : List Cond := [Cond.methodLink RX2 145 yX2_playNote, Cond.instanceMethod yX2_playNote, Cond.selects RX2 yX2_playNote yX2_playNote, Cond.code yX2_playNote cX2_playNote 2 none, Cond.fieldLink RX2 110 "RollBench" "notes" "I", Cond.fieldLink RX2 113 "RollBench" "sound" "I", Cond.methodLink RX2 148 yX2_lowered, Cond.instanceMethod yX2_lowered, Cond.selects RX2 yX2_lowered yX2_lowered, Cond.code yX2_lowered cX2_lowered 3 (some .boolean)]
def wsX2_play : List Cond := .code yX2_play cX2_play 4 (some .int) :: ((wsX2_play_r1 ++ wsX2_play_r2) ++ wsX20 ++ wsX00)
def wsX2_count : List Cond := .code yX2_count cX2_count 2 (some .int) :: ([.fieldLink RX2 11 "RollBench" "lanes" "[LRollBench$Lane;", .fieldLink RX2 95 "RollBench$Lane" "offRefusals" "I", .fieldLink RX2 98 "RollBench$Lane" "outRefusals" "I", .fieldLink RX2 89 "RollBench" "head" "I", .fieldLink RX2 101 "RollBench" "clock" "I", .fieldLink RX2 104 "RollBench" "shift" "I", .fieldLink RX2 107 "RollBench" "mark" "I", .fieldLink RX2 110 "RollBench" "notes" "I", .fieldLink RX2 113 "RollBench" "sound" "I", .fieldLink RX2 116 "RollBench" "blanks" "I", .methodLink RX2 16 yX2_isLane, .static yX2_isLane, .initialized RX2, .code yX2_isLane cX2_isLane 1 (some .boolean)] ++ wsX20 ++ wsX00)
def wsX3_init : List Cond := .code yX3_init cX3_init 1 none :: ([.methodLink RX3 1 objectInit, .instanceMethod objectInit, .code objectInit ⟨#[0xb1]⟩ 1 none, .arrayClass .int, .fieldLink RX3 7 "RollBenchModel" "cells" "[I", .fieldLink RX3 13 "RollBenchModel" "sizes" "[I", .arrayClass .boolean, .fieldLink RX3 16 "RollBenchModel" "isOn" "[Z", .fieldLink RX3 20 "RollBenchModel" "sheets" "[I", .fieldLink RX3 23 "RollBenchModel" "rows" "[I", .fieldLink RX3 26 "RollBenchModel" "columns" "[I", .fieldLink RX3 29 "RollBenchModel" "isRuled" "[Z", .fieldLink RX3 32 "RollBenchModel" "offs" "[I", .fieldLink RX3 35 "RollBenchModel" "outs" "[I"] ++ wsX30)
def wsX3_isLane : List Cond := .code yX3_isLane cX3_isLane 1 (some .boolean) :: ([])
def wsX3_off : List Cond := .code yX3_off cX3_off 2 (some .int) :: ([.fieldLink RX3 32 "RollBenchModel" "offs" "[I", .constant RX3 38 (-1000005)] ++ wsX30)
def wsX3_out : List Cond := .code yX3_out cX3_out 2 (some .int) :: ([.fieldLink RX3 35 "RollBenchModel" "outs" "[I", .constant RX3 39 (-1000006)] ++ wsX30)
def wsX3_stored : List Cond := .code yX3_stored cX3_stored 5 (some .int) :: ([.constantLong RX3 40 (-8000), .constantLong RX3 42 (8000), .constantLong RX3 44 (65535), .constant RX3 46 (32768), .constant RX3 47 (65536)])
def wsX3_mount : List Cond := .code yX3_mount cX3_mount 4 (some .int) :: ([.constant RX3 52 (-1000001), .constant RX3 53 (-1000003), .constant RX3 54 (-1000004), .fieldLink RX3 16 "RollBenchModel" "isOn" "[Z", .fieldLink RX3 13 "RollBenchModel" "sizes" "[I", .fieldLink RX3 7 "RollBenchModel" "cells" "[I", .methodLink RX3 48 yX3_isLane, .static yX3_isLane, .initialized RX3, .code yX3_isLane cX3_isLane 1 (some .boolean)] ++ wsX30)
def wsX3_strip : List Cond := .code yX3_strip cX3_strip 2 (some .int) :: ([.constant RX3 52 (-1000001), .fieldLink RX3 16 "RollBenchModel" "isOn" "[Z", .fieldLink RX3 13 "RollBenchModel" "sizes" "[I", .methodLink RX3 48 yX3_isLane, .static yX3_isLane, .initialized RX3, .code yX3_isLane cX3_isLane 1 (some .boolean), .methodLink RX3 55 yX3_off, .instanceMethod yX3_off, .selects RX3 yX3_off yX3_off, .code yX3_off cX3_off 2 (some .int), .fieldLink RX3 32 "RollBenchModel" "offs" "[I", .constant RX3 38 (-1000005)] ++ wsX30)
def wsX3_size : List Cond := .code yX3_size cX3_size 2 (some .int) :: ([.constant RX3 52 (-1000001), .fieldLink RX3 16 "RollBenchModel" "isOn" "[Z", .fieldLink RX3 13 "RollBenchModel" "sizes" "[I", .methodLink RX3 48 yX3_isLane, .static yX3_isLane, .initialized RX3, .code yX3_isLane cX3_isLane 1 (some .boolean), .methodLink RX3 55 yX3_off, .instanceMethod yX3_off, .selects RX3 yX3_off yX3_off, .code yX3_off cX3_off 2 (some .int), .fieldLink RX3 32 "RollBenchModel" "offs" "[I", .constant RX3 38 (-1000005)] ++ wsX30)
def wsX3_cell : List Cond := .code yX3_cell cX3_cell 3 (some .int) :: ([.constant RX3 52 (-1000001), .fieldLink RX3 16 "RollBenchModel" "isOn" "[Z", .fieldLink RX3 13 "RollBenchModel" "sizes" "[I", .fieldLink RX3 7 "RollBenchModel" "cells" "[I", .methodLink RX3 48 yX3_isLane, .static yX3_isLane, .initialized RX3, .code yX3_isLane cX3_isLane 1 (some .boolean), .methodLink RX3 55 yX3_off, .instanceMethod yX3_off, .selects RX3 yX3_off yX3_off, .code yX3_off cX3_off 2 (some .int), .fieldLink RX3 32 "RollBenchModel" "offs" "[I", .constant RX3 38 (-1000005), .methodLink RX3 59 yX3_out, .instanceMethod yX3_out, .selects RX3 yX3_out yX3_out, .code yX3_out cX3_out 2 (some .int), .fieldLink RX3 35 "RollBenchModel" "outs" "[I", .constant RX3 39 (-1000006)] ++ wsX30)
def wsX3_put_r1 : List Cond := [Cond.constant RX3 52 (-1000001), Cond.fieldLink RX3 16 "RollBenchModel" "isOn" "[Z", Cond.fieldLink RX3 13 "RollBenchModel" "sizes" "[I", Cond.fieldLink RX3 7 "RollBenchModel" "cells" "[I", Cond.methodLink RX3 48 yX3_isLane, Cond.static yX3_isLane, Cond.initialized RX3, Cond.code yX3_isLane cX3_isLane 1 (some .boolean), Cond.methodLink RX3 55 yX3_off, Cond.instanceMethod yX3_off, Cond.selects RX3 yX3_off yX3_off, Cond.code yX3_off cX3_off 2 (some .int), Cond.fieldLink RX3 32 "RollBenchModel" "offs" "[I", Cond.constant RX3 38 (-1000005), Cond.methodLink RX3 59 yX3_out, Cond.instanceMethod yX3_out, Cond.selects RX3 yX3_out yX3_out, Cond.code yX3_out cX3_out 2 (some .int), Cond.fieldLink RX3 35 "RollBenchModel" "outs" "[I", Cond.constant RX3 39 (-1000006), Cond.methodLink RX3 62 yX3_stored, Cond.static yX3_stored, Cond.code yX3_stored cX3_stored 5 (some .int), Cond.constantLong RX3 40 (-8000)]
def wsX3_put_r2 : List Cond := [Cond.constantLong RX3 42 (8000), Cond.constantLong RX3 44 (65535), Cond.constant RX3 46 (32768), Cond.constant RX3 47 (65536)]
def wsX3_put : List Cond := .code yX3_put cX3_put 4 (some .int) :: ((wsX3_put_r1 ++ wsX3_put_r2) ++ wsX30)
def wsX3_pressed : List Cond := .code yX3_pressed cX3_pressed 5 (some .int) :: ([])
def wsX3_change_r1 : List Cond := [Cond.constant RX3 52 (-1000001), Cond.constant RX3 66 (-1000002), Cond.fieldLink RX3 16 "RollBenchModel" "isOn" "[Z", Cond.fieldLink RX3 13 "RollBenchModel" "sizes" "[I", Cond.fieldLink RX3 7 "RollBenchModel" "cells" "[I", Cond.methodLink RX3 48 yX3_isLane, Cond.static yX3_isLane, Cond.initialized RX3, Cond.code yX3_isLane cX3_isLane 1 (some .boolean), Cond.methodLink RX3 55 yX3_off, Cond.instanceMethod yX3_off, Cond.selects RX3 yX3_off yX3_off, Cond.code yX3_off cX3_off 2 (some .int), Cond.fieldLink RX3 32 "RollBenchModel" "offs" "[I", Cond.constant RX3 38 (-1000005), Cond.methodLink RX3 59 yX3_out, Cond.instanceMethod yX3_out, Cond.selects RX3 yX3_out yX3_out, Cond.code yX3_out cX3_out 2 (some .int), Cond.fieldLink RX3 35 "RollBenchModel" "outs" "[I", Cond.constant RX3 39 (-1000006), Cond.methodLink RX3 67 yX3_pressed, Cond.static yX3_pressed, Cond.code yX3_pressed cX3_pressed 5 (some .int)]
def wsX3_change_r2 : List Cond := [Cond.methodLink RX3 62 yX3_stored, Cond.static yX3_stored, Cond.code yX3_stored cX3_stored 5 (some .int), Cond.constantLong RX3 40 (-8000), Cond.constantLong RX3 42 (8000), Cond.constantLong RX3 44 (65535), Cond.constant RX3 46 (32768), Cond.constant RX3 47 (65536)]
def wsX3_change : List Cond := .code yX3_change cX3_change 10 (some .int) :: ((wsX3_change_r1 ++ wsX3_change_r2) ++ wsX30)
def wsX3_rule : List Cond := .code yX3_rule cX3_rule 5 (some .int) :: ([.constant RX3 52 (-1000001), .constant RX3 53 (-1000003), .constant RX3 54 (-1000004), .fieldLink RX3 29 "RollBenchModel" "isRuled" "[Z", .fieldLink RX3 23 "RollBenchModel" "rows" "[I", .fieldLink RX3 26 "RollBenchModel" "columns" "[I", .fieldLink RX3 20 "RollBenchModel" "sheets" "[I", .methodLink RX3 48 yX3_isLane, .static yX3_isLane, .initialized RX3, .code yX3_isLane cX3_isLane 1 (some .boolean)] ++ wsX30)
def wsX3_lay_r1 : List Cond := [Cond.constant RX3 52 (-1000001), Cond.fieldLink RX3 29 "RollBenchModel" "isRuled" "[Z", Cond.constant RX3 71 (-1000007), Cond.fieldLink RX3 23 "RollBenchModel" "rows" "[I", Cond.constant RX3 72 (-1000008), Cond.fieldLink RX3 16 "RollBenchModel" "isOn" "[Z", Cond.fieldLink RX3 13 "RollBenchModel" "sizes" "[I", Cond.fieldLink RX3 26 "RollBenchModel" "columns" "[I", Cond.fieldLink RX3 20 "RollBenchModel" "sheets" "[I", Cond.fieldLink RX3 7 "RollBenchModel" "cells" "[I", Cond.methodLink RX3 48 yX3_isLane, Cond.static yX3_isLane, Cond.initialized RX3, Cond.code yX3_isLane cX3_isLane 1 (some .boolean), Cond.methodLink RX3 55 yX3_off, Cond.instanceMethod yX3_off, Cond.selects RX3 yX3_off yX3_off, Cond.code yX3_off cX3_off 2 (some .int), Cond.fieldLink RX3 32 "RollBenchModel" "offs" "[I", Cond.constant RX3 38 (-1000005), Cond.methodLink RX3 59 yX3_out, Cond.instanceMethod yX3_out, Cond.selects RX3 yX3_out yX3_out, Cond.code yX3_out cX3_out 2 (some .int)]
def wsX3_lay_r2 : List Cond := [Cond.fieldLink RX3 35 "RollBenchModel" "outs" "[I", Cond.constant RX3 39 (-1000006)]
def wsX3_lay : List Cond := .code yX3_lay cX3_lay 5 (some .int) :: ((wsX3_lay_r1 ++ wsX3_lay_r2) ++ wsX30)
def wsX3_at : List Cond := .code yX3_at cX3_at 4 (some .int) :: ([.constant RX3 52 (-1000001), .fieldLink RX3 29 "RollBenchModel" "isRuled" "[Z", .constant RX3 71 (-1000007), .fieldLink RX3 23 "RollBenchModel" "rows" "[I", .constant RX3 72 (-1000008), .fieldLink RX3 26 "RollBenchModel" "columns" "[I", .constant RX3 73 (-1000009), .fieldLink RX3 20 "RollBenchModel" "sheets" "[I", .methodLink RX3 48 yX3_isLane, .static yX3_isLane, .initialized RX3, .code yX3_isLane cX3_isLane 1 (some .boolean)] ++ wsX30)
def wsX3_head : List Cond := .code yX3_head cX3_head 3 (some .int) :: ([.constant RX3 53 (-1000003), .constant RX3 54 (-1000004), .fieldLink RX3 74 "RollBenchModel" "head" "I"] ++ wsX30)
def wsX3_has : List Cond := .code yX3_has cX3_has 2 (some .boolean) :: ([.fieldLink RX3 16 "RollBenchModel" "isOn" "[Z", .fieldLink RX3 74 "RollBenchModel" "head" "I", .fieldLink RX3 13 "RollBenchModel" "sizes" "[I"] ++ wsX30)
def wsX3_told : List Cond := .code yX3_told cX3_told 3 (some .int) :: ([.fieldLink RX3 7 "RollBenchModel" "cells" "[I", .fieldLink RX3 74 "RollBenchModel" "head" "I", .methodLink RX3 78 yX3_has, .instanceMethod yX3_has, .selects RX3 yX3_has yX3_has, .initialized RX3, .code yX3_has cX3_has 2 (some .boolean), .fieldLink RX3 16 "RollBenchModel" "isOn" "[Z", .fieldLink RX3 13 "RollBenchModel" "sizes" "[I"] ++ wsX30)
def wsX3_less : List Cond := .code yX3_less cX3_less 2 none :: ([.fieldLink RX3 7 "RollBenchModel" "cells" "[I", .fieldLink RX3 74 "RollBenchModel" "head" "I"] ++ wsX30)
def wsX3_note : List Cond := .code yX3_note cX3_note 2 none :: ([.fieldLink RX3 85 "RollBenchModel" "clock" "I", .fieldLink RX3 88 "RollBenchModel" "notes" "I", .fieldLink RX3 91 "RollBenchModel" "sound" "I", .fieldLink RX3 94 "RollBenchModel" "shift" "I", .methodLink RX3 81 yX3_told, .instanceMethod yX3_told, .selects RX3 yX3_told yX3_told, .initialized RX3, .code yX3_told cX3_told 3 (some .int), .fieldLink RX3 7 "RollBenchModel" "cells" "[I", .fieldLink RX3 74 "RollBenchModel" "head" "I", .methodLink RX3 78 yX3_has, .instanceMethod yX3_has, .selects RX3 yX3_has yX3_has, .code yX3_has cX3_has 2 (some .boolean), .fieldLink RX3 16 "RollBenchModel" "isOn" "[Z", .fieldLink RX3 13 "RollBenchModel" "sizes" "[I"] ++ wsX30)
def wsX3_step_r1 : List Cond := [Cond.fieldLink RX3 7 "RollBenchModel" "cells" "[I", Cond.fieldLink RX3 74 "RollBenchModel" "head" "I", Cond.fieldLink RX3 101 "RollBenchModel" "mark" "I", Cond.fieldLink RX3 85 "RollBenchModel" "clock" "I", Cond.fieldLink RX3 94 "RollBenchModel" "shift" "I", Cond.fieldLink RX3 107 "RollBenchModel" "blanks" "I", Cond.methodLink RX3 81 yX3_told, Cond.instanceMethod yX3_told, Cond.selects RX3 yX3_told yX3_told, Cond.initialized RX3, Cond.code yX3_told cX3_told 3 (some .int), Cond.methodLink RX3 78 yX3_has, Cond.instanceMethod yX3_has, Cond.selects RX3 yX3_has yX3_has, Cond.code yX3_has cX3_has 2 (some .boolean), Cond.fieldLink RX3 16 "RollBenchModel" "isOn" "[Z", Cond.fieldLink RX3 13 "RollBenchModel" "sizes" "[I", Cond.methodLink RX3 97 yX3_less, Cond.instanceMethod yX3_less, Cond.selects RX3 yX3_less yX3_less, Cond.code yX3_less cX3_less 2 none, Cond.methodLink RX3 104 yX3_note, Cond.instanceMethod yX3_note, Cond.selects RX3 yX3_note yX3_note]
def wsX3_step_r2 : List Cond := [Cond.code yX3_note cX3_note 2 none, Cond.fieldLink RX3 88 "RollBenchModel" "notes" "I", Cond.fieldLink RX3 91 "RollBenchModel" "sound" "I"]
def wsX3_step : List Cond := .code yX3_step cX3_step 2 none :: ((wsX3_step_r1 ++ wsX3_step_r2) ++ wsX30)
def wsX3_play_r1 : List Cond := [Cond.constant RX3 54 (-1000004), Cond.constant RX3 53 (-1000003), Cond.methodLink RX3 78 yX3_has, Cond.instanceMethod yX3_has, Cond.selects RX3 yX3_has yX3_has, Cond.initialized RX3, Cond.code yX3_has cX3_has 2 (some .boolean), Cond.fieldLink RX3 16 "RollBenchModel" "isOn" "[Z", Cond.fieldLink RX3 74 "RollBenchModel" "head" "I", Cond.fieldLink RX3 13 "RollBenchModel" "sizes" "[I", Cond.methodLink RX3 110 yX3_step, Cond.instanceMethod yX3_step, Cond.selects RX3 yX3_step yX3_step, Cond.code yX3_step cX3_step 2 none, Cond.fieldLink RX3 7 "RollBenchModel" "cells" "[I", Cond.fieldLink RX3 101 "RollBenchModel" "mark" "I", Cond.fieldLink RX3 85 "RollBenchModel" "clock" "I", Cond.fieldLink RX3 94 "RollBenchModel" "shift" "I", Cond.fieldLink RX3 107 "RollBenchModel" "blanks" "I", Cond.methodLink RX3 81 yX3_told, Cond.instanceMethod yX3_told, Cond.selects RX3 yX3_told yX3_told, Cond.code yX3_told cX3_told 3 (some .int), Cond.methodLink RX3 97 yX3_less]
def wsX3_play_r2 : List Cond := [Cond.instanceMethod yX3_less, Cond.selects RX3 yX3_less yX3_less, Cond.code yX3_less cX3_less 2 none, Cond.methodLink RX3 104 yX3_note, Cond.instanceMethod yX3_note, Cond.selects RX3 yX3_note yX3_note, Cond.code yX3_note cX3_note 2 none, Cond.fieldLink RX3 88 "RollBenchModel" "notes" "I", Cond.fieldLink RX3 91 "RollBenchModel" "sound" "I"]
def wsX3_play : List Cond := .code yX3_play cX3_play 3 (some .int) :: ((wsX3_play_r1 ++ wsX3_play_r2) ++ wsX30)
def wsX3_count : List Cond := .code yX3_count cX3_count 2 (some .int) :: ([.fieldLink RX3 32 "RollBenchModel" "offs" "[I", .fieldLink RX3 35 "RollBenchModel" "outs" "[I", .fieldLink RX3 74 "RollBenchModel" "head" "I", .fieldLink RX3 85 "RollBenchModel" "clock" "I", .fieldLink RX3 94 "RollBenchModel" "shift" "I", .fieldLink RX3 101 "RollBenchModel" "mark" "I", .fieldLink RX3 88 "RollBenchModel" "notes" "I", .fieldLink RX3 91 "RollBenchModel" "sound" "I", .fieldLink RX3 107 "RollBenchModel" "blanks" "I"] ++ wsX30)
def wsJ9_max_f86c9 : List Cond := .code yJ9_max_f86c9 cJ9_max_f86c9 4 (some .long) :: ([])
def wsJ9_min_7cf53 : List Cond := .code yJ9_min_7cf53 cJ9_min_7cf53 2 (some .int) :: ([])
def wsJ9_min_f86c9 : List Cond := .code yJ9_min_f86c9 cJ9_min_f86c9 4 (some .long) :: ([])
def wsL_law_r1 : List Cond := [Cond.classLink RL 7 RX2, Cond.instantiable RX2 8, Cond.initialized RX2, Cond.classLink RL 10 RX3, Cond.instantiable RX3 16, Cond.initialized RX3, Cond.methodLink RL 9 yX2_init, Cond.instanceMethod yX2_init, Cond.code yX2_init cX2_init 2 none, Cond.methodLink RX2 1 objectInit, Cond.instanceMethod objectInit, Cond.code objectInit ⟨#[0xb1]⟩ 1 none, Cond.classLink RX2 9 RX0, Cond.fieldLink RX2 11 "RollBench" "lanes" "[LRollBench$Lane;", Cond.instantiable RX0 5, Cond.initialized RX0, Cond.methodLink RX2 15 yX0_init, Cond.instanceMethod yX0_init, Cond.code yX0_init cX0_init 1 none, Cond.methodLink RX0 3 objectInit, Cond.arrayClass .int, Cond.fieldLink RX0 9 "RollBench$Lane" "cells" "[I", Cond.classLink RX0 15 RX1, Cond.instantiable RX1 3]
def wsL_law_r2 : List Cond := [Cond.initialized RX1, Cond.fieldLink RX0 18 "RollBench$Lane" "sheet" "LRollBench$Sheet;", Cond.fieldLink RX0 22 "RollBench$Lane" "length" "I", Cond.methodLink RX0 17 yX1_init, Cond.instanceMethod yX1_init, Cond.code yX1_init cX1_init 1 none, Cond.methodLink RX1 3 objectInit, Cond.fieldLink RX1 9 "RollBench$Sheet" "numbers" "[I", Cond.fieldLink RX1 15 "RollBench$Sheet" "rows" "I", Cond.methodLink RL 12 yX3_init, Cond.instanceMethod yX3_init, Cond.code yX3_init cX3_init 1 none, Cond.methodLink RX3 1 objectInit, Cond.fieldLink RX3 7 "RollBenchModel" "cells" "[I", Cond.fieldLink RX3 13 "RollBenchModel" "sizes" "[I", Cond.arrayClass .boolean, Cond.fieldLink RX3 16 "RollBenchModel" "isOn" "[Z", Cond.fieldLink RX3 20 "RollBenchModel" "sheets" "[I", Cond.fieldLink RX3 23 "RollBenchModel" "rows" "[I", Cond.fieldLink RX3 26 "RollBenchModel" "columns" "[I", Cond.fieldLink RX3 29 "RollBenchModel" "isRuled" "[Z", Cond.fieldLink RX3 32 "RollBenchModel" "offs" "[I", Cond.fieldLink RX3 35 "RollBenchModel" "outs" "[I", Cond.methodLink RL 13 yX2_mount]
def wsL_law_r3 : List Cond := [Cond.instanceMethod yX2_mount, Cond.selects RX2 yX2_mount yX2_mount, Cond.code yX2_mount cX2_mount 3 (some .int), Cond.constant RX2 20 (-1000001), Cond.constant RX2 21 (-1000003), Cond.constant RX2 22 (-1000004), Cond.methodLink RX2 16 yX2_isLane, Cond.static yX2_isLane, Cond.code yX2_isLane cX2_isLane 1 (some .boolean), Cond.methodLink RX2 23 yX0_renew, Cond.instanceMethod yX0_renew, Cond.selects RX0 yX0_renew yX0_renew, Cond.code yX0_renew cX0_renew 3 none, Cond.methodLink RL 17 yX3_mount, Cond.instanceMethod yX3_mount, Cond.selects RX3 yX3_mount yX3_mount, Cond.code yX3_mount cX3_mount 4 (some .int), Cond.constant RX3 52 (-1000001), Cond.constant RX3 53 (-1000003), Cond.constant RX3 54 (-1000004), Cond.methodLink RX3 48 yX3_isLane, Cond.static yX3_isLane, Cond.code yX3_isLane cX3_isLane 1 (some .boolean), Cond.methodLink RL 18 yX2_strip]
def wsL_law_r4 : List Cond := [Cond.instanceMethod yX2_strip, Cond.selects RX2 yX2_strip yX2_strip, Cond.code yX2_strip cX2_strip 4 (some .int), Cond.fieldLink RX2 35 "RollBench$Lane" "length" "I", Cond.methodLink RX2 27 yX0_isOff, Cond.instanceMethod yX0_isOff, Cond.selects RX0 yX0_isOff yX0_isOff, Cond.code yX0_isOff cX0_isOff 1 (some .boolean), Cond.methodLink RX2 31 yX0_refuseOff, Cond.instanceMethod yX0_refuseOff, Cond.selects RX0 yX0_refuseOff yX0_refuseOff, Cond.code yX0_refuseOff cX0_refuseOff 1 (some .int), Cond.fieldLink RX0 26 "RollBench$Lane" "offRefusals" "I", Cond.constant RX0 29 (-1000005), Cond.methodLink RX2 39 yX0_turnOff, Cond.instanceMethod yX0_turnOff, Cond.selects RX0 yX0_turnOff yX0_turnOff, Cond.code yX0_turnOff cX0_turnOff 1 none, Cond.methodLink RL 22 yX3_strip, Cond.instanceMethod yX3_strip, Cond.selects RX3 yX3_strip yX3_strip, Cond.code yX3_strip cX3_strip 2 (some .int), Cond.methodLink RX3 55 yX3_off, Cond.instanceMethod yX3_off]
def wsL_law_r5 : List Cond := [Cond.selects RX3 yX3_off yX3_off, Cond.code yX3_off cX3_off 2 (some .int), Cond.constant RX3 38 (-1000005), Cond.methodLink RL 23 yX2_size, Cond.instanceMethod yX2_size, Cond.selects RX2 yX2_size yX2_size, Cond.code yX2_size cX2_size 3 (some .int), Cond.methodLink RL 26 yX3_size, Cond.instanceMethod yX3_size, Cond.selects RX3 yX3_size yX3_size, Cond.code yX3_size cX3_size 2 (some .int), Cond.methodLink RL 27 yX2_cell, Cond.instanceMethod yX2_cell, Cond.selects RX2 yX2_cell yX2_cell, Cond.code yX2_cell cX2_cell 4 (some .int), Cond.fieldLink RX2 48 "RollBench$Lane" "cells" "[I", Cond.methodLink RX2 42 yX0_hasCell, Cond.instanceMethod yX0_hasCell, Cond.selects RX0 yX0_hasCell yX0_hasCell, Cond.code yX0_hasCell cX0_hasCell 2 (some .boolean), Cond.methodLink RX2 45 yX0_refuseOut, Cond.instanceMethod yX0_refuseOut, Cond.selects RX0 yX0_refuseOut yX0_refuseOut, Cond.code yX0_refuseOut cX0_refuseOut 1 (some .int)]
def wsL_law_r6 : List Cond := [Cond.fieldLink RX0 30 "RollBench$Lane" "outRefusals" "I", Cond.constant RX0 33 (-1000006), Cond.methodLink RL 30 yX3_cell, Cond.instanceMethod yX3_cell, Cond.selects RX3 yX3_cell yX3_cell, Cond.code yX3_cell cX3_cell 3 (some .int), Cond.methodLink RX3 59 yX3_out, Cond.instanceMethod yX3_out, Cond.selects RX3 yX3_out yX3_out, Cond.code yX3_out cX3_out 2 (some .int), Cond.constant RX3 39 (-1000006), Cond.methodLink RL 31 yX2_put, Cond.instanceMethod yX2_put, Cond.selects RX2 yX2_put yX2_put, Cond.code yX2_put cX2_put 5 (some .int), Cond.methodLink RX2 52 yX2_stored, Cond.static yX2_stored, Cond.code yX2_stored cX2_stored 3 (some .int), Cond.constantLong RX2 119 (65535), Cond.constantLong RX2 121 (-8000), Cond.constantLong RX2 123 (8000), Cond.methodLink RX2 125 Lib.MathLoose.min_long.x, Cond.static Lib.MathLoose.min_long.x, Cond.initialized "java/lang/Math"]
def wsL_law_r7 : List Cond := [Cond.code Lib.MathLoose.min_long.x Lib.MathLoose.min_long.code 4 (some .long), Cond.methodLink RX2 131 Lib.MathLoose.max_long.x, Cond.static Lib.MathLoose.max_long.x, Cond.code Lib.MathLoose.max_long.x Lib.MathLoose.max_long.code 4 (some .long), Cond.methodLink RL 35 yX3_put, Cond.instanceMethod yX3_put, Cond.selects RX3 yX3_put yX3_put, Cond.code yX3_put cX3_put 4 (some .int), Cond.methodLink RX3 62 yX3_stored, Cond.static yX3_stored, Cond.code yX3_stored cX3_stored 5 (some .int), Cond.constantLong RX3 40 (-8000), Cond.constantLong RX3 42 (8000), Cond.constantLong RX3 44 (65535), Cond.constant RX3 46 (32768), Cond.constant RX3 47 (65536), Cond.methodLink RL 36 yX2_change, Cond.instanceMethod yX2_change, Cond.selects RX2 yX2_change yX2_change, Cond.code yX2_change cX2_change 6 (some .int), Cond.constant RX2 56 (-1000002), Cond.methodLink RX2 57 yX2_changed, Cond.static yX2_changed, Cond.code yX2_changed cX2_changed 4 (some .int)]
def wsL_law_r8 : List Cond := [Cond.methodLink RX2 134 yX2_changedPedal, Cond.static yX2_changedPedal, Cond.code yX2_changedPedal cX2_changedPedal 3 (some .int), Cond.methodLink RX2 138 yX2_reckoned, Cond.static yX2_reckoned, Cond.code yX2_reckoned cX2_reckoned 5 (some .long), Cond.methodLink RL 40 yX3_change, Cond.instanceMethod yX3_change, Cond.selects RX3 yX3_change yX3_change, Cond.code yX3_change cX3_change 10 (some .int), Cond.constant RX3 66 (-1000002), Cond.methodLink RX3 67 yX3_pressed, Cond.static yX3_pressed, Cond.code yX3_pressed cX3_pressed 5 (some .int), Cond.methodLink RL 41 yX2_rule, Cond.instanceMethod yX2_rule, Cond.selects RX2 yX2_rule yX2_rule, Cond.code yX2_rule cX2_rule 4 (some .int), Cond.fieldLink RX2 61 "RollBench$Lane" "sheet" "LRollBench$Sheet;", Cond.methodLink RX2 65 yX1_renew, Cond.instanceMethod yX1_renew, Cond.selects RX1 yX1_renew yX1_renew, Cond.code yX1_renew cX1_renew 4 none, Cond.fieldLink RX1 19 "RollBench$Sheet" "columns" "I"]
def wsL_law_r9 : List Cond := [Cond.methodLink RL 44 yX3_rule, Cond.instanceMethod yX3_rule, Cond.selects RX3 yX3_rule yX3_rule, Cond.code yX3_rule cX3_rule 5 (some .int), Cond.methodLink RL 45 yX2_lay, Cond.instanceMethod yX2_lay, Cond.selects RX2 yX2_lay yX2_lay, Cond.code yX2_lay cX2_lay 5 (some .int), Cond.constant RX2 73 (-1000007), Cond.constant RX2 77 (-1000008), Cond.methodLink RX2 70 yX1_isNone, Cond.instanceMethod yX1_isNone, Cond.selects RX1 yX1_isNone yX1_isNone, Cond.code yX1_isNone cX1_isNone 1 (some .boolean), Cond.methodLink RX2 74 yX1_hasRow, Cond.instanceMethod yX1_hasRow, Cond.selects RX1 yX1_hasRow yX1_hasRow, Cond.code yX1_hasRow cX1_hasRow 2 (some .boolean), Cond.methodLink RX2 78 yX0_layInto, Cond.instanceMethod yX0_layInto, Cond.selects RX0 yX0_layInto yX0_layInto, Cond.code yX0_layInto cX0_layInto 5 (some .int), Cond.fieldLink RX0 34 "RollBench$Sheet" "columns" "I", Cond.methodLink RX0 37 Lib.Math.min.name]
def wsL_law_r10 : List Cond := [Cond.static Lib.Math.min.name, Cond.code Lib.Math.min.name Lib.Math.min.code 2 (some .int), Cond.methodLink RX0 43 yX1_write, Cond.instanceMethod yX1_write, Cond.selects RX1 yX1_write yX1_write, Cond.code yX1_write cX1_write 4 none, Cond.methodLink RX1 22 yX1_placeOf, Cond.static yX1_placeOf, Cond.code yX1_placeOf cX1_placeOf 2 (some .int), Cond.methodLink RL 48 yX3_lay, Cond.instanceMethod yX3_lay, Cond.selects RX3 yX3_lay yX3_lay, Cond.code yX3_lay cX3_lay 5 (some .int), Cond.constant RX3 71 (-1000007), Cond.constant RX3 72 (-1000008), Cond.methodLink RL 49 yX2_at, Cond.instanceMethod yX2_at, Cond.selects RX2 yX2_at yX2_at, Cond.code yX2_at cX2_at 5 (some .int), Cond.constant RX2 85 (-1000009), Cond.methodLink RX2 82 yX1_hasColumn, Cond.instanceMethod yX1_hasColumn, Cond.selects RX1 yX1_hasColumn yX1_hasColumn, Cond.code yX1_hasColumn cX1_hasColumn 2 (some .boolean)]
def wsL_law_r11 : List Cond := [Cond.methodLink RX2 86 yX1_numberIn, Cond.instanceMethod yX1_numberIn, Cond.selects RX1 yX1_numberIn yX1_numberIn, Cond.code yX1_numberIn cX1_numberIn 3 (some .int), Cond.methodLink RL 52 yX3_at, Cond.instanceMethod yX3_at, Cond.selects RX3 yX3_at yX3_at, Cond.code yX3_at cX3_at 4 (some .int), Cond.constant RX3 73 (-1000009), Cond.methodLink RL 53 yX2_head, Cond.instanceMethod yX2_head, Cond.selects RX2 yX2_head yX2_head, Cond.code yX2_head cX2_head 3 (some .int), Cond.fieldLink RX2 89 "RollBench" "head" "I", Cond.methodLink RL 56 yX3_head, Cond.instanceMethod yX3_head, Cond.selects RX3 yX3_head yX3_head, Cond.code yX3_head cX3_head 3 (some .int), Cond.fieldLink RX3 74 "RollBenchModel" "head" "I", Cond.methodLink RL 57 yX2_play, Cond.instanceMethod yX2_play, Cond.selects RX2 yX2_play yX2_play, Cond.code yX2_play cX2_play 4 (some .int), Cond.methodLink RX2 92 yX2_step]
def wsL_law_r12 : List Cond := [Cond.instanceMethod yX2_step, Cond.selects RX2 yX2_step yX2_step, Cond.code yX2_step cX2_step 2 none, Cond.fieldLink RX2 101 "RollBench" "clock" "I", Cond.fieldLink RX2 104 "RollBench" "shift" "I", Cond.fieldLink RX2 107 "RollBench" "mark" "I", Cond.fieldLink RX2 116 "RollBench" "blanks" "I", Cond.methodLink RX2 142 yX2_told, Cond.instanceMethod yX2_told, Cond.selects RX2 yX2_told yX2_told, Cond.code yX2_told cX2_told 4 (some .int), Cond.methodLink RX2 145 yX2_playNote, Cond.instanceMethod yX2_playNote, Cond.selects RX2 yX2_playNote yX2_playNote, Cond.code yX2_playNote cX2_playNote 2 none, Cond.fieldLink RX2 110 "RollBench" "notes" "I", Cond.fieldLink RX2 113 "RollBench" "sound" "I", Cond.methodLink RX2 148 yX2_lowered, Cond.instanceMethod yX2_lowered, Cond.selects RX2 yX2_lowered yX2_lowered, Cond.code yX2_lowered cX2_lowered 3 (some .boolean), Cond.methodLink RL 60 yX3_play, Cond.instanceMethod yX3_play, Cond.selects RX3 yX3_play yX3_play]
def wsL_law_r13 : List Cond := [Cond.code yX3_play cX3_play 3 (some .int), Cond.methodLink RX3 78 yX3_has, Cond.instanceMethod yX3_has, Cond.selects RX3 yX3_has yX3_has, Cond.code yX3_has cX3_has 2 (some .boolean), Cond.methodLink RX3 110 yX3_step, Cond.instanceMethod yX3_step, Cond.selects RX3 yX3_step yX3_step, Cond.code yX3_step cX3_step 2 none, Cond.fieldLink RX3 101 "RollBenchModel" "mark" "I", Cond.fieldLink RX3 85 "RollBenchModel" "clock" "I", Cond.fieldLink RX3 94 "RollBenchModel" "shift" "I", Cond.fieldLink RX3 107 "RollBenchModel" "blanks" "I", Cond.methodLink RX3 81 yX3_told, Cond.instanceMethod yX3_told, Cond.selects RX3 yX3_told yX3_told, Cond.code yX3_told cX3_told 3 (some .int), Cond.methodLink RX3 97 yX3_less, Cond.instanceMethod yX3_less, Cond.selects RX3 yX3_less yX3_less, Cond.code yX3_less cX3_less 2 none, Cond.methodLink RX3 104 yX3_note, Cond.instanceMethod yX3_note, Cond.selects RX3 yX3_note yX3_note]
def wsL_law_r14 : List Cond := [Cond.code yX3_note cX3_note 2 none, Cond.fieldLink RX3 88 "RollBenchModel" "notes" "I", Cond.fieldLink RX3 91 "RollBenchModel" "sound" "I", Cond.methodLink RL 61 yX2_count, Cond.instanceMethod yX2_count, Cond.selects RX2 yX2_count yX2_count, Cond.code yX2_count cX2_count 2 (some .int), Cond.fieldLink RX2 95 "RollBench$Lane" "offRefusals" "I", Cond.fieldLink RX2 98 "RollBench$Lane" "outRefusals" "I", Cond.methodLink RL 64 yX3_count, Cond.instanceMethod yX3_count, Cond.selects RX3 yX3_count yX3_count, Cond.code yX3_count cX3_count 2 (some .int)]
def wsL_law : List Cond := (wsL_law_r1 ++ (wsL_law_r2 ++ (wsL_law_r3 ++ (wsL_law_r4 ++ (wsL_law_r5 ++ (wsL_law_r6 ++ (wsL_law_r7 ++ (wsL_law_r8 ++ (wsL_law_r9 ++ (wsL_law_r10 ++ (wsL_law_r11 ++ (wsL_law_r12 ++ (wsL_law_r13 ++ wsL_law_r14))))))))))))) ++ wsX20 ++ wsX30 ++ wsX00 ++ wsX10 ++ ([] : List Cond)
set_option maxRecDepth 20000 in
theorem wsL_law_in : ∀ w ∈ wsL_law, w ∈ lw_tbl := fun w h => (goodIn_p wsL_law [21, 24, 30, 36, 255, 99, 102, 109, 310, 313, 113, 117, 121, 126, 320, 324, 130, 329, 134, 138, 142, 333, 337, 147, 150, 156, 159, 342, 345, 163, 167, 170, 173, 354, 358, 177, 181, 362, 185, 189, 194, 199, 202, 206, 209, 366, 213, 217, 222, 372, 226, 377, 230, 234, 238, 242, 246, 381, 385, 389, 393, 397, 401, 250, 405] (by decide +kernel) (by decide +kernel) w h).1
theorem inlX0 : ∀ w ∈ wsX00, w ∈ wsL_law := fun _ h => List.mem_append_left _ (List.mem_append_left _ (List.mem_append_right _ h))
theorem inX0 : ∀ w ∈ wsX00, w ∈ lw_tbl := fun w h => wsL_law_in w (inlX0 w h)
theorem inlX1 : ∀ w ∈ wsX10, w ∈ wsL_law := fun _ h => List.mem_append_left _ (List.mem_append_right _ h)
theorem inX1 : ∀ w ∈ wsX10, w ∈ lw_tbl := fun w h => wsL_law_in w (inlX1 w h)
theorem inlX2 : ∀ w ∈ wsX20, w ∈ wsL_law := fun _ h => List.mem_append_left _ (List.mem_append_left _ (List.mem_append_left _ (List.mem_append_left _ (List.mem_append_right _ h))))
theorem inX2 : ∀ w ∈ wsX20, w ∈ lw_tbl := fun w h => wsL_law_in w (inlX2 w h)
theorem inlX3 : ∀ w ∈ wsX30, w ∈ wsL_law := fun _ h => List.mem_append_left _ (List.mem_append_left _ (List.mem_append_left _ (List.mem_append_right _ h)))
theorem inX3 : ∀ w ∈ wsX30, w ∈ lw_tbl := fun w h => wsL_law_in w (inlX3 w h)
theorem inJ9 : ∀ w ∈ wsJ90, w ∈ lw_tbl := by decide +kernel
end
section
set_option maxRecDepth 20000 in
theorem ggX0_init_X1_init : GoodIn wsX0_init wsX1_init := goodIn_r _ [13, 14, 2, 3, 4, 15, 16, 22, 23, 24] (by decide +kernel) (by decide +kernel)
set_option maxRecDepth 20000 in
theorem gX0_init_X1_init : GoodIn wsX0_init (wsX1_init) := ggX0_init_X1_init
theorem dX0_init_0 : decode cX0_init 0 = .ok (.aload_n 0, 1) := by decide +kernel
theorem dX0_init_1 : decode cX0_init 1 = .ok (.invokespecial 3, 3) := by decide +kernel
theorem dX0_init_4 : decode cX0_init 4 = .ok (.aload_n 0, 1) := by decide +kernel
theorem dX0_init_5 : decode cX0_init 5 = .ok (.bipush 60, 2) := by decide +kernel
theorem dX0_init_7 : decode cX0_init 7 = .ok (.newarray .int, 2) := by decide +kernel
theorem dX0_init_9 : decode cX0_init 9 = .ok (.putfield 9, 3) := by decide +kernel
theorem dX0_init_12 : decode cX0_init 12 = .ok (.aload_n 0, 1) := by decide +kernel
theorem dX0_init_13 : decode cX0_init 13 = .ok (.new 15, 3) := by decide +kernel
theorem dX0_init_16 : decode cX0_init 16 = .ok (.dup, 1) := by decide +kernel
theorem dX0_init_17 : decode cX0_init 17 = .ok (.invokespecial 17, 3) := by decide +kernel
theorem dX0_init_20 : decode cX0_init 20 = .ok (.putfield 18, 3) := by decide +kernel
theorem dX0_init_23 : decode cX0_init 23 = .ok (.aload_n 0, 1) := by decide +kernel
theorem dX0_init_24 : decode cX0_init 24 = .ok (.iconst (-1), 1) := by decide +kernel
theorem dX0_init_25 : decode cX0_init 25 = .ok (.putfield 22, 3) := by decide +kernel
theorem dX0_init_28 : decode cX0_init 28 = .ok (.return_, 1) := by decide +kernel
theorem dX0_isOff_0 : decode cX0_isOff 0 = .ok (.aload_n 0, 1) := by decide +kernel
theorem dX0_isOff_1 : decode cX0_isOff 1 = .ok (.getfield 22, 3) := by decide +kernel
theorem dX0_isOff_4 : decode cX0_isOff 4 = .ok (.iconst (-1), 1) := by decide +kernel
theorem dX0_isOff_5 : decode cX0_isOff 5 = .ok (.if_icmp .ne 7, 3) := by decide +kernel
theorem dX0_isOff_8 : decode cX0_isOff 8 = .ok (.iconst 1, 1) := by decide +kernel
theorem dX0_isOff_9 : decode cX0_isOff 9 = .ok (.goto 4, 3) := by decide +kernel
theorem dX0_isOff_12 : decode cX0_isOff 12 = .ok (.iconst 0, 1) := by decide +kernel
theorem dX0_isOff_13 : decode cX0_isOff 13 = .ok (.ireturn, 1) := by decide +kernel
theorem dX0_hasCell_0 : decode cX0_hasCell 0 = .ok (.iload_n 1, 1) := by decide +kernel
theorem dX0_hasCell_1 : decode cX0_hasCell 1 = .ok (.ifCond .lt 15, 3) := by decide +kernel
theorem dX0_hasCell_4 : decode cX0_hasCell 4 = .ok (.iload_n 1, 1) := by decide +kernel
theorem dX0_hasCell_5 : decode cX0_hasCell 5 = .ok (.aload_n 0, 1) := by decide +kernel
theorem dX0_hasCell_6 : decode cX0_hasCell 6 = .ok (.getfield 22, 3) := by decide +kernel
theorem dX0_hasCell_9 : decode cX0_hasCell 9 = .ok (.if_icmp .ge 7, 3) := by decide +kernel
theorem dX0_hasCell_12 : decode cX0_hasCell 12 = .ok (.iconst 1, 1) := by decide +kernel
theorem dX0_hasCell_13 : decode cX0_hasCell 13 = .ok (.goto 4, 3) := by decide +kernel
theorem dX0_hasCell_16 : decode cX0_hasCell 16 = .ok (.iconst 0, 1) := by decide +kernel
theorem dX0_hasCell_17 : decode cX0_hasCell 17 = .ok (.ireturn, 1) := by decide +kernel
theorem dX0_renew_0 : decode cX0_renew 0 = .ok (.iconst 0, 1) := by decide +kernel
theorem dX0_renew_1 : decode cX0_renew 1 = .ok (.istore_n 2, 1) := by decide +kernel
theorem dX0_renew_2 : decode cX0_renew 2 = .ok (.iload_n 2, 1) := by decide +kernel
theorem dX0_renew_3 : decode cX0_renew 3 = .ok (.iload_n 1, 1) := by decide +kernel
theorem dX0_renew_4 : decode cX0_renew 4 = .ok (.if_icmp .ge 16, 3) := by decide +kernel
theorem dX0_renew_7 : decode cX0_renew 7 = .ok (.aload_n 0, 1) := by decide +kernel
theorem dX0_renew_8 : decode cX0_renew 8 = .ok (.getfield 9, 3) := by decide +kernel
theorem dX0_renew_11 : decode cX0_renew 11 = .ok (.iload_n 2, 1) := by decide +kernel
theorem dX0_renew_12 : decode cX0_renew 12 = .ok (.iconst 0, 1) := by decide +kernel
theorem dX0_renew_13 : decode cX0_renew 13 = .ok (.iastore, 1) := by decide +kernel
theorem dX0_renew_14 : decode cX0_renew 14 = .ok (.iinc 2 1, 3) := by decide +kernel
theorem dX0_renew_17 : decode cX0_renew 17 = .ok (.goto (-15), 3) := by decide +kernel
theorem dX0_renew_20 : decode cX0_renew 20 = .ok (.aload_n 0, 1) := by decide +kernel
theorem dX0_renew_21 : decode cX0_renew 21 = .ok (.iload_n 1, 1) := by decide +kernel
theorem dX0_renew_22 : decode cX0_renew 22 = .ok (.putfield 22, 3) := by decide +kernel
theorem dX0_renew_25 : decode cX0_renew 25 = .ok (.return_, 1) := by decide +kernel
theorem dX0_turnOff_0 : decode cX0_turnOff 0 = .ok (.aload_n 0, 1) := by decide +kernel
theorem dX0_turnOff_1 : decode cX0_turnOff 1 = .ok (.iconst (-1), 1) := by decide +kernel
theorem dX0_turnOff_2 : decode cX0_turnOff 2 = .ok (.putfield 22, 3) := by decide +kernel
theorem dX0_turnOff_5 : decode cX0_turnOff 5 = .ok (.return_, 1) := by decide +kernel
theorem dX0_refuseOff_0 : decode cX0_refuseOff 0 = .ok (.aload_n 0, 1) := by decide +kernel
theorem dX0_refuseOff_1 : decode cX0_refuseOff 1 = .ok (.dup, 1) := by decide +kernel
theorem dX0_refuseOff_2 : decode cX0_refuseOff 2 = .ok (.getfield 26, 3) := by decide +kernel
theorem dX0_refuseOff_5 : decode cX0_refuseOff 5 = .ok (.iconst 1, 1) := by decide +kernel
theorem dX0_refuseOff_6 : decode cX0_refuseOff 6 = .ok (.iadd, 1) := by decide +kernel
theorem dX0_refuseOff_7 : decode cX0_refuseOff 7 = .ok (.putfield 26, 3) := by decide +kernel
theorem dX0_refuseOff_10 : decode cX0_refuseOff 10 = .ok (.ldc 29, 2) := by decide +kernel
theorem dX0_refuseOff_12 : decode cX0_refuseOff 12 = .ok (.ireturn, 1) := by decide +kernel
theorem dX0_refuseOut_0 : decode cX0_refuseOut 0 = .ok (.aload_n 0, 1) := by decide +kernel
theorem dX0_refuseOut_1 : decode cX0_refuseOut 1 = .ok (.dup, 1) := by decide +kernel
theorem dX0_refuseOut_2 : decode cX0_refuseOut 2 = .ok (.getfield 30, 3) := by decide +kernel
theorem dX0_refuseOut_5 : decode cX0_refuseOut 5 = .ok (.iconst 1, 1) := by decide +kernel
theorem dX0_refuseOut_6 : decode cX0_refuseOut 6 = .ok (.iadd, 1) := by decide +kernel
theorem dX0_refuseOut_7 : decode cX0_refuseOut 7 = .ok (.putfield 30, 3) := by decide +kernel
theorem dX0_refuseOut_10 : decode cX0_refuseOut 10 = .ok (.ldc 33, 2) := by decide +kernel
theorem dX0_refuseOut_12 : decode cX0_refuseOut 12 = .ok (.ireturn, 1) := by decide +kernel
set_option maxRecDepth 20000 in
theorem ggX0_layInto_X1_write : GoodIn wsX0_layInto wsX1_write := goodIn_r _ [13, 14, 15, 16, 12, 17, 23, 24, 25] (by decide +kernel) (by decide +kernel)
set_option maxRecDepth 20000 in
theorem gX0_layInto_X1_write : GoodIn wsX0_layInto (wsV RX0 43 RX1 yX1_write wsX1_write) := goodIn_app (goodIn_of _ (by decide +kernel)) ggX0_layInto_X1_write
theorem dX0_layInto_0 : decode cX0_layInto 0 = .ok (.aload_n 0, 1) := by decide +kernel
theorem dX0_layInto_1 : decode cX0_layInto 1 = .ok (.getfield 22, 3) := by decide +kernel
theorem dX0_layInto_4 : decode cX0_layInto 4 = .ok (.iload_n 2, 1) := by decide +kernel
theorem dX0_layInto_5 : decode cX0_layInto 5 = .ok (.isub, 1) := by decide +kernel
theorem dX0_layInto_6 : decode cX0_layInto 6 = .ok (.aload_n 0, 1) := by decide +kernel
theorem dX0_layInto_7 : decode cX0_layInto 7 = .ok (.getfield 18, 3) := by decide +kernel
theorem dX0_layInto_10 : decode cX0_layInto 10 = .ok (.getfield 34, 3) := by decide +kernel
theorem dX0_layInto_13 : decode cX0_layInto 13 = .ok (.invokestatic 37, 3) := by decide +kernel
theorem dX0_layInto_16 : decode cX0_layInto 16 = .ok (.istore_n 3, 1) := by decide +kernel
theorem dX0_layInto_17 : decode cX0_layInto 17 = .ok (.iconst 0, 1) := by decide +kernel
theorem dX0_layInto_18 : decode cX0_layInto 18 = .ok (.istore 4, 2) := by decide +kernel
theorem dX0_layInto_20 : decode cX0_layInto 20 = .ok (.iload 4, 2) := by decide +kernel
theorem dX0_layInto_22 : decode cX0_layInto 22 = .ok (.iload_n 3, 1) := by decide +kernel
theorem dX0_layInto_23 : decode cX0_layInto 23 = .ok (.if_icmp .ge 28, 3) := by decide +kernel
theorem dX0_layInto_26 : decode cX0_layInto 26 = .ok (.aload_n 0, 1) := by decide +kernel
theorem dX0_layInto_27 : decode cX0_layInto 27 = .ok (.getfield 18, 3) := by decide +kernel
theorem dX0_layInto_30 : decode cX0_layInto 30 = .ok (.iload_n 1, 1) := by decide +kernel
theorem dX0_layInto_31 : decode cX0_layInto 31 = .ok (.iload 4, 2) := by decide +kernel
theorem dX0_layInto_33 : decode cX0_layInto 33 = .ok (.aload_n 0, 1) := by decide +kernel
theorem dX0_layInto_34 : decode cX0_layInto 34 = .ok (.getfield 9, 3) := by decide +kernel
theorem dX0_layInto_37 : decode cX0_layInto 37 = .ok (.iload_n 2, 1) := by decide +kernel
theorem dX0_layInto_38 : decode cX0_layInto 38 = .ok (.iload 4, 2) := by decide +kernel
theorem dX0_layInto_40 : decode cX0_layInto 40 = .ok (.iadd, 1) := by decide +kernel
theorem dX0_layInto_41 : decode cX0_layInto 41 = .ok (.iaload, 1) := by decide +kernel
theorem dX0_layInto_42 : decode cX0_layInto 42 = .ok (.invokevirtual 43, 3) := by decide +kernel
theorem dX0_layInto_45 : decode cX0_layInto 45 = .ok (.iinc 4 1, 3) := by decide +kernel
theorem dX0_layInto_48 : decode cX0_layInto 48 = .ok (.goto (-28), 3) := by decide +kernel
theorem dX0_layInto_51 : decode cX0_layInto 51 = .ok (.iload_n 3, 1) := by decide +kernel
theorem dX0_layInto_52 : decode cX0_layInto 52 = .ok (.ireturn, 1) := by decide +kernel
theorem dX1_init_0 : decode cX1_init 0 = .ok (.aload_n 0, 1) := by decide +kernel
theorem dX1_init_1 : decode cX1_init 1 = .ok (.invokespecial 3, 3) := by decide +kernel
theorem dX1_init_4 : decode cX1_init 4 = .ok (.aload_n 0, 1) := by decide +kernel
theorem dX1_init_5 : decode cX1_init 5 = .ok (.sipush 256, 3) := by decide +kernel
theorem dX1_init_8 : decode cX1_init 8 = .ok (.newarray .int, 2) := by decide +kernel
theorem dX1_init_10 : decode cX1_init 10 = .ok (.putfield 9, 3) := by decide +kernel
theorem dX1_init_13 : decode cX1_init 13 = .ok (.aload_n 0, 1) := by decide +kernel
theorem dX1_init_14 : decode cX1_init 14 = .ok (.iconst (-1), 1) := by decide +kernel
theorem dX1_init_15 : decode cX1_init 15 = .ok (.putfield 15, 3) := by decide +kernel
theorem dX1_init_18 : decode cX1_init 18 = .ok (.return_, 1) := by decide +kernel
theorem dX1_isNone_0 : decode cX1_isNone 0 = .ok (.aload_n 0, 1) := by decide +kernel
theorem dX1_isNone_1 : decode cX1_isNone 1 = .ok (.getfield 15, 3) := by decide +kernel
theorem dX1_isNone_4 : decode cX1_isNone 4 = .ok (.iconst (-1), 1) := by decide +kernel
theorem dX1_isNone_5 : decode cX1_isNone 5 = .ok (.if_icmp .ne 7, 3) := by decide +kernel
theorem dX1_isNone_8 : decode cX1_isNone 8 = .ok (.iconst 1, 1) := by decide +kernel
theorem dX1_isNone_9 : decode cX1_isNone 9 = .ok (.goto 4, 3) := by decide +kernel
theorem dX1_isNone_12 : decode cX1_isNone 12 = .ok (.iconst 0, 1) := by decide +kernel
theorem dX1_isNone_13 : decode cX1_isNone 13 = .ok (.ireturn, 1) := by decide +kernel
theorem dX1_hasRow_0 : decode cX1_hasRow 0 = .ok (.iload_n 1, 1) := by decide +kernel
theorem dX1_hasRow_1 : decode cX1_hasRow 1 = .ok (.ifCond .lt 15, 3) := by decide +kernel
theorem dX1_hasRow_4 : decode cX1_hasRow 4 = .ok (.iload_n 1, 1) := by decide +kernel
theorem dX1_hasRow_5 : decode cX1_hasRow 5 = .ok (.aload_n 0, 1) := by decide +kernel
theorem dX1_hasRow_6 : decode cX1_hasRow 6 = .ok (.getfield 15, 3) := by decide +kernel
theorem dX1_hasRow_9 : decode cX1_hasRow 9 = .ok (.if_icmp .ge 7, 3) := by decide +kernel
theorem dX1_hasRow_12 : decode cX1_hasRow 12 = .ok (.iconst 1, 1) := by decide +kernel
theorem dX1_hasRow_13 : decode cX1_hasRow 13 = .ok (.goto 4, 3) := by decide +kernel
theorem dX1_hasRow_16 : decode cX1_hasRow 16 = .ok (.iconst 0, 1) := by decide +kernel
theorem dX1_hasRow_17 : decode cX1_hasRow 17 = .ok (.ireturn, 1) := by decide +kernel
theorem dX1_hasColumn_0 : decode cX1_hasColumn 0 = .ok (.iload_n 1, 1) := by decide +kernel
theorem dX1_hasColumn_1 : decode cX1_hasColumn 1 = .ok (.ifCond .lt 15, 3) := by decide +kernel
theorem dX1_hasColumn_4 : decode cX1_hasColumn 4 = .ok (.iload_n 1, 1) := by decide +kernel
theorem dX1_hasColumn_5 : decode cX1_hasColumn 5 = .ok (.aload_n 0, 1) := by decide +kernel
theorem dX1_hasColumn_6 : decode cX1_hasColumn 6 = .ok (.getfield 19, 3) := by decide +kernel
theorem dX1_hasColumn_9 : decode cX1_hasColumn 9 = .ok (.if_icmp .ge 7, 3) := by decide +kernel
theorem dX1_hasColumn_12 : decode cX1_hasColumn 12 = .ok (.iconst 1, 1) := by decide +kernel
theorem dX1_hasColumn_13 : decode cX1_hasColumn 13 = .ok (.goto 4, 3) := by decide +kernel
theorem dX1_hasColumn_16 : decode cX1_hasColumn 16 = .ok (.iconst 0, 1) := by decide +kernel
theorem dX1_hasColumn_17 : decode cX1_hasColumn 17 = .ok (.ireturn, 1) := by decide +kernel
set_option maxRecDepth 20000 in
theorem ggX1_numberIn_X1_placeOf : GoodIn wsX1_numberIn wsX1_placeOf := goodIn_r _ [5] (by decide +kernel) (by decide +kernel)
set_option maxRecDepth 20000 in
theorem gX1_numberIn_X1_placeOf : GoodIn wsX1_numberIn (va_wsS RX1 22 yX1_placeOf wsX1_placeOf) := goodIn_app (goodIn_of _ (by decide +kernel)) ggX1_numberIn_X1_placeOf
theorem dX1_numberIn_0 : decode cX1_numberIn 0 = .ok (.aload_n 0, 1) := by decide +kernel
theorem dX1_numberIn_1 : decode cX1_numberIn 1 = .ok (.getfield 9, 3) := by decide +kernel
theorem dX1_numberIn_4 : decode cX1_numberIn 4 = .ok (.iload_n 1, 1) := by decide +kernel
theorem dX1_numberIn_5 : decode cX1_numberIn 5 = .ok (.iload_n 2, 1) := by decide +kernel
theorem dX1_numberIn_6 : decode cX1_numberIn 6 = .ok (.invokestatic 22, 3) := by decide +kernel
theorem dX1_numberIn_9 : decode cX1_numberIn 9 = .ok (.iaload, 1) := by decide +kernel
theorem dX1_numberIn_10 : decode cX1_numberIn 10 = .ok (.ireturn, 1) := by decide +kernel
set_option maxRecDepth 20000 in
theorem ggX1_write_X1_placeOf : GoodIn wsX1_write wsX1_placeOf := goodIn_r _ [5] (by decide +kernel) (by decide +kernel)
set_option maxRecDepth 20000 in
theorem gX1_write_X1_placeOf : GoodIn wsX1_write (va_wsS RX1 22 yX1_placeOf wsX1_placeOf) := goodIn_app (goodIn_of _ (by decide +kernel)) ggX1_write_X1_placeOf
theorem dX1_write_0 : decode cX1_write 0 = .ok (.aload_n 0, 1) := by decide +kernel
theorem dX1_write_1 : decode cX1_write 1 = .ok (.getfield 9, 3) := by decide +kernel
theorem dX1_write_4 : decode cX1_write 4 = .ok (.iload_n 1, 1) := by decide +kernel
theorem dX1_write_5 : decode cX1_write 5 = .ok (.iload_n 2, 1) := by decide +kernel
theorem dX1_write_6 : decode cX1_write 6 = .ok (.invokestatic 22, 3) := by decide +kernel
theorem dX1_write_9 : decode cX1_write 9 = .ok (.iload_n 3, 1) := by decide +kernel
theorem dX1_write_10 : decode cX1_write 10 = .ok (.iastore, 1) := by decide +kernel
theorem dX1_write_11 : decode cX1_write 11 = .ok (.return_, 1) := by decide +kernel
theorem dX1_renew_0 : decode cX1_renew 0 = .ok (.iconst 0, 1) := by decide +kernel
theorem dX1_renew_1 : decode cX1_renew 1 = .ok (.istore_n 3, 1) := by decide +kernel
theorem dX1_renew_2 : decode cX1_renew 2 = .ok (.iload_n 3, 1) := by decide +kernel
theorem dX1_renew_3 : decode cX1_renew 3 = .ok (.aload_n 0, 1) := by decide +kernel
theorem dX1_renew_4 : decode cX1_renew 4 = .ok (.getfield 9, 3) := by decide +kernel
theorem dX1_renew_7 : decode cX1_renew 7 = .ok (.arraylength, 1) := by decide +kernel
theorem dX1_renew_8 : decode cX1_renew 8 = .ok (.if_icmp .ge 16, 3) := by decide +kernel
theorem dX1_renew_11 : decode cX1_renew 11 = .ok (.aload_n 0, 1) := by decide +kernel
theorem dX1_renew_12 : decode cX1_renew 12 = .ok (.getfield 9, 3) := by decide +kernel
theorem dX1_renew_15 : decode cX1_renew 15 = .ok (.iload_n 3, 1) := by decide +kernel
theorem dX1_renew_16 : decode cX1_renew 16 = .ok (.iconst 0, 1) := by decide +kernel
theorem dX1_renew_17 : decode cX1_renew 17 = .ok (.iastore, 1) := by decide +kernel
theorem dX1_renew_18 : decode cX1_renew 18 = .ok (.iinc 3 1, 3) := by decide +kernel
theorem dX1_renew_21 : decode cX1_renew 21 = .ok (.goto (-19), 3) := by decide +kernel
theorem dX1_renew_24 : decode cX1_renew 24 = .ok (.aload_n 0, 1) := by decide +kernel
theorem dX1_renew_25 : decode cX1_renew 25 = .ok (.iload_n 1, 1) := by decide +kernel
theorem dX1_renew_26 : decode cX1_renew 26 = .ok (.putfield 15, 3) := by decide +kernel
theorem dX1_renew_29 : decode cX1_renew 29 = .ok (.aload_n 0, 1) := by decide +kernel
theorem dX1_renew_30 : decode cX1_renew 30 = .ok (.iload_n 2, 1) := by decide +kernel
theorem dX1_renew_31 : decode cX1_renew 31 = .ok (.putfield 19, 3) := by decide +kernel
theorem dX1_renew_34 : decode cX1_renew 34 = .ok (.return_, 1) := by decide +kernel
theorem dX1_placeOf_0 : decode cX1_placeOf 0 = .ok (.iload_n 0, 1) := by decide +kernel
theorem dX1_placeOf_1 : decode cX1_placeOf 1 = .ok (.bipush 16, 2) := by decide +kernel
theorem dX1_placeOf_3 : decode cX1_placeOf 3 = .ok (.imul, 1) := by decide +kernel
theorem dX1_placeOf_4 : decode cX1_placeOf 4 = .ok (.iload_n 1, 1) := by decide +kernel
theorem dX1_placeOf_5 : decode cX1_placeOf 5 = .ok (.iadd, 1) := by decide +kernel
theorem dX1_placeOf_6 : decode cX1_placeOf 6 = .ok (.ireturn, 1) := by decide +kernel
set_option maxRecDepth 20000 in
theorem ggX2_init_X0_init : GoodIn wsX2_init wsX0_init := goodIn_r _ [10, 11, 2, 3, 12, 13, 14, 15, 16, 17, 18, 19, 20, 21, 22, 23, 24, 33, 34, 35, 36, 37, 38, 39, 40] (by decide +kernel) (by decide +kernel)
set_option maxRecDepth 20000 in
theorem gX2_init_X0_init : GoodIn wsX2_init (wsX0_init) := ggX2_init_X0_init
theorem dX2_init_0 : decode cX2_init 0 = .ok (.aload_n 0, 1) := by decide +kernel
theorem dX2_init_1 : decode cX2_init 1 = .ok (.invokespecial 1, 3) := by decide +kernel
theorem dX2_init_4 : decode cX2_init 4 = .ok (.aload_n 0, 1) := by decide +kernel
theorem dX2_init_5 : decode cX2_init 5 = .ok (.iconst 5, 1) := by decide +kernel
theorem dX2_init_6 : decode cX2_init 6 = .ok (.anewarray 9, 3) := by decide +kernel
theorem dX2_init_9 : decode cX2_init 9 = .ok (.putfield 11, 3) := by decide +kernel
theorem dX2_init_12 : decode cX2_init 12 = .ok (.iconst 0, 1) := by decide +kernel
theorem dX2_init_13 : decode cX2_init 13 = .ok (.istore_n 1, 1) := by decide +kernel
theorem dX2_init_14 : decode cX2_init 14 = .ok (.iload_n 1, 1) := by decide +kernel
theorem dX2_init_15 : decode cX2_init 15 = .ok (.iconst 5, 1) := by decide +kernel
theorem dX2_init_16 : decode cX2_init 16 = .ok (.if_icmp .ge 22, 3) := by decide +kernel
theorem dX2_init_19 : decode cX2_init 19 = .ok (.aload_n 0, 1) := by decide +kernel
theorem dX2_init_20 : decode cX2_init 20 = .ok (.getfield 11, 3) := by decide +kernel
theorem dX2_init_23 : decode cX2_init 23 = .ok (.iload_n 1, 1) := by decide +kernel
theorem dX2_init_24 : decode cX2_init 24 = .ok (.new 9, 3) := by decide +kernel
theorem dX2_init_27 : decode cX2_init 27 = .ok (.dup, 1) := by decide +kernel
theorem dX2_init_28 : decode cX2_init 28 = .ok (.invokespecial 15, 3) := by decide +kernel
theorem dX2_init_31 : decode cX2_init 31 = .ok (.aastore, 1) := by decide +kernel
theorem dX2_init_32 : decode cX2_init 32 = .ok (.iinc 1 1, 3) := by decide +kernel
theorem dX2_init_35 : decode cX2_init 35 = .ok (.goto (-21), 3) := by decide +kernel
theorem dX2_init_38 : decode cX2_init 38 = .ok (.return_, 1) := by decide +kernel
set_option maxRecDepth 20000 in
theorem ggX2_mount_X2_isLane : GoodIn wsX2_mount wsX2_isLane := goodIn_r _ [8] (by decide +kernel) (by decide +kernel)
set_option maxRecDepth 20000 in
theorem gX2_mount_X2_isLane : GoodIn wsX2_mount (va_wsS RX2 16 yX2_isLane wsX2_isLane) := goodIn_app (goodIn_of _ (by decide +kernel)) ggX2_mount_X2_isLane
set_option maxRecDepth 20000 in
theorem ggX2_mount_X0_renew : GoodIn wsX2_mount wsX0_renew := goodIn_r _ [13, 14, 15, 24, 25, 26, 27, 28] (by decide +kernel) (by decide +kernel)
set_option maxRecDepth 20000 in
theorem gX2_mount_X0_renew : GoodIn wsX2_mount (wsV RX2 23 RX0 yX0_renew wsX0_renew) := goodIn_app (goodIn_of _ (by decide +kernel)) ggX2_mount_X0_renew
theorem dX2_mount_0 : decode cX2_mount 0 = .ok (.iload_n 1, 1) := by decide +kernel
theorem dX2_mount_1 : decode cX2_mount 1 = .ok (.invokestatic 16, 3) := by decide +kernel
theorem dX2_mount_4 : decode cX2_mount 4 = .ok (.ifCond .ne 6, 3) := by decide +kernel
theorem dX2_mount_7 : decode cX2_mount 7 = .ok (.ldc 20, 2) := by decide +kernel
theorem dX2_mount_9 : decode cX2_mount 9 = .ok (.ireturn, 1) := by decide +kernel
theorem dX2_mount_10 : decode cX2_mount 10 = .ok (.iload_n 2, 1) := by decide +kernel
theorem dX2_mount_11 : decode cX2_mount 11 = .ok (.bipush 60, 2) := by decide +kernel
theorem dX2_mount_13 : decode cX2_mount 13 = .ok (.if_icmp .le 6, 3) := by decide +kernel
theorem dX2_mount_16 : decode cX2_mount 16 = .ok (.ldc 21, 2) := by decide +kernel
theorem dX2_mount_18 : decode cX2_mount 18 = .ok (.ireturn, 1) := by decide +kernel
theorem dX2_mount_19 : decode cX2_mount 19 = .ok (.iload_n 2, 1) := by decide +kernel
theorem dX2_mount_20 : decode cX2_mount 20 = .ok (.ifCond .ge 6, 3) := by decide +kernel
theorem dX2_mount_23 : decode cX2_mount 23 = .ok (.ldc 22, 2) := by decide +kernel
theorem dX2_mount_25 : decode cX2_mount 25 = .ok (.ireturn, 1) := by decide +kernel
theorem dX2_mount_26 : decode cX2_mount 26 = .ok (.aload_n 0, 1) := by decide +kernel
theorem dX2_mount_27 : decode cX2_mount 27 = .ok (.getfield 11, 3) := by decide +kernel
theorem dX2_mount_30 : decode cX2_mount 30 = .ok (.iload_n 1, 1) := by decide +kernel
theorem dX2_mount_31 : decode cX2_mount 31 = .ok (.aaload, 1) := by decide +kernel
theorem dX2_mount_32 : decode cX2_mount 32 = .ok (.iload_n 2, 1) := by decide +kernel
theorem dX2_mount_33 : decode cX2_mount 33 = .ok (.invokevirtual 23, 3) := by decide +kernel
theorem dX2_mount_36 : decode cX2_mount 36 = .ok (.iload_n 2, 1) := by decide +kernel
theorem dX2_mount_37 : decode cX2_mount 37 = .ok (.ireturn, 1) := by decide +kernel
set_option maxRecDepth 20000 in
theorem ggX2_strip_X2_isLane : GoodIn wsX2_strip wsX2_isLane := goodIn_r _ [7] (by decide +kernel) (by decide +kernel)
set_option maxRecDepth 20000 in
theorem gX2_strip_X2_isLane : GoodIn wsX2_strip (va_wsS RX2 16 yX2_isLane wsX2_isLane) := goodIn_app (goodIn_of _ (by decide +kernel)) ggX2_strip_X2_isLane
set_option maxRecDepth 20000 in
theorem ggX2_strip_X0_isOff : GoodIn wsX2_strip wsX0_isOff := goodIn_r _ [12, 13, 32, 33, 34, 35, 36] (by decide +kernel) (by decide +kernel)
set_option maxRecDepth 20000 in
theorem gX2_strip_X0_isOff : GoodIn wsX2_strip (wsV RX2 27 RX0 yX0_isOff wsX0_isOff) := goodIn_app (goodIn_of _ (by decide +kernel)) ggX2_strip_X0_isOff
set_option maxRecDepth 20000 in
theorem ggX2_strip_X0_refuseOff : GoodIn wsX2_strip wsX0_refuseOff := goodIn_r _ [17, 18, 19, 32, 33, 34, 35, 36] (by decide +kernel) (by decide +kernel)
set_option maxRecDepth 20000 in
theorem gX2_strip_X0_refuseOff : GoodIn wsX2_strip (wsV RX2 31 RX0 yX0_refuseOff wsX0_refuseOff) := goodIn_app (goodIn_of _ (by decide +kernel)) ggX2_strip_X0_refuseOff
set_option maxRecDepth 20000 in
theorem ggX2_strip_X0_turnOff : GoodIn wsX2_strip wsX0_turnOff := goodIn_r _ [23, 13, 32, 33, 34, 35, 36] (by decide +kernel) (by decide +kernel)
set_option maxRecDepth 20000 in
theorem gX2_strip_X0_turnOff : GoodIn wsX2_strip (wsV RX2 39 RX0 yX0_turnOff wsX0_turnOff) := goodIn_app (goodIn_of _ (by decide +kernel)) ggX2_strip_X0_turnOff
theorem dX2_strip_0 : decode cX2_strip 0 = .ok (.iload_n 1, 1) := by decide +kernel
theorem dX2_strip_1 : decode cX2_strip 1 = .ok (.invokestatic 16, 3) := by decide +kernel
theorem dX2_strip_4 : decode cX2_strip 4 = .ok (.ifCond .ne 6, 3) := by decide +kernel
theorem dX2_strip_7 : decode cX2_strip 7 = .ok (.ldc 20, 2) := by decide +kernel
theorem dX2_strip_9 : decode cX2_strip 9 = .ok (.ireturn, 1) := by decide +kernel
theorem dX2_strip_10 : decode cX2_strip 10 = .ok (.aload_n 0, 1) := by decide +kernel
theorem dX2_strip_11 : decode cX2_strip 11 = .ok (.getfield 11, 3) := by decide +kernel
theorem dX2_strip_14 : decode cX2_strip 14 = .ok (.iload_n 1, 1) := by decide +kernel
theorem dX2_strip_15 : decode cX2_strip 15 = .ok (.aaload, 1) := by decide +kernel
theorem dX2_strip_16 : decode cX2_strip 16 = .ok (.astore_n 2, 1) := by decide +kernel
theorem dX2_strip_17 : decode cX2_strip 17 = .ok (.aload_n 2, 1) := by decide +kernel
theorem dX2_strip_18 : decode cX2_strip 18 = .ok (.invokevirtual 27, 3) := by decide +kernel
theorem dX2_strip_21 : decode cX2_strip 21 = .ok (.ifCond .eq 8, 3) := by decide +kernel
theorem dX2_strip_24 : decode cX2_strip 24 = .ok (.aload_n 2, 1) := by decide +kernel
theorem dX2_strip_25 : decode cX2_strip 25 = .ok (.invokevirtual 31, 3) := by decide +kernel
theorem dX2_strip_28 : decode cX2_strip 28 = .ok (.ireturn, 1) := by decide +kernel
theorem dX2_strip_29 : decode cX2_strip 29 = .ok (.aload_n 2, 1) := by decide +kernel
theorem dX2_strip_30 : decode cX2_strip 30 = .ok (.getfield 35, 3) := by decide +kernel
theorem dX2_strip_33 : decode cX2_strip 33 = .ok (.istore_n 3, 1) := by decide +kernel
theorem dX2_strip_34 : decode cX2_strip 34 = .ok (.aload_n 2, 1) := by decide +kernel
theorem dX2_strip_35 : decode cX2_strip 35 = .ok (.invokevirtual 39, 3) := by decide +kernel
theorem dX2_strip_38 : decode cX2_strip 38 = .ok (.iload_n 3, 1) := by decide +kernel
theorem dX2_strip_39 : decode cX2_strip 39 = .ok (.ireturn, 1) := by decide +kernel
set_option maxRecDepth 20000 in
theorem ggX2_size_X2_isLane : GoodIn wsX2_size wsX2_isLane := goodIn_r _ [7] (by decide +kernel) (by decide +kernel)
set_option maxRecDepth 20000 in
theorem gX2_size_X2_isLane : GoodIn wsX2_size (va_wsS RX2 16 yX2_isLane wsX2_isLane) := goodIn_app (goodIn_of _ (by decide +kernel)) ggX2_size_X2_isLane
set_option maxRecDepth 20000 in
theorem ggX2_size_X0_isOff : GoodIn wsX2_size wsX0_isOff := goodIn_r _ [12, 13, 28, 29, 30, 31, 32] (by decide +kernel) (by decide +kernel)
set_option maxRecDepth 20000 in
theorem gX2_size_X0_isOff : GoodIn wsX2_size (wsV RX2 27 RX0 yX0_isOff wsX0_isOff) := goodIn_app (goodIn_of _ (by decide +kernel)) ggX2_size_X0_isOff
set_option maxRecDepth 20000 in
theorem ggX2_size_X0_refuseOff : GoodIn wsX2_size wsX0_refuseOff := goodIn_r _ [17, 18, 19, 28, 29, 30, 31, 32] (by decide +kernel) (by decide +kernel)
set_option maxRecDepth 20000 in
theorem gX2_size_X0_refuseOff : GoodIn wsX2_size (wsV RX2 31 RX0 yX0_refuseOff wsX0_refuseOff) := goodIn_app (goodIn_of _ (by decide +kernel)) ggX2_size_X0_refuseOff
theorem dX2_size_0 : decode cX2_size 0 = .ok (.iload_n 1, 1) := by decide +kernel
theorem dX2_size_1 : decode cX2_size 1 = .ok (.invokestatic 16, 3) := by decide +kernel
theorem dX2_size_4 : decode cX2_size 4 = .ok (.ifCond .ne 6, 3) := by decide +kernel
theorem dX2_size_7 : decode cX2_size 7 = .ok (.ldc 20, 2) := by decide +kernel
theorem dX2_size_9 : decode cX2_size 9 = .ok (.ireturn, 1) := by decide +kernel
theorem dX2_size_10 : decode cX2_size 10 = .ok (.aload_n 0, 1) := by decide +kernel
theorem dX2_size_11 : decode cX2_size 11 = .ok (.getfield 11, 3) := by decide +kernel
theorem dX2_size_14 : decode cX2_size 14 = .ok (.iload_n 1, 1) := by decide +kernel
theorem dX2_size_15 : decode cX2_size 15 = .ok (.aaload, 1) := by decide +kernel
theorem dX2_size_16 : decode cX2_size 16 = .ok (.astore_n 2, 1) := by decide +kernel
theorem dX2_size_17 : decode cX2_size 17 = .ok (.aload_n 2, 1) := by decide +kernel
theorem dX2_size_18 : decode cX2_size 18 = .ok (.invokevirtual 27, 3) := by decide +kernel
theorem dX2_size_21 : decode cX2_size 21 = .ok (.ifCond .eq 8, 3) := by decide +kernel
theorem dX2_size_24 : decode cX2_size 24 = .ok (.aload_n 2, 1) := by decide +kernel
theorem dX2_size_25 : decode cX2_size 25 = .ok (.invokevirtual 31, 3) := by decide +kernel
theorem dX2_size_28 : decode cX2_size 28 = .ok (.ireturn, 1) := by decide +kernel
theorem dX2_size_29 : decode cX2_size 29 = .ok (.aload_n 2, 1) := by decide +kernel
theorem dX2_size_30 : decode cX2_size 30 = .ok (.getfield 35, 3) := by decide +kernel
theorem dX2_size_33 : decode cX2_size 33 = .ok (.ireturn, 1) := by decide +kernel
set_option maxRecDepth 20000 in
theorem ggX2_cell_X2_isLane : GoodIn wsX2_cell wsX2_isLane := goodIn_r _ [7] (by decide +kernel) (by decide +kernel)
set_option maxRecDepth 20000 in
theorem gX2_cell_X2_isLane : GoodIn wsX2_cell (va_wsS RX2 16 yX2_isLane wsX2_isLane) := goodIn_app (goodIn_of _ (by decide +kernel)) ggX2_cell_X2_isLane
set_option maxRecDepth 20000 in
theorem ggX2_cell_X0_isOff : GoodIn wsX2_cell wsX0_isOff := goodIn_r _ [12, 13, 38, 39, 40, 41, 42] (by decide +kernel) (by decide +kernel)
set_option maxRecDepth 20000 in
theorem gX2_cell_X0_isOff : GoodIn wsX2_cell (wsV RX2 27 RX0 yX0_isOff wsX0_isOff) := goodIn_app (goodIn_of _ (by decide +kernel)) ggX2_cell_X0_isOff
set_option maxRecDepth 20000 in
theorem ggX2_cell_X0_refuseOff : GoodIn wsX2_cell wsX0_refuseOff := goodIn_r _ [17, 18, 19, 38, 39, 40, 41, 42] (by decide +kernel) (by decide +kernel)
set_option maxRecDepth 20000 in
theorem gX2_cell_X0_refuseOff : GoodIn wsX2_cell (wsV RX2 31 RX0 yX0_refuseOff wsX0_refuseOff) := goodIn_app (goodIn_of _ (by decide +kernel)) ggX2_cell_X0_refuseOff
set_option maxRecDepth 20000 in
theorem ggX2_cell_X0_hasCell : GoodIn wsX2_cell wsX0_hasCell := goodIn_r _ [23, 13, 38, 39, 40, 41, 42] (by decide +kernel) (by decide +kernel)
set_option maxRecDepth 20000 in
theorem gX2_cell_X0_hasCell : GoodIn wsX2_cell (wsV RX2 42 RX0 yX0_hasCell wsX0_hasCell) := goodIn_app (goodIn_of _ (by decide +kernel)) ggX2_cell_X0_hasCell
set_option maxRecDepth 20000 in
theorem ggX2_cell_X0_refuseOut : GoodIn wsX2_cell wsX0_refuseOut := goodIn_r _ [27, 28, 29, 38, 39, 40, 41, 42] (by decide +kernel) (by decide +kernel)
set_option maxRecDepth 20000 in
theorem gX2_cell_X0_refuseOut : GoodIn wsX2_cell (wsV RX2 45 RX0 yX0_refuseOut wsX0_refuseOut) := goodIn_app (goodIn_of _ (by decide +kernel)) ggX2_cell_X0_refuseOut
theorem dX2_cell_0 : decode cX2_cell 0 = .ok (.iload_n 1, 1) := by decide +kernel
theorem dX2_cell_1 : decode cX2_cell 1 = .ok (.invokestatic 16, 3) := by decide +kernel
theorem dX2_cell_4 : decode cX2_cell 4 = .ok (.ifCond .ne 6, 3) := by decide +kernel
theorem dX2_cell_7 : decode cX2_cell 7 = .ok (.ldc 20, 2) := by decide +kernel
theorem dX2_cell_9 : decode cX2_cell 9 = .ok (.ireturn, 1) := by decide +kernel
theorem dX2_cell_10 : decode cX2_cell 10 = .ok (.aload_n 0, 1) := by decide +kernel
theorem dX2_cell_11 : decode cX2_cell 11 = .ok (.getfield 11, 3) := by decide +kernel
theorem dX2_cell_14 : decode cX2_cell 14 = .ok (.iload_n 1, 1) := by decide +kernel
theorem dX2_cell_15 : decode cX2_cell 15 = .ok (.aaload, 1) := by decide +kernel
theorem dX2_cell_16 : decode cX2_cell 16 = .ok (.astore_n 3, 1) := by decide +kernel
theorem dX2_cell_17 : decode cX2_cell 17 = .ok (.aload_n 3, 1) := by decide +kernel
theorem dX2_cell_18 : decode cX2_cell 18 = .ok (.invokevirtual 27, 3) := by decide +kernel
theorem dX2_cell_21 : decode cX2_cell 21 = .ok (.ifCond .eq 8, 3) := by decide +kernel
theorem dX2_cell_24 : decode cX2_cell 24 = .ok (.aload_n 3, 1) := by decide +kernel
theorem dX2_cell_25 : decode cX2_cell 25 = .ok (.invokevirtual 31, 3) := by decide +kernel
theorem dX2_cell_28 : decode cX2_cell 28 = .ok (.ireturn, 1) := by decide +kernel
theorem dX2_cell_29 : decode cX2_cell 29 = .ok (.aload_n 3, 1) := by decide +kernel
theorem dX2_cell_30 : decode cX2_cell 30 = .ok (.iload_n 2, 1) := by decide +kernel
theorem dX2_cell_31 : decode cX2_cell 31 = .ok (.invokevirtual 42, 3) := by decide +kernel
theorem dX2_cell_34 : decode cX2_cell 34 = .ok (.ifCond .ne 8, 3) := by decide +kernel
theorem dX2_cell_37 : decode cX2_cell 37 = .ok (.aload_n 3, 1) := by decide +kernel
theorem dX2_cell_38 : decode cX2_cell 38 = .ok (.invokevirtual 45, 3) := by decide +kernel
theorem dX2_cell_41 : decode cX2_cell 41 = .ok (.ireturn, 1) := by decide +kernel
theorem dX2_cell_42 : decode cX2_cell 42 = .ok (.aload_n 3, 1) := by decide +kernel
theorem dX2_cell_43 : decode cX2_cell 43 = .ok (.getfield 48, 3) := by decide +kernel
theorem dX2_cell_46 : decode cX2_cell 46 = .ok (.iload_n 2, 1) := by decide +kernel
theorem dX2_cell_47 : decode cX2_cell 47 = .ok (.iaload, 1) := by decide +kernel
theorem dX2_cell_48 : decode cX2_cell 48 = .ok (.ireturn, 1) := by decide +kernel
set_option maxRecDepth 20000 in
theorem ggX2_put_X2_isLane : GoodIn wsX2_put wsX2_isLane := goodIn_r _ [7] (by decide +kernel) (by decide +kernel)
set_option maxRecDepth 20000 in
theorem gX2_put_X2_isLane : GoodIn wsX2_put (va_wsS RX2 16 yX2_isLane wsX2_isLane) := goodIn_app (goodIn_of _ (by decide +kernel)) ggX2_put_X2_isLane
set_option maxRecDepth 20000 in
theorem ggX2_put_X0_isOff : GoodIn wsX2_put wsX0_isOff := goodIn_r _ [12, 13, 51, 52, 53, 54, 55] (by decide +kernel) (by decide +kernel)
set_option maxRecDepth 20000 in
theorem gX2_put_X0_isOff : GoodIn wsX2_put (wsV RX2 27 RX0 yX0_isOff wsX0_isOff) := goodIn_app (goodIn_of _ (by decide +kernel)) ggX2_put_X0_isOff
set_option maxRecDepth 20000 in
theorem ggX2_put_X0_refuseOff : GoodIn wsX2_put wsX0_refuseOff := goodIn_r _ [17, 18, 19, 51, 52, 53, 54, 55] (by decide +kernel) (by decide +kernel)
set_option maxRecDepth 20000 in
theorem gX2_put_X0_refuseOff : GoodIn wsX2_put (wsV RX2 31 RX0 yX0_refuseOff wsX0_refuseOff) := goodIn_app (goodIn_of _ (by decide +kernel)) ggX2_put_X0_refuseOff
set_option maxRecDepth 20000 in
theorem ggX2_put_X0_hasCell : GoodIn wsX2_put wsX0_hasCell := goodIn_r _ [23, 13, 51, 52, 53, 54, 55] (by decide +kernel) (by decide +kernel)
set_option maxRecDepth 20000 in
theorem gX2_put_X0_hasCell : GoodIn wsX2_put (wsV RX2 42 RX0 yX0_hasCell wsX0_hasCell) := goodIn_app (goodIn_of _ (by decide +kernel)) ggX2_put_X0_hasCell
set_option maxRecDepth 20000 in
theorem ggX2_put_X0_refuseOut : GoodIn wsX2_put wsX0_refuseOut := goodIn_r _ [27, 28, 29, 51, 52, 53, 54, 55] (by decide +kernel) (by decide +kernel)
set_option maxRecDepth 20000 in
theorem gX2_put_X0_refuseOut : GoodIn wsX2_put (wsV RX2 45 RX0 yX0_refuseOut wsX0_refuseOut) := goodIn_app (goodIn_of _ (by decide +kernel)) ggX2_put_X0_refuseOut
set_option maxRecDepth 20000 in
theorem ggX2_put_X2_stored : GoodIn wsX2_put wsX2_stored := goodIn_r _ [32, 33, 34, 35, 36, 37, 38, 39, 40, 41, 42] (by decide +kernel) (by decide +kernel)
set_option maxRecDepth 20000 in
theorem gX2_put_X2_stored : GoodIn wsX2_put (va_wsS RX2 52 yX2_stored wsX2_stored) := goodIn_app (goodIn_of _ (by decide +kernel)) ggX2_put_X2_stored
theorem dX2_put_0 : decode cX2_put 0 = .ok (.iload_n 1, 1) := by decide +kernel
theorem dX2_put_1 : decode cX2_put 1 = .ok (.invokestatic 16, 3) := by decide +kernel
theorem dX2_put_4 : decode cX2_put 4 = .ok (.ifCond .ne 6, 3) := by decide +kernel
theorem dX2_put_7 : decode cX2_put 7 = .ok (.ldc 20, 2) := by decide +kernel
theorem dX2_put_9 : decode cX2_put 9 = .ok (.ireturn, 1) := by decide +kernel
theorem dX2_put_10 : decode cX2_put 10 = .ok (.aload_n 0, 1) := by decide +kernel
theorem dX2_put_11 : decode cX2_put 11 = .ok (.getfield 11, 3) := by decide +kernel
theorem dX2_put_14 : decode cX2_put 14 = .ok (.iload_n 1, 1) := by decide +kernel
theorem dX2_put_15 : decode cX2_put 15 = .ok (.aaload, 1) := by decide +kernel
theorem dX2_put_16 : decode cX2_put 16 = .ok (.astore 4, 2) := by decide +kernel
theorem dX2_put_18 : decode cX2_put 18 = .ok (.aload 4, 2) := by decide +kernel
theorem dX2_put_20 : decode cX2_put 20 = .ok (.invokevirtual 27, 3) := by decide +kernel
theorem dX2_put_23 : decode cX2_put 23 = .ok (.ifCond .eq 9, 3) := by decide +kernel
theorem dX2_put_26 : decode cX2_put 26 = .ok (.aload 4, 2) := by decide +kernel
theorem dX2_put_28 : decode cX2_put 28 = .ok (.invokevirtual 31, 3) := by decide +kernel
theorem dX2_put_31 : decode cX2_put 31 = .ok (.ireturn, 1) := by decide +kernel
theorem dX2_put_32 : decode cX2_put 32 = .ok (.aload 4, 2) := by decide +kernel
theorem dX2_put_34 : decode cX2_put 34 = .ok (.iload_n 2, 1) := by decide +kernel
theorem dX2_put_35 : decode cX2_put 35 = .ok (.invokevirtual 42, 3) := by decide +kernel
theorem dX2_put_38 : decode cX2_put 38 = .ok (.ifCond .ne 9, 3) := by decide +kernel
theorem dX2_put_41 : decode cX2_put 41 = .ok (.aload 4, 2) := by decide +kernel
theorem dX2_put_43 : decode cX2_put 43 = .ok (.invokevirtual 45, 3) := by decide +kernel
theorem dX2_put_46 : decode cX2_put 46 = .ok (.ireturn, 1) := by decide +kernel
theorem dX2_put_47 : decode cX2_put 47 = .ok (.aload 4, 2) := by decide +kernel
theorem dX2_put_49 : decode cX2_put 49 = .ok (.getfield 48, 3) := by decide +kernel
theorem dX2_put_52 : decode cX2_put 52 = .ok (.iload_n 2, 1) := by decide +kernel
theorem dX2_put_53 : decode cX2_put 53 = .ok (.iload_n 1, 1) := by decide +kernel
theorem dX2_put_54 : decode cX2_put 54 = .ok (.iload_n 3, 1) := by decide +kernel
theorem dX2_put_55 : decode cX2_put 55 = .ok (.i2l, 1) := by decide +kernel
theorem dX2_put_56 : decode cX2_put 56 = .ok (.invokestatic 52, 3) := by decide +kernel
theorem dX2_put_59 : decode cX2_put 59 = .ok (.iastore, 1) := by decide +kernel
theorem dX2_put_60 : decode cX2_put 60 = .ok (.aload 4, 2) := by decide +kernel
theorem dX2_put_62 : decode cX2_put 62 = .ok (.getfield 48, 3) := by decide +kernel
theorem dX2_put_65 : decode cX2_put 65 = .ok (.iload_n 2, 1) := by decide +kernel
theorem dX2_put_66 : decode cX2_put 66 = .ok (.iaload, 1) := by decide +kernel
theorem dX2_put_67 : decode cX2_put 67 = .ok (.ireturn, 1) := by decide +kernel
set_option maxRecDepth 20000 in
theorem ggX2_change_X2_isLane : GoodIn wsX2_change wsX2_isLane := goodIn_r _ [8] (by decide +kernel) (by decide +kernel)
set_option maxRecDepth 20000 in
theorem gX2_change_X2_isLane : GoodIn wsX2_change (va_wsS RX2 16 yX2_isLane wsX2_isLane) := goodIn_app (goodIn_of _ (by decide +kernel)) ggX2_change_X2_isLane
set_option maxRecDepth 20000 in
theorem ggX2_change_X0_isOff : GoodIn wsX2_change wsX0_isOff := goodIn_r _ [13, 14, 61, 62, 63, 64, 65] (by decide +kernel) (by decide +kernel)
set_option maxRecDepth 20000 in
theorem gX2_change_X0_isOff : GoodIn wsX2_change (wsV RX2 27 RX0 yX0_isOff wsX0_isOff) := goodIn_app (goodIn_of _ (by decide +kernel)) ggX2_change_X0_isOff
set_option maxRecDepth 20000 in
theorem ggX2_change_X0_refuseOff : GoodIn wsX2_change wsX0_refuseOff := goodIn_r _ [18, 19, 20, 61, 62, 63, 64, 65] (by decide +kernel) (by decide +kernel)
set_option maxRecDepth 20000 in
theorem gX2_change_X0_refuseOff : GoodIn wsX2_change (wsV RX2 31 RX0 yX0_refuseOff wsX0_refuseOff) := goodIn_app (goodIn_of _ (by decide +kernel)) ggX2_change_X0_refuseOff
set_option maxRecDepth 20000 in
theorem ggX2_change_X0_hasCell : GoodIn wsX2_change wsX0_hasCell := goodIn_r _ [24, 14, 61, 62, 63, 64, 65] (by decide +kernel) (by decide +kernel)
set_option maxRecDepth 20000 in
theorem gX2_change_X0_hasCell : GoodIn wsX2_change (wsV RX2 42 RX0 yX0_hasCell wsX0_hasCell) := goodIn_app (goodIn_of _ (by decide +kernel)) ggX2_change_X0_hasCell
set_option maxRecDepth 20000 in
theorem ggX2_change_X0_refuseOut : GoodIn wsX2_change wsX0_refuseOut := goodIn_r _ [28, 29, 30, 61, 62, 63, 64, 65] (by decide +kernel) (by decide +kernel)
set_option maxRecDepth 20000 in
theorem gX2_change_X0_refuseOut : GoodIn wsX2_change (wsV RX2 45 RX0 yX0_refuseOut wsX0_refuseOut) := goodIn_app (goodIn_of _ (by decide +kernel)) ggX2_change_X0_refuseOut
set_option maxRecDepth 20000 in
theorem ggX2_change_X2_changed : GoodIn wsX2_change wsX2_changed := goodIn_r _ [33, 34, 35, 7, 36, 37, 38, 39, 40, 41, 42, 43, 44, 45, 46, 47, 48, 49, 50, 51, 52] (by decide +kernel) (by decide +kernel)
set_option maxRecDepth 20000 in
theorem gX2_change_X2_changed : GoodIn wsX2_change (va_wsS RX2 57 yX2_changed wsX2_changed) := goodIn_app (goodIn_of _ (by decide +kernel)) ggX2_change_X2_changed
theorem dX2_change_0 : decode cX2_change 0 = .ok (.iload_n 1, 1) := by decide +kernel
theorem dX2_change_1 : decode cX2_change 1 = .ok (.invokestatic 16, 3) := by decide +kernel
theorem dX2_change_4 : decode cX2_change 4 = .ok (.ifCond .ne 6, 3) := by decide +kernel
theorem dX2_change_7 : decode cX2_change 7 = .ok (.ldc 20, 2) := by decide +kernel
theorem dX2_change_9 : decode cX2_change 9 = .ok (.ireturn, 1) := by decide +kernel
theorem dX2_change_10 : decode cX2_change 10 = .ok (.iload_n 2, 1) := by decide +kernel
theorem dX2_change_11 : decode cX2_change 11 = .ok (.ifCond .lt 8, 3) := by decide +kernel
theorem dX2_change_14 : decode cX2_change 14 = .ok (.iload_n 2, 1) := by decide +kernel
theorem dX2_change_15 : decode cX2_change 15 = .ok (.iconst 4, 1) := by decide +kernel
theorem dX2_change_16 : decode cX2_change 16 = .ok (.if_icmp .lt 6, 3) := by decide +kernel
theorem dX2_change_19 : decode cX2_change 19 = .ok (.ldc 56, 2) := by decide +kernel
theorem dX2_change_21 : decode cX2_change 21 = .ok (.ireturn, 1) := by decide +kernel
theorem dX2_change_22 : decode cX2_change 22 = .ok (.aload_n 0, 1) := by decide +kernel
theorem dX2_change_23 : decode cX2_change 23 = .ok (.getfield 11, 3) := by decide +kernel
theorem dX2_change_26 : decode cX2_change 26 = .ok (.iload_n 1, 1) := by decide +kernel
theorem dX2_change_27 : decode cX2_change 27 = .ok (.aaload, 1) := by decide +kernel
theorem dX2_change_28 : decode cX2_change 28 = .ok (.astore 5, 2) := by decide +kernel
theorem dX2_change_30 : decode cX2_change 30 = .ok (.aload 5, 2) := by decide +kernel
theorem dX2_change_32 : decode cX2_change 32 = .ok (.invokevirtual 27, 3) := by decide +kernel
theorem dX2_change_35 : decode cX2_change 35 = .ok (.ifCond .eq 9, 3) := by decide +kernel
theorem dX2_change_38 : decode cX2_change 38 = .ok (.aload 5, 2) := by decide +kernel
theorem dX2_change_40 : decode cX2_change 40 = .ok (.invokevirtual 31, 3) := by decide +kernel
theorem dX2_change_43 : decode cX2_change 43 = .ok (.ireturn, 1) := by decide +kernel
theorem dX2_change_44 : decode cX2_change 44 = .ok (.aload 5, 2) := by decide +kernel
theorem dX2_change_46 : decode cX2_change 46 = .ok (.iload_n 3, 1) := by decide +kernel
theorem dX2_change_47 : decode cX2_change 47 = .ok (.invokevirtual 42, 3) := by decide +kernel
theorem dX2_change_50 : decode cX2_change 50 = .ok (.ifCond .ne 9, 3) := by decide +kernel
theorem dX2_change_53 : decode cX2_change 53 = .ok (.aload 5, 2) := by decide +kernel
theorem dX2_change_55 : decode cX2_change 55 = .ok (.invokevirtual 45, 3) := by decide +kernel
theorem dX2_change_58 : decode cX2_change 58 = .ok (.ireturn, 1) := by decide +kernel
theorem dX2_change_59 : decode cX2_change 59 = .ok (.aload 5, 2) := by decide +kernel
theorem dX2_change_61 : decode cX2_change 61 = .ok (.getfield 48, 3) := by decide +kernel
theorem dX2_change_64 : decode cX2_change 64 = .ok (.iload_n 3, 1) := by decide +kernel
theorem dX2_change_65 : decode cX2_change 65 = .ok (.iload_n 1, 1) := by decide +kernel
theorem dX2_change_66 : decode cX2_change 66 = .ok (.iload_n 2, 1) := by decide +kernel
theorem dX2_change_67 : decode cX2_change 67 = .ok (.aload 5, 2) := by decide +kernel
theorem dX2_change_69 : decode cX2_change 69 = .ok (.getfield 48, 3) := by decide +kernel
theorem dX2_change_72 : decode cX2_change 72 = .ok (.iload_n 3, 1) := by decide +kernel
theorem dX2_change_73 : decode cX2_change 73 = .ok (.iaload, 1) := by decide +kernel
theorem dX2_change_74 : decode cX2_change 74 = .ok (.iload 4, 2) := by decide +kernel
theorem dX2_change_76 : decode cX2_change 76 = .ok (.invokestatic 57, 3) := by decide +kernel
theorem dX2_change_79 : decode cX2_change 79 = .ok (.iastore, 1) := by decide +kernel
theorem dX2_change_80 : decode cX2_change 80 = .ok (.aload 5, 2) := by decide +kernel
theorem dX2_change_82 : decode cX2_change 82 = .ok (.getfield 48, 3) := by decide +kernel
theorem dX2_change_85 : decode cX2_change 85 = .ok (.iload_n 3, 1) := by decide +kernel
theorem dX2_change_86 : decode cX2_change 86 = .ok (.iaload, 1) := by decide +kernel
theorem dX2_change_87 : decode cX2_change 87 = .ok (.ireturn, 1) := by decide +kernel
set_option maxRecDepth 20000 in
theorem ggX2_rule_X2_isLane : GoodIn wsX2_rule wsX2_isLane := goodIn_r _ [9] (by decide +kernel) (by decide +kernel)
set_option maxRecDepth 20000 in
theorem gX2_rule_X2_isLane : GoodIn wsX2_rule (va_wsS RX2 16 yX2_isLane wsX2_isLane) := goodIn_app (goodIn_of _ (by decide +kernel)) ggX2_rule_X2_isLane
set_option maxRecDepth 20000 in
theorem ggX2_rule_X1_renew : GoodIn wsX2_rule wsX1_renew := goodIn_r _ [14, 15, 16, 17, 31, 32, 33] (by decide +kernel) (by decide +kernel)
set_option maxRecDepth 20000 in
theorem gX2_rule_X1_renew : GoodIn wsX2_rule (wsV RX2 65 RX1 yX1_renew wsX1_renew) := goodIn_app (goodIn_of _ (by decide +kernel)) ggX2_rule_X1_renew
theorem dX2_rule_0 : decode cX2_rule 0 = .ok (.iload_n 1, 1) := by decide +kernel
theorem dX2_rule_1 : decode cX2_rule 1 = .ok (.invokestatic 16, 3) := by decide +kernel
theorem dX2_rule_4 : decode cX2_rule 4 = .ok (.ifCond .ne 6, 3) := by decide +kernel
theorem dX2_rule_7 : decode cX2_rule 7 = .ok (.ldc 20, 2) := by decide +kernel
theorem dX2_rule_9 : decode cX2_rule 9 = .ok (.ireturn, 1) := by decide +kernel
theorem dX2_rule_10 : decode cX2_rule 10 = .ok (.iload_n 2, 1) := by decide +kernel
theorem dX2_rule_11 : decode cX2_rule 11 = .ok (.bipush 16, 2) := by decide +kernel
theorem dX2_rule_13 : decode cX2_rule 13 = .ok (.if_icmp .gt 9, 3) := by decide +kernel
theorem dX2_rule_16 : decode cX2_rule 16 = .ok (.iload_n 3, 1) := by decide +kernel
theorem dX2_rule_17 : decode cX2_rule 17 = .ok (.bipush 16, 2) := by decide +kernel
theorem dX2_rule_19 : decode cX2_rule 19 = .ok (.if_icmp .le 6, 3) := by decide +kernel
theorem dX2_rule_22 : decode cX2_rule 22 = .ok (.ldc 21, 2) := by decide +kernel
theorem dX2_rule_24 : decode cX2_rule 24 = .ok (.ireturn, 1) := by decide +kernel
theorem dX2_rule_25 : decode cX2_rule 25 = .ok (.iload_n 2, 1) := by decide +kernel
theorem dX2_rule_26 : decode cX2_rule 26 = .ok (.ifCond .lt 7, 3) := by decide +kernel
theorem dX2_rule_29 : decode cX2_rule 29 = .ok (.iload_n 3, 1) := by decide +kernel
theorem dX2_rule_30 : decode cX2_rule 30 = .ok (.ifCond .ge 6, 3) := by decide +kernel
theorem dX2_rule_33 : decode cX2_rule 33 = .ok (.ldc 22, 2) := by decide +kernel
theorem dX2_rule_35 : decode cX2_rule 35 = .ok (.ireturn, 1) := by decide +kernel
theorem dX2_rule_36 : decode cX2_rule 36 = .ok (.aload_n 0, 1) := by decide +kernel
theorem dX2_rule_37 : decode cX2_rule 37 = .ok (.getfield 11, 3) := by decide +kernel
theorem dX2_rule_40 : decode cX2_rule 40 = .ok (.iload_n 1, 1) := by decide +kernel
theorem dX2_rule_41 : decode cX2_rule 41 = .ok (.aaload, 1) := by decide +kernel
theorem dX2_rule_42 : decode cX2_rule 42 = .ok (.getfield 61, 3) := by decide +kernel
theorem dX2_rule_45 : decode cX2_rule 45 = .ok (.iload_n 2, 1) := by decide +kernel
theorem dX2_rule_46 : decode cX2_rule 46 = .ok (.iload_n 3, 1) := by decide +kernel
theorem dX2_rule_47 : decode cX2_rule 47 = .ok (.invokevirtual 65, 3) := by decide +kernel
theorem dX2_rule_50 : decode cX2_rule 50 = .ok (.iload_n 2, 1) := by decide +kernel
theorem dX2_rule_51 : decode cX2_rule 51 = .ok (.iload_n 3, 1) := by decide +kernel
theorem dX2_rule_52 : decode cX2_rule 52 = .ok (.imul, 1) := by decide +kernel
theorem dX2_rule_53 : decode cX2_rule 53 = .ok (.ireturn, 1) := by decide +kernel
set_option maxRecDepth 20000 in
theorem ggX2_lay_X2_isLane : GoodIn wsX2_lay wsX2_isLane := goodIn_r _ [10] (by decide +kernel) (by decide +kernel)
set_option maxRecDepth 20000 in
theorem gX2_lay_X2_isLane : GoodIn wsX2_lay (va_wsS RX2 16 yX2_isLane wsX2_isLane) := goodIn_app (goodIn_of _ (by decide +kernel)) ggX2_lay_X2_isLane
set_option maxRecDepth 20000 in
theorem ggX2_lay_X1_isNone : GoodIn wsX2_lay wsX1_isNone := goodIn_r _ [15, 16, 71, 72, 73] (by decide +kernel) (by decide +kernel)
set_option maxRecDepth 20000 in
theorem gX2_lay_X1_isNone : GoodIn wsX2_lay (wsV RX2 70 RX1 yX1_isNone wsX1_isNone) := goodIn_app (goodIn_of _ (by decide +kernel)) ggX2_lay_X1_isNone
set_option maxRecDepth 20000 in
theorem ggX2_lay_X1_hasRow : GoodIn wsX2_lay wsX1_hasRow := goodIn_r _ [20, 16, 71, 72, 73] (by decide +kernel) (by decide +kernel)
set_option maxRecDepth 20000 in
theorem gX2_lay_X1_hasRow : GoodIn wsX2_lay (wsV RX2 74 RX1 yX1_hasRow wsX1_hasRow) := goodIn_app (goodIn_of _ (by decide +kernel)) ggX2_lay_X1_hasRow
set_option maxRecDepth 20000 in
theorem ggX2_lay_X0_isOff : GoodIn wsX2_lay wsX0_isOff := goodIn_r _ [25, 26, 66, 67, 68, 69, 70] (by decide +kernel) (by decide +kernel)
set_option maxRecDepth 20000 in
theorem gX2_lay_X0_isOff : GoodIn wsX2_lay (wsV RX2 27 RX0 yX0_isOff wsX0_isOff) := goodIn_app (goodIn_of _ (by decide +kernel)) ggX2_lay_X0_isOff
set_option maxRecDepth 20000 in
theorem ggX2_lay_X0_refuseOff : GoodIn wsX2_lay wsX0_refuseOff := goodIn_r _ [30, 31, 32, 66, 67, 68, 69, 70] (by decide +kernel) (by decide +kernel)
set_option maxRecDepth 20000 in
theorem gX2_lay_X0_refuseOff : GoodIn wsX2_lay (wsV RX2 31 RX0 yX0_refuseOff wsX0_refuseOff) := goodIn_app (goodIn_of _ (by decide +kernel)) ggX2_lay_X0_refuseOff
set_option maxRecDepth 20000 in
theorem ggX2_lay_X0_refuseOut : GoodIn wsX2_lay wsX0_refuseOut := goodIn_r _ [36, 37, 38, 66, 67, 68, 69, 70] (by decide +kernel) (by decide +kernel)
set_option maxRecDepth 20000 in
theorem gX2_lay_X0_refuseOut : GoodIn wsX2_lay (wsV RX2 45 RX0 yX0_refuseOut wsX0_refuseOut) := goodIn_app (goodIn_of _ (by decide +kernel)) ggX2_lay_X0_refuseOut
set_option maxRecDepth 20000 in
theorem ggX2_lay_X0_layInto : GoodIn wsX2_lay wsX0_layInto := goodIn_r _ [42, 26, 43, 44, 45, 46, 47, 48, 49, 50, 51, 52, 14, 53, 54, 55, 56, 57, 66, 67, 68, 69, 70, 71, 72, 73] (by decide +kernel) (by decide +kernel)
set_option maxRecDepth 20000 in
theorem gX2_lay_X0_layInto : GoodIn wsX2_lay (wsV RX2 78 RX0 yX0_layInto wsX0_layInto) := goodIn_app (goodIn_of _ (by decide +kernel)) ggX2_lay_X0_layInto
theorem dX2_lay_0 : decode cX2_lay 0 = .ok (.iload_n 1, 1) := by decide +kernel
theorem dX2_lay_1 : decode cX2_lay 1 = .ok (.invokestatic 16, 3) := by decide +kernel
theorem dX2_lay_4 : decode cX2_lay 4 = .ok (.ifCond .ne 6, 3) := by decide +kernel
theorem dX2_lay_7 : decode cX2_lay 7 = .ok (.ldc 20, 2) := by decide +kernel
theorem dX2_lay_9 : decode cX2_lay 9 = .ok (.ireturn, 1) := by decide +kernel
theorem dX2_lay_10 : decode cX2_lay 10 = .ok (.aload_n 0, 1) := by decide +kernel
theorem dX2_lay_11 : decode cX2_lay 11 = .ok (.getfield 11, 3) := by decide +kernel
theorem dX2_lay_14 : decode cX2_lay 14 = .ok (.iload_n 1, 1) := by decide +kernel
theorem dX2_lay_15 : decode cX2_lay 15 = .ok (.aaload, 1) := by decide +kernel
theorem dX2_lay_16 : decode cX2_lay 16 = .ok (.astore 4, 2) := by decide +kernel
theorem dX2_lay_18 : decode cX2_lay 18 = .ok (.aload 4, 2) := by decide +kernel
theorem dX2_lay_20 : decode cX2_lay 20 = .ok (.getfield 61, 3) := by decide +kernel
theorem dX2_lay_23 : decode cX2_lay 23 = .ok (.invokevirtual 70, 3) := by decide +kernel
theorem dX2_lay_26 : decode cX2_lay 26 = .ok (.ifCond .eq 6, 3) := by decide +kernel
theorem dX2_lay_29 : decode cX2_lay 29 = .ok (.ldc 73, 2) := by decide +kernel
theorem dX2_lay_31 : decode cX2_lay 31 = .ok (.ireturn, 1) := by decide +kernel
theorem dX2_lay_32 : decode cX2_lay 32 = .ok (.aload 4, 2) := by decide +kernel
theorem dX2_lay_34 : decode cX2_lay 34 = .ok (.getfield 61, 3) := by decide +kernel
theorem dX2_lay_37 : decode cX2_lay 37 = .ok (.iload_n 2, 1) := by decide +kernel
theorem dX2_lay_38 : decode cX2_lay 38 = .ok (.invokevirtual 74, 3) := by decide +kernel
theorem dX2_lay_41 : decode cX2_lay 41 = .ok (.ifCond .ne 6, 3) := by decide +kernel
theorem dX2_lay_44 : decode cX2_lay 44 = .ok (.ldc 77, 2) := by decide +kernel
theorem dX2_lay_46 : decode cX2_lay 46 = .ok (.ireturn, 1) := by decide +kernel
theorem dX2_lay_47 : decode cX2_lay 47 = .ok (.aload 4, 2) := by decide +kernel
theorem dX2_lay_49 : decode cX2_lay 49 = .ok (.invokevirtual 27, 3) := by decide +kernel
theorem dX2_lay_52 : decode cX2_lay 52 = .ok (.ifCond .eq 9, 3) := by decide +kernel
theorem dX2_lay_55 : decode cX2_lay 55 = .ok (.aload 4, 2) := by decide +kernel
theorem dX2_lay_57 : decode cX2_lay 57 = .ok (.invokevirtual 31, 3) := by decide +kernel
theorem dX2_lay_60 : decode cX2_lay 60 = .ok (.ireturn, 1) := by decide +kernel
theorem dX2_lay_61 : decode cX2_lay 61 = .ok (.iload_n 3, 1) := by decide +kernel
theorem dX2_lay_62 : decode cX2_lay 62 = .ok (.ifCond .lt 12, 3) := by decide +kernel
theorem dX2_lay_65 : decode cX2_lay 65 = .ok (.iload_n 3, 1) := by decide +kernel
theorem dX2_lay_66 : decode cX2_lay 66 = .ok (.aload 4, 2) := by decide +kernel
theorem dX2_lay_68 : decode cX2_lay 68 = .ok (.getfield 35, 3) := by decide +kernel
theorem dX2_lay_71 : decode cX2_lay 71 = .ok (.if_icmp .le 9, 3) := by decide +kernel
theorem dX2_lay_74 : decode cX2_lay 74 = .ok (.aload 4, 2) := by decide +kernel
theorem dX2_lay_76 : decode cX2_lay 76 = .ok (.invokevirtual 45, 3) := by decide +kernel
theorem dX2_lay_79 : decode cX2_lay 79 = .ok (.ireturn, 1) := by decide +kernel
theorem dX2_lay_80 : decode cX2_lay 80 = .ok (.aload 4, 2) := by decide +kernel
theorem dX2_lay_82 : decode cX2_lay 82 = .ok (.iload_n 2, 1) := by decide +kernel
theorem dX2_lay_83 : decode cX2_lay 83 = .ok (.iload_n 3, 1) := by decide +kernel
theorem dX2_lay_84 : decode cX2_lay 84 = .ok (.invokevirtual 78, 3) := by decide +kernel
theorem dX2_lay_87 : decode cX2_lay 87 = .ok (.ireturn, 1) := by decide +kernel
set_option maxRecDepth 20000 in
theorem ggX2_at_X2_isLane : GoodIn wsX2_at wsX2_isLane := goodIn_r _ [10] (by decide +kernel) (by decide +kernel)
set_option maxRecDepth 20000 in
theorem gX2_at_X2_isLane : GoodIn wsX2_at (va_wsS RX2 16 yX2_isLane wsX2_isLane) := goodIn_app (goodIn_of _ (by decide +kernel)) ggX2_at_X2_isLane
set_option maxRecDepth 20000 in
theorem ggX2_at_X1_isNone : GoodIn wsX2_at wsX1_isNone := goodIn_r _ [15, 16, 47, 48, 49] (by decide +kernel) (by decide +kernel)
set_option maxRecDepth 20000 in
theorem gX2_at_X1_isNone : GoodIn wsX2_at (wsV RX2 70 RX1 yX1_isNone wsX1_isNone) := goodIn_app (goodIn_of _ (by decide +kernel)) ggX2_at_X1_isNone
set_option maxRecDepth 20000 in
theorem ggX2_at_X1_hasRow : GoodIn wsX2_at wsX1_hasRow := goodIn_r _ [20, 16, 47, 48, 49] (by decide +kernel) (by decide +kernel)
set_option maxRecDepth 20000 in
theorem gX2_at_X1_hasRow : GoodIn wsX2_at (wsV RX2 74 RX1 yX1_hasRow wsX1_hasRow) := goodIn_app (goodIn_of _ (by decide +kernel)) ggX2_at_X1_hasRow
set_option maxRecDepth 20000 in
theorem ggX2_at_X1_hasColumn : GoodIn wsX2_at wsX1_hasColumn := goodIn_r _ [24, 25, 47, 48, 49] (by decide +kernel) (by decide +kernel)
set_option maxRecDepth 20000 in
theorem gX2_at_X1_hasColumn : GoodIn wsX2_at (wsV RX2 82 RX1 yX1_hasColumn wsX1_hasColumn) := goodIn_app (goodIn_of _ (by decide +kernel)) ggX2_at_X1_hasColumn
set_option maxRecDepth 20000 in
theorem ggX2_at_X1_numberIn : GoodIn wsX2_at wsX1_numberIn := goodIn_r _ [29, 30, 31, 32, 14, 33, 47, 48, 49] (by decide +kernel) (by decide +kernel)
set_option maxRecDepth 20000 in
theorem gX2_at_X1_numberIn : GoodIn wsX2_at (wsV RX2 86 RX1 yX1_numberIn wsX1_numberIn) := goodIn_app (goodIn_of _ (by decide +kernel)) ggX2_at_X1_numberIn
theorem dX2_at_0 : decode cX2_at 0 = .ok (.iload_n 1, 1) := by decide +kernel
theorem dX2_at_1 : decode cX2_at 1 = .ok (.invokestatic 16, 3) := by decide +kernel
theorem dX2_at_4 : decode cX2_at 4 = .ok (.ifCond .ne 6, 3) := by decide +kernel
theorem dX2_at_7 : decode cX2_at 7 = .ok (.ldc 20, 2) := by decide +kernel
theorem dX2_at_9 : decode cX2_at 9 = .ok (.ireturn, 1) := by decide +kernel
theorem dX2_at_10 : decode cX2_at 10 = .ok (.aload_n 0, 1) := by decide +kernel
theorem dX2_at_11 : decode cX2_at 11 = .ok (.getfield 11, 3) := by decide +kernel
theorem dX2_at_14 : decode cX2_at 14 = .ok (.iload_n 1, 1) := by decide +kernel
theorem dX2_at_15 : decode cX2_at 15 = .ok (.aaload, 1) := by decide +kernel
theorem dX2_at_16 : decode cX2_at 16 = .ok (.getfield 61, 3) := by decide +kernel
theorem dX2_at_19 : decode cX2_at 19 = .ok (.astore 4, 2) := by decide +kernel
theorem dX2_at_21 : decode cX2_at 21 = .ok (.aload 4, 2) := by decide +kernel
theorem dX2_at_23 : decode cX2_at 23 = .ok (.invokevirtual 70, 3) := by decide +kernel
theorem dX2_at_26 : decode cX2_at 26 = .ok (.ifCond .eq 6, 3) := by decide +kernel
theorem dX2_at_29 : decode cX2_at 29 = .ok (.ldc 73, 2) := by decide +kernel
theorem dX2_at_31 : decode cX2_at 31 = .ok (.ireturn, 1) := by decide +kernel
theorem dX2_at_32 : decode cX2_at 32 = .ok (.aload 4, 2) := by decide +kernel
theorem dX2_at_34 : decode cX2_at 34 = .ok (.iload_n 2, 1) := by decide +kernel
theorem dX2_at_35 : decode cX2_at 35 = .ok (.invokevirtual 74, 3) := by decide +kernel
theorem dX2_at_38 : decode cX2_at 38 = .ok (.ifCond .ne 6, 3) := by decide +kernel
theorem dX2_at_41 : decode cX2_at 41 = .ok (.ldc 77, 2) := by decide +kernel
theorem dX2_at_43 : decode cX2_at 43 = .ok (.ireturn, 1) := by decide +kernel
theorem dX2_at_44 : decode cX2_at 44 = .ok (.aload 4, 2) := by decide +kernel
theorem dX2_at_46 : decode cX2_at 46 = .ok (.iload_n 3, 1) := by decide +kernel
theorem dX2_at_47 : decode cX2_at 47 = .ok (.invokevirtual 82, 3) := by decide +kernel
theorem dX2_at_50 : decode cX2_at 50 = .ok (.ifCond .ne 6, 3) := by decide +kernel
theorem dX2_at_53 : decode cX2_at 53 = .ok (.ldc 85, 2) := by decide +kernel
theorem dX2_at_55 : decode cX2_at 55 = .ok (.ireturn, 1) := by decide +kernel
theorem dX2_at_56 : decode cX2_at 56 = .ok (.aload 4, 2) := by decide +kernel
theorem dX2_at_58 : decode cX2_at 58 = .ok (.iload_n 2, 1) := by decide +kernel
theorem dX2_at_59 : decode cX2_at 59 = .ok (.iload_n 3, 1) := by decide +kernel
theorem dX2_at_60 : decode cX2_at 60 = .ok (.invokevirtual 86, 3) := by decide +kernel
theorem dX2_at_63 : decode cX2_at 63 = .ok (.ireturn, 1) := by decide +kernel
theorem dX2_head_0 : decode cX2_head 0 = .ok (.iload_n 1, 1) := by decide +kernel
theorem dX2_head_1 : decode cX2_head 1 = .ok (.bipush 60, 2) := by decide +kernel
theorem dX2_head_3 : decode cX2_head 3 = .ok (.if_icmp .le 6, 3) := by decide +kernel
theorem dX2_head_6 : decode cX2_head 6 = .ok (.ldc 21, 2) := by decide +kernel
theorem dX2_head_8 : decode cX2_head 8 = .ok (.ireturn, 1) := by decide +kernel
theorem dX2_head_9 : decode cX2_head 9 = .ok (.iload_n 1, 1) := by decide +kernel
theorem dX2_head_10 : decode cX2_head 10 = .ok (.ifCond .ge 6, 3) := by decide +kernel
theorem dX2_head_13 : decode cX2_head 13 = .ok (.ldc 22, 2) := by decide +kernel
theorem dX2_head_15 : decode cX2_head 15 = .ok (.ireturn, 1) := by decide +kernel
theorem dX2_head_16 : decode cX2_head 16 = .ok (.aload_n 0, 1) := by decide +kernel
theorem dX2_head_17 : decode cX2_head 17 = .ok (.getfield 89, 3) := by decide +kernel
theorem dX2_head_20 : decode cX2_head 20 = .ok (.istore_n 2, 1) := by decide +kernel
theorem dX2_head_21 : decode cX2_head 21 = .ok (.aload_n 0, 1) := by decide +kernel
theorem dX2_head_22 : decode cX2_head 22 = .ok (.iload_n 1, 1) := by decide +kernel
theorem dX2_head_23 : decode cX2_head 23 = .ok (.putfield 89, 3) := by decide +kernel
theorem dX2_head_26 : decode cX2_head 26 = .ok (.iload_n 2, 1) := by decide +kernel
theorem dX2_head_27 : decode cX2_head 27 = .ok (.ireturn, 1) := by decide +kernel
set_option maxRecDepth 20000 in
theorem ggX2_play_X0_hasCell : GoodIn wsX2_play wsX0_hasCell := goodIn_r _ [10, 11, 43, 44, 45, 46, 47] (by decide +kernel) (by decide +kernel)
set_option maxRecDepth 20000 in
theorem gX2_play_X0_hasCell : GoodIn wsX2_play (wsV RX2 42 RX0 yX0_hasCell wsX0_hasCell) := goodIn_app (goodIn_of _ (by decide +kernel)) ggX2_play_X0_hasCell
set_option maxRecDepth 20000 in
theorem ggX2_play_X2_step : GoodIn wsX2_play wsX2_step := goodIn_r _ [16, 17, 18, 4, 19, 20, 21, 22, 23, 15, 24, 3, 5, 6, 7, 8, 9, 10, 11, 25, 26, 27, 28, 29, 30, 31, 32, 33, 34, 35, 36, 37, 38, 39, 40, 41, 42, 43, 44, 45, 46, 47] (by decide +kernel) (by decide +kernel)
set_option maxRecDepth 20000 in
theorem gX2_play_X2_step : GoodIn wsX2_play (wsV RX2 92 RX2 yX2_step wsX2_step) := goodIn_app (goodIn_of _ (by decide +kernel)) ggX2_play_X2_step
theorem dX2_play_0 : decode cX2_play 0 = .ok (.iload_n 1, 1) := by decide +kernel
theorem dX2_play_1 : decode cX2_play 1 = .ok (.ifCond .ge 6, 3) := by decide +kernel
theorem dX2_play_4 : decode cX2_play 4 = .ok (.ldc 22, 2) := by decide +kernel
theorem dX2_play_6 : decode cX2_play 6 = .ok (.ireturn, 1) := by decide +kernel
theorem dX2_play_7 : decode cX2_play 7 = .ok (.iload_n 1, 1) := by decide +kernel
theorem dX2_play_8 : decode cX2_play 8 = .ok (.sipush 200, 3) := by decide +kernel
theorem dX2_play_11 : decode cX2_play 11 = .ok (.if_icmp .le 6, 3) := by decide +kernel
theorem dX2_play_14 : decode cX2_play 14 = .ok (.ldc 21, 2) := by decide +kernel
theorem dX2_play_16 : decode cX2_play 16 = .ok (.ireturn, 1) := by decide +kernel
theorem dX2_play_17 : decode cX2_play 17 = .ok (.aload_n 0, 1) := by decide +kernel
theorem dX2_play_18 : decode cX2_play 18 = .ok (.getfield 11, 3) := by decide +kernel
theorem dX2_play_21 : decode cX2_play 21 = .ok (.iconst 0, 1) := by decide +kernel
theorem dX2_play_22 : decode cX2_play 22 = .ok (.aaload, 1) := by decide +kernel
theorem dX2_play_23 : decode cX2_play 23 = .ok (.astore_n 2, 1) := by decide +kernel
theorem dX2_play_24 : decode cX2_play 24 = .ok (.iconst 0, 1) := by decide +kernel
theorem dX2_play_25 : decode cX2_play 25 = .ok (.istore_n 3, 1) := by decide +kernel
theorem dX2_play_26 : decode cX2_play 26 = .ok (.iload_n 3, 1) := by decide +kernel
theorem dX2_play_27 : decode cX2_play 27 = .ok (.iload_n 1, 1) := by decide +kernel
theorem dX2_play_28 : decode cX2_play 28 = .ok (.if_icmp .ge 33, 3) := by decide +kernel
theorem dX2_play_31 : decode cX2_play 31 = .ok (.aload_n 2, 1) := by decide +kernel
theorem dX2_play_32 : decode cX2_play 32 = .ok (.aload_n 0, 1) := by decide +kernel
theorem dX2_play_33 : decode cX2_play 33 = .ok (.getfield 89, 3) := by decide +kernel
theorem dX2_play_36 : decode cX2_play 36 = .ok (.invokevirtual 42, 3) := by decide +kernel
theorem dX2_play_39 : decode cX2_play 39 = .ok (.ifCond .eq 22, 3) := by decide +kernel
theorem dX2_play_42 : decode cX2_play 42 = .ok (.aload_n 0, 1) := by decide +kernel
theorem dX2_play_43 : decode cX2_play 43 = .ok (.aload_n 2, 1) := by decide +kernel
theorem dX2_play_44 : decode cX2_play 44 = .ok (.getfield 48, 3) := by decide +kernel
theorem dX2_play_47 : decode cX2_play 47 = .ok (.aload_n 0, 1) := by decide +kernel
theorem dX2_play_48 : decode cX2_play 48 = .ok (.getfield 89, 3) := by decide +kernel
theorem dX2_play_51 : decode cX2_play 51 = .ok (.iaload, 1) := by decide +kernel
theorem dX2_play_52 : decode cX2_play 52 = .ok (.invokevirtual 92, 3) := by decide +kernel
theorem dX2_play_55 : decode cX2_play 55 = .ok (.iinc 3 1, 3) := by decide +kernel
theorem dX2_play_58 : decode cX2_play 58 = .ok (.goto (-32), 3) := by decide +kernel
theorem dX2_play_61 : decode cX2_play 61 = .ok (.iload_n 3, 1) := by decide +kernel
theorem dX2_play_62 : decode cX2_play 62 = .ok (.ireturn, 1) := by decide +kernel
set_option maxRecDepth 20000 in
theorem ggX2_count_X2_isLane : GoodIn wsX2_count wsX2_isLane := goodIn_r _ [14] (by decide +kernel) (by decide +kernel)
set_option maxRecDepth 20000 in
theorem gX2_count_X2_isLane : GoodIn wsX2_count (va_wsS RX2 16 yX2_isLane wsX2_isLane) := goodIn_app (goodIn_of _ (by decide +kernel)) ggX2_count_X2_isLane
theorem dX2_count_0 : decode cX2_count 0 = .ok (.iload_n 1, 1) := by decide +kernel
theorem dX2_count_1 : decode cX2_count 1 = .ok (.invokestatic 16, 3) := by decide +kernel
theorem dX2_count_4 : decode cX2_count 4 = .ok (.ifCond .eq 13, 3) := by decide +kernel
theorem dX2_count_7 : decode cX2_count 7 = .ok (.aload_n 0, 1) := by decide +kernel
theorem dX2_count_8 : decode cX2_count 8 = .ok (.getfield 11, 3) := by decide +kernel
theorem dX2_count_11 : decode cX2_count 11 = .ok (.iload_n 1, 1) := by decide +kernel
theorem dX2_count_12 : decode cX2_count 12 = .ok (.aaload, 1) := by decide +kernel
theorem dX2_count_13 : decode cX2_count 13 = .ok (.getfield 95, 3) := by decide +kernel
theorem dX2_count_16 : decode cX2_count 16 = .ok (.ireturn, 1) := by decide +kernel
theorem dX2_count_17 : decode cX2_count 17 = .ok (.iload_n 1, 1) := by decide +kernel
theorem dX2_count_18 : decode cX2_count 18 = .ok (.iconst 5, 1) := by decide +kernel
theorem dX2_count_19 : decode cX2_count 19 = .ok (.if_icmp .lt 21, 3) := by decide +kernel
theorem dX2_count_22 : decode cX2_count 22 = .ok (.iload_n 1, 1) := by decide +kernel
theorem dX2_count_23 : decode cX2_count 23 = .ok (.bipush 10, 2) := by decide +kernel
theorem dX2_count_25 : decode cX2_count 25 = .ok (.if_icmp .ge 15, 3) := by decide +kernel
theorem dX2_count_28 : decode cX2_count 28 = .ok (.aload_n 0, 1) := by decide +kernel
theorem dX2_count_29 : decode cX2_count 29 = .ok (.getfield 11, 3) := by decide +kernel
theorem dX2_count_32 : decode cX2_count 32 = .ok (.iload_n 1, 1) := by decide +kernel
theorem dX2_count_33 : decode cX2_count 33 = .ok (.iconst 5, 1) := by decide +kernel
theorem dX2_count_34 : decode cX2_count 34 = .ok (.isub, 1) := by decide +kernel
theorem dX2_count_35 : decode cX2_count 35 = .ok (.aaload, 1) := by decide +kernel
theorem dX2_count_36 : decode cX2_count 36 = .ok (.getfield 98, 3) := by decide +kernel
theorem dX2_count_39 : decode cX2_count 39 = .ok (.ireturn, 1) := by decide +kernel
theorem dX2_count_40 : decode cX2_count 40 = .ok (.iload_n 1, 1) := by decide +kernel
theorem dX2_count_41 : decode cX2_count 41 = .ok (.tableswitch 78 10 16 #[43, 48, 53, 58, 63, 68, 73], 43) := by decide +kernel
theorem dX2_count_84 : decode cX2_count 84 = .ok (.aload_n 0, 1) := by decide +kernel
theorem dX2_count_85 : decode cX2_count 85 = .ok (.getfield 89, 3) := by decide +kernel
theorem dX2_count_88 : decode cX2_count 88 = .ok (.ireturn, 1) := by decide +kernel
theorem dX2_count_89 : decode cX2_count 89 = .ok (.aload_n 0, 1) := by decide +kernel
theorem dX2_count_90 : decode cX2_count 90 = .ok (.getfield 101, 3) := by decide +kernel
theorem dX2_count_93 : decode cX2_count 93 = .ok (.ireturn, 1) := by decide +kernel
theorem dX2_count_94 : decode cX2_count 94 = .ok (.aload_n 0, 1) := by decide +kernel
theorem dX2_count_95 : decode cX2_count 95 = .ok (.getfield 104, 3) := by decide +kernel
theorem dX2_count_98 : decode cX2_count 98 = .ok (.ireturn, 1) := by decide +kernel
theorem dX2_count_99 : decode cX2_count 99 = .ok (.aload_n 0, 1) := by decide +kernel
theorem dX2_count_100 : decode cX2_count 100 = .ok (.getfield 107, 3) := by decide +kernel
theorem dX2_count_103 : decode cX2_count 103 = .ok (.ireturn, 1) := by decide +kernel
theorem dX2_count_104 : decode cX2_count 104 = .ok (.aload_n 0, 1) := by decide +kernel
theorem dX2_count_105 : decode cX2_count 105 = .ok (.getfield 110, 3) := by decide +kernel
theorem dX2_count_108 : decode cX2_count 108 = .ok (.ireturn, 1) := by decide +kernel
theorem dX2_count_109 : decode cX2_count 109 = .ok (.aload_n 0, 1) := by decide +kernel
theorem dX2_count_110 : decode cX2_count 110 = .ok (.getfield 113, 3) := by decide +kernel
theorem dX2_count_113 : decode cX2_count 113 = .ok (.ireturn, 1) := by decide +kernel
theorem dX2_count_114 : decode cX2_count 114 = .ok (.aload_n 0, 1) := by decide +kernel
theorem dX2_count_115 : decode cX2_count 115 = .ok (.getfield 116, 3) := by decide +kernel
theorem dX2_count_118 : decode cX2_count 118 = .ok (.ireturn, 1) := by decide +kernel
theorem dX2_count_119 : decode cX2_count 119 = .ok (.iconst 0, 1) := by decide +kernel
theorem dX2_count_120 : decode cX2_count 120 = .ok (.ireturn, 1) := by decide +kernel
theorem dX2_isLane_0 : decode cX2_isLane 0 = .ok (.iload_n 0, 1) := by decide +kernel
theorem dX2_isLane_1 : decode cX2_isLane 1 = .ok (.ifCond .lt 12, 3) := by decide +kernel
theorem dX2_isLane_4 : decode cX2_isLane 4 = .ok (.iload_n 0, 1) := by decide +kernel
theorem dX2_isLane_5 : decode cX2_isLane 5 = .ok (.iconst 5, 1) := by decide +kernel
theorem dX2_isLane_6 : decode cX2_isLane 6 = .ok (.if_icmp .ge 7, 3) := by decide +kernel
theorem dX2_isLane_9 : decode cX2_isLane 9 = .ok (.iconst 1, 1) := by decide +kernel
theorem dX2_isLane_10 : decode cX2_isLane 10 = .ok (.goto 4, 3) := by decide +kernel
theorem dX2_isLane_13 : decode cX2_isLane 13 = .ok (.iconst 0, 1) := by decide +kernel
theorem dX2_isLane_14 : decode cX2_isLane 14 = .ok (.ireturn, 1) := by decide +kernel
theorem dX2_stored_0 : decode cX2_stored 0 = .ok (.iload_n 0, 1) := by decide +kernel
theorem dX2_stored_1 : decode cX2_stored 1 = .ok (.tableswitch 55 0 4 #[35, 42, 55, 50, 46], 35) := by decide +kernel
theorem dX2_stored_36 : decode cX2_stored 36 = .ok (.lload_n 1, 1) := by decide +kernel
theorem dX2_stored_37 : decode cX2_stored 37 = .ok (.ldc2_w 119, 3) := by decide +kernel
theorem dX2_stored_40 : decode cX2_stored 40 = .ok (.land, 1) := by decide +kernel
theorem dX2_stored_41 : decode cX2_stored 41 = .ok (.l2i, 1) := by decide +kernel
theorem dX2_stored_42 : decode cX2_stored 42 = .ok (.ireturn, 1) := by decide +kernel
theorem dX2_stored_43 : decode cX2_stored 43 = .ok (.lload_n 1, 1) := by decide +kernel
theorem dX2_stored_44 : decode cX2_stored 44 = .ok (.l2i, 1) := by decide +kernel
theorem dX2_stored_45 : decode cX2_stored 45 = .ok (.i2s, 1) := by decide +kernel
theorem dX2_stored_46 : decode cX2_stored 46 = .ok (.ireturn, 1) := by decide +kernel
theorem dX2_stored_47 : decode cX2_stored 47 = .ok (.lload_n 1, 1) := by decide +kernel
theorem dX2_stored_48 : decode cX2_stored 48 = .ok (.l2i, 1) := by decide +kernel
theorem dX2_stored_49 : decode cX2_stored 49 = .ok (.i2b, 1) := by decide +kernel
theorem dX2_stored_50 : decode cX2_stored 50 = .ok (.ireturn, 1) := by decide +kernel
theorem dX2_stored_51 : decode cX2_stored 51 = .ok (.lload_n 1, 1) := by decide +kernel
theorem dX2_stored_52 : decode cX2_stored 52 = .ok (.lconst 1, 1) := by decide +kernel
theorem dX2_stored_53 : decode cX2_stored 53 = .ok (.land, 1) := by decide +kernel
theorem dX2_stored_54 : decode cX2_stored 54 = .ok (.l2i, 1) := by decide +kernel
theorem dX2_stored_55 : decode cX2_stored 55 = .ok (.ireturn, 1) := by decide +kernel
theorem dX2_stored_56 : decode cX2_stored 56 = .ok (.ldc2_w 121, 3) := by decide +kernel
theorem dX2_stored_59 : decode cX2_stored 59 = .ok (.ldc2_w 123, 3) := by decide +kernel
theorem dX2_stored_62 : decode cX2_stored 62 = .ok (.lload_n 1, 1) := by decide +kernel
theorem dX2_stored_63 : decode cX2_stored 63 = .ok (.invokestatic 125, 3) := by decide +kernel
theorem dX2_stored_66 : decode cX2_stored 66 = .ok (.invokestatic 131, 3) := by decide +kernel
theorem dX2_stored_69 : decode cX2_stored 69 = .ok (.l2i, 1) := by decide +kernel
theorem dX2_stored_70 : decode cX2_stored 70 = .ok (.ireturn, 1) := by decide +kernel
set_option maxRecDepth 20000 in
theorem ggX2_changed_X2_changedPedal : GoodIn wsX2_changed wsX2_changedPedal := goodIn_r _ [4] (by decide +kernel) (by decide +kernel)
set_option maxRecDepth 20000 in
theorem gX2_changed_X2_changedPedal : GoodIn wsX2_changed (va_wsS RX2 134 yX2_changedPedal wsX2_changedPedal) := goodIn_app (goodIn_of _ (by decide +kernel)) ggX2_changed_X2_changedPedal
set_option maxRecDepth 20000 in
theorem ggX2_changed_X2_reckoned : GoodIn wsX2_changed wsX2_reckoned := goodIn_r _ [7] (by decide +kernel) (by decide +kernel)
set_option maxRecDepth 20000 in
theorem gX2_changed_X2_reckoned : GoodIn wsX2_changed (va_wsS RX2 138 yX2_reckoned wsX2_reckoned) := goodIn_app (goodIn_of _ (by decide +kernel)) ggX2_changed_X2_reckoned
set_option maxRecDepth 20000 in
theorem ggX2_changed_X2_stored : GoodIn wsX2_changed wsX2_stored := goodIn_r _ [10, 11, 12, 13, 14, 15, 16, 17, 18, 19, 20] (by decide +kernel) (by decide +kernel)
set_option maxRecDepth 20000 in
theorem gX2_changed_X2_stored : GoodIn wsX2_changed (va_wsS RX2 52 yX2_stored wsX2_stored) := goodIn_app (goodIn_of _ (by decide +kernel)) ggX2_changed_X2_stored
theorem dX2_changed_0 : decode cX2_changed 0 = .ok (.iload_n 0, 1) := by decide +kernel
theorem dX2_changed_1 : decode cX2_changed 1 = .ok (.iconst 3, 1) := by decide +kernel
theorem dX2_changed_2 : decode cX2_changed 2 = .ok (.if_icmp .ne 12, 3) := by decide +kernel
theorem dX2_changed_5 : decode cX2_changed 5 = .ok (.iload_n 1, 1) := by decide +kernel
theorem dX2_changed_6 : decode cX2_changed 6 = .ok (.iload_n 2, 1) := by decide +kernel
theorem dX2_changed_7 : decode cX2_changed 7 = .ok (.iload_n 3, 1) := by decide +kernel
theorem dX2_changed_8 : decode cX2_changed 8 = .ok (.iconst 1, 1) := by decide +kernel
theorem dX2_changed_9 : decode cX2_changed 9 = .ok (.iand, 1) := by decide +kernel
theorem dX2_changed_10 : decode cX2_changed 10 = .ok (.invokestatic 134, 3) := by decide +kernel
theorem dX2_changed_13 : decode cX2_changed 13 = .ok (.ireturn, 1) := by decide +kernel
theorem dX2_changed_14 : decode cX2_changed 14 = .ok (.iload_n 0, 1) := by decide +kernel
theorem dX2_changed_15 : decode cX2_changed 15 = .ok (.iload_n 1, 1) := by decide +kernel
theorem dX2_changed_16 : decode cX2_changed 16 = .ok (.iload_n 2, 1) := by decide +kernel
theorem dX2_changed_17 : decode cX2_changed 17 = .ok (.i2l, 1) := by decide +kernel
theorem dX2_changed_18 : decode cX2_changed 18 = .ok (.iload_n 3, 1) := by decide +kernel
theorem dX2_changed_19 : decode cX2_changed 19 = .ok (.i2l, 1) := by decide +kernel
theorem dX2_changed_20 : decode cX2_changed 20 = .ok (.invokestatic 138, 3) := by decide +kernel
theorem dX2_changed_23 : decode cX2_changed 23 = .ok (.invokestatic 52, 3) := by decide +kernel
theorem dX2_changed_26 : decode cX2_changed 26 = .ok (.ireturn, 1) := by decide +kernel
theorem dX2_changedPedal_0 : decode cX2_changedPedal 0 = .ok (.iload_n 0, 1) := by decide +kernel
theorem dX2_changedPedal_1 : decode cX2_changedPedal 1 = .ok (.tableswitch 39 0 2 #[27, 31, 35], 27) := by decide +kernel
theorem dX2_changedPedal_28 : decode cX2_changedPedal 28 = .ok (.iload_n 1, 1) := by decide +kernel
theorem dX2_changedPedal_29 : decode cX2_changedPedal 29 = .ok (.iload_n 2, 1) := by decide +kernel
theorem dX2_changedPedal_30 : decode cX2_changedPedal 30 = .ok (.ior, 1) := by decide +kernel
theorem dX2_changedPedal_31 : decode cX2_changedPedal 31 = .ok (.ireturn, 1) := by decide +kernel
theorem dX2_changedPedal_32 : decode cX2_changedPedal 32 = .ok (.iload_n 1, 1) := by decide +kernel
theorem dX2_changedPedal_33 : decode cX2_changedPedal 33 = .ok (.iload_n 2, 1) := by decide +kernel
theorem dX2_changedPedal_34 : decode cX2_changedPedal 34 = .ok (.iand, 1) := by decide +kernel
theorem dX2_changedPedal_35 : decode cX2_changedPedal 35 = .ok (.ireturn, 1) := by decide +kernel
theorem dX2_changedPedal_36 : decode cX2_changedPedal 36 = .ok (.iload_n 1, 1) := by decide +kernel
theorem dX2_changedPedal_37 : decode cX2_changedPedal 37 = .ok (.iload_n 2, 1) := by decide +kernel
theorem dX2_changedPedal_38 : decode cX2_changedPedal 38 = .ok (.ixor, 1) := by decide +kernel
theorem dX2_changedPedal_39 : decode cX2_changedPedal 39 = .ok (.ireturn, 1) := by decide +kernel
theorem dX2_changedPedal_40 : decode cX2_changedPedal 40 = .ok (.iconst 1, 1) := by decide +kernel
theorem dX2_changedPedal_41 : decode cX2_changedPedal 41 = .ok (.iload_n 1, 1) := by decide +kernel
theorem dX2_changedPedal_42 : decode cX2_changedPedal 42 = .ok (.isub, 1) := by decide +kernel
theorem dX2_changedPedal_43 : decode cX2_changedPedal 43 = .ok (.ireturn, 1) := by decide +kernel
theorem dX2_reckoned_0 : decode cX2_reckoned 0 = .ok (.iload_n 0, 1) := by decide +kernel
theorem dX2_reckoned_1 : decode cX2_reckoned 1 = .ok (.tableswitch 39 0 2 #[27, 31, 35], 27) := by decide +kernel
theorem dX2_reckoned_28 : decode cX2_reckoned 28 = .ok (.lload_n 1, 1) := by decide +kernel
theorem dX2_reckoned_29 : decode cX2_reckoned 29 = .ok (.lload_n 3, 1) := by decide +kernel
theorem dX2_reckoned_30 : decode cX2_reckoned 30 = .ok (.ladd, 1) := by decide +kernel
theorem dX2_reckoned_31 : decode cX2_reckoned 31 = .ok (.lreturn, 1) := by decide +kernel
theorem dX2_reckoned_32 : decode cX2_reckoned 32 = .ok (.lload_n 1, 1) := by decide +kernel
theorem dX2_reckoned_33 : decode cX2_reckoned 33 = .ok (.lload_n 3, 1) := by decide +kernel
theorem dX2_reckoned_34 : decode cX2_reckoned 34 = .ok (.lsub, 1) := by decide +kernel
theorem dX2_reckoned_35 : decode cX2_reckoned 35 = .ok (.lreturn, 1) := by decide +kernel
theorem dX2_reckoned_36 : decode cX2_reckoned 36 = .ok (.lload_n 1, 1) := by decide +kernel
theorem dX2_reckoned_37 : decode cX2_reckoned 37 = .ok (.lload_n 3, 1) := by decide +kernel
theorem dX2_reckoned_38 : decode cX2_reckoned 38 = .ok (.lmul, 1) := by decide +kernel
theorem dX2_reckoned_39 : decode cX2_reckoned 39 = .ok (.lreturn, 1) := by decide +kernel
theorem dX2_reckoned_40 : decode cX2_reckoned 40 = .ok (.lload_n 1, 1) := by decide +kernel
theorem dX2_reckoned_41 : decode cX2_reckoned 41 = .ok (.lconst 1, 1) := by decide +kernel
theorem dX2_reckoned_42 : decode cX2_reckoned 42 = .ok (.ladd, 1) := by decide +kernel
theorem dX2_reckoned_43 : decode cX2_reckoned 43 = .ok (.lreturn, 1) := by decide +kernel
set_option maxRecDepth 20000 in
theorem ggX2_step_X2_told : GoodIn wsX2_step wsX2_told := goodIn_r _ [10, 11, 3, 12, 13, 14, 15, 16, 17, 18, 29, 30, 31, 32, 33, 34, 35, 36, 37, 38, 39, 40, 41] (by decide +kernel) (by decide +kernel)
set_option maxRecDepth 20000 in
theorem gX2_step_X2_told : GoodIn wsX2_step (wsV RX2 142 RX2 yX2_told wsX2_told) := goodIn_app (goodIn_of _ (by decide +kernel)) ggX2_step_X2_told
set_option maxRecDepth 20000 in
theorem ggX2_step_X2_playNote : GoodIn wsX2_step wsX2_playNote := goodIn_r _ [22, 1, 23, 24, 2, 6, 7, 8, 9, 10, 11, 3, 12, 13, 14, 15, 16, 17, 18, 29, 30, 31, 32, 33, 34, 35, 36, 37, 38, 39, 40, 41] (by decide +kernel) (by decide +kernel)
set_option maxRecDepth 20000 in
theorem gX2_step_X2_playNote : GoodIn wsX2_step (wsV RX2 145 RX2 yX2_playNote wsX2_playNote) := goodIn_app (goodIn_of _ (by decide +kernel)) ggX2_step_X2_playNote
set_option maxRecDepth 20000 in
theorem ggX2_step_X2_lowered : GoodIn wsX2_step wsX2_lowered := goodIn_r _ [28, 11, 3, 12, 13, 14, 15, 16, 17, 18, 29, 30, 31, 32, 33, 34, 35, 36, 37, 38, 39, 40, 41] (by decide +kernel) (by decide +kernel)
set_option maxRecDepth 20000 in
theorem gX2_step_X2_lowered : GoodIn wsX2_step (wsV RX2 148 RX2 yX2_lowered wsX2_lowered) := goodIn_app (goodIn_of _ (by decide +kernel)) ggX2_step_X2_lowered
theorem dX2_step_0 : decode cX2_step 0 = .ok (.iload_n 1, 1) := by decide +kernel
theorem dX2_step_1 : decode cX2_step 1 = .ok (.lookupswitch 134 #[(46, 59), (110, 77), (114, 108), (116, 84), (119, 125), (124, 97)], 59) := by decide +kernel
theorem dX2_step_60 : decode cX2_step 60 = .ok (.aload_n 0, 1) := by decide +kernel
theorem dX2_step_61 : decode cX2_step 61 = .ok (.dup, 1) := by decide +kernel
theorem dX2_step_62 : decode cX2_step 62 = .ok (.getfield 101, 3) := by decide +kernel
theorem dX2_step_65 : decode cX2_step 65 = .ok (.aload_n 0, 1) := by decide +kernel
theorem dX2_step_66 : decode cX2_step 66 = .ok (.iconst 1, 1) := by decide +kernel
theorem dX2_step_67 : decode cX2_step 67 = .ok (.iconst 1, 1) := by decide +kernel
theorem dX2_step_68 : decode cX2_step 68 = .ok (.invokevirtual 142, 3) := by decide +kernel
theorem dX2_step_71 : decode cX2_step 71 = .ok (.iadd, 1) := by decide +kernel
theorem dX2_step_72 : decode cX2_step 72 = .ok (.putfield 101, 3) := by decide +kernel
theorem dX2_step_75 : decode cX2_step 75 = .ok (.goto 70, 3) := by decide +kernel
theorem dX2_step_78 : decode cX2_step 78 = .ok (.aload_n 0, 1) := by decide +kernel
theorem dX2_step_79 : decode cX2_step 79 = .ok (.invokevirtual 145, 3) := by decide +kernel
theorem dX2_step_82 : decode cX2_step 82 = .ok (.goto 63, 3) := by decide +kernel
theorem dX2_step_85 : decode cX2_step 85 = .ok (.aload_n 0, 1) := by decide +kernel
theorem dX2_step_86 : decode cX2_step 86 = .ok (.aload_n 0, 1) := by decide +kernel
theorem dX2_step_87 : decode cX2_step 87 = .ok (.iconst 4, 1) := by decide +kernel
theorem dX2_step_88 : decode cX2_step 88 = .ok (.iconst 0, 1) := by decide +kernel
theorem dX2_step_89 : decode cX2_step 89 = .ok (.invokevirtual 142, 3) := by decide +kernel
theorem dX2_step_92 : decode cX2_step 92 = .ok (.putfield 104, 3) := by decide +kernel
theorem dX2_step_95 : decode cX2_step 95 = .ok (.goto 50, 3) := by decide +kernel
theorem dX2_step_98 : decode cX2_step 98 = .ok (.aload_n 0, 1) := by decide +kernel
theorem dX2_step_99 : decode cX2_step 99 = .ok (.aload_n 0, 1) := by decide +kernel
theorem dX2_step_100 : decode cX2_step 100 = .ok (.getfield 89, 3) := by decide +kernel
theorem dX2_step_103 : decode cX2_step 103 = .ok (.putfield 107, 3) := by decide +kernel
theorem dX2_step_106 : decode cX2_step 106 = .ok (.goto 39, 3) := by decide +kernel
theorem dX2_step_109 : decode cX2_step 109 = .ok (.aload_n 0, 1) := by decide +kernel
theorem dX2_step_110 : decode cX2_step 110 = .ok (.iconst 1, 1) := by decide +kernel
theorem dX2_step_111 : decode cX2_step 111 = .ok (.invokevirtual 148, 3) := by decide +kernel
theorem dX2_step_114 : decode cX2_step 114 = .ok (.ifCond .eq 31, 3) := by decide +kernel
theorem dX2_step_117 : decode cX2_step 117 = .ok (.aload_n 0, 1) := by decide +kernel
theorem dX2_step_118 : decode cX2_step 118 = .ok (.aload_n 0, 1) := by decide +kernel
theorem dX2_step_119 : decode cX2_step 119 = .ok (.getfield 107, 3) := by decide +kernel
theorem dX2_step_122 : decode cX2_step 122 = .ok (.putfield 89, 3) := by decide +kernel
theorem dX2_step_125 : decode cX2_step 125 = .ok (.return_, 1) := by decide +kernel
theorem dX2_step_126 : decode cX2_step 126 = .ok (.aload_n 0, 1) := by decide +kernel
theorem dX2_step_127 : decode cX2_step 127 = .ok (.iconst 2, 1) := by decide +kernel
theorem dX2_step_128 : decode cX2_step 128 = .ok (.invokevirtual 148, 3) := by decide +kernel
theorem dX2_step_131 : decode cX2_step 131 = .ok (.pop, 1) := by decide +kernel
theorem dX2_step_132 : decode cX2_step 132 = .ok (.goto 13, 3) := by decide +kernel
theorem dX2_step_135 : decode cX2_step 135 = .ok (.aload_n 0, 1) := by decide +kernel
theorem dX2_step_136 : decode cX2_step 136 = .ok (.dup, 1) := by decide +kernel
theorem dX2_step_137 : decode cX2_step 137 = .ok (.getfield 116, 3) := by decide +kernel
theorem dX2_step_140 : decode cX2_step 140 = .ok (.iconst 1, 1) := by decide +kernel
theorem dX2_step_141 : decode cX2_step 141 = .ok (.iadd, 1) := by decide +kernel
theorem dX2_step_142 : decode cX2_step 142 = .ok (.putfield 116, 3) := by decide +kernel
theorem dX2_step_145 : decode cX2_step 145 = .ok (.aload_n 0, 1) := by decide +kernel
theorem dX2_step_146 : decode cX2_step 146 = .ok (.dup, 1) := by decide +kernel
theorem dX2_step_147 : decode cX2_step 147 = .ok (.getfield 89, 3) := by decide +kernel
theorem dX2_step_150 : decode cX2_step 150 = .ok (.iconst 1, 1) := by decide +kernel
theorem dX2_step_151 : decode cX2_step 151 = .ok (.iadd, 1) := by decide +kernel
theorem dX2_step_152 : decode cX2_step 152 = .ok (.putfield 89, 3) := by decide +kernel
theorem dX2_step_155 : decode cX2_step 155 = .ok (.return_, 1) := by decide +kernel
set_option maxRecDepth 20000 in
theorem ggX2_playNote_X2_told : GoodIn wsX2_playNote wsX2_told := goodIn_r _ [9, 10, 11, 12, 13, 14, 15, 16, 17, 18, 19, 20, 21, 22, 23, 24, 25, 26, 27, 28, 29, 30, 31] (by decide +kernel) (by decide +kernel)
set_option maxRecDepth 20000 in
theorem gX2_playNote_X2_told : GoodIn wsX2_playNote (wsV RX2 142 RX2 yX2_told wsX2_told) := goodIn_app (goodIn_of _ (by decide +kernel)) ggX2_playNote_X2_told
theorem dX2_playNote_0 : decode cX2_playNote 0 = .ok (.aload_n 0, 1) := by decide +kernel
theorem dX2_playNote_1 : decode cX2_playNote 1 = .ok (.iconst 1, 1) := by decide +kernel
theorem dX2_playNote_2 : decode cX2_playNote 2 = .ok (.iconst 1, 1) := by decide +kernel
theorem dX2_playNote_3 : decode cX2_playNote 3 = .ok (.invokevirtual 142, 3) := by decide +kernel
theorem dX2_playNote_6 : decode cX2_playNote 6 = .ok (.istore_n 1, 1) := by decide +kernel
theorem dX2_playNote_7 : decode cX2_playNote 7 = .ok (.aload_n 0, 1) := by decide +kernel
theorem dX2_playNote_8 : decode cX2_playNote 8 = .ok (.iconst 3, 1) := by decide +kernel
theorem dX2_playNote_9 : decode cX2_playNote 9 = .ok (.iconst 0, 1) := by decide +kernel
theorem dX2_playNote_10 : decode cX2_playNote 10 = .ok (.invokevirtual 142, 3) := by decide +kernel
theorem dX2_playNote_13 : decode cX2_playNote 13 = .ok (.iconst 1, 1) := by decide +kernel
theorem dX2_playNote_14 : decode cX2_playNote 14 = .ok (.if_icmp .ne 7, 3) := by decide +kernel
theorem dX2_playNote_17 : decode cX2_playNote 17 = .ok (.iconst 2, 1) := by decide +kernel
theorem dX2_playNote_18 : decode cX2_playNote 18 = .ok (.iload_n 1, 1) := by decide +kernel
theorem dX2_playNote_19 : decode cX2_playNote 19 = .ok (.imul, 1) := by decide +kernel
theorem dX2_playNote_20 : decode cX2_playNote 20 = .ok (.istore_n 1, 1) := by decide +kernel
theorem dX2_playNote_21 : decode cX2_playNote 21 = .ok (.aload_n 0, 1) := by decide +kernel
theorem dX2_playNote_22 : decode cX2_playNote 22 = .ok (.dup, 1) := by decide +kernel
theorem dX2_playNote_23 : decode cX2_playNote 23 = .ok (.getfield 101, 3) := by decide +kernel
theorem dX2_playNote_26 : decode cX2_playNote 26 = .ok (.iload_n 1, 1) := by decide +kernel
theorem dX2_playNote_27 : decode cX2_playNote 27 = .ok (.iadd, 1) := by decide +kernel
theorem dX2_playNote_28 : decode cX2_playNote 28 = .ok (.putfield 101, 3) := by decide +kernel
theorem dX2_playNote_31 : decode cX2_playNote 31 = .ok (.aload_n 0, 1) := by decide +kernel
theorem dX2_playNote_32 : decode cX2_playNote 32 = .ok (.dup, 1) := by decide +kernel
theorem dX2_playNote_33 : decode cX2_playNote 33 = .ok (.getfield 110, 3) := by decide +kernel
theorem dX2_playNote_36 : decode cX2_playNote 36 = .ok (.iconst 1, 1) := by decide +kernel
theorem dX2_playNote_37 : decode cX2_playNote 37 = .ok (.iadd, 1) := by decide +kernel
theorem dX2_playNote_38 : decode cX2_playNote 38 = .ok (.putfield 110, 3) := by decide +kernel
theorem dX2_playNote_41 : decode cX2_playNote 41 = .ok (.aload_n 0, 1) := by decide +kernel
theorem dX2_playNote_42 : decode cX2_playNote 42 = .ok (.dup, 1) := by decide +kernel
theorem dX2_playNote_43 : decode cX2_playNote 43 = .ok (.getfield 113, 3) := by decide +kernel
theorem dX2_playNote_46 : decode cX2_playNote 46 = .ok (.iload_n 1, 1) := by decide +kernel
theorem dX2_playNote_47 : decode cX2_playNote 47 = .ok (.aload_n 0, 1) := by decide +kernel
theorem dX2_playNote_48 : decode cX2_playNote 48 = .ok (.iconst 4, 1) := by decide +kernel
theorem dX2_playNote_49 : decode cX2_playNote 49 = .ok (.iconst 0, 1) := by decide +kernel
theorem dX2_playNote_50 : decode cX2_playNote 50 = .ok (.invokevirtual 142, 3) := by decide +kernel
theorem dX2_playNote_53 : decode cX2_playNote 53 = .ok (.aload_n 0, 1) := by decide +kernel
theorem dX2_playNote_54 : decode cX2_playNote 54 = .ok (.getfield 104, 3) := by decide +kernel
theorem dX2_playNote_57 : decode cX2_playNote 57 = .ok (.iadd, 1) := by decide +kernel
theorem dX2_playNote_58 : decode cX2_playNote 58 = .ok (.imul, 1) := by decide +kernel
theorem dX2_playNote_59 : decode cX2_playNote 59 = .ok (.iadd, 1) := by decide +kernel
theorem dX2_playNote_60 : decode cX2_playNote 60 = .ok (.putfield 113, 3) := by decide +kernel
theorem dX2_playNote_63 : decode cX2_playNote 63 = .ok (.aload_n 0, 1) := by decide +kernel
theorem dX2_playNote_64 : decode cX2_playNote 64 = .ok (.dup, 1) := by decide +kernel
theorem dX2_playNote_65 : decode cX2_playNote 65 = .ok (.getfield 113, 3) := by decide +kernel
theorem dX2_playNote_68 : decode cX2_playNote 68 = .ok (.aload_n 0, 1) := by decide +kernel
theorem dX2_playNote_69 : decode cX2_playNote 69 = .ok (.iconst 2, 1) := by decide +kernel
theorem dX2_playNote_70 : decode cX2_playNote 70 = .ok (.bipush 8, 2) := by decide +kernel
theorem dX2_playNote_72 : decode cX2_playNote 72 = .ok (.invokevirtual 142, 3) := by decide +kernel
theorem dX2_playNote_75 : decode cX2_playNote 75 = .ok (.iadd, 1) := by decide +kernel
theorem dX2_playNote_76 : decode cX2_playNote 76 = .ok (.putfield 113, 3) := by decide +kernel
theorem dX2_playNote_79 : decode cX2_playNote 79 = .ok (.return_, 1) := by decide +kernel
set_option maxRecDepth 20000 in
theorem ggX2_told_X0_hasCell : GoodIn wsX2_told wsX0_hasCell := goodIn_r _ [8, 9, 18, 19, 20, 21, 22] (by decide +kernel) (by decide +kernel)
set_option maxRecDepth 20000 in
theorem gX2_told_X0_hasCell : GoodIn wsX2_told (wsV RX2 42 RX0 yX0_hasCell wsX0_hasCell) := goodIn_app (goodIn_of _ (by decide +kernel)) ggX2_told_X0_hasCell
theorem dX2_told_0 : decode cX2_told 0 = .ok (.aload_n 0, 1) := by decide +kernel
theorem dX2_told_1 : decode cX2_told 1 = .ok (.getfield 11, 3) := by decide +kernel
theorem dX2_told_4 : decode cX2_told 4 = .ok (.iload_n 1, 1) := by decide +kernel
theorem dX2_told_5 : decode cX2_told 5 = .ok (.aaload, 1) := by decide +kernel
theorem dX2_told_6 : decode cX2_told 6 = .ok (.astore_n 3, 1) := by decide +kernel
theorem dX2_told_7 : decode cX2_told 7 = .ok (.aload_n 3, 1) := by decide +kernel
theorem dX2_told_8 : decode cX2_told 8 = .ok (.aload_n 0, 1) := by decide +kernel
theorem dX2_told_9 : decode cX2_told 9 = .ok (.getfield 89, 3) := by decide +kernel
theorem dX2_told_12 : decode cX2_told 12 = .ok (.invokevirtual 42, 3) := by decide +kernel
theorem dX2_told_15 : decode cX2_told 15 = .ok (.ifCond .eq 15, 3) := by decide +kernel
theorem dX2_told_18 : decode cX2_told 18 = .ok (.aload_n 3, 1) := by decide +kernel
theorem dX2_told_19 : decode cX2_told 19 = .ok (.getfield 48, 3) := by decide +kernel
theorem dX2_told_22 : decode cX2_told 22 = .ok (.aload_n 0, 1) := by decide +kernel
theorem dX2_told_23 : decode cX2_told 23 = .ok (.getfield 89, 3) := by decide +kernel
theorem dX2_told_26 : decode cX2_told 26 = .ok (.iaload, 1) := by decide +kernel
theorem dX2_told_27 : decode cX2_told 27 = .ok (.goto 4, 3) := by decide +kernel
theorem dX2_told_30 : decode cX2_told 30 = .ok (.iload_n 2, 1) := by decide +kernel
theorem dX2_told_31 : decode cX2_told 31 = .ok (.ireturn, 1) := by decide +kernel
set_option maxRecDepth 20000 in
theorem ggX2_lowered_X0_hasCell : GoodIn wsX2_lowered wsX0_hasCell := goodIn_r _ [8, 9, 18, 19, 20, 21, 22] (by decide +kernel) (by decide +kernel)
set_option maxRecDepth 20000 in
theorem gX2_lowered_X0_hasCell : GoodIn wsX2_lowered (wsV RX2 42 RX0 yX0_hasCell wsX0_hasCell) := goodIn_app (goodIn_of _ (by decide +kernel)) ggX2_lowered_X0_hasCell
theorem dX2_lowered_0 : decode cX2_lowered 0 = .ok (.aload_n 0, 1) := by decide +kernel
theorem dX2_lowered_1 : decode cX2_lowered 1 = .ok (.getfield 11, 3) := by decide +kernel
theorem dX2_lowered_4 : decode cX2_lowered 4 = .ok (.iload_n 1, 1) := by decide +kernel
theorem dX2_lowered_5 : decode cX2_lowered 5 = .ok (.aaload, 1) := by decide +kernel
theorem dX2_lowered_6 : decode cX2_lowered 6 = .ok (.astore_n 2, 1) := by decide +kernel
theorem dX2_lowered_7 : decode cX2_lowered 7 = .ok (.aload_n 2, 1) := by decide +kernel
theorem dX2_lowered_8 : decode cX2_lowered 8 = .ok (.aload_n 0, 1) := by decide +kernel
theorem dX2_lowered_9 : decode cX2_lowered 9 = .ok (.getfield 89, 3) := by decide +kernel
theorem dX2_lowered_12 : decode cX2_lowered 12 = .ok (.invokevirtual 42, 3) := by decide +kernel
theorem dX2_lowered_15 : decode cX2_lowered 15 = .ok (.ifCond .eq 15, 3) := by decide +kernel
theorem dX2_lowered_18 : decode cX2_lowered 18 = .ok (.aload_n 2, 1) := by decide +kernel
theorem dX2_lowered_19 : decode cX2_lowered 19 = .ok (.getfield 48, 3) := by decide +kernel
theorem dX2_lowered_22 : decode cX2_lowered 22 = .ok (.aload_n 0, 1) := by decide +kernel
theorem dX2_lowered_23 : decode cX2_lowered 23 = .ok (.getfield 89, 3) := by decide +kernel
theorem dX2_lowered_26 : decode cX2_lowered 26 = .ok (.iaload, 1) := by decide +kernel
theorem dX2_lowered_27 : decode cX2_lowered 27 = .ok (.ifCond .gt 5, 3) := by decide +kernel
theorem dX2_lowered_30 : decode cX2_lowered 30 = .ok (.iconst 0, 1) := by decide +kernel
theorem dX2_lowered_31 : decode cX2_lowered 31 = .ok (.ireturn, 1) := by decide +kernel
theorem dX2_lowered_32 : decode cX2_lowered 32 = .ok (.aload_n 2, 1) := by decide +kernel
theorem dX2_lowered_33 : decode cX2_lowered 33 = .ok (.getfield 48, 3) := by decide +kernel
theorem dX2_lowered_36 : decode cX2_lowered 36 = .ok (.aload_n 0, 1) := by decide +kernel
theorem dX2_lowered_37 : decode cX2_lowered 37 = .ok (.getfield 89, 3) := by decide +kernel
theorem dX2_lowered_40 : decode cX2_lowered 40 = .ok (.dup2, 1) := by decide +kernel
theorem dX2_lowered_41 : decode cX2_lowered 41 = .ok (.iaload, 1) := by decide +kernel
theorem dX2_lowered_42 : decode cX2_lowered 42 = .ok (.iconst 1, 1) := by decide +kernel
theorem dX2_lowered_43 : decode cX2_lowered 43 = .ok (.isub, 1) := by decide +kernel
theorem dX2_lowered_44 : decode cX2_lowered 44 = .ok (.iastore, 1) := by decide +kernel
theorem dX2_lowered_45 : decode cX2_lowered 45 = .ok (.iconst 1, 1) := by decide +kernel
theorem dX2_lowered_46 : decode cX2_lowered 46 = .ok (.ireturn, 1) := by decide +kernel
end
section
theorem dX3_init_0 : decode cX3_init 0 = .ok (.aload_n 0, 1) := by decide +kernel
theorem dX3_init_1 : decode cX3_init 1 = .ok (.invokespecial 1, 3) := by decide +kernel
theorem dX3_init_4 : decode cX3_init 4 = .ok (.aload_n 0, 1) := by decide +kernel
theorem dX3_init_5 : decode cX3_init 5 = .ok (.sipush 300, 3) := by decide +kernel
theorem dX3_init_8 : decode cX3_init 8 = .ok (.newarray .int, 2) := by decide +kernel
theorem dX3_init_10 : decode cX3_init 10 = .ok (.putfield 7, 3) := by decide +kernel
theorem dX3_init_13 : decode cX3_init 13 = .ok (.aload_n 0, 1) := by decide +kernel
theorem dX3_init_14 : decode cX3_init 14 = .ok (.iconst 5, 1) := by decide +kernel
theorem dX3_init_15 : decode cX3_init 15 = .ok (.newarray .int, 2) := by decide +kernel
theorem dX3_init_17 : decode cX3_init 17 = .ok (.putfield 13, 3) := by decide +kernel
theorem dX3_init_20 : decode cX3_init 20 = .ok (.aload_n 0, 1) := by decide +kernel
theorem dX3_init_21 : decode cX3_init 21 = .ok (.iconst 5, 1) := by decide +kernel
theorem dX3_init_22 : decode cX3_init 22 = .ok (.newarray .boolean, 2) := by decide +kernel
theorem dX3_init_24 : decode cX3_init 24 = .ok (.putfield 16, 3) := by decide +kernel
theorem dX3_init_27 : decode cX3_init 27 = .ok (.aload_n 0, 1) := by decide +kernel
theorem dX3_init_28 : decode cX3_init 28 = .ok (.sipush 1280, 3) := by decide +kernel
theorem dX3_init_31 : decode cX3_init 31 = .ok (.newarray .int, 2) := by decide +kernel
theorem dX3_init_33 : decode cX3_init 33 = .ok (.putfield 20, 3) := by decide +kernel
theorem dX3_init_36 : decode cX3_init 36 = .ok (.aload_n 0, 1) := by decide +kernel
theorem dX3_init_37 : decode cX3_init 37 = .ok (.iconst 5, 1) := by decide +kernel
theorem dX3_init_38 : decode cX3_init 38 = .ok (.newarray .int, 2) := by decide +kernel
theorem dX3_init_40 : decode cX3_init 40 = .ok (.putfield 23, 3) := by decide +kernel
theorem dX3_init_43 : decode cX3_init 43 = .ok (.aload_n 0, 1) := by decide +kernel
theorem dX3_init_44 : decode cX3_init 44 = .ok (.iconst 5, 1) := by decide +kernel
theorem dX3_init_45 : decode cX3_init 45 = .ok (.newarray .int, 2) := by decide +kernel
theorem dX3_init_47 : decode cX3_init 47 = .ok (.putfield 26, 3) := by decide +kernel
theorem dX3_init_50 : decode cX3_init 50 = .ok (.aload_n 0, 1) := by decide +kernel
theorem dX3_init_51 : decode cX3_init 51 = .ok (.iconst 5, 1) := by decide +kernel
theorem dX3_init_52 : decode cX3_init 52 = .ok (.newarray .boolean, 2) := by decide +kernel
theorem dX3_init_54 : decode cX3_init 54 = .ok (.putfield 29, 3) := by decide +kernel
theorem dX3_init_57 : decode cX3_init 57 = .ok (.aload_n 0, 1) := by decide +kernel
theorem dX3_init_58 : decode cX3_init 58 = .ok (.iconst 5, 1) := by decide +kernel
theorem dX3_init_59 : decode cX3_init 59 = .ok (.newarray .int, 2) := by decide +kernel
theorem dX3_init_61 : decode cX3_init 61 = .ok (.putfield 32, 3) := by decide +kernel
theorem dX3_init_64 : decode cX3_init 64 = .ok (.aload_n 0, 1) := by decide +kernel
theorem dX3_init_65 : decode cX3_init 65 = .ok (.iconst 5, 1) := by decide +kernel
theorem dX3_init_66 : decode cX3_init 66 = .ok (.newarray .int, 2) := by decide +kernel
theorem dX3_init_68 : decode cX3_init 68 = .ok (.putfield 35, 3) := by decide +kernel
theorem dX3_init_71 : decode cX3_init 71 = .ok (.return_, 1) := by decide +kernel
theorem dX3_isLane_0 : decode cX3_isLane 0 = .ok (.iload_n 0, 1) := by decide +kernel
theorem dX3_isLane_1 : decode cX3_isLane 1 = .ok (.ifCond .lt 12, 3) := by decide +kernel
theorem dX3_isLane_4 : decode cX3_isLane 4 = .ok (.iload_n 0, 1) := by decide +kernel
theorem dX3_isLane_5 : decode cX3_isLane 5 = .ok (.iconst 5, 1) := by decide +kernel
theorem dX3_isLane_6 : decode cX3_isLane 6 = .ok (.if_icmp .ge 7, 3) := by decide +kernel
theorem dX3_isLane_9 : decode cX3_isLane 9 = .ok (.iconst 1, 1) := by decide +kernel
theorem dX3_isLane_10 : decode cX3_isLane 10 = .ok (.goto 4, 3) := by decide +kernel
theorem dX3_isLane_13 : decode cX3_isLane 13 = .ok (.iconst 0, 1) := by decide +kernel
theorem dX3_isLane_14 : decode cX3_isLane 14 = .ok (.ireturn, 1) := by decide +kernel
theorem dX3_off_0 : decode cX3_off 0 = .ok (.aload_n 0, 1) := by decide +kernel
theorem dX3_off_1 : decode cX3_off 1 = .ok (.getfield 32, 3) := by decide +kernel
theorem dX3_off_4 : decode cX3_off 4 = .ok (.iload_n 1, 1) := by decide +kernel
theorem dX3_off_5 : decode cX3_off 5 = .ok (.aload_n 0, 1) := by decide +kernel
theorem dX3_off_6 : decode cX3_off 6 = .ok (.getfield 32, 3) := by decide +kernel
theorem dX3_off_9 : decode cX3_off 9 = .ok (.iload_n 1, 1) := by decide +kernel
theorem dX3_off_10 : decode cX3_off 10 = .ok (.iaload, 1) := by decide +kernel
theorem dX3_off_11 : decode cX3_off 11 = .ok (.iconst 1, 1) := by decide +kernel
theorem dX3_off_12 : decode cX3_off 12 = .ok (.iadd, 1) := by decide +kernel
theorem dX3_off_13 : decode cX3_off 13 = .ok (.iastore, 1) := by decide +kernel
theorem dX3_off_14 : decode cX3_off 14 = .ok (.ldc 38, 2) := by decide +kernel
theorem dX3_off_16 : decode cX3_off 16 = .ok (.ireturn, 1) := by decide +kernel
theorem dX3_out_0 : decode cX3_out 0 = .ok (.aload_n 0, 1) := by decide +kernel
theorem dX3_out_1 : decode cX3_out 1 = .ok (.getfield 35, 3) := by decide +kernel
theorem dX3_out_4 : decode cX3_out 4 = .ok (.iload_n 1, 1) := by decide +kernel
theorem dX3_out_5 : decode cX3_out 5 = .ok (.aload_n 0, 1) := by decide +kernel
theorem dX3_out_6 : decode cX3_out 6 = .ok (.getfield 35, 3) := by decide +kernel
theorem dX3_out_9 : decode cX3_out 9 = .ok (.iload_n 1, 1) := by decide +kernel
theorem dX3_out_10 : decode cX3_out 10 = .ok (.iaload, 1) := by decide +kernel
theorem dX3_out_11 : decode cX3_out 11 = .ok (.iconst 1, 1) := by decide +kernel
theorem dX3_out_12 : decode cX3_out 12 = .ok (.iadd, 1) := by decide +kernel
theorem dX3_out_13 : decode cX3_out 13 = .ok (.iastore, 1) := by decide +kernel
theorem dX3_out_14 : decode cX3_out 14 = .ok (.ldc 39, 2) := by decide +kernel
theorem dX3_out_16 : decode cX3_out 16 = .ok (.ireturn, 1) := by decide +kernel
theorem dX3_stored_0 : decode cX3_stored 0 = .ok (.iload_n 0, 1) := by decide +kernel
theorem dX3_stored_1 : decode cX3_stored 1 = .ok (.iconst 2, 1) := by decide +kernel
theorem dX3_stored_2 : decode cX3_stored 2 = .ok (.if_icmp .ne 34, 3) := by decide +kernel
theorem dX3_stored_5 : decode cX3_stored 5 = .ok (.lload_n 1, 1) := by decide +kernel
theorem dX3_stored_6 : decode cX3_stored 6 = .ok (.ldc2_w 40, 3) := by decide +kernel
theorem dX3_stored_9 : decode cX3_stored 9 = .ok (.lcmp, 1) := by decide +kernel
theorem dX3_stored_10 : decode cX3_stored 10 = .ok (.ifCond .ge 9, 3) := by decide +kernel
theorem dX3_stored_13 : decode cX3_stored 13 = .ok (.sipush (-8000), 3) := by decide +kernel
theorem dX3_stored_16 : decode cX3_stored 16 = .ok (.goto 19, 3) := by decide +kernel
theorem dX3_stored_19 : decode cX3_stored 19 = .ok (.lload_n 1, 1) := by decide +kernel
theorem dX3_stored_20 : decode cX3_stored 20 = .ok (.ldc2_w 42, 3) := by decide +kernel
theorem dX3_stored_23 : decode cX3_stored 23 = .ok (.lcmp, 1) := by decide +kernel
theorem dX3_stored_24 : decode cX3_stored 24 = .ok (.ifCond .le 9, 3) := by decide +kernel
theorem dX3_stored_27 : decode cX3_stored 27 = .ok (.sipush 8000, 3) := by decide +kernel
theorem dX3_stored_30 : decode cX3_stored 30 = .ok (.goto 5, 3) := by decide +kernel
theorem dX3_stored_33 : decode cX3_stored 33 = .ok (.lload_n 1, 1) := by decide +kernel
theorem dX3_stored_34 : decode cX3_stored 34 = .ok (.l2i, 1) := by decide +kernel
theorem dX3_stored_35 : decode cX3_stored 35 = .ok (.ireturn, 1) := by decide +kernel
theorem dX3_stored_36 : decode cX3_stored 36 = .ok (.lload_n 1, 1) := by decide +kernel
theorem dX3_stored_37 : decode cX3_stored 37 = .ok (.ldc2_w 44, 3) := by decide +kernel
theorem dX3_stored_40 : decode cX3_stored 40 = .ok (.land, 1) := by decide +kernel
theorem dX3_stored_41 : decode cX3_stored 41 = .ok (.l2i, 1) := by decide +kernel
theorem dX3_stored_42 : decode cX3_stored 42 = .ok (.istore_n 3, 1) := by decide +kernel
theorem dX3_stored_43 : decode cX3_stored 43 = .ok (.iload_n 0, 1) := by decide +kernel
theorem dX3_stored_44 : decode cX3_stored 44 = .ok (.ifCond .ne 5, 3) := by decide +kernel
theorem dX3_stored_47 : decode cX3_stored 47 = .ok (.iload_n 3, 1) := by decide +kernel
theorem dX3_stored_48 : decode cX3_stored 48 = .ok (.ireturn, 1) := by decide +kernel
theorem dX3_stored_49 : decode cX3_stored 49 = .ok (.iload_n 0, 1) := by decide +kernel
theorem dX3_stored_50 : decode cX3_stored 50 = .ok (.iconst 1, 1) := by decide +kernel
theorem dX3_stored_51 : decode cX3_stored 51 = .ok (.if_icmp .ne 18, 3) := by decide +kernel
theorem dX3_stored_54 : decode cX3_stored 54 = .ok (.iload_n 3, 1) := by decide +kernel
theorem dX3_stored_55 : decode cX3_stored 55 = .ok (.ldc 46, 2) := by decide +kernel
theorem dX3_stored_57 : decode cX3_stored 57 = .ok (.if_icmp .lt 10, 3) := by decide +kernel
theorem dX3_stored_60 : decode cX3_stored 60 = .ok (.iload_n 3, 1) := by decide +kernel
theorem dX3_stored_61 : decode cX3_stored 61 = .ok (.ldc 47, 2) := by decide +kernel
theorem dX3_stored_63 : decode cX3_stored 63 = .ok (.isub, 1) := by decide +kernel
theorem dX3_stored_64 : decode cX3_stored 64 = .ok (.goto 4, 3) := by decide +kernel
theorem dX3_stored_67 : decode cX3_stored 67 = .ok (.iload_n 3, 1) := by decide +kernel
theorem dX3_stored_68 : decode cX3_stored 68 = .ok (.ireturn, 1) := by decide +kernel
theorem dX3_stored_69 : decode cX3_stored 69 = .ok (.iload_n 0, 1) := by decide +kernel
theorem dX3_stored_70 : decode cX3_stored 70 = .ok (.iconst 3, 1) := by decide +kernel
theorem dX3_stored_71 : decode cX3_stored 71 = .ok (.if_icmp .ne 7, 3) := by decide +kernel
theorem dX3_stored_74 : decode cX3_stored 74 = .ok (.iload_n 3, 1) := by decide +kernel
theorem dX3_stored_75 : decode cX3_stored 75 = .ok (.iconst 2, 1) := by decide +kernel
theorem dX3_stored_76 : decode cX3_stored 76 = .ok (.irem, 1) := by decide +kernel
theorem dX3_stored_77 : decode cX3_stored 77 = .ok (.ireturn, 1) := by decide +kernel
theorem dX3_stored_78 : decode cX3_stored 78 = .ok (.iload_n 3, 1) := by decide +kernel
theorem dX3_stored_79 : decode cX3_stored 79 = .ok (.sipush 256, 3) := by decide +kernel
theorem dX3_stored_82 : decode cX3_stored 82 = .ok (.irem, 1) := by decide +kernel
theorem dX3_stored_83 : decode cX3_stored 83 = .ok (.istore 4, 2) := by decide +kernel
theorem dX3_stored_85 : decode cX3_stored 85 = .ok (.iload 4, 2) := by decide +kernel
theorem dX3_stored_87 : decode cX3_stored 87 = .ok (.sipush 128, 3) := by decide +kernel
theorem dX3_stored_90 : decode cX3_stored 90 = .ok (.if_icmp .lt 12, 3) := by decide +kernel
theorem dX3_stored_93 : decode cX3_stored 93 = .ok (.iload 4, 2) := by decide +kernel
theorem dX3_stored_95 : decode cX3_stored 95 = .ok (.sipush 256, 3) := by decide +kernel
theorem dX3_stored_98 : decode cX3_stored 98 = .ok (.isub, 1) := by decide +kernel
theorem dX3_stored_99 : decode cX3_stored 99 = .ok (.goto 5, 3) := by decide +kernel
theorem dX3_stored_102 : decode cX3_stored 102 = .ok (.iload 4, 2) := by decide +kernel
theorem dX3_stored_104 : decode cX3_stored 104 = .ok (.ireturn, 1) := by decide +kernel
set_option maxRecDepth 20000 in
theorem ggX3_mount_X3_isLane : GoodIn wsX3_mount wsX3_isLane := goodIn_r _ [10] (by decide +kernel) (by decide +kernel)
set_option maxRecDepth 20000 in
theorem gX3_mount_X3_isLane : GoodIn wsX3_mount (va_wsS RX3 48 yX3_isLane wsX3_isLane) := goodIn_app (goodIn_of _ (by decide +kernel)) ggX3_mount_X3_isLane
theorem dX3_mount_0 : decode cX3_mount 0 = .ok (.iload_n 1, 1) := by decide +kernel
theorem dX3_mount_1 : decode cX3_mount 1 = .ok (.invokestatic 48, 3) := by decide +kernel
theorem dX3_mount_4 : decode cX3_mount 4 = .ok (.ifCond .ne 6, 3) := by decide +kernel
theorem dX3_mount_7 : decode cX3_mount 7 = .ok (.ldc 52, 2) := by decide +kernel
theorem dX3_mount_9 : decode cX3_mount 9 = .ok (.ireturn, 1) := by decide +kernel
theorem dX3_mount_10 : decode cX3_mount 10 = .ok (.iload_n 2, 1) := by decide +kernel
theorem dX3_mount_11 : decode cX3_mount 11 = .ok (.bipush 60, 2) := by decide +kernel
theorem dX3_mount_13 : decode cX3_mount 13 = .ok (.if_icmp .le 6, 3) := by decide +kernel
theorem dX3_mount_16 : decode cX3_mount 16 = .ok (.ldc 53, 2) := by decide +kernel
theorem dX3_mount_18 : decode cX3_mount 18 = .ok (.ireturn, 1) := by decide +kernel
theorem dX3_mount_19 : decode cX3_mount 19 = .ok (.iload_n 2, 1) := by decide +kernel
theorem dX3_mount_20 : decode cX3_mount 20 = .ok (.ifCond .ge 6, 3) := by decide +kernel
theorem dX3_mount_23 : decode cX3_mount 23 = .ok (.ldc 54, 2) := by decide +kernel
theorem dX3_mount_25 : decode cX3_mount 25 = .ok (.ireturn, 1) := by decide +kernel
theorem dX3_mount_26 : decode cX3_mount 26 = .ok (.aload_n 0, 1) := by decide +kernel
theorem dX3_mount_27 : decode cX3_mount 27 = .ok (.getfield 16, 3) := by decide +kernel
theorem dX3_mount_30 : decode cX3_mount 30 = .ok (.iload_n 1, 1) := by decide +kernel
theorem dX3_mount_31 : decode cX3_mount 31 = .ok (.iconst 1, 1) := by decide +kernel
theorem dX3_mount_32 : decode cX3_mount 32 = .ok (.bastore, 1) := by decide +kernel
theorem dX3_mount_33 : decode cX3_mount 33 = .ok (.aload_n 0, 1) := by decide +kernel
theorem dX3_mount_34 : decode cX3_mount 34 = .ok (.getfield 13, 3) := by decide +kernel
theorem dX3_mount_37 : decode cX3_mount 37 = .ok (.iload_n 1, 1) := by decide +kernel
theorem dX3_mount_38 : decode cX3_mount 38 = .ok (.iload_n 2, 1) := by decide +kernel
theorem dX3_mount_39 : decode cX3_mount 39 = .ok (.iastore, 1) := by decide +kernel
theorem dX3_mount_40 : decode cX3_mount 40 = .ok (.iconst 0, 1) := by decide +kernel
theorem dX3_mount_41 : decode cX3_mount 41 = .ok (.istore_n 3, 1) := by decide +kernel
theorem dX3_mount_42 : decode cX3_mount 42 = .ok (.iload_n 3, 1) := by decide +kernel
theorem dX3_mount_43 : decode cX3_mount 43 = .ok (.iload_n 2, 1) := by decide +kernel
theorem dX3_mount_44 : decode cX3_mount 44 = .ok (.if_icmp .ge 21, 3) := by decide +kernel
theorem dX3_mount_47 : decode cX3_mount 47 = .ok (.aload_n 0, 1) := by decide +kernel
theorem dX3_mount_48 : decode cX3_mount 48 = .ok (.getfield 7, 3) := by decide +kernel
theorem dX3_mount_51 : decode cX3_mount 51 = .ok (.bipush 60, 2) := by decide +kernel
theorem dX3_mount_53 : decode cX3_mount 53 = .ok (.iload_n 1, 1) := by decide +kernel
theorem dX3_mount_54 : decode cX3_mount 54 = .ok (.imul, 1) := by decide +kernel
theorem dX3_mount_55 : decode cX3_mount 55 = .ok (.iload_n 3, 1) := by decide +kernel
theorem dX3_mount_56 : decode cX3_mount 56 = .ok (.iadd, 1) := by decide +kernel
theorem dX3_mount_57 : decode cX3_mount 57 = .ok (.iconst 0, 1) := by decide +kernel
theorem dX3_mount_58 : decode cX3_mount 58 = .ok (.iastore, 1) := by decide +kernel
theorem dX3_mount_59 : decode cX3_mount 59 = .ok (.iinc 3 1, 3) := by decide +kernel
theorem dX3_mount_62 : decode cX3_mount 62 = .ok (.goto (-20), 3) := by decide +kernel
theorem dX3_mount_65 : decode cX3_mount 65 = .ok (.iload_n 2, 1) := by decide +kernel
theorem dX3_mount_66 : decode cX3_mount 66 = .ok (.ireturn, 1) := by decide +kernel
set_option maxRecDepth 20000 in
theorem ggX3_strip_X3_isLane : GoodIn wsX3_strip wsX3_isLane := goodIn_r _ [7] (by decide +kernel) (by decide +kernel)
set_option maxRecDepth 20000 in
theorem gX3_strip_X3_isLane : GoodIn wsX3_strip (va_wsS RX3 48 yX3_isLane wsX3_isLane) := goodIn_app (goodIn_of _ (by decide +kernel)) ggX3_strip_X3_isLane
set_option maxRecDepth 20000 in
theorem ggX3_strip_X3_off : GoodIn wsX3_strip wsX3_off := goodIn_r _ [11, 12, 13, 14, 15, 16, 17, 18, 19, 20, 21, 22, 23, 24, 25, 26, 27, 28, 29] (by decide +kernel) (by decide +kernel)
set_option maxRecDepth 20000 in
theorem gX3_strip_X3_off : GoodIn wsX3_strip (wsV RX3 55 RX3 yX3_off wsX3_off) := goodIn_app (goodIn_of _ (by decide +kernel)) ggX3_strip_X3_off
theorem dX3_strip_0 : decode cX3_strip 0 = .ok (.iload_n 1, 1) := by decide +kernel
theorem dX3_strip_1 : decode cX3_strip 1 = .ok (.invokestatic 48, 3) := by decide +kernel
theorem dX3_strip_4 : decode cX3_strip 4 = .ok (.ifCond .ne 6, 3) := by decide +kernel
theorem dX3_strip_7 : decode cX3_strip 7 = .ok (.ldc 52, 2) := by decide +kernel
theorem dX3_strip_9 : decode cX3_strip 9 = .ok (.ireturn, 1) := by decide +kernel
theorem dX3_strip_10 : decode cX3_strip 10 = .ok (.aload_n 0, 1) := by decide +kernel
theorem dX3_strip_11 : decode cX3_strip 11 = .ok (.getfield 16, 3) := by decide +kernel
theorem dX3_strip_14 : decode cX3_strip 14 = .ok (.iload_n 1, 1) := by decide +kernel
theorem dX3_strip_15 : decode cX3_strip 15 = .ok (.baload, 1) := by decide +kernel
theorem dX3_strip_16 : decode cX3_strip 16 = .ok (.ifCond .ne 9, 3) := by decide +kernel
theorem dX3_strip_19 : decode cX3_strip 19 = .ok (.aload_n 0, 1) := by decide +kernel
theorem dX3_strip_20 : decode cX3_strip 20 = .ok (.iload_n 1, 1) := by decide +kernel
theorem dX3_strip_21 : decode cX3_strip 21 = .ok (.invokevirtual 55, 3) := by decide +kernel
theorem dX3_strip_24 : decode cX3_strip 24 = .ok (.ireturn, 1) := by decide +kernel
theorem dX3_strip_25 : decode cX3_strip 25 = .ok (.aload_n 0, 1) := by decide +kernel
theorem dX3_strip_26 : decode cX3_strip 26 = .ok (.getfield 16, 3) := by decide +kernel
theorem dX3_strip_29 : decode cX3_strip 29 = .ok (.iload_n 1, 1) := by decide +kernel
theorem dX3_strip_30 : decode cX3_strip 30 = .ok (.iconst 0, 1) := by decide +kernel
theorem dX3_strip_31 : decode cX3_strip 31 = .ok (.bastore, 1) := by decide +kernel
theorem dX3_strip_32 : decode cX3_strip 32 = .ok (.aload_n 0, 1) := by decide +kernel
theorem dX3_strip_33 : decode cX3_strip 33 = .ok (.getfield 13, 3) := by decide +kernel
theorem dX3_strip_36 : decode cX3_strip 36 = .ok (.iload_n 1, 1) := by decide +kernel
theorem dX3_strip_37 : decode cX3_strip 37 = .ok (.iaload, 1) := by decide +kernel
theorem dX3_strip_38 : decode cX3_strip 38 = .ok (.ireturn, 1) := by decide +kernel
set_option maxRecDepth 20000 in
theorem ggX3_size_X3_isLane : GoodIn wsX3_size wsX3_isLane := goodIn_r _ [7] (by decide +kernel) (by decide +kernel)
set_option maxRecDepth 20000 in
theorem gX3_size_X3_isLane : GoodIn wsX3_size (va_wsS RX3 48 yX3_isLane wsX3_isLane) := goodIn_app (goodIn_of _ (by decide +kernel)) ggX3_size_X3_isLane
set_option maxRecDepth 20000 in
theorem ggX3_size_X3_off : GoodIn wsX3_size wsX3_off := goodIn_r _ [11, 12, 13, 14, 15, 16, 17, 18, 19, 20, 21, 22, 23, 24, 25, 26, 27, 28, 29] (by decide +kernel) (by decide +kernel)
set_option maxRecDepth 20000 in
theorem gX3_size_X3_off : GoodIn wsX3_size (wsV RX3 55 RX3 yX3_off wsX3_off) := goodIn_app (goodIn_of _ (by decide +kernel)) ggX3_size_X3_off
theorem dX3_size_0 : decode cX3_size 0 = .ok (.iload_n 1, 1) := by decide +kernel
theorem dX3_size_1 : decode cX3_size 1 = .ok (.invokestatic 48, 3) := by decide +kernel
theorem dX3_size_4 : decode cX3_size 4 = .ok (.ifCond .ne 6, 3) := by decide +kernel
theorem dX3_size_7 : decode cX3_size 7 = .ok (.ldc 52, 2) := by decide +kernel
theorem dX3_size_9 : decode cX3_size 9 = .ok (.ireturn, 1) := by decide +kernel
theorem dX3_size_10 : decode cX3_size 10 = .ok (.aload_n 0, 1) := by decide +kernel
theorem dX3_size_11 : decode cX3_size 11 = .ok (.getfield 16, 3) := by decide +kernel
theorem dX3_size_14 : decode cX3_size 14 = .ok (.iload_n 1, 1) := by decide +kernel
theorem dX3_size_15 : decode cX3_size 15 = .ok (.baload, 1) := by decide +kernel
theorem dX3_size_16 : decode cX3_size 16 = .ok (.ifCond .eq 12, 3) := by decide +kernel
theorem dX3_size_19 : decode cX3_size 19 = .ok (.aload_n 0, 1) := by decide +kernel
theorem dX3_size_20 : decode cX3_size 20 = .ok (.getfield 13, 3) := by decide +kernel
theorem dX3_size_23 : decode cX3_size 23 = .ok (.iload_n 1, 1) := by decide +kernel
theorem dX3_size_24 : decode cX3_size 24 = .ok (.iaload, 1) := by decide +kernel
theorem dX3_size_25 : decode cX3_size 25 = .ok (.goto 8, 3) := by decide +kernel
theorem dX3_size_28 : decode cX3_size 28 = .ok (.aload_n 0, 1) := by decide +kernel
theorem dX3_size_29 : decode cX3_size 29 = .ok (.iload_n 1, 1) := by decide +kernel
theorem dX3_size_30 : decode cX3_size 30 = .ok (.invokevirtual 55, 3) := by decide +kernel
theorem dX3_size_33 : decode cX3_size 33 = .ok (.ireturn, 1) := by decide +kernel
set_option maxRecDepth 20000 in
theorem ggX3_cell_X3_isLane : GoodIn wsX3_cell wsX3_isLane := goodIn_r _ [8] (by decide +kernel) (by decide +kernel)
set_option maxRecDepth 20000 in
theorem gX3_cell_X3_isLane : GoodIn wsX3_cell (va_wsS RX3 48 yX3_isLane wsX3_isLane) := goodIn_app (goodIn_of _ (by decide +kernel)) ggX3_cell_X3_isLane
set_option maxRecDepth 20000 in
theorem ggX3_cell_X3_off : GoodIn wsX3_cell wsX3_off := goodIn_r _ [12, 13, 14, 21, 22, 23, 24, 25, 26, 27, 28, 29, 30, 31, 32, 33, 34, 35, 36] (by decide +kernel) (by decide +kernel)
set_option maxRecDepth 20000 in
theorem gX3_cell_X3_off : GoodIn wsX3_cell (wsV RX3 55 RX3 yX3_off wsX3_off) := goodIn_app (goodIn_of _ (by decide +kernel)) ggX3_cell_X3_off
set_option maxRecDepth 20000 in
theorem ggX3_cell_X3_out : GoodIn wsX3_cell wsX3_out := goodIn_r _ [18, 19, 20, 21, 22, 23, 24, 25, 26, 27, 28, 29, 30, 31, 32, 33, 34, 35, 36] (by decide +kernel) (by decide +kernel)
set_option maxRecDepth 20000 in
theorem gX3_cell_X3_out : GoodIn wsX3_cell (wsV RX3 59 RX3 yX3_out wsX3_out) := goodIn_app (goodIn_of _ (by decide +kernel)) ggX3_cell_X3_out
theorem dX3_cell_0 : decode cX3_cell 0 = .ok (.iload_n 1, 1) := by decide +kernel
theorem dX3_cell_1 : decode cX3_cell 1 = .ok (.invokestatic 48, 3) := by decide +kernel
theorem dX3_cell_4 : decode cX3_cell 4 = .ok (.ifCond .ne 6, 3) := by decide +kernel
theorem dX3_cell_7 : decode cX3_cell 7 = .ok (.ldc 52, 2) := by decide +kernel
theorem dX3_cell_9 : decode cX3_cell 9 = .ok (.ireturn, 1) := by decide +kernel
theorem dX3_cell_10 : decode cX3_cell 10 = .ok (.aload_n 0, 1) := by decide +kernel
theorem dX3_cell_11 : decode cX3_cell 11 = .ok (.getfield 16, 3) := by decide +kernel
theorem dX3_cell_14 : decode cX3_cell 14 = .ok (.iload_n 1, 1) := by decide +kernel
theorem dX3_cell_15 : decode cX3_cell 15 = .ok (.baload, 1) := by decide +kernel
theorem dX3_cell_16 : decode cX3_cell 16 = .ok (.ifCond .ne 9, 3) := by decide +kernel
theorem dX3_cell_19 : decode cX3_cell 19 = .ok (.aload_n 0, 1) := by decide +kernel
theorem dX3_cell_20 : decode cX3_cell 20 = .ok (.iload_n 1, 1) := by decide +kernel
theorem dX3_cell_21 : decode cX3_cell 21 = .ok (.invokevirtual 55, 3) := by decide +kernel
theorem dX3_cell_24 : decode cX3_cell 24 = .ok (.ireturn, 1) := by decide +kernel
theorem dX3_cell_25 : decode cX3_cell 25 = .ok (.iload_n 2, 1) := by decide +kernel
theorem dX3_cell_26 : decode cX3_cell 26 = .ok (.ifCond .lt 13, 3) := by decide +kernel
theorem dX3_cell_29 : decode cX3_cell 29 = .ok (.iload_n 2, 1) := by decide +kernel
theorem dX3_cell_30 : decode cX3_cell 30 = .ok (.aload_n 0, 1) := by decide +kernel
theorem dX3_cell_31 : decode cX3_cell 31 = .ok (.getfield 13, 3) := by decide +kernel
theorem dX3_cell_34 : decode cX3_cell 34 = .ok (.iload_n 1, 1) := by decide +kernel
theorem dX3_cell_35 : decode cX3_cell 35 = .ok (.iaload, 1) := by decide +kernel
theorem dX3_cell_36 : decode cX3_cell 36 = .ok (.if_icmp .lt 9, 3) := by decide +kernel
theorem dX3_cell_39 : decode cX3_cell 39 = .ok (.aload_n 0, 1) := by decide +kernel
theorem dX3_cell_40 : decode cX3_cell 40 = .ok (.iload_n 1, 1) := by decide +kernel
theorem dX3_cell_41 : decode cX3_cell 41 = .ok (.invokevirtual 59, 3) := by decide +kernel
theorem dX3_cell_44 : decode cX3_cell 44 = .ok (.ireturn, 1) := by decide +kernel
theorem dX3_cell_45 : decode cX3_cell 45 = .ok (.aload_n 0, 1) := by decide +kernel
theorem dX3_cell_46 : decode cX3_cell 46 = .ok (.getfield 7, 3) := by decide +kernel
theorem dX3_cell_49 : decode cX3_cell 49 = .ok (.bipush 60, 2) := by decide +kernel
theorem dX3_cell_51 : decode cX3_cell 51 = .ok (.iload_n 1, 1) := by decide +kernel
theorem dX3_cell_52 : decode cX3_cell 52 = .ok (.imul, 1) := by decide +kernel
theorem dX3_cell_53 : decode cX3_cell 53 = .ok (.iload_n 2, 1) := by decide +kernel
theorem dX3_cell_54 : decode cX3_cell 54 = .ok (.iadd, 1) := by decide +kernel
theorem dX3_cell_55 : decode cX3_cell 55 = .ok (.iaload, 1) := by decide +kernel
theorem dX3_cell_56 : decode cX3_cell 56 = .ok (.ireturn, 1) := by decide +kernel
set_option maxRecDepth 20000 in
theorem ggX3_put_X3_isLane : GoodIn wsX3_put wsX3_isLane := goodIn_r _ [8] (by decide +kernel) (by decide +kernel)
set_option maxRecDepth 20000 in
theorem gX3_put_X3_isLane : GoodIn wsX3_put (va_wsS RX3 48 yX3_isLane wsX3_isLane) := goodIn_app (goodIn_of _ (by decide +kernel)) ggX3_put_X3_isLane
set_option maxRecDepth 20000 in
theorem ggX3_put_X3_off : GoodIn wsX3_put wsX3_off := goodIn_r _ [12, 13, 14, 29, 30, 31, 32, 33, 34, 35, 36, 37, 38, 39, 40, 41, 42, 43, 44] (by decide +kernel) (by decide +kernel)
set_option maxRecDepth 20000 in
theorem gX3_put_X3_off : GoodIn wsX3_put (wsV RX3 55 RX3 yX3_off wsX3_off) := goodIn_app (goodIn_of _ (by decide +kernel)) ggX3_put_X3_off
set_option maxRecDepth 20000 in
theorem ggX3_put_X3_out : GoodIn wsX3_put wsX3_out := goodIn_r _ [18, 19, 20, 29, 30, 31, 32, 33, 34, 35, 36, 37, 38, 39, 40, 41, 42, 43, 44] (by decide +kernel) (by decide +kernel)
set_option maxRecDepth 20000 in
theorem gX3_put_X3_out : GoodIn wsX3_put (wsV RX3 59 RX3 yX3_out wsX3_out) := goodIn_app (goodIn_of _ (by decide +kernel)) ggX3_put_X3_out
set_option maxRecDepth 20000 in
theorem ggX3_put_X3_stored : GoodIn wsX3_put wsX3_stored := goodIn_r _ [23, 24, 25, 26, 27, 28] (by decide +kernel) (by decide +kernel)
set_option maxRecDepth 20000 in
theorem gX3_put_X3_stored : GoodIn wsX3_put (va_wsS RX3 62 yX3_stored wsX3_stored) := goodIn_app (goodIn_of _ (by decide +kernel)) ggX3_put_X3_stored
theorem dX3_put_0 : decode cX3_put 0 = .ok (.iload_n 1, 1) := by decide +kernel
theorem dX3_put_1 : decode cX3_put 1 = .ok (.invokestatic 48, 3) := by decide +kernel
theorem dX3_put_4 : decode cX3_put 4 = .ok (.ifCond .ne 6, 3) := by decide +kernel
theorem dX3_put_7 : decode cX3_put 7 = .ok (.ldc 52, 2) := by decide +kernel
theorem dX3_put_9 : decode cX3_put 9 = .ok (.ireturn, 1) := by decide +kernel
theorem dX3_put_10 : decode cX3_put 10 = .ok (.aload_n 0, 1) := by decide +kernel
theorem dX3_put_11 : decode cX3_put 11 = .ok (.getfield 16, 3) := by decide +kernel
theorem dX3_put_14 : decode cX3_put 14 = .ok (.iload_n 1, 1) := by decide +kernel
theorem dX3_put_15 : decode cX3_put 15 = .ok (.baload, 1) := by decide +kernel
theorem dX3_put_16 : decode cX3_put 16 = .ok (.ifCond .ne 9, 3) := by decide +kernel
theorem dX3_put_19 : decode cX3_put 19 = .ok (.aload_n 0, 1) := by decide +kernel
theorem dX3_put_20 : decode cX3_put 20 = .ok (.iload_n 1, 1) := by decide +kernel
theorem dX3_put_21 : decode cX3_put 21 = .ok (.invokevirtual 55, 3) := by decide +kernel
theorem dX3_put_24 : decode cX3_put 24 = .ok (.ireturn, 1) := by decide +kernel
theorem dX3_put_25 : decode cX3_put 25 = .ok (.iload_n 2, 1) := by decide +kernel
theorem dX3_put_26 : decode cX3_put 26 = .ok (.ifCond .lt 13, 3) := by decide +kernel
theorem dX3_put_29 : decode cX3_put 29 = .ok (.iload_n 2, 1) := by decide +kernel
theorem dX3_put_30 : decode cX3_put 30 = .ok (.aload_n 0, 1) := by decide +kernel
theorem dX3_put_31 : decode cX3_put 31 = .ok (.getfield 13, 3) := by decide +kernel
theorem dX3_put_34 : decode cX3_put 34 = .ok (.iload_n 1, 1) := by decide +kernel
theorem dX3_put_35 : decode cX3_put 35 = .ok (.iaload, 1) := by decide +kernel
theorem dX3_put_36 : decode cX3_put 36 = .ok (.if_icmp .lt 9, 3) := by decide +kernel
theorem dX3_put_39 : decode cX3_put 39 = .ok (.aload_n 0, 1) := by decide +kernel
theorem dX3_put_40 : decode cX3_put 40 = .ok (.iload_n 1, 1) := by decide +kernel
theorem dX3_put_41 : decode cX3_put 41 = .ok (.invokevirtual 59, 3) := by decide +kernel
theorem dX3_put_44 : decode cX3_put 44 = .ok (.ireturn, 1) := by decide +kernel
theorem dX3_put_45 : decode cX3_put 45 = .ok (.aload_n 0, 1) := by decide +kernel
theorem dX3_put_46 : decode cX3_put 46 = .ok (.getfield 7, 3) := by decide +kernel
theorem dX3_put_49 : decode cX3_put 49 = .ok (.bipush 60, 2) := by decide +kernel
theorem dX3_put_51 : decode cX3_put 51 = .ok (.iload_n 1, 1) := by decide +kernel
theorem dX3_put_52 : decode cX3_put 52 = .ok (.imul, 1) := by decide +kernel
theorem dX3_put_53 : decode cX3_put 53 = .ok (.iload_n 2, 1) := by decide +kernel
theorem dX3_put_54 : decode cX3_put 54 = .ok (.iadd, 1) := by decide +kernel
theorem dX3_put_55 : decode cX3_put 55 = .ok (.iload_n 1, 1) := by decide +kernel
theorem dX3_put_56 : decode cX3_put 56 = .ok (.iload_n 3, 1) := by decide +kernel
theorem dX3_put_57 : decode cX3_put 57 = .ok (.i2l, 1) := by decide +kernel
theorem dX3_put_58 : decode cX3_put 58 = .ok (.invokestatic 62, 3) := by decide +kernel
theorem dX3_put_61 : decode cX3_put 61 = .ok (.iastore, 1) := by decide +kernel
theorem dX3_put_62 : decode cX3_put 62 = .ok (.aload_n 0, 1) := by decide +kernel
theorem dX3_put_63 : decode cX3_put 63 = .ok (.getfield 7, 3) := by decide +kernel
theorem dX3_put_66 : decode cX3_put 66 = .ok (.bipush 60, 2) := by decide +kernel
theorem dX3_put_68 : decode cX3_put 68 = .ok (.iload_n 1, 1) := by decide +kernel
theorem dX3_put_69 : decode cX3_put 69 = .ok (.imul, 1) := by decide +kernel
theorem dX3_put_70 : decode cX3_put 70 = .ok (.iload_n 2, 1) := by decide +kernel
theorem dX3_put_71 : decode cX3_put 71 = .ok (.iadd, 1) := by decide +kernel
theorem dX3_put_72 : decode cX3_put 72 = .ok (.iaload, 1) := by decide +kernel
theorem dX3_put_73 : decode cX3_put 73 = .ok (.ireturn, 1) := by decide +kernel
theorem dX3_pressed_0 : decode cX3_pressed 0 = .ok (.iload_n 1, 1) := by decide +kernel
theorem dX3_pressed_1 : decode cX3_pressed 1 = .ok (.iconst 1, 1) := by decide +kernel
theorem dX3_pressed_2 : decode cX3_pressed 2 = .ok (.if_icmp .ne 7, 3) := by decide +kernel
theorem dX3_pressed_5 : decode cX3_pressed 5 = .ok (.iconst 1, 1) := by decide +kernel
theorem dX3_pressed_6 : decode cX3_pressed 6 = .ok (.goto 4, 3) := by decide +kernel
theorem dX3_pressed_9 : decode cX3_pressed 9 = .ok (.iconst 0, 1) := by decide +kernel
theorem dX3_pressed_10 : decode cX3_pressed 10 = .ok (.istore_n 3, 1) := by decide +kernel
theorem dX3_pressed_11 : decode cX3_pressed 11 = .ok (.iload_n 2, 1) := by decide +kernel
theorem dX3_pressed_12 : decode cX3_pressed 12 = .ok (.iconst 2, 1) := by decide +kernel
theorem dX3_pressed_13 : decode cX3_pressed 13 = .ok (.irem, 1) := by decide +kernel
theorem dX3_pressed_14 : decode cX3_pressed 14 = .ok (.ifCond .eq 7, 3) := by decide +kernel
theorem dX3_pressed_17 : decode cX3_pressed 17 = .ok (.iconst 1, 1) := by decide +kernel
theorem dX3_pressed_18 : decode cX3_pressed 18 = .ok (.goto 4, 3) := by decide +kernel
theorem dX3_pressed_21 : decode cX3_pressed 21 = .ok (.iconst 0, 1) := by decide +kernel
theorem dX3_pressed_22 : decode cX3_pressed 22 = .ok (.istore 4, 2) := by decide +kernel
theorem dX3_pressed_24 : decode cX3_pressed 24 = .ok (.iload_n 0, 1) := by decide +kernel
theorem dX3_pressed_25 : decode cX3_pressed 25 = .ok (.ifCond .ne 18, 3) := by decide +kernel
theorem dX3_pressed_28 : decode cX3_pressed 28 = .ok (.iload_n 3, 1) := by decide +kernel
theorem dX3_pressed_29 : decode cX3_pressed 29 = .ok (.ifCond .ne 8, 3) := by decide +kernel
theorem dX3_pressed_32 : decode cX3_pressed 32 = .ok (.iload 4, 2) := by decide +kernel
theorem dX3_pressed_34 : decode cX3_pressed 34 = .ok (.ifCond .eq 7, 3) := by decide +kernel
theorem dX3_pressed_37 : decode cX3_pressed 37 = .ok (.iconst 1, 1) := by decide +kernel
theorem dX3_pressed_38 : decode cX3_pressed 38 = .ok (.goto 4, 3) := by decide +kernel
theorem dX3_pressed_41 : decode cX3_pressed 41 = .ok (.iconst 0, 1) := by decide +kernel
theorem dX3_pressed_42 : decode cX3_pressed 42 = .ok (.ireturn, 1) := by decide +kernel
theorem dX3_pressed_43 : decode cX3_pressed 43 = .ok (.iload_n 0, 1) := by decide +kernel
theorem dX3_pressed_44 : decode cX3_pressed 44 = .ok (.iconst 1, 1) := by decide +kernel
theorem dX3_pressed_45 : decode cX3_pressed 45 = .ok (.if_icmp .ne 18, 3) := by decide +kernel
theorem dX3_pressed_48 : decode cX3_pressed 48 = .ok (.iload_n 3, 1) := by decide +kernel
theorem dX3_pressed_49 : decode cX3_pressed 49 = .ok (.ifCond .eq 12, 3) := by decide +kernel
theorem dX3_pressed_52 : decode cX3_pressed 52 = .ok (.iload 4, 2) := by decide +kernel
theorem dX3_pressed_54 : decode cX3_pressed 54 = .ok (.ifCond .eq 7, 3) := by decide +kernel
theorem dX3_pressed_57 : decode cX3_pressed 57 = .ok (.iconst 1, 1) := by decide +kernel
theorem dX3_pressed_58 : decode cX3_pressed 58 = .ok (.goto 4, 3) := by decide +kernel
theorem dX3_pressed_61 : decode cX3_pressed 61 = .ok (.iconst 0, 1) := by decide +kernel
theorem dX3_pressed_62 : decode cX3_pressed 62 = .ok (.ireturn, 1) := by decide +kernel
theorem dX3_pressed_63 : decode cX3_pressed 63 = .ok (.iload_n 0, 1) := by decide +kernel
theorem dX3_pressed_64 : decode cX3_pressed 64 = .ok (.iconst 2, 1) := by decide +kernel
theorem dX3_pressed_65 : decode cX3_pressed 65 = .ok (.if_icmp .ne 15, 3) := by decide +kernel
theorem dX3_pressed_68 : decode cX3_pressed 68 = .ok (.iload_n 3, 1) := by decide +kernel
theorem dX3_pressed_69 : decode cX3_pressed 69 = .ok (.iload 4, 2) := by decide +kernel
theorem dX3_pressed_71 : decode cX3_pressed 71 = .ok (.if_icmp .eq 7, 3) := by decide +kernel
theorem dX3_pressed_74 : decode cX3_pressed 74 = .ok (.iconst 1, 1) := by decide +kernel
theorem dX3_pressed_75 : decode cX3_pressed 75 = .ok (.goto 4, 3) := by decide +kernel
theorem dX3_pressed_78 : decode cX3_pressed 78 = .ok (.iconst 0, 1) := by decide +kernel
theorem dX3_pressed_79 : decode cX3_pressed 79 = .ok (.ireturn, 1) := by decide +kernel
theorem dX3_pressed_80 : decode cX3_pressed 80 = .ok (.iload_n 3, 1) := by decide +kernel
theorem dX3_pressed_81 : decode cX3_pressed 81 = .ok (.ifCond .eq 7, 3) := by decide +kernel
theorem dX3_pressed_84 : decode cX3_pressed 84 = .ok (.iconst 0, 1) := by decide +kernel
theorem dX3_pressed_85 : decode cX3_pressed 85 = .ok (.goto 4, 3) := by decide +kernel
theorem dX3_pressed_88 : decode cX3_pressed 88 = .ok (.iconst 1, 1) := by decide +kernel
theorem dX3_pressed_89 : decode cX3_pressed 89 = .ok (.ireturn, 1) := by decide +kernel
set_option maxRecDepth 20000 in
theorem ggX3_change_X3_isLane : GoodIn wsX3_change wsX3_isLane := goodIn_r _ [9] (by decide +kernel) (by decide +kernel)
set_option maxRecDepth 20000 in
theorem gX3_change_X3_isLane : GoodIn wsX3_change (va_wsS RX3 48 yX3_isLane wsX3_isLane) := goodIn_app (goodIn_of _ (by decide +kernel)) ggX3_change_X3_isLane
set_option maxRecDepth 20000 in
theorem ggX3_change_X3_off : GoodIn wsX3_change wsX3_off := goodIn_r _ [13, 14, 15, 33, 34, 35, 36, 37, 38, 39, 40, 41, 42, 43, 44, 45, 46, 47, 48] (by decide +kernel) (by decide +kernel)
set_option maxRecDepth 20000 in
theorem gX3_change_X3_off : GoodIn wsX3_change (wsV RX3 55 RX3 yX3_off wsX3_off) := goodIn_app (goodIn_of _ (by decide +kernel)) ggX3_change_X3_off
set_option maxRecDepth 20000 in
theorem ggX3_change_X3_out : GoodIn wsX3_change wsX3_out := goodIn_r _ [19, 20, 21, 33, 34, 35, 36, 37, 38, 39, 40, 41, 42, 43, 44, 45, 46, 47, 48] (by decide +kernel) (by decide +kernel)
set_option maxRecDepth 20000 in
theorem gX3_change_X3_out : GoodIn wsX3_change (wsV RX3 59 RX3 yX3_out wsX3_out) := goodIn_app (goodIn_of _ (by decide +kernel)) ggX3_change_X3_out
set_option maxRecDepth 20000 in
theorem ggX3_change_X3_pressed : GoodIn wsX3_change wsX3_pressed := goodIn_r _ [24] (by decide +kernel) (by decide +kernel)
set_option maxRecDepth 20000 in
theorem gX3_change_X3_pressed : GoodIn wsX3_change (va_wsS RX3 67 yX3_pressed wsX3_pressed) := goodIn_app (goodIn_of _ (by decide +kernel)) ggX3_change_X3_pressed
set_option maxRecDepth 20000 in
theorem ggX3_change_X3_stored : GoodIn wsX3_change wsX3_stored := goodIn_r _ [27, 28, 29, 30, 31, 32] (by decide +kernel) (by decide +kernel)
set_option maxRecDepth 20000 in
theorem gX3_change_X3_stored : GoodIn wsX3_change (va_wsS RX3 62 yX3_stored wsX3_stored) := goodIn_app (goodIn_of _ (by decide +kernel)) ggX3_change_X3_stored
theorem dX3_change_0 : decode cX3_change 0 = .ok (.iload_n 1, 1) := by decide +kernel
theorem dX3_change_1 : decode cX3_change 1 = .ok (.invokestatic 48, 3) := by decide +kernel
theorem dX3_change_4 : decode cX3_change 4 = .ok (.ifCond .ne 6, 3) := by decide +kernel
theorem dX3_change_7 : decode cX3_change 7 = .ok (.ldc 52, 2) := by decide +kernel
theorem dX3_change_9 : decode cX3_change 9 = .ok (.ireturn, 1) := by decide +kernel
theorem dX3_change_10 : decode cX3_change 10 = .ok (.iload_n 2, 1) := by decide +kernel
theorem dX3_change_11 : decode cX3_change 11 = .ok (.ifCond .lt 8, 3) := by decide +kernel
theorem dX3_change_14 : decode cX3_change 14 = .ok (.iload_n 2, 1) := by decide +kernel
theorem dX3_change_15 : decode cX3_change 15 = .ok (.iconst 3, 1) := by decide +kernel
theorem dX3_change_16 : decode cX3_change 16 = .ok (.if_icmp .le 6, 3) := by decide +kernel
theorem dX3_change_19 : decode cX3_change 19 = .ok (.ldc 66, 2) := by decide +kernel
theorem dX3_change_21 : decode cX3_change 21 = .ok (.ireturn, 1) := by decide +kernel
theorem dX3_change_22 : decode cX3_change 22 = .ok (.aload_n 0, 1) := by decide +kernel
theorem dX3_change_23 : decode cX3_change 23 = .ok (.getfield 16, 3) := by decide +kernel
theorem dX3_change_26 : decode cX3_change 26 = .ok (.iload_n 1, 1) := by decide +kernel
theorem dX3_change_27 : decode cX3_change 27 = .ok (.baload, 1) := by decide +kernel
theorem dX3_change_28 : decode cX3_change 28 = .ok (.ifCond .ne 9, 3) := by decide +kernel
theorem dX3_change_31 : decode cX3_change 31 = .ok (.aload_n 0, 1) := by decide +kernel
theorem dX3_change_32 : decode cX3_change 32 = .ok (.iload_n 1, 1) := by decide +kernel
theorem dX3_change_33 : decode cX3_change 33 = .ok (.invokevirtual 55, 3) := by decide +kernel
theorem dX3_change_36 : decode cX3_change 36 = .ok (.ireturn, 1) := by decide +kernel
theorem dX3_change_37 : decode cX3_change 37 = .ok (.iload_n 3, 1) := by decide +kernel
theorem dX3_change_38 : decode cX3_change 38 = .ok (.ifCond .lt 13, 3) := by decide +kernel
theorem dX3_change_41 : decode cX3_change 41 = .ok (.iload_n 3, 1) := by decide +kernel
theorem dX3_change_42 : decode cX3_change 42 = .ok (.aload_n 0, 1) := by decide +kernel
theorem dX3_change_43 : decode cX3_change 43 = .ok (.getfield 13, 3) := by decide +kernel
theorem dX3_change_46 : decode cX3_change 46 = .ok (.iload_n 1, 1) := by decide +kernel
theorem dX3_change_47 : decode cX3_change 47 = .ok (.iaload, 1) := by decide +kernel
theorem dX3_change_48 : decode cX3_change 48 = .ok (.if_icmp .lt 9, 3) := by decide +kernel
theorem dX3_change_51 : decode cX3_change 51 = .ok (.aload_n 0, 1) := by decide +kernel
theorem dX3_change_52 : decode cX3_change 52 = .ok (.iload_n 1, 1) := by decide +kernel
theorem dX3_change_53 : decode cX3_change 53 = .ok (.invokevirtual 59, 3) := by decide +kernel
theorem dX3_change_56 : decode cX3_change 56 = .ok (.ireturn, 1) := by decide +kernel
theorem dX3_change_57 : decode cX3_change 57 = .ok (.bipush 60, 2) := by decide +kernel
theorem dX3_change_59 : decode cX3_change 59 = .ok (.iload_n 1, 1) := by decide +kernel
theorem dX3_change_60 : decode cX3_change 60 = .ok (.imul, 1) := by decide +kernel
theorem dX3_change_61 : decode cX3_change 61 = .ok (.iload_n 3, 1) := by decide +kernel
theorem dX3_change_62 : decode cX3_change 62 = .ok (.iadd, 1) := by decide +kernel
theorem dX3_change_63 : decode cX3_change 63 = .ok (.istore 5, 2) := by decide +kernel
theorem dX3_change_65 : decode cX3_change 65 = .ok (.aload_n 0, 1) := by decide +kernel
theorem dX3_change_66 : decode cX3_change 66 = .ok (.getfield 7, 3) := by decide +kernel
theorem dX3_change_69 : decode cX3_change 69 = .ok (.iload 5, 2) := by decide +kernel
theorem dX3_change_71 : decode cX3_change 71 = .ok (.iaload, 1) := by decide +kernel
theorem dX3_change_72 : decode cX3_change 72 = .ok (.i2l, 1) := by decide +kernel
theorem dX3_change_73 : decode cX3_change 73 = .ok (.lstore 6, 2) := by decide +kernel
theorem dX3_change_75 : decode cX3_change 75 = .ok (.iload_n 2, 1) := by decide +kernel
theorem dX3_change_76 : decode cX3_change 76 = .ok (.ifCond .ne 12, 3) := by decide +kernel
theorem dX3_change_79 : decode cX3_change 79 = .ok (.lload 6, 2) := by decide +kernel
theorem dX3_change_81 : decode cX3_change 81 = .ok (.iload 4, 2) := by decide +kernel
theorem dX3_change_83 : decode cX3_change 83 = .ok (.i2l, 1) := by decide +kernel
theorem dX3_change_84 : decode cX3_change 84 = .ok (.ladd, 1) := by decide +kernel
theorem dX3_change_85 : decode cX3_change 85 = .ok (.goto 35, 3) := by decide +kernel
theorem dX3_change_88 : decode cX3_change 88 = .ok (.iload_n 2, 1) := by decide +kernel
theorem dX3_change_89 : decode cX3_change 89 = .ok (.iconst 1, 1) := by decide +kernel
theorem dX3_change_90 : decode cX3_change 90 = .ok (.if_icmp .ne 12, 3) := by decide +kernel
theorem dX3_change_93 : decode cX3_change 93 = .ok (.lload 6, 2) := by decide +kernel
theorem dX3_change_95 : decode cX3_change 95 = .ok (.iload 4, 2) := by decide +kernel
theorem dX3_change_97 : decode cX3_change 97 = .ok (.i2l, 1) := by decide +kernel
theorem dX3_change_98 : decode cX3_change 98 = .ok (.lsub, 1) := by decide +kernel
theorem dX3_change_99 : decode cX3_change 99 = .ok (.goto 21, 3) := by decide +kernel
theorem dX3_change_102 : decode cX3_change 102 = .ok (.iload_n 2, 1) := by decide +kernel
theorem dX3_change_103 : decode cX3_change 103 = .ok (.iconst 2, 1) := by decide +kernel
theorem dX3_change_104 : decode cX3_change 104 = .ok (.if_icmp .ne 12, 3) := by decide +kernel
theorem dX3_change_107 : decode cX3_change 107 = .ok (.lload 6, 2) := by decide +kernel
theorem dX3_change_109 : decode cX3_change 109 = .ok (.iload 4, 2) := by decide +kernel
theorem dX3_change_111 : decode cX3_change 111 = .ok (.i2l, 1) := by decide +kernel
theorem dX3_change_112 : decode cX3_change 112 = .ok (.lmul, 1) := by decide +kernel
theorem dX3_change_113 : decode cX3_change 113 = .ok (.goto 7, 3) := by decide +kernel
theorem dX3_change_116 : decode cX3_change 116 = .ok (.lload 6, 2) := by decide +kernel
theorem dX3_change_118 : decode cX3_change 118 = .ok (.lconst 1, 1) := by decide +kernel
theorem dX3_change_119 : decode cX3_change 119 = .ok (.ladd, 1) := by decide +kernel
theorem dX3_change_120 : decode cX3_change 120 = .ok (.lstore 8, 2) := by decide +kernel
theorem dX3_change_122 : decode cX3_change 122 = .ok (.aload_n 0, 1) := by decide +kernel
theorem dX3_change_123 : decode cX3_change 123 = .ok (.getfield 7, 3) := by decide +kernel
theorem dX3_change_126 : decode cX3_change 126 = .ok (.iload 5, 2) := by decide +kernel
theorem dX3_change_128 : decode cX3_change 128 = .ok (.iload_n 1, 1) := by decide +kernel
theorem dX3_change_129 : decode cX3_change 129 = .ok (.iconst 3, 1) := by decide +kernel
theorem dX3_change_130 : decode cX3_change 130 = .ok (.if_icmp .ne 15, 3) := by decide +kernel
theorem dX3_change_133 : decode cX3_change 133 = .ok (.iload_n 2, 1) := by decide +kernel
theorem dX3_change_134 : decode cX3_change 134 = .ok (.lload 6, 2) := by decide +kernel
theorem dX3_change_136 : decode cX3_change 136 = .ok (.l2i, 1) := by decide +kernel
theorem dX3_change_137 : decode cX3_change 137 = .ok (.iload 4, 2) := by decide +kernel
theorem dX3_change_139 : decode cX3_change 139 = .ok (.invokestatic 67, 3) := by decide +kernel
theorem dX3_change_142 : decode cX3_change 142 = .ok (.goto 9, 3) := by decide +kernel
theorem dX3_change_145 : decode cX3_change 145 = .ok (.iload_n 1, 1) := by decide +kernel
theorem dX3_change_146 : decode cX3_change 146 = .ok (.lload 8, 2) := by decide +kernel
theorem dX3_change_148 : decode cX3_change 148 = .ok (.invokestatic 62, 3) := by decide +kernel
theorem dX3_change_151 : decode cX3_change 151 = .ok (.iastore, 1) := by decide +kernel
theorem dX3_change_152 : decode cX3_change 152 = .ok (.aload_n 0, 1) := by decide +kernel
theorem dX3_change_153 : decode cX3_change 153 = .ok (.getfield 7, 3) := by decide +kernel
theorem dX3_change_156 : decode cX3_change 156 = .ok (.iload 5, 2) := by decide +kernel
theorem dX3_change_158 : decode cX3_change 158 = .ok (.iaload, 1) := by decide +kernel
theorem dX3_change_159 : decode cX3_change 159 = .ok (.ireturn, 1) := by decide +kernel
set_option maxRecDepth 20000 in
theorem ggX3_rule_X3_isLane : GoodIn wsX3_rule wsX3_isLane := goodIn_r _ [11] (by decide +kernel) (by decide +kernel)
set_option maxRecDepth 20000 in
theorem gX3_rule_X3_isLane : GoodIn wsX3_rule (va_wsS RX3 48 yX3_isLane wsX3_isLane) := goodIn_app (goodIn_of _ (by decide +kernel)) ggX3_rule_X3_isLane
theorem dX3_rule_0 : decode cX3_rule 0 = .ok (.iload_n 1, 1) := by decide +kernel
theorem dX3_rule_1 : decode cX3_rule 1 = .ok (.invokestatic 48, 3) := by decide +kernel
theorem dX3_rule_4 : decode cX3_rule 4 = .ok (.ifCond .ne 6, 3) := by decide +kernel
theorem dX3_rule_7 : decode cX3_rule 7 = .ok (.ldc 52, 2) := by decide +kernel
theorem dX3_rule_9 : decode cX3_rule 9 = .ok (.ireturn, 1) := by decide +kernel
theorem dX3_rule_10 : decode cX3_rule 10 = .ok (.iload_n 2, 1) := by decide +kernel
theorem dX3_rule_11 : decode cX3_rule 11 = .ok (.bipush 16, 2) := by decide +kernel
theorem dX3_rule_13 : decode cX3_rule 13 = .ok (.if_icmp .gt 9, 3) := by decide +kernel
theorem dX3_rule_16 : decode cX3_rule 16 = .ok (.iload_n 3, 1) := by decide +kernel
theorem dX3_rule_17 : decode cX3_rule 17 = .ok (.bipush 16, 2) := by decide +kernel
theorem dX3_rule_19 : decode cX3_rule 19 = .ok (.if_icmp .le 6, 3) := by decide +kernel
theorem dX3_rule_22 : decode cX3_rule 22 = .ok (.ldc 53, 2) := by decide +kernel
theorem dX3_rule_24 : decode cX3_rule 24 = .ok (.ireturn, 1) := by decide +kernel
theorem dX3_rule_25 : decode cX3_rule 25 = .ok (.iload_n 2, 1) := by decide +kernel
theorem dX3_rule_26 : decode cX3_rule 26 = .ok (.ifCond .lt 7, 3) := by decide +kernel
theorem dX3_rule_29 : decode cX3_rule 29 = .ok (.iload_n 3, 1) := by decide +kernel
theorem dX3_rule_30 : decode cX3_rule 30 = .ok (.ifCond .ge 6, 3) := by decide +kernel
theorem dX3_rule_33 : decode cX3_rule 33 = .ok (.ldc 54, 2) := by decide +kernel
theorem dX3_rule_35 : decode cX3_rule 35 = .ok (.ireturn, 1) := by decide +kernel
theorem dX3_rule_36 : decode cX3_rule 36 = .ok (.aload_n 0, 1) := by decide +kernel
theorem dX3_rule_37 : decode cX3_rule 37 = .ok (.getfield 29, 3) := by decide +kernel
theorem dX3_rule_40 : decode cX3_rule 40 = .ok (.iload_n 1, 1) := by decide +kernel
theorem dX3_rule_41 : decode cX3_rule 41 = .ok (.iconst 1, 1) := by decide +kernel
theorem dX3_rule_42 : decode cX3_rule 42 = .ok (.bastore, 1) := by decide +kernel
theorem dX3_rule_43 : decode cX3_rule 43 = .ok (.aload_n 0, 1) := by decide +kernel
theorem dX3_rule_44 : decode cX3_rule 44 = .ok (.getfield 23, 3) := by decide +kernel
theorem dX3_rule_47 : decode cX3_rule 47 = .ok (.iload_n 1, 1) := by decide +kernel
theorem dX3_rule_48 : decode cX3_rule 48 = .ok (.iload_n 2, 1) := by decide +kernel
theorem dX3_rule_49 : decode cX3_rule 49 = .ok (.iastore, 1) := by decide +kernel
theorem dX3_rule_50 : decode cX3_rule 50 = .ok (.aload_n 0, 1) := by decide +kernel
theorem dX3_rule_51 : decode cX3_rule 51 = .ok (.getfield 26, 3) := by decide +kernel
theorem dX3_rule_54 : decode cX3_rule 54 = .ok (.iload_n 1, 1) := by decide +kernel
theorem dX3_rule_55 : decode cX3_rule 55 = .ok (.iload_n 3, 1) := by decide +kernel
theorem dX3_rule_56 : decode cX3_rule 56 = .ok (.iastore, 1) := by decide +kernel
theorem dX3_rule_57 : decode cX3_rule 57 = .ok (.iconst 0, 1) := by decide +kernel
theorem dX3_rule_58 : decode cX3_rule 58 = .ok (.istore 4, 2) := by decide +kernel
theorem dX3_rule_60 : decode cX3_rule 60 = .ok (.iload 4, 2) := by decide +kernel
theorem dX3_rule_62 : decode cX3_rule 62 = .ok (.sipush 256, 3) := by decide +kernel
theorem dX3_rule_65 : decode cX3_rule 65 = .ok (.if_icmp .ge 23, 3) := by decide +kernel
theorem dX3_rule_68 : decode cX3_rule 68 = .ok (.aload_n 0, 1) := by decide +kernel
theorem dX3_rule_69 : decode cX3_rule 69 = .ok (.getfield 20, 3) := by decide +kernel
theorem dX3_rule_72 : decode cX3_rule 72 = .ok (.sipush 256, 3) := by decide +kernel
theorem dX3_rule_75 : decode cX3_rule 75 = .ok (.iload_n 1, 1) := by decide +kernel
theorem dX3_rule_76 : decode cX3_rule 76 = .ok (.imul, 1) := by decide +kernel
theorem dX3_rule_77 : decode cX3_rule 77 = .ok (.iload 4, 2) := by decide +kernel
theorem dX3_rule_79 : decode cX3_rule 79 = .ok (.iadd, 1) := by decide +kernel
theorem dX3_rule_80 : decode cX3_rule 80 = .ok (.iconst 0, 1) := by decide +kernel
theorem dX3_rule_81 : decode cX3_rule 81 = .ok (.iastore, 1) := by decide +kernel
theorem dX3_rule_82 : decode cX3_rule 82 = .ok (.iinc 4 1, 3) := by decide +kernel
theorem dX3_rule_85 : decode cX3_rule 85 = .ok (.goto (-25), 3) := by decide +kernel
theorem dX3_rule_88 : decode cX3_rule 88 = .ok (.iload_n 2, 1) := by decide +kernel
theorem dX3_rule_89 : decode cX3_rule 89 = .ok (.iload_n 3, 1) := by decide +kernel
theorem dX3_rule_90 : decode cX3_rule 90 = .ok (.imul, 1) := by decide +kernel
theorem dX3_rule_91 : decode cX3_rule 91 = .ok (.ireturn, 1) := by decide +kernel
set_option maxRecDepth 20000 in
theorem ggX3_lay_X3_isLane : GoodIn wsX3_lay wsX3_isLane := goodIn_r _ [14] (by decide +kernel) (by decide +kernel)
set_option maxRecDepth 20000 in
theorem gX3_lay_X3_isLane : GoodIn wsX3_lay (va_wsS RX3 48 yX3_isLane wsX3_isLane) := goodIn_app (goodIn_of _ (by decide +kernel)) ggX3_lay_X3_isLane
set_option maxRecDepth 20000 in
theorem ggX3_lay_X3_off : GoodIn wsX3_lay wsX3_off := goodIn_r _ [18, 19, 20, 27, 28, 29, 30, 31, 32, 33, 34, 35, 36, 37, 38, 39, 40, 41, 42] (by decide +kernel) (by decide +kernel)
set_option maxRecDepth 20000 in
theorem gX3_lay_X3_off : GoodIn wsX3_lay (wsV RX3 55 RX3 yX3_off wsX3_off) := goodIn_app (goodIn_of _ (by decide +kernel)) ggX3_lay_X3_off
set_option maxRecDepth 20000 in
theorem ggX3_lay_X3_out : GoodIn wsX3_lay wsX3_out := goodIn_r _ [24, 25, 26, 27, 28, 29, 30, 31, 32, 33, 34, 35, 36, 37, 38, 39, 40, 41, 42] (by decide +kernel) (by decide +kernel)
set_option maxRecDepth 20000 in
theorem gX3_lay_X3_out : GoodIn wsX3_lay (wsV RX3 59 RX3 yX3_out wsX3_out) := goodIn_app (goodIn_of _ (by decide +kernel)) ggX3_lay_X3_out
theorem dX3_lay_0 : decode cX3_lay 0 = .ok (.iload_n 1, 1) := by decide +kernel
theorem dX3_lay_1 : decode cX3_lay 1 = .ok (.invokestatic 48, 3) := by decide +kernel
theorem dX3_lay_4 : decode cX3_lay 4 = .ok (.ifCond .ne 6, 3) := by decide +kernel
theorem dX3_lay_7 : decode cX3_lay 7 = .ok (.ldc 52, 2) := by decide +kernel
theorem dX3_lay_9 : decode cX3_lay 9 = .ok (.ireturn, 1) := by decide +kernel
theorem dX3_lay_10 : decode cX3_lay 10 = .ok (.aload_n 0, 1) := by decide +kernel
theorem dX3_lay_11 : decode cX3_lay 11 = .ok (.getfield 29, 3) := by decide +kernel
theorem dX3_lay_14 : decode cX3_lay 14 = .ok (.iload_n 1, 1) := by decide +kernel
theorem dX3_lay_15 : decode cX3_lay 15 = .ok (.baload, 1) := by decide +kernel
theorem dX3_lay_16 : decode cX3_lay 16 = .ok (.ifCond .ne 6, 3) := by decide +kernel
theorem dX3_lay_19 : decode cX3_lay 19 = .ok (.ldc 71, 2) := by decide +kernel
theorem dX3_lay_21 : decode cX3_lay 21 = .ok (.ireturn, 1) := by decide +kernel
theorem dX3_lay_22 : decode cX3_lay 22 = .ok (.iload_n 2, 1) := by decide +kernel
theorem dX3_lay_23 : decode cX3_lay 23 = .ok (.ifCond .lt 13, 3) := by decide +kernel
theorem dX3_lay_26 : decode cX3_lay 26 = .ok (.iload_n 2, 1) := by decide +kernel
theorem dX3_lay_27 : decode cX3_lay 27 = .ok (.aload_n 0, 1) := by decide +kernel
theorem dX3_lay_28 : decode cX3_lay 28 = .ok (.getfield 23, 3) := by decide +kernel
theorem dX3_lay_31 : decode cX3_lay 31 = .ok (.iload_n 1, 1) := by decide +kernel
theorem dX3_lay_32 : decode cX3_lay 32 = .ok (.iaload, 1) := by decide +kernel
theorem dX3_lay_33 : decode cX3_lay 33 = .ok (.if_icmp .lt 6, 3) := by decide +kernel
theorem dX3_lay_36 : decode cX3_lay 36 = .ok (.ldc 72, 2) := by decide +kernel
theorem dX3_lay_38 : decode cX3_lay 38 = .ok (.ireturn, 1) := by decide +kernel
theorem dX3_lay_39 : decode cX3_lay 39 = .ok (.aload_n 0, 1) := by decide +kernel
theorem dX3_lay_40 : decode cX3_lay 40 = .ok (.getfield 16, 3) := by decide +kernel
theorem dX3_lay_43 : decode cX3_lay 43 = .ok (.iload_n 1, 1) := by decide +kernel
theorem dX3_lay_44 : decode cX3_lay 44 = .ok (.baload, 1) := by decide +kernel
theorem dX3_lay_45 : decode cX3_lay 45 = .ok (.ifCond .ne 9, 3) := by decide +kernel
theorem dX3_lay_48 : decode cX3_lay 48 = .ok (.aload_n 0, 1) := by decide +kernel
theorem dX3_lay_49 : decode cX3_lay 49 = .ok (.iload_n 1, 1) := by decide +kernel
theorem dX3_lay_50 : decode cX3_lay 50 = .ok (.invokevirtual 55, 3) := by decide +kernel
theorem dX3_lay_53 : decode cX3_lay 53 = .ok (.ireturn, 1) := by decide +kernel
theorem dX3_lay_54 : decode cX3_lay 54 = .ok (.iload_n 3, 1) := by decide +kernel
theorem dX3_lay_55 : decode cX3_lay 55 = .ok (.ifCond .lt 13, 3) := by decide +kernel
theorem dX3_lay_58 : decode cX3_lay 58 = .ok (.iload_n 3, 1) := by decide +kernel
theorem dX3_lay_59 : decode cX3_lay 59 = .ok (.aload_n 0, 1) := by decide +kernel
theorem dX3_lay_60 : decode cX3_lay 60 = .ok (.getfield 13, 3) := by decide +kernel
theorem dX3_lay_63 : decode cX3_lay 63 = .ok (.iload_n 1, 1) := by decide +kernel
theorem dX3_lay_64 : decode cX3_lay 64 = .ok (.iaload, 1) := by decide +kernel
theorem dX3_lay_65 : decode cX3_lay 65 = .ok (.if_icmp .le 9, 3) := by decide +kernel
theorem dX3_lay_68 : decode cX3_lay 68 = .ok (.aload_n 0, 1) := by decide +kernel
theorem dX3_lay_69 : decode cX3_lay 69 = .ok (.iload_n 1, 1) := by decide +kernel
theorem dX3_lay_70 : decode cX3_lay 70 = .ok (.invokevirtual 59, 3) := by decide +kernel
theorem dX3_lay_73 : decode cX3_lay 73 = .ok (.ireturn, 1) := by decide +kernel
theorem dX3_lay_74 : decode cX3_lay 74 = .ok (.iconst 0, 1) := by decide +kernel
theorem dX3_lay_75 : decode cX3_lay 75 = .ok (.istore 4, 2) := by decide +kernel
theorem dX3_lay_77 : decode cX3_lay 77 = .ok (.iload 4, 2) := by decide +kernel
theorem dX3_lay_79 : decode cX3_lay 79 = .ok (.aload_n 0, 1) := by decide +kernel
theorem dX3_lay_80 : decode cX3_lay 80 = .ok (.getfield 26, 3) := by decide +kernel
theorem dX3_lay_83 : decode cX3_lay 83 = .ok (.iload_n 1, 1) := by decide +kernel
theorem dX3_lay_84 : decode cX3_lay 84 = .ok (.iaload, 1) := by decide +kernel
theorem dX3_lay_85 : decode cX3_lay 85 = .ok (.if_icmp .ge 54, 3) := by decide +kernel
theorem dX3_lay_88 : decode cX3_lay 88 = .ok (.iload_n 3, 1) := by decide +kernel
theorem dX3_lay_89 : decode cX3_lay 89 = .ok (.iload 4, 2) := by decide +kernel
theorem dX3_lay_91 : decode cX3_lay 91 = .ok (.iadd, 1) := by decide +kernel
theorem dX3_lay_92 : decode cX3_lay 92 = .ok (.aload_n 0, 1) := by decide +kernel
theorem dX3_lay_93 : decode cX3_lay 93 = .ok (.getfield 13, 3) := by decide +kernel
theorem dX3_lay_96 : decode cX3_lay 96 = .ok (.iload_n 1, 1) := by decide +kernel
theorem dX3_lay_97 : decode cX3_lay 97 = .ok (.iaload, 1) := by decide +kernel
theorem dX3_lay_98 : decode cX3_lay 98 = .ok (.if_icmp .ge 41, 3) := by decide +kernel
theorem dX3_lay_101 : decode cX3_lay 101 = .ok (.aload_n 0, 1) := by decide +kernel
theorem dX3_lay_102 : decode cX3_lay 102 = .ok (.getfield 20, 3) := by decide +kernel
theorem dX3_lay_105 : decode cX3_lay 105 = .ok (.sipush 256, 3) := by decide +kernel
theorem dX3_lay_108 : decode cX3_lay 108 = .ok (.iload_n 1, 1) := by decide +kernel
theorem dX3_lay_109 : decode cX3_lay 109 = .ok (.imul, 1) := by decide +kernel
theorem dX3_lay_110 : decode cX3_lay 110 = .ok (.bipush 16, 2) := by decide +kernel
theorem dX3_lay_112 : decode cX3_lay 112 = .ok (.iload_n 2, 1) := by decide +kernel
theorem dX3_lay_113 : decode cX3_lay 113 = .ok (.imul, 1) := by decide +kernel
theorem dX3_lay_114 : decode cX3_lay 114 = .ok (.iadd, 1) := by decide +kernel
theorem dX3_lay_115 : decode cX3_lay 115 = .ok (.iload 4, 2) := by decide +kernel
theorem dX3_lay_117 : decode cX3_lay 117 = .ok (.iadd, 1) := by decide +kernel
theorem dX3_lay_118 : decode cX3_lay 118 = .ok (.aload_n 0, 1) := by decide +kernel
theorem dX3_lay_119 : decode cX3_lay 119 = .ok (.getfield 7, 3) := by decide +kernel
theorem dX3_lay_122 : decode cX3_lay 122 = .ok (.bipush 60, 2) := by decide +kernel
theorem dX3_lay_124 : decode cX3_lay 124 = .ok (.iload_n 1, 1) := by decide +kernel
theorem dX3_lay_125 : decode cX3_lay 125 = .ok (.imul, 1) := by decide +kernel
theorem dX3_lay_126 : decode cX3_lay 126 = .ok (.iload_n 3, 1) := by decide +kernel
theorem dX3_lay_127 : decode cX3_lay 127 = .ok (.iadd, 1) := by decide +kernel
theorem dX3_lay_128 : decode cX3_lay 128 = .ok (.iload 4, 2) := by decide +kernel
theorem dX3_lay_130 : decode cX3_lay 130 = .ok (.iadd, 1) := by decide +kernel
theorem dX3_lay_131 : decode cX3_lay 131 = .ok (.iaload, 1) := by decide +kernel
theorem dX3_lay_132 : decode cX3_lay 132 = .ok (.iastore, 1) := by decide +kernel
theorem dX3_lay_133 : decode cX3_lay 133 = .ok (.iinc 4 1, 3) := by decide +kernel
theorem dX3_lay_136 : decode cX3_lay 136 = .ok (.goto (-59), 3) := by decide +kernel
theorem dX3_lay_139 : decode cX3_lay 139 = .ok (.iload 4, 2) := by decide +kernel
theorem dX3_lay_141 : decode cX3_lay 141 = .ok (.ireturn, 1) := by decide +kernel
set_option maxRecDepth 20000 in
theorem ggX3_at_X3_isLane : GoodIn wsX3_at wsX3_isLane := goodIn_r _ [12] (by decide +kernel) (by decide +kernel)
set_option maxRecDepth 20000 in
theorem gX3_at_X3_isLane : GoodIn wsX3_at (va_wsS RX3 48 yX3_isLane wsX3_isLane) := goodIn_app (goodIn_of _ (by decide +kernel)) ggX3_at_X3_isLane
theorem dX3_at_0 : decode cX3_at 0 = .ok (.iload_n 1, 1) := by decide +kernel
theorem dX3_at_1 : decode cX3_at 1 = .ok (.invokestatic 48, 3) := by decide +kernel
theorem dX3_at_4 : decode cX3_at 4 = .ok (.ifCond .ne 6, 3) := by decide +kernel
theorem dX3_at_7 : decode cX3_at 7 = .ok (.ldc 52, 2) := by decide +kernel
theorem dX3_at_9 : decode cX3_at 9 = .ok (.ireturn, 1) := by decide +kernel
theorem dX3_at_10 : decode cX3_at 10 = .ok (.aload_n 0, 1) := by decide +kernel
theorem dX3_at_11 : decode cX3_at 11 = .ok (.getfield 29, 3) := by decide +kernel
theorem dX3_at_14 : decode cX3_at 14 = .ok (.iload_n 1, 1) := by decide +kernel
theorem dX3_at_15 : decode cX3_at 15 = .ok (.baload, 1) := by decide +kernel
theorem dX3_at_16 : decode cX3_at 16 = .ok (.ifCond .ne 6, 3) := by decide +kernel
theorem dX3_at_19 : decode cX3_at 19 = .ok (.ldc 71, 2) := by decide +kernel
theorem dX3_at_21 : decode cX3_at 21 = .ok (.ireturn, 1) := by decide +kernel
theorem dX3_at_22 : decode cX3_at 22 = .ok (.iload_n 2, 1) := by decide +kernel
theorem dX3_at_23 : decode cX3_at 23 = .ok (.ifCond .lt 13, 3) := by decide +kernel
theorem dX3_at_26 : decode cX3_at 26 = .ok (.iload_n 2, 1) := by decide +kernel
theorem dX3_at_27 : decode cX3_at 27 = .ok (.aload_n 0, 1) := by decide +kernel
theorem dX3_at_28 : decode cX3_at 28 = .ok (.getfield 23, 3) := by decide +kernel
theorem dX3_at_31 : decode cX3_at 31 = .ok (.iload_n 1, 1) := by decide +kernel
theorem dX3_at_32 : decode cX3_at 32 = .ok (.iaload, 1) := by decide +kernel
theorem dX3_at_33 : decode cX3_at 33 = .ok (.if_icmp .lt 6, 3) := by decide +kernel
theorem dX3_at_36 : decode cX3_at 36 = .ok (.ldc 72, 2) := by decide +kernel
theorem dX3_at_38 : decode cX3_at 38 = .ok (.ireturn, 1) := by decide +kernel
theorem dX3_at_39 : decode cX3_at 39 = .ok (.iload_n 3, 1) := by decide +kernel
theorem dX3_at_40 : decode cX3_at 40 = .ok (.ifCond .lt 13, 3) := by decide +kernel
theorem dX3_at_43 : decode cX3_at 43 = .ok (.iload_n 3, 1) := by decide +kernel
theorem dX3_at_44 : decode cX3_at 44 = .ok (.aload_n 0, 1) := by decide +kernel
theorem dX3_at_45 : decode cX3_at 45 = .ok (.getfield 26, 3) := by decide +kernel
theorem dX3_at_48 : decode cX3_at 48 = .ok (.iload_n 1, 1) := by decide +kernel
theorem dX3_at_49 : decode cX3_at 49 = .ok (.iaload, 1) := by decide +kernel
theorem dX3_at_50 : decode cX3_at 50 = .ok (.if_icmp .lt 6, 3) := by decide +kernel
theorem dX3_at_53 : decode cX3_at 53 = .ok (.ldc 73, 2) := by decide +kernel
theorem dX3_at_55 : decode cX3_at 55 = .ok (.ireturn, 1) := by decide +kernel
theorem dX3_at_56 : decode cX3_at 56 = .ok (.aload_n 0, 1) := by decide +kernel
theorem dX3_at_57 : decode cX3_at 57 = .ok (.getfield 20, 3) := by decide +kernel
theorem dX3_at_60 : decode cX3_at 60 = .ok (.sipush 256, 3) := by decide +kernel
theorem dX3_at_63 : decode cX3_at 63 = .ok (.iload_n 1, 1) := by decide +kernel
theorem dX3_at_64 : decode cX3_at 64 = .ok (.imul, 1) := by decide +kernel
theorem dX3_at_65 : decode cX3_at 65 = .ok (.bipush 16, 2) := by decide +kernel
theorem dX3_at_67 : decode cX3_at 67 = .ok (.iload_n 2, 1) := by decide +kernel
theorem dX3_at_68 : decode cX3_at 68 = .ok (.imul, 1) := by decide +kernel
theorem dX3_at_69 : decode cX3_at 69 = .ok (.iadd, 1) := by decide +kernel
theorem dX3_at_70 : decode cX3_at 70 = .ok (.iload_n 3, 1) := by decide +kernel
theorem dX3_at_71 : decode cX3_at 71 = .ok (.iadd, 1) := by decide +kernel
theorem dX3_at_72 : decode cX3_at 72 = .ok (.iaload, 1) := by decide +kernel
theorem dX3_at_73 : decode cX3_at 73 = .ok (.ireturn, 1) := by decide +kernel
theorem dX3_head_0 : decode cX3_head 0 = .ok (.iload_n 1, 1) := by decide +kernel
theorem dX3_head_1 : decode cX3_head 1 = .ok (.bipush 60, 2) := by decide +kernel
theorem dX3_head_3 : decode cX3_head 3 = .ok (.if_icmp .le 6, 3) := by decide +kernel
theorem dX3_head_6 : decode cX3_head 6 = .ok (.ldc 53, 2) := by decide +kernel
theorem dX3_head_8 : decode cX3_head 8 = .ok (.ireturn, 1) := by decide +kernel
theorem dX3_head_9 : decode cX3_head 9 = .ok (.iload_n 1, 1) := by decide +kernel
theorem dX3_head_10 : decode cX3_head 10 = .ok (.ifCond .ge 6, 3) := by decide +kernel
theorem dX3_head_13 : decode cX3_head 13 = .ok (.ldc 54, 2) := by decide +kernel
theorem dX3_head_15 : decode cX3_head 15 = .ok (.ireturn, 1) := by decide +kernel
theorem dX3_head_16 : decode cX3_head 16 = .ok (.aload_n 0, 1) := by decide +kernel
theorem dX3_head_17 : decode cX3_head 17 = .ok (.getfield 74, 3) := by decide +kernel
theorem dX3_head_20 : decode cX3_head 20 = .ok (.istore_n 2, 1) := by decide +kernel
theorem dX3_head_21 : decode cX3_head 21 = .ok (.aload_n 0, 1) := by decide +kernel
theorem dX3_head_22 : decode cX3_head 22 = .ok (.iload_n 1, 1) := by decide +kernel
theorem dX3_head_23 : decode cX3_head 23 = .ok (.putfield 74, 3) := by decide +kernel
theorem dX3_head_26 : decode cX3_head 26 = .ok (.iload_n 2, 1) := by decide +kernel
theorem dX3_head_27 : decode cX3_head 27 = .ok (.ireturn, 1) := by decide +kernel
theorem dX3_has_0 : decode cX3_has 0 = .ok (.aload_n 0, 1) := by decide +kernel
theorem dX3_has_1 : decode cX3_has 1 = .ok (.getfield 16, 3) := by decide +kernel
theorem dX3_has_4 : decode cX3_has 4 = .ok (.iload_n 1, 1) := by decide +kernel
theorem dX3_has_5 : decode cX3_has 5 = .ok (.baload, 1) := by decide +kernel
theorem dX3_has_6 : decode cX3_has 6 = .ok (.ifCond .eq 20, 3) := by decide +kernel
theorem dX3_has_9 : decode cX3_has 9 = .ok (.aload_n 0, 1) := by decide +kernel
theorem dX3_has_10 : decode cX3_has 10 = .ok (.getfield 74, 3) := by decide +kernel
theorem dX3_has_13 : decode cX3_has 13 = .ok (.aload_n 0, 1) := by decide +kernel
theorem dX3_has_14 : decode cX3_has 14 = .ok (.getfield 13, 3) := by decide +kernel
theorem dX3_has_17 : decode cX3_has 17 = .ok (.iload_n 1, 1) := by decide +kernel
theorem dX3_has_18 : decode cX3_has 18 = .ok (.iaload, 1) := by decide +kernel
theorem dX3_has_19 : decode cX3_has 19 = .ok (.if_icmp .ge 7, 3) := by decide +kernel
theorem dX3_has_22 : decode cX3_has 22 = .ok (.iconst 1, 1) := by decide +kernel
theorem dX3_has_23 : decode cX3_has 23 = .ok (.goto 4, 3) := by decide +kernel
theorem dX3_has_26 : decode cX3_has 26 = .ok (.iconst 0, 1) := by decide +kernel
theorem dX3_has_27 : decode cX3_has 27 = .ok (.ireturn, 1) := by decide +kernel
set_option maxRecDepth 20000 in
theorem ggX3_told_X3_has : GoodIn wsX3_told wsX3_has := goodIn_r _ [7, 8, 2, 9, 10, 11, 12, 13, 14, 15, 16, 17, 18, 19, 20, 21, 22, 23, 24, 25] (by decide +kernel) (by decide +kernel)
set_option maxRecDepth 20000 in
theorem gX3_told_X3_has : GoodIn wsX3_told (wsV RX3 78 RX3 yX3_has wsX3_has) := goodIn_app (goodIn_of _ (by decide +kernel)) ggX3_told_X3_has
theorem dX3_told_0 : decode cX3_told 0 = .ok (.aload_n 0, 1) := by decide +kernel
theorem dX3_told_1 : decode cX3_told 1 = .ok (.iload_n 1, 1) := by decide +kernel
theorem dX3_told_2 : decode cX3_told 2 = .ok (.invokevirtual 78, 3) := by decide +kernel
theorem dX3_told_5 : decode cX3_told 5 = .ok (.ifCond .eq 20, 3) := by decide +kernel
theorem dX3_told_8 : decode cX3_told 8 = .ok (.aload_n 0, 1) := by decide +kernel
theorem dX3_told_9 : decode cX3_told 9 = .ok (.getfield 7, 3) := by decide +kernel
theorem dX3_told_12 : decode cX3_told 12 = .ok (.bipush 60, 2) := by decide +kernel
theorem dX3_told_14 : decode cX3_told 14 = .ok (.iload_n 1, 1) := by decide +kernel
theorem dX3_told_15 : decode cX3_told 15 = .ok (.imul, 1) := by decide +kernel
theorem dX3_told_16 : decode cX3_told 16 = .ok (.aload_n 0, 1) := by decide +kernel
theorem dX3_told_17 : decode cX3_told 17 = .ok (.getfield 74, 3) := by decide +kernel
theorem dX3_told_20 : decode cX3_told 20 = .ok (.iadd, 1) := by decide +kernel
theorem dX3_told_21 : decode cX3_told 21 = .ok (.iaload, 1) := by decide +kernel
theorem dX3_told_22 : decode cX3_told 22 = .ok (.goto 4, 3) := by decide +kernel
theorem dX3_told_25 : decode cX3_told 25 = .ok (.iload_n 2, 1) := by decide +kernel
theorem dX3_told_26 : decode cX3_told 26 = .ok (.ireturn, 1) := by decide +kernel
theorem dX3_less_0 : decode cX3_less 0 = .ok (.aload_n 0, 1) := by decide +kernel
theorem dX3_less_1 : decode cX3_less 1 = .ok (.getfield 7, 3) := by decide +kernel
theorem dX3_less_4 : decode cX3_less 4 = .ok (.bipush 60, 2) := by decide +kernel
theorem dX3_less_6 : decode cX3_less 6 = .ok (.iload_n 1, 1) := by decide +kernel
theorem dX3_less_7 : decode cX3_less 7 = .ok (.imul, 1) := by decide +kernel
theorem dX3_less_8 : decode cX3_less 8 = .ok (.aload_n 0, 1) := by decide +kernel
theorem dX3_less_9 : decode cX3_less 9 = .ok (.getfield 74, 3) := by decide +kernel
theorem dX3_less_12 : decode cX3_less 12 = .ok (.iadd, 1) := by decide +kernel
theorem dX3_less_13 : decode cX3_less 13 = .ok (.aload_n 0, 1) := by decide +kernel
theorem dX3_less_14 : decode cX3_less 14 = .ok (.getfield 7, 3) := by decide +kernel
theorem dX3_less_17 : decode cX3_less 17 = .ok (.bipush 60, 2) := by decide +kernel
theorem dX3_less_19 : decode cX3_less 19 = .ok (.iload_n 1, 1) := by decide +kernel
theorem dX3_less_20 : decode cX3_less 20 = .ok (.imul, 1) := by decide +kernel
theorem dX3_less_21 : decode cX3_less 21 = .ok (.aload_n 0, 1) := by decide +kernel
theorem dX3_less_22 : decode cX3_less 22 = .ok (.getfield 74, 3) := by decide +kernel
theorem dX3_less_25 : decode cX3_less 25 = .ok (.iadd, 1) := by decide +kernel
theorem dX3_less_26 : decode cX3_less 26 = .ok (.iaload, 1) := by decide +kernel
theorem dX3_less_27 : decode cX3_less 27 = .ok (.iconst 1, 1) := by decide +kernel
theorem dX3_less_28 : decode cX3_less 28 = .ok (.isub, 1) := by decide +kernel
theorem dX3_less_29 : decode cX3_less 29 = .ok (.iastore, 1) := by decide +kernel
theorem dX3_less_30 : decode cX3_less 30 = .ok (.return_, 1) := by decide +kernel
set_option maxRecDepth 20000 in
theorem ggX3_note_X3_told : GoodIn wsX3_note wsX3_told := goodIn_r _ [9, 10, 11, 12, 13, 14, 8, 15, 16, 17, 18, 19, 20, 21, 22, 23, 24, 25, 26, 27, 28, 29, 30, 31, 32, 33] (by decide +kernel) (by decide +kernel)
set_option maxRecDepth 20000 in
theorem gX3_note_X3_told : GoodIn wsX3_note (wsV RX3 81 RX3 yX3_told wsX3_told) := goodIn_app (goodIn_of _ (by decide +kernel)) ggX3_note_X3_told
theorem dX3_note_0 : decode cX3_note 0 = .ok (.aload_n 0, 1) := by decide +kernel
theorem dX3_note_1 : decode cX3_note 1 = .ok (.iconst 1, 1) := by decide +kernel
theorem dX3_note_2 : decode cX3_note 2 = .ok (.iconst 1, 1) := by decide +kernel
theorem dX3_note_3 : decode cX3_note 3 = .ok (.invokevirtual 81, 3) := by decide +kernel
theorem dX3_note_6 : decode cX3_note 6 = .ok (.istore_n 1, 1) := by decide +kernel
theorem dX3_note_7 : decode cX3_note 7 = .ok (.aload_n 0, 1) := by decide +kernel
theorem dX3_note_8 : decode cX3_note 8 = .ok (.iconst 3, 1) := by decide +kernel
theorem dX3_note_9 : decode cX3_note 9 = .ok (.iconst 0, 1) := by decide +kernel
theorem dX3_note_10 : decode cX3_note 10 = .ok (.invokevirtual 81, 3) := by decide +kernel
theorem dX3_note_13 : decode cX3_note 13 = .ok (.iconst 1, 1) := by decide +kernel
theorem dX3_note_14 : decode cX3_note 14 = .ok (.if_icmp .ne 9, 3) := by decide +kernel
theorem dX3_note_17 : decode cX3_note 17 = .ok (.iconst 2, 1) := by decide +kernel
theorem dX3_note_18 : decode cX3_note 18 = .ok (.iload_n 1, 1) := by decide +kernel
theorem dX3_note_19 : decode cX3_note 19 = .ok (.imul, 1) := by decide +kernel
theorem dX3_note_20 : decode cX3_note 20 = .ok (.goto 4, 3) := by decide +kernel
theorem dX3_note_23 : decode cX3_note 23 = .ok (.iload_n 1, 1) := by decide +kernel
theorem dX3_note_24 : decode cX3_note 24 = .ok (.istore_n 1, 1) := by decide +kernel
theorem dX3_note_25 : decode cX3_note 25 = .ok (.aload_n 0, 1) := by decide +kernel
theorem dX3_note_26 : decode cX3_note 26 = .ok (.aload_n 0, 1) := by decide +kernel
theorem dX3_note_27 : decode cX3_note 27 = .ok (.getfield 85, 3) := by decide +kernel
theorem dX3_note_30 : decode cX3_note 30 = .ok (.iload_n 1, 1) := by decide +kernel
theorem dX3_note_31 : decode cX3_note 31 = .ok (.iadd, 1) := by decide +kernel
theorem dX3_note_32 : decode cX3_note 32 = .ok (.putfield 85, 3) := by decide +kernel
theorem dX3_note_35 : decode cX3_note 35 = .ok (.aload_n 0, 1) := by decide +kernel
theorem dX3_note_36 : decode cX3_note 36 = .ok (.aload_n 0, 1) := by decide +kernel
theorem dX3_note_37 : decode cX3_note 37 = .ok (.getfield 88, 3) := by decide +kernel
theorem dX3_note_40 : decode cX3_note 40 = .ok (.iconst 1, 1) := by decide +kernel
theorem dX3_note_41 : decode cX3_note 41 = .ok (.iadd, 1) := by decide +kernel
theorem dX3_note_42 : decode cX3_note 42 = .ok (.putfield 88, 3) := by decide +kernel
theorem dX3_note_45 : decode cX3_note 45 = .ok (.aload_n 0, 1) := by decide +kernel
theorem dX3_note_46 : decode cX3_note 46 = .ok (.aload_n 0, 1) := by decide +kernel
theorem dX3_note_47 : decode cX3_note 47 = .ok (.getfield 91, 3) := by decide +kernel
theorem dX3_note_50 : decode cX3_note 50 = .ok (.iload_n 1, 1) := by decide +kernel
theorem dX3_note_51 : decode cX3_note 51 = .ok (.aload_n 0, 1) := by decide +kernel
theorem dX3_note_52 : decode cX3_note 52 = .ok (.iconst 4, 1) := by decide +kernel
theorem dX3_note_53 : decode cX3_note 53 = .ok (.iconst 0, 1) := by decide +kernel
theorem dX3_note_54 : decode cX3_note 54 = .ok (.invokevirtual 81, 3) := by decide +kernel
theorem dX3_note_57 : decode cX3_note 57 = .ok (.aload_n 0, 1) := by decide +kernel
theorem dX3_note_58 : decode cX3_note 58 = .ok (.getfield 94, 3) := by decide +kernel
theorem dX3_note_61 : decode cX3_note 61 = .ok (.iadd, 1) := by decide +kernel
theorem dX3_note_62 : decode cX3_note 62 = .ok (.imul, 1) := by decide +kernel
theorem dX3_note_63 : decode cX3_note 63 = .ok (.iadd, 1) := by decide +kernel
theorem dX3_note_64 : decode cX3_note 64 = .ok (.putfield 91, 3) := by decide +kernel
theorem dX3_note_67 : decode cX3_note 67 = .ok (.aload_n 0, 1) := by decide +kernel
theorem dX3_note_68 : decode cX3_note 68 = .ok (.aload_n 0, 1) := by decide +kernel
theorem dX3_note_69 : decode cX3_note 69 = .ok (.getfield 91, 3) := by decide +kernel
theorem dX3_note_72 : decode cX3_note 72 = .ok (.aload_n 0, 1) := by decide +kernel
theorem dX3_note_73 : decode cX3_note 73 = .ok (.iconst 2, 1) := by decide +kernel
theorem dX3_note_74 : decode cX3_note 74 = .ok (.bipush 8, 2) := by decide +kernel
theorem dX3_note_76 : decode cX3_note 76 = .ok (.invokevirtual 81, 3) := by decide +kernel
theorem dX3_note_79 : decode cX3_note 79 = .ok (.iadd, 1) := by decide +kernel
theorem dX3_note_80 : decode cX3_note 80 = .ok (.putfield 91, 3) := by decide +kernel
theorem dX3_note_83 : decode cX3_note 83 = .ok (.return_, 1) := by decide +kernel
set_option maxRecDepth 20000 in
theorem ggX3_step_X3_told : GoodIn wsX3_step wsX3_told := goodIn_r _ [11, 1, 2, 12, 13, 14, 10, 15, 16, 17, 28, 29, 30, 31, 32, 33, 34, 35, 36, 37, 38, 39, 40, 41, 42, 43] (by decide +kernel) (by decide +kernel)
set_option maxRecDepth 20000 in
theorem gX3_step_X3_told : GoodIn wsX3_step (wsV RX3 81 RX3 yX3_told wsX3_told) := goodIn_app (goodIn_of _ (by decide +kernel)) ggX3_step_X3_told
set_option maxRecDepth 20000 in
theorem ggX3_step_X3_less : GoodIn wsX3_step wsX3_less := goodIn_r _ [21, 1, 2, 28, 29, 30, 31, 32, 33, 34, 35, 36, 37, 38, 39, 40, 41, 42, 43] (by decide +kernel) (by decide +kernel)
set_option maxRecDepth 20000 in
theorem gX3_step_X3_less : GoodIn wsX3_step (wsV RX3 97 RX3 yX3_less wsX3_less) := goodIn_app (goodIn_of _ (by decide +kernel)) ggX3_step_X3_less
set_option maxRecDepth 20000 in
theorem ggX3_step_X3_note : GoodIn wsX3_step wsX3_note := goodIn_r _ [25, 4, 26, 27, 5, 7, 8, 9, 10, 11, 1, 2, 12, 13, 14, 15, 16, 17, 28, 29, 30, 31, 32, 33, 34, 35, 36, 37, 38, 39, 40, 41, 42, 43] (by decide +kernel) (by decide +kernel)
set_option maxRecDepth 20000 in
theorem gX3_step_X3_note : GoodIn wsX3_step (wsV RX3 104 RX3 yX3_note wsX3_note) := goodIn_app (goodIn_of _ (by decide +kernel)) ggX3_step_X3_note
theorem dX3_step_0 : decode cX3_step 0 = .ok (.aload_n 0, 1) := by decide +kernel
theorem dX3_step_1 : decode cX3_step 1 = .ok (.getfield 7, 3) := by decide +kernel
theorem dX3_step_4 : decode cX3_step 4 = .ok (.iconst 0, 1) := by decide +kernel
theorem dX3_step_5 : decode cX3_step 5 = .ok (.aload_n 0, 1) := by decide +kernel
theorem dX3_step_6 : decode cX3_step 6 = .ok (.getfield 74, 3) := by decide +kernel
theorem dX3_step_9 : decode cX3_step 9 = .ok (.iadd, 1) := by decide +kernel
theorem dX3_step_10 : decode cX3_step 10 = .ok (.iaload, 1) := by decide +kernel
theorem dX3_step_11 : decode cX3_step 11 = .ok (.istore_n 1, 1) := by decide +kernel
theorem dX3_step_12 : decode cX3_step 12 = .ok (.iload_n 1, 1) := by decide +kernel
theorem dX3_step_13 : decode cX3_step 13 = .ok (.bipush 114, 2) := by decide +kernel
theorem dX3_step_15 : decode cX3_step 15 = .ok (.if_icmp .ne 26, 3) := by decide +kernel
theorem dX3_step_18 : decode cX3_step 18 = .ok (.aload_n 0, 1) := by decide +kernel
theorem dX3_step_19 : decode cX3_step 19 = .ok (.iconst 1, 1) := by decide +kernel
theorem dX3_step_20 : decode cX3_step 20 = .ok (.iconst 0, 1) := by decide +kernel
theorem dX3_step_21 : decode cX3_step 21 = .ok (.invokevirtual 81, 3) := by decide +kernel
theorem dX3_step_24 : decode cX3_step 24 = .ok (.ifCond .le 17, 3) := by decide +kernel
theorem dX3_step_27 : decode cX3_step 27 = .ok (.aload_n 0, 1) := by decide +kernel
theorem dX3_step_28 : decode cX3_step 28 = .ok (.iconst 1, 1) := by decide +kernel
theorem dX3_step_29 : decode cX3_step 29 = .ok (.invokevirtual 97, 3) := by decide +kernel
theorem dX3_step_32 : decode cX3_step 32 = .ok (.aload_n 0, 1) := by decide +kernel
theorem dX3_step_33 : decode cX3_step 33 = .ok (.aload_n 0, 1) := by decide +kernel
theorem dX3_step_34 : decode cX3_step 34 = .ok (.getfield 101, 3) := by decide +kernel
theorem dX3_step_37 : decode cX3_step 37 = .ok (.putfield 74, 3) := by decide +kernel
theorem dX3_step_40 : decode cX3_step 40 = .ok (.return_, 1) := by decide +kernel
theorem dX3_step_41 : decode cX3_step 41 = .ok (.iload_n 1, 1) := by decide +kernel
theorem dX3_step_42 : decode cX3_step 42 = .ok (.bipush 46, 2) := by decide +kernel
theorem dX3_step_44 : decode cX3_step 44 = .ok (.if_icmp .ne 21, 3) := by decide +kernel
theorem dX3_step_47 : decode cX3_step 47 = .ok (.aload_n 0, 1) := by decide +kernel
theorem dX3_step_48 : decode cX3_step 48 = .ok (.aload_n 0, 1) := by decide +kernel
theorem dX3_step_49 : decode cX3_step 49 = .ok (.getfield 85, 3) := by decide +kernel
theorem dX3_step_52 : decode cX3_step 52 = .ok (.aload_n 0, 1) := by decide +kernel
theorem dX3_step_53 : decode cX3_step 53 = .ok (.iconst 1, 1) := by decide +kernel
theorem dX3_step_54 : decode cX3_step 54 = .ok (.iconst 1, 1) := by decide +kernel
theorem dX3_step_55 : decode cX3_step 55 = .ok (.invokevirtual 81, 3) := by decide +kernel
theorem dX3_step_58 : decode cX3_step 58 = .ok (.iadd, 1) := by decide +kernel
theorem dX3_step_59 : decode cX3_step 59 = .ok (.putfield 85, 3) := by decide +kernel
theorem dX3_step_62 : decode cX3_step 62 = .ok (.goto 97, 3) := by decide +kernel
theorem dX3_step_65 : decode cX3_step 65 = .ok (.iload_n 1, 1) := by decide +kernel
theorem dX3_step_66 : decode cX3_step 66 = .ok (.bipush 110, 2) := by decide +kernel
theorem dX3_step_68 : decode cX3_step 68 = .ok (.if_icmp .ne 10, 3) := by decide +kernel
theorem dX3_step_71 : decode cX3_step 71 = .ok (.aload_n 0, 1) := by decide +kernel
theorem dX3_step_72 : decode cX3_step 72 = .ok (.invokevirtual 104, 3) := by decide +kernel
theorem dX3_step_75 : decode cX3_step 75 = .ok (.goto 84, 3) := by decide +kernel
theorem dX3_step_78 : decode cX3_step 78 = .ok (.iload_n 1, 1) := by decide +kernel
theorem dX3_step_79 : decode cX3_step 79 = .ok (.bipush 116, 2) := by decide +kernel
theorem dX3_step_81 : decode cX3_step 81 = .ok (.if_icmp .ne 16, 3) := by decide +kernel
theorem dX3_step_84 : decode cX3_step 84 = .ok (.aload_n 0, 1) := by decide +kernel
theorem dX3_step_85 : decode cX3_step 85 = .ok (.aload_n 0, 1) := by decide +kernel
theorem dX3_step_86 : decode cX3_step 86 = .ok (.iconst 4, 1) := by decide +kernel
theorem dX3_step_87 : decode cX3_step 87 = .ok (.iconst 0, 1) := by decide +kernel
theorem dX3_step_88 : decode cX3_step 88 = .ok (.invokevirtual 81, 3) := by decide +kernel
theorem dX3_step_91 : decode cX3_step 91 = .ok (.putfield 94, 3) := by decide +kernel
theorem dX3_step_94 : decode cX3_step 94 = .ok (.goto 65, 3) := by decide +kernel
theorem dX3_step_97 : decode cX3_step 97 = .ok (.iload_n 1, 1) := by decide +kernel
theorem dX3_step_98 : decode cX3_step 98 = .ok (.bipush 124, 2) := by decide +kernel
theorem dX3_step_100 : decode cX3_step 100 = .ok (.if_icmp .ne 14, 3) := by decide +kernel
theorem dX3_step_103 : decode cX3_step 103 = .ok (.aload_n 0, 1) := by decide +kernel
theorem dX3_step_104 : decode cX3_step 104 = .ok (.aload_n 0, 1) := by decide +kernel
theorem dX3_step_105 : decode cX3_step 105 = .ok (.getfield 74, 3) := by decide +kernel
theorem dX3_step_108 : decode cX3_step 108 = .ok (.putfield 101, 3) := by decide +kernel
theorem dX3_step_111 : decode cX3_step 111 = .ok (.goto 48, 3) := by decide +kernel
theorem dX3_step_114 : decode cX3_step 114 = .ok (.iload_n 1, 1) := by decide +kernel
theorem dX3_step_115 : decode cX3_step 115 = .ok (.bipush 119, 2) := by decide +kernel
theorem dX3_step_117 : decode cX3_step 117 = .ok (.if_icmp .ne 20, 3) := by decide +kernel
theorem dX3_step_120 : decode cX3_step 120 = .ok (.aload_n 0, 1) := by decide +kernel
theorem dX3_step_121 : decode cX3_step 121 = .ok (.iconst 2, 1) := by decide +kernel
theorem dX3_step_122 : decode cX3_step 122 = .ok (.iconst 0, 1) := by decide +kernel
theorem dX3_step_123 : decode cX3_step 123 = .ok (.invokevirtual 81, 3) := by decide +kernel
theorem dX3_step_126 : decode cX3_step 126 = .ok (.ifCond .le 11, 3) := by decide +kernel
theorem dX3_step_129 : decode cX3_step 129 = .ok (.aload_n 0, 1) := by decide +kernel
theorem dX3_step_130 : decode cX3_step 130 = .ok (.iconst 2, 1) := by decide +kernel
theorem dX3_step_131 : decode cX3_step 131 = .ok (.invokevirtual 97, 3) := by decide +kernel
theorem dX3_step_134 : decode cX3_step 134 = .ok (.goto 25, 3) := by decide +kernel
theorem dX3_step_137 : decode cX3_step 137 = .ok (.iload_n 1, 1) := by decide +kernel
theorem dX3_step_138 : decode cX3_step 138 = .ok (.bipush 114, 2) := by decide +kernel
theorem dX3_step_140 : decode cX3_step 140 = .ok (.if_icmp .eq 19, 3) := by decide +kernel
theorem dX3_step_143 : decode cX3_step 143 = .ok (.iload_n 1, 1) := by decide +kernel
theorem dX3_step_144 : decode cX3_step 144 = .ok (.bipush 119, 2) := by decide +kernel
theorem dX3_step_146 : decode cX3_step 146 = .ok (.if_icmp .eq 13, 3) := by decide +kernel
theorem dX3_step_149 : decode cX3_step 149 = .ok (.aload_n 0, 1) := by decide +kernel
theorem dX3_step_150 : decode cX3_step 150 = .ok (.aload_n 0, 1) := by decide +kernel
theorem dX3_step_151 : decode cX3_step 151 = .ok (.getfield 107, 3) := by decide +kernel
theorem dX3_step_154 : decode cX3_step 154 = .ok (.iconst 1, 1) := by decide +kernel
theorem dX3_step_155 : decode cX3_step 155 = .ok (.iadd, 1) := by decide +kernel
theorem dX3_step_156 : decode cX3_step 156 = .ok (.putfield 107, 3) := by decide +kernel
theorem dX3_step_159 : decode cX3_step 159 = .ok (.aload_n 0, 1) := by decide +kernel
theorem dX3_step_160 : decode cX3_step 160 = .ok (.aload_n 0, 1) := by decide +kernel
theorem dX3_step_161 : decode cX3_step 161 = .ok (.getfield 74, 3) := by decide +kernel
theorem dX3_step_164 : decode cX3_step 164 = .ok (.iconst 1, 1) := by decide +kernel
theorem dX3_step_165 : decode cX3_step 165 = .ok (.iadd, 1) := by decide +kernel
theorem dX3_step_166 : decode cX3_step 166 = .ok (.putfield 74, 3) := by decide +kernel
theorem dX3_step_169 : decode cX3_step 169 = .ok (.return_, 1) := by decide +kernel
set_option maxRecDepth 20000 in
theorem ggX3_play_X3_has : GoodIn wsX3_play wsX3_has := goodIn_r _ [7, 8, 9, 10, 34, 35, 36, 37, 38, 39, 40, 41, 42, 43, 44, 45, 46, 47, 48, 49] (by decide +kernel) (by decide +kernel)
set_option maxRecDepth 20000 in
theorem gX3_play_X3_has : GoodIn wsX3_play (wsV RX3 78 RX3 yX3_has wsX3_has) := goodIn_app (goodIn_of _ (by decide +kernel)) ggX3_play_X3_has
set_option maxRecDepth 20000 in
theorem ggX3_play_X3_step : GoodIn wsX3_play wsX3_step := goodIn_r _ [14, 15, 9, 16, 17, 18, 19, 20, 21, 22, 6, 23, 3, 4, 5, 7, 8, 10, 24, 25, 26, 27, 28, 29, 30, 31, 32, 33, 34, 35, 36, 37, 38, 39, 40, 41, 42, 43, 44, 45, 46, 47, 48, 49] (by decide +kernel) (by decide +kernel)
set_option maxRecDepth 20000 in
theorem gX3_play_X3_step : GoodIn wsX3_play (wsV RX3 110 RX3 yX3_step wsX3_step) := goodIn_app (goodIn_of _ (by decide +kernel)) ggX3_play_X3_step
theorem dX3_play_0 : decode cX3_play 0 = .ok (.iload_n 1, 1) := by decide +kernel
theorem dX3_play_1 : decode cX3_play 1 = .ok (.ifCond .ge 6, 3) := by decide +kernel
theorem dX3_play_4 : decode cX3_play 4 = .ok (.ldc 54, 2) := by decide +kernel
theorem dX3_play_6 : decode cX3_play 6 = .ok (.ireturn, 1) := by decide +kernel
theorem dX3_play_7 : decode cX3_play 7 = .ok (.iload_n 1, 1) := by decide +kernel
theorem dX3_play_8 : decode cX3_play 8 = .ok (.sipush 200, 3) := by decide +kernel
theorem dX3_play_11 : decode cX3_play 11 = .ok (.if_icmp .le 6, 3) := by decide +kernel
theorem dX3_play_14 : decode cX3_play 14 = .ok (.ldc 53, 2) := by decide +kernel
theorem dX3_play_16 : decode cX3_play 16 = .ok (.ireturn, 1) := by decide +kernel
theorem dX3_play_17 : decode cX3_play 17 = .ok (.iconst 0, 1) := by decide +kernel
theorem dX3_play_18 : decode cX3_play 18 = .ok (.istore_n 2, 1) := by decide +kernel
theorem dX3_play_19 : decode cX3_play 19 = .ok (.iload_n 2, 1) := by decide +kernel
theorem dX3_play_20 : decode cX3_play 20 = .ok (.iload_n 1, 1) := by decide +kernel
theorem dX3_play_21 : decode cX3_play 21 = .ok (.if_icmp .ge 21, 3) := by decide +kernel
theorem dX3_play_24 : decode cX3_play 24 = .ok (.aload_n 0, 1) := by decide +kernel
theorem dX3_play_25 : decode cX3_play 25 = .ok (.iconst 0, 1) := by decide +kernel
theorem dX3_play_26 : decode cX3_play 26 = .ok (.invokevirtual 78, 3) := by decide +kernel
theorem dX3_play_29 : decode cX3_play 29 = .ok (.ifCond .eq 13, 3) := by decide +kernel
theorem dX3_play_32 : decode cX3_play 32 = .ok (.aload_n 0, 1) := by decide +kernel
theorem dX3_play_33 : decode cX3_play 33 = .ok (.invokevirtual 110, 3) := by decide +kernel
theorem dX3_play_36 : decode cX3_play 36 = .ok (.iinc 2 1, 3) := by decide +kernel
theorem dX3_play_39 : decode cX3_play 39 = .ok (.goto (-20), 3) := by decide +kernel
theorem dX3_play_42 : decode cX3_play 42 = .ok (.iload_n 2, 1) := by decide +kernel
theorem dX3_play_43 : decode cX3_play 43 = .ok (.ireturn, 1) := by decide +kernel
theorem dX3_count_0 : decode cX3_count 0 = .ok (.iload_n 1, 1) := by decide +kernel
theorem dX3_count_1 : decode cX3_count 1 = .ok (.ifCond .lt 15, 3) := by decide +kernel
theorem dX3_count_4 : decode cX3_count 4 = .ok (.iload_n 1, 1) := by decide +kernel
theorem dX3_count_5 : decode cX3_count 5 = .ok (.iconst 5, 1) := by decide +kernel
theorem dX3_count_6 : decode cX3_count 6 = .ok (.if_icmp .ge 10, 3) := by decide +kernel
theorem dX3_count_9 : decode cX3_count 9 = .ok (.aload_n 0, 1) := by decide +kernel
theorem dX3_count_10 : decode cX3_count 10 = .ok (.getfield 32, 3) := by decide +kernel
theorem dX3_count_13 : decode cX3_count 13 = .ok (.iload_n 1, 1) := by decide +kernel
theorem dX3_count_14 : decode cX3_count 14 = .ok (.iaload, 1) := by decide +kernel
theorem dX3_count_15 : decode cX3_count 15 = .ok (.ireturn, 1) := by decide +kernel
theorem dX3_count_16 : decode cX3_count 16 = .ok (.iload_n 1, 1) := by decide +kernel
theorem dX3_count_17 : decode cX3_count 17 = .ok (.iconst 5, 1) := by decide +kernel
theorem dX3_count_18 : decode cX3_count 18 = .ok (.if_icmp .lt 18, 3) := by decide +kernel
theorem dX3_count_21 : decode cX3_count 21 = .ok (.iload_n 1, 1) := by decide +kernel
theorem dX3_count_22 : decode cX3_count 22 = .ok (.bipush 10, 2) := by decide +kernel
theorem dX3_count_24 : decode cX3_count 24 = .ok (.if_icmp .ge 12, 3) := by decide +kernel
theorem dX3_count_27 : decode cX3_count 27 = .ok (.aload_n 0, 1) := by decide +kernel
theorem dX3_count_28 : decode cX3_count 28 = .ok (.getfield 35, 3) := by decide +kernel
theorem dX3_count_31 : decode cX3_count 31 = .ok (.iload_n 1, 1) := by decide +kernel
theorem dX3_count_32 : decode cX3_count 32 = .ok (.iconst 5, 1) := by decide +kernel
theorem dX3_count_33 : decode cX3_count 33 = .ok (.isub, 1) := by decide +kernel
theorem dX3_count_34 : decode cX3_count 34 = .ok (.iaload, 1) := by decide +kernel
theorem dX3_count_35 : decode cX3_count 35 = .ok (.ireturn, 1) := by decide +kernel
theorem dX3_count_36 : decode cX3_count 36 = .ok (.iload_n 1, 1) := by decide +kernel
theorem dX3_count_37 : decode cX3_count 37 = .ok (.tableswitch 78 10 16 #[43, 48, 53, 58, 63, 68, 73], 43) := by decide +kernel
theorem dX3_count_80 : decode cX3_count 80 = .ok (.aload_n 0, 1) := by decide +kernel
theorem dX3_count_81 : decode cX3_count 81 = .ok (.getfield 74, 3) := by decide +kernel
theorem dX3_count_84 : decode cX3_count 84 = .ok (.ireturn, 1) := by decide +kernel
theorem dX3_count_85 : decode cX3_count 85 = .ok (.aload_n 0, 1) := by decide +kernel
theorem dX3_count_86 : decode cX3_count 86 = .ok (.getfield 85, 3) := by decide +kernel
theorem dX3_count_89 : decode cX3_count 89 = .ok (.ireturn, 1) := by decide +kernel
theorem dX3_count_90 : decode cX3_count 90 = .ok (.aload_n 0, 1) := by decide +kernel
theorem dX3_count_91 : decode cX3_count 91 = .ok (.getfield 94, 3) := by decide +kernel
theorem dX3_count_94 : decode cX3_count 94 = .ok (.ireturn, 1) := by decide +kernel
theorem dX3_count_95 : decode cX3_count 95 = .ok (.aload_n 0, 1) := by decide +kernel
theorem dX3_count_96 : decode cX3_count 96 = .ok (.getfield 101, 3) := by decide +kernel
theorem dX3_count_99 : decode cX3_count 99 = .ok (.ireturn, 1) := by decide +kernel
theorem dX3_count_100 : decode cX3_count 100 = .ok (.aload_n 0, 1) := by decide +kernel
theorem dX3_count_101 : decode cX3_count 101 = .ok (.getfield 88, 3) := by decide +kernel
theorem dX3_count_104 : decode cX3_count 104 = .ok (.ireturn, 1) := by decide +kernel
theorem dX3_count_105 : decode cX3_count 105 = .ok (.aload_n 0, 1) := by decide +kernel
theorem dX3_count_106 : decode cX3_count 106 = .ok (.getfield 91, 3) := by decide +kernel
theorem dX3_count_109 : decode cX3_count 109 = .ok (.ireturn, 1) := by decide +kernel
theorem dX3_count_110 : decode cX3_count 110 = .ok (.aload_n 0, 1) := by decide +kernel
theorem dX3_count_111 : decode cX3_count 111 = .ok (.getfield 107, 3) := by decide +kernel
theorem dX3_count_114 : decode cX3_count 114 = .ok (.ireturn, 1) := by decide +kernel
theorem dX3_count_115 : decode cX3_count 115 = .ok (.iconst 0, 1) := by decide +kernel
theorem dX3_count_116 : decode cX3_count 116 = .ok (.ireturn, 1) := by decide +kernel
end
section
theorem dJ9_max_f86c9_0 : decode cJ9_max_f86c9 0 = .ok (.lload_n 0, 1) := by decide +kernel
theorem dJ9_max_f86c9_1 : decode cJ9_max_f86c9 1 = .ok (.lload_n 2, 1) := by decide +kernel
theorem dJ9_max_f86c9_2 : decode cJ9_max_f86c9 2 = .ok (.lcmp, 1) := by decide +kernel
theorem dJ9_max_f86c9_3 : decode cJ9_max_f86c9 3 = .ok (.ifCond .lt 7, 3) := by decide +kernel
theorem dJ9_max_f86c9_6 : decode cJ9_max_f86c9 6 = .ok (.lload_n 0, 1) := by decide +kernel
theorem dJ9_max_f86c9_7 : decode cJ9_max_f86c9 7 = .ok (.goto 4, 3) := by decide +kernel
theorem dJ9_max_f86c9_10 : decode cJ9_max_f86c9 10 = .ok (.lload_n 2, 1) := by decide +kernel
theorem dJ9_max_f86c9_11 : decode cJ9_max_f86c9 11 = .ok (.lreturn, 1) := by decide +kernel
theorem dJ9_min_7cf53_0 : decode cJ9_min_7cf53 0 = .ok (.iload_n 0, 1) := by decide +kernel
theorem dJ9_min_7cf53_1 : decode cJ9_min_7cf53 1 = .ok (.iload_n 1, 1) := by decide +kernel
theorem dJ9_min_7cf53_2 : decode cJ9_min_7cf53 2 = .ok (.if_icmp .gt 7, 3) := by decide +kernel
theorem dJ9_min_7cf53_5 : decode cJ9_min_7cf53 5 = .ok (.iload_n 0, 1) := by decide +kernel
theorem dJ9_min_7cf53_6 : decode cJ9_min_7cf53 6 = .ok (.goto 4, 3) := by decide +kernel
theorem dJ9_min_7cf53_9 : decode cJ9_min_7cf53 9 = .ok (.iload_n 1, 1) := by decide +kernel
theorem dJ9_min_7cf53_10 : decode cJ9_min_7cf53 10 = .ok (.ireturn, 1) := by decide +kernel
theorem dJ9_min_f86c9_0 : decode cJ9_min_f86c9 0 = .ok (.lload_n 0, 1) := by decide +kernel
theorem dJ9_min_f86c9_1 : decode cJ9_min_f86c9 1 = .ok (.lload_n 2, 1) := by decide +kernel
theorem dJ9_min_f86c9_2 : decode cJ9_min_f86c9 2 = .ok (.lcmp, 1) := by decide +kernel
theorem dJ9_min_f86c9_3 : decode cJ9_min_f86c9 3 = .ok (.ifCond .gt 7, 3) := by decide +kernel
theorem dJ9_min_f86c9_6 : decode cJ9_min_f86c9 6 = .ok (.lload_n 0, 1) := by decide +kernel
theorem dJ9_min_f86c9_7 : decode cJ9_min_f86c9 7 = .ok (.goto 4, 3) := by decide +kernel
theorem dJ9_min_f86c9_10 : decode cJ9_min_f86c9 10 = .ok (.lload_n 2, 1) := by decide +kernel
theorem dJ9_min_f86c9_11 : decode cJ9_min_f86c9 11 = .ok (.lreturn, 1) := by decide +kernel
set_option maxRecDepth 20000 in
theorem ggL_law_X2_init : GoodIn wsL_law wsX2_init := goodIn_r _ [8, 9, 10, 11, 12, 13, 14, 15, 16, 17, 18, 19, 20, 21, 22, 23, 24, 25, 26, 27, 28, 29, 30, 31, 32, 325, 326, 327, 328, 329, 330, 331, 332, 349, 350, 351, 352, 353, 354, 355, 356] (by decide +kernel) (by decide +kernel)
set_option maxRecDepth 20000 in
theorem gL_law_X2_init : GoodIn wsL_law (wsX2_init) := ggL_law_X2_init
set_option maxRecDepth 20000 in
theorem ggL_law_X3_init : GoodIn wsL_law wsX3_init := goodIn_r _ [35, 36, 10, 11, 20, 37, 38, 39, 40, 41, 42, 43, 44, 45, 46, 333, 334, 335, 336, 337, 338, 339, 340, 341, 342, 343, 344, 345, 346, 347, 348] (by decide +kernel) (by decide +kernel)
set_option maxRecDepth 20000 in
theorem gL_law_X3_init : GoodIn wsL_law (wsX3_init) := ggL_law_X3_init
set_option maxRecDepth 20000 in
theorem ggL_law_X2_mount : GoodIn wsL_law wsX2_mount := goodIn_r _ [50, 51, 52, 53, 13, 54, 55, 2, 56, 57, 58, 59, 15, 60, 21, 26, 325, 326, 327, 328, 329, 330, 331, 332, 349, 350, 351, 352, 353] (by decide +kernel) (by decide +kernel)
set_option maxRecDepth 20000 in
theorem gL_law_X2_mount : GoodIn wsL_law (wsV RL 13 RX2 yX2_mount wsX2_mount) := goodIn_app (goodIn_of _ (by decide +kernel)) ggL_law_X2_mount
set_option maxRecDepth 20000 in
theorem ggL_law_X3_mount : GoodIn wsL_law wsX3_mount := goodIn_r _ [64, 65, 66, 67, 40, 38, 37, 68, 69, 5, 70, 333, 334, 335, 336, 337, 338, 339, 340, 341, 342, 343, 344, 345, 346, 347, 348] (by decide +kernel) (by decide +kernel)
set_option maxRecDepth 20000 in
theorem gL_law_X3_mount : GoodIn wsL_law (wsV RL 17 RX3 yX3_mount wsX3_mount) := goodIn_app (goodIn_of _ (by decide +kernel)) ggL_law_X3_mount
set_option maxRecDepth 20000 in
theorem ggL_law_X2_strip : GoodIn wsL_law wsX2_strip := goodIn_r _ [74, 51, 13, 75, 54, 55, 2, 56, 76, 77, 78, 15, 79, 26, 80, 81, 82, 83, 84, 85, 86, 87, 88, 89, 325, 326, 327, 328, 329, 330, 331, 332, 349, 350, 351, 352, 353] (by decide +kernel) (by decide +kernel)
set_option maxRecDepth 20000 in
theorem gL_law_X2_strip : GoodIn wsL_law (wsV RL 18 RX2 yX2_strip wsX2_strip) := goodIn_app (goodIn_of _ (by decide +kernel)) ggL_law_X2_strip
set_option maxRecDepth 20000 in
theorem ggL_law_X3_strip : GoodIn wsL_law wsX3_strip := goodIn_r _ [93, 65, 40, 38, 68, 69, 5, 70, 94, 95, 96, 97, 45, 98, 333, 334, 335, 336, 337, 338, 339, 340, 341, 342, 343, 344, 345, 346, 347, 348] (by decide +kernel) (by decide +kernel)
set_option maxRecDepth 20000 in
theorem gL_law_X3_strip : GoodIn wsL_law (wsV RL 22 RX3 yX3_strip wsX3_strip) := goodIn_app (goodIn_of _ (by decide +kernel)) ggL_law_X3_strip
set_option maxRecDepth 20000 in
theorem ggL_law_X2_size : GoodIn wsL_law wsX2_size := goodIn_r _ [102, 51, 13, 75, 54, 55, 2, 56, 76, 77, 78, 15, 79, 26, 80, 81, 82, 83, 84, 85, 325, 326, 327, 328, 329, 330, 331, 332, 349, 350, 351, 352, 353] (by decide +kernel) (by decide +kernel)
set_option maxRecDepth 20000 in
theorem gL_law_X2_size : GoodIn wsL_law (wsV RL 23 RX2 yX2_size wsX2_size) := goodIn_app (goodIn_of _ (by decide +kernel)) ggL_law_X2_size
set_option maxRecDepth 20000 in
theorem ggL_law_X3_size : GoodIn wsL_law wsX3_size := goodIn_r _ [106, 65, 40, 38, 68, 69, 5, 70, 94, 95, 96, 97, 45, 98, 333, 334, 335, 336, 337, 338, 339, 340, 341, 342, 343, 344, 345, 346, 347, 348] (by decide +kernel) (by decide +kernel)
set_option maxRecDepth 20000 in
theorem gL_law_X3_size : GoodIn wsL_law (wsV RL 26 RX3 yX3_size wsX3_size) := goodIn_app (goodIn_of _ (by decide +kernel)) ggL_law_X3_size
set_option maxRecDepth 20000 in
theorem ggL_law_X2_cell : GoodIn wsL_law wsX2_cell := goodIn_r _ [110, 51, 13, 111, 54, 55, 2, 56, 76, 77, 78, 15, 79, 26, 80, 81, 82, 83, 84, 85, 112, 113, 114, 115, 116, 117, 118, 119, 120, 121, 325, 326, 327, 328, 329, 330, 331, 332, 349, 350, 351, 352, 353] (by decide +kernel) (by decide +kernel)
set_option maxRecDepth 20000 in
theorem gL_law_X2_cell : GoodIn wsL_law (wsV RL 27 RX2 yX2_cell wsX2_cell) := goodIn_app (goodIn_of _ (by decide +kernel)) ggL_law_X2_cell
set_option maxRecDepth 20000 in
theorem ggL_law_X3_cell : GoodIn wsL_law wsX3_cell := goodIn_r _ [125, 65, 40, 38, 37, 68, 69, 5, 70, 94, 95, 96, 97, 45, 98, 126, 127, 128, 129, 46, 130, 333, 334, 335, 336, 337, 338, 339, 340, 341, 342, 343, 344, 345, 346, 347, 348] (by decide +kernel) (by decide +kernel)
set_option maxRecDepth 20000 in
theorem gL_law_X3_cell : GoodIn wsL_law (wsV RL 30 RX3 yX3_cell wsX3_cell) := goodIn_app (goodIn_of _ (by decide +kernel)) ggL_law_X3_cell
set_option maxRecDepth 20000 in
theorem ggL_law_X2_put : GoodIn wsL_law wsX2_put := goodIn_r _ [134, 51, 13, 111, 54, 55, 2, 56, 76, 77, 78, 15, 79, 26, 80, 81, 82, 83, 84, 85, 112, 113, 114, 115, 116, 117, 118, 119, 120, 121, 135, 136, 137, 138, 139, 140, 141, 142, 143, 144, 145, 146, 147, 325, 326, 327, 328, 329, 330, 331, 332, 349, 350, 351, 352, 353] (by decide +kernel) (by decide +kernel)
set_option maxRecDepth 20000 in
theorem gL_law_X2_put : GoodIn wsL_law (wsV RL 31 RX2 yX2_put wsX2_put) := goodIn_app (goodIn_of _ (by decide +kernel)) ggL_law_X2_put
set_option maxRecDepth 20000 in
theorem ggL_law_X3_put : GoodIn wsL_law wsX3_put := goodIn_r _ [151, 65, 40, 38, 37, 68, 69, 5, 70, 94, 95, 96, 97, 45, 98, 126, 127, 128, 129, 46, 130, 152, 153, 154, 155, 156, 157, 158, 159, 333, 334, 335, 336, 337, 338, 339, 340, 341, 342, 343, 344, 345, 346, 347, 348] (by decide +kernel) (by decide +kernel)
set_option maxRecDepth 20000 in
theorem gL_law_X3_put : GoodIn wsL_law (wsV RL 35 RX3 yX3_put wsX3_put) := goodIn_app (goodIn_of _ (by decide +kernel)) ggL_law_X3_put
set_option maxRecDepth 20000 in
theorem ggL_law_X2_change : GoodIn wsL_law wsX2_change := goodIn_r _ [163, 51, 164, 13, 111, 54, 55, 2, 56, 76, 77, 78, 15, 79, 26, 80, 81, 82, 83, 84, 85, 112, 113, 114, 115, 116, 117, 118, 119, 120, 121, 165, 166, 167, 168, 169, 170, 171, 172, 173, 135, 136, 137, 138, 139, 140, 141, 142, 143, 144, 145, 146, 147, 325, 326, 327, 328, 329, 330, 331, 332, 349, 350, 351, 352, 353] (by decide +kernel) (by decide +kernel)
set_option maxRecDepth 20000 in
theorem gL_law_X2_change : GoodIn wsL_law (wsV RL 36 RX2 yX2_change wsX2_change) := goodIn_app (goodIn_of _ (by decide +kernel)) ggL_law_X2_change
set_option maxRecDepth 20000 in
theorem ggL_law_X3_change : GoodIn wsL_law wsX3_change := goodIn_r _ [177, 65, 178, 40, 38, 37, 68, 69, 5, 70, 94, 95, 96, 97, 45, 98, 126, 127, 128, 129, 46, 130, 179, 180, 181, 152, 153, 154, 155, 156, 157, 158, 159, 333, 334, 335, 336, 337, 338, 339, 340, 341, 342, 343, 344, 345, 346, 347, 348] (by decide +kernel) (by decide +kernel)
set_option maxRecDepth 20000 in
theorem gL_law_X3_change : GoodIn wsL_law (wsV RL 40 RX3 yX3_change wsX3_change) := goodIn_app (goodIn_of _ (by decide +kernel)) ggL_law_X3_change
set_option maxRecDepth 20000 in
theorem ggL_law_X2_rule : GoodIn wsL_law wsX2_rule := goodIn_r _ [185, 51, 52, 53, 13, 186, 54, 55, 2, 56, 187, 188, 189, 24, 190, 31, 32, 191, 325, 326, 327, 328, 329, 330, 331, 332, 349, 350, 351, 352, 353, 354, 355, 356] (by decide +kernel) (by decide +kernel)
set_option maxRecDepth 20000 in
theorem gL_law_X2_rule : GoodIn wsL_law (wsV RL 41 RX2 yX2_rule wsX2_rule) := goodIn_app (goodIn_of _ (by decide +kernel)) ggL_law_X2_rule
set_option maxRecDepth 20000 in
theorem ggL_law_X3_rule : GoodIn wsL_law wsX3_rule := goodIn_r _ [195, 65, 66, 67, 44, 42, 43, 41, 68, 69, 5, 70, 333, 334, 335, 336, 337, 338, 339, 340, 341, 342, 343, 344, 345, 346, 347, 348] (by decide +kernel) (by decide +kernel)
set_option maxRecDepth 20000 in
theorem gL_law_X3_rule : GoodIn wsL_law (wsV RL 44 RX3 yX3_rule wsX3_rule) := goodIn_app (goodIn_of _ (by decide +kernel)) ggL_law_X3_rule
set_option maxRecDepth 20000 in
theorem ggL_law_X2_lay : GoodIn wsL_law wsX2_lay := goodIn_r _ [199, 51, 13, 186, 200, 201, 75, 54, 55, 2, 56, 202, 203, 204, 24, 205, 32, 206, 207, 208, 209, 76, 77, 78, 15, 79, 26, 80, 81, 82, 83, 84, 85, 116, 117, 118, 119, 120, 121, 210, 211, 212, 213, 25, 214, 215, 216, 143, 217, 21, 218, 219, 220, 221, 31, 222, 223, 224, 325, 326, 327, 328, 329, 330, 331, 332, 349, 350, 351, 352, 353, 354, 355, 356] (by decide +kernel) (by decide +kernel)
set_option maxRecDepth 20000 in
theorem gL_law_X2_lay : GoodIn wsL_law (wsV RL 45 RX2 yX2_lay wsX2_lay) := goodIn_app (goodIn_of _ (by decide +kernel)) ggL_law_X2_lay
set_option maxRecDepth 20000 in
theorem ggL_law_X3_lay : GoodIn wsL_law wsX3_lay := goodIn_r _ [228, 65, 44, 229, 42, 230, 40, 38, 43, 41, 37, 68, 69, 5, 70, 94, 95, 96, 97, 45, 98, 126, 127, 128, 129, 46, 130, 333, 334, 335, 336, 337, 338, 339, 340, 341, 342, 343, 344, 345, 346, 347, 348] (by decide +kernel) (by decide +kernel)
set_option maxRecDepth 20000 in
theorem gL_law_X3_lay : GoodIn wsL_law (wsV RL 48 RX3 yX3_lay wsX3_lay) := goodIn_app (goodIn_of _ (by decide +kernel)) ggL_law_X3_lay
set_option maxRecDepth 20000 in
theorem ggL_law_X2_at : GoodIn wsL_law wsX2_at := goodIn_r _ [234, 51, 13, 186, 200, 201, 235, 54, 55, 2, 56, 202, 203, 204, 24, 205, 32, 206, 207, 208, 209, 236, 237, 238, 239, 191, 240, 241, 242, 243, 31, 222, 223, 224, 325, 326, 327, 328, 329, 330, 331, 332, 349, 350, 351, 352, 353, 354, 355, 356] (by decide +kernel) (by decide +kernel)
set_option maxRecDepth 20000 in
theorem gL_law_X2_at : GoodIn wsL_law (wsV RL 49 RX2 yX2_at wsX2_at) := goodIn_app (goodIn_of _ (by decide +kernel)) ggL_law_X2_at
set_option maxRecDepth 20000 in
theorem ggL_law_X3_at : GoodIn wsL_law wsX3_at := goodIn_r _ [247, 65, 44, 229, 42, 230, 43, 248, 41, 68, 69, 5, 70, 333, 334, 335, 336, 337, 338, 339, 340, 341, 342, 343, 344, 345, 346, 347, 348] (by decide +kernel) (by decide +kernel)
set_option maxRecDepth 20000 in
theorem gL_law_X3_at : GoodIn wsL_law (wsV RL 52 RX3 yX3_at wsX3_at) := goodIn_app (goodIn_of _ (by decide +kernel)) ggL_law_X3_at
set_option maxRecDepth 20000 in
theorem ggL_law_X2_head : GoodIn wsL_law wsX2_head := goodIn_r _ [252, 52, 53, 253, 325, 326, 327, 328, 329, 330, 331, 332] (by decide +kernel) (by decide +kernel)
set_option maxRecDepth 20000 in
theorem gL_law_X2_head : GoodIn wsL_law (wsV RL 53 RX2 yX2_head wsX2_head) := goodIn_app (goodIn_of _ (by decide +kernel)) ggL_law_X2_head
set_option maxRecDepth 20000 in
theorem ggL_law_X3_head : GoodIn wsL_law wsX3_head := goodIn_r _ [257, 66, 67, 258, 333, 334, 335, 336, 337, 338, 339, 340, 341, 342, 343, 344, 345, 346, 347, 348] (by decide +kernel) (by decide +kernel)
set_option maxRecDepth 20000 in
theorem gL_law_X3_head : GoodIn wsL_law (wsV RL 56 RX3 yX3_head wsX3_head) := goodIn_app (goodIn_of _ (by decide +kernel)) ggL_law_X3_head
set_option maxRecDepth 20000 in
theorem ggL_law_X2_play : GoodIn wsL_law wsX2_play := goodIn_r _ [262, 53, 52, 13, 253, 111, 112, 113, 114, 15, 115, 26, 263, 264, 265, 2, 266, 267, 268, 269, 270, 271, 272, 273, 274, 275, 276, 277, 278, 279, 280, 281, 282, 283, 284, 325, 326, 327, 328, 329, 330, 331, 332, 349, 350, 351, 352, 353] (by decide +kernel) (by decide +kernel)
set_option maxRecDepth 20000 in
theorem gL_law_X2_play : GoodIn wsL_law (wsV RL 57 RX2 yX2_play wsX2_play) := goodIn_app (goodIn_of _ (by decide +kernel)) ggL_law_X2_play
set_option maxRecDepth 20000 in
theorem ggL_law_X3_play : GoodIn wsL_law wsX3_play := goodIn_r _ [288, 67, 66, 289, 290, 291, 5, 292, 40, 258, 38, 293, 294, 295, 296, 37, 297, 298, 299, 300, 301, 302, 303, 304, 305, 306, 307, 308, 309, 310, 311, 312, 313, 314, 333, 334, 335, 336, 337, 338, 339, 340, 341, 342, 343, 344, 345, 346, 347, 348] (by decide +kernel) (by decide +kernel)
set_option maxRecDepth 20000 in
theorem gL_law_X3_play : GoodIn wsL_law (wsV RL 60 RX3 yX3_play wsX3_play) := goodIn_app (goodIn_of _ (by decide +kernel)) ggL_law_X3_play
set_option maxRecDepth 20000 in
theorem ggL_law_X2_count : GoodIn wsL_law wsX2_count := goodIn_r _ [318, 13, 319, 320, 253, 267, 268, 269, 279, 280, 270, 54, 55, 2, 56, 325, 326, 327, 328, 329, 330, 331, 332, 349, 350, 351, 352, 353] (by decide +kernel) (by decide +kernel)
set_option maxRecDepth 20000 in
theorem gL_law_X2_count : GoodIn wsL_law (wsV RL 61 RX2 yX2_count wsX2_count) := goodIn_app (goodIn_of _ (by decide +kernel)) ggL_law_X2_count
set_option maxRecDepth 20000 in
theorem ggL_law_X3_count : GoodIn wsL_law wsX3_count := goodIn_r _ [324, 45, 46, 258, 298, 299, 297, 313, 314, 300, 333, 334, 335, 336, 337, 338, 339, 340, 341, 342, 343, 344, 345, 346, 347, 348] (by decide +kernel) (by decide +kernel)
set_option maxRecDepth 20000 in
theorem gL_law_X3_count : GoodIn wsL_law (wsV RL 64 RX3 yX3_count wsX3_count) := goodIn_app (goodIn_of _ (by decide +kernel)) ggL_law_X3_count
theorem dL_law_0 : decode cL_law 0 = .ok (.new 7, 3) := by decide +kernel
theorem dL_law_3 : decode cL_law 3 = .ok (.dup, 1) := by decide +kernel
theorem dL_law_4 : decode cL_law 4 = .ok (.invokespecial 9, 3) := by decide +kernel
theorem dL_law_7 : decode cL_law 7 = .ok (.astore_n 1, 1) := by decide +kernel
theorem dL_law_8 : decode cL_law 8 = .ok (.new 10, 3) := by decide +kernel
theorem dL_law_11 : decode cL_law 11 = .ok (.dup, 1) := by decide +kernel
theorem dL_law_12 : decode cL_law 12 = .ok (.invokespecial 12, 3) := by decide +kernel
theorem dL_law_15 : decode cL_law 15 = .ok (.astore_n 2, 1) := by decide +kernel
theorem dL_law_16 : decode cL_law 16 = .ok (.iconst 0, 1) := by decide +kernel
theorem dL_law_17 : decode cL_law 17 = .ok (.istore_n 3, 1) := by decide +kernel
theorem dL_law_18 : decode cL_law 18 = .ok (.iload_n 3, 1) := by decide +kernel
theorem dL_law_19 : decode cL_law 19 = .ok (.aload_n 0, 1) := by decide +kernel
theorem dL_law_20 : decode cL_law 20 = .ok (.arraylength, 1) := by decide +kernel
theorem dL_law_21 : decode cL_law 21 = .ok (.iconst 5, 1) := by decide +kernel
theorem dL_law_22 : decode cL_law 22 = .ok (.isub, 1) := by decide +kernel
theorem dL_law_23 : decode cL_law 23 = .ok (.if_icmp .gt 485, 3) := by decide +kernel
theorem dL_law_26 : decode cL_law 26 = .ok (.aload_n 0, 1) := by decide +kernel
theorem dL_law_27 : decode cL_law 27 = .ok (.iload_n 3, 1) := by decide +kernel
theorem dL_law_28 : decode cL_law 28 = .ok (.iaload, 1) := by decide +kernel
theorem dL_law_29 : decode cL_law 29 = .ok (.bipush 15, 2) := by decide +kernel
theorem dL_law_31 : decode cL_law 31 = .ok (.iand, 1) := by decide +kernel
theorem dL_law_32 : decode cL_law 32 = .ok (.tableswitch 470 0 11 #[64, 97, 120, 143, 176, 219, 272, 315, 358, 401, 424, 447], 64) := by decide +kernel
theorem dL_law_96 : decode cL_law 96 = .ok (.aload_n 1, 1) := by decide +kernel
theorem dL_law_97 : decode cL_law 97 = .ok (.aload_n 0, 1) := by decide +kernel
theorem dL_law_98 : decode cL_law 98 = .ok (.iload_n 3, 1) := by decide +kernel
theorem dL_law_99 : decode cL_law 99 = .ok (.iconst 1, 1) := by decide +kernel
theorem dL_law_100 : decode cL_law 100 = .ok (.iadd, 1) := by decide +kernel
theorem dL_law_101 : decode cL_law 101 = .ok (.iaload, 1) := by decide +kernel
theorem dL_law_102 : decode cL_law 102 = .ok (.aload_n 0, 1) := by decide +kernel
theorem dL_law_103 : decode cL_law 103 = .ok (.iload_n 3, 1) := by decide +kernel
theorem dL_law_104 : decode cL_law 104 = .ok (.iconst 2, 1) := by decide +kernel
theorem dL_law_105 : decode cL_law 105 = .ok (.iadd, 1) := by decide +kernel
theorem dL_law_106 : decode cL_law 106 = .ok (.iaload, 1) := by decide +kernel
theorem dL_law_107 : decode cL_law 107 = .ok (.invokevirtual 13, 3) := by decide +kernel
theorem dL_law_110 : decode cL_law 110 = .ok (.aload_n 2, 1) := by decide +kernel
theorem dL_law_111 : decode cL_law 111 = .ok (.aload_n 0, 1) := by decide +kernel
theorem dL_law_112 : decode cL_law 112 = .ok (.iload_n 3, 1) := by decide +kernel
theorem dL_law_113 : decode cL_law 113 = .ok (.iconst 1, 1) := by decide +kernel
theorem dL_law_114 : decode cL_law 114 = .ok (.iadd, 1) := by decide +kernel
theorem dL_law_115 : decode cL_law 115 = .ok (.iaload, 1) := by decide +kernel
theorem dL_law_116 : decode cL_law 116 = .ok (.aload_n 0, 1) := by decide +kernel
theorem dL_law_117 : decode cL_law 117 = .ok (.iload_n 3, 1) := by decide +kernel
theorem dL_law_118 : decode cL_law 118 = .ok (.iconst 2, 1) := by decide +kernel
theorem dL_law_119 : decode cL_law 119 = .ok (.iadd, 1) := by decide +kernel
theorem dL_law_120 : decode cL_law 120 = .ok (.iaload, 1) := by decide +kernel
theorem dL_law_121 : decode cL_law 121 = .ok (.invokevirtual 17, 3) := by decide +kernel
theorem dL_law_124 : decode cL_law 124 = .ok (.if_icmp .eq 378, 3) := by decide +kernel
theorem dL_law_127 : decode cL_law 127 = .ok (.iconst 0, 1) := by decide +kernel
theorem dL_law_128 : decode cL_law 128 = .ok (.ireturn, 1) := by decide +kernel
theorem dL_law_129 : decode cL_law 129 = .ok (.aload_n 1, 1) := by decide +kernel
theorem dL_law_130 : decode cL_law 130 = .ok (.aload_n 0, 1) := by decide +kernel
theorem dL_law_131 : decode cL_law 131 = .ok (.iload_n 3, 1) := by decide +kernel
theorem dL_law_132 : decode cL_law 132 = .ok (.iconst 1, 1) := by decide +kernel
theorem dL_law_133 : decode cL_law 133 = .ok (.iadd, 1) := by decide +kernel
theorem dL_law_134 : decode cL_law 134 = .ok (.iaload, 1) := by decide +kernel
theorem dL_law_135 : decode cL_law 135 = .ok (.invokevirtual 18, 3) := by decide +kernel
theorem dL_law_138 : decode cL_law 138 = .ok (.aload_n 2, 1) := by decide +kernel
theorem dL_law_139 : decode cL_law 139 = .ok (.aload_n 0, 1) := by decide +kernel
theorem dL_law_140 : decode cL_law 140 = .ok (.iload_n 3, 1) := by decide +kernel
theorem dL_law_141 : decode cL_law 141 = .ok (.iconst 1, 1) := by decide +kernel
theorem dL_law_142 : decode cL_law 142 = .ok (.iadd, 1) := by decide +kernel
theorem dL_law_143 : decode cL_law 143 = .ok (.iaload, 1) := by decide +kernel
theorem dL_law_144 : decode cL_law 144 = .ok (.invokevirtual 22, 3) := by decide +kernel
theorem dL_law_147 : decode cL_law 147 = .ok (.if_icmp .eq 355, 3) := by decide +kernel
theorem dL_law_150 : decode cL_law 150 = .ok (.iconst 0, 1) := by decide +kernel
theorem dL_law_151 : decode cL_law 151 = .ok (.ireturn, 1) := by decide +kernel
theorem dL_law_152 : decode cL_law 152 = .ok (.aload_n 1, 1) := by decide +kernel
theorem dL_law_153 : decode cL_law 153 = .ok (.aload_n 0, 1) := by decide +kernel
theorem dL_law_154 : decode cL_law 154 = .ok (.iload_n 3, 1) := by decide +kernel
theorem dL_law_155 : decode cL_law 155 = .ok (.iconst 1, 1) := by decide +kernel
theorem dL_law_156 : decode cL_law 156 = .ok (.iadd, 1) := by decide +kernel
theorem dL_law_157 : decode cL_law 157 = .ok (.iaload, 1) := by decide +kernel
theorem dL_law_158 : decode cL_law 158 = .ok (.invokevirtual 23, 3) := by decide +kernel
theorem dL_law_161 : decode cL_law 161 = .ok (.aload_n 2, 1) := by decide +kernel
theorem dL_law_162 : decode cL_law 162 = .ok (.aload_n 0, 1) := by decide +kernel
theorem dL_law_163 : decode cL_law 163 = .ok (.iload_n 3, 1) := by decide +kernel
theorem dL_law_164 : decode cL_law 164 = .ok (.iconst 1, 1) := by decide +kernel
theorem dL_law_165 : decode cL_law 165 = .ok (.iadd, 1) := by decide +kernel
theorem dL_law_166 : decode cL_law 166 = .ok (.iaload, 1) := by decide +kernel
theorem dL_law_167 : decode cL_law 167 = .ok (.invokevirtual 26, 3) := by decide +kernel
theorem dL_law_170 : decode cL_law 170 = .ok (.if_icmp .eq 332, 3) := by decide +kernel
theorem dL_law_173 : decode cL_law 173 = .ok (.iconst 0, 1) := by decide +kernel
theorem dL_law_174 : decode cL_law 174 = .ok (.ireturn, 1) := by decide +kernel
theorem dL_law_175 : decode cL_law 175 = .ok (.aload_n 1, 1) := by decide +kernel
theorem dL_law_176 : decode cL_law 176 = .ok (.aload_n 0, 1) := by decide +kernel
theorem dL_law_177 : decode cL_law 177 = .ok (.iload_n 3, 1) := by decide +kernel
theorem dL_law_178 : decode cL_law 178 = .ok (.iconst 1, 1) := by decide +kernel
theorem dL_law_179 : decode cL_law 179 = .ok (.iadd, 1) := by decide +kernel
theorem dL_law_180 : decode cL_law 180 = .ok (.iaload, 1) := by decide +kernel
theorem dL_law_181 : decode cL_law 181 = .ok (.aload_n 0, 1) := by decide +kernel
theorem dL_law_182 : decode cL_law 182 = .ok (.iload_n 3, 1) := by decide +kernel
theorem dL_law_183 : decode cL_law 183 = .ok (.iconst 2, 1) := by decide +kernel
theorem dL_law_184 : decode cL_law 184 = .ok (.iadd, 1) := by decide +kernel
theorem dL_law_185 : decode cL_law 185 = .ok (.iaload, 1) := by decide +kernel
theorem dL_law_186 : decode cL_law 186 = .ok (.invokevirtual 27, 3) := by decide +kernel
theorem dL_law_189 : decode cL_law 189 = .ok (.aload_n 2, 1) := by decide +kernel
theorem dL_law_190 : decode cL_law 190 = .ok (.aload_n 0, 1) := by decide +kernel
theorem dL_law_191 : decode cL_law 191 = .ok (.iload_n 3, 1) := by decide +kernel
theorem dL_law_192 : decode cL_law 192 = .ok (.iconst 1, 1) := by decide +kernel
theorem dL_law_193 : decode cL_law 193 = .ok (.iadd, 1) := by decide +kernel
theorem dL_law_194 : decode cL_law 194 = .ok (.iaload, 1) := by decide +kernel
theorem dL_law_195 : decode cL_law 195 = .ok (.aload_n 0, 1) := by decide +kernel
theorem dL_law_196 : decode cL_law 196 = .ok (.iload_n 3, 1) := by decide +kernel
theorem dL_law_197 : decode cL_law 197 = .ok (.iconst 2, 1) := by decide +kernel
theorem dL_law_198 : decode cL_law 198 = .ok (.iadd, 1) := by decide +kernel
theorem dL_law_199 : decode cL_law 199 = .ok (.iaload, 1) := by decide +kernel
theorem dL_law_200 : decode cL_law 200 = .ok (.invokevirtual 30, 3) := by decide +kernel
theorem dL_law_203 : decode cL_law 203 = .ok (.if_icmp .eq 299, 3) := by decide +kernel
theorem dL_law_206 : decode cL_law 206 = .ok (.iconst 0, 1) := by decide +kernel
theorem dL_law_207 : decode cL_law 207 = .ok (.ireturn, 1) := by decide +kernel
theorem dL_law_208 : decode cL_law 208 = .ok (.aload_n 1, 1) := by decide +kernel
theorem dL_law_209 : decode cL_law 209 = .ok (.aload_n 0, 1) := by decide +kernel
theorem dL_law_210 : decode cL_law 210 = .ok (.iload_n 3, 1) := by decide +kernel
theorem dL_law_211 : decode cL_law 211 = .ok (.iconst 1, 1) := by decide +kernel
theorem dL_law_212 : decode cL_law 212 = .ok (.iadd, 1) := by decide +kernel
theorem dL_law_213 : decode cL_law 213 = .ok (.iaload, 1) := by decide +kernel
theorem dL_law_214 : decode cL_law 214 = .ok (.aload_n 0, 1) := by decide +kernel
theorem dL_law_215 : decode cL_law 215 = .ok (.iload_n 3, 1) := by decide +kernel
theorem dL_law_216 : decode cL_law 216 = .ok (.iconst 2, 1) := by decide +kernel
theorem dL_law_217 : decode cL_law 217 = .ok (.iadd, 1) := by decide +kernel
theorem dL_law_218 : decode cL_law 218 = .ok (.iaload, 1) := by decide +kernel
theorem dL_law_219 : decode cL_law 219 = .ok (.aload_n 0, 1) := by decide +kernel
theorem dL_law_220 : decode cL_law 220 = .ok (.iload_n 3, 1) := by decide +kernel
theorem dL_law_221 : decode cL_law 221 = .ok (.iconst 3, 1) := by decide +kernel
theorem dL_law_222 : decode cL_law 222 = .ok (.iadd, 1) := by decide +kernel
theorem dL_law_223 : decode cL_law 223 = .ok (.iaload, 1) := by decide +kernel
theorem dL_law_224 : decode cL_law 224 = .ok (.invokevirtual 31, 3) := by decide +kernel
theorem dL_law_227 : decode cL_law 227 = .ok (.aload_n 2, 1) := by decide +kernel
theorem dL_law_228 : decode cL_law 228 = .ok (.aload_n 0, 1) := by decide +kernel
theorem dL_law_229 : decode cL_law 229 = .ok (.iload_n 3, 1) := by decide +kernel
theorem dL_law_230 : decode cL_law 230 = .ok (.iconst 1, 1) := by decide +kernel
theorem dL_law_231 : decode cL_law 231 = .ok (.iadd, 1) := by decide +kernel
theorem dL_law_232 : decode cL_law 232 = .ok (.iaload, 1) := by decide +kernel
theorem dL_law_233 : decode cL_law 233 = .ok (.aload_n 0, 1) := by decide +kernel
theorem dL_law_234 : decode cL_law 234 = .ok (.iload_n 3, 1) := by decide +kernel
theorem dL_law_235 : decode cL_law 235 = .ok (.iconst 2, 1) := by decide +kernel
theorem dL_law_236 : decode cL_law 236 = .ok (.iadd, 1) := by decide +kernel
theorem dL_law_237 : decode cL_law 237 = .ok (.iaload, 1) := by decide +kernel
theorem dL_law_238 : decode cL_law 238 = .ok (.aload_n 0, 1) := by decide +kernel
theorem dL_law_239 : decode cL_law 239 = .ok (.iload_n 3, 1) := by decide +kernel
theorem dL_law_240 : decode cL_law 240 = .ok (.iconst 3, 1) := by decide +kernel
theorem dL_law_241 : decode cL_law 241 = .ok (.iadd, 1) := by decide +kernel
theorem dL_law_242 : decode cL_law 242 = .ok (.iaload, 1) := by decide +kernel
theorem dL_law_243 : decode cL_law 243 = .ok (.invokevirtual 35, 3) := by decide +kernel
theorem dL_law_246 : decode cL_law 246 = .ok (.if_icmp .eq 256, 3) := by decide +kernel
theorem dL_law_249 : decode cL_law 249 = .ok (.iconst 0, 1) := by decide +kernel
theorem dL_law_250 : decode cL_law 250 = .ok (.ireturn, 1) := by decide +kernel
theorem dL_law_251 : decode cL_law 251 = .ok (.aload_n 1, 1) := by decide +kernel
theorem dL_law_252 : decode cL_law 252 = .ok (.aload_n 0, 1) := by decide +kernel
theorem dL_law_253 : decode cL_law 253 = .ok (.iload_n 3, 1) := by decide +kernel
theorem dL_law_254 : decode cL_law 254 = .ok (.iconst 1, 1) := by decide +kernel
theorem dL_law_255 : decode cL_law 255 = .ok (.iadd, 1) := by decide +kernel
theorem dL_law_256 : decode cL_law 256 = .ok (.iaload, 1) := by decide +kernel
theorem dL_law_257 : decode cL_law 257 = .ok (.aload_n 0, 1) := by decide +kernel
theorem dL_law_258 : decode cL_law 258 = .ok (.iload_n 3, 1) := by decide +kernel
theorem dL_law_259 : decode cL_law 259 = .ok (.iconst 2, 1) := by decide +kernel
theorem dL_law_260 : decode cL_law 260 = .ok (.iadd, 1) := by decide +kernel
theorem dL_law_261 : decode cL_law 261 = .ok (.iaload, 1) := by decide +kernel
theorem dL_law_262 : decode cL_law 262 = .ok (.aload_n 0, 1) := by decide +kernel
theorem dL_law_263 : decode cL_law 263 = .ok (.iload_n 3, 1) := by decide +kernel
theorem dL_law_264 : decode cL_law 264 = .ok (.iconst 3, 1) := by decide +kernel
theorem dL_law_265 : decode cL_law 265 = .ok (.iadd, 1) := by decide +kernel
theorem dL_law_266 : decode cL_law 266 = .ok (.iaload, 1) := by decide +kernel
theorem dL_law_267 : decode cL_law 267 = .ok (.aload_n 0, 1) := by decide +kernel
theorem dL_law_268 : decode cL_law 268 = .ok (.iload_n 3, 1) := by decide +kernel
theorem dL_law_269 : decode cL_law 269 = .ok (.iconst 4, 1) := by decide +kernel
theorem dL_law_270 : decode cL_law 270 = .ok (.iadd, 1) := by decide +kernel
theorem dL_law_271 : decode cL_law 271 = .ok (.iaload, 1) := by decide +kernel
theorem dL_law_272 : decode cL_law 272 = .ok (.invokevirtual 36, 3) := by decide +kernel
theorem dL_law_275 : decode cL_law 275 = .ok (.aload_n 2, 1) := by decide +kernel
theorem dL_law_276 : decode cL_law 276 = .ok (.aload_n 0, 1) := by decide +kernel
theorem dL_law_277 : decode cL_law 277 = .ok (.iload_n 3, 1) := by decide +kernel
theorem dL_law_278 : decode cL_law 278 = .ok (.iconst 1, 1) := by decide +kernel
theorem dL_law_279 : decode cL_law 279 = .ok (.iadd, 1) := by decide +kernel
theorem dL_law_280 : decode cL_law 280 = .ok (.iaload, 1) := by decide +kernel
theorem dL_law_281 : decode cL_law 281 = .ok (.aload_n 0, 1) := by decide +kernel
theorem dL_law_282 : decode cL_law 282 = .ok (.iload_n 3, 1) := by decide +kernel
theorem dL_law_283 : decode cL_law 283 = .ok (.iconst 2, 1) := by decide +kernel
theorem dL_law_284 : decode cL_law 284 = .ok (.iadd, 1) := by decide +kernel
theorem dL_law_285 : decode cL_law 285 = .ok (.iaload, 1) := by decide +kernel
theorem dL_law_286 : decode cL_law 286 = .ok (.aload_n 0, 1) := by decide +kernel
theorem dL_law_287 : decode cL_law 287 = .ok (.iload_n 3, 1) := by decide +kernel
theorem dL_law_288 : decode cL_law 288 = .ok (.iconst 3, 1) := by decide +kernel
theorem dL_law_289 : decode cL_law 289 = .ok (.iadd, 1) := by decide +kernel
theorem dL_law_290 : decode cL_law 290 = .ok (.iaload, 1) := by decide +kernel
theorem dL_law_291 : decode cL_law 291 = .ok (.aload_n 0, 1) := by decide +kernel
theorem dL_law_292 : decode cL_law 292 = .ok (.iload_n 3, 1) := by decide +kernel
theorem dL_law_293 : decode cL_law 293 = .ok (.iconst 4, 1) := by decide +kernel
theorem dL_law_294 : decode cL_law 294 = .ok (.iadd, 1) := by decide +kernel
theorem dL_law_295 : decode cL_law 295 = .ok (.iaload, 1) := by decide +kernel
theorem dL_law_296 : decode cL_law 296 = .ok (.invokevirtual 40, 3) := by decide +kernel
theorem dL_law_299 : decode cL_law 299 = .ok (.if_icmp .eq 203, 3) := by decide +kernel
theorem dL_law_302 : decode cL_law 302 = .ok (.iconst 0, 1) := by decide +kernel
theorem dL_law_303 : decode cL_law 303 = .ok (.ireturn, 1) := by decide +kernel
theorem dL_law_304 : decode cL_law 304 = .ok (.aload_n 1, 1) := by decide +kernel
theorem dL_law_305 : decode cL_law 305 = .ok (.aload_n 0, 1) := by decide +kernel
theorem dL_law_306 : decode cL_law 306 = .ok (.iload_n 3, 1) := by decide +kernel
theorem dL_law_307 : decode cL_law 307 = .ok (.iconst 1, 1) := by decide +kernel
theorem dL_law_308 : decode cL_law 308 = .ok (.iadd, 1) := by decide +kernel
theorem dL_law_309 : decode cL_law 309 = .ok (.iaload, 1) := by decide +kernel
theorem dL_law_310 : decode cL_law 310 = .ok (.aload_n 0, 1) := by decide +kernel
theorem dL_law_311 : decode cL_law 311 = .ok (.iload_n 3, 1) := by decide +kernel
theorem dL_law_312 : decode cL_law 312 = .ok (.iconst 2, 1) := by decide +kernel
theorem dL_law_313 : decode cL_law 313 = .ok (.iadd, 1) := by decide +kernel
theorem dL_law_314 : decode cL_law 314 = .ok (.iaload, 1) := by decide +kernel
theorem dL_law_315 : decode cL_law 315 = .ok (.aload_n 0, 1) := by decide +kernel
theorem dL_law_316 : decode cL_law 316 = .ok (.iload_n 3, 1) := by decide +kernel
theorem dL_law_317 : decode cL_law 317 = .ok (.iconst 3, 1) := by decide +kernel
theorem dL_law_318 : decode cL_law 318 = .ok (.iadd, 1) := by decide +kernel
theorem dL_law_319 : decode cL_law 319 = .ok (.iaload, 1) := by decide +kernel
theorem dL_law_320 : decode cL_law 320 = .ok (.invokevirtual 41, 3) := by decide +kernel
theorem dL_law_323 : decode cL_law 323 = .ok (.aload_n 2, 1) := by decide +kernel
theorem dL_law_324 : decode cL_law 324 = .ok (.aload_n 0, 1) := by decide +kernel
theorem dL_law_325 : decode cL_law 325 = .ok (.iload_n 3, 1) := by decide +kernel
theorem dL_law_326 : decode cL_law 326 = .ok (.iconst 1, 1) := by decide +kernel
theorem dL_law_327 : decode cL_law 327 = .ok (.iadd, 1) := by decide +kernel
theorem dL_law_328 : decode cL_law 328 = .ok (.iaload, 1) := by decide +kernel
theorem dL_law_329 : decode cL_law 329 = .ok (.aload_n 0, 1) := by decide +kernel
theorem dL_law_330 : decode cL_law 330 = .ok (.iload_n 3, 1) := by decide +kernel
theorem dL_law_331 : decode cL_law 331 = .ok (.iconst 2, 1) := by decide +kernel
theorem dL_law_332 : decode cL_law 332 = .ok (.iadd, 1) := by decide +kernel
theorem dL_law_333 : decode cL_law 333 = .ok (.iaload, 1) := by decide +kernel
theorem dL_law_334 : decode cL_law 334 = .ok (.aload_n 0, 1) := by decide +kernel
theorem dL_law_335 : decode cL_law 335 = .ok (.iload_n 3, 1) := by decide +kernel
theorem dL_law_336 : decode cL_law 336 = .ok (.iconst 3, 1) := by decide +kernel
theorem dL_law_337 : decode cL_law 337 = .ok (.iadd, 1) := by decide +kernel
theorem dL_law_338 : decode cL_law 338 = .ok (.iaload, 1) := by decide +kernel
theorem dL_law_339 : decode cL_law 339 = .ok (.invokevirtual 44, 3) := by decide +kernel
theorem dL_law_342 : decode cL_law 342 = .ok (.if_icmp .eq 160, 3) := by decide +kernel
theorem dL_law_345 : decode cL_law 345 = .ok (.iconst 0, 1) := by decide +kernel
theorem dL_law_346 : decode cL_law 346 = .ok (.ireturn, 1) := by decide +kernel
theorem dL_law_347 : decode cL_law 347 = .ok (.aload_n 1, 1) := by decide +kernel
theorem dL_law_348 : decode cL_law 348 = .ok (.aload_n 0, 1) := by decide +kernel
theorem dL_law_349 : decode cL_law 349 = .ok (.iload_n 3, 1) := by decide +kernel
theorem dL_law_350 : decode cL_law 350 = .ok (.iconst 1, 1) := by decide +kernel
theorem dL_law_351 : decode cL_law 351 = .ok (.iadd, 1) := by decide +kernel
theorem dL_law_352 : decode cL_law 352 = .ok (.iaload, 1) := by decide +kernel
theorem dL_law_353 : decode cL_law 353 = .ok (.aload_n 0, 1) := by decide +kernel
theorem dL_law_354 : decode cL_law 354 = .ok (.iload_n 3, 1) := by decide +kernel
theorem dL_law_355 : decode cL_law 355 = .ok (.iconst 2, 1) := by decide +kernel
theorem dL_law_356 : decode cL_law 356 = .ok (.iadd, 1) := by decide +kernel
theorem dL_law_357 : decode cL_law 357 = .ok (.iaload, 1) := by decide +kernel
theorem dL_law_358 : decode cL_law 358 = .ok (.aload_n 0, 1) := by decide +kernel
theorem dL_law_359 : decode cL_law 359 = .ok (.iload_n 3, 1) := by decide +kernel
theorem dL_law_360 : decode cL_law 360 = .ok (.iconst 3, 1) := by decide +kernel
theorem dL_law_361 : decode cL_law 361 = .ok (.iadd, 1) := by decide +kernel
theorem dL_law_362 : decode cL_law 362 = .ok (.iaload, 1) := by decide +kernel
theorem dL_law_363 : decode cL_law 363 = .ok (.invokevirtual 45, 3) := by decide +kernel
theorem dL_law_366 : decode cL_law 366 = .ok (.aload_n 2, 1) := by decide +kernel
theorem dL_law_367 : decode cL_law 367 = .ok (.aload_n 0, 1) := by decide +kernel
theorem dL_law_368 : decode cL_law 368 = .ok (.iload_n 3, 1) := by decide +kernel
theorem dL_law_369 : decode cL_law 369 = .ok (.iconst 1, 1) := by decide +kernel
theorem dL_law_370 : decode cL_law 370 = .ok (.iadd, 1) := by decide +kernel
theorem dL_law_371 : decode cL_law 371 = .ok (.iaload, 1) := by decide +kernel
theorem dL_law_372 : decode cL_law 372 = .ok (.aload_n 0, 1) := by decide +kernel
theorem dL_law_373 : decode cL_law 373 = .ok (.iload_n 3, 1) := by decide +kernel
theorem dL_law_374 : decode cL_law 374 = .ok (.iconst 2, 1) := by decide +kernel
theorem dL_law_375 : decode cL_law 375 = .ok (.iadd, 1) := by decide +kernel
theorem dL_law_376 : decode cL_law 376 = .ok (.iaload, 1) := by decide +kernel
theorem dL_law_377 : decode cL_law 377 = .ok (.aload_n 0, 1) := by decide +kernel
theorem dL_law_378 : decode cL_law 378 = .ok (.iload_n 3, 1) := by decide +kernel
theorem dL_law_379 : decode cL_law 379 = .ok (.iconst 3, 1) := by decide +kernel
theorem dL_law_380 : decode cL_law 380 = .ok (.iadd, 1) := by decide +kernel
theorem dL_law_381 : decode cL_law 381 = .ok (.iaload, 1) := by decide +kernel
theorem dL_law_382 : decode cL_law 382 = .ok (.invokevirtual 48, 3) := by decide +kernel
theorem dL_law_385 : decode cL_law 385 = .ok (.if_icmp .eq 117, 3) := by decide +kernel
theorem dL_law_388 : decode cL_law 388 = .ok (.iconst 0, 1) := by decide +kernel
theorem dL_law_389 : decode cL_law 389 = .ok (.ireturn, 1) := by decide +kernel
theorem dL_law_390 : decode cL_law 390 = .ok (.aload_n 1, 1) := by decide +kernel
theorem dL_law_391 : decode cL_law 391 = .ok (.aload_n 0, 1) := by decide +kernel
theorem dL_law_392 : decode cL_law 392 = .ok (.iload_n 3, 1) := by decide +kernel
theorem dL_law_393 : decode cL_law 393 = .ok (.iconst 1, 1) := by decide +kernel
theorem dL_law_394 : decode cL_law 394 = .ok (.iadd, 1) := by decide +kernel
theorem dL_law_395 : decode cL_law 395 = .ok (.iaload, 1) := by decide +kernel
theorem dL_law_396 : decode cL_law 396 = .ok (.aload_n 0, 1) := by decide +kernel
theorem dL_law_397 : decode cL_law 397 = .ok (.iload_n 3, 1) := by decide +kernel
theorem dL_law_398 : decode cL_law 398 = .ok (.iconst 2, 1) := by decide +kernel
theorem dL_law_399 : decode cL_law 399 = .ok (.iadd, 1) := by decide +kernel
theorem dL_law_400 : decode cL_law 400 = .ok (.iaload, 1) := by decide +kernel
theorem dL_law_401 : decode cL_law 401 = .ok (.aload_n 0, 1) := by decide +kernel
theorem dL_law_402 : decode cL_law 402 = .ok (.iload_n 3, 1) := by decide +kernel
theorem dL_law_403 : decode cL_law 403 = .ok (.iconst 3, 1) := by decide +kernel
theorem dL_law_404 : decode cL_law 404 = .ok (.iadd, 1) := by decide +kernel
theorem dL_law_405 : decode cL_law 405 = .ok (.iaload, 1) := by decide +kernel
theorem dL_law_406 : decode cL_law 406 = .ok (.invokevirtual 49, 3) := by decide +kernel
theorem dL_law_409 : decode cL_law 409 = .ok (.aload_n 2, 1) := by decide +kernel
theorem dL_law_410 : decode cL_law 410 = .ok (.aload_n 0, 1) := by decide +kernel
theorem dL_law_411 : decode cL_law 411 = .ok (.iload_n 3, 1) := by decide +kernel
theorem dL_law_412 : decode cL_law 412 = .ok (.iconst 1, 1) := by decide +kernel
theorem dL_law_413 : decode cL_law 413 = .ok (.iadd, 1) := by decide +kernel
theorem dL_law_414 : decode cL_law 414 = .ok (.iaload, 1) := by decide +kernel
theorem dL_law_415 : decode cL_law 415 = .ok (.aload_n 0, 1) := by decide +kernel
theorem dL_law_416 : decode cL_law 416 = .ok (.iload_n 3, 1) := by decide +kernel
theorem dL_law_417 : decode cL_law 417 = .ok (.iconst 2, 1) := by decide +kernel
theorem dL_law_418 : decode cL_law 418 = .ok (.iadd, 1) := by decide +kernel
theorem dL_law_419 : decode cL_law 419 = .ok (.iaload, 1) := by decide +kernel
theorem dL_law_420 : decode cL_law 420 = .ok (.aload_n 0, 1) := by decide +kernel
theorem dL_law_421 : decode cL_law 421 = .ok (.iload_n 3, 1) := by decide +kernel
theorem dL_law_422 : decode cL_law 422 = .ok (.iconst 3, 1) := by decide +kernel
theorem dL_law_423 : decode cL_law 423 = .ok (.iadd, 1) := by decide +kernel
theorem dL_law_424 : decode cL_law 424 = .ok (.iaload, 1) := by decide +kernel
theorem dL_law_425 : decode cL_law 425 = .ok (.invokevirtual 52, 3) := by decide +kernel
theorem dL_law_428 : decode cL_law 428 = .ok (.if_icmp .eq 74, 3) := by decide +kernel
theorem dL_law_431 : decode cL_law 431 = .ok (.iconst 0, 1) := by decide +kernel
theorem dL_law_432 : decode cL_law 432 = .ok (.ireturn, 1) := by decide +kernel
theorem dL_law_433 : decode cL_law 433 = .ok (.aload_n 1, 1) := by decide +kernel
theorem dL_law_434 : decode cL_law 434 = .ok (.aload_n 0, 1) := by decide +kernel
theorem dL_law_435 : decode cL_law 435 = .ok (.iload_n 3, 1) := by decide +kernel
theorem dL_law_436 : decode cL_law 436 = .ok (.iconst 1, 1) := by decide +kernel
theorem dL_law_437 : decode cL_law 437 = .ok (.iadd, 1) := by decide +kernel
theorem dL_law_438 : decode cL_law 438 = .ok (.iaload, 1) := by decide +kernel
theorem dL_law_439 : decode cL_law 439 = .ok (.invokevirtual 53, 3) := by decide +kernel
theorem dL_law_442 : decode cL_law 442 = .ok (.aload_n 2, 1) := by decide +kernel
theorem dL_law_443 : decode cL_law 443 = .ok (.aload_n 0, 1) := by decide +kernel
theorem dL_law_444 : decode cL_law 444 = .ok (.iload_n 3, 1) := by decide +kernel
theorem dL_law_445 : decode cL_law 445 = .ok (.iconst 1, 1) := by decide +kernel
theorem dL_law_446 : decode cL_law 446 = .ok (.iadd, 1) := by decide +kernel
theorem dL_law_447 : decode cL_law 447 = .ok (.iaload, 1) := by decide +kernel
theorem dL_law_448 : decode cL_law 448 = .ok (.invokevirtual 56, 3) := by decide +kernel
theorem dL_law_451 : decode cL_law 451 = .ok (.if_icmp .eq 51, 3) := by decide +kernel
theorem dL_law_454 : decode cL_law 454 = .ok (.iconst 0, 1) := by decide +kernel
theorem dL_law_455 : decode cL_law 455 = .ok (.ireturn, 1) := by decide +kernel
theorem dL_law_456 : decode cL_law 456 = .ok (.aload_n 1, 1) := by decide +kernel
theorem dL_law_457 : decode cL_law 457 = .ok (.aload_n 0, 1) := by decide +kernel
theorem dL_law_458 : decode cL_law 458 = .ok (.iload_n 3, 1) := by decide +kernel
theorem dL_law_459 : decode cL_law 459 = .ok (.iconst 1, 1) := by decide +kernel
theorem dL_law_460 : decode cL_law 460 = .ok (.iadd, 1) := by decide +kernel
theorem dL_law_461 : decode cL_law 461 = .ok (.iaload, 1) := by decide +kernel
theorem dL_law_462 : decode cL_law 462 = .ok (.invokevirtual 57, 3) := by decide +kernel
theorem dL_law_465 : decode cL_law 465 = .ok (.aload_n 2, 1) := by decide +kernel
theorem dL_law_466 : decode cL_law 466 = .ok (.aload_n 0, 1) := by decide +kernel
theorem dL_law_467 : decode cL_law 467 = .ok (.iload_n 3, 1) := by decide +kernel
theorem dL_law_468 : decode cL_law 468 = .ok (.iconst 1, 1) := by decide +kernel
theorem dL_law_469 : decode cL_law 469 = .ok (.iadd, 1) := by decide +kernel
theorem dL_law_470 : decode cL_law 470 = .ok (.iaload, 1) := by decide +kernel
theorem dL_law_471 : decode cL_law 471 = .ok (.invokevirtual 60, 3) := by decide +kernel
theorem dL_law_474 : decode cL_law 474 = .ok (.if_icmp .eq 28, 3) := by decide +kernel
theorem dL_law_477 : decode cL_law 477 = .ok (.iconst 0, 1) := by decide +kernel
theorem dL_law_478 : decode cL_law 478 = .ok (.ireturn, 1) := by decide +kernel
theorem dL_law_479 : decode cL_law 479 = .ok (.aload_n 1, 1) := by decide +kernel
theorem dL_law_480 : decode cL_law 480 = .ok (.aload_n 0, 1) := by decide +kernel
theorem dL_law_481 : decode cL_law 481 = .ok (.iload_n 3, 1) := by decide +kernel
theorem dL_law_482 : decode cL_law 482 = .ok (.iconst 1, 1) := by decide +kernel
theorem dL_law_483 : decode cL_law 483 = .ok (.iadd, 1) := by decide +kernel
theorem dL_law_484 : decode cL_law 484 = .ok (.iaload, 1) := by decide +kernel
theorem dL_law_485 : decode cL_law 485 = .ok (.invokevirtual 61, 3) := by decide +kernel
theorem dL_law_488 : decode cL_law 488 = .ok (.aload_n 2, 1) := by decide +kernel
theorem dL_law_489 : decode cL_law 489 = .ok (.aload_n 0, 1) := by decide +kernel
theorem dL_law_490 : decode cL_law 490 = .ok (.iload_n 3, 1) := by decide +kernel
theorem dL_law_491 : decode cL_law 491 = .ok (.iconst 1, 1) := by decide +kernel
theorem dL_law_492 : decode cL_law 492 = .ok (.iadd, 1) := by decide +kernel
theorem dL_law_493 : decode cL_law 493 = .ok (.iaload, 1) := by decide +kernel
theorem dL_law_494 : decode cL_law 494 = .ok (.invokevirtual 64, 3) := by decide +kernel
theorem dL_law_497 : decode cL_law 497 = .ok (.if_icmp .eq 5, 3) := by decide +kernel
theorem dL_law_500 : decode cL_law 500 = .ok (.iconst 0, 1) := by decide +kernel
theorem dL_law_501 : decode cL_law 501 = .ok (.ireturn, 1) := by decide +kernel
theorem dL_law_502 : decode cL_law 502 = .ok (.iinc 3 5, 3) := by decide +kernel
theorem dL_law_505 : decode cL_law 505 = .ok (.goto (-487), 3) := by decide +kernel
theorem dL_law_508 : decode cL_law 508 = .ok (.iconst 1, 1) := by decide +kernel
theorem dL_law_509 : decode cL_law 509 = .ok (.ireturn, 1) := by decide +kernel
abbrev vwCl : List vw_C := [(RX0, TX0, 5), (RX1, TX1, 3), (RX2, TX2, 8), (RX3, TX3, 16)]
end
section
/-! rows of our own over the kit: a method's contract over ONE world, its entry, its end, calls, fields, arrays -/
abbrev wE : Type := va_G × (Nat → ClassId)
abbrev wTy (E : wE) : List (ClassId × FieldType) := [(E.2 0, .int), (E.2 1, .boolean), (E.2 2, .object RX0)]
def wKK (E : wE) (U : State) : Prop := va_K E.1 vwCl (wTy E) U ∧ va_AO RX0 U
theorem wKK.moved {E : wE} {u U : State} (hvm : u.vm.Alike U.vm) (h : wKK E u) : wKK E U := ⟨va_K.moved hvm h.1, va_AO.moved hvm h.2⟩
def wAft (E : wE) (A : Nat → Prop) : va_W → State → Prop := fun w t => va_P E.1 vwCl w t.heap ∧ va_D A w
def wPre (E : wE) (av : List Value) (ws : va_W) (sz : Nat) : Array Value → State → Prop := va_Pc av (fun U => U.heap.size = sz ∧ va_P E.1 vwCl ws U.heap ∧ wKK E U ∧ va_D (fun _ => True) ws)
theorem wPre.blind {E : wE} {av : List Value} {ws : va_W} {sz : Nat} : FrameBlind (wPre E av ws sz) := fun a U g mk q => by
  obtain ⟨q0, q1, qP, qK, qD⟩ := q
  exact ⟨q0, q1, qP, wKK.moved (u := U) (U := U.calling g mk a) (Vm.Alike.refl U.vm) qK, qD⟩
/-- contracts: an int (or boolean) answer, a long one, none -/
def MCi (l : Launch) (E : wE) (y : MethodName) (wy : List Cond) (rm : Room) (av : List Value) (ws : va_W) (post : Int32 → va_W → Prop) : Prop :=
  ∀ sz : Nat, Met l y wy rm (wPre E av ws sz) (va_Qi post (wAft E (va_A ws sz)) (va_A ws sz)) rm.cells rm.slots (va_A ws sz)
def MCl (l : Launch) (E : wE) (y : MethodName) (wy : List Cond) (rm : Room) (av : List Value) (ws : va_W) (post : Int64 → va_W → Prop) : Prop :=
  ∀ sz : Nat, Met l y wy rm (wPre E av ws sz) (va_Ql post (wAft E (va_A ws sz)) (va_A ws sz)) rm.cells rm.slots (va_A ws sz)
def MCv (l : Launch) (E : wE) (y : MethodName) (wy : List Cond) (rm : Room) (av : List Value) (ws : va_W) (post : va_W → Prop) : Prop :=
  ∀ sz : Nat, Met l y wy rm (wPre E av ws sz) (va_Qv post (wAft E (va_A ws sz)) (va_A ws sz)) rm.cells rm.slots (va_A ws sz)
/-- what a walk stands on -/
def wC (p : Program) (s : State) (m : MethodId) (args : Array Value) (meth : Method) (c : Code) (cc : ByteArray) (nL : Nat) (ret : Option FieldType) (own : String) (Ts : List Cond) (E : wE) (A : Nat → Prop) : Prop :=
  p.tables.exec = Jvm.exec ∧ c.code = cc ∧ meth.sig.returnType = ret ∧ c.maxLocals = nL ∧ s.vm.findClass own = some m.cls ∧ (∀ w ∈ Ts, w.before args s = true) ∧ meth.locks = false ∧ wKK E s ∧ (∀ q : Nat, s.heap.size ≤ q → A q)
/-- the world at a heap -/
def wW (E : wE) (A : Nat → Prop) (s : State) (ws : va_W) (H : Heap) (locs : List Loc) : Prop := va_P E.1 vwCl ws H ∧ va_D A ws ∧ va_S A s.heap H locs
theorem wW.to {E : wE} {A : Nat → Prop} {s : State} {ws ws' : va_W} {H : Heap} {locs : List Loc} (h : wW E A s ws H locs) (e : ws = ws') : wW E A s ws' H locs := e ▸ h
section WEnter
variable {l : Launch} {E : wE} {y : MethodName} {wy wy' : List Cond} {rm : Room} {av : List Value} {ws : va_W} {cc : ByteArray} {nL : Nat} {ret : Option FieldType} {own : String}
theorem wEnterI {post : Int32 → va_W → Prop} (hy : plainName y.cls = true) (hw : wy = Cond.code y cc nL ret :: wy') (ho : y.cls = own) (hav : (lg_sl av).length ≤ nL)
    (body : ∀ (p : Program) (e : Env) (s : State) (m : MethodId) (below : List Frame) (meth : Method) (c : Code) (A : Nat → Prop) (ls : Array Slot), wC p s m av.toArray meth c cc nL ret own wy E A → lv_has ls nL (lv_args 0 av) → wW E A s ws s.heap [] →
      W p l e rm s m av.toArray below meth c s.heap [] 0 0 (MQ below (va_Qi post (wAft E A) A) av.toArray s rm.cells rm.slots A) (F0 m 0 ls [])) : MCi l E y wy rm av ws post := by
  intro sz
  refine Met.ofW (cc := cc) (maxL := nL) (ret := ret) hy hw ?_
  intro p e s m args below meth c s₁ B hml hv
  obtain ⟨rfl, hsz, hP, hK, hD0⟩ := hv
  subst hsz
  have hown : s.vm.findClass own = some m.cls := ho ▸ findClass_of_methodNamed B.named
  have hts := atoms_spec (ws := wy) B.pre
  rw [lg_entry_eq]
  exact body p e s m below meth c _ _ ⟨B.exec, B.bytes, B.returns, hml, hown, hts, B.notSynchronized, hK, fun q h => Or.inr h⟩ (lv_entry av hav) ⟨hP, hD0.self, va_S.rf⟩
theorem wEnterL {post : Int64 → va_W → Prop} (hy : plainName y.cls = true) (hw : wy = Cond.code y cc nL ret :: wy') (ho : y.cls = own) (hav : (lg_sl av).length ≤ nL)
    (body : ∀ (p : Program) (e : Env) (s : State) (m : MethodId) (below : List Frame) (meth : Method) (c : Code) (A : Nat → Prop) (ls : Array Slot), wC p s m av.toArray meth c cc nL ret own wy E A → lv_has ls nL (lv_args 0 av) → wW E A s ws s.heap [] →
      W p l e rm s m av.toArray below meth c s.heap [] 0 0 (MQ below (va_Ql post (wAft E A) A) av.toArray s rm.cells rm.slots A) (F0 m 0 ls [])) : MCl l E y wy rm av ws post := by
  intro sz
  refine Met.ofW (cc := cc) (maxL := nL) (ret := ret) hy hw ?_
  intro p e s m args below meth c s₁ B hml hv
  obtain ⟨rfl, hsz, hP, hK, hD0⟩ := hv
  subst hsz
  have hown : s.vm.findClass own = some m.cls := ho ▸ findClass_of_methodNamed B.named
  have hts := atoms_spec (ws := wy) B.pre
  rw [lg_entry_eq]
  exact body p e s m below meth c _ _ ⟨B.exec, B.bytes, B.returns, hml, hown, hts, B.notSynchronized, hK, fun q h => Or.inr h⟩ (lv_entry av hav) ⟨hP, hD0.self, va_S.rf⟩
theorem wEnterV {post : va_W → Prop} (hy : plainName y.cls = true) (hw : wy = Cond.code y cc nL ret :: wy') (ho : y.cls = own) (hav : (lg_sl av).length ≤ nL)
    (body : ∀ (p : Program) (e : Env) (s : State) (m : MethodId) (below : List Frame) (meth : Method) (c : Code) (A : Nat → Prop) (ls : Array Slot), wC p s m av.toArray meth c cc nL ret own wy E A → lv_has ls nL (lv_args 0 av) → wW E A s ws s.heap [] → meth.name = y.name →
      W p l e rm s m av.toArray below meth c s.heap [] 0 0 (MQ below (va_Qv post (wAft E A) A) av.toArray s rm.cells rm.slots A) (F0 m 0 ls [])) : MCv l E y wy rm av ws post := by
  intro sz
  refine Met.ofW (cc := cc) (maxL := nL) (ret := ret) hy hw ?_
  intro p e s m args below meth c s₁ B hml hv
  obtain ⟨rfl, hsz, hP, hK, hD0⟩ := hv
  subst hsz
  have hown : s.vm.findClass own = some m.cls := ho ▸ findClass_of_methodNamed B.named
  have hts := atoms_spec (ws := wy) B.pre
  have hin : meth.name = y.name := (name_of_methodNamed B.named B.method).1
  rw [lg_entry_eq]
  exact body p e s m below meth c _ _ ⟨B.exec, B.bytes, B.returns, hml, hown, hts, B.notSynchronized, hK, fun q h => Or.inr h⟩ (lv_entry av hav) ⟨hP, hD0.self, va_S.rf⟩ hin
end WEnter
section WRet
variable {p : Program} {l : Launch} {e : Env} {R : Room} {s : State} {m : MethodId} {args : Array Value} {below : List Frame} {meth : Method} {c : Code} {H : Heap} {locs : List Loc} {cells slots : Nat}
variable {cc : ByteArray} {nL : Nat} {own : String} {Ts : List Cond} {E : wE} {A : Nat → Prop} {ws : va_W} {pc : Nat} {ls : Array Slot}
theorem wRetI {post : Int32 → va_W → Prop} {v : Int32} (K : wC p s m args meth c cc nL (some .int) own Ts E A) (w : wW E A s ws H locs) (hdg : decode cc pc = .ok (.ireturn, 1)) (hp : post v ws) :
    W p l e R s m args below meth c H locs cells slots (MQ below (va_Qi post (wAft E A) A) args s cells slots A) (F0 m pc ls [.int v]) :=
  W.iret (v := v) K.1 K.2.1 K.2.2.1 (fun t ht _ => ⟨⟨v, ws, rfl, hp, by rw [ht]; exact w.1, w.2.1⟩, w.2.2.F ht⟩) w.2.2.2.2 hdg K.2.2.2.2.2.2.1
theorem wRetZ {post : Int32 → va_W → Prop} {v : Int32} (K : wC p s m args meth c cc nL (some .boolean) own Ts E A) (w : wW E A s ws H locs) (hdg : decode cc pc = .ok (.ireturn, 1)) (hn : narrow .boolean (.int v) = .int v) (hp : post v ws) :
    W p l e R s m args below meth c H locs cells slots (MQ below (va_Qi post (wAft E A) A) args s cells slots A) (F0 m pc ls [.int v]) :=
  W.zret (v := v) K.1 K.2.1 K.2.2.1 hn (fun t ht _ => ⟨⟨v, ws, rfl, hp, by rw [ht]; exact w.1, w.2.1⟩, w.2.2.F ht⟩) w.2.2.2.2 hdg K.2.2.2.2.2.2.1
theorem wRetL {post : Int64 → va_W → Prop} {v : Int64} (K : wC p s m args meth c cc nL (some .long) own Ts E A) (w : wW E A s ws H locs) (hdg : decode cc pc = .ok (.lreturn, 1)) (hp : post v ws) :
    W p l e R s m args below meth c H locs cells slots (MQ below (va_Ql post (wAft E A) A) args s cells slots A) (F0 m pc ls [.long v]) :=
  W.lret (v := v) K.1 K.2.1 K.2.2.1 (fun t ht _ => ⟨⟨v, ws, rfl, hp, by rw [ht]; exact w.1, w.2.1⟩, w.2.2.F ht⟩) w.2.2.2.2 hdg K.2.2.2.2.2.2.1
theorem wRetV {post : va_W → Prop} (K : wC p s m args meth c cc nL none own Ts E A) (w : wW E A s ws H locs) (hdg : decode cc pc = .ok (.return_, 1)) (hp : post ws) :
    W p l e R s m args below meth c H locs cells slots (MQ below (va_Qv post (wAft E A) A) args s cells slots A) (F0 m pc ls []) :=
  W.vret K.1 K.2.1 K.2.2.1 (fun t ht _ => ⟨⟨ws, rfl, hp, by rw [ht]; exact w.1, w.2.1⟩, w.2.2.F ht⟩) w.2.2.2.2 hdg K.2.2.2.2.2.2.1
end WRet
section WRow
variable {p : Program} {l : Launch} {e : Env} {R : Room} {s : State} {m : MethodId} {args : Array Value} {below : List Frame} {meth : Method} {c : Code} {H : Heap} {locs : List Loc} {cells slots : Nat} {Q : State → Prop}
variable {cc : ByteArray} {nL : Nat} {ret : Option FieldType} {own : String} {Ts : List Cond} {E : wE} {A : Nat → Prop} {ws ws' : va_W} {pc : Nat} {ls : Array Slot} {rest : List Value} {a : Nat}
theorem wGet (K : wC p s m args meth c cc nL ret own Ts E A) (w : wW E A s ws H locs) {C : String} {T : u_T} {N ci index q0 : Nat} (hin : ∀ x ∈ u_ws C T N, x ∈ Ts) {fs : List Value} (he : ws[q0]? = some (a, .inr (ci, fs))) (hc : vwCl[ci]? = some (C, T, N)) (k : Nat) (hk : k < N) (hlink : Cond.fieldLink own index (T k).1 (T k).2.1 (T k).2.2.1 ∈ Ts) {v : Value} (hv : fs[k]? = some v) (hdg : decode cc pc = .ok (.getfield index, 3))
    (kk : W p l e R s m args below meth c H locs cells slots Q (F0 m (pc + 3) ls (v :: rest))) : W p l e R s m args below meth c H locs cells slots Q (F0 m pc ls (.ref a :: rest)) :=
  va_get (D := E.1) K.1 K.2.1 K.2.2.2.2.2.1 hin K.2.2.2.2.1 K.2.2.2.2.2.2.2.1.1 w.1 q0 he hc k hk (K.2.2.2.2.2.1 _ hlink) (fun _ h => h) hv hdg kk
theorem wPut (K : wC p s m args meth c cc nL ret own Ts E A) (w : wW E A s ws H locs) {C : String} {T : u_T} {N ci index q0 : Nat} (hin : ∀ x ∈ u_ws C T N, x ∈ Ts) (ty0 : Nat → FieldType) (hty : ∀ k, k < N → parseFieldDescriptor (T k).2.2.1 = some (ty0 k)) (hnm : ∀ a, a < N → ∀ b, b < N → a ≠ b → (T a).2.1 ≠ (T b).2.1) {fs : List Value} (he : ws[q0]? = some (a, .inr (ci, fs))) (hc : vwCl[ci]? = some (C, T, N)) (k : Nat) (hk : k < N) (hlink : Cond.fieldLink own index (T k).1 (T k).2.1 (T k).2.2.1 ∈ Ts) (hfin : (T k).2.2.2 = false) {ty : FieldType} {v : Value} (hd : parseFieldDescriptor (T k).2.2.1 = some ty) (hn : narrow ty v = v) (hfit : fits ty v = true) (hl : k < fs.length) (hdg : decode cc pc = .ok (.putfield index, 3)) (hnew : ws.set q0 (a, .inr (ci, fs.set k v)) = ws')
    (kk : ∀ (H1 : Heap) (locs1 : List Loc), wW E A s ws' H1 locs1 → W p l e R s m args below meth c H1 locs1 cells slots Q (F0 m (pc + 3) ls rest)) : W p l e R s m args below meth c H locs cells slots Q (F0 m pc ls (v :: .ref a :: rest)) :=
  va_put (D := E.1) K.1 K.2.1 K.2.2.2.2.2.1 hin ty0 hty hnm K.2.2.2.2.1 K.2.2.2.2.2.2.2.1.1 w.1 w.2.1 w.2.2 q0 he hc k hk (K.2.2.2.2.2.1 _ hlink) (fun _ h => h) hfin hd hn hfit hl hdg (fun H1 locs1 hP hD hS => kk H1 locs1 (hnew ▸ ⟨hP, hD, hS⟩))
theorem wPutF (K : wC p s m args meth c cc nL ret own Ts E A) (w : wW E A s ws H locs) {C : String} {T : u_T} {N ci index q0 : Nat} (hin : ∀ x ∈ u_ws C T N, x ∈ Ts) (ty0 : Nat → FieldType) (hty : ∀ k, k < N → parseFieldDescriptor (T k).2.2.1 = some (ty0 k)) (hnm : ∀ a, a < N → ∀ b, b < N → a ≠ b → (T a).2.1 ≠ (T b).2.1) {fs : List Value} (he : ws[q0]? = some (a, .inr (ci, fs))) (hc : vwCl[ci]? = some (C, T, N)) (k : Nat) (hk : k < N) (hlink : Cond.fieldLink own index (T k).1 (T k).2.1 (T k).2.2.1 ∈ Ts) (hfin : (T k).2.2.2 = true) (hin2 : meth.name = "<init>") (hdecl : (T k).1 = own) {ty : FieldType} {v : Value} (hd : parseFieldDescriptor (T k).2.2.1 = some ty) (hn : narrow ty v = v) (hfit : fits ty v = true) (hl : k < fs.length) (hdg : decode cc pc = .ok (.putfield index, 3)) (hnew : ws.set q0 (a, .inr (ci, fs.set k v)) = ws')
    (kk : ∀ (H1 : Heap) (locs1 : List Loc), wW E A s ws' H1 locs1 → W p l e R s m args below meth c H1 locs1 cells slots Q (F0 m (pc + 3) ls rest)) : W p l e R s m args below meth c H locs cells slots Q (F0 m pc ls (v :: .ref a :: rest)) :=
  va_putF (D := E.1) K.1 K.2.1 K.2.2.2.2.2.1 hin ty0 hty hnm K.2.2.2.2.1 K.2.2.2.2.2.2.2.1.1 w.1 w.2.1 w.2.2 q0 he hc k hk (K.2.2.2.2.2.1 _ hlink) (fun _ h => h) hfin hin2 hdecl hd hn hfit hl hdg (fun H1 locs1 hP hD hS => kk H1 locs1 (hnew ▸ ⟨hP, hD, hS⟩))
theorem wIald (K : wC p s m args meth c cc nL ret own Ts E A) (w : wW E A s ws H locs) {q0 n : Nat} {f : Nat → Int32} (he : ws[q0]? = some (a, .inl (E.2 0, n, .inl f))) {i : Int32} (hin : vp_in i n) {v : Int32} (hv : f i.toNatClampNeg = v) (hdg : decode cc pc = .ok (.iaload, 1))
    (kk : W p l e R s m args below meth c H locs cells slots Q (F0 m (pc + 1) ls (.int v :: rest))) : W p l e R s m args below meth c H locs cells slots Q (F0 m pc ls (.int i :: .ref a :: rest)) := by
  subst hv
  exact va_iald K.1 K.2.1 K.2.2.2.2.2.2.2.1.1 w.1 q0 0 he rfl hin hdg kk
theorem wZald (K : wC p s m args meth c cc nL ret own Ts E A) (w : wW E A s ws H locs) {q0 n : Nat} {f : Nat → Int32} (he : ws[q0]? = some (a, .inl (E.2 1, n, .inl f))) {i : Int32} (hin : vp_in i n) {v : Int32} (hv : f i.toNatClampNeg = v) (hdg : decode cc pc = .ok (.baload, 1))
    (kk : W p l e R s m args below meth c H locs cells slots Q (F0 m (pc + 1) ls (.int v :: rest))) : W p l e R s m args below meth c H locs cells slots Q (F0 m pc ls (.int i :: .ref a :: rest)) := by
  subst hv
  exact va_zald K.1 K.2.1 K.2.2.2.2.2.2.2.1.1 w.1 q0 1 he rfl hin hdg kk
theorem wAald (K : wC p s m args meth c cc nL ret own Ts E A) (w : wW E A s ws H locs) {q0 n r : Nat} {f : Nat → Option Nat} (he : ws[q0]? = some (a, .inl (E.2 2, n, .inr (.inr (.inr (.inr f)))))) {i : Int32} (hin : vp_in i n) (hv : f i.toNatClampNeg = some r) (hdg : decode cc pc = .ok (.aaload, 1))
    (kk : W p l e R s m args below meth c H locs cells slots Q (F0 m (pc + 1) ls (.ref r :: rest))) : W p l e R s m args below meth c H locs cells slots Q (F0 m pc ls (.int i :: .ref a :: rest)) :=
  va_aldq K.1 K.2.1 K.2.2.2.2.2.2.2.1.1 w.1 q0 2 he rfl hin hdg (by rw [hv]; exact kk)
theorem wIast (K : wC p s m args meth c cc nL ret own Ts E A) (w : wW E A s ws H locs) {q0 n : Nat} {f : Nat → Int32} (he : ws[q0]? = some (a, .inl (E.2 0, n, .inl f))) {i x : Int32} (hin : vp_in i n) (hdg : decode cc pc = .ok (.iastore, 1)) (hnew : ws.set q0 (a, .inl (E.2 0, n, .inl (upd f i.toNatClampNeg x))) = ws')
    (kk : ∀ (H1 : Heap) (locs1 : List Loc), wW E A s ws' H1 locs1 → W p l e R s m args below meth c H1 locs1 cells slots Q (F0 m (pc + 1) ls rest)) : W p l e R s m args below meth c H locs cells slots Q (F0 m pc ls (.int x :: .int i :: .ref a :: rest)) :=
  va_iast K.1 K.2.1 K.2.2.2.2.2.2.2.1.1 w.1 w.2.1 w.2.2 q0 0 he rfl hin hdg (fun H1 locs1 hP hD hS => kk H1 locs1 (hnew ▸ ⟨hP, hD, hS⟩))
theorem wZast (K : wC p s m args meth c cc nL ret own Ts E A) (w : wW E A s ws H locs) {q0 n : Nat} {f : Nat → Int32} (he : ws[q0]? = some (a, .inl (E.2 1, n, .inl f))) {i x : Int32} (hin : vp_in i n) (hdg : decode cc pc = .ok (.bastore, 1)) (hx : vp_nar .boolean x = x) (hnew : ws.set q0 (a, .inl (E.2 1, n, .inl (upd f i.toNatClampNeg x))) = ws')
    (kk : ∀ (H1 : Heap) (locs1 : List Loc), wW E A s ws' H1 locs1 → W p l e R s m args below meth c H1 locs1 cells slots Q (F0 m (pc + 1) ls rest)) : W p l e R s m args below meth c H locs cells slots Q (F0 m pc ls (.int x :: .int i :: .ref a :: rest)) :=
  va_zast K.1 K.2.1 K.2.2.2.2.2.2.2.1.1 w.1 w.2.1 w.2.2 q0 1 he rfl hin hdg (fun H1 locs1 hP hD hS => kk H1 locs1 (by rw [hx, hnew] at hP hD; exact ⟨hP, hD, hS⟩))
theorem wAast (K : wC p s m args meth c cc nL ret own Ts E A) (w : wW E A s ws H locs) {q0 qk n v : Nat} {vs : List Value} {f : Nat → Option Nat} (he : ws[q0]? = some (a, .inl (E.2 2, n, .inr (.inr (.inr (.inr f)))))) (hv : ws[qk]? = some (v, .inr (0, vs))) {i : Int32} (hin : vp_in i n) (hdg : decode cc pc = .ok (.aastore, 1)) (hnew : ws.set q0 (a, .inl (E.2 2, n, .inr (.inr (.inr (.inr (va_up f i.toNatClampNeg (some v))))))) = ws')
    (kk : ∀ (H1 : Heap) (locs1 : List Loc), wW E A s ws' H1 locs1 → W p l e R s m args below meth c H1 locs1 cells slots Q (F0 m (pc + 1) ls rest)) : W p l e R s m args below meth c H locs cells slots Q (F0 m pc ls (.ref v :: .int i :: .ref a :: rest)) :=
  va_astq (r := (RX0, TX0, 5)) K.1 K.2.1 K.2.2.2.2.2.2.2.1.1 w.1 w.2.1 w.2.2 q0 2 qk 0 he rfl hv rfl hin hdg (fun H1 locs1 hP hD hS => kk H1 locs1 (hnew ▸ ⟨hP, hD, hS⟩))
theorem wAlen (K : wC p s m args meth c cc nL ret own Ts E A) (w : wW E A s ws H locs) {q0 n : Nat} {f : Nat → Int32} (he : ws[q0]? = some (a, .inl (E.2 0, n, .inl f))) {v : Int32} (hv : Int32.ofNat n = v) (hdg : decode cc pc = .ok (.arraylength, 1))
    (kk : W p l e R s m args below meth c H locs cells slots Q (F0 m (pc + 1) ls (.int v :: rest))) : W p l e R s m args below meth c H locs cells slots Q (F0 m pc ls (.ref a :: rest)) :=
  va_alen (x := (n, .inl f)) (ty := .int) K.1 K.2.1 K.2.2.2.2.2.2.2.1.1 w.1 q0 0 he rfl hv hdg kk
theorem wNew {N ci index : Nat} {C : String} {T : u_T} (K : wC p s m args meth c cc nL ret own Ts E A) (w : wW E A s ws H locs) (hin : ∀ x ∈ u_ws C T N, x ∈ Ts) (ty : Nat → FieldType) (hty : ∀ k, k < N → parseFieldDescriptor (T k).2.2.1 = some (ty k)) (hcl : Cond.classLink own index C ∈ Ts) (hinst : Cond.instantiable C N ∈ Ts) (hini : Cond.initialized C ∈ Ts) (hc : vwCl[ci]? = some (C, T, N)) {fs : List Value} (hfs : ∀ j, j < N → defaultValue (ty j) = vp_V fs j) {cells1 slots1 : Nat} (e1 : cells + 1 = cells1) (e2 : slots + N = slots1) (hcells : cells1 ≤ R.cells) (hslots : slots1 ≤ R.slots) (hdg : decode cc pc = .ok (.new index, 3))
    (kk : ∀ (q : Nat) (H1 : Heap), wW E A s (ws ++ [(q, .inr (ci, fs))]) H1 locs → W p l e R s m args below meth c H1 locs cells1 slots1 Q (F0 m (pc + 3) ls (.ref q :: rest))) : W p l e R s m args below meth c H locs cells slots Q (F0 m pc ls rest) := by
  subst e1; subst e2
  exact va_new (D := E.1) (cl := vwCl) K.1 K.2.1 K.2.2.2.2.2.1 hin ty hty K.2.2.2.2.1 (K.2.2.2.2.2.1 _ hcl) (K.2.2.2.2.2.1 _ hinst) (K.2.2.2.2.2.1 _ hini) K.2.2.2.2.2.2.2.1.1 w.1 w.2.1 w.2.2 K.2.2.2.2.2.2.2.2 hc hfs hcells hslots hdg (fun q H1 hP hD hS => kk q H1 ⟨hP, hD, hS⟩)
theorem wNewI {n : Int32} {N' : Nat} (K : wC p s m args meth c cc nL ret own Ts E A) (w : wW E A s ws H locs) (harr : Cond.arrayClass .int ∈ Ts) (hn : ¬ n < 0) (hN : n.toNatClampNeg = N') (hbytes : N' * 4 ≤ 536870912) {cells1 slots1 : Nat} (e1 : cells + 1 = cells1) (e2 : slots + N' = slots1) (hcells : cells1 ≤ R.cells) (hslots : slots1 ≤ R.slots) (hdg : decode cc pc = .ok (.newarray .int, 2))
    (kk : ∀ (q : Nat) (H1 : Heap), wW E A s (ws ++ [(q, .inl (E.2 0, N', .inl (fun _ => 0)))]) H1 locs → W p l e R s m args below meth c H1 locs cells1 slots1 Q (F0 m (pc + 2) ls (.ref q :: rest))) : W p l e R s m args below meth c H locs cells slots Q (F0 m pc ls (.int n :: rest)) := by
  subst e1; subst e2
  have hK := K.2.2.2.2.2.2.2.1.1
  refine va_newa (D := E.1) (cl := vwCl) (atype := .int) (ty := .int) (a0 := (N', .inl (fun _ => 0))) K.1 K.2.1 (K.2.2.2.2.2.1 _ harr) rfl hK w.1 w.2.1 w.2.2 K.2.2.2.2.2.2.2.2 (fun cA => by rw [vp_cell_i]; rfl) hn hN hbytes hcells hslots hdg (fun q cA H1 hK1 hP hD hS => ?_)
  have h1 : s.vm.findClass ("[" ++ FieldType.int.toString) = some cA := (hK1.2 3 (cA, .int) rfl).2
  have h2 : s.vm.findClass ("[" ++ FieldType.int.toString) = some (E.2 0) := (hK.2 0 (E.2 0, .int) rfl).2
  obtain rfl : cA = E.2 0 := Option.some.inj (h1.symm.trans h2)
  exact kk q H1 ⟨hP, hD, hS⟩
theorem wNewZ {n : Int32} {N' : Nat} (K : wC p s m args meth c cc nL ret own Ts E A) (w : wW E A s ws H locs) (harr : Cond.arrayClass .boolean ∈ Ts) (hn : ¬ n < 0) (hN : n.toNatClampNeg = N') (hbytes : N' * 1 ≤ 536870912) {cells1 slots1 : Nat} (e1 : cells + 1 = cells1) (e2 : slots + N' = slots1) (hcells : cells1 ≤ R.cells) (hslots : slots1 ≤ R.slots) (hdg : decode cc pc = .ok (.newarray .boolean, 2))
    (kk : ∀ (q : Nat) (H1 : Heap), wW E A s (ws ++ [(q, .inl (E.2 1, N', .inl (fun _ => 0)))]) H1 locs → W p l e R s m args below meth c H1 locs cells1 slots1 Q (F0 m (pc + 2) ls (.ref q :: rest))) : W p l e R s m args below meth c H locs cells slots Q (F0 m pc ls (.int n :: rest)) := by
  subst e1; subst e2
  have hK := K.2.2.2.2.2.2.2.1.1
  refine va_newa (D := E.1) (cl := vwCl) (atype := .boolean) (ty := .boolean) (a0 := (N', .inl (fun _ => 0))) K.1 K.2.1 (K.2.2.2.2.2.1 _ harr) rfl hK w.1 w.2.1 w.2.2 K.2.2.2.2.2.2.2.2 (fun cA => by rw [vp_cell_i]; rfl) hn hN hbytes hcells hslots hdg (fun q cA H1 hK1 hP hD hS => ?_)
  have h1 : s.vm.findClass ("[" ++ FieldType.boolean.toString) = some cA := (hK1.2 3 (cA, .boolean) rfl).2
  have h2 : s.vm.findClass ("[" ++ FieldType.boolean.toString) = some (E.2 1) := (hK.2 1 (E.2 1, .boolean) rfl).2
  obtain rfl : cA = E.2 1 := Option.some.inj (h1.symm.trans h2)
  exact kk q H1 ⟨hP, hD, hS⟩
theorem wNewA {n : Int32} {N' index : Nat} (K : wC p s m args meth c cc nL ret own Ts E A) (w : wW E A s ws H locs) (hcl : Cond.classLink own index RX0 ∈ Ts) (hn : ¬ n < 0) (hN : n.toNatClampNeg = N') (hbytes : N' * 4 ≤ 536870912) {cells1 slots1 : Nat} (e1 : cells + 1 = cells1) (e2 : slots + N' = slots1) (hcells : cells1 ≤ R.cells) (hslots : slots1 ≤ R.slots) (hdg : decode cc pc = .ok (.anewarray index, 3))
    (kk : ∀ (q : Nat) (H1 : Heap), wW E A s (ws ++ [(q, .inl (E.2 2, N', .inr (.inr (.inr (.inr (fun _ => none))))))]) H1 locs → W p l e R s m args below meth c H1 locs cells1 slots1 Q (F0 m (pc + 3) ls (.ref q :: rest))) : W p l e R s m args below meth c H locs cells slots Q (F0 m pc ls (.int n :: rest)) := by
  subst e1; subst e2
  have hK := K.2.2.2.2.2.2.2.1.1
  refine va_newq (D := E.1) (cl := vwCl) K.1 K.2.1 K.2.2.2.2.1 (K.2.2.2.2.2.1 _ hcl) K.2.2.2.2.2.2.2.1.2 hK w.1 w.2.1 w.2.2 K.2.2.2.2.2.2.2.2 hn hN hbytes hcells hslots hdg (fun q cA H1 hK1 hP hD hS => ?_)
  obtain ⟨_, _, -, -, -, h1⟩ := (hK1.2 3 (cA, .object RX0) rfl).2
  obtain ⟨_, _, -, -, -, h2⟩ := (hK.2 2 (E.2 2, .object RX0) rfl).2
  obtain rfl : cA = E.2 2 := Option.some.inj (h1.symm.trans h2)
  exact kk q H1 ⟨hP, hD, hS⟩
end WRow
end
section
/-! calls: over the whole world, and with a frame kept (the callee's world on the left, or on the right) -/
theorem fr_apL {D : va_G} {cl : List vw_C} {A : Nat → Prop} {a b : va_W} {H : Heap} (hP : va_P D cl (a ++ b) H) (hD : va_D A (a ++ b)) : ∀ (k : Nat) (q : Nat × va_E), b[k]? = some q → q.1 < H.size ∧ ¬ va_A a H.size q.1 := by
  intro k q hq
  have hb : (a ++ b)[a.length + k]? = some q := by rw [List.getElem?_append_right (by omega)]; rw [show a.length + k - a.length = k by omega]; exact hq
  have hl := (hP _ q hb).lt
  refine ⟨hl, fun h => ?_⟩
  rcases h with ⟨k2, e, h⟩ | h
  · have hk2 : k2 < a.length := (List.getElem?_eq_some_iff.mp h).1
    have ha : (a ++ b)[k2]? = some (q.1, e) := by rw [List.getElem?_append_left hk2]; exact h
    have := hD.1 _ _ _ _ ha hb rfl
    omega
  · omega
theorem fr_apR {D : va_G} {cl : List vw_C} {A : Nat → Prop} {a b : va_W} {H : Heap} (hP : va_P D cl (a ++ b) H) (hD : va_D A (a ++ b)) : ∀ (k : Nat) (q : Nat × va_E), a[k]? = some q → q.1 < H.size ∧ ¬ va_A b H.size q.1 := by
  intro k q hq
  have hk : k < a.length := (List.getElem?_eq_some_iff.mp hq).1
  have ha : (a ++ b)[k]? = some q := by rw [List.getElem?_append_left hk]; exact hq
  have hl := (hP _ q ha).lt
  refine ⟨hl, fun h => ?_⟩
  rcases h with ⟨k2, e, h⟩ | h
  · have hb : (a ++ b)[a.length + k2]? = some (q.1, e) := by rw [List.getElem?_append_right (by omega)]; rw [show a.length + k2 - a.length = k2 by omega]; exact h
    have := hD.1 _ _ _ _ ha hb rfl
    omega
  · omega
theorem fr_P {D : va_G} {cl : List vw_C} {a b : va_W} {H : Heap} (hP : va_P D cl (a ++ b) H) : va_P D cl a H ∧ va_P D cl b H := by
  refine ⟨fun k q hq => ?_, fun k q hq => ?_⟩
  · obtain ⟨i, hi⟩ := List.getElem?_of_mem (List.mem_append_left b (List.mem_of_getElem? hq))
    exact hP i q hi
  · obtain ⟨i, hi⟩ := List.getElem?_of_mem (List.mem_append_right a (List.mem_of_getElem? hq))
    exact hP i q hi
theorem fr_D {A : Nat → Prop} {a b : va_W} (hD : va_D A (a ++ b)) : va_D A a ∧ va_D A b := by
  have hl : ∀ (k : Nat) (q : Nat × va_E), a[k]? = some q → (a ++ b)[k]? = some q := fun k q hq => by rw [List.getElem?_append_left (List.getElem?_eq_some_iff.mp hq).1]; exact hq
  have hr : ∀ (k : Nat) (q : Nat × va_E), b[k]? = some q → (a ++ b)[a.length + k]? = some q := fun k q hq => by rw [List.getElem?_append_right (by omega), show a.length + k - a.length = k by omega]; exact hq
  refine ⟨⟨fun i j p q hp hq e => hD.1 i j p q (hl i p hp) (hl j q hq) e, fun k q hq => hD.2 _ q (hl k q hq)⟩, ⟨fun i j p q hp hq e => ?_, fun k q hq => hD.2 _ q (hr k q hq)⟩⟩
  have := hD.1 _ _ p q (hr i p hp) (hr j q hq) e
  omega
theorem fr_free {A : Nat → Prop} {s : State} {ws : va_W} {H : Heap} {locs : List Loc} (hD : va_D A ws) (hS : va_S A s.heap H locs) (hA : ∀ q : Nat, s.heap.size ≤ q → A q) : ∀ q, va_A ws H.size q → A q := by
  intro q h
  rcases h with ⟨k, e, h⟩ | h
  · exact hD.2 k (q, e) h
  · exact hA q (Nat.le_trans hS.1 h)
theorem fr_L {D : va_G} {cl : List vw_C} {A : Nat → Prop} {a b w1 : va_W} {H H1 : Heap} (hP : va_P D cl (a ++ b) H) (hD : va_D A (a ++ b)) (hk : ∀ q : Nat, q < H.size → ¬ va_A a H.size q → H1[q]? = H[q]?) (hF : ∀ q, va_A a H.size q → A q) (hP1 : va_P D cl w1 H1) (hD1 : va_D (va_A a H.size) w1) : va_P D cl (w1 ++ b) H1 ∧ va_D A (w1 ++ b) := by
  have ap := fr_apL hP hD
  refine ⟨va_P.app hP1 ((fr_P hP).2.kept (fun k q hq => hk q.1 (ap k q hq).1 (ap k q hq).2)), va_D.app (hD1.weaken (fun _ q _ h => hF q.1 h)) (fr_D hD).2 (fun i j x y hx hy hxy => ?_)⟩
  exact (ap j y hy).2 (by rw [← hxy]; exact hD1.2 i x hx)
theorem fr_R {D : va_G} {cl : List vw_C} {A : Nat → Prop} {a b w1 : va_W} {H H1 : Heap} (hP : va_P D cl (a ++ b) H) (hD : va_D A (a ++ b)) (hk : ∀ q : Nat, q < H.size → ¬ va_A b H.size q → H1[q]? = H[q]?) (hF : ∀ q, va_A b H.size q → A q) (hP1 : va_P D cl w1 H1) (hD1 : va_D (va_A b H.size) w1) : va_P D cl (a ++ w1) H1 ∧ va_D A (a ++ w1) := by
  have ap := fr_apR hP hD
  refine ⟨va_P.app ((fr_P hP).1.kept (fun k q hq => hk q.1 (ap k q hq).1 (ap k q hq).2)) hP1, va_D.app (fr_D hD).1 (hD1.weaken (fun _ q _ h => hF q.1 h)) (fun i j x y hx hy hxy => ?_)⟩
  exact (ap i x hx).2 (by rw [hxy]; exact hD1.2 j y hy)
section WCall
variable {p : Program} {l : Launch} {e : Env} {R : Room} {s : State} {m : MethodId} {args : Array Value} {below : List Frame} {meth : Method} {c : Code} {H : Heap} {locs : List Loc} {cells slots : Nat} {Q : State → Prop}
variable {cc : ByteArray} {nL : Nat} {ret : Option FieldType} {own : String} {Ts : List Cond} {E : wE} {A : Nat → Prop} {ws a b : va_W} {pc : Nat} {ls : Array Slot} {rest st0 : List Value}
variable {y : MethodName} {wy : List Cond} {rm : Room} {bytes : ByteArray} {maxL n index o : Nat} {ret' : Option FieldType} {As : List Value} {C : String} {T : u_T} {N ci q0 : Nat} {fs : List Value}
/-- an instance method's call, an int answer -/
theorem wCallV {post : Int32 → va_W → Prop} (K : wC p s m args meth c cc nL ret own Ts E A) (w : wW E A s ws H locs) (hM : MCi l E y wy rm (.ref o :: As) ws post) (cw : CallW R s args own C index y bytes maxL ret' wy rm 0 0 n) (he : ws[q0]? = some (o, .inr (ci, fs))) (hc : vwCl[ci]? = some (C, T, N)) (hn : As.length = n) (hls : ls.size = nL) (hst : st0 = As.reverse ++ .ref o :: rest) (hroom : (rest.map fun v => v.category).sum ≤ 8) (hdg : decode cc pc = .ok (.invokevirtual index, 3)) (hf : cells ≤ R.cells ∧ slots ≤ R.slots)
    (kk : ∀ (r : Int32) (w' : va_W) (H1 : Heap) (locs1 : List Loc), post r w' → wW E A s w' H1 locs1 → W p l e R s m args below meth c H1 locs1 cells slots Q (F0 m (pc + 3) ls (.int r :: rest))) : W p l e R s m args below meth c H locs cells slots Q (F0 m pc ls st0) := by
  obtain ⟨hP, hD, hS⟩ := w
  obtain ⟨hx, hb, hr, hml, hown, hts, hlk, hK, hA⟩ := K
  have hFc := fr_free hD hS hA
  have hM := hM H.size
  have e1 : rm.cells = 0 := cw.1.1
  have e2 : rm.slots = 0 := cw.1.2.1
  rw [e1, e2] at hM
  refine va_calli (va_runV (As := As) (rest := rest) ⟨hx, hb, hml, hown, hts⟩ hM cw ⟨wPre.blind, va_recv hK.1 hP hc he, fun U hU hW => ⟨rfl, by rw [hU], by rw [hU]; exact hP, wKK.moved hW.alike hK, hD.weaken (fun _ _ _ _ => trivial)⟩⟩ rfl hn hls hst (lv_room hroom) hdg hf) hS (fun q _ h => hFc q h) hFc (fun r u t H1 locs1 ht hvm hw hB hz1 hk1 hS1 => ?_)
  obtain ⟨hP1, hD1⟩ := hB
  rw [ht] at hP1
  exact kk r u H1 locs1 hw ⟨hP1, hD1.weaken (fun _ q _ h => hFc q.1 h), hS1⟩
theorem wCallVv {post : va_W → Prop} (K : wC p s m args meth c cc nL ret own Ts E A) (w : wW E A s ws H locs) (hM : MCv l E y wy rm (.ref o :: As) ws post) (cw : CallW R s args own C index y bytes maxL ret' wy rm 0 0 n) (he : ws[q0]? = some (o, .inr (ci, fs))) (hc : vwCl[ci]? = some (C, T, N)) (hn : As.length = n) (hls : ls.size = nL) (hst : st0 = As.reverse ++ .ref o :: rest) (hroom : (rest.map fun v => v.category).sum ≤ 8) (hdg : decode cc pc = .ok (.invokevirtual index, 3)) (hf : cells ≤ R.cells ∧ slots ≤ R.slots)
    (kk : ∀ (w' : va_W) (H1 : Heap) (locs1 : List Loc), post w' → wW E A s w' H1 locs1 → W p l e R s m args below meth c H1 locs1 cells slots Q (F0 m (pc + 3) ls rest)) : W p l e R s m args below meth c H locs cells slots Q (F0 m pc ls st0) := by
  obtain ⟨hP, hD, hS⟩ := w
  obtain ⟨hx, hb, hr, hml, hown, hts, hlk, hK, hA⟩ := K
  have hFc := fr_free hD hS hA
  have hM := hM H.size
  have e1 : rm.cells = 0 := cw.1.1
  have e2 : rm.slots = 0 := cw.1.2.1
  rw [e1, e2] at hM
  refine va_callv (va_runV (As := As) (rest := rest) ⟨hx, hb, hml, hown, hts⟩ hM cw ⟨wPre.blind, va_recv hK.1 hP hc he, fun U hU hW => ⟨rfl, by rw [hU], by rw [hU]; exact hP, wKK.moved hW.alike hK, hD.weaken (fun _ _ _ _ => trivial)⟩⟩ rfl hn hls hst (lv_room hroom) hdg hf) hS (fun q _ h => hFc q h) hFc (fun u t H1 locs1 ht hvm hw hB hz1 hk1 hS1 => ?_)
  obtain ⟨hP1, hD1⟩ := hB
  rw [ht] at hP1
  exact kk u H1 locs1 hw ⟨hP1, hD1.weaken (fun _ q _ h => hFc q.1 h), hS1⟩
/-- a static method's call -/
theorem wCallS {post : Int32 → va_W → Prop} (K : wC p s m args meth c cc nL ret own Ts E A) (w : wW E A s ws H locs) (hM : MCi l E y wy rm As ws post) (cw : CallB R s args own index y bytes maxL ret' wy rm 0 0 n ∧ (Cond.static y).before args s = true) (hn : As.length = n) (hls : ls.size = nL) (hst : st0 = As.reverse ++ rest) (hroom : (rest.map fun v => v.category).sum ≤ 8) (hdg : decode cc pc = .ok (.invokestatic index, 3)) (hf : cells ≤ R.cells ∧ slots ≤ R.slots)
    (kk : ∀ (r : Int32) (w' : va_W) (H1 : Heap) (locs1 : List Loc), post r w' → wW E A s w' H1 locs1 → W p l e R s m args below meth c H1 locs1 cells slots Q (F0 m (pc + 3) ls (.int r :: rest))) : W p l e R s m args below meth c H locs cells slots Q (F0 m pc ls st0) := by
  obtain ⟨hP, hD, hS⟩ := w
  obtain ⟨hx, hb, hr, hml, hown, hts, hlk, hK, hA⟩ := K
  have hFc := fr_free hD hS hA
  have hM := hM H.size
  have e1 : rm.cells = 0 := cw.1.1
  have e2 : rm.slots = 0 := cw.1.2.1
  rw [e1, e2] at hM
  refine va_calli (va_runS (As := As) (rest := rest) ⟨hx, hb, hml, hown, hts⟩ hM cw ⟨wPre.blind, fun U hU hW => ⟨rfl, by rw [hU], by rw [hU]; exact hP, wKK.moved hW.alike hK, hD.weaken (fun _ _ _ _ => trivial)⟩⟩ rfl hn hls hst (lv_room hroom) hdg hf) hS (fun q _ h => hFc q h) hFc (fun r u t H1 locs1 ht hvm hw hB hz1 hk1 hS1 => ?_)
  obtain ⟨hP1, hD1⟩ := hB
  rw [ht] at hP1
  exact kk r u H1 locs1 hw ⟨hP1, hD1.weaken (fun _ q _ h => hFc q.1 h), hS1⟩
theorem wCallSl {post : Int64 → va_W → Prop} (K : wC p s m args meth c cc nL ret own Ts E A) (w : wW E A s ws H locs) (hM : MCl l E y wy rm As ws post) (cw : CallB R s args own index y bytes maxL ret' wy rm 0 0 n ∧ (Cond.static y).before args s = true) (hn : As.length = n) (hls : ls.size = nL) (hst : st0 = As.reverse ++ rest) (hroom : (rest.map fun v => v.category).sum ≤ 8) (hdg : decode cc pc = .ok (.invokestatic index, 3)) (hf : cells ≤ R.cells ∧ slots ≤ R.slots)
    (kk : ∀ (r : Int64) (w' : va_W) (H1 : Heap) (locs1 : List Loc), post r w' → wW E A s w' H1 locs1 → W p l e R s m args below meth c H1 locs1 cells slots Q (F0 m (pc + 3) ls (.long r :: rest))) : W p l e R s m args below meth c H locs cells slots Q (F0 m pc ls st0) := by
  obtain ⟨hP, hD, hS⟩ := w
  obtain ⟨hx, hb, hr, hml, hown, hts, hlk, hK, hA⟩ := K
  have hFc := fr_free hD hS hA
  have hM := hM H.size
  have e1 : rm.cells = 0 := cw.1.1
  have e2 : rm.slots = 0 := cw.1.2.1
  rw [e1, e2] at hM
  refine va_calll (va_runS (As := As) (rest := rest) ⟨hx, hb, hml, hown, hts⟩ hM cw ⟨wPre.blind, fun U hU hW => ⟨rfl, by rw [hU], by rw [hU]; exact hP, wKK.moved hW.alike hK, hD.weaken (fun _ _ _ _ => trivial)⟩⟩ rfl hn hls hst (lv_room hroom) hdg hf) hS (fun q _ h => hFc q h) hFc (fun r u t H1 locs1 ht hvm hw hB hz1 hk1 hS1 => ?_)
  obtain ⟨hP1, hD1⟩ := hB
  rw [ht] at hP1
  exact kk r u H1 locs1 hw ⟨hP1, hD1.weaken (fun _ q _ h => hFc q.1 h), hS1⟩
/-- an instance method's call with a frame: the callee's world is the left part -/
theorem wCallL {post : Int32 → va_W → Prop} (K : wC p s m args meth c cc nL ret own Ts E A) (w : wW E A s (a ++ b) H locs) (hM : MCi l E y wy rm (.ref o :: As) a post) (cw : CallW R s args own C index y bytes maxL ret' wy rm 0 0 n) (he : a[q0]? = some (o, .inr (ci, fs))) (hc : vwCl[ci]? = some (C, T, N)) (hn : As.length = n) (hls : ls.size = nL) (hst : st0 = As.reverse ++ .ref o :: rest) (hroom : (rest.map fun v => v.category).sum ≤ 8) (hdg : decode cc pc = .ok (.invokevirtual index, 3)) (hf : cells ≤ R.cells ∧ slots ≤ R.slots)
    (kk : ∀ (r : Int32) (w' : va_W) (H1 : Heap) (locs1 : List Loc), post r w' → wW E A s (w' ++ b) H1 locs1 → W p l e R s m args below meth c H1 locs1 cells slots Q (F0 m (pc + 3) ls (.int r :: rest))) : W p l e R s m args below meth c H locs cells slots Q (F0 m pc ls st0) := by
  obtain ⟨hP, hD, hS⟩ := w
  obtain ⟨hx, hb, hr, hml, hown, hts, hlk, hK, hA⟩ := K
  have hFc := fr_free (fr_D hD).1 hS hA
  have hM := hM H.size
  have e1 : rm.cells = 0 := cw.1.1
  have e2 : rm.slots = 0 := cw.1.2.1
  rw [e1, e2] at hM
  refine va_calli (va_runV (As := As) (rest := rest) ⟨hx, hb, hml, hown, hts⟩ hM cw ⟨wPre.blind, va_recv hK.1 (fr_P hP).1 hc he, fun U hU hW => ⟨rfl, by rw [hU], by rw [hU]; exact (fr_P hP).1, wKK.moved hW.alike hK, (fr_D hD).1.weaken (fun _ _ _ _ => trivial)⟩⟩ rfl hn hls hst (lv_room hroom) hdg hf) hS (fun q _ h => hFc q h) hFc (fun r u t H1 locs1 ht hvm hw hB hz1 hk1 hS1 => ?_)
  obtain ⟨hP1, hD1⟩ := hB
  rw [ht] at hP1
  obtain ⟨hP2, hD2⟩ := fr_L hP hD hk1 hFc hP1 hD1
  exact kk r u H1 locs1 hw ⟨hP2, hD2, hS1⟩
theorem wCallR {post : Int32 → va_W → Prop} (K : wC p s m args meth c cc nL ret own Ts E A) (w : wW E A s (a ++ b) H locs) (hM : MCi l E y wy rm (.ref o :: As) b post) (cw : CallW R s args own C index y bytes maxL ret' wy rm 0 0 n) (he : b[q0]? = some (o, .inr (ci, fs))) (hc : vwCl[ci]? = some (C, T, N)) (hn : As.length = n) (hls : ls.size = nL) (hst : st0 = As.reverse ++ .ref o :: rest) (hroom : (rest.map fun v => v.category).sum ≤ 8) (hdg : decode cc pc = .ok (.invokevirtual index, 3)) (hf : cells ≤ R.cells ∧ slots ≤ R.slots)
    (kk : ∀ (r : Int32) (w' : va_W) (H1 : Heap) (locs1 : List Loc), post r w' → wW E A s (a ++ w') H1 locs1 → W p l e R s m args below meth c H1 locs1 cells slots Q (F0 m (pc + 3) ls (.int r :: rest))) : W p l e R s m args below meth c H locs cells slots Q (F0 m pc ls st0) := by
  obtain ⟨hP, hD, hS⟩ := w
  obtain ⟨hx, hb, hr, hml, hown, hts, hlk, hK, hA⟩ := K
  have hFc := fr_free (fr_D hD).2 hS hA
  have hM := hM H.size
  have e1 : rm.cells = 0 := cw.1.1
  have e2 : rm.slots = 0 := cw.1.2.1
  rw [e1, e2] at hM
  refine va_calli (va_runV (As := As) (rest := rest) ⟨hx, hb, hml, hown, hts⟩ hM cw ⟨wPre.blind, va_recv hK.1 (fr_P hP).2 hc he, fun U hU hW => ⟨rfl, by rw [hU], by rw [hU]; exact (fr_P hP).2, wKK.moved hW.alike hK, (fr_D hD).2.weaken (fun _ _ _ _ => trivial)⟩⟩ rfl hn hls hst (lv_room hroom) hdg hf) hS (fun q _ h => hFc q h) hFc (fun r u t H1 locs1 ht hvm hw hB hz1 hk1 hS1 => ?_)
  obtain ⟨hP1, hD1⟩ := hB
  rw [ht] at hP1
  obtain ⟨hP2, hD2⟩ := fr_R hP hD hk1 hFc hP1 hD1
  exact kk r u H1 locs1 hw ⟨hP2, hD2, hS1⟩
/-- a constructor's call: the new object's world is the right part; cells come -/
theorem wCallI {post : va_W → Prop} {cells1 slots1 : Nat} (K : wC p s m args meth c cc nL ret own Ts E A) (w : wW E A s (a ++ b) H locs) (hM : MCv l E y wy rm (.ref o :: As) b post) (cw : CallB R s args own index y bytes maxL none wy rm rm.cells rm.slots n ∧ y.name = "<init>" ∧ (Cond.instanceMethod y).before args s = true) (hn : As.length = n) (hls : ls.size = nL) (hst : st0 = As.reverse ++ .ref o :: rest) (hroom : (rest.map fun v => v.category).sum ≤ 8) (hdg : decode cc pc = .ok (.invokespecial index, 3)) (e1 : cells + rm.cells = cells1) (e2 : slots + rm.slots = slots1) (hf : cells1 ≤ R.cells ∧ slots1 ≤ R.slots)
    (kk : ∀ (w' : va_W) (H1 : Heap) (locs1 : List Loc), post w' → wW E A s (a ++ w') H1 locs1 → W p l e R s m args below meth c H1 locs1 cells1 slots1 Q (F0 m (pc + 3) ls rest)) : W p l e R s m args below meth c H locs cells slots Q (F0 m pc ls st0) := by
  subst e1; subst e2
  obtain ⟨hP, hD, hS⟩ := w
  obtain ⟨hx, hb, hr, hml, hown, hts, hlk, hK, hA⟩ := K
  have hFc := fr_free (fr_D hD).2 hS hA
  refine va_callv (va_runI (As := As) (rest := rest) ⟨hx, hb, hml, hown, hts⟩ (hM H.size) cw ⟨wPre.blind, fun U hU hW => ⟨rfl, by rw [hU], by rw [hU]; exact (fr_P hP).2, wKK.moved hW.alike hK, (fr_D hD).2.weaken (fun _ _ _ _ => trivial)⟩⟩ rfl hn hls hst (lv_room hroom) hdg hf) hS (fun q _ h => hFc q h) hFc (fun u t H1 locs1 ht hvm hw hB hz1 hk1 hS1 => ?_)
  obtain ⟨hP1, hD1⟩ := hB
  rw [ht] at hP1
  obtain ⟨hP2, hD2⟩ := fr_R hP hD hk1 hFc hP1 hD1
  exact kk u H1 locs1 hw ⟨hP2, hD2, hS1⟩
end WCall
end
section
/-! the state: cells of the lanes, numbers of the sheets, variables: V 0 on, 1 sizes, 2 ruled, 3 rows, 4 columns, 5 offs, 6 outs, 7: head, clock, shift, mark, notes, sound, blanks -/
abbrev SS : Type := (Nat → Nat → Int32) × (Nat → Nat → Int32) × (Nat → Nat → Int32)
def up2 (f : Nat → Nat → Int32) (k i : Nat) (v : Int32) : Nat → Nat → Int32 := fun a => if a = k then upd (f k) i v else f a
def sV (S : SS) (a k : Nat) (v : Int32) : SS := (S.1, S.2.1, up2 S.2.2 a k v)
def sC (S : SS) (k i : Nat) (v : Int32) : SS := (up2 S.1 k i v, S.2.1, S.2.2)
def sN (S : SS) (k i : Nat) (v : Int32) : SS := (S.1, up2 S.2.1 k i v, S.2.2)
def ln (S : SS) (k : Nat) : Int32 := if S.2.2 0 k = 0 then -1 else S.2.2 1 k
def rn (S : SS) (k : Nat) : Int32 := if S.2.2 2 k = 0 then -1 else S.2.2 3 k
abbrev fBench (ad : Nat → Nat) (S : SS) : List Value := [.ref (ad 1), .int (S.2.2 7 0), .int (S.2.2 7 1), .int (S.2.2 7 2), .int (S.2.2 7 3), .int (S.2.2 7 4), .int (S.2.2 7 5), .int (S.2.2 7 6)]
abbrev fLane (ad : Nat → Nat) (S : SS) (k : Nat) : List Value := [.ref (ad (3 + 4 * k)), .ref (ad (4 + 4 * k)), .int (ln S k), .int (S.2.2 5 k), .int (S.2.2 6 k)]
abbrev fSheet (ad : Nat → Nat) (S : SS) (k : Nat) : List Value := [.ref (ad (5 + 4 * k)), .int (rn S k), .int (S.2.2 4 k)]
abbrev gLanes (ad : Nat → Nat) : Nat → Option Nat := fun j => if j < 5 then some (ad (2 + 4 * j)) else none
def wB (E : wE) (ad : Nat → Nat) (S : SS) : va_W :=
  [(ad 0, .inr (2, fBench ad S)), (ad 1, .inl (E.2 2, 5, .inr (.inr (.inr (.inr (gLanes ad)))))),
   (ad 2, .inr (0, fLane ad S 0)), (ad 3, .inl (E.2 0, 60, .inl (S.1 0))), (ad 4, .inr (1, fSheet ad S 0)), (ad 5, .inl (E.2 0, 256, .inl (S.2.1 0))),
   (ad 6, .inr (0, fLane ad S 1)), (ad 7, .inl (E.2 0, 60, .inl (S.1 1))), (ad 8, .inr (1, fSheet ad S 1)), (ad 9, .inl (E.2 0, 256, .inl (S.2.1 1))),
   (ad 10, .inr (0, fLane ad S 2)), (ad 11, .inl (E.2 0, 60, .inl (S.1 2))), (ad 12, .inr (1, fSheet ad S 2)), (ad 13, .inl (E.2 0, 256, .inl (S.2.1 2))),
   (ad 14, .inr (0, fLane ad S 3)), (ad 15, .inl (E.2 0, 60, .inl (S.1 3))), (ad 16, .inr (1, fSheet ad S 3)), (ad 17, .inl (E.2 0, 256, .inl (S.2.1 3))),
   (ad 18, .inr (0, fLane ad S 4)), (ad 19, .inl (E.2 0, 60, .inl (S.1 4))), (ad 20, .inr (1, fSheet ad S 4)), (ad 21, .inl (E.2 0, 256, .inl (S.2.1 4)))]
section Places
variable {E : wE} {ad : Nat → Nat} {S : SS} {k : Nat}
theorem wB_b : (wB E ad S)[0]? = some (ad 0, .inr (2, fBench ad S)) := rfl
theorem wB_l : (wB E ad S)[1]? = some (ad 1, .inl (E.2 2, 5, .inr (.inr (.inr (.inr (gLanes ad)))))) := rfl
theorem wB_lane (hk : k < 5) : (wB E ad S)[2 + 4 * k]? = some (ad (2 + 4 * k), .inr (0, fLane ad S k)) := by
  rcases (show k = 0 ∨ k = 1 ∨ k = 2 ∨ k = 3 ∨ k = 4 by omega) with rfl | rfl | rfl | rfl | rfl <;> rfl
theorem wB_cells (hk : k < 5) : (wB E ad S)[3 + 4 * k]? = some (ad (3 + 4 * k), .inl (E.2 0, 60, .inl (S.1 k))) := by
  rcases (show k = 0 ∨ k = 1 ∨ k = 2 ∨ k = 3 ∨ k = 4 by omega) with rfl | rfl | rfl | rfl | rfl <;> rfl
theorem wB_sheet (hk : k < 5) : (wB E ad S)[4 + 4 * k]? = some (ad (4 + 4 * k), .inr (1, fSheet ad S k)) := by
  rcases (show k = 0 ∨ k = 1 ∨ k = 2 ∨ k = 3 ∨ k = 4 by omega) with rfl | rfl | rfl | rfl | rfl <;> rfl
theorem wB_nums (hk : k < 5) : (wB E ad S)[5 + 4 * k]? = some (ad (5 + 4 * k), .inl (E.2 0, 256, .inl (S.2.1 k))) := by
  rcases (show k = 0 ∨ k = 1 ∨ k = 2 ∨ k = 3 ∨ k = 4 by omega) with rfl | rfl | rfl | rfl | rfl <;> rfl
theorem gLanes_at (hk : k < 5) : gLanes ad (nI k).toNatClampNeg = some (ad (2 + 4 * k)) := by
  rw [nI_clamp (by omega)]
  exact if_pos hk
theorem gLanes_0 : gLanes ad (0 : Int32).toNatClampNeg = some (ad (2 + 4 * 0)) := rfl
/-- what a store makes of the world -/
theorem wB_sG (g : Nat) (hg : g < 7) (v : Int32) : (wB E ad S).set 0 (ad 0, .inr (2, (fBench ad S).set (1 + g) (.int v))) = wB E ad (sV S 7 g v) := by
  rcases (show g = 0 ∨ g = 1 ∨ g = 2 ∨ g = 3 ∨ g = 4 ∨ g = 5 ∨ g = 6 by omega) with rfl | rfl | rfl | rfl | rfl | rfl | rfl <;> rfl
theorem wB_sLen (hk : k < 5) (v : Int32) : (wB E ad S).set (2 + 4 * k) (ad (2 + 4 * k), .inr (0, (fLane ad S k).set 2 (.int v))) = wB E ad (sV (sV S 0 k 1) 1 k v) := by
  rcases (show k = 0 ∨ k = 1 ∨ k = 2 ∨ k = 3 ∨ k = 4 by omega) with rfl | rfl | rfl | rfl | rfl <;> rfl
theorem wB_sOff (hk : k < 5) : (wB E ad S).set (2 + 4 * k) (ad (2 + 4 * k), .inr (0, (fLane ad S k).set 2 (.int (-1)))) = wB E ad (sV S 0 k 0) := by
  rcases (show k = 0 ∨ k = 1 ∨ k = 2 ∨ k = 3 ∨ k = 4 by omega) with rfl | rfl | rfl | rfl | rfl <;> rfl
theorem wB_sOffs (hk : k < 5) (v : Int32) : (wB E ad S).set (2 + 4 * k) (ad (2 + 4 * k), .inr (0, (fLane ad S k).set 3 (.int v))) = wB E ad (sV S 5 k v) := by
  rcases (show k = 0 ∨ k = 1 ∨ k = 2 ∨ k = 3 ∨ k = 4 by omega) with rfl | rfl | rfl | rfl | rfl <;> rfl
theorem wB_sOuts (hk : k < 5) (v : Int32) : (wB E ad S).set (2 + 4 * k) (ad (2 + 4 * k), .inr (0, (fLane ad S k).set 4 (.int v))) = wB E ad (sV S 6 k v) := by
  rcases (show k = 0 ∨ k = 1 ∨ k = 2 ∨ k = 3 ∨ k = 4 by omega) with rfl | rfl | rfl | rfl | rfl <;> rfl
theorem wB_sCell (hk : k < 5) (i : Nat) (v : Int32) : (wB E ad S).set (3 + 4 * k) (ad (3 + 4 * k), .inl (E.2 0, 60, .inl (upd (S.1 k) i v))) = wB E ad (sC S k i v) := by
  rcases (show k = 0 ∨ k = 1 ∨ k = 2 ∨ k = 3 ∨ k = 4 by omega) with rfl | rfl | rfl | rfl | rfl <;> rfl
theorem wB_sRows (hk : k < 5) (v : Int32) : (wB E ad S).set (4 + 4 * k) (ad (4 + 4 * k), .inr (1, (fSheet ad S k).set 1 (.int v))) = wB E ad (sV (sV S 2 k 1) 3 k v) := by
  rcases (show k = 0 ∨ k = 1 ∨ k = 2 ∨ k = 3 ∨ k = 4 by omega) with rfl | rfl | rfl | rfl | rfl <;> rfl
theorem wB_sCols (hk : k < 5) (v : Int32) : (wB E ad S).set (4 + 4 * k) (ad (4 + 4 * k), .inr (1, (fSheet ad S k).set 2 (.int v))) = wB E ad (sV S 4 k v) := by
  rcases (show k = 0 ∨ k = 1 ∨ k = 2 ∨ k = 3 ∨ k = 4 by omega) with rfl | rfl | rfl | rfl | rfl <;> rfl
theorem wB_sNum (hk : k < 5) (i : Nat) (v : Int32) : (wB E ad S).set (5 + 4 * k) (ad (5 + 4 * k), .inl (E.2 0, 256, .inl (upd (S.2.1 k) i v))) = wB E ad (sN S k i v) := by
  rcases (show k = 0 ∨ k = 1 ∨ k = 2 ∨ k = 3 ∨ k = 4 by omega) with rfl | rfl | rfl | rfl | rfl <;> rfl
end Places
/-- the reference's world -/
abbrev fM (am : Nat → Nat) (S : SS) : List Value := [.ref (am 1), .ref (am 2), .ref (am 3), .ref (am 4), .ref (am 5), .ref (am 6), .ref (am 7), .ref (am 8), .ref (am 9), .int (S.2.2 7 0), .int (S.2.2 7 1), .int (S.2.2 7 2), .int (S.2.2 7 3), .int (S.2.2 7 4), .int (S.2.2 7 5), .int (S.2.2 7 6)]
def gC (S : SS) : Nat → Int32 := fun q => S.1 (q / 60) (q % 60)
def gN (S : SS) : Nat → Int32 := fun q => S.2.1 (q / 256) (q % 256)
def wM (E : wE) (am : Nat → Nat) (S : SS) : va_W :=
  [(am 0, .inr (3, fM am S)), (am 1, .inl (E.2 0, 300, .inl (gC S))), (am 2, .inl (E.2 0, 5, .inl (S.2.2 1))), (am 3, .inl (E.2 1, 5, .inl (S.2.2 0))), (am 4, .inl (E.2 0, 1280, .inl (gN S))),
   (am 5, .inl (E.2 0, 5, .inl (S.2.2 3))), (am 6, .inl (E.2 0, 5, .inl (S.2.2 4))), (am 7, .inl (E.2 1, 5, .inl (S.2.2 2))), (am 8, .inl (E.2 0, 5, .inl (S.2.2 5))), (am 9, .inl (E.2 0, 5, .inl (S.2.2 6)))]
section PlacesM
variable {E : wE} {am : Nat → Nat} {S : SS} {k : Nat}
theorem wM_o : (wM E am S)[0]? = some (am 0, .inr (3, fM am S)) := rfl
theorem wM_cells : (wM E am S)[1]? = some (am 1, .inl (E.2 0, 300, .inl (gC S))) := rfl
theorem wM_sizes : (wM E am S)[2]? = some (am 2, .inl (E.2 0, 5, .inl (S.2.2 1))) := rfl
theorem wM_on : (wM E am S)[3]? = some (am 3, .inl (E.2 1, 5, .inl (S.2.2 0))) := rfl
theorem wM_sheets : (wM E am S)[4]? = some (am 4, .inl (E.2 0, 1280, .inl (gN S))) := rfl
theorem wM_rows : (wM E am S)[5]? = some (am 5, .inl (E.2 0, 5, .inl (S.2.2 3))) := rfl
theorem wM_cols : (wM E am S)[6]? = some (am 6, .inl (E.2 0, 5, .inl (S.2.2 4))) := rfl
theorem wM_ruled : (wM E am S)[7]? = some (am 7, .inl (E.2 1, 5, .inl (S.2.2 2))) := rfl
theorem wM_offs : (wM E am S)[8]? = some (am 8, .inl (E.2 0, 5, .inl (S.2.2 5))) := rfl
theorem wM_outs : (wM E am S)[9]? = some (am 9, .inl (E.2 0, 5, .inl (S.2.2 6))) := rfl
theorem wM_sG (g : Nat) (hg : g < 7) (v : Int32) : (wM E am S).set 0 (am 0, .inr (3, (fM am S).set (9 + g) (.int v))) = wM E am (sV S 7 g v) := by
  rcases (show g = 0 ∨ g = 1 ∨ g = 2 ∨ g = 3 ∨ g = 4 ∨ g = 5 ∨ g = 6 by omega) with rfl | rfl | rfl | rfl | rfl | rfl | rfl <;> rfl
theorem wM_sSize (i : Nat) (v : Int32) : (wM E am S).set 2 (am 2, .inl (E.2 0, 5, .inl (upd (S.2.2 1) i v))) = wM E am (sV S 1 i v) := rfl
theorem wM_sOn (i : Nat) (v : Int32) : (wM E am S).set 3 (am 3, .inl (E.2 1, 5, .inl (upd (S.2.2 0) i v))) = wM E am (sV S 0 i v) := rfl
theorem wM_sRows (i : Nat) (v : Int32) : (wM E am S).set 5 (am 5, .inl (E.2 0, 5, .inl (upd (S.2.2 3) i v))) = wM E am (sV S 3 i v) := rfl
theorem wM_sCols (i : Nat) (v : Int32) : (wM E am S).set 6 (am 6, .inl (E.2 0, 5, .inl (upd (S.2.2 4) i v))) = wM E am (sV S 4 i v) := rfl
theorem wM_sRuled (i : Nat) (v : Int32) : (wM E am S).set 7 (am 7, .inl (E.2 1, 5, .inl (upd (S.2.2 2) i v))) = wM E am (sV S 2 i v) := rfl
theorem wM_sOffs (i : Nat) (v : Int32) : (wM E am S).set 8 (am 8, .inl (E.2 0, 5, .inl (upd (S.2.2 5) i v))) = wM E am (sV S 5 i v) := rfl
theorem wM_sOuts (i : Nat) (v : Int32) : (wM E am S).set 9 (am 9, .inl (E.2 0, 5, .inl (upd (S.2.2 6) i v))) = wM E am (sV S 6 i v) := rfl
theorem gC_at {i : Nat} (hi : i < 60) : gC S (60 * k + i) = S.1 k i := by
  show S.1 ((60 * k + i) / 60) ((60 * k + i) % 60) = _
  rw [show (60 * k + i) / 60 = k by omega, show (60 * k + i) % 60 = i by omega]
theorem gN_at {i : Nat} (hi : i < 256) : gN S (256 * k + i) = S.2.1 k i := by
  show S.2.1 ((256 * k + i) / 256) ((256 * k + i) % 256) = _
  rw [show (256 * k + i) / 256 = k by omega, show (256 * k + i) % 256 = i by omega]
theorem gC_up {i : Nat} (hi : i < 60) (v : Int32) : upd (gC S) (60 * k + i) v = gC (sC S k i v) := by
  funext q
  show (if q = 60 * k + i then v else S.1 (q / 60) (q % 60)) = (if q / 60 = k then upd (S.1 k) i v else S.1 (q / 60)) (q % 60)
  by_cases h : q / 60 = k
  · rw [if_pos h]
    show _ = if q % 60 = i then v else S.1 k (q % 60)
    by_cases h2 : q % 60 = i
    · rw [if_pos h2, if_pos (by omega)]
    · rw [if_neg h2, if_neg (by omega), h]
  · rw [if_neg h, if_neg (by omega)]
theorem gN_up {i : Nat} (hi : i < 256) (v : Int32) : upd (gN S) (256 * k + i) v = gN (sN S k i v) := by
  funext q
  show (if q = 256 * k + i then v else S.2.1 (q / 256) (q % 256)) = (if q / 256 = k then upd (S.2.1 k) i v else S.2.1 (q / 256)) (q % 256)
  by_cases h : q / 256 = k
  · rw [if_pos h]
    show _ = if q % 256 = i then v else S.2.1 k (q % 256)
    by_cases h2 : q % 256 = i
    · rw [if_pos h2, if_pos (by omega)]
    · rw [if_neg h2, if_neg (by omega), h]
  · rw [if_neg h, if_neg (by omega)]
theorem wM_sCell {i : Nat} (hi : i < 60) (v : Int32) : (wM E am S).set 1 (am 1, .inl (E.2 0, 300, .inl (upd (gC S) (60 * k + i) v))) = wM E am (sC S k i v) := by
  rw [gC_up hi]; rfl
theorem wM_sNum {i : Nat} (hi : i < 256) (v : Int32) : (wM E am S).set 4 (am 4, .inl (E.2 0, 1280, .inl (upd (gN S) (256 * k + i) v))) = wM E am (sN S k i v) := by
  rw [gN_up hi]; rfl
end PlacesM
end
section
/-! what the calls do, over the state -/
abbrev isl (x : Int32) : Prop := ¬ x < 0 ∧ ¬ 5 ≤ x
abbrev kN (x : Int32) : Nat := x.toNatClampNeg
abbrev hsC (S : SS) (k : Nat) (i : Int32) : Prop := ¬ S.2.2 0 k = 0 ∧ ¬ i < 0 ∧ ¬ S.2.2 1 k ≤ i
def bI (P : Prop) [Decidable P] : Int32 := if P then 1 else 0
def Inv (S : SS) : Prop :=
  (∀ k, k < 5 → (S.2.2 0 k = 0 ∨ S.2.2 0 k = 1) ∧ (∃ n, n ≤ 60 ∧ S.2.2 1 k = nI n) ∧ (S.2.2 2 k = 0 ∨ S.2.2 2 k = 1) ∧ (∃ n, n ≤ 16 ∧ S.2.2 3 k = nI n) ∧ (∃ n, n ≤ 16 ∧ S.2.2 4 k = nI n)) ∧
  (∃ h, h ≤ 60 ∧ S.2.2 7 0 = nI h) ∧ (∃ h, h ≤ 60 ∧ S.2.2 7 3 = nI h) ∧ (∀ i, i < 60 → S.1 3 i = 0 ∨ S.1 3 i = 1)
def zr (C : Nat → Nat → Int32) (k n : Nat) : Nat → Nat → Int32 := fun a => if a = k then (fun b => if b < n then 0 else C k b) else C a
def xOff (S : SS) (k : Nat) : Int32 × SS := (-1000005, sV S 5 k (S.2.2 5 k + 1))
def xOut (S : SS) (k : Nat) : Int32 × SS := (-1000006, sV S 6 k (S.2.2 6 k + 1))
def cl8 (v : Int64) : Int64 := if (if v < 8000 then v else 8000) < -8000 then -8000 else (if v < 8000 then v else 8000)
def sto (k : Nat) (v : Int64) : Int32 := if k = 0 then (v &&& 65535).toInt32 else if k = 1 then v.toInt32.toInt16.toInt32 else if k = 3 then (v &&& 1).toInt32 else if k = 4 then v.toInt32.toInt8.toInt32 else (cl8 v).toInt32
def rck (way : Int32) (c v : Int64) : Int64 := if way = 0 then c + v else if way = 1 then c - v else if way = 2 then c * v else c + 1
def ped (way c o : Int32) : Int32 := if way = 0 then c ||| o else if way = 1 then c &&& o else if way = 2 then c ^^^ o else 1 - c
def chg (k : Nat) (way c v : Int32) : Int32 := if k = 3 then ped way c (v &&& 1) else sto k (rck way c.toInt64 v.toInt64)
def sp_mount (S : SS) (lane n : Int32) : Int32 × SS :=
  if isl lane then (if n ≤ 60 then (if 0 ≤ n then (n, (zr S.1 (kN lane) (kN n), S.2.1, up2 (up2 S.2.2 0 (kN lane) 1) 1 (kN lane) n)) else (-1000004, S)) else (-1000003, S)) else (-1000001, S)
def sp_strip (S : SS) (lane : Int32) : Int32 × SS :=
  if isl lane then (if S.2.2 0 (kN lane) = 0 then xOff S (kN lane) else (S.2.2 1 (kN lane), sV S 0 (kN lane) 0)) else (-1000001, S)
def sp_size (S : SS) (lane : Int32) : Int32 × SS :=
  if isl lane then (if S.2.2 0 (kN lane) = 0 then xOff S (kN lane) else (S.2.2 1 (kN lane), S)) else (-1000001, S)
def sp_cell (S : SS) (lane i : Int32) : Int32 × SS :=
  if isl lane then (if S.2.2 0 (kN lane) = 0 then xOff S (kN lane) else if hsC S (kN lane) i then (S.1 (kN lane) (kN i), S) else xOut S (kN lane)) else (-1000001, S)
def sp_put (S : SS) (lane i v : Int32) : Int32 × SS :=
  if isl lane then (if S.2.2 0 (kN lane) = 0 then xOff S (kN lane) else if hsC S (kN lane) i then (sto (kN lane) v.toInt64, sC S (kN lane) (kN i) (sto (kN lane) v.toInt64)) else xOut S (kN lane)) else (-1000001, S)
def sp_change (S : SS) (lane way i v : Int32) : Int32 × SS :=
  if isl lane then (if ¬ way < 0 ∧ ¬ 4 ≤ way then (if S.2.2 0 (kN lane) = 0 then xOff S (kN lane) else if hsC S (kN lane) i then (chg (kN lane) way (S.1 (kN lane) (kN i)) v, sC S (kN lane) (kN i) (chg (kN lane) way (S.1 (kN lane) (kN i)) v)) else xOut S (kN lane)) else (-1000002, S)) else (-1000001, S)
def sp_rule (S : SS) (lane r c : Int32) : Int32 × SS :=
  if isl lane then (if ¬ 16 < r ∧ ¬ 16 < c then (if ¬ r < 0 ∧ ¬ c < 0 then (r * c, (S.1, zr S.2.1 (kN lane) 256, up2 (up2 (up2 S.2.2 2 (kN lane) 1) 3 (kN lane) r) 4 (kN lane) c)) else (-1000004, S)) else (-1000003, S)) else (-1000001, S)
def lyM (S : SS) (k from_ : Nat) : Nat := min ((S.2.2 1 k).toNatClampNeg - from_) (S.2.2 4 k).toNatClampNeg
def lyN (S : SS) (k row from_ n : Nat) : Nat → Nat → Int32 := fun a => if a = k then (fun b => if 16 * row ≤ b ∧ b < 16 * row + n then S.1 k (from_ + (b - 16 * row)) else S.2.1 k b) else S.2.1 a
def sp_lay (S : SS) (lane row from_ : Int32) : Int32 × SS :=
  if isl lane then (if S.2.2 2 (kN lane) = 0 then (-1000007, S) else if ¬ row < 0 ∧ ¬ S.2.2 3 (kN lane) ≤ row then (if S.2.2 0 (kN lane) = 0 then xOff S (kN lane) else if ¬ from_ < 0 ∧ ¬ S.2.2 1 (kN lane) < from_ then (nI (lyM S (kN lane) (kN from_)), (S.1, lyN S (kN lane) (kN row) (kN from_) (lyM S (kN lane) (kN from_)), S.2.2)) else xOut S (kN lane)) else (-1000008, S)) else (-1000001, S)
def sp_at (S : SS) (lane row col : Int32) : Int32 × SS :=
  if isl lane then (if S.2.2 2 (kN lane) = 0 then (-1000007, S) else if ¬ row < 0 ∧ ¬ S.2.2 3 (kN lane) ≤ row then (if ¬ col < 0 ∧ ¬ S.2.2 4 (kN lane) ≤ col then (S.2.1 (kN lane) (16 * kN row + kN col), S) else (-1000009, S)) else (-1000008, S)) else (-1000001, S)
def sp_head (S : SS) (h : Int32) : Int32 × SS :=
  if h ≤ 60 then (if 0 ≤ h then (S.2.2 7 0, sV S 7 0 h) else (-1000004, S)) else (-1000003, S)
def tld (S : SS) (k : Nat) (d : Int32) : Int32 := if hsC S k (S.2.2 7 0) then S.1 k (kN (S.2.2 7 0)) else d
def lws (S : SS) (k : Nat) : SS := sC S k (kN (S.2.2 7 0)) (S.1 k (kN (S.2.2 7 0)) - 1)
def ihd (S : SS) : SS := sV S 7 0 (S.2.2 7 0 + 1)
def tt (S : SS) : Int32 := if tld S 3 0 = 1 then 2 * tld S 1 1 else tld S 1 1
def nte (S : SS) : SS := sV (sV (sV (sV S 7 1 (S.2.2 7 1 + tt S)) 7 4 (S.2.2 7 4 + 1)) 7 5 (S.2.2 7 5 + tt S * (tld S 4 0 + S.2.2 7 2))) 7 5 (S.2.2 7 5 + tt S * (tld S 4 0 + S.2.2 7 2) + tld S 2 8)
def stp (S : SS) (g : Int32) : SS :=
  if g = 46 then ihd (sV S 7 1 (S.2.2 7 1 + tld S 1 1)) else if g = 110 then ihd (nte S)
  else if g = 114 then (if 0 < tld S 1 0 then sV (lws S 1) 7 0 (S.2.2 7 3) else ihd S)
  else if g = 116 then ihd (sV S 7 2 (tld S 4 0))
  else if g = 119 then (if 0 < tld S 2 0 then ihd (lws S 2) else ihd S)
  else if g = 124 then ihd (sV S 7 3 (S.2.2 7 0)) else ihd (sV S 7 6 (S.2.2 7 6 + 1))
def ply : Nat → SS → Nat × SS
  | 0, S => (0, S)
  | n + 1, S => if hsC S 0 (S.2.2 7 0) then ((ply n (stp S (S.1 0 (kN (S.2.2 7 0))))).1 + 1, (ply n (stp S (S.1 0 (kN (S.2.2 7 0))))).2) else (0, S)
def sp_play (S : SS) (n : Int32) : Int32 × SS :=
  if 0 ≤ n then (if n ≤ 200 then (nI (ply (kN n) S).1, (ply (kN n) S).2) else (-1000003, S)) else (-1000004, S)
def sp_count (S : SS) (w : Int32) : Int32 :=
  if isl w then S.2.2 5 (kN w) else if ¬ w < 5 ∧ ¬ 10 ≤ w then S.2.2 6 (kN (w - 5)) else if w = 10 then S.2.2 7 0 else if w = 11 then S.2.2 7 1 else if w = 12 then S.2.2 7 2 else if w = 13 then S.2.2 7 3 else if w = 14 then S.2.2 7 4 else if w = 15 then S.2.2 7 5 else if w = 16 then S.2.2 7 6 else 0
/-! small facts -/
theorem bI_t {P : Prop} [Decidable P] {r : Int32} (h : r = bI P) (c : ¬ r = 0) : P := by
  by_cases hp : P
  · exact hp
  · exact absurd (by rw [h]; exact if_neg hp) c
theorem bI_f {P : Prop} [Decidable P] {r : Int32} (h : r = bI P) (c : r = 0) : ¬ P := by
  intro hp
  rw [h, bI, if_pos hp] at c
  exact absurd c (by decide)
theorem isl_of {x : Int32} (h : isl x) : ∃ j : Nat, j < 5 ∧ x = nI j := by
  obtain ⟨j, hj, e⟩ := nI_of h.1
  refine ⟨j, ?_, e⟩
  rcases Nat.lt_or_ge j 5 with q | q
  · exact q
  · exact absurd (by rw [e]; exact nI_le (a := 5) q hj) h.2
theorem isl_nI {j : Nat} (h : j < 5) : isl (nI j) := ⟨nI_pos (by omega), nI_ge (b := 5) h (by omega)⟩
theorem kN_nI {j : Nat} (h : j < 2 ^ 31) : kN (nI j) = j := nI_clamp h
theorem in5 {j : Nat} (h : j < 5) : vp_in (nI j) 5 := vp_in_nI h (by omega)
theorem Inv.off {S : SS} (h : Inv S) {k : Nat} (hk : k < 5) : ln S k = -1 ↔ S.2.2 0 k = 0 := by
  obtain ⟨n, hn, e⟩ := (h.1 k hk).2.1
  unfold ln
  by_cases h0 : S.2.2 0 k = 0
  · rw [if_pos h0]; exact ⟨fun _ => h0, fun _ => rfl⟩
  · rw [if_neg h0]
    refine ⟨fun q => ?_, fun q => absurd q h0⟩
    rw [e] at q
    exact absurd (show nI n < 0 by rw [q]; decide) (nI_pos (by omega))
theorem Inv.none {S : SS} (h : Inv S) {k : Nat} (hk : k < 5) : rn S k = -1 ↔ S.2.2 2 k = 0 := by
  obtain ⟨n, hn, e⟩ := (h.1 k hk).2.2.2.1
  unfold rn
  by_cases h0 : S.2.2 2 k = 0
  · rw [if_pos h0]; exact ⟨fun _ => h0, fun _ => rfl⟩
  · rw [if_neg h0]
    refine ⟨fun q => ?_, fun q => absurd q h0⟩
    rw [e] at q
    exact absurd (show nI n < 0 by rw [q]; decide) (nI_pos (by omega))
theorem ln_on {S : SS} {k : Nat} (h : ¬ S.2.2 0 k = 0) : ln S k = S.2.2 1 k := if_neg h
theorem rn_on {S : SS} {k : Nat} (h : ¬ S.2.2 2 k = 0) : rn S k = S.2.2 3 k := if_neg h
/-- an index below a size that is at most N -/
theorem lt_of_ix {x y : Int32} {n N : Nat} (hn : n ≤ N) (hN : N < 2 ^ 31) (e : y = nI n) (h0 : ¬ x < 0) (h1 : ¬ y ≤ x) : ∃ j : Nat, j < n ∧ x = nI j := by
  obtain ⟨j, hj, ej⟩ := nI_of h0
  refine ⟨j, ?_, ej⟩
  rcases Nat.lt_or_ge j n with q | q
  · exact q
  · exact absurd (by rw [e, ej]; exact nI_le q hj) h1
theorem Inv.cell {S : SS} (h : Inv S) {k : Nat} (hk : k < 5) {i : Int32} (hi : hsC S k i) : ∃ j : Nat, j < 60 ∧ i = nI j := by
  obtain ⟨n, hn, e⟩ := (h.1 k hk).2.1
  obtain ⟨j, hj, ej⟩ := lt_of_ix hn (by omega) e hi.2.1 hi.2.2
  exact ⟨j, by omega, ej⟩
theorem Inv.hc {S : SS} (h : Inv S) {k : Nat} (hk : k < 5) {i : Int32} (h0 : ¬ i < 0) : (¬ ln S k ≤ i) ↔ hsC S k i := by
  by_cases hz : S.2.2 0 k = 0
  · rw [ln, if_pos hz]
    refine ⟨fun q => absurd ?_ q, fun q => absurd hz q.1⟩
    obtain ⟨j, hj, ej⟩ := nI_of h0
    rw [ej, Int32.le_iff_toInt_le, nI_toInt hj]
    have : (-1 : Int32).toInt = -1 := by decide
    omega
  · rw [ln_on hz]
    exact ⟨fun q => ⟨hz, h0, q⟩, fun q => q.2.2⟩
theorem Inv.hr {S : SS} (h : Inv S) {k : Nat} (hk : k < 5) {i : Int32} (h0 : ¬ i < 0) : (¬ rn S k ≤ i) ↔ (¬ S.2.2 2 k = 0 ∧ ¬ S.2.2 3 k ≤ i) := by
  by_cases hz : S.2.2 2 k = 0
  · rw [rn, if_pos hz]
    refine ⟨fun q => absurd ?_ q, fun q => absurd hz q.1⟩
    obtain ⟨j, hj, ej⟩ := nI_of h0
    rw [ej, Int32.le_iff_toInt_le, nI_toInt hj]
    have : (-1 : Int32).toInt = -1 := by decide
    omega
  · rw [rn_on hz]
    exact ⟨fun q => ⟨hz, q⟩, fun q => q.2⟩
theorem zr_0 (C : Nat → Nat → Int32) (k : Nat) : zr C k 0 = C := by
  funext a b
  unfold zr
  by_cases h : a = k
  · subst h; simp
  · rw [if_neg h]
theorem zr_s (C : Nat → Nat → Int32) (k n : Nat) : up2 (zr C k n) k n 0 = zr C k (n + 1) := by
  funext a b
  unfold zr up2
  by_cases h : a = k
  · subst h
    simp only [if_true, upd]
    by_cases h2 : b = n
    · subst h2; rw [if_pos rfl, if_pos (by omega)]
    · rw [if_neg h2]
      by_cases h3 : b < n
      · rw [if_pos h3, if_pos (by omega)]
      · rw [if_neg h3, if_neg (by omega)]
  · simp only [if_neg h]
end
section
/-! leaves of the class: the methods of a lane and of a sheet, isLane -/
theorem bI_1 {P : Prop} [Decidable P] (h : P) : (1 : Int32) = bI P := (if_pos h).symm
theorem bI_0 {P : Prop} [Decidable P] (h : ¬ P) : (0 : Int32) = bI P := (if_neg h).symm
theorem wB_sNumI {E : wE} {ad : Nat → Nat} {S : SS} {k : Nat} (hk : k < 5) {x : Int32} {i : Nat} (e : x.toNatClampNeg = i) (v : Int32) : (wB E ad S).set (5 + 4 * k) (ad (5 + 4 * k), .inl (E.2 0, 256, .inl (upd (S.2.1 k) x.toNatClampNeg v))) = wB E ad (sN S k i v) := by rw [e]; exact wB_sNum hk i v
theorem wB_sCellI {E : wE} {ad : Nat → Nat} {S : SS} {k : Nat} (hk : k < 5) {x : Int32} {i : Nat} (e : x.toNatClampNeg = i) (v : Int32) : (wB E ad S).set (3 + 4 * k) (ad (3 + 4 * k), .inl (E.2 0, 60, .inl (upd (S.1 k) x.toNatClampNeg v))) = wB E ad (sC S k i v) := by rw [e]; exact wB_sCell hk i v
theorem wM_sCellI {E : wE} {am : Nat → Nat} {S : SS} {x : Int32} {k i : Nat} (hi : i < 60) (e : x.toNatClampNeg = 60 * k + i) (v : Int32) : (wM E am S).set 1 (am 1, .inl (E.2 0, 300, .inl (upd (gC S) x.toNatClampNeg v))) = wM E am (sC S k i v) := by rw [e]; exact wM_sCell hi v
theorem wM_sNumI {E : wE} {am : Nat → Nat} {S : SS} {x : Int32} {k i : Nat} (hi : i < 256) (e : x.toNatClampNeg = 256 * k + i) (v : Int32) : (wM E am S).set 4 (am 4, .inl (E.2 0, 1280, .inl (upd (gN S) x.toNatClampNeg v))) = wM E am (sN S k i v) := by rw [e]; exact wM_sNum hi v
set_option maxHeartbeats 4000000 in
set_option maxRecDepth 100000 in
theorem mX2_isLane (l : Launch) (E : wE) (ws : va_W) (x : Int32) : MCi l E yX2_isLane wsX2_isLane { frames := 0, cells := 0, slots := 0, locals := 0 } [.int x] (ws) (fun r w => r = bI (isl x) ∧ w = ws) := by
  refine wEnterI (cc := cX2_isLane) (nL := 1) (ret := (some .boolean)) (own := RX2) (by decide) rfl rfl (Nat.le_of_ble_eq_true rfl) ?_
  intro p e s m below meth c A ls K hl hw
  have hl : lv_has ls 1 [(0, .int x)] := hl
  obtain ⟨hx, hb, -, hml, hown, hts, -, -, -⟩ := id K
  refine lv_iload_n hx hb dX2_isLane_0 rfl (lv_at hl 0 rfl) ?_
  refine lv_if_lt (tgt := 13) hx hb dX2_isLane_1 (by decide) (fun c_1 => ?_) (fun c_1 => ?_)
  · refine lv_iconst (v := 0) hx hb dX2_isLane_13 (by decide) ?_
    exact wRetZ K hw dX2_isLane_14 rfl ⟨bI_0 (fun q => q.1 c_1), rfl⟩
  · refine lv_iload_n hx hb dX2_isLane_4 rfl (lv_at hl 0 rfl) ?_
    refine lv_iconst (v := 5) hx hb dX2_isLane_5 (by decide) ?_
    refine lv_icmp_ge (tgt := 13) hx hb dX2_isLane_6 (by decide) (fun c_6 => ?_) (fun c_6 => ?_)
    · refine lv_iconst (v := 0) hx hb dX2_isLane_13 (by decide) ?_
      exact wRetZ K hw dX2_isLane_14 rfl ⟨bI_0 (fun q => q.2 c_6), rfl⟩
    · refine lv_iconst (v := 1) hx hb dX2_isLane_9 (by decide) ?_
      refine lv_goto (tgt := 14) hx hb dX2_isLane_10 (by decide) ?_
      exact wRetZ K hw dX2_isLane_14 rfl ⟨bI_1 ⟨c_1, c_6⟩, rfl⟩
set_option maxHeartbeats 4000000 in
set_option maxRecDepth 100000 in
theorem mX0_isOff (l : Launch) (E : wE) (ad : Nat → Nat) (S : SS) (hI : Inv S) (k : Nat) (hk : k < 5) : MCi l E yX0_isOff wsX0_isOff { frames := 0, cells := 0, slots := 0, locals := 0 } [.ref (ad (2 + 4 * k))] (wB E ad S) (fun r w => r = bI (S.2.2 0 k = 0) ∧ w = wB E ad S) := by
  refine wEnterI (cc := cX0_isOff) (nL := 1) (ret := (some .boolean)) (own := RX0) (by decide) rfl rfl (Nat.le_of_ble_eq_true rfl) ?_
  intro p e s m below meth c A ls K hl hw
  have hl : lv_has ls 1 [(0, .ref (ad (2 + 4 * k)))] := hl
  obtain ⟨hx, hb, -, hml, hown, hts, -, -, -⟩ := id K
  have hiX0 : ∀ w ∈ wsX00, w ∈ wsX0_isOff := by decide +kernel
  refine lv_aload_n hx hb dX0_isOff_0 rfl (lv_at hl 0 rfl) ?_
  refine wGet (v := .int (ln S k)) K hw hiX0 (wB_lane hk) rfl 2 (by decide) (by decide +kernel) rfl dX0_isOff_1 ?_
  refine lv_iconst (v := (-1)) hx hb dX0_isOff_4 (by decide) ?_
  refine lv_icmp_ne (tgt := 12) hx hb dX0_isOff_5 (by decide) (fun c_5 => ?_) (fun c_5 => ?_)
  · refine lv_iconst (v := 0) hx hb dX0_isOff_12 (by decide) ?_
    exact wRetZ K hw dX0_isOff_13 rfl ⟨bI_0 (fun q => c_5 ((hI.off hk).mpr q)), rfl⟩
  · refine lv_iconst (v := 1) hx hb dX0_isOff_8 (by decide) ?_
    refine lv_goto (tgt := 13) hx hb dX0_isOff_9 (by decide) ?_
    exact wRetZ K hw dX0_isOff_13 rfl ⟨bI_1 ((hI.off hk).mp c_5), rfl⟩
set_option maxHeartbeats 4000000 in
set_option maxRecDepth 100000 in
theorem mX0_hasCell (l : Launch) (E : wE) (ad : Nat → Nat) (S : SS) (hI : Inv S) (k : Nat) (hk : k < 5) (i : Int32) : MCi l E yX0_hasCell wsX0_hasCell { frames := 0, cells := 0, slots := 0, locals := 0 } [.ref (ad (2 + 4 * k)), .int i] (wB E ad S) (fun r w => r = bI (hsC S k i) ∧ w = wB E ad S) := by
  refine wEnterI (cc := cX0_hasCell) (nL := 2) (ret := (some .boolean)) (own := RX0) (by decide) rfl rfl (Nat.le_of_ble_eq_true rfl) ?_
  intro p e s m below meth c A ls K hl hw
  have hl : lv_has ls 2 [(0, .ref (ad (2 + 4 * k))), (1, .int i)] := hl
  obtain ⟨hx, hb, -, hml, hown, hts, -, -, -⟩ := id K
  have hiX0 : ∀ w ∈ wsX00, w ∈ wsX0_hasCell := by decide +kernel
  refine lv_iload_n hx hb dX0_hasCell_0 rfl (lv_at hl 1 rfl) ?_
  refine lv_if_lt (tgt := 16) hx hb dX0_hasCell_1 (by decide) (fun c_1 => ?_) (fun c_1 => ?_)
  · refine lv_iconst (v := 0) hx hb dX0_hasCell_16 (by decide) ?_
    exact wRetZ K hw dX0_hasCell_17 rfl ⟨bI_0 (fun q => q.2.1 c_1), rfl⟩
  · refine lv_iload_n hx hb dX0_hasCell_4 rfl (lv_at hl 1 rfl) ?_
    refine lv_aload_n hx hb dX0_hasCell_5 rfl (lv_at hl 0 rfl) ?_
    refine wGet (v := .int (ln S k)) K hw hiX0 (wB_lane hk) rfl 2 (by decide) (by decide +kernel) rfl dX0_hasCell_6 ?_
    refine lv_icmp_ge (tgt := 16) hx hb dX0_hasCell_9 (by decide) (fun c_9 => ?_) (fun c_9 => ?_)
    · refine lv_iconst (v := 0) hx hb dX0_hasCell_16 (by decide) ?_
      exact wRetZ K hw dX0_hasCell_17 rfl ⟨bI_0 (fun q => ((hI.hc hk c_1).mpr q) c_9), rfl⟩
    · refine lv_iconst (v := 1) hx hb dX0_hasCell_12 (by decide) ?_
      refine lv_goto (tgt := 17) hx hb dX0_hasCell_13 (by decide) ?_
      exact wRetZ K hw dX0_hasCell_17 rfl ⟨bI_1 ((hI.hc hk c_1).mp c_9), rfl⟩
set_option maxHeartbeats 4000000 in
set_option maxRecDepth 100000 in
theorem mX0_turnOff (l : Launch) (E : wE) (ad : Nat → Nat) (S : SS) (k : Nat) (hk : k < 5) : MCv l E yX0_turnOff wsX0_turnOff { frames := 0, cells := 0, slots := 0, locals := 0 } [.ref (ad (2 + 4 * k))] (wB E ad S) (fun w => w = wB E ad (sV S 0 k 0)) := by
  refine wEnterV (cc := cX0_turnOff) (nL := 1) (ret := none) (own := RX0) (by decide) rfl rfl (Nat.le_of_ble_eq_true rfl) ?_
  intro p e s m below meth c A ls K hl hw hin
  have hl : lv_has ls 1 [(0, .ref (ad (2 + 4 * k)))] := hl
  obtain ⟨hx, hb, -, hml, hown, hts, -, -, -⟩ := id K
  have hiX0 : ∀ w ∈ wsX00, w ∈ wsX0_turnOff := by decide +kernel
  refine lv_aload_n hx hb dX0_turnOff_0 rfl (lv_at hl 0 rfl) ?_
  refine lv_iconst (v := (-1)) hx hb dX0_turnOff_1 (by decide) ?_
  refine wPut (ty := .int) K hw hiX0 tyX0 tyX0_ok nmX0 (wB_lane hk) rfl 2 (by decide) (by decide +kernel) rfl (by decide +kernel) rfl rfl (Nat.le_of_ble_eq_true rfl) dX0_turnOff_2 (wB_sOff hk) (fun H locs hw => ?_)
  exact wRetV K hw dX0_turnOff_5 rfl
set_option maxHeartbeats 4000000 in
set_option maxRecDepth 100000 in
theorem mX0_refuseOff (l : Launch) (E : wE) (ad : Nat → Nat) (S : SS) (k : Nat) (hk : k < 5) : MCi l E yX0_refuseOff wsX0_refuseOff { frames := 0, cells := 0, slots := 0, locals := 0 } [.ref (ad (2 + 4 * k))] (wB E ad S) (fun r w => r = (xOff S k).1 ∧ w = wB E ad (xOff S k).2) := by
  refine wEnterI (cc := cX0_refuseOff) (nL := 1) (ret := (some .int)) (own := RX0) (by decide) rfl rfl (Nat.le_of_ble_eq_true rfl) ?_
  intro p e s m below meth c A ls K hl hw
  have hl : lv_has ls 1 [(0, .ref (ad (2 + 4 * k)))] := hl
  obtain ⟨hx, hb, -, hml, hown, hts, -, -, -⟩ := id K
  have hiX0 : ∀ w ∈ wsX00, w ∈ wsX0_refuseOff := by decide +kernel
  refine lv_aload_n hx hb dX0_refuseOff_0 rfl (lv_at hl 0 rfl) ?_
  refine lv_dup hx hb dX0_refuseOff_1 rfl ?_
  refine wGet (v := .int (S.2.2 5 k)) K hw hiX0 (wB_lane hk) rfl 3 (by decide) (by decide +kernel) rfl dX0_refuseOff_2 ?_
  refine lv_iconst (v := 1) hx hb dX0_refuseOff_5 (by decide) ?_
  refine lv_iadd hx hb dX0_refuseOff_6 ?_
  refine wPut (ty := .int) K hw hiX0 tyX0 tyX0_ok nmX0 (wB_lane hk) rfl 3 (by decide) (by decide +kernel) rfl (by decide +kernel) rfl rfl (Nat.le_of_ble_eq_true rfl) dX0_refuseOff_7 (wB_sOffs hk _) (fun H locs hw => ?_)
  refine lv_ldc (v := (-1000005)) hx hb hown (hts (.constant RX0 29 (-1000005)) (by decide +kernel)) dX0_refuseOff_10 ?_
  exact wRetI K hw dX0_refuseOff_12 ⟨rfl, rfl⟩
set_option maxHeartbeats 4000000 in
set_option maxRecDepth 100000 in
theorem mX0_refuseOut (l : Launch) (E : wE) (ad : Nat → Nat) (S : SS) (k : Nat) (hk : k < 5) : MCi l E yX0_refuseOut wsX0_refuseOut { frames := 0, cells := 0, slots := 0, locals := 0 } [.ref (ad (2 + 4 * k))] (wB E ad S) (fun r w => r = (xOut S k).1 ∧ w = wB E ad (xOut S k).2) := by
  refine wEnterI (cc := cX0_refuseOut) (nL := 1) (ret := (some .int)) (own := RX0) (by decide) rfl rfl (Nat.le_of_ble_eq_true rfl) ?_
  intro p e s m below meth c A ls K hl hw
  have hl : lv_has ls 1 [(0, .ref (ad (2 + 4 * k)))] := hl
  obtain ⟨hx, hb, -, hml, hown, hts, -, -, -⟩ := id K
  have hiX0 : ∀ w ∈ wsX00, w ∈ wsX0_refuseOut := by decide +kernel
  refine lv_aload_n hx hb dX0_refuseOut_0 rfl (lv_at hl 0 rfl) ?_
  refine lv_dup hx hb dX0_refuseOut_1 rfl ?_
  refine wGet (v := .int (S.2.2 6 k)) K hw hiX0 (wB_lane hk) rfl 4 (by decide) (by decide +kernel) rfl dX0_refuseOut_2 ?_
  refine lv_iconst (v := 1) hx hb dX0_refuseOut_5 (by decide) ?_
  refine lv_iadd hx hb dX0_refuseOut_6 ?_
  refine wPut (ty := .int) K hw hiX0 tyX0 tyX0_ok nmX0 (wB_lane hk) rfl 4 (by decide) (by decide +kernel) rfl (by decide +kernel) rfl rfl (Nat.le_of_ble_eq_true rfl) dX0_refuseOut_7 (wB_sOuts hk _) (fun H locs hw => ?_)
  refine lv_ldc (v := (-1000006)) hx hb hown (hts (.constant RX0 33 (-1000006)) (by decide +kernel)) dX0_refuseOut_10 ?_
  exact wRetI K hw dX0_refuseOut_12 ⟨rfl, rfl⟩
set_option maxHeartbeats 4000000 in
set_option maxRecDepth 100000 in
theorem mX1_isNone (l : Launch) (E : wE) (ad : Nat → Nat) (S : SS) (hI : Inv S) (k : Nat) (hk : k < 5) : MCi l E yX1_isNone wsX1_isNone { frames := 0, cells := 0, slots := 0, locals := 0 } [.ref (ad (4 + 4 * k))] (wB E ad S) (fun r w => r = bI (S.2.2 2 k = 0) ∧ w = wB E ad S) := by
  refine wEnterI (cc := cX1_isNone) (nL := 1) (ret := (some .boolean)) (own := RX1) (by decide) rfl rfl (Nat.le_of_ble_eq_true rfl) ?_
  intro p e s m below meth c A ls K hl hw
  have hl : lv_has ls 1 [(0, .ref (ad (4 + 4 * k)))] := hl
  obtain ⟨hx, hb, -, hml, hown, hts, -, -, -⟩ := id K
  have hiX1 : ∀ w ∈ wsX10, w ∈ wsX1_isNone := by decide +kernel
  refine lv_aload_n hx hb dX1_isNone_0 rfl (lv_at hl 0 rfl) ?_
  refine wGet (v := .int (rn S k)) K hw hiX1 (wB_sheet hk) rfl 1 (by decide) (by decide +kernel) rfl dX1_isNone_1 ?_
  refine lv_iconst (v := (-1)) hx hb dX1_isNone_4 (by decide) ?_
  refine lv_icmp_ne (tgt := 12) hx hb dX1_isNone_5 (by decide) (fun c_5 => ?_) (fun c_5 => ?_)
  · refine lv_iconst (v := 0) hx hb dX1_isNone_12 (by decide) ?_
    exact wRetZ K hw dX1_isNone_13 rfl ⟨bI_0 (fun q => c_5 ((hI.none hk).mpr q)), rfl⟩
  · refine lv_iconst (v := 1) hx hb dX1_isNone_8 (by decide) ?_
    refine lv_goto (tgt := 13) hx hb dX1_isNone_9 (by decide) ?_
    exact wRetZ K hw dX1_isNone_13 rfl ⟨bI_1 ((hI.none hk).mp c_5), rfl⟩
set_option maxHeartbeats 4000000 in
set_option maxRecDepth 100000 in
theorem mX1_hasRow (l : Launch) (E : wE) (ad : Nat → Nat) (S : SS) (hI : Inv S) (k : Nat) (hk : k < 5) (i : Int32) : MCi l E yX1_hasRow wsX1_hasRow { frames := 0, cells := 0, slots := 0, locals := 0 } [.ref (ad (4 + 4 * k)), .int i] (wB E ad S) (fun r w => r = bI (¬ i < 0 ∧ ¬ S.2.2 2 k = 0 ∧ ¬ S.2.2 3 k ≤ i) ∧ w = wB E ad S) := by
  refine wEnterI (cc := cX1_hasRow) (nL := 2) (ret := (some .boolean)) (own := RX1) (by decide) rfl rfl (Nat.le_of_ble_eq_true rfl) ?_
  intro p e s m below meth c A ls K hl hw
  have hl : lv_has ls 2 [(0, .ref (ad (4 + 4 * k))), (1, .int i)] := hl
  obtain ⟨hx, hb, -, hml, hown, hts, -, -, -⟩ := id K
  have hiX1 : ∀ w ∈ wsX10, w ∈ wsX1_hasRow := by decide +kernel
  refine lv_iload_n hx hb dX1_hasRow_0 rfl (lv_at hl 1 rfl) ?_
  refine lv_if_lt (tgt := 16) hx hb dX1_hasRow_1 (by decide) (fun c_1 => ?_) (fun c_1 => ?_)
  · refine lv_iconst (v := 0) hx hb dX1_hasRow_16 (by decide) ?_
    exact wRetZ K hw dX1_hasRow_17 rfl ⟨bI_0 (fun q => q.1 c_1), rfl⟩
  · refine lv_iload_n hx hb dX1_hasRow_4 rfl (lv_at hl 1 rfl) ?_
    refine lv_aload_n hx hb dX1_hasRow_5 rfl (lv_at hl 0 rfl) ?_
    refine wGet (v := .int (rn S k)) K hw hiX1 (wB_sheet hk) rfl 1 (by decide) (by decide +kernel) rfl dX1_hasRow_6 ?_
    refine lv_icmp_ge (tgt := 16) hx hb dX1_hasRow_9 (by decide) (fun c_9 => ?_) (fun c_9 => ?_)
    · refine lv_iconst (v := 0) hx hb dX1_hasRow_16 (by decide) ?_
      exact wRetZ K hw dX1_hasRow_17 rfl ⟨bI_0 (fun q => ((hI.hr hk c_1).mpr q.2) c_9), rfl⟩
    · refine lv_iconst (v := 1) hx hb dX1_hasRow_12 (by decide) ?_
      refine lv_goto (tgt := 17) hx hb dX1_hasRow_13 (by decide) ?_
      exact wRetZ K hw dX1_hasRow_17 rfl ⟨bI_1 ⟨c_1, (hI.hr hk c_1).mp c_9⟩, rfl⟩
set_option maxHeartbeats 4000000 in
set_option maxRecDepth 100000 in
theorem mX1_hasColumn (l : Launch) (E : wE) (ad : Nat → Nat) (S : SS) (k : Nat) (hk : k < 5) (i : Int32) : MCi l E yX1_hasColumn wsX1_hasColumn { frames := 0, cells := 0, slots := 0, locals := 0 } [.ref (ad (4 + 4 * k)), .int i] (wB E ad S) (fun r w => r = bI (¬ i < 0 ∧ ¬ S.2.2 4 k ≤ i) ∧ w = wB E ad S) := by
  refine wEnterI (cc := cX1_hasColumn) (nL := 2) (ret := (some .boolean)) (own := RX1) (by decide) rfl rfl (Nat.le_of_ble_eq_true rfl) ?_
  intro p e s m below meth c A ls K hl hw
  have hl : lv_has ls 2 [(0, .ref (ad (4 + 4 * k))), (1, .int i)] := hl
  obtain ⟨hx, hb, -, hml, hown, hts, -, -, -⟩ := id K
  have hiX1 : ∀ w ∈ wsX10, w ∈ wsX1_hasColumn := by decide +kernel
  refine lv_iload_n hx hb dX1_hasColumn_0 rfl (lv_at hl 1 rfl) ?_
  refine lv_if_lt (tgt := 16) hx hb dX1_hasColumn_1 (by decide) (fun c_1 => ?_) (fun c_1 => ?_)
  · refine lv_iconst (v := 0) hx hb dX1_hasColumn_16 (by decide) ?_
    exact wRetZ K hw dX1_hasColumn_17 rfl ⟨bI_0 (fun q => q.1 c_1), rfl⟩
  · refine lv_iload_n hx hb dX1_hasColumn_4 rfl (lv_at hl 1 rfl) ?_
    refine lv_aload_n hx hb dX1_hasColumn_5 rfl (lv_at hl 0 rfl) ?_
    refine wGet (v := .int (S.2.2 4 k)) K hw hiX1 (wB_sheet hk) rfl 2 (by decide) (by decide +kernel) rfl dX1_hasColumn_6 ?_
    refine lv_icmp_ge (tgt := 16) hx hb dX1_hasColumn_9 (by decide) (fun c_9 => ?_) (fun c_9 => ?_)
    · refine lv_iconst (v := 0) hx hb dX1_hasColumn_16 (by decide) ?_
      exact wRetZ K hw dX1_hasColumn_17 rfl ⟨bI_0 (fun q => q.2 c_9), rfl⟩
    · refine lv_iconst (v := 1) hx hb dX1_hasColumn_12 (by decide) ?_
      refine lv_goto (tgt := 17) hx hb dX1_hasColumn_13 (by decide) ?_
      exact wRetZ K hw dX1_hasColumn_17 rfl ⟨bI_1 ⟨c_1, c_9⟩, rfl⟩
set_option maxHeartbeats 4000000 in
set_option maxRecDepth 100000 in
theorem mX1_placeOf (l : Launch) (E : wE) (ws : va_W) (x y : Int32) : MCi l E yX1_placeOf wsX1_placeOf { frames := 0, cells := 0, slots := 0, locals := 0 } [.int x, .int y] (ws) (fun r w => r = x * 16 + y ∧ w = ws) := by
  refine wEnterI (cc := cX1_placeOf) (nL := 2) (ret := (some .int)) (own := RX1) (by decide) rfl rfl (Nat.le_of_ble_eq_true rfl) ?_
  intro p e s m below meth c A ls K hl hw
  have hl : lv_has ls 2 [(0, .int x), (1, .int y)] := hl
  obtain ⟨hx, hb, -, hml, hown, hts, -, -, -⟩ := id K
  refine lv_iload_n hx hb dX1_placeOf_0 rfl (lv_at hl 0 rfl) ?_
  refine lv_bipush (v := 16) hx hb dX1_placeOf_1 (by decide) ?_
  refine lv_imul hx hb dX1_placeOf_3 ?_
  refine lv_iload_n hx hb dX1_placeOf_4 rfl (lv_at hl 1 rfl) ?_
  refine lv_iadd hx hb dX1_placeOf_5 ?_
  exact wRetI K hw dX1_placeOf_6 ⟨rfl, rfl⟩
theorem plc {a b : Nat} : nI a * 16 + nI b = nI (16 * a + b) := by
  rw [show (16 : Int32) = nI 16 from rfl, pk_mul, nI_add, Nat.mul_comm]
set_option maxHeartbeats 4000000 in
set_option maxRecDepth 100000 in
theorem mX1_numberIn (l : Launch) (E : wE) (ad : Nat → Nat) (S : SS) (k : Nat) (hk : k < 5) (a b : Nat) (ha : a < 16) (hb2 : b < 16) : MCi l E yX1_numberIn wsX1_numberIn { frames := 1, cells := 0, slots := 0, locals := 21 } [.ref (ad (4 + 4 * k)), .int (nI a), .int (nI b)] (wB E ad S) (fun r w => r = S.2.1 k (16 * a + b) ∧ w = wB E ad S) := by
  refine wEnterI (cc := cX1_numberIn) (nL := 3) (ret := (some .int)) (own := RX1) (by decide) rfl rfl (Nat.le_of_ble_eq_true rfl) ?_
  intro p e s m below meth c A ls K hl hw
  have hl : lv_has ls 3 [(0, .ref (ad (4 + 4 * k))), (1, .int (nI a)), (2, .int (nI b))] := hl
  obtain ⟨hx, hb, -, hml, hown, hts, -, -, -⟩ := id K
  have hiX1 : ∀ w ∈ wsX10, w ∈ wsX1_numberIn := by decide +kernel
  refine lv_aload_n hx hb dX1_numberIn_0 rfl (lv_at hl 0 rfl) ?_
  refine wGet (v := .ref (ad (5 + 4 * k))) K hw hiX1 (wB_sheet hk) rfl 0 (by decide) (by decide +kernel) rfl dX1_numberIn_1 ?_
  refine lv_iload_n hx hb dX1_numberIn_4 rfl (lv_at hl 1 rfl) ?_
  refine lv_iload_n hx hb dX1_numberIn_5 rfl (lv_at hl 2 rfl) ?_
  refine wCallS (As := [.int (nI a), .int (nI b)]) (rest := [.ref (ad (5 + 4 * k))]) K hw (mX1_placeOf l E (wB E ad S) (nI a) (nI b)) (va_cwS 2 hts gX1_numberIn_X1_placeOf rfl rfl rfl (by decide +kernel) ⟨Nat.le_of_ble_eq_true rfl, Nat.le_of_ble_eq_true rfl⟩)  rfl hl.1 rfl (Nat.le_of_ble_eq_true rfl) dX1_numberIn_6 ⟨Nat.zero_le _, Nat.zero_le _⟩ (fun r_6 w' H locs hr hw => ?_)
  obtain ⟨hr6, rfl⟩ := hr
  rw [plc] at hr6
  subst hr6
  refine wIald (v := S.2.1 k (16 * a + b)) K hw (wB_nums hk) (vp_in_nI (by omega) (by omega)) (by rw [nI_clamp (by omega)]) dX1_numberIn_9 ?_
  exact wRetI K hw dX1_numberIn_10 ⟨rfl, rfl⟩
set_option maxHeartbeats 4000000 in
set_option maxRecDepth 100000 in
theorem mX1_write (l : Launch) (E : wE) (ad : Nat → Nat) (S : SS) (k : Nat) (hk : k < 5) (a b : Nat) (ha : a < 16) (hb2 : b < 16) (v : Int32) : MCv l E yX1_write wsX1_write { frames := 1, cells := 0, slots := 0, locals := 21 } [.ref (ad (4 + 4 * k)), .int (nI a), .int (nI b), .int v] (wB E ad S) (fun w => w = wB E ad (sN S k (16 * a + b) v)) := by
  refine wEnterV (cc := cX1_write) (nL := 4) (ret := none) (own := RX1) (by decide) rfl rfl (Nat.le_of_ble_eq_true rfl) ?_
  intro p e s m below meth c A ls K hl hw hin
  have hl : lv_has ls 4 [(0, .ref (ad (4 + 4 * k))), (1, .int (nI a)), (2, .int (nI b)), (3, .int v)] := hl
  obtain ⟨hx, hb, -, hml, hown, hts, -, -, -⟩ := id K
  have hiX1 : ∀ w ∈ wsX10, w ∈ wsX1_write := by decide +kernel
  refine lv_aload_n hx hb dX1_write_0 rfl (lv_at hl 0 rfl) ?_
  refine wGet (v := .ref (ad (5 + 4 * k))) K hw hiX1 (wB_sheet hk) rfl 0 (by decide) (by decide +kernel) rfl dX1_write_1 ?_
  refine lv_iload_n hx hb dX1_write_4 rfl (lv_at hl 1 rfl) ?_
  refine lv_iload_n hx hb dX1_write_5 rfl (lv_at hl 2 rfl) ?_
  refine wCallS (As := [.int (nI a), .int (nI b)]) (rest := [.ref (ad (5 + 4 * k))]) K hw (mX1_placeOf l E (wB E ad S) (nI a) (nI b)) (va_cwS 2 hts gX1_write_X1_placeOf rfl rfl rfl (by decide +kernel) ⟨Nat.le_of_ble_eq_true rfl, Nat.le_of_ble_eq_true rfl⟩)  rfl hl.1 rfl (Nat.le_of_ble_eq_true rfl) dX1_write_6 ⟨Nat.zero_le _, Nat.zero_le _⟩ (fun r_6 w' H locs hr hw => ?_)
  obtain ⟨hr6, rfl⟩ := hr
  rw [plc] at hr6
  subst hr6
  refine lv_iload_n hx hb dX1_write_9 rfl (lv_at hl 3 rfl) ?_
  refine wIast K hw (wB_nums hk) (vp_in_nI (by omega) (by omega)) dX1_write_10 (wB_sNumI hk (nI_clamp (by omega)) _) (fun H locs hw => ?_)
  exact wRetV K hw dX1_write_11 rfl
end
section
/-! loops of the class: a lane's renew, a sheet's renew, layInto -/
theorem lyN_0 {S : SS} {k a f : Nat} : lyN S k a f 0 = S.2.1 := by
  funext x y
  unfold lyN
  by_cases h : x = k
  · subst h
    rw [if_pos rfl]
    exact if_neg (by omega)
  · rw [if_neg h]
theorem lyN_s {S : SS} {k a f i : Nat} : up2 (lyN S k a f i) k (16 * a + i) (S.1 k (f + i)) = lyN S k a f (i + 1) := by
  funext x y
  unfold lyN up2
  by_cases h : x = k
  · subst h
    simp only [if_true, upd]
    by_cases h2 : y = 16 * a + i
    · subst h2
      rw [if_pos rfl, if_pos ⟨by omega, by omega⟩, show 16 * a + i - 16 * a = i by omega]
    · rw [if_neg h2]
      by_cases h3 : 16 * a ≤ y ∧ y < 16 * a + i
      · rw [if_pos h3, if_pos ⟨h3.1, by omega⟩]
      · rw [if_neg h3, if_neg (by omega)]
  · simp only [if_neg h]
theorem min_nI {a b : Nat} (ha : a < 2 ^ 31) (hb : b < 2 ^ 31) : (if nI b < nI a then nI b else nI a) = nI (min a b) := by
  by_cases h : b < a
  · rw [if_pos (nI_lt h ha), Nat.min_eq_right (by omega)]
  · rw [if_neg (nI_nlt (by omega) hb), Nat.min_eq_left (by omega)]
set_option maxHeartbeats 4000000 in
set_option maxRecDepth 100000 in
theorem mX0_renew (l : Launch) (E : wE) (ad : Nat → Nat) (S : SS) (k : Nat) (hk : k < 5) (n : Nat) (hn : n ≤ 60) : MCv l E yX0_renew wsX0_renew { frames := 0, cells := 0, slots := 0, locals := 0 } [.ref (ad (2 + 4 * k)), .int (nI n)] (wB E ad S) (fun w => w = wB E ad (zr S.1 k n, S.2.1, up2 (up2 S.2.2 0 k 1) 1 k (nI n))) := by
  refine wEnterV (cc := cX0_renew) (nL := 3) (ret := none) (own := RX0) (by decide) rfl rfl (Nat.le_of_ble_eq_true rfl) ?_
  intro p e s m below meth c A ls K hl hw hin
  have hl : lv_has ls 3 [(0, .ref (ad (2 + 4 * k))), (1, .int (nI n))] := hl
  obtain ⟨hx, hb, -, hml, hown, hts, -, -, -⟩ := id K
  have hiX0 : ∀ w ∈ wsX00, w ∈ wsX0_renew := by decide +kernel
  have loop : ∀ (d i : Nat), i + d = n → ∀ (H : Heap) (locs : List Loc) (ls : Array Slot), lv_has ls 3 [(2, .int (nI i)), (0, .ref (ad (2 + 4 * k))), (1, .int (nI n))] → wW E A s (wB E ad (zr S.1 k i, S.2.1, S.2.2)) H locs → W p l e ({ frames := 0, cells := 0, slots := 0, locals := 0 } : Room) s m ([.ref (ad (2 + 4 * k)), .int (nI n)] : List Value).toArray below meth c H locs 0 0 (MQ below (va_Qv (fun w => w = wB E ad (zr S.1 k n, S.2.1, up2 (up2 S.2.2 0 k 1) 1 k (nI n))) (wAft E A) A) ([.ref (ad (2 + 4 * k)), .int (nI n)] : List Value).toArray s 0 0 A) (F0 m 2 ls []) := by
    intro d
    induction d with
    | zero =>
      intro i hid H locs ls hl hw
      obtain rfl : i = n := by omega
      refine lv_iload_n hx hb dX0_renew_2 rfl (lv_at hl 0 rfl) ?_
      refine lv_iload_n hx hb dX0_renew_3 rfl (lv_at hl 2 rfl) ?_
      refine lv_icmp_ge (tgt := 20) hx hb dX0_renew_4 (by decide) (fun c_4 => ?_) (fun c_4 => ?_)
      · refine lv_aload_n hx hb dX0_renew_20 rfl (lv_at hl 1 rfl) ?_
        refine lv_iload_n hx hb dX0_renew_21 rfl (lv_at hl 2 rfl) ?_
        refine wPut (ty := .int) K hw hiX0 tyX0 tyX0_ok nmX0 (wB_lane hk) rfl 2 (by decide) (by decide +kernel) rfl (by decide +kernel) rfl rfl (Nat.le_of_ble_eq_true rfl) dX0_renew_22 (wB_sLen hk _) (fun H locs hw => ?_)
        exact wRetV K hw dX0_renew_25 rfl
      · exact absurd (nI_le (Nat.le_refl i) (by omega)) c_4
    | succ d ih =>
      intro i hid H locs ls hl hw
      refine lv_iload_n hx hb dX0_renew_2 rfl (lv_at hl 0 rfl) ?_
      refine lv_iload_n hx hb dX0_renew_3 rfl (lv_at hl 2 rfl) ?_
      refine lv_icmp_ge (tgt := 20) hx hb dX0_renew_4 (by decide) (fun c_4 => ?_) (fun c_4 => ?_)
      · exact absurd c_4 (nI_ge (by omega) (by omega))
      · refine lv_aload_n hx hb dX0_renew_7 rfl (lv_at hl 1 rfl) ?_
        refine wGet (v := .ref (ad (3 + 4 * k))) K hw hiX0 (wB_lane hk) rfl 0 (by decide) (by decide +kernel) rfl dX0_renew_8 ?_
        refine lv_iload_n hx hb dX0_renew_11 rfl (lv_at hl 0 rfl) ?_
        refine lv_iconst (v := 0) hx hb dX0_renew_12 (by decide) ?_
        refine wIast K hw (wB_cells hk) (vp_in_nI (by omega) (by omega)) dX0_renew_13 (wB_sCellI hk (nI_clamp (by omega)) _) (fun H locs hw => ?_)
        refine lv_iinc (v := nI (i + 1)) (lv' := [(2, .int (nI (i + 1))), (0, .ref (ad (2 + 4 * k))), (1, .int (nI n))]) hx hb dX0_renew_14 hl (k := 0) rfl (nI_1 i) (by decide) rfl (fun ls hl => ?_)
        refine lv_goto (tgt := 2) hx hb dX0_renew_17 (by decide) ?_
        exact ih (i + 1) (by omega) H locs ls hl (hw.to (by rw [sC, zr_s]))
  refine lv_iconst (v := 0) hx hb dX0_renew_0 (by decide) ?_
  refine lv_istore_n (lv' := [(2, .int 0), (0, .ref (ad (2 + 4 * k))), (1, .int (nI n))]) hx hb dX0_renew_1 rfl hl (by decide) rfl (fun ls hl => ?_)
  exact loop n 0 (by omega) _ _ _ (by rw [nI_0]; exact hl) (hw.to (by rw [zr_0]))
set_option maxHeartbeats 4000000 in
set_option maxRecDepth 100000 in
theorem mX1_renew (l : Launch) (E : wE) (ad : Nat → Nat) (S : SS) (k : Nat) (hk : k < 5) (r q : Int32) : MCv l E yX1_renew wsX1_renew { frames := 0, cells := 0, slots := 0, locals := 0 } [.ref (ad (4 + 4 * k)), .int r, .int q] (wB E ad S) (fun w => w = wB E ad (S.1, zr S.2.1 k 256, up2 (up2 (up2 S.2.2 2 k 1) 3 k r) 4 k q)) := by
  refine wEnterV (cc := cX1_renew) (nL := 4) (ret := none) (own := RX1) (by decide) rfl rfl (Nat.le_of_ble_eq_true rfl) ?_
  intro p e s m below meth c A ls K hl hw hin
  have hl : lv_has ls 4 [(0, .ref (ad (4 + 4 * k))), (1, .int r), (2, .int q)] := hl
  obtain ⟨hx, hb, -, hml, hown, hts, -, -, -⟩ := id K
  have hiX1 : ∀ w ∈ wsX10, w ∈ wsX1_renew := by decide +kernel
  have loop : ∀ (d i : Nat), i + d = 256 → ∀ (H : Heap) (locs : List Loc) (ls : Array Slot), lv_has ls 4 [(3, .int (nI i)), (0, .ref (ad (4 + 4 * k))), (1, .int r), (2, .int q)] → wW E A s (wB E ad (S.1, zr S.2.1 k i, S.2.2)) H locs → W p l e ({ frames := 0, cells := 0, slots := 0, locals := 0 } : Room) s m ([.ref (ad (4 + 4 * k)), .int r, .int q] : List Value).toArray below meth c H locs 0 0 (MQ below (va_Qv (fun w => w = wB E ad (S.1, zr S.2.1 k 256, up2 (up2 (up2 S.2.2 2 k 1) 3 k r) 4 k q)) (wAft E A) A) ([.ref (ad (4 + 4 * k)), .int r, .int q] : List Value).toArray s 0 0 A) (F0 m 2 ls []) := by
    intro d
    induction d with
    | zero =>
      intro i hid H locs ls hl hw
      obtain rfl : i = 256 := by omega
      refine lv_iload_n hx hb dX1_renew_2 rfl (lv_at hl 0 rfl) ?_
      refine lv_aload_n hx hb dX1_renew_3 rfl (lv_at hl 1 rfl) ?_
      refine wGet (v := .ref (ad (5 + 4 * k))) K hw hiX1 (wB_sheet hk) rfl 0 (by decide) (by decide +kernel) rfl dX1_renew_4 ?_
      refine wAlen (v := nI 256) K hw (wB_nums hk) (by decide) dX1_renew_7 ?_
      refine lv_icmp_ge (tgt := 24) hx hb dX1_renew_8 (by decide) (fun c_8 => ?_) (fun c_8 => ?_)
      · refine lv_aload_n hx hb dX1_renew_24 rfl (lv_at hl 1 rfl) ?_
        refine lv_iload_n hx hb dX1_renew_25 rfl (lv_at hl 2 rfl) ?_
        refine wPut (ty := .int) K hw hiX1 tyX1 tyX1_ok nmX1 (wB_sheet hk) rfl 1 (by decide) (by decide +kernel) rfl (by decide +kernel) rfl rfl (Nat.le_of_ble_eq_true rfl) dX1_renew_26 (wB_sRows hk _) (fun H locs hw => ?_)
        refine lv_aload_n hx hb dX1_renew_29 rfl (lv_at hl 1 rfl) ?_
        refine lv_iload_n hx hb dX1_renew_30 rfl (lv_at hl 3 rfl) ?_
        refine wPut (ty := .int) K hw hiX1 tyX1 tyX1_ok nmX1 (wB_sheet hk) rfl 2 (by decide) (by decide +kernel) rfl (by decide +kernel) rfl rfl (Nat.le_of_ble_eq_true rfl) dX1_renew_31 (wB_sCols hk _) (fun H locs hw => ?_)
        exact wRetV K hw dX1_renew_34 rfl
      · exact absurd (nI_le (Nat.le_refl 256) (by omega)) c_8
    | succ d ih =>
      intro i hid H locs ls hl hw
      refine lv_iload_n hx hb dX1_renew_2 rfl (lv_at hl 0 rfl) ?_
      refine lv_aload_n hx hb dX1_renew_3 rfl (lv_at hl 1 rfl) ?_
      refine wGet (v := .ref (ad (5 + 4 * k))) K hw hiX1 (wB_sheet hk) rfl 0 (by decide) (by decide +kernel) rfl dX1_renew_4 ?_
      refine wAlen (v := nI 256) K hw (wB_nums hk) (by decide) dX1_renew_7 ?_
      refine lv_icmp_ge (tgt := 24) hx hb dX1_renew_8 (by decide) (fun c_8 => ?_) (fun c_8 => ?_)
      · exact absurd c_8 (nI_ge (by omega) (by omega))
      · refine lv_aload_n hx hb dX1_renew_11 rfl (lv_at hl 1 rfl) ?_
        refine wGet (v := .ref (ad (5 + 4 * k))) K hw hiX1 (wB_sheet hk) rfl 0 (by decide) (by decide +kernel) rfl dX1_renew_12 ?_
        refine lv_iload_n hx hb dX1_renew_15 rfl (lv_at hl 0 rfl) ?_
        refine lv_iconst (v := 0) hx hb dX1_renew_16 (by decide) ?_
        refine wIast K hw (wB_nums hk) (vp_in_nI (by omega) (by omega)) dX1_renew_17 (wB_sNumI hk (nI_clamp (by omega)) _) (fun H locs hw => ?_)
        refine lv_iinc (v := nI (i + 1)) (lv' := [(3, .int (nI (i + 1))), (0, .ref (ad (4 + 4 * k))), (1, .int r), (2, .int q)]) hx hb dX1_renew_18 hl (k := 0) rfl (nI_1 i) (by decide) rfl (fun ls hl => ?_)
        refine lv_goto (tgt := 2) hx hb dX1_renew_21 (by decide) ?_
        exact ih (i + 1) (by omega) H locs ls hl (hw.to (by rw [sN, zr_s]))
  refine lv_iconst (v := 0) hx hb dX1_renew_0 (by decide) ?_
  refine lv_istore_n (lv' := [(3, .int 0), (0, .ref (ad (4 + 4 * k))), (1, .int r), (2, .int q)]) hx hb dX1_renew_1 rfl hl (by decide) rfl (fun ls hl => ?_)
  exact loop 256 0 (by omega) _ _ _ (by rw [nI_0]; exact hl) (hw.to (by rw [zr_0]))
set_option maxHeartbeats 4000000 in
set_option maxRecDepth 100000 in
theorem mX0_layInto (l : Launch) (E : wE) (ad : Nat → Nat) (S : SS) (k : Nat) (hk : k < 5) (hI : Inv S) (hon : ¬ S.2.2 0 k = 0) (a f n : Nat) (ha : a < 16) (hn : n ≤ 60) (en : S.2.2 1 k = nI n) (hf : f ≤ n) : MCi l E yX0_layInto wsX0_layInto { frames := 2, cells := 0, slots := 0, locals := 44 } [.ref (ad (2 + 4 * k)), .int (nI a), .int (nI f)] (wB E ad S) (fun r w => r = nI (lyM S k f) ∧ w = wB E ad (S.1, lyN S k a f (lyM S k f), S.2.2)) := by
  refine wEnterI (cc := cX0_layInto) (nL := 5) (ret := (some .int)) (own := RX0) (by decide) rfl rfl (Nat.le_of_ble_eq_true rfl) ?_
  intro p e s m below meth c A ls K hl hw
  have hl : lv_has ls 5 [(0, .ref (ad (2 + 4 * k))), (1, .int (nI a)), (2, .int (nI f))] := hl
  obtain ⟨hx, hb, -, hml, hown, hts, -, -, -⟩ := id K
  have hiX0 : ∀ w ∈ wsX00, w ∈ wsX0_layInto := by decide +kernel
  have hiX1 : ∀ w ∈ wsX10, w ∈ wsX0_layInto := by decide +kernel
  obtain ⟨q, hq, eq⟩ := (hI.1 k hk).2.2.2.2
  have hM : lyM S k f = min (n - f) q := by rw [lyM, en, eq, nI_clamp (by omega), nI_clamp (by omega)]
  have hMq : lyM S k f ≤ q := by rw [hM]; exact Nat.min_le_right _ _
  have hMn : lyM S k f ≤ n - f := by rw [hM]; exact Nat.min_le_left _ _
  have hln : ln S k = nI n := by rw [ln_on hon, en]
  have loop : ∀ (d i : Nat), i + d = lyM S k f → ∀ (H : Heap) (locs : List Loc) (ls : Array Slot), lv_has ls 5 [(4, .int (nI i)), (3, .int (nI (lyM S k f))), (0, .ref (ad (2 + 4 * k))), (1, .int (nI a)), (2, .int (nI f))] → wW E A s (wB E ad (S.1, lyN S k a f i, S.2.2)) H locs → W p l e ({ frames := 2, cells := 0, slots := 0, locals := 44 } : Room) s m ([.ref (ad (2 + 4 * k)), .int (nI a), .int (nI f)] : List Value).toArray below meth c H locs 0 0 (MQ below (va_Qi (fun r w => r = nI (lyM S k f) ∧ w = wB E ad (S.1, lyN S k a f (lyM S k f), S.2.2)) (wAft E A) A) ([.ref (ad (2 + 4 * k)), .int (nI a), .int (nI f)] : List Value).toArray s 0 0 A) (F0 m 20 ls []) := by
    intro d
    induction d with
    | zero =>
      intro i hid H locs ls hl hw
      refine lv_iload hx hb dX0_layInto_20 (lv_at hl 0 rfl) ?_
      refine lv_iload_n hx hb dX0_layInto_22 rfl (lv_at hl 1 rfl) ?_
      refine lv_icmp_ge (tgt := 51) hx hb dX0_layInto_23 (by decide) (fun c_23 => ?_) (fun c_23 => ?_)
      · refine lv_iload_n hx hb dX0_layInto_51 rfl (lv_at hl 1 rfl) ?_
        exact wRetI K hw dX0_layInto_52 ⟨rfl, by rw [show lyM S k f = i by omega]⟩
      · exact absurd (nI_le (Nat.le_of_eq (by omega)) (by omega)) c_23
    | succ d ih =>
      intro i hid H locs ls hl hw
      refine lv_iload hx hb dX0_layInto_20 (lv_at hl 0 rfl) ?_
      refine lv_iload_n hx hb dX0_layInto_22 rfl (lv_at hl 1 rfl) ?_
      refine lv_icmp_ge (tgt := 51) hx hb dX0_layInto_23 (by decide) (fun c_23 => ?_) (fun c_23 => ?_)
      · exact absurd c_23 (nI_ge (by omega) (by omega))
      · refine lv_aload_n hx hb dX0_layInto_26 rfl (lv_at hl 2 rfl) ?_
        refine wGet (v := .ref (ad (4 + 4 * k))) K hw hiX0 (wB_lane hk) rfl 1 (by decide) (by decide +kernel) rfl dX0_layInto_27 ?_
        refine lv_iload_n hx hb dX0_layInto_30 rfl (lv_at hl 3 rfl) ?_
        refine lv_iload hx hb dX0_layInto_31 (lv_at hl 0 rfl) ?_
        refine lv_aload_n hx hb dX0_layInto_33 rfl (lv_at hl 2 rfl) ?_
        refine wGet (v := .ref (ad (3 + 4 * k))) K hw hiX0 (wB_lane hk) rfl 0 (by decide) (by decide +kernel) rfl dX0_layInto_34 ?_
        refine lv_iload_n hx hb dX0_layInto_37 rfl (lv_at hl 4 rfl) ?_
        refine lv_iload hx hb dX0_layInto_38 (lv_at hl 0 rfl) ?_
        refine lv_iadd hx hb dX0_layInto_40 ?_
        rw [show ((nI f) + (nI i) : Int32) = nI (f + i) from nI_add f i]
        refine wIald (v := S.1 k (f + i)) K hw (wB_cells hk) (vp_in_nI (by omega) (by omega)) (by rw [nI_clamp (by omega)]) dX0_layInto_41 ?_
        refine wCallVv (As := [.int (nI a), .int (nI i), .int (S.1 k (f + i))]) (rest := []) K hw (mX1_write l E ad (S.1, lyN S k a f i, S.2.2) k hk a i ha (by omega) (S.1 k (f + i))) (cwV 3 hts gX0_layInto_X1_write rfl rfl rfl (by decide +kernel) ⟨Nat.le_of_ble_eq_true rfl, Nat.le_of_ble_eq_true rfl⟩) (wB_sheet hk) rfl rfl hl.1 rfl (Nat.le_of_ble_eq_true rfl) dX0_layInto_42 ⟨Nat.zero_le _, Nat.zero_le _⟩ (fun w' H locs hr hw => ?_)
        subst hr
        refine lv_iinc (v := nI (i + 1)) (lv' := [(4, .int (nI (i + 1))), (3, .int (nI (lyM S k f))), (0, .ref (ad (2 + 4 * k))), (1, .int (nI a)), (2, .int (nI f))]) hx hb dX0_layInto_45 hl (k := 0) rfl (nI_1 i) (by decide) rfl (fun ls hl => ?_)
        refine lv_goto (tgt := 20) hx hb dX0_layInto_48 (by decide) ?_
        exact ih (i + 1) (by omega) H locs ls hl (hw.to (by rw [sN, lyN_s]))
  refine lv_aload_n hx hb dX0_layInto_0 rfl (lv_at hl 0 rfl) ?_
  refine wGet (v := .int (ln S k)) K hw hiX0 (wB_lane hk) rfl 2 (by decide) (by decide +kernel) rfl dX0_layInto_1 ?_
  refine lv_iload_n hx hb dX0_layInto_4 rfl (lv_at hl 2 rfl) ?_
  refine lv_isub hx hb dX0_layInto_5 ?_
  rw [show ((ln S k) - (nI f) : Int32) = nI (n - f) from by rw [hln]; exact pk_sub hf]
  refine lv_aload_n hx hb dX0_layInto_6 rfl (lv_at hl 0 rfl) ?_
  refine wGet (v := .ref (ad (4 + 4 * k))) K hw hiX0 (wB_lane hk) rfl 1 (by decide) (by decide +kernel) rfl dX0_layInto_7 ?_
  refine wGet (v := .int (S.2.2 4 k)) K hw hiX1 (wB_sheet hk) rfl 2 (by decide) (by decide +kernel) rfl dX0_layInto_10 ?_
  refine va_mmin hx hb (hml.trans hl.1.symm) hown (hts (.methodLink RX0 37 Lib.Math.min.name) (by decide +kernel)) (hts (.static Lib.Math.min.name) (by decide +kernel)) (hts (.initialized "java/lang/Math") (by decide +kernel)) (hts (.code Lib.Math.min.name Lib.Math.min.code 2 (some .int)) (by decide +kernel)) (Nat.le_of_ble_eq_true rfl) (Nat.le_of_ble_eq_true rfl) (Nat.le_of_ble_eq_true rfl) (Nat.le_of_ble_eq_true rfl) dX0_layInto_13 ?_
  refine lv_topi (fun ld eld => ?_)
  have eld2 : ld = nI (lyM S k f) := by rw [eld, eq, min_nI (by omega) (by omega), hM]
  subst eld2
  refine lv_istore_n (lv' := [(3, .int (nI (lyM S k f))), (0, .ref (ad (2 + 4 * k))), (1, .int (nI a)), (2, .int (nI f))]) hx hb dX0_layInto_16 rfl hl (by decide) rfl (fun ls hl => ?_)
  refine lv_iconst (v := 0) hx hb dX0_layInto_17 (by decide) ?_
  refine lv_istore (lv' := [(4, .int 0), (3, .int (nI (lyM S k f))), (0, .ref (ad (2 + 4 * k))), (1, .int (nI a)), (2, .int (nI f))]) hx hb dX0_layInto_18 hl (by decide) rfl (fun ls hl => ?_)
  exact loop (lyM S k f) 0 (by omega) _ _ _ (by rw [nI_0]; exact hl) (hw.to (by rw [lyN_0]))
end
section
/-! the class's own methods but for playing -/
theorem pst {E : wE} {ad : Nat → Nat} {x : Int32 × SS} {r : Int32} {S' : SS} (e : x = (r, S')) : r = x.1 ∧ wB E ad S' = wB E ad x.2 := by rw [e]; exact ⟨rfl, rfl⟩
theorem sC_self {S : SS} {k i : Nat} {v : Int32} : (sC S k i v).1 k i = v := by simp [sC, up2, upd]
theorem le_of_ix {x y : Int32} {n : Nat} (hn : n < 2 ^ 31) (e : y = nI n) (h0 : ¬ x < 0) (h1 : x ≤ y) : ∃ j : Nat, j ≤ n ∧ x = nI j := by
  obtain ⟨j, hj, ej⟩ := nI_of h0
  refine ⟨j, ?_, ej⟩
  rw [e, ej] at h1
  exact (nI_leI hj hn).mp h1
theorem rng60 {x : Int32} (h0 : 0 ≤ x) (h1 : x ≤ 60) : ∃ j : Nat, j ≤ 60 ∧ x = nI j := le_of_ix (y := 60) (by omega) rfl (Int32.not_lt.mpr h0) h1
theorem way4 {w : Int32} (h : ¬ w < 0 ∧ ¬ 4 ≤ w) : ∃ j : Nat, j < 4 ∧ w = nI j := lt_of_ix (y := 4) (N := 4) (n := 4) (by omega) (by omega) rfl h.1 h.2
set_option maxHeartbeats 4000000 in
set_option maxRecDepth 100000 in
theorem mX2_stored (l : Launch) (E : wE) (ws : va_W) (k : Nat) (hk : k < 5) (v : Int64) : MCi l E yX2_stored wsX2_stored { frames := 1, cells := 0, slots := 0, locals := 23 } [.int (nI k), .long v] (ws) (fun r w => r = sto k v ∧ w = ws) := by
  refine wEnterI (cc := cX2_stored) (nL := 3) (ret := (some .int)) (own := RX2) (by decide) rfl rfl (Nat.le_of_ble_eq_true rfl) ?_
  intro p e s m below meth c A ls K hl hw
  have hl : lv_has ls 3 [(0, .int (nI k)), (1, .long v)] := hl
  obtain ⟨hx, hb, -, hml, hown, hts, -, -, -⟩ := id K
  refine lv_iload_n hx hb dX2_stored_0 rfl (lv_at hl 0 rfl) ?_
  rcases (show k = 0 ∨ k = 1 ∨ k = 2 ∨ k = 3 ∨ k = 4 by omega) with rfl | rfl | rfl | rfl | rfl
  · refine lv_tableIn (off := 35) (tgt := 36) hx hb dX2_stored_1 (by decide +kernel) (by decide +kernel) (by decide +kernel) (by decide) ?_
    refine lv_lload_n hx hb dX2_stored_36 rfl (lv_at hl 1 rfl) ?_
    refine lv_ldc2 (v := 65535) hx hb hown (hts (.constantLong RX2 119 65535) (by decide +kernel)) dX2_stored_37 ?_
    refine lv_land hx hb dX2_stored_40 ?_
    refine lv_l2i (v := (v &&& 65535).toInt32) hx hb dX2_stored_41 rfl ?_
    exact wRetI K hw dX2_stored_42 ⟨rfl, rfl⟩
  · refine lv_tableIn (off := 42) (tgt := 43) hx hb dX2_stored_1 (by decide +kernel) (by decide +kernel) (by decide +kernel) (by decide) ?_
    refine lv_lload_n hx hb dX2_stored_43 rfl (lv_at hl 1 rfl) ?_
    refine lv_l2i (v := v.toInt32) hx hb dX2_stored_44 rfl ?_
    refine lv_i2s (v := (v.toInt32).toInt16.toInt32) hx hb dX2_stored_45 rfl ?_
    exact wRetI K hw dX2_stored_46 ⟨rfl, rfl⟩
  · refine lv_tableIn (off := 55) (tgt := 56) hx hb dX2_stored_1 (by decide +kernel) (by decide +kernel) (by decide +kernel) (by decide) ?_
    refine lv_ldc2 (v := (-8000)) hx hb hown (hts (.constantLong RX2 121 (-8000)) (by decide +kernel)) dX2_stored_56 ?_
    refine lv_ldc2 (v := 8000) hx hb hown (hts (.constantLong RX2 123 8000) (by decide +kernel)) dX2_stored_59 ?_
    refine lv_lload_n hx hb dX2_stored_62 rfl (lv_at hl 1 rfl) ?_
    refine va_mmin_long hx hb (hml.trans hl.1.symm) hown (hts (.methodLink RX2 125 Lib.MathLoose.min_long.x) (by decide +kernel)) (hts (.static Lib.MathLoose.min_long.x) (by decide +kernel)) (hts (.initialized "java/lang/Math") (by decide +kernel)) (hts (.code Lib.MathLoose.min_long.x Lib.MathLoose.min_long.code 4 (some .long)) (by decide +kernel)) (Nat.le_of_ble_eq_true rfl) (Nat.le_of_ble_eq_true rfl) (Nat.le_of_ble_eq_true rfl) (Nat.le_of_ble_eq_true rfl) dX2_stored_63 ?_
    refine va_mmax_long hx hb (hml.trans hl.1.symm) hown (hts (.methodLink RX2 131 Lib.MathLoose.max_long.x) (by decide +kernel)) (hts (.static Lib.MathLoose.max_long.x) (by decide +kernel)) (hts (.initialized "java/lang/Math") (by decide +kernel)) (hts (.code Lib.MathLoose.max_long.x Lib.MathLoose.max_long.code 4 (some .long)) (by decide +kernel)) (Nat.le_of_ble_eq_true rfl) (Nat.le_of_ble_eq_true rfl) (Nat.le_of_ble_eq_true rfl) (Nat.le_of_ble_eq_true rfl) dX2_stored_66 ?_
    refine lv_l2i (v := (if (if v < 8000 then v else 8000) < (-8000) then (-8000) else (if v < 8000 then v else 8000)).toInt32) hx hb dX2_stored_69 rfl ?_
    exact wRetI K hw dX2_stored_70 ⟨rfl, rfl⟩
  · refine lv_tableIn (off := 50) (tgt := 51) hx hb dX2_stored_1 (by decide +kernel) (by decide +kernel) (by decide +kernel) (by decide) ?_
    refine lv_lload_n hx hb dX2_stored_51 rfl (lv_at hl 1 rfl) ?_
    refine lv_lconst (v := 1) hx hb dX2_stored_52 (by decide) ?_
    refine lv_land hx hb dX2_stored_53 ?_
    refine lv_l2i (v := (v &&& 1).toInt32) hx hb dX2_stored_54 rfl ?_
    exact wRetI K hw dX2_stored_55 ⟨rfl, rfl⟩
  · refine lv_tableIn (off := 46) (tgt := 47) hx hb dX2_stored_1 (by decide +kernel) (by decide +kernel) (by decide +kernel) (by decide) ?_
    refine lv_lload_n hx hb dX2_stored_47 rfl (lv_at hl 1 rfl) ?_
    refine lv_l2i (v := v.toInt32) hx hb dX2_stored_48 rfl ?_
    refine lv_i2b (v := (v.toInt32).toInt8.toInt32) hx hb dX2_stored_49 rfl ?_
    exact wRetI K hw dX2_stored_50 ⟨rfl, rfl⟩
set_option maxHeartbeats 4000000 in
set_option maxRecDepth 100000 in
theorem mX2_changedPedal (l : Launch) (E : wE) (ws : va_W) (j : Nat) (hj : j < 4) (x o : Int32) : MCi l E yX2_changedPedal wsX2_changedPedal { frames := 0, cells := 0, slots := 0, locals := 0 } [.int (nI j), .int x, .int o] (ws) (fun r w => r = ped (nI j) x o ∧ w = ws) := by
  refine wEnterI (cc := cX2_changedPedal) (nL := 3) (ret := (some .int)) (own := RX2) (by decide) rfl rfl (Nat.le_of_ble_eq_true rfl) ?_
  intro p e s m below meth c A ls K hl hw
  have hl : lv_has ls 3 [(0, .int (nI j)), (1, .int x), (2, .int o)] := hl
  obtain ⟨hx, hb, -, hml, hown, hts, -, -, -⟩ := id K
  refine lv_iload_n hx hb dX2_changedPedal_0 rfl (lv_at hl 0 rfl) ?_
  rcases (show j = 0 ∨ j = 1 ∨ j = 2 ∨ j = 3 by omega) with rfl | rfl | rfl | rfl
  · refine lv_tableIn (off := 27) (tgt := 28) hx hb dX2_changedPedal_1 (by decide +kernel) (by decide +kernel) (by decide +kernel) (by decide) ?_
    refine lv_iload_n hx hb dX2_changedPedal_28 rfl (lv_at hl 1 rfl) ?_
    refine lv_iload_n hx hb dX2_changedPedal_29 rfl (lv_at hl 2 rfl) ?_
    refine lv_ior hx hb dX2_changedPedal_30 ?_
    exact wRetI K hw dX2_changedPedal_31 ⟨by rw [ped, if_pos (by decide)], rfl⟩
  · refine lv_tableIn (off := 31) (tgt := 32) hx hb dX2_changedPedal_1 (by decide +kernel) (by decide +kernel) (by decide +kernel) (by decide) ?_
    refine lv_iload_n hx hb dX2_changedPedal_32 rfl (lv_at hl 1 rfl) ?_
    refine lv_iload_n hx hb dX2_changedPedal_33 rfl (lv_at hl 2 rfl) ?_
    refine lv_iand hx hb dX2_changedPedal_34 ?_
    exact wRetI K hw dX2_changedPedal_35 ⟨by rw [ped, if_neg (by decide), if_pos (by decide)], rfl⟩
  · refine lv_tableIn (off := 35) (tgt := 36) hx hb dX2_changedPedal_1 (by decide +kernel) (by decide +kernel) (by decide +kernel) (by decide) ?_
    refine lv_iload_n hx hb dX2_changedPedal_36 rfl (lv_at hl 1 rfl) ?_
    refine lv_iload_n hx hb dX2_changedPedal_37 rfl (lv_at hl 2 rfl) ?_
    refine lv_ixor hx hb dX2_changedPedal_38 ?_
    exact wRetI K hw dX2_changedPedal_39 ⟨by rw [ped, if_neg (by decide), if_neg (by decide), if_pos (by decide)], rfl⟩
  · refine lv_tableOut (tgt := 40) hx hb dX2_changedPedal_1 (by decide +kernel) (by decide) ?_
    refine lv_iconst (v := 1) hx hb dX2_changedPedal_40 (by decide) ?_
    refine lv_iload_n hx hb dX2_changedPedal_41 rfl (lv_at hl 1 rfl) ?_
    refine lv_isub hx hb dX2_changedPedal_42 ?_
    exact wRetI K hw dX2_changedPedal_43 ⟨by rw [ped, if_neg (by decide), if_neg (by decide), if_neg (by decide)], rfl⟩
set_option maxHeartbeats 4000000 in
set_option maxRecDepth 100000 in
theorem mX2_reckoned (l : Launch) (E : wE) (ws : va_W) (j : Nat) (hj : j < 4) (x o : Int64) : MCl l E yX2_reckoned wsX2_reckoned { frames := 0, cells := 0, slots := 0, locals := 0 } [.int (nI j), .long x, .long o] (ws) (fun r w => r = rck (nI j) x o ∧ w = ws) := by
  refine wEnterL (cc := cX2_reckoned) (nL := 5) (ret := (some .long)) (own := RX2) (by decide) rfl rfl (Nat.le_of_ble_eq_true rfl) ?_
  intro p e s m below meth c A ls K hl hw
  have hl : lv_has ls 5 [(0, .int (nI j)), (1, .long x), (3, .long o)] := hl
  obtain ⟨hx, hb, -, hml, hown, hts, -, -, -⟩ := id K
  refine lv_iload_n hx hb dX2_reckoned_0 rfl (lv_at hl 0 rfl) ?_
  rcases (show j = 0 ∨ j = 1 ∨ j = 2 ∨ j = 3 by omega) with rfl | rfl | rfl | rfl
  · refine lv_tableIn (off := 27) (tgt := 28) hx hb dX2_reckoned_1 (by decide +kernel) (by decide +kernel) (by decide +kernel) (by decide) ?_
    refine lv_lload_n hx hb dX2_reckoned_28 rfl (lv_at hl 1 rfl) ?_
    refine lv_lload_n hx hb dX2_reckoned_29 rfl (lv_at hl 2 rfl) ?_
    refine lv_ladd hx hb dX2_reckoned_30 ?_
    exact wRetL K hw dX2_reckoned_31 ⟨by rw [rck, if_pos (by decide)], rfl⟩
  · refine lv_tableIn (off := 31) (tgt := 32) hx hb dX2_reckoned_1 (by decide +kernel) (by decide +kernel) (by decide +kernel) (by decide) ?_
    refine lv_lload_n hx hb dX2_reckoned_32 rfl (lv_at hl 1 rfl) ?_
    refine lv_lload_n hx hb dX2_reckoned_33 rfl (lv_at hl 2 rfl) ?_
    refine lv_lsub hx hb dX2_reckoned_34 ?_
    exact wRetL K hw dX2_reckoned_35 ⟨by rw [rck, if_neg (by decide), if_pos (by decide)], rfl⟩
  · refine lv_tableIn (off := 35) (tgt := 36) hx hb dX2_reckoned_1 (by decide +kernel) (by decide +kernel) (by decide +kernel) (by decide) ?_
    refine lv_lload_n hx hb dX2_reckoned_36 rfl (lv_at hl 1 rfl) ?_
    refine lv_lload_n hx hb dX2_reckoned_37 rfl (lv_at hl 2 rfl) ?_
    refine lv_lmul hx hb dX2_reckoned_38 ?_
    exact wRetL K hw dX2_reckoned_39 ⟨by rw [rck, if_neg (by decide), if_neg (by decide), if_pos (by decide)], rfl⟩
  · refine lv_tableOut (tgt := 40) hx hb dX2_reckoned_1 (by decide +kernel) (by decide) ?_
    refine lv_lload_n hx hb dX2_reckoned_40 rfl (lv_at hl 1 rfl) ?_
    refine lv_lconst (v := 1) hx hb dX2_reckoned_41 (by decide) ?_
    refine lv_ladd hx hb dX2_reckoned_42 ?_
    exact wRetL K hw dX2_reckoned_43 ⟨by rw [rck, if_neg (by decide), if_neg (by decide), if_neg (by decide)], rfl⟩
set_option maxHeartbeats 4000000 in
set_option maxRecDepth 100000 in
theorem mX2_changed (l : Launch) (E : wE) (ws : va_W) (k : Nat) (hk : k < 5) (j : Nat) (hj : j < 4) (x v : Int32) : MCi l E yX2_changed wsX2_changed { frames := 2, cells := 0, slots := 0, locals := 45 } [.int (nI k), .int (nI j), .int x, .int v] (ws) (fun r w => r = chg k (nI j) x v ∧ w = ws) := by
  refine wEnterI (cc := cX2_changed) (nL := 4) (ret := (some .int)) (own := RX2) (by decide) rfl rfl (Nat.le_of_ble_eq_true rfl) ?_
  intro p e s m below meth c A ls K hl hw
  have hl : lv_has ls 4 [(0, .int (nI k)), (1, .int (nI j)), (2, .int x), (3, .int v)] := hl
  obtain ⟨hx, hb, -, hml, hown, hts, -, -, -⟩ := id K
  refine lv_iload_n hx hb dX2_changed_0 rfl (lv_at hl 0 rfl) ?_
  refine lv_iconst (v := 3) hx hb dX2_changed_1 (by decide) ?_
  refine lv_icmp_ne (tgt := 14) hx hb dX2_changed_2 (by decide) (fun c_2 => ?_) (fun c_2 => ?_)
  · have hk3 : ¬ k = 3 := fun q => c_2 (by rw [q]; rfl)
    refine lv_iload_n hx hb dX2_changed_14 rfl (lv_at hl 0 rfl) ?_
    refine lv_iload_n hx hb dX2_changed_15 rfl (lv_at hl 1 rfl) ?_
    refine lv_iload_n hx hb dX2_changed_16 rfl (lv_at hl 2 rfl) ?_
    refine lv_i2l (v := x.toInt64) hx hb dX2_changed_17 rfl ?_
    refine lv_iload_n hx hb dX2_changed_18 rfl (lv_at hl 3 rfl) ?_
    refine lv_i2l (v := v.toInt64) hx hb dX2_changed_19 rfl ?_
    refine wCallSl (As := [.int (nI j), .long (x.toInt64), .long (v.toInt64)]) (rest := [.int (nI k)]) K hw (mX2_reckoned l E ws j hj x.toInt64 v.toInt64) (va_cwS 3 hts gX2_changed_X2_reckoned rfl rfl rfl (by decide +kernel) ⟨Nat.le_of_ble_eq_true rfl, Nat.le_of_ble_eq_true rfl⟩)  rfl hl.1 rfl (Nat.le_of_ble_eq_true rfl) dX2_changed_20 ⟨Nat.zero_le _, Nat.zero_le _⟩ (fun r_20 w' H locs hr hw => ?_)
    obtain ⟨rfl, e20⟩ := hr
    rw [e20] at hw
    refine wCallS (As := [.int (nI k), .long (rck (nI j) x.toInt64 v.toInt64)]) (rest := []) K hw (mX2_stored l E ws k hk (rck (nI j) x.toInt64 v.toInt64)) (va_cwS 2 hts gX2_changed_X2_stored rfl rfl rfl (by decide +kernel) ⟨Nat.le_of_ble_eq_true rfl, Nat.le_of_ble_eq_true rfl⟩)  rfl hl.1 rfl (Nat.le_of_ble_eq_true rfl) dX2_changed_23 ⟨Nat.zero_le _, Nat.zero_le _⟩ (fun r_23 w' H locs hr hw => ?_)
    obtain ⟨hr23, e23⟩ := hr
    rw [e23] at hw
    exact wRetI K hw dX2_changed_26 ⟨by rw [hr23, chg, if_neg hk3], rfl⟩
  · have hk3 : k = 3 := (nI_eq (b := 3) (by omega) (by omega)).mp c_2
    refine lv_iload_n hx hb dX2_changed_5 rfl (lv_at hl 1 rfl) ?_
    refine lv_iload_n hx hb dX2_changed_6 rfl (lv_at hl 2 rfl) ?_
    refine lv_iload_n hx hb dX2_changed_7 rfl (lv_at hl 3 rfl) ?_
    refine lv_iconst (v := 1) hx hb dX2_changed_8 (by decide) ?_
    refine lv_iand hx hb dX2_changed_9 ?_
    refine wCallS (As := [.int (nI j), .int x, .int (v &&& 1)]) (rest := []) K hw (mX2_changedPedal l E ws j hj x (v &&& 1)) (va_cwS 3 hts gX2_changed_X2_changedPedal rfl rfl rfl (by decide +kernel) ⟨Nat.le_of_ble_eq_true rfl, Nat.le_of_ble_eq_true rfl⟩)  rfl hl.1 rfl (Nat.le_of_ble_eq_true rfl) dX2_changed_10 ⟨Nat.zero_le _, Nat.zero_le _⟩ (fun r_10 w' H locs hr hw => ?_)
    obtain ⟨hr10, e10⟩ := hr
    rw [e10] at hw
    exact wRetI K hw dX2_changed_13 ⟨by rw [hr10, chg, if_pos hk3], rfl⟩
set_option maxHeartbeats 4000000 in
set_option maxRecDepth 100000 in
theorem mX2_mount (l : Launch) (E : wE) (ad : Nat → Nat) (S : SS) (hI : Inv S) (lane : Int32) (n : Int32) : MCi l E yX2_mount wsX2_mount { frames := 1, cells := 0, slots := 0, locals := 22 } [.ref (ad 0), .int lane, .int n] (wB E ad S) (fun r w => r = (sp_mount S lane n).1 ∧ w = wB E ad (sp_mount S lane n).2) := by
  refine wEnterI (cc := cX2_mount) (nL := 3) (ret := (some .int)) (own := RX2) (by decide) rfl rfl (Nat.le_of_ble_eq_true rfl) ?_
  intro p e s m below meth c A ls K hl hw
  have hl : lv_has ls 3 [(0, .ref (ad 0)), (1, .int lane), (2, .int n)] := hl
  obtain ⟨hx, hb, -, hml, hown, hts, -, -, -⟩ := id K
  have hiX2 : ∀ w ∈ wsX20, w ∈ wsX2_mount := by decide +kernel
  have hiX0 : ∀ w ∈ wsX00, w ∈ wsX2_mount := by decide +kernel
  refine lv_iload_n hx hb dX2_mount_0 rfl (lv_at hl 1 rfl) ?_
  refine wCallS (As := [.int lane]) (rest := []) K hw (mX2_isLane l E (wB E ad S) lane) (va_cwS 1 hts gX2_mount_X2_isLane rfl rfl rfl (by decide +kernel) ⟨Nat.le_of_ble_eq_true rfl, Nat.le_of_ble_eq_true rfl⟩)  rfl hl.1 rfl (Nat.le_of_ble_eq_true rfl) dX2_mount_1 ⟨Nat.zero_le _, Nat.zero_le _⟩ (fun r_1 w' H locs hr hw => ?_)
  obtain ⟨hr1, rfl⟩ := hr
  refine lv_if_ne (tgt := 10) hx hb dX2_mount_4 (by decide) (fun c_4 => ?_) (fun c_4 => ?_)
  · have hl0 := bI_t hr1 c_4
    obtain ⟨j, hj, rfl⟩ := isl_of hl0
    refine lv_iload_n hx hb dX2_mount_10 rfl (lv_at hl 2 rfl) ?_
    refine lv_bipush (v := 60) hx hb dX2_mount_11 (by decide) ?_
    refine lv_icmp_le (tgt := 19) hx hb dX2_mount_13 (by decide) (fun c_13 => ?_) (fun c_13 => ?_)
    · refine lv_iload_n hx hb dX2_mount_19 rfl (lv_at hl 2 rfl) ?_
      refine lv_if_ge (tgt := 26) hx hb dX2_mount_20 (by decide) (fun c_20 => ?_) (fun c_20 => ?_)
      · obtain ⟨q, hq, rfl⟩ := rng60 c_20 c_13
        refine lv_aload_n hx hb dX2_mount_26 rfl (lv_at hl 0 rfl) ?_
        refine wGet (v := .ref (ad 1)) K hw hiX2 wB_b rfl 0 (by decide) (by decide +kernel) rfl dX2_mount_27 ?_
        refine lv_iload_n hx hb dX2_mount_30 rfl (lv_at hl 1 rfl) ?_
        refine wAald K hw wB_l (in5 hj) (gLanes_at hj) dX2_mount_31 ?_
        refine lv_iload_n hx hb dX2_mount_32 rfl (lv_at hl 2 rfl) ?_
        refine wCallVv (As := [.int (nI q)]) (rest := []) K hw (mX0_renew l E ad S j hj q hq) (cwV 1 hts gX2_mount_X0_renew rfl rfl rfl (by decide +kernel) ⟨Nat.le_of_ble_eq_true rfl, Nat.le_of_ble_eq_true rfl⟩) (wB_lane hj) rfl rfl hl.1 rfl (Nat.le_of_ble_eq_true rfl) dX2_mount_33 ⟨Nat.zero_le _, Nat.zero_le _⟩ (fun w' H locs hr hw => ?_)
        subst hr
        refine lv_iload_n hx hb dX2_mount_36 rfl (lv_at hl 2 rfl) ?_
        exact wRetI K hw dX2_mount_37 (pst (by rw [sp_mount, if_pos hl0, if_pos c_13, if_pos c_20, kN_nI (by omega), kN_nI (by omega)]))
      · refine lv_ldc (v := (-1000004)) hx hb hown (hts (.constant RX2 22 (-1000004)) (by decide +kernel)) dX2_mount_23 ?_
        exact wRetI K hw dX2_mount_25 (pst (by rw [sp_mount, if_pos hl0, if_pos c_13, if_neg c_20]))
    · refine lv_ldc (v := (-1000003)) hx hb hown (hts (.constant RX2 21 (-1000003)) (by decide +kernel)) dX2_mount_16 ?_
      exact wRetI K hw dX2_mount_18 (pst (by rw [sp_mount, if_pos hl0, if_neg c_13]))
  · have hl0 := bI_f hr1 c_4
    refine lv_ldc (v := (-1000001)) hx hb hown (hts (.constant RX2 20 (-1000001)) (by decide +kernel)) dX2_mount_7 ?_
    exact wRetI K hw dX2_mount_9 (pst (by rw [sp_mount, if_neg hl0]))
set_option maxHeartbeats 4000000 in
set_option maxRecDepth 100000 in
theorem mX2_strip (l : Launch) (E : wE) (ad : Nat → Nat) (S : SS) (hI : Inv S) (lane : Int32) : MCi l E yX2_strip wsX2_strip { frames := 1, cells := 0, slots := 0, locals := 20 } [.ref (ad 0), .int lane] (wB E ad S) (fun r w => r = (sp_strip S lane).1 ∧ w = wB E ad (sp_strip S lane).2) := by
  refine wEnterI (cc := cX2_strip) (nL := 4) (ret := (some .int)) (own := RX2) (by decide) rfl rfl (Nat.le_of_ble_eq_true rfl) ?_
  intro p e s m below meth c A ls K hl hw
  have hl : lv_has ls 4 [(0, .ref (ad 0)), (1, .int lane)] := hl
  obtain ⟨hx, hb, -, hml, hown, hts, -, -, -⟩ := id K
  have hiX2 : ∀ w ∈ wsX20, w ∈ wsX2_strip := by decide +kernel
  have hiX0 : ∀ w ∈ wsX00, w ∈ wsX2_strip := by decide +kernel
  refine lv_iload_n hx hb dX2_strip_0 rfl (lv_at hl 1 rfl) ?_
  refine wCallS (As := [.int lane]) (rest := []) K hw (mX2_isLane l E (wB E ad S) lane) (va_cwS 1 hts gX2_strip_X2_isLane rfl rfl rfl (by decide +kernel) ⟨Nat.le_of_ble_eq_true rfl, Nat.le_of_ble_eq_true rfl⟩)  rfl hl.1 rfl (Nat.le_of_ble_eq_true rfl) dX2_strip_1 ⟨Nat.zero_le _, Nat.zero_le _⟩ (fun r_1 w' H locs hr hw => ?_)
  obtain ⟨hr1, rfl⟩ := hr
  refine lv_if_ne (tgt := 10) hx hb dX2_strip_4 (by decide) (fun c_4 => ?_) (fun c_4 => ?_)
  · have hl0 := bI_t hr1 c_4
    obtain ⟨j, hj, rfl⟩ := isl_of hl0
    refine lv_aload_n hx hb dX2_strip_10 rfl (lv_at hl 0 rfl) ?_
    refine wGet (v := .ref (ad 1)) K hw hiX2 wB_b rfl 0 (by decide) (by decide +kernel) rfl dX2_strip_11 ?_
    refine lv_iload_n hx hb dX2_strip_14 rfl (lv_at hl 1 rfl) ?_
    refine wAald K hw wB_l (in5 hj) (gLanes_at hj) dX2_strip_15 ?_
    refine lv_astore_n (lv' := [(2, .ref (ad (2 + 4 * j))), (0, .ref (ad 0)), (1, .int (nI j))]) hx hb dX2_strip_16 rfl hl (by decide) rfl (fun ls hl => ?_)
    refine lv_aload_n hx hb dX2_strip_17 rfl (lv_at hl 0 rfl) ?_
    refine wCallV (As := []) (rest := []) K hw (mX0_isOff l E ad S hI j hj) (cwV 0 hts gX2_strip_X0_isOff rfl rfl rfl (by decide +kernel) ⟨Nat.le_of_ble_eq_true rfl, Nat.le_of_ble_eq_true rfl⟩) (wB_lane hj) rfl rfl hl.1 rfl (Nat.le_of_ble_eq_true rfl) dX2_strip_18 ⟨Nat.zero_le _, Nat.zero_le _⟩ (fun r_18 w' H locs hr hw => ?_)
    obtain ⟨hr18, rfl⟩ := hr
    refine lv_if_eq (tgt := 29) hx hb dX2_strip_21 (by decide) (fun c_21 => ?_) (fun c_21 => ?_)
    · have h2 := bI_f hr18 c_21
      refine lv_aload_n hx hb dX2_strip_29 rfl (lv_at hl 0 rfl) ?_
      refine wGet (v := .int (ln S j)) K hw hiX0 (wB_lane hj) rfl 2 (by decide) (by decide +kernel) rfl dX2_strip_30 ?_
      refine lv_istore_n (lv' := [(3, .int (ln S j)), (2, .ref (ad (2 + 4 * j))), (0, .ref (ad 0)), (1, .int (nI j))]) hx hb dX2_strip_33 rfl hl (by decide) rfl (fun ls hl => ?_)
      refine lv_aload_n hx hb dX2_strip_34 rfl (lv_at hl 1 rfl) ?_
      refine wCallVv (As := []) (rest := []) K hw (mX0_turnOff l E ad S j hj) (cwV 0 hts gX2_strip_X0_turnOff rfl rfl rfl (by decide +kernel) ⟨Nat.le_of_ble_eq_true rfl, Nat.le_of_ble_eq_true rfl⟩) (wB_lane hj) rfl rfl hl.1 rfl (Nat.le_of_ble_eq_true rfl) dX2_strip_35 ⟨Nat.zero_le _, Nat.zero_le _⟩ (fun w' H locs hr hw => ?_)
      subst hr
      refine lv_iload_n hx hb dX2_strip_38 rfl (lv_at hl 0 rfl) ?_
      exact wRetI K hw dX2_strip_39 (pst (by rw [sp_strip, if_pos hl0, kN_nI (by omega), if_neg h2, ln_on h2]))
    · have h2 := bI_t hr18 c_21
      refine lv_aload_n hx hb dX2_strip_24 rfl (lv_at hl 0 rfl) ?_
      refine wCallV (As := []) (rest := []) K hw (mX0_refuseOff l E ad S j hj) (cwV 0 hts gX2_strip_X0_refuseOff rfl rfl rfl (by decide +kernel) ⟨Nat.le_of_ble_eq_true rfl, Nat.le_of_ble_eq_true rfl⟩) (wB_lane hj) rfl rfl hl.1 rfl (Nat.le_of_ble_eq_true rfl) dX2_strip_25 ⟨Nat.zero_le _, Nat.zero_le _⟩ (fun r_25 w' H locs hr hw => ?_)
      obtain ⟨rfl, rfl⟩ := hr
      exact wRetI K hw dX2_strip_28 (pst (by rw [sp_strip, if_pos hl0, kN_nI (by omega), if_pos h2]))
  · have hl0 := bI_f hr1 c_4
    refine lv_ldc (v := (-1000001)) hx hb hown (hts (.constant RX2 20 (-1000001)) (by decide +kernel)) dX2_strip_7 ?_
    exact wRetI K hw dX2_strip_9 (pst (by rw [sp_strip, if_neg hl0]))
set_option maxHeartbeats 4000000 in
set_option maxRecDepth 100000 in
theorem mX2_size (l : Launch) (E : wE) (ad : Nat → Nat) (S : SS) (hI : Inv S) (lane : Int32) : MCi l E yX2_size wsX2_size { frames := 1, cells := 0, slots := 0, locals := 20 } [.ref (ad 0), .int lane] (wB E ad S) (fun r w => r = (sp_size S lane).1 ∧ w = wB E ad (sp_size S lane).2) := by
  refine wEnterI (cc := cX2_size) (nL := 3) (ret := (some .int)) (own := RX2) (by decide) rfl rfl (Nat.le_of_ble_eq_true rfl) ?_
  intro p e s m below meth c A ls K hl hw
  have hl : lv_has ls 3 [(0, .ref (ad 0)), (1, .int lane)] := hl
  obtain ⟨hx, hb, -, hml, hown, hts, -, -, -⟩ := id K
  have hiX2 : ∀ w ∈ wsX20, w ∈ wsX2_size := by decide +kernel
  have hiX0 : ∀ w ∈ wsX00, w ∈ wsX2_size := by decide +kernel
  refine lv_iload_n hx hb dX2_size_0 rfl (lv_at hl 1 rfl) ?_
  refine wCallS (As := [.int lane]) (rest := []) K hw (mX2_isLane l E (wB E ad S) lane) (va_cwS 1 hts gX2_size_X2_isLane rfl rfl rfl (by decide +kernel) ⟨Nat.le_of_ble_eq_true rfl, Nat.le_of_ble_eq_true rfl⟩)  rfl hl.1 rfl (Nat.le_of_ble_eq_true rfl) dX2_size_1 ⟨Nat.zero_le _, Nat.zero_le _⟩ (fun r_1 w' H locs hr hw => ?_)
  obtain ⟨hr1, rfl⟩ := hr
  refine lv_if_ne (tgt := 10) hx hb dX2_size_4 (by decide) (fun c_4 => ?_) (fun c_4 => ?_)
  · have hl0 := bI_t hr1 c_4
    obtain ⟨j, hj, rfl⟩ := isl_of hl0
    refine lv_aload_n hx hb dX2_size_10 rfl (lv_at hl 0 rfl) ?_
    refine wGet (v := .ref (ad 1)) K hw hiX2 wB_b rfl 0 (by decide) (by decide +kernel) rfl dX2_size_11 ?_
    refine lv_iload_n hx hb dX2_size_14 rfl (lv_at hl 1 rfl) ?_
    refine wAald K hw wB_l (in5 hj) (gLanes_at hj) dX2_size_15 ?_
    refine lv_astore_n (lv' := [(2, .ref (ad (2 + 4 * j))), (0, .ref (ad 0)), (1, .int (nI j))]) hx hb dX2_size_16 rfl hl (by decide) rfl (fun ls hl => ?_)
    refine lv_aload_n hx hb dX2_size_17 rfl (lv_at hl 0 rfl) ?_
    refine wCallV (As := []) (rest := []) K hw (mX0_isOff l E ad S hI j hj) (cwV 0 hts gX2_size_X0_isOff rfl rfl rfl (by decide +kernel) ⟨Nat.le_of_ble_eq_true rfl, Nat.le_of_ble_eq_true rfl⟩) (wB_lane hj) rfl rfl hl.1 rfl (Nat.le_of_ble_eq_true rfl) dX2_size_18 ⟨Nat.zero_le _, Nat.zero_le _⟩ (fun r_18 w' H locs hr hw => ?_)
    obtain ⟨hr18, rfl⟩ := hr
    refine lv_if_eq (tgt := 29) hx hb dX2_size_21 (by decide) (fun c_21 => ?_) (fun c_21 => ?_)
    · have h2 := bI_f hr18 c_21
      refine lv_aload_n hx hb dX2_size_29 rfl (lv_at hl 0 rfl) ?_
      refine wGet (v := .int (ln S j)) K hw hiX0 (wB_lane hj) rfl 2 (by decide) (by decide +kernel) rfl dX2_size_30 ?_
      exact wRetI K hw dX2_size_33 (pst (by rw [sp_size, if_pos hl0, kN_nI (by omega), if_neg h2, ln_on h2]))
    · have h2 := bI_t hr18 c_21
      refine lv_aload_n hx hb dX2_size_24 rfl (lv_at hl 0 rfl) ?_
      refine wCallV (As := []) (rest := []) K hw (mX0_refuseOff l E ad S j hj) (cwV 0 hts gX2_size_X0_refuseOff rfl rfl rfl (by decide +kernel) ⟨Nat.le_of_ble_eq_true rfl, Nat.le_of_ble_eq_true rfl⟩) (wB_lane hj) rfl rfl hl.1 rfl (Nat.le_of_ble_eq_true rfl) dX2_size_25 ⟨Nat.zero_le _, Nat.zero_le _⟩ (fun r_25 w' H locs hr hw => ?_)
      obtain ⟨rfl, rfl⟩ := hr
      exact wRetI K hw dX2_size_28 (pst (by rw [sp_size, if_pos hl0, kN_nI (by omega), if_pos h2]))
  · have hl0 := bI_f hr1 c_4
    refine lv_ldc (v := (-1000001)) hx hb hown (hts (.constant RX2 20 (-1000001)) (by decide +kernel)) dX2_size_7 ?_
    exact wRetI K hw dX2_size_9 (pst (by rw [sp_size, if_neg hl0]))
set_option maxHeartbeats 4000000 in
set_option maxRecDepth 100000 in
theorem mX2_cell (l : Launch) (E : wE) (ad : Nat → Nat) (S : SS) (hI : Inv S) (lane : Int32) (i : Int32) : MCi l E yX2_cell wsX2_cell { frames := 1, cells := 0, slots := 0, locals := 21 } [.ref (ad 0), .int lane, .int i] (wB E ad S) (fun r w => r = (sp_cell S lane i).1 ∧ w = wB E ad (sp_cell S lane i).2) := by
  refine wEnterI (cc := cX2_cell) (nL := 4) (ret := (some .int)) (own := RX2) (by decide) rfl rfl (Nat.le_of_ble_eq_true rfl) ?_
  intro p e s m below meth c A ls K hl hw
  have hl : lv_has ls 4 [(0, .ref (ad 0)), (1, .int lane), (2, .int i)] := hl
  obtain ⟨hx, hb, -, hml, hown, hts, -, -, -⟩ := id K
  have hiX2 : ∀ w ∈ wsX20, w ∈ wsX2_cell := by decide +kernel
  have hiX0 : ∀ w ∈ wsX00, w ∈ wsX2_cell := by decide +kernel
  refine lv_iload_n hx hb dX2_cell_0 rfl (lv_at hl 1 rfl) ?_
  refine wCallS (As := [.int lane]) (rest := []) K hw (mX2_isLane l E (wB E ad S) lane) (va_cwS 1 hts gX2_cell_X2_isLane rfl rfl rfl (by decide +kernel) ⟨Nat.le_of_ble_eq_true rfl, Nat.le_of_ble_eq_true rfl⟩)  rfl hl.1 rfl (Nat.le_of_ble_eq_true rfl) dX2_cell_1 ⟨Nat.zero_le _, Nat.zero_le _⟩ (fun r_1 w' H locs hr hw => ?_)
  obtain ⟨hr1, rfl⟩ := hr
  refine lv_if_ne (tgt := 10) hx hb dX2_cell_4 (by decide) (fun c_4 => ?_) (fun c_4 => ?_)
  · have hl0 := bI_t hr1 c_4
    obtain ⟨j, hj, rfl⟩ := isl_of hl0
    refine lv_aload_n hx hb dX2_cell_10 rfl (lv_at hl 0 rfl) ?_
    refine wGet (v := .ref (ad 1)) K hw hiX2 wB_b rfl 0 (by decide) (by decide +kernel) rfl dX2_cell_11 ?_
    refine lv_iload_n hx hb dX2_cell_14 rfl (lv_at hl 1 rfl) ?_
    refine wAald K hw wB_l (in5 hj) (gLanes_at hj) dX2_cell_15 ?_
    refine lv_astore_n (lv' := [(3, .ref (ad (2 + 4 * j))), (0, .ref (ad 0)), (1, .int (nI j)), (2, .int i)]) hx hb dX2_cell_16 rfl hl (by decide) rfl (fun ls hl => ?_)
    refine lv_aload_n hx hb dX2_cell_17 rfl (lv_at hl 0 rfl) ?_
    refine wCallV (As := []) (rest := []) K hw (mX0_isOff l E ad S hI j hj) (cwV 0 hts gX2_cell_X0_isOff rfl rfl rfl (by decide +kernel) ⟨Nat.le_of_ble_eq_true rfl, Nat.le_of_ble_eq_true rfl⟩) (wB_lane hj) rfl rfl hl.1 rfl (Nat.le_of_ble_eq_true rfl) dX2_cell_18 ⟨Nat.zero_le _, Nat.zero_le _⟩ (fun r_18 w' H locs hr hw => ?_)
    obtain ⟨hr18, rfl⟩ := hr
    refine lv_if_eq (tgt := 29) hx hb dX2_cell_21 (by decide) (fun c_21 => ?_) (fun c_21 => ?_)
    · have h2 := bI_f hr18 c_21
      refine lv_aload_n hx hb dX2_cell_29 rfl (lv_at hl 0 rfl) ?_
      refine lv_iload_n hx hb dX2_cell_30 rfl (lv_at hl 3 rfl) ?_
      refine wCallV (As := [.int i]) (rest := []) K hw (mX0_hasCell l E ad S hI j hj i) (cwV 1 hts gX2_cell_X0_hasCell rfl rfl rfl (by decide +kernel) ⟨Nat.le_of_ble_eq_true rfl, Nat.le_of_ble_eq_true rfl⟩) (wB_lane hj) rfl rfl hl.1 rfl (Nat.le_of_ble_eq_true rfl) dX2_cell_31 ⟨Nat.zero_le _, Nat.zero_le _⟩ (fun r_31 w' H locs hr hw => ?_)
      obtain ⟨hr31, rfl⟩ := hr
      refine lv_if_ne (tgt := 42) hx hb dX2_cell_34 (by decide) (fun c_34 => ?_) (fun c_34 => ?_)
      · have h3 := bI_t hr31 c_34
        obtain ⟨q, hq, rfl⟩ := hI.cell hj h3
        refine lv_aload_n hx hb dX2_cell_42 rfl (lv_at hl 0 rfl) ?_
        refine wGet (v := .ref (ad (3 + 4 * j))) K hw hiX0 (wB_lane hj) rfl 0 (by decide) (by decide +kernel) rfl dX2_cell_43 ?_
        refine lv_iload_n hx hb dX2_cell_46 rfl (lv_at hl 3 rfl) ?_
        refine wIald (v := S.1 j q) K hw (wB_cells hj) (vp_in_nI hq (by omega)) (by rw [nI_clamp (by omega)]) dX2_cell_47 ?_
        exact wRetI K hw dX2_cell_48 (pst (by rw [sp_cell, if_pos hl0, kN_nI (by omega), if_neg h2, if_pos h3, kN_nI (by omega)]))
      · have h3 := bI_f hr31 c_34
        refine lv_aload_n hx hb dX2_cell_37 rfl (lv_at hl 0 rfl) ?_
        refine wCallV (As := []) (rest := []) K hw (mX0_refuseOut l E ad S j hj) (cwV 0 hts gX2_cell_X0_refuseOut rfl rfl rfl (by decide +kernel) ⟨Nat.le_of_ble_eq_true rfl, Nat.le_of_ble_eq_true rfl⟩) (wB_lane hj) rfl rfl hl.1 rfl (Nat.le_of_ble_eq_true rfl) dX2_cell_38 ⟨Nat.zero_le _, Nat.zero_le _⟩ (fun r_38 w' H locs hr hw => ?_)
        obtain ⟨rfl, rfl⟩ := hr
        exact wRetI K hw dX2_cell_41 (pst (by rw [sp_cell, if_pos hl0, kN_nI (by omega), if_neg h2, if_neg h3]))
    · have h2 := bI_t hr18 c_21
      refine lv_aload_n hx hb dX2_cell_24 rfl (lv_at hl 0 rfl) ?_
      refine wCallV (As := []) (rest := []) K hw (mX0_refuseOff l E ad S j hj) (cwV 0 hts gX2_cell_X0_refuseOff rfl rfl rfl (by decide +kernel) ⟨Nat.le_of_ble_eq_true rfl, Nat.le_of_ble_eq_true rfl⟩) (wB_lane hj) rfl rfl hl.1 rfl (Nat.le_of_ble_eq_true rfl) dX2_cell_25 ⟨Nat.zero_le _, Nat.zero_le _⟩ (fun r_25 w' H locs hr hw => ?_)
      obtain ⟨rfl, rfl⟩ := hr
      exact wRetI K hw dX2_cell_28 (pst (by rw [sp_cell, if_pos hl0, kN_nI (by omega), if_pos h2]))
  · have hl0 := bI_f hr1 c_4
    refine lv_ldc (v := (-1000001)) hx hb hown (hts (.constant RX2 20 (-1000001)) (by decide +kernel)) dX2_cell_7 ?_
    exact wRetI K hw dX2_cell_9 (pst (by rw [sp_cell, if_neg hl0]))
set_option maxHeartbeats 4000000 in
set_option maxRecDepth 100000 in
theorem mX2_put (l : Launch) (E : wE) (ad : Nat → Nat) (S : SS) (hI : Inv S) (lane : Int32) (i : Int32) (v : Int32) : MCi l E yX2_put wsX2_put { frames := 2, cells := 0, slots := 0, locals := 45 } [.ref (ad 0), .int lane, .int i, .int v] (wB E ad S) (fun r w => r = (sp_put S lane i v).1 ∧ w = wB E ad (sp_put S lane i v).2) := by
  refine wEnterI (cc := cX2_put) (nL := 5) (ret := (some .int)) (own := RX2) (by decide) rfl rfl (Nat.le_of_ble_eq_true rfl) ?_
  intro p e s m below meth c A ls K hl hw
  have hl : lv_has ls 5 [(0, .ref (ad 0)), (1, .int lane), (2, .int i), (3, .int v)] := hl
  obtain ⟨hx, hb, -, hml, hown, hts, -, -, -⟩ := id K
  have hiX2 : ∀ w ∈ wsX20, w ∈ wsX2_put := by decide +kernel
  have hiX0 : ∀ w ∈ wsX00, w ∈ wsX2_put := by decide +kernel
  refine lv_iload_n hx hb dX2_put_0 rfl (lv_at hl 1 rfl) ?_
  refine wCallS (As := [.int lane]) (rest := []) K hw (mX2_isLane l E (wB E ad S) lane) (va_cwS 1 hts gX2_put_X2_isLane rfl rfl rfl (by decide +kernel) ⟨Nat.le_of_ble_eq_true rfl, Nat.le_of_ble_eq_true rfl⟩)  rfl hl.1 rfl (Nat.le_of_ble_eq_true rfl) dX2_put_1 ⟨Nat.zero_le _, Nat.zero_le _⟩ (fun r_1 w' H locs hr hw => ?_)
  obtain ⟨hr1, rfl⟩ := hr
  refine lv_if_ne (tgt := 10) hx hb dX2_put_4 (by decide) (fun c_4 => ?_) (fun c_4 => ?_)
  · have hl0 := bI_t hr1 c_4
    obtain ⟨j, hj, rfl⟩ := isl_of hl0
    refine lv_aload_n hx hb dX2_put_10 rfl (lv_at hl 0 rfl) ?_
    refine wGet (v := .ref (ad 1)) K hw hiX2 wB_b rfl 0 (by decide) (by decide +kernel) rfl dX2_put_11 ?_
    refine lv_iload_n hx hb dX2_put_14 rfl (lv_at hl 1 rfl) ?_
    refine wAald K hw wB_l (in5 hj) (gLanes_at hj) dX2_put_15 ?_
    refine lv_astore (lv' := [(4, .ref (ad (2 + 4 * j))), (0, .ref (ad 0)), (1, .int (nI j)), (2, .int i), (3, .int v)]) hx hb dX2_put_16 hl (by decide) rfl (fun ls hl => ?_)
    refine lv_aload hx hb dX2_put_18 (lv_at hl 0 rfl) ?_
    refine wCallV (As := []) (rest := []) K hw (mX0_isOff l E ad S hI j hj) (cwV 0 hts gX2_put_X0_isOff rfl rfl rfl (by decide +kernel) ⟨Nat.le_of_ble_eq_true rfl, Nat.le_of_ble_eq_true rfl⟩) (wB_lane hj) rfl rfl hl.1 rfl (Nat.le_of_ble_eq_true rfl) dX2_put_20 ⟨Nat.zero_le _, Nat.zero_le _⟩ (fun r_20 w' H locs hr hw => ?_)
    obtain ⟨hr20, rfl⟩ := hr
    refine lv_if_eq (tgt := 32) hx hb dX2_put_23 (by decide) (fun c_23 => ?_) (fun c_23 => ?_)
    · have h2 := bI_f hr20 c_23
      refine lv_aload hx hb dX2_put_32 (lv_at hl 0 rfl) ?_
      refine lv_iload_n hx hb dX2_put_34 rfl (lv_at hl 3 rfl) ?_
      refine wCallV (As := [.int i]) (rest := []) K hw (mX0_hasCell l E ad S hI j hj i) (cwV 1 hts gX2_put_X0_hasCell rfl rfl rfl (by decide +kernel) ⟨Nat.le_of_ble_eq_true rfl, Nat.le_of_ble_eq_true rfl⟩) (wB_lane hj) rfl rfl hl.1 rfl (Nat.le_of_ble_eq_true rfl) dX2_put_35 ⟨Nat.zero_le _, Nat.zero_le _⟩ (fun r_35 w' H locs hr hw => ?_)
      obtain ⟨hr35, rfl⟩ := hr
      refine lv_if_ne (tgt := 47) hx hb dX2_put_38 (by decide) (fun c_38 => ?_) (fun c_38 => ?_)
      · have h3 := bI_t hr35 c_38
        obtain ⟨q, hq, rfl⟩ := hI.cell hj h3
        refine lv_aload hx hb dX2_put_47 (lv_at hl 0 rfl) ?_
        refine wGet (v := .ref (ad (3 + 4 * j))) K hw hiX0 (wB_lane hj) rfl 0 (by decide) (by decide +kernel) rfl dX2_put_49 ?_
        refine lv_iload_n hx hb dX2_put_52 rfl (lv_at hl 3 rfl) ?_
        refine lv_iload_n hx hb dX2_put_53 rfl (lv_at hl 2 rfl) ?_
        refine lv_iload_n hx hb dX2_put_54 rfl (lv_at hl 4 rfl) ?_
        refine lv_i2l (v := v.toInt64) hx hb dX2_put_55 rfl ?_
        refine wCallS (As := [.int (nI j), .long (v.toInt64)]) (rest := [.int (nI q), .ref (ad (3 + 4 * j))]) K hw (mX2_stored l E (wB E ad S) j hj v.toInt64) (va_cwS 2 hts gX2_put_X2_stored rfl rfl rfl (by decide +kernel) ⟨Nat.le_of_ble_eq_true rfl, Nat.le_of_ble_eq_true rfl⟩)  rfl hl.1 rfl (Nat.le_of_ble_eq_true rfl) dX2_put_56 ⟨Nat.zero_le _, Nat.zero_le _⟩ (fun r_56 w' H locs hr hw => ?_)
        obtain ⟨rfl, rfl⟩ := hr
        refine wIast K hw (wB_cells hj) (vp_in_nI hq (by omega)) dX2_put_59 (wB_sCellI hj (nI_clamp (by omega)) _) (fun H locs hw => ?_)
        refine lv_aload hx hb dX2_put_60 (lv_at hl 0 rfl) ?_
        refine wGet (v := .ref (ad (3 + 4 * j))) K hw hiX0 (wB_lane hj) rfl 0 (by decide) (by decide +kernel) rfl dX2_put_62 ?_
        refine lv_iload_n hx hb dX2_put_65 rfl (lv_at hl 3 rfl) ?_
        refine wIald (v := sto j v.toInt64) K hw (wB_cells hj) (vp_in_nI hq (by omega)) (by rw [nI_clamp (by omega)]; exact sC_self) dX2_put_66 ?_
        exact wRetI K hw dX2_put_67 (pst (by rw [sp_put, if_pos hl0, kN_nI (by omega), if_neg h2, if_pos h3, kN_nI (by omega)]))
      · have h3 := bI_f hr35 c_38
        refine lv_aload hx hb dX2_put_41 (lv_at hl 0 rfl) ?_
        refine wCallV (As := []) (rest := []) K hw (mX0_refuseOut l E ad S j hj) (cwV 0 hts gX2_put_X0_refuseOut rfl rfl rfl (by decide +kernel) ⟨Nat.le_of_ble_eq_true rfl, Nat.le_of_ble_eq_true rfl⟩) (wB_lane hj) rfl rfl hl.1 rfl (Nat.le_of_ble_eq_true rfl) dX2_put_43 ⟨Nat.zero_le _, Nat.zero_le _⟩ (fun r_43 w' H locs hr hw => ?_)
        obtain ⟨rfl, rfl⟩ := hr
        exact wRetI K hw dX2_put_46 (pst (by rw [sp_put, if_pos hl0, kN_nI (by omega), if_neg h2, if_neg h3]))
    · have h2 := bI_t hr20 c_23
      refine lv_aload hx hb dX2_put_26 (lv_at hl 0 rfl) ?_
      refine wCallV (As := []) (rest := []) K hw (mX0_refuseOff l E ad S j hj) (cwV 0 hts gX2_put_X0_refuseOff rfl rfl rfl (by decide +kernel) ⟨Nat.le_of_ble_eq_true rfl, Nat.le_of_ble_eq_true rfl⟩) (wB_lane hj) rfl rfl hl.1 rfl (Nat.le_of_ble_eq_true rfl) dX2_put_28 ⟨Nat.zero_le _, Nat.zero_le _⟩ (fun r_28 w' H locs hr hw => ?_)
      obtain ⟨rfl, rfl⟩ := hr
      exact wRetI K hw dX2_put_31 (pst (by rw [sp_put, if_pos hl0, kN_nI (by omega), if_pos h2]))
  · have hl0 := bI_f hr1 c_4
    refine lv_ldc (v := (-1000001)) hx hb hown (hts (.constant RX2 20 (-1000001)) (by decide +kernel)) dX2_put_7 ?_
    exact wRetI K hw dX2_put_9 (pst (by rw [sp_put, if_neg hl0]))
set_option maxHeartbeats 4000000 in
set_option maxRecDepth 100000 in
theorem mX2_change (l : Launch) (E : wE) (ad : Nat → Nat) (S : SS) (hI : Inv S) (lane : Int32) (way : Int32) (i : Int32) (v : Int32) : MCi l E yX2_change wsX2_change { frames := 3, cells := 0, slots := 0, locals := 68 } [.ref (ad 0), .int lane, .int way, .int i, .int v] (wB E ad S) (fun r w => r = (sp_change S lane way i v).1 ∧ w = wB E ad (sp_change S lane way i v).2) := by
  refine wEnterI (cc := cX2_change) (nL := 6) (ret := (some .int)) (own := RX2) (by decide) rfl rfl (Nat.le_of_ble_eq_true rfl) ?_
  intro p e s m below meth c A ls K hl hw
  have hl : lv_has ls 6 [(0, .ref (ad 0)), (1, .int lane), (2, .int way), (3, .int i), (4, .int v)] := hl
  obtain ⟨hx, hb, -, hml, hown, hts, -, -, -⟩ := id K
  have hiX2 : ∀ w ∈ wsX20, w ∈ wsX2_change := by decide +kernel
  have hiX0 : ∀ w ∈ wsX00, w ∈ wsX2_change := by decide +kernel
  refine lv_iload_n hx hb dX2_change_0 rfl (lv_at hl 1 rfl) ?_
  refine wCallS (As := [.int lane]) (rest := []) K hw (mX2_isLane l E (wB E ad S) lane) (va_cwS 1 hts gX2_change_X2_isLane rfl rfl rfl (by decide +kernel) ⟨Nat.le_of_ble_eq_true rfl, Nat.le_of_ble_eq_true rfl⟩)  rfl hl.1 rfl (Nat.le_of_ble_eq_true rfl) dX2_change_1 ⟨Nat.zero_le _, Nat.zero_le _⟩ (fun r_1 w' H locs hr hw => ?_)
  obtain ⟨hr1, rfl⟩ := hr
  refine lv_if_ne (tgt := 10) hx hb dX2_change_4 (by decide) (fun c_4 => ?_) (fun c_4 => ?_)
  · have hl0 := bI_t hr1 c_4
    obtain ⟨j, hj, rfl⟩ := isl_of hl0
    refine lv_iload_n hx hb dX2_change_10 rfl (lv_at hl 2 rfl) ?_
    refine lv_if_lt (tgt := 19) hx hb dX2_change_11 (by decide) (fun c_11 => ?_) (fun c_11 => ?_)
    · have hg : ¬ (¬ way < 0 ∧ ¬ 4 ≤ way) := fun q => q.1 c_11
      refine lv_ldc (v := (-1000002)) hx hb hown (hts (.constant RX2 56 (-1000002)) (by decide +kernel)) dX2_change_19 ?_
      exact wRetI K hw dX2_change_21 (pst (by rw [sp_change, if_pos hl0, if_neg hg]))
    · refine lv_iload_n hx hb dX2_change_14 rfl (lv_at hl 2 rfl) ?_
      refine lv_iconst (v := 4) hx hb dX2_change_15 (by decide) ?_
      refine lv_icmp_lt (tgt := 22) hx hb dX2_change_16 (by decide) (fun c_16 => ?_) (fun c_16 => ?_)
      · have hg : ¬ way < 0 ∧ ¬ 4 ≤ way := ⟨c_11, Int32.not_le.mpr c_16⟩
        obtain ⟨y, hy, rfl⟩ := way4 hg
        refine lv_aload_n hx hb dX2_change_22 rfl (lv_at hl 0 rfl) ?_
        refine wGet (v := .ref (ad 1)) K hw hiX2 wB_b rfl 0 (by decide) (by decide +kernel) rfl dX2_change_23 ?_
        refine lv_iload_n hx hb dX2_change_26 rfl (lv_at hl 1 rfl) ?_
        refine wAald K hw wB_l (in5 hj) (gLanes_at hj) dX2_change_27 ?_
        refine lv_astore (lv' := [(5, .ref (ad (2 + 4 * j))), (0, .ref (ad 0)), (1, .int (nI j)), (2, .int (nI y)), (3, .int i), (4, .int v)]) hx hb dX2_change_28 hl (by decide) rfl (fun ls hl => ?_)
        refine lv_aload hx hb dX2_change_30 (lv_at hl 0 rfl) ?_
        refine wCallV (As := []) (rest := []) K hw (mX0_isOff l E ad S hI j hj) (cwV 0 hts gX2_change_X0_isOff rfl rfl rfl (by decide +kernel) ⟨Nat.le_of_ble_eq_true rfl, Nat.le_of_ble_eq_true rfl⟩) (wB_lane hj) rfl rfl hl.1 rfl (Nat.le_of_ble_eq_true rfl) dX2_change_32 ⟨Nat.zero_le _, Nat.zero_le _⟩ (fun r_32 w' H locs hr hw => ?_)
        obtain ⟨hr32, rfl⟩ := hr
        refine lv_if_eq (tgt := 44) hx hb dX2_change_35 (by decide) (fun c_35 => ?_) (fun c_35 => ?_)
        · have h2 := bI_f hr32 c_35
          refine lv_aload hx hb dX2_change_44 (lv_at hl 0 rfl) ?_
          refine lv_iload_n hx hb dX2_change_46 rfl (lv_at hl 4 rfl) ?_
          refine wCallV (As := [.int i]) (rest := []) K hw (mX0_hasCell l E ad S hI j hj i) (cwV 1 hts gX2_change_X0_hasCell rfl rfl rfl (by decide +kernel) ⟨Nat.le_of_ble_eq_true rfl, Nat.le_of_ble_eq_true rfl⟩) (wB_lane hj) rfl rfl hl.1 rfl (Nat.le_of_ble_eq_true rfl) dX2_change_47 ⟨Nat.zero_le _, Nat.zero_le _⟩ (fun r_47 w' H locs hr hw => ?_)
          obtain ⟨hr47, rfl⟩ := hr
          refine lv_if_ne (tgt := 59) hx hb dX2_change_50 (by decide) (fun c_50 => ?_) (fun c_50 => ?_)
          · have h3 := bI_t hr47 c_50
            obtain ⟨q, hq, rfl⟩ := hI.cell hj h3
            refine lv_aload hx hb dX2_change_59 (lv_at hl 0 rfl) ?_
            refine wGet (v := .ref (ad (3 + 4 * j))) K hw hiX0 (wB_lane hj) rfl 0 (by decide) (by decide +kernel) rfl dX2_change_61 ?_
            refine lv_iload_n hx hb dX2_change_64 rfl (lv_at hl 4 rfl) ?_
            refine lv_iload_n hx hb dX2_change_65 rfl (lv_at hl 2 rfl) ?_
            refine lv_iload_n hx hb dX2_change_66 rfl (lv_at hl 3 rfl) ?_
            refine lv_aload hx hb dX2_change_67 (lv_at hl 0 rfl) ?_
            refine wGet (v := .ref (ad (3 + 4 * j))) K hw hiX0 (wB_lane hj) rfl 0 (by decide) (by decide +kernel) rfl dX2_change_69 ?_
            refine lv_iload_n hx hb dX2_change_72 rfl (lv_at hl 4 rfl) ?_
            refine wIald (v := S.1 j q) K hw (wB_cells hj) (vp_in_nI hq (by omega)) (by rw [nI_clamp (by omega)]) dX2_change_73 ?_
            refine lv_iload hx hb dX2_change_74 (lv_at hl 5 rfl) ?_
            refine wCallS (As := [.int (nI j), .int (nI y), .int (S.1 j q), .int v]) (rest := [.int (nI q), .ref (ad (3 + 4 * j))]) K hw (mX2_changed l E (wB E ad S) j hj y hy (S.1 j q) v) (va_cwS 4 hts gX2_change_X2_changed rfl rfl rfl (by decide +kernel) ⟨Nat.le_of_ble_eq_true rfl, Nat.le_of_ble_eq_true rfl⟩)  rfl hl.1 rfl (Nat.le_of_ble_eq_true rfl) dX2_change_76 ⟨Nat.zero_le _, Nat.zero_le _⟩ (fun r_76 w' H locs hr hw => ?_)
            obtain ⟨rfl, rfl⟩ := hr
            refine wIast K hw (wB_cells hj) (vp_in_nI hq (by omega)) dX2_change_79 (wB_sCellI hj (nI_clamp (by omega)) _) (fun H locs hw => ?_)
            refine lv_aload hx hb dX2_change_80 (lv_at hl 0 rfl) ?_
            refine wGet (v := .ref (ad (3 + 4 * j))) K hw hiX0 (wB_lane hj) rfl 0 (by decide) (by decide +kernel) rfl dX2_change_82 ?_
            refine lv_iload_n hx hb dX2_change_85 rfl (lv_at hl 4 rfl) ?_
            refine wIald (v := chg j (nI y) (S.1 j q) v) K hw (wB_cells hj) (vp_in_nI hq (by omega)) (by rw [nI_clamp (by omega)]; exact sC_self) dX2_change_86 ?_
            exact wRetI K hw dX2_change_87 (pst (by rw [sp_change, if_pos hl0, if_pos hg, kN_nI (by omega), if_neg h2, if_pos h3, kN_nI (by omega)]))
          · have h3 := bI_f hr47 c_50
            refine lv_aload hx hb dX2_change_53 (lv_at hl 0 rfl) ?_
            refine wCallV (As := []) (rest := []) K hw (mX0_refuseOut l E ad S j hj) (cwV 0 hts gX2_change_X0_refuseOut rfl rfl rfl (by decide +kernel) ⟨Nat.le_of_ble_eq_true rfl, Nat.le_of_ble_eq_true rfl⟩) (wB_lane hj) rfl rfl hl.1 rfl (Nat.le_of_ble_eq_true rfl) dX2_change_55 ⟨Nat.zero_le _, Nat.zero_le _⟩ (fun r_55 w' H locs hr hw => ?_)
            obtain ⟨rfl, rfl⟩ := hr
            exact wRetI K hw dX2_change_58 (pst (by rw [sp_change, if_pos hl0, if_pos hg, kN_nI (by omega), if_neg h2, if_neg h3]))
        · have h2 := bI_t hr32 c_35
          refine lv_aload hx hb dX2_change_38 (lv_at hl 0 rfl) ?_
          refine wCallV (As := []) (rest := []) K hw (mX0_refuseOff l E ad S j hj) (cwV 0 hts gX2_change_X0_refuseOff rfl rfl rfl (by decide +kernel) ⟨Nat.le_of_ble_eq_true rfl, Nat.le_of_ble_eq_true rfl⟩) (wB_lane hj) rfl rfl hl.1 rfl (Nat.le_of_ble_eq_true rfl) dX2_change_40 ⟨Nat.zero_le _, Nat.zero_le _⟩ (fun r_40 w' H locs hr hw => ?_)
          obtain ⟨rfl, rfl⟩ := hr
          exact wRetI K hw dX2_change_43 (pst (by rw [sp_change, if_pos hl0, if_pos hg, kN_nI (by omega), if_pos h2]))
      · have hg : ¬ (¬ way < 0 ∧ ¬ 4 ≤ way) := fun q => q.2 (Int32.not_lt.mp c_16)
        refine lv_ldc (v := (-1000002)) hx hb hown (hts (.constant RX2 56 (-1000002)) (by decide +kernel)) dX2_change_19 ?_
        exact wRetI K hw dX2_change_21 (pst (by rw [sp_change, if_pos hl0, if_neg hg]))
  · have hl0 := bI_f hr1 c_4
    refine lv_ldc (v := (-1000001)) hx hb hown (hts (.constant RX2 20 (-1000001)) (by decide +kernel)) dX2_change_7 ?_
    exact wRetI K hw dX2_change_9 (pst (by rw [sp_change, if_neg hl0]))
set_option maxHeartbeats 4000000 in
set_option maxRecDepth 100000 in
theorem mX2_rule (l : Launch) (E : wE) (ad : Nat → Nat) (S : SS) (hI : Inv S) (lane : Int32) (x : Int32) (y : Int32) : MCi l E yX2_rule wsX2_rule { frames := 1, cells := 0, slots := 0, locals := 23 } [.ref (ad 0), .int lane, .int x, .int y] (wB E ad S) (fun r w => r = (sp_rule S lane x y).1 ∧ w = wB E ad (sp_rule S lane x y).2) := by
  refine wEnterI (cc := cX2_rule) (nL := 4) (ret := (some .int)) (own := RX2) (by decide) rfl rfl (Nat.le_of_ble_eq_true rfl) ?_
  intro p e s m below meth c A ls K hl hw
  have hl : lv_has ls 4 [(0, .ref (ad 0)), (1, .int lane), (2, .int x), (3, .int y)] := hl
  obtain ⟨hx, hb, -, hml, hown, hts, -, -, -⟩ := id K
  have hiX2 : ∀ w ∈ wsX20, w ∈ wsX2_rule := by decide +kernel
  have hiX0 : ∀ w ∈ wsX00, w ∈ wsX2_rule := by decide +kernel
  refine lv_iload_n hx hb dX2_rule_0 rfl (lv_at hl 1 rfl) ?_
  refine wCallS (As := [.int lane]) (rest := []) K hw (mX2_isLane l E (wB E ad S) lane) (va_cwS 1 hts gX2_rule_X2_isLane rfl rfl rfl (by decide +kernel) ⟨Nat.le_of_ble_eq_true rfl, Nat.le_of_ble_eq_true rfl⟩)  rfl hl.1 rfl (Nat.le_of_ble_eq_true rfl) dX2_rule_1 ⟨Nat.zero_le _, Nat.zero_le _⟩ (fun r_1 w' H locs hr hw => ?_)
  obtain ⟨hr1, rfl⟩ := hr
  refine lv_if_ne (tgt := 10) hx hb dX2_rule_4 (by decide) (fun c_4 => ?_) (fun c_4 => ?_)
  · have hl0 := bI_t hr1 c_4
    obtain ⟨j, hj, rfl⟩ := isl_of hl0
    refine lv_iload_n hx hb dX2_rule_10 rfl (lv_at hl 2 rfl) ?_
    refine lv_bipush (v := 16) hx hb dX2_rule_11 (by decide) ?_
    refine lv_icmp_gt (tgt := 22) hx hb dX2_rule_13 (by decide) (fun c_13 => ?_) (fun c_13 => ?_)
    · have hg : ¬ (¬ 16 < x ∧ ¬ 16 < y) := fun q => q.1 c_13
      refine lv_ldc (v := (-1000003)) hx hb hown (hts (.constant RX2 21 (-1000003)) (by decide +kernel)) dX2_rule_22 ?_
      exact wRetI K hw dX2_rule_24 (pst (by rw [sp_rule, if_pos hl0, if_neg hg]))
    · refine lv_iload_n hx hb dX2_rule_16 rfl (lv_at hl 3 rfl) ?_
      refine lv_bipush (v := 16) hx hb dX2_rule_17 (by decide) ?_
      refine lv_icmp_le (tgt := 25) hx hb dX2_rule_19 (by decide) (fun c_19 => ?_) (fun c_19 => ?_)
      · have hg : ¬ 16 < x ∧ ¬ 16 < y := ⟨c_13, Int32.not_lt.mpr c_19⟩
        refine lv_iload_n hx hb dX2_rule_25 rfl (lv_at hl 2 rfl) ?_
        refine lv_if_lt (tgt := 33) hx hb dX2_rule_26 (by decide) (fun c_26 => ?_) (fun c_26 => ?_)
        · have hp : ¬ (¬ x < 0 ∧ ¬ y < 0) := fun q => q.1 c_26
          refine lv_ldc (v := (-1000004)) hx hb hown (hts (.constant RX2 22 (-1000004)) (by decide +kernel)) dX2_rule_33 ?_
          exact wRetI K hw dX2_rule_35 (pst (by rw [sp_rule, if_pos hl0, if_pos hg, if_neg hp]))
        · refine lv_iload_n hx hb dX2_rule_29 rfl (lv_at hl 3 rfl) ?_
          refine lv_if_ge (tgt := 36) hx hb dX2_rule_30 (by decide) (fun c_30 => ?_) (fun c_30 => ?_)
          · have hp : ¬ x < 0 ∧ ¬ y < 0 := ⟨c_26, Int32.not_lt.mpr c_30⟩
            refine lv_aload_n hx hb dX2_rule_36 rfl (lv_at hl 0 rfl) ?_
            refine wGet (v := .ref (ad 1)) K hw hiX2 wB_b rfl 0 (by decide) (by decide +kernel) rfl dX2_rule_37 ?_
            refine lv_iload_n hx hb dX2_rule_40 rfl (lv_at hl 1 rfl) ?_
            refine wAald K hw wB_l (in5 hj) (gLanes_at hj) dX2_rule_41 ?_
            refine wGet (v := .ref (ad (4 + 4 * j))) K hw hiX0 (wB_lane hj) rfl 1 (by decide) (by decide +kernel) rfl dX2_rule_42 ?_
            refine lv_iload_n hx hb dX2_rule_45 rfl (lv_at hl 2 rfl) ?_
            refine lv_iload_n hx hb dX2_rule_46 rfl (lv_at hl 3 rfl) ?_
            refine wCallVv (As := [.int x, .int y]) (rest := []) K hw (mX1_renew l E ad S j hj x y) (cwV 2 hts gX2_rule_X1_renew rfl rfl rfl (by decide +kernel) ⟨Nat.le_of_ble_eq_true rfl, Nat.le_of_ble_eq_true rfl⟩) (wB_sheet hj) rfl rfl hl.1 rfl (Nat.le_of_ble_eq_true rfl) dX2_rule_47 ⟨Nat.zero_le _, Nat.zero_le _⟩ (fun w' H locs hr hw => ?_)
            subst hr
            refine lv_iload_n hx hb dX2_rule_50 rfl (lv_at hl 2 rfl) ?_
            refine lv_iload_n hx hb dX2_rule_51 rfl (lv_at hl 3 rfl) ?_
            refine lv_imul hx hb dX2_rule_52 ?_
            exact wRetI K hw dX2_rule_53 (pst (by rw [sp_rule, if_pos hl0, if_pos hg, if_pos hp, kN_nI (by omega)]))
          · have hp : ¬ (¬ x < 0 ∧ ¬ y < 0) := fun q => q.2 (Int32.not_le.mp c_30)
            refine lv_ldc (v := (-1000004)) hx hb hown (hts (.constant RX2 22 (-1000004)) (by decide +kernel)) dX2_rule_33 ?_
            exact wRetI K hw dX2_rule_35 (pst (by rw [sp_rule, if_pos hl0, if_pos hg, if_neg hp]))
      · have hg : ¬ (¬ 16 < x ∧ ¬ 16 < y) := fun q => q.2 (Int32.not_le.mp c_19)
        refine lv_ldc (v := (-1000003)) hx hb hown (hts (.constant RX2 21 (-1000003)) (by decide +kernel)) dX2_rule_22 ?_
        exact wRetI K hw dX2_rule_24 (pst (by rw [sp_rule, if_pos hl0, if_neg hg]))
  · have hl0 := bI_f hr1 c_4
    refine lv_ldc (v := (-1000001)) hx hb hown (hts (.constant RX2 20 (-1000001)) (by decide +kernel)) dX2_rule_7 ?_
    exact wRetI K hw dX2_rule_9 (pst (by rw [sp_rule, if_neg hl0]))
set_option maxHeartbeats 4000000 in
set_option maxRecDepth 100000 in
theorem mX2_lay (l : Launch) (E : wE) (ad : Nat → Nat) (S : SS) (hI : Inv S) (lane : Int32) (row : Int32) (fr : Int32) : MCi l E yX2_lay wsX2_lay { frames := 3, cells := 0, slots := 0, locals := 68 } [.ref (ad 0), .int lane, .int row, .int fr] (wB E ad S) (fun r w => r = (sp_lay S lane row fr).1 ∧ w = wB E ad (sp_lay S lane row fr).2) := by
  refine wEnterI (cc := cX2_lay) (nL := 5) (ret := (some .int)) (own := RX2) (by decide) rfl rfl (Nat.le_of_ble_eq_true rfl) ?_
  intro p e s m below meth c A ls K hl hw
  have hl : lv_has ls 5 [(0, .ref (ad 0)), (1, .int lane), (2, .int row), (3, .int fr)] := hl
  obtain ⟨hx, hb, -, hml, hown, hts, -, -, -⟩ := id K
  have hiX2 : ∀ w ∈ wsX20, w ∈ wsX2_lay := by decide +kernel
  have hiX0 : ∀ w ∈ wsX00, w ∈ wsX2_lay := by decide +kernel
  refine lv_iload_n hx hb dX2_lay_0 rfl (lv_at hl 1 rfl) ?_
  refine wCallS (As := [.int lane]) (rest := []) K hw (mX2_isLane l E (wB E ad S) lane) (va_cwS 1 hts gX2_lay_X2_isLane rfl rfl rfl (by decide +kernel) ⟨Nat.le_of_ble_eq_true rfl, Nat.le_of_ble_eq_true rfl⟩)  rfl hl.1 rfl (Nat.le_of_ble_eq_true rfl) dX2_lay_1 ⟨Nat.zero_le _, Nat.zero_le _⟩ (fun r_1 w' H locs hr hw => ?_)
  obtain ⟨hr1, rfl⟩ := hr
  refine lv_if_ne (tgt := 10) hx hb dX2_lay_4 (by decide) (fun c_4 => ?_) (fun c_4 => ?_)
  · have hl0 := bI_t hr1 c_4
    obtain ⟨j, hj, rfl⟩ := isl_of hl0
    refine lv_aload_n hx hb dX2_lay_10 rfl (lv_at hl 0 rfl) ?_
    refine wGet (v := .ref (ad 1)) K hw hiX2 wB_b rfl 0 (by decide) (by decide +kernel) rfl dX2_lay_11 ?_
    refine lv_iload_n hx hb dX2_lay_14 rfl (lv_at hl 1 rfl) ?_
    refine wAald K hw wB_l (in5 hj) (gLanes_at hj) dX2_lay_15 ?_
    refine lv_astore (lv' := [(4, .ref (ad (2 + 4 * j))), (0, .ref (ad 0)), (1, .int (nI j)), (2, .int row), (3, .int fr)]) hx hb dX2_lay_16 hl (by decide) rfl (fun ls hl => ?_)
    refine lv_aload hx hb dX2_lay_18 (lv_at hl 0 rfl) ?_
    refine wGet (v := .ref (ad (4 + 4 * j))) K hw hiX0 (wB_lane hj) rfl 1 (by decide) (by decide +kernel) rfl dX2_lay_20 ?_
    refine wCallV (As := []) (rest := []) K hw (mX1_isNone l E ad S hI j hj) (cwV 0 hts gX2_lay_X1_isNone rfl rfl rfl (by decide +kernel) ⟨Nat.le_of_ble_eq_true rfl, Nat.le_of_ble_eq_true rfl⟩) (wB_sheet hj) rfl rfl hl.1 rfl (Nat.le_of_ble_eq_true rfl) dX2_lay_23 ⟨Nat.zero_le _, Nat.zero_le _⟩ (fun r_23 w' H locs hr hw => ?_)
    obtain ⟨hr23, rfl⟩ := hr
    refine lv_if_eq (tgt := 32) hx hb dX2_lay_26 (by decide) (fun c_26 => ?_) (fun c_26 => ?_)
    · have h1 := bI_f hr23 c_26
      refine lv_aload hx hb dX2_lay_32 (lv_at hl 0 rfl) ?_
      refine wGet (v := .ref (ad (4 + 4 * j))) K hw hiX0 (wB_lane hj) rfl 1 (by decide) (by decide +kernel) rfl dX2_lay_34 ?_
      refine lv_iload_n hx hb dX2_lay_37 rfl (lv_at hl 3 rfl) ?_
      refine wCallV (As := [.int row]) (rest := []) K hw (mX1_hasRow l E ad S hI j hj row) (cwV 1 hts gX2_lay_X1_hasRow rfl rfl rfl (by decide +kernel) ⟨Nat.le_of_ble_eq_true rfl, Nat.le_of_ble_eq_true rfl⟩) (wB_sheet hj) rfl rfl hl.1 rfl (Nat.le_of_ble_eq_true rfl) dX2_lay_38 ⟨Nat.zero_le _, Nat.zero_le _⟩ (fun r_38 w' H locs hr hw => ?_)
      obtain ⟨hr38, rfl⟩ := hr
      refine lv_if_ne (tgt := 47) hx hb dX2_lay_41 (by decide) (fun c_41 => ?_) (fun c_41 => ?_)
      · have h4 := bI_t hr38 c_41
        have g4 : ¬ row < 0 ∧ ¬ S.2.2 3 j ≤ row := ⟨h4.1, h4.2.2⟩
        refine lv_aload hx hb dX2_lay_47 (lv_at hl 0 rfl) ?_
        refine wCallV (As := []) (rest := []) K hw (mX0_isOff l E ad S hI j hj) (cwV 0 hts gX2_lay_X0_isOff rfl rfl rfl (by decide +kernel) ⟨Nat.le_of_ble_eq_true rfl, Nat.le_of_ble_eq_true rfl⟩) (wB_lane hj) rfl rfl hl.1 rfl (Nat.le_of_ble_eq_true rfl) dX2_lay_49 ⟨Nat.zero_le _, Nat.zero_le _⟩ (fun r_49 w' H locs hr hw => ?_)
        obtain ⟨hr49, rfl⟩ := hr
        refine lv_if_eq (tgt := 61) hx hb dX2_lay_52 (by decide) (fun c_52 => ?_) (fun c_52 => ?_)
        · have h2 := bI_f hr49 c_52
          refine lv_iload_n hx hb dX2_lay_61 rfl (lv_at hl 4 rfl) ?_
          refine lv_if_lt (tgt := 74) hx hb dX2_lay_62 (by decide) (fun c_62 => ?_) (fun c_62 => ?_)
          · have g5 : ¬ (¬ fr < 0 ∧ ¬ S.2.2 1 j < fr) := fun q => q.1 c_62
            refine lv_aload hx hb dX2_lay_74 (lv_at hl 0 rfl) ?_
            refine wCallV (As := []) (rest := []) K hw (mX0_refuseOut l E ad S j hj) (cwV 0 hts gX2_lay_X0_refuseOut rfl rfl rfl (by decide +kernel) ⟨Nat.le_of_ble_eq_true rfl, Nat.le_of_ble_eq_true rfl⟩) (wB_lane hj) rfl rfl hl.1 rfl (Nat.le_of_ble_eq_true rfl) dX2_lay_76 ⟨Nat.zero_le _, Nat.zero_le _⟩ (fun r_76 w' H locs hr hw => ?_)
            obtain ⟨rfl, rfl⟩ := hr
            exact wRetI K hw dX2_lay_79 (pst (by rw [sp_lay, if_pos hl0, kN_nI (by omega), if_neg h1, if_pos g4, if_neg h2, if_neg g5]))
          · refine lv_iload_n hx hb dX2_lay_65 rfl (lv_at hl 4 rfl) ?_
            refine lv_aload hx hb dX2_lay_66 (lv_at hl 0 rfl) ?_
            refine wGet (v := .int (ln S j)) K hw hiX0 (wB_lane hj) rfl 2 (by decide) (by decide +kernel) rfl dX2_lay_68 ?_
            refine lv_icmp_le (tgt := 80) hx hb dX2_lay_71 (by decide) (fun c_71 => ?_) (fun c_71 => ?_)
            · have g5 : ¬ fr < 0 ∧ ¬ S.2.2 1 j < fr := ⟨c_62, by rw [← ln_on h2]; exact Int32.not_lt.mpr c_71⟩
              obtain ⟨n, hn, en⟩ := (hI.1 j hj).2.1
              obtain ⟨rr, hrr, er⟩ := (hI.1 j hj).2.2.2.1
              obtain ⟨a, ha, rfl⟩ := lt_of_ix hrr (by omega) er g4.1 g4.2
              obtain ⟨f, hf, rfl⟩ := le_of_ix (by omega) en c_62 (Int32.not_lt.mp g5.2)
              refine lv_aload hx hb dX2_lay_80 (lv_at hl 0 rfl) ?_
              refine lv_iload_n hx hb dX2_lay_82 rfl (lv_at hl 3 rfl) ?_
              refine lv_iload_n hx hb dX2_lay_83 rfl (lv_at hl 4 rfl) ?_
              refine wCallV (As := [.int (nI a), .int (nI f)]) (rest := []) K hw (mX0_layInto l E ad S j hj hI h2 a f n (by omega) hn en hf) (cwV 2 hts gX2_lay_X0_layInto rfl rfl rfl (by decide +kernel) ⟨Nat.le_of_ble_eq_true rfl, Nat.le_of_ble_eq_true rfl⟩) (wB_lane hj) rfl rfl hl.1 rfl (Nat.le_of_ble_eq_true rfl) dX2_lay_84 ⟨Nat.zero_le _, Nat.zero_le _⟩ (fun r_84 w' H locs hr hw => ?_)
              obtain ⟨rfl, rfl⟩ := hr
              exact wRetI K hw dX2_lay_87 (pst (by rw [sp_lay, if_pos hl0, kN_nI (by omega), if_neg h1, if_pos g4, if_neg h2, if_pos g5, kN_nI (by omega), kN_nI (by omega)]))
            · have g5 : ¬ (¬ fr < 0 ∧ ¬ S.2.2 1 j < fr) := fun q => q.2 (by rw [← ln_on h2]; exact Int32.not_le.mp c_71)
              refine lv_aload hx hb dX2_lay_74 (lv_at hl 0 rfl) ?_
              refine wCallV (As := []) (rest := []) K hw (mX0_refuseOut l E ad S j hj) (cwV 0 hts gX2_lay_X0_refuseOut rfl rfl rfl (by decide +kernel) ⟨Nat.le_of_ble_eq_true rfl, Nat.le_of_ble_eq_true rfl⟩) (wB_lane hj) rfl rfl hl.1 rfl (Nat.le_of_ble_eq_true rfl) dX2_lay_76 ⟨Nat.zero_le _, Nat.zero_le _⟩ (fun r_76 w' H locs hr hw => ?_)
              obtain ⟨rfl, rfl⟩ := hr
              exact wRetI K hw dX2_lay_79 (pst (by rw [sp_lay, if_pos hl0, kN_nI (by omega), if_neg h1, if_pos g4, if_neg h2, if_neg g5]))
        · have h2 := bI_t hr49 c_52
          refine lv_aload hx hb dX2_lay_55 (lv_at hl 0 rfl) ?_
          refine wCallV (As := []) (rest := []) K hw (mX0_refuseOff l E ad S j hj) (cwV 0 hts gX2_lay_X0_refuseOff rfl rfl rfl (by decide +kernel) ⟨Nat.le_of_ble_eq_true rfl, Nat.le_of_ble_eq_true rfl⟩) (wB_lane hj) rfl rfl hl.1 rfl (Nat.le_of_ble_eq_true rfl) dX2_lay_57 ⟨Nat.zero_le _, Nat.zero_le _⟩ (fun r_57 w' H locs hr hw => ?_)
          obtain ⟨rfl, rfl⟩ := hr
          exact wRetI K hw dX2_lay_60 (pst (by rw [sp_lay, if_pos hl0, kN_nI (by omega), if_neg h1, if_pos g4, if_pos h2]))
      · have h4 := bI_f hr38 c_41
        have g4 : ¬ (¬ row < 0 ∧ ¬ S.2.2 3 j ≤ row) := fun q => h4 ⟨q.1, h1, q.2⟩
        refine lv_ldc (v := (-1000008)) hx hb hown (hts (.constant RX2 77 (-1000008)) (by decide +kernel)) dX2_lay_44 ?_
        exact wRetI K hw dX2_lay_46 (pst (by rw [sp_lay, if_pos hl0, kN_nI (by omega), if_neg h1, if_neg g4]))
    · have h1 := bI_t hr23 c_26
      refine lv_ldc (v := (-1000007)) hx hb hown (hts (.constant RX2 73 (-1000007)) (by decide +kernel)) dX2_lay_29 ?_
      exact wRetI K hw dX2_lay_31 (pst (by rw [sp_lay, if_pos hl0, kN_nI (by omega), if_pos h1]))
  · have hl0 := bI_f hr1 c_4
    refine lv_ldc (v := (-1000001)) hx hb hown (hts (.constant RX2 20 (-1000001)) (by decide +kernel)) dX2_lay_7 ?_
    exact wRetI K hw dX2_lay_9 (pst (by rw [sp_lay, if_neg hl0]))
set_option maxHeartbeats 4000000 in
set_option maxRecDepth 100000 in
theorem mX2_at (l : Launch) (E : wE) (ad : Nat → Nat) (S : SS) (hI : Inv S) (lane : Int32) (row : Int32) (col : Int32) : MCi l E yX2_at wsX2_at { frames := 2, cells := 0, slots := 0, locals := 43 } [.ref (ad 0), .int lane, .int row, .int col] (wB E ad S) (fun r w => r = (sp_at S lane row col).1 ∧ w = wB E ad (sp_at S lane row col).2) := by
  refine wEnterI (cc := cX2_at) (nL := 5) (ret := (some .int)) (own := RX2) (by decide) rfl rfl (Nat.le_of_ble_eq_true rfl) ?_
  intro p e s m below meth c A ls K hl hw
  have hl : lv_has ls 5 [(0, .ref (ad 0)), (1, .int lane), (2, .int row), (3, .int col)] := hl
  obtain ⟨hx, hb, -, hml, hown, hts, -, -, -⟩ := id K
  have hiX2 : ∀ w ∈ wsX20, w ∈ wsX2_at := by decide +kernel
  have hiX0 : ∀ w ∈ wsX00, w ∈ wsX2_at := by decide +kernel
  refine lv_iload_n hx hb dX2_at_0 rfl (lv_at hl 1 rfl) ?_
  refine wCallS (As := [.int lane]) (rest := []) K hw (mX2_isLane l E (wB E ad S) lane) (va_cwS 1 hts gX2_at_X2_isLane rfl rfl rfl (by decide +kernel) ⟨Nat.le_of_ble_eq_true rfl, Nat.le_of_ble_eq_true rfl⟩)  rfl hl.1 rfl (Nat.le_of_ble_eq_true rfl) dX2_at_1 ⟨Nat.zero_le _, Nat.zero_le _⟩ (fun r_1 w' H locs hr hw => ?_)
  obtain ⟨hr1, rfl⟩ := hr
  refine lv_if_ne (tgt := 10) hx hb dX2_at_4 (by decide) (fun c_4 => ?_) (fun c_4 => ?_)
  · have hl0 := bI_t hr1 c_4
    obtain ⟨j, hj, rfl⟩ := isl_of hl0
    refine lv_aload_n hx hb dX2_at_10 rfl (lv_at hl 0 rfl) ?_
    refine wGet (v := .ref (ad 1)) K hw hiX2 wB_b rfl 0 (by decide) (by decide +kernel) rfl dX2_at_11 ?_
    refine lv_iload_n hx hb dX2_at_14 rfl (lv_at hl 1 rfl) ?_
    refine wAald K hw wB_l (in5 hj) (gLanes_at hj) dX2_at_15 ?_
    refine wGet (v := .ref (ad (4 + 4 * j))) K hw hiX0 (wB_lane hj) rfl 1 (by decide) (by decide +kernel) rfl dX2_at_16 ?_
    refine lv_astore (lv' := [(4, .ref (ad (4 + 4 * j))), (0, .ref (ad 0)), (1, .int (nI j)), (2, .int row), (3, .int col)]) hx hb dX2_at_19 hl (by decide) rfl (fun ls hl => ?_)
    refine lv_aload hx hb dX2_at_21 (lv_at hl 0 rfl) ?_
    refine wCallV (As := []) (rest := []) K hw (mX1_isNone l E ad S hI j hj) (cwV 0 hts gX2_at_X1_isNone rfl rfl rfl (by decide +kernel) ⟨Nat.le_of_ble_eq_true rfl, Nat.le_of_ble_eq_true rfl⟩) (wB_sheet hj) rfl rfl hl.1 rfl (Nat.le_of_ble_eq_true rfl) dX2_at_23 ⟨Nat.zero_le _, Nat.zero_le _⟩ (fun r_23 w' H locs hr hw => ?_)
    obtain ⟨hr23, rfl⟩ := hr
    refine lv_if_eq (tgt := 32) hx hb dX2_at_26 (by decide) (fun c_26 => ?_) (fun c_26 => ?_)
    · have h1 := bI_f hr23 c_26
      refine lv_aload hx hb dX2_at_32 (lv_at hl 0 rfl) ?_
      refine lv_iload_n hx hb dX2_at_34 rfl (lv_at hl 3 rfl) ?_
      refine wCallV (As := [.int row]) (rest := []) K hw (mX1_hasRow l E ad S hI j hj row) (cwV 1 hts gX2_at_X1_hasRow rfl rfl rfl (by decide +kernel) ⟨Nat.le_of_ble_eq_true rfl, Nat.le_of_ble_eq_true rfl⟩) (wB_sheet hj) rfl rfl hl.1 rfl (Nat.le_of_ble_eq_true rfl) dX2_at_35 ⟨Nat.zero_le _, Nat.zero_le _⟩ (fun r_35 w' H locs hr hw => ?_)
      obtain ⟨hr35, rfl⟩ := hr
      refine lv_if_ne (tgt := 44) hx hb dX2_at_38 (by decide) (fun c_38 => ?_) (fun c_38 => ?_)
      · have h4 := bI_t hr35 c_38
        have g4 : ¬ row < 0 ∧ ¬ S.2.2 3 j ≤ row := ⟨h4.1, h4.2.2⟩
        refine lv_aload hx hb dX2_at_44 (lv_at hl 0 rfl) ?_
        refine lv_iload_n hx hb dX2_at_46 rfl (lv_at hl 4 rfl) ?_
        refine wCallV (As := [.int col]) (rest := []) K hw (mX1_hasColumn l E ad S j hj col) (cwV 1 hts gX2_at_X1_hasColumn rfl rfl rfl (by decide +kernel) ⟨Nat.le_of_ble_eq_true rfl, Nat.le_of_ble_eq_true rfl⟩) (wB_sheet hj) rfl rfl hl.1 rfl (Nat.le_of_ble_eq_true rfl) dX2_at_47 ⟨Nat.zero_le _, Nat.zero_le _⟩ (fun r_47 w' H locs hr hw => ?_)
        obtain ⟨hr47, rfl⟩ := hr
        refine lv_if_ne (tgt := 56) hx hb dX2_at_50 (by decide) (fun c_50 => ?_) (fun c_50 => ?_)
        · have h5 := bI_t hr47 c_50
          obtain ⟨cc2, hcc, ec⟩ := (hI.1 j hj).2.2.2.2
          obtain ⟨rr, hrr, er⟩ := (hI.1 j hj).2.2.2.1
          obtain ⟨a, ha, rfl⟩ := lt_of_ix hrr (by omega) er g4.1 g4.2
          obtain ⟨b, hb2, rfl⟩ := lt_of_ix hcc (by omega) ec h5.1 h5.2
          refine lv_aload hx hb dX2_at_56 (lv_at hl 0 rfl) ?_
          refine lv_iload_n hx hb dX2_at_58 rfl (lv_at hl 3 rfl) ?_
          refine lv_iload_n hx hb dX2_at_59 rfl (lv_at hl 4 rfl) ?_
          refine wCallV (As := [.int (nI a), .int (nI b)]) (rest := []) K hw (mX1_numberIn l E ad S j hj a b (by omega) (by omega)) (cwV 2 hts gX2_at_X1_numberIn rfl rfl rfl (by decide +kernel) ⟨Nat.le_of_ble_eq_true rfl, Nat.le_of_ble_eq_true rfl⟩) (wB_sheet hj) rfl rfl hl.1 rfl (Nat.le_of_ble_eq_true rfl) dX2_at_60 ⟨Nat.zero_le _, Nat.zero_le _⟩ (fun r_60 w' H locs hr hw => ?_)
          obtain ⟨rfl, rfl⟩ := hr
          exact wRetI K hw dX2_at_63 (pst (by rw [sp_at, if_pos hl0, kN_nI (by omega), if_neg h1, if_pos g4, if_pos h5, kN_nI (by omega), kN_nI (by omega)]))
        · have h5 := bI_f hr47 c_50
          refine lv_ldc (v := (-1000009)) hx hb hown (hts (.constant RX2 85 (-1000009)) (by decide +kernel)) dX2_at_53 ?_
          exact wRetI K hw dX2_at_55 (pst (by rw [sp_at, if_pos hl0, kN_nI (by omega), if_neg h1, if_pos g4, if_neg h5]))
      · have h4 := bI_f hr35 c_38
        have g4 : ¬ (¬ row < 0 ∧ ¬ S.2.2 3 j ≤ row) := fun q => h4 ⟨q.1, h1, q.2⟩
        refine lv_ldc (v := (-1000008)) hx hb hown (hts (.constant RX2 77 (-1000008)) (by decide +kernel)) dX2_at_41 ?_
        exact wRetI K hw dX2_at_43 (pst (by rw [sp_at, if_pos hl0, kN_nI (by omega), if_neg h1, if_neg g4]))
    · have h1 := bI_t hr23 c_26
      refine lv_ldc (v := (-1000007)) hx hb hown (hts (.constant RX2 73 (-1000007)) (by decide +kernel)) dX2_at_29 ?_
      exact wRetI K hw dX2_at_31 (pst (by rw [sp_at, if_pos hl0, kN_nI (by omega), if_pos h1]))
  · have hl0 := bI_f hr1 c_4
    refine lv_ldc (v := (-1000001)) hx hb hown (hts (.constant RX2 20 (-1000001)) (by decide +kernel)) dX2_at_7 ?_
    exact wRetI K hw dX2_at_9 (pst (by rw [sp_at, if_neg hl0]))
set_option maxHeartbeats 4000000 in
set_option maxRecDepth 100000 in
theorem mX2_head (l : Launch) (E : wE) (ad : Nat → Nat) (S : SS) (hI : Inv S) (h : Int32) : MCi l E yX2_head wsX2_head { frames := 0, cells := 0, slots := 0, locals := 0 } [.ref (ad 0), .int h] (wB E ad S) (fun r w => r = (sp_head S h).1 ∧ w = wB E ad (sp_head S h).2) := by
  refine wEnterI (cc := cX2_head) (nL := 3) (ret := (some .int)) (own := RX2) (by decide) rfl rfl (Nat.le_of_ble_eq_true rfl) ?_
  intro p e s m below meth c A ls K hl hw
  have hl : lv_has ls 3 [(0, .ref (ad 0)), (1, .int h)] := hl
  obtain ⟨hx, hb, -, hml, hown, hts, -, -, -⟩ := id K
  have hiX2 : ∀ w ∈ wsX20, w ∈ wsX2_head := by decide +kernel
  refine lv_iload_n hx hb dX2_head_0 rfl (lv_at hl 1 rfl) ?_
  refine lv_bipush (v := 60) hx hb dX2_head_1 (by decide) ?_
  refine lv_icmp_le (tgt := 9) hx hb dX2_head_3 (by decide) (fun c_3 => ?_) (fun c_3 => ?_)
  · refine lv_iload_n hx hb dX2_head_9 rfl (lv_at hl 1 rfl) ?_
    refine lv_if_ge (tgt := 16) hx hb dX2_head_10 (by decide) (fun c_10 => ?_) (fun c_10 => ?_)
    · refine lv_aload_n hx hb dX2_head_16 rfl (lv_at hl 0 rfl) ?_
      refine wGet (v := .int (S.2.2 7 0)) K hw hiX2 wB_b rfl 1 (by decide) (by decide +kernel) rfl dX2_head_17 ?_
      refine lv_istore_n (lv' := [(2, .int (S.2.2 7 0)), (0, .ref (ad 0)), (1, .int h)]) hx hb dX2_head_20 rfl hl (by decide) rfl (fun ls hl => ?_)
      refine lv_aload_n hx hb dX2_head_21 rfl (lv_at hl 1 rfl) ?_
      refine lv_iload_n hx hb dX2_head_22 rfl (lv_at hl 2 rfl) ?_
      refine wPut (ty := .int) K hw hiX2 tyX2 tyX2_ok nmX2 wB_b rfl 1 (by decide) (by decide +kernel) rfl (by decide +kernel) rfl rfl (Nat.le_of_ble_eq_true rfl) dX2_head_23 (wB_sG 0 (by decide) _) (fun H locs hw => ?_)
      refine lv_iload_n hx hb dX2_head_26 rfl (lv_at hl 0 rfl) ?_
      exact wRetI K hw dX2_head_27 (pst (by rw [sp_head, if_pos c_3, if_pos c_10]))
    · refine lv_ldc (v := (-1000004)) hx hb hown (hts (.constant RX2 22 (-1000004)) (by decide +kernel)) dX2_head_13 ?_
      exact wRetI K hw dX2_head_15 (pst (by rw [sp_head, if_pos c_3, if_neg c_10]))
  · refine lv_ldc (v := (-1000003)) hx hb hown (hts (.constant RX2 21 (-1000003)) (by decide +kernel)) dX2_head_6 ?_
    exact wRetI K hw dX2_head_8 (pst (by rw [sp_head, if_neg c_3]))
theorem cnt5 {x : Int32} (h : ¬ x < 5 ∧ ¬ 10 ≤ x) : ∃ j : Nat, j < 5 ∧ x - 5 = nI j := by
  have h5 : (5 : Int32).toInt = 5 := by decide
  have h10 : (10 : Int32).toInt = 10 := by decide
  have a1 : ¬ x.toInt < 5 := fun q => h.1 (by rw [Int32.lt_iff_toInt_lt, h5]; exact q)
  have a2 : ¬ 10 ≤ x.toInt := fun q => h.2 (by rw [Int32.le_iff_toInt_le, h10]; exact q)
  obtain ⟨j, hj, rfl⟩ := nI_of (x := x) (fun q => by rw [Int32.lt_iff_toInt_lt, Int32.toInt_zero] at q; omega)
  rw [nI_toInt hj] at a1 a2
  exact ⟨j - 5, by omega, pk_sub (b := 5) (by omega)⟩
set_option maxHeartbeats 4000000 in
set_option maxRecDepth 100000 in
theorem mX2_count (l : Launch) (E : wE) (ad : Nat → Nat) (S : SS) (hI : Inv S) (x : Int32) : MCi l E yX2_count wsX2_count { frames := 1, cells := 0, slots := 0, locals := 20 } [.ref (ad 0), .int x] (wB E ad S) (fun r w => r = sp_count S x ∧ w = wB E ad S) := by
  refine wEnterI (cc := cX2_count) (nL := 2) (ret := (some .int)) (own := RX2) (by decide) rfl rfl (Nat.le_of_ble_eq_true rfl) ?_
  intro p e s m below meth c A ls K hl hw
  have hl : lv_has ls 2 [(0, .ref (ad 0)), (1, .int x)] := hl
  obtain ⟨hx, hb, -, hml, hown, hts, -, -, -⟩ := id K
  have hiX2 : ∀ w ∈ wsX20, w ∈ wsX2_count := by decide +kernel
  have hiX0 : ∀ w ∈ wsX00, w ∈ wsX2_count := by decide +kernel
  refine lv_iload_n hx hb dX2_count_0 rfl (lv_at hl 1 rfl) ?_
  refine wCallS (As := [.int x]) (rest := []) K hw (mX2_isLane l E (wB E ad S) x) (va_cwS 1 hts gX2_count_X2_isLane rfl rfl rfl (by decide +kernel) ⟨Nat.le_of_ble_eq_true rfl, Nat.le_of_ble_eq_true rfl⟩)  rfl hl.1 rfl (Nat.le_of_ble_eq_true rfl) dX2_count_1 ⟨Nat.zero_le _, Nat.zero_le _⟩ (fun r_1 w' H locs hr hw => ?_)
  obtain ⟨hr1, rfl⟩ := hr
  refine lv_if_eq (tgt := 17) hx hb dX2_count_4 (by decide) (fun c_4 => ?_) (fun c_4 => ?_)
  · have hl0 := bI_f hr1 c_4
    refine lv_iload_n hx hb dX2_count_17 rfl (lv_at hl 1 rfl) ?_
    refine lv_iconst (v := 5) hx hb dX2_count_18 (by decide) ?_
    refine lv_icmp_lt (tgt := 40) hx hb dX2_count_19 (by decide) (fun c_19 => ?_) (fun c_19 => ?_)
    · have hg : ¬ (¬ x < 5 ∧ ¬ 10 ≤ x) := fun q => q.1 c_19
      refine lv_iload_n hx hb dX2_count_40 rfl (lv_at hl 1 rfl) ?_
      by_cases h10 : x = 10
      · subst h10
        refine lv_tableIn (off := 43) (tgt := 84) hx hb dX2_count_41 (by decide +kernel) (by decide +kernel) (by decide +kernel) (by decide) ?_
        refine lv_aload_n hx hb dX2_count_84 rfl (lv_at hl 0 rfl) ?_
        refine wGet (v := .int (S.2.2 7 0)) K hw hiX2 wB_b rfl 1 (by decide) (by decide +kernel) rfl dX2_count_85 ?_
        exact wRetI K hw dX2_count_88 ⟨by rw [sp_count, if_neg hl0, if_neg hg]; rfl, rfl⟩
      by_cases h11 : x = 11
      · subst h11
        refine lv_tableIn (off := 48) (tgt := 89) hx hb dX2_count_41 (by decide +kernel) (by decide +kernel) (by decide +kernel) (by decide) ?_
        refine lv_aload_n hx hb dX2_count_89 rfl (lv_at hl 0 rfl) ?_
        refine wGet (v := .int (S.2.2 7 1)) K hw hiX2 wB_b rfl 2 (by decide) (by decide +kernel) rfl dX2_count_90 ?_
        exact wRetI K hw dX2_count_93 ⟨by rw [sp_count, if_neg hl0, if_neg hg]; rfl, rfl⟩
      by_cases h12 : x = 12
      · subst h12
        refine lv_tableIn (off := 53) (tgt := 94) hx hb dX2_count_41 (by decide +kernel) (by decide +kernel) (by decide +kernel) (by decide) ?_
        refine lv_aload_n hx hb dX2_count_94 rfl (lv_at hl 0 rfl) ?_
        refine wGet (v := .int (S.2.2 7 2)) K hw hiX2 wB_b rfl 3 (by decide) (by decide +kernel) rfl dX2_count_95 ?_
        exact wRetI K hw dX2_count_98 ⟨by rw [sp_count, if_neg hl0, if_neg hg]; rfl, rfl⟩
      by_cases h13 : x = 13
      · subst h13
        refine lv_tableIn (off := 58) (tgt := 99) hx hb dX2_count_41 (by decide +kernel) (by decide +kernel) (by decide +kernel) (by decide) ?_
        refine lv_aload_n hx hb dX2_count_99 rfl (lv_at hl 0 rfl) ?_
        refine wGet (v := .int (S.2.2 7 3)) K hw hiX2 wB_b rfl 4 (by decide) (by decide +kernel) rfl dX2_count_100 ?_
        exact wRetI K hw dX2_count_103 ⟨by rw [sp_count, if_neg hl0, if_neg hg]; rfl, rfl⟩
      by_cases h14 : x = 14
      · subst h14
        refine lv_tableIn (off := 63) (tgt := 104) hx hb dX2_count_41 (by decide +kernel) (by decide +kernel) (by decide +kernel) (by decide) ?_
        refine lv_aload_n hx hb dX2_count_104 rfl (lv_at hl 0 rfl) ?_
        refine wGet (v := .int (S.2.2 7 4)) K hw hiX2 wB_b rfl 5 (by decide) (by decide +kernel) rfl dX2_count_105 ?_
        exact wRetI K hw dX2_count_108 ⟨by rw [sp_count, if_neg hl0, if_neg hg]; rfl, rfl⟩
      by_cases h15 : x = 15
      · subst h15
        refine lv_tableIn (off := 68) (tgt := 109) hx hb dX2_count_41 (by decide +kernel) (by decide +kernel) (by decide +kernel) (by decide) ?_
        refine lv_aload_n hx hb dX2_count_109 rfl (lv_at hl 0 rfl) ?_
        refine wGet (v := .int (S.2.2 7 5)) K hw hiX2 wB_b rfl 6 (by decide) (by decide +kernel) rfl dX2_count_110 ?_
        exact wRetI K hw dX2_count_113 ⟨by rw [sp_count, if_neg hl0, if_neg hg]; rfl, rfl⟩
      by_cases h16 : x = 16
      · subst h16
        refine lv_tableIn (off := 73) (tgt := 114) hx hb dX2_count_41 (by decide +kernel) (by decide +kernel) (by decide +kernel) (by decide) ?_
        refine lv_aload_n hx hb dX2_count_114 rfl (lv_at hl 0 rfl) ?_
        refine wGet (v := .int (S.2.2 7 6)) K hw hiX2 wB_b rfl 7 (by decide) (by decide +kernel) rfl dX2_count_115 ?_
        exact wRetI K hw dX2_count_118 ⟨by rw [sp_count, if_neg hl0, if_neg hg]; rfl, rfl⟩
      have hout : x.toInt < 10 ∨ 16 < x.toInt := by
        have q10 := lv_neT h10 (show (10 : Int32).toInt = 10 by decide)
        have q11 := lv_neT h11 (show (11 : Int32).toInt = 11 by decide)
        have q12 := lv_neT h12 (show (12 : Int32).toInt = 12 by decide)
        have q13 := lv_neT h13 (show (13 : Int32).toInt = 13 by decide)
        have q14 := lv_neT h14 (show (14 : Int32).toInt = 14 by decide)
        have q15 := lv_neT h15 (show (15 : Int32).toInt = 15 by decide)
        have q16 := lv_neT h16 (show (16 : Int32).toInt = 16 by decide)
        omega
      refine lv_tableOut (tgt := 119) hx hb dX2_count_41 hout (by decide) ?_
      refine lv_iconst (v := 0) hx hb dX2_count_119 (by decide) ?_
      exact wRetI K hw dX2_count_120 ⟨by rw [sp_count, if_neg hl0, if_neg hg, if_neg h10, if_neg h11, if_neg h12, if_neg h13, if_neg h14, if_neg h15, if_neg h16], rfl⟩
    · refine lv_iload_n hx hb dX2_count_22 rfl (lv_at hl 1 rfl) ?_
      refine lv_bipush (v := 10) hx hb dX2_count_23 (by decide) ?_
      refine lv_icmp_ge (tgt := 40) hx hb dX2_count_25 (by decide) (fun c_25 => ?_) (fun c_25 => ?_)
      · have hg : ¬ (¬ x < 5 ∧ ¬ 10 ≤ x) := fun q => q.2 c_25
        refine lv_iload_n hx hb dX2_count_40 rfl (lv_at hl 1 rfl) ?_
        by_cases h10 : x = 10
        · subst h10
          refine lv_tableIn (off := 43) (tgt := 84) hx hb dX2_count_41 (by decide +kernel) (by decide +kernel) (by decide +kernel) (by decide) ?_
          refine lv_aload_n hx hb dX2_count_84 rfl (lv_at hl 0 rfl) ?_
          refine wGet (v := .int (S.2.2 7 0)) K hw hiX2 wB_b rfl 1 (by decide) (by decide +kernel) rfl dX2_count_85 ?_
          exact wRetI K hw dX2_count_88 ⟨by rw [sp_count, if_neg hl0, if_neg hg]; rfl, rfl⟩
        by_cases h11 : x = 11
        · subst h11
          refine lv_tableIn (off := 48) (tgt := 89) hx hb dX2_count_41 (by decide +kernel) (by decide +kernel) (by decide +kernel) (by decide) ?_
          refine lv_aload_n hx hb dX2_count_89 rfl (lv_at hl 0 rfl) ?_
          refine wGet (v := .int (S.2.2 7 1)) K hw hiX2 wB_b rfl 2 (by decide) (by decide +kernel) rfl dX2_count_90 ?_
          exact wRetI K hw dX2_count_93 ⟨by rw [sp_count, if_neg hl0, if_neg hg]; rfl, rfl⟩
        by_cases h12 : x = 12
        · subst h12
          refine lv_tableIn (off := 53) (tgt := 94) hx hb dX2_count_41 (by decide +kernel) (by decide +kernel) (by decide +kernel) (by decide) ?_
          refine lv_aload_n hx hb dX2_count_94 rfl (lv_at hl 0 rfl) ?_
          refine wGet (v := .int (S.2.2 7 2)) K hw hiX2 wB_b rfl 3 (by decide) (by decide +kernel) rfl dX2_count_95 ?_
          exact wRetI K hw dX2_count_98 ⟨by rw [sp_count, if_neg hl0, if_neg hg]; rfl, rfl⟩
        by_cases h13 : x = 13
        · subst h13
          refine lv_tableIn (off := 58) (tgt := 99) hx hb dX2_count_41 (by decide +kernel) (by decide +kernel) (by decide +kernel) (by decide) ?_
          refine lv_aload_n hx hb dX2_count_99 rfl (lv_at hl 0 rfl) ?_
          refine wGet (v := .int (S.2.2 7 3)) K hw hiX2 wB_b rfl 4 (by decide) (by decide +kernel) rfl dX2_count_100 ?_
          exact wRetI K hw dX2_count_103 ⟨by rw [sp_count, if_neg hl0, if_neg hg]; rfl, rfl⟩
        by_cases h14 : x = 14
        · subst h14
          refine lv_tableIn (off := 63) (tgt := 104) hx hb dX2_count_41 (by decide +kernel) (by decide +kernel) (by decide +kernel) (by decide) ?_
          refine lv_aload_n hx hb dX2_count_104 rfl (lv_at hl 0 rfl) ?_
          refine wGet (v := .int (S.2.2 7 4)) K hw hiX2 wB_b rfl 5 (by decide) (by decide +kernel) rfl dX2_count_105 ?_
          exact wRetI K hw dX2_count_108 ⟨by rw [sp_count, if_neg hl0, if_neg hg]; rfl, rfl⟩
        by_cases h15 : x = 15
        · subst h15
          refine lv_tableIn (off := 68) (tgt := 109) hx hb dX2_count_41 (by decide +kernel) (by decide +kernel) (by decide +kernel) (by decide) ?_
          refine lv_aload_n hx hb dX2_count_109 rfl (lv_at hl 0 rfl) ?_
          refine wGet (v := .int (S.2.2 7 5)) K hw hiX2 wB_b rfl 6 (by decide) (by decide +kernel) rfl dX2_count_110 ?_
          exact wRetI K hw dX2_count_113 ⟨by rw [sp_count, if_neg hl0, if_neg hg]; rfl, rfl⟩
        by_cases h16 : x = 16
        · subst h16
          refine lv_tableIn (off := 73) (tgt := 114) hx hb dX2_count_41 (by decide +kernel) (by decide +kernel) (by decide +kernel) (by decide) ?_
          refine lv_aload_n hx hb dX2_count_114 rfl (lv_at hl 0 rfl) ?_
          refine wGet (v := .int (S.2.2 7 6)) K hw hiX2 wB_b rfl 7 (by decide) (by decide +kernel) rfl dX2_count_115 ?_
          exact wRetI K hw dX2_count_118 ⟨by rw [sp_count, if_neg hl0, if_neg hg]; rfl, rfl⟩
        have hout : x.toInt < 10 ∨ 16 < x.toInt := by
          have q10 := lv_neT h10 (show (10 : Int32).toInt = 10 by decide)
          have q11 := lv_neT h11 (show (11 : Int32).toInt = 11 by decide)
          have q12 := lv_neT h12 (show (12 : Int32).toInt = 12 by decide)
          have q13 := lv_neT h13 (show (13 : Int32).toInt = 13 by decide)
          have q14 := lv_neT h14 (show (14 : Int32).toInt = 14 by decide)
          have q15 := lv_neT h15 (show (15 : Int32).toInt = 15 by decide)
          have q16 := lv_neT h16 (show (16 : Int32).toInt = 16 by decide)
          omega
        refine lv_tableOut (tgt := 119) hx hb dX2_count_41 hout (by decide) ?_
        refine lv_iconst (v := 0) hx hb dX2_count_119 (by decide) ?_
        exact wRetI K hw dX2_count_120 ⟨by rw [sp_count, if_neg hl0, if_neg hg, if_neg h10, if_neg h11, if_neg h12, if_neg h13, if_neg h14, if_neg h15, if_neg h16], rfl⟩
      · have hg : ¬ x < 5 ∧ ¬ 10 ≤ x := ⟨c_19, c_25⟩
        obtain ⟨j, hj, ej⟩ := cnt5 hg
        refine lv_aload_n hx hb dX2_count_28 rfl (lv_at hl 0 rfl) ?_
        refine wGet (v := .ref (ad 1)) K hw hiX2 wB_b rfl 0 (by decide) (by decide +kernel) rfl dX2_count_29 ?_
        refine lv_iload_n hx hb dX2_count_32 rfl (lv_at hl 1 rfl) ?_
        refine lv_iconst (v := 5) hx hb dX2_count_33 (by decide) ?_
        refine lv_isub hx hb dX2_count_34 ?_
        rw [show (x - 5 : Int32) = nI j from ej]
        refine wAald K hw wB_l (in5 hj) (gLanes_at hj) dX2_count_35 ?_
        refine wGet (v := .int (S.2.2 6 j)) K hw hiX0 (wB_lane hj) rfl 4 (by decide) (by decide +kernel) rfl dX2_count_36 ?_
        exact wRetI K hw dX2_count_39 ⟨by rw [sp_count, if_neg hl0, if_pos hg, ej, kN_nI (by omega)], rfl⟩
  · have hl0 := bI_t hr1 c_4
    obtain ⟨j, hj, rfl⟩ := isl_of hl0
    refine lv_aload_n hx hb dX2_count_7 rfl (lv_at hl 0 rfl) ?_
    refine wGet (v := .ref (ad 1)) K hw hiX2 wB_b rfl 0 (by decide) (by decide +kernel) rfl dX2_count_8 ?_
    refine lv_iload_n hx hb dX2_count_11 rfl (lv_at hl 1 rfl) ?_
    refine wAald K hw wB_l (in5 hj) (gLanes_at hj) dX2_count_12 ?_
    refine wGet (v := .int (S.2.2 5 j)) K hw hiX0 (wB_lane hj) rfl 3 (by decide) (by decide +kernel) rfl dX2_count_13 ?_
    exact wRetI K hw dX2_count_16 ⟨by rw [sp_count, if_pos hl0, kN_nI (by omega)], rfl⟩
end
section
/-! playing, in the class -/
theorem Inv.setg {S : SS} (h : Inv S) {g : Nat} (h0 : g ≠ 0) (h3 : g ≠ 3) (v : Int32) : Inv (sV S 7 g v) := by
  refine ⟨h.1, ?_, ?_, h.2.2.2⟩
  · obtain ⟨q, hq, e⟩ := h.2.1
    exact ⟨q, hq, (pk_un (f := S.2.2 7) (k := g) (x := v) (Ne.symm h0)).trans e⟩
  · obtain ⟨q, hq, e⟩ := h.2.2.1
    exact ⟨q, hq, (pk_un (f := S.2.2 7) (k := g) (x := v) (Ne.symm h3)).trans e⟩
theorem Inv.sethd {S : SS} (h : Inv S) {q : Nat} {v : Int32} (hq : q ≤ 60) (e : v = nI q) : Inv (sV S 7 0 v) := ⟨h.1, ⟨q, hq, e⟩, h.2.2.1, h.2.2.2⟩
theorem Inv.setmk {S : SS} (h : Inv S) {q : Nat} {v : Int32} (hq : q ≤ 60) (e : v = nI q) : Inv (sV S 7 3 v) := ⟨h.1, h.2.1, ⟨q, hq, e⟩, h.2.2.2⟩
theorem Inv.setc {S : SS} (h : Inv S) {k i : Nat} {v : Int32} (hv : k = 3 → v = 0 ∨ v = 1) : Inv (sC S k i v) := by
  refine ⟨h.1, h.2.1, h.2.2.1, fun a ha => ?_⟩
  show up2 S.1 k i v 3 a = 0 ∨ up2 S.1 k i v 3 a = 1
  by_cases h3 : 3 = k
  · subst h3
    show upd (S.1 3) i v a = 0 ∨ upd (S.1 3) i v a = 1
    by_cases hi : a = i
    · subst hi
      rw [pk_us]
      exact hv rfl
    · rw [pk_un hi]
      exact h.2.2.2 a ha
  · have e : up2 S.1 k i v 3 = S.1 3 := if_neg h3
    rw [e]
    exact h.2.2.2 a ha
theorem Inv.inch {X : SS} (h : Inv X) (hq : ∃ q, q < 60 ∧ X.2.2 7 0 = nI q) : Inv (ihd X) := by
  obtain ⟨q, hq, e⟩ := hq
  exact h.sethd (q := q + 1) (by omega) (by rw [e]; exact nI_1 q)
theorem Inv.onstep {S : SS} (h : Inv S) (hc : hsC S 0 (S.2.2 7 0)) (g : Int32) : Inv (stp S g) := by
  have hq : ∃ q, q < 60 ∧ S.2.2 7 0 = nI q := h.cell (by decide) hc
  unfold stp
  by_cases h1 : g = 46
  · rw [if_pos h1]
    exact (h.setg (by decide) (by decide) _).inch hq
  rw [if_neg h1]
  by_cases h2 : g = 110
  · rw [if_pos h2]
    exact ((((h.setg (by decide) (by decide) _).setg (by decide) (by decide) _).setg (by decide) (by decide) _).setg (by decide) (by decide) _).inch hq
  rw [if_neg h2]
  by_cases h3 : g = 114
  · rw [if_pos h3]
    by_cases ht : 0 < tld S 1 0
    · rw [if_pos ht]
      obtain ⟨q, hq, e⟩ := h.2.2.1
      exact (h.setc (fun q => absurd q (by decide))).sethd hq e
    · rw [if_neg ht]
      exact h.inch hq
  rw [if_neg h3]
  by_cases h4 : g = 116
  · rw [if_pos h4]
    exact (h.setg (by decide) (by decide) _).inch hq
  rw [if_neg h4]
  by_cases h5 : g = 119
  · rw [if_pos h5]
    by_cases ht : 0 < tld S 2 0
    · rw [if_pos ht]
      exact (Inv.setc h (fun q => absurd q (by decide))).inch hq
    · rw [if_neg ht]
      exact h.inch hq
  rw [if_neg h5]
  by_cases h6 : g = 124
  · rw [if_pos h6]
    obtain ⟨q, hq2, e⟩ := h.2.1
    exact (h.setmk hq2 e).inch hq
  · rw [if_neg h6]
    exact (h.setg (by decide) (by decide) _).inch hq
def lwq (S : SS) (k : Nat) : SS := (if 0 < tld S k 0 then up2 S.1 k (kN (S.2.2 7 0)) (S.1 k (kN (S.2.2 7 0)) - 1) else S.1, S.2.1, S.2.2)
theorem tld_pos {S : SS} {k : Nat} (h : 0 < tld S k 0) : hsC S k (S.2.2 7 0) := by
  by_cases q : hsC S k (S.2.2 7 0)
  · exact q
  · rw [tld, if_neg q] at h
    exact absurd h (by decide)
theorem lwq_t {S : SS} {k : Nat} (h : 0 < tld S k 0) : lwq S k = lws S k := by rw [lwq, if_pos h]; rfl
theorem stp_119 {S : SS} : ihd (lwq S 2) = stp S 119 := by
  show _ = if 0 < tld S 2 0 then ihd (lws S 2) else ihd S
  by_cases h : 0 < tld S 2 0
  · rw [if_pos h, lwq, if_pos h]; rfl
  · rw [if_neg h, lwq, if_neg h]
theorem lwq_f {S : SS} {k : Nat} (h : ¬ 0 < tld S k 0) : lwq S k = S := by rw [lwq, if_neg h]
set_option maxHeartbeats 4000000 in
set_option maxRecDepth 100000 in
theorem mX2_told (l : Launch) (E : wE) (ad : Nat → Nat) (S : SS) (hI : Inv S) (k : Nat) (hk : k < 5) (d : Int32) : MCi l E yX2_told wsX2_told { frames := 1, cells := 0, slots := 0, locals := 21 } [.ref (ad 0), .int (nI k), .int d] (wB E ad S) (fun r w => r = tld S k d ∧ w = wB E ad S) := by
  refine wEnterI (cc := cX2_told) (nL := 4) (ret := (some .int)) (own := RX2) (by decide) rfl rfl (Nat.le_of_ble_eq_true rfl) ?_
  intro p e s m below meth c A ls K hl hw
  have hl : lv_has ls 4 [(0, .ref (ad 0)), (1, .int (nI k)), (2, .int d)] := hl
  obtain ⟨hx, hb, -, hml, hown, hts, -, -, -⟩ := id K
  have hiX2 : ∀ w ∈ wsX20, w ∈ wsX2_told := by decide +kernel
  have hiX0 : ∀ w ∈ wsX00, w ∈ wsX2_told := by decide +kernel
  refine lv_aload_n hx hb dX2_told_0 rfl (lv_at hl 0 rfl) ?_
  refine wGet (v := .ref (ad 1)) K hw hiX2 wB_b rfl 0 (by decide) (by decide +kernel) rfl dX2_told_1 ?_
  refine lv_iload_n hx hb dX2_told_4 rfl (lv_at hl 1 rfl) ?_
  refine wAald K hw wB_l (in5 hk) (gLanes_at hk) dX2_told_5 ?_
  refine lv_astore_n (lv' := [(3, .ref (ad (2 + 4 * k))), (0, .ref (ad 0)), (1, .int (nI k)), (2, .int d)]) hx hb dX2_told_6 rfl hl (by decide) rfl (fun ls hl => ?_)
  refine lv_aload_n hx hb dX2_told_7 rfl (lv_at hl 0 rfl) ?_
  refine lv_aload_n hx hb dX2_told_8 rfl (lv_at hl 1 rfl) ?_
  refine wGet (v := .int (S.2.2 7 0)) K hw hiX2 wB_b rfl 1 (by decide) (by decide +kernel) rfl dX2_told_9 ?_
  refine wCallV (As := [.int (S.2.2 7 0)]) (rest := []) K hw (mX0_hasCell l E ad S hI k hk (S.2.2 7 0)) (cwV 1 hts gX2_told_X0_hasCell rfl rfl rfl (by decide +kernel) ⟨Nat.le_of_ble_eq_true rfl, Nat.le_of_ble_eq_true rfl⟩) (wB_lane hk) rfl rfl hl.1 rfl (Nat.le_of_ble_eq_true rfl) dX2_told_12 ⟨Nat.zero_le _, Nat.zero_le _⟩ (fun r_12 w' H locs hr hw => ?_)
  obtain ⟨hr12, rfl⟩ := hr
  refine lv_if_eq (tgt := 30) hx hb dX2_told_15 (by decide) (fun c_15 => ?_) (fun c_15 => ?_)
  · have h := bI_f hr12 c_15
    refine lv_iload_n hx hb dX2_told_30 rfl (lv_at hl 3 rfl) ?_
    exact wRetI K hw dX2_told_31 ⟨by rw [tld, if_neg h], rfl⟩
  · have h := bI_t hr12 c_15
    obtain ⟨q, hq, eq⟩ := hI.cell hk h
    refine lv_aload_n hx hb dX2_told_18 rfl (lv_at hl 0 rfl) ?_
    refine wGet (v := .ref (ad (3 + 4 * k))) K hw hiX0 (wB_lane hk) rfl 0 (by decide) (by decide +kernel) rfl dX2_told_19 ?_
    refine lv_aload_n hx hb dX2_told_22 rfl (lv_at hl 1 rfl) ?_
    refine wGet (v := .int (S.2.2 7 0)) K hw hiX2 wB_b rfl 1 (by decide) (by decide +kernel) rfl dX2_told_23 ?_
    refine wIald (v := S.1 k (kN (S.2.2 7 0))) K hw (wB_cells hk) (by rw [eq]; exact vp_in_nI hq (by omega)) rfl dX2_told_26 ?_
    refine lv_goto (tgt := 31) hx hb dX2_told_27 (by decide) ?_
    exact wRetI K hw dX2_told_31 ⟨by rw [tld, if_pos h], rfl⟩
set_option maxHeartbeats 4000000 in
set_option maxRecDepth 100000 in
theorem mX2_lowered (l : Launch) (E : wE) (ad : Nat → Nat) (S : SS) (hI : Inv S) (k : Nat) (hk : k < 5) : MCi l E yX2_lowered wsX2_lowered { frames := 1, cells := 0, slots := 0, locals := 21 } [.ref (ad 0), .int (nI k)] (wB E ad S) (fun r w => r = bI (0 < tld S k 0) ∧ w = wB E ad (lwq S k)) := by
  refine wEnterI (cc := cX2_lowered) (nL := 3) (ret := (some .boolean)) (own := RX2) (by decide) rfl rfl (Nat.le_of_ble_eq_true rfl) ?_
  intro p e s m below meth c A ls K hl hw
  have hl : lv_has ls 3 [(0, .ref (ad 0)), (1, .int (nI k))] := hl
  obtain ⟨hx, hb, -, hml, hown, hts, -, -, -⟩ := id K
  have hiX2 : ∀ w ∈ wsX20, w ∈ wsX2_lowered := by decide +kernel
  have hiX0 : ∀ w ∈ wsX00, w ∈ wsX2_lowered := by decide +kernel
  refine lv_aload_n hx hb dX2_lowered_0 rfl (lv_at hl 0 rfl) ?_
  refine wGet (v := .ref (ad 1)) K hw hiX2 wB_b rfl 0 (by decide) (by decide +kernel) rfl dX2_lowered_1 ?_
  refine lv_iload_n hx hb dX2_lowered_4 rfl (lv_at hl 1 rfl) ?_
  refine wAald K hw wB_l (in5 hk) (gLanes_at hk) dX2_lowered_5 ?_
  refine lv_astore_n (lv' := [(2, .ref (ad (2 + 4 * k))), (0, .ref (ad 0)), (1, .int (nI k))]) hx hb dX2_lowered_6 rfl hl (by decide) rfl (fun ls hl => ?_)
  refine lv_aload_n hx hb dX2_lowered_7 rfl (lv_at hl 0 rfl) ?_
  refine lv_aload_n hx hb dX2_lowered_8 rfl (lv_at hl 1 rfl) ?_
  refine wGet (v := .int (S.2.2 7 0)) K hw hiX2 wB_b rfl 1 (by decide) (by decide +kernel) rfl dX2_lowered_9 ?_
  refine wCallV (As := [.int (S.2.2 7 0)]) (rest := []) K hw (mX0_hasCell l E ad S hI k hk (S.2.2 7 0)) (cwV 1 hts gX2_lowered_X0_hasCell rfl rfl rfl (by decide +kernel) ⟨Nat.le_of_ble_eq_true rfl, Nat.le_of_ble_eq_true rfl⟩) (wB_lane hk) rfl rfl hl.1 rfl (Nat.le_of_ble_eq_true rfl) dX2_lowered_12 ⟨Nat.zero_le _, Nat.zero_le _⟩ (fun r_12 w' H locs hr hw => ?_)
  obtain ⟨hr12, rfl⟩ := hr
  refine lv_if_eq (tgt := 30) hx hb dX2_lowered_15 (by decide) (fun c_15 => ?_) (fun c_15 => ?_)
  · have h := bI_f hr12 c_15
    have h0 : ¬ 0 < tld S k 0 := fun z => h (tld_pos z)
    refine lv_iconst (v := 0) hx hb dX2_lowered_30 (by decide) ?_
    exact wRetZ K hw dX2_lowered_31 rfl ⟨bI_0 h0, by rw [lwq_f h0]⟩
  · have h := bI_t hr12 c_15
    obtain ⟨q, hq, eq⟩ := hI.cell hk h
    refine lv_aload_n hx hb dX2_lowered_18 rfl (lv_at hl 0 rfl) ?_
    refine wGet (v := .ref (ad (3 + 4 * k))) K hw hiX0 (wB_lane hk) rfl 0 (by decide) (by decide +kernel) rfl dX2_lowered_19 ?_
    refine lv_aload_n hx hb dX2_lowered_22 rfl (lv_at hl 1 rfl) ?_
    refine wGet (v := .int (S.2.2 7 0)) K hw hiX2 wB_b rfl 1 (by decide) (by decide +kernel) rfl dX2_lowered_23 ?_
    refine wIald (v := S.1 k (kN (S.2.2 7 0))) K hw (wB_cells hk) (by rw [eq]; exact vp_in_nI hq (by omega)) rfl dX2_lowered_26 ?_
    refine lv_if_gt (tgt := 32) hx hb dX2_lowered_27 (by decide) (fun c_27 => ?_) (fun c_27 => ?_)
    · have h0 : 0 < tld S k 0 := by rw [tld, if_pos h]; exact c_27
      refine lv_aload_n hx hb dX2_lowered_32 rfl (lv_at hl 0 rfl) ?_
      refine wGet (v := .ref (ad (3 + 4 * k))) K hw hiX0 (wB_lane hk) rfl 0 (by decide) (by decide +kernel) rfl dX2_lowered_33 ?_
      refine lv_aload_n hx hb dX2_lowered_36 rfl (lv_at hl 1 rfl) ?_
      refine wGet (v := .int (S.2.2 7 0)) K hw hiX2 wB_b rfl 1 (by decide) (by decide +kernel) rfl dX2_lowered_37 ?_
      refine lv_dup2_11 hx hb dX2_lowered_40 rfl rfl ?_
      refine wIald (v := S.1 k (kN (S.2.2 7 0))) K hw (wB_cells hk) (by rw [eq]; exact vp_in_nI hq (by omega)) rfl dX2_lowered_41 ?_
      refine lv_iconst (v := 1) hx hb dX2_lowered_42 (by decide) ?_
      refine lv_isub hx hb dX2_lowered_43 ?_
      refine wIast K hw (wB_cells hk) (by rw [eq]; exact vp_in_nI hq (by omega)) dX2_lowered_44 (wB_sCellI hk rfl _) (fun H locs hw => ?_)
      refine lv_iconst (v := 1) hx hb dX2_lowered_45 (by decide) ?_
      exact wRetZ K hw dX2_lowered_46 rfl ⟨bI_1 h0, by rw [lwq_t h0]; rfl⟩
    · have h0 : ¬ 0 < tld S k 0 := by rw [tld, if_pos h]; exact c_27
      refine lv_iconst (v := 0) hx hb dX2_lowered_30 (by decide) ?_
      exact wRetZ K hw dX2_lowered_31 rfl ⟨bI_0 h0, by rw [lwq_f h0]⟩
set_option maxHeartbeats 4000000 in
set_option maxRecDepth 100000 in
theorem mX2_playNote (l : Launch) (E : wE) (ad : Nat → Nat) (S : SS) (hI : Inv S) : MCv l E yX2_playNote wsX2_playNote { frames := 2, cells := 0, slots := 0, locals := 44 } [.ref (ad 0)] (wB E ad S) (fun w => w = wB E ad (nte S)) := by
  refine wEnterV (cc := cX2_playNote) (nL := 2) (ret := none) (own := RX2) (by decide) rfl rfl (Nat.le_of_ble_eq_true rfl) ?_
  intro p e s m below meth c A ls K hl hw hin
  have hl : lv_has ls 2 [(0, .ref (ad 0))] := hl
  obtain ⟨hx, hb, -, hml, hown, hts, -, -, -⟩ := id K
  have hiX2 : ∀ w ∈ wsX20, w ∈ wsX2_playNote := by decide +kernel
  refine lv_aload_n hx hb dX2_playNote_0 rfl (lv_at hl 0 rfl) ?_
  refine lv_iconst (v := 1) hx hb dX2_playNote_1 (by decide) ?_
  refine lv_iconst (v := 1) hx hb dX2_playNote_2 (by decide) ?_
  refine wCallV (As := [.int 1, .int 1]) (rest := []) K hw (mX2_told l E ad S hI 1 (by decide) 1) (cwV 2 hts gX2_playNote_X2_told rfl rfl rfl (by decide +kernel) ⟨Nat.le_of_ble_eq_true rfl, Nat.le_of_ble_eq_true rfl⟩) wB_b rfl rfl hl.1 rfl (Nat.le_of_ble_eq_true rfl) dX2_playNote_3 ⟨Nat.zero_le _, Nat.zero_le _⟩ (fun r_3 w' H locs hr hw => ?_)
  obtain ⟨hq, rfl⟩ := hr
  obtain rfl := hq
  refine lv_istore_n (lv' := [(1, .int (tld S 1 1)), (0, .ref (ad 0))]) hx hb dX2_playNote_6 rfl hl (by decide) rfl (fun ls hl => ?_)
  refine lv_aload_n hx hb dX2_playNote_7 rfl (lv_at hl 1 rfl) ?_
  refine lv_iconst (v := 3) hx hb dX2_playNote_8 (by decide) ?_
  refine lv_iconst (v := 0) hx hb dX2_playNote_9 (by decide) ?_
  refine wCallV (As := [.int 3, .int 0]) (rest := []) K hw (mX2_told l E ad S hI 3 (by decide) 0) (cwV 2 hts gX2_playNote_X2_told rfl rfl rfl (by decide +kernel) ⟨Nat.le_of_ble_eq_true rfl, Nat.le_of_ble_eq_true rfl⟩) wB_b rfl rfl hl.1 rfl (Nat.le_of_ble_eq_true rfl) dX2_playNote_10 ⟨Nat.zero_le _, Nat.zero_le _⟩ (fun r_10 w' H locs hr hw => ?_)
  obtain ⟨hq, rfl⟩ := hr
  obtain rfl := hq
  refine lv_iconst (v := 1) hx hb dX2_playNote_13 (by decide) ?_
  refine lv_icmp_ne (tgt := 21) hx hb dX2_playNote_14 (by decide) (fun c_14 => ?_) (fun c_14 => ?_)
  · rw [show tld S 1 1 = tt S from (if_neg c_14).symm] at hl
    refine lv_aload_n hx hb dX2_playNote_21 rfl (lv_at hl 1 rfl) ?_
    refine lv_dup hx hb dX2_playNote_22 rfl ?_
    refine wGet (v := .int (S.2.2 7 1)) K hw hiX2 wB_b rfl 2 (by decide) (by decide +kernel) rfl dX2_playNote_23 ?_
    refine lv_iload_n hx hb dX2_playNote_26 rfl (lv_at hl 0 rfl) ?_
    refine lv_iadd hx hb dX2_playNote_27 ?_
    refine wPut (ty := .int) K hw hiX2 tyX2 tyX2_ok nmX2 wB_b rfl 2 (by decide) (by decide +kernel) rfl (by decide +kernel) rfl rfl (Nat.le_of_ble_eq_true rfl) dX2_playNote_28 (wB_sG 1 (by decide) _) (fun H locs hw => ?_)
    refine lv_aload_n hx hb dX2_playNote_31 rfl (lv_at hl 1 rfl) ?_
    refine lv_dup hx hb dX2_playNote_32 rfl ?_
    refine wGet (v := .int (S.2.2 7 4)) K hw hiX2 wB_b rfl 5 (by decide) (by decide +kernel) rfl dX2_playNote_33 ?_
    refine lv_iconst (v := 1) hx hb dX2_playNote_36 (by decide) ?_
    refine lv_iadd hx hb dX2_playNote_37 ?_
    refine wPut (ty := .int) K hw hiX2 tyX2 tyX2_ok nmX2 wB_b rfl 5 (by decide) (by decide +kernel) rfl (by decide +kernel) rfl rfl (Nat.le_of_ble_eq_true rfl) dX2_playNote_38 (wB_sG 4 (by decide) _) (fun H locs hw => ?_)
    refine lv_aload_n hx hb dX2_playNote_41 rfl (lv_at hl 1 rfl) ?_
    refine lv_dup hx hb dX2_playNote_42 rfl ?_
    refine wGet (v := .int (S.2.2 7 5)) K hw hiX2 wB_b rfl 6 (by decide) (by decide +kernel) rfl dX2_playNote_43 ?_
    refine lv_iload_n hx hb dX2_playNote_46 rfl (lv_at hl 0 rfl) ?_
    refine lv_aload_n hx hb dX2_playNote_47 rfl (lv_at hl 1 rfl) ?_
    refine lv_iconst (v := 4) hx hb dX2_playNote_48 (by decide) ?_
    refine lv_iconst (v := 0) hx hb dX2_playNote_49 (by decide) ?_
    refine wCallV (As := [.int 4, .int 0]) (rest := [.int (tt S), .int (S.2.2 7 5), .ref (ad 0)]) K hw (mX2_told l E ad (sV (sV S 7 1 (S.2.2 7 1 + tt S)) 7 4 (S.2.2 7 4 + 1)) ((hI.setg (by decide) (by decide) _).setg (by decide) (by decide) _) 4 (by decide) 0) (cwV 2 hts gX2_playNote_X2_told rfl rfl rfl (by decide +kernel) ⟨Nat.le_of_ble_eq_true rfl, Nat.le_of_ble_eq_true rfl⟩) wB_b rfl rfl hl.1 rfl (Nat.le_of_ble_eq_true rfl) dX2_playNote_50 ⟨Nat.zero_le _, Nat.zero_le _⟩ (fun r_50 w' H locs hr hw => ?_)
    obtain ⟨hq, rfl⟩ := hr
    obtain rfl := hq
    refine lv_aload_n hx hb dX2_playNote_53 rfl (lv_at hl 1 rfl) ?_
    refine wGet (v := .int (S.2.2 7 2)) K hw hiX2 wB_b rfl 3 (by decide) (by decide +kernel) rfl dX2_playNote_54 ?_
    refine lv_iadd hx hb dX2_playNote_57 ?_
    refine lv_imul hx hb dX2_playNote_58 ?_
    refine lv_iadd hx hb dX2_playNote_59 ?_
    refine wPut (ty := .int) K hw hiX2 tyX2 tyX2_ok nmX2 wB_b rfl 6 (by decide) (by decide +kernel) rfl (by decide +kernel) rfl rfl (Nat.le_of_ble_eq_true rfl) dX2_playNote_60 (wB_sG 5 (by decide) _) (fun H locs hw => ?_)
    refine lv_aload_n hx hb dX2_playNote_63 rfl (lv_at hl 1 rfl) ?_
    refine lv_dup hx hb dX2_playNote_64 rfl ?_
    refine wGet (v := .int (S.2.2 7 5 + tt S * (tld S 4 0 + S.2.2 7 2))) K hw hiX2 wB_b rfl 6 (by decide) (by decide +kernel) rfl dX2_playNote_65 ?_
    refine lv_aload_n hx hb dX2_playNote_68 rfl (lv_at hl 1 rfl) ?_
    refine lv_iconst (v := 2) hx hb dX2_playNote_69 (by decide) ?_
    refine lv_bipush (v := 8) hx hb dX2_playNote_70 (by decide) ?_
    refine wCallV (As := [.int 2, .int 8]) (rest := [.int (S.2.2 7 5 + tt S * (tld S 4 0 + S.2.2 7 2)), .ref (ad 0)]) K hw (mX2_told l E ad (sV (sV (sV S 7 1 (S.2.2 7 1 + tt S)) 7 4 (S.2.2 7 4 + 1)) 7 5 (S.2.2 7 5 + tt S * (tld S 4 0 + S.2.2 7 2))) (((hI.setg (by decide) (by decide) _).setg (by decide) (by decide) _).setg (by decide) (by decide) _) 2 (by decide) 8) (cwV 2 hts gX2_playNote_X2_told rfl rfl rfl (by decide +kernel) ⟨Nat.le_of_ble_eq_true rfl, Nat.le_of_ble_eq_true rfl⟩) wB_b rfl rfl hl.1 rfl (Nat.le_of_ble_eq_true rfl) dX2_playNote_72 ⟨Nat.zero_le _, Nat.zero_le _⟩ (fun r_72 w' H locs hr hw => ?_)
    obtain ⟨hq, rfl⟩ := hr
    obtain rfl := hq
    refine lv_iadd hx hb dX2_playNote_75 ?_
    refine wPut (ty := .int) K hw hiX2 tyX2 tyX2_ok nmX2 wB_b rfl 6 (by decide) (by decide +kernel) rfl (by decide +kernel) rfl rfl (Nat.le_of_ble_eq_true rfl) dX2_playNote_76 (wB_sG 5 (by decide) _) (fun H locs hw => ?_)
    exact wRetV K hw dX2_playNote_79 rfl
  · refine lv_iconst (v := 2) hx hb dX2_playNote_17 (by decide) ?_
    refine lv_iload_n hx hb dX2_playNote_18 rfl (lv_at hl 0 rfl) ?_
    refine lv_imul hx hb dX2_playNote_19 ?_
    refine lv_istore_n (lv' := [(1, .int (2 * (tld S 1 1))), (0, .ref (ad 0))]) hx hb dX2_playNote_20 rfl hl (by decide) rfl (fun ls hl => ?_)
    rw [show (2 * tld S 1 1 : Int32) = tt S from (if_pos c_14).symm] at hl
    refine lv_aload_n hx hb dX2_playNote_21 rfl (lv_at hl 1 rfl) ?_
    refine lv_dup hx hb dX2_playNote_22 rfl ?_
    refine wGet (v := .int (S.2.2 7 1)) K hw hiX2 wB_b rfl 2 (by decide) (by decide +kernel) rfl dX2_playNote_23 ?_
    refine lv_iload_n hx hb dX2_playNote_26 rfl (lv_at hl 0 rfl) ?_
    refine lv_iadd hx hb dX2_playNote_27 ?_
    refine wPut (ty := .int) K hw hiX2 tyX2 tyX2_ok nmX2 wB_b rfl 2 (by decide) (by decide +kernel) rfl (by decide +kernel) rfl rfl (Nat.le_of_ble_eq_true rfl) dX2_playNote_28 (wB_sG 1 (by decide) _) (fun H locs hw => ?_)
    refine lv_aload_n hx hb dX2_playNote_31 rfl (lv_at hl 1 rfl) ?_
    refine lv_dup hx hb dX2_playNote_32 rfl ?_
    refine wGet (v := .int (S.2.2 7 4)) K hw hiX2 wB_b rfl 5 (by decide) (by decide +kernel) rfl dX2_playNote_33 ?_
    refine lv_iconst (v := 1) hx hb dX2_playNote_36 (by decide) ?_
    refine lv_iadd hx hb dX2_playNote_37 ?_
    refine wPut (ty := .int) K hw hiX2 tyX2 tyX2_ok nmX2 wB_b rfl 5 (by decide) (by decide +kernel) rfl (by decide +kernel) rfl rfl (Nat.le_of_ble_eq_true rfl) dX2_playNote_38 (wB_sG 4 (by decide) _) (fun H locs hw => ?_)
    refine lv_aload_n hx hb dX2_playNote_41 rfl (lv_at hl 1 rfl) ?_
    refine lv_dup hx hb dX2_playNote_42 rfl ?_
    refine wGet (v := .int (S.2.2 7 5)) K hw hiX2 wB_b rfl 6 (by decide) (by decide +kernel) rfl dX2_playNote_43 ?_
    refine lv_iload_n hx hb dX2_playNote_46 rfl (lv_at hl 0 rfl) ?_
    refine lv_aload_n hx hb dX2_playNote_47 rfl (lv_at hl 1 rfl) ?_
    refine lv_iconst (v := 4) hx hb dX2_playNote_48 (by decide) ?_
    refine lv_iconst (v := 0) hx hb dX2_playNote_49 (by decide) ?_
    refine wCallV (As := [.int 4, .int 0]) (rest := [.int (tt S), .int (S.2.2 7 5), .ref (ad 0)]) K hw (mX2_told l E ad (sV (sV S 7 1 (S.2.2 7 1 + tt S)) 7 4 (S.2.2 7 4 + 1)) ((hI.setg (by decide) (by decide) _).setg (by decide) (by decide) _) 4 (by decide) 0) (cwV 2 hts gX2_playNote_X2_told rfl rfl rfl (by decide +kernel) ⟨Nat.le_of_ble_eq_true rfl, Nat.le_of_ble_eq_true rfl⟩) wB_b rfl rfl hl.1 rfl (Nat.le_of_ble_eq_true rfl) dX2_playNote_50 ⟨Nat.zero_le _, Nat.zero_le _⟩ (fun r_50 w' H locs hr hw => ?_)
    obtain ⟨hq, rfl⟩ := hr
    obtain rfl := hq
    refine lv_aload_n hx hb dX2_playNote_53 rfl (lv_at hl 1 rfl) ?_
    refine wGet (v := .int (S.2.2 7 2)) K hw hiX2 wB_b rfl 3 (by decide) (by decide +kernel) rfl dX2_playNote_54 ?_
    refine lv_iadd hx hb dX2_playNote_57 ?_
    refine lv_imul hx hb dX2_playNote_58 ?_
    refine lv_iadd hx hb dX2_playNote_59 ?_
    refine wPut (ty := .int) K hw hiX2 tyX2 tyX2_ok nmX2 wB_b rfl 6 (by decide) (by decide +kernel) rfl (by decide +kernel) rfl rfl (Nat.le_of_ble_eq_true rfl) dX2_playNote_60 (wB_sG 5 (by decide) _) (fun H locs hw => ?_)
    refine lv_aload_n hx hb dX2_playNote_63 rfl (lv_at hl 1 rfl) ?_
    refine lv_dup hx hb dX2_playNote_64 rfl ?_
    refine wGet (v := .int (S.2.2 7 5 + tt S * (tld S 4 0 + S.2.2 7 2))) K hw hiX2 wB_b rfl 6 (by decide) (by decide +kernel) rfl dX2_playNote_65 ?_
    refine lv_aload_n hx hb dX2_playNote_68 rfl (lv_at hl 1 rfl) ?_
    refine lv_iconst (v := 2) hx hb dX2_playNote_69 (by decide) ?_
    refine lv_bipush (v := 8) hx hb dX2_playNote_70 (by decide) ?_
    refine wCallV (As := [.int 2, .int 8]) (rest := [.int (S.2.2 7 5 + tt S * (tld S 4 0 + S.2.2 7 2)), .ref (ad 0)]) K hw (mX2_told l E ad (sV (sV (sV S 7 1 (S.2.2 7 1 + tt S)) 7 4 (S.2.2 7 4 + 1)) 7 5 (S.2.2 7 5 + tt S * (tld S 4 0 + S.2.2 7 2))) (((hI.setg (by decide) (by decide) _).setg (by decide) (by decide) _).setg (by decide) (by decide) _) 2 (by decide) 8) (cwV 2 hts gX2_playNote_X2_told rfl rfl rfl (by decide +kernel) ⟨Nat.le_of_ble_eq_true rfl, Nat.le_of_ble_eq_true rfl⟩) wB_b rfl rfl hl.1 rfl (Nat.le_of_ble_eq_true rfl) dX2_playNote_72 ⟨Nat.zero_le _, Nat.zero_le _⟩ (fun r_72 w' H locs hr hw => ?_)
    obtain ⟨hq, rfl⟩ := hr
    obtain rfl := hq
    refine lv_iadd hx hb dX2_playNote_75 ?_
    refine wPut (ty := .int) K hw hiX2 tyX2 tyX2_ok nmX2 wB_b rfl 6 (by decide) (by decide +kernel) rfl (by decide +kernel) rfl rfl (Nat.le_of_ble_eq_true rfl) dX2_playNote_76 (wB_sG 5 (by decide) _) (fun H locs hw => ?_)
    exact wRetV K hw dX2_playNote_79 rfl
set_option maxHeartbeats 4000000 in
set_option maxRecDepth 100000 in
theorem mX2_step (l : Launch) (E : wE) (ad : Nat → Nat) (S : SS) (hI : Inv S) (g : Int32) : MCv l E yX2_step wsX2_step { frames := 3, cells := 0, slots := 0, locals := 65 } [.ref (ad 0), .int g] (wB E ad S) (fun w => w = wB E ad (stp S g)) := by
  refine wEnterV (cc := cX2_step) (nL := 2) (ret := none) (own := RX2) (by decide) rfl rfl (Nat.le_of_ble_eq_true rfl) ?_
  intro p e s m below meth c A ls K hl hw hin
  have hl : lv_has ls 2 [(0, .ref (ad 0)), (1, .int g)] := hl
  obtain ⟨hx, hb, -, hml, hown, hts, -, -, -⟩ := id K
  have hiX2 : ∀ w ∈ wsX20, w ∈ wsX2_step := by decide +kernel
  refine lv_iload_n hx hb dX2_step_0 rfl (lv_at hl 1 rfl) ?_
  by_cases h46 : g = 46
  · subst h46
    refine lv_lookup (off := 59) (tgt := 60) hx hb dX2_step_1 (by decide +kernel) (by decide +kernel) (by decide) ?_
    refine lv_aload_n hx hb dX2_step_60 rfl (lv_at hl 0 rfl) ?_
    refine lv_dup hx hb dX2_step_61 rfl ?_
    refine wGet (v := .int (S.2.2 7 1)) K hw hiX2 wB_b rfl 2 (by decide) (by decide +kernel) rfl dX2_step_62 ?_
    refine lv_aload_n hx hb dX2_step_65 rfl (lv_at hl 0 rfl) ?_
    refine lv_iconst (v := 1) hx hb dX2_step_66 (by decide) ?_
    refine lv_iconst (v := 1) hx hb dX2_step_67 (by decide) ?_
    refine wCallV (As := [.int 1, .int 1]) (rest := [.int (S.2.2 7 1), .ref (ad 0)]) K hw (mX2_told l E ad S hI 1 (by decide) 1) (cwV 2 hts gX2_step_X2_told rfl rfl rfl (by decide +kernel) ⟨Nat.le_of_ble_eq_true rfl, Nat.le_of_ble_eq_true rfl⟩) wB_b rfl rfl hl.1 rfl (Nat.le_of_ble_eq_true rfl) dX2_step_68 ⟨Nat.zero_le _, Nat.zero_le _⟩ (fun r_68 w' H locs hr hw => ?_)
    obtain ⟨hq, rfl⟩ := hr
    obtain rfl := hq
    refine lv_iadd hx hb dX2_step_71 ?_
    refine wPut (ty := .int) K hw hiX2 tyX2 tyX2_ok nmX2 wB_b rfl 2 (by decide) (by decide +kernel) rfl (by decide +kernel) rfl rfl (Nat.le_of_ble_eq_true rfl) dX2_step_72 (wB_sG 1 (by decide) _) (fun H locs hw => ?_)
    refine lv_goto (tgt := 145) hx hb dX2_step_75 (by decide) ?_
    refine lv_aload_n hx hb dX2_step_145 rfl (lv_at hl 0 rfl) ?_
    refine lv_dup hx hb dX2_step_146 rfl ?_
    refine wGet (v := .int (S.2.2 7 0)) K hw hiX2 wB_b rfl 1 (by decide) (by decide +kernel) rfl dX2_step_147 ?_
    refine lv_iconst (v := 1) hx hb dX2_step_150 (by decide) ?_
    refine lv_iadd hx hb dX2_step_151 ?_
    refine wPut (ty := .int) K hw hiX2 tyX2 tyX2_ok nmX2 wB_b rfl 1 (by decide) (by decide +kernel) rfl (by decide +kernel) rfl rfl (Nat.le_of_ble_eq_true rfl) dX2_step_152 (wB_sG 0 (by decide) _) (fun H locs hw => ?_)
    exact wRetV K hw dX2_step_155 rfl
  by_cases h110 : g = 110
  · subst h110
    refine lv_lookup (off := 77) (tgt := 78) hx hb dX2_step_1 (by decide +kernel) (by decide +kernel) (by decide) ?_
    refine lv_aload_n hx hb dX2_step_78 rfl (lv_at hl 0 rfl) ?_
    refine wCallVv (As := []) (rest := []) K hw (mX2_playNote l E ad S hI) (cwV 0 hts gX2_step_X2_playNote rfl rfl rfl (by decide +kernel) ⟨Nat.le_of_ble_eq_true rfl, Nat.le_of_ble_eq_true rfl⟩) wB_b rfl rfl hl.1 rfl (Nat.le_of_ble_eq_true rfl) dX2_step_79 ⟨Nat.zero_le _, Nat.zero_le _⟩ (fun w' H locs hr hw => ?_)
    subst hr
    refine lv_goto (tgt := 145) hx hb dX2_step_82 (by decide) ?_
    refine lv_aload_n hx hb dX2_step_145 rfl (lv_at hl 0 rfl) ?_
    refine lv_dup hx hb dX2_step_146 rfl ?_
    refine wGet (v := .int ((nte S).2.2 7 0)) K hw hiX2 wB_b rfl 1 (by decide) (by decide +kernel) rfl dX2_step_147 ?_
    refine lv_iconst (v := 1) hx hb dX2_step_150 (by decide) ?_
    refine lv_iadd hx hb dX2_step_151 ?_
    refine wPut (ty := .int) K hw hiX2 tyX2 tyX2_ok nmX2 wB_b rfl 1 (by decide) (by decide +kernel) rfl (by decide +kernel) rfl rfl (Nat.le_of_ble_eq_true rfl) dX2_step_152 (wB_sG 0 (by decide) _) (fun H locs hw => ?_)
    exact wRetV K hw dX2_step_155 rfl
  by_cases h114 : g = 114
  · subst h114
    refine lv_lookup (off := 108) (tgt := 109) hx hb dX2_step_1 (by decide +kernel) (by decide +kernel) (by decide) ?_
    refine lv_aload_n hx hb dX2_step_109 rfl (lv_at hl 0 rfl) ?_
    refine lv_iconst (v := 1) hx hb dX2_step_110 (by decide) ?_
    refine wCallV (As := [.int 1]) (rest := []) K hw (mX2_lowered l E ad S hI 1 (by decide)) (cwV 1 hts gX2_step_X2_lowered rfl rfl rfl (by decide +kernel) ⟨Nat.le_of_ble_eq_true rfl, Nat.le_of_ble_eq_true rfl⟩) wB_b rfl rfl hl.1 rfl (Nat.le_of_ble_eq_true rfl) dX2_step_111 ⟨Nat.zero_le _, Nat.zero_le _⟩ (fun r_111 w' H locs hr hw => ?_)
    obtain ⟨hr111, rfl⟩ := hr
    refine lv_if_eq (tgt := 145) hx hb dX2_step_114 (by decide) (fun c_114 => ?_) (fun c_114 => ?_)
    · refine lv_aload_n hx hb dX2_step_145 rfl (lv_at hl 0 rfl) ?_
      refine lv_dup hx hb dX2_step_146 rfl ?_
      refine wGet (v := .int ((lwq S 1).2.2 7 0)) K hw hiX2 wB_b rfl 1 (by decide) (by decide +kernel) rfl dX2_step_147 ?_
      refine lv_iconst (v := 1) hx hb dX2_step_150 (by decide) ?_
      refine lv_iadd hx hb dX2_step_151 ?_
      refine wPut (ty := .int) K hw hiX2 tyX2 tyX2_ok nmX2 wB_b rfl 1 (by decide) (by decide +kernel) rfl (by decide +kernel) rfl rfl (Nat.le_of_ble_eq_true rfl) dX2_step_152 (wB_sG 0 (by decide) _) (fun H locs hw => ?_)
      exact wRetV K hw dX2_step_155 (by show wB E ad (ihd (lwq S 1)) = wB E ad (if 0 < tld S 1 0 then _ else _); rw [if_neg (bI_f hr111 c_114), lwq_f (bI_f hr111 c_114)])
    · refine lv_aload_n hx hb dX2_step_117 rfl (lv_at hl 0 rfl) ?_
      refine lv_aload_n hx hb dX2_step_118 rfl (lv_at hl 0 rfl) ?_
      refine wGet (v := .int (S.2.2 7 3)) K hw hiX2 wB_b rfl 4 (by decide) (by decide +kernel) rfl dX2_step_119 ?_
      refine wPut (ty := .int) K hw hiX2 tyX2 tyX2_ok nmX2 wB_b rfl 1 (by decide) (by decide +kernel) rfl (by decide +kernel) rfl rfl (Nat.le_of_ble_eq_true rfl) dX2_step_122 (wB_sG 0 (by decide) _) (fun H locs hw => ?_)
      exact wRetV K hw dX2_step_125 (by show wB E ad (sV (lwq S 1) 7 0 (S.2.2 7 3)) = wB E ad (if 0 < tld S 1 0 then _ else _); rw [if_pos (bI_t hr111 c_114), lwq_t (bI_t hr111 c_114)])
  by_cases h116 : g = 116
  · subst h116
    refine lv_lookup (off := 84) (tgt := 85) hx hb dX2_step_1 (by decide +kernel) (by decide +kernel) (by decide) ?_
    refine lv_aload_n hx hb dX2_step_85 rfl (lv_at hl 0 rfl) ?_
    refine lv_aload_n hx hb dX2_step_86 rfl (lv_at hl 0 rfl) ?_
    refine lv_iconst (v := 4) hx hb dX2_step_87 (by decide) ?_
    refine lv_iconst (v := 0) hx hb dX2_step_88 (by decide) ?_
    refine wCallV (As := [.int 4, .int 0]) (rest := [.ref (ad 0)]) K hw (mX2_told l E ad S hI 4 (by decide) 0) (cwV 2 hts gX2_step_X2_told rfl rfl rfl (by decide +kernel) ⟨Nat.le_of_ble_eq_true rfl, Nat.le_of_ble_eq_true rfl⟩) wB_b rfl rfl hl.1 rfl (Nat.le_of_ble_eq_true rfl) dX2_step_89 ⟨Nat.zero_le _, Nat.zero_le _⟩ (fun r_89 w' H locs hr hw => ?_)
    obtain ⟨hq, rfl⟩ := hr
    obtain rfl := hq
    refine wPut (ty := .int) K hw hiX2 tyX2 tyX2_ok nmX2 wB_b rfl 3 (by decide) (by decide +kernel) rfl (by decide +kernel) rfl rfl (Nat.le_of_ble_eq_true rfl) dX2_step_92 (wB_sG 2 (by decide) _) (fun H locs hw => ?_)
    refine lv_goto (tgt := 145) hx hb dX2_step_95 (by decide) ?_
    refine lv_aload_n hx hb dX2_step_145 rfl (lv_at hl 0 rfl) ?_
    refine lv_dup hx hb dX2_step_146 rfl ?_
    refine wGet (v := .int ((sV S 7 2 (tld S 4 0)).2.2 7 0)) K hw hiX2 wB_b rfl 1 (by decide) (by decide +kernel) rfl dX2_step_147 ?_
    refine lv_iconst (v := 1) hx hb dX2_step_150 (by decide) ?_
    refine lv_iadd hx hb dX2_step_151 ?_
    refine wPut (ty := .int) K hw hiX2 tyX2 tyX2_ok nmX2 wB_b rfl 1 (by decide) (by decide +kernel) rfl (by decide +kernel) rfl rfl (Nat.le_of_ble_eq_true rfl) dX2_step_152 (wB_sG 0 (by decide) _) (fun H locs hw => ?_)
    exact wRetV K hw dX2_step_155 rfl
  by_cases h119 : g = 119
  · subst h119
    refine lv_lookup (off := 125) (tgt := 126) hx hb dX2_step_1 (by decide +kernel) (by decide +kernel) (by decide) ?_
    refine lv_aload_n hx hb dX2_step_126 rfl (lv_at hl 0 rfl) ?_
    refine lv_iconst (v := 2) hx hb dX2_step_127 (by decide) ?_
    refine wCallV (As := [.int 2]) (rest := []) K hw (mX2_lowered l E ad S hI 2 (by decide)) (cwV 1 hts gX2_step_X2_lowered rfl rfl rfl (by decide +kernel) ⟨Nat.le_of_ble_eq_true rfl, Nat.le_of_ble_eq_true rfl⟩) wB_b rfl rfl hl.1 rfl (Nat.le_of_ble_eq_true rfl) dX2_step_128 ⟨Nat.zero_le _, Nat.zero_le _⟩ (fun r_128 w' H locs hr hw => ?_)
    obtain ⟨hr128, rfl⟩ := hr
    refine lv_pop hx hb dX2_step_131 rfl ?_
    refine lv_goto (tgt := 145) hx hb dX2_step_132 (by decide) ?_
    refine lv_aload_n hx hb dX2_step_145 rfl (lv_at hl 0 rfl) ?_
    refine lv_dup hx hb dX2_step_146 rfl ?_
    refine wGet (v := .int ((lwq S 2).2.2 7 0)) K hw hiX2 wB_b rfl 1 (by decide) (by decide +kernel) rfl dX2_step_147 ?_
    refine lv_iconst (v := 1) hx hb dX2_step_150 (by decide) ?_
    refine lv_iadd hx hb dX2_step_151 ?_
    refine wPut (ty := .int) K hw hiX2 tyX2 tyX2_ok nmX2 wB_b rfl 1 (by decide) (by decide +kernel) rfl (by decide +kernel) rfl rfl (Nat.le_of_ble_eq_true rfl) dX2_step_152 (wB_sG 0 (by decide) _) (fun H locs hw => ?_)
    exact wRetV K hw dX2_step_155 (by rw [← stp_119]; rfl)
  by_cases h124 : g = 124
  · subst h124
    refine lv_lookup (off := 97) (tgt := 98) hx hb dX2_step_1 (by decide +kernel) (by decide +kernel) (by decide) ?_
    refine lv_aload_n hx hb dX2_step_98 rfl (lv_at hl 0 rfl) ?_
    refine lv_aload_n hx hb dX2_step_99 rfl (lv_at hl 0 rfl) ?_
    refine wGet (v := .int (S.2.2 7 0)) K hw hiX2 wB_b rfl 1 (by decide) (by decide +kernel) rfl dX2_step_100 ?_
    refine wPut (ty := .int) K hw hiX2 tyX2 tyX2_ok nmX2 wB_b rfl 4 (by decide) (by decide +kernel) rfl (by decide +kernel) rfl rfl (Nat.le_of_ble_eq_true rfl) dX2_step_103 (wB_sG 3 (by decide) _) (fun H locs hw => ?_)
    refine lv_goto (tgt := 145) hx hb dX2_step_106 (by decide) ?_
    refine lv_aload_n hx hb dX2_step_145 rfl (lv_at hl 0 rfl) ?_
    refine lv_dup hx hb dX2_step_146 rfl ?_
    refine wGet (v := .int ((sV S 7 3 (S.2.2 7 0)).2.2 7 0)) K hw hiX2 wB_b rfl 1 (by decide) (by decide +kernel) rfl dX2_step_147 ?_
    refine lv_iconst (v := 1) hx hb dX2_step_150 (by decide) ?_
    refine lv_iadd hx hb dX2_step_151 ?_
    refine wPut (ty := .int) K hw hiX2 tyX2 tyX2_ok nmX2 wB_b rfl 1 (by decide) (by decide +kernel) rfl (by decide +kernel) rfl rfl (Nat.le_of_ble_eq_true rfl) dX2_step_152 (wB_sG 0 (by decide) _) (fun H locs hw => ?_)
    exact wRetV K hw dX2_step_155 rfl
  have hout : Op.lookupswitch.offset [(46, 59), (110, 77), (114, 108), (116, 84), (119, 125), (124, 97)] 134 g.toInt = 134 := by
    rw [lv_osw h46 (by decide), lv_osw h110 (by decide), lv_osw h114 (by decide), lv_osw h116 (by decide), lv_osw h119 (by decide), lv_osw h124 (by decide)]
    rfl
  refine lv_lookup (off := 134) (tgt := 135) hx hb dX2_step_1 (by decide +kernel) hout (by decide) ?_
  refine lv_aload_n hx hb dX2_step_135 rfl (lv_at hl 0 rfl) ?_
  refine lv_dup hx hb dX2_step_136 rfl ?_
  refine wGet (v := .int (S.2.2 7 6)) K hw hiX2 wB_b rfl 7 (by decide) (by decide +kernel) rfl dX2_step_137 ?_
  refine lv_iconst (v := 1) hx hb dX2_step_140 (by decide) ?_
  refine lv_iadd hx hb dX2_step_141 ?_
  refine wPut (ty := .int) K hw hiX2 tyX2 tyX2_ok nmX2 wB_b rfl 7 (by decide) (by decide +kernel) rfl (by decide +kernel) rfl rfl (Nat.le_of_ble_eq_true rfl) dX2_step_142 (wB_sG 6 (by decide) _) (fun H locs hw => ?_)
  refine lv_aload_n hx hb dX2_step_145 rfl (lv_at hl 0 rfl) ?_
  refine lv_dup hx hb dX2_step_146 rfl ?_
  refine wGet (v := .int ((sV S 7 6 ((S.2.2 7 6) + 1)).2.2 7 0)) K hw hiX2 wB_b rfl 1 (by decide) (by decide +kernel) rfl dX2_step_147 ?_
  refine lv_iconst (v := 1) hx hb dX2_step_150 (by decide) ?_
  refine lv_iadd hx hb dX2_step_151 ?_
  refine wPut (ty := .int) K hw hiX2 tyX2 tyX2_ok nmX2 wB_b rfl 1 (by decide) (by decide +kernel) rfl (by decide +kernel) rfl rfl (Nat.le_of_ble_eq_true rfl) dX2_step_152 (wB_sG 0 (by decide) _) (fun H locs hw => ?_)
  exact wRetV K hw dX2_step_155 (by rw [stp, if_neg h46, if_neg h110, if_neg h114, if_neg h116, if_neg h119, if_neg h124]; rfl)
set_option maxHeartbeats 4000000 in
set_option maxRecDepth 100000 in
theorem mX2_play (l : Launch) (E : wE) (ad : Nat → Nat) (S : SS) (hI : Inv S) (x : Int32) : MCi l E yX2_play wsX2_play { frames := 4, cells := 0, slots := 0, locals := 86 } [.ref (ad 0), .int x] (wB E ad S) (fun r w => r = (sp_play S x).1 ∧ w = wB E ad (sp_play S x).2) := by
  refine wEnterI (cc := cX2_play) (nL := 4) (ret := (some .int)) (own := RX2) (by decide) rfl rfl (Nat.le_of_ble_eq_true rfl) ?_
  intro p e s m below meth c A ls K hl hw
  have hl : lv_has ls 4 [(0, .ref (ad 0)), (1, .int x)] := hl
  obtain ⟨hx, hb, -, hml, hown, hts, -, -, -⟩ := id K
  have hiX2 : ∀ w ∈ wsX20, w ∈ wsX2_play := by decide +kernel
  have hiX0 : ∀ w ∈ wsX00, w ∈ wsX2_play := by decide +kernel
  refine lv_iload_n hx hb dX2_play_0 rfl (lv_at hl 1 rfl) ?_
  refine lv_if_ge (tgt := 7) hx hb dX2_play_1 (by decide) (fun c_1 => ?_) (fun c_1 => ?_)
  · refine lv_iload_n hx hb dX2_play_7 rfl (lv_at hl 1 rfl) ?_
    refine lv_sipush (v := 200) hx hb dX2_play_8 (by decide) ?_
    refine lv_icmp_le (tgt := 17) hx hb dX2_play_11 (by decide) (fun c_11 => ?_) (fun c_11 => ?_)
    · obtain ⟨n, hn, rfl⟩ := le_of_ix (y := 200) (n := 200) (by omega) rfl (Int32.not_lt.mpr c_1) c_11
      have hsp : sp_play S (nI n) = (nI (ply n S).1, (ply n S).2) := by rw [sp_play, if_pos c_1, if_pos c_11, kN_nI (by omega)]
      have loop : ∀ (d i : Nat) (S1 : SS), i + d = n → Inv S1 → i + (ply d S1).1 = (ply n S).1 → (ply d S1).2 = (ply n S).2 → ∀ (H : Heap) (locs : List Loc) (ls : Array Slot), lv_has ls 4 [(3, .int (nI i)), (2, .ref (ad (2 + 4 * 0))), (0, .ref (ad 0)), (1, .int (nI n))] → wW E A s (wB E ad S1) H locs → W p l e ({ frames := 4, cells := 0, slots := 0, locals := 86 } : Room) s m ([.ref (ad 0), .int (nI n)] : List Value).toArray below meth c H locs 0 0 (MQ below (va_Qi (fun r w => r = (sp_play S (nI n)).1 ∧ w = wB E ad (sp_play S (nI n)).2) (wAft E A) A) ([.ref (ad 0), .int (nI n)] : List Value).toArray s 0 0 A) (F0 m 26 ls []) := by
        intro d
        induction d with
        | zero =>
          intro i S1 hid hI1 hr1 hr2 H locs ls hl hw
          obtain rfl : i = n := by omega
          refine lv_iload_n hx hb dX2_play_26 rfl (lv_at hl 0 rfl) ?_
          refine lv_iload_n hx hb dX2_play_27 rfl (lv_at hl 3 rfl) ?_
          refine lv_icmp_ge (tgt := 61) hx hb dX2_play_28 (by decide) (fun c_28 => ?_) (fun c_28 => ?_)
          · refine lv_iload_n hx hb dX2_play_61 rfl (lv_at hl 0 rfl) ?_
            exact wRetI K hw dX2_play_62 (pst (by rw [hsp, ← hr1, ← hr2]; rfl))
          · exact absurd (nI_le (Nat.le_refl i) (by omega)) c_28
        | succ d ih =>
          intro i S1 hid hI1 hr1 hr2 H locs ls hl hw
          rw [ply] at hr1 hr2
          refine lv_iload_n hx hb dX2_play_26 rfl (lv_at hl 0 rfl) ?_
          refine lv_iload_n hx hb dX2_play_27 rfl (lv_at hl 3 rfl) ?_
          refine lv_icmp_ge (tgt := 61) hx hb dX2_play_28 (by decide) (fun c_28 => ?_) (fun c_28 => ?_)
          · exact absurd c_28 (nI_ge (by omega) (by omega))
          · refine lv_aload_n hx hb dX2_play_31 rfl (lv_at hl 1 rfl) ?_
            refine lv_aload_n hx hb dX2_play_32 rfl (lv_at hl 2 rfl) ?_
            refine wGet (v := .int (S1.2.2 7 0)) K hw hiX2 wB_b rfl 1 (by decide) (by decide +kernel) rfl dX2_play_33 ?_
            refine wCallV (As := [.int (S1.2.2 7 0)]) (rest := []) K hw (mX0_hasCell l E ad S1 hI1 0 (by decide) (S1.2.2 7 0)) (cwV 1 hts gX2_play_X0_hasCell rfl rfl rfl (by decide +kernel) ⟨Nat.le_of_ble_eq_true rfl, Nat.le_of_ble_eq_true rfl⟩) (wB_lane (show 0 < 5 by decide)) rfl rfl hl.1 rfl (Nat.le_of_ble_eq_true rfl) dX2_play_36 ⟨Nat.zero_le _, Nat.zero_le _⟩ (fun r_36 w' H locs hr hw => ?_)
            obtain ⟨hr36, rfl⟩ := hr
            refine lv_if_eq (tgt := 61) hx hb dX2_play_39 (by decide) (fun c_39 => ?_) (fun c_39 => ?_)
            · have hc := bI_f hr36 c_39
              rw [if_neg hc] at hr1 hr2
              refine lv_iload_n hx hb dX2_play_61 rfl (lv_at hl 0 rfl) ?_
              exact wRetI K hw dX2_play_62 (pst (by rw [hsp, ← hr1, ← hr2]; rfl))
            · have hc := bI_t hr36 c_39
              obtain ⟨q, hq, eq⟩ := hI1.cell (by decide) hc
              refine lv_aload_n hx hb dX2_play_42 rfl (lv_at hl 2 rfl) ?_
              refine lv_aload_n hx hb dX2_play_43 rfl (lv_at hl 1 rfl) ?_
              refine wGet (v := .ref (ad (3 + 4 * 0))) K hw hiX0 (wB_lane (show 0 < 5 by decide)) rfl 0 (by decide) (by decide +kernel) rfl dX2_play_44 ?_
              refine lv_aload_n hx hb dX2_play_47 rfl (lv_at hl 2 rfl) ?_
              refine wGet (v := .int (S1.2.2 7 0)) K hw hiX2 wB_b rfl 1 (by decide) (by decide +kernel) rfl dX2_play_48 ?_
              refine wIald (v := S1.1 0 (kN (S1.2.2 7 0))) K hw (wB_cells (show 0 < 5 by decide)) (by rw [eq]; exact vp_in_nI hq (by omega)) rfl dX2_play_51 ?_
              refine wCallVv (As := [.int (S1.1 0 (kN (S1.2.2 7 0)))]) (rest := []) K hw (mX2_step l E ad S1 hI1 (S1.1 0 (kN (S1.2.2 7 0)))) (cwV 1 hts gX2_play_X2_step rfl rfl rfl (by decide +kernel) ⟨Nat.le_of_ble_eq_true rfl, Nat.le_of_ble_eq_true rfl⟩) wB_b rfl rfl hl.1 rfl (Nat.le_of_ble_eq_true rfl) dX2_play_52 ⟨Nat.zero_le _, Nat.zero_le _⟩ (fun w' H locs hr hw => ?_)
              subst hr
              refine lv_iinc (v := nI (i + 1)) (lv' := [(3, .int (nI (i + 1))), (2, .ref (ad (2 + 4 * 0))), (0, .ref (ad 0)), (1, .int (nI n))]) hx hb dX2_play_55 hl (k := 0) rfl (nI_1 i) (by decide) rfl (fun ls hl => ?_)
              refine lv_goto (tgt := 26) hx hb dX2_play_58 (by decide) ?_
              exact ih (i + 1) _ (by omega) (hI1.onstep hc _) (by rw [if_pos hc] at hr1; rw [← hr1]; omega) (by rw [if_pos hc] at hr2; exact hr2) H locs ls hl hw
      refine lv_aload_n hx hb dX2_play_17 rfl (lv_at hl 0 rfl) ?_
      refine wGet (v := .ref (ad 1)) K hw hiX2 wB_b rfl 0 (by decide) (by decide +kernel) rfl dX2_play_18 ?_
      refine lv_iconst (v := 0) hx hb dX2_play_21 (by decide) ?_
      refine wAald K hw wB_l (in5 (j := 0) (by decide)) gLanes_0 dX2_play_22 ?_
      refine lv_astore_n (lv' := [(2, .ref (ad (2 + 4 * 0))), (0, .ref (ad 0)), (1, .int (nI n))]) hx hb dX2_play_23 rfl hl (by decide) rfl (fun ls hl => ?_)
      refine lv_iconst (v := 0) hx hb dX2_play_24 (by decide) ?_
      refine lv_istore_n (lv' := [(3, .int 0), (2, .ref (ad (2 + 4 * 0))), (0, .ref (ad 0)), (1, .int (nI n))]) hx hb dX2_play_25 rfl hl (by decide) rfl (fun ls hl => ?_)
      exact loop n 0 S (by omega) hI (by omega) rfl _ _ _ (by rw [nI_0]; exact hl) hw
    · refine lv_ldc (v := (-1000003)) hx hb hown (hts (.constant RX2 21 (-1000003)) (by decide +kernel)) dX2_play_14 ?_
      exact wRetI K hw dX2_play_16 (pst (by rw [sp_play, if_pos c_1, if_neg c_11]))
  · refine lv_ldc (v := (-1000004)) hx hb hown (hts (.constant RX2 22 (-1000004)) (by decide +kernel)) dX2_play_4 ?_
    exact wRetI K hw dX2_play_6 (pst (by rw [sp_play, if_neg c_1]))
end
section
/-! numbers: what the reference's stored and pressed reckon is what the class's do -/
theorem low_of (v : Int64) : ∃ n : Nat, n < 65536 ∧ (v &&& 65535).toInt32 = nI n ∧ (n : Int) = v.toInt % 65536 := by
  have h := Jvm.Kit.i64_mask v 65535 (k := 16) (by decide) (by decide)
  refine ⟨(v.toInt % 65536).toNat, by omega, ?_, by omega⟩
  apply Int32.toInt_inj.mp
  rw [Int64.toInt_toInt32, h, nI_toInt (by omega), Jvm.Kit.bmod32 (by omega) (by omega)]
  omega
theorem low16 (v : Int64) : -32768 ≤ v.toInt32.toInt16.toInt32.toInt ∧ v.toInt32.toInt16.toInt32.toInt < 32768 ∧ v.toInt32.toInt16.toInt32.toInt % 65536 = v.toInt % 65536 := by
  rw [Int16.toInt_toInt32]
  refine ⟨Int16.le_toInt _, Int16.toInt_lt _, ?_⟩
  rw [Int32.toInt_toInt16, Int64.toInt_toInt32]
  have h1 := Int.bmod_emod (x := v.toInt) (m := 2 ^ 32)
  have h2 := Int.bmod_emod (x := v.toInt.bmod (2 ^ 32)) (m := 2 ^ 16)
  omega
theorem low8 (v : Int64) : -128 ≤ v.toInt32.toInt8.toInt32.toInt ∧ v.toInt32.toInt8.toInt32.toInt < 128 ∧ v.toInt32.toInt8.toInt32.toInt % 256 = v.toInt % 256 := by
  rw [Int8.toInt_toInt32]
  refine ⟨Int8.le_toInt _, Int8.toInt_lt _, ?_⟩
  rw [Int32.toInt_toInt8, Int64.toInt_toInt32]
  have h1 := Int.bmod_emod (x := v.toInt) (m := 2 ^ 32)
  have h2 := Int.bmod_emod (x := v.toInt.bmod (2 ^ 32)) (m := 2 ^ 8)
  omega
theorem sto1_lo {v : Int64} {n : Nat} (hn : n < 65536) (en : (n : Int) = v.toInt % 65536) (c : nI n < 32768) : nI n = sto 1 v := by
  have hc : n < 32768 := (nI_ltI (b := 32768) (by omega) (by omega)).mp c
  obtain ⟨h1, h2, h3⟩ := low16 v
  apply Int32.toInt_inj.mp
  show _ = v.toInt32.toInt16.toInt32.toInt
  rw [nI_toInt (by omega)]
  omega
theorem sto1_hi {v : Int64} {n : Nat} (hn : n < 65536) (en : (n : Int) = v.toInt % 65536) (c : ¬ nI n < 32768) : nI n - 65536 = sto 1 v := by
  have hc : ¬ n < 32768 := fun q => c ((nI_ltI (b := 32768) (by omega) (by omega)).mpr q)
  obtain ⟨h1, h2, h3⟩ := low16 v
  apply Int32.toInt_inj.mp
  show _ = v.toInt32.toInt16.toInt32.toInt
  rw [show (65536 : Int32) = nI 65536 from rfl, pk_sub_toInt (by omega) (by omega)]
  omega
theorem sto3_eq {v : Int64} {n : Nat} (hn : n < 65536) (en : (n : Int) = v.toInt % 65536) : nI n - nI n / 2 * 2 = sto 3 v := by
  rw [show (2 : Int32) = nI 2 from rfl, pk_rem (by omega) (by omega) (by omega)]
  have h := Jvm.Kit.i64_mask v 1 (k := 1) (by decide) (by decide)
  apply Int32.toInt_inj.mp
  show _ = (v &&& 1).toInt32.toInt
  rw [Int64.toInt_toInt32, h, nI_toInt (by omega), Jvm.Kit.bmod32 (by omega) (by omega)]
  omega
theorem rem256 {n : Nat} (hn : n < 65536) : nI n - nI n / 256 * 256 = nI (n % 256) := by
  rw [show (256 : Int32) = nI 256 from rfl, pk_rem (by omega) (by omega) (by omega)]
theorem sto4_lo {v : Int64} {n : Nat} (hn : n < 65536) (en : (n : Int) = v.toInt % 65536) (c : nI (n % 256) < 128) : nI (n % 256) = sto 4 v := by
  have hc : n % 256 < 128 := (nI_ltI (b := 128) (by omega) (by omega)).mp c
  obtain ⟨h1, h2, h3⟩ := low8 v
  apply Int32.toInt_inj.mp
  show _ = v.toInt32.toInt8.toInt32.toInt
  rw [nI_toInt (by omega)]
  omega
theorem sto4_hi {v : Int64} {n : Nat} (hn : n < 65536) (en : (n : Int) = v.toInt % 65536) (c : ¬ nI (n % 256) < 128) : nI (n % 256) - 256 = sto 4 v := by
  have hc : ¬ n % 256 < 128 := fun q => c ((nI_ltI (b := 128) (by omega) (by omega)).mpr q)
  obtain ⟨h1, h2, h3⟩ := low8 v
  apply Int32.toInt_inj.mp
  show _ = v.toInt32.toInt8.toInt32.toInt
  rw [show (256 : Int32) = nI 256 from rfl, pk_sub_toInt (by omega) (by omega)]
  omega
theorem i64_8 : (8000 : Int64).toInt = 8000 := by decide
theorem i64_m8 : (-8000 : Int64).toInt = -8000 := by decide
theorem cl8_lo {v : Int64} (h : ¬ -8000 ≤ v) : (-8000 : Int32) = sto 2 v := by
  have a : ¬ -8000 ≤ v.toInt := fun q => h (by rw [Int64.le_iff_toInt_le, i64_m8]; exact q)
  show _ = (cl8 v).toInt32
  have b : v < 8000 := by rw [Int64.lt_iff_toInt_lt, i64_8]; omega
  have d : v < -8000 := by rw [Int64.lt_iff_toInt_lt, i64_m8]; omega
  rw [cl8, if_pos b, if_pos d]
  decide
theorem cl8_hi {v : Int64} (h : ¬ v ≤ 8000) : (8000 : Int32) = sto 2 v := by
  have a : ¬ v.toInt ≤ 8000 := fun q => h (by rw [Int64.le_iff_toInt_le, i64_8]; exact q)
  show _ = (cl8 v).toInt32
  have b : ¬ v < 8000 := by rw [Int64.lt_iff_toInt_lt, i64_8]; omega
  rw [cl8, if_neg b, if_neg (by decide)]
  decide
theorem cl8_mid {v : Int64} (h1 : -8000 ≤ v) (h2 : v ≤ 8000) : v.toInt32 = sto 2 v := by
  rw [Int64.le_iff_toInt_le, i64_m8] at h1
  rw [Int64.le_iff_toInt_le, i64_8] at h2
  show _ = (cl8 v).toInt32
  have d : ¬ v < -8000 := by rw [Int64.lt_iff_toInt_lt, i64_m8]; omega
  by_cases b : v < 8000
  · rw [cl8, if_pos b, if_neg d]
  · rw [Int64.lt_iff_toInt_lt, i64_8] at b
    have e : v = 8000 := Int64.toInt_inj.mp (by rw [i64_8]; omega)
    rw [e]
    decide
theorem rem32 (x y : Int32) : (x - (x / y) * y).toInt = x.toInt.tmod y.toInt := by
  have a := (x % y).toInt_lt
  have b := (x % y).le_toInt
  rw [Int32.toInt_mod] at a b
  rw [Int32.toInt_sub, Int32.toInt_mul, Int32.toInt_div, Int.bmod_mul_bmod, Int.sub_bmod_bmod, Int.mul_comm, ← Int.tmod_def]
  exact Jvm.Kit.bmod32 b a
theorem and1 (v : Int32) : (v &&& 1).toInt = v.toInt % 2 := Jvm.Kit.i32_mask v 1 (k := 1) (by decide) (by decide)
theorem rem_0 {v : Int32} (h : v - v / 2 * 2 = 0) : v &&& 1 = 0 := by
  have h2 := rem32 v 2
  rw [h, show (2 : Int32).toInt = 2 from by decide, Int32.toInt_zero] at h2
  have h3 := Int.dvd_of_tmod_eq_zero h2.symm
  apply Int32.toInt_inj.mp
  rw [and1, Int32.toInt_zero]
  omega
theorem rem_1 {v : Int32} (h : ¬ v - v / 2 * 2 = 0) : v &&& 1 = 1 := by
  apply Int32.toInt_inj.mp
  rw [and1, show (1 : Int32).toInt = 1 from by decide]
  by_cases q : v.toInt % 2 = 0
  · refine absurd ?_ h
    apply Int32.toInt_inj.mp
    rw [rem32, Int32.toInt_zero, show (2 : Int32).toInt = 2 from by decide]
    exact Int.tmod_eq_zero_of_dvd (by omega)
  · omega
theorem and1_01 (v : Int32) : v &&& 1 = 0 ∨ v &&& 1 = 1 := by
  by_cases h : v - v / 2 * 2 = 0
  · exact Or.inl (rem_0 h)
  · exact Or.inr (rem_1 h)
theorem i32_back (x : Int32) : x.toInt64.toInt32 = x := by
  apply Int32.toInt_inj.mp
  rw [Int64.toInt_toInt32, Int32.toInt_toInt64]
  exact Jvm.Kit.bmod32 (Int32.le_toInt x) (Int32.toInt_lt x)
theorem ix60 {j i : Nat} : (60 : Int32) * nI j + nI i = nI (60 * j + i) := by
  rw [show (60 : Int32) = nI 60 from rfl, pk_mul, nI_add]
theorem ix256 {j i : Nat} : (256 : Int32) * nI j + nI i = nI (256 * j + i) := by
  rw [show (256 : Int32) = nI 256 from rfl, pk_mul, nI_add]
theorem ix256r {j a i : Nat} : (256 : Int32) * nI j + 16 * nI a + nI i = nI (256 * j + (16 * a + i)) := by
  rw [show (256 : Int32) = nI 256 from rfl, show (16 : Int32) = nI 16 from rfl, pk_mul, pk_mul, nI_add, nI_add, Nat.add_assoc]
theorem le3 {w : Int32} (h : w ≤ 3) : ¬ 4 ≤ w := by
  intro q
  rw [Int32.le_iff_toInt_le] at h q
  have a : (3 : Int32).toInt = 3 := by decide
  have b : (4 : Int32).toInt = 4 := by decide
  omega
theorem gt3 {w : Int32} (h : ¬ w ≤ 3) : 4 ≤ w := by
  rw [Int32.le_iff_toInt_le] at h ⊢
  have a : (3 : Int32).toInt = 3 := by decide
  have b : (4 : Int32).toInt = 4 := by decide
  omega
end
section
/-! the reference, its methods but for playing -/
theorem pstM {E : wE} {am : Nat → Nat} {x : Int32 × SS} {r : Int32} {S' : SS} (e : x = (r, S')) : r = x.1 ∧ wM E am S' = wM E am x.2 := by rw [e]; exact ⟨rfl, rfl⟩
theorem wM_sSizeI {E : wE} {am : Nat → Nat} {S : SS} {x : Int32} {i : Nat} (e : x.toNatClampNeg = i) (v : Int32) : (wM E am S).set 2 (am 2, .inl (E.2 0, 5, .inl (upd (S.2.2 1) x.toNatClampNeg v))) = wM E am (sV S 1 i v) := by rw [e]; rfl
theorem wM_sOnI {E : wE} {am : Nat → Nat} {S : SS} {x : Int32} {i : Nat} (e : x.toNatClampNeg = i) (v : Int32) : (wM E am S).set 3 (am 3, .inl (E.2 1, 5, .inl (upd (S.2.2 0) x.toNatClampNeg v))) = wM E am (sV S 0 i v) := by rw [e]; rfl
theorem wM_sRowsI {E : wE} {am : Nat → Nat} {S : SS} {x : Int32} {i : Nat} (e : x.toNatClampNeg = i) (v : Int32) : (wM E am S).set 5 (am 5, .inl (E.2 0, 5, .inl (upd (S.2.2 3) x.toNatClampNeg v))) = wM E am (sV S 3 i v) := by rw [e]; rfl
theorem wM_sColsI {E : wE} {am : Nat → Nat} {S : SS} {x : Int32} {i : Nat} (e : x.toNatClampNeg = i) (v : Int32) : (wM E am S).set 6 (am 6, .inl (E.2 0, 5, .inl (upd (S.2.2 4) x.toNatClampNeg v))) = wM E am (sV S 4 i v) := by rw [e]; rfl
theorem wM_sRuledI {E : wE} {am : Nat → Nat} {S : SS} {x : Int32} {i : Nat} (e : x.toNatClampNeg = i) (v : Int32) : (wM E am S).set 7 (am 7, .inl (E.2 1, 5, .inl (upd (S.2.2 2) x.toNatClampNeg v))) = wM E am (sV S 2 i v) := by rw [e]; rfl
theorem wM_sOffsI {E : wE} {am : Nat → Nat} {S : SS} {x : Int32} {i : Nat} (e : x.toNatClampNeg = i) (v : Int32) : (wM E am S).set 8 (am 8, .inl (E.2 0, 5, .inl (upd (S.2.2 5) x.toNatClampNeg v))) = wM E am (sV S 5 i v) := by rw [e]; rfl
theorem wM_sOutsI {E : wE} {am : Nat → Nat} {S : SS} {x : Int32} {i : Nat} (e : x.toNatClampNeg = i) (v : Int32) : (wM E am S).set 9 (am 9, .inl (E.2 0, 5, .inl (upd (S.2.2 6) x.toNatClampNeg v))) = wM E am (sV S 6 i v) := by rw [e]; rfl
theorem Inv.hd0 {S : SS} (h : Inv S) : ¬ S.2.2 7 0 < 0 := by
  obtain ⟨q, hq, e⟩ := h.2.1
  rw [e]
  exact nI_pos (by omega)
set_option maxHeartbeats 4000000 in
set_option maxRecDepth 100000 in
theorem mX3_isLane (l : Launch) (E : wE) (ws : va_W) (x : Int32) : MCi l E yX3_isLane wsX3_isLane { frames := 0, cells := 0, slots := 0, locals := 0 } [.int x] (ws) (fun r w => r = bI (isl x) ∧ w = ws) := by
  refine wEnterI (cc := cX3_isLane) (nL := 1) (ret := (some .boolean)) (own := RX3) (by decide) rfl rfl (Nat.le_of_ble_eq_true rfl) ?_
  intro p e s m below meth c A ls K hl hw
  have hl : lv_has ls 1 [(0, .int x)] := hl
  obtain ⟨hx, hb, -, hml, hown, hts, -, -, -⟩ := id K
  refine lv_iload_n hx hb dX3_isLane_0 rfl (lv_at hl 0 rfl) ?_
  refine lv_if_lt (tgt := 13) hx hb dX3_isLane_1 (by decide) (fun c_1 => ?_) (fun c_1 => ?_)
  · refine lv_iconst (v := 0) hx hb dX3_isLane_13 (by decide) ?_
    exact wRetZ K hw dX3_isLane_14 rfl ⟨bI_0 (fun q => q.1 c_1), rfl⟩
  · refine lv_iload_n hx hb dX3_isLane_4 rfl (lv_at hl 0 rfl) ?_
    refine lv_iconst (v := 5) hx hb dX3_isLane_5 (by decide) ?_
    refine lv_icmp_ge (tgt := 13) hx hb dX3_isLane_6 (by decide) (fun c_6 => ?_) (fun c_6 => ?_)
    · refine lv_iconst (v := 0) hx hb dX3_isLane_13 (by decide) ?_
      exact wRetZ K hw dX3_isLane_14 rfl ⟨bI_0 (fun q => q.2 c_6), rfl⟩
    · refine lv_iconst (v := 1) hx hb dX3_isLane_9 (by decide) ?_
      refine lv_goto (tgt := 14) hx hb dX3_isLane_10 (by decide) ?_
      exact wRetZ K hw dX3_isLane_14 rfl ⟨bI_1 ⟨c_1, c_6⟩, rfl⟩
set_option maxHeartbeats 4000000 in
set_option maxRecDepth 100000 in
theorem mX3_off (l : Launch) (E : wE) (am : Nat → Nat) (S : SS) (j : Nat) (hj : j < 5) : MCi l E yX3_off wsX3_off { frames := 0, cells := 0, slots := 0, locals := 0 } [.ref (am 0), .int (nI j)] (wM E am S) (fun r w => r = (xOff S j).1 ∧ w = wM E am (xOff S j).2) := by
  refine wEnterI (cc := cX3_off) (nL := 2) (ret := (some .int)) (own := RX3) (by decide) rfl rfl (Nat.le_of_ble_eq_true rfl) ?_
  intro p e s m below meth c A ls K hl hw
  have hl : lv_has ls 2 [(0, .ref (am 0)), (1, .int (nI j))] := hl
  obtain ⟨hx, hb, -, hml, hown, hts, -, -, -⟩ := id K
  have hiX3 : ∀ w ∈ wsX30, w ∈ wsX3_off := by decide +kernel
  refine lv_aload_n hx hb dX3_off_0 rfl (lv_at hl 0 rfl) ?_
  refine wGet (v := .ref (am 8)) K hw hiX3 wM_o rfl 7 (by decide) (by decide +kernel) rfl dX3_off_1 ?_
  refine lv_iload_n hx hb dX3_off_4 rfl (lv_at hl 1 rfl) ?_
  refine lv_aload_n hx hb dX3_off_5 rfl (lv_at hl 0 rfl) ?_
  refine wGet (v := .ref (am 8)) K hw hiX3 wM_o rfl 7 (by decide) (by decide +kernel) rfl dX3_off_6 ?_
  refine lv_iload_n hx hb dX3_off_9 rfl (lv_at hl 1 rfl) ?_
  refine wIald (v := S.2.2 5 j) K hw wM_offs (in5 hj) (by rw [nI_clamp (by omega)]) dX3_off_10 ?_
  refine lv_iconst (v := 1) hx hb dX3_off_11 (by decide) ?_
  refine lv_iadd hx hb dX3_off_12 ?_
  refine wIast K hw wM_offs (in5 hj) dX3_off_13 (wM_sOffsI (nI_clamp (by omega)) _) (fun H locs hw => ?_)
  refine lv_ldc (v := (-1000005)) hx hb hown (hts (.constant RX3 38 (-1000005)) (by decide +kernel)) dX3_off_14 ?_
  exact wRetI K hw dX3_off_16 ⟨rfl, rfl⟩
set_option maxHeartbeats 4000000 in
set_option maxRecDepth 100000 in
theorem mX3_out (l : Launch) (E : wE) (am : Nat → Nat) (S : SS) (j : Nat) (hj : j < 5) : MCi l E yX3_out wsX3_out { frames := 0, cells := 0, slots := 0, locals := 0 } [.ref (am 0), .int (nI j)] (wM E am S) (fun r w => r = (xOut S j).1 ∧ w = wM E am (xOut S j).2) := by
  refine wEnterI (cc := cX3_out) (nL := 2) (ret := (some .int)) (own := RX3) (by decide) rfl rfl (Nat.le_of_ble_eq_true rfl) ?_
  intro p e s m below meth c A ls K hl hw
  have hl : lv_has ls 2 [(0, .ref (am 0)), (1, .int (nI j))] := hl
  obtain ⟨hx, hb, -, hml, hown, hts, -, -, -⟩ := id K
  have hiX3 : ∀ w ∈ wsX30, w ∈ wsX3_out := by decide +kernel
  refine lv_aload_n hx hb dX3_out_0 rfl (lv_at hl 0 rfl) ?_
  refine wGet (v := .ref (am 9)) K hw hiX3 wM_o rfl 8 (by decide) (by decide +kernel) rfl dX3_out_1 ?_
  refine lv_iload_n hx hb dX3_out_4 rfl (lv_at hl 1 rfl) ?_
  refine lv_aload_n hx hb dX3_out_5 rfl (lv_at hl 0 rfl) ?_
  refine wGet (v := .ref (am 9)) K hw hiX3 wM_o rfl 8 (by decide) (by decide +kernel) rfl dX3_out_6 ?_
  refine lv_iload_n hx hb dX3_out_9 rfl (lv_at hl 1 rfl) ?_
  refine wIald (v := S.2.2 6 j) K hw wM_outs (in5 hj) (by rw [nI_clamp (by omega)]) dX3_out_10 ?_
  refine lv_iconst (v := 1) hx hb dX3_out_11 (by decide) ?_
  refine lv_iadd hx hb dX3_out_12 ?_
  refine wIast K hw wM_outs (in5 hj) dX3_out_13 (wM_sOutsI (nI_clamp (by omega)) _) (fun H locs hw => ?_)
  refine lv_ldc (v := (-1000006)) hx hb hown (hts (.constant RX3 39 (-1000006)) (by decide +kernel)) dX3_out_14 ?_
  exact wRetI K hw dX3_out_16 ⟨rfl, rfl⟩
set_option maxHeartbeats 4000000 in
set_option maxRecDepth 100000 in
theorem mX3_stored (l : Launch) (E : wE) (ws : va_W) (k : Nat) (hk : k < 5) (v : Int64) : MCi l E yX3_stored wsX3_stored { frames := 0, cells := 0, slots := 0, locals := 0 } [.int (nI k), .long v] (ws) (fun r w => r = sto k v ∧ w = ws) := by
  refine wEnterI (cc := cX3_stored) (nL := 5) (ret := (some .int)) (own := RX3) (by decide) rfl rfl (Nat.le_of_ble_eq_true rfl) ?_
  intro p e s m below meth c A ls K hl hw
  have hl : lv_has ls 5 [(0, .int (nI k)), (1, .long v)] := hl
  obtain ⟨hx, hb, -, hml, hown, hts, -, -, -⟩ := id K
  rcases (show k = 0 ∨ k = 1 ∨ k = 2 ∨ k = 3 ∨ k = 4 by omega) with rfl | rfl | rfl | rfl | rfl
  · refine lv_iload_n hx hb dX3_stored_0 rfl (lv_at hl 0 rfl) ?_
    refine lv_iconst (v := 2) hx hb dX3_stored_1 (by decide) ?_
    refine lv_icmp_ne (tgt := 36) hx hb dX3_stored_2 (by decide) (fun c_2 => ?_) (fun c_2 => ?_)
    · refine lv_lload_n hx hb dX3_stored_36 rfl (lv_at hl 1 rfl) ?_
      refine lv_ldc2 (v := 65535) hx hb hown (hts (.constantLong RX3 44 65535) (by decide +kernel)) dX3_stored_37 ?_
      refine lv_land hx hb dX3_stored_40 ?_
      refine lv_l2i (v := (v &&& 65535).toInt32) hx hb dX3_stored_41 rfl ?_
      obtain ⟨n, hn, en, em⟩ := low_of v
      rw [en]
      refine lv_istore_n (lv' := [(3, .int (nI n)), (0, .int (nI 0)), (1, .long v)]) hx hb dX3_stored_42 rfl hl (by decide) rfl (fun ls hl => ?_)
      refine lv_iload_n hx hb dX3_stored_43 rfl (lv_at hl 1 rfl) ?_
      refine lv_if_ne (tgt := 49) hx hb dX3_stored_44 (by decide) (fun c_44 => ?_) (fun c_44 => ?_)
      · exact absurd c_44 (by decide)
      · refine lv_iload_n hx hb dX3_stored_47 rfl (lv_at hl 0 rfl) ?_
        exact wRetI K hw dX3_stored_48 ⟨en.symm, rfl⟩
    · exact absurd c_2 (by decide)
  · refine lv_iload_n hx hb dX3_stored_0 rfl (lv_at hl 0 rfl) ?_
    refine lv_iconst (v := 2) hx hb dX3_stored_1 (by decide) ?_
    refine lv_icmp_ne (tgt := 36) hx hb dX3_stored_2 (by decide) (fun c_2 => ?_) (fun c_2 => ?_)
    · refine lv_lload_n hx hb dX3_stored_36 rfl (lv_at hl 1 rfl) ?_
      refine lv_ldc2 (v := 65535) hx hb hown (hts (.constantLong RX3 44 65535) (by decide +kernel)) dX3_stored_37 ?_
      refine lv_land hx hb dX3_stored_40 ?_
      refine lv_l2i (v := (v &&& 65535).toInt32) hx hb dX3_stored_41 rfl ?_
      obtain ⟨n, hn, en, em⟩ := low_of v
      rw [en]
      refine lv_istore_n (lv' := [(3, .int (nI n)), (0, .int (nI 1)), (1, .long v)]) hx hb dX3_stored_42 rfl hl (by decide) rfl (fun ls hl => ?_)
      refine lv_iload_n hx hb dX3_stored_43 rfl (lv_at hl 1 rfl) ?_
      refine lv_if_ne (tgt := 49) hx hb dX3_stored_44 (by decide) (fun c_44 => ?_) (fun c_44 => ?_)
      · refine lv_iload_n hx hb dX3_stored_49 rfl (lv_at hl 1 rfl) ?_
        refine lv_iconst (v := 1) hx hb dX3_stored_50 (by decide) ?_
        refine lv_icmp_ne (tgt := 69) hx hb dX3_stored_51 (by decide) (fun c_51 => ?_) (fun c_51 => ?_)
        · exact absurd c_51 (by decide)
        · refine lv_iload_n hx hb dX3_stored_54 rfl (lv_at hl 0 rfl) ?_
          refine lv_ldc (v := 32768) hx hb hown (hts (.constant RX3 46 32768) (by decide +kernel)) dX3_stored_55 ?_
          refine lv_icmp_lt (tgt := 67) hx hb dX3_stored_57 (by decide) (fun c_57 => ?_) (fun c_57 => ?_)
          · refine lv_iload_n hx hb dX3_stored_67 rfl (lv_at hl 0 rfl) ?_
            exact wRetI K hw dX3_stored_68 ⟨sto1_lo hn em c_57, rfl⟩
          · refine lv_iload_n hx hb dX3_stored_60 rfl (lv_at hl 0 rfl) ?_
            refine lv_ldc (v := 65536) hx hb hown (hts (.constant RX3 47 65536) (by decide +kernel)) dX3_stored_61 ?_
            refine lv_isub hx hb dX3_stored_63 ?_
            refine lv_goto (tgt := 68) hx hb dX3_stored_64 (by decide) ?_
            exact wRetI K hw dX3_stored_68 ⟨sto1_hi hn em c_57, rfl⟩
      · exact absurd c_44 (by decide)
    · exact absurd c_2 (by decide)
  · refine lv_iload_n hx hb dX3_stored_0 rfl (lv_at hl 0 rfl) ?_
    refine lv_iconst (v := 2) hx hb dX3_stored_1 (by decide) ?_
    refine lv_icmp_ne (tgt := 36) hx hb dX3_stored_2 (by decide) (fun c_2 => ?_) (fun c_2 => ?_)
    · exact absurd c_2 (by decide)
    · refine lv_lload_n hx hb dX3_stored_5 rfl (lv_at hl 1 rfl) ?_
      refine lv_ldc2 (v := (-8000)) hx hb hown (hts (.constantLong RX3 40 (-8000)) (by decide +kernel)) dX3_stored_6 ?_
      refine W.lcmp hx hb dX3_stored_9 ?_
      refine lv_if_ge (tgt := 19) hx hb dX3_stored_10 (by decide) (fun c_10 => ?_) (fun c_10 => ?_)
      · refine lv_lload_n hx hb dX3_stored_19 rfl (lv_at hl 1 rfl) ?_
        refine lv_ldc2 (v := 8000) hx hb hown (hts (.constantLong RX3 42 8000) (by decide +kernel)) dX3_stored_20 ?_
        refine W.lcmp hx hb dX3_stored_23 ?_
        refine lv_if_le (tgt := 33) hx hb dX3_stored_24 (by decide) (fun c_24 => ?_) (fun c_24 => ?_)
        · refine lv_lload_n hx hb dX3_stored_33 rfl (lv_at hl 1 rfl) ?_
          refine lv_l2i (v := v.toInt32) hx hb dX3_stored_34 rfl ?_
          exact wRetI K hw dX3_stored_35 ⟨cl8_mid ((lg_cmp_ge v (-8000)).mp c_10) ((lg_cmp_le v 8000).mp c_24), rfl⟩
        · refine lv_sipush (v := 8000) hx hb dX3_stored_27 (by decide) ?_
          refine lv_goto (tgt := 35) hx hb dX3_stored_30 (by decide) ?_
          exact wRetI K hw dX3_stored_35 ⟨cl8_hi (fun q => c_24 ((lg_cmp_le v 8000).mpr q)), rfl⟩
      · refine lv_sipush (v := (-8000)) hx hb dX3_stored_13 (by decide) ?_
        refine lv_goto (tgt := 35) hx hb dX3_stored_16 (by decide) ?_
        exact wRetI K hw dX3_stored_35 ⟨cl8_lo (fun q => c_10 ((lg_cmp_ge v (-8000)).mpr q)), rfl⟩
  · refine lv_iload_n hx hb dX3_stored_0 rfl (lv_at hl 0 rfl) ?_
    refine lv_iconst (v := 2) hx hb dX3_stored_1 (by decide) ?_
    refine lv_icmp_ne (tgt := 36) hx hb dX3_stored_2 (by decide) (fun c_2 => ?_) (fun c_2 => ?_)
    · refine lv_lload_n hx hb dX3_stored_36 rfl (lv_at hl 1 rfl) ?_
      refine lv_ldc2 (v := 65535) hx hb hown (hts (.constantLong RX3 44 65535) (by decide +kernel)) dX3_stored_37 ?_
      refine lv_land hx hb dX3_stored_40 ?_
      refine lv_l2i (v := (v &&& 65535).toInt32) hx hb dX3_stored_41 rfl ?_
      obtain ⟨n, hn, en, em⟩ := low_of v
      rw [en]
      refine lv_istore_n (lv' := [(3, .int (nI n)), (0, .int (nI 3)), (1, .long v)]) hx hb dX3_stored_42 rfl hl (by decide) rfl (fun ls hl => ?_)
      refine lv_iload_n hx hb dX3_stored_43 rfl (lv_at hl 1 rfl) ?_
      refine lv_if_ne (tgt := 49) hx hb dX3_stored_44 (by decide) (fun c_44 => ?_) (fun c_44 => ?_)
      · refine lv_iload_n hx hb dX3_stored_49 rfl (lv_at hl 1 rfl) ?_
        refine lv_iconst (v := 1) hx hb dX3_stored_50 (by decide) ?_
        refine lv_icmp_ne (tgt := 69) hx hb dX3_stored_51 (by decide) (fun c_51 => ?_) (fun c_51 => ?_)
        · refine lv_iload_n hx hb dX3_stored_69 rfl (lv_at hl 1 rfl) ?_
          refine lv_iconst (v := 3) hx hb dX3_stored_70 (by decide) ?_
          refine lv_icmp_ne (tgt := 78) hx hb dX3_stored_71 (by decide) (fun c_71 => ?_) (fun c_71 => ?_)
          · exact absurd c_71 (by decide)
          · refine lv_iload_n hx hb dX3_stored_74 rfl (lv_at hl 0 rfl) ?_
            refine lv_iconst (v := 2) hx hb dX3_stored_75 (by decide) ?_
            refine lv_irem hx hb dX3_stored_76 (by decide) ?_
            exact wRetI K hw dX3_stored_77 ⟨sto3_eq hn em, rfl⟩
        · exact absurd c_51 (by decide)
      · exact absurd c_44 (by decide)
    · exact absurd c_2 (by decide)
  · refine lv_iload_n hx hb dX3_stored_0 rfl (lv_at hl 0 rfl) ?_
    refine lv_iconst (v := 2) hx hb dX3_stored_1 (by decide) ?_
    refine lv_icmp_ne (tgt := 36) hx hb dX3_stored_2 (by decide) (fun c_2 => ?_) (fun c_2 => ?_)
    · refine lv_lload_n hx hb dX3_stored_36 rfl (lv_at hl 1 rfl) ?_
      refine lv_ldc2 (v := 65535) hx hb hown (hts (.constantLong RX3 44 65535) (by decide +kernel)) dX3_stored_37 ?_
      refine lv_land hx hb dX3_stored_40 ?_
      refine lv_l2i (v := (v &&& 65535).toInt32) hx hb dX3_stored_41 rfl ?_
      obtain ⟨n, hn, en, em⟩ := low_of v
      rw [en]
      refine lv_istore_n (lv' := [(3, .int (nI n)), (0, .int (nI 4)), (1, .long v)]) hx hb dX3_stored_42 rfl hl (by decide) rfl (fun ls hl => ?_)
      refine lv_iload_n hx hb dX3_stored_43 rfl (lv_at hl 1 rfl) ?_
      refine lv_if_ne (tgt := 49) hx hb dX3_stored_44 (by decide) (fun c_44 => ?_) (fun c_44 => ?_)
      · refine lv_iload_n hx hb dX3_stored_49 rfl (lv_at hl 1 rfl) ?_
        refine lv_iconst (v := 1) hx hb dX3_stored_50 (by decide) ?_
        refine lv_icmp_ne (tgt := 69) hx hb dX3_stored_51 (by decide) (fun c_51 => ?_) (fun c_51 => ?_)
        · refine lv_iload_n hx hb dX3_stored_69 rfl (lv_at hl 1 rfl) ?_
          refine lv_iconst (v := 3) hx hb dX3_stored_70 (by decide) ?_
          refine lv_icmp_ne (tgt := 78) hx hb dX3_stored_71 (by decide) (fun c_71 => ?_) (fun c_71 => ?_)
          · refine lv_iload_n hx hb dX3_stored_78 rfl (lv_at hl 0 rfl) ?_
            refine lv_sipush (v := 256) hx hb dX3_stored_79 (by decide) ?_
            refine lv_irem hx hb dX3_stored_82 (by decide) ?_
            rw [rem256 hn]
            refine lv_istore (lv' := [(4, .int (nI (n % 256))), (3, .int (nI n)), (0, .int (nI 4)), (1, .long v)]) hx hb dX3_stored_83 hl (by decide) rfl (fun ls hl => ?_)
            refine lv_iload hx hb dX3_stored_85 (lv_at hl 0 rfl) ?_
            refine lv_sipush (v := 128) hx hb dX3_stored_87 (by decide) ?_
            refine lv_icmp_lt (tgt := 102) hx hb dX3_stored_90 (by decide) (fun c_90 => ?_) (fun c_90 => ?_)
            · refine lv_iload hx hb dX3_stored_102 (lv_at hl 0 rfl) ?_
              exact wRetI K hw dX3_stored_104 ⟨sto4_lo hn em c_90, rfl⟩
            · refine lv_iload hx hb dX3_stored_93 (lv_at hl 0 rfl) ?_
              refine lv_sipush (v := 256) hx hb dX3_stored_95 (by decide) ?_
              refine lv_isub hx hb dX3_stored_98 ?_
              refine lv_goto (tgt := 104) hx hb dX3_stored_99 (by decide) ?_
              exact wRetI K hw dX3_stored_104 ⟨sto4_hi hn em c_90, rfl⟩
          · exact absurd c_71 (by decide)
        · exact absurd c_51 (by decide)
      · exact absurd c_44 (by decide)
    · exact absurd c_2 (by decide)
set_option maxHeartbeats 4000000 in
set_option maxRecDepth 100000 in
theorem mX3_pressed (l : Launch) (E : wE) (ws : va_W) (j : Nat) (hj : j < 4) (x v : Int32) (hc : x = 0 ∨ x = 1) : MCi l E yX3_pressed wsX3_pressed { frames := 0, cells := 0, slots := 0, locals := 0 } [.int (nI j), .int x, .int v] (ws) (fun r w => r = ped (nI j) x (v &&& 1) ∧ w = ws) := by
  refine wEnterI (cc := cX3_pressed) (nL := 5) (ret := (some .int)) (own := RX3) (by decide) rfl rfl (Nat.le_of_ble_eq_true rfl) ?_
  intro p e s m below meth c A ls K hl hw
  have hl : lv_has ls 5 [(0, .int (nI j)), (1, .int x), (2, .int v)] := hl
  obtain ⟨hx, hb, -, hml, hown, hts, -, -, -⟩ := id K
  refine lv_iload_n hx hb dX3_pressed_0 rfl (lv_at hl 1 rfl) ?_
  refine lv_iconst (v := 1) hx hb dX3_pressed_1 (by decide) ?_
  refine lv_icmp_ne (tgt := 9) hx hb dX3_pressed_2 (by decide) (fun c_2 => ?_) (fun c_2 => ?_)
  · have hcv : x = 0 := hc.resolve_right c_2
    refine lv_iconst (v := 0) hx hb dX3_pressed_9 (by decide) ?_
    refine lv_istore_n (lv' := [(3, .int 0), (0, .int (nI j)), (1, .int x), (2, .int v)]) hx hb dX3_pressed_10 rfl hl (by decide) rfl (fun ls hl => ?_)
    refine lv_iload_n hx hb dX3_pressed_11 rfl (lv_at hl 3 rfl) ?_
    refine lv_iconst (v := 2) hx hb dX3_pressed_12 (by decide) ?_
    refine lv_irem hx hb dX3_pressed_13 (by decide) ?_
    refine lv_if_eq (tgt := 21) hx hb dX3_pressed_14 (by decide) (fun c_14 => ?_) (fun c_14 => ?_)
    · have hov := rem_0 c_14
      refine lv_iconst (v := 0) hx hb dX3_pressed_21 (by decide) ?_
      refine lv_istore (lv' := [(4, .int 0), (3, .int 0), (0, .int (nI j)), (1, .int x), (2, .int v)]) hx hb dX3_pressed_22 hl (by decide) rfl (fun ls hl => ?_)
      rcases (show j = 0 ∨ j = 1 ∨ j = 2 ∨ j = 3 by omega) with rfl | rfl | rfl | rfl
      · refine lv_iload_n hx hb dX3_pressed_24 rfl (lv_at hl 2 rfl) ?_
        refine lv_if_ne (tgt := 43) hx hb dX3_pressed_25 (by decide) (fun c_25 => ?_) (fun c_25 => ?_)
        · exact absurd c_25 (by decide)
        · refine lv_iload_n hx hb dX3_pressed_28 rfl (lv_at hl 1 rfl) ?_
          refine lv_if_ne (tgt := 37) hx hb dX3_pressed_29 (by decide) (fun c_29 => ?_) (fun c_29 => ?_)
          · exact absurd c_29 (by decide)
          · refine lv_iload hx hb dX3_pressed_32 (lv_at hl 0 rfl) ?_
            refine lv_if_eq (tgt := 41) hx hb dX3_pressed_34 (by decide) (fun c_34 => ?_) (fun c_34 => ?_)
            · refine lv_iconst (v := 0) hx hb dX3_pressed_41 (by decide) ?_
              exact wRetI K hw dX3_pressed_42 ⟨by rw [hcv, hov]; decide, rfl⟩
            · exact absurd c_34 (by decide)
      · refine lv_iload_n hx hb dX3_pressed_24 rfl (lv_at hl 2 rfl) ?_
        refine lv_if_ne (tgt := 43) hx hb dX3_pressed_25 (by decide) (fun c_25 => ?_) (fun c_25 => ?_)
        · refine lv_iload_n hx hb dX3_pressed_43 rfl (lv_at hl 2 rfl) ?_
          refine lv_iconst (v := 1) hx hb dX3_pressed_44 (by decide) ?_
          refine lv_icmp_ne (tgt := 63) hx hb dX3_pressed_45 (by decide) (fun c_45 => ?_) (fun c_45 => ?_)
          · exact absurd c_45 (by decide)
          · refine lv_iload_n hx hb dX3_pressed_48 rfl (lv_at hl 1 rfl) ?_
            refine lv_if_eq (tgt := 61) hx hb dX3_pressed_49 (by decide) (fun c_49 => ?_) (fun c_49 => ?_)
            · refine lv_iconst (v := 0) hx hb dX3_pressed_61 (by decide) ?_
              exact wRetI K hw dX3_pressed_62 ⟨by rw [hcv, hov]; decide, rfl⟩
            · exact absurd c_49 (by decide)
        · exact absurd c_25 (by decide)
      · refine lv_iload_n hx hb dX3_pressed_24 rfl (lv_at hl 2 rfl) ?_
        refine lv_if_ne (tgt := 43) hx hb dX3_pressed_25 (by decide) (fun c_25 => ?_) (fun c_25 => ?_)
        · refine lv_iload_n hx hb dX3_pressed_43 rfl (lv_at hl 2 rfl) ?_
          refine lv_iconst (v := 1) hx hb dX3_pressed_44 (by decide) ?_
          refine lv_icmp_ne (tgt := 63) hx hb dX3_pressed_45 (by decide) (fun c_45 => ?_) (fun c_45 => ?_)
          · refine lv_iload_n hx hb dX3_pressed_63 rfl (lv_at hl 2 rfl) ?_
            refine lv_iconst (v := 2) hx hb dX3_pressed_64 (by decide) ?_
            refine lv_icmp_ne (tgt := 80) hx hb dX3_pressed_65 (by decide) (fun c_65 => ?_) (fun c_65 => ?_)
            · exact absurd c_65 (by decide)
            · refine lv_iload_n hx hb dX3_pressed_68 rfl (lv_at hl 1 rfl) ?_
              refine lv_iload hx hb dX3_pressed_69 (lv_at hl 0 rfl) ?_
              refine lv_icmp_eq (tgt := 78) hx hb dX3_pressed_71 (by decide) (fun c_71 => ?_) (fun c_71 => ?_)
              · refine lv_iconst (v := 0) hx hb dX3_pressed_78 (by decide) ?_
                exact wRetI K hw dX3_pressed_79 ⟨by rw [hcv, hov]; decide, rfl⟩
              · exact absurd c_71 (by decide)
          · exact absurd c_45 (by decide)
        · exact absurd c_25 (by decide)
      · refine lv_iload_n hx hb dX3_pressed_24 rfl (lv_at hl 2 rfl) ?_
        refine lv_if_ne (tgt := 43) hx hb dX3_pressed_25 (by decide) (fun c_25 => ?_) (fun c_25 => ?_)
        · refine lv_iload_n hx hb dX3_pressed_43 rfl (lv_at hl 2 rfl) ?_
          refine lv_iconst (v := 1) hx hb dX3_pressed_44 (by decide) ?_
          refine lv_icmp_ne (tgt := 63) hx hb dX3_pressed_45 (by decide) (fun c_45 => ?_) (fun c_45 => ?_)
          · refine lv_iload_n hx hb dX3_pressed_63 rfl (lv_at hl 2 rfl) ?_
            refine lv_iconst (v := 2) hx hb dX3_pressed_64 (by decide) ?_
            refine lv_icmp_ne (tgt := 80) hx hb dX3_pressed_65 (by decide) (fun c_65 => ?_) (fun c_65 => ?_)
            · refine lv_iload_n hx hb dX3_pressed_80 rfl (lv_at hl 1 rfl) ?_
              refine lv_if_eq (tgt := 88) hx hb dX3_pressed_81 (by decide) (fun c_81 => ?_) (fun c_81 => ?_)
              · refine lv_iconst (v := 1) hx hb dX3_pressed_88 (by decide) ?_
                exact wRetI K hw dX3_pressed_89 ⟨by rw [hcv, hov]; decide, rfl⟩
              · exact absurd c_81 (by decide)
            · exact absurd c_65 (by decide)
          · exact absurd c_45 (by decide)
        · exact absurd c_25 (by decide)
    · have hov := rem_1 c_14
      refine lv_iconst (v := 1) hx hb dX3_pressed_17 (by decide) ?_
      refine lv_goto (tgt := 22) hx hb dX3_pressed_18 (by decide) ?_
      refine lv_istore (lv' := [(4, .int 1), (3, .int 0), (0, .int (nI j)), (1, .int x), (2, .int v)]) hx hb dX3_pressed_22 hl (by decide) rfl (fun ls hl => ?_)
      rcases (show j = 0 ∨ j = 1 ∨ j = 2 ∨ j = 3 by omega) with rfl | rfl | rfl | rfl
      · refine lv_iload_n hx hb dX3_pressed_24 rfl (lv_at hl 2 rfl) ?_
        refine lv_if_ne (tgt := 43) hx hb dX3_pressed_25 (by decide) (fun c_25 => ?_) (fun c_25 => ?_)
        · exact absurd c_25 (by decide)
        · refine lv_iload_n hx hb dX3_pressed_28 rfl (lv_at hl 1 rfl) ?_
          refine lv_if_ne (tgt := 37) hx hb dX3_pressed_29 (by decide) (fun c_29 => ?_) (fun c_29 => ?_)
          · exact absurd c_29 (by decide)
          · refine lv_iload hx hb dX3_pressed_32 (lv_at hl 0 rfl) ?_
            refine lv_if_eq (tgt := 41) hx hb dX3_pressed_34 (by decide) (fun c_34 => ?_) (fun c_34 => ?_)
            · exact absurd c_34 (by decide)
            · refine lv_iconst (v := 1) hx hb dX3_pressed_37 (by decide) ?_
              refine lv_goto (tgt := 42) hx hb dX3_pressed_38 (by decide) ?_
              exact wRetI K hw dX3_pressed_42 ⟨by rw [hcv, hov]; decide, rfl⟩
      · refine lv_iload_n hx hb dX3_pressed_24 rfl (lv_at hl 2 rfl) ?_
        refine lv_if_ne (tgt := 43) hx hb dX3_pressed_25 (by decide) (fun c_25 => ?_) (fun c_25 => ?_)
        · refine lv_iload_n hx hb dX3_pressed_43 rfl (lv_at hl 2 rfl) ?_
          refine lv_iconst (v := 1) hx hb dX3_pressed_44 (by decide) ?_
          refine lv_icmp_ne (tgt := 63) hx hb dX3_pressed_45 (by decide) (fun c_45 => ?_) (fun c_45 => ?_)
          · exact absurd c_45 (by decide)
          · refine lv_iload_n hx hb dX3_pressed_48 rfl (lv_at hl 1 rfl) ?_
            refine lv_if_eq (tgt := 61) hx hb dX3_pressed_49 (by decide) (fun c_49 => ?_) (fun c_49 => ?_)
            · refine lv_iconst (v := 0) hx hb dX3_pressed_61 (by decide) ?_
              exact wRetI K hw dX3_pressed_62 ⟨by rw [hcv, hov]; decide, rfl⟩
            · exact absurd c_49 (by decide)
        · exact absurd c_25 (by decide)
      · refine lv_iload_n hx hb dX3_pressed_24 rfl (lv_at hl 2 rfl) ?_
        refine lv_if_ne (tgt := 43) hx hb dX3_pressed_25 (by decide) (fun c_25 => ?_) (fun c_25 => ?_)
        · refine lv_iload_n hx hb dX3_pressed_43 rfl (lv_at hl 2 rfl) ?_
          refine lv_iconst (v := 1) hx hb dX3_pressed_44 (by decide) ?_
          refine lv_icmp_ne (tgt := 63) hx hb dX3_pressed_45 (by decide) (fun c_45 => ?_) (fun c_45 => ?_)
          · refine lv_iload_n hx hb dX3_pressed_63 rfl (lv_at hl 2 rfl) ?_
            refine lv_iconst (v := 2) hx hb dX3_pressed_64 (by decide) ?_
            refine lv_icmp_ne (tgt := 80) hx hb dX3_pressed_65 (by decide) (fun c_65 => ?_) (fun c_65 => ?_)
            · exact absurd c_65 (by decide)
            · refine lv_iload_n hx hb dX3_pressed_68 rfl (lv_at hl 1 rfl) ?_
              refine lv_iload hx hb dX3_pressed_69 (lv_at hl 0 rfl) ?_
              refine lv_icmp_eq (tgt := 78) hx hb dX3_pressed_71 (by decide) (fun c_71 => ?_) (fun c_71 => ?_)
              · exact absurd c_71 (by decide)
              · refine lv_iconst (v := 1) hx hb dX3_pressed_74 (by decide) ?_
                refine lv_goto (tgt := 79) hx hb dX3_pressed_75 (by decide) ?_
                exact wRetI K hw dX3_pressed_79 ⟨by rw [hcv, hov]; decide, rfl⟩
          · exact absurd c_45 (by decide)
        · exact absurd c_25 (by decide)
      · refine lv_iload_n hx hb dX3_pressed_24 rfl (lv_at hl 2 rfl) ?_
        refine lv_if_ne (tgt := 43) hx hb dX3_pressed_25 (by decide) (fun c_25 => ?_) (fun c_25 => ?_)
        · refine lv_iload_n hx hb dX3_pressed_43 rfl (lv_at hl 2 rfl) ?_
          refine lv_iconst (v := 1) hx hb dX3_pressed_44 (by decide) ?_
          refine lv_icmp_ne (tgt := 63) hx hb dX3_pressed_45 (by decide) (fun c_45 => ?_) (fun c_45 => ?_)
          · refine lv_iload_n hx hb dX3_pressed_63 rfl (lv_at hl 2 rfl) ?_
            refine lv_iconst (v := 2) hx hb dX3_pressed_64 (by decide) ?_
            refine lv_icmp_ne (tgt := 80) hx hb dX3_pressed_65 (by decide) (fun c_65 => ?_) (fun c_65 => ?_)
            · refine lv_iload_n hx hb dX3_pressed_80 rfl (lv_at hl 1 rfl) ?_
              refine lv_if_eq (tgt := 88) hx hb dX3_pressed_81 (by decide) (fun c_81 => ?_) (fun c_81 => ?_)
              · refine lv_iconst (v := 1) hx hb dX3_pressed_88 (by decide) ?_
                exact wRetI K hw dX3_pressed_89 ⟨by rw [hcv, hov]; decide, rfl⟩
              · exact absurd c_81 (by decide)
            · exact absurd c_65 (by decide)
          · exact absurd c_45 (by decide)
        · exact absurd c_25 (by decide)
  · have hcv : x = 1 := c_2
    refine lv_iconst (v := 1) hx hb dX3_pressed_5 (by decide) ?_
    refine lv_goto (tgt := 10) hx hb dX3_pressed_6 (by decide) ?_
    refine lv_istore_n (lv' := [(3, .int 1), (0, .int (nI j)), (1, .int x), (2, .int v)]) hx hb dX3_pressed_10 rfl hl (by decide) rfl (fun ls hl => ?_)
    refine lv_iload_n hx hb dX3_pressed_11 rfl (lv_at hl 3 rfl) ?_
    refine lv_iconst (v := 2) hx hb dX3_pressed_12 (by decide) ?_
    refine lv_irem hx hb dX3_pressed_13 (by decide) ?_
    refine lv_if_eq (tgt := 21) hx hb dX3_pressed_14 (by decide) (fun c_14 => ?_) (fun c_14 => ?_)
    · have hov := rem_0 c_14
      refine lv_iconst (v := 0) hx hb dX3_pressed_21 (by decide) ?_
      refine lv_istore (lv' := [(4, .int 0), (3, .int 1), (0, .int (nI j)), (1, .int x), (2, .int v)]) hx hb dX3_pressed_22 hl (by decide) rfl (fun ls hl => ?_)
      rcases (show j = 0 ∨ j = 1 ∨ j = 2 ∨ j = 3 by omega) with rfl | rfl | rfl | rfl
      · refine lv_iload_n hx hb dX3_pressed_24 rfl (lv_at hl 2 rfl) ?_
        refine lv_if_ne (tgt := 43) hx hb dX3_pressed_25 (by decide) (fun c_25 => ?_) (fun c_25 => ?_)
        · exact absurd c_25 (by decide)
        · refine lv_iload_n hx hb dX3_pressed_28 rfl (lv_at hl 1 rfl) ?_
          refine lv_if_ne (tgt := 37) hx hb dX3_pressed_29 (by decide) (fun c_29 => ?_) (fun c_29 => ?_)
          · refine lv_iconst (v := 1) hx hb dX3_pressed_37 (by decide) ?_
            refine lv_goto (tgt := 42) hx hb dX3_pressed_38 (by decide) ?_
            exact wRetI K hw dX3_pressed_42 ⟨by rw [hcv, hov]; decide, rfl⟩
          · exact absurd c_29 (by decide)
      · refine lv_iload_n hx hb dX3_pressed_24 rfl (lv_at hl 2 rfl) ?_
        refine lv_if_ne (tgt := 43) hx hb dX3_pressed_25 (by decide) (fun c_25 => ?_) (fun c_25 => ?_)
        · refine lv_iload_n hx hb dX3_pressed_43 rfl (lv_at hl 2 rfl) ?_
          refine lv_iconst (v := 1) hx hb dX3_pressed_44 (by decide) ?_
          refine lv_icmp_ne (tgt := 63) hx hb dX3_pressed_45 (by decide) (fun c_45 => ?_) (fun c_45 => ?_)
          · exact absurd c_45 (by decide)
          · refine lv_iload_n hx hb dX3_pressed_48 rfl (lv_at hl 1 rfl) ?_
            refine lv_if_eq (tgt := 61) hx hb dX3_pressed_49 (by decide) (fun c_49 => ?_) (fun c_49 => ?_)
            · exact absurd c_49 (by decide)
            · refine lv_iload hx hb dX3_pressed_52 (lv_at hl 0 rfl) ?_
              refine lv_if_eq (tgt := 61) hx hb dX3_pressed_54 (by decide) (fun c_54 => ?_) (fun c_54 => ?_)
              · refine lv_iconst (v := 0) hx hb dX3_pressed_61 (by decide) ?_
                exact wRetI K hw dX3_pressed_62 ⟨by rw [hcv, hov]; decide, rfl⟩
              · exact absurd c_54 (by decide)
        · exact absurd c_25 (by decide)
      · refine lv_iload_n hx hb dX3_pressed_24 rfl (lv_at hl 2 rfl) ?_
        refine lv_if_ne (tgt := 43) hx hb dX3_pressed_25 (by decide) (fun c_25 => ?_) (fun c_25 => ?_)
        · refine lv_iload_n hx hb dX3_pressed_43 rfl (lv_at hl 2 rfl) ?_
          refine lv_iconst (v := 1) hx hb dX3_pressed_44 (by decide) ?_
          refine lv_icmp_ne (tgt := 63) hx hb dX3_pressed_45 (by decide) (fun c_45 => ?_) (fun c_45 => ?_)
          · refine lv_iload_n hx hb dX3_pressed_63 rfl (lv_at hl 2 rfl) ?_
            refine lv_iconst (v := 2) hx hb dX3_pressed_64 (by decide) ?_
            refine lv_icmp_ne (tgt := 80) hx hb dX3_pressed_65 (by decide) (fun c_65 => ?_) (fun c_65 => ?_)
            · exact absurd c_65 (by decide)
            · refine lv_iload_n hx hb dX3_pressed_68 rfl (lv_at hl 1 rfl) ?_
              refine lv_iload hx hb dX3_pressed_69 (lv_at hl 0 rfl) ?_
              refine lv_icmp_eq (tgt := 78) hx hb dX3_pressed_71 (by decide) (fun c_71 => ?_) (fun c_71 => ?_)
              · exact absurd c_71 (by decide)
              · refine lv_iconst (v := 1) hx hb dX3_pressed_74 (by decide) ?_
                refine lv_goto (tgt := 79) hx hb dX3_pressed_75 (by decide) ?_
                exact wRetI K hw dX3_pressed_79 ⟨by rw [hcv, hov]; decide, rfl⟩
          · exact absurd c_45 (by decide)
        · exact absurd c_25 (by decide)
      · refine lv_iload_n hx hb dX3_pressed_24 rfl (lv_at hl 2 rfl) ?_
        refine lv_if_ne (tgt := 43) hx hb dX3_pressed_25 (by decide) (fun c_25 => ?_) (fun c_25 => ?_)
        · refine lv_iload_n hx hb dX3_pressed_43 rfl (lv_at hl 2 rfl) ?_
          refine lv_iconst (v := 1) hx hb dX3_pressed_44 (by decide) ?_
          refine lv_icmp_ne (tgt := 63) hx hb dX3_pressed_45 (by decide) (fun c_45 => ?_) (fun c_45 => ?_)
          · refine lv_iload_n hx hb dX3_pressed_63 rfl (lv_at hl 2 rfl) ?_
            refine lv_iconst (v := 2) hx hb dX3_pressed_64 (by decide) ?_
            refine lv_icmp_ne (tgt := 80) hx hb dX3_pressed_65 (by decide) (fun c_65 => ?_) (fun c_65 => ?_)
            · refine lv_iload_n hx hb dX3_pressed_80 rfl (lv_at hl 1 rfl) ?_
              refine lv_if_eq (tgt := 88) hx hb dX3_pressed_81 (by decide) (fun c_81 => ?_) (fun c_81 => ?_)
              · exact absurd c_81 (by decide)
              · refine lv_iconst (v := 0) hx hb dX3_pressed_84 (by decide) ?_
                refine lv_goto (tgt := 89) hx hb dX3_pressed_85 (by decide) ?_
                exact wRetI K hw dX3_pressed_89 ⟨by rw [hcv, hov]; decide, rfl⟩
            · exact absurd c_65 (by decide)
          · exact absurd c_45 (by decide)
        · exact absurd c_25 (by decide)
    · have hov := rem_1 c_14
      refine lv_iconst (v := 1) hx hb dX3_pressed_17 (by decide) ?_
      refine lv_goto (tgt := 22) hx hb dX3_pressed_18 (by decide) ?_
      refine lv_istore (lv' := [(4, .int 1), (3, .int 1), (0, .int (nI j)), (1, .int x), (2, .int v)]) hx hb dX3_pressed_22 hl (by decide) rfl (fun ls hl => ?_)
      rcases (show j = 0 ∨ j = 1 ∨ j = 2 ∨ j = 3 by omega) with rfl | rfl | rfl | rfl
      · refine lv_iload_n hx hb dX3_pressed_24 rfl (lv_at hl 2 rfl) ?_
        refine lv_if_ne (tgt := 43) hx hb dX3_pressed_25 (by decide) (fun c_25 => ?_) (fun c_25 => ?_)
        · exact absurd c_25 (by decide)
        · refine lv_iload_n hx hb dX3_pressed_28 rfl (lv_at hl 1 rfl) ?_
          refine lv_if_ne (tgt := 37) hx hb dX3_pressed_29 (by decide) (fun c_29 => ?_) (fun c_29 => ?_)
          · refine lv_iconst (v := 1) hx hb dX3_pressed_37 (by decide) ?_
            refine lv_goto (tgt := 42) hx hb dX3_pressed_38 (by decide) ?_
            exact wRetI K hw dX3_pressed_42 ⟨by rw [hcv, hov]; decide, rfl⟩
          · exact absurd c_29 (by decide)
      · refine lv_iload_n hx hb dX3_pressed_24 rfl (lv_at hl 2 rfl) ?_
        refine lv_if_ne (tgt := 43) hx hb dX3_pressed_25 (by decide) (fun c_25 => ?_) (fun c_25 => ?_)
        · refine lv_iload_n hx hb dX3_pressed_43 rfl (lv_at hl 2 rfl) ?_
          refine lv_iconst (v := 1) hx hb dX3_pressed_44 (by decide) ?_
          refine lv_icmp_ne (tgt := 63) hx hb dX3_pressed_45 (by decide) (fun c_45 => ?_) (fun c_45 => ?_)
          · exact absurd c_45 (by decide)
          · refine lv_iload_n hx hb dX3_pressed_48 rfl (lv_at hl 1 rfl) ?_
            refine lv_if_eq (tgt := 61) hx hb dX3_pressed_49 (by decide) (fun c_49 => ?_) (fun c_49 => ?_)
            · exact absurd c_49 (by decide)
            · refine lv_iload hx hb dX3_pressed_52 (lv_at hl 0 rfl) ?_
              refine lv_if_eq (tgt := 61) hx hb dX3_pressed_54 (by decide) (fun c_54 => ?_) (fun c_54 => ?_)
              · exact absurd c_54 (by decide)
              · refine lv_iconst (v := 1) hx hb dX3_pressed_57 (by decide) ?_
                refine lv_goto (tgt := 62) hx hb dX3_pressed_58 (by decide) ?_
                exact wRetI K hw dX3_pressed_62 ⟨by rw [hcv, hov]; decide, rfl⟩
        · exact absurd c_25 (by decide)
      · refine lv_iload_n hx hb dX3_pressed_24 rfl (lv_at hl 2 rfl) ?_
        refine lv_if_ne (tgt := 43) hx hb dX3_pressed_25 (by decide) (fun c_25 => ?_) (fun c_25 => ?_)
        · refine lv_iload_n hx hb dX3_pressed_43 rfl (lv_at hl 2 rfl) ?_
          refine lv_iconst (v := 1) hx hb dX3_pressed_44 (by decide) ?_
          refine lv_icmp_ne (tgt := 63) hx hb dX3_pressed_45 (by decide) (fun c_45 => ?_) (fun c_45 => ?_)
          · refine lv_iload_n hx hb dX3_pressed_63 rfl (lv_at hl 2 rfl) ?_
            refine lv_iconst (v := 2) hx hb dX3_pressed_64 (by decide) ?_
            refine lv_icmp_ne (tgt := 80) hx hb dX3_pressed_65 (by decide) (fun c_65 => ?_) (fun c_65 => ?_)
            · exact absurd c_65 (by decide)
            · refine lv_iload_n hx hb dX3_pressed_68 rfl (lv_at hl 1 rfl) ?_
              refine lv_iload hx hb dX3_pressed_69 (lv_at hl 0 rfl) ?_
              refine lv_icmp_eq (tgt := 78) hx hb dX3_pressed_71 (by decide) (fun c_71 => ?_) (fun c_71 => ?_)
              · refine lv_iconst (v := 0) hx hb dX3_pressed_78 (by decide) ?_
                exact wRetI K hw dX3_pressed_79 ⟨by rw [hcv, hov]; decide, rfl⟩
              · exact absurd c_71 (by decide)
          · exact absurd c_45 (by decide)
        · exact absurd c_25 (by decide)
      · refine lv_iload_n hx hb dX3_pressed_24 rfl (lv_at hl 2 rfl) ?_
        refine lv_if_ne (tgt := 43) hx hb dX3_pressed_25 (by decide) (fun c_25 => ?_) (fun c_25 => ?_)
        · refine lv_iload_n hx hb dX3_pressed_43 rfl (lv_at hl 2 rfl) ?_
          refine lv_iconst (v := 1) hx hb dX3_pressed_44 (by decide) ?_
          refine lv_icmp_ne (tgt := 63) hx hb dX3_pressed_45 (by decide) (fun c_45 => ?_) (fun c_45 => ?_)
          · refine lv_iload_n hx hb dX3_pressed_63 rfl (lv_at hl 2 rfl) ?_
            refine lv_iconst (v := 2) hx hb dX3_pressed_64 (by decide) ?_
            refine lv_icmp_ne (tgt := 80) hx hb dX3_pressed_65 (by decide) (fun c_65 => ?_) (fun c_65 => ?_)
            · refine lv_iload_n hx hb dX3_pressed_80 rfl (lv_at hl 1 rfl) ?_
              refine lv_if_eq (tgt := 88) hx hb dX3_pressed_81 (by decide) (fun c_81 => ?_) (fun c_81 => ?_)
              · exact absurd c_81 (by decide)
              · refine lv_iconst (v := 0) hx hb dX3_pressed_84 (by decide) ?_
                refine lv_goto (tgt := 89) hx hb dX3_pressed_85 (by decide) ?_
                exact wRetI K hw dX3_pressed_89 ⟨by rw [hcv, hov]; decide, rfl⟩
            · exact absurd c_65 (by decide)
          · exact absurd c_45 (by decide)
        · exact absurd c_25 (by decide)
set_option maxHeartbeats 4000000 in
set_option maxRecDepth 100000 in
theorem mX3_mount (l : Launch) (E : wE) (am : Nat → Nat) (S : SS) (hI : Inv S) (lane : Int32) (n : Int32) : MCi l E yX3_mount wsX3_mount { frames := 1, cells := 0, slots := 0, locals := 20 } [.ref (am 0), .int lane, .int n] (wM E am S) (fun r w => r = (sp_mount S lane n).1 ∧ w = wM E am (sp_mount S lane n).2) := by
  refine wEnterI (cc := cX3_mount) (nL := 4) (ret := (some .int)) (own := RX3) (by decide) rfl rfl (Nat.le_of_ble_eq_true rfl) ?_
  intro p e s m below meth c A ls K hl hw
  have hl : lv_has ls 4 [(0, .ref (am 0)), (1, .int lane), (2, .int n)] := hl
  obtain ⟨hx, hb, -, hml, hown, hts, -, -, -⟩ := id K
  have hiX3 : ∀ w ∈ wsX30, w ∈ wsX3_mount := by decide +kernel
  refine lv_iload_n hx hb dX3_mount_0 rfl (lv_at hl 1 rfl) ?_
  refine wCallS (As := [.int lane]) (rest := []) K hw (mX3_isLane l E (wM E am S) lane) (va_cwS 1 hts gX3_mount_X3_isLane rfl rfl rfl (by decide +kernel) ⟨Nat.le_of_ble_eq_true rfl, Nat.le_of_ble_eq_true rfl⟩)  rfl hl.1 rfl (Nat.le_of_ble_eq_true rfl) dX3_mount_1 ⟨Nat.zero_le _, Nat.zero_le _⟩ (fun r_1 w' H locs hr hw => ?_)
  obtain ⟨hr1, rfl⟩ := hr
  refine lv_if_ne (tgt := 10) hx hb dX3_mount_4 (by decide) (fun c_4 => ?_) (fun c_4 => ?_)
  · have hl0 := bI_t hr1 c_4
    obtain ⟨j, hj, rfl⟩ := isl_of hl0
    refine lv_iload_n hx hb dX3_mount_10 rfl (lv_at hl 2 rfl) ?_
    refine lv_bipush (v := 60) hx hb dX3_mount_11 (by decide) ?_
    refine lv_icmp_le (tgt := 19) hx hb dX3_mount_13 (by decide) (fun c_13 => ?_) (fun c_13 => ?_)
    · refine lv_iload_n hx hb dX3_mount_19 rfl (lv_at hl 2 rfl) ?_
      refine lv_if_ge (tgt := 26) hx hb dX3_mount_20 (by decide) (fun c_20 => ?_) (fun c_20 => ?_)
      · obtain ⟨q, hq, rfl⟩ := rng60 c_20 c_13
        have loop : ∀ (d i : Nat), i + d = q → ∀ (H : Heap) (locs : List Loc) (ls : Array Slot), lv_has ls 4 [(3, .int (nI i)), (0, .ref (am 0)), (1, .int (nI j)), (2, .int (nI q))] → wW E A s (wM E am (zr S.1 j i, S.2.1, up2 (up2 S.2.2 0 j 1) 1 j (nI q))) H locs → W p l e ({ frames := 1, cells := 0, slots := 0, locals := 20 } : Room) s m ([.ref (am 0), .int (nI j), .int (nI q)] : List Value).toArray below meth c H locs 0 0 (MQ below (va_Qi (fun r w => r = (sp_mount S (nI j) (nI q)).1 ∧ w = wM E am (sp_mount S (nI j) (nI q)).2) (wAft E A) A) ([.ref (am 0), .int (nI j), .int (nI q)] : List Value).toArray s 0 0 A) (F0 m 42 ls []) := by
          intro d
          induction d with
          | zero =>
            intro i hid H locs ls hl hw
            obtain rfl : i = q := by omega
            refine lv_iload_n hx hb dX3_mount_42 rfl (lv_at hl 0 rfl) ?_
            refine lv_iload_n hx hb dX3_mount_43 rfl (lv_at hl 3 rfl) ?_
            refine lv_icmp_ge (tgt := 65) hx hb dX3_mount_44 (by decide) (fun c_44 => ?_) (fun c_44 => ?_)
            · refine lv_iload_n hx hb dX3_mount_65 rfl (lv_at hl 3 rfl) ?_
              exact wRetI K hw dX3_mount_66 (pstM (by rw [sp_mount, if_pos hl0, if_pos c_13, if_pos c_20, kN_nI (by omega), kN_nI (by omega)]))
            · exact absurd (nI_le (Nat.le_refl i) (by omega)) c_44
          | succ d ih =>
            intro i hid H locs ls hl hw
            refine lv_iload_n hx hb dX3_mount_42 rfl (lv_at hl 0 rfl) ?_
            refine lv_iload_n hx hb dX3_mount_43 rfl (lv_at hl 3 rfl) ?_
            refine lv_icmp_ge (tgt := 65) hx hb dX3_mount_44 (by decide) (fun c_44 => ?_) (fun c_44 => ?_)
            · exact absurd c_44 (nI_ge (by omega) (by omega))
            · refine lv_aload_n hx hb dX3_mount_47 rfl (lv_at hl 1 rfl) ?_
              refine wGet (v := .ref (am 1)) K hw hiX3 wM_o rfl 0 (by decide) (by decide +kernel) rfl dX3_mount_48 ?_
              refine lv_bipush (v := 60) hx hb dX3_mount_51 (by decide) ?_
              refine lv_iload_n hx hb dX3_mount_53 rfl (lv_at hl 2 rfl) ?_
              refine lv_imul hx hb dX3_mount_54 ?_
              refine lv_iload_n hx hb dX3_mount_55 rfl (lv_at hl 0 rfl) ?_
              refine lv_iadd hx hb dX3_mount_56 ?_
              rw [show ((60 * (nI j)) + (nI i) : Int32) = nI (60 * j + i) from ix60]
              refine lv_iconst (v := 0) hx hb dX3_mount_57 (by decide) ?_
              refine wIast K hw wM_cells (vp_in_nI (by omega) (by omega)) dX3_mount_58 (wM_sCellI (by omega) (nI_clamp (by omega)) _) (fun H locs hw => ?_)
              refine lv_iinc (v := nI (i + 1)) (lv' := [(3, .int (nI (i + 1))), (0, .ref (am 0)), (1, .int (nI j)), (2, .int (nI q))]) hx hb dX3_mount_59 hl (k := 0) rfl (nI_1 i) (by decide) rfl (fun ls hl => ?_)
              refine lv_goto (tgt := 42) hx hb dX3_mount_62 (by decide) ?_
              exact ih (i + 1) (by omega) H locs ls hl (hw.to (by rw [sC, zr_s]))
        refine lv_aload_n hx hb dX3_mount_26 rfl (lv_at hl 0 rfl) ?_
        refine wGet (v := .ref (am 3)) K hw hiX3 wM_o rfl 2 (by decide) (by decide +kernel) rfl dX3_mount_27 ?_
        refine lv_iload_n hx hb dX3_mount_30 rfl (lv_at hl 1 rfl) ?_
        refine lv_iconst (v := 1) hx hb dX3_mount_31 (by decide) ?_
        refine wZast K hw wM_on (in5 hj) dX3_mount_32 (by decide +kernel) (wM_sOnI (nI_clamp (by omega)) _) (fun H locs hw => ?_)
        refine lv_aload_n hx hb dX3_mount_33 rfl (lv_at hl 0 rfl) ?_
        refine wGet (v := .ref (am 2)) K hw hiX3 wM_o rfl 1 (by decide) (by decide +kernel) rfl dX3_mount_34 ?_
        refine lv_iload_n hx hb dX3_mount_37 rfl (lv_at hl 1 rfl) ?_
        refine lv_iload_n hx hb dX3_mount_38 rfl (lv_at hl 2 rfl) ?_
        refine wIast K hw wM_sizes (in5 hj) dX3_mount_39 (wM_sSizeI (nI_clamp (by omega)) _) (fun H locs hw => ?_)
        refine lv_iconst (v := 0) hx hb dX3_mount_40 (by decide) ?_
        refine lv_istore_n (lv' := [(3, .int 0), (0, .ref (am 0)), (1, .int (nI j)), (2, .int (nI q))]) hx hb dX3_mount_41 rfl hl (by decide) rfl (fun ls hl => ?_)
        exact loop q 0 (by omega) _ _ _ (by rw [nI_0]; exact hl) (hw.to (by rw [zr_0]; rfl))
      · refine lv_ldc (v := (-1000004)) hx hb hown (hts (.constant RX3 54 (-1000004)) (by decide +kernel)) dX3_mount_23 ?_
        exact wRetI K hw dX3_mount_25 (pstM (by rw [sp_mount, if_pos hl0, if_pos c_13, if_neg c_20]))
    · refine lv_ldc (v := (-1000003)) hx hb hown (hts (.constant RX3 53 (-1000003)) (by decide +kernel)) dX3_mount_16 ?_
      exact wRetI K hw dX3_mount_18 (pstM (by rw [sp_mount, if_pos hl0, if_neg c_13]))
  · have hl0 := bI_f hr1 c_4
    refine lv_ldc (v := (-1000001)) hx hb hown (hts (.constant RX3 52 (-1000001)) (by decide +kernel)) dX3_mount_7 ?_
    exact wRetI K hw dX3_mount_9 (pstM (by rw [sp_mount, if_neg hl0]))
set_option maxHeartbeats 4000000 in
set_option maxRecDepth 100000 in
theorem mX3_strip (l : Launch) (E : wE) (am : Nat → Nat) (S : SS) (hI : Inv S) (lane : Int32) : MCi l E yX3_strip wsX3_strip { frames := 1, cells := 0, slots := 0, locals := 21 } [.ref (am 0), .int lane] (wM E am S) (fun r w => r = (sp_strip S lane).1 ∧ w = wM E am (sp_strip S lane).2) := by
  refine wEnterI (cc := cX3_strip) (nL := 2) (ret := (some .int)) (own := RX3) (by decide) rfl rfl (Nat.le_of_ble_eq_true rfl) ?_
  intro p e s m below meth c A ls K hl hw
  have hl : lv_has ls 2 [(0, .ref (am 0)), (1, .int lane)] := hl
  obtain ⟨hx, hb, -, hml, hown, hts, -, -, -⟩ := id K
  have hiX3 : ∀ w ∈ wsX30, w ∈ wsX3_strip := by decide +kernel
  refine lv_iload_n hx hb dX3_strip_0 rfl (lv_at hl 1 rfl) ?_
  refine wCallS (As := [.int lane]) (rest := []) K hw (mX3_isLane l E (wM E am S) lane) (va_cwS 1 hts gX3_strip_X3_isLane rfl rfl rfl (by decide +kernel) ⟨Nat.le_of_ble_eq_true rfl, Nat.le_of_ble_eq_true rfl⟩)  rfl hl.1 rfl (Nat.le_of_ble_eq_true rfl) dX3_strip_1 ⟨Nat.zero_le _, Nat.zero_le _⟩ (fun r_1 w' H locs hr hw => ?_)
  obtain ⟨hr1, rfl⟩ := hr
  refine lv_if_ne (tgt := 10) hx hb dX3_strip_4 (by decide) (fun c_4 => ?_) (fun c_4 => ?_)
  · have hl0 := bI_t hr1 c_4
    obtain ⟨j, hj, rfl⟩ := isl_of hl0
    refine lv_aload_n hx hb dX3_strip_10 rfl (lv_at hl 0 rfl) ?_
    refine wGet (v := .ref (am 3)) K hw hiX3 wM_o rfl 2 (by decide) (by decide +kernel) rfl dX3_strip_11 ?_
    refine lv_iload_n hx hb dX3_strip_14 rfl (lv_at hl 1 rfl) ?_
    refine wZald (v := S.2.2 0 j) K hw wM_on (in5 hj) (by rw [nI_clamp (by omega)]) dX3_strip_15 ?_
    refine lv_if_ne (tgt := 25) hx hb dX3_strip_16 (by decide) (fun c_16 => ?_) (fun c_16 => ?_)
    · refine lv_aload_n hx hb dX3_strip_25 rfl (lv_at hl 0 rfl) ?_
      refine wGet (v := .ref (am 3)) K hw hiX3 wM_o rfl 2 (by decide) (by decide +kernel) rfl dX3_strip_26 ?_
      refine lv_iload_n hx hb dX3_strip_29 rfl (lv_at hl 1 rfl) ?_
      refine lv_iconst (v := 0) hx hb dX3_strip_30 (by decide) ?_
      refine wZast K hw wM_on (in5 hj) dX3_strip_31 (by decide +kernel) (wM_sOnI (nI_clamp (by omega)) _) (fun H locs hw => ?_)
      refine lv_aload_n hx hb dX3_strip_32 rfl (lv_at hl 0 rfl) ?_
      refine wGet (v := .ref (am 2)) K hw hiX3 wM_o rfl 1 (by decide) (by decide +kernel) rfl dX3_strip_33 ?_
      refine lv_iload_n hx hb dX3_strip_36 rfl (lv_at hl 1 rfl) ?_
      refine wIald (v := S.2.2 1 j) K hw wM_sizes (in5 hj) (by rw [nI_clamp (by omega)]; rfl) dX3_strip_37 ?_
      exact wRetI K hw dX3_strip_38 (pstM (by rw [sp_strip, if_pos hl0, kN_nI (by omega), if_neg c_16]))
    · refine lv_aload_n hx hb dX3_strip_19 rfl (lv_at hl 0 rfl) ?_
      refine lv_iload_n hx hb dX3_strip_20 rfl (lv_at hl 1 rfl) ?_
      refine wCallV (As := [.int (nI j)]) (rest := []) K hw (mX3_off l E am S j hj) (cwV 1 hts gX3_strip_X3_off rfl rfl rfl (by decide +kernel) ⟨Nat.le_of_ble_eq_true rfl, Nat.le_of_ble_eq_true rfl⟩) wM_o rfl rfl hl.1 rfl (Nat.le_of_ble_eq_true rfl) dX3_strip_21 ⟨Nat.zero_le _, Nat.zero_le _⟩ (fun r_21 w' H locs hr hw => ?_)
      obtain ⟨rfl, rfl⟩ := hr
      exact wRetI K hw dX3_strip_24 (pstM (by rw [sp_strip, if_pos hl0, kN_nI (by omega), if_pos c_16]))
  · have hl0 := bI_f hr1 c_4
    refine lv_ldc (v := (-1000001)) hx hb hown (hts (.constant RX3 52 (-1000001)) (by decide +kernel)) dX3_strip_7 ?_
    exact wRetI K hw dX3_strip_9 (pstM (by rw [sp_strip, if_neg hl0]))
set_option maxHeartbeats 4000000 in
set_option maxRecDepth 100000 in
theorem mX3_size (l : Launch) (E : wE) (am : Nat → Nat) (S : SS) (hI : Inv S) (lane : Int32) : MCi l E yX3_size wsX3_size { frames := 1, cells := 0, slots := 0, locals := 21 } [.ref (am 0), .int lane] (wM E am S) (fun r w => r = (sp_size S lane).1 ∧ w = wM E am (sp_size S lane).2) := by
  refine wEnterI (cc := cX3_size) (nL := 2) (ret := (some .int)) (own := RX3) (by decide) rfl rfl (Nat.le_of_ble_eq_true rfl) ?_
  intro p e s m below meth c A ls K hl hw
  have hl : lv_has ls 2 [(0, .ref (am 0)), (1, .int lane)] := hl
  obtain ⟨hx, hb, -, hml, hown, hts, -, -, -⟩ := id K
  have hiX3 : ∀ w ∈ wsX30, w ∈ wsX3_size := by decide +kernel
  refine lv_iload_n hx hb dX3_size_0 rfl (lv_at hl 1 rfl) ?_
  refine wCallS (As := [.int lane]) (rest := []) K hw (mX3_isLane l E (wM E am S) lane) (va_cwS 1 hts gX3_size_X3_isLane rfl rfl rfl (by decide +kernel) ⟨Nat.le_of_ble_eq_true rfl, Nat.le_of_ble_eq_true rfl⟩)  rfl hl.1 rfl (Nat.le_of_ble_eq_true rfl) dX3_size_1 ⟨Nat.zero_le _, Nat.zero_le _⟩ (fun r_1 w' H locs hr hw => ?_)
  obtain ⟨hr1, rfl⟩ := hr
  refine lv_if_ne (tgt := 10) hx hb dX3_size_4 (by decide) (fun c_4 => ?_) (fun c_4 => ?_)
  · have hl0 := bI_t hr1 c_4
    obtain ⟨j, hj, rfl⟩ := isl_of hl0
    refine lv_aload_n hx hb dX3_size_10 rfl (lv_at hl 0 rfl) ?_
    refine wGet (v := .ref (am 3)) K hw hiX3 wM_o rfl 2 (by decide) (by decide +kernel) rfl dX3_size_11 ?_
    refine lv_iload_n hx hb dX3_size_14 rfl (lv_at hl 1 rfl) ?_
    refine wZald (v := S.2.2 0 j) K hw wM_on (in5 hj) (by rw [nI_clamp (by omega)]) dX3_size_15 ?_
    refine lv_if_eq (tgt := 28) hx hb dX3_size_16 (by decide) (fun c_16 => ?_) (fun c_16 => ?_)
    · refine lv_aload_n hx hb dX3_size_28 rfl (lv_at hl 0 rfl) ?_
      refine lv_iload_n hx hb dX3_size_29 rfl (lv_at hl 1 rfl) ?_
      refine wCallV (As := [.int (nI j)]) (rest := []) K hw (mX3_off l E am S j hj) (cwV 1 hts gX3_size_X3_off rfl rfl rfl (by decide +kernel) ⟨Nat.le_of_ble_eq_true rfl, Nat.le_of_ble_eq_true rfl⟩) wM_o rfl rfl hl.1 rfl (Nat.le_of_ble_eq_true rfl) dX3_size_30 ⟨Nat.zero_le _, Nat.zero_le _⟩ (fun r_30 w' H locs hr hw => ?_)
      obtain ⟨rfl, rfl⟩ := hr
      exact wRetI K hw dX3_size_33 (pstM (by rw [sp_size, if_pos hl0, kN_nI (by omega), if_pos c_16]))
    · refine lv_aload_n hx hb dX3_size_19 rfl (lv_at hl 0 rfl) ?_
      refine wGet (v := .ref (am 2)) K hw hiX3 wM_o rfl 1 (by decide) (by decide +kernel) rfl dX3_size_20 ?_
      refine lv_iload_n hx hb dX3_size_23 rfl (lv_at hl 1 rfl) ?_
      refine wIald (v := S.2.2 1 j) K hw wM_sizes (in5 hj) (by rw [nI_clamp (by omega)]) dX3_size_24 ?_
      refine lv_goto (tgt := 33) hx hb dX3_size_25 (by decide) ?_
      exact wRetI K hw dX3_size_33 (pstM (by rw [sp_size, if_pos hl0, kN_nI (by omega), if_neg c_16]))
  · have hl0 := bI_f hr1 c_4
    refine lv_ldc (v := (-1000001)) hx hb hown (hts (.constant RX3 52 (-1000001)) (by decide +kernel)) dX3_size_7 ?_
    exact wRetI K hw dX3_size_9 (pstM (by rw [sp_size, if_neg hl0]))
set_option maxHeartbeats 4000000 in
set_option maxRecDepth 100000 in
theorem mX3_cell (l : Launch) (E : wE) (am : Nat → Nat) (S : SS) (hI : Inv S) (lane : Int32) (i : Int32) : MCi l E yX3_cell wsX3_cell { frames := 1, cells := 0, slots := 0, locals := 21 } [.ref (am 0), .int lane, .int i] (wM E am S) (fun r w => r = (sp_cell S lane i).1 ∧ w = wM E am (sp_cell S lane i).2) := by
  refine wEnterI (cc := cX3_cell) (nL := 3) (ret := (some .int)) (own := RX3) (by decide) rfl rfl (Nat.le_of_ble_eq_true rfl) ?_
  intro p e s m below meth c A ls K hl hw
  have hl : lv_has ls 3 [(0, .ref (am 0)), (1, .int lane), (2, .int i)] := hl
  obtain ⟨hx, hb, -, hml, hown, hts, -, -, -⟩ := id K
  have hiX3 : ∀ w ∈ wsX30, w ∈ wsX3_cell := by decide +kernel
  refine lv_iload_n hx hb dX3_cell_0 rfl (lv_at hl 1 rfl) ?_
  refine wCallS (As := [.int lane]) (rest := []) K hw (mX3_isLane l E (wM E am S) lane) (va_cwS 1 hts gX3_cell_X3_isLane rfl rfl rfl (by decide +kernel) ⟨Nat.le_of_ble_eq_true rfl, Nat.le_of_ble_eq_true rfl⟩)  rfl hl.1 rfl (Nat.le_of_ble_eq_true rfl) dX3_cell_1 ⟨Nat.zero_le _, Nat.zero_le _⟩ (fun r_1 w' H locs hr hw => ?_)
  obtain ⟨hr1, rfl⟩ := hr
  refine lv_if_ne (tgt := 10) hx hb dX3_cell_4 (by decide) (fun c_4 => ?_) (fun c_4 => ?_)
  · have hl0 := bI_t hr1 c_4
    obtain ⟨j, hj, rfl⟩ := isl_of hl0
    refine lv_aload_n hx hb dX3_cell_10 rfl (lv_at hl 0 rfl) ?_
    refine wGet (v := .ref (am 3)) K hw hiX3 wM_o rfl 2 (by decide) (by decide +kernel) rfl dX3_cell_11 ?_
    refine lv_iload_n hx hb dX3_cell_14 rfl (lv_at hl 1 rfl) ?_
    refine wZald (v := S.2.2 0 j) K hw wM_on (in5 hj) (by rw [nI_clamp (by omega)]) dX3_cell_15 ?_
    refine lv_if_ne (tgt := 25) hx hb dX3_cell_16 (by decide) (fun c_16 => ?_) (fun c_16 => ?_)
    · refine lv_iload_n hx hb dX3_cell_25 rfl (lv_at hl 2 rfl) ?_
      refine lv_if_lt (tgt := 39) hx hb dX3_cell_26 (by decide) (fun c_26 => ?_) (fun c_26 => ?_)
      · have g3 : ¬ hsC S j i := fun q => q.2.1 c_26
        refine lv_aload_n hx hb dX3_cell_39 rfl (lv_at hl 0 rfl) ?_
        refine lv_iload_n hx hb dX3_cell_40 rfl (lv_at hl 1 rfl) ?_
        refine wCallV (As := [.int (nI j)]) (rest := []) K hw (mX3_out l E am S j hj) (cwV 1 hts gX3_cell_X3_out rfl rfl rfl (by decide +kernel) ⟨Nat.le_of_ble_eq_true rfl, Nat.le_of_ble_eq_true rfl⟩) wM_o rfl rfl hl.1 rfl (Nat.le_of_ble_eq_true rfl) dX3_cell_41 ⟨Nat.zero_le _, Nat.zero_le _⟩ (fun r_41 w' H locs hr hw => ?_)
        obtain ⟨rfl, rfl⟩ := hr
        exact wRetI K hw dX3_cell_44 (pstM (by rw [sp_cell, if_pos hl0, kN_nI (by omega), if_neg c_16, if_neg g3]))
      · refine lv_iload_n hx hb dX3_cell_29 rfl (lv_at hl 2 rfl) ?_
        refine lv_aload_n hx hb dX3_cell_30 rfl (lv_at hl 0 rfl) ?_
        refine wGet (v := .ref (am 2)) K hw hiX3 wM_o rfl 1 (by decide) (by decide +kernel) rfl dX3_cell_31 ?_
        refine lv_iload_n hx hb dX3_cell_34 rfl (lv_at hl 1 rfl) ?_
        refine wIald (v := S.2.2 1 j) K hw wM_sizes (in5 hj) (by rw [nI_clamp (by omega)]) dX3_cell_35 ?_
        refine lv_icmp_lt (tgt := 45) hx hb dX3_cell_36 (by decide) (fun c_36 => ?_) (fun c_36 => ?_)
        · have g3 : hsC S j i := ⟨c_16, c_26, Int32.not_le.mpr c_36⟩
          obtain ⟨q, hq, rfl⟩ := hI.cell hj g3
          refine lv_aload_n hx hb dX3_cell_45 rfl (lv_at hl 0 rfl) ?_
          refine wGet (v := .ref (am 1)) K hw hiX3 wM_o rfl 0 (by decide) (by decide +kernel) rfl dX3_cell_46 ?_
          refine lv_bipush (v := 60) hx hb dX3_cell_49 (by decide) ?_
          refine lv_iload_n hx hb dX3_cell_51 rfl (lv_at hl 1 rfl) ?_
          refine lv_imul hx hb dX3_cell_52 ?_
          refine lv_iload_n hx hb dX3_cell_53 rfl (lv_at hl 2 rfl) ?_
          refine lv_iadd hx hb dX3_cell_54 ?_
          rw [show ((60 * (nI j)) + (nI q) : Int32) = nI (60 * j + q) from ix60]
          refine wIald (v := S.1 j q) K hw wM_cells (vp_in_nI (by omega) (by omega)) (by rw [nI_clamp (by omega)]; exact gC_at hq) dX3_cell_55 ?_
          exact wRetI K hw dX3_cell_56 (pstM (by rw [sp_cell, if_pos hl0, kN_nI (by omega), if_neg c_16, if_pos g3, kN_nI (by omega)]))
        · have g3 : ¬ hsC S j i := fun q => q.2.2 (Int32.not_lt.mp c_36)
          refine lv_aload_n hx hb dX3_cell_39 rfl (lv_at hl 0 rfl) ?_
          refine lv_iload_n hx hb dX3_cell_40 rfl (lv_at hl 1 rfl) ?_
          refine wCallV (As := [.int (nI j)]) (rest := []) K hw (mX3_out l E am S j hj) (cwV 1 hts gX3_cell_X3_out rfl rfl rfl (by decide +kernel) ⟨Nat.le_of_ble_eq_true rfl, Nat.le_of_ble_eq_true rfl⟩) wM_o rfl rfl hl.1 rfl (Nat.le_of_ble_eq_true rfl) dX3_cell_41 ⟨Nat.zero_le _, Nat.zero_le _⟩ (fun r_41 w' H locs hr hw => ?_)
          obtain ⟨rfl, rfl⟩ := hr
          exact wRetI K hw dX3_cell_44 (pstM (by rw [sp_cell, if_pos hl0, kN_nI (by omega), if_neg c_16, if_neg g3]))
    · refine lv_aload_n hx hb dX3_cell_19 rfl (lv_at hl 0 rfl) ?_
      refine lv_iload_n hx hb dX3_cell_20 rfl (lv_at hl 1 rfl) ?_
      refine wCallV (As := [.int (nI j)]) (rest := []) K hw (mX3_off l E am S j hj) (cwV 1 hts gX3_cell_X3_off rfl rfl rfl (by decide +kernel) ⟨Nat.le_of_ble_eq_true rfl, Nat.le_of_ble_eq_true rfl⟩) wM_o rfl rfl hl.1 rfl (Nat.le_of_ble_eq_true rfl) dX3_cell_21 ⟨Nat.zero_le _, Nat.zero_le _⟩ (fun r_21 w' H locs hr hw => ?_)
      obtain ⟨rfl, rfl⟩ := hr
      exact wRetI K hw dX3_cell_24 (pstM (by rw [sp_cell, if_pos hl0, kN_nI (by omega), if_pos c_16]))
  · have hl0 := bI_f hr1 c_4
    refine lv_ldc (v := (-1000001)) hx hb hown (hts (.constant RX3 52 (-1000001)) (by decide +kernel)) dX3_cell_7 ?_
    exact wRetI K hw dX3_cell_9 (pstM (by rw [sp_cell, if_neg hl0]))
set_option maxHeartbeats 4000000 in
set_option maxRecDepth 100000 in
theorem mX3_put (l : Launch) (E : wE) (am : Nat → Nat) (S : SS) (hI : Inv S) (lane : Int32) (i : Int32) (v : Int32) : MCi l E yX3_put wsX3_put { frames := 1, cells := 0, slots := 0, locals := 24 } [.ref (am 0), .int lane, .int i, .int v] (wM E am S) (fun r w => r = (sp_put S lane i v).1 ∧ w = wM E am (sp_put S lane i v).2) := by
  refine wEnterI (cc := cX3_put) (nL := 4) (ret := (some .int)) (own := RX3) (by decide) rfl rfl (Nat.le_of_ble_eq_true rfl) ?_
  intro p e s m below meth c A ls K hl hw
  have hl : lv_has ls 4 [(0, .ref (am 0)), (1, .int lane), (2, .int i), (3, .int v)] := hl
  obtain ⟨hx, hb, -, hml, hown, hts, -, -, -⟩ := id K
  have hiX3 : ∀ w ∈ wsX30, w ∈ wsX3_put := by decide +kernel
  refine lv_iload_n hx hb dX3_put_0 rfl (lv_at hl 1 rfl) ?_
  refine wCallS (As := [.int lane]) (rest := []) K hw (mX3_isLane l E (wM E am S) lane) (va_cwS 1 hts gX3_put_X3_isLane rfl rfl rfl (by decide +kernel) ⟨Nat.le_of_ble_eq_true rfl, Nat.le_of_ble_eq_true rfl⟩)  rfl hl.1 rfl (Nat.le_of_ble_eq_true rfl) dX3_put_1 ⟨Nat.zero_le _, Nat.zero_le _⟩ (fun r_1 w' H locs hr hw => ?_)
  obtain ⟨hr1, rfl⟩ := hr
  refine lv_if_ne (tgt := 10) hx hb dX3_put_4 (by decide) (fun c_4 => ?_) (fun c_4 => ?_)
  · have hl0 := bI_t hr1 c_4
    obtain ⟨j, hj, rfl⟩ := isl_of hl0
    refine lv_aload_n hx hb dX3_put_10 rfl (lv_at hl 0 rfl) ?_
    refine wGet (v := .ref (am 3)) K hw hiX3 wM_o rfl 2 (by decide) (by decide +kernel) rfl dX3_put_11 ?_
    refine lv_iload_n hx hb dX3_put_14 rfl (lv_at hl 1 rfl) ?_
    refine wZald (v := S.2.2 0 j) K hw wM_on (in5 hj) (by rw [nI_clamp (by omega)]) dX3_put_15 ?_
    refine lv_if_ne (tgt := 25) hx hb dX3_put_16 (by decide) (fun c_16 => ?_) (fun c_16 => ?_)
    · refine lv_iload_n hx hb dX3_put_25 rfl (lv_at hl 2 rfl) ?_
      refine lv_if_lt (tgt := 39) hx hb dX3_put_26 (by decide) (fun c_26 => ?_) (fun c_26 => ?_)
      · have g3 : ¬ hsC S j i := fun q => q.2.1 c_26
        refine lv_aload_n hx hb dX3_put_39 rfl (lv_at hl 0 rfl) ?_
        refine lv_iload_n hx hb dX3_put_40 rfl (lv_at hl 1 rfl) ?_
        refine wCallV (As := [.int (nI j)]) (rest := []) K hw (mX3_out l E am S j hj) (cwV 1 hts gX3_put_X3_out rfl rfl rfl (by decide +kernel) ⟨Nat.le_of_ble_eq_true rfl, Nat.le_of_ble_eq_true rfl⟩) wM_o rfl rfl hl.1 rfl (Nat.le_of_ble_eq_true rfl) dX3_put_41 ⟨Nat.zero_le _, Nat.zero_le _⟩ (fun r_41 w' H locs hr hw => ?_)
        obtain ⟨rfl, rfl⟩ := hr
        exact wRetI K hw dX3_put_44 (pstM (by rw [sp_put, if_pos hl0, kN_nI (by omega), if_neg c_16, if_neg g3]))
      · refine lv_iload_n hx hb dX3_put_29 rfl (lv_at hl 2 rfl) ?_
        refine lv_aload_n hx hb dX3_put_30 rfl (lv_at hl 0 rfl) ?_
        refine wGet (v := .ref (am 2)) K hw hiX3 wM_o rfl 1 (by decide) (by decide +kernel) rfl dX3_put_31 ?_
        refine lv_iload_n hx hb dX3_put_34 rfl (lv_at hl 1 rfl) ?_
        refine wIald (v := S.2.2 1 j) K hw wM_sizes (in5 hj) (by rw [nI_clamp (by omega)]) dX3_put_35 ?_
        refine lv_icmp_lt (tgt := 45) hx hb dX3_put_36 (by decide) (fun c_36 => ?_) (fun c_36 => ?_)
        · have g3 : hsC S j i := ⟨c_16, c_26, Int32.not_le.mpr c_36⟩
          obtain ⟨q, hq, rfl⟩ := hI.cell hj g3
          refine lv_aload_n hx hb dX3_put_45 rfl (lv_at hl 0 rfl) ?_
          refine wGet (v := .ref (am 1)) K hw hiX3 wM_o rfl 0 (by decide) (by decide +kernel) rfl dX3_put_46 ?_
          refine lv_bipush (v := 60) hx hb dX3_put_49 (by decide) ?_
          refine lv_iload_n hx hb dX3_put_51 rfl (lv_at hl 1 rfl) ?_
          refine lv_imul hx hb dX3_put_52 ?_
          refine lv_iload_n hx hb dX3_put_53 rfl (lv_at hl 2 rfl) ?_
          refine lv_iadd hx hb dX3_put_54 ?_
          rw [show ((60 * (nI j)) + (nI q) : Int32) = nI (60 * j + q) from ix60]
          refine lv_iload_n hx hb dX3_put_55 rfl (lv_at hl 1 rfl) ?_
          refine lv_iload_n hx hb dX3_put_56 rfl (lv_at hl 3 rfl) ?_
          refine lv_i2l (v := v.toInt64) hx hb dX3_put_57 rfl ?_
          refine wCallS (As := [.int (nI j), .long (v.toInt64)]) (rest := [.int (nI (60 * j + q)), .ref (am 1)]) K hw (mX3_stored l E (wM E am S) j hj v.toInt64) (va_cwS 2 hts gX3_put_X3_stored rfl rfl rfl (by decide +kernel) ⟨Nat.le_of_ble_eq_true rfl, Nat.le_of_ble_eq_true rfl⟩)  rfl hl.1 rfl (Nat.le_of_ble_eq_true rfl) dX3_put_58 ⟨Nat.zero_le _, Nat.zero_le _⟩ (fun r_58 w' H locs hr hw => ?_)
          obtain ⟨rfl, rfl⟩ := hr
          refine wIast K hw wM_cells (vp_in_nI (by omega) (by omega)) dX3_put_61 (wM_sCellI hq (nI_clamp (by omega)) _) (fun H locs hw => ?_)
          refine lv_aload_n hx hb dX3_put_62 rfl (lv_at hl 0 rfl) ?_
          refine wGet (v := .ref (am 1)) K hw hiX3 wM_o rfl 0 (by decide) (by decide +kernel) rfl dX3_put_63 ?_
          refine lv_bipush (v := 60) hx hb dX3_put_66 (by decide) ?_
          refine lv_iload_n hx hb dX3_put_68 rfl (lv_at hl 1 rfl) ?_
          refine lv_imul hx hb dX3_put_69 ?_
          refine lv_iload_n hx hb dX3_put_70 rfl (lv_at hl 2 rfl) ?_
          refine lv_iadd hx hb dX3_put_71 ?_
          rw [show ((60 * (nI j)) + (nI q) : Int32) = nI (60 * j + q) from ix60]
          refine wIald (v := sto j v.toInt64) K hw wM_cells (vp_in_nI (by omega) (by omega)) (by rw [nI_clamp (by omega), gC_at hq]; exact sC_self) dX3_put_72 ?_
          exact wRetI K hw dX3_put_73 (pstM (by rw [sp_put, if_pos hl0, kN_nI (by omega), if_neg c_16, if_pos g3, kN_nI (by omega)]))
        · have g3 : ¬ hsC S j i := fun q => q.2.2 (Int32.not_lt.mp c_36)
          refine lv_aload_n hx hb dX3_put_39 rfl (lv_at hl 0 rfl) ?_
          refine lv_iload_n hx hb dX3_put_40 rfl (lv_at hl 1 rfl) ?_
          refine wCallV (As := [.int (nI j)]) (rest := []) K hw (mX3_out l E am S j hj) (cwV 1 hts gX3_put_X3_out rfl rfl rfl (by decide +kernel) ⟨Nat.le_of_ble_eq_true rfl, Nat.le_of_ble_eq_true rfl⟩) wM_o rfl rfl hl.1 rfl (Nat.le_of_ble_eq_true rfl) dX3_put_41 ⟨Nat.zero_le _, Nat.zero_le _⟩ (fun r_41 w' H locs hr hw => ?_)
          obtain ⟨rfl, rfl⟩ := hr
          exact wRetI K hw dX3_put_44 (pstM (by rw [sp_put, if_pos hl0, kN_nI (by omega), if_neg c_16, if_neg g3]))
    · refine lv_aload_n hx hb dX3_put_19 rfl (lv_at hl 0 rfl) ?_
      refine lv_iload_n hx hb dX3_put_20 rfl (lv_at hl 1 rfl) ?_
      refine wCallV (As := [.int (nI j)]) (rest := []) K hw (mX3_off l E am S j hj) (cwV 1 hts gX3_put_X3_off rfl rfl rfl (by decide +kernel) ⟨Nat.le_of_ble_eq_true rfl, Nat.le_of_ble_eq_true rfl⟩) wM_o rfl rfl hl.1 rfl (Nat.le_of_ble_eq_true rfl) dX3_put_21 ⟨Nat.zero_le _, Nat.zero_le _⟩ (fun r_21 w' H locs hr hw => ?_)
      obtain ⟨rfl, rfl⟩ := hr
      exact wRetI K hw dX3_put_24 (pstM (by rw [sp_put, if_pos hl0, kN_nI (by omega), if_pos c_16]))
  · have hl0 := bI_f hr1 c_4
    refine lv_ldc (v := (-1000001)) hx hb hown (hts (.constant RX3 52 (-1000001)) (by decide +kernel)) dX3_put_7 ?_
    exact wRetI K hw dX3_put_9 (pstM (by rw [sp_put, if_neg hl0]))
set_option maxHeartbeats 4000000 in
set_option maxRecDepth 100000 in
theorem mX3_change (l : Launch) (E : wE) (am : Nat → Nat) (S : SS) (hI : Inv S) (lane : Int32) (way : Int32) (i : Int32) (v : Int32) : MCi l E yX3_change wsX3_change { frames := 1, cells := 0, slots := 0, locals := 24 } [.ref (am 0), .int lane, .int way, .int i, .int v] (wM E am S) (fun r w => r = (sp_change S lane way i v).1 ∧ w = wM E am (sp_change S lane way i v).2) := by
  refine wEnterI (cc := cX3_change) (nL := 10) (ret := (some .int)) (own := RX3) (by decide) rfl rfl (Nat.le_of_ble_eq_true rfl) ?_
  intro p e s m below meth c A ls K hl hw
  have hl : lv_has ls 10 [(0, .ref (am 0)), (1, .int lane), (2, .int way), (3, .int i), (4, .int v)] := hl
  obtain ⟨hx, hb, -, hml, hown, hts, -, -, -⟩ := id K
  have hiX3 : ∀ w ∈ wsX30, w ∈ wsX3_change := by decide +kernel
  refine lv_iload_n hx hb dX3_change_0 rfl (lv_at hl 1 rfl) ?_
  refine wCallS (As := [.int lane]) (rest := []) K hw (mX3_isLane l E (wM E am S) lane) (va_cwS 1 hts gX3_change_X3_isLane rfl rfl rfl (by decide +kernel) ⟨Nat.le_of_ble_eq_true rfl, Nat.le_of_ble_eq_true rfl⟩)  rfl hl.1 rfl (Nat.le_of_ble_eq_true rfl) dX3_change_1 ⟨Nat.zero_le _, Nat.zero_le _⟩ (fun r_1 w' H locs hr hw => ?_)
  obtain ⟨hr1, rfl⟩ := hr
  refine lv_if_ne (tgt := 10) hx hb dX3_change_4 (by decide) (fun c_4 => ?_) (fun c_4 => ?_)
  · have hl0 := bI_t hr1 c_4
    obtain ⟨j, hj, rfl⟩ := isl_of hl0
    refine lv_iload_n hx hb dX3_change_10 rfl (lv_at hl 2 rfl) ?_
    refine lv_if_lt (tgt := 19) hx hb dX3_change_11 (by decide) (fun c_11 => ?_) (fun c_11 => ?_)
    · have hg : ¬ (¬ way < 0 ∧ ¬ 4 ≤ way) := fun q => q.1 c_11
      refine lv_ldc (v := (-1000002)) hx hb hown (hts (.constant RX3 66 (-1000002)) (by decide +kernel)) dX3_change_19 ?_
      exact wRetI K hw dX3_change_21 (pstM (by rw [sp_change, if_pos hl0, if_neg hg]))
    · refine lv_iload_n hx hb dX3_change_14 rfl (lv_at hl 2 rfl) ?_
      refine lv_iconst (v := 3) hx hb dX3_change_15 (by decide) ?_
      refine lv_icmp_le (tgt := 22) hx hb dX3_change_16 (by decide) (fun c_16 => ?_) (fun c_16 => ?_)
      · have hg : ¬ way < 0 ∧ ¬ 4 ≤ way := ⟨c_11, le3 c_16⟩
        obtain ⟨y, hy, rfl⟩ := way4 hg
        refine lv_aload_n hx hb dX3_change_22 rfl (lv_at hl 0 rfl) ?_
        refine wGet (v := .ref (am 3)) K hw hiX3 wM_o rfl 2 (by decide) (by decide +kernel) rfl dX3_change_23 ?_
        refine lv_iload_n hx hb dX3_change_26 rfl (lv_at hl 1 rfl) ?_
        refine wZald (v := S.2.2 0 j) K hw wM_on (in5 hj) (by rw [nI_clamp (by omega)]) dX3_change_27 ?_
        refine lv_if_ne (tgt := 37) hx hb dX3_change_28 (by decide) (fun c_28 => ?_) (fun c_28 => ?_)
        · refine lv_iload_n hx hb dX3_change_37 rfl (lv_at hl 3 rfl) ?_
          refine lv_if_lt (tgt := 51) hx hb dX3_change_38 (by decide) (fun c_38 => ?_) (fun c_38 => ?_)
          · have g3 : ¬ hsC S j i := fun q => q.2.1 c_38
            refine lv_aload_n hx hb dX3_change_51 rfl (lv_at hl 0 rfl) ?_
            refine lv_iload_n hx hb dX3_change_52 rfl (lv_at hl 1 rfl) ?_
            refine wCallV (As := [.int (nI j)]) (rest := []) K hw (mX3_out l E am S j hj) (cwV 1 hts gX3_change_X3_out rfl rfl rfl (by decide +kernel) ⟨Nat.le_of_ble_eq_true rfl, Nat.le_of_ble_eq_true rfl⟩) wM_o rfl rfl hl.1 rfl (Nat.le_of_ble_eq_true rfl) dX3_change_53 ⟨Nat.zero_le _, Nat.zero_le _⟩ (fun r_53 w' H locs hr hw => ?_)
            obtain ⟨rfl, rfl⟩ := hr
            exact wRetI K hw dX3_change_56 (pstM (by rw [sp_change, if_pos hl0, if_pos hg, kN_nI (by omega), if_neg c_28, if_neg g3]))
          · refine lv_iload_n hx hb dX3_change_41 rfl (lv_at hl 3 rfl) ?_
            refine lv_aload_n hx hb dX3_change_42 rfl (lv_at hl 0 rfl) ?_
            refine wGet (v := .ref (am 2)) K hw hiX3 wM_o rfl 1 (by decide) (by decide +kernel) rfl dX3_change_43 ?_
            refine lv_iload_n hx hb dX3_change_46 rfl (lv_at hl 1 rfl) ?_
            refine wIald (v := S.2.2 1 j) K hw wM_sizes (in5 hj) (by rw [nI_clamp (by omega)]) dX3_change_47 ?_
            refine lv_icmp_lt (tgt := 57) hx hb dX3_change_48 (by decide) (fun c_48 => ?_) (fun c_48 => ?_)
            · have g3 : hsC S j i := ⟨c_28, c_38, Int32.not_le.mpr c_48⟩
              obtain ⟨q, hq, rfl⟩ := hI.cell hj g3
              refine lv_bipush (v := 60) hx hb dX3_change_57 (by decide) ?_
              refine lv_iload_n hx hb dX3_change_59 rfl (lv_at hl 1 rfl) ?_
              refine lv_imul hx hb dX3_change_60 ?_
              refine lv_iload_n hx hb dX3_change_61 rfl (lv_at hl 3 rfl) ?_
              refine lv_iadd hx hb dX3_change_62 ?_
              rw [show ((60 * (nI j)) + (nI q) : Int32) = nI (60 * j + q) from ix60]
              refine lv_istore (lv' := [(5, .int (nI (60 * j + q))), (0, .ref (am 0)), (1, .int (nI j)), (2, .int (nI y)), (3, .int (nI q)), (4, .int v)]) hx hb dX3_change_63 hl (by decide) rfl (fun ls hl => ?_)
              refine lv_aload_n hx hb dX3_change_65 rfl (lv_at hl 1 rfl) ?_
              refine wGet (v := .ref (am 1)) K hw hiX3 wM_o rfl 0 (by decide) (by decide +kernel) rfl dX3_change_66 ?_
              refine lv_iload hx hb dX3_change_69 (lv_at hl 0 rfl) ?_
              refine wIald (v := S.1 j q) K hw wM_cells (vp_in_nI (by omega) (by omega)) (by rw [nI_clamp (by omega)]; exact gC_at hq) dX3_change_71 ?_
              refine lv_i2l (v := (S.1 j q).toInt64) hx hb dX3_change_72 rfl ?_
              refine lv_lstore (lv' := [(6, .long ((S.1 j q).toInt64)), (5, .int (nI (60 * j + q))), (0, .ref (am 0)), (1, .int (nI j)), (2, .int (nI y)), (3, .int (nI q)), (4, .int v)]) hx hb dX3_change_73 hl (by decide) rfl (fun ls hl => ?_)
              rcases (show y = 0 ∨ y = 1 ∨ y = 2 ∨ y = 3 by omega) with rfl | rfl | rfl | rfl
              · refine lv_iload_n hx hb dX3_change_75 rfl (lv_at hl 4 rfl) ?_
                refine lv_if_ne (tgt := 88) hx hb dX3_change_76 (by decide) (fun c_76 => ?_) (fun c_76 => ?_)
                · exact absurd c_76 (by decide)
                · refine lv_lload hx hb dX3_change_79 (lv_at hl 0 rfl) ?_
                  refine lv_iload hx hb dX3_change_81 (lv_at hl 6 rfl) ?_
                  refine lv_i2l (v := v.toInt64) hx hb dX3_change_83 rfl ?_
                  refine lv_ladd hx hb dX3_change_84 ?_
                  refine lv_goto (tgt := 120) hx hb dX3_change_85 (by decide) ?_
                  refine lv_lstore (lv' := [(8, .long (((S.1 j q).toInt64) + (v.toInt64))), (6, .long ((S.1 j q).toInt64)), (5, .int (nI (60 * j + q))), (0, .ref (am 0)), (1, .int (nI j)), (2, .int (nI 0)), (3, .int (nI q)), (4, .int v)]) hx hb dX3_change_120 hl (by decide) rfl (fun ls hl => ?_)
                  refine lv_aload_n hx hb dX3_change_122 rfl (lv_at hl 3 rfl) ?_
                  refine wGet (v := .ref (am 1)) K hw hiX3 wM_o rfl 0 (by decide) (by decide +kernel) rfl dX3_change_123 ?_
                  refine lv_iload hx hb dX3_change_126 (lv_at hl 2 rfl) ?_
                  refine lv_iload_n hx hb dX3_change_128 rfl (lv_at hl 4 rfl) ?_
                  refine lv_iconst (v := 3) hx hb dX3_change_129 (by decide) ?_
                  refine lv_icmp_ne (tgt := 145) hx hb dX3_change_130 (by decide) (fun c_130 => ?_) (fun c_130 => ?_)
                  · have hj3 : ¬ j = 3 := fun q => c_130 (by rw [q]; rfl)
                    refine lv_iload_n hx hb dX3_change_145 rfl (lv_at hl 4 rfl) ?_
                    refine lv_lload hx hb dX3_change_146 (lv_at hl 0 rfl) ?_
                    refine wCallS (As := [.int (nI j), .long (((S.1 j q).toInt64) + (v.toInt64))]) (rest := [.int (nI (60 * j + q)), .ref (am 1)]) K hw (mX3_stored l E (wM E am S) j hj ((S.1 j q).toInt64 + v.toInt64)) (va_cwS 2 hts gX3_change_X3_stored rfl rfl rfl (by decide +kernel) ⟨Nat.le_of_ble_eq_true rfl, Nat.le_of_ble_eq_true rfl⟩)  rfl hl.1 rfl (Nat.le_of_ble_eq_true rfl) dX3_change_148 ⟨Nat.zero_le _, Nat.zero_le _⟩ (fun r_148 w' H locs hr hw => ?_)
                    obtain ⟨hr148, rfl⟩ := hr
                    obtain rfl : r_148 = chg j (nI 0) (S.1 j q) v := by rw [hr148, chg, if_neg hj3]; rfl
                    refine wIast K hw wM_cells (vp_in_nI (by omega) (by omega)) dX3_change_151 (wM_sCellI hq (nI_clamp (by omega)) _) (fun H locs hw => ?_)
                    refine lv_aload_n hx hb dX3_change_152 rfl (lv_at hl 3 rfl) ?_
                    refine wGet (v := .ref (am 1)) K hw hiX3 wM_o rfl 0 (by decide) (by decide +kernel) rfl dX3_change_153 ?_
                    refine lv_iload hx hb dX3_change_156 (lv_at hl 2 rfl) ?_
                    refine wIald (v := chg j (nI 0) (S.1 j q) v) K hw wM_cells (vp_in_nI (by omega) (by omega)) (by rw [nI_clamp (by omega), gC_at hq]; exact sC_self) dX3_change_158 ?_
                    exact wRetI K hw dX3_change_159 (pstM (by rw [sp_change, if_pos hl0, if_pos hg, kN_nI (by omega), if_neg c_28, if_pos g3, kN_nI (by omega)]))
                  · have hj3 : j = 3 := (nI_eq (b := 3) (by omega) (by omega)).mp c_130
                    have hp : S.1 j q = 0 ∨ S.1 j q = 1 := by rw [hj3]; exact hI.2.2.2 q hq
                    refine lv_iload_n hx hb dX3_change_133 rfl (lv_at hl 5 rfl) ?_
                    refine lv_lload hx hb dX3_change_134 (lv_at hl 1 rfl) ?_
                    refine lv_l2i (v := ((S.1 j q).toInt64).toInt32) hx hb dX3_change_136 rfl ?_
                    rw [show (((S.1 j q).toInt64).toInt32 : Int32) = S.1 j q from i32_back _]
                    refine lv_iload hx hb dX3_change_137 (lv_at hl 7 rfl) ?_
                    refine wCallS (As := [.int (nI 0), .int (S.1 j q), .int v]) (rest := [.int (nI (60 * j + q)), .ref (am 1)]) K hw (mX3_pressed l E (wM E am S) 0 (by decide) (S.1 j q) v hp) (va_cwS 3 hts gX3_change_X3_pressed rfl rfl rfl (by decide +kernel) ⟨Nat.le_of_ble_eq_true rfl, Nat.le_of_ble_eq_true rfl⟩)  rfl hl.1 rfl (Nat.le_of_ble_eq_true rfl) dX3_change_139 ⟨Nat.zero_le _, Nat.zero_le _⟩ (fun r_139 w' H locs hr hw => ?_)
                    obtain ⟨hr139, rfl⟩ := hr
                    obtain rfl : r_139 = chg j (nI 0) (S.1 j q) v := by rw [hr139, chg, if_pos hj3]
                    refine lv_goto (tgt := 151) hx hb dX3_change_142 (by decide) ?_
                    refine wIast K hw wM_cells (vp_in_nI (by omega) (by omega)) dX3_change_151 (wM_sCellI hq (nI_clamp (by omega)) _) (fun H locs hw => ?_)
                    refine lv_aload_n hx hb dX3_change_152 rfl (lv_at hl 3 rfl) ?_
                    refine wGet (v := .ref (am 1)) K hw hiX3 wM_o rfl 0 (by decide) (by decide +kernel) rfl dX3_change_153 ?_
                    refine lv_iload hx hb dX3_change_156 (lv_at hl 2 rfl) ?_
                    refine wIald (v := chg j (nI 0) (S.1 j q) v) K hw wM_cells (vp_in_nI (by omega) (by omega)) (by rw [nI_clamp (by omega), gC_at hq]; exact sC_self) dX3_change_158 ?_
                    exact wRetI K hw dX3_change_159 (pstM (by rw [sp_change, if_pos hl0, if_pos hg, kN_nI (by omega), if_neg c_28, if_pos g3, kN_nI (by omega)]))
              · refine lv_iload_n hx hb dX3_change_75 rfl (lv_at hl 4 rfl) ?_
                refine lv_if_ne (tgt := 88) hx hb dX3_change_76 (by decide) (fun c_76 => ?_) (fun c_76 => ?_)
                · refine lv_iload_n hx hb dX3_change_88 rfl (lv_at hl 4 rfl) ?_
                  refine lv_iconst (v := 1) hx hb dX3_change_89 (by decide) ?_
                  refine lv_icmp_ne (tgt := 102) hx hb dX3_change_90 (by decide) (fun c_90 => ?_) (fun c_90 => ?_)
                  · exact absurd c_90 (by decide)
                  · refine lv_lload hx hb dX3_change_93 (lv_at hl 0 rfl) ?_
                    refine lv_iload hx hb dX3_change_95 (lv_at hl 6 rfl) ?_
                    refine lv_i2l (v := v.toInt64) hx hb dX3_change_97 rfl ?_
                    refine lv_lsub hx hb dX3_change_98 ?_
                    refine lv_goto (tgt := 120) hx hb dX3_change_99 (by decide) ?_
                    refine lv_lstore (lv' := [(8, .long (((S.1 j q).toInt64) - (v.toInt64))), (6, .long ((S.1 j q).toInt64)), (5, .int (nI (60 * j + q))), (0, .ref (am 0)), (1, .int (nI j)), (2, .int (nI 1)), (3, .int (nI q)), (4, .int v)]) hx hb dX3_change_120 hl (by decide) rfl (fun ls hl => ?_)
                    refine lv_aload_n hx hb dX3_change_122 rfl (lv_at hl 3 rfl) ?_
                    refine wGet (v := .ref (am 1)) K hw hiX3 wM_o rfl 0 (by decide) (by decide +kernel) rfl dX3_change_123 ?_
                    refine lv_iload hx hb dX3_change_126 (lv_at hl 2 rfl) ?_
                    refine lv_iload_n hx hb dX3_change_128 rfl (lv_at hl 4 rfl) ?_
                    refine lv_iconst (v := 3) hx hb dX3_change_129 (by decide) ?_
                    refine lv_icmp_ne (tgt := 145) hx hb dX3_change_130 (by decide) (fun c_130 => ?_) (fun c_130 => ?_)
                    · have hj3 : ¬ j = 3 := fun q => c_130 (by rw [q]; rfl)
                      refine lv_iload_n hx hb dX3_change_145 rfl (lv_at hl 4 rfl) ?_
                      refine lv_lload hx hb dX3_change_146 (lv_at hl 0 rfl) ?_
                      refine wCallS (As := [.int (nI j), .long (((S.1 j q).toInt64) - (v.toInt64))]) (rest := [.int (nI (60 * j + q)), .ref (am 1)]) K hw (mX3_stored l E (wM E am S) j hj ((S.1 j q).toInt64 - v.toInt64)) (va_cwS 2 hts gX3_change_X3_stored rfl rfl rfl (by decide +kernel) ⟨Nat.le_of_ble_eq_true rfl, Nat.le_of_ble_eq_true rfl⟩)  rfl hl.1 rfl (Nat.le_of_ble_eq_true rfl) dX3_change_148 ⟨Nat.zero_le _, Nat.zero_le _⟩ (fun r_148 w' H locs hr hw => ?_)
                      obtain ⟨hr148, rfl⟩ := hr
                      obtain rfl : r_148 = chg j (nI 1) (S.1 j q) v := by rw [hr148, chg, if_neg hj3]; rfl
                      refine wIast K hw wM_cells (vp_in_nI (by omega) (by omega)) dX3_change_151 (wM_sCellI hq (nI_clamp (by omega)) _) (fun H locs hw => ?_)
                      refine lv_aload_n hx hb dX3_change_152 rfl (lv_at hl 3 rfl) ?_
                      refine wGet (v := .ref (am 1)) K hw hiX3 wM_o rfl 0 (by decide) (by decide +kernel) rfl dX3_change_153 ?_
                      refine lv_iload hx hb dX3_change_156 (lv_at hl 2 rfl) ?_
                      refine wIald (v := chg j (nI 1) (S.1 j q) v) K hw wM_cells (vp_in_nI (by omega) (by omega)) (by rw [nI_clamp (by omega), gC_at hq]; exact sC_self) dX3_change_158 ?_
                      exact wRetI K hw dX3_change_159 (pstM (by rw [sp_change, if_pos hl0, if_pos hg, kN_nI (by omega), if_neg c_28, if_pos g3, kN_nI (by omega)]))
                    · have hj3 : j = 3 := (nI_eq (b := 3) (by omega) (by omega)).mp c_130
                      have hp : S.1 j q = 0 ∨ S.1 j q = 1 := by rw [hj3]; exact hI.2.2.2 q hq
                      refine lv_iload_n hx hb dX3_change_133 rfl (lv_at hl 5 rfl) ?_
                      refine lv_lload hx hb dX3_change_134 (lv_at hl 1 rfl) ?_
                      refine lv_l2i (v := ((S.1 j q).toInt64).toInt32) hx hb dX3_change_136 rfl ?_
                      rw [show (((S.1 j q).toInt64).toInt32 : Int32) = S.1 j q from i32_back _]
                      refine lv_iload hx hb dX3_change_137 (lv_at hl 7 rfl) ?_
                      refine wCallS (As := [.int (nI 1), .int (S.1 j q), .int v]) (rest := [.int (nI (60 * j + q)), .ref (am 1)]) K hw (mX3_pressed l E (wM E am S) 1 (by decide) (S.1 j q) v hp) (va_cwS 3 hts gX3_change_X3_pressed rfl rfl rfl (by decide +kernel) ⟨Nat.le_of_ble_eq_true rfl, Nat.le_of_ble_eq_true rfl⟩)  rfl hl.1 rfl (Nat.le_of_ble_eq_true rfl) dX3_change_139 ⟨Nat.zero_le _, Nat.zero_le _⟩ (fun r_139 w' H locs hr hw => ?_)
                      obtain ⟨hr139, rfl⟩ := hr
                      obtain rfl : r_139 = chg j (nI 1) (S.1 j q) v := by rw [hr139, chg, if_pos hj3]
                      refine lv_goto (tgt := 151) hx hb dX3_change_142 (by decide) ?_
                      refine wIast K hw wM_cells (vp_in_nI (by omega) (by omega)) dX3_change_151 (wM_sCellI hq (nI_clamp (by omega)) _) (fun H locs hw => ?_)
                      refine lv_aload_n hx hb dX3_change_152 rfl (lv_at hl 3 rfl) ?_
                      refine wGet (v := .ref (am 1)) K hw hiX3 wM_o rfl 0 (by decide) (by decide +kernel) rfl dX3_change_153 ?_
                      refine lv_iload hx hb dX3_change_156 (lv_at hl 2 rfl) ?_
                      refine wIald (v := chg j (nI 1) (S.1 j q) v) K hw wM_cells (vp_in_nI (by omega) (by omega)) (by rw [nI_clamp (by omega), gC_at hq]; exact sC_self) dX3_change_158 ?_
                      exact wRetI K hw dX3_change_159 (pstM (by rw [sp_change, if_pos hl0, if_pos hg, kN_nI (by omega), if_neg c_28, if_pos g3, kN_nI (by omega)]))
                · exact absurd c_76 (by decide)
              · refine lv_iload_n hx hb dX3_change_75 rfl (lv_at hl 4 rfl) ?_
                refine lv_if_ne (tgt := 88) hx hb dX3_change_76 (by decide) (fun c_76 => ?_) (fun c_76 => ?_)
                · refine lv_iload_n hx hb dX3_change_88 rfl (lv_at hl 4 rfl) ?_
                  refine lv_iconst (v := 1) hx hb dX3_change_89 (by decide) ?_
                  refine lv_icmp_ne (tgt := 102) hx hb dX3_change_90 (by decide) (fun c_90 => ?_) (fun c_90 => ?_)
                  · refine lv_iload_n hx hb dX3_change_102 rfl (lv_at hl 4 rfl) ?_
                    refine lv_iconst (v := 2) hx hb dX3_change_103 (by decide) ?_
                    refine lv_icmp_ne (tgt := 116) hx hb dX3_change_104 (by decide) (fun c_104 => ?_) (fun c_104 => ?_)
                    · exact absurd c_104 (by decide)
                    · refine lv_lload hx hb dX3_change_107 (lv_at hl 0 rfl) ?_
                      refine lv_iload hx hb dX3_change_109 (lv_at hl 6 rfl) ?_
                      refine lv_i2l (v := v.toInt64) hx hb dX3_change_111 rfl ?_
                      refine lv_lmul hx hb dX3_change_112 ?_
                      refine lv_goto (tgt := 120) hx hb dX3_change_113 (by decide) ?_
                      refine lv_lstore (lv' := [(8, .long (((S.1 j q).toInt64) * (v.toInt64))), (6, .long ((S.1 j q).toInt64)), (5, .int (nI (60 * j + q))), (0, .ref (am 0)), (1, .int (nI j)), (2, .int (nI 2)), (3, .int (nI q)), (4, .int v)]) hx hb dX3_change_120 hl (by decide) rfl (fun ls hl => ?_)
                      refine lv_aload_n hx hb dX3_change_122 rfl (lv_at hl 3 rfl) ?_
                      refine wGet (v := .ref (am 1)) K hw hiX3 wM_o rfl 0 (by decide) (by decide +kernel) rfl dX3_change_123 ?_
                      refine lv_iload hx hb dX3_change_126 (lv_at hl 2 rfl) ?_
                      refine lv_iload_n hx hb dX3_change_128 rfl (lv_at hl 4 rfl) ?_
                      refine lv_iconst (v := 3) hx hb dX3_change_129 (by decide) ?_
                      refine lv_icmp_ne (tgt := 145) hx hb dX3_change_130 (by decide) (fun c_130 => ?_) (fun c_130 => ?_)
                      · have hj3 : ¬ j = 3 := fun q => c_130 (by rw [q]; rfl)
                        refine lv_iload_n hx hb dX3_change_145 rfl (lv_at hl 4 rfl) ?_
                        refine lv_lload hx hb dX3_change_146 (lv_at hl 0 rfl) ?_
                        refine wCallS (As := [.int (nI j), .long (((S.1 j q).toInt64) * (v.toInt64))]) (rest := [.int (nI (60 * j + q)), .ref (am 1)]) K hw (mX3_stored l E (wM E am S) j hj ((S.1 j q).toInt64 * v.toInt64)) (va_cwS 2 hts gX3_change_X3_stored rfl rfl rfl (by decide +kernel) ⟨Nat.le_of_ble_eq_true rfl, Nat.le_of_ble_eq_true rfl⟩)  rfl hl.1 rfl (Nat.le_of_ble_eq_true rfl) dX3_change_148 ⟨Nat.zero_le _, Nat.zero_le _⟩ (fun r_148 w' H locs hr hw => ?_)
                        obtain ⟨hr148, rfl⟩ := hr
                        obtain rfl : r_148 = chg j (nI 2) (S.1 j q) v := by rw [hr148, chg, if_neg hj3]; rfl
                        refine wIast K hw wM_cells (vp_in_nI (by omega) (by omega)) dX3_change_151 (wM_sCellI hq (nI_clamp (by omega)) _) (fun H locs hw => ?_)
                        refine lv_aload_n hx hb dX3_change_152 rfl (lv_at hl 3 rfl) ?_
                        refine wGet (v := .ref (am 1)) K hw hiX3 wM_o rfl 0 (by decide) (by decide +kernel) rfl dX3_change_153 ?_
                        refine lv_iload hx hb dX3_change_156 (lv_at hl 2 rfl) ?_
                        refine wIald (v := chg j (nI 2) (S.1 j q) v) K hw wM_cells (vp_in_nI (by omega) (by omega)) (by rw [nI_clamp (by omega), gC_at hq]; exact sC_self) dX3_change_158 ?_
                        exact wRetI K hw dX3_change_159 (pstM (by rw [sp_change, if_pos hl0, if_pos hg, kN_nI (by omega), if_neg c_28, if_pos g3, kN_nI (by omega)]))
                      · have hj3 : j = 3 := (nI_eq (b := 3) (by omega) (by omega)).mp c_130
                        have hp : S.1 j q = 0 ∨ S.1 j q = 1 := by rw [hj3]; exact hI.2.2.2 q hq
                        refine lv_iload_n hx hb dX3_change_133 rfl (lv_at hl 5 rfl) ?_
                        refine lv_lload hx hb dX3_change_134 (lv_at hl 1 rfl) ?_
                        refine lv_l2i (v := ((S.1 j q).toInt64).toInt32) hx hb dX3_change_136 rfl ?_
                        rw [show (((S.1 j q).toInt64).toInt32 : Int32) = S.1 j q from i32_back _]
                        refine lv_iload hx hb dX3_change_137 (lv_at hl 7 rfl) ?_
                        refine wCallS (As := [.int (nI 2), .int (S.1 j q), .int v]) (rest := [.int (nI (60 * j + q)), .ref (am 1)]) K hw (mX3_pressed l E (wM E am S) 2 (by decide) (S.1 j q) v hp) (va_cwS 3 hts gX3_change_X3_pressed rfl rfl rfl (by decide +kernel) ⟨Nat.le_of_ble_eq_true rfl, Nat.le_of_ble_eq_true rfl⟩)  rfl hl.1 rfl (Nat.le_of_ble_eq_true rfl) dX3_change_139 ⟨Nat.zero_le _, Nat.zero_le _⟩ (fun r_139 w' H locs hr hw => ?_)
                        obtain ⟨hr139, rfl⟩ := hr
                        obtain rfl : r_139 = chg j (nI 2) (S.1 j q) v := by rw [hr139, chg, if_pos hj3]
                        refine lv_goto (tgt := 151) hx hb dX3_change_142 (by decide) ?_
                        refine wIast K hw wM_cells (vp_in_nI (by omega) (by omega)) dX3_change_151 (wM_sCellI hq (nI_clamp (by omega)) _) (fun H locs hw => ?_)
                        refine lv_aload_n hx hb dX3_change_152 rfl (lv_at hl 3 rfl) ?_
                        refine wGet (v := .ref (am 1)) K hw hiX3 wM_o rfl 0 (by decide) (by decide +kernel) rfl dX3_change_153 ?_
                        refine lv_iload hx hb dX3_change_156 (lv_at hl 2 rfl) ?_
                        refine wIald (v := chg j (nI 2) (S.1 j q) v) K hw wM_cells (vp_in_nI (by omega) (by omega)) (by rw [nI_clamp (by omega), gC_at hq]; exact sC_self) dX3_change_158 ?_
                        exact wRetI K hw dX3_change_159 (pstM (by rw [sp_change, if_pos hl0, if_pos hg, kN_nI (by omega), if_neg c_28, if_pos g3, kN_nI (by omega)]))
                  · exact absurd c_90 (by decide)
                · exact absurd c_76 (by decide)
              · refine lv_iload_n hx hb dX3_change_75 rfl (lv_at hl 4 rfl) ?_
                refine lv_if_ne (tgt := 88) hx hb dX3_change_76 (by decide) (fun c_76 => ?_) (fun c_76 => ?_)
                · refine lv_iload_n hx hb dX3_change_88 rfl (lv_at hl 4 rfl) ?_
                  refine lv_iconst (v := 1) hx hb dX3_change_89 (by decide) ?_
                  refine lv_icmp_ne (tgt := 102) hx hb dX3_change_90 (by decide) (fun c_90 => ?_) (fun c_90 => ?_)
                  · refine lv_iload_n hx hb dX3_change_102 rfl (lv_at hl 4 rfl) ?_
                    refine lv_iconst (v := 2) hx hb dX3_change_103 (by decide) ?_
                    refine lv_icmp_ne (tgt := 116) hx hb dX3_change_104 (by decide) (fun c_104 => ?_) (fun c_104 => ?_)
                    · refine lv_lload hx hb dX3_change_116 (lv_at hl 0 rfl) ?_
                      refine lv_lconst (v := 1) hx hb dX3_change_118 (by decide) ?_
                      refine lv_ladd hx hb dX3_change_119 ?_
                      refine lv_lstore (lv' := [(8, .long (((S.1 j q).toInt64) + 1)), (6, .long ((S.1 j q).toInt64)), (5, .int (nI (60 * j + q))), (0, .ref (am 0)), (1, .int (nI j)), (2, .int (nI 3)), (3, .int (nI q)), (4, .int v)]) hx hb dX3_change_120 hl (by decide) rfl (fun ls hl => ?_)
                      refine lv_aload_n hx hb dX3_change_122 rfl (lv_at hl 3 rfl) ?_
                      refine wGet (v := .ref (am 1)) K hw hiX3 wM_o rfl 0 (by decide) (by decide +kernel) rfl dX3_change_123 ?_
                      refine lv_iload hx hb dX3_change_126 (lv_at hl 2 rfl) ?_
                      refine lv_iload_n hx hb dX3_change_128 rfl (lv_at hl 4 rfl) ?_
                      refine lv_iconst (v := 3) hx hb dX3_change_129 (by decide) ?_
                      refine lv_icmp_ne (tgt := 145) hx hb dX3_change_130 (by decide) (fun c_130 => ?_) (fun c_130 => ?_)
                      · have hj3 : ¬ j = 3 := fun q => c_130 (by rw [q]; rfl)
                        refine lv_iload_n hx hb dX3_change_145 rfl (lv_at hl 4 rfl) ?_
                        refine lv_lload hx hb dX3_change_146 (lv_at hl 0 rfl) ?_
                        refine wCallS (As := [.int (nI j), .long (((S.1 j q).toInt64) + 1)]) (rest := [.int (nI (60 * j + q)), .ref (am 1)]) K hw (mX3_stored l E (wM E am S) j hj ((S.1 j q).toInt64 + 1)) (va_cwS 2 hts gX3_change_X3_stored rfl rfl rfl (by decide +kernel) ⟨Nat.le_of_ble_eq_true rfl, Nat.le_of_ble_eq_true rfl⟩)  rfl hl.1 rfl (Nat.le_of_ble_eq_true rfl) dX3_change_148 ⟨Nat.zero_le _, Nat.zero_le _⟩ (fun r_148 w' H locs hr hw => ?_)
                        obtain ⟨hr148, rfl⟩ := hr
                        obtain rfl : r_148 = chg j (nI 3) (S.1 j q) v := by rw [hr148, chg, if_neg hj3]; rfl
                        refine wIast K hw wM_cells (vp_in_nI (by omega) (by omega)) dX3_change_151 (wM_sCellI hq (nI_clamp (by omega)) _) (fun H locs hw => ?_)
                        refine lv_aload_n hx hb dX3_change_152 rfl (lv_at hl 3 rfl) ?_
                        refine wGet (v := .ref (am 1)) K hw hiX3 wM_o rfl 0 (by decide) (by decide +kernel) rfl dX3_change_153 ?_
                        refine lv_iload hx hb dX3_change_156 (lv_at hl 2 rfl) ?_
                        refine wIald (v := chg j (nI 3) (S.1 j q) v) K hw wM_cells (vp_in_nI (by omega) (by omega)) (by rw [nI_clamp (by omega), gC_at hq]; exact sC_self) dX3_change_158 ?_
                        exact wRetI K hw dX3_change_159 (pstM (by rw [sp_change, if_pos hl0, if_pos hg, kN_nI (by omega), if_neg c_28, if_pos g3, kN_nI (by omega)]))
                      · have hj3 : j = 3 := (nI_eq (b := 3) (by omega) (by omega)).mp c_130
                        have hp : S.1 j q = 0 ∨ S.1 j q = 1 := by rw [hj3]; exact hI.2.2.2 q hq
                        refine lv_iload_n hx hb dX3_change_133 rfl (lv_at hl 5 rfl) ?_
                        refine lv_lload hx hb dX3_change_134 (lv_at hl 1 rfl) ?_
                        refine lv_l2i (v := ((S.1 j q).toInt64).toInt32) hx hb dX3_change_136 rfl ?_
                        rw [show (((S.1 j q).toInt64).toInt32 : Int32) = S.1 j q from i32_back _]
                        refine lv_iload hx hb dX3_change_137 (lv_at hl 7 rfl) ?_
                        refine wCallS (As := [.int (nI 3), .int (S.1 j q), .int v]) (rest := [.int (nI (60 * j + q)), .ref (am 1)]) K hw (mX3_pressed l E (wM E am S) 3 (by decide) (S.1 j q) v hp) (va_cwS 3 hts gX3_change_X3_pressed rfl rfl rfl (by decide +kernel) ⟨Nat.le_of_ble_eq_true rfl, Nat.le_of_ble_eq_true rfl⟩)  rfl hl.1 rfl (Nat.le_of_ble_eq_true rfl) dX3_change_139 ⟨Nat.zero_le _, Nat.zero_le _⟩ (fun r_139 w' H locs hr hw => ?_)
                        obtain ⟨hr139, rfl⟩ := hr
                        obtain rfl : r_139 = chg j (nI 3) (S.1 j q) v := by rw [hr139, chg, if_pos hj3]
                        refine lv_goto (tgt := 151) hx hb dX3_change_142 (by decide) ?_
                        refine wIast K hw wM_cells (vp_in_nI (by omega) (by omega)) dX3_change_151 (wM_sCellI hq (nI_clamp (by omega)) _) (fun H locs hw => ?_)
                        refine lv_aload_n hx hb dX3_change_152 rfl (lv_at hl 3 rfl) ?_
                        refine wGet (v := .ref (am 1)) K hw hiX3 wM_o rfl 0 (by decide) (by decide +kernel) rfl dX3_change_153 ?_
                        refine lv_iload hx hb dX3_change_156 (lv_at hl 2 rfl) ?_
                        refine wIald (v := chg j (nI 3) (S.1 j q) v) K hw wM_cells (vp_in_nI (by omega) (by omega)) (by rw [nI_clamp (by omega), gC_at hq]; exact sC_self) dX3_change_158 ?_
                        exact wRetI K hw dX3_change_159 (pstM (by rw [sp_change, if_pos hl0, if_pos hg, kN_nI (by omega), if_neg c_28, if_pos g3, kN_nI (by omega)]))
                    · exact absurd c_104 (by decide)
                  · exact absurd c_90 (by decide)
                · exact absurd c_76 (by decide)
            · have g3 : ¬ hsC S j i := fun q => q.2.2 (Int32.not_lt.mp c_48)
              refine lv_aload_n hx hb dX3_change_51 rfl (lv_at hl 0 rfl) ?_
              refine lv_iload_n hx hb dX3_change_52 rfl (lv_at hl 1 rfl) ?_
              refine wCallV (As := [.int (nI j)]) (rest := []) K hw (mX3_out l E am S j hj) (cwV 1 hts gX3_change_X3_out rfl rfl rfl (by decide +kernel) ⟨Nat.le_of_ble_eq_true rfl, Nat.le_of_ble_eq_true rfl⟩) wM_o rfl rfl hl.1 rfl (Nat.le_of_ble_eq_true rfl) dX3_change_53 ⟨Nat.zero_le _, Nat.zero_le _⟩ (fun r_53 w' H locs hr hw => ?_)
              obtain ⟨rfl, rfl⟩ := hr
              exact wRetI K hw dX3_change_56 (pstM (by rw [sp_change, if_pos hl0, if_pos hg, kN_nI (by omega), if_neg c_28, if_neg g3]))
        · refine lv_aload_n hx hb dX3_change_31 rfl (lv_at hl 0 rfl) ?_
          refine lv_iload_n hx hb dX3_change_32 rfl (lv_at hl 1 rfl) ?_
          refine wCallV (As := [.int (nI j)]) (rest := []) K hw (mX3_off l E am S j hj) (cwV 1 hts gX3_change_X3_off rfl rfl rfl (by decide +kernel) ⟨Nat.le_of_ble_eq_true rfl, Nat.le_of_ble_eq_true rfl⟩) wM_o rfl rfl hl.1 rfl (Nat.le_of_ble_eq_true rfl) dX3_change_33 ⟨Nat.zero_le _, Nat.zero_le _⟩ (fun r_33 w' H locs hr hw => ?_)
          obtain ⟨rfl, rfl⟩ := hr
          exact wRetI K hw dX3_change_36 (pstM (by rw [sp_change, if_pos hl0, if_pos hg, kN_nI (by omega), if_pos c_28]))
      · have hg : ¬ (¬ way < 0 ∧ ¬ 4 ≤ way) := fun q => q.2 (gt3 c_16)
        refine lv_ldc (v := (-1000002)) hx hb hown (hts (.constant RX3 66 (-1000002)) (by decide +kernel)) dX3_change_19 ?_
        exact wRetI K hw dX3_change_21 (pstM (by rw [sp_change, if_pos hl0, if_neg hg]))
  · have hl0 := bI_f hr1 c_4
    refine lv_ldc (v := (-1000001)) hx hb hown (hts (.constant RX3 52 (-1000001)) (by decide +kernel)) dX3_change_7 ?_
    exact wRetI K hw dX3_change_9 (pstM (by rw [sp_change, if_neg hl0]))
set_option maxHeartbeats 4000000 in
set_option maxRecDepth 100000 in
theorem mX3_rule (l : Launch) (E : wE) (am : Nat → Nat) (S : SS) (hI : Inv S) (lane : Int32) (x : Int32) (y : Int32) : MCi l E yX3_rule wsX3_rule { frames := 1, cells := 0, slots := 0, locals := 20 } [.ref (am 0), .int lane, .int x, .int y] (wM E am S) (fun r w => r = (sp_rule S lane x y).1 ∧ w = wM E am (sp_rule S lane x y).2) := by
  refine wEnterI (cc := cX3_rule) (nL := 5) (ret := (some .int)) (own := RX3) (by decide) rfl rfl (Nat.le_of_ble_eq_true rfl) ?_
  intro p e s m below meth c A ls K hl hw
  have hl : lv_has ls 5 [(0, .ref (am 0)), (1, .int lane), (2, .int x), (3, .int y)] := hl
  obtain ⟨hx, hb, -, hml, hown, hts, -, -, -⟩ := id K
  have hiX3 : ∀ w ∈ wsX30, w ∈ wsX3_rule := by decide +kernel
  refine lv_iload_n hx hb dX3_rule_0 rfl (lv_at hl 1 rfl) ?_
  refine wCallS (As := [.int lane]) (rest := []) K hw (mX3_isLane l E (wM E am S) lane) (va_cwS 1 hts gX3_rule_X3_isLane rfl rfl rfl (by decide +kernel) ⟨Nat.le_of_ble_eq_true rfl, Nat.le_of_ble_eq_true rfl⟩)  rfl hl.1 rfl (Nat.le_of_ble_eq_true rfl) dX3_rule_1 ⟨Nat.zero_le _, Nat.zero_le _⟩ (fun r_1 w' H locs hr hw => ?_)
  obtain ⟨hr1, rfl⟩ := hr
  refine lv_if_ne (tgt := 10) hx hb dX3_rule_4 (by decide) (fun c_4 => ?_) (fun c_4 => ?_)
  · have hl0 := bI_t hr1 c_4
    obtain ⟨j, hj, rfl⟩ := isl_of hl0
    refine lv_iload_n hx hb dX3_rule_10 rfl (lv_at hl 2 rfl) ?_
    refine lv_bipush (v := 16) hx hb dX3_rule_11 (by decide) ?_
    refine lv_icmp_gt (tgt := 22) hx hb dX3_rule_13 (by decide) (fun c_13 => ?_) (fun c_13 => ?_)
    · have hg : ¬ (¬ 16 < x ∧ ¬ 16 < y) := fun q => q.1 c_13
      refine lv_ldc (v := (-1000003)) hx hb hown (hts (.constant RX3 53 (-1000003)) (by decide +kernel)) dX3_rule_22 ?_
      exact wRetI K hw dX3_rule_24 (pstM (by rw [sp_rule, if_pos hl0, if_neg hg]))
    · refine lv_iload_n hx hb dX3_rule_16 rfl (lv_at hl 3 rfl) ?_
      refine lv_bipush (v := 16) hx hb dX3_rule_17 (by decide) ?_
      refine lv_icmp_le (tgt := 25) hx hb dX3_rule_19 (by decide) (fun c_19 => ?_) (fun c_19 => ?_)
      · have hg : ¬ 16 < x ∧ ¬ 16 < y := ⟨c_13, Int32.not_lt.mpr c_19⟩
        refine lv_iload_n hx hb dX3_rule_25 rfl (lv_at hl 2 rfl) ?_
        refine lv_if_lt (tgt := 33) hx hb dX3_rule_26 (by decide) (fun c_26 => ?_) (fun c_26 => ?_)
        · have hp : ¬ (¬ x < 0 ∧ ¬ y < 0) := fun q => q.1 c_26
          refine lv_ldc (v := (-1000004)) hx hb hown (hts (.constant RX3 54 (-1000004)) (by decide +kernel)) dX3_rule_33 ?_
          exact wRetI K hw dX3_rule_35 (pstM (by rw [sp_rule, if_pos hl0, if_pos hg, if_neg hp]))
        · refine lv_iload_n hx hb dX3_rule_29 rfl (lv_at hl 3 rfl) ?_
          refine lv_if_ge (tgt := 36) hx hb dX3_rule_30 (by decide) (fun c_30 => ?_) (fun c_30 => ?_)
          · have hp : ¬ x < 0 ∧ ¬ y < 0 := ⟨c_26, Int32.not_lt.mpr c_30⟩
            have loop : ∀ (d i : Nat), i + d = 256 → ∀ (H : Heap) (locs : List Loc) (ls : Array Slot), lv_has ls 5 [(4, .int (nI i)), (0, .ref (am 0)), (1, .int (nI j)), (2, .int x), (3, .int y)] → wW E A s (wM E am (S.1, zr S.2.1 j i, up2 (up2 (up2 S.2.2 2 j 1) 3 j x) 4 j y)) H locs → W p l e ({ frames := 1, cells := 0, slots := 0, locals := 20 } : Room) s m ([.ref (am 0), .int (nI j), .int x, .int y] : List Value).toArray below meth c H locs 0 0 (MQ below (va_Qi (fun r w => r = (sp_rule S (nI j) x y).1 ∧ w = wM E am (sp_rule S (nI j) x y).2) (wAft E A) A) ([.ref (am 0), .int (nI j), .int x, .int y] : List Value).toArray s 0 0 A) (F0 m 60 ls []) := by
              intro d
              induction d with
              | zero =>
                intro i hid H locs ls hl hw
                obtain rfl : i = 256 := by omega
                refine lv_iload hx hb dX3_rule_60 (lv_at hl 0 rfl) ?_
                refine lv_sipush (v := 256) hx hb dX3_rule_62 (by decide) ?_
                refine lv_icmp_ge (tgt := 88) hx hb dX3_rule_65 (by decide) (fun c_65 => ?_) (fun c_65 => ?_)
                · refine lv_iload_n hx hb dX3_rule_88 rfl (lv_at hl 3 rfl) ?_
                  refine lv_iload_n hx hb dX3_rule_89 rfl (lv_at hl 4 rfl) ?_
                  refine lv_imul hx hb dX3_rule_90 ?_
                  exact wRetI K hw dX3_rule_91 (pstM (by rw [sp_rule, if_pos hl0, if_pos hg, if_pos hp, kN_nI (by omega)]))
                · exact absurd (nI_le (a := 256) (b := 256) (by omega) (by omega)) c_65
              | succ d ih =>
                intro i hid H locs ls hl hw
                refine lv_iload hx hb dX3_rule_60 (lv_at hl 0 rfl) ?_
                refine lv_sipush (v := 256) hx hb dX3_rule_62 (by decide) ?_
                refine lv_icmp_ge (tgt := 88) hx hb dX3_rule_65 (by decide) (fun c_65 => ?_) (fun c_65 => ?_)
                · exact absurd c_65 (nI_ge (b := 256) (by omega) (by omega))
                · refine lv_aload_n hx hb dX3_rule_68 rfl (lv_at hl 1 rfl) ?_
                  refine wGet (v := .ref (am 4)) K hw hiX3 wM_o rfl 3 (by decide) (by decide +kernel) rfl dX3_rule_69 ?_
                  refine lv_sipush (v := 256) hx hb dX3_rule_72 (by decide) ?_
                  refine lv_iload_n hx hb dX3_rule_75 rfl (lv_at hl 2 rfl) ?_
                  refine lv_imul hx hb dX3_rule_76 ?_
                  refine lv_iload hx hb dX3_rule_77 (lv_at hl 0 rfl) ?_
                  refine lv_iadd hx hb dX3_rule_79 ?_
                  rw [show ((256 * (nI j)) + (nI i) : Int32) = nI (256 * j + i) from ix256]
                  refine lv_iconst (v := 0) hx hb dX3_rule_80 (by decide) ?_
                  refine wIast K hw wM_sheets (vp_in_nI (by omega) (by omega)) dX3_rule_81 (wM_sNumI (by omega) (nI_clamp (by omega)) _) (fun H locs hw => ?_)
                  refine lv_iinc (v := nI (i + 1)) (lv' := [(4, .int (nI (i + 1))), (0, .ref (am 0)), (1, .int (nI j)), (2, .int x), (3, .int y)]) hx hb dX3_rule_82 hl (k := 0) rfl (nI_1 i) (by decide) rfl (fun ls hl => ?_)
                  refine lv_goto (tgt := 60) hx hb dX3_rule_85 (by decide) ?_
                  exact ih (i + 1) (by omega) H locs ls hl (hw.to (by rw [sN, zr_s]))
            refine lv_aload_n hx hb dX3_rule_36 rfl (lv_at hl 0 rfl) ?_
            refine wGet (v := .ref (am 7)) K hw hiX3 wM_o rfl 6 (by decide) (by decide +kernel) rfl dX3_rule_37 ?_
            refine lv_iload_n hx hb dX3_rule_40 rfl (lv_at hl 1 rfl) ?_
            refine lv_iconst (v := 1) hx hb dX3_rule_41 (by decide) ?_
            refine wZast K hw wM_ruled (in5 hj) dX3_rule_42 (by decide +kernel) (wM_sRuledI (nI_clamp (by omega)) _) (fun H locs hw => ?_)
            refine lv_aload_n hx hb dX3_rule_43 rfl (lv_at hl 0 rfl) ?_
            refine wGet (v := .ref (am 5)) K hw hiX3 wM_o rfl 4 (by decide) (by decide +kernel) rfl dX3_rule_44 ?_
            refine lv_iload_n hx hb dX3_rule_47 rfl (lv_at hl 1 rfl) ?_
            refine lv_iload_n hx hb dX3_rule_48 rfl (lv_at hl 2 rfl) ?_
            refine wIast K hw wM_rows (in5 hj) dX3_rule_49 (wM_sRowsI (nI_clamp (by omega)) _) (fun H locs hw => ?_)
            refine lv_aload_n hx hb dX3_rule_50 rfl (lv_at hl 0 rfl) ?_
            refine wGet (v := .ref (am 6)) K hw hiX3 wM_o rfl 5 (by decide) (by decide +kernel) rfl dX3_rule_51 ?_
            refine lv_iload_n hx hb dX3_rule_54 rfl (lv_at hl 1 rfl) ?_
            refine lv_iload_n hx hb dX3_rule_55 rfl (lv_at hl 3 rfl) ?_
            refine wIast K hw wM_cols (in5 hj) dX3_rule_56 (wM_sColsI (nI_clamp (by omega)) _) (fun H locs hw => ?_)
            refine lv_iconst (v := 0) hx hb dX3_rule_57 (by decide) ?_
            refine lv_istore (lv' := [(4, .int 0), (0, .ref (am 0)), (1, .int (nI j)), (2, .int x), (3, .int y)]) hx hb dX3_rule_58 hl (by decide) rfl (fun ls hl => ?_)
            exact loop 256 0 (by omega) _ _ _ (by rw [nI_0]; exact hl) (hw.to (by rw [zr_0]; rfl))
          · have hp : ¬ (¬ x < 0 ∧ ¬ y < 0) := fun q => q.2 (Int32.not_le.mp c_30)
            refine lv_ldc (v := (-1000004)) hx hb hown (hts (.constant RX3 54 (-1000004)) (by decide +kernel)) dX3_rule_33 ?_
            exact wRetI K hw dX3_rule_35 (pstM (by rw [sp_rule, if_pos hl0, if_pos hg, if_neg hp]))
      · have hg : ¬ (¬ 16 < x ∧ ¬ 16 < y) := fun q => q.2 (Int32.not_le.mp c_19)
        refine lv_ldc (v := (-1000003)) hx hb hown (hts (.constant RX3 53 (-1000003)) (by decide +kernel)) dX3_rule_22 ?_
        exact wRetI K hw dX3_rule_24 (pstM (by rw [sp_rule, if_pos hl0, if_neg hg]))
  · have hl0 := bI_f hr1 c_4
    refine lv_ldc (v := (-1000001)) hx hb hown (hts (.constant RX3 52 (-1000001)) (by decide +kernel)) dX3_rule_7 ?_
    exact wRetI K hw dX3_rule_9 (pstM (by rw [sp_rule, if_neg hl0]))
set_option maxHeartbeats 4000000 in
set_option maxRecDepth 100000 in
theorem mX3_lay (l : Launch) (E : wE) (am : Nat → Nat) (S : SS) (hI : Inv S) (lane : Int32) (row : Int32) (fr : Int32) : MCi l E yX3_lay wsX3_lay { frames := 1, cells := 0, slots := 0, locals := 21 } [.ref (am 0), .int lane, .int row, .int fr] (wM E am S) (fun r w => r = (sp_lay S lane row fr).1 ∧ w = wM E am (sp_lay S lane row fr).2) := by
  refine wEnterI (cc := cX3_lay) (nL := 5) (ret := (some .int)) (own := RX3) (by decide) rfl rfl (Nat.le_of_ble_eq_true rfl) ?_
  intro p e s m below meth c A ls K hl hw
  have hl : lv_has ls 5 [(0, .ref (am 0)), (1, .int lane), (2, .int row), (3, .int fr)] := hl
  obtain ⟨hx, hb, -, hml, hown, hts, -, -, -⟩ := id K
  have hiX3 : ∀ w ∈ wsX30, w ∈ wsX3_lay := by decide +kernel
  refine lv_iload_n hx hb dX3_lay_0 rfl (lv_at hl 1 rfl) ?_
  refine wCallS (As := [.int lane]) (rest := []) K hw (mX3_isLane l E (wM E am S) lane) (va_cwS 1 hts gX3_lay_X3_isLane rfl rfl rfl (by decide +kernel) ⟨Nat.le_of_ble_eq_true rfl, Nat.le_of_ble_eq_true rfl⟩)  rfl hl.1 rfl (Nat.le_of_ble_eq_true rfl) dX3_lay_1 ⟨Nat.zero_le _, Nat.zero_le _⟩ (fun r_1 w' H locs hr hw => ?_)
  obtain ⟨hr1, rfl⟩ := hr
  refine lv_if_ne (tgt := 10) hx hb dX3_lay_4 (by decide) (fun c_4 => ?_) (fun c_4 => ?_)
  · have hl0 := bI_t hr1 c_4
    obtain ⟨j, hj, rfl⟩ := isl_of hl0
    refine lv_aload_n hx hb dX3_lay_10 rfl (lv_at hl 0 rfl) ?_
    refine wGet (v := .ref (am 7)) K hw hiX3 wM_o rfl 6 (by decide) (by decide +kernel) rfl dX3_lay_11 ?_
    refine lv_iload_n hx hb dX3_lay_14 rfl (lv_at hl 1 rfl) ?_
    refine wZald (v := S.2.2 2 j) K hw wM_ruled (in5 hj) (by rw [nI_clamp (by omega)]) dX3_lay_15 ?_
    refine lv_if_ne (tgt := 22) hx hb dX3_lay_16 (by decide) (fun c_16 => ?_) (fun c_16 => ?_)
    · refine lv_iload_n hx hb dX3_lay_22 rfl (lv_at hl 2 rfl) ?_
      refine lv_if_lt (tgt := 36) hx hb dX3_lay_23 (by decide) (fun c_23 => ?_) (fun c_23 => ?_)
      · have g4 : ¬ (¬ row < 0 ∧ ¬ S.2.2 3 j ≤ row) := fun q => q.1 c_23
        refine lv_ldc (v := (-1000008)) hx hb hown (hts (.constant RX3 72 (-1000008)) (by decide +kernel)) dX3_lay_36 ?_
        exact wRetI K hw dX3_lay_38 (pstM (by rw [sp_lay, if_pos hl0, kN_nI (by omega), if_neg c_16, if_neg g4]))
      · refine lv_iload_n hx hb dX3_lay_26 rfl (lv_at hl 2 rfl) ?_
        refine lv_aload_n hx hb dX3_lay_27 rfl (lv_at hl 0 rfl) ?_
        refine wGet (v := .ref (am 5)) K hw hiX3 wM_o rfl 4 (by decide) (by decide +kernel) rfl dX3_lay_28 ?_
        refine lv_iload_n hx hb dX3_lay_31 rfl (lv_at hl 1 rfl) ?_
        refine wIald (v := S.2.2 3 j) K hw wM_rows (in5 hj) (by rw [nI_clamp (by omega)]) dX3_lay_32 ?_
        refine lv_icmp_lt (tgt := 39) hx hb dX3_lay_33 (by decide) (fun c_33 => ?_) (fun c_33 => ?_)
        · have g4 : ¬ row < 0 ∧ ¬ S.2.2 3 j ≤ row := ⟨c_23, Int32.not_le.mpr c_33⟩
          refine lv_aload_n hx hb dX3_lay_39 rfl (lv_at hl 0 rfl) ?_
          refine wGet (v := .ref (am 3)) K hw hiX3 wM_o rfl 2 (by decide) (by decide +kernel) rfl dX3_lay_40 ?_
          refine lv_iload_n hx hb dX3_lay_43 rfl (lv_at hl 1 rfl) ?_
          refine wZald (v := S.2.2 0 j) K hw wM_on (in5 hj) (by rw [nI_clamp (by omega)]) dX3_lay_44 ?_
          refine lv_if_ne (tgt := 54) hx hb dX3_lay_45 (by decide) (fun c_45 => ?_) (fun c_45 => ?_)
          · refine lv_iload_n hx hb dX3_lay_54 rfl (lv_at hl 3 rfl) ?_
            refine lv_if_lt (tgt := 68) hx hb dX3_lay_55 (by decide) (fun c_55 => ?_) (fun c_55 => ?_)
            · have g5 : ¬ (¬ fr < 0 ∧ ¬ S.2.2 1 j < fr) := fun q => q.1 c_55
              refine lv_aload_n hx hb dX3_lay_68 rfl (lv_at hl 0 rfl) ?_
              refine lv_iload_n hx hb dX3_lay_69 rfl (lv_at hl 1 rfl) ?_
              refine wCallV (As := [.int (nI j)]) (rest := []) K hw (mX3_out l E am S j hj) (cwV 1 hts gX3_lay_X3_out rfl rfl rfl (by decide +kernel) ⟨Nat.le_of_ble_eq_true rfl, Nat.le_of_ble_eq_true rfl⟩) wM_o rfl rfl hl.1 rfl (Nat.le_of_ble_eq_true rfl) dX3_lay_70 ⟨Nat.zero_le _, Nat.zero_le _⟩ (fun r_70 w' H locs hr hw => ?_)
              obtain ⟨rfl, rfl⟩ := hr
              exact wRetI K hw dX3_lay_73 (pstM (by rw [sp_lay, if_pos hl0, kN_nI (by omega), if_neg c_16, if_pos g4, if_neg c_45, if_neg g5]))
            · refine lv_iload_n hx hb dX3_lay_58 rfl (lv_at hl 3 rfl) ?_
              refine lv_aload_n hx hb dX3_lay_59 rfl (lv_at hl 0 rfl) ?_
              refine wGet (v := .ref (am 2)) K hw hiX3 wM_o rfl 1 (by decide) (by decide +kernel) rfl dX3_lay_60 ?_
              refine lv_iload_n hx hb dX3_lay_63 rfl (lv_at hl 1 rfl) ?_
              refine wIald (v := S.2.2 1 j) K hw wM_sizes (in5 hj) (by rw [nI_clamp (by omega)]) dX3_lay_64 ?_
              refine lv_icmp_le (tgt := 74) hx hb dX3_lay_65 (by decide) (fun c_65 => ?_) (fun c_65 => ?_)
              · have g5 : ¬ fr < 0 ∧ ¬ S.2.2 1 j < fr := ⟨c_55, Int32.not_lt.mpr c_65⟩
                obtain ⟨n, hn, en⟩ := (hI.1 j hj).2.1
                obtain ⟨qc, hqc, eqc⟩ := (hI.1 j hj).2.2.2.2
                obtain ⟨rr, hrr, er⟩ := (hI.1 j hj).2.2.2.1
                obtain ⟨a, ha, rfl⟩ := lt_of_ix hrr (by omega) er g4.1 g4.2
                obtain ⟨f, hf, rfl⟩ := le_of_ix (by omega) en c_55 c_65
                have hM : lyM S j f = min (n - f) qc := by rw [lyM, en, eqc, nI_clamp (by omega), nI_clamp (by omega)]
                have hMq : lyM S j f ≤ qc := by rw [hM]; exact Nat.min_le_right _ _
                have hMn : lyM S j f ≤ n - f := by rw [hM]; exact Nat.min_le_left _ _
                have loop : ∀ (d i : Nat), i + d = lyM S j f → ∀ (H : Heap) (locs : List Loc) (ls : Array Slot), lv_has ls 5 [(4, .int (nI i)), (0, .ref (am 0)), (1, .int (nI j)), (2, .int (nI a)), (3, .int (nI f))] → wW E A s (wM E am (S.1, lyN S j a f i, S.2.2)) H locs → W p l e ({ frames := 1, cells := 0, slots := 0, locals := 21 } : Room) s m ([.ref (am 0), .int (nI j), .int (nI a), .int (nI f)] : List Value).toArray below meth c H locs 0 0 (MQ below (va_Qi (fun r w => r = (sp_lay S (nI j) (nI a) (nI f)).1 ∧ w = wM E am (sp_lay S (nI j) (nI a) (nI f)).2) (wAft E A) A) ([.ref (am 0), .int (nI j), .int (nI a), .int (nI f)] : List Value).toArray s 0 0 A) (F0 m 77 ls []) := by
                  intro d
                  induction d with
                  | zero =>
                    intro i hid H locs ls hl hw
                    refine lv_iload hx hb dX3_lay_77 (lv_at hl 0 rfl) ?_
                    refine lv_aload_n hx hb dX3_lay_79 rfl (lv_at hl 1 rfl) ?_
                    refine wGet (v := .ref (am 6)) K hw hiX3 wM_o rfl 5 (by decide) (by decide +kernel) rfl dX3_lay_80 ?_
                    refine lv_iload_n hx hb dX3_lay_83 rfl (lv_at hl 2 rfl) ?_
                    refine wIald (v := nI qc) K hw wM_cols (in5 hj) (by rw [nI_clamp (by omega)]; exact eqc) dX3_lay_84 ?_
                    refine lv_icmp_ge (tgt := 139) hx hb dX3_lay_85 (by decide) (fun c_85 => ?_) (fun c_85 => ?_)
                    · refine lv_iload hx hb dX3_lay_139 (lv_at hl 0 rfl) ?_
                      exact wRetI K hw dX3_lay_141 (pstM (by rw [sp_lay, if_pos hl0, kN_nI (by omega), if_neg c_16, if_pos g4, if_neg c_45, if_pos g5, kN_nI (by omega), kN_nI (by omega), show lyM S j f = i by omega]))
                    · refine lv_iload_n hx hb dX3_lay_88 rfl (lv_at hl 4 rfl) ?_
                      refine lv_iload hx hb dX3_lay_89 (lv_at hl 0 rfl) ?_
                      refine lv_iadd hx hb dX3_lay_91 ?_
                      rw [show ((nI f) + (nI i) : Int32) = nI (f + i) from nI_add f i]
                      refine lv_aload_n hx hb dX3_lay_92 rfl (lv_at hl 1 rfl) ?_
                      refine wGet (v := .ref (am 2)) K hw hiX3 wM_o rfl 1 (by decide) (by decide +kernel) rfl dX3_lay_93 ?_
                      refine lv_iload_n hx hb dX3_lay_96 rfl (lv_at hl 2 rfl) ?_
                      refine wIald (v := nI n) K hw wM_sizes (in5 hj) (by rw [nI_clamp (by omega)]; exact en) dX3_lay_97 ?_
                      refine lv_icmp_ge (tgt := 139) hx hb dX3_lay_98 (by decide) (fun c_98 => ?_) (fun c_98 => ?_)
                      · refine lv_iload hx hb dX3_lay_139 (lv_at hl 0 rfl) ?_
                        exact wRetI K hw dX3_lay_141 (pstM (by rw [sp_lay, if_pos hl0, kN_nI (by omega), if_neg c_16, if_pos g4, if_neg c_45, if_pos g5, kN_nI (by omega), kN_nI (by omega), show lyM S j f = i by omega]))
                      · have k1 : ¬ qc ≤ i := fun q => c_85 (nI_le q (by omega))
                        have k2 : ¬ n ≤ f + i := fun q => c_98 (nI_le q (by omega))
                        exact absurd hM (by omega)
                  | succ d ih =>
                    intro i hid H locs ls hl hw
                    refine lv_iload hx hb dX3_lay_77 (lv_at hl 0 rfl) ?_
                    refine lv_aload_n hx hb dX3_lay_79 rfl (lv_at hl 1 rfl) ?_
                    refine wGet (v := .ref (am 6)) K hw hiX3 wM_o rfl 5 (by decide) (by decide +kernel) rfl dX3_lay_80 ?_
                    refine lv_iload_n hx hb dX3_lay_83 rfl (lv_at hl 2 rfl) ?_
                    refine wIald (v := nI qc) K hw wM_cols (in5 hj) (by rw [nI_clamp (by omega)]; exact eqc) dX3_lay_84 ?_
                    refine lv_icmp_ge (tgt := 139) hx hb dX3_lay_85 (by decide) (fun c_85 => ?_) (fun c_85 => ?_)
                    · exact absurd c_85 (nI_ge (by omega) (by omega))
                    · refine lv_iload_n hx hb dX3_lay_88 rfl (lv_at hl 4 rfl) ?_
                      refine lv_iload hx hb dX3_lay_89 (lv_at hl 0 rfl) ?_
                      refine lv_iadd hx hb dX3_lay_91 ?_
                      rw [show ((nI f) + (nI i) : Int32) = nI (f + i) from nI_add f i]
                      refine lv_aload_n hx hb dX3_lay_92 rfl (lv_at hl 1 rfl) ?_
                      refine wGet (v := .ref (am 2)) K hw hiX3 wM_o rfl 1 (by decide) (by decide +kernel) rfl dX3_lay_93 ?_
                      refine lv_iload_n hx hb dX3_lay_96 rfl (lv_at hl 2 rfl) ?_
                      refine wIald (v := nI n) K hw wM_sizes (in5 hj) (by rw [nI_clamp (by omega)]; exact en) dX3_lay_97 ?_
                      refine lv_icmp_ge (tgt := 139) hx hb dX3_lay_98 (by decide) (fun c_98 => ?_) (fun c_98 => ?_)
                      · exact absurd c_98 (nI_ge (by omega) (by omega))
                      · refine lv_aload_n hx hb dX3_lay_101 rfl (lv_at hl 1 rfl) ?_
                        refine wGet (v := .ref (am 4)) K hw hiX3 wM_o rfl 3 (by decide) (by decide +kernel) rfl dX3_lay_102 ?_
                        refine lv_sipush (v := 256) hx hb dX3_lay_105 (by decide) ?_
                        refine lv_iload_n hx hb dX3_lay_108 rfl (lv_at hl 2 rfl) ?_
                        refine lv_imul hx hb dX3_lay_109 ?_
                        refine lv_bipush (v := 16) hx hb dX3_lay_110 (by decide) ?_
                        refine lv_iload_n hx hb dX3_lay_112 rfl (lv_at hl 3 rfl) ?_
                        refine lv_imul hx hb dX3_lay_113 ?_
                        refine lv_iadd hx hb dX3_lay_114 ?_
                        refine lv_iload hx hb dX3_lay_115 (lv_at hl 0 rfl) ?_
                        refine lv_iadd hx hb dX3_lay_117 ?_
                        rw [show (((256 * (nI j)) + (16 * (nI a))) + (nI i) : Int32) = nI (256 * j + (16 * a + i)) from ix256r]
                        refine lv_aload_n hx hb dX3_lay_118 rfl (lv_at hl 1 rfl) ?_
                        refine wGet (v := .ref (am 1)) K hw hiX3 wM_o rfl 0 (by decide) (by decide +kernel) rfl dX3_lay_119 ?_
                        refine lv_bipush (v := 60) hx hb dX3_lay_122 (by decide) ?_
                        refine lv_iload_n hx hb dX3_lay_124 rfl (lv_at hl 2 rfl) ?_
                        refine lv_imul hx hb dX3_lay_125 ?_
                        refine lv_iload_n hx hb dX3_lay_126 rfl (lv_at hl 4 rfl) ?_
                        refine lv_iadd hx hb dX3_lay_127 ?_
                        rw [show ((60 * (nI j)) + (nI f) : Int32) = nI (60 * j + f) from ix60]
                        refine lv_iload hx hb dX3_lay_128 (lv_at hl 0 rfl) ?_
                        refine lv_iadd hx hb dX3_lay_130 ?_
                        rw [show ((nI (60 * j + f)) + (nI i) : Int32) = nI (60 * j + (f + i)) from by rw [nI_add, Nat.add_assoc]]
                        refine wIald (v := S.1 j (f + i)) K hw wM_cells (vp_in_nI (by omega) (by omega)) (by rw [nI_clamp (by omega)]; exact gC_at (by omega)) dX3_lay_131 ?_
                        refine wIast K hw wM_sheets (vp_in_nI (by omega) (by omega)) dX3_lay_132 (wM_sNumI (by omega) (nI_clamp (by omega)) _) (fun H locs hw => ?_)
                        refine lv_iinc (v := nI (i + 1)) (lv' := [(4, .int (nI (i + 1))), (0, .ref (am 0)), (1, .int (nI j)), (2, .int (nI a)), (3, .int (nI f))]) hx hb dX3_lay_133 hl (k := 0) rfl (nI_1 i) (by decide) rfl (fun ls hl => ?_)
                        refine lv_goto (tgt := 77) hx hb dX3_lay_136 (by decide) ?_
                        exact ih (i + 1) (by omega) H locs ls hl (hw.to (by rw [sN, lyN_s]))
                refine lv_iconst (v := 0) hx hb dX3_lay_74 (by decide) ?_
                refine lv_istore (lv' := [(4, .int 0), (0, .ref (am 0)), (1, .int (nI j)), (2, .int (nI a)), (3, .int (nI f))]) hx hb dX3_lay_75 hl (by decide) rfl (fun ls hl => ?_)
                exact loop (lyM S j f) 0 (by omega) _ _ _ (by rw [nI_0]; exact hl) (hw.to (by rw [lyN_0]))
              · have g5 : ¬ (¬ fr < 0 ∧ ¬ S.2.2 1 j < fr) := fun q => q.2 (Int32.not_le.mp c_65)
                refine lv_aload_n hx hb dX3_lay_68 rfl (lv_at hl 0 rfl) ?_
                refine lv_iload_n hx hb dX3_lay_69 rfl (lv_at hl 1 rfl) ?_
                refine wCallV (As := [.int (nI j)]) (rest := []) K hw (mX3_out l E am S j hj) (cwV 1 hts gX3_lay_X3_out rfl rfl rfl (by decide +kernel) ⟨Nat.le_of_ble_eq_true rfl, Nat.le_of_ble_eq_true rfl⟩) wM_o rfl rfl hl.1 rfl (Nat.le_of_ble_eq_true rfl) dX3_lay_70 ⟨Nat.zero_le _, Nat.zero_le _⟩ (fun r_70 w' H locs hr hw => ?_)
                obtain ⟨rfl, rfl⟩ := hr
                exact wRetI K hw dX3_lay_73 (pstM (by rw [sp_lay, if_pos hl0, kN_nI (by omega), if_neg c_16, if_pos g4, if_neg c_45, if_neg g5]))
          · refine lv_aload_n hx hb dX3_lay_48 rfl (lv_at hl 0 rfl) ?_
            refine lv_iload_n hx hb dX3_lay_49 rfl (lv_at hl 1 rfl) ?_
            refine wCallV (As := [.int (nI j)]) (rest := []) K hw (mX3_off l E am S j hj) (cwV 1 hts gX3_lay_X3_off rfl rfl rfl (by decide +kernel) ⟨Nat.le_of_ble_eq_true rfl, Nat.le_of_ble_eq_true rfl⟩) wM_o rfl rfl hl.1 rfl (Nat.le_of_ble_eq_true rfl) dX3_lay_50 ⟨Nat.zero_le _, Nat.zero_le _⟩ (fun r_50 w' H locs hr hw => ?_)
            obtain ⟨rfl, rfl⟩ := hr
            exact wRetI K hw dX3_lay_53 (pstM (by rw [sp_lay, if_pos hl0, kN_nI (by omega), if_neg c_16, if_pos g4, if_pos c_45]))
        · have g4 : ¬ (¬ row < 0 ∧ ¬ S.2.2 3 j ≤ row) := fun q => q.2 (Int32.not_lt.mp c_33)
          refine lv_ldc (v := (-1000008)) hx hb hown (hts (.constant RX3 72 (-1000008)) (by decide +kernel)) dX3_lay_36 ?_
          exact wRetI K hw dX3_lay_38 (pstM (by rw [sp_lay, if_pos hl0, kN_nI (by omega), if_neg c_16, if_neg g4]))
    · refine lv_ldc (v := (-1000007)) hx hb hown (hts (.constant RX3 71 (-1000007)) (by decide +kernel)) dX3_lay_19 ?_
      exact wRetI K hw dX3_lay_21 (pstM (by rw [sp_lay, if_pos hl0, kN_nI (by omega), if_pos c_16]))
  · have hl0 := bI_f hr1 c_4
    refine lv_ldc (v := (-1000001)) hx hb hown (hts (.constant RX3 52 (-1000001)) (by decide +kernel)) dX3_lay_7 ?_
    exact wRetI K hw dX3_lay_9 (pstM (by rw [sp_lay, if_neg hl0]))
set_option maxHeartbeats 4000000 in
set_option maxRecDepth 100000 in
theorem mX3_at (l : Launch) (E : wE) (am : Nat → Nat) (S : SS) (hI : Inv S) (lane : Int32) (row : Int32) (col : Int32) : MCi l E yX3_at wsX3_at { frames := 1, cells := 0, slots := 0, locals := 20 } [.ref (am 0), .int lane, .int row, .int col] (wM E am S) (fun r w => r = (sp_at S lane row col).1 ∧ w = wM E am (sp_at S lane row col).2) := by
  refine wEnterI (cc := cX3_at) (nL := 4) (ret := (some .int)) (own := RX3) (by decide) rfl rfl (Nat.le_of_ble_eq_true rfl) ?_
  intro p e s m below meth c A ls K hl hw
  have hl : lv_has ls 4 [(0, .ref (am 0)), (1, .int lane), (2, .int row), (3, .int col)] := hl
  obtain ⟨hx, hb, -, hml, hown, hts, -, -, -⟩ := id K
  have hiX3 : ∀ w ∈ wsX30, w ∈ wsX3_at := by decide +kernel
  refine lv_iload_n hx hb dX3_at_0 rfl (lv_at hl 1 rfl) ?_
  refine wCallS (As := [.int lane]) (rest := []) K hw (mX3_isLane l E (wM E am S) lane) (va_cwS 1 hts gX3_at_X3_isLane rfl rfl rfl (by decide +kernel) ⟨Nat.le_of_ble_eq_true rfl, Nat.le_of_ble_eq_true rfl⟩)  rfl hl.1 rfl (Nat.le_of_ble_eq_true rfl) dX3_at_1 ⟨Nat.zero_le _, Nat.zero_le _⟩ (fun r_1 w' H locs hr hw => ?_)
  obtain ⟨hr1, rfl⟩ := hr
  refine lv_if_ne (tgt := 10) hx hb dX3_at_4 (by decide) (fun c_4 => ?_) (fun c_4 => ?_)
  · have hl0 := bI_t hr1 c_4
    obtain ⟨j, hj, rfl⟩ := isl_of hl0
    refine lv_aload_n hx hb dX3_at_10 rfl (lv_at hl 0 rfl) ?_
    refine wGet (v := .ref (am 7)) K hw hiX3 wM_o rfl 6 (by decide) (by decide +kernel) rfl dX3_at_11 ?_
    refine lv_iload_n hx hb dX3_at_14 rfl (lv_at hl 1 rfl) ?_
    refine wZald (v := S.2.2 2 j) K hw wM_ruled (in5 hj) (by rw [nI_clamp (by omega)]) dX3_at_15 ?_
    refine lv_if_ne (tgt := 22) hx hb dX3_at_16 (by decide) (fun c_16 => ?_) (fun c_16 => ?_)
    · refine lv_iload_n hx hb dX3_at_22 rfl (lv_at hl 2 rfl) ?_
      refine lv_if_lt (tgt := 36) hx hb dX3_at_23 (by decide) (fun c_23 => ?_) (fun c_23 => ?_)
      · have g4 : ¬ (¬ row < 0 ∧ ¬ S.2.2 3 j ≤ row) := fun q => q.1 c_23
        refine lv_ldc (v := (-1000008)) hx hb hown (hts (.constant RX3 72 (-1000008)) (by decide +kernel)) dX3_at_36 ?_
        exact wRetI K hw dX3_at_38 (pstM (by rw [sp_at, if_pos hl0, kN_nI (by omega), if_neg c_16, if_neg g4]))
      · refine lv_iload_n hx hb dX3_at_26 rfl (lv_at hl 2 rfl) ?_
        refine lv_aload_n hx hb dX3_at_27 rfl (lv_at hl 0 rfl) ?_
        refine wGet (v := .ref (am 5)) K hw hiX3 wM_o rfl 4 (by decide) (by decide +kernel) rfl dX3_at_28 ?_
        refine lv_iload_n hx hb dX3_at_31 rfl (lv_at hl 1 rfl) ?_
        refine wIald (v := S.2.2 3 j) K hw wM_rows (in5 hj) (by rw [nI_clamp (by omega)]) dX3_at_32 ?_
        refine lv_icmp_lt (tgt := 39) hx hb dX3_at_33 (by decide) (fun c_33 => ?_) (fun c_33 => ?_)
        · have g4 : ¬ row < 0 ∧ ¬ S.2.2 3 j ≤ row := ⟨c_23, Int32.not_le.mpr c_33⟩
          refine lv_iload_n hx hb dX3_at_39 rfl (lv_at hl 3 rfl) ?_
          refine lv_if_lt (tgt := 53) hx hb dX3_at_40 (by decide) (fun c_40 => ?_) (fun c_40 => ?_)
          · have g5 : ¬ (¬ col < 0 ∧ ¬ S.2.2 4 j ≤ col) := fun q => q.1 c_40
            refine lv_ldc (v := (-1000009)) hx hb hown (hts (.constant RX3 73 (-1000009)) (by decide +kernel)) dX3_at_53 ?_
            exact wRetI K hw dX3_at_55 (pstM (by rw [sp_at, if_pos hl0, kN_nI (by omega), if_neg c_16, if_pos g4, if_neg g5]))
          · refine lv_iload_n hx hb dX3_at_43 rfl (lv_at hl 3 rfl) ?_
            refine lv_aload_n hx hb dX3_at_44 rfl (lv_at hl 0 rfl) ?_
            refine wGet (v := .ref (am 6)) K hw hiX3 wM_o rfl 5 (by decide) (by decide +kernel) rfl dX3_at_45 ?_
            refine lv_iload_n hx hb dX3_at_48 rfl (lv_at hl 1 rfl) ?_
            refine wIald (v := S.2.2 4 j) K hw wM_cols (in5 hj) (by rw [nI_clamp (by omega)]) dX3_at_49 ?_
            refine lv_icmp_lt (tgt := 56) hx hb dX3_at_50 (by decide) (fun c_50 => ?_) (fun c_50 => ?_)
            · have g5 : ¬ col < 0 ∧ ¬ S.2.2 4 j ≤ col := ⟨c_40, Int32.not_le.mpr c_50⟩
              obtain ⟨qc, hqc, eqc⟩ := (hI.1 j hj).2.2.2.2
              obtain ⟨rr, hrr, er⟩ := (hI.1 j hj).2.2.2.1
              obtain ⟨a, ha, rfl⟩ := lt_of_ix hrr (by omega) er g4.1 g4.2
              obtain ⟨b, hb2, rfl⟩ := lt_of_ix hqc (by omega) eqc g5.1 g5.2
              refine lv_aload_n hx hb dX3_at_56 rfl (lv_at hl 0 rfl) ?_
              refine wGet (v := .ref (am 4)) K hw hiX3 wM_o rfl 3 (by decide) (by decide +kernel) rfl dX3_at_57 ?_
              refine lv_sipush (v := 256) hx hb dX3_at_60 (by decide) ?_
              refine lv_iload_n hx hb dX3_at_63 rfl (lv_at hl 1 rfl) ?_
              refine lv_imul hx hb dX3_at_64 ?_
              refine lv_bipush (v := 16) hx hb dX3_at_65 (by decide) ?_
              refine lv_iload_n hx hb dX3_at_67 rfl (lv_at hl 2 rfl) ?_
              refine lv_imul hx hb dX3_at_68 ?_
              refine lv_iadd hx hb dX3_at_69 ?_
              refine lv_iload_n hx hb dX3_at_70 rfl (lv_at hl 3 rfl) ?_
              refine lv_iadd hx hb dX3_at_71 ?_
              rw [show (((256 * (nI j)) + (16 * (nI a))) + (nI b) : Int32) = nI (256 * j + (16 * a + b)) from ix256r]
              refine wIald (v := S.2.1 j (16 * a + b)) K hw wM_sheets (vp_in_nI (by omega) (by omega)) (by rw [nI_clamp (by omega)]; exact gN_at (by omega)) dX3_at_72 ?_
              exact wRetI K hw dX3_at_73 (pstM (by rw [sp_at, if_pos hl0, kN_nI (by omega), if_neg c_16, if_pos g4, if_pos g5, kN_nI (by omega), kN_nI (by omega)]))
            · have g5 : ¬ (¬ col < 0 ∧ ¬ S.2.2 4 j ≤ col) := fun q => q.2 (Int32.not_lt.mp c_50)
              refine lv_ldc (v := (-1000009)) hx hb hown (hts (.constant RX3 73 (-1000009)) (by decide +kernel)) dX3_at_53 ?_
              exact wRetI K hw dX3_at_55 (pstM (by rw [sp_at, if_pos hl0, kN_nI (by omega), if_neg c_16, if_pos g4, if_neg g5]))
        · have g4 : ¬ (¬ row < 0 ∧ ¬ S.2.2 3 j ≤ row) := fun q => q.2 (Int32.not_lt.mp c_33)
          refine lv_ldc (v := (-1000008)) hx hb hown (hts (.constant RX3 72 (-1000008)) (by decide +kernel)) dX3_at_36 ?_
          exact wRetI K hw dX3_at_38 (pstM (by rw [sp_at, if_pos hl0, kN_nI (by omega), if_neg c_16, if_neg g4]))
    · refine lv_ldc (v := (-1000007)) hx hb hown (hts (.constant RX3 71 (-1000007)) (by decide +kernel)) dX3_at_19 ?_
      exact wRetI K hw dX3_at_21 (pstM (by rw [sp_at, if_pos hl0, kN_nI (by omega), if_pos c_16]))
  · have hl0 := bI_f hr1 c_4
    refine lv_ldc (v := (-1000001)) hx hb hown (hts (.constant RX3 52 (-1000001)) (by decide +kernel)) dX3_at_7 ?_
    exact wRetI K hw dX3_at_9 (pstM (by rw [sp_at, if_neg hl0]))
set_option maxHeartbeats 4000000 in
set_option maxRecDepth 100000 in
theorem mX3_head (l : Launch) (E : wE) (am : Nat → Nat) (S : SS) (hI : Inv S) (h : Int32) : MCi l E yX3_head wsX3_head { frames := 0, cells := 0, slots := 0, locals := 0 } [.ref (am 0), .int h] (wM E am S) (fun r w => r = (sp_head S h).1 ∧ w = wM E am (sp_head S h).2) := by
  refine wEnterI (cc := cX3_head) (nL := 3) (ret := (some .int)) (own := RX3) (by decide) rfl rfl (Nat.le_of_ble_eq_true rfl) ?_
  intro p e s m below meth c A ls K hl hw
  have hl : lv_has ls 3 [(0, .ref (am 0)), (1, .int h)] := hl
  obtain ⟨hx, hb, -, hml, hown, hts, -, -, -⟩ := id K
  have hiX3 : ∀ w ∈ wsX30, w ∈ wsX3_head := by decide +kernel
  refine lv_iload_n hx hb dX3_head_0 rfl (lv_at hl 1 rfl) ?_
  refine lv_bipush (v := 60) hx hb dX3_head_1 (by decide) ?_
  refine lv_icmp_le (tgt := 9) hx hb dX3_head_3 (by decide) (fun c_3 => ?_) (fun c_3 => ?_)
  · refine lv_iload_n hx hb dX3_head_9 rfl (lv_at hl 1 rfl) ?_
    refine lv_if_ge (tgt := 16) hx hb dX3_head_10 (by decide) (fun c_10 => ?_) (fun c_10 => ?_)
    · refine lv_aload_n hx hb dX3_head_16 rfl (lv_at hl 0 rfl) ?_
      refine wGet (v := .int (S.2.2 7 0)) K hw hiX3 wM_o rfl 9 (by decide) (by decide +kernel) rfl dX3_head_17 ?_
      refine lv_istore_n (lv' := [(2, .int (S.2.2 7 0)), (0, .ref (am 0)), (1, .int h)]) hx hb dX3_head_20 rfl hl (by decide) rfl (fun ls hl => ?_)
      refine lv_aload_n hx hb dX3_head_21 rfl (lv_at hl 1 rfl) ?_
      refine lv_iload_n hx hb dX3_head_22 rfl (lv_at hl 2 rfl) ?_
      refine wPut (ty := .int) K hw hiX3 tyX3 tyX3_ok nmX3 wM_o rfl 9 (by decide) (by decide +kernel) rfl (by decide +kernel) rfl rfl (Nat.le_of_ble_eq_true rfl) dX3_head_23 (wM_sG 0 (by decide) _) (fun H locs hw => ?_)
      refine lv_iload_n hx hb dX3_head_26 rfl (lv_at hl 0 rfl) ?_
      exact wRetI K hw dX3_head_27 (pstM (by rw [sp_head, if_pos c_3, if_pos c_10]))
    · refine lv_ldc (v := (-1000004)) hx hb hown (hts (.constant RX3 54 (-1000004)) (by decide +kernel)) dX3_head_13 ?_
      exact wRetI K hw dX3_head_15 (pstM (by rw [sp_head, if_pos c_3, if_neg c_10]))
  · refine lv_ldc (v := (-1000003)) hx hb hown (hts (.constant RX3 53 (-1000003)) (by decide +kernel)) dX3_head_6 ?_
    exact wRetI K hw dX3_head_8 (pstM (by rw [sp_head, if_neg c_3]))
set_option maxHeartbeats 4000000 in
set_option maxRecDepth 100000 in
theorem mX3_count (l : Launch) (E : wE) (am : Nat → Nat) (S : SS) (hI : Inv S) (x : Int32) : MCi l E yX3_count wsX3_count { frames := 0, cells := 0, slots := 0, locals := 0 } [.ref (am 0), .int x] (wM E am S) (fun r w => r = sp_count S x ∧ w = wM E am S) := by
  refine wEnterI (cc := cX3_count) (nL := 2) (ret := (some .int)) (own := RX3) (by decide) rfl rfl (Nat.le_of_ble_eq_true rfl) ?_
  intro p e s m below meth c A ls K hl hw
  have hl : lv_has ls 2 [(0, .ref (am 0)), (1, .int x)] := hl
  obtain ⟨hx, hb, -, hml, hown, hts, -, -, -⟩ := id K
  have hiX3 : ∀ w ∈ wsX30, w ∈ wsX3_count := by decide +kernel
  refine lv_iload_n hx hb dX3_count_0 rfl (lv_at hl 1 rfl) ?_
  refine lv_if_lt (tgt := 16) hx hb dX3_count_1 (by decide) (fun c_1 => ?_) (fun c_1 => ?_)
  · have hl0 : ¬ isl x := fun q => q.1 c_1
    refine lv_iload_n hx hb dX3_count_16 rfl (lv_at hl 1 rfl) ?_
    refine lv_iconst (v := 5) hx hb dX3_count_17 (by decide) ?_
    refine lv_icmp_lt (tgt := 36) hx hb dX3_count_18 (by decide) (fun c_18 => ?_) (fun c_18 => ?_)
    · have hg : ¬ (¬ x < 5 ∧ ¬ 10 ≤ x) := fun q => q.1 c_18
      refine lv_iload_n hx hb dX3_count_36 rfl (lv_at hl 1 rfl) ?_
      by_cases h10 : x = 10
      · subst h10
        refine lv_tableIn (off := 43) (tgt := 80) hx hb dX3_count_37 (by decide +kernel) (by decide +kernel) (by decide +kernel) (by decide) ?_
        refine lv_aload_n hx hb dX3_count_80 rfl (lv_at hl 0 rfl) ?_
        refine wGet (v := .int (S.2.2 7 0)) K hw hiX3 wM_o rfl 9 (by decide) (by decide +kernel) rfl dX3_count_81 ?_
        exact wRetI K hw dX3_count_84 ⟨by rw [sp_count, if_neg hl0, if_neg hg]; rfl, rfl⟩
      by_cases h11 : x = 11
      · subst h11
        refine lv_tableIn (off := 48) (tgt := 85) hx hb dX3_count_37 (by decide +kernel) (by decide +kernel) (by decide +kernel) (by decide) ?_
        refine lv_aload_n hx hb dX3_count_85 rfl (lv_at hl 0 rfl) ?_
        refine wGet (v := .int (S.2.2 7 1)) K hw hiX3 wM_o rfl 10 (by decide) (by decide +kernel) rfl dX3_count_86 ?_
        exact wRetI K hw dX3_count_89 ⟨by rw [sp_count, if_neg hl0, if_neg hg]; rfl, rfl⟩
      by_cases h12 : x = 12
      · subst h12
        refine lv_tableIn (off := 53) (tgt := 90) hx hb dX3_count_37 (by decide +kernel) (by decide +kernel) (by decide +kernel) (by decide) ?_
        refine lv_aload_n hx hb dX3_count_90 rfl (lv_at hl 0 rfl) ?_
        refine wGet (v := .int (S.2.2 7 2)) K hw hiX3 wM_o rfl 11 (by decide) (by decide +kernel) rfl dX3_count_91 ?_
        exact wRetI K hw dX3_count_94 ⟨by rw [sp_count, if_neg hl0, if_neg hg]; rfl, rfl⟩
      by_cases h13 : x = 13
      · subst h13
        refine lv_tableIn (off := 58) (tgt := 95) hx hb dX3_count_37 (by decide +kernel) (by decide +kernel) (by decide +kernel) (by decide) ?_
        refine lv_aload_n hx hb dX3_count_95 rfl (lv_at hl 0 rfl) ?_
        refine wGet (v := .int (S.2.2 7 3)) K hw hiX3 wM_o rfl 12 (by decide) (by decide +kernel) rfl dX3_count_96 ?_
        exact wRetI K hw dX3_count_99 ⟨by rw [sp_count, if_neg hl0, if_neg hg]; rfl, rfl⟩
      by_cases h14 : x = 14
      · subst h14
        refine lv_tableIn (off := 63) (tgt := 100) hx hb dX3_count_37 (by decide +kernel) (by decide +kernel) (by decide +kernel) (by decide) ?_
        refine lv_aload_n hx hb dX3_count_100 rfl (lv_at hl 0 rfl) ?_
        refine wGet (v := .int (S.2.2 7 4)) K hw hiX3 wM_o rfl 13 (by decide) (by decide +kernel) rfl dX3_count_101 ?_
        exact wRetI K hw dX3_count_104 ⟨by rw [sp_count, if_neg hl0, if_neg hg]; rfl, rfl⟩
      by_cases h15 : x = 15
      · subst h15
        refine lv_tableIn (off := 68) (tgt := 105) hx hb dX3_count_37 (by decide +kernel) (by decide +kernel) (by decide +kernel) (by decide) ?_
        refine lv_aload_n hx hb dX3_count_105 rfl (lv_at hl 0 rfl) ?_
        refine wGet (v := .int (S.2.2 7 5)) K hw hiX3 wM_o rfl 14 (by decide) (by decide +kernel) rfl dX3_count_106 ?_
        exact wRetI K hw dX3_count_109 ⟨by rw [sp_count, if_neg hl0, if_neg hg]; rfl, rfl⟩
      by_cases h16 : x = 16
      · subst h16
        refine lv_tableIn (off := 73) (tgt := 110) hx hb dX3_count_37 (by decide +kernel) (by decide +kernel) (by decide +kernel) (by decide) ?_
        refine lv_aload_n hx hb dX3_count_110 rfl (lv_at hl 0 rfl) ?_
        refine wGet (v := .int (S.2.2 7 6)) K hw hiX3 wM_o rfl 15 (by decide) (by decide +kernel) rfl dX3_count_111 ?_
        exact wRetI K hw dX3_count_114 ⟨by rw [sp_count, if_neg hl0, if_neg hg]; rfl, rfl⟩
      have hout : x.toInt < 10 ∨ 16 < x.toInt := by
        have q10 := lv_neT h10 (show (10 : Int32).toInt = 10 by decide)
        have q11 := lv_neT h11 (show (11 : Int32).toInt = 11 by decide)
        have q12 := lv_neT h12 (show (12 : Int32).toInt = 12 by decide)
        have q13 := lv_neT h13 (show (13 : Int32).toInt = 13 by decide)
        have q14 := lv_neT h14 (show (14 : Int32).toInt = 14 by decide)
        have q15 := lv_neT h15 (show (15 : Int32).toInt = 15 by decide)
        have q16 := lv_neT h16 (show (16 : Int32).toInt = 16 by decide)
        omega
      refine lv_tableOut (tgt := 115) hx hb dX3_count_37 hout (by decide) ?_
      refine lv_iconst (v := 0) hx hb dX3_count_115 (by decide) ?_
      exact wRetI K hw dX3_count_116 ⟨by rw [sp_count, if_neg hl0, if_neg hg, if_neg h10, if_neg h11, if_neg h12, if_neg h13, if_neg h14, if_neg h15, if_neg h16], rfl⟩
    · refine lv_iload_n hx hb dX3_count_21 rfl (lv_at hl 1 rfl) ?_
      refine lv_bipush (v := 10) hx hb dX3_count_22 (by decide) ?_
      refine lv_icmp_ge (tgt := 36) hx hb dX3_count_24 (by decide) (fun c_24 => ?_) (fun c_24 => ?_)
      · have hg : ¬ (¬ x < 5 ∧ ¬ 10 ≤ x) := fun q => q.2 c_24
        refine lv_iload_n hx hb dX3_count_36 rfl (lv_at hl 1 rfl) ?_
        by_cases h10 : x = 10
        · subst h10
          refine lv_tableIn (off := 43) (tgt := 80) hx hb dX3_count_37 (by decide +kernel) (by decide +kernel) (by decide +kernel) (by decide) ?_
          refine lv_aload_n hx hb dX3_count_80 rfl (lv_at hl 0 rfl) ?_
          refine wGet (v := .int (S.2.2 7 0)) K hw hiX3 wM_o rfl 9 (by decide) (by decide +kernel) rfl dX3_count_81 ?_
          exact wRetI K hw dX3_count_84 ⟨by rw [sp_count, if_neg hl0, if_neg hg]; rfl, rfl⟩
        by_cases h11 : x = 11
        · subst h11
          refine lv_tableIn (off := 48) (tgt := 85) hx hb dX3_count_37 (by decide +kernel) (by decide +kernel) (by decide +kernel) (by decide) ?_
          refine lv_aload_n hx hb dX3_count_85 rfl (lv_at hl 0 rfl) ?_
          refine wGet (v := .int (S.2.2 7 1)) K hw hiX3 wM_o rfl 10 (by decide) (by decide +kernel) rfl dX3_count_86 ?_
          exact wRetI K hw dX3_count_89 ⟨by rw [sp_count, if_neg hl0, if_neg hg]; rfl, rfl⟩
        by_cases h12 : x = 12
        · subst h12
          refine lv_tableIn (off := 53) (tgt := 90) hx hb dX3_count_37 (by decide +kernel) (by decide +kernel) (by decide +kernel) (by decide) ?_
          refine lv_aload_n hx hb dX3_count_90 rfl (lv_at hl 0 rfl) ?_
          refine wGet (v := .int (S.2.2 7 2)) K hw hiX3 wM_o rfl 11 (by decide) (by decide +kernel) rfl dX3_count_91 ?_
          exact wRetI K hw dX3_count_94 ⟨by rw [sp_count, if_neg hl0, if_neg hg]; rfl, rfl⟩
        by_cases h13 : x = 13
        · subst h13
          refine lv_tableIn (off := 58) (tgt := 95) hx hb dX3_count_37 (by decide +kernel) (by decide +kernel) (by decide +kernel) (by decide) ?_
          refine lv_aload_n hx hb dX3_count_95 rfl (lv_at hl 0 rfl) ?_
          refine wGet (v := .int (S.2.2 7 3)) K hw hiX3 wM_o rfl 12 (by decide) (by decide +kernel) rfl dX3_count_96 ?_
          exact wRetI K hw dX3_count_99 ⟨by rw [sp_count, if_neg hl0, if_neg hg]; rfl, rfl⟩
        by_cases h14 : x = 14
        · subst h14
          refine lv_tableIn (off := 63) (tgt := 100) hx hb dX3_count_37 (by decide +kernel) (by decide +kernel) (by decide +kernel) (by decide) ?_
          refine lv_aload_n hx hb dX3_count_100 rfl (lv_at hl 0 rfl) ?_
          refine wGet (v := .int (S.2.2 7 4)) K hw hiX3 wM_o rfl 13 (by decide) (by decide +kernel) rfl dX3_count_101 ?_
          exact wRetI K hw dX3_count_104 ⟨by rw [sp_count, if_neg hl0, if_neg hg]; rfl, rfl⟩
        by_cases h15 : x = 15
        · subst h15
          refine lv_tableIn (off := 68) (tgt := 105) hx hb dX3_count_37 (by decide +kernel) (by decide +kernel) (by decide +kernel) (by decide) ?_
          refine lv_aload_n hx hb dX3_count_105 rfl (lv_at hl 0 rfl) ?_
          refine wGet (v := .int (S.2.2 7 5)) K hw hiX3 wM_o rfl 14 (by decide) (by decide +kernel) rfl dX3_count_106 ?_
          exact wRetI K hw dX3_count_109 ⟨by rw [sp_count, if_neg hl0, if_neg hg]; rfl, rfl⟩
        by_cases h16 : x = 16
        · subst h16
          refine lv_tableIn (off := 73) (tgt := 110) hx hb dX3_count_37 (by decide +kernel) (by decide +kernel) (by decide +kernel) (by decide) ?_
          refine lv_aload_n hx hb dX3_count_110 rfl (lv_at hl 0 rfl) ?_
          refine wGet (v := .int (S.2.2 7 6)) K hw hiX3 wM_o rfl 15 (by decide) (by decide +kernel) rfl dX3_count_111 ?_
          exact wRetI K hw dX3_count_114 ⟨by rw [sp_count, if_neg hl0, if_neg hg]; rfl, rfl⟩
        have hout : x.toInt < 10 ∨ 16 < x.toInt := by
          have q10 := lv_neT h10 (show (10 : Int32).toInt = 10 by decide)
          have q11 := lv_neT h11 (show (11 : Int32).toInt = 11 by decide)
          have q12 := lv_neT h12 (show (12 : Int32).toInt = 12 by decide)
          have q13 := lv_neT h13 (show (13 : Int32).toInt = 13 by decide)
          have q14 := lv_neT h14 (show (14 : Int32).toInt = 14 by decide)
          have q15 := lv_neT h15 (show (15 : Int32).toInt = 15 by decide)
          have q16 := lv_neT h16 (show (16 : Int32).toInt = 16 by decide)
          omega
        refine lv_tableOut (tgt := 115) hx hb dX3_count_37 hout (by decide) ?_
        refine lv_iconst (v := 0) hx hb dX3_count_115 (by decide) ?_
        exact wRetI K hw dX3_count_116 ⟨by rw [sp_count, if_neg hl0, if_neg hg, if_neg h10, if_neg h11, if_neg h12, if_neg h13, if_neg h14, if_neg h15, if_neg h16], rfl⟩
      · have hg : ¬ x < 5 ∧ ¬ 10 ≤ x := ⟨c_18, c_24⟩
        obtain ⟨j, hj, ej⟩ := cnt5 hg
        refine lv_aload_n hx hb dX3_count_27 rfl (lv_at hl 0 rfl) ?_
        refine wGet (v := .ref (am 9)) K hw hiX3 wM_o rfl 8 (by decide) (by decide +kernel) rfl dX3_count_28 ?_
        refine lv_iload_n hx hb dX3_count_31 rfl (lv_at hl 1 rfl) ?_
        refine lv_iconst (v := 5) hx hb dX3_count_32 (by decide) ?_
        refine lv_isub hx hb dX3_count_33 ?_
        rw [show (x - 5 : Int32) = nI j from ej]
        refine wIald (v := S.2.2 6 j) K hw wM_outs (in5 hj) (by rw [nI_clamp (by omega)]) dX3_count_34 ?_
        exact wRetI K hw dX3_count_35 ⟨by rw [sp_count, if_neg hl0, if_pos hg, ej, kN_nI (by omega)], rfl⟩
  · refine lv_iload_n hx hb dX3_count_4 rfl (lv_at hl 1 rfl) ?_
    refine lv_iconst (v := 5) hx hb dX3_count_5 (by decide) ?_
    refine lv_icmp_ge (tgt := 16) hx hb dX3_count_6 (by decide) (fun c_6 => ?_) (fun c_6 => ?_)
    · have hl0 : ¬ isl x := fun q => q.2 c_6
      refine lv_iload_n hx hb dX3_count_16 rfl (lv_at hl 1 rfl) ?_
      refine lv_iconst (v := 5) hx hb dX3_count_17 (by decide) ?_
      refine lv_icmp_lt (tgt := 36) hx hb dX3_count_18 (by decide) (fun c_18 => ?_) (fun c_18 => ?_)
      · have hg : ¬ (¬ x < 5 ∧ ¬ 10 ≤ x) := fun q => q.1 c_18
        refine lv_iload_n hx hb dX3_count_36 rfl (lv_at hl 1 rfl) ?_
        by_cases h10 : x = 10
        · subst h10
          refine lv_tableIn (off := 43) (tgt := 80) hx hb dX3_count_37 (by decide +kernel) (by decide +kernel) (by decide +kernel) (by decide) ?_
          refine lv_aload_n hx hb dX3_count_80 rfl (lv_at hl 0 rfl) ?_
          refine wGet (v := .int (S.2.2 7 0)) K hw hiX3 wM_o rfl 9 (by decide) (by decide +kernel) rfl dX3_count_81 ?_
          exact wRetI K hw dX3_count_84 ⟨by rw [sp_count, if_neg hl0, if_neg hg]; rfl, rfl⟩
        by_cases h11 : x = 11
        · subst h11
          refine lv_tableIn (off := 48) (tgt := 85) hx hb dX3_count_37 (by decide +kernel) (by decide +kernel) (by decide +kernel) (by decide) ?_
          refine lv_aload_n hx hb dX3_count_85 rfl (lv_at hl 0 rfl) ?_
          refine wGet (v := .int (S.2.2 7 1)) K hw hiX3 wM_o rfl 10 (by decide) (by decide +kernel) rfl dX3_count_86 ?_
          exact wRetI K hw dX3_count_89 ⟨by rw [sp_count, if_neg hl0, if_neg hg]; rfl, rfl⟩
        by_cases h12 : x = 12
        · subst h12
          refine lv_tableIn (off := 53) (tgt := 90) hx hb dX3_count_37 (by decide +kernel) (by decide +kernel) (by decide +kernel) (by decide) ?_
          refine lv_aload_n hx hb dX3_count_90 rfl (lv_at hl 0 rfl) ?_
          refine wGet (v := .int (S.2.2 7 2)) K hw hiX3 wM_o rfl 11 (by decide) (by decide +kernel) rfl dX3_count_91 ?_
          exact wRetI K hw dX3_count_94 ⟨by rw [sp_count, if_neg hl0, if_neg hg]; rfl, rfl⟩
        by_cases h13 : x = 13
        · subst h13
          refine lv_tableIn (off := 58) (tgt := 95) hx hb dX3_count_37 (by decide +kernel) (by decide +kernel) (by decide +kernel) (by decide) ?_
          refine lv_aload_n hx hb dX3_count_95 rfl (lv_at hl 0 rfl) ?_
          refine wGet (v := .int (S.2.2 7 3)) K hw hiX3 wM_o rfl 12 (by decide) (by decide +kernel) rfl dX3_count_96 ?_
          exact wRetI K hw dX3_count_99 ⟨by rw [sp_count, if_neg hl0, if_neg hg]; rfl, rfl⟩
        by_cases h14 : x = 14
        · subst h14
          refine lv_tableIn (off := 63) (tgt := 100) hx hb dX3_count_37 (by decide +kernel) (by decide +kernel) (by decide +kernel) (by decide) ?_
          refine lv_aload_n hx hb dX3_count_100 rfl (lv_at hl 0 rfl) ?_
          refine wGet (v := .int (S.2.2 7 4)) K hw hiX3 wM_o rfl 13 (by decide) (by decide +kernel) rfl dX3_count_101 ?_
          exact wRetI K hw dX3_count_104 ⟨by rw [sp_count, if_neg hl0, if_neg hg]; rfl, rfl⟩
        by_cases h15 : x = 15
        · subst h15
          refine lv_tableIn (off := 68) (tgt := 105) hx hb dX3_count_37 (by decide +kernel) (by decide +kernel) (by decide +kernel) (by decide) ?_
          refine lv_aload_n hx hb dX3_count_105 rfl (lv_at hl 0 rfl) ?_
          refine wGet (v := .int (S.2.2 7 5)) K hw hiX3 wM_o rfl 14 (by decide) (by decide +kernel) rfl dX3_count_106 ?_
          exact wRetI K hw dX3_count_109 ⟨by rw [sp_count, if_neg hl0, if_neg hg]; rfl, rfl⟩
        by_cases h16 : x = 16
        · subst h16
          refine lv_tableIn (off := 73) (tgt := 110) hx hb dX3_count_37 (by decide +kernel) (by decide +kernel) (by decide +kernel) (by decide) ?_
          refine lv_aload_n hx hb dX3_count_110 rfl (lv_at hl 0 rfl) ?_
          refine wGet (v := .int (S.2.2 7 6)) K hw hiX3 wM_o rfl 15 (by decide) (by decide +kernel) rfl dX3_count_111 ?_
          exact wRetI K hw dX3_count_114 ⟨by rw [sp_count, if_neg hl0, if_neg hg]; rfl, rfl⟩
        have hout : x.toInt < 10 ∨ 16 < x.toInt := by
          have q10 := lv_neT h10 (show (10 : Int32).toInt = 10 by decide)
          have q11 := lv_neT h11 (show (11 : Int32).toInt = 11 by decide)
          have q12 := lv_neT h12 (show (12 : Int32).toInt = 12 by decide)
          have q13 := lv_neT h13 (show (13 : Int32).toInt = 13 by decide)
          have q14 := lv_neT h14 (show (14 : Int32).toInt = 14 by decide)
          have q15 := lv_neT h15 (show (15 : Int32).toInt = 15 by decide)
          have q16 := lv_neT h16 (show (16 : Int32).toInt = 16 by decide)
          omega
        refine lv_tableOut (tgt := 115) hx hb dX3_count_37 hout (by decide) ?_
        refine lv_iconst (v := 0) hx hb dX3_count_115 (by decide) ?_
        exact wRetI K hw dX3_count_116 ⟨by rw [sp_count, if_neg hl0, if_neg hg, if_neg h10, if_neg h11, if_neg h12, if_neg h13, if_neg h14, if_neg h15, if_neg h16], rfl⟩
      · refine lv_iload_n hx hb dX3_count_21 rfl (lv_at hl 1 rfl) ?_
        refine lv_bipush (v := 10) hx hb dX3_count_22 (by decide) ?_
        refine lv_icmp_ge (tgt := 36) hx hb dX3_count_24 (by decide) (fun c_24 => ?_) (fun c_24 => ?_)
        · have hg : ¬ (¬ x < 5 ∧ ¬ 10 ≤ x) := fun q => q.2 c_24
          refine lv_iload_n hx hb dX3_count_36 rfl (lv_at hl 1 rfl) ?_
          by_cases h10 : x = 10
          · subst h10
            refine lv_tableIn (off := 43) (tgt := 80) hx hb dX3_count_37 (by decide +kernel) (by decide +kernel) (by decide +kernel) (by decide) ?_
            refine lv_aload_n hx hb dX3_count_80 rfl (lv_at hl 0 rfl) ?_
            refine wGet (v := .int (S.2.2 7 0)) K hw hiX3 wM_o rfl 9 (by decide) (by decide +kernel) rfl dX3_count_81 ?_
            exact wRetI K hw dX3_count_84 ⟨by rw [sp_count, if_neg hl0, if_neg hg]; rfl, rfl⟩
          by_cases h11 : x = 11
          · subst h11
            refine lv_tableIn (off := 48) (tgt := 85) hx hb dX3_count_37 (by decide +kernel) (by decide +kernel) (by decide +kernel) (by decide) ?_
            refine lv_aload_n hx hb dX3_count_85 rfl (lv_at hl 0 rfl) ?_
            refine wGet (v := .int (S.2.2 7 1)) K hw hiX3 wM_o rfl 10 (by decide) (by decide +kernel) rfl dX3_count_86 ?_
            exact wRetI K hw dX3_count_89 ⟨by rw [sp_count, if_neg hl0, if_neg hg]; rfl, rfl⟩
          by_cases h12 : x = 12
          · subst h12
            refine lv_tableIn (off := 53) (tgt := 90) hx hb dX3_count_37 (by decide +kernel) (by decide +kernel) (by decide +kernel) (by decide) ?_
            refine lv_aload_n hx hb dX3_count_90 rfl (lv_at hl 0 rfl) ?_
            refine wGet (v := .int (S.2.2 7 2)) K hw hiX3 wM_o rfl 11 (by decide) (by decide +kernel) rfl dX3_count_91 ?_
            exact wRetI K hw dX3_count_94 ⟨by rw [sp_count, if_neg hl0, if_neg hg]; rfl, rfl⟩
          by_cases h13 : x = 13
          · subst h13
            refine lv_tableIn (off := 58) (tgt := 95) hx hb dX3_count_37 (by decide +kernel) (by decide +kernel) (by decide +kernel) (by decide) ?_
            refine lv_aload_n hx hb dX3_count_95 rfl (lv_at hl 0 rfl) ?_
            refine wGet (v := .int (S.2.2 7 3)) K hw hiX3 wM_o rfl 12 (by decide) (by decide +kernel) rfl dX3_count_96 ?_
            exact wRetI K hw dX3_count_99 ⟨by rw [sp_count, if_neg hl0, if_neg hg]; rfl, rfl⟩
          by_cases h14 : x = 14
          · subst h14
            refine lv_tableIn (off := 63) (tgt := 100) hx hb dX3_count_37 (by decide +kernel) (by decide +kernel) (by decide +kernel) (by decide) ?_
            refine lv_aload_n hx hb dX3_count_100 rfl (lv_at hl 0 rfl) ?_
            refine wGet (v := .int (S.2.2 7 4)) K hw hiX3 wM_o rfl 13 (by decide) (by decide +kernel) rfl dX3_count_101 ?_
            exact wRetI K hw dX3_count_104 ⟨by rw [sp_count, if_neg hl0, if_neg hg]; rfl, rfl⟩
          by_cases h15 : x = 15
          · subst h15
            refine lv_tableIn (off := 68) (tgt := 105) hx hb dX3_count_37 (by decide +kernel) (by decide +kernel) (by decide +kernel) (by decide) ?_
            refine lv_aload_n hx hb dX3_count_105 rfl (lv_at hl 0 rfl) ?_
            refine wGet (v := .int (S.2.2 7 5)) K hw hiX3 wM_o rfl 14 (by decide) (by decide +kernel) rfl dX3_count_106 ?_
            exact wRetI K hw dX3_count_109 ⟨by rw [sp_count, if_neg hl0, if_neg hg]; rfl, rfl⟩
          by_cases h16 : x = 16
          · subst h16
            refine lv_tableIn (off := 73) (tgt := 110) hx hb dX3_count_37 (by decide +kernel) (by decide +kernel) (by decide +kernel) (by decide) ?_
            refine lv_aload_n hx hb dX3_count_110 rfl (lv_at hl 0 rfl) ?_
            refine wGet (v := .int (S.2.2 7 6)) K hw hiX3 wM_o rfl 15 (by decide) (by decide +kernel) rfl dX3_count_111 ?_
            exact wRetI K hw dX3_count_114 ⟨by rw [sp_count, if_neg hl0, if_neg hg]; rfl, rfl⟩
          have hout : x.toInt < 10 ∨ 16 < x.toInt := by
            have q10 := lv_neT h10 (show (10 : Int32).toInt = 10 by decide)
            have q11 := lv_neT h11 (show (11 : Int32).toInt = 11 by decide)
            have q12 := lv_neT h12 (show (12 : Int32).toInt = 12 by decide)
            have q13 := lv_neT h13 (show (13 : Int32).toInt = 13 by decide)
            have q14 := lv_neT h14 (show (14 : Int32).toInt = 14 by decide)
            have q15 := lv_neT h15 (show (15 : Int32).toInt = 15 by decide)
            have q16 := lv_neT h16 (show (16 : Int32).toInt = 16 by decide)
            omega
          refine lv_tableOut (tgt := 115) hx hb dX3_count_37 hout (by decide) ?_
          refine lv_iconst (v := 0) hx hb dX3_count_115 (by decide) ?_
          exact wRetI K hw dX3_count_116 ⟨by rw [sp_count, if_neg hl0, if_neg hg, if_neg h10, if_neg h11, if_neg h12, if_neg h13, if_neg h14, if_neg h15, if_neg h16], rfl⟩
        · have hg : ¬ x < 5 ∧ ¬ 10 ≤ x := ⟨c_18, c_24⟩
          obtain ⟨j, hj, ej⟩ := cnt5 hg
          refine lv_aload_n hx hb dX3_count_27 rfl (lv_at hl 0 rfl) ?_
          refine wGet (v := .ref (am 9)) K hw hiX3 wM_o rfl 8 (by decide) (by decide +kernel) rfl dX3_count_28 ?_
          refine lv_iload_n hx hb dX3_count_31 rfl (lv_at hl 1 rfl) ?_
          refine lv_iconst (v := 5) hx hb dX3_count_32 (by decide) ?_
          refine lv_isub hx hb dX3_count_33 ?_
          rw [show (x - 5 : Int32) = nI j from ej]
          refine wIald (v := S.2.2 6 j) K hw wM_outs (in5 hj) (by rw [nI_clamp (by omega)]) dX3_count_34 ?_
          exact wRetI K hw dX3_count_35 ⟨by rw [sp_count, if_neg hl0, if_pos hg, ej, kN_nI (by omega)], rfl⟩
    · have hl0 : isl x := ⟨c_1, c_6⟩
      obtain ⟨j, hj, rfl⟩ := isl_of hl0
      refine lv_aload_n hx hb dX3_count_9 rfl (lv_at hl 0 rfl) ?_
      refine wGet (v := .ref (am 8)) K hw hiX3 wM_o rfl 7 (by decide) (by decide +kernel) rfl dX3_count_10 ?_
      refine lv_iload_n hx hb dX3_count_13 rfl (lv_at hl 1 rfl) ?_
      refine wIald (v := S.2.2 5 j) K hw wM_offs (in5 hj) (by rw [nI_clamp (by omega)]) dX3_count_14 ?_
      exact wRetI K hw dX3_count_15 ⟨by rw [sp_count, if_pos hl0, kN_nI (by omega)], rfl⟩
end
section
/-! playing, in the reference -/
theorem ix0 {q : Nat} : (0 : Int32) + nI q = nI (60 * 0 + q) := by
  rw [show (0 : Int32) = nI 0 from rfl, nI_add]
set_option maxHeartbeats 4000000 in
set_option maxRecDepth 100000 in
theorem mX3_has (l : Launch) (E : wE) (am : Nat → Nat) (S : SS) (hI : Inv S) (k : Nat) (hk : k < 5) : MCi l E yX3_has wsX3_has { frames := 0, cells := 0, slots := 0, locals := 0 } [.ref (am 0), .int (nI k)] (wM E am S) (fun r w => r = bI (hsC S k (S.2.2 7 0)) ∧ w = wM E am S) := by
  refine wEnterI (cc := cX3_has) (nL := 2) (ret := (some .boolean)) (own := RX3) (by decide) rfl rfl (Nat.le_of_ble_eq_true rfl) ?_
  intro p e s m below meth c A ls K hl hw
  have hl : lv_has ls 2 [(0, .ref (am 0)), (1, .int (nI k))] := hl
  obtain ⟨hx, hb, -, hml, hown, hts, -, -, -⟩ := id K
  have hiX3 : ∀ w ∈ wsX30, w ∈ wsX3_has := by decide +kernel
  refine lv_aload_n hx hb dX3_has_0 rfl (lv_at hl 0 rfl) ?_
  refine wGet (v := .ref (am 3)) K hw hiX3 wM_o rfl 2 (by decide) (by decide +kernel) rfl dX3_has_1 ?_
  refine lv_iload_n hx hb dX3_has_4 rfl (lv_at hl 1 rfl) ?_
  refine wZald (v := S.2.2 0 k) K hw wM_on (in5 hk) (by rw [nI_clamp (by omega)]) dX3_has_5 ?_
  refine lv_if_eq (tgt := 26) hx hb dX3_has_6 (by decide) (fun c_6 => ?_) (fun c_6 => ?_)
  · refine lv_iconst (v := 0) hx hb dX3_has_26 (by decide) ?_
    exact wRetZ K hw dX3_has_27 rfl ⟨bI_0 (fun q => q.1 c_6), rfl⟩
  · refine lv_aload_n hx hb dX3_has_9 rfl (lv_at hl 0 rfl) ?_
    refine wGet (v := .int (S.2.2 7 0)) K hw hiX3 wM_o rfl 9 (by decide) (by decide +kernel) rfl dX3_has_10 ?_
    refine lv_aload_n hx hb dX3_has_13 rfl (lv_at hl 0 rfl) ?_
    refine wGet (v := .ref (am 2)) K hw hiX3 wM_o rfl 1 (by decide) (by decide +kernel) rfl dX3_has_14 ?_
    refine lv_iload_n hx hb dX3_has_17 rfl (lv_at hl 1 rfl) ?_
    refine wIald (v := S.2.2 1 k) K hw wM_sizes (in5 hk) (by rw [nI_clamp (by omega)]) dX3_has_18 ?_
    refine lv_icmp_ge (tgt := 26) hx hb dX3_has_19 (by decide) (fun c_19 => ?_) (fun c_19 => ?_)
    · refine lv_iconst (v := 0) hx hb dX3_has_26 (by decide) ?_
      exact wRetZ K hw dX3_has_27 rfl ⟨bI_0 (fun q => q.2.2 c_19), rfl⟩
    · refine lv_iconst (v := 1) hx hb dX3_has_22 (by decide) ?_
      refine lv_goto (tgt := 27) hx hb dX3_has_23 (by decide) ?_
      exact wRetZ K hw dX3_has_27 rfl ⟨bI_1 ⟨c_6, hI.hd0, c_19⟩, rfl⟩
set_option maxHeartbeats 4000000 in
set_option maxRecDepth 100000 in
theorem mX3_told (l : Launch) (E : wE) (am : Nat → Nat) (S : SS) (hI : Inv S) (k : Nat) (hk : k < 5) (d : Int32) : MCi l E yX3_told wsX3_told { frames := 1, cells := 0, slots := 0, locals := 21 } [.ref (am 0), .int (nI k), .int d] (wM E am S) (fun r w => r = tld S k d ∧ w = wM E am S) := by
  refine wEnterI (cc := cX3_told) (nL := 3) (ret := (some .int)) (own := RX3) (by decide) rfl rfl (Nat.le_of_ble_eq_true rfl) ?_
  intro p e s m below meth c A ls K hl hw
  have hl : lv_has ls 3 [(0, .ref (am 0)), (1, .int (nI k)), (2, .int d)] := hl
  obtain ⟨hx, hb, -, hml, hown, hts, -, -, -⟩ := id K
  have hiX3 : ∀ w ∈ wsX30, w ∈ wsX3_told := by decide +kernel
  refine lv_aload_n hx hb dX3_told_0 rfl (lv_at hl 0 rfl) ?_
  refine lv_iload_n hx hb dX3_told_1 rfl (lv_at hl 1 rfl) ?_
  refine wCallV (As := [.int (nI k)]) (rest := []) K hw (mX3_has l E am S hI k hk) (cwV 1 hts gX3_told_X3_has rfl rfl rfl (by decide +kernel) ⟨Nat.le_of_ble_eq_true rfl, Nat.le_of_ble_eq_true rfl⟩) wM_o rfl rfl hl.1 rfl (Nat.le_of_ble_eq_true rfl) dX3_told_2 ⟨Nat.zero_le _, Nat.zero_le _⟩ (fun r_2 w' H locs hr hw => ?_)
  obtain ⟨hr2, rfl⟩ := hr
  refine lv_if_eq (tgt := 25) hx hb dX3_told_5 (by decide) (fun c_5 => ?_) (fun c_5 => ?_)
  · have h := bI_f hr2 c_5
    refine lv_iload_n hx hb dX3_told_25 rfl (lv_at hl 2 rfl) ?_
    exact wRetI K hw dX3_told_26 ⟨by rw [tld, if_neg h], rfl⟩
  · have h := bI_t hr2 c_5
    obtain ⟨q, hq, eq⟩ := hI.cell hk h
    refine lv_aload_n hx hb dX3_told_8 rfl (lv_at hl 0 rfl) ?_
    refine wGet (v := .ref (am 1)) K hw hiX3 wM_o rfl 0 (by decide) (by decide +kernel) rfl dX3_told_9 ?_
    refine lv_bipush (v := 60) hx hb dX3_told_12 (by decide) ?_
    refine lv_iload_n hx hb dX3_told_14 rfl (lv_at hl 1 rfl) ?_
    refine lv_imul hx hb dX3_told_15 ?_
    refine lv_aload_n hx hb dX3_told_16 rfl (lv_at hl 0 rfl) ?_
    refine wGet (v := .int (S.2.2 7 0)) K hw hiX3 wM_o rfl 9 (by decide) (by decide +kernel) rfl dX3_told_17 ?_
    refine lv_iadd hx hb dX3_told_20 ?_
    rw [show ((60 * (nI k)) + (S.2.2 7 0) : Int32) = nI (60 * k + q) from by rw [eq]; exact ix60]
    refine wIald (v := S.1 k (kN (S.2.2 7 0))) K hw wM_cells (vp_in_nI (by omega) (by omega)) (by rw [nI_clamp (by omega), gC_at hq, eq, kN_nI (by omega)]) dX3_told_21 ?_
    refine lv_goto (tgt := 26) hx hb dX3_told_22 (by decide) ?_
    exact wRetI K hw dX3_told_26 ⟨by rw [tld, if_pos h], rfl⟩
set_option maxHeartbeats 4000000 in
set_option maxRecDepth 100000 in
theorem mX3_less (l : Launch) (E : wE) (am : Nat → Nat) (S : SS) (k : Nat) (hk : k < 5) (q : Nat) (hq : q < 60) (eq : S.2.2 7 0 = nI q) : MCv l E yX3_less wsX3_less { frames := 0, cells := 0, slots := 0, locals := 0 } [.ref (am 0), .int (nI k)] (wM E am S) (fun w => w = wM E am (lws S k)) := by
  refine wEnterV (cc := cX3_less) (nL := 2) (ret := none) (own := RX3) (by decide) rfl rfl (Nat.le_of_ble_eq_true rfl) ?_
  intro p e s m below meth c A ls K hl hw hin
  have hl : lv_has ls 2 [(0, .ref (am 0)), (1, .int (nI k))] := hl
  obtain ⟨hx, hb, -, hml, hown, hts, -, -, -⟩ := id K
  have hiX3 : ∀ w ∈ wsX30, w ∈ wsX3_less := by decide +kernel
  refine lv_aload_n hx hb dX3_less_0 rfl (lv_at hl 0 rfl) ?_
  refine wGet (v := .ref (am 1)) K hw hiX3 wM_o rfl 0 (by decide) (by decide +kernel) rfl dX3_less_1 ?_
  refine lv_bipush (v := 60) hx hb dX3_less_4 (by decide) ?_
  refine lv_iload_n hx hb dX3_less_6 rfl (lv_at hl 1 rfl) ?_
  refine lv_imul hx hb dX3_less_7 ?_
  refine lv_aload_n hx hb dX3_less_8 rfl (lv_at hl 0 rfl) ?_
  refine wGet (v := .int (S.2.2 7 0)) K hw hiX3 wM_o rfl 9 (by decide) (by decide +kernel) rfl dX3_less_9 ?_
  refine lv_iadd hx hb dX3_less_12 ?_
  rw [show ((60 * (nI k)) + (S.2.2 7 0) : Int32) = nI (60 * k + q) from by rw [eq]; exact ix60]
  refine lv_aload_n hx hb dX3_less_13 rfl (lv_at hl 0 rfl) ?_
  refine wGet (v := .ref (am 1)) K hw hiX3 wM_o rfl 0 (by decide) (by decide +kernel) rfl dX3_less_14 ?_
  refine lv_bipush (v := 60) hx hb dX3_less_17 (by decide) ?_
  refine lv_iload_n hx hb dX3_less_19 rfl (lv_at hl 1 rfl) ?_
  refine lv_imul hx hb dX3_less_20 ?_
  refine lv_aload_n hx hb dX3_less_21 rfl (lv_at hl 0 rfl) ?_
  refine wGet (v := .int (S.2.2 7 0)) K hw hiX3 wM_o rfl 9 (by decide) (by decide +kernel) rfl dX3_less_22 ?_
  refine lv_iadd hx hb dX3_less_25 ?_
  rw [show ((60 * (nI k)) + (S.2.2 7 0) : Int32) = nI (60 * k + q) from by rw [eq]; exact ix60]
  refine wIald (v := S.1 k q) K hw wM_cells (vp_in_nI (by omega) (by omega)) (by rw [nI_clamp (by omega)]; exact gC_at hq) dX3_less_26 ?_
  refine lv_iconst (v := 1) hx hb dX3_less_27 (by decide) ?_
  refine lv_isub hx hb dX3_less_28 ?_
  refine wIast K hw wM_cells (vp_in_nI (by omega) (by omega)) dX3_less_29 (wM_sCellI hq (nI_clamp (by omega)) _) (fun H locs hw => ?_)
  exact wRetV K hw dX3_less_30 (by rw [lws, eq, kN_nI (by omega)])
set_option maxHeartbeats 4000000 in
set_option maxRecDepth 100000 in
theorem mX3_note (l : Launch) (E : wE) (am : Nat → Nat) (S : SS) (hI : Inv S) : MCv l E yX3_note wsX3_note { frames := 2, cells := 0, slots := 0, locals := 43 } [.ref (am 0)] (wM E am S) (fun w => w = wM E am (nte S)) := by
  refine wEnterV (cc := cX3_note) (nL := 2) (ret := none) (own := RX3) (by decide) rfl rfl (Nat.le_of_ble_eq_true rfl) ?_
  intro p e s m below meth c A ls K hl hw hin
  have hl : lv_has ls 2 [(0, .ref (am 0))] := hl
  obtain ⟨hx, hb, -, hml, hown, hts, -, -, -⟩ := id K
  have hiX3 : ∀ w ∈ wsX30, w ∈ wsX3_note := by decide +kernel
  refine lv_aload_n hx hb dX3_note_0 rfl (lv_at hl 0 rfl) ?_
  refine lv_iconst (v := 1) hx hb dX3_note_1 (by decide) ?_
  refine lv_iconst (v := 1) hx hb dX3_note_2 (by decide) ?_
  refine wCallV (As := [.int 1, .int 1]) (rest := []) K hw (mX3_told l E am S hI 1 (by decide) 1) (cwV 2 hts gX3_note_X3_told rfl rfl rfl (by decide +kernel) ⟨Nat.le_of_ble_eq_true rfl, Nat.le_of_ble_eq_true rfl⟩) wM_o rfl rfl hl.1 rfl (Nat.le_of_ble_eq_true rfl) dX3_note_3 ⟨Nat.zero_le _, Nat.zero_le _⟩ (fun r_3 w' H locs hr hw => ?_)
  obtain ⟨hq, rfl⟩ := hr
  obtain rfl := hq
  refine lv_istore_n (lv' := [(1, .int (tld S 1 1)), (0, .ref (am 0))]) hx hb dX3_note_6 rfl hl (by decide) rfl (fun ls hl => ?_)
  refine lv_aload_n hx hb dX3_note_7 rfl (lv_at hl 1 rfl) ?_
  refine lv_iconst (v := 3) hx hb dX3_note_8 (by decide) ?_
  refine lv_iconst (v := 0) hx hb dX3_note_9 (by decide) ?_
  refine wCallV (As := [.int 3, .int 0]) (rest := []) K hw (mX3_told l E am S hI 3 (by decide) 0) (cwV 2 hts gX3_note_X3_told rfl rfl rfl (by decide +kernel) ⟨Nat.le_of_ble_eq_true rfl, Nat.le_of_ble_eq_true rfl⟩) wM_o rfl rfl hl.1 rfl (Nat.le_of_ble_eq_true rfl) dX3_note_10 ⟨Nat.zero_le _, Nat.zero_le _⟩ (fun r_10 w' H locs hr hw => ?_)
  obtain ⟨hq, rfl⟩ := hr
  obtain rfl := hq
  refine lv_iconst (v := 1) hx hb dX3_note_13 (by decide) ?_
  refine lv_icmp_ne (tgt := 23) hx hb dX3_note_14 (by decide) (fun c_14 => ?_) (fun c_14 => ?_)
  · refine lv_iload_n hx hb dX3_note_23 rfl (lv_at hl 0 rfl) ?_
    refine lv_istore_n (lv' := [(1, .int (tld S 1 1)), (0, .ref (am 0))]) hx hb dX3_note_24 rfl hl (by decide) rfl (fun ls hl => ?_)
    rw [show tld S 1 1 = tt S from (if_neg c_14).symm] at hl
    refine lv_aload_n hx hb dX3_note_25 rfl (lv_at hl 1 rfl) ?_
    refine lv_aload_n hx hb dX3_note_26 rfl (lv_at hl 1 rfl) ?_
    refine wGet (v := .int (S.2.2 7 1)) K hw hiX3 wM_o rfl 10 (by decide) (by decide +kernel) rfl dX3_note_27 ?_
    refine lv_iload_n hx hb dX3_note_30 rfl (lv_at hl 0 rfl) ?_
    refine lv_iadd hx hb dX3_note_31 ?_
    refine wPut (ty := .int) K hw hiX3 tyX3 tyX3_ok nmX3 wM_o rfl 10 (by decide) (by decide +kernel) rfl (by decide +kernel) rfl rfl (Nat.le_of_ble_eq_true rfl) dX3_note_32 (wM_sG 1 (by decide) _) (fun H locs hw => ?_)
    refine lv_aload_n hx hb dX3_note_35 rfl (lv_at hl 1 rfl) ?_
    refine lv_aload_n hx hb dX3_note_36 rfl (lv_at hl 1 rfl) ?_
    refine wGet (v := .int (S.2.2 7 4)) K hw hiX3 wM_o rfl 13 (by decide) (by decide +kernel) rfl dX3_note_37 ?_
    refine lv_iconst (v := 1) hx hb dX3_note_40 (by decide) ?_
    refine lv_iadd hx hb dX3_note_41 ?_
    refine wPut (ty := .int) K hw hiX3 tyX3 tyX3_ok nmX3 wM_o rfl 13 (by decide) (by decide +kernel) rfl (by decide +kernel) rfl rfl (Nat.le_of_ble_eq_true rfl) dX3_note_42 (wM_sG 4 (by decide) _) (fun H locs hw => ?_)
    refine lv_aload_n hx hb dX3_note_45 rfl (lv_at hl 1 rfl) ?_
    refine lv_aload_n hx hb dX3_note_46 rfl (lv_at hl 1 rfl) ?_
    refine wGet (v := .int (S.2.2 7 5)) K hw hiX3 wM_o rfl 14 (by decide) (by decide +kernel) rfl dX3_note_47 ?_
    refine lv_iload_n hx hb dX3_note_50 rfl (lv_at hl 0 rfl) ?_
    refine lv_aload_n hx hb dX3_note_51 rfl (lv_at hl 1 rfl) ?_
    refine lv_iconst (v := 4) hx hb dX3_note_52 (by decide) ?_
    refine lv_iconst (v := 0) hx hb dX3_note_53 (by decide) ?_
    refine wCallV (As := [.int 4, .int 0]) (rest := [.int (tt S), .int (S.2.2 7 5), .ref (am 0)]) K hw (mX3_told l E am (sV (sV S 7 1 (S.2.2 7 1 + tt S)) 7 4 (S.2.2 7 4 + 1)) ((hI.setg (by decide) (by decide) _).setg (by decide) (by decide) _) 4 (by decide) 0) (cwV 2 hts gX3_note_X3_told rfl rfl rfl (by decide +kernel) ⟨Nat.le_of_ble_eq_true rfl, Nat.le_of_ble_eq_true rfl⟩) wM_o rfl rfl hl.1 rfl (Nat.le_of_ble_eq_true rfl) dX3_note_54 ⟨Nat.zero_le _, Nat.zero_le _⟩ (fun r_54 w' H locs hr hw => ?_)
    obtain ⟨hq, rfl⟩ := hr
    obtain rfl := hq
    refine lv_aload_n hx hb dX3_note_57 rfl (lv_at hl 1 rfl) ?_
    refine wGet (v := .int (S.2.2 7 2)) K hw hiX3 wM_o rfl 11 (by decide) (by decide +kernel) rfl dX3_note_58 ?_
    refine lv_iadd hx hb dX3_note_61 ?_
    refine lv_imul hx hb dX3_note_62 ?_
    refine lv_iadd hx hb dX3_note_63 ?_
    refine wPut (ty := .int) K hw hiX3 tyX3 tyX3_ok nmX3 wM_o rfl 14 (by decide) (by decide +kernel) rfl (by decide +kernel) rfl rfl (Nat.le_of_ble_eq_true rfl) dX3_note_64 (wM_sG 5 (by decide) _) (fun H locs hw => ?_)
    refine lv_aload_n hx hb dX3_note_67 rfl (lv_at hl 1 rfl) ?_
    refine lv_aload_n hx hb dX3_note_68 rfl (lv_at hl 1 rfl) ?_
    refine wGet (v := .int (S.2.2 7 5 + tt S * (tld S 4 0 + S.2.2 7 2))) K hw hiX3 wM_o rfl 14 (by decide) (by decide +kernel) rfl dX3_note_69 ?_
    refine lv_aload_n hx hb dX3_note_72 rfl (lv_at hl 1 rfl) ?_
    refine lv_iconst (v := 2) hx hb dX3_note_73 (by decide) ?_
    refine lv_bipush (v := 8) hx hb dX3_note_74 (by decide) ?_
    refine wCallV (As := [.int 2, .int 8]) (rest := [.int (S.2.2 7 5 + tt S * (tld S 4 0 + S.2.2 7 2)), .ref (am 0)]) K hw (mX3_told l E am (sV (sV (sV S 7 1 (S.2.2 7 1 + tt S)) 7 4 (S.2.2 7 4 + 1)) 7 5 (S.2.2 7 5 + tt S * (tld S 4 0 + S.2.2 7 2))) (((hI.setg (by decide) (by decide) _).setg (by decide) (by decide) _).setg (by decide) (by decide) _) 2 (by decide) 8) (cwV 2 hts gX3_note_X3_told rfl rfl rfl (by decide +kernel) ⟨Nat.le_of_ble_eq_true rfl, Nat.le_of_ble_eq_true rfl⟩) wM_o rfl rfl hl.1 rfl (Nat.le_of_ble_eq_true rfl) dX3_note_76 ⟨Nat.zero_le _, Nat.zero_le _⟩ (fun r_76 w' H locs hr hw => ?_)
    obtain ⟨hq, rfl⟩ := hr
    obtain rfl := hq
    refine lv_iadd hx hb dX3_note_79 ?_
    refine wPut (ty := .int) K hw hiX3 tyX3 tyX3_ok nmX3 wM_o rfl 14 (by decide) (by decide +kernel) rfl (by decide +kernel) rfl rfl (Nat.le_of_ble_eq_true rfl) dX3_note_80 (wM_sG 5 (by decide) _) (fun H locs hw => ?_)
    exact wRetV K hw dX3_note_83 rfl
  · refine lv_iconst (v := 2) hx hb dX3_note_17 (by decide) ?_
    refine lv_iload_n hx hb dX3_note_18 rfl (lv_at hl 0 rfl) ?_
    refine lv_imul hx hb dX3_note_19 ?_
    refine lv_goto (tgt := 24) hx hb dX3_note_20 (by decide) ?_
    refine lv_istore_n (lv' := [(1, .int (2 * (tld S 1 1))), (0, .ref (am 0))]) hx hb dX3_note_24 rfl hl (by decide) rfl (fun ls hl => ?_)
    rw [show (2 * tld S 1 1 : Int32) = tt S from (if_pos c_14).symm] at hl
    refine lv_aload_n hx hb dX3_note_25 rfl (lv_at hl 1 rfl) ?_
    refine lv_aload_n hx hb dX3_note_26 rfl (lv_at hl 1 rfl) ?_
    refine wGet (v := .int (S.2.2 7 1)) K hw hiX3 wM_o rfl 10 (by decide) (by decide +kernel) rfl dX3_note_27 ?_
    refine lv_iload_n hx hb dX3_note_30 rfl (lv_at hl 0 rfl) ?_
    refine lv_iadd hx hb dX3_note_31 ?_
    refine wPut (ty := .int) K hw hiX3 tyX3 tyX3_ok nmX3 wM_o rfl 10 (by decide) (by decide +kernel) rfl (by decide +kernel) rfl rfl (Nat.le_of_ble_eq_true rfl) dX3_note_32 (wM_sG 1 (by decide) _) (fun H locs hw => ?_)
    refine lv_aload_n hx hb dX3_note_35 rfl (lv_at hl 1 rfl) ?_
    refine lv_aload_n hx hb dX3_note_36 rfl (lv_at hl 1 rfl) ?_
    refine wGet (v := .int (S.2.2 7 4)) K hw hiX3 wM_o rfl 13 (by decide) (by decide +kernel) rfl dX3_note_37 ?_
    refine lv_iconst (v := 1) hx hb dX3_note_40 (by decide) ?_
    refine lv_iadd hx hb dX3_note_41 ?_
    refine wPut (ty := .int) K hw hiX3 tyX3 tyX3_ok nmX3 wM_o rfl 13 (by decide) (by decide +kernel) rfl (by decide +kernel) rfl rfl (Nat.le_of_ble_eq_true rfl) dX3_note_42 (wM_sG 4 (by decide) _) (fun H locs hw => ?_)
    refine lv_aload_n hx hb dX3_note_45 rfl (lv_at hl 1 rfl) ?_
    refine lv_aload_n hx hb dX3_note_46 rfl (lv_at hl 1 rfl) ?_
    refine wGet (v := .int (S.2.2 7 5)) K hw hiX3 wM_o rfl 14 (by decide) (by decide +kernel) rfl dX3_note_47 ?_
    refine lv_iload_n hx hb dX3_note_50 rfl (lv_at hl 0 rfl) ?_
    refine lv_aload_n hx hb dX3_note_51 rfl (lv_at hl 1 rfl) ?_
    refine lv_iconst (v := 4) hx hb dX3_note_52 (by decide) ?_
    refine lv_iconst (v := 0) hx hb dX3_note_53 (by decide) ?_
    refine wCallV (As := [.int 4, .int 0]) (rest := [.int (tt S), .int (S.2.2 7 5), .ref (am 0)]) K hw (mX3_told l E am (sV (sV S 7 1 (S.2.2 7 1 + tt S)) 7 4 (S.2.2 7 4 + 1)) ((hI.setg (by decide) (by decide) _).setg (by decide) (by decide) _) 4 (by decide) 0) (cwV 2 hts gX3_note_X3_told rfl rfl rfl (by decide +kernel) ⟨Nat.le_of_ble_eq_true rfl, Nat.le_of_ble_eq_true rfl⟩) wM_o rfl rfl hl.1 rfl (Nat.le_of_ble_eq_true rfl) dX3_note_54 ⟨Nat.zero_le _, Nat.zero_le _⟩ (fun r_54 w' H locs hr hw => ?_)
    obtain ⟨hq, rfl⟩ := hr
    obtain rfl := hq
    refine lv_aload_n hx hb dX3_note_57 rfl (lv_at hl 1 rfl) ?_
    refine wGet (v := .int (S.2.2 7 2)) K hw hiX3 wM_o rfl 11 (by decide) (by decide +kernel) rfl dX3_note_58 ?_
    refine lv_iadd hx hb dX3_note_61 ?_
    refine lv_imul hx hb dX3_note_62 ?_
    refine lv_iadd hx hb dX3_note_63 ?_
    refine wPut (ty := .int) K hw hiX3 tyX3 tyX3_ok nmX3 wM_o rfl 14 (by decide) (by decide +kernel) rfl (by decide +kernel) rfl rfl (Nat.le_of_ble_eq_true rfl) dX3_note_64 (wM_sG 5 (by decide) _) (fun H locs hw => ?_)
    refine lv_aload_n hx hb dX3_note_67 rfl (lv_at hl 1 rfl) ?_
    refine lv_aload_n hx hb dX3_note_68 rfl (lv_at hl 1 rfl) ?_
    refine wGet (v := .int (S.2.2 7 5 + tt S * (tld S 4 0 + S.2.2 7 2))) K hw hiX3 wM_o rfl 14 (by decide) (by decide +kernel) rfl dX3_note_69 ?_
    refine lv_aload_n hx hb dX3_note_72 rfl (lv_at hl 1 rfl) ?_
    refine lv_iconst (v := 2) hx hb dX3_note_73 (by decide) ?_
    refine lv_bipush (v := 8) hx hb dX3_note_74 (by decide) ?_
    refine wCallV (As := [.int 2, .int 8]) (rest := [.int (S.2.2 7 5 + tt S * (tld S 4 0 + S.2.2 7 2)), .ref (am 0)]) K hw (mX3_told l E am (sV (sV (sV S 7 1 (S.2.2 7 1 + tt S)) 7 4 (S.2.2 7 4 + 1)) 7 5 (S.2.2 7 5 + tt S * (tld S 4 0 + S.2.2 7 2))) (((hI.setg (by decide) (by decide) _).setg (by decide) (by decide) _).setg (by decide) (by decide) _) 2 (by decide) 8) (cwV 2 hts gX3_note_X3_told rfl rfl rfl (by decide +kernel) ⟨Nat.le_of_ble_eq_true rfl, Nat.le_of_ble_eq_true rfl⟩) wM_o rfl rfl hl.1 rfl (Nat.le_of_ble_eq_true rfl) dX3_note_76 ⟨Nat.zero_le _, Nat.zero_le _⟩ (fun r_76 w' H locs hr hw => ?_)
    obtain ⟨hq, rfl⟩ := hr
    obtain rfl := hq
    refine lv_iadd hx hb dX3_note_79 ?_
    refine wPut (ty := .int) K hw hiX3 tyX3 tyX3_ok nmX3 wM_o rfl 14 (by decide) (by decide +kernel) rfl (by decide +kernel) rfl rfl (Nat.le_of_ble_eq_true rfl) dX3_note_80 (wM_sG 5 (by decide) _) (fun H locs hw => ?_)
    exact wRetV K hw dX3_note_83 rfl
set_option maxHeartbeats 4000000 in
set_option maxRecDepth 100000 in
theorem mX3_step (l : Launch) (E : wE) (am : Nat → Nat) (S : SS) (hI : Inv S) (hc : hsC S 0 (S.2.2 7 0)) : MCv l E yX3_step wsX3_step { frames := 3, cells := 0, slots := 0, locals := 64 } [.ref (am 0)] (wM E am S) (fun w => w = wM E am (stp S (S.1 0 (kN (S.2.2 7 0))))) := by
  refine wEnterV (cc := cX3_step) (nL := 2) (ret := none) (own := RX3) (by decide) rfl rfl (Nat.le_of_ble_eq_true rfl) ?_
  intro p e s m below meth c A ls K hl hw hin
  have hl : lv_has ls 2 [(0, .ref (am 0))] := hl
  obtain ⟨hx, hb, -, hml, hown, hts, -, -, -⟩ := id K
  have hiX3 : ∀ w ∈ wsX30, w ∈ wsX3_step := by decide +kernel
  obtain ⟨q, hq, eq⟩ := hI.cell (by decide) hc
  refine lv_aload_n hx hb dX3_step_0 rfl (lv_at hl 0 rfl) ?_
  refine wGet (v := .ref (am 1)) K hw hiX3 wM_o rfl 0 (by decide) (by decide +kernel) rfl dX3_step_1 ?_
  refine lv_iconst (v := 0) hx hb dX3_step_4 (by decide) ?_
  refine lv_aload_n hx hb dX3_step_5 rfl (lv_at hl 0 rfl) ?_
  refine wGet (v := .int (S.2.2 7 0)) K hw hiX3 wM_o rfl 9 (by decide) (by decide +kernel) rfl dX3_step_6 ?_
  refine lv_iadd hx hb dX3_step_9 ?_
  rw [show (0 + (S.2.2 7 0) : Int32) = nI (60 * 0 + q) from by rw [eq]; exact ix0]
  refine wIald (v := S.1 0 (kN (S.2.2 7 0))) K hw wM_cells (vp_in_nI (by omega) (by omega)) (by rw [nI_clamp (by omega), gC_at hq, eq, kN_nI (by omega)]) dX3_step_10 ?_
  refine lv_topi (fun g eg => ?_)
  refine lv_istore_n (lv' := [(1, .int g), (0, .ref (am 0))]) hx hb dX3_step_11 rfl hl (by decide) rfl (fun ls hl => ?_)
  refine lv_iload_n hx hb dX3_step_12 rfl (lv_at hl 0 rfl) ?_
  refine lv_bipush (v := 114) hx hb dX3_step_13 (by decide) ?_
  refine lv_icmp_ne (tgt := 41) hx hb dX3_step_15 (by decide) (fun c_15 => ?_) (fun c_15 => ?_)
  · refine lv_iload_n hx hb dX3_step_41 rfl (lv_at hl 0 rfl) ?_
    refine lv_bipush (v := 46) hx hb dX3_step_42 (by decide) ?_
    refine lv_icmp_ne (tgt := 65) hx hb dX3_step_44 (by decide) (fun c_44 => ?_) (fun c_44 => ?_)
    · refine lv_iload_n hx hb dX3_step_65 rfl (lv_at hl 0 rfl) ?_
      refine lv_bipush (v := 110) hx hb dX3_step_66 (by decide) ?_
      refine lv_icmp_ne (tgt := 78) hx hb dX3_step_68 (by decide) (fun c_68 => ?_) (fun c_68 => ?_)
      · refine lv_iload_n hx hb dX3_step_78 rfl (lv_at hl 0 rfl) ?_
        refine lv_bipush (v := 116) hx hb dX3_step_79 (by decide) ?_
        refine lv_icmp_ne (tgt := 97) hx hb dX3_step_81 (by decide) (fun c_81 => ?_) (fun c_81 => ?_)
        · refine lv_iload_n hx hb dX3_step_97 rfl (lv_at hl 0 rfl) ?_
          refine lv_bipush (v := 124) hx hb dX3_step_98 (by decide) ?_
          refine lv_icmp_ne (tgt := 114) hx hb dX3_step_100 (by decide) (fun c_100 => ?_) (fun c_100 => ?_)
          · refine lv_iload_n hx hb dX3_step_114 rfl (lv_at hl 0 rfl) ?_
            refine lv_bipush (v := 119) hx hb dX3_step_115 (by decide) ?_
            refine lv_icmp_ne (tgt := 137) hx hb dX3_step_117 (by decide) (fun c_117 => ?_) (fun c_117 => ?_)
            · refine lv_iload_n hx hb dX3_step_137 rfl (lv_at hl 0 rfl) ?_
              refine lv_bipush (v := 114) hx hb dX3_step_138 (by decide) ?_
              refine lv_icmp_eq (tgt := 159) hx hb dX3_step_140 (by decide) (fun c_140 => ?_) (fun c_140 => ?_)
              · exact absurd c_140 c_15
              · refine lv_iload_n hx hb dX3_step_143 rfl (lv_at hl 0 rfl) ?_
                refine lv_bipush (v := 119) hx hb dX3_step_144 (by decide) ?_
                refine lv_icmp_eq (tgt := 159) hx hb dX3_step_146 (by decide) (fun c_146 => ?_) (fun c_146 => ?_)
                · exact absurd c_146 c_117
                · refine lv_aload_n hx hb dX3_step_149 rfl (lv_at hl 1 rfl) ?_
                  refine lv_aload_n hx hb dX3_step_150 rfl (lv_at hl 1 rfl) ?_
                  refine wGet (v := .int (S.2.2 7 6)) K hw hiX3 wM_o rfl 15 (by decide) (by decide +kernel) rfl dX3_step_151 ?_
                  refine lv_iconst (v := 1) hx hb dX3_step_154 (by decide) ?_
                  refine lv_iadd hx hb dX3_step_155 ?_
                  refine wPut (ty := .int) K hw hiX3 tyX3 tyX3_ok nmX3 wM_o rfl 15 (by decide) (by decide +kernel) rfl (by decide +kernel) rfl rfl (Nat.le_of_ble_eq_true rfl) dX3_step_156 (wM_sG 6 (by decide) _) (fun H locs hw => ?_)
                  refine lv_aload_n hx hb dX3_step_159 rfl (lv_at hl 1 rfl) ?_
                  refine lv_aload_n hx hb dX3_step_160 rfl (lv_at hl 1 rfl) ?_
                  refine wGet (v := .int ((sV S 7 6 ((S.2.2 7 6) + 1)).2.2 7 0)) K hw hiX3 wM_o rfl 9 (by decide) (by decide +kernel) rfl dX3_step_161 ?_
                  refine lv_iconst (v := 1) hx hb dX3_step_164 (by decide) ?_
                  refine lv_iadd hx hb dX3_step_165 ?_
                  refine wPut (ty := .int) K hw hiX3 tyX3 tyX3_ok nmX3 wM_o rfl 9 (by decide) (by decide +kernel) rfl (by decide +kernel) rfl rfl (Nat.le_of_ble_eq_true rfl) dX3_step_166 (wM_sG 0 (by decide) _) (fun H locs hw => ?_)
                  exact wRetV K hw dX3_step_169 (by rw [← eg, stp, if_neg c_44, if_neg c_68, if_neg c_15, if_neg c_81, if_neg c_117, if_neg c_100]; rfl)
            · subst c_117
              refine lv_aload_n hx hb dX3_step_120 rfl (lv_at hl 1 rfl) ?_
              refine lv_iconst (v := 2) hx hb dX3_step_121 (by decide) ?_
              refine lv_iconst (v := 0) hx hb dX3_step_122 (by decide) ?_
              refine wCallV (As := [.int 2, .int 0]) (rest := []) K hw (mX3_told l E am S hI 2 (by decide) 0) (cwV 2 hts gX3_step_X3_told rfl rfl rfl (by decide +kernel) ⟨Nat.le_of_ble_eq_true rfl, Nat.le_of_ble_eq_true rfl⟩) wM_o rfl rfl hl.1 rfl (Nat.le_of_ble_eq_true rfl) dX3_step_123 ⟨Nat.zero_le _, Nat.zero_le _⟩ (fun r_123 w' H locs hr hw => ?_)
              obtain ⟨hq, rfl⟩ := hr
              obtain rfl := hq
              refine lv_if_le (tgt := 137) hx hb dX3_step_126 (by decide) (fun c_126 => ?_) (fun c_126 => ?_)
              · refine lv_iload_n hx hb dX3_step_137 rfl (lv_at hl 0 rfl) ?_
                refine lv_bipush (v := 114) hx hb dX3_step_138 (by decide) ?_
                refine lv_icmp_eq (tgt := 159) hx hb dX3_step_140 (by decide) (fun c_140 => ?_) (fun c_140 => ?_)
                · exact absurd c_140 (by decide)
                · refine lv_iload_n hx hb dX3_step_143 rfl (lv_at hl 0 rfl) ?_
                  refine lv_bipush (v := 119) hx hb dX3_step_144 (by decide) ?_
                  refine lv_icmp_eq (tgt := 159) hx hb dX3_step_146 (by decide) (fun c_146 => ?_) (fun c_146 => ?_)
                  · refine lv_aload_n hx hb dX3_step_159 rfl (lv_at hl 1 rfl) ?_
                    refine lv_aload_n hx hb dX3_step_160 rfl (lv_at hl 1 rfl) ?_
                    refine wGet (v := .int (S.2.2 7 0)) K hw hiX3 wM_o rfl 9 (by decide) (by decide +kernel) rfl dX3_step_161 ?_
                    refine lv_iconst (v := 1) hx hb dX3_step_164 (by decide) ?_
                    refine lv_iadd hx hb dX3_step_165 ?_
                    refine wPut (ty := .int) K hw hiX3 tyX3 tyX3_ok nmX3 wM_o rfl 9 (by decide) (by decide +kernel) rfl (by decide +kernel) rfl rfl (Nat.le_of_ble_eq_true rfl) dX3_step_166 (wM_sG 0 (by decide) _) (fun H locs hw => ?_)
                    exact wRetV K hw dX3_step_169 (by rw [← eg]; show _ = wM E am (if 0 < tld S 2 0 then _ else _); rw [if_neg (Int32.not_lt.mpr c_126)]; rfl)
                  · exact absurd c_146 (by decide)
              · obtain ⟨q2, hq2, eq2⟩ := hI.cell (by decide) (tld_pos (Int32.not_le.mp c_126))
                refine lv_aload_n hx hb dX3_step_129 rfl (lv_at hl 1 rfl) ?_
                refine lv_iconst (v := 2) hx hb dX3_step_130 (by decide) ?_
                refine wCallVv (As := [.int 2]) (rest := []) K hw (mX3_less l E am S 2 (by decide) q2 hq2 eq2) (cwV 1 hts gX3_step_X3_less rfl rfl rfl (by decide +kernel) ⟨Nat.le_of_ble_eq_true rfl, Nat.le_of_ble_eq_true rfl⟩) wM_o rfl rfl hl.1 rfl (Nat.le_of_ble_eq_true rfl) dX3_step_131 ⟨Nat.zero_le _, Nat.zero_le _⟩ (fun w' H locs hr hw => ?_)
                subst hr
                refine lv_goto (tgt := 159) hx hb dX3_step_134 (by decide) ?_
                refine lv_aload_n hx hb dX3_step_159 rfl (lv_at hl 1 rfl) ?_
                refine lv_aload_n hx hb dX3_step_160 rfl (lv_at hl 1 rfl) ?_
                refine wGet (v := .int ((lws S 2).2.2 7 0)) K hw hiX3 wM_o rfl 9 (by decide) (by decide +kernel) rfl dX3_step_161 ?_
                refine lv_iconst (v := 1) hx hb dX3_step_164 (by decide) ?_
                refine lv_iadd hx hb dX3_step_165 ?_
                refine wPut (ty := .int) K hw hiX3 tyX3 tyX3_ok nmX3 wM_o rfl 9 (by decide) (by decide +kernel) rfl (by decide +kernel) rfl rfl (Nat.le_of_ble_eq_true rfl) dX3_step_166 (wM_sG 0 (by decide) _) (fun H locs hw => ?_)
                exact wRetV K hw dX3_step_169 (by rw [← eg]; show _ = wM E am (if 0 < tld S 2 0 then _ else _); rw [if_pos (Int32.not_le.mp c_126)]; rfl)
          · subst c_100
            refine lv_aload_n hx hb dX3_step_103 rfl (lv_at hl 1 rfl) ?_
            refine lv_aload_n hx hb dX3_step_104 rfl (lv_at hl 1 rfl) ?_
            refine wGet (v := .int (S.2.2 7 0)) K hw hiX3 wM_o rfl 9 (by decide) (by decide +kernel) rfl dX3_step_105 ?_
            refine wPut (ty := .int) K hw hiX3 tyX3 tyX3_ok nmX3 wM_o rfl 12 (by decide) (by decide +kernel) rfl (by decide +kernel) rfl rfl (Nat.le_of_ble_eq_true rfl) dX3_step_108 (wM_sG 3 (by decide) _) (fun H locs hw => ?_)
            refine lv_goto (tgt := 159) hx hb dX3_step_111 (by decide) ?_
            refine lv_aload_n hx hb dX3_step_159 rfl (lv_at hl 1 rfl) ?_
            refine lv_aload_n hx hb dX3_step_160 rfl (lv_at hl 1 rfl) ?_
            refine wGet (v := .int ((sV S 7 3 (S.2.2 7 0)).2.2 7 0)) K hw hiX3 wM_o rfl 9 (by decide) (by decide +kernel) rfl dX3_step_161 ?_
            refine lv_iconst (v := 1) hx hb dX3_step_164 (by decide) ?_
            refine lv_iadd hx hb dX3_step_165 ?_
            refine wPut (ty := .int) K hw hiX3 tyX3 tyX3_ok nmX3 wM_o rfl 9 (by decide) (by decide +kernel) rfl (by decide +kernel) rfl rfl (Nat.le_of_ble_eq_true rfl) dX3_step_166 (wM_sG 0 (by decide) _) (fun H locs hw => ?_)
            exact wRetV K hw dX3_step_169 (by rw [← eg]; rfl)
        · subst c_81
          refine lv_aload_n hx hb dX3_step_84 rfl (lv_at hl 1 rfl) ?_
          refine lv_aload_n hx hb dX3_step_85 rfl (lv_at hl 1 rfl) ?_
          refine lv_iconst (v := 4) hx hb dX3_step_86 (by decide) ?_
          refine lv_iconst (v := 0) hx hb dX3_step_87 (by decide) ?_
          refine wCallV (As := [.int 4, .int 0]) (rest := [.ref (am 0)]) K hw (mX3_told l E am S hI 4 (by decide) 0) (cwV 2 hts gX3_step_X3_told rfl rfl rfl (by decide +kernel) ⟨Nat.le_of_ble_eq_true rfl, Nat.le_of_ble_eq_true rfl⟩) wM_o rfl rfl hl.1 rfl (Nat.le_of_ble_eq_true rfl) dX3_step_88 ⟨Nat.zero_le _, Nat.zero_le _⟩ (fun r_88 w' H locs hr hw => ?_)
          obtain ⟨hq, rfl⟩ := hr
          obtain rfl := hq
          refine wPut (ty := .int) K hw hiX3 tyX3 tyX3_ok nmX3 wM_o rfl 11 (by decide) (by decide +kernel) rfl (by decide +kernel) rfl rfl (Nat.le_of_ble_eq_true rfl) dX3_step_91 (wM_sG 2 (by decide) _) (fun H locs hw => ?_)
          refine lv_goto (tgt := 159) hx hb dX3_step_94 (by decide) ?_
          refine lv_aload_n hx hb dX3_step_159 rfl (lv_at hl 1 rfl) ?_
          refine lv_aload_n hx hb dX3_step_160 rfl (lv_at hl 1 rfl) ?_
          refine wGet (v := .int ((sV S 7 2 (tld S 4 0)).2.2 7 0)) K hw hiX3 wM_o rfl 9 (by decide) (by decide +kernel) rfl dX3_step_161 ?_
          refine lv_iconst (v := 1) hx hb dX3_step_164 (by decide) ?_
          refine lv_iadd hx hb dX3_step_165 ?_
          refine wPut (ty := .int) K hw hiX3 tyX3 tyX3_ok nmX3 wM_o rfl 9 (by decide) (by decide +kernel) rfl (by decide +kernel) rfl rfl (Nat.le_of_ble_eq_true rfl) dX3_step_166 (wM_sG 0 (by decide) _) (fun H locs hw => ?_)
          exact wRetV K hw dX3_step_169 (by rw [← eg]; rfl)
      · subst c_68
        refine lv_aload_n hx hb dX3_step_71 rfl (lv_at hl 1 rfl) ?_
        refine wCallVv (As := []) (rest := []) K hw (mX3_note l E am S hI) (cwV 0 hts gX3_step_X3_note rfl rfl rfl (by decide +kernel) ⟨Nat.le_of_ble_eq_true rfl, Nat.le_of_ble_eq_true rfl⟩) wM_o rfl rfl hl.1 rfl (Nat.le_of_ble_eq_true rfl) dX3_step_72 ⟨Nat.zero_le _, Nat.zero_le _⟩ (fun w' H locs hr hw => ?_)
        subst hr
        refine lv_goto (tgt := 159) hx hb dX3_step_75 (by decide) ?_
        refine lv_aload_n hx hb dX3_step_159 rfl (lv_at hl 1 rfl) ?_
        refine lv_aload_n hx hb dX3_step_160 rfl (lv_at hl 1 rfl) ?_
        refine wGet (v := .int ((nte S).2.2 7 0)) K hw hiX3 wM_o rfl 9 (by decide) (by decide +kernel) rfl dX3_step_161 ?_
        refine lv_iconst (v := 1) hx hb dX3_step_164 (by decide) ?_
        refine lv_iadd hx hb dX3_step_165 ?_
        refine wPut (ty := .int) K hw hiX3 tyX3 tyX3_ok nmX3 wM_o rfl 9 (by decide) (by decide +kernel) rfl (by decide +kernel) rfl rfl (Nat.le_of_ble_eq_true rfl) dX3_step_166 (wM_sG 0 (by decide) _) (fun H locs hw => ?_)
        exact wRetV K hw dX3_step_169 (by rw [← eg]; rfl)
    · subst c_44
      refine lv_aload_n hx hb dX3_step_47 rfl (lv_at hl 1 rfl) ?_
      refine lv_aload_n hx hb dX3_step_48 rfl (lv_at hl 1 rfl) ?_
      refine wGet (v := .int (S.2.2 7 1)) K hw hiX3 wM_o rfl 10 (by decide) (by decide +kernel) rfl dX3_step_49 ?_
      refine lv_aload_n hx hb dX3_step_52 rfl (lv_at hl 1 rfl) ?_
      refine lv_iconst (v := 1) hx hb dX3_step_53 (by decide) ?_
      refine lv_iconst (v := 1) hx hb dX3_step_54 (by decide) ?_
      refine wCallV (As := [.int 1, .int 1]) (rest := [.int (S.2.2 7 1), .ref (am 0)]) K hw (mX3_told l E am S hI 1 (by decide) 1) (cwV 2 hts gX3_step_X3_told rfl rfl rfl (by decide +kernel) ⟨Nat.le_of_ble_eq_true rfl, Nat.le_of_ble_eq_true rfl⟩) wM_o rfl rfl hl.1 rfl (Nat.le_of_ble_eq_true rfl) dX3_step_55 ⟨Nat.zero_le _, Nat.zero_le _⟩ (fun r_55 w' H locs hr hw => ?_)
      obtain ⟨hq, rfl⟩ := hr
      obtain rfl := hq
      refine lv_iadd hx hb dX3_step_58 ?_
      refine wPut (ty := .int) K hw hiX3 tyX3 tyX3_ok nmX3 wM_o rfl 10 (by decide) (by decide +kernel) rfl (by decide +kernel) rfl rfl (Nat.le_of_ble_eq_true rfl) dX3_step_59 (wM_sG 1 (by decide) _) (fun H locs hw => ?_)
      refine lv_goto (tgt := 159) hx hb dX3_step_62 (by decide) ?_
      refine lv_aload_n hx hb dX3_step_159 rfl (lv_at hl 1 rfl) ?_
      refine lv_aload_n hx hb dX3_step_160 rfl (lv_at hl 1 rfl) ?_
      refine wGet (v := .int ((sV S 7 1 ((S.2.2 7 1) + (tld S 1 1))).2.2 7 0)) K hw hiX3 wM_o rfl 9 (by decide) (by decide +kernel) rfl dX3_step_161 ?_
      refine lv_iconst (v := 1) hx hb dX3_step_164 (by decide) ?_
      refine lv_iadd hx hb dX3_step_165 ?_
      refine wPut (ty := .int) K hw hiX3 tyX3 tyX3_ok nmX3 wM_o rfl 9 (by decide) (by decide +kernel) rfl (by decide +kernel) rfl rfl (Nat.le_of_ble_eq_true rfl) dX3_step_166 (wM_sG 0 (by decide) _) (fun H locs hw => ?_)
      exact wRetV K hw dX3_step_169 (by rw [← eg]; rfl)
  · subst c_15
    refine lv_aload_n hx hb dX3_step_18 rfl (lv_at hl 1 rfl) ?_
    refine lv_iconst (v := 1) hx hb dX3_step_19 (by decide) ?_
    refine lv_iconst (v := 0) hx hb dX3_step_20 (by decide) ?_
    refine wCallV (As := [.int 1, .int 0]) (rest := []) K hw (mX3_told l E am S hI 1 (by decide) 0) (cwV 2 hts gX3_step_X3_told rfl rfl rfl (by decide +kernel) ⟨Nat.le_of_ble_eq_true rfl, Nat.le_of_ble_eq_true rfl⟩) wM_o rfl rfl hl.1 rfl (Nat.le_of_ble_eq_true rfl) dX3_step_21 ⟨Nat.zero_le _, Nat.zero_le _⟩ (fun r_21 w' H locs hr hw => ?_)
    obtain ⟨hq, rfl⟩ := hr
    obtain rfl := hq
    refine lv_if_le (tgt := 41) hx hb dX3_step_24 (by decide) (fun c_24 => ?_) (fun c_24 => ?_)
    · refine lv_iload_n hx hb dX3_step_41 rfl (lv_at hl 0 rfl) ?_
      refine lv_bipush (v := 46) hx hb dX3_step_42 (by decide) ?_
      refine lv_icmp_ne (tgt := 65) hx hb dX3_step_44 (by decide) (fun c_44 => ?_) (fun c_44 => ?_)
      · refine lv_iload_n hx hb dX3_step_65 rfl (lv_at hl 0 rfl) ?_
        refine lv_bipush (v := 110) hx hb dX3_step_66 (by decide) ?_
        refine lv_icmp_ne (tgt := 78) hx hb dX3_step_68 (by decide) (fun c_68 => ?_) (fun c_68 => ?_)
        · refine lv_iload_n hx hb dX3_step_78 rfl (lv_at hl 0 rfl) ?_
          refine lv_bipush (v := 116) hx hb dX3_step_79 (by decide) ?_
          refine lv_icmp_ne (tgt := 97) hx hb dX3_step_81 (by decide) (fun c_81 => ?_) (fun c_81 => ?_)
          · refine lv_iload_n hx hb dX3_step_97 rfl (lv_at hl 0 rfl) ?_
            refine lv_bipush (v := 124) hx hb dX3_step_98 (by decide) ?_
            refine lv_icmp_ne (tgt := 114) hx hb dX3_step_100 (by decide) (fun c_100 => ?_) (fun c_100 => ?_)
            · refine lv_iload_n hx hb dX3_step_114 rfl (lv_at hl 0 rfl) ?_
              refine lv_bipush (v := 119) hx hb dX3_step_115 (by decide) ?_
              refine lv_icmp_ne (tgt := 137) hx hb dX3_step_117 (by decide) (fun c_117 => ?_) (fun c_117 => ?_)
              · refine lv_iload_n hx hb dX3_step_137 rfl (lv_at hl 0 rfl) ?_
                refine lv_bipush (v := 114) hx hb dX3_step_138 (by decide) ?_
                refine lv_icmp_eq (tgt := 159) hx hb dX3_step_140 (by decide) (fun c_140 => ?_) (fun c_140 => ?_)
                · refine lv_aload_n hx hb dX3_step_159 rfl (lv_at hl 1 rfl) ?_
                  refine lv_aload_n hx hb dX3_step_160 rfl (lv_at hl 1 rfl) ?_
                  refine wGet (v := .int (S.2.2 7 0)) K hw hiX3 wM_o rfl 9 (by decide) (by decide +kernel) rfl dX3_step_161 ?_
                  refine lv_iconst (v := 1) hx hb dX3_step_164 (by decide) ?_
                  refine lv_iadd hx hb dX3_step_165 ?_
                  refine wPut (ty := .int) K hw hiX3 tyX3 tyX3_ok nmX3 wM_o rfl 9 (by decide) (by decide +kernel) rfl (by decide +kernel) rfl rfl (Nat.le_of_ble_eq_true rfl) dX3_step_166 (wM_sG 0 (by decide) _) (fun H locs hw => ?_)
                  exact wRetV K hw dX3_step_169 (by rw [← eg]; show _ = wM E am (if 0 < tld S 1 0 then _ else _); rw [if_neg (Int32.not_lt.mpr c_24)]; rfl)
                · exact absurd c_140 (by decide)
              · exact absurd c_117 (by decide)
            · exact absurd c_100 (by decide)
          · exact absurd c_81 (by decide)
        · exact absurd c_68 (by decide)
      · exact absurd c_44 (by decide)
    · obtain ⟨q1, hq1, eq1⟩ := hI.cell (by decide) (tld_pos (Int32.not_le.mp c_24))
      refine lv_aload_n hx hb dX3_step_27 rfl (lv_at hl 1 rfl) ?_
      refine lv_iconst (v := 1) hx hb dX3_step_28 (by decide) ?_
      refine wCallVv (As := [.int 1]) (rest := []) K hw (mX3_less l E am S 1 (by decide) q1 hq1 eq1) (cwV 1 hts gX3_step_X3_less rfl rfl rfl (by decide +kernel) ⟨Nat.le_of_ble_eq_true rfl, Nat.le_of_ble_eq_true rfl⟩) wM_o rfl rfl hl.1 rfl (Nat.le_of_ble_eq_true rfl) dX3_step_29 ⟨Nat.zero_le _, Nat.zero_le _⟩ (fun w' H locs hr hw => ?_)
      subst hr
      refine lv_aload_n hx hb dX3_step_32 rfl (lv_at hl 1 rfl) ?_
      refine lv_aload_n hx hb dX3_step_33 rfl (lv_at hl 1 rfl) ?_
      refine wGet (v := .int (S.2.2 7 3)) K hw hiX3 wM_o rfl 12 (by decide) (by decide +kernel) rfl dX3_step_34 ?_
      refine wPut (ty := .int) K hw hiX3 tyX3 tyX3_ok nmX3 wM_o rfl 9 (by decide) (by decide +kernel) rfl (by decide +kernel) rfl rfl (Nat.le_of_ble_eq_true rfl) dX3_step_37 (wM_sG 0 (by decide) _) (fun H locs hw => ?_)
      exact wRetV K hw dX3_step_40 (by rw [← eg]; show _ = wM E am (if 0 < tld S 1 0 then _ else _); rw [if_pos (Int32.not_le.mp c_24)])
set_option maxHeartbeats 4000000 in
set_option maxRecDepth 100000 in
theorem mX3_play (l : Launch) (E : wE) (am : Nat → Nat) (S : SS) (hI : Inv S) (x : Int32) : MCi l E yX3_play wsX3_play { frames := 4, cells := 0, slots := 0, locals := 85 } [.ref (am 0), .int x] (wM E am S) (fun r w => r = (sp_play S x).1 ∧ w = wM E am (sp_play S x).2) := by
  refine wEnterI (cc := cX3_play) (nL := 3) (ret := (some .int)) (own := RX3) (by decide) rfl rfl (Nat.le_of_ble_eq_true rfl) ?_
  intro p e s m below meth c A ls K hl hw
  have hl : lv_has ls 3 [(0, .ref (am 0)), (1, .int x)] := hl
  obtain ⟨hx, hb, -, hml, hown, hts, -, -, -⟩ := id K
  have hiX3 : ∀ w ∈ wsX30, w ∈ wsX3_play := by decide +kernel
  refine lv_iload_n hx hb dX3_play_0 rfl (lv_at hl 1 rfl) ?_
  refine lv_if_ge (tgt := 7) hx hb dX3_play_1 (by decide) (fun c_1 => ?_) (fun c_1 => ?_)
  · refine lv_iload_n hx hb dX3_play_7 rfl (lv_at hl 1 rfl) ?_
    refine lv_sipush (v := 200) hx hb dX3_play_8 (by decide) ?_
    refine lv_icmp_le (tgt := 17) hx hb dX3_play_11 (by decide) (fun c_11 => ?_) (fun c_11 => ?_)
    · obtain ⟨n, hn, rfl⟩ := le_of_ix (y := 200) (n := 200) (by omega) rfl (Int32.not_lt.mpr c_1) c_11
      have hsp : sp_play S (nI n) = (nI (ply n S).1, (ply n S).2) := by rw [sp_play, if_pos c_1, if_pos c_11, kN_nI (by omega)]
      have loop : ∀ (d i : Nat) (S1 : SS), i + d = n → Inv S1 → i + (ply d S1).1 = (ply n S).1 → (ply d S1).2 = (ply n S).2 → ∀ (H : Heap) (locs : List Loc) (ls : Array Slot), lv_has ls 3 [(2, .int (nI i)), (0, .ref (am 0)), (1, .int (nI n))] → wW E A s (wM E am S1) H locs → W p l e ({ frames := 4, cells := 0, slots := 0, locals := 85 } : Room) s m ([.ref (am 0), .int (nI n)] : List Value).toArray below meth c H locs 0 0 (MQ below (va_Qi (fun r w => r = (sp_play S (nI n)).1 ∧ w = wM E am (sp_play S (nI n)).2) (wAft E A) A) ([.ref (am 0), .int (nI n)] : List Value).toArray s 0 0 A) (F0 m 19 ls []) := by
        intro d
        induction d with
        | zero =>
          intro i S1 hid hI1 hr1 hr2 H locs ls hl hw
          obtain rfl : i = n := by omega
          refine lv_iload_n hx hb dX3_play_19 rfl (lv_at hl 0 rfl) ?_
          refine lv_iload_n hx hb dX3_play_20 rfl (lv_at hl 2 rfl) ?_
          refine lv_icmp_ge (tgt := 42) hx hb dX3_play_21 (by decide) (fun c_21 => ?_) (fun c_21 => ?_)
          · refine lv_iload_n hx hb dX3_play_42 rfl (lv_at hl 0 rfl) ?_
            exact wRetI K hw dX3_play_43 (pstM (by rw [hsp, ← hr1, ← hr2]; rfl))
          · exact absurd (nI_le (Nat.le_refl i) (by omega)) c_21
        | succ d ih =>
          intro i S1 hid hI1 hr1 hr2 H locs ls hl hw
          rw [ply] at hr1 hr2
          refine lv_iload_n hx hb dX3_play_19 rfl (lv_at hl 0 rfl) ?_
          refine lv_iload_n hx hb dX3_play_20 rfl (lv_at hl 2 rfl) ?_
          refine lv_icmp_ge (tgt := 42) hx hb dX3_play_21 (by decide) (fun c_21 => ?_) (fun c_21 => ?_)
          · exact absurd c_21 (nI_ge (by omega) (by omega))
          · refine lv_aload_n hx hb dX3_play_24 rfl (lv_at hl 1 rfl) ?_
            refine lv_iconst (v := 0) hx hb dX3_play_25 (by decide) ?_
            refine wCallV (As := [.int 0]) (rest := []) K hw (mX3_has l E am S1 hI1 0 (by decide)) (cwV 1 hts gX3_play_X3_has rfl rfl rfl (by decide +kernel) ⟨Nat.le_of_ble_eq_true rfl, Nat.le_of_ble_eq_true rfl⟩) wM_o rfl rfl hl.1 rfl (Nat.le_of_ble_eq_true rfl) dX3_play_26 ⟨Nat.zero_le _, Nat.zero_le _⟩ (fun r_26 w' H locs hr hw => ?_)
            obtain ⟨hr26, rfl⟩ := hr
            refine lv_if_eq (tgt := 42) hx hb dX3_play_29 (by decide) (fun c_29 => ?_) (fun c_29 => ?_)
            · have hc := bI_f hr26 c_29
              rw [if_neg hc] at hr1 hr2
              refine lv_iload_n hx hb dX3_play_42 rfl (lv_at hl 0 rfl) ?_
              exact wRetI K hw dX3_play_43 (pstM (by rw [hsp, ← hr1, ← hr2]; rfl))
            · have hc := bI_t hr26 c_29
              refine lv_aload_n hx hb dX3_play_32 rfl (lv_at hl 1 rfl) ?_
              refine wCallVv (As := []) (rest := []) K hw (mX3_step l E am S1 hI1 hc) (cwV 0 hts gX3_play_X3_step rfl rfl rfl (by decide +kernel) ⟨Nat.le_of_ble_eq_true rfl, Nat.le_of_ble_eq_true rfl⟩) wM_o rfl rfl hl.1 rfl (Nat.le_of_ble_eq_true rfl) dX3_play_33 ⟨Nat.zero_le _, Nat.zero_le _⟩ (fun w' H locs hr hw => ?_)
              subst hr
              refine lv_iinc (v := nI (i + 1)) (lv' := [(2, .int (nI (i + 1))), (0, .ref (am 0)), (1, .int (nI n))]) hx hb dX3_play_36 hl (k := 0) rfl (nI_1 i) (by decide) rfl (fun ls hl => ?_)
              refine lv_goto (tgt := 19) hx hb dX3_play_39 (by decide) ?_
              exact ih (i + 1) _ (by omega) (hI1.onstep hc _) (by rw [if_pos hc] at hr1; rw [← hr1]; omega) (by rw [if_pos hc] at hr2; exact hr2) H locs ls hl hw
      refine lv_iconst (v := 0) hx hb dX3_play_17 (by decide) ?_
      refine lv_istore_n (lv' := [(2, .int 0), (0, .ref (am 0)), (1, .int (nI n))]) hx hb dX3_play_18 rfl hl (by decide) rfl (fun ls hl => ?_)
      exact loop n 0 S (by omega) hI (by omega) rfl _ _ _ (by rw [nI_0]; exact hl) hw
    · refine lv_ldc (v := (-1000003)) hx hb hown (hts (.constant RX3 53 (-1000003)) (by decide +kernel)) dX3_play_14 ?_
      exact wRetI K hw dX3_play_16 (pstM (by rw [sp_play, if_pos c_1, if_neg c_11]))
  · refine lv_ldc (v := (-1000004)) hx hb hown (hts (.constant RX3 54 (-1000004)) (by decide +kernel)) dX3_play_4 ?_
    exact wRetI K hw dX3_play_6 (pstM (by rw [sp_play, if_neg c_1]))
end
section
/-! constructors -/
def S0 : SS := (fun _ _ => 0, fun _ _ => 0, fun _ _ => 0)
theorem lanes5 {ad : Nat → Nat} {a b c d e : Nat} (ha : ad 2 = a) (hb : ad 6 = b) (hc : ad 10 = c) (hd : ad 14 = d) (he : ad 18 = e) : (va_up (va_up (va_up (va_up (va_up (fun _ => none) 0 (some a)) 1 (some b)) 2 (some c)) 3 (some d)) 4 (some e)) = gLanes ad := by
  funext j
  subst ha; subst hb; subst hc; subst hd; subst he
  match j with
  | 0 => rfl
  | 1 => rfl
  | 2 => rfl
  | 3 => rfl
  | 4 => rfl
  | n + 5 => simp [va_up, gLanes]
set_option maxHeartbeats 4000000 in
set_option maxRecDepth 100000 in
theorem mX1_init (l : Launch) (E : wE) (h : Nat) : MCv l E yX1_init wsX1_init { frames := 1, cells := 1, slots := 256, locals := 12 } [.ref h] ([(h, .inr (1, [.null, .int 0, .int 0]))]) (fun w => ∃ q : Nat, w = [(h, .inr (1, [.ref q, .int (-1), .int 0])), (q, .inl (E.2 0, 256, .inl (fun _ => 0)))]) := by
  refine wEnterV (cc := cX1_init) (nL := 1) (ret := none) (own := RX1) (by decide) rfl rfl (Nat.le_of_ble_eq_true rfl) ?_
  intro p e s m below meth c A ls K hl hw hin
  have hl : lv_has ls 1 [(0, .ref h)] := hl
  obtain ⟨hx, hb, -, hml, hown, hts, -, -, -⟩ := id K
  have hiX1 : ∀ w ∈ wsX10, w ∈ wsX1_init := by decide +kernel
  refine lv_aload_n hx hb dX1_init_0 rfl (lv_at hl 0 rfl) ?_
  refine W.objInit hx hb hown (hts (.methodLink RX1 3 objectInit) (by decide +kernel)) (hts (.instanceMethod objectInit) (by decide +kernel)) (hts (.code objectInit ⟨#[0xb1]⟩ 1 none) (by decide +kernel)) rfl (by rw [hml]; exact hl.1) rfl dX1_init_1 (Nat.le_of_ble_eq_true rfl) (Nat.le_of_ble_eq_true rfl) ?_
  refine W.eq (g2 := F0 m 4 ls []) rfl ?_
  refine lv_aload_n hx hb dX1_init_4 rfl (lv_at hl 0 rfl) ?_
  refine lv_sipush (v := 256) hx hb dX1_init_5 (by decide) ?_
  refine wNewI (N' := 256) (cells1 := 1) (slots1 := 256) K hw (by decide +kernel) (by decide) (by decide) (by decide) rfl rfl (Nat.le_of_ble_eq_true rfl) (Nat.le_of_ble_eq_true rfl) dX1_init_8 (fun b0 H hw => ?_)
  have hw : wW E A s ([(h, .inr (1, [.null, .int 0, .int 0])), (b0, .inl (E.2 0, 256, .inl (fun _ => 0)))] : va_W) _ _ := hw
  refine wPutF (q0 := 0) (ty := .array .int) (ws' := [(h, .inr (1, [.ref b0, .int 0, .int 0])), (b0, .inl (E.2 0, 256, .inl (fun _ => 0)))]) K hw hiX1 tyX1 tyX1_ok nmX1 rfl rfl 0 (by decide) (by decide +kernel) rfl hin rfl (by decide +kernel) rfl rfl (Nat.le_of_ble_eq_true rfl) dX1_init_10 rfl (fun H locs hw => ?_)
  refine lv_aload_n hx hb dX1_init_13 rfl (lv_at hl 0 rfl) ?_
  refine lv_iconst (v := (-1)) hx hb dX1_init_14 (by decide) ?_
  refine wPut (q0 := 0) (ty := .int) (ws' := [(h, .inr (1, [.ref b0, .int (-1), .int 0])), (b0, .inl (E.2 0, 256, .inl (fun _ => 0)))]) K hw hiX1 tyX1 tyX1_ok nmX1 rfl rfl 1 (by decide) (by decide +kernel) rfl (by decide +kernel) rfl rfl (Nat.le_of_ble_eq_true rfl) dX1_init_15 rfl (fun H locs hw => ?_)
  exact wRetV K hw dX1_init_18 ⟨_, rfl⟩
set_option maxHeartbeats 4000000 in
set_option maxRecDepth 100000 in
theorem mX0_init (l : Launch) (E : wE) (h : Nat) : MCv l E yX0_init wsX0_init { frames := 2, cells := 3, slots := 319, locals := 32 } [.ref h] ([(h, .inr (0, [.null, .null, .int 0, .int 0, .int 0]))]) (fun w => ∃ x y z : Nat, w = [(h, .inr (0, [.ref x, .ref y, .int (-1), .int 0, .int 0])), (x, .inl (E.2 0, 60, .inl (fun _ => 0))), (y, .inr (1, [.ref z, .int (-1), .int 0])), (z, .inl (E.2 0, 256, .inl (fun _ => 0)))]) := by
  refine wEnterV (cc := cX0_init) (nL := 1) (ret := none) (own := RX0) (by decide) rfl rfl (Nat.le_of_ble_eq_true rfl) ?_
  intro p e s m below meth c A ls K hl hw hin
  have hl : lv_has ls 1 [(0, .ref h)] := hl
  obtain ⟨hx, hb, -, hml, hown, hts, -, -, -⟩ := id K
  have hiX0 : ∀ w ∈ wsX00, w ∈ wsX0_init := by decide +kernel
  have hiX1 : ∀ w ∈ wsX10, w ∈ wsX0_init := by decide +kernel
  refine lv_aload_n hx hb dX0_init_0 rfl (lv_at hl 0 rfl) ?_
  refine W.objInit hx hb hown (hts (.methodLink RX0 3 objectInit) (by decide +kernel)) (hts (.instanceMethod objectInit) (by decide +kernel)) (hts (.code objectInit ⟨#[0xb1]⟩ 1 none) (by decide +kernel)) rfl (by rw [hml]; exact hl.1) rfl dX0_init_1 (Nat.le_of_ble_eq_true rfl) (Nat.le_of_ble_eq_true rfl) ?_
  refine W.eq (g2 := F0 m 4 ls []) rfl ?_
  refine lv_aload_n hx hb dX0_init_4 rfl (lv_at hl 0 rfl) ?_
  refine lv_bipush (v := 60) hx hb dX0_init_5 (by decide) ?_
  refine wNewI (N' := 60) (cells1 := 1) (slots1 := 60) K hw (by decide +kernel) (by decide) (by decide) (by decide) rfl rfl (Nat.le_of_ble_eq_true rfl) (Nat.le_of_ble_eq_true rfl) dX0_init_7 (fun b0 H hw => ?_)
  have hw : wW E A s ([(h, .inr (0, [.null, .null, .int 0, .int 0, .int 0])), (b0, .inl (E.2 0, 60, .inl (fun _ => 0)))] : va_W) _ _ := hw
  refine wPutF (q0 := 0) (ty := .array .int) (ws' := [(h, .inr (0, [.ref b0, .null, .int 0, .int 0, .int 0])), (b0, .inl (E.2 0, 60, .inl (fun _ => 0)))]) K hw hiX0 tyX0 tyX0_ok nmX0 rfl rfl 0 (by decide) (by decide +kernel) rfl hin rfl (by decide +kernel) rfl rfl (Nat.le_of_ble_eq_true rfl) dX0_init_9 rfl (fun H locs hw => ?_)
  refine lv_aload_n hx hb dX0_init_12 rfl (lv_at hl 0 rfl) ?_
  refine wNew (ci := 1) (fs := [.null, .int 0, .int 0]) (C := RX1) (T := TX1) (N := 3) (cells1 := 2) (slots1 := 63) K hw hiX1 tyX1 tyX1_ok (by decide +kernel) (by decide +kernel) (by decide +kernel) rfl (fun j hj => by rcases (show j = 0 ∨ j = 1 ∨ j = 2 by omega) with rfl | rfl | rfl <;> rfl) rfl rfl (Nat.le_of_ble_eq_true rfl) (Nat.le_of_ble_eq_true rfl) dX0_init_13 (fun o1 H hw => ?_)
  have hw : wW E A s ([(h, .inr (0, [.ref b0, .null, .int 0, .int 0, .int 0])), (b0, .inl (E.2 0, 60, .inl (fun _ => 0))), (o1, .inr (1, [.null, .int 0, .int 0]))] : va_W) _ _ := hw
  refine lv_dup hx hb dX0_init_16 rfl ?_
  refine wCallI (a := [(h, .inr (0, [.ref b0, .null, .int 0, .int 0, .int 0])), (b0, .inl (E.2 0, 60, .inl (fun _ => 0)))]) (b := [(o1, .inr (1, [.null, .int 0, .int 0]))]) (o := o1) (As := []) (rest := [.ref o1, .ref h]) (cells1 := 3) (slots1 := 319) K hw (mX1_init l E o1) (cwI 0 hts gX0_init_X1_init rfl rfl rfl (hts (.initialized RX1) (by decide +kernel)) (hts (.methodLink RX0 17 yX1_init) (by decide +kernel)) (hts (.instanceMethod yX1_init) (by decide +kernel)) rfl (by decide +kernel) ⟨(Nat.le_of_ble_eq_true rfl), (Nat.le_of_ble_eq_true rfl)⟩) rfl hl.1 rfl (Nat.le_of_ble_eq_true rfl) dX0_init_17 rfl rfl ⟨(Nat.le_of_ble_eq_true rfl), (Nat.le_of_ble_eq_true rfl)⟩ (fun w' H locs hr hw => ?_)
  obtain ⟨n1, rfl⟩ := hr
  have hw : wW E A s ([(h, .inr (0, [.ref b0, .null, .int 0, .int 0, .int 0])), (b0, .inl (E.2 0, 60, .inl (fun _ => 0))), (o1, .inr (1, [.ref n1, .int (-1), .int 0])), (n1, .inl (E.2 0, 256, .inl (fun _ => 0)))] : va_W) _ _ := hw
  refine wPutF (q0 := 0) (ty := .object "RollBench$Sheet") (ws' := [(h, .inr (0, [.ref b0, .ref o1, .int 0, .int 0, .int 0])), (b0, .inl (E.2 0, 60, .inl (fun _ => 0))), (o1, .inr (1, [.ref n1, .int (-1), .int 0])), (n1, .inl (E.2 0, 256, .inl (fun _ => 0)))]) K hw hiX0 tyX0 tyX0_ok nmX0 rfl rfl 1 (by decide) (by decide +kernel) rfl hin rfl (by decide +kernel) rfl rfl (Nat.le_of_ble_eq_true rfl) dX0_init_20 rfl (fun H locs hw => ?_)
  refine lv_aload_n hx hb dX0_init_23 rfl (lv_at hl 0 rfl) ?_
  refine lv_iconst (v := (-1)) hx hb dX0_init_24 (by decide) ?_
  refine wPut (q0 := 0) (ty := .int) (ws' := [(h, .inr (0, [.ref b0, .ref o1, .int (-1), .int 0, .int 0])), (b0, .inl (E.2 0, 60, .inl (fun _ => 0))), (o1, .inr (1, [.ref n1, .int (-1), .int 0])), (n1, .inl (E.2 0, 256, .inl (fun _ => 0)))]) K hw hiX0 tyX0 tyX0_ok nmX0 rfl rfl 2 (by decide) (by decide +kernel) rfl (by decide +kernel) rfl rfl (Nat.le_of_ble_eq_true rfl) dX0_init_25 rfl (fun H locs hw => ?_)
  exact wRetV K hw dX0_init_28 ⟨_, _, _, rfl⟩
set_option maxHeartbeats 4000000 in
set_option maxRecDepth 100000 in
theorem mX2_init (l : Launch) (E : wE) (h : Nat) : MCv l E yX2_init wsX2_init { frames := 3, cells := 21, slots := 1625, locals := 52 } [.ref h] ([(h, .inr (2, [.null, .int 0, .int 0, .int 0, .int 0, .int 0, .int 0, .int 0]))]) (fun w => ∃ ad : Nat → Nat, ad 0 = h ∧ w = wB E ad S0) := by
  refine wEnterV (cc := cX2_init) (nL := 2) (ret := none) (own := RX2) (by decide) rfl rfl (Nat.le_of_ble_eq_true rfl) ?_
  intro p e s m below meth c A ls K hl hw hin
  have hl : lv_has ls 2 [(0, .ref h)] := hl
  obtain ⟨hx, hb, -, hml, hown, hts, -, -, -⟩ := id K
  have hiX2 : ∀ w ∈ wsX20, w ∈ wsX2_init := by decide +kernel
  have hiX0 : ∀ w ∈ wsX00, w ∈ wsX2_init := by decide +kernel
  refine lv_aload_n hx hb dX2_init_0 rfl (lv_at hl 0 rfl) ?_
  refine W.objInit hx hb hown (hts (.methodLink RX2 1 objectInit) (by decide +kernel)) (hts (.instanceMethod objectInit) (by decide +kernel)) (hts (.code objectInit ⟨#[0xb1]⟩ 1 none) (by decide +kernel)) rfl (by rw [hml]; exact hl.1) rfl dX2_init_1 (Nat.le_of_ble_eq_true rfl) (Nat.le_of_ble_eq_true rfl) ?_
  refine W.eq (g2 := F0 m 4 ls []) rfl ?_
  refine lv_aload_n hx hb dX2_init_4 rfl (lv_at hl 0 rfl) ?_
  refine lv_iconst (v := 5) hx hb dX2_init_5 (by decide) ?_
  refine wNewA (N' := 5) (cells1 := 1) (slots1 := 5) K hw (by decide +kernel) (by decide) (by decide) (by decide) rfl rfl (Nat.le_of_ble_eq_true rfl) (Nat.le_of_ble_eq_true rfl) dX2_init_6 (fun b0 H hw => ?_)
  have hw : wW E A s ([(h, .inr (2, [.null, .int 0, .int 0, .int 0, .int 0, .int 0, .int 0, .int 0])), (b0, .inl (E.2 2, 5, .inr (.inr (.inr (.inr (fun _ => none))))))] : va_W) _ _ := hw
  refine wPutF (q0 := 0) (ty := .array (.object "RollBench$Lane")) (ws' := [(h, .inr (2, [.ref b0, .int 0, .int 0, .int 0, .int 0, .int 0, .int 0, .int 0])), (b0, .inl (E.2 2, 5, .inr (.inr (.inr (.inr (fun _ => none))))))]) K hw hiX2 tyX2 tyX2_ok nmX2 rfl rfl 0 (by decide) (by decide +kernel) rfl hin rfl (by decide +kernel) rfl rfl (Nat.le_of_ble_eq_true rfl) dX2_init_9 rfl (fun H locs hw => ?_)
  refine lv_iconst (v := 0) hx hb dX2_init_12 (by decide) ?_
  refine lv_istore_n (lv' := [(1, .int 0), (0, .ref h)]) hx hb dX2_init_13 rfl hl (by decide) rfl (fun ls hl => ?_)
  refine lv_iload_n hx hb dX2_init_14 rfl (lv_at hl 0 rfl) ?_
  refine lv_iconst (v := 5) hx hb dX2_init_15 (by decide) ?_
  refine lv_icmp_ge (tgt := 38) hx hb dX2_init_16 (by decide) (fun c_16 => ?_) (fun c_16 => ?_)
  · exact absurd c_16 (by decide)
  refine lv_aload_n hx hb dX2_init_19 rfl (lv_at hl 1 rfl) ?_
  refine wGet (q0 := 0) (v := .ref b0) K hw hiX2 rfl rfl 0 (by decide) (by decide +kernel) rfl dX2_init_20 ?_
  refine lv_iload_n hx hb dX2_init_23 rfl (lv_at hl 0 rfl) ?_
  refine wNew (ci := 0) (fs := [.null, .null, .int 0, .int 0, .int 0]) (C := RX0) (T := TX0) (N := 5) (cells1 := 2) (slots1 := 10) K hw hiX0 tyX0 tyX0_ok (by decide +kernel) (by decide +kernel) (by decide +kernel) rfl (fun j hj => by rcases (show j = 0 ∨ j = 1 ∨ j = 2 ∨ j = 3 ∨ j = 4 by omega) with rfl | rfl | rfl | rfl | rfl <;> rfl) rfl rfl (Nat.le_of_ble_eq_true rfl) (Nat.le_of_ble_eq_true rfl) dX2_init_24 (fun o1 H hw => ?_)
  have hw : wW E A s ([(h, .inr (2, [.ref b0, .int 0, .int 0, .int 0, .int 0, .int 0, .int 0, .int 0])), (b0, .inl (E.2 2, 5, .inr (.inr (.inr (.inr (fun _ => none)))))), (o1, .inr (0, [.null, .null, .int 0, .int 0, .int 0]))] : va_W) _ _ := hw
  refine lv_dup hx hb dX2_init_27 rfl ?_
  refine wCallI (a := [(h, .inr (2, [.ref b0, .int 0, .int 0, .int 0, .int 0, .int 0, .int 0, .int 0])), (b0, .inl (E.2 2, 5, .inr (.inr (.inr (.inr (fun _ => none))))))]) (b := [(o1, .inr (0, [.null, .null, .int 0, .int 0, .int 0]))]) (o := o1) (As := []) (rest := [.ref o1, .int 0, .ref b0]) (cells1 := 5) (slots1 := 329) K hw (mX0_init l E o1) (cwI 0 hts gX2_init_X0_init rfl rfl rfl (hts (.initialized RX0) (by decide +kernel)) (hts (.methodLink RX2 15 yX0_init) (by decide +kernel)) (hts (.instanceMethod yX0_init) (by decide +kernel)) rfl (by decide +kernel) ⟨(Nat.le_of_ble_eq_true rfl), (Nat.le_of_ble_eq_true rfl)⟩) rfl hl.1 rfl (Nat.le_of_ble_eq_true rfl) dX2_init_28 rfl rfl ⟨(Nat.le_of_ble_eq_true rfl), (Nat.le_of_ble_eq_true rfl)⟩ (fun w' H locs hr hw => ?_)
  obtain ⟨x1, y1, z1, rfl⟩ := hr
  have hw : wW E A s ([(h, .inr (2, [.ref b0, .int 0, .int 0, .int 0, .int 0, .int 0, .int 0, .int 0])), (b0, .inl (E.2 2, 5, .inr (.inr (.inr (.inr (fun _ => none)))))), (o1, .inr (0, [.ref x1, .ref y1, .int (-1), .int 0, .int 0])), (x1, .inl (E.2 0, 60, .inl (fun _ => 0))), (y1, .inr (1, [.ref z1, .int (-1), .int 0])), (z1, .inl (E.2 0, 256, .inl (fun _ => 0)))] : va_W) _ _ := hw
  refine wAast (q0 := 1) (qk := 2) (ws' := [(h, .inr (2, [.ref b0, .int 0, .int 0, .int 0, .int 0, .int 0, .int 0, .int 0])), (b0, .inl (E.2 2, 5, .inr (.inr (.inr (.inr (va_up (fun _ => none) 0 (some o1))))))), (o1, .inr (0, [.ref x1, .ref y1, .int (-1), .int 0, .int 0])), (x1, .inl (E.2 0, 60, .inl (fun _ => 0))), (y1, .inr (1, [.ref z1, .int (-1), .int 0])), (z1, .inl (E.2 0, 256, .inl (fun _ => 0)))]) K hw rfl rfl (in5 (j := 0) (by decide)) dX2_init_31 rfl (fun H locs hw => ?_)
  refine lv_iinc (v := 1) (lv' := [(1, .int 1), (0, .ref h)]) hx hb dX2_init_32 hl (k := 0) rfl (by decide) (by decide) rfl (fun ls hl => ?_)
  refine lv_goto (tgt := 14) hx hb dX2_init_35 (by decide) ?_
  refine lv_iload_n hx hb dX2_init_14 rfl (lv_at hl 0 rfl) ?_
  refine lv_iconst (v := 5) hx hb dX2_init_15 (by decide) ?_
  refine lv_icmp_ge (tgt := 38) hx hb dX2_init_16 (by decide) (fun c_16 => ?_) (fun c_16 => ?_)
  · exact absurd c_16 (by decide)
  refine lv_aload_n hx hb dX2_init_19 rfl (lv_at hl 1 rfl) ?_
  refine wGet (q0 := 0) (v := .ref b0) K hw hiX2 rfl rfl 0 (by decide) (by decide +kernel) rfl dX2_init_20 ?_
  refine lv_iload_n hx hb dX2_init_23 rfl (lv_at hl 0 rfl) ?_
  refine wNew (ci := 0) (fs := [.null, .null, .int 0, .int 0, .int 0]) (C := RX0) (T := TX0) (N := 5) (cells1 := 6) (slots1 := 334) K hw hiX0 tyX0 tyX0_ok (by decide +kernel) (by decide +kernel) (by decide +kernel) rfl (fun j hj => by rcases (show j = 0 ∨ j = 1 ∨ j = 2 ∨ j = 3 ∨ j = 4 by omega) with rfl | rfl | rfl | rfl | rfl <;> rfl) rfl rfl (Nat.le_of_ble_eq_true rfl) (Nat.le_of_ble_eq_true rfl) dX2_init_24 (fun o2 H hw => ?_)
  have hw : wW E A s ([(h, .inr (2, [.ref b0, .int 0, .int 0, .int 0, .int 0, .int 0, .int 0, .int 0])), (b0, .inl (E.2 2, 5, .inr (.inr (.inr (.inr (va_up (fun _ => none) 0 (some o1))))))), (o1, .inr (0, [.ref x1, .ref y1, .int (-1), .int 0, .int 0])), (x1, .inl (E.2 0, 60, .inl (fun _ => 0))), (y1, .inr (1, [.ref z1, .int (-1), .int 0])), (z1, .inl (E.2 0, 256, .inl (fun _ => 0))), (o2, .inr (0, [.null, .null, .int 0, .int 0, .int 0]))] : va_W) _ _ := hw
  refine lv_dup hx hb dX2_init_27 rfl ?_
  refine wCallI (a := [(h, .inr (2, [.ref b0, .int 0, .int 0, .int 0, .int 0, .int 0, .int 0, .int 0])), (b0, .inl (E.2 2, 5, .inr (.inr (.inr (.inr (va_up (fun _ => none) 0 (some o1))))))), (o1, .inr (0, [.ref x1, .ref y1, .int (-1), .int 0, .int 0])), (x1, .inl (E.2 0, 60, .inl (fun _ => 0))), (y1, .inr (1, [.ref z1, .int (-1), .int 0])), (z1, .inl (E.2 0, 256, .inl (fun _ => 0)))]) (b := [(o2, .inr (0, [.null, .null, .int 0, .int 0, .int 0]))]) (o := o2) (As := []) (rest := [.ref o2, .int 1, .ref b0]) (cells1 := 9) (slots1 := 653) K hw (mX0_init l E o2) (cwI 0 hts gX2_init_X0_init rfl rfl rfl (hts (.initialized RX0) (by decide +kernel)) (hts (.methodLink RX2 15 yX0_init) (by decide +kernel)) (hts (.instanceMethod yX0_init) (by decide +kernel)) rfl (by decide +kernel) ⟨(Nat.le_of_ble_eq_true rfl), (Nat.le_of_ble_eq_true rfl)⟩) rfl hl.1 rfl (Nat.le_of_ble_eq_true rfl) dX2_init_28 rfl rfl ⟨(Nat.le_of_ble_eq_true rfl), (Nat.le_of_ble_eq_true rfl)⟩ (fun w' H locs hr hw => ?_)
  obtain ⟨x2, y2, z2, rfl⟩ := hr
  have hw : wW E A s ([(h, .inr (2, [.ref b0, .int 0, .int 0, .int 0, .int 0, .int 0, .int 0, .int 0])), (b0, .inl (E.2 2, 5, .inr (.inr (.inr (.inr (va_up (fun _ => none) 0 (some o1))))))), (o1, .inr (0, [.ref x1, .ref y1, .int (-1), .int 0, .int 0])), (x1, .inl (E.2 0, 60, .inl (fun _ => 0))), (y1, .inr (1, [.ref z1, .int (-1), .int 0])), (z1, .inl (E.2 0, 256, .inl (fun _ => 0))), (o2, .inr (0, [.ref x2, .ref y2, .int (-1), .int 0, .int 0])), (x2, .inl (E.2 0, 60, .inl (fun _ => 0))), (y2, .inr (1, [.ref z2, .int (-1), .int 0])), (z2, .inl (E.2 0, 256, .inl (fun _ => 0)))] : va_W) _ _ := hw
  refine wAast (q0 := 1) (qk := 6) (ws' := [(h, .inr (2, [.ref b0, .int 0, .int 0, .int 0, .int 0, .int 0, .int 0, .int 0])), (b0, .inl (E.2 2, 5, .inr (.inr (.inr (.inr (va_up (va_up (fun _ => none) 0 (some o1)) 1 (some o2))))))), (o1, .inr (0, [.ref x1, .ref y1, .int (-1), .int 0, .int 0])), (x1, .inl (E.2 0, 60, .inl (fun _ => 0))), (y1, .inr (1, [.ref z1, .int (-1), .int 0])), (z1, .inl (E.2 0, 256, .inl (fun _ => 0))), (o2, .inr (0, [.ref x2, .ref y2, .int (-1), .int 0, .int 0])), (x2, .inl (E.2 0, 60, .inl (fun _ => 0))), (y2, .inr (1, [.ref z2, .int (-1), .int 0])), (z2, .inl (E.2 0, 256, .inl (fun _ => 0)))]) K hw rfl rfl (in5 (j := 1) (by decide)) dX2_init_31 rfl (fun H locs hw => ?_)
  refine lv_iinc (v := 2) (lv' := [(1, .int 2), (0, .ref h)]) hx hb dX2_init_32 hl (k := 0) rfl (by decide) (by decide) rfl (fun ls hl => ?_)
  refine lv_goto (tgt := 14) hx hb dX2_init_35 (by decide) ?_
  refine lv_iload_n hx hb dX2_init_14 rfl (lv_at hl 0 rfl) ?_
  refine lv_iconst (v := 5) hx hb dX2_init_15 (by decide) ?_
  refine lv_icmp_ge (tgt := 38) hx hb dX2_init_16 (by decide) (fun c_16 => ?_) (fun c_16 => ?_)
  · exact absurd c_16 (by decide)
  refine lv_aload_n hx hb dX2_init_19 rfl (lv_at hl 1 rfl) ?_
  refine wGet (q0 := 0) (v := .ref b0) K hw hiX2 rfl rfl 0 (by decide) (by decide +kernel) rfl dX2_init_20 ?_
  refine lv_iload_n hx hb dX2_init_23 rfl (lv_at hl 0 rfl) ?_
  refine wNew (ci := 0) (fs := [.null, .null, .int 0, .int 0, .int 0]) (C := RX0) (T := TX0) (N := 5) (cells1 := 10) (slots1 := 658) K hw hiX0 tyX0 tyX0_ok (by decide +kernel) (by decide +kernel) (by decide +kernel) rfl (fun j hj => by rcases (show j = 0 ∨ j = 1 ∨ j = 2 ∨ j = 3 ∨ j = 4 by omega) with rfl | rfl | rfl | rfl | rfl <;> rfl) rfl rfl (Nat.le_of_ble_eq_true rfl) (Nat.le_of_ble_eq_true rfl) dX2_init_24 (fun o3 H hw => ?_)
  have hw : wW E A s ([(h, .inr (2, [.ref b0, .int 0, .int 0, .int 0, .int 0, .int 0, .int 0, .int 0])), (b0, .inl (E.2 2, 5, .inr (.inr (.inr (.inr (va_up (va_up (fun _ => none) 0 (some o1)) 1 (some o2))))))), (o1, .inr (0, [.ref x1, .ref y1, .int (-1), .int 0, .int 0])), (x1, .inl (E.2 0, 60, .inl (fun _ => 0))), (y1, .inr (1, [.ref z1, .int (-1), .int 0])), (z1, .inl (E.2 0, 256, .inl (fun _ => 0))), (o2, .inr (0, [.ref x2, .ref y2, .int (-1), .int 0, .int 0])), (x2, .inl (E.2 0, 60, .inl (fun _ => 0))), (y2, .inr (1, [.ref z2, .int (-1), .int 0])), (z2, .inl (E.2 0, 256, .inl (fun _ => 0))), (o3, .inr (0, [.null, .null, .int 0, .int 0, .int 0]))] : va_W) _ _ := hw
  refine lv_dup hx hb dX2_init_27 rfl ?_
  refine wCallI (a := [(h, .inr (2, [.ref b0, .int 0, .int 0, .int 0, .int 0, .int 0, .int 0, .int 0])), (b0, .inl (E.2 2, 5, .inr (.inr (.inr (.inr (va_up (va_up (fun _ => none) 0 (some o1)) 1 (some o2))))))), (o1, .inr (0, [.ref x1, .ref y1, .int (-1), .int 0, .int 0])), (x1, .inl (E.2 0, 60, .inl (fun _ => 0))), (y1, .inr (1, [.ref z1, .int (-1), .int 0])), (z1, .inl (E.2 0, 256, .inl (fun _ => 0))), (o2, .inr (0, [.ref x2, .ref y2, .int (-1), .int 0, .int 0])), (x2, .inl (E.2 0, 60, .inl (fun _ => 0))), (y2, .inr (1, [.ref z2, .int (-1), .int 0])), (z2, .inl (E.2 0, 256, .inl (fun _ => 0)))]) (b := [(o3, .inr (0, [.null, .null, .int 0, .int 0, .int 0]))]) (o := o3) (As := []) (rest := [.ref o3, .int 2, .ref b0]) (cells1 := 13) (slots1 := 977) K hw (mX0_init l E o3) (cwI 0 hts gX2_init_X0_init rfl rfl rfl (hts (.initialized RX0) (by decide +kernel)) (hts (.methodLink RX2 15 yX0_init) (by decide +kernel)) (hts (.instanceMethod yX0_init) (by decide +kernel)) rfl (by decide +kernel) ⟨(Nat.le_of_ble_eq_true rfl), (Nat.le_of_ble_eq_true rfl)⟩) rfl hl.1 rfl (Nat.le_of_ble_eq_true rfl) dX2_init_28 rfl rfl ⟨(Nat.le_of_ble_eq_true rfl), (Nat.le_of_ble_eq_true rfl)⟩ (fun w' H locs hr hw => ?_)
  obtain ⟨x3, y3, z3, rfl⟩ := hr
  have hw : wW E A s ([(h, .inr (2, [.ref b0, .int 0, .int 0, .int 0, .int 0, .int 0, .int 0, .int 0])), (b0, .inl (E.2 2, 5, .inr (.inr (.inr (.inr (va_up (va_up (fun _ => none) 0 (some o1)) 1 (some o2))))))), (o1, .inr (0, [.ref x1, .ref y1, .int (-1), .int 0, .int 0])), (x1, .inl (E.2 0, 60, .inl (fun _ => 0))), (y1, .inr (1, [.ref z1, .int (-1), .int 0])), (z1, .inl (E.2 0, 256, .inl (fun _ => 0))), (o2, .inr (0, [.ref x2, .ref y2, .int (-1), .int 0, .int 0])), (x2, .inl (E.2 0, 60, .inl (fun _ => 0))), (y2, .inr (1, [.ref z2, .int (-1), .int 0])), (z2, .inl (E.2 0, 256, .inl (fun _ => 0))), (o3, .inr (0, [.ref x3, .ref y3, .int (-1), .int 0, .int 0])), (x3, .inl (E.2 0, 60, .inl (fun _ => 0))), (y3, .inr (1, [.ref z3, .int (-1), .int 0])), (z3, .inl (E.2 0, 256, .inl (fun _ => 0)))] : va_W) _ _ := hw
  refine wAast (q0 := 1) (qk := 10) (ws' := [(h, .inr (2, [.ref b0, .int 0, .int 0, .int 0, .int 0, .int 0, .int 0, .int 0])), (b0, .inl (E.2 2, 5, .inr (.inr (.inr (.inr (va_up (va_up (va_up (fun _ => none) 0 (some o1)) 1 (some o2)) 2 (some o3))))))), (o1, .inr (0, [.ref x1, .ref y1, .int (-1), .int 0, .int 0])), (x1, .inl (E.2 0, 60, .inl (fun _ => 0))), (y1, .inr (1, [.ref z1, .int (-1), .int 0])), (z1, .inl (E.2 0, 256, .inl (fun _ => 0))), (o2, .inr (0, [.ref x2, .ref y2, .int (-1), .int 0, .int 0])), (x2, .inl (E.2 0, 60, .inl (fun _ => 0))), (y2, .inr (1, [.ref z2, .int (-1), .int 0])), (z2, .inl (E.2 0, 256, .inl (fun _ => 0))), (o3, .inr (0, [.ref x3, .ref y3, .int (-1), .int 0, .int 0])), (x3, .inl (E.2 0, 60, .inl (fun _ => 0))), (y3, .inr (1, [.ref z3, .int (-1), .int 0])), (z3, .inl (E.2 0, 256, .inl (fun _ => 0)))]) K hw rfl rfl (in5 (j := 2) (by decide)) dX2_init_31 rfl (fun H locs hw => ?_)
  refine lv_iinc (v := 3) (lv' := [(1, .int 3), (0, .ref h)]) hx hb dX2_init_32 hl (k := 0) rfl (by decide) (by decide) rfl (fun ls hl => ?_)
  refine lv_goto (tgt := 14) hx hb dX2_init_35 (by decide) ?_
  refine lv_iload_n hx hb dX2_init_14 rfl (lv_at hl 0 rfl) ?_
  refine lv_iconst (v := 5) hx hb dX2_init_15 (by decide) ?_
  refine lv_icmp_ge (tgt := 38) hx hb dX2_init_16 (by decide) (fun c_16 => ?_) (fun c_16 => ?_)
  · exact absurd c_16 (by decide)
  refine lv_aload_n hx hb dX2_init_19 rfl (lv_at hl 1 rfl) ?_
  refine wGet (q0 := 0) (v := .ref b0) K hw hiX2 rfl rfl 0 (by decide) (by decide +kernel) rfl dX2_init_20 ?_
  refine lv_iload_n hx hb dX2_init_23 rfl (lv_at hl 0 rfl) ?_
  refine wNew (ci := 0) (fs := [.null, .null, .int 0, .int 0, .int 0]) (C := RX0) (T := TX0) (N := 5) (cells1 := 14) (slots1 := 982) K hw hiX0 tyX0 tyX0_ok (by decide +kernel) (by decide +kernel) (by decide +kernel) rfl (fun j hj => by rcases (show j = 0 ∨ j = 1 ∨ j = 2 ∨ j = 3 ∨ j = 4 by omega) with rfl | rfl | rfl | rfl | rfl <;> rfl) rfl rfl (Nat.le_of_ble_eq_true rfl) (Nat.le_of_ble_eq_true rfl) dX2_init_24 (fun o4 H hw => ?_)
  have hw : wW E A s ([(h, .inr (2, [.ref b0, .int 0, .int 0, .int 0, .int 0, .int 0, .int 0, .int 0])), (b0, .inl (E.2 2, 5, .inr (.inr (.inr (.inr (va_up (va_up (va_up (fun _ => none) 0 (some o1)) 1 (some o2)) 2 (some o3))))))), (o1, .inr (0, [.ref x1, .ref y1, .int (-1), .int 0, .int 0])), (x1, .inl (E.2 0, 60, .inl (fun _ => 0))), (y1, .inr (1, [.ref z1, .int (-1), .int 0])), (z1, .inl (E.2 0, 256, .inl (fun _ => 0))), (o2, .inr (0, [.ref x2, .ref y2, .int (-1), .int 0, .int 0])), (x2, .inl (E.2 0, 60, .inl (fun _ => 0))), (y2, .inr (1, [.ref z2, .int (-1), .int 0])), (z2, .inl (E.2 0, 256, .inl (fun _ => 0))), (o3, .inr (0, [.ref x3, .ref y3, .int (-1), .int 0, .int 0])), (x3, .inl (E.2 0, 60, .inl (fun _ => 0))), (y3, .inr (1, [.ref z3, .int (-1), .int 0])), (z3, .inl (E.2 0, 256, .inl (fun _ => 0))), (o4, .inr (0, [.null, .null, .int 0, .int 0, .int 0]))] : va_W) _ _ := hw
  refine lv_dup hx hb dX2_init_27 rfl ?_
  refine wCallI (a := [(h, .inr (2, [.ref b0, .int 0, .int 0, .int 0, .int 0, .int 0, .int 0, .int 0])), (b0, .inl (E.2 2, 5, .inr (.inr (.inr (.inr (va_up (va_up (va_up (fun _ => none) 0 (some o1)) 1 (some o2)) 2 (some o3))))))), (o1, .inr (0, [.ref x1, .ref y1, .int (-1), .int 0, .int 0])), (x1, .inl (E.2 0, 60, .inl (fun _ => 0))), (y1, .inr (1, [.ref z1, .int (-1), .int 0])), (z1, .inl (E.2 0, 256, .inl (fun _ => 0))), (o2, .inr (0, [.ref x2, .ref y2, .int (-1), .int 0, .int 0])), (x2, .inl (E.2 0, 60, .inl (fun _ => 0))), (y2, .inr (1, [.ref z2, .int (-1), .int 0])), (z2, .inl (E.2 0, 256, .inl (fun _ => 0))), (o3, .inr (0, [.ref x3, .ref y3, .int (-1), .int 0, .int 0])), (x3, .inl (E.2 0, 60, .inl (fun _ => 0))), (y3, .inr (1, [.ref z3, .int (-1), .int 0])), (z3, .inl (E.2 0, 256, .inl (fun _ => 0)))]) (b := [(o4, .inr (0, [.null, .null, .int 0, .int 0, .int 0]))]) (o := o4) (As := []) (rest := [.ref o4, .int 3, .ref b0]) (cells1 := 17) (slots1 := 1301) K hw (mX0_init l E o4) (cwI 0 hts gX2_init_X0_init rfl rfl rfl (hts (.initialized RX0) (by decide +kernel)) (hts (.methodLink RX2 15 yX0_init) (by decide +kernel)) (hts (.instanceMethod yX0_init) (by decide +kernel)) rfl (by decide +kernel) ⟨(Nat.le_of_ble_eq_true rfl), (Nat.le_of_ble_eq_true rfl)⟩) rfl hl.1 rfl (Nat.le_of_ble_eq_true rfl) dX2_init_28 rfl rfl ⟨(Nat.le_of_ble_eq_true rfl), (Nat.le_of_ble_eq_true rfl)⟩ (fun w' H locs hr hw => ?_)
  obtain ⟨x4, y4, z4, rfl⟩ := hr
  have hw : wW E A s ([(h, .inr (2, [.ref b0, .int 0, .int 0, .int 0, .int 0, .int 0, .int 0, .int 0])), (b0, .inl (E.2 2, 5, .inr (.inr (.inr (.inr (va_up (va_up (va_up (fun _ => none) 0 (some o1)) 1 (some o2)) 2 (some o3))))))), (o1, .inr (0, [.ref x1, .ref y1, .int (-1), .int 0, .int 0])), (x1, .inl (E.2 0, 60, .inl (fun _ => 0))), (y1, .inr (1, [.ref z1, .int (-1), .int 0])), (z1, .inl (E.2 0, 256, .inl (fun _ => 0))), (o2, .inr (0, [.ref x2, .ref y2, .int (-1), .int 0, .int 0])), (x2, .inl (E.2 0, 60, .inl (fun _ => 0))), (y2, .inr (1, [.ref z2, .int (-1), .int 0])), (z2, .inl (E.2 0, 256, .inl (fun _ => 0))), (o3, .inr (0, [.ref x3, .ref y3, .int (-1), .int 0, .int 0])), (x3, .inl (E.2 0, 60, .inl (fun _ => 0))), (y3, .inr (1, [.ref z3, .int (-1), .int 0])), (z3, .inl (E.2 0, 256, .inl (fun _ => 0))), (o4, .inr (0, [.ref x4, .ref y4, .int (-1), .int 0, .int 0])), (x4, .inl (E.2 0, 60, .inl (fun _ => 0))), (y4, .inr (1, [.ref z4, .int (-1), .int 0])), (z4, .inl (E.2 0, 256, .inl (fun _ => 0)))] : va_W) _ _ := hw
  refine wAast (q0 := 1) (qk := 14) (ws' := [(h, .inr (2, [.ref b0, .int 0, .int 0, .int 0, .int 0, .int 0, .int 0, .int 0])), (b0, .inl (E.2 2, 5, .inr (.inr (.inr (.inr (va_up (va_up (va_up (va_up (fun _ => none) 0 (some o1)) 1 (some o2)) 2 (some o3)) 3 (some o4))))))), (o1, .inr (0, [.ref x1, .ref y1, .int (-1), .int 0, .int 0])), (x1, .inl (E.2 0, 60, .inl (fun _ => 0))), (y1, .inr (1, [.ref z1, .int (-1), .int 0])), (z1, .inl (E.2 0, 256, .inl (fun _ => 0))), (o2, .inr (0, [.ref x2, .ref y2, .int (-1), .int 0, .int 0])), (x2, .inl (E.2 0, 60, .inl (fun _ => 0))), (y2, .inr (1, [.ref z2, .int (-1), .int 0])), (z2, .inl (E.2 0, 256, .inl (fun _ => 0))), (o3, .inr (0, [.ref x3, .ref y3, .int (-1), .int 0, .int 0])), (x3, .inl (E.2 0, 60, .inl (fun _ => 0))), (y3, .inr (1, [.ref z3, .int (-1), .int 0])), (z3, .inl (E.2 0, 256, .inl (fun _ => 0))), (o4, .inr (0, [.ref x4, .ref y4, .int (-1), .int 0, .int 0])), (x4, .inl (E.2 0, 60, .inl (fun _ => 0))), (y4, .inr (1, [.ref z4, .int (-1), .int 0])), (z4, .inl (E.2 0, 256, .inl (fun _ => 0)))]) K hw rfl rfl (in5 (j := 3) (by decide)) dX2_init_31 rfl (fun H locs hw => ?_)
  refine lv_iinc (v := 4) (lv' := [(1, .int 4), (0, .ref h)]) hx hb dX2_init_32 hl (k := 0) rfl (by decide) (by decide) rfl (fun ls hl => ?_)
  refine lv_goto (tgt := 14) hx hb dX2_init_35 (by decide) ?_
  refine lv_iload_n hx hb dX2_init_14 rfl (lv_at hl 0 rfl) ?_
  refine lv_iconst (v := 5) hx hb dX2_init_15 (by decide) ?_
  refine lv_icmp_ge (tgt := 38) hx hb dX2_init_16 (by decide) (fun c_16 => ?_) (fun c_16 => ?_)
  · exact absurd c_16 (by decide)
  refine lv_aload_n hx hb dX2_init_19 rfl (lv_at hl 1 rfl) ?_
  refine wGet (q0 := 0) (v := .ref b0) K hw hiX2 rfl rfl 0 (by decide) (by decide +kernel) rfl dX2_init_20 ?_
  refine lv_iload_n hx hb dX2_init_23 rfl (lv_at hl 0 rfl) ?_
  refine wNew (ci := 0) (fs := [.null, .null, .int 0, .int 0, .int 0]) (C := RX0) (T := TX0) (N := 5) (cells1 := 18) (slots1 := 1306) K hw hiX0 tyX0 tyX0_ok (by decide +kernel) (by decide +kernel) (by decide +kernel) rfl (fun j hj => by rcases (show j = 0 ∨ j = 1 ∨ j = 2 ∨ j = 3 ∨ j = 4 by omega) with rfl | rfl | rfl | rfl | rfl <;> rfl) rfl rfl (Nat.le_of_ble_eq_true rfl) (Nat.le_of_ble_eq_true rfl) dX2_init_24 (fun o5 H hw => ?_)
  have hw : wW E A s ([(h, .inr (2, [.ref b0, .int 0, .int 0, .int 0, .int 0, .int 0, .int 0, .int 0])), (b0, .inl (E.2 2, 5, .inr (.inr (.inr (.inr (va_up (va_up (va_up (va_up (fun _ => none) 0 (some o1)) 1 (some o2)) 2 (some o3)) 3 (some o4))))))), (o1, .inr (0, [.ref x1, .ref y1, .int (-1), .int 0, .int 0])), (x1, .inl (E.2 0, 60, .inl (fun _ => 0))), (y1, .inr (1, [.ref z1, .int (-1), .int 0])), (z1, .inl (E.2 0, 256, .inl (fun _ => 0))), (o2, .inr (0, [.ref x2, .ref y2, .int (-1), .int 0, .int 0])), (x2, .inl (E.2 0, 60, .inl (fun _ => 0))), (y2, .inr (1, [.ref z2, .int (-1), .int 0])), (z2, .inl (E.2 0, 256, .inl (fun _ => 0))), (o3, .inr (0, [.ref x3, .ref y3, .int (-1), .int 0, .int 0])), (x3, .inl (E.2 0, 60, .inl (fun _ => 0))), (y3, .inr (1, [.ref z3, .int (-1), .int 0])), (z3, .inl (E.2 0, 256, .inl (fun _ => 0))), (o4, .inr (0, [.ref x4, .ref y4, .int (-1), .int 0, .int 0])), (x4, .inl (E.2 0, 60, .inl (fun _ => 0))), (y4, .inr (1, [.ref z4, .int (-1), .int 0])), (z4, .inl (E.2 0, 256, .inl (fun _ => 0))), (o5, .inr (0, [.null, .null, .int 0, .int 0, .int 0]))] : va_W) _ _ := hw
  refine lv_dup hx hb dX2_init_27 rfl ?_
  refine wCallI (a := [(h, .inr (2, [.ref b0, .int 0, .int 0, .int 0, .int 0, .int 0, .int 0, .int 0])), (b0, .inl (E.2 2, 5, .inr (.inr (.inr (.inr (va_up (va_up (va_up (va_up (fun _ => none) 0 (some o1)) 1 (some o2)) 2 (some o3)) 3 (some o4))))))), (o1, .inr (0, [.ref x1, .ref y1, .int (-1), .int 0, .int 0])), (x1, .inl (E.2 0, 60, .inl (fun _ => 0))), (y1, .inr (1, [.ref z1, .int (-1), .int 0])), (z1, .inl (E.2 0, 256, .inl (fun _ => 0))), (o2, .inr (0, [.ref x2, .ref y2, .int (-1), .int 0, .int 0])), (x2, .inl (E.2 0, 60, .inl (fun _ => 0))), (y2, .inr (1, [.ref z2, .int (-1), .int 0])), (z2, .inl (E.2 0, 256, .inl (fun _ => 0))), (o3, .inr (0, [.ref x3, .ref y3, .int (-1), .int 0, .int 0])), (x3, .inl (E.2 0, 60, .inl (fun _ => 0))), (y3, .inr (1, [.ref z3, .int (-1), .int 0])), (z3, .inl (E.2 0, 256, .inl (fun _ => 0))), (o4, .inr (0, [.ref x4, .ref y4, .int (-1), .int 0, .int 0])), (x4, .inl (E.2 0, 60, .inl (fun _ => 0))), (y4, .inr (1, [.ref z4, .int (-1), .int 0])), (z4, .inl (E.2 0, 256, .inl (fun _ => 0)))]) (b := [(o5, .inr (0, [.null, .null, .int 0, .int 0, .int 0]))]) (o := o5) (As := []) (rest := [.ref o5, .int 4, .ref b0]) (cells1 := 21) (slots1 := 1625) K hw (mX0_init l E o5) (cwI 0 hts gX2_init_X0_init rfl rfl rfl (hts (.initialized RX0) (by decide +kernel)) (hts (.methodLink RX2 15 yX0_init) (by decide +kernel)) (hts (.instanceMethod yX0_init) (by decide +kernel)) rfl (by decide +kernel) ⟨(Nat.le_of_ble_eq_true rfl), (Nat.le_of_ble_eq_true rfl)⟩) rfl hl.1 rfl (Nat.le_of_ble_eq_true rfl) dX2_init_28 rfl rfl ⟨(Nat.le_of_ble_eq_true rfl), (Nat.le_of_ble_eq_true rfl)⟩ (fun w' H locs hr hw => ?_)
  obtain ⟨x5, y5, z5, rfl⟩ := hr
  have hw : wW E A s ([(h, .inr (2, [.ref b0, .int 0, .int 0, .int 0, .int 0, .int 0, .int 0, .int 0])), (b0, .inl (E.2 2, 5, .inr (.inr (.inr (.inr (va_up (va_up (va_up (va_up (fun _ => none) 0 (some o1)) 1 (some o2)) 2 (some o3)) 3 (some o4))))))), (o1, .inr (0, [.ref x1, .ref y1, .int (-1), .int 0, .int 0])), (x1, .inl (E.2 0, 60, .inl (fun _ => 0))), (y1, .inr (1, [.ref z1, .int (-1), .int 0])), (z1, .inl (E.2 0, 256, .inl (fun _ => 0))), (o2, .inr (0, [.ref x2, .ref y2, .int (-1), .int 0, .int 0])), (x2, .inl (E.2 0, 60, .inl (fun _ => 0))), (y2, .inr (1, [.ref z2, .int (-1), .int 0])), (z2, .inl (E.2 0, 256, .inl (fun _ => 0))), (o3, .inr (0, [.ref x3, .ref y3, .int (-1), .int 0, .int 0])), (x3, .inl (E.2 0, 60, .inl (fun _ => 0))), (y3, .inr (1, [.ref z3, .int (-1), .int 0])), (z3, .inl (E.2 0, 256, .inl (fun _ => 0))), (o4, .inr (0, [.ref x4, .ref y4, .int (-1), .int 0, .int 0])), (x4, .inl (E.2 0, 60, .inl (fun _ => 0))), (y4, .inr (1, [.ref z4, .int (-1), .int 0])), (z4, .inl (E.2 0, 256, .inl (fun _ => 0))), (o5, .inr (0, [.ref x5, .ref y5, .int (-1), .int 0, .int 0])), (x5, .inl (E.2 0, 60, .inl (fun _ => 0))), (y5, .inr (1, [.ref z5, .int (-1), .int 0])), (z5, .inl (E.2 0, 256, .inl (fun _ => 0)))] : va_W) _ _ := hw
  refine wAast (q0 := 1) (qk := 18) (ws' := [(h, .inr (2, [.ref b0, .int 0, .int 0, .int 0, .int 0, .int 0, .int 0, .int 0])), (b0, .inl (E.2 2, 5, .inr (.inr (.inr (.inr (va_up (va_up (va_up (va_up (va_up (fun _ => none) 0 (some o1)) 1 (some o2)) 2 (some o3)) 3 (some o4)) 4 (some o5))))))), (o1, .inr (0, [.ref x1, .ref y1, .int (-1), .int 0, .int 0])), (x1, .inl (E.2 0, 60, .inl (fun _ => 0))), (y1, .inr (1, [.ref z1, .int (-1), .int 0])), (z1, .inl (E.2 0, 256, .inl (fun _ => 0))), (o2, .inr (0, [.ref x2, .ref y2, .int (-1), .int 0, .int 0])), (x2, .inl (E.2 0, 60, .inl (fun _ => 0))), (y2, .inr (1, [.ref z2, .int (-1), .int 0])), (z2, .inl (E.2 0, 256, .inl (fun _ => 0))), (o3, .inr (0, [.ref x3, .ref y3, .int (-1), .int 0, .int 0])), (x3, .inl (E.2 0, 60, .inl (fun _ => 0))), (y3, .inr (1, [.ref z3, .int (-1), .int 0])), (z3, .inl (E.2 0, 256, .inl (fun _ => 0))), (o4, .inr (0, [.ref x4, .ref y4, .int (-1), .int 0, .int 0])), (x4, .inl (E.2 0, 60, .inl (fun _ => 0))), (y4, .inr (1, [.ref z4, .int (-1), .int 0])), (z4, .inl (E.2 0, 256, .inl (fun _ => 0))), (o5, .inr (0, [.ref x5, .ref y5, .int (-1), .int 0, .int 0])), (x5, .inl (E.2 0, 60, .inl (fun _ => 0))), (y5, .inr (1, [.ref z5, .int (-1), .int 0])), (z5, .inl (E.2 0, 256, .inl (fun _ => 0)))]) K hw rfl rfl (in5 (j := 4) (by decide)) dX2_init_31 rfl (fun H locs hw => ?_)
  refine lv_iinc (v := 5) (lv' := [(1, .int 5), (0, .ref h)]) hx hb dX2_init_32 hl (k := 0) rfl (by decide) (by decide) rfl (fun ls hl => ?_)
  refine lv_goto (tgt := 14) hx hb dX2_init_35 (by decide) ?_
  refine lv_iload_n hx hb dX2_init_14 rfl (lv_at hl 0 rfl) ?_
  refine lv_iconst (v := 5) hx hb dX2_init_15 (by decide) ?_
  refine lv_icmp_ge (tgt := 38) hx hb dX2_init_16 (by decide) (fun c_16 => ?_) (fun c_16 => ?_)
  rotate_left
  · exact absurd (by decide) c_16
  exact wRetV K hw dX2_init_38 ⟨(fun i => [h, b0, o1, x1, y1, z1, o2, x2, y2, z2, o3, x3, y3, z3, o4, x4, y4, z4, o5, x5, y5, z5].getD i 0), rfl, by rw [lanes5 (ad := (fun i => [h, b0, o1, x1, y1, z1, o2, x2, y2, z2, o3, x3, y3, z3, o4, x4, y4, z4, o5, x5, y5, z5].getD i 0)) (a := o1) (b := o2) (c := o3) (d := o4) (e := o5) rfl rfl rfl rfl rfl]; rfl⟩
set_option maxHeartbeats 4000000 in
set_option maxRecDepth 100000 in
theorem mX3_init (l : Launch) (E : wE) (h : Nat) : MCv l E yX3_init wsX3_init { frames := 1, cells := 9, slots := 1615, locals := 12 } [.ref h] ([(h, .inr (3, [.null, .null, .null, .null, .null, .null, .null, .null, .null, .int 0, .int 0, .int 0, .int 0, .int 0, .int 0, .int 0]))]) (fun w => ∃ am : Nat → Nat, am 0 = h ∧ w = wM E am S0) := by
  refine wEnterV (cc := cX3_init) (nL := 1) (ret := none) (own := RX3) (by decide) rfl rfl (Nat.le_of_ble_eq_true rfl) ?_
  intro p e s m below meth c A ls K hl hw hin
  have hl : lv_has ls 1 [(0, .ref h)] := hl
  obtain ⟨hx, hb, -, hml, hown, hts, -, -, -⟩ := id K
  have hiX3 : ∀ w ∈ wsX30, w ∈ wsX3_init := by decide +kernel
  refine lv_aload_n hx hb dX3_init_0 rfl (lv_at hl 0 rfl) ?_
  refine W.objInit hx hb hown (hts (.methodLink RX3 1 objectInit) (by decide +kernel)) (hts (.instanceMethod objectInit) (by decide +kernel)) (hts (.code objectInit ⟨#[0xb1]⟩ 1 none) (by decide +kernel)) rfl (by rw [hml]; exact hl.1) rfl dX3_init_1 (Nat.le_of_ble_eq_true rfl) (Nat.le_of_ble_eq_true rfl) ?_
  refine W.eq (g2 := F0 m 4 ls []) rfl ?_
  refine lv_aload_n hx hb dX3_init_4 rfl (lv_at hl 0 rfl) ?_
  refine lv_sipush (v := 300) hx hb dX3_init_5 (by decide) ?_
  refine wNewI (N' := 300) (cells1 := 1) (slots1 := 300) K hw (by decide +kernel) (by decide) (by decide) (by decide) rfl rfl (Nat.le_of_ble_eq_true rfl) (Nat.le_of_ble_eq_true rfl) dX3_init_8 (fun b0 H hw => ?_)
  have hw : wW E A s ([(h, .inr (3, [.null, .null, .null, .null, .null, .null, .null, .null, .null, .int 0, .int 0, .int 0, .int 0, .int 0, .int 0, .int 0])), (b0, .inl (E.2 0, 300, .inl (fun _ => 0)))] : va_W) _ _ := hw
  refine wPutF (q0 := 0) (ty := .array .int) (ws' := [(h, .inr (3, [.ref b0, .null, .null, .null, .null, .null, .null, .null, .null, .int 0, .int 0, .int 0, .int 0, .int 0, .int 0, .int 0])), (b0, .inl (E.2 0, 300, .inl (fun _ => 0)))]) K hw hiX3 tyX3 tyX3_ok nmX3 rfl rfl 0 (by decide) (by decide +kernel) rfl hin rfl (by decide +kernel) rfl rfl (Nat.le_of_ble_eq_true rfl) dX3_init_10 rfl (fun H locs hw => ?_)
  refine lv_aload_n hx hb dX3_init_13 rfl (lv_at hl 0 rfl) ?_
  refine lv_iconst (v := 5) hx hb dX3_init_14 (by decide) ?_
  refine wNewI (N' := 5) (cells1 := 2) (slots1 := 305) K hw (by decide +kernel) (by decide) (by decide) (by decide) rfl rfl (Nat.le_of_ble_eq_true rfl) (Nat.le_of_ble_eq_true rfl) dX3_init_15 (fun b1 H hw => ?_)
  have hw : wW E A s ([(h, .inr (3, [.ref b0, .null, .null, .null, .null, .null, .null, .null, .null, .int 0, .int 0, .int 0, .int 0, .int 0, .int 0, .int 0])), (b0, .inl (E.2 0, 300, .inl (fun _ => 0))), (b1, .inl (E.2 0, 5, .inl (fun _ => 0)))] : va_W) _ _ := hw
  refine wPutF (q0 := 0) (ty := .array .int) (ws' := [(h, .inr (3, [.ref b0, .ref b1, .null, .null, .null, .null, .null, .null, .null, .int 0, .int 0, .int 0, .int 0, .int 0, .int 0, .int 0])), (b0, .inl (E.2 0, 300, .inl (fun _ => 0))), (b1, .inl (E.2 0, 5, .inl (fun _ => 0)))]) K hw hiX3 tyX3 tyX3_ok nmX3 rfl rfl 1 (by decide) (by decide +kernel) rfl hin rfl (by decide +kernel) rfl rfl (Nat.le_of_ble_eq_true rfl) dX3_init_17 rfl (fun H locs hw => ?_)
  refine lv_aload_n hx hb dX3_init_20 rfl (lv_at hl 0 rfl) ?_
  refine lv_iconst (v := 5) hx hb dX3_init_21 (by decide) ?_
  refine wNewZ (N' := 5) (cells1 := 3) (slots1 := 310) K hw (by decide +kernel) (by decide) (by decide) (by decide) rfl rfl (Nat.le_of_ble_eq_true rfl) (Nat.le_of_ble_eq_true rfl) dX3_init_22 (fun b2 H hw => ?_)
  have hw : wW E A s ([(h, .inr (3, [.ref b0, .ref b1, .null, .null, .null, .null, .null, .null, .null, .int 0, .int 0, .int 0, .int 0, .int 0, .int 0, .int 0])), (b0, .inl (E.2 0, 300, .inl (fun _ => 0))), (b1, .inl (E.2 0, 5, .inl (fun _ => 0))), (b2, .inl (E.2 1, 5, .inl (fun _ => 0)))] : va_W) _ _ := hw
  refine wPutF (q0 := 0) (ty := .array .boolean) (ws' := [(h, .inr (3, [.ref b0, .ref b1, .ref b2, .null, .null, .null, .null, .null, .null, .int 0, .int 0, .int 0, .int 0, .int 0, .int 0, .int 0])), (b0, .inl (E.2 0, 300, .inl (fun _ => 0))), (b1, .inl (E.2 0, 5, .inl (fun _ => 0))), (b2, .inl (E.2 1, 5, .inl (fun _ => 0)))]) K hw hiX3 tyX3 tyX3_ok nmX3 rfl rfl 2 (by decide) (by decide +kernel) rfl hin rfl (by decide +kernel) rfl rfl (Nat.le_of_ble_eq_true rfl) dX3_init_24 rfl (fun H locs hw => ?_)
  refine lv_aload_n hx hb dX3_init_27 rfl (lv_at hl 0 rfl) ?_
  refine lv_sipush (v := 1280) hx hb dX3_init_28 (by decide) ?_
  refine wNewI (N' := 1280) (cells1 := 4) (slots1 := 1590) K hw (by decide +kernel) (by decide) (by decide) (by decide) rfl rfl (Nat.le_of_ble_eq_true rfl) (Nat.le_of_ble_eq_true rfl) dX3_init_31 (fun b3 H hw => ?_)
  have hw : wW E A s ([(h, .inr (3, [.ref b0, .ref b1, .ref b2, .null, .null, .null, .null, .null, .null, .int 0, .int 0, .int 0, .int 0, .int 0, .int 0, .int 0])), (b0, .inl (E.2 0, 300, .inl (fun _ => 0))), (b1, .inl (E.2 0, 5, .inl (fun _ => 0))), (b2, .inl (E.2 1, 5, .inl (fun _ => 0))), (b3, .inl (E.2 0, 1280, .inl (fun _ => 0)))] : va_W) _ _ := hw
  refine wPutF (q0 := 0) (ty := .array .int) (ws' := [(h, .inr (3, [.ref b0, .ref b1, .ref b2, .ref b3, .null, .null, .null, .null, .null, .int 0, .int 0, .int 0, .int 0, .int 0, .int 0, .int 0])), (b0, .inl (E.2 0, 300, .inl (fun _ => 0))), (b1, .inl (E.2 0, 5, .inl (fun _ => 0))), (b2, .inl (E.2 1, 5, .inl (fun _ => 0))), (b3, .inl (E.2 0, 1280, .inl (fun _ => 0)))]) K hw hiX3 tyX3 tyX3_ok nmX3 rfl rfl 3 (by decide) (by decide +kernel) rfl hin rfl (by decide +kernel) rfl rfl (Nat.le_of_ble_eq_true rfl) dX3_init_33 rfl (fun H locs hw => ?_)
  refine lv_aload_n hx hb dX3_init_36 rfl (lv_at hl 0 rfl) ?_
  refine lv_iconst (v := 5) hx hb dX3_init_37 (by decide) ?_
  refine wNewI (N' := 5) (cells1 := 5) (slots1 := 1595) K hw (by decide +kernel) (by decide) (by decide) (by decide) rfl rfl (Nat.le_of_ble_eq_true rfl) (Nat.le_of_ble_eq_true rfl) dX3_init_38 (fun b4 H hw => ?_)
  have hw : wW E A s ([(h, .inr (3, [.ref b0, .ref b1, .ref b2, .ref b3, .null, .null, .null, .null, .null, .int 0, .int 0, .int 0, .int 0, .int 0, .int 0, .int 0])), (b0, .inl (E.2 0, 300, .inl (fun _ => 0))), (b1, .inl (E.2 0, 5, .inl (fun _ => 0))), (b2, .inl (E.2 1, 5, .inl (fun _ => 0))), (b3, .inl (E.2 0, 1280, .inl (fun _ => 0))), (b4, .inl (E.2 0, 5, .inl (fun _ => 0)))] : va_W) _ _ := hw
  refine wPutF (q0 := 0) (ty := .array .int) (ws' := [(h, .inr (3, [.ref b0, .ref b1, .ref b2, .ref b3, .ref b4, .null, .null, .null, .null, .int 0, .int 0, .int 0, .int 0, .int 0, .int 0, .int 0])), (b0, .inl (E.2 0, 300, .inl (fun _ => 0))), (b1, .inl (E.2 0, 5, .inl (fun _ => 0))), (b2, .inl (E.2 1, 5, .inl (fun _ => 0))), (b3, .inl (E.2 0, 1280, .inl (fun _ => 0))), (b4, .inl (E.2 0, 5, .inl (fun _ => 0)))]) K hw hiX3 tyX3 tyX3_ok nmX3 rfl rfl 4 (by decide) (by decide +kernel) rfl hin rfl (by decide +kernel) rfl rfl (Nat.le_of_ble_eq_true rfl) dX3_init_40 rfl (fun H locs hw => ?_)
  refine lv_aload_n hx hb dX3_init_43 rfl (lv_at hl 0 rfl) ?_
  refine lv_iconst (v := 5) hx hb dX3_init_44 (by decide) ?_
  refine wNewI (N' := 5) (cells1 := 6) (slots1 := 1600) K hw (by decide +kernel) (by decide) (by decide) (by decide) rfl rfl (Nat.le_of_ble_eq_true rfl) (Nat.le_of_ble_eq_true rfl) dX3_init_45 (fun b5 H hw => ?_)
  have hw : wW E A s ([(h, .inr (3, [.ref b0, .ref b1, .ref b2, .ref b3, .ref b4, .null, .null, .null, .null, .int 0, .int 0, .int 0, .int 0, .int 0, .int 0, .int 0])), (b0, .inl (E.2 0, 300, .inl (fun _ => 0))), (b1, .inl (E.2 0, 5, .inl (fun _ => 0))), (b2, .inl (E.2 1, 5, .inl (fun _ => 0))), (b3, .inl (E.2 0, 1280, .inl (fun _ => 0))), (b4, .inl (E.2 0, 5, .inl (fun _ => 0))), (b5, .inl (E.2 0, 5, .inl (fun _ => 0)))] : va_W) _ _ := hw
  refine wPutF (q0 := 0) (ty := .array .int) (ws' := [(h, .inr (3, [.ref b0, .ref b1, .ref b2, .ref b3, .ref b4, .ref b5, .null, .null, .null, .int 0, .int 0, .int 0, .int 0, .int 0, .int 0, .int 0])), (b0, .inl (E.2 0, 300, .inl (fun _ => 0))), (b1, .inl (E.2 0, 5, .inl (fun _ => 0))), (b2, .inl (E.2 1, 5, .inl (fun _ => 0))), (b3, .inl (E.2 0, 1280, .inl (fun _ => 0))), (b4, .inl (E.2 0, 5, .inl (fun _ => 0))), (b5, .inl (E.2 0, 5, .inl (fun _ => 0)))]) K hw hiX3 tyX3 tyX3_ok nmX3 rfl rfl 5 (by decide) (by decide +kernel) rfl hin rfl (by decide +kernel) rfl rfl (Nat.le_of_ble_eq_true rfl) dX3_init_47 rfl (fun H locs hw => ?_)
  refine lv_aload_n hx hb dX3_init_50 rfl (lv_at hl 0 rfl) ?_
  refine lv_iconst (v := 5) hx hb dX3_init_51 (by decide) ?_
  refine wNewZ (N' := 5) (cells1 := 7) (slots1 := 1605) K hw (by decide +kernel) (by decide) (by decide) (by decide) rfl rfl (Nat.le_of_ble_eq_true rfl) (Nat.le_of_ble_eq_true rfl) dX3_init_52 (fun b6 H hw => ?_)
  have hw : wW E A s ([(h, .inr (3, [.ref b0, .ref b1, .ref b2, .ref b3, .ref b4, .ref b5, .null, .null, .null, .int 0, .int 0, .int 0, .int 0, .int 0, .int 0, .int 0])), (b0, .inl (E.2 0, 300, .inl (fun _ => 0))), (b1, .inl (E.2 0, 5, .inl (fun _ => 0))), (b2, .inl (E.2 1, 5, .inl (fun _ => 0))), (b3, .inl (E.2 0, 1280, .inl (fun _ => 0))), (b4, .inl (E.2 0, 5, .inl (fun _ => 0))), (b5, .inl (E.2 0, 5, .inl (fun _ => 0))), (b6, .inl (E.2 1, 5, .inl (fun _ => 0)))] : va_W) _ _ := hw
  refine wPutF (q0 := 0) (ty := .array .boolean) (ws' := [(h, .inr (3, [.ref b0, .ref b1, .ref b2, .ref b3, .ref b4, .ref b5, .ref b6, .null, .null, .int 0, .int 0, .int 0, .int 0, .int 0, .int 0, .int 0])), (b0, .inl (E.2 0, 300, .inl (fun _ => 0))), (b1, .inl (E.2 0, 5, .inl (fun _ => 0))), (b2, .inl (E.2 1, 5, .inl (fun _ => 0))), (b3, .inl (E.2 0, 1280, .inl (fun _ => 0))), (b4, .inl (E.2 0, 5, .inl (fun _ => 0))), (b5, .inl (E.2 0, 5, .inl (fun _ => 0))), (b6, .inl (E.2 1, 5, .inl (fun _ => 0)))]) K hw hiX3 tyX3 tyX3_ok nmX3 rfl rfl 6 (by decide) (by decide +kernel) rfl hin rfl (by decide +kernel) rfl rfl (Nat.le_of_ble_eq_true rfl) dX3_init_54 rfl (fun H locs hw => ?_)
  refine lv_aload_n hx hb dX3_init_57 rfl (lv_at hl 0 rfl) ?_
  refine lv_iconst (v := 5) hx hb dX3_init_58 (by decide) ?_
  refine wNewI (N' := 5) (cells1 := 8) (slots1 := 1610) K hw (by decide +kernel) (by decide) (by decide) (by decide) rfl rfl (Nat.le_of_ble_eq_true rfl) (Nat.le_of_ble_eq_true rfl) dX3_init_59 (fun b7 H hw => ?_)
  have hw : wW E A s ([(h, .inr (3, [.ref b0, .ref b1, .ref b2, .ref b3, .ref b4, .ref b5, .ref b6, .null, .null, .int 0, .int 0, .int 0, .int 0, .int 0, .int 0, .int 0])), (b0, .inl (E.2 0, 300, .inl (fun _ => 0))), (b1, .inl (E.2 0, 5, .inl (fun _ => 0))), (b2, .inl (E.2 1, 5, .inl (fun _ => 0))), (b3, .inl (E.2 0, 1280, .inl (fun _ => 0))), (b4, .inl (E.2 0, 5, .inl (fun _ => 0))), (b5, .inl (E.2 0, 5, .inl (fun _ => 0))), (b6, .inl (E.2 1, 5, .inl (fun _ => 0))), (b7, .inl (E.2 0, 5, .inl (fun _ => 0)))] : va_W) _ _ := hw
  refine wPutF (q0 := 0) (ty := .array .int) (ws' := [(h, .inr (3, [.ref b0, .ref b1, .ref b2, .ref b3, .ref b4, .ref b5, .ref b6, .ref b7, .null, .int 0, .int 0, .int 0, .int 0, .int 0, .int 0, .int 0])), (b0, .inl (E.2 0, 300, .inl (fun _ => 0))), (b1, .inl (E.2 0, 5, .inl (fun _ => 0))), (b2, .inl (E.2 1, 5, .inl (fun _ => 0))), (b3, .inl (E.2 0, 1280, .inl (fun _ => 0))), (b4, .inl (E.2 0, 5, .inl (fun _ => 0))), (b5, .inl (E.2 0, 5, .inl (fun _ => 0))), (b6, .inl (E.2 1, 5, .inl (fun _ => 0))), (b7, .inl (E.2 0, 5, .inl (fun _ => 0)))]) K hw hiX3 tyX3 tyX3_ok nmX3 rfl rfl 7 (by decide) (by decide +kernel) rfl hin rfl (by decide +kernel) rfl rfl (Nat.le_of_ble_eq_true rfl) dX3_init_61 rfl (fun H locs hw => ?_)
  refine lv_aload_n hx hb dX3_init_64 rfl (lv_at hl 0 rfl) ?_
  refine lv_iconst (v := 5) hx hb dX3_init_65 (by decide) ?_
  refine wNewI (N' := 5) (cells1 := 9) (slots1 := 1615) K hw (by decide +kernel) (by decide) (by decide) (by decide) rfl rfl (Nat.le_of_ble_eq_true rfl) (Nat.le_of_ble_eq_true rfl) dX3_init_66 (fun b8 H hw => ?_)
  have hw : wW E A s ([(h, .inr (3, [.ref b0, .ref b1, .ref b2, .ref b3, .ref b4, .ref b5, .ref b6, .ref b7, .null, .int 0, .int 0, .int 0, .int 0, .int 0, .int 0, .int 0])), (b0, .inl (E.2 0, 300, .inl (fun _ => 0))), (b1, .inl (E.2 0, 5, .inl (fun _ => 0))), (b2, .inl (E.2 1, 5, .inl (fun _ => 0))), (b3, .inl (E.2 0, 1280, .inl (fun _ => 0))), (b4, .inl (E.2 0, 5, .inl (fun _ => 0))), (b5, .inl (E.2 0, 5, .inl (fun _ => 0))), (b6, .inl (E.2 1, 5, .inl (fun _ => 0))), (b7, .inl (E.2 0, 5, .inl (fun _ => 0))), (b8, .inl (E.2 0, 5, .inl (fun _ => 0)))] : va_W) _ _ := hw
  refine wPutF (q0 := 0) (ty := .array .int) (ws' := [(h, .inr (3, [.ref b0, .ref b1, .ref b2, .ref b3, .ref b4, .ref b5, .ref b6, .ref b7, .ref b8, .int 0, .int 0, .int 0, .int 0, .int 0, .int 0, .int 0])), (b0, .inl (E.2 0, 300, .inl (fun _ => 0))), (b1, .inl (E.2 0, 5, .inl (fun _ => 0))), (b2, .inl (E.2 1, 5, .inl (fun _ => 0))), (b3, .inl (E.2 0, 1280, .inl (fun _ => 0))), (b4, .inl (E.2 0, 5, .inl (fun _ => 0))), (b5, .inl (E.2 0, 5, .inl (fun _ => 0))), (b6, .inl (E.2 1, 5, .inl (fun _ => 0))), (b7, .inl (E.2 0, 5, .inl (fun _ => 0))), (b8, .inl (E.2 0, 5, .inl (fun _ => 0)))]) K hw hiX3 tyX3 tyX3_ok nmX3 rfl rfl 8 (by decide) (by decide +kernel) rfl hin rfl (by decide +kernel) rfl rfl (Nat.le_of_ble_eq_true rfl) dX3_init_68 rfl (fun H locs hw => ?_)
  exact wRetV K hw dX3_init_71 ⟨(fun i => [h, b0, b1, b2, b3, b4, b5, b6, b7, b8].getD i 0), rfl, rfl⟩
end
section
/-! what holds between the calls stays so -/
theorem Inv_S0 : Inv S0 := ⟨fun k hk => ⟨Or.inl rfl, ⟨0, by omega, rfl⟩, Or.inl rfl, ⟨0, by omega, rfl⟩, ⟨0, by omega, rfl⟩⟩, ⟨0, by omega, rfl⟩, ⟨0, by omega, rfl⟩, fun i hi => Or.inl rfl⟩
theorem Inv.v0 {S : SS} (h : Inv S) {k : Nat} {v : Int32} (hv : v = 0 ∨ v = 1) : Inv (sV S 0 k v) := by
  refine ⟨fun a ha => ⟨?_, (h.1 a ha).2⟩, h.2.1, h.2.2.1, h.2.2.2⟩
  show upd (S.2.2 0) k v a = 0 ∨ upd (S.2.2 0) k v a = 1
  by_cases e : a = k
  · subst e; rw [pk_us]; exact hv
  · rw [pk_un e]; exact (h.1 a ha).1
theorem Inv.v1 {S : SS} (h : Inv S) {k n : Nat} {v : Int32} (hn : n ≤ 60) (hv : v = nI n) : Inv (sV S 1 k v) := by
  refine ⟨fun a ha => ⟨(h.1 a ha).1, ?_, (h.1 a ha).2.2⟩, h.2.1, h.2.2.1, h.2.2.2⟩
  show ∃ n, n ≤ 60 ∧ upd (S.2.2 1) k v a = nI n
  by_cases e : a = k
  · subst e; rw [pk_us]; exact ⟨n, hn, hv⟩
  · rw [pk_un e]; exact (h.1 a ha).2.1
theorem Inv.v2 {S : SS} (h : Inv S) {k : Nat} {v : Int32} (hv : v = 0 ∨ v = 1) : Inv (sV S 2 k v) := by
  refine ⟨fun a ha => ⟨(h.1 a ha).1, (h.1 a ha).2.1, ?_, (h.1 a ha).2.2.2⟩, h.2.1, h.2.2.1, h.2.2.2⟩
  show upd (S.2.2 2) k v a = 0 ∨ upd (S.2.2 2) k v a = 1
  by_cases e : a = k
  · subst e; rw [pk_us]; exact hv
  · rw [pk_un e]; exact (h.1 a ha).2.2.1
theorem Inv.v3 {S : SS} (h : Inv S) {k n : Nat} {v : Int32} (hn : n ≤ 16) (hv : v = nI n) : Inv (sV S 3 k v) := by
  refine ⟨fun a ha => ⟨(h.1 a ha).1, (h.1 a ha).2.1, (h.1 a ha).2.2.1, ?_, (h.1 a ha).2.2.2.2⟩, h.2.1, h.2.2.1, h.2.2.2⟩
  show ∃ n, n ≤ 16 ∧ upd (S.2.2 3) k v a = nI n
  by_cases e : a = k
  · subst e; rw [pk_us]; exact ⟨n, hn, hv⟩
  · rw [pk_un e]; exact (h.1 a ha).2.2.2.1
theorem Inv.v4 {S : SS} (h : Inv S) {k n : Nat} {v : Int32} (hn : n ≤ 16) (hv : v = nI n) : Inv (sV S 4 k v) := by
  refine ⟨fun a ha => ⟨(h.1 a ha).1, (h.1 a ha).2.1, (h.1 a ha).2.2.1, (h.1 a ha).2.2.2.1, ?_⟩, h.2.1, h.2.2.1, h.2.2.2⟩
  show ∃ n, n ≤ 16 ∧ upd (S.2.2 4) k v a = nI n
  by_cases e : a = k
  · subst e; rw [pk_us]; exact ⟨n, hn, hv⟩
  · rw [pk_un e]; exact (h.1 a ha).2.2.2.2
theorem Inv.offs {S : SS} (h : Inv S) {k : Nat} : Inv (xOff S k).2 := ⟨h.1, h.2.1, h.2.2.1, h.2.2.2⟩
theorem Inv.outs {S : SS} (h : Inv S) {k : Nat} : Inv (xOut S k).2 := ⟨h.1, h.2.1, h.2.2.1, h.2.2.2⟩
theorem Inv.zrc {S : SS} (h : Inv S) {k n : Nat} : Inv (zr S.1 k n, S.2.1, S.2.2) := by
  refine ⟨h.1, h.2.1, h.2.2.1, fun i hi => ?_⟩
  show zr S.1 k n 3 i = 0 ∨ zr S.1 k n 3 i = 1
  unfold zr
  by_cases e : 3 = k
  · subst e
    rw [if_pos rfl]
    show (if i < n then (0 : Int32) else S.1 3 i) = 0 ∨ (if i < n then (0 : Int32) else S.1 3 i) = 1
    by_cases q : i < n
    · rw [if_pos q]; exact Or.inl rfl
    · rw [if_neg q]; exact h.2.2.2 i hi
  · rw [if_neg e]; exact h.2.2.2 i hi
theorem Inv.numb {S : SS} (h : Inv S) (N : Nat → Nat → Int32) : Inv (S.1, N, S.2.2) := ⟨h.1, h.2.1, h.2.2.1, h.2.2.2⟩
theorem sto3_01 (v : Int64) : sto 3 v = 0 ∨ sto 3 v = 1 := by
  obtain ⟨n, hn, -, em⟩ := low_of v
  rw [← sto3_eq hn em, show (2 : Int32) = nI 2 from rfl, pk_rem (by omega) (by omega) (by omega)]
  rcases (show n % 2 = 0 ∨ n % 2 = 1 by omega) with e | e <;> rw [e]
  · exact Or.inl rfl
  · exact Or.inr rfl
theorem ped_01 {way x o : Int32} (hx : x = 0 ∨ x = 1) (ho : o = 0 ∨ o = 1) : ped way x o = 0 ∨ ped way x o = 1 := by
  unfold ped
  rcases hx with rfl | rfl <;> rcases ho with rfl | rfl <;> (repeat' split) <;> decide
theorem Inv.onply : ∀ (n : Nat) {S : SS}, Inv S → Inv (ply n S).2
  | 0, _, h => h
  | n + 1, S, h => by
    rw [ply]
    by_cases hc : hsC S 0 (S.2.2 7 0)
    · rw [if_pos hc]; exact Inv.onply n (h.onstep hc _)
    · rw [if_neg hc]; exact h
theorem iv_mount {S : SS} (h : Inv S) (lane n : Int32) : Inv (sp_mount S lane n).2 := by
  unfold sp_mount
  by_cases h1 : isl lane
  · rw [if_pos h1]
    by_cases h2 : n ≤ 60
    · rw [if_pos h2]
      by_cases h3 : 0 ≤ n
      · rw [if_pos h3]
        obtain ⟨q, hq, e⟩ := rng60 h3 h2
        exact Inv.zrc ((h.v0 (k := kN lane) (v := 1) (Or.inr rfl)).v1 (k := kN lane) hq e)
      · rw [if_neg h3]; exact h
    · rw [if_neg h2]; exact h
  · rw [if_neg h1]; exact h
theorem iv_strip {S : SS} (h : Inv S) (lane : Int32) : Inv (sp_strip S lane).2 := by
  unfold sp_strip
  by_cases h1 : isl lane
  · rw [if_pos h1]
    by_cases h2 : S.2.2 0 (kN lane) = 0
    · rw [if_pos h2]; exact h.offs
    · rw [if_neg h2]; exact h.v0 (Or.inl rfl)
  · rw [if_neg h1]; exact h
theorem iv_size {S : SS} (h : Inv S) (lane : Int32) : Inv (sp_size S lane).2 := by
  unfold sp_size
  by_cases h1 : isl lane
  · rw [if_pos h1]
    by_cases h2 : S.2.2 0 (kN lane) = 0
    · rw [if_pos h2]; exact h.offs
    · rw [if_neg h2]; exact h
  · rw [if_neg h1]; exact h
theorem iv_cell {S : SS} (h : Inv S) (lane i : Int32) : Inv (sp_cell S lane i).2 := by
  unfold sp_cell
  by_cases h1 : isl lane
  · rw [if_pos h1]
    by_cases h2 : S.2.2 0 (kN lane) = 0
    · rw [if_pos h2]; exact h.offs
    · rw [if_neg h2]
      by_cases h3 : hsC S (kN lane) i
      · rw [if_pos h3]; exact h
      · rw [if_neg h3]; exact h.outs
  · rw [if_neg h1]; exact h
theorem iv_put {S : SS} (h : Inv S) (lane i v : Int32) : Inv (sp_put S lane i v).2 := by
  unfold sp_put
  by_cases h1 : isl lane
  · rw [if_pos h1]
    by_cases h2 : S.2.2 0 (kN lane) = 0
    · rw [if_pos h2]; exact h.offs
    · rw [if_neg h2]
      by_cases h3 : hsC S (kN lane) i
      · rw [if_pos h3]
        exact h.setc (fun e => by rw [e]; exact sto3_01 _)
      · rw [if_neg h3]; exact h.outs
  · rw [if_neg h1]; exact h
theorem iv_change {S : SS} (h : Inv S) (lane way i v : Int32) : Inv (sp_change S lane way i v).2 := by
  unfold sp_change
  by_cases h1 : isl lane
  · rw [if_pos h1]
    by_cases hy : ¬ way < 0 ∧ ¬ 4 ≤ way
    · rw [if_pos hy]
      by_cases h2 : S.2.2 0 (kN lane) = 0
      · rw [if_pos h2]; exact h.offs
      · rw [if_neg h2]
        by_cases h3 : hsC S (kN lane) i
        · rw [if_pos h3]
          obtain ⟨j, hj, ej⟩ := isl_of h1
          obtain ⟨q, hq, eq⟩ := h.cell (k := kN lane) (by rw [ej, kN_nI (by omega)]; exact hj) h3
          refine h.setc (fun e => ?_)
          rw [e, chg, if_pos rfl]
          exact ped_01 (h.2.2.2 (kN i) (by rw [eq, kN_nI (by omega)]; exact hq)) (and1_01 v)
        · rw [if_neg h3]; exact h.outs
    · rw [if_neg hy]; exact h
  · rw [if_neg h1]; exact h
theorem rng16 {x : Int32} (h0 : ¬ x < 0) (h1 : ¬ 16 < x) : ∃ j : Nat, j ≤ 16 ∧ x = nI j := le_of_ix (y := 16) (by omega) rfl h0 (Int32.not_lt.mp h1)
theorem iv_rule {S : SS} (h : Inv S) (lane r c : Int32) : Inv (sp_rule S lane r c).2 := by
  unfold sp_rule
  by_cases h1 : isl lane
  · rw [if_pos h1]
    by_cases h2 : ¬ 16 < r ∧ ¬ 16 < c
    · rw [if_pos h2]
      by_cases h3 : ¬ r < 0 ∧ ¬ c < 0
      · rw [if_pos h3]
        obtain ⟨q, hq, e⟩ := rng16 h3.1 h2.1
        obtain ⟨q2, hq2, e2⟩ := rng16 h3.2 h2.2
        exact Inv.numb (((h.v2 (k := kN lane) (v := 1) (Or.inr rfl)).v3 (k := kN lane) hq e).v4 (k := kN lane) hq2 e2) _
      · rw [if_neg h3]; exact h
    · rw [if_neg h2]; exact h
  · rw [if_neg h1]; exact h
theorem iv_lay {S : SS} (h : Inv S) (lane row f : Int32) : Inv (sp_lay S lane row f).2 := by
  unfold sp_lay
  by_cases h1 : isl lane
  · rw [if_pos h1]
    by_cases h2 : S.2.2 2 (kN lane) = 0
    · rw [if_pos h2]; exact h
    · rw [if_neg h2]
      by_cases h3 : ¬ row < 0 ∧ ¬ S.2.2 3 (kN lane) ≤ row
      · rw [if_pos h3]
        by_cases h4 : S.2.2 0 (kN lane) = 0
        · rw [if_pos h4]; exact h.offs
        · rw [if_neg h4]
          by_cases h5 : ¬ f < 0 ∧ ¬ S.2.2 1 (kN lane) < f
          · rw [if_pos h5]; exact h.numb _
          · rw [if_neg h5]; exact h.outs
      · rw [if_neg h3]; exact h
  · rw [if_neg h1]; exact h
theorem iv_at {S : SS} (h : Inv S) (lane row c : Int32) : Inv (sp_at S lane row c).2 := by
  unfold sp_at
  by_cases h1 : isl lane
  · rw [if_pos h1]
    by_cases h2 : S.2.2 2 (kN lane) = 0
    · rw [if_pos h2]; exact h
    · rw [if_neg h2]
      by_cases h3 : ¬ row < 0 ∧ ¬ S.2.2 3 (kN lane) ≤ row
      · rw [if_pos h3]
        by_cases h4 : ¬ c < 0 ∧ ¬ S.2.2 4 (kN lane) ≤ c
        · rw [if_pos h4]; exact h
        · rw [if_neg h4]; exact h
      · rw [if_neg h3]; exact h
  · rw [if_neg h1]; exact h
theorem iv_head {S : SS} (h : Inv S) (x : Int32) : Inv (sp_head S x).2 := by
  unfold sp_head
  by_cases h1 : x ≤ 60
  · rw [if_pos h1]
    by_cases h2 : 0 ≤ x
    · rw [if_pos h2]
      obtain ⟨q, hq, e⟩ := rng60 h2 h1
      exact h.sethd hq e
    · rw [if_neg h2]; exact h
  · rw [if_neg h1]; exact h
theorem iv_play {S : SS} (h : Inv S) (x : Int32) : Inv (sp_play S x).2 := by
  unfold sp_play
  by_cases h1 : 0 ≤ x
  · rw [if_pos h1]
    by_cases h2 : x ≤ 200
    · rw [if_pos h2]; exact Inv.onply _ h
    · rw [if_neg h2]; exact h
  · rw [if_neg h1]; exact h
end
section
/-! THE CLAIM OUT OF ONE WALK OF THE LAW'S BODY. Your part is whole_start (and what it stands on); all else here is the same for every law, but numbers. -/
def R_law : String := "RollBenchLaw"
def lw_P (b : Addr) (xs : List Int32) (args : Array Value) (s : State) : Prop := args = #[.ref b] ∧ s.IntsAt b xs ∧ xs.length ≤ 2560 ∧ (Jvm.Cond.and given_1 narrow_1).before args s = true
def lw_Q (_ : Array Value) (s : State) (o : Outcome) (t : State) : Prop := o = .returned (some (.int 1)) ∧ Framed s o t [] 600000 7302250
def lw_Z (below : List Frame) (a : Array Value) (s : State) : State → Prop := fun t => ∃ o, t.status = .running ∧ Ended t below o ∧ lw_Q a s o t
/-- the law's own end, with 1 on the stack, nothing written that was there before, its room as the claim has it -/
theorem lw_ret {p : Program} {l : Launch} {e : Env} {s : State} {m : MethodId} {below : List Frame} {meth : Method} {c : Code} {b : Nat} (hx : p.tables.exec = Jvm.exec) (hb : c.code = code) (hr : meth.sig.returnType = ret) (hlocks : meth.locks = false) {pc : Nat} {H : Heap} {ls : Array Slot} (hdg : decode code pc = .ok (.ireturn, 1)) : W p l e room_1 s m #[Value.ref b] below meth c H [] 600000 7302250 (lw_Z below #[Value.ref b] s) (F0 m pc ls [.int 1]) := by
  intro T hT X
  obtain ⟨fs, hret, hrun, hended, hW, hframe⟩ := X.leave (v := some (.int 1)) (hlocks := hlocks) (fun h => by rw [hr] at h; cases h)
  have hmeth' : T.vm.method? m = some meth := X.method'
  refine ⟨T.setFrames fs, ?_, .returned (some (.int 1)), hrun, hended, rfl, ⟨_, rfl⟩, hW, hframe⟩
  jvm_step X.here [X.here.top, hx, hb, hdg, hmeth', hr, ret, narrow_b1]
  (try refine ⟨rfl, ?_⟩); (try refine ⟨rfl, ?_⟩)
  first | (intro acts; rw [hret _ acts rfl rfl rfl]) | rw [hret _ _ rfl rfl rfl]
  exact Steps.refl _
/-- what holds at the law's entry: the machine, the code, the tables' words (any of lw_tbl by 'hts w (by decide +kernel)'), the script of L ints xs at the cell b, what the Statement gives of the start (any of its parts by flat_of_before) -/
def lw_At (p : Program) (s : State) (m : MethodId) (meth : Method) (c : Code) (b L : Nat) (xs : Nat → Int32) : Prop :=
  p.tables.exec = Jvm.exec ∧ c.code = code ∧ meth.sig.returnType = ret ∧ c.maxLocals = 4 ∧ s.vm.findClass R_law = some m.cls ∧ (∀ w ∈ lw_tbl, w.before #[Value.ref b] s = true) ∧ va_X b L xs s s.heap ∧ b < s.heap.size ∧ meth.locks = false ∧ (Jvm.Cond.and given_1 narrow_1).before #[Value.ref b] s = true

theorem lawc {L k : Nat} (hL : L ≤ 2560) (hk : k ≤ L) : (Int32.ofNat L - 5 < nI k) ↔ L < k + 5 := by
  rw [Int32.lt_iff_toInt_lt, show (Int32.ofNat L - 5 : Int32) = nI L - nI 5 from rfl, pk_sub_toInt (by omega) (by omega), nI_toInt (by omega)]
  omega
set_option maxHeartbeats 4000000 in
set_option maxRecDepth 100000 in
/-- the law's loop: at its head both hold one state -/
theorem law_loop {p : Program} {l : Launch} {e : Env} {s : State} {m : MethodId} {below : List Frame} {meth : Method} {c : Code} {b L : Nat} {xs : Nat → Int32} (hL : L ≤ 2560) (hX : va_X b L xs s s.heap) (hbl : b < s.heap.size) (E : wE) (ad am : Nat → Nat) (hlocks : meth.locks = false) (hr0 : meth.sig.returnType = ret)
    (K : wC p s m #[Value.ref b] meth c cL_law 4 ret RL wsL_law E (fun q => s.heap.size ≤ q)) :
    ∀ (n k : Nat), L + 1 ≤ k + n → k ≤ L → ∀ (S : SS), Inv S → ∀ (H : Heap) (locs : List Loc) (ls : Array Slot), lv_has ls 4 [(3, .int (nI k)), (2, .ref (am 0)), (1, .ref (ad 0)), (0, .ref b)] → wW E (fun q => s.heap.size ≤ q) s (wB E ad S ++ wM E am S) H locs →
      W p l e room_1 s m #[Value.ref b] below meth c H locs 32 3264 (lw_Z below #[Value.ref b] s) (F0 m 18 ls []) := by
  obtain ⟨hx, hb, -, hml, hown, hts, -, -, -⟩ := id K
  have hbA : ¬ (fun q : Nat => s.heap.size ≤ q) b := Nat.not_le.mpr hbl
  intro n
  induction n with
  | zero =>
    intro k h1 h2
    exact absurd h1 (by omega)
  | succ n ih =>
    intro k hn hk S hI H locs ls hl hw
    refine lv_iload_n hx hb dL_law_18 rfl (lv_at hl 0 rfl) ?_
    refine lv_aload_n hx hb dL_law_19 rfl (lv_at hl 3 rfl) ?_
    refine va_slen hx hb hX hbl hbA hw.2.2 dL_law_20 ?_
    refine lv_iconst (v := 5) hx hb dL_law_21 (by decide) ?_
    refine lv_isub hx hb dL_law_22 ?_
    refine lv_icmp_gt (tgt := 508) hx hb dL_law_23 (by decide) (fun c_23 => ?_) (fun c_23 => ?_)
    · refine lv_iconst (v := 1) hx hb dL_law_508 (by decide) ?_
      refine va_forget (fun q hq => hw.2.2.2.2 q hq) ?_
      refine W.widen (k := 600000) (n := 7302250) (Nat.le_of_ble_eq_true rfl) (Nat.le_of_ble_eq_true rfl) ?_
      exact lw_ret hx hb hr0 hlocks dL_law_509
    have hk5 : k + 5 ≤ L := by
      rcases Nat.lt_or_ge L (k + 5) with q | q
      · exact absurd ((lawc hL hk).mpr q) c_23
      · exact q
    refine lv_aload_n hx hb dL_law_26 rfl (lv_at hl 3 rfl) ?_
    refine lv_iload_n hx hb dL_law_27 rfl (lv_at hl 0 rfl) ?_
    refine va_sld hx hb hX hbl hbA hw.2.2 (vp_in_nI (by omega) (by omega)) dL_law_28 ?_
    refine lv_bipush (v := 15) hx hb dL_law_29 (by decide) ?_
    refine lv_iand hx hb dL_law_31 ?_
    obtain ⟨j, hj, ej⟩ := pk_andE (xs (nI k).toNatClampNeg) (m := 15) 4 (by decide)
    rw [ej]
    rcases (show j = 0 ∨ j = 1 ∨ j = 2 ∨ j = 3 ∨ j = 4 ∨ j = 5 ∨ j = 6 ∨ j = 7 ∨ j = 8 ∨ j = 9 ∨ j = 10 ∨ j = 11 ∨ j = 12 ∨ j = 13 ∨ j = 14 ∨ j = 15 by omega) with rfl | rfl | rfl | rfl | rfl | rfl | rfl | rfl | rfl | rfl | rfl | rfl | rfl | rfl | rfl | rfl
    · refine lv_tableIn (off := 64) (tgt := 96) hx hb dL_law_32 (by decide +kernel) (by decide +kernel) (by decide +kernel) (by decide) ?_
      refine lv_aload_n hx hb dL_law_96 rfl (lv_at hl 2 rfl) ?_
      refine lv_aload_n hx hb dL_law_97 rfl (lv_at hl 3 rfl) ?_
      refine lv_iload_n hx hb dL_law_98 rfl (lv_at hl 0 rfl) ?_
      refine lv_iconst (v := 1) hx hb dL_law_99 (by decide) ?_
      refine lv_iadd hx hb dL_law_100 ?_
      rw [show ((nI k) + 1 : Int32) = nI (k + 1) from nI_add k 1]
      refine va_sld hx hb hX hbl hbA hw.2.2 (vp_in_nI (by omega) (by omega)) dL_law_101 ?_
      refine lv_aload_n hx hb dL_law_102 rfl (lv_at hl 3 rfl) ?_
      refine lv_iload_n hx hb dL_law_103 rfl (lv_at hl 0 rfl) ?_
      refine lv_iconst (v := 2) hx hb dL_law_104 (by decide) ?_
      refine lv_iadd hx hb dL_law_105 ?_
      rw [show ((nI k) + 2 : Int32) = nI (k + 2) from nI_add k 2]
      refine va_sld hx hb hX hbl hbA hw.2.2 (vp_in_nI (by omega) (by omega)) dL_law_106 ?_
      refine wCallL (a := wB E ad S) (b := wM E am S) (As := [.int (xs (nI (k + 1)).toNatClampNeg), .int (xs (nI (k + 2)).toNatClampNeg)]) (rest := []) K hw (mX2_mount l E ad S hI (xs (nI (k + 1)).toNatClampNeg) (xs (nI (k + 2)).toNatClampNeg)) (cwV 2 hts gL_law_X2_mount rfl rfl rfl (by decide +kernel) ⟨(Nat.le_of_ble_eq_true rfl), (Nat.le_of_ble_eq_true rfl)⟩) wB_b rfl rfl hl.1 rfl (Nat.le_of_ble_eq_true rfl) dL_law_107 ⟨(Nat.le_of_ble_eq_true rfl), (Nat.le_of_ble_eq_true rfl)⟩ (fun r1 w' H locs hr hw => ?_)
      obtain ⟨hr1, rfl⟩ := hr
      refine lv_aload_n hx hb dL_law_110 rfl (lv_at hl 1 rfl) ?_
      refine lv_aload_n hx hb dL_law_111 rfl (lv_at hl 3 rfl) ?_
      refine lv_iload_n hx hb dL_law_112 rfl (lv_at hl 0 rfl) ?_
      refine lv_iconst (v := 1) hx hb dL_law_113 (by decide) ?_
      refine lv_iadd hx hb dL_law_114 ?_
      rw [show ((nI k) + 1 : Int32) = nI (k + 1) from nI_add k 1]
      refine va_sld hx hb hX hbl hbA hw.2.2 (vp_in_nI (by omega) (by omega)) dL_law_115 ?_
      refine lv_aload_n hx hb dL_law_116 rfl (lv_at hl 3 rfl) ?_
      refine lv_iload_n hx hb dL_law_117 rfl (lv_at hl 0 rfl) ?_
      refine lv_iconst (v := 2) hx hb dL_law_118 (by decide) ?_
      refine lv_iadd hx hb dL_law_119 ?_
      rw [show ((nI k) + 2 : Int32) = nI (k + 2) from nI_add k 2]
      refine va_sld hx hb hX hbl hbA hw.2.2 (vp_in_nI (by omega) (by omega)) dL_law_120 ?_
      refine wCallR (a := wB E ad (sp_mount S (xs (nI (k + 1)).toNatClampNeg) (xs (nI (k + 2)).toNatClampNeg)).2) (b := wM E am S) (As := [.int (xs (nI (k + 1)).toNatClampNeg), .int (xs (nI (k + 2)).toNatClampNeg)]) (rest := [.int r1]) K hw (mX3_mount l E am S hI (xs (nI (k + 1)).toNatClampNeg) (xs (nI (k + 2)).toNatClampNeg)) (cwV 2 hts gL_law_X3_mount rfl rfl rfl (by decide +kernel) ⟨(Nat.le_of_ble_eq_true rfl), (Nat.le_of_ble_eq_true rfl)⟩) wM_o rfl rfl hl.1 rfl (Nat.le_of_ble_eq_true rfl) dL_law_121 ⟨(Nat.le_of_ble_eq_true rfl), (Nat.le_of_ble_eq_true rfl)⟩ (fun r2 w' H locs hr hw => ?_)
      obtain ⟨hr2, rfl⟩ := hr
      refine lv_icmp_eq (tgt := 502) hx hb dL_law_124 (by decide) (fun c_124 => ?_) (fun c_124 => ?_)
      rotate_left
      · exact absurd (hr1.trans hr2.symm) c_124
      refine lv_iinc (v := nI (k + 5)) (lv' := [(3, .int (nI (k + 5))), (2, .ref (am 0)), (1, .ref (ad 0)), (0, .ref b)]) hx hb dL_law_502 hl (k := 0) rfl (nI_add k 5) (by decide) rfl (fun ls hl => ?_)
      refine lv_goto (tgt := 18) hx hb dL_law_505 (by decide) ?_
      exact ih (k + 5) (by omega) (by omega) _ (iv_mount hI _ _) H locs ls hl hw
    · refine lv_tableIn (off := 97) (tgt := 129) hx hb dL_law_32 (by decide +kernel) (by decide +kernel) (by decide +kernel) (by decide) ?_
      refine lv_aload_n hx hb dL_law_129 rfl (lv_at hl 2 rfl) ?_
      refine lv_aload_n hx hb dL_law_130 rfl (lv_at hl 3 rfl) ?_
      refine lv_iload_n hx hb dL_law_131 rfl (lv_at hl 0 rfl) ?_
      refine lv_iconst (v := 1) hx hb dL_law_132 (by decide) ?_
      refine lv_iadd hx hb dL_law_133 ?_
      rw [show ((nI k) + 1 : Int32) = nI (k + 1) from nI_add k 1]
      refine va_sld hx hb hX hbl hbA hw.2.2 (vp_in_nI (by omega) (by omega)) dL_law_134 ?_
      refine wCallL (a := wB E ad S) (b := wM E am S) (As := [.int (xs (nI (k + 1)).toNatClampNeg)]) (rest := []) K hw (mX2_strip l E ad S hI (xs (nI (k + 1)).toNatClampNeg)) (cwV 1 hts gL_law_X2_strip rfl rfl rfl (by decide +kernel) ⟨(Nat.le_of_ble_eq_true rfl), (Nat.le_of_ble_eq_true rfl)⟩) wB_b rfl rfl hl.1 rfl (Nat.le_of_ble_eq_true rfl) dL_law_135 ⟨(Nat.le_of_ble_eq_true rfl), (Nat.le_of_ble_eq_true rfl)⟩ (fun r1 w' H locs hr hw => ?_)
      obtain ⟨hr1, rfl⟩ := hr
      refine lv_aload_n hx hb dL_law_138 rfl (lv_at hl 1 rfl) ?_
      refine lv_aload_n hx hb dL_law_139 rfl (lv_at hl 3 rfl) ?_
      refine lv_iload_n hx hb dL_law_140 rfl (lv_at hl 0 rfl) ?_
      refine lv_iconst (v := 1) hx hb dL_law_141 (by decide) ?_
      refine lv_iadd hx hb dL_law_142 ?_
      rw [show ((nI k) + 1 : Int32) = nI (k + 1) from nI_add k 1]
      refine va_sld hx hb hX hbl hbA hw.2.2 (vp_in_nI (by omega) (by omega)) dL_law_143 ?_
      refine wCallR (a := wB E ad (sp_strip S (xs (nI (k + 1)).toNatClampNeg)).2) (b := wM E am S) (As := [.int (xs (nI (k + 1)).toNatClampNeg)]) (rest := [.int r1]) K hw (mX3_strip l E am S hI (xs (nI (k + 1)).toNatClampNeg)) (cwV 1 hts gL_law_X3_strip rfl rfl rfl (by decide +kernel) ⟨(Nat.le_of_ble_eq_true rfl), (Nat.le_of_ble_eq_true rfl)⟩) wM_o rfl rfl hl.1 rfl (Nat.le_of_ble_eq_true rfl) dL_law_144 ⟨(Nat.le_of_ble_eq_true rfl), (Nat.le_of_ble_eq_true rfl)⟩ (fun r2 w' H locs hr hw => ?_)
      obtain ⟨hr2, rfl⟩ := hr
      refine lv_icmp_eq (tgt := 502) hx hb dL_law_147 (by decide) (fun c_147 => ?_) (fun c_147 => ?_)
      rotate_left
      · exact absurd (hr1.trans hr2.symm) c_147
      refine lv_iinc (v := nI (k + 5)) (lv' := [(3, .int (nI (k + 5))), (2, .ref (am 0)), (1, .ref (ad 0)), (0, .ref b)]) hx hb dL_law_502 hl (k := 0) rfl (nI_add k 5) (by decide) rfl (fun ls hl => ?_)
      refine lv_goto (tgt := 18) hx hb dL_law_505 (by decide) ?_
      exact ih (k + 5) (by omega) (by omega) _ (iv_strip hI _) H locs ls hl hw
    · refine lv_tableIn (off := 120) (tgt := 152) hx hb dL_law_32 (by decide +kernel) (by decide +kernel) (by decide +kernel) (by decide) ?_
      refine lv_aload_n hx hb dL_law_152 rfl (lv_at hl 2 rfl) ?_
      refine lv_aload_n hx hb dL_law_153 rfl (lv_at hl 3 rfl) ?_
      refine lv_iload_n hx hb dL_law_154 rfl (lv_at hl 0 rfl) ?_
      refine lv_iconst (v := 1) hx hb dL_law_155 (by decide) ?_
      refine lv_iadd hx hb dL_law_156 ?_
      rw [show ((nI k) + 1 : Int32) = nI (k + 1) from nI_add k 1]
      refine va_sld hx hb hX hbl hbA hw.2.2 (vp_in_nI (by omega) (by omega)) dL_law_157 ?_
      refine wCallL (a := wB E ad S) (b := wM E am S) (As := [.int (xs (nI (k + 1)).toNatClampNeg)]) (rest := []) K hw (mX2_size l E ad S hI (xs (nI (k + 1)).toNatClampNeg)) (cwV 1 hts gL_law_X2_size rfl rfl rfl (by decide +kernel) ⟨(Nat.le_of_ble_eq_true rfl), (Nat.le_of_ble_eq_true rfl)⟩) wB_b rfl rfl hl.1 rfl (Nat.le_of_ble_eq_true rfl) dL_law_158 ⟨(Nat.le_of_ble_eq_true rfl), (Nat.le_of_ble_eq_true rfl)⟩ (fun r1 w' H locs hr hw => ?_)
      obtain ⟨hr1, rfl⟩ := hr
      refine lv_aload_n hx hb dL_law_161 rfl (lv_at hl 1 rfl) ?_
      refine lv_aload_n hx hb dL_law_162 rfl (lv_at hl 3 rfl) ?_
      refine lv_iload_n hx hb dL_law_163 rfl (lv_at hl 0 rfl) ?_
      refine lv_iconst (v := 1) hx hb dL_law_164 (by decide) ?_
      refine lv_iadd hx hb dL_law_165 ?_
      rw [show ((nI k) + 1 : Int32) = nI (k + 1) from nI_add k 1]
      refine va_sld hx hb hX hbl hbA hw.2.2 (vp_in_nI (by omega) (by omega)) dL_law_166 ?_
      refine wCallR (a := wB E ad (sp_size S (xs (nI (k + 1)).toNatClampNeg)).2) (b := wM E am S) (As := [.int (xs (nI (k + 1)).toNatClampNeg)]) (rest := [.int r1]) K hw (mX3_size l E am S hI (xs (nI (k + 1)).toNatClampNeg)) (cwV 1 hts gL_law_X3_size rfl rfl rfl (by decide +kernel) ⟨(Nat.le_of_ble_eq_true rfl), (Nat.le_of_ble_eq_true rfl)⟩) wM_o rfl rfl hl.1 rfl (Nat.le_of_ble_eq_true rfl) dL_law_167 ⟨(Nat.le_of_ble_eq_true rfl), (Nat.le_of_ble_eq_true rfl)⟩ (fun r2 w' H locs hr hw => ?_)
      obtain ⟨hr2, rfl⟩ := hr
      refine lv_icmp_eq (tgt := 502) hx hb dL_law_170 (by decide) (fun c_170 => ?_) (fun c_170 => ?_)
      rotate_left
      · exact absurd (hr1.trans hr2.symm) c_170
      refine lv_iinc (v := nI (k + 5)) (lv' := [(3, .int (nI (k + 5))), (2, .ref (am 0)), (1, .ref (ad 0)), (0, .ref b)]) hx hb dL_law_502 hl (k := 0) rfl (nI_add k 5) (by decide) rfl (fun ls hl => ?_)
      refine lv_goto (tgt := 18) hx hb dL_law_505 (by decide) ?_
      exact ih (k + 5) (by omega) (by omega) _ (iv_size hI _) H locs ls hl hw
    · refine lv_tableIn (off := 143) (tgt := 175) hx hb dL_law_32 (by decide +kernel) (by decide +kernel) (by decide +kernel) (by decide) ?_
      refine lv_aload_n hx hb dL_law_175 rfl (lv_at hl 2 rfl) ?_
      refine lv_aload_n hx hb dL_law_176 rfl (lv_at hl 3 rfl) ?_
      refine lv_iload_n hx hb dL_law_177 rfl (lv_at hl 0 rfl) ?_
      refine lv_iconst (v := 1) hx hb dL_law_178 (by decide) ?_
      refine lv_iadd hx hb dL_law_179 ?_
      rw [show ((nI k) + 1 : Int32) = nI (k + 1) from nI_add k 1]
      refine va_sld hx hb hX hbl hbA hw.2.2 (vp_in_nI (by omega) (by omega)) dL_law_180 ?_
      refine lv_aload_n hx hb dL_law_181 rfl (lv_at hl 3 rfl) ?_
      refine lv_iload_n hx hb dL_law_182 rfl (lv_at hl 0 rfl) ?_
      refine lv_iconst (v := 2) hx hb dL_law_183 (by decide) ?_
      refine lv_iadd hx hb dL_law_184 ?_
      rw [show ((nI k) + 2 : Int32) = nI (k + 2) from nI_add k 2]
      refine va_sld hx hb hX hbl hbA hw.2.2 (vp_in_nI (by omega) (by omega)) dL_law_185 ?_
      refine wCallL (a := wB E ad S) (b := wM E am S) (As := [.int (xs (nI (k + 1)).toNatClampNeg), .int (xs (nI (k + 2)).toNatClampNeg)]) (rest := []) K hw (mX2_cell l E ad S hI (xs (nI (k + 1)).toNatClampNeg) (xs (nI (k + 2)).toNatClampNeg)) (cwV 2 hts gL_law_X2_cell rfl rfl rfl (by decide +kernel) ⟨(Nat.le_of_ble_eq_true rfl), (Nat.le_of_ble_eq_true rfl)⟩) wB_b rfl rfl hl.1 rfl (Nat.le_of_ble_eq_true rfl) dL_law_186 ⟨(Nat.le_of_ble_eq_true rfl), (Nat.le_of_ble_eq_true rfl)⟩ (fun r1 w' H locs hr hw => ?_)
      obtain ⟨hr1, rfl⟩ := hr
      refine lv_aload_n hx hb dL_law_189 rfl (lv_at hl 1 rfl) ?_
      refine lv_aload_n hx hb dL_law_190 rfl (lv_at hl 3 rfl) ?_
      refine lv_iload_n hx hb dL_law_191 rfl (lv_at hl 0 rfl) ?_
      refine lv_iconst (v := 1) hx hb dL_law_192 (by decide) ?_
      refine lv_iadd hx hb dL_law_193 ?_
      rw [show ((nI k) + 1 : Int32) = nI (k + 1) from nI_add k 1]
      refine va_sld hx hb hX hbl hbA hw.2.2 (vp_in_nI (by omega) (by omega)) dL_law_194 ?_
      refine lv_aload_n hx hb dL_law_195 rfl (lv_at hl 3 rfl) ?_
      refine lv_iload_n hx hb dL_law_196 rfl (lv_at hl 0 rfl) ?_
      refine lv_iconst (v := 2) hx hb dL_law_197 (by decide) ?_
      refine lv_iadd hx hb dL_law_198 ?_
      rw [show ((nI k) + 2 : Int32) = nI (k + 2) from nI_add k 2]
      refine va_sld hx hb hX hbl hbA hw.2.2 (vp_in_nI (by omega) (by omega)) dL_law_199 ?_
      refine wCallR (a := wB E ad (sp_cell S (xs (nI (k + 1)).toNatClampNeg) (xs (nI (k + 2)).toNatClampNeg)).2) (b := wM E am S) (As := [.int (xs (nI (k + 1)).toNatClampNeg), .int (xs (nI (k + 2)).toNatClampNeg)]) (rest := [.int r1]) K hw (mX3_cell l E am S hI (xs (nI (k + 1)).toNatClampNeg) (xs (nI (k + 2)).toNatClampNeg)) (cwV 2 hts gL_law_X3_cell rfl rfl rfl (by decide +kernel) ⟨(Nat.le_of_ble_eq_true rfl), (Nat.le_of_ble_eq_true rfl)⟩) wM_o rfl rfl hl.1 rfl (Nat.le_of_ble_eq_true rfl) dL_law_200 ⟨(Nat.le_of_ble_eq_true rfl), (Nat.le_of_ble_eq_true rfl)⟩ (fun r2 w' H locs hr hw => ?_)
      obtain ⟨hr2, rfl⟩ := hr
      refine lv_icmp_eq (tgt := 502) hx hb dL_law_203 (by decide) (fun c_203 => ?_) (fun c_203 => ?_)
      rotate_left
      · exact absurd (hr1.trans hr2.symm) c_203
      refine lv_iinc (v := nI (k + 5)) (lv' := [(3, .int (nI (k + 5))), (2, .ref (am 0)), (1, .ref (ad 0)), (0, .ref b)]) hx hb dL_law_502 hl (k := 0) rfl (nI_add k 5) (by decide) rfl (fun ls hl => ?_)
      refine lv_goto (tgt := 18) hx hb dL_law_505 (by decide) ?_
      exact ih (k + 5) (by omega) (by omega) _ (iv_cell hI _ _) H locs ls hl hw
    · refine lv_tableIn (off := 176) (tgt := 208) hx hb dL_law_32 (by decide +kernel) (by decide +kernel) (by decide +kernel) (by decide) ?_
      refine lv_aload_n hx hb dL_law_208 rfl (lv_at hl 2 rfl) ?_
      refine lv_aload_n hx hb dL_law_209 rfl (lv_at hl 3 rfl) ?_
      refine lv_iload_n hx hb dL_law_210 rfl (lv_at hl 0 rfl) ?_
      refine lv_iconst (v := 1) hx hb dL_law_211 (by decide) ?_
      refine lv_iadd hx hb dL_law_212 ?_
      rw [show ((nI k) + 1 : Int32) = nI (k + 1) from nI_add k 1]
      refine va_sld hx hb hX hbl hbA hw.2.2 (vp_in_nI (by omega) (by omega)) dL_law_213 ?_
      refine lv_aload_n hx hb dL_law_214 rfl (lv_at hl 3 rfl) ?_
      refine lv_iload_n hx hb dL_law_215 rfl (lv_at hl 0 rfl) ?_
      refine lv_iconst (v := 2) hx hb dL_law_216 (by decide) ?_
      refine lv_iadd hx hb dL_law_217 ?_
      rw [show ((nI k) + 2 : Int32) = nI (k + 2) from nI_add k 2]
      refine va_sld hx hb hX hbl hbA hw.2.2 (vp_in_nI (by omega) (by omega)) dL_law_218 ?_
      refine lv_aload_n hx hb dL_law_219 rfl (lv_at hl 3 rfl) ?_
      refine lv_iload_n hx hb dL_law_220 rfl (lv_at hl 0 rfl) ?_
      refine lv_iconst (v := 3) hx hb dL_law_221 (by decide) ?_
      refine lv_iadd hx hb dL_law_222 ?_
      rw [show ((nI k) + 3 : Int32) = nI (k + 3) from nI_add k 3]
      refine va_sld hx hb hX hbl hbA hw.2.2 (vp_in_nI (by omega) (by omega)) dL_law_223 ?_
      refine wCallL (a := wB E ad S) (b := wM E am S) (As := [.int (xs (nI (k + 1)).toNatClampNeg), .int (xs (nI (k + 2)).toNatClampNeg), .int (xs (nI (k + 3)).toNatClampNeg)]) (rest := []) K hw (mX2_put l E ad S hI (xs (nI (k + 1)).toNatClampNeg) (xs (nI (k + 2)).toNatClampNeg) (xs (nI (k + 3)).toNatClampNeg)) (cwV 3 hts gL_law_X2_put rfl rfl rfl (by decide +kernel) ⟨(Nat.le_of_ble_eq_true rfl), (Nat.le_of_ble_eq_true rfl)⟩) wB_b rfl rfl hl.1 rfl (Nat.le_of_ble_eq_true rfl) dL_law_224 ⟨(Nat.le_of_ble_eq_true rfl), (Nat.le_of_ble_eq_true rfl)⟩ (fun r1 w' H locs hr hw => ?_)
      obtain ⟨hr1, rfl⟩ := hr
      refine lv_aload_n hx hb dL_law_227 rfl (lv_at hl 1 rfl) ?_
      refine lv_aload_n hx hb dL_law_228 rfl (lv_at hl 3 rfl) ?_
      refine lv_iload_n hx hb dL_law_229 rfl (lv_at hl 0 rfl) ?_
      refine lv_iconst (v := 1) hx hb dL_law_230 (by decide) ?_
      refine lv_iadd hx hb dL_law_231 ?_
      rw [show ((nI k) + 1 : Int32) = nI (k + 1) from nI_add k 1]
      refine va_sld hx hb hX hbl hbA hw.2.2 (vp_in_nI (by omega) (by omega)) dL_law_232 ?_
      refine lv_aload_n hx hb dL_law_233 rfl (lv_at hl 3 rfl) ?_
      refine lv_iload_n hx hb dL_law_234 rfl (lv_at hl 0 rfl) ?_
      refine lv_iconst (v := 2) hx hb dL_law_235 (by decide) ?_
      refine lv_iadd hx hb dL_law_236 ?_
      rw [show ((nI k) + 2 : Int32) = nI (k + 2) from nI_add k 2]
      refine va_sld hx hb hX hbl hbA hw.2.2 (vp_in_nI (by omega) (by omega)) dL_law_237 ?_
      refine lv_aload_n hx hb dL_law_238 rfl (lv_at hl 3 rfl) ?_
      refine lv_iload_n hx hb dL_law_239 rfl (lv_at hl 0 rfl) ?_
      refine lv_iconst (v := 3) hx hb dL_law_240 (by decide) ?_
      refine lv_iadd hx hb dL_law_241 ?_
      rw [show ((nI k) + 3 : Int32) = nI (k + 3) from nI_add k 3]
      refine va_sld hx hb hX hbl hbA hw.2.2 (vp_in_nI (by omega) (by omega)) dL_law_242 ?_
      refine wCallR (a := wB E ad (sp_put S (xs (nI (k + 1)).toNatClampNeg) (xs (nI (k + 2)).toNatClampNeg) (xs (nI (k + 3)).toNatClampNeg)).2) (b := wM E am S) (As := [.int (xs (nI (k + 1)).toNatClampNeg), .int (xs (nI (k + 2)).toNatClampNeg), .int (xs (nI (k + 3)).toNatClampNeg)]) (rest := [.int r1]) K hw (mX3_put l E am S hI (xs (nI (k + 1)).toNatClampNeg) (xs (nI (k + 2)).toNatClampNeg) (xs (nI (k + 3)).toNatClampNeg)) (cwV 3 hts gL_law_X3_put rfl rfl rfl (by decide +kernel) ⟨(Nat.le_of_ble_eq_true rfl), (Nat.le_of_ble_eq_true rfl)⟩) wM_o rfl rfl hl.1 rfl (Nat.le_of_ble_eq_true rfl) dL_law_243 ⟨(Nat.le_of_ble_eq_true rfl), (Nat.le_of_ble_eq_true rfl)⟩ (fun r2 w' H locs hr hw => ?_)
      obtain ⟨hr2, rfl⟩ := hr
      refine lv_icmp_eq (tgt := 502) hx hb dL_law_246 (by decide) (fun c_246 => ?_) (fun c_246 => ?_)
      rotate_left
      · exact absurd (hr1.trans hr2.symm) c_246
      refine lv_iinc (v := nI (k + 5)) (lv' := [(3, .int (nI (k + 5))), (2, .ref (am 0)), (1, .ref (ad 0)), (0, .ref b)]) hx hb dL_law_502 hl (k := 0) rfl (nI_add k 5) (by decide) rfl (fun ls hl => ?_)
      refine lv_goto (tgt := 18) hx hb dL_law_505 (by decide) ?_
      exact ih (k + 5) (by omega) (by omega) _ (iv_put hI _ _ _) H locs ls hl hw
    · refine lv_tableIn (off := 219) (tgt := 251) hx hb dL_law_32 (by decide +kernel) (by decide +kernel) (by decide +kernel) (by decide) ?_
      refine lv_aload_n hx hb dL_law_251 rfl (lv_at hl 2 rfl) ?_
      refine lv_aload_n hx hb dL_law_252 rfl (lv_at hl 3 rfl) ?_
      refine lv_iload_n hx hb dL_law_253 rfl (lv_at hl 0 rfl) ?_
      refine lv_iconst (v := 1) hx hb dL_law_254 (by decide) ?_
      refine lv_iadd hx hb dL_law_255 ?_
      rw [show ((nI k) + 1 : Int32) = nI (k + 1) from nI_add k 1]
      refine va_sld hx hb hX hbl hbA hw.2.2 (vp_in_nI (by omega) (by omega)) dL_law_256 ?_
      refine lv_aload_n hx hb dL_law_257 rfl (lv_at hl 3 rfl) ?_
      refine lv_iload_n hx hb dL_law_258 rfl (lv_at hl 0 rfl) ?_
      refine lv_iconst (v := 2) hx hb dL_law_259 (by decide) ?_
      refine lv_iadd hx hb dL_law_260 ?_
      rw [show ((nI k) + 2 : Int32) = nI (k + 2) from nI_add k 2]
      refine va_sld hx hb hX hbl hbA hw.2.2 (vp_in_nI (by omega) (by omega)) dL_law_261 ?_
      refine lv_aload_n hx hb dL_law_262 rfl (lv_at hl 3 rfl) ?_
      refine lv_iload_n hx hb dL_law_263 rfl (lv_at hl 0 rfl) ?_
      refine lv_iconst (v := 3) hx hb dL_law_264 (by decide) ?_
      refine lv_iadd hx hb dL_law_265 ?_
      rw [show ((nI k) + 3 : Int32) = nI (k + 3) from nI_add k 3]
      refine va_sld hx hb hX hbl hbA hw.2.2 (vp_in_nI (by omega) (by omega)) dL_law_266 ?_
      refine lv_aload_n hx hb dL_law_267 rfl (lv_at hl 3 rfl) ?_
      refine lv_iload_n hx hb dL_law_268 rfl (lv_at hl 0 rfl) ?_
      refine lv_iconst (v := 4) hx hb dL_law_269 (by decide) ?_
      refine lv_iadd hx hb dL_law_270 ?_
      rw [show ((nI k) + 4 : Int32) = nI (k + 4) from nI_add k 4]
      refine va_sld hx hb hX hbl hbA hw.2.2 (vp_in_nI (by omega) (by omega)) dL_law_271 ?_
      refine wCallL (a := wB E ad S) (b := wM E am S) (As := [.int (xs (nI (k + 1)).toNatClampNeg), .int (xs (nI (k + 2)).toNatClampNeg), .int (xs (nI (k + 3)).toNatClampNeg), .int (xs (nI (k + 4)).toNatClampNeg)]) (rest := []) K hw (mX2_change l E ad S hI (xs (nI (k + 1)).toNatClampNeg) (xs (nI (k + 2)).toNatClampNeg) (xs (nI (k + 3)).toNatClampNeg) (xs (nI (k + 4)).toNatClampNeg)) (cwV 4 hts gL_law_X2_change rfl rfl rfl (by decide +kernel) ⟨(Nat.le_of_ble_eq_true rfl), (Nat.le_of_ble_eq_true rfl)⟩) wB_b rfl rfl hl.1 rfl (Nat.le_of_ble_eq_true rfl) dL_law_272 ⟨(Nat.le_of_ble_eq_true rfl), (Nat.le_of_ble_eq_true rfl)⟩ (fun r1 w' H locs hr hw => ?_)
      obtain ⟨hr1, rfl⟩ := hr
      refine lv_aload_n hx hb dL_law_275 rfl (lv_at hl 1 rfl) ?_
      refine lv_aload_n hx hb dL_law_276 rfl (lv_at hl 3 rfl) ?_
      refine lv_iload_n hx hb dL_law_277 rfl (lv_at hl 0 rfl) ?_
      refine lv_iconst (v := 1) hx hb dL_law_278 (by decide) ?_
      refine lv_iadd hx hb dL_law_279 ?_
      rw [show ((nI k) + 1 : Int32) = nI (k + 1) from nI_add k 1]
      refine va_sld hx hb hX hbl hbA hw.2.2 (vp_in_nI (by omega) (by omega)) dL_law_280 ?_
      refine lv_aload_n hx hb dL_law_281 rfl (lv_at hl 3 rfl) ?_
      refine lv_iload_n hx hb dL_law_282 rfl (lv_at hl 0 rfl) ?_
      refine lv_iconst (v := 2) hx hb dL_law_283 (by decide) ?_
      refine lv_iadd hx hb dL_law_284 ?_
      rw [show ((nI k) + 2 : Int32) = nI (k + 2) from nI_add k 2]
      refine va_sld hx hb hX hbl hbA hw.2.2 (vp_in_nI (by omega) (by omega)) dL_law_285 ?_
      refine lv_aload_n hx hb dL_law_286 rfl (lv_at hl 3 rfl) ?_
      refine lv_iload_n hx hb dL_law_287 rfl (lv_at hl 0 rfl) ?_
      refine lv_iconst (v := 3) hx hb dL_law_288 (by decide) ?_
      refine lv_iadd hx hb dL_law_289 ?_
      rw [show ((nI k) + 3 : Int32) = nI (k + 3) from nI_add k 3]
      refine va_sld hx hb hX hbl hbA hw.2.2 (vp_in_nI (by omega) (by omega)) dL_law_290 ?_
      refine lv_aload_n hx hb dL_law_291 rfl (lv_at hl 3 rfl) ?_
      refine lv_iload_n hx hb dL_law_292 rfl (lv_at hl 0 rfl) ?_
      refine lv_iconst (v := 4) hx hb dL_law_293 (by decide) ?_
      refine lv_iadd hx hb dL_law_294 ?_
      rw [show ((nI k) + 4 : Int32) = nI (k + 4) from nI_add k 4]
      refine va_sld hx hb hX hbl hbA hw.2.2 (vp_in_nI (by omega) (by omega)) dL_law_295 ?_
      refine wCallR (a := wB E ad (sp_change S (xs (nI (k + 1)).toNatClampNeg) (xs (nI (k + 2)).toNatClampNeg) (xs (nI (k + 3)).toNatClampNeg) (xs (nI (k + 4)).toNatClampNeg)).2) (b := wM E am S) (As := [.int (xs (nI (k + 1)).toNatClampNeg), .int (xs (nI (k + 2)).toNatClampNeg), .int (xs (nI (k + 3)).toNatClampNeg), .int (xs (nI (k + 4)).toNatClampNeg)]) (rest := [.int r1]) K hw (mX3_change l E am S hI (xs (nI (k + 1)).toNatClampNeg) (xs (nI (k + 2)).toNatClampNeg) (xs (nI (k + 3)).toNatClampNeg) (xs (nI (k + 4)).toNatClampNeg)) (cwV 4 hts gL_law_X3_change rfl rfl rfl (by decide +kernel) ⟨(Nat.le_of_ble_eq_true rfl), (Nat.le_of_ble_eq_true rfl)⟩) wM_o rfl rfl hl.1 rfl (Nat.le_of_ble_eq_true rfl) dL_law_296 ⟨(Nat.le_of_ble_eq_true rfl), (Nat.le_of_ble_eq_true rfl)⟩ (fun r2 w' H locs hr hw => ?_)
      obtain ⟨hr2, rfl⟩ := hr
      refine lv_icmp_eq (tgt := 502) hx hb dL_law_299 (by decide) (fun c_299 => ?_) (fun c_299 => ?_)
      rotate_left
      · exact absurd (hr1.trans hr2.symm) c_299
      refine lv_iinc (v := nI (k + 5)) (lv' := [(3, .int (nI (k + 5))), (2, .ref (am 0)), (1, .ref (ad 0)), (0, .ref b)]) hx hb dL_law_502 hl (k := 0) rfl (nI_add k 5) (by decide) rfl (fun ls hl => ?_)
      refine lv_goto (tgt := 18) hx hb dL_law_505 (by decide) ?_
      exact ih (k + 5) (by omega) (by omega) _ (iv_change hI _ _ _ _) H locs ls hl hw
    · refine lv_tableIn (off := 272) (tgt := 304) hx hb dL_law_32 (by decide +kernel) (by decide +kernel) (by decide +kernel) (by decide) ?_
      refine lv_aload_n hx hb dL_law_304 rfl (lv_at hl 2 rfl) ?_
      refine lv_aload_n hx hb dL_law_305 rfl (lv_at hl 3 rfl) ?_
      refine lv_iload_n hx hb dL_law_306 rfl (lv_at hl 0 rfl) ?_
      refine lv_iconst (v := 1) hx hb dL_law_307 (by decide) ?_
      refine lv_iadd hx hb dL_law_308 ?_
      rw [show ((nI k) + 1 : Int32) = nI (k + 1) from nI_add k 1]
      refine va_sld hx hb hX hbl hbA hw.2.2 (vp_in_nI (by omega) (by omega)) dL_law_309 ?_
      refine lv_aload_n hx hb dL_law_310 rfl (lv_at hl 3 rfl) ?_
      refine lv_iload_n hx hb dL_law_311 rfl (lv_at hl 0 rfl) ?_
      refine lv_iconst (v := 2) hx hb dL_law_312 (by decide) ?_
      refine lv_iadd hx hb dL_law_313 ?_
      rw [show ((nI k) + 2 : Int32) = nI (k + 2) from nI_add k 2]
      refine va_sld hx hb hX hbl hbA hw.2.2 (vp_in_nI (by omega) (by omega)) dL_law_314 ?_
      refine lv_aload_n hx hb dL_law_315 rfl (lv_at hl 3 rfl) ?_
      refine lv_iload_n hx hb dL_law_316 rfl (lv_at hl 0 rfl) ?_
      refine lv_iconst (v := 3) hx hb dL_law_317 (by decide) ?_
      refine lv_iadd hx hb dL_law_318 ?_
      rw [show ((nI k) + 3 : Int32) = nI (k + 3) from nI_add k 3]
      refine va_sld hx hb hX hbl hbA hw.2.2 (vp_in_nI (by omega) (by omega)) dL_law_319 ?_
      refine wCallL (a := wB E ad S) (b := wM E am S) (As := [.int (xs (nI (k + 1)).toNatClampNeg), .int (xs (nI (k + 2)).toNatClampNeg), .int (xs (nI (k + 3)).toNatClampNeg)]) (rest := []) K hw (mX2_rule l E ad S hI (xs (nI (k + 1)).toNatClampNeg) (xs (nI (k + 2)).toNatClampNeg) (xs (nI (k + 3)).toNatClampNeg)) (cwV 3 hts gL_law_X2_rule rfl rfl rfl (by decide +kernel) ⟨(Nat.le_of_ble_eq_true rfl), (Nat.le_of_ble_eq_true rfl)⟩) wB_b rfl rfl hl.1 rfl (Nat.le_of_ble_eq_true rfl) dL_law_320 ⟨(Nat.le_of_ble_eq_true rfl), (Nat.le_of_ble_eq_true rfl)⟩ (fun r1 w' H locs hr hw => ?_)
      obtain ⟨hr1, rfl⟩ := hr
      refine lv_aload_n hx hb dL_law_323 rfl (lv_at hl 1 rfl) ?_
      refine lv_aload_n hx hb dL_law_324 rfl (lv_at hl 3 rfl) ?_
      refine lv_iload_n hx hb dL_law_325 rfl (lv_at hl 0 rfl) ?_
      refine lv_iconst (v := 1) hx hb dL_law_326 (by decide) ?_
      refine lv_iadd hx hb dL_law_327 ?_
      rw [show ((nI k) + 1 : Int32) = nI (k + 1) from nI_add k 1]
      refine va_sld hx hb hX hbl hbA hw.2.2 (vp_in_nI (by omega) (by omega)) dL_law_328 ?_
      refine lv_aload_n hx hb dL_law_329 rfl (lv_at hl 3 rfl) ?_
      refine lv_iload_n hx hb dL_law_330 rfl (lv_at hl 0 rfl) ?_
      refine lv_iconst (v := 2) hx hb dL_law_331 (by decide) ?_
      refine lv_iadd hx hb dL_law_332 ?_
      rw [show ((nI k) + 2 : Int32) = nI (k + 2) from nI_add k 2]
      refine va_sld hx hb hX hbl hbA hw.2.2 (vp_in_nI (by omega) (by omega)) dL_law_333 ?_
      refine lv_aload_n hx hb dL_law_334 rfl (lv_at hl 3 rfl) ?_
      refine lv_iload_n hx hb dL_law_335 rfl (lv_at hl 0 rfl) ?_
      refine lv_iconst (v := 3) hx hb dL_law_336 (by decide) ?_
      refine lv_iadd hx hb dL_law_337 ?_
      rw [show ((nI k) + 3 : Int32) = nI (k + 3) from nI_add k 3]
      refine va_sld hx hb hX hbl hbA hw.2.2 (vp_in_nI (by omega) (by omega)) dL_law_338 ?_
      refine wCallR (a := wB E ad (sp_rule S (xs (nI (k + 1)).toNatClampNeg) (xs (nI (k + 2)).toNatClampNeg) (xs (nI (k + 3)).toNatClampNeg)).2) (b := wM E am S) (As := [.int (xs (nI (k + 1)).toNatClampNeg), .int (xs (nI (k + 2)).toNatClampNeg), .int (xs (nI (k + 3)).toNatClampNeg)]) (rest := [.int r1]) K hw (mX3_rule l E am S hI (xs (nI (k + 1)).toNatClampNeg) (xs (nI (k + 2)).toNatClampNeg) (xs (nI (k + 3)).toNatClampNeg)) (cwV 3 hts gL_law_X3_rule rfl rfl rfl (by decide +kernel) ⟨(Nat.le_of_ble_eq_true rfl), (Nat.le_of_ble_eq_true rfl)⟩) wM_o rfl rfl hl.1 rfl (Nat.le_of_ble_eq_true rfl) dL_law_339 ⟨(Nat.le_of_ble_eq_true rfl), (Nat.le_of_ble_eq_true rfl)⟩ (fun r2 w' H locs hr hw => ?_)
      obtain ⟨hr2, rfl⟩ := hr
      refine lv_icmp_eq (tgt := 502) hx hb dL_law_342 (by decide) (fun c_342 => ?_) (fun c_342 => ?_)
      rotate_left
      · exact absurd (hr1.trans hr2.symm) c_342
      refine lv_iinc (v := nI (k + 5)) (lv' := [(3, .int (nI (k + 5))), (2, .ref (am 0)), (1, .ref (ad 0)), (0, .ref b)]) hx hb dL_law_502 hl (k := 0) rfl (nI_add k 5) (by decide) rfl (fun ls hl => ?_)
      refine lv_goto (tgt := 18) hx hb dL_law_505 (by decide) ?_
      exact ih (k + 5) (by omega) (by omega) _ (iv_rule hI _ _ _) H locs ls hl hw
    · refine lv_tableIn (off := 315) (tgt := 347) hx hb dL_law_32 (by decide +kernel) (by decide +kernel) (by decide +kernel) (by decide) ?_
      refine lv_aload_n hx hb dL_law_347 rfl (lv_at hl 2 rfl) ?_
      refine lv_aload_n hx hb dL_law_348 rfl (lv_at hl 3 rfl) ?_
      refine lv_iload_n hx hb dL_law_349 rfl (lv_at hl 0 rfl) ?_
      refine lv_iconst (v := 1) hx hb dL_law_350 (by decide) ?_
      refine lv_iadd hx hb dL_law_351 ?_
      rw [show ((nI k) + 1 : Int32) = nI (k + 1) from nI_add k 1]
      refine va_sld hx hb hX hbl hbA hw.2.2 (vp_in_nI (by omega) (by omega)) dL_law_352 ?_
      refine lv_aload_n hx hb dL_law_353 rfl (lv_at hl 3 rfl) ?_
      refine lv_iload_n hx hb dL_law_354 rfl (lv_at hl 0 rfl) ?_
      refine lv_iconst (v := 2) hx hb dL_law_355 (by decide) ?_
      refine lv_iadd hx hb dL_law_356 ?_
      rw [show ((nI k) + 2 : Int32) = nI (k + 2) from nI_add k 2]
      refine va_sld hx hb hX hbl hbA hw.2.2 (vp_in_nI (by omega) (by omega)) dL_law_357 ?_
      refine lv_aload_n hx hb dL_law_358 rfl (lv_at hl 3 rfl) ?_
      refine lv_iload_n hx hb dL_law_359 rfl (lv_at hl 0 rfl) ?_
      refine lv_iconst (v := 3) hx hb dL_law_360 (by decide) ?_
      refine lv_iadd hx hb dL_law_361 ?_
      rw [show ((nI k) + 3 : Int32) = nI (k + 3) from nI_add k 3]
      refine va_sld hx hb hX hbl hbA hw.2.2 (vp_in_nI (by omega) (by omega)) dL_law_362 ?_
      refine wCallL (a := wB E ad S) (b := wM E am S) (As := [.int (xs (nI (k + 1)).toNatClampNeg), .int (xs (nI (k + 2)).toNatClampNeg), .int (xs (nI (k + 3)).toNatClampNeg)]) (rest := []) K hw (mX2_lay l E ad S hI (xs (nI (k + 1)).toNatClampNeg) (xs (nI (k + 2)).toNatClampNeg) (xs (nI (k + 3)).toNatClampNeg)) (cwV 3 hts gL_law_X2_lay rfl rfl rfl (by decide +kernel) ⟨(Nat.le_of_ble_eq_true rfl), (Nat.le_of_ble_eq_true rfl)⟩) wB_b rfl rfl hl.1 rfl (Nat.le_of_ble_eq_true rfl) dL_law_363 ⟨(Nat.le_of_ble_eq_true rfl), (Nat.le_of_ble_eq_true rfl)⟩ (fun r1 w' H locs hr hw => ?_)
      obtain ⟨hr1, rfl⟩ := hr
      refine lv_aload_n hx hb dL_law_366 rfl (lv_at hl 1 rfl) ?_
      refine lv_aload_n hx hb dL_law_367 rfl (lv_at hl 3 rfl) ?_
      refine lv_iload_n hx hb dL_law_368 rfl (lv_at hl 0 rfl) ?_
      refine lv_iconst (v := 1) hx hb dL_law_369 (by decide) ?_
      refine lv_iadd hx hb dL_law_370 ?_
      rw [show ((nI k) + 1 : Int32) = nI (k + 1) from nI_add k 1]
      refine va_sld hx hb hX hbl hbA hw.2.2 (vp_in_nI (by omega) (by omega)) dL_law_371 ?_
      refine lv_aload_n hx hb dL_law_372 rfl (lv_at hl 3 rfl) ?_
      refine lv_iload_n hx hb dL_law_373 rfl (lv_at hl 0 rfl) ?_
      refine lv_iconst (v := 2) hx hb dL_law_374 (by decide) ?_
      refine lv_iadd hx hb dL_law_375 ?_
      rw [show ((nI k) + 2 : Int32) = nI (k + 2) from nI_add k 2]
      refine va_sld hx hb hX hbl hbA hw.2.2 (vp_in_nI (by omega) (by omega)) dL_law_376 ?_
      refine lv_aload_n hx hb dL_law_377 rfl (lv_at hl 3 rfl) ?_
      refine lv_iload_n hx hb dL_law_378 rfl (lv_at hl 0 rfl) ?_
      refine lv_iconst (v := 3) hx hb dL_law_379 (by decide) ?_
      refine lv_iadd hx hb dL_law_380 ?_
      rw [show ((nI k) + 3 : Int32) = nI (k + 3) from nI_add k 3]
      refine va_sld hx hb hX hbl hbA hw.2.2 (vp_in_nI (by omega) (by omega)) dL_law_381 ?_
      refine wCallR (a := wB E ad (sp_lay S (xs (nI (k + 1)).toNatClampNeg) (xs (nI (k + 2)).toNatClampNeg) (xs (nI (k + 3)).toNatClampNeg)).2) (b := wM E am S) (As := [.int (xs (nI (k + 1)).toNatClampNeg), .int (xs (nI (k + 2)).toNatClampNeg), .int (xs (nI (k + 3)).toNatClampNeg)]) (rest := [.int r1]) K hw (mX3_lay l E am S hI (xs (nI (k + 1)).toNatClampNeg) (xs (nI (k + 2)).toNatClampNeg) (xs (nI (k + 3)).toNatClampNeg)) (cwV 3 hts gL_law_X3_lay rfl rfl rfl (by decide +kernel) ⟨(Nat.le_of_ble_eq_true rfl), (Nat.le_of_ble_eq_true rfl)⟩) wM_o rfl rfl hl.1 rfl (Nat.le_of_ble_eq_true rfl) dL_law_382 ⟨(Nat.le_of_ble_eq_true rfl), (Nat.le_of_ble_eq_true rfl)⟩ (fun r2 w' H locs hr hw => ?_)
      obtain ⟨hr2, rfl⟩ := hr
      refine lv_icmp_eq (tgt := 502) hx hb dL_law_385 (by decide) (fun c_385 => ?_) (fun c_385 => ?_)
      rotate_left
      · exact absurd (hr1.trans hr2.symm) c_385
      refine lv_iinc (v := nI (k + 5)) (lv' := [(3, .int (nI (k + 5))), (2, .ref (am 0)), (1, .ref (ad 0)), (0, .ref b)]) hx hb dL_law_502 hl (k := 0) rfl (nI_add k 5) (by decide) rfl (fun ls hl => ?_)
      refine lv_goto (tgt := 18) hx hb dL_law_505 (by decide) ?_
      exact ih (k + 5) (by omega) (by omega) _ (iv_lay hI _ _ _) H locs ls hl hw
    · refine lv_tableIn (off := 358) (tgt := 390) hx hb dL_law_32 (by decide +kernel) (by decide +kernel) (by decide +kernel) (by decide) ?_
      refine lv_aload_n hx hb dL_law_390 rfl (lv_at hl 2 rfl) ?_
      refine lv_aload_n hx hb dL_law_391 rfl (lv_at hl 3 rfl) ?_
      refine lv_iload_n hx hb dL_law_392 rfl (lv_at hl 0 rfl) ?_
      refine lv_iconst (v := 1) hx hb dL_law_393 (by decide) ?_
      refine lv_iadd hx hb dL_law_394 ?_
      rw [show ((nI k) + 1 : Int32) = nI (k + 1) from nI_add k 1]
      refine va_sld hx hb hX hbl hbA hw.2.2 (vp_in_nI (by omega) (by omega)) dL_law_395 ?_
      refine lv_aload_n hx hb dL_law_396 rfl (lv_at hl 3 rfl) ?_
      refine lv_iload_n hx hb dL_law_397 rfl (lv_at hl 0 rfl) ?_
      refine lv_iconst (v := 2) hx hb dL_law_398 (by decide) ?_
      refine lv_iadd hx hb dL_law_399 ?_
      rw [show ((nI k) + 2 : Int32) = nI (k + 2) from nI_add k 2]
      refine va_sld hx hb hX hbl hbA hw.2.2 (vp_in_nI (by omega) (by omega)) dL_law_400 ?_
      refine lv_aload_n hx hb dL_law_401 rfl (lv_at hl 3 rfl) ?_
      refine lv_iload_n hx hb dL_law_402 rfl (lv_at hl 0 rfl) ?_
      refine lv_iconst (v := 3) hx hb dL_law_403 (by decide) ?_
      refine lv_iadd hx hb dL_law_404 ?_
      rw [show ((nI k) + 3 : Int32) = nI (k + 3) from nI_add k 3]
      refine va_sld hx hb hX hbl hbA hw.2.2 (vp_in_nI (by omega) (by omega)) dL_law_405 ?_
      refine wCallL (a := wB E ad S) (b := wM E am S) (As := [.int (xs (nI (k + 1)).toNatClampNeg), .int (xs (nI (k + 2)).toNatClampNeg), .int (xs (nI (k + 3)).toNatClampNeg)]) (rest := []) K hw (mX2_at l E ad S hI (xs (nI (k + 1)).toNatClampNeg) (xs (nI (k + 2)).toNatClampNeg) (xs (nI (k + 3)).toNatClampNeg)) (cwV 3 hts gL_law_X2_at rfl rfl rfl (by decide +kernel) ⟨(Nat.le_of_ble_eq_true rfl), (Nat.le_of_ble_eq_true rfl)⟩) wB_b rfl rfl hl.1 rfl (Nat.le_of_ble_eq_true rfl) dL_law_406 ⟨(Nat.le_of_ble_eq_true rfl), (Nat.le_of_ble_eq_true rfl)⟩ (fun r1 w' H locs hr hw => ?_)
      obtain ⟨hr1, rfl⟩ := hr
      refine lv_aload_n hx hb dL_law_409 rfl (lv_at hl 1 rfl) ?_
      refine lv_aload_n hx hb dL_law_410 rfl (lv_at hl 3 rfl) ?_
      refine lv_iload_n hx hb dL_law_411 rfl (lv_at hl 0 rfl) ?_
      refine lv_iconst (v := 1) hx hb dL_law_412 (by decide) ?_
      refine lv_iadd hx hb dL_law_413 ?_
      rw [show ((nI k) + 1 : Int32) = nI (k + 1) from nI_add k 1]
      refine va_sld hx hb hX hbl hbA hw.2.2 (vp_in_nI (by omega) (by omega)) dL_law_414 ?_
      refine lv_aload_n hx hb dL_law_415 rfl (lv_at hl 3 rfl) ?_
      refine lv_iload_n hx hb dL_law_416 rfl (lv_at hl 0 rfl) ?_
      refine lv_iconst (v := 2) hx hb dL_law_417 (by decide) ?_
      refine lv_iadd hx hb dL_law_418 ?_
      rw [show ((nI k) + 2 : Int32) = nI (k + 2) from nI_add k 2]
      refine va_sld hx hb hX hbl hbA hw.2.2 (vp_in_nI (by omega) (by omega)) dL_law_419 ?_
      refine lv_aload_n hx hb dL_law_420 rfl (lv_at hl 3 rfl) ?_
      refine lv_iload_n hx hb dL_law_421 rfl (lv_at hl 0 rfl) ?_
      refine lv_iconst (v := 3) hx hb dL_law_422 (by decide) ?_
      refine lv_iadd hx hb dL_law_423 ?_
      rw [show ((nI k) + 3 : Int32) = nI (k + 3) from nI_add k 3]
      refine va_sld hx hb hX hbl hbA hw.2.2 (vp_in_nI (by omega) (by omega)) dL_law_424 ?_
      refine wCallR (a := wB E ad (sp_at S (xs (nI (k + 1)).toNatClampNeg) (xs (nI (k + 2)).toNatClampNeg) (xs (nI (k + 3)).toNatClampNeg)).2) (b := wM E am S) (As := [.int (xs (nI (k + 1)).toNatClampNeg), .int (xs (nI (k + 2)).toNatClampNeg), .int (xs (nI (k + 3)).toNatClampNeg)]) (rest := [.int r1]) K hw (mX3_at l E am S hI (xs (nI (k + 1)).toNatClampNeg) (xs (nI (k + 2)).toNatClampNeg) (xs (nI (k + 3)).toNatClampNeg)) (cwV 3 hts gL_law_X3_at rfl rfl rfl (by decide +kernel) ⟨(Nat.le_of_ble_eq_true rfl), (Nat.le_of_ble_eq_true rfl)⟩) wM_o rfl rfl hl.1 rfl (Nat.le_of_ble_eq_true rfl) dL_law_425 ⟨(Nat.le_of_ble_eq_true rfl), (Nat.le_of_ble_eq_true rfl)⟩ (fun r2 w' H locs hr hw => ?_)
      obtain ⟨hr2, rfl⟩ := hr
      refine lv_icmp_eq (tgt := 502) hx hb dL_law_428 (by decide) (fun c_428 => ?_) (fun c_428 => ?_)
      rotate_left
      · exact absurd (hr1.trans hr2.symm) c_428
      refine lv_iinc (v := nI (k + 5)) (lv' := [(3, .int (nI (k + 5))), (2, .ref (am 0)), (1, .ref (ad 0)), (0, .ref b)]) hx hb dL_law_502 hl (k := 0) rfl (nI_add k 5) (by decide) rfl (fun ls hl => ?_)
      refine lv_goto (tgt := 18) hx hb dL_law_505 (by decide) ?_
      exact ih (k + 5) (by omega) (by omega) _ (iv_at hI _ _ _) H locs ls hl hw
    · refine lv_tableIn (off := 401) (tgt := 433) hx hb dL_law_32 (by decide +kernel) (by decide +kernel) (by decide +kernel) (by decide) ?_
      refine lv_aload_n hx hb dL_law_433 rfl (lv_at hl 2 rfl) ?_
      refine lv_aload_n hx hb dL_law_434 rfl (lv_at hl 3 rfl) ?_
      refine lv_iload_n hx hb dL_law_435 rfl (lv_at hl 0 rfl) ?_
      refine lv_iconst (v := 1) hx hb dL_law_436 (by decide) ?_
      refine lv_iadd hx hb dL_law_437 ?_
      rw [show ((nI k) + 1 : Int32) = nI (k + 1) from nI_add k 1]
      refine va_sld hx hb hX hbl hbA hw.2.2 (vp_in_nI (by omega) (by omega)) dL_law_438 ?_
      refine wCallL (a := wB E ad S) (b := wM E am S) (As := [.int (xs (nI (k + 1)).toNatClampNeg)]) (rest := []) K hw (mX2_head l E ad S hI (xs (nI (k + 1)).toNatClampNeg)) (cwV 1 hts gL_law_X2_head rfl rfl rfl (by decide +kernel) ⟨(Nat.le_of_ble_eq_true rfl), (Nat.le_of_ble_eq_true rfl)⟩) wB_b rfl rfl hl.1 rfl (Nat.le_of_ble_eq_true rfl) dL_law_439 ⟨(Nat.le_of_ble_eq_true rfl), (Nat.le_of_ble_eq_true rfl)⟩ (fun r1 w' H locs hr hw => ?_)
      obtain ⟨hr1, rfl⟩ := hr
      refine lv_aload_n hx hb dL_law_442 rfl (lv_at hl 1 rfl) ?_
      refine lv_aload_n hx hb dL_law_443 rfl (lv_at hl 3 rfl) ?_
      refine lv_iload_n hx hb dL_law_444 rfl (lv_at hl 0 rfl) ?_
      refine lv_iconst (v := 1) hx hb dL_law_445 (by decide) ?_
      refine lv_iadd hx hb dL_law_446 ?_
      rw [show ((nI k) + 1 : Int32) = nI (k + 1) from nI_add k 1]
      refine va_sld hx hb hX hbl hbA hw.2.2 (vp_in_nI (by omega) (by omega)) dL_law_447 ?_
      refine wCallR (a := wB E ad (sp_head S (xs (nI (k + 1)).toNatClampNeg)).2) (b := wM E am S) (As := [.int (xs (nI (k + 1)).toNatClampNeg)]) (rest := [.int r1]) K hw (mX3_head l E am S hI (xs (nI (k + 1)).toNatClampNeg)) (cwV 1 hts gL_law_X3_head rfl rfl rfl (by decide +kernel) ⟨(Nat.le_of_ble_eq_true rfl), (Nat.le_of_ble_eq_true rfl)⟩) wM_o rfl rfl hl.1 rfl (Nat.le_of_ble_eq_true rfl) dL_law_448 ⟨(Nat.le_of_ble_eq_true rfl), (Nat.le_of_ble_eq_true rfl)⟩ (fun r2 w' H locs hr hw => ?_)
      obtain ⟨hr2, rfl⟩ := hr
      refine lv_icmp_eq (tgt := 502) hx hb dL_law_451 (by decide) (fun c_451 => ?_) (fun c_451 => ?_)
      rotate_left
      · exact absurd (hr1.trans hr2.symm) c_451
      refine lv_iinc (v := nI (k + 5)) (lv' := [(3, .int (nI (k + 5))), (2, .ref (am 0)), (1, .ref (ad 0)), (0, .ref b)]) hx hb dL_law_502 hl (k := 0) rfl (nI_add k 5) (by decide) rfl (fun ls hl => ?_)
      refine lv_goto (tgt := 18) hx hb dL_law_505 (by decide) ?_
      exact ih (k + 5) (by omega) (by omega) _ (iv_head hI _) H locs ls hl hw
    · refine lv_tableIn (off := 424) (tgt := 456) hx hb dL_law_32 (by decide +kernel) (by decide +kernel) (by decide +kernel) (by decide) ?_
      refine lv_aload_n hx hb dL_law_456 rfl (lv_at hl 2 rfl) ?_
      refine lv_aload_n hx hb dL_law_457 rfl (lv_at hl 3 rfl) ?_
      refine lv_iload_n hx hb dL_law_458 rfl (lv_at hl 0 rfl) ?_
      refine lv_iconst (v := 1) hx hb dL_law_459 (by decide) ?_
      refine lv_iadd hx hb dL_law_460 ?_
      rw [show ((nI k) + 1 : Int32) = nI (k + 1) from nI_add k 1]
      refine va_sld hx hb hX hbl hbA hw.2.2 (vp_in_nI (by omega) (by omega)) dL_law_461 ?_
      refine wCallL (a := wB E ad S) (b := wM E am S) (As := [.int (xs (nI (k + 1)).toNatClampNeg)]) (rest := []) K hw (mX2_play l E ad S hI (xs (nI (k + 1)).toNatClampNeg)) (cwV 1 hts gL_law_X2_play rfl rfl rfl (by decide +kernel) ⟨(Nat.le_of_ble_eq_true rfl), (Nat.le_of_ble_eq_true rfl)⟩) wB_b rfl rfl hl.1 rfl (Nat.le_of_ble_eq_true rfl) dL_law_462 ⟨(Nat.le_of_ble_eq_true rfl), (Nat.le_of_ble_eq_true rfl)⟩ (fun r1 w' H locs hr hw => ?_)
      obtain ⟨hr1, rfl⟩ := hr
      refine lv_aload_n hx hb dL_law_465 rfl (lv_at hl 1 rfl) ?_
      refine lv_aload_n hx hb dL_law_466 rfl (lv_at hl 3 rfl) ?_
      refine lv_iload_n hx hb dL_law_467 rfl (lv_at hl 0 rfl) ?_
      refine lv_iconst (v := 1) hx hb dL_law_468 (by decide) ?_
      refine lv_iadd hx hb dL_law_469 ?_
      rw [show ((nI k) + 1 : Int32) = nI (k + 1) from nI_add k 1]
      refine va_sld hx hb hX hbl hbA hw.2.2 (vp_in_nI (by omega) (by omega)) dL_law_470 ?_
      refine wCallR (a := wB E ad (sp_play S (xs (nI (k + 1)).toNatClampNeg)).2) (b := wM E am S) (As := [.int (xs (nI (k + 1)).toNatClampNeg)]) (rest := [.int r1]) K hw (mX3_play l E am S hI (xs (nI (k + 1)).toNatClampNeg)) (cwV 1 hts gL_law_X3_play rfl rfl rfl (by decide +kernel) ⟨(Nat.le_of_ble_eq_true rfl), (Nat.le_of_ble_eq_true rfl)⟩) wM_o rfl rfl hl.1 rfl (Nat.le_of_ble_eq_true rfl) dL_law_471 ⟨(Nat.le_of_ble_eq_true rfl), (Nat.le_of_ble_eq_true rfl)⟩ (fun r2 w' H locs hr hw => ?_)
      obtain ⟨hr2, rfl⟩ := hr
      refine lv_icmp_eq (tgt := 502) hx hb dL_law_474 (by decide) (fun c_474 => ?_) (fun c_474 => ?_)
      rotate_left
      · exact absurd (hr1.trans hr2.symm) c_474
      refine lv_iinc (v := nI (k + 5)) (lv' := [(3, .int (nI (k + 5))), (2, .ref (am 0)), (1, .ref (ad 0)), (0, .ref b)]) hx hb dL_law_502 hl (k := 0) rfl (nI_add k 5) (by decide) rfl (fun ls hl => ?_)
      refine lv_goto (tgt := 18) hx hb dL_law_505 (by decide) ?_
      exact ih (k + 5) (by omega) (by omega) _ (iv_play hI _) H locs ls hl hw
    · refine lv_tableIn (off := 447) (tgt := 479) hx hb dL_law_32 (by decide +kernel) (by decide +kernel) (by decide +kernel) (by decide) ?_
      refine lv_aload_n hx hb dL_law_479 rfl (lv_at hl 2 rfl) ?_
      refine lv_aload_n hx hb dL_law_480 rfl (lv_at hl 3 rfl) ?_
      refine lv_iload_n hx hb dL_law_481 rfl (lv_at hl 0 rfl) ?_
      refine lv_iconst (v := 1) hx hb dL_law_482 (by decide) ?_
      refine lv_iadd hx hb dL_law_483 ?_
      rw [show ((nI k) + 1 : Int32) = nI (k + 1) from nI_add k 1]
      refine va_sld hx hb hX hbl hbA hw.2.2 (vp_in_nI (by omega) (by omega)) dL_law_484 ?_
      refine wCallL (a := wB E ad S) (b := wM E am S) (As := [.int (xs (nI (k + 1)).toNatClampNeg)]) (rest := []) K hw (mX2_count l E ad S hI (xs (nI (k + 1)).toNatClampNeg)) (cwV 1 hts gL_law_X2_count rfl rfl rfl (by decide +kernel) ⟨(Nat.le_of_ble_eq_true rfl), (Nat.le_of_ble_eq_true rfl)⟩) wB_b rfl rfl hl.1 rfl (Nat.le_of_ble_eq_true rfl) dL_law_485 ⟨(Nat.le_of_ble_eq_true rfl), (Nat.le_of_ble_eq_true rfl)⟩ (fun r1 w' H locs hr hw => ?_)
      obtain ⟨hr1, rfl⟩ := hr
      refine lv_aload_n hx hb dL_law_488 rfl (lv_at hl 1 rfl) ?_
      refine lv_aload_n hx hb dL_law_489 rfl (lv_at hl 3 rfl) ?_
      refine lv_iload_n hx hb dL_law_490 rfl (lv_at hl 0 rfl) ?_
      refine lv_iconst (v := 1) hx hb dL_law_491 (by decide) ?_
      refine lv_iadd hx hb dL_law_492 ?_
      rw [show ((nI k) + 1 : Int32) = nI (k + 1) from nI_add k 1]
      refine va_sld hx hb hX hbl hbA hw.2.2 (vp_in_nI (by omega) (by omega)) dL_law_493 ?_
      refine wCallR (a := wB E ad S) (b := wM E am S) (As := [.int (xs (nI (k + 1)).toNatClampNeg)]) (rest := [.int r1]) K hw (mX3_count l E am S hI (xs (nI (k + 1)).toNatClampNeg)) (cwV 1 hts gL_law_X3_count rfl rfl rfl (by decide +kernel) ⟨(Nat.le_of_ble_eq_true rfl), (Nat.le_of_ble_eq_true rfl)⟩) wM_o rfl rfl hl.1 rfl (Nat.le_of_ble_eq_true rfl) dL_law_494 ⟨(Nat.le_of_ble_eq_true rfl), (Nat.le_of_ble_eq_true rfl)⟩ (fun r2 w' H locs hr hw => ?_)
      obtain ⟨hr2, rfl⟩ := hr
      refine lv_icmp_eq (tgt := 502) hx hb dL_law_497 (by decide) (fun c_497 => ?_) (fun c_497 => ?_)
      rotate_left
      · exact absurd (hr1.trans hr2.symm) c_497
      refine lv_iinc (v := nI (k + 5)) (lv' := [(3, .int (nI (k + 5))), (2, .ref (am 0)), (1, .ref (ad 0)), (0, .ref b)]) hx hb dL_law_502 hl (k := 0) rfl (nI_add k 5) (by decide) rfl (fun ls hl => ?_)
      refine lv_goto (tgt := 18) hx hb dL_law_505 (by decide) ?_
      exact ih (k + 5) (by omega) (by omega) _ hI H locs ls hl hw
    · refine lv_tableOut (tgt := 502) hx hb dL_law_32 (by decide +kernel) (by decide) ?_
      refine lv_iinc (v := nI (k + 5)) (lv' := [(3, .int (nI (k + 5))), (2, .ref (am 0)), (1, .ref (ad 0)), (0, .ref b)]) hx hb dL_law_502 hl (k := 0) rfl (nI_add k 5) (by decide) rfl (fun ls hl => ?_)
      refine lv_goto (tgt := 18) hx hb dL_law_505 (by decide) ?_
      exact ih (k + 5) (by omega) (by omega) _ hI H locs ls hl hw
    · refine lv_tableOut (tgt := 502) hx hb dL_law_32 (by decide +kernel) (by decide) ?_
      refine lv_iinc (v := nI (k + 5)) (lv' := [(3, .int (nI (k + 5))), (2, .ref (am 0)), (1, .ref (ad 0)), (0, .ref b)]) hx hb dL_law_502 hl (k := 0) rfl (nI_add k 5) (by decide) rfl (fun ls hl => ?_)
      refine lv_goto (tgt := 18) hx hb dL_law_505 (by decide) ?_
      exact ih (k + 5) (by omega) (by omega) _ hI H locs ls hl hw
    · refine lv_tableOut (tgt := 502) hx hb dL_law_32 (by decide +kernel) (by decide) ?_
      refine lv_iinc (v := nI (k + 5)) (lv' := [(3, .int (nI (k + 5))), (2, .ref (am 0)), (1, .ref (ad 0)), (0, .ref b)]) hx hb dL_law_502 hl (k := 0) rfl (nI_add k 5) (by decide) rfl (fun ls hl => ?_)
      refine lv_goto (tgt := 18) hx hb dL_law_505 (by decide) ?_
      exact ih (k + 5) (by omega) (by omega) _ hI H locs ls hl hw
    · refine lv_tableOut (tgt := 502) hx hb dL_law_32 (by decide +kernel) (by decide) ?_
      refine lv_iinc (v := nI (k + 5)) (lv' := [(3, .int (nI (k + 5))), (2, .ref (am 0)), (1, .ref (ad 0)), (0, .ref b)]) hx hb dL_law_502 hl (k := 0) rfl (nI_add k 5) (by decide) rfl (fun ls hl => ?_)
      refine lv_goto (tgt := 18) hx hb dL_law_505 (by decide) ?_
      exact ih (k + 5) (by omega) (by omega) _ hI H locs ls hl hw
set_option maxHeartbeats 4000000 in
set_option maxRecDepth 100000 in
theorem whole_start {p : Program} {e : Env} {s : State} {m : MethodId} {below : List Frame} {meth : Method} {c : Code} (l : Launch) {b L : Nat} {xs : Nat → Int32} (hL : L ≤ 2560) (C0 : lw_At p s m meth c b L xs) : W p l e room_1 s m #[Value.ref b] below meth c s.heap [] 0 0 (lw_Z below #[Value.ref b] s) (entryFrame m ([Value.ref b] : List Value).toArray 4) := by
  obtain ⟨hx, hb, hr, hml, hown, hts0, hX, hbl, hlocks, hgv⟩ := id C0
  have hts : ∀ w ∈ wsL_law, w.before #[Value.ref b] s = true := fun w h => hts0 w (wsL_law_in w h)
  obtain ⟨c0, iS0, hKn0⟩ := u_known (C := RX0) (T := TX0) (N := 5) (n := 5) hts0 inX0 (hts (.instantiable RX0 5) (by decide +kernel))
  obtain ⟨c1, iS1, hKn1⟩ := u_known (C := RX1) (T := TX1) (N := 3) (n := 3) hts0 inX1 (hts (.instantiable RX1 3) (by decide +kernel))
  obtain ⟨c2, iS2, hKn2⟩ := u_known (C := RX2) (T := TX2) (N := 8) (n := 8) hts0 inX2 (hts (.instantiable RX2 8) (by decide +kernel))
  obtain ⟨c3, iS3, hKn3⟩ := u_known (C := RX3) (T := TX3) (N := 16) (n := 16) hts0 inX3 (hts (.instantiable RX3 16) (by decide +kernel))
  obtain ⟨cI, kI, mI, i1, i2, i3⟩ := Cond.arrayClass_spec (hts (.arrayClass .int) (by decide +kernel))
  obtain ⟨cZ, kZ, mZ, z1, z2, z3⟩ := Cond.arrayClass_spec (hts (.arrayClass .boolean) (by decide +kernel))
  have hAO : (Cond.arrayOver (.object RX0)).before #[Value.ref b] s = true := hts0 (.arrayOver (.object RX0)) (by decide +kernel)
  obtain ⟨mL, cL, kL, l1, l2, l3, l4, l5⟩ := Cond.arrayOver_spec hAO
  obtain ⟨E, hKK⟩ : ∃ E : wE, wKK E s := by
    refine ⟨((fun k => if k = 0 then c0 else if k = 1 then c1 else if k = 2 then c2 else c3, fun k => if k = 0 then iS0 else if k = 1 then iS1 else if k = 2 then iS2 else iS3), fun k => if k = 0 then cI else if k = 1 then cZ else cL), ⟨?_, ?_⟩, va_AO.of hAO⟩
    · intro k q hq
      match k, hq with
      | 0, hq => cases hq; exact hKn0
      | 1, hq => cases hq; exact hKn1
      | 2, hq => cases hq; exact hKn2
      | 3, hq => cases hq; exact hKn3
      | k + 4, hq => simp [vwCl] at hq
    · intro k q hq
      match k, hq with
      | 0, hq => cases hq; exact ⟨fun N z => ⟨(fun k h => by cases h), kI, i2, mI, i3⟩, i1⟩
      | 1, hq => cases hq; exact ⟨fun N z => ⟨(fun k h => by cases h), kZ, z2, mZ, z3⟩, z1⟩
      | 2, hq => cases hq; exact ⟨fun N z => ⟨(fun k h => by cases h), kL, l3, mL, l4⟩, kL, mL, l3, l4, l1, l5⟩
      | k + 3, hq => simp [wTy] at hq
  have K : wC p s m #[Value.ref b] meth c cL_law 4 ret RL wsL_law E (fun q => s.heap.size ≤ q) := ⟨hx, hb, hr, hml, hown, hts, hlocks, hKK, fun _ h => h⟩
  have hw : wW E (fun q => s.heap.size ≤ q) s ([] : va_W) s.heap [] := ⟨fun k q h => by simp at h, ⟨fun i j p q h => by simp at h, fun k q h => by simp at h⟩, va_S.rf⟩
  have hl := lv_entry ([.ref b]) (n := 4) (Nat.le_of_ble_eq_true rfl)
  rw [lg_entry_eq]
  generalize (lg_sl ([.ref b]) ++ List.replicate (4 - (lg_sl ([.ref b])).length) Slot.unset).toArray = ls at hl ⊢
  have hl : lv_has ls 4 [(0, .ref b)] := hl
  refine wNew (ci := 2) (fs := [.null, .int 0, .int 0, .int 0, .int 0, .int 0, .int 0, .int 0]) (C := RX2) (T := TX2) (N := 8) (cells1 := 1) (slots1 := 8) K hw inlX2 tyX2 tyX2_ok (by decide +kernel) (by decide +kernel) (by decide +kernel) rfl (fun j hj => by rcases (show j = 0 ∨ j = 1 ∨ j = 2 ∨ j = 3 ∨ j = 4 ∨ j = 5 ∨ j = 6 ∨ j = 7 by omega) with rfl | rfl | rfl | rfl | rfl | rfl | rfl | rfl <;> rfl) rfl rfl (Nat.le_of_ble_eq_true rfl) (Nat.le_of_ble_eq_true rfl) dL_law_0 (fun q1 H hw => ?_)
  refine lv_dup hx hb dL_law_3 rfl ?_
  refine wCallI (a := []) (b := [(q1, .inr (2, [.null, .int 0, .int 0, .int 0, .int 0, .int 0, .int 0, .int 0]))]) (o := q1) (As := []) (rest := [.ref q1]) (cells1 := 22) (slots1 := 1633) K hw (mX2_init l E q1) (cwI 0 hts gL_law_X2_init rfl rfl rfl (hts (.initialized RX2) (by decide +kernel)) (hts (.methodLink RL 9 yX2_init) (by decide +kernel)) (hts (.instanceMethod yX2_init) (by decide +kernel)) rfl (by decide +kernel) ⟨(Nat.le_of_ble_eq_true rfl), (Nat.le_of_ble_eq_true rfl)⟩) rfl hl.1 rfl (Nat.le_of_ble_eq_true rfl) dL_law_4 rfl rfl ⟨(Nat.le_of_ble_eq_true rfl), (Nat.le_of_ble_eq_true rfl)⟩ (fun w' H locs hr hw => ?_)
  obtain ⟨ad, rfl, rfl⟩ := hr
  have hw : wW E (fun q => s.heap.size ≤ q) s (wB E ad S0) _ _ := hw
  refine lv_astore_n (lv' := [(1, .ref (ad 0)), (0, .ref b)]) hx hb dL_law_7 rfl hl (by decide) rfl (fun ls hl => ?_)
  refine wNew (ci := 3) (fs := [.null, .null, .null, .null, .null, .null, .null, .null, .null, .int 0, .int 0, .int 0, .int 0, .int 0, .int 0, .int 0]) (C := RX3) (T := TX3) (N := 16) (cells1 := 23) (slots1 := 1649) K hw inlX3 tyX3 tyX3_ok (by decide +kernel) (by decide +kernel) (by decide +kernel) rfl (fun j hj => by rcases (show j = 0 ∨ j = 1 ∨ j = 2 ∨ j = 3 ∨ j = 4 ∨ j = 5 ∨ j = 6 ∨ j = 7 ∨ j = 8 ∨ j = 9 ∨ j = 10 ∨ j = 11 ∨ j = 12 ∨ j = 13 ∨ j = 14 ∨ j = 15 by omega) with rfl | rfl | rfl | rfl | rfl | rfl | rfl | rfl | rfl | rfl | rfl | rfl | rfl | rfl | rfl | rfl <;> rfl) rfl rfl (Nat.le_of_ble_eq_true rfl) (Nat.le_of_ble_eq_true rfl) dL_law_8 (fun q2 H hw => ?_)
  refine lv_dup hx hb dL_law_11 rfl ?_
  refine wCallI (a := wB E ad S0) (b := [(q2, .inr (3, [.null, .null, .null, .null, .null, .null, .null, .null, .null, .int 0, .int 0, .int 0, .int 0, .int 0, .int 0, .int 0]))]) (o := q2) (As := []) (rest := [.ref q2]) (cells1 := 32) (slots1 := 3264) K hw (mX3_init l E q2) (cwI 0 hts gL_law_X3_init rfl rfl rfl (hts (.initialized RX3) (by decide +kernel)) (hts (.methodLink RL 12 yX3_init) (by decide +kernel)) (hts (.instanceMethod yX3_init) (by decide +kernel)) rfl (by decide +kernel) ⟨(Nat.le_of_ble_eq_true rfl), (Nat.le_of_ble_eq_true rfl)⟩) rfl hl.1 rfl (Nat.le_of_ble_eq_true rfl) dL_law_12 rfl rfl ⟨(Nat.le_of_ble_eq_true rfl), (Nat.le_of_ble_eq_true rfl)⟩ (fun w' H locs hr hw => ?_)
  obtain ⟨am, rfl, rfl⟩ := hr
  refine lv_astore_n (lv' := [(2, .ref (am 0)), (1, .ref (ad 0)), (0, .ref b)]) hx hb dL_law_15 rfl hl (by decide) rfl (fun ls hl => ?_)
  refine lv_iconst (v := 0) hx hb dL_law_16 (by decide) ?_
  refine lv_istore_n (lv' := [(3, .int 0), (2, .ref (am 0)), (1, .ref (ad 0)), (0, .ref b)]) hx hb dL_law_17 rfl hl (by decide) rfl (fun ls hl => ?_)
  exact law_loop hL hX hbl E ad am hlocks hr K (L + 1) 0 (by omega) (by omega) S0 Inv_S0 _ _ ls (by rw [nI_0]; exact hl) hw
end
section
set_option maxHeartbeats 4000000 in
theorem lw_walk (l : Launch) (b : Addr) (xs : List Int32) : MetFree l x (headSpec (Jvm.Cond.code x code maxLocals ret :: tables_1) room_1) (lw_P b xs) (fun _ _ _ _ _ => True) lw_Q := by
  refine MetFree.of_bodyS (code := code) (maxLocals := maxLocals) (ret := ret) (by decide) ?_ ?_
  · intro args s m h hn
    obtain ⟨meth, c, h1, h2, h3, h4, h5, h6, -, -⟩ := Cond.code_spec hn (atoms_spec (ws := Jvm.Cond.code x code maxLocals ret :: tables_1) h _ List.mem_cons_self)
    exact ⟨meth, c, h1, h2, h3, h4, h5, h6⟩
  · intro p e s m args below meth c s₁ B hml0 hP _
    obtain ⟨rfl, hx, hbd, hgv⟩ := hP
    obtain ⟨scr, harrAt, hlist, hof, hsmall⟩ := hx
    obtain ⟨hcb, hkn, -, -⟩ := State.arrayAt?_spec harrAt
    have hown : s.vm.findClass R_law = some m.cls := findClass_of_methodNamed B.named
    have hts0 : ∀ c ∈ (Jvm.Cond.code x code maxLocals ret :: tables_1), c.before #[Value.ref b] s = true := atoms_spec (ws := Jvm.Cond.code x code maxLocals ret :: tables_1) B.pre
    have hts : ∀ w ∈ lw_tbl, w.before #[Value.ref b] s = true := k2_hts_sels lw_privs (fun w hw => hts0 w (List.mem_cons_of_mem _ hw)) lw_privs_ok
    have hml : c.maxLocals = 4 := B.maxLocals_eq (hts0 _ List.mem_cons_self)
    have X₀ : Stand p l e room_1 s m #[Value.ref b] below meth c s₁ [] 0 0 := Stand.of_body B
    have hh0 : s₁.heap = s.heap := by rw [B.state]; rfl
    have hsz : scr.slots.size = xs.length := by rw [← Array.length_toList, hlist, List.length_map]
    have hval : ∀ j : Nat, j < xs.length → scr.slots[j]? = some (.int (xs.getD j 0)) := fun j hj => by
      rw [← Array.getElem?_toList, hlist]
      simp [hj]
    have hbl : b < s.heap.size := (Array.getElem?_eq_some_iff.mp hcb).1
    have hX : va_X b xs.length (fun j => xs.getD j 0) s s.heap := ⟨scr, hcb, hof, hkn, hsz, hval⟩
    have K : W p l e room_1 s m #[Value.ref b] below meth c s₁.heap [] 0 0 (lw_Z below #[Value.ref b] s) (entryFrame m ([Value.ref b] : List Value).toArray 4) := by
      rw [hh0]
      exact whole_start l hbd ⟨B.exec, B.bytes, B.returns, hml, hown, hts, hX, hbl, B.notSynchronized, hgv⟩
    obtain ⟨t, a1, o, b1, b2, b3⟩ := K s₁ rfl X₀
    exact ⟨t, o, a1, b1, b2, b3⟩
theorem lw_pre_spec {args : Array Value} {s : State} (h : (Jvm.Cond.and given_1 narrow_1).before args s = true) (hr : rest_1_c.before args s = true) : ∃ (b : Addr) (xs : List Int32), lw_P b xs args s := by
  have hs := flat_of_before _ h
  have hq := flat_of_before _ hr
  have hc : (Cond.count 1).before args s = true := hs _ (by decide +kernel)
  have harr : (Cond.arrayOf (.arg 0) .int).before args s = true := hs _ (by decide +kernel)
  have hle : (Cond.le (.length (.arg 0)) (.int 2560)).before args s = true := hs _ (by decide +kernel)
  have hlen : (Cond.isInt (.length (.arg 0))).before args s = true := hq _ (by decide +kernel)
  have hall : (Cond.all (.arg 0) (.isInt (.elem (.arg 0) (.index 0)))).before args s = true := hq _ (by decide +kernel)
  obtain ⟨b, xs, hb, hx⟩ := State.ints_of_pre rfl harr hlen hall
  have hsm : xs.length < 2 ^ 31 := hx.choose_spec.2.2.2
  have hev : (Term.length (.arg 0)).eval args s none [] s = some (.int xs.length.toInt32) := hx.length_eval hb
  have hv := Cond.le_ints hev (show (Term.int 2560).eval args s none [] s = some (.int 2560) from rfl)
  have hd : xs.length.toInt32 ≤ 2560 := by
    simpa [Cond.before, Cond.holds, hv] using hle
  have hN : xs.length ≤ 2560 := (Int32.ofNat_le_ofNat hsm (by decide)).mp (show Int32.ofNat xs.length ≤ Int32.ofNat 2560 from hd)
  exact ⟨b, xs, Cond.one_arg hc (show args[0]? = some (.ref b) from hb), hx, hN, h⟩
theorem lw_comes (l : Launch) : Comes l x (Jvm.Cond.code x code maxLocals ret :: tables_1) room_1 (fun tb e args s => Calls_1 tb e args s ∧ rest_1 tb e args s ∧ Pre_1 tb e args s)
    (fun _ _ args s o t => lw_Q args s o t) := by
  intro p e ha hc hk s m args below hf hfit hheap happ hpre
  obtain ⟨b, xs, hP⟩ := lw_pre_spec hpre.2.2 hpre.2.1
  obtain ⟨k, o, h1, h2, h3, hQ⟩ := lw_walk l b xs p e ha hc hk s m args below hf ((Spec.applies_iff_loose hf).mp happ).1 hP trivial
  exact ⟨k, o, h1, h2, h3, hQ⟩
theorem lw_frame {s t : State} {o : Outcome} {args : Array Value} (h : Framed s o t [] 600000 7302250) :
    Framed s o t (fieldLocs frame_1_writes args s ++ arrayLocs frame_1_arrays args s ++ staticLocs frame_1_statics s) 600000 7302250 := h
theorem lw_limb (L : Cond) (hL : ∀ (args : Array Value) (s t : State), L.after args s (.returned (some (.int 1))) t = true) :
    ArmFor flags0 classFile x code maxLocals ret World_1 tables_1 room_1 Calls_1 rest_1 Pre_1
      (fun tb e a s o t => postC L tb e a s o t ∧ Framed s o t (fieldLocs frame_1_writes a s ++ arrayLocs frame_1_arrays a s ++ staticLocs frame_1_statics s) 600000 7302250) := by
  intro l _ _ _ p e ha hc hk s m args below hf hfit hheap happ hpre
  obtain ⟨k, o, h1, h2, h3, rfl, hF⟩ := lw_comes l p e ha hc hk s m args below hf hfit hheap happ hpre
  exact ⟨k, _, h1, h2, h3, hL args s _, lw_frame hF⟩
theorem i_vc : Claimed_1_1 ∧ Claimed_1_2 := ⟨lw_limb limb_1_1 (fun args s t => by simp [limb_1_1, Cond.after, Cond.holds, Cond.value]), lw_limb limb_1_2 (fun args s t => Cond.after_iff.mpr (by
  first | (rw [show limb_1_2 = Cond.eq .result (.int 1) from rfl, Cond.eq_ints (x := 1) (y := 1) rfl rfl]; simp; done) | (simp [limb_1_2, Cond.value, Term.eval]; done)))⟩
end
