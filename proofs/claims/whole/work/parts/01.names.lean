-- ===== PART A: goes FIRST, ahead of the names: the tables' words, and 'selects' of the private methods out of them =====
/-- a private method of a class that the tables say can be made, by its rows of tables_1 -/
def lw_okq (q : MethodName × Nat) : Prop := (q.1.cls ≠ "java/lang/invoke/MethodHandle" ∧ q.1.cls ≠ "java/lang/invoke/VarHandle") ∧ Cond.instantiable q.1.cls q.2 ∈ tables_1 ∧ Cond.privateMethod q.1 ∈ tables_1 ∧ Cond.instanceMethod q.1 ∈ tables_1
theorem lw_p0 : lw_okq (⟨"RollBench", "step", "(I)V"⟩, 8) := ⟨⟨by decide +kernel, by decide +kernel⟩, List.mem_of_getElem? (i := 7) (by decide +kernel), List.mem_of_getElem? (i := 221) (by decide +kernel), List.mem_of_getElem? (i := 222) (by decide +kernel)⟩
theorem lw_p1 : lw_okq (⟨"RollBench", "told", "(II)I"⟩, 8) := ⟨⟨by decide +kernel, by decide +kernel⟩, List.mem_of_getElem? (i := 7) (by decide +kernel), List.mem_of_getElem? (i := 225) (by decide +kernel), List.mem_of_getElem? (i := 226) (by decide +kernel)⟩
theorem lw_p2 : lw_okq (⟨"RollBench", "playNote", "()V"⟩, 8) := ⟨⟨by decide +kernel, by decide +kernel⟩, List.mem_of_getElem? (i := 7) (by decide +kernel), List.mem_of_getElem? (i := 229) (by decide +kernel), List.mem_of_getElem? (i := 230) (by decide +kernel)⟩
theorem lw_p3 : lw_okq (⟨"RollBench", "lowered", "(I)Z"⟩, 8) := ⟨⟨by decide +kernel, by decide +kernel⟩, List.mem_of_getElem? (i := 7) (by decide +kernel), List.mem_of_getElem? (i := 233) (by decide +kernel), List.mem_of_getElem? (i := 234) (by decide +kernel)⟩
theorem lw_p4 : lw_okq (⟨"RollBenchModel", "off", "(I)I"⟩, 16) := ⟨⟨by decide +kernel, by decide +kernel⟩, List.mem_of_getElem? (i := 241) (by decide +kernel), List.mem_of_getElem? (i := 311) (by decide +kernel), List.mem_of_getElem? (i := 312) (by decide +kernel)⟩
theorem lw_p5 : lw_okq (⟨"RollBenchModel", "out", "(I)I"⟩, 16) := ⟨⟨by decide +kernel, by decide +kernel⟩, List.mem_of_getElem? (i := 241) (by decide +kernel), List.mem_of_getElem? (i := 324) (by decide +kernel), List.mem_of_getElem? (i := 325) (by decide +kernel)⟩
theorem lw_p6 : lw_okq (⟨"RollBenchModel", "has", "(I)Z"⟩, 16) := ⟨⟨by decide +kernel, by decide +kernel⟩, List.mem_of_getElem? (i := 241) (by decide +kernel), List.mem_of_getElem? (i := 372) (by decide +kernel), List.mem_of_getElem? (i := 373) (by decide +kernel)⟩
theorem lw_p7 : lw_okq (⟨"RollBenchModel", "step", "()V"⟩, 16) := ⟨⟨by decide +kernel, by decide +kernel⟩, List.mem_of_getElem? (i := 241) (by decide +kernel), List.mem_of_getElem? (i := 376) (by decide +kernel), List.mem_of_getElem? (i := 377) (by decide +kernel)⟩
theorem lw_p8 : lw_okq (⟨"RollBenchModel", "told", "(II)I"⟩, 16) := ⟨⟨by decide +kernel, by decide +kernel⟩, List.mem_of_getElem? (i := 241) (by decide +kernel), List.mem_of_getElem? (i := 380) (by decide +kernel), List.mem_of_getElem? (i := 381) (by decide +kernel)⟩
theorem lw_p9 : lw_okq (⟨"RollBenchModel", "less", "(I)V"⟩, 16) := ⟨⟨by decide +kernel, by decide +kernel⟩, List.mem_of_getElem? (i := 241) (by decide +kernel), List.mem_of_getElem? (i := 384) (by decide +kernel), List.mem_of_getElem? (i := 385) (by decide +kernel)⟩
theorem lw_p10 : lw_okq (⟨"RollBenchModel", "note", "()V"⟩, 16) := ⟨⟨by decide +kernel, by decide +kernel⟩, List.mem_of_getElem? (i := 241) (by decide +kernel), List.mem_of_getElem? (i := 388) (by decide +kernel), List.mem_of_getElem? (i := 389) (by decide +kernel)⟩
def lw_privs_1 : List (MethodName × Nat) := [(⟨"RollBench", "step", "(I)V"⟩, 8), (⟨"RollBench", "told", "(II)I"⟩, 8), (⟨"RollBench", "playNote", "()V"⟩, 8), (⟨"RollBench", "lowered", "(I)Z"⟩, 8), (⟨"RollBenchModel", "off", "(I)I"⟩, 16), (⟨"RollBenchModel", "out", "(I)I"⟩, 16), (⟨"RollBenchModel", "has", "(I)Z"⟩, 16), (⟨"RollBenchModel", "step", "()V"⟩, 16), (⟨"RollBenchModel", "told", "(II)I"⟩, 16), (⟨"RollBenchModel", "less", "(I)V"⟩, 16), (⟨"RollBenchModel", "note", "()V"⟩, 16)]
theorem lw_r1 : ∀ q ∈ lw_privs_1, lw_okq q := List.forall_mem_cons.mpr ⟨lw_p0, List.forall_mem_cons.mpr ⟨lw_p1, List.forall_mem_cons.mpr ⟨lw_p2, List.forall_mem_cons.mpr ⟨lw_p3, List.forall_mem_cons.mpr ⟨lw_p4, List.forall_mem_cons.mpr ⟨lw_p5, List.forall_mem_cons.mpr ⟨lw_p6, List.forall_mem_cons.mpr ⟨lw_p7, List.forall_mem_cons.mpr ⟨lw_p8, List.forall_mem_cons.mpr ⟨lw_p9, List.forall_mem_cons.mpr ⟨lw_p10, fun _ h => absurd h List.not_mem_nil⟩⟩⟩⟩⟩⟩⟩⟩⟩⟩⟩
def lw_privs : List (MethodName × Nat) := lw_privs_1
def lw_tbl : List Cond := k2_sels lw_privs ++ tables_1
theorem lw_privs_ok : ∀ q ∈ lw_privs, lw_okq q := lw_r1
/-! ===== BEGIN words of one list among another's, by their places ===== -/
theorem goodIn_r {big : List Cond} (ws : List Cond) (ps : List Nat) (hp : ws = ps.filterMap (fun i => big[i]?)) (h : ws.all goodWord = true) : GoodIn big ws := by
  intro w hw
  have h1 := List.all_eq_true.mp h w hw
  rw [hp] at hw
  obtain ⟨i, -, hi⟩ := List.mem_filterMap.mp hw
  have hm : w ∈ big := by first | exact List.mem_of_getElem? hi | exact List.getElem?_mem hi
  exact ⟨hm, good_of_word h1⟩
theorem goodIn_app {big a b : List Cond} (ha : GoodIn big a) (hb : GoodIn big b) : GoodIn big (a ++ b) := fun w h => (List.mem_append.mp h).elim (ha w) (hb w)
theorem goodIn_ca {big a b : List Cond} {c : Cond} (ha : GoodIn big (c :: a)) (hb : GoodIn big b) : GoodIn big (c :: (a ++ b)) := fun w h => (List.mem_cons.mp h).elim (fun e => ha w (List.mem_cons.mpr (Or.inl e))) (fun h => (List.mem_append.mp h).elim (fun h => ha w (List.mem_cons.mpr (Or.inr h))) (hb w))
theorem goodIn_sub {big ws : List Cond} (hm : ∀ w ∈ ws, w ∈ big) (h : ws.all goodWord = true) : GoodIn big ws := fun w hw => ⟨hm w hw, good_of_word (List.all_eq_true.mp h w hw)⟩
/-! ===== END ===== -/

/-! ===== BEGIN printed: names, fields, word lists, decode rows ===== -/
def RX0 : String := "RollBench$Lane"
def TX0 : u_T := fun k => match k with
  | 0 => ("RollBench$Lane", "cells", "[I", true)
  | 1 => ("RollBench$Lane", "sheet", "LRollBench$Sheet;", true)
  | 2 => ("RollBench$Lane", "length", "I", false)
  | 3 => ("RollBench$Lane", "offRefusals", "I", false)
  | _ => ("RollBench$Lane", "outRefusals", "I", false)
def tyX0 : Nat → FieldType := fun k => match k with
  | 0 => .array .int
  | 1 => .object "RollBench$Sheet"
  | 2 => .int
  | 3 => .int
  | _ => .int
abbrev wsX00 : List Cond := u_ws RX0 TX0 5
theorem nmX0 : ∀ a, a < 5 → ∀ b, b < 5 → a ≠ b → (TX0 a).2.1 ≠ (TX0 b).2.1 := by decide +kernel
theorem tyX0_ok : ∀ k, k < 5 → parseFieldDescriptor (TX0 k).2.2.1 = some (tyX0 k) := by decide +kernel
abbrev cX0_init : ByteArray := prog_2_method_1_code
def yX0_init : MethodName := ⟨RX0, "<init>", "()V"⟩
abbrev cX0_isOff : ByteArray := prog_2_method_2_code
def yX0_isOff : MethodName := ⟨RX0, "isOff", "()Z"⟩
abbrev cX0_hasCell : ByteArray := prog_2_method_3_code
def yX0_hasCell : MethodName := ⟨RX0, "hasCell", "(I)Z"⟩
abbrev cX0_renew : ByteArray := prog_2_method_4_code
def yX0_renew : MethodName := ⟨RX0, "renew", "(I)V"⟩
abbrev cX0_turnOff : ByteArray := prog_2_method_5_code
def yX0_turnOff : MethodName := ⟨RX0, "turnOff", "()V"⟩
abbrev cX0_refuseOff : ByteArray := prog_2_method_6_code
def yX0_refuseOff : MethodName := ⟨RX0, "refuseOff", "()I"⟩
abbrev cX0_refuseOut : ByteArray := prog_2_method_7_code
def yX0_refuseOut : MethodName := ⟨RX0, "refuseOut", "()I"⟩
abbrev cX0_layInto : ByteArray := prog_2_method_8_code
def yX0_layInto : MethodName := ⟨RX0, "layInto", "(II)I"⟩
def RX1 : String := "RollBench$Sheet"
def TX1 : u_T := fun k => match k with
  | 0 => ("RollBench$Sheet", "numbers", "[I", true)
  | 1 => ("RollBench$Sheet", "rows", "I", false)
  | _ => ("RollBench$Sheet", "columns", "I", false)
def tyX1 : Nat → FieldType := fun k => match k with
  | 0 => .array .int
  | 1 => .int
  | _ => .int
abbrev wsX10 : List Cond := u_ws RX1 TX1 3
theorem nmX1 : ∀ a, a < 3 → ∀ b, b < 3 → a ≠ b → (TX1 a).2.1 ≠ (TX1 b).2.1 := by decide +kernel
theorem tyX1_ok : ∀ k, k < 3 → parseFieldDescriptor (TX1 k).2.2.1 = some (tyX1 k) := by decide +kernel
abbrev cX1_init : ByteArray := prog_3_method_1_code
def yX1_init : MethodName := ⟨RX1, "<init>", "()V"⟩
abbrev cX1_isNone : ByteArray := prog_3_method_2_code
def yX1_isNone : MethodName := ⟨RX1, "isNone", "()Z"⟩
abbrev cX1_hasRow : ByteArray := prog_3_method_3_code
def yX1_hasRow : MethodName := ⟨RX1, "hasRow", "(I)Z"⟩
abbrev cX1_hasColumn : ByteArray := prog_3_method_4_code
def yX1_hasColumn : MethodName := ⟨RX1, "hasColumn", "(I)Z"⟩
abbrev cX1_numberIn : ByteArray := prog_3_method_5_code
def yX1_numberIn : MethodName := ⟨RX1, "numberIn", "(II)I"⟩
abbrev cX1_write : ByteArray := prog_3_method_6_code
def yX1_write : MethodName := ⟨RX1, "write", "(III)V"⟩
abbrev cX1_renew : ByteArray := prog_3_method_7_code
def yX1_renew : MethodName := ⟨RX1, "renew", "(II)V"⟩
abbrev cX1_placeOf : ByteArray := prog_3_method_8_code
def yX1_placeOf : MethodName := ⟨RX1, "placeOf", "(II)I"⟩
def RX2 : String := "RollBench"
def TX2 : u_T := fun k => match k with
  | 0 => ("RollBench", "lanes", "[LRollBench$Lane;", true)
  | 1 => ("RollBench", "head", "I", false)
  | 2 => ("RollBench", "clock", "I", false)
  | 3 => ("RollBench", "shift", "I", false)
  | 4 => ("RollBench", "mark", "I", false)
  | 5 => ("RollBench", "notes", "I", false)
  | 6 => ("RollBench", "sound", "I", false)
  | _ => ("RollBench", "blanks", "I", false)
def tyX2 : Nat → FieldType := fun k => match k with
  | 0 => .array (.object "RollBench$Lane")
  | 1 => .int
  | 2 => .int
  | 3 => .int
  | 4 => .int
  | 5 => .int
  | 6 => .int
  | _ => .int
abbrev wsX20 : List Cond := u_ws RX2 TX2 8
theorem nmX2 : ∀ a, a < 8 → ∀ b, b < 8 → a ≠ b → (TX2 a).2.1 ≠ (TX2 b).2.1 := by decide +kernel
theorem tyX2_ok : ∀ k, k < 8 → parseFieldDescriptor (TX2 k).2.2.1 = some (tyX2 k) := by decide +kernel
abbrev cX2_init : ByteArray := prog_1_method_1_code
def yX2_init : MethodName := ⟨RX2, "<init>", "()V"⟩
abbrev cX2_mount : ByteArray := prog_1_method_2_code
def yX2_mount : MethodName := ⟨RX2, "mount", "(II)I"⟩
abbrev cX2_strip : ByteArray := prog_1_method_3_code
def yX2_strip : MethodName := ⟨RX2, "strip", "(I)I"⟩
abbrev cX2_size : ByteArray := prog_1_method_4_code
def yX2_size : MethodName := ⟨RX2, "size", "(I)I"⟩
abbrev cX2_cell : ByteArray := prog_1_method_5_code
def yX2_cell : MethodName := ⟨RX2, "cell", "(II)I"⟩
abbrev cX2_put : ByteArray := prog_1_method_6_code
def yX2_put : MethodName := ⟨RX2, "put", "(III)I"⟩
abbrev cX2_change : ByteArray := prog_1_method_7_code
def yX2_change : MethodName := ⟨RX2, "change", "(IIII)I"⟩
abbrev cX2_rule : ByteArray := prog_1_method_8_code
def yX2_rule : MethodName := ⟨RX2, "rule", "(III)I"⟩
abbrev cX2_lay : ByteArray := prog_1_method_9_code
def yX2_lay : MethodName := ⟨RX2, "lay", "(III)I"⟩
abbrev cX2_at : ByteArray := prog_1_method_10_code
def yX2_at : MethodName := ⟨RX2, "at", "(III)I"⟩
abbrev cX2_head : ByteArray := prog_1_method_11_code
def yX2_head : MethodName := ⟨RX2, "head", "(I)I"⟩
abbrev cX2_play : ByteArray := prog_1_method_12_code
def yX2_play : MethodName := ⟨RX2, "play", "(I)I"⟩
abbrev cX2_count : ByteArray := prog_1_method_13_code
def yX2_count : MethodName := ⟨RX2, "count", "(I)I"⟩
abbrev cX2_isLane : ByteArray := prog_1_method_14_code
def yX2_isLane : MethodName := ⟨RX2, "isLane", "(I)Z"⟩
abbrev cX2_stored : ByteArray := prog_1_method_15_code
def yX2_stored : MethodName := ⟨RX2, "stored", "(IJ)I"⟩
abbrev cX2_changed : ByteArray := prog_1_method_16_code
def yX2_changed : MethodName := ⟨RX2, "changed", "(IIII)I"⟩
abbrev cX2_changedPedal : ByteArray := prog_1_method_17_code
def yX2_changedPedal : MethodName := ⟨RX2, "changedPedal", "(III)I"⟩
abbrev cX2_reckoned : ByteArray := prog_1_method_18_code
def yX2_reckoned : MethodName := ⟨RX2, "reckoned", "(IJJ)J"⟩
abbrev cX2_step : ByteArray := prog_1_method_19_code
def yX2_step : MethodName := ⟨RX2, "step", "(I)V"⟩
abbrev cX2_playNote : ByteArray := prog_1_method_20_code
def yX2_playNote : MethodName := ⟨RX2, "playNote", "()V"⟩
abbrev cX2_told : ByteArray := prog_1_method_21_code
def yX2_told : MethodName := ⟨RX2, "told", "(II)I"⟩
abbrev cX2_lowered : ByteArray := prog_1_method_22_code
def yX2_lowered : MethodName := ⟨RX2, "lowered", "(I)Z"⟩
def RX3 : String := "RollBenchModel"
def TX3 : u_T := fun k => match k with
  | 0 => ("RollBenchModel", "cells", "[I", true)
  | 1 => ("RollBenchModel", "sizes", "[I", true)
  | 2 => ("RollBenchModel", "isOn", "[Z", true)
  | 3 => ("RollBenchModel", "sheets", "[I", true)
  | 4 => ("RollBenchModel", "rows", "[I", true)
  | 5 => ("RollBenchModel", "columns", "[I", true)
  | 6 => ("RollBenchModel", "isRuled", "[Z", true)
  | 7 => ("RollBenchModel", "offs", "[I", true)
  | 8 => ("RollBenchModel", "outs", "[I", true)
  | 9 => ("RollBenchModel", "head", "I", false)
  | 10 => ("RollBenchModel", "clock", "I", false)
  | 11 => ("RollBenchModel", "shift", "I", false)
  | 12 => ("RollBenchModel", "mark", "I", false)
  | 13 => ("RollBenchModel", "notes", "I", false)
  | 14 => ("RollBenchModel", "sound", "I", false)
  | _ => ("RollBenchModel", "blanks", "I", false)
def tyX3 : Nat → FieldType := fun k => match k with
  | 0 => .array .int
  | 1 => .array .int
  | 2 => .array .boolean
  | 3 => .array .int
  | 4 => .array .int
  | 5 => .array .int
  | 6 => .array .boolean
  | 7 => .array .int
  | 8 => .array .int
  | 9 => .int
  | 10 => .int
  | 11 => .int
  | 12 => .int
  | 13 => .int
  | 14 => .int
  | _ => .int
abbrev wsX30 : List Cond := u_ws RX3 TX3 16
theorem nmX3 : ∀ a, a < 16 → ∀ b, b < 16 → a ≠ b → (TX3 a).2.1 ≠ (TX3 b).2.1 := by decide +kernel
theorem tyX3_ok : ∀ k, k < 16 → parseFieldDescriptor (TX3 k).2.2.1 = some (tyX3 k) := by decide +kernel
abbrev cX3_init : ByteArray := prog_5_method_1_code
def yX3_init : MethodName := ⟨RX3, "<init>", "()V"⟩
abbrev cX3_isLane : ByteArray := prog_5_method_2_code
def yX3_isLane : MethodName := ⟨RX3, "isLane", "(I)Z"⟩
abbrev cX3_off : ByteArray := prog_5_method_3_code
def yX3_off : MethodName := ⟨RX3, "off", "(I)I"⟩
abbrev cX3_out : ByteArray := prog_5_method_4_code
def yX3_out : MethodName := ⟨RX3, "out", "(I)I"⟩
abbrev cX3_stored : ByteArray := prog_5_method_5_code
def yX3_stored : MethodName := ⟨RX3, "stored", "(IJ)I"⟩
abbrev cX3_mount : ByteArray := prog_5_method_6_code
def yX3_mount : MethodName := ⟨RX3, "mount", "(II)I"⟩
abbrev cX3_strip : ByteArray := prog_5_method_7_code
def yX3_strip : MethodName := ⟨RX3, "strip", "(I)I"⟩
abbrev cX3_size : ByteArray := prog_5_method_8_code
def yX3_size : MethodName := ⟨RX3, "size", "(I)I"⟩
abbrev cX3_cell : ByteArray := prog_5_method_9_code
def yX3_cell : MethodName := ⟨RX3, "cell", "(II)I"⟩
abbrev cX3_put : ByteArray := prog_5_method_10_code
def yX3_put : MethodName := ⟨RX3, "put", "(III)I"⟩
abbrev cX3_pressed : ByteArray := prog_5_method_11_code
def yX3_pressed : MethodName := ⟨RX3, "pressed", "(III)I"⟩
abbrev cX3_change : ByteArray := prog_5_method_12_code
def yX3_change : MethodName := ⟨RX3, "change", "(IIII)I"⟩
abbrev cX3_rule : ByteArray := prog_5_method_13_code
def yX3_rule : MethodName := ⟨RX3, "rule", "(III)I"⟩
abbrev cX3_lay : ByteArray := prog_5_method_14_code
def yX3_lay : MethodName := ⟨RX3, "lay", "(III)I"⟩
abbrev cX3_at : ByteArray := prog_5_method_15_code
def yX3_at : MethodName := ⟨RX3, "at", "(III)I"⟩
abbrev cX3_head : ByteArray := prog_5_method_16_code
def yX3_head : MethodName := ⟨RX3, "head", "(I)I"⟩
abbrev cX3_has : ByteArray := prog_5_method_17_code
def yX3_has : MethodName := ⟨RX3, "has", "(I)Z"⟩
abbrev cX3_told : ByteArray := prog_5_method_18_code
def yX3_told : MethodName := ⟨RX3, "told", "(II)I"⟩
abbrev cX3_less : ByteArray := prog_5_method_19_code
def yX3_less : MethodName := ⟨RX3, "less", "(I)V"⟩
abbrev cX3_note : ByteArray := prog_5_method_20_code
def yX3_note : MethodName := ⟨RX3, "note", "()V"⟩
abbrev cX3_step : ByteArray := prog_5_method_21_code
def yX3_step : MethodName := ⟨RX3, "step", "()V"⟩
abbrev cX3_play : ByteArray := prog_5_method_22_code
def yX3_play : MethodName := ⟨RX3, "play", "(I)I"⟩
abbrev cX3_count : ByteArray := prog_5_method_23_code
def yX3_count : MethodName := ⟨RX3, "count", "(I)I"⟩
def RJ9 : String := "java/lang/Math"
def TJ9 : u_T := fun k => match k with
  | _ => ("", "", "", false)
def tyJ9 : Nat → FieldType := fun k => match k with
  | _ => .int
abbrev wsJ90 : List Cond := u_ws RJ9 TJ9 0
theorem nmJ9 : ∀ a, a < 0 → ∀ b, b < 0 → a ≠ b → (TJ9 a).2.1 ≠ (TJ9 b).2.1 := by decide +kernel
theorem tyJ9_ok : ∀ k, k < 0 → parseFieldDescriptor (TJ9 k).2.2.1 = some (tyJ9 k) := by decide +kernel
abbrev cJ9_max_f86c9 : ByteArray := prog_6_method_66_code
def yJ9_max_f86c9 : MethodName := ⟨RJ9, "max", "(JJ)J"⟩
abbrev cJ9_min_7cf53 : ByteArray := prog_6_method_69_code
def yJ9_min_7cf53 : MethodName := ⟨RJ9, "min", "(II)I"⟩
abbrev cJ9_min_f86c9 : ByteArray := prog_6_method_70_code
def yJ9_min_f86c9 : MethodName := ⟨RJ9, "min", "(JJ)J"⟩
def RL : String := "RollBenchLaw"
abbrev cL_law : ByteArray := code
def yL_law : MethodName := ⟨RL, "law", "([I)Z"⟩
def wsX1_init : List Cond := .code yX1_init cX1_init 1 none :: ([.methodLink RX1 3 objectInit, .instanceMethod objectInit, .code objectInit ⟨#[0xb1]⟩ 1 none, .arrayClass .int, .fieldLink RX1 9 "RollBench$Sheet" "numbers" "[I", .fieldLink RX1 15 "RollBench$Sheet" "rows" "I"] ++ wsX10)
def wsX0_init : List Cond := .code yX0_init cX0_init 1 none :: ([.methodLink RX0 3 objectInit, .instanceMethod objectInit, .code objectInit ⟨#[0xb1]⟩ 1 none, .arrayClass .int, .fieldLink RX0 9 "RollBench$Lane" "cells" "[I", .classLink RX0 15 RX1, .instantiable RX1 3, .initialized RX1, .fieldLink RX0 18 "RollBench$Lane" "sheet" "LRollBench$Sheet;", .fieldLink RX0 22 "RollBench$Lane" "length" "I", .methodLink RX0 17 yX1_init, .instanceMethod yX1_init, .code yX1_init cX1_init 1 none, .methodLink RX1 3 objectInit, .fieldLink RX1 9 "RollBench$Sheet" "numbers" "[I", .fieldLink RX1 15 "RollBench$Sheet" "rows" "I"] ++ wsX00 ++ wsX10)
def wsX0_isOff : List Cond := .code yX0_isOff cX0_isOff 1 (some .boolean) :: ([.fieldLink RX0 22 "RollBench$Lane" "length" "I"] ++ wsX00)
def wsX0_hasCell : List Cond := .code yX0_hasCell cX0_hasCell 2 (some .boolean) :: ([.fieldLink RX0 22 "RollBench$Lane" "length" "I"] ++ wsX00)
def wsX0_renew : List Cond := .code yX0_renew cX0_renew 3 none :: ([.fieldLink RX0 9 "RollBench$Lane" "cells" "[I", .fieldLink RX0 22 "RollBench$Lane" "length" "I"] ++ wsX00)
def wsX0_turnOff : List Cond := .code yX0_turnOff cX0_turnOff 1 none :: ([.fieldLink RX0 22 "RollBench$Lane" "length" "I"] ++ wsX00)
def wsX0_refuseOff : List Cond := .code yX0_refuseOff cX0_refuseOff 1 (some .int) :: ([.fieldLink RX0 26 "RollBench$Lane" "offRefusals" "I", .constant RX0 29 (-1000005)] ++ wsX00)
def wsX0_refuseOut : List Cond := .code yX0_refuseOut cX0_refuseOut 1 (some .int) :: ([.fieldLink RX0 30 "RollBench$Lane" "outRefusals" "I", .constant RX0 33 (-1000006)] ++ wsX00)
def wsX1_placeOf : List Cond := .code yX1_placeOf cX1_placeOf 2 (some .int) :: ([])
def wsX1_write : List Cond := .code yX1_write cX1_write 4 none :: ([.fieldLink RX1 9 "RollBench$Sheet" "numbers" "[I", .methodLink RX1 22 yX1_placeOf, .static yX1_placeOf, .initialized RX1, .code yX1_placeOf cX1_placeOf 2 (some .int)] ++ wsX10)
def wsX0_layInto : List Cond := .code yX0_layInto cX0_layInto 5 (some .int) :: ([.fieldLink RX0 22 "RollBench$Lane" "length" "I", .fieldLink RX0 18 "RollBench$Lane" "sheet" "LRollBench$Sheet;", .fieldLink RX0 34 "RollBench$Sheet" "columns" "I", .methodLink RX0 37 Lib.Math.min.name, .static Lib.Math.min.name, .initialized "java/lang/Math", .code Lib.Math.min.name Lib.Math.min.code 2 (some .int), .fieldLink RX0 9 "RollBench$Lane" "cells" "[I", .methodLink RX0 43 yX1_write, .instanceMethod yX1_write, .selects RX1 yX1_write yX1_write, .initialized RX1, .code yX1_write cX1_write 4 none, .fieldLink RX1 9 "RollBench$Sheet" "numbers" "[I", .methodLink RX1 22 yX1_placeOf, .static yX1_placeOf, .code yX1_placeOf cX1_placeOf 2 (some .int)] ++ wsX00 ++ wsX10)
def wsX1_isNone : List Cond := .code yX1_isNone cX1_isNone 1 (some .boolean) :: ([.fieldLink RX1 15 "RollBench$Sheet" "rows" "I"] ++ wsX10)
def wsX1_hasRow : List Cond := .code yX1_hasRow cX1_hasRow 2 (some .boolean) :: ([.fieldLink RX1 15 "RollBench$Sheet" "rows" "I"] ++ wsX10)
def wsX1_hasColumn : List Cond := .code yX1_hasColumn cX1_hasColumn 2 (some .boolean) :: ([.fieldLink RX1 19 "RollBench$Sheet" "columns" "I"] ++ wsX10)
def wsX1_numberIn : List Cond := .code yX1_numberIn cX1_numberIn 3 (some .int) :: ([.fieldLink RX1 9 "RollBench$Sheet" "numbers" "[I", .methodLink RX1 22 yX1_placeOf, .static yX1_placeOf, .initialized RX1, .code yX1_placeOf cX1_placeOf 2 (some .int)] ++ wsX10)
def wsX1_renew : List Cond := .code yX1_renew cX1_renew 4 none :: ([.fieldLink RX1 9 "RollBench$Sheet" "numbers" "[I", .fieldLink RX1 15 "RollBench$Sheet" "rows" "I", .fieldLink RX1 19 "RollBench$Sheet" "columns" "I"] ++ wsX10)
def wsX2_init : List Cond := .code yX2_init cX2_init 2 none :: ([.methodLink RX2 1 objectInit, .instanceMethod objectInit, .code objectInit ⟨#[0xb1]⟩ 1 none, .classLink RX2 9 RX0, .fieldLink RX2 11 "RollBench" "lanes" "[LRollBench$Lane;", .instantiable RX0 5, .initialized RX0, .methodLink RX2 15 yX0_init, .instanceMethod yX0_init, .code yX0_init cX0_init 1 none, .methodLink RX0 3 objectInit, .arrayClass .int, .fieldLink RX0 9 "RollBench$Lane" "cells" "[I", .classLink RX0 15 RX1, .instantiable RX1 3, .initialized RX1, .fieldLink RX0 18 "RollBench$Lane" "sheet" "LRollBench$Sheet;", .fieldLink RX0 22 "RollBench$Lane" "length" "I", .methodLink RX0 17 yX1_init, .instanceMethod yX1_init, .code yX1_init cX1_init 1 none, .methodLink RX1 3 objectInit, .fieldLink RX1 9 "RollBench$Sheet" "numbers" "[I", .fieldLink RX1 15 "RollBench$Sheet" "rows" "I"] ++ wsX20 ++ wsX00 ++ wsX10)
def wsX2_isLane : List Cond := .code yX2_isLane cX2_isLane 1 (some .boolean) :: ([])
def wsX2_mount : List Cond := .code yX2_mount cX2_mount 3 (some .int) :: ([.constant RX2 20 (-1000001), .constant RX2 21 (-1000003), .constant RX2 22 (-1000004), .fieldLink RX2 11 "RollBench" "lanes" "[LRollBench$Lane;", .methodLink RX2 16 yX2_isLane, .static yX2_isLane, .initialized RX2, .code yX2_isLane cX2_isLane 1 (some .boolean), .methodLink RX2 23 yX0_renew, .instanceMethod yX0_renew, .selects RX0 yX0_renew yX0_renew, .initialized RX0, .code yX0_renew cX0_renew 3 none, .fieldLink RX0 9 "RollBench$Lane" "cells" "[I", .fieldLink RX0 22 "RollBench$Lane" "length" "I"] ++ wsX20 ++ wsX00)
def wsX2_strip : List Cond := .code yX2_strip cX2_strip 4 (some .int) :: ([.constant RX2 20 (-1000001), .fieldLink RX2 11 "RollBench" "lanes" "[LRollBench$Lane;", .fieldLink RX2 35 "RollBench$Lane" "length" "I", .methodLink RX2 16 yX2_isLane, .static yX2_isLane, .initialized RX2, .code yX2_isLane cX2_isLane 1 (some .boolean), .methodLink RX2 27 yX0_isOff, .instanceMethod yX0_isOff, .selects RX0 yX0_isOff yX0_isOff, .initialized RX0, .code yX0_isOff cX0_isOff 1 (some .boolean), .fieldLink RX0 22 "RollBench$Lane" "length" "I", .methodLink RX2 31 yX0_refuseOff, .instanceMethod yX0_refuseOff, .selects RX0 yX0_refuseOff yX0_refuseOff, .code yX0_refuseOff cX0_refuseOff 1 (some .int), .fieldLink RX0 26 "RollBench$Lane" "offRefusals" "I", .constant RX0 29 (-1000005), .methodLink RX2 39 yX0_turnOff, .instanceMethod yX0_turnOff, .selects RX0 yX0_turnOff yX0_turnOff, .code yX0_turnOff cX0_turnOff 1 none] ++ wsX20 ++ wsX00)
def wsX2_size : List Cond := .code yX2_size cX2_size 3 (some .int) :: ([.constant RX2 20 (-1000001), .fieldLink RX2 11 "RollBench" "lanes" "[LRollBench$Lane;", .fieldLink RX2 35 "RollBench$Lane" "length" "I", .methodLink RX2 16 yX2_isLane, .static yX2_isLane, .initialized RX2, .code yX2_isLane cX2_isLane 1 (some .boolean), .methodLink RX2 27 yX0_isOff, .instanceMethod yX0_isOff, .selects RX0 yX0_isOff yX0_isOff, .initialized RX0, .code yX0_isOff cX0_isOff 1 (some .boolean), .fieldLink RX0 22 "RollBench$Lane" "length" "I", .methodLink RX2 31 yX0_refuseOff, .instanceMethod yX0_refuseOff, .selects RX0 yX0_refuseOff yX0_refuseOff, .code yX0_refuseOff cX0_refuseOff 1 (some .int), .fieldLink RX0 26 "RollBench$Lane" "offRefusals" "I", .constant RX0 29 (-1000005)] ++ wsX20 ++ wsX00)
def wsX2_cell_r1 : List Cond := [Cond.constant RX2 20 (-1000001), Cond.fieldLink RX2 11 "RollBench" "lanes" "[LRollBench$Lane;", Cond.fieldLink RX2 48 "RollBench$Lane" "cells" "[I", Cond.methodLink RX2 16 yX2_isLane, Cond.static yX2_isLane, Cond.initialized RX2, Cond.code yX2_isLane cX2_isLane 1 (some .boolean), Cond.methodLink RX2 27 yX0_isOff, Cond.instanceMethod yX0_isOff, Cond.selects RX0 yX0_isOff yX0_isOff, Cond.initialized RX0, Cond.code yX0_isOff cX0_isOff 1 (some .boolean), Cond.fieldLink RX0 22 "RollBench$Lane" "length" "I", Cond.methodLink RX2 31 yX0_refuseOff, Cond.instanceMethod yX0_refuseOff, Cond.selects RX0 yX0_refuseOff yX0_refuseOff, Cond.code yX0_refuseOff cX0_refuseOff 1 (some .int), Cond.fieldLink RX0 26 "RollBench$Lane" "offRefusals" "I", Cond.constant RX0 29 (-1000005), Cond.methodLink RX2 42 yX0_hasCell, Cond.instanceMethod yX0_hasCell, Cond.selects RX0 yX0_hasCell yX0_hasCell, Cond.code yX0_hasCell cX0_hasCell 2 (some .boolean), Cond.methodLink RX2 45 yX0_refuseOut]
def wsX2_cell_r2 : List Cond := [Cond.instanceMethod yX0_refuseOut, Cond.selects RX0 yX0_refuseOut yX0_refuseOut, Cond.code yX0_refuseOut cX0_refuseOut 1 (some .int), Cond.fieldLink RX0 30 "RollBench$Lane" "outRefusals" "I", Cond.constant RX0 33 (-1000006)]
def wsX2_cell : List Cond := .code yX2_cell cX2_cell 4 (some .int) :: ((wsX2_cell_r1 ++ wsX2_cell_r2) ++ wsX20 ++ wsX00)
def wsX2_stored : List Cond := .code yX2_stored cX2_stored 3 (some .int) :: ([.constantLong RX2 119 (65535), .constantLong RX2 121 (-8000), .constantLong RX2 123 (8000), .methodLink RX2 125 Lib.MathLoose.min_long.x, .static Lib.MathLoose.min_long.x, .initialized "java/lang/Math", .code Lib.MathLoose.min_long.x Lib.MathLoose.min_long.code 4 (some .long), .methodLink RX2 131 Lib.MathLoose.max_long.x, .static Lib.MathLoose.max_long.x, .code Lib.MathLoose.max_long.x Lib.MathLoose.max_long.code 4 (some .long)])
def wsX2_put_r1 : List Cond := [Cond.constant RX2 20 (-1000001), Cond.fieldLink RX2 11 "RollBench" "lanes" "[LRollBench$Lane;", Cond.fieldLink RX2 48 "RollBench$Lane" "cells" "[I", Cond.methodLink RX2 16 yX2_isLane, Cond.static yX2_isLane, Cond.initialized RX2, Cond.code yX2_isLane cX2_isLane 1 (some .boolean), Cond.methodLink RX2 27 yX0_isOff, Cond.instanceMethod yX0_isOff, Cond.selects RX0 yX0_isOff yX0_isOff, Cond.initialized RX0, Cond.code yX0_isOff cX0_isOff 1 (some .boolean), Cond.fieldLink RX0 22 "RollBench$Lane" "length" "I", Cond.methodLink RX2 31 yX0_refuseOff, Cond.instanceMethod yX0_refuseOff, Cond.selects RX0 yX0_refuseOff yX0_refuseOff, Cond.code yX0_refuseOff cX0_refuseOff 1 (some .int), Cond.fieldLink RX0 26 "RollBench$Lane" "offRefusals" "I", Cond.constant RX0 29 (-1000005), Cond.methodLink RX2 42 yX0_hasCell, Cond.instanceMethod yX0_hasCell, Cond.selects RX0 yX0_hasCell yX0_hasCell, Cond.code yX0_hasCell cX0_hasCell 2 (some .boolean), Cond.methodLink RX2 45 yX0_refuseOut]
def wsX2_put_r2 : List Cond := [Cond.instanceMethod yX0_refuseOut, Cond.selects RX0 yX0_refuseOut yX0_refuseOut, Cond.code yX0_refuseOut cX0_refuseOut 1 (some .int), Cond.fieldLink RX0 30 "RollBench$Lane" "outRefusals" "I", Cond.constant RX0 33 (-1000006), Cond.methodLink RX2 52 yX2_stored, Cond.static yX2_stored, Cond.code yX2_stored cX2_stored 3 (some .int), Cond.constantLong RX2 119 (65535), Cond.constantLong RX2 121 (-8000), Cond.constantLong RX2 123 (8000), Cond.methodLink RX2 125 Lib.MathLoose.min_long.x, Cond.static Lib.MathLoose.min_long.x, Cond.initialized "java/lang/Math", Cond.code Lib.MathLoose.min_long.x Lib.MathLoose.min_long.code 4 (some .long), Cond.methodLink RX2 131 Lib.MathLoose.max_long.x, Cond.static Lib.MathLoose.max_long.x, Cond.code Lib.MathLoose.max_long.x Lib.MathLoose.max_long.code 4 (some .long)]
def wsX2_put : List Cond := .code yX2_put cX2_put 5 (some .int) :: ((wsX2_put_r1 ++ wsX2_put_r2) ++ wsX20 ++ wsX00)
def wsX2_changedPedal : List Cond := .code yX2_changedPedal cX2_changedPedal 3 (some .int) :: ([])
def wsX2_reckoned : List Cond := .code yX2_reckoned cX2_reckoned 5 (some .long) :: ([])
def wsX2_changed : List Cond := .code yX2_changed cX2_changed 4 (some .int) :: ([.methodLink RX2 134 yX2_changedPedal, .static yX2_changedPedal, .initialized RX2, .code yX2_changedPedal cX2_changedPedal 3 (some .int), .methodLink RX2 138 yX2_reckoned, .static yX2_reckoned, .code yX2_reckoned cX2_reckoned 5 (some .long), .methodLink RX2 52 yX2_stored, .static yX2_stored, .code yX2_stored cX2_stored 3 (some .int), .constantLong RX2 119 (65535), .constantLong RX2 121 (-8000), .constantLong RX2 123 (8000), .methodLink RX2 125 Lib.MathLoose.min_long.x, .static Lib.MathLoose.min_long.x, .initialized "java/lang/Math", .code Lib.MathLoose.min_long.x Lib.MathLoose.min_long.code 4 (some .long), .methodLink RX2 131 Lib.MathLoose.max_long.x, .static Lib.MathLoose.max_long.x, .code Lib.MathLoose.max_long.x Lib.MathLoose.max_long.code 4 (some .long)])
def wsX2_change_r1 : List Cond := [Cond.constant RX2 20 (-1000001), Cond.constant RX2 56 (-1000002), Cond.fieldLink RX2 11 "RollBench" "lanes" "[LRollBench$Lane;", Cond.fieldLink RX2 48 "RollBench$Lane" "cells" "[I", Cond.methodLink RX2 16 yX2_isLane, Cond.static yX2_isLane, Cond.initialized RX2, Cond.code yX2_isLane cX2_isLane 1 (some .boolean), Cond.methodLink RX2 27 yX0_isOff, Cond.instanceMethod yX0_isOff, Cond.selects RX0 yX0_isOff yX0_isOff, Cond.initialized RX0, Cond.code yX0_isOff cX0_isOff 1 (some .boolean), Cond.fieldLink RX0 22 "RollBench$Lane" "length" "I", Cond.methodLink RX2 31 yX0_refuseOff, Cond.instanceMethod yX0_refuseOff, Cond.selects RX0 yX0_refuseOff yX0_refuseOff, Cond.code yX0_refuseOff cX0_refuseOff 1 (some .int), Cond.fieldLink RX0 26 "RollBench$Lane" "offRefusals" "I", Cond.constant RX0 29 (-1000005), Cond.methodLink RX2 42 yX0_hasCell, Cond.instanceMethod yX0_hasCell, Cond.selects RX0 yX0_hasCell yX0_hasCell, Cond.code yX0_hasCell cX0_hasCell 2 (some .boolean)]
def wsX2_change_r2 : List Cond := [Cond.methodLink RX2 45 yX0_refuseOut, Cond.instanceMethod yX0_refuseOut, Cond.selects RX0 yX0_refuseOut yX0_refuseOut, Cond.code yX0_refuseOut cX0_refuseOut 1 (some .int), Cond.fieldLink RX0 30 "RollBench$Lane" "outRefusals" "I", Cond.constant RX0 33 (-1000006), Cond.methodLink RX2 57 yX2_changed, Cond.static yX2_changed, Cond.code yX2_changed cX2_changed 4 (some .int), Cond.methodLink RX2 134 yX2_changedPedal, Cond.static yX2_changedPedal, Cond.code yX2_changedPedal cX2_changedPedal 3 (some .int), Cond.methodLink RX2 138 yX2_reckoned, Cond.static yX2_reckoned, Cond.code yX2_reckoned cX2_reckoned 5 (some .long), Cond.methodLink RX2 52 yX2_stored, Cond.static yX2_stored, Cond.code yX2_stored cX2_stored 3 (some .int), Cond.constantLong RX2 119 (65535), Cond.constantLong RX2 121 (-8000), Cond.constantLong RX2 123 (8000), Cond.methodLink RX2 125 Lib.MathLoose.min_long.x, Cond.static Lib.MathLoose.min_long.x, Cond.initialized "java/lang/Math"]
def wsX2_change_r3 : List Cond := [Cond.code Lib.MathLoose.min_long.x Lib.MathLoose.min_long.code 4 (some .long), Cond.methodLink RX2 131 Lib.MathLoose.max_long.x, Cond.static Lib.MathLoose.max_long.x, Cond.code Lib.MathLoose.max_long.x Lib.MathLoose.max_long.code 4 (some .long)]
def wsX2_change : List Cond := .code yX2_change cX2_change 6 (some .int) :: ((wsX2_change_r1 ++ (wsX2_change_r2 ++ wsX2_change_r3)) ++ wsX20 ++ wsX00)
def wsX2_rule : List Cond := .code yX2_rule cX2_rule 4 (some .int) :: ([.constant RX2 20 (-1000001), .constant RX2 21 (-1000003), .constant RX2 22 (-1000004), .fieldLink RX2 11 "RollBench" "lanes" "[LRollBench$Lane;", .fieldLink RX2 61 "RollBench$Lane" "sheet" "LRollBench$Sheet;", .methodLink RX2 16 yX2_isLane, .static yX2_isLane, .initialized RX2, .code yX2_isLane cX2_isLane 1 (some .boolean), .methodLink RX2 65 yX1_renew, .instanceMethod yX1_renew, .selects RX1 yX1_renew yX1_renew, .initialized RX1, .code yX1_renew cX1_renew 4 none, .fieldLink RX1 9 "RollBench$Sheet" "numbers" "[I", .fieldLink RX1 15 "RollBench$Sheet" "rows" "I", .fieldLink RX1 19 "RollBench$Sheet" "columns" "I"] ++ wsX20 ++ wsX00 ++ wsX10)
def wsX2_lay_r1 : List Cond := [Cond.constant RX2 20 (-1000001), Cond.fieldLink RX2 11 "RollBench" "lanes" "[LRollBench$Lane;", Cond.fieldLink RX2 61 "RollBench$Lane" "sheet" "LRollBench$Sheet;", Cond.constant RX2 73 (-1000007), Cond.constant RX2 77 (-1000008), Cond.fieldLink RX2 35 "RollBench$Lane" "length" "I", Cond.methodLink RX2 16 yX2_isLane, Cond.static yX2_isLane, Cond.initialized RX2, Cond.code yX2_isLane cX2_isLane 1 (some .boolean), Cond.methodLink RX2 70 yX1_isNone, Cond.instanceMethod yX1_isNone, Cond.selects RX1 yX1_isNone yX1_isNone, Cond.initialized RX1, Cond.code yX1_isNone cX1_isNone 1 (some .boolean), Cond.fieldLink RX1 15 "RollBench$Sheet" "rows" "I", Cond.methodLink RX2 74 yX1_hasRow, Cond.instanceMethod yX1_hasRow, Cond.selects RX1 yX1_hasRow yX1_hasRow, Cond.code yX1_hasRow cX1_hasRow 2 (some .boolean), Cond.methodLink RX2 27 yX0_isOff, Cond.instanceMethod yX0_isOff, Cond.selects RX0 yX0_isOff yX0_isOff, Cond.initialized RX0]
def wsX2_lay_r2 : List Cond := [Cond.code yX0_isOff cX0_isOff 1 (some .boolean), Cond.fieldLink RX0 22 "RollBench$Lane" "length" "I", Cond.methodLink RX2 31 yX0_refuseOff, Cond.instanceMethod yX0_refuseOff, Cond.selects RX0 yX0_refuseOff yX0_refuseOff, Cond.code yX0_refuseOff cX0_refuseOff 1 (some .int), Cond.fieldLink RX0 26 "RollBench$Lane" "offRefusals" "I", Cond.constant RX0 29 (-1000005), Cond.methodLink RX2 45 yX0_refuseOut, Cond.instanceMethod yX0_refuseOut, Cond.selects RX0 yX0_refuseOut yX0_refuseOut, Cond.code yX0_refuseOut cX0_refuseOut 1 (some .int), Cond.fieldLink RX0 30 "RollBench$Lane" "outRefusals" "I", Cond.constant RX0 33 (-1000006), Cond.methodLink RX2 78 yX0_layInto, Cond.instanceMethod yX0_layInto, Cond.selects RX0 yX0_layInto yX0_layInto, Cond.code yX0_layInto cX0_layInto 5 (some .int), Cond.fieldLink RX0 18 "RollBench$Lane" "sheet" "LRollBench$Sheet;", Cond.fieldLink RX0 34 "RollBench$Sheet" "columns" "I", Cond.methodLink RX0 37 Lib.Math.min.name, Cond.static Lib.Math.min.name, Cond.initialized "java/lang/Math", Cond.code Lib.Math.min.name Lib.Math.min.code 2 (some .int)]
def wsX2_lay_r3 : List Cond := [Cond.fieldLink RX0 9 "RollBench$Lane" "cells" "[I", Cond.methodLink RX0 43 yX1_write, Cond.instanceMethod yX1_write, Cond.selects RX1 yX1_write yX1_write, Cond.code yX1_write cX1_write 4 none, Cond.fieldLink RX1 9 "RollBench$Sheet" "numbers" "[I", Cond.methodLink RX1 22 yX1_placeOf, Cond.static yX1_placeOf, Cond.code yX1_placeOf cX1_placeOf 2 (some .int)]
def wsX2_lay : List Cond := .code yX2_lay cX2_lay 5 (some .int) :: ((wsX2_lay_r1 ++ (wsX2_lay_r2 ++ wsX2_lay_r3)) ++ wsX20 ++ wsX00 ++ wsX10)
def wsX2_at_r1 : List Cond := [Cond.constant RX2 20 (-1000001), Cond.fieldLink RX2 11 "RollBench" "lanes" "[LRollBench$Lane;", Cond.fieldLink RX2 61 "RollBench$Lane" "sheet" "LRollBench$Sheet;", Cond.constant RX2 73 (-1000007), Cond.constant RX2 77 (-1000008), Cond.constant RX2 85 (-1000009), Cond.methodLink RX2 16 yX2_isLane, Cond.static yX2_isLane, Cond.initialized RX2, Cond.code yX2_isLane cX2_isLane 1 (some .boolean), Cond.methodLink RX2 70 yX1_isNone, Cond.instanceMethod yX1_isNone, Cond.selects RX1 yX1_isNone yX1_isNone, Cond.initialized RX1, Cond.code yX1_isNone cX1_isNone 1 (some .boolean), Cond.fieldLink RX1 15 "RollBench$Sheet" "rows" "I", Cond.methodLink RX2 74 yX1_hasRow, Cond.instanceMethod yX1_hasRow, Cond.selects RX1 yX1_hasRow yX1_hasRow, Cond.code yX1_hasRow cX1_hasRow 2 (some .boolean), Cond.methodLink RX2 82 yX1_hasColumn, Cond.instanceMethod yX1_hasColumn, Cond.selects RX1 yX1_hasColumn yX1_hasColumn, Cond.code yX1_hasColumn cX1_hasColumn 2 (some .boolean)]
def wsX2_at_r2 : List Cond := [Cond.fieldLink RX1 19 "RollBench$Sheet" "columns" "I", Cond.methodLink RX2 86 yX1_numberIn, Cond.instanceMethod yX1_numberIn, Cond.selects RX1 yX1_numberIn yX1_numberIn, Cond.code yX1_numberIn cX1_numberIn 3 (some .int), Cond.fieldLink RX1 9 "RollBench$Sheet" "numbers" "[I", Cond.methodLink RX1 22 yX1_placeOf, Cond.static yX1_placeOf, Cond.code yX1_placeOf cX1_placeOf 2 (some .int)]
def wsX2_at : List Cond := .code yX2_at cX2_at 5 (some .int) :: ((wsX2_at_r1 ++ wsX2_at_r2) ++ wsX20 ++ wsX00 ++ wsX10)
def wsX2_head : List Cond := .code yX2_head cX2_head 3 (some .int) :: ([.constant RX2 21 (-1000003), .constant RX2 22 (-1000004), .fieldLink RX2 89 "RollBench" "head" "I"] ++ wsX20)
def wsX2_told : List Cond := .code yX2_told cX2_told 4 (some .int) :: ([.fieldLink RX2 11 "RollBench" "lanes" "[LRollBench$Lane;", .fieldLink RX2 89 "RollBench" "head" "I", .fieldLink RX2 48 "RollBench$Lane" "cells" "[I", .methodLink RX2 42 yX0_hasCell, .instanceMethod yX0_hasCell, .selects RX0 yX0_hasCell yX0_hasCell, .initialized RX0, .code yX0_hasCell cX0_hasCell 2 (some .boolean), .fieldLink RX0 22 "RollBench$Lane" "length" "I"] ++ wsX20 ++ wsX00)
def wsX2_playNote : List Cond := .code yX2_playNote cX2_playNote 2 none :: ([.fieldLink RX2 101 "RollBench" "clock" "I", .fieldLink RX2 110 "RollBench" "notes" "I", .fieldLink RX2 113 "RollBench" "sound" "I", .fieldLink RX2 104 "RollBench" "shift" "I", .methodLink RX2 142 yX2_told, .instanceMethod yX2_told, .selects RX2 yX2_told yX2_told, .initialized RX2, .code yX2_told cX2_told 4 (some .int), .fieldLink RX2 11 "RollBench" "lanes" "[LRollBench$Lane;", .fieldLink RX2 89 "RollBench" "head" "I", .fieldLink RX2 48 "RollBench$Lane" "cells" "[I", .methodLink RX2 42 yX0_hasCell, .instanceMethod yX0_hasCell, .selects RX0 yX0_hasCell yX0_hasCell, .initialized RX0, .code yX0_hasCell cX0_hasCell 2 (some .boolean), .fieldLink RX0 22 "RollBench$Lane" "length" "I"] ++ wsX20 ++ wsX00)
def wsX2_lowered : List Cond := .code yX2_lowered cX2_lowered 3 (some .boolean) :: ([.fieldLink RX2 11 "RollBench" "lanes" "[LRollBench$Lane;", .fieldLink RX2 89 "RollBench" "head" "I", .fieldLink RX2 48 "RollBench$Lane" "cells" "[I", .methodLink RX2 42 yX0_hasCell, .instanceMethod yX0_hasCell, .selects RX0 yX0_hasCell yX0_hasCell, .initialized RX0, .code yX0_hasCell cX0_hasCell 2 (some .boolean), .fieldLink RX0 22 "RollBench$Lane" "length" "I"] ++ wsX20 ++ wsX00)
def wsX2_step_r1 : List Cond := [Cond.fieldLink RX2 101 "RollBench" "clock" "I", Cond.fieldLink RX2 104 "RollBench" "shift" "I", Cond.fieldLink RX2 89 "RollBench" "head" "I", Cond.fieldLink RX2 107 "RollBench" "mark" "I", Cond.fieldLink RX2 116 "RollBench" "blanks" "I", Cond.methodLink RX2 142 yX2_told, Cond.instanceMethod yX2_told, Cond.selects RX2 yX2_told yX2_told, Cond.initialized RX2, Cond.code yX2_told cX2_told 4 (some .int), Cond.fieldLink RX2 11 "RollBench" "lanes" "[LRollBench$Lane;", Cond.fieldLink RX2 48 "RollBench$Lane" "cells" "[I", Cond.methodLink RX2 42 yX0_hasCell, Cond.instanceMethod yX0_hasCell, Cond.selects RX0 yX0_hasCell yX0_hasCell, Cond.initialized RX0, Cond.code yX0_hasCell cX0_hasCell 2 (some .boolean), Cond.fieldLink RX0 22 "RollBench$Lane" "length" "I", Cond.methodLink RX2 145 yX2_playNote, Cond.instanceMethod yX2_playNote, Cond.selects RX2 yX2_playNote yX2_playNote, Cond.code yX2_playNote cX2_playNote 2 none, Cond.fieldLink RX2 110 "RollBench" "notes" "I", Cond.fieldLink RX2 113 "RollBench" "sound" "I"]
def wsX2_step_r2 : List Cond := [Cond.methodLink RX2 148 yX2_lowered, Cond.instanceMethod yX2_lowered, Cond.selects RX2 yX2_lowered yX2_lowered, Cond.code yX2_lowered cX2_lowered 3 (some .boolean)]
def wsX2_step : List Cond := .code yX2_step cX2_step 2 none :: ((wsX2_step_r1 ++ wsX2_step_r2) ++ wsX20 ++ wsX00)
def wsX2_play_r1 : List Cond := [Cond.constant RX2 22 (-1000004), Cond.constant RX2 21 (-1000003), Cond.fieldLink RX2 11 "RollBench" "lanes" "[LRollBench$Lane;", Cond.fieldLink RX2 89 "RollBench" "head" "I", Cond.fieldLink RX2 48 "RollBench$Lane" "cells" "[I", Cond.methodLink RX2 42 yX0_hasCell, Cond.instanceMethod yX0_hasCell, Cond.selects RX0 yX0_hasCell yX0_hasCell, Cond.initialized RX0, Cond.code yX0_hasCell cX0_hasCell 2 (some .boolean), Cond.fieldLink RX0 22 "RollBench$Lane" "length" "I", Cond.methodLink RX2 92 yX2_step, Cond.instanceMethod yX2_step, Cond.selects RX2 yX2_step yX2_step, Cond.initialized RX2, Cond.code yX2_step cX2_step 2 none, Cond.fieldLink RX2 101 "RollBench" "clock" "I", Cond.fieldLink RX2 104 "RollBench" "shift" "I", Cond.fieldLink RX2 107 "RollBench" "mark" "I", Cond.fieldLink RX2 116 "RollBench" "blanks" "I", Cond.methodLink RX2 142 yX2_told, Cond.instanceMethod yX2_told, Cond.selects RX2 yX2_told yX2_told, Cond.code yX2_told cX2_told 4 (some .int)]
def wsX2_play_r2 : List Cond := [Cond.methodLink RX2 145 yX2_playNote, Cond.instanceMethod yX2_playNote, Cond.selects RX2 yX2_playNote yX2_playNote, Cond.code yX2_playNote cX2_playNote 2 none, Cond.fieldLink RX2 110 "RollBench" "notes" "I", Cond.fieldLink RX2 113 "RollBench" "sound" "I", Cond.methodLink RX2 148 yX2_lowered, Cond.instanceMethod yX2_lowered, Cond.selects RX2 yX2_lowered yX2_lowered, Cond.code yX2_lowered cX2_lowered 3 (some .boolean)]
def wsX2_play : List Cond := .code yX2_play cX2_play 4 (some .int) :: ((wsX2_play_r1 ++ wsX2_play_r2) ++ wsX20 ++ wsX00)
def wsX2_count : List Cond := .code yX2_count cX2_count 2 (some .int) :: ([.fieldLink RX2 11 "RollBench" "lanes" "[LRollBench$Lane;", .fieldLink RX2 95 "RollBench$Lane" "offRefusals" "I", .fieldLink RX2 98 "RollBench$Lane" "outRefusals" "I", .fieldLink RX2 89 "RollBench" "head" "I", .fieldLink RX2 101 "RollBench" "clock" "I", .fieldLink RX2 104 "RollBench" "shift" "I", .fieldLink RX2 107 "RollBench" "mark" "I", .fieldLink RX2 110 "RollBench" "notes" "I", .fieldLink RX2 113 "RollBench" "sound" "I", .fieldLink RX2 116 "RollBench" "blanks" "I", .methodLink RX2 16 yX2_isLane, .static yX2_isLane, .initialized RX2, .code yX2_isLane cX2_isLane 1 (some .boolean)] ++ wsX20 ++ wsX00)
def wsX3_init : List Cond := .code yX3_init cX3_init 1 none :: ([.methodLink RX3 1 objectInit, .instanceMethod objectInit, .code objectInit ⟨#[0xb1]⟩ 1 none, .arrayClass .int, .fieldLink RX3 7 "RollBenchModel" "cells" "[I", .fieldLink RX3 13 "RollBenchModel" "sizes" "[I", .arrayClass .boolean, .fieldLink RX3 16 "RollBenchModel" "isOn" "[Z", .fieldLink RX3 20 "RollBenchModel" "sheets" "[I", .fieldLink RX3 23 "RollBenchModel" "rows" "[I", .fieldLink RX3 26 "RollBenchModel" "columns" "[I", .fieldLink RX3 29 "RollBenchModel" "isRuled" "[Z", .fieldLink RX3 32 "RollBenchModel" "offs" "[I", .fieldLink RX3 35 "RollBenchModel" "outs" "[I"] ++ wsX30)
def wsX3_isLane : List Cond := .code yX3_isLane cX3_isLane 1 (some .boolean) :: ([])
def wsX3_off : List Cond := .code yX3_off cX3_off 2 (some .int) :: ([.fieldLink RX3 32 "RollBenchModel" "offs" "[I", .constant RX3 38 (-1000005)] ++ wsX30)
def wsX3_out : List Cond := .code yX3_out cX3_out 2 (some .int) :: ([.fieldLink RX3 35 "RollBenchModel" "outs" "[I", .constant RX3 39 (-1000006)] ++ wsX30)
def wsX3_stored : List Cond := .code yX3_stored cX3_stored 5 (some .int) :: ([.constantLong RX3 40 (-8000), .constantLong RX3 42 (8000), .constantLong RX3 44 (65535), .constant RX3 46 (32768), .constant RX3 47 (65536)])
def wsX3_mount : List Cond := .code yX3_mount cX3_mount 4 (some .int) :: ([.constant RX3 52 (-1000001), .constant RX3 53 (-1000003), .constant RX3 54 (-1000004), .fieldLink RX3 16 "RollBenchModel" "isOn" "[Z", .fieldLink RX3 13 "RollBenchModel" "sizes" "[I", .fieldLink RX3 7 "RollBenchModel" "cells" "[I", .methodLink RX3 48 yX3_isLane, .static yX3_isLane, .initialized RX3, .code yX3_isLane cX3_isLane 1 (some .boolean)] ++ wsX30)
def wsX3_strip : List Cond := .code yX3_strip cX3_strip 2 (some .int) :: ([.constant RX3 52 (-1000001), .fieldLink RX3 16 "RollBenchModel" "isOn" "[Z", .fieldLink RX3 13 "RollBenchModel" "sizes" "[I", .methodLink RX3 48 yX3_isLane, .static yX3_isLane, .initialized RX3, .code yX3_isLane cX3_isLane 1 (some .boolean), .methodLink RX3 55 yX3_off, .instanceMethod yX3_off, .selects RX3 yX3_off yX3_off, .code yX3_off cX3_off 2 (some .int), .fieldLink RX3 32 "RollBenchModel" "offs" "[I", .constant RX3 38 (-1000005)] ++ wsX30)
def wsX3_size : List Cond := .code yX3_size cX3_size 2 (some .int) :: ([.constant RX3 52 (-1000001), .fieldLink RX3 16 "RollBenchModel" "isOn" "[Z", .fieldLink RX3 13 "RollBenchModel" "sizes" "[I", .methodLink RX3 48 yX3_isLane, .static yX3_isLane, .initialized RX3, .code yX3_isLane cX3_isLane 1 (some .boolean), .methodLink RX3 55 yX3_off, .instanceMethod yX3_off, .selects RX3 yX3_off yX3_off, .code yX3_off cX3_off 2 (some .int), .fieldLink RX3 32 "RollBenchModel" "offs" "[I", .constant RX3 38 (-1000005)] ++ wsX30)
def wsX3_cell : List Cond := .code yX3_cell cX3_cell 3 (some .int) :: ([.constant RX3 52 (-1000001), .fieldLink RX3 16 "RollBenchModel" "isOn" "[Z", .fieldLink RX3 13 "RollBenchModel" "sizes" "[I", .fieldLink RX3 7 "RollBenchModel" "cells" "[I", .methodLink RX3 48 yX3_isLane, .static yX3_isLane, .initialized RX3, .code yX3_isLane cX3_isLane 1 (some .boolean), .methodLink RX3 55 yX3_off, .instanceMethod yX3_off, .selects RX3 yX3_off yX3_off, .code yX3_off cX3_off 2 (some .int), .fieldLink RX3 32 "RollBenchModel" "offs" "[I", .constant RX3 38 (-1000005), .methodLink RX3 59 yX3_out, .instanceMethod yX3_out, .selects RX3 yX3_out yX3_out, .code yX3_out cX3_out 2 (some .int), .fieldLink RX3 35 "RollBenchModel" "outs" "[I", .constant RX3 39 (-1000006)] ++ wsX30)
def wsX3_put_r1 : List Cond := [Cond.constant RX3 52 (-1000001), Cond.fieldLink RX3 16 "RollBenchModel" "isOn" "[Z", Cond.fieldLink RX3 13 "RollBenchModel" "sizes" "[I", Cond.fieldLink RX3 7 "RollBenchModel" "cells" "[I", Cond.methodLink RX3 48 yX3_isLane, Cond.static yX3_isLane, Cond.initialized RX3, Cond.code yX3_isLane cX3_isLane 1 (some .boolean), Cond.methodLink RX3 55 yX3_off, Cond.instanceMethod yX3_off, Cond.selects RX3 yX3_off yX3_off, Cond.code yX3_off cX3_off 2 (some .int), Cond.fieldLink RX3 32 "RollBenchModel" "offs" "[I", Cond.constant RX3 38 (-1000005), Cond.methodLink RX3 59 yX3_out, Cond.instanceMethod yX3_out, Cond.selects RX3 yX3_out yX3_out, Cond.code yX3_out cX3_out 2 (some .int), Cond.fieldLink RX3 35 "RollBenchModel" "outs" "[I", Cond.constant RX3 39 (-1000006), Cond.methodLink RX3 62 yX3_stored, Cond.static yX3_stored, Cond.code yX3_stored cX3_stored 5 (some .int), Cond.constantLong RX3 40 (-8000)]
def wsX3_put_r2 : List Cond := [Cond.constantLong RX3 42 (8000), Cond.constantLong RX3 44 (65535), Cond.constant RX3 46 (32768), Cond.constant RX3 47 (65536)]
def wsX3_put : List Cond := .code yX3_put cX3_put 4 (some .int) :: ((wsX3_put_r1 ++ wsX3_put_r2) ++ wsX30)
def wsX3_pressed : List Cond := .code yX3_pressed cX3_pressed 5 (some .int) :: ([])
def wsX3_change_r1 : List Cond := [Cond.constant RX3 52 (-1000001), Cond.constant RX3 66 (-1000002), Cond.fieldLink RX3 16 "RollBenchModel" "isOn" "[Z", Cond.fieldLink RX3 13 "RollBenchModel" "sizes" "[I", Cond.fieldLink RX3 7 "RollBenchModel" "cells" "[I", Cond.methodLink RX3 48 yX3_isLane, Cond.static yX3_isLane, Cond.initialized RX3, Cond.code yX3_isLane cX3_isLane 1 (some .boolean), Cond.methodLink RX3 55 yX3_off, Cond.instanceMethod yX3_off, Cond.selects RX3 yX3_off yX3_off, Cond.code yX3_off cX3_off 2 (some .int), Cond.fieldLink RX3 32 "RollBenchModel" "offs" "[I", Cond.constant RX3 38 (-1000005), Cond.methodLink RX3 59 yX3_out, Cond.instanceMethod yX3_out, Cond.selects RX3 yX3_out yX3_out, Cond.code yX3_out cX3_out 2 (some .int), Cond.fieldLink RX3 35 "RollBenchModel" "outs" "[I", Cond.constant RX3 39 (-1000006), Cond.methodLink RX3 67 yX3_pressed, Cond.static yX3_pressed, Cond.code yX3_pressed cX3_pressed 5 (some .int)]
def wsX3_change_r2 : List Cond := [Cond.methodLink RX3 62 yX3_stored, Cond.static yX3_stored, Cond.code yX3_stored cX3_stored 5 (some .int), Cond.constantLong RX3 40 (-8000), Cond.constantLong RX3 42 (8000), Cond.constantLong RX3 44 (65535), Cond.constant RX3 46 (32768), Cond.constant RX3 47 (65536)]
def wsX3_change : List Cond := .code yX3_change cX3_change 10 (some .int) :: ((wsX3_change_r1 ++ wsX3_change_r2) ++ wsX30)
def wsX3_rule : List Cond := .code yX3_rule cX3_rule 5 (some .int) :: ([.constant RX3 52 (-1000001), .constant RX3 53 (-1000003), .constant RX3 54 (-1000004), .fieldLink RX3 29 "RollBenchModel" "isRuled" "[Z", .fieldLink RX3 23 "RollBenchModel" "rows" "[I", .fieldLink RX3 26 "RollBenchModel" "columns" "[I", .fieldLink RX3 20 "RollBenchModel" "sheets" "[I", .methodLink RX3 48 yX3_isLane, .static yX3_isLane, .initialized RX3, .code yX3_isLane cX3_isLane 1 (some .boolean)] ++ wsX30)
def wsX3_lay_r1 : List Cond := [Cond.constant RX3 52 (-1000001), Cond.fieldLink RX3 29 "RollBenchModel" "isRuled" "[Z", Cond.constant RX3 71 (-1000007), Cond.fieldLink RX3 23 "RollBenchModel" "rows" "[I", Cond.constant RX3 72 (-1000008), Cond.fieldLink RX3 16 "RollBenchModel" "isOn" "[Z", Cond.fieldLink RX3 13 "RollBenchModel" "sizes" "[I", Cond.fieldLink RX3 26 "RollBenchModel" "columns" "[I", Cond.fieldLink RX3 20 "RollBenchModel" "sheets" "[I", Cond.fieldLink RX3 7 "RollBenchModel" "cells" "[I", Cond.methodLink RX3 48 yX3_isLane, Cond.static yX3_isLane, Cond.initialized RX3, Cond.code yX3_isLane cX3_isLane 1 (some .boolean), Cond.methodLink RX3 55 yX3_off, Cond.instanceMethod yX3_off, Cond.selects RX3 yX3_off yX3_off, Cond.code yX3_off cX3_off 2 (some .int), Cond.fieldLink RX3 32 "RollBenchModel" "offs" "[I", Cond.constant RX3 38 (-1000005), Cond.methodLink RX3 59 yX3_out, Cond.instanceMethod yX3_out, Cond.selects RX3 yX3_out yX3_out, Cond.code yX3_out cX3_out 2 (some .int)]
def wsX3_lay_r2 : List Cond := [Cond.fieldLink RX3 35 "RollBenchModel" "outs" "[I", Cond.constant RX3 39 (-1000006)]
def wsX3_lay : List Cond := .code yX3_lay cX3_lay 5 (some .int) :: ((wsX3_lay_r1 ++ wsX3_lay_r2) ++ wsX30)
def wsX3_at : List Cond := .code yX3_at cX3_at 4 (some .int) :: ([.constant RX3 52 (-1000001), .fieldLink RX3 29 "RollBenchModel" "isRuled" "[Z", .constant RX3 71 (-1000007), .fieldLink RX3 23 "RollBenchModel" "rows" "[I", .constant RX3 72 (-1000008), .fieldLink RX3 26 "RollBenchModel" "columns" "[I", .constant RX3 73 (-1000009), .fieldLink RX3 20 "RollBenchModel" "sheets" "[I", .methodLink RX3 48 yX3_isLane, .static yX3_isLane, .initialized RX3, .code yX3_isLane cX3_isLane 1 (some .boolean)] ++ wsX30)
def wsX3_head : List Cond := .code yX3_head cX3_head 3 (some .int) :: ([.constant RX3 53 (-1000003), .constant RX3 54 (-1000004), .fieldLink RX3 74 "RollBenchModel" "head" "I"] ++ wsX30)
def wsX3_has : List Cond := .code yX3_has cX3_has 2 (some .boolean) :: ([.fieldLink RX3 16 "RollBenchModel" "isOn" "[Z", .fieldLink RX3 74 "RollBenchModel" "head" "I", .fieldLink RX3 13 "RollBenchModel" "sizes" "[I"] ++ wsX30)
def wsX3_told : List Cond := .code yX3_told cX3_told 3 (some .int) :: ([.fieldLink RX3 7 "RollBenchModel" "cells" "[I", .fieldLink RX3 74 "RollBenchModel" "head" "I", .methodLink RX3 78 yX3_has, .instanceMethod yX3_has, .selects RX3 yX3_has yX3_has, .initialized RX3, .code yX3_has cX3_has 2 (some .boolean), .fieldLink RX3 16 "RollBenchModel" "isOn" "[Z", .fieldLink RX3 13 "RollBenchModel" "sizes" "[I"] ++ wsX30)
def wsX3_less : List Cond := .code yX3_less cX3_less 2 none :: ([.fieldLink RX3 7 "RollBenchModel" "cells" "[I", .fieldLink RX3 74 "RollBenchModel" "head" "I"] ++ wsX30)
def wsX3_note : List Cond := .code yX3_note cX3_note 2 none :: ([.fieldLink RX3 85 "RollBenchModel" "clock" "I", .fieldLink RX3 88 "RollBenchModel" "notes" "I", .fieldLink RX3 91 "RollBenchModel" "sound" "I", .fieldLink RX3 94 "RollBenchModel" "shift" "I", .methodLink RX3 81 yX3_told, .instanceMethod yX3_told, .selects RX3 yX3_told yX3_told, .initialized RX3, .code yX3_told cX3_told 3 (some .int), .fieldLink RX3 7 "RollBenchModel" "cells" "[I", .fieldLink RX3 74 "RollBenchModel" "head" "I", .methodLink RX3 78 yX3_has, .instanceMethod yX3_has, .selects RX3 yX3_has yX3_has, .code yX3_has cX3_has 2 (some .boolean), .fieldLink RX3 16 "RollBenchModel" "isOn" "[Z", .fieldLink RX3 13 "RollBenchModel" "sizes" "[I"] ++ wsX30)
def wsX3_step_r1 : List Cond := [Cond.fieldLink RX3 7 "RollBenchModel" "cells" "[I", Cond.fieldLink RX3 74 "RollBenchModel" "head" "I", Cond.fieldLink RX3 101 "RollBenchModel" "mark" "I", Cond.fieldLink RX3 85 "RollBenchModel" "clock" "I", Cond.fieldLink RX3 94 "RollBenchModel" "shift" "I", Cond.fieldLink RX3 107 "RollBenchModel" "blanks" "I", Cond.methodLink RX3 81 yX3_told, Cond.instanceMethod yX3_told, Cond.selects RX3 yX3_told yX3_told, Cond.initialized RX3, Cond.code yX3_told cX3_told 3 (some .int), Cond.methodLink RX3 78 yX3_has, Cond.instanceMethod yX3_has, Cond.selects RX3 yX3_has yX3_has, Cond.code yX3_has cX3_has 2 (some .boolean), Cond.fieldLink RX3 16 "RollBenchModel" "isOn" "[Z", Cond.fieldLink RX3 13 "RollBenchModel" "sizes" "[I", Cond.methodLink RX3 97 yX3_less, Cond.instanceMethod yX3_less, Cond.selects RX3 yX3_less yX3_less, Cond.code yX3_less cX3_less 2 none, Cond.methodLink RX3 104 yX3_note, Cond.instanceMethod yX3_note, Cond.selects RX3 yX3_note yX3_note]
def wsX3_step_r2 : List Cond := [Cond.code yX3_note cX3_note 2 none, Cond.fieldLink RX3 88 "RollBenchModel" "notes" "I", Cond.fieldLink RX3 91 "RollBenchModel" "sound" "I"]
def wsX3_step : List Cond := .code yX3_step cX3_step 2 none :: ((wsX3_step_r1 ++ wsX3_step_r2) ++ wsX30)
def wsX3_play_r1 : List Cond := [Cond.constant RX3 54 (-1000004), Cond.constant RX3 53 (-1000003), Cond.methodLink RX3 78 yX3_has, Cond.instanceMethod yX3_has, Cond.selects RX3 yX3_has yX3_has, Cond.initialized RX3, Cond.code yX3_has cX3_has 2 (some .boolean), Cond.fieldLink RX3 16 "RollBenchModel" "isOn" "[Z", Cond.fieldLink RX3 74 "RollBenchModel" "head" "I", Cond.fieldLink RX3 13 "RollBenchModel" "sizes" "[I", Cond.methodLink RX3 110 yX3_step, Cond.instanceMethod yX3_step, Cond.selects RX3 yX3_step yX3_step, Cond.code yX3_step cX3_step 2 none, Cond.fieldLink RX3 7 "RollBenchModel" "cells" "[I", Cond.fieldLink RX3 101 "RollBenchModel" "mark" "I", Cond.fieldLink RX3 85 "RollBenchModel" "clock" "I", Cond.fieldLink RX3 94 "RollBenchModel" "shift" "I", Cond.fieldLink RX3 107 "RollBenchModel" "blanks" "I", Cond.methodLink RX3 81 yX3_told, Cond.instanceMethod yX3_told, Cond.selects RX3 yX3_told yX3_told, Cond.code yX3_told cX3_told 3 (some .int), Cond.methodLink RX3 97 yX3_less]
def wsX3_play_r2 : List Cond := [Cond.instanceMethod yX3_less, Cond.selects RX3 yX3_less yX3_less, Cond.code yX3_less cX3_less 2 none, Cond.methodLink RX3 104 yX3_note, Cond.instanceMethod yX3_note, Cond.selects RX3 yX3_note yX3_note, Cond.code yX3_note cX3_note 2 none, Cond.fieldLink RX3 88 "RollBenchModel" "notes" "I", Cond.fieldLink RX3 91 "RollBenchModel" "sound" "I"]
def wsX3_play : List Cond := .code yX3_play cX3_play 3 (some .int) :: ((wsX3_play_r1 ++ wsX3_play_r2) ++ wsX30)
def wsX3_count : List Cond := .code yX3_count cX3_count 2 (some .int) :: ([.fieldLink RX3 32 "RollBenchModel" "offs" "[I", .fieldLink RX3 35 "RollBenchModel" "outs" "[I", .fieldLink RX3 74 "RollBenchModel" "head" "I", .fieldLink RX3 85 "RollBenchModel" "clock" "I", .fieldLink RX3 94 "RollBenchModel" "shift" "I", .fieldLink RX3 101 "RollBenchModel" "mark" "I", .fieldLink RX3 88 "RollBenchModel" "notes" "I", .fieldLink RX3 91 "RollBenchModel" "sound" "I", .fieldLink RX3 107 "RollBenchModel" "blanks" "I"] ++ wsX30)
def wsJ9_max_f86c9 : List Cond := .code yJ9_max_f86c9 cJ9_max_f86c9 4 (some .long) :: ([])
def wsJ9_min_7cf53 : List Cond := .code yJ9_min_7cf53 cJ9_min_7cf53 2 (some .int) :: ([])
def wsJ9_min_f86c9 : List Cond := .code yJ9_min_f86c9 cJ9_min_f86c9 4 (some .long) :: ([])
def wsL_law_r1 : List Cond := [Cond.classLink RL 7 RX2, Cond.instantiable RX2 8, Cond.initialized RX2, Cond.classLink RL 10 RX3, Cond.instantiable RX3 16, Cond.initialized RX3, Cond.methodLink RL 9 yX2_init, Cond.instanceMethod yX2_init, Cond.code yX2_init cX2_init 2 none, Cond.methodLink RX2 1 objectInit, Cond.instanceMethod objectInit, Cond.code objectInit ⟨#[0xb1]⟩ 1 none, Cond.classLink RX2 9 RX0, Cond.fieldLink RX2 11 "RollBench" "lanes" "[LRollBench$Lane;", Cond.instantiable RX0 5, Cond.initialized RX0, Cond.methodLink RX2 15 yX0_init, Cond.instanceMethod yX0_init, Cond.code yX0_init cX0_init 1 none, Cond.methodLink RX0 3 objectInit, Cond.arrayClass .int, Cond.fieldLink RX0 9 "RollBench$Lane" "cells" "[I", Cond.classLink RX0 15 RX1, Cond.instantiable RX1 3]
def wsL_law_r2 : List Cond := [Cond.initialized RX1, Cond.fieldLink RX0 18 "RollBench$Lane" "sheet" "LRollBench$Sheet;", Cond.fieldLink RX0 22 "RollBench$Lane" "length" "I", Cond.methodLink RX0 17 yX1_init, Cond.instanceMethod yX1_init, Cond.code yX1_init cX1_init 1 none, Cond.methodLink RX1 3 objectInit, Cond.fieldLink RX1 9 "RollBench$Sheet" "numbers" "[I", Cond.fieldLink RX1 15 "RollBench$Sheet" "rows" "I", Cond.methodLink RL 12 yX3_init, Cond.instanceMethod yX3_init, Cond.code yX3_init cX3_init 1 none, Cond.methodLink RX3 1 objectInit, Cond.fieldLink RX3 7 "RollBenchModel" "cells" "[I", Cond.fieldLink RX3 13 "RollBenchModel" "sizes" "[I", Cond.arrayClass .boolean, Cond.fieldLink RX3 16 "RollBenchModel" "isOn" "[Z", Cond.fieldLink RX3 20 "RollBenchModel" "sheets" "[I", Cond.fieldLink RX3 23 "RollBenchModel" "rows" "[I", Cond.fieldLink RX3 26 "RollBenchModel" "columns" "[I", Cond.fieldLink RX3 29 "RollBenchModel" "isRuled" "[Z", Cond.fieldLink RX3 32 "RollBenchModel" "offs" "[I", Cond.fieldLink RX3 35 "RollBenchModel" "outs" "[I", Cond.methodLink RL 13 yX2_mount]
def wsL_law_r3 : List Cond := [Cond.instanceMethod yX2_mount, Cond.selects RX2 yX2_mount yX2_mount, Cond.code yX2_mount cX2_mount 3 (some .int), Cond.constant RX2 20 (-1000001), Cond.constant RX2 21 (-1000003), Cond.constant RX2 22 (-1000004), Cond.methodLink RX2 16 yX2_isLane, Cond.static yX2_isLane, Cond.code yX2_isLane cX2_isLane 1 (some .boolean), Cond.methodLink RX2 23 yX0_renew, Cond.instanceMethod yX0_renew, Cond.selects RX0 yX0_renew yX0_renew, Cond.code yX0_renew cX0_renew 3 none, Cond.methodLink RL 17 yX3_mount, Cond.instanceMethod yX3_mount, Cond.selects RX3 yX3_mount yX3_mount, Cond.code yX3_mount cX3_mount 4 (some .int), Cond.constant RX3 52 (-1000001), Cond.constant RX3 53 (-1000003), Cond.constant RX3 54 (-1000004), Cond.methodLink RX3 48 yX3_isLane, Cond.static yX3_isLane, Cond.code yX3_isLane cX3_isLane 1 (some .boolean), Cond.methodLink RL 18 yX2_strip]
def wsL_law_r4 : List Cond := [Cond.instanceMethod yX2_strip, Cond.selects RX2 yX2_strip yX2_strip, Cond.code yX2_strip cX2_strip 4 (some .int), Cond.fieldLink RX2 35 "RollBench$Lane" "length" "I", Cond.methodLink RX2 27 yX0_isOff, Cond.instanceMethod yX0_isOff, Cond.selects RX0 yX0_isOff yX0_isOff, Cond.code yX0_isOff cX0_isOff 1 (some .boolean), Cond.methodLink RX2 31 yX0_refuseOff, Cond.instanceMethod yX0_refuseOff, Cond.selects RX0 yX0_refuseOff yX0_refuseOff, Cond.code yX0_refuseOff cX0_refuseOff 1 (some .int), Cond.fieldLink RX0 26 "RollBench$Lane" "offRefusals" "I", Cond.constant RX0 29 (-1000005), Cond.methodLink RX2 39 yX0_turnOff, Cond.instanceMethod yX0_turnOff, Cond.selects RX0 yX0_turnOff yX0_turnOff, Cond.code yX0_turnOff cX0_turnOff 1 none, Cond.methodLink RL 22 yX3_strip, Cond.instanceMethod yX3_strip, Cond.selects RX3 yX3_strip yX3_strip, Cond.code yX3_strip cX3_strip 2 (some .int), Cond.methodLink RX3 55 yX3_off, Cond.instanceMethod yX3_off]
def wsL_law_r5 : List Cond := [Cond.selects RX3 yX3_off yX3_off, Cond.code yX3_off cX3_off 2 (some .int), Cond.constant RX3 38 (-1000005), Cond.methodLink RL 23 yX2_size, Cond.instanceMethod yX2_size, Cond.selects RX2 yX2_size yX2_size, Cond.code yX2_size cX2_size 3 (some .int), Cond.methodLink RL 26 yX3_size, Cond.instanceMethod yX3_size, Cond.selects RX3 yX3_size yX3_size, Cond.code yX3_size cX3_size 2 (some .int), Cond.methodLink RL 27 yX2_cell, Cond.instanceMethod yX2_cell, Cond.selects RX2 yX2_cell yX2_cell, Cond.code yX2_cell cX2_cell 4 (some .int), Cond.fieldLink RX2 48 "RollBench$Lane" "cells" "[I", Cond.methodLink RX2 42 yX0_hasCell, Cond.instanceMethod yX0_hasCell, Cond.selects RX0 yX0_hasCell yX0_hasCell, Cond.code yX0_hasCell cX0_hasCell 2 (some .boolean), Cond.methodLink RX2 45 yX0_refuseOut, Cond.instanceMethod yX0_refuseOut, Cond.selects RX0 yX0_refuseOut yX0_refuseOut, Cond.code yX0_refuseOut cX0_refuseOut 1 (some .int)]
def wsL_law_r6 : List Cond := [Cond.fieldLink RX0 30 "RollBench$Lane" "outRefusals" "I", Cond.constant RX0 33 (-1000006), Cond.methodLink RL 30 yX3_cell, Cond.instanceMethod yX3_cell, Cond.selects RX3 yX3_cell yX3_cell, Cond.code yX3_cell cX3_cell 3 (some .int), Cond.methodLink RX3 59 yX3_out, Cond.instanceMethod yX3_out, Cond.selects RX3 yX3_out yX3_out, Cond.code yX3_out cX3_out 2 (some .int), Cond.constant RX3 39 (-1000006), Cond.methodLink RL 31 yX2_put, Cond.instanceMethod yX2_put, Cond.selects RX2 yX2_put yX2_put, Cond.code yX2_put cX2_put 5 (some .int), Cond.methodLink RX2 52 yX2_stored, Cond.static yX2_stored, Cond.code yX2_stored cX2_stored 3 (some .int), Cond.constantLong RX2 119 (65535), Cond.constantLong RX2 121 (-8000), Cond.constantLong RX2 123 (8000), Cond.methodLink RX2 125 Lib.MathLoose.min_long.x, Cond.static Lib.MathLoose.min_long.x, Cond.initialized "java/lang/Math"]
def wsL_law_r7 : List Cond := [Cond.code Lib.MathLoose.min_long.x Lib.MathLoose.min_long.code 4 (some .long), Cond.methodLink RX2 131 Lib.MathLoose.max_long.x, Cond.static Lib.MathLoose.max_long.x, Cond.code Lib.MathLoose.max_long.x Lib.MathLoose.max_long.code 4 (some .long), Cond.methodLink RL 35 yX3_put, Cond.instanceMethod yX3_put, Cond.selects RX3 yX3_put yX3_put, Cond.code yX3_put cX3_put 4 (some .int), Cond.methodLink RX3 62 yX3_stored, Cond.static yX3_stored, Cond.code yX3_stored cX3_stored 5 (some .int), Cond.constantLong RX3 40 (-8000), Cond.constantLong RX3 42 (8000), Cond.constantLong RX3 44 (65535), Cond.constant RX3 46 (32768), Cond.constant RX3 47 (65536), Cond.methodLink RL 36 yX2_change, Cond.instanceMethod yX2_change, Cond.selects RX2 yX2_change yX2_change, Cond.code yX2_change cX2_change 6 (some .int), Cond.constant RX2 56 (-1000002), Cond.methodLink RX2 57 yX2_changed, Cond.static yX2_changed, Cond.code yX2_changed cX2_changed 4 (some .int)]
def wsL_law_r8 : List Cond := [Cond.methodLink RX2 134 yX2_changedPedal, Cond.static yX2_changedPedal, Cond.code yX2_changedPedal cX2_changedPedal 3 (some .int), Cond.methodLink RX2 138 yX2_reckoned, Cond.static yX2_reckoned, Cond.code yX2_reckoned cX2_reckoned 5 (some .long), Cond.methodLink RL 40 yX3_change, Cond.instanceMethod yX3_change, Cond.selects RX3 yX3_change yX3_change, Cond.code yX3_change cX3_change 10 (some .int), Cond.constant RX3 66 (-1000002), Cond.methodLink RX3 67 yX3_pressed, Cond.static yX3_pressed, Cond.code yX3_pressed cX3_pressed 5 (some .int), Cond.methodLink RL 41 yX2_rule, Cond.instanceMethod yX2_rule, Cond.selects RX2 yX2_rule yX2_rule, Cond.code yX2_rule cX2_rule 4 (some .int), Cond.fieldLink RX2 61 "RollBench$Lane" "sheet" "LRollBench$Sheet;", Cond.methodLink RX2 65 yX1_renew, Cond.instanceMethod yX1_renew, Cond.selects RX1 yX1_renew yX1_renew, Cond.code yX1_renew cX1_renew 4 none, Cond.fieldLink RX1 19 "RollBench$Sheet" "columns" "I"]
def wsL_law_r9 : List Cond := [Cond.methodLink RL 44 yX3_rule, Cond.instanceMethod yX3_rule, Cond.selects RX3 yX3_rule yX3_rule, Cond.code yX3_rule cX3_rule 5 (some .int), Cond.methodLink RL 45 yX2_lay, Cond.instanceMethod yX2_lay, Cond.selects RX2 yX2_lay yX2_lay, Cond.code yX2_lay cX2_lay 5 (some .int), Cond.constant RX2 73 (-1000007), Cond.constant RX2 77 (-1000008), Cond.methodLink RX2 70 yX1_isNone, Cond.instanceMethod yX1_isNone, Cond.selects RX1 yX1_isNone yX1_isNone, Cond.code yX1_isNone cX1_isNone 1 (some .boolean), Cond.methodLink RX2 74 yX1_hasRow, Cond.instanceMethod yX1_hasRow, Cond.selects RX1 yX1_hasRow yX1_hasRow, Cond.code yX1_hasRow cX1_hasRow 2 (some .boolean), Cond.methodLink RX2 78 yX0_layInto, Cond.instanceMethod yX0_layInto, Cond.selects RX0 yX0_layInto yX0_layInto, Cond.code yX0_layInto cX0_layInto 5 (some .int), Cond.fieldLink RX0 34 "RollBench$Sheet" "columns" "I", Cond.methodLink RX0 37 Lib.Math.min.name]
def wsL_law_r10 : List Cond := [Cond.static Lib.Math.min.name, Cond.code Lib.Math.min.name Lib.Math.min.code 2 (some .int), Cond.methodLink RX0 43 yX1_write, Cond.instanceMethod yX1_write, Cond.selects RX1 yX1_write yX1_write, Cond.code yX1_write cX1_write 4 none, Cond.methodLink RX1 22 yX1_placeOf, Cond.static yX1_placeOf, Cond.code yX1_placeOf cX1_placeOf 2 (some .int), Cond.methodLink RL 48 yX3_lay, Cond.instanceMethod yX3_lay, Cond.selects RX3 yX3_lay yX3_lay, Cond.code yX3_lay cX3_lay 5 (some .int), Cond.constant RX3 71 (-1000007), Cond.constant RX3 72 (-1000008), Cond.methodLink RL 49 yX2_at, Cond.instanceMethod yX2_at, Cond.selects RX2 yX2_at yX2_at, Cond.code yX2_at cX2_at 5 (some .int), Cond.constant RX2 85 (-1000009), Cond.methodLink RX2 82 yX1_hasColumn, Cond.instanceMethod yX1_hasColumn, Cond.selects RX1 yX1_hasColumn yX1_hasColumn, Cond.code yX1_hasColumn cX1_hasColumn 2 (some .boolean)]
def wsL_law_r11 : List Cond := [Cond.methodLink RX2 86 yX1_numberIn, Cond.instanceMethod yX1_numberIn, Cond.selects RX1 yX1_numberIn yX1_numberIn, Cond.code yX1_numberIn cX1_numberIn 3 (some .int), Cond.methodLink RL 52 yX3_at, Cond.instanceMethod yX3_at, Cond.selects RX3 yX3_at yX3_at, Cond.code yX3_at cX3_at 4 (some .int), Cond.constant RX3 73 (-1000009), Cond.methodLink RL 53 yX2_head, Cond.instanceMethod yX2_head, Cond.selects RX2 yX2_head yX2_head, Cond.code yX2_head cX2_head 3 (some .int), Cond.fieldLink RX2 89 "RollBench" "head" "I", Cond.methodLink RL 56 yX3_head, Cond.instanceMethod yX3_head, Cond.selects RX3 yX3_head yX3_head, Cond.code yX3_head cX3_head 3 (some .int), Cond.fieldLink RX3 74 "RollBenchModel" "head" "I", Cond.methodLink RL 57 yX2_play, Cond.instanceMethod yX2_play, Cond.selects RX2 yX2_play yX2_play, Cond.code yX2_play cX2_play 4 (some .int), Cond.methodLink RX2 92 yX2_step]
def wsL_law_r12 : List Cond := [Cond.instanceMethod yX2_step, Cond.selects RX2 yX2_step yX2_step, Cond.code yX2_step cX2_step 2 none, Cond.fieldLink RX2 101 "RollBench" "clock" "I", Cond.fieldLink RX2 104 "RollBench" "shift" "I", Cond.fieldLink RX2 107 "RollBench" "mark" "I", Cond.fieldLink RX2 116 "RollBench" "blanks" "I", Cond.methodLink RX2 142 yX2_told, Cond.instanceMethod yX2_told, Cond.selects RX2 yX2_told yX2_told, Cond.code yX2_told cX2_told 4 (some .int), Cond.methodLink RX2 145 yX2_playNote, Cond.instanceMethod yX2_playNote, Cond.selects RX2 yX2_playNote yX2_playNote, Cond.code yX2_playNote cX2_playNote 2 none, Cond.fieldLink RX2 110 "RollBench" "notes" "I", Cond.fieldLink RX2 113 "RollBench" "sound" "I", Cond.methodLink RX2 148 yX2_lowered, Cond.instanceMethod yX2_lowered, Cond.selects RX2 yX2_lowered yX2_lowered, Cond.code yX2_lowered cX2_lowered 3 (some .boolean), Cond.methodLink RL 60 yX3_play, Cond.instanceMethod yX3_play, Cond.selects RX3 yX3_play yX3_play]
def wsL_law_r13 : List Cond := [Cond.code yX3_play cX3_play 3 (some .int), Cond.methodLink RX3 78 yX3_has, Cond.instanceMethod yX3_has, Cond.selects RX3 yX3_has yX3_has, Cond.code yX3_has cX3_has 2 (some .boolean), Cond.methodLink RX3 110 yX3_step, Cond.instanceMethod yX3_step, Cond.selects RX3 yX3_step yX3_step, Cond.code yX3_step cX3_step 2 none, Cond.fieldLink RX3 101 "RollBenchModel" "mark" "I", Cond.fieldLink RX3 85 "RollBenchModel" "clock" "I", Cond.fieldLink RX3 94 "RollBenchModel" "shift" "I", Cond.fieldLink RX3 107 "RollBenchModel" "blanks" "I", Cond.methodLink RX3 81 yX3_told, Cond.instanceMethod yX3_told, Cond.selects RX3 yX3_told yX3_told, Cond.code yX3_told cX3_told 3 (some .int), Cond.methodLink RX3 97 yX3_less, Cond.instanceMethod yX3_less, Cond.selects RX3 yX3_less yX3_less, Cond.code yX3_less cX3_less 2 none, Cond.methodLink RX3 104 yX3_note, Cond.instanceMethod yX3_note, Cond.selects RX3 yX3_note yX3_note]
def wsL_law_r14 : List Cond := [Cond.code yX3_note cX3_note 2 none, Cond.fieldLink RX3 88 "RollBenchModel" "notes" "I", Cond.fieldLink RX3 91 "RollBenchModel" "sound" "I", Cond.methodLink RL 61 yX2_count, Cond.instanceMethod yX2_count, Cond.selects RX2 yX2_count yX2_count, Cond.code yX2_count cX2_count 2 (some .int), Cond.fieldLink RX2 95 "RollBench$Lane" "offRefusals" "I", Cond.fieldLink RX2 98 "RollBench$Lane" "outRefusals" "I", Cond.methodLink RL 64 yX3_count, Cond.instanceMethod yX3_count, Cond.selects RX3 yX3_count yX3_count, Cond.code yX3_count cX3_count 2 (some .int)]
def wsL_law : List Cond := (wsL_law_r1 ++ (wsL_law_r2 ++ (wsL_law_r3 ++ (wsL_law_r4 ++ (wsL_law_r5 ++ (wsL_law_r6 ++ (wsL_law_r7 ++ (wsL_law_r8 ++ (wsL_law_r9 ++ (wsL_law_r10 ++ (wsL_law_r11 ++ (wsL_law_r12 ++ (wsL_law_r13 ++ wsL_law_r14))))))))))))) ++ wsX20 ++ wsX30 ++ wsX00 ++ wsX10 ++ ([] : List Cond)
set_option maxRecDepth 20000 in
theorem wsL_law_in : ∀ w ∈ wsL_law, w ∈ lw_tbl := fun w h => (goodIn_p wsL_law [21, 24, 30, 36, 255, 99, 102, 109, 310, 313, 113, 117, 121, 126, 320, 324, 130, 329, 134, 138, 142, 333, 337, 147, 150, 156, 159, 342, 345, 163, 167, 170, 173, 354, 358, 177, 181, 362, 185, 189, 194, 199, 202, 206, 209, 366, 213, 217, 222, 372, 226, 377, 230, 234, 238, 242, 246, 381, 385, 389, 393, 397, 401, 250, 405] (by decide +kernel) (by decide +kernel) w h).1
theorem inlX0 : ∀ w ∈ wsX00, w ∈ wsL_law := fun _ h => List.mem_append_left _ (List.mem_append_left _ (List.mem_append_right _ h))
theorem inX0 : ∀ w ∈ wsX00, w ∈ lw_tbl := fun w h => wsL_law_in w (inlX0 w h)
theorem inlX1 : ∀ w ∈ wsX10, w ∈ wsL_law := fun _ h => List.mem_append_left _ (List.mem_append_right _ h)
theorem inX1 : ∀ w ∈ wsX10, w ∈ lw_tbl := fun w h => wsL_law_in w (inlX1 w h)
theorem inlX2 : ∀ w ∈ wsX20, w ∈ wsL_law := fun _ h => List.mem_append_left _ (List.mem_append_left _ (List.mem_append_left _ (List.mem_append_left _ (List.mem_append_right _ h))))
theorem inX2 : ∀ w ∈ wsX20, w ∈ lw_tbl := fun w h => wsL_law_in w (inlX2 w h)
theorem inlX3 : ∀ w ∈ wsX30, w ∈ wsL_law := fun _ h => List.mem_append_left _ (List.mem_append_left _ (List.mem_append_left _ (List.mem_append_right _ h)))
theorem inX3 : ∀ w ∈ wsX30, w ∈ lw_tbl := fun w h => wsL_law_in w (inlX3 w h)
theorem inJ9 : ∀ w ∈ wsJ90, w ∈ lw_tbl := by decide +kernel
