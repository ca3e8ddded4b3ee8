-- ===== PART A: goes FIRST, ahead of the names: the tables' words, and 'selects' of the private methods out of them =====
/-- a private method of a class that the tables say can be made, by its rows of tables_1 -/
def lw_okq (q : MethodName × Nat) : Prop := (q.1.cls ≠ "java/lang/invoke/MethodHandle" ∧ q.1.cls ≠ "java/lang/invoke/VarHandle") ∧ Cond.instantiable q.1.cls q.2 ∈ tables_1 ∧ Cond.privateMethod q.1 ∈ tables_1 ∧ Cond.instanceMethod q.1 ∈ tables_1
theorem lw_p0 : lw_okq (⟨"BeachBars$Sand", "isBarFrom", "(IIII)Z"⟩, 2) := ⟨⟨by decide +kernel, by decide +kernel⟩, List.mem_of_getElem? (i := 26) (by decide +kernel), List.mem_of_getElem? (i := 252) (by decide +kernel), List.mem_of_getElem? (i := 253) (by decide +kernel)⟩
theorem lw_p1 : lw_okq (⟨"BeachBars", "runWaves", "(I)I"⟩, 9) := ⟨⟨by decide +kernel, by decide +kernel⟩, List.mem_of_getElem? (i := 12) (by decide +kernel), List.mem_of_getElem? (i := 307) (by decide +kernel), List.mem_of_getElem? (i := 308) (by decide +kernel)⟩
theorem lw_p2 : lw_okq (⟨"BeachBars", "sortWaves", "()V"⟩, 9) := ⟨⟨by decide +kernel, by decide +kernel⟩, List.mem_of_getElem? (i := 12) (by decide +kernel), List.mem_of_getElem? (i := 311) (by decide +kernel), List.mem_of_getElem? (i := 312) (by decide +kernel)⟩
theorem lw_p3 : lw_okq (⟨"BeachBars", "runsEarlier", "(II)Z"⟩, 9) := ⟨⟨by decide +kernel, by decide +kernel⟩, List.mem_of_getElem? (i := 12) (by decide +kernel), List.mem_of_getElem? (i := 315) (by decide +kernel), List.mem_of_getElem? (i := 316) (by decide +kernel)⟩
theorem lw_p4 : lw_okq (⟨"BeachBars", "goesSeaward", "(I)Z"⟩, 9) := ⟨⟨by decide +kernel, by decide +kernel⟩, List.mem_of_getElem? (i := 12) (by decide +kernel), List.mem_of_getElem? (i := 327) (by decide +kernel), List.mem_of_getElem? (i := 328) (by decide +kernel)⟩
theorem lw_p5 : lw_okq (⟨"BeachBars$Ride", "begin", "(II)V"⟩, 3) := ⟨⟨by decide +kernel, by decide +kernel⟩, List.mem_of_getElem? (i := 139) (by decide +kernel), List.mem_of_getElem? (i := 335) (by decide +kernel), List.mem_of_getElem? (i := 336) (by decide +kernel)⟩
theorem lw_p6 : lw_okq (⟨"BeachBars$Ride", "end", "(II)V"⟩, 3) := ⟨⟨by decide +kernel, by decide +kernel⟩, List.mem_of_getElem? (i := 139) (by decide +kernel), List.mem_of_getElem? (i := 340) (by decide +kernel), List.mem_of_getElem? (i := 341) (by decide +kernel)⟩
theorem lw_p7 : lw_okq (⟨"BeachBars$Ride", "breakAt", "(LBeachBars$Sand;IIZ)V"⟩, 3) := ⟨⟨by decide +kernel, by decide +kernel⟩, List.mem_of_getElem? (i := 139) (by decide +kernel), List.mem_of_getElem? (i := 344) (by decide +kernel), List.mem_of_getElem? (i := 345) (by decide +kernel)⟩
theorem lw_p8 : lw_okq (⟨"BeachBars$Ride", "give", "(LBeachBars$Sand;II)I"⟩, 3) := ⟨⟨by decide +kernel, by decide +kernel⟩, List.mem_of_getElem? (i := 139) (by decide +kernel), List.mem_of_getElem? (i := 349) (by decide +kernel), List.mem_of_getElem? (i := 350) (by decide +kernel)⟩
theorem lw_p9 : lw_okq (⟨"BeachBars", "letSandFollow", "(I)I"⟩, 9) := ⟨⟨by decide +kernel, by decide +kernel⟩, List.mem_of_getElem? (i := 12) (by decide +kernel), List.mem_of_getElem? (i := 366) (by decide +kernel), List.mem_of_getElem? (i := 367) (by decide +kernel)⟩
theorem lw_p10 : lw_okq (⟨"BeachBars$Sand", "scourCell", "(II)I"⟩, 2) := ⟨⟨by decide +kernel, by decide +kernel⟩, List.mem_of_getElem? (i := 26) (by decide +kernel), List.mem_of_getElem? (i := 374) (by decide +kernel), List.mem_of_getElem? (i := 375) (by decide +kernel)⟩
theorem lw_p11 : lw_okq (⟨"BeachBars$Sand", "slumpRow", "(II)I"⟩, 2) := ⟨⟨by decide +kernel, by decide +kernel⟩, List.mem_of_getElem? (i := 26) (by decide +kernel), List.mem_of_getElem? (i := 383) (by decide +kernel), List.mem_of_getElem? (i := 384) (by decide +kernel)⟩
theorem lw_p12 : lw_okq (⟨"BeachBars$Sand", "slumpRowOnce", "(II)I"⟩, 2) := ⟨⟨by decide +kernel, by decide +kernel⟩, List.mem_of_getElem? (i := 26) (by decide +kernel), List.mem_of_getElem? (i := 388) (by decide +kernel), List.mem_of_getElem? (i := 389) (by decide +kernel)⟩
def lw_privs_1 : List (MethodName × Nat) := [(⟨"BeachBars$Sand", "isBarFrom", "(IIII)Z"⟩, 2), (⟨"BeachBars", "runWaves", "(I)I"⟩, 9), (⟨"BeachBars", "sortWaves", "()V"⟩, 9), (⟨"BeachBars", "runsEarlier", "(II)Z"⟩, 9), (⟨"BeachBars", "goesSeaward", "(I)Z"⟩, 9), (⟨"BeachBars$Ride", "begin", "(II)V"⟩, 3), (⟨"BeachBars$Ride", "end", "(II)V"⟩, 3), (⟨"BeachBars$Ride", "breakAt", "(LBeachBars$Sand;IIZ)V"⟩, 3), (⟨"BeachBars$Ride", "give", "(LBeachBars$Sand;II)I"⟩, 3), (⟨"BeachBars", "letSandFollow", "(I)I"⟩, 9), (⟨"BeachBars$Sand", "scourCell", "(II)I"⟩, 2), (⟨"BeachBars$Sand", "slumpRow", "(II)I"⟩, 2), (⟨"BeachBars$Sand", "slumpRowOnce", "(II)I"⟩, 2)]
theorem lw_r1 : ∀ q ∈ lw_privs_1, lw_okq q := List.forall_mem_cons.mpr ⟨lw_p0, List.forall_mem_cons.mpr ⟨lw_p1, List.forall_mem_cons.mpr ⟨lw_p2, List.forall_mem_cons.mpr ⟨lw_p3, List.forall_mem_cons.mpr ⟨lw_p4, List.forall_mem_cons.mpr ⟨lw_p5, List.forall_mem_cons.mpr ⟨lw_p6, List.forall_mem_cons.mpr ⟨lw_p7, List.forall_mem_cons.mpr ⟨lw_p8, List.forall_mem_cons.mpr ⟨lw_p9, List.forall_mem_cons.mpr ⟨lw_p10, List.forall_mem_cons.mpr ⟨lw_p11, List.forall_mem_cons.mpr ⟨lw_p12, fun _ h => absurd h List.not_mem_nil⟩⟩⟩⟩⟩⟩⟩⟩⟩⟩⟩⟩⟩
def lw_privs : List (MethodName × Nat) := lw_privs_1
def lw_tbl : List Cond := k2_sels lw_privs ++ tables_1
theorem lw_privs_ok : ∀ q ∈ lw_privs, lw_okq q := lw_r1
theorem goodIn_r {big : List Cond} (ws : List Cond) (ps : List Nat) (hp : ws = ps.filterMap (fun i => big[i]?)) (h : ws.all goodWord = true) : GoodIn big ws := by
  intro w hw
  have h1 := List.all_eq_true.mp h w hw
  rw [hp] at hw
  obtain ⟨i, -, hi⟩ := List.mem_filterMap.mp hw
  have hm : w ∈ big := by first | exact List.mem_of_getElem? hi | exact List.getElem?_mem hi
  exact ⟨hm, good_of_word h1⟩
def RX0 : String := "BeachBars$History"
def TX0 : u_T := fun k => match k with
  | 0 => ("BeachBars$History", "states", "[LBeachBars$State;", true)
  | 1 => ("BeachBars$History", "next", "I", false)
  | _ => ("BeachBars$History", "size", "I", false)
def tyX0 : Nat → FieldType := fun k => match k with
  | 0 => .array (.object "BeachBars$State")
  | 1 => .int
  | _ => .int
abbrev wsX00 : List Cond := u_ws RX0 TX0 3
theorem nmX0 : ∀ a, a < 3 → ∀ b, b < 3 → a ≠ b → (TX0 a).2.1 ≠ (TX0 b).2.1 := by decide +kernel
theorem tyX0_ok : ∀ k, k < 3 → parseFieldDescriptor (TX0 k).2.2.1 = some (tyX0 k) := by decide +kernel
abbrev cX0_init : ByteArray := prog_2_method_1_code
def yX0_init : MethodName := ⟨RX0, "<init>", "()V"⟩
abbrev cX0_size : ByteArray := prog_2_method_2_code
def yX0_size : MethodName := ⟨RX0, "size", "()I"⟩
abbrev cX0_record : ByteArray := prog_2_method_3_code
def yX0_record : MethodName := ⟨RX0, "record", "(LBeachBars$State;)V"⟩
abbrev cX0_takeBack : ByteArray := prog_2_method_4_code
def yX0_takeBack : MethodName := ⟨RX0, "takeBack", "(LBeachBars$State;)V"⟩
def RX1 : String := "BeachBars$Queue"
def TX1 : u_T := fun k => match k with
  | 0 => ("BeachBars$Queue", "rows", "[I", true)
  | 1 => ("BeachBars$Queue", "heights", "[I", true)
  | _ => ("BeachBars$Queue", "size", "I", false)
def tyX1 : Nat → FieldType := fun k => match k with
  | 0 => .array .int
  | 1 => .array .int
  | _ => .int
abbrev wsX10 : List Cond := u_ws RX1 TX1 3
theorem nmX1 : ∀ a, a < 3 → ∀ b, b < 3 → a ≠ b → (TX1 a).2.1 ≠ (TX1 b).2.1 := by decide +kernel
theorem tyX1_ok : ∀ k, k < 3 → parseFieldDescriptor (TX1 k).2.2.1 = some (tyX1 k) := by decide +kernel
abbrev cX1_init : ByteArray := prog_3_method_1_code
def yX1_init : MethodName := ⟨RX1, "<init>", "()V"⟩
abbrev cX1_copyFrom : ByteArray := prog_3_method_2_code
def yX1_copyFrom : MethodName := ⟨RX1, "copyFrom", "(LBeachBars$Queue;)V"⟩
abbrev cX1_size : ByteArray := prog_3_method_3_code
def yX1_size : MethodName := ⟨RX1, "size", "()I"⟩
abbrev cX1_rowOf : ByteArray := prog_3_method_4_code
def yX1_rowOf : MethodName := ⟨RX1, "rowOf", "(I)I"⟩
abbrev cX1_heightOf : ByteArray := prog_3_method_5_code
def yX1_heightOf : MethodName := ⟨RX1, "heightOf", "(I)I"⟩
abbrev cX1_add : ByteArray := prog_3_method_6_code
def yX1_add : MethodName := ⟨RX1, "add", "(II)V"⟩
abbrev cX1_hasBetween : ByteArray := prog_3_method_8_code
def yX1_hasBetween : MethodName := ⟨RX1, "hasBetween", "(II)Z"⟩
abbrev cX1_removeBetween : ByteArray := prog_3_method_9_code
def yX1_removeBetween : MethodName := ⟨RX1, "removeBetween", "(II)I"⟩
abbrev cX1_removeAll : ByteArray := prog_3_method_10_code
def yX1_removeAll : MethodName := ⟨RX1, "removeAll", "()V"⟩
def RX2 : String := "BeachBars$Ride"
def TX2 : u_T := fun k => match k with
  | 0 => ("BeachBars$Ride", "facts", "[I", true)
  | 1 => ("BeachBars$Ride", "toTheDeep", "I", false)
  | _ => ("BeachBars$Ride", "toTheDune", "I", false)
def tyX2 : Nat → FieldType := fun k => match k with
  | 0 => .array .int
  | 1 => .int
  | _ => .int
abbrev wsX20 : List Cond := u_ws RX2 TX2 3
theorem nmX2 : ∀ a, a < 3 → ∀ b, b < 3 → a ≠ b → (TX2 a).2.1 ≠ (TX2 b).2.1 := by decide +kernel
theorem tyX2_ok : ∀ k, k < 3 → parseFieldDescriptor (TX2 k).2.2.1 = some (tyX2 k) := by decide +kernel
abbrev cX2_init : ByteArray := prog_4_method_1_code
def yX2_init : MethodName := ⟨RX2, "<init>", "()V"⟩
abbrev cX2_fact : ByteArray := prog_4_method_2_code
def yX2_fact : MethodName := ⟨RX2, "fact", "(I)I"⟩
abbrev cX2_go : ByteArray := prog_4_method_3_code
def yX2_go : MethodName := ⟨RX2, "go", "(LBeachBars$Sand;IIIZ)V"⟩
abbrev cX2_begin : ByteArray := prog_4_method_4_code
def yX2_begin : MethodName := ⟨RX2, "begin", "(II)V"⟩
abbrev cX2_end : ByteArray := prog_4_method_5_code
def yX2_end : MethodName := ⟨RX2, "end", "(II)V"⟩
abbrev cX2_breakAt : ByteArray := prog_4_method_6_code
def yX2_breakAt : MethodName := ⟨RX2, "breakAt", "(LBeachBars$Sand;IIZ)V"⟩
abbrev cX2_give : ByteArray := prog_4_method_7_code
def yX2_give : MethodName := ⟨RX2, "give", "(LBeachBars$Sand;II)I"⟩
def RX3 : String := "BeachBars$Sand"
def TX3 : u_T := fun k => match k with
  | 0 => ("BeachBars$Sand", "heights", "[I", true)
  | _ => ("BeachBars$Sand", "gapsFound", "[I", true)
def tyX3 : Nat → FieldType := fun k => match k with
  | 0 => .array .int
  | _ => .array .int
abbrev wsX30 : List Cond := u_ws RX3 TX3 2
theorem nmX3 : ∀ a, a < 2 → ∀ b, b < 2 → a ≠ b → (TX3 a).2.1 ≠ (TX3 b).2.1 := by decide +kernel
theorem tyX3_ok : ∀ k, k < 2 → parseFieldDescriptor (TX3 k).2.2.1 = some (tyX3 k) := by decide +kernel
abbrev cX3_init : ByteArray := prog_5_method_1_code
def yX3_init : MethodName := ⟨RX3, "<init>", "()V"⟩
abbrev cX3_copyFrom : ByteArray := prog_5_method_2_code
def yX3_copyFrom : MethodName := ⟨RX3, "copyFrom", "(LBeachBars$Sand;)V"⟩
abbrev cX3_heightAt : ByteArray := prog_5_method_3_code
def yX3_heightAt : MethodName := ⟨RX3, "heightAt", "(II)I"⟩
abbrev cX3_setHeight : ByteArray := prog_5_method_4_code
def yX3_setHeight : MethodName := ⟨RX3, "setHeight", "(III)V"⟩
abbrev cX3_addTo : ByteArray := prog_5_method_5_code
def yX3_addTo : MethodName := ⟨RX3, "addTo", "(III)V"⟩
abbrev cX3_between : ByteArray := prog_5_method_6_code
def yX3_between : MethodName := ⟨RX3, "between", "(II)I"⟩
abbrev cX3_all : ByteArray := prog_5_method_7_code
def yX3_all : MethodName := ⟨RX3, "all", "()I"⟩
abbrev cX3_inRow : ByteArray := prog_5_method_8_code
def yX3_inRow : MethodName := ⟨RX3, "inRow", "(I)I"⟩
abbrev cX3_isDry : ByteArray := prog_5_method_9_code
def yX3_isDry : MethodName := ⟨RX3, "isDry", "(III)Z"⟩
abbrev cX3_isBar : ByteArray := prog_5_method_10_code
def yX3_isBar : MethodName := ⟨RX3, "isBar", "(III)Z"⟩
abbrev cX3_isGap : ByteArray := prog_5_method_11_code
def yX3_isGap : MethodName := ⟨RX3, "isGap", "(IIII)Z"⟩
abbrev cX3_isBarFrom : ByteArray := prog_5_method_12_code
def yX3_isBarFrom : MethodName := ⟨RX3, "isBarFrom", "(IIII)Z"⟩
abbrev cX3_bars : ByteArray := prog_5_method_13_code
def yX3_bars : MethodName := ⟨RX3, "bars", "(II)I"⟩
abbrev cX3_gaps : ByteArray := prog_5_method_14_code
def yX3_gaps : MethodName := ⟨RX3, "gaps", "(III)I"⟩
abbrev cX3_allBars : ByteArray := prog_5_method_15_code
def yX3_allBars : MethodName := ⟨RX3, "allBars", "(I)I"⟩
abbrev cX3_allGaps : ByteArray := prog_5_method_16_code
def yX3_allGaps : MethodName := ⟨RX3, "allGaps", "(II)I"⟩
abbrev cX3_allDry : ByteArray := prog_5_method_17_code
def yX3_allDry : MethodName := ⟨RX3, "allDry", "(I)I"⟩
abbrev cX3_lastDry : ByteArray := prog_5_method_18_code
def yX3_lastDry : MethodName := ⟨RX3, "lastDry", "(II)I"⟩
abbrev cX3_greatestDifference : ByteArray := prog_5_method_19_code
def yX3_greatestDifference : MethodName := ⟨RX3, "greatestDifference", "(I)I"⟩
abbrev cX3_highestBar : ByteArray := prog_5_method_20_code
def yX3_highestBar : MethodName := ⟨RX3, "highestBar", "(II)I"⟩
abbrev cX3_scour : ByteArray := prog_5_method_21_code
def yX3_scour : MethodName := ⟨RX3, "scour", "(II)I"⟩
abbrev cX3_scourCell : ByteArray := prog_5_method_22_code
def yX3_scourCell : MethodName := ⟨RX3, "scourCell", "(II)I"⟩
abbrev cX3_slump : ByteArray := prog_5_method_23_code
def yX3_slump : MethodName := ⟨RX3, "slump", "(I)I"⟩
abbrev cX3_slumpRow : ByteArray := prog_5_method_24_code
def yX3_slumpRow : MethodName := ⟨RX3, "slumpRow", "(II)I"⟩
abbrev cX3_slumpRowOnce : ByteArray := prog_5_method_25_code
def yX3_slumpRowOnce : MethodName := ⟨RX3, "slumpRowOnce", "(II)I"⟩
def RX4 : String := "BeachBars$State"
def TX4 : u_T := fun k => match k with
  | 0 => ("BeachBars$State", "beach", "LBeachBars$Sand;", true)
  | 1 => ("BeachBars$State", "queue", "LBeachBars$Queue;", true)
  | 2 => ("BeachBars$State", "settings", "[I", true)
  | 3 => ("BeachBars$State", "totals", "[I", true)
  | 4 => ("BeachBars$State", "tales", "[I", true)
  | 5 => ("BeachBars$State", "told", "I", false)
  | _ => ("BeachBars$State", "level", "I", false)
def tyX4 : Nat → FieldType := fun k => match k with
  | 0 => .object "BeachBars$Sand"
  | 1 => .object "BeachBars$Queue"
  | 2 => .array .int
  | 3 => .array .int
  | 4 => .array .int
  | 5 => .int
  | _ => .int
abbrev wsX40 : List Cond := u_ws RX4 TX4 7
theorem nmX4 : ∀ a, a < 7 → ∀ b, b < 7 → a ≠ b → (TX4 a).2.1 ≠ (TX4 b).2.1 := by decide +kernel
theorem tyX4_ok : ∀ k, k < 7 → parseFieldDescriptor (TX4 k).2.2.1 = some (tyX4 k) := by decide +kernel
abbrev cX4_init : ByteArray := prog_6_method_1_code
def yX4_init : MethodName := ⟨RX4, "<init>", "()V"⟩
abbrev cX4_copyFrom : ByteArray := prog_6_method_2_code
def yX4_copyFrom : MethodName := ⟨RX4, "copyFrom", "(LBeachBars$State;)V"⟩
abbrev cX4_takeOver : ByteArray := prog_6_method_3_code
def yX4_takeOver : MethodName := ⟨RX4, "takeOver", "(LBeachBars$Ride;I)V"⟩
def RX5 : String := "BeachBars$WaveText"
def TX5 : u_T := fun k => match k with
  | 0 => ("BeachBars$WaveText", "signs", "[C", true)
  | 1 => ("BeachBars$WaveText", "length", "I", false)
  | 2 => ("BeachBars$WaveText", "found", "LBeachBars$Queue;", true)
  | 3 => ("BeachBars$WaveText", "waves", "I", false)
  | 4 => ("BeachBars$WaveText", "row", "I", false)
  | 5 => ("BeachBars$WaveText", "height", "I", false)
  | _ => ("BeachBars$WaveText", "times", "I", false)
def tyX5 : Nat → FieldType := fun k => match k with
  | 0 => .array .char
  | 1 => .int
  | 2 => .object "BeachBars$Queue"
  | 3 => .int
  | 4 => .int
  | 5 => .int
  | _ => .int
abbrev wsX50 : List Cond := u_ws RX5 TX5 7
theorem nmX5 : ∀ a, a < 7 → ∀ b, b < 7 → a ≠ b → (TX5 a).2.1 ≠ (TX5 b).2.1 := by decide +kernel
theorem tyX5_ok : ∀ k, k < 7 → parseFieldDescriptor (TX5 k).2.2.1 = some (tyX5 k) := by decide +kernel
abbrev cX5_init : ByteArray := prog_7_method_1_code
def yX5_init : MethodName := ⟨RX5, "<init>", "()V"⟩
abbrev cX5_length : ByteArray := prog_7_method_2_code
def yX5_length : MethodName := ⟨RX5, "length", "()I"⟩
def RX6 : String := "BeachBars"
def TX6 : u_T := fun k => match k with
  | 0 => ("BeachBars", "now", "LBeachBars$State;", true)
  | 1 => ("BeachBars", "before", "LBeachBars$State;", true)
  | 2 => ("BeachBars", "snapshot", "LBeachBars$State;", true)
  | 3 => ("BeachBars", "hasSnapshot", "Z", false)
  | 4 => ("BeachBars", "history", "LBeachBars$History;", true)
  | 5 => ("BeachBars", "text", "LBeachBars$WaveText;", true)
  | 6 => ("BeachBars", "ride", "LBeachBars$Ride;", true)
  | 7 => ("BeachBars", "trial", "LBeachBars$Sand;", true)
  | _ => ("BeachBars", "order", "[I", true)
def tyX6 : Nat → FieldType := fun k => match k with
  | 0 => .object "BeachBars$State"
  | 1 => .object "BeachBars$State"
  | 2 => .object "BeachBars$State"
  | 3 => .boolean
  | 4 => .object "BeachBars$History"
  | 5 => .object "BeachBars$WaveText"
  | 6 => .object "BeachBars$Ride"
  | 7 => .object "BeachBars$Sand"
  | _ => .array .int
abbrev wsX60 : List Cond := u_ws RX6 TX6 9
theorem nmX6 : ∀ a, a < 9 → ∀ b, b < 9 → a ≠ b → (TX6 a).2.1 ≠ (TX6 b).2.1 := by decide +kernel
theorem tyX6_ok : ∀ k, k < 9 → parseFieldDescriptor (TX6 k).2.2.1 = some (tyX6 k) := by decide +kernel
abbrev cX6_init : ByteArray := prog_1_method_1_code
def yX6_init : MethodName := ⟨RX6, "<init>", "()V"⟩
abbrev cX6_dump : ByteArray := prog_1_method_2_code
def yX6_dump : MethodName := ⟨RX6, "dump", "(III)I"⟩
abbrev cX6_setLevel : ByteArray := prog_1_method_3_code
def yX6_setLevel : MethodName := ⟨RX6, "setLevel", "(I)I"⟩
abbrev cX6_set : ByteArray := prog_1_method_4_code
def yX6_set : MethodName := ⟨RX6, "set", "(II)I"⟩
abbrev cX6_wave : ByteArray := prog_1_method_5_code
def yX6_wave : MethodName := ⟨RX6, "wave", "(II)I"⟩
abbrev cX6_strike : ByteArray := prog_1_method_7_code
def yX6_strike : MethodName := ⟨RX6, "strike", "(II)I"⟩
abbrev cX6_run : ByteArray := prog_1_method_8_code
def yX6_run : MethodName := ⟨RX6, "run", "(I)I"⟩
abbrev cX6_settle : ByteArray := prog_1_method_9_code
def yX6_settle : MethodName := ⟨RX6, "settle", "()I"⟩
abbrev cX6_undo : ByteArray := prog_1_method_12_code
def yX6_undo : MethodName := ⟨RX6, "undo", "()I"⟩
abbrev cX6_cell : ByteArray := prog_1_method_15_code
def yX6_cell : MethodName := ⟨RX6, "cell", "(III)I"⟩
abbrev cX6_row : ByteArray := prog_1_method_16_code
def yX6_row : MethodName := ⟨RX6, "row", "(II)I"⟩
abbrev cX6_waiting : ByteArray := prog_1_method_17_code
def yX6_waiting : MethodName := ⟨RX6, "waiting", "(IZ)I"⟩
abbrev cX6_ended : ByteArray := prog_1_method_18_code
def yX6_ended : MethodName := ⟨RX6, "ended", "(II)I"⟩
abbrev cX6_would : ByteArray := prog_1_method_19_code
def yX6_would : MethodName := ⟨RX6, "would", "(III)I"⟩
abbrev cX6_sand : ByteArray := prog_1_method_20_code
def yX6_sand : MethodName := ⟨RX6, "sand", "(II)I"⟩
abbrev cX6_count : ByteArray := prog_1_method_21_code
def yX6_count : MethodName := ⟨RX6, "count", "(I)I"⟩
abbrev cX6_isRow : ByteArray := prog_1_method_22_code
def yX6_isRow : MethodName := ⟨RX6, "isRow", "(I)Z"⟩
abbrev cX6_isCell : ByteArray := prog_1_method_23_code
def yX6_isCell : MethodName := ⟨RX6, "isCell", "(I)Z"⟩
abbrev cX6_isWaveHeight : ByteArray := prog_1_method_24_code
def yX6_isWaveHeight : MethodName := ⟨RX6, "isWaveHeight", "(I)Z"⟩
abbrev cX6_firstHeight : ByteArray := prog_1_method_25_code
def yX6_firstHeight : MethodName := ⟨RX6, "firstHeight", "(I)I"⟩
abbrev cX6_goesSeaward : ByteArray := prog_1_method_26_code
def yX6_goesSeaward : MethodName := ⟨RX6, "goesSeaward", "(I)Z"⟩
abbrev cX6_runWaves : ByteArray := prog_1_method_27_code
def yX6_runWaves : MethodName := ⟨RX6, "runWaves", "(I)I"⟩
abbrev cX6_sortWaves : ByteArray := prog_1_method_28_code
def yX6_sortWaves : MethodName := ⟨RX6, "sortWaves", "()V"⟩
abbrev cX6_runsEarlier : ByteArray := prog_1_method_29_code
def yX6_runsEarlier : MethodName := ⟨RX6, "runsEarlier", "(II)Z"⟩
abbrev cX6_letSandFollow : ByteArray := prog_1_method_30_code
def yX6_letSandFollow : MethodName := ⟨RX6, "letSandFollow", "(I)I"⟩
def RX7 : String := "BeachBarsModel"
def TX7 : u_T := fun k => match k with
  | _ => ("", "", "", false)
def tyX7 : Nat → FieldType := fun k => match k with
  | _ => .int
abbrev wsX70 : List Cond := u_ws RX7 TX7 0
theorem nmX7 : ∀ a, a < 0 → ∀ b, b < 0 → a ≠ b → (TX7 a).2.1 ≠ (TX7 b).2.1 := by decide +kernel
theorem tyX7_ok : ∀ k, k < 0 → parseFieldDescriptor (TX7 k).2.2.1 = some (tyX7 k) := by decide +kernel
def RJ6 : String := "java/lang/Integer"
def TJ6 : u_T := fun k => match k with
  | _ => ("", "", "", false)
def tyJ6 : Nat → FieldType := fun k => match k with
  | _ => .int
abbrev wsJ60 : List Cond := u_ws RJ6 TJ6 0
theorem nmJ6 : ∀ a, a < 0 → ∀ b, b < 0 → a ≠ b → (TJ6 a).2.1 ≠ (TJ6 b).2.1 := by decide +kernel
theorem tyJ6_ok : ∀ k, k < 0 → parseFieldDescriptor (TJ6 k).2.2.1 = some (tyJ6 k) := by decide +kernel
abbrev cJ6_bitCount_0f7a4 : ByteArray := prog_10_method_49_code
def yJ6_bitCount_0f7a4 : MethodName := ⟨RJ6, "bitCount", "(I)I"⟩
def RJ9 : String := "java/lang/Math"
def TJ9 : u_T := fun k => match k with
  | _ => ("", "", "", false)
def tyJ9 : Nat → FieldType := fun k => match k with
  | _ => .int
abbrev wsJ90 : List Cond := u_ws RJ9 TJ9 0
theorem nmJ9 : ∀ a, a < 0 → ∀ b, b < 0 → a ≠ b → (TJ9 a).2.1 ≠ (TJ9 b).2.1 := by decide +kernel
theorem tyJ9_ok : ∀ k, k < 0 → parseFieldDescriptor (TJ9 k).2.2.1 = some (tyJ9 k) := by decide +kernel
abbrev cJ9_abs_0f7a4 : ByteArray := prog_11_method_59_code
def yJ9_abs_0f7a4 : MethodName := ⟨RJ9, "abs", "(I)I"⟩
abbrev cJ9_max_7cf53 : ByteArray := prog_11_method_65_code
def yJ9_max_7cf53 : MethodName := ⟨RJ9, "max", "(II)I"⟩
abbrev cJ9_min_7cf53 : ByteArray := prog_11_method_69_code
def yJ9_min_7cf53 : MethodName := ⟨RJ9, "min", "(II)I"⟩
def RJ10 : String := "java/lang/System"
def TJ10 : u_T := fun k => match k with
  | _ => ("", "", "", false)
def tyJ10 : Nat → FieldType := fun k => match k with
  | _ => .int
abbrev wsJ100 : List Cond := u_ws RJ10 TJ10 0
theorem nmJ10 : ∀ a, a < 0 → ∀ b, b < 0 → a ≠ b → (TJ10 a).2.1 ≠ (TJ10 b).2.1 := by decide +kernel
theorem tyJ10_ok : ∀ k, k < 0 → parseFieldDescriptor (TJ10 k).2.2.1 = some (tyJ10 k) := by decide +kernel
def RL : String := "BeachBarsLaw"
abbrev cL_cell : ByteArray := method_2_code
def yL_cell : MethodName := ⟨RL, "cell", "([II)I"⟩
abbrev cL_up : ByteArray := method_3_code
def yL_up : MethodName := ⟨RL, "up", "(II)I"⟩
abbrev cL_isStep : ByteArray := method_4_code
def yL_isStep : MethodName := ⟨RL, "isStep", "(LBeachBars;LBeachBars;II)Z"⟩
abbrev cL_areSame : ByteArray := method_5_code
def yL_areSame : MethodName := ⟨RL, "areSame", "(LBeachBars;LBeachBars;I)Z"⟩
abbrev cL_isBalanced : ByteArray := method_6_code
def yL_isBalanced : MethodName := ⟨RL, "isBalanced", "(LBeachBars;)Z"⟩
abbrev cL_areEnded : ByteArray := method_7_code
def yL_areEnded : MethodName := ⟨RL, "areEnded", "(LBeachBars;LBeachBars;II)Z"⟩
abbrev cL_areAlike : ByteArray := method_8_code
def yL_areAlike : MethodName := ⟨RL, "areAlike", "(LBeachBars;LBeachBars;I)Z"⟩
abbrev cL_isWell : ByteArray := method_9_code
def yL_isWell : MethodName := ⟨RL, "isWell", "(LBeachBars;)Z"⟩
abbrev cL_law : ByteArray := code
def yL_law : MethodName := ⟨RL, "law", "([I)Z"⟩
theorem dX0_init_0 : decode cX0_init 0 = .ok (.aload_n 0, 1) := by decide +kernel
theorem dX0_init_1 : decode cX0_init 1 = .ok (.invokespecial 3, 3) := by decide +kernel
theorem dX0_init_4 : decode cX0_init 4 = .ok (.aload_n 0, 1) := by decide +kernel
theorem dX0_init_5 : decode cX0_init 5 = .ok (.iconst 4, 1) := by decide +kernel
theorem dX0_init_6 : decode cX0_init 6 = .ok (.anewarray 9, 3) := by decide +kernel
theorem dX0_init_9 : decode cX0_init 9 = .ok (.putfield 11, 3) := by decide +kernel
theorem dX0_init_12 : decode cX0_init 12 = .ok (.iconst 0, 1) := by decide +kernel
theorem dX0_init_13 : decode cX0_init 13 = .ok (.istore_n 1, 1) := by decide +kernel
theorem dX0_init_14 : decode cX0_init 14 = .ok (.iload_n 1, 1) := by decide +kernel
theorem dX0_init_15 : decode cX0_init 15 = .ok (.iconst 4, 1) := by decide +kernel
theorem dX0_init_16 : decode cX0_init 16 = .ok (.if_icmp .ge 22, 3) := by decide +kernel
theorem dX0_init_19 : decode cX0_init 19 = .ok (.aload_n 0, 1) := by decide +kernel
theorem dX0_init_20 : decode cX0_init 20 = .ok (.getfield 11, 3) := by decide +kernel
theorem dX0_init_23 : decode cX0_init 23 = .ok (.iload_n 1, 1) := by decide +kernel
theorem dX0_init_24 : decode cX0_init 24 = .ok (.new 9, 3) := by decide +kernel
theorem dX0_init_27 : decode cX0_init 27 = .ok (.dup, 1) := by decide +kernel
theorem dX0_init_28 : decode cX0_init 28 = .ok (.invokespecial 17, 3) := by decide +kernel
theorem dX0_init_31 : decode cX0_init 31 = .ok (.aastore, 1) := by decide +kernel
theorem dX0_init_32 : decode cX0_init 32 = .ok (.iinc 1 1, 3) := by decide +kernel
theorem dX0_init_35 : decode cX0_init 35 = .ok (.goto (-21), 3) := by decide +kernel
theorem dX0_init_38 : decode cX0_init 38 = .ok (.return_, 1) := by decide +kernel
theorem dX0_size_0 : decode cX0_size 0 = .ok (.aload_n 0, 1) := by decide +kernel
theorem dX0_size_1 : decode cX0_size 1 = .ok (.getfield 18, 3) := by decide +kernel
theorem dX0_size_4 : decode cX0_size 4 = .ok (.ireturn, 1) := by decide +kernel
theorem dX0_record_0 : decode cX0_record 0 = .ok (.aload_n 0, 1) := by decide +kernel
theorem dX0_record_1 : decode cX0_record 1 = .ok (.getfield 11, 3) := by decide +kernel
theorem dX0_record_4 : decode cX0_record 4 = .ok (.aload_n 0, 1) := by decide +kernel
theorem dX0_record_5 : decode cX0_record 5 = .ok (.getfield 22, 3) := by decide +kernel
theorem dX0_record_8 : decode cX0_record 8 = .ok (.aaload, 1) := by decide +kernel
theorem dX0_record_9 : decode cX0_record 9 = .ok (.aload_n 1, 1) := by decide +kernel
theorem dX0_record_10 : decode cX0_record 10 = .ok (.invokevirtual 25, 3) := by decide +kernel
theorem dX0_record_13 : decode cX0_record 13 = .ok (.aload_n 0, 1) := by decide +kernel
theorem dX0_record_14 : decode cX0_record 14 = .ok (.aload_n 0, 1) := by decide +kernel
theorem dX0_record_15 : decode cX0_record 15 = .ok (.getfield 22, 3) := by decide +kernel
theorem dX0_record_18 : decode cX0_record 18 = .ok (.iconst 1, 1) := by decide +kernel
theorem dX0_record_19 : decode cX0_record 19 = .ok (.iadd, 1) := by decide +kernel
theorem dX0_record_20 : decode cX0_record 20 = .ok (.iconst 4, 1) := by decide +kernel
theorem dX0_record_21 : decode cX0_record 21 = .ok (.irem, 1) := by decide +kernel
theorem dX0_record_22 : decode cX0_record 22 = .ok (.putfield 22, 3) := by decide +kernel
theorem dX0_record_25 : decode cX0_record 25 = .ok (.aload_n 0, 1) := by decide +kernel
theorem dX0_record_26 : decode cX0_record 26 = .ok (.aload_n 0, 1) := by decide +kernel
theorem dX0_record_27 : decode cX0_record 27 = .ok (.getfield 18, 3) := by decide +kernel
theorem dX0_record_30 : decode cX0_record 30 = .ok (.iconst 1, 1) := by decide +kernel
theorem dX0_record_31 : decode cX0_record 31 = .ok (.iadd, 1) := by decide +kernel
theorem dX0_record_32 : decode cX0_record 32 = .ok (.iconst 4, 1) := by decide +kernel
theorem dX0_record_33 : decode cX0_record 33 = .ok (.invokestatic 29, 3) := by decide +kernel
theorem dX0_record_36 : decode cX0_record 36 = .ok (.putfield 18, 3) := by decide +kernel
theorem dX0_record_39 : decode cX0_record 39 = .ok (.return_, 1) := by decide +kernel
theorem dX0_takeBack_0 : decode cX0_takeBack 0 = .ok (.aload_n 0, 1) := by decide +kernel
theorem dX0_takeBack_1 : decode cX0_takeBack 1 = .ok (.aload_n 0, 1) := by decide +kernel
theorem dX0_takeBack_2 : decode cX0_takeBack 2 = .ok (.getfield 22, 3) := by decide +kernel
theorem dX0_takeBack_5 : decode cX0_takeBack 5 = .ok (.iconst 4, 1) := by decide +kernel
theorem dX0_takeBack_6 : decode cX0_takeBack 6 = .ok (.iadd, 1) := by decide +kernel
theorem dX0_takeBack_7 : decode cX0_takeBack 7 = .ok (.iconst 1, 1) := by decide +kernel
theorem dX0_takeBack_8 : decode cX0_takeBack 8 = .ok (.isub, 1) := by decide +kernel
theorem dX0_takeBack_9 : decode cX0_takeBack 9 = .ok (.iconst 4, 1) := by decide +kernel
theorem dX0_takeBack_10 : decode cX0_takeBack 10 = .ok (.irem, 1) := by decide +kernel
theorem dX0_takeBack_11 : decode cX0_takeBack 11 = .ok (.putfield 22, 3) := by decide +kernel
theorem dX0_takeBack_14 : decode cX0_takeBack 14 = .ok (.aload_n 0, 1) := by decide +kernel
theorem dX0_takeBack_15 : decode cX0_takeBack 15 = .ok (.dup, 1) := by decide +kernel
theorem dX0_takeBack_16 : decode cX0_takeBack 16 = .ok (.getfield 18, 3) := by decide +kernel
theorem dX0_takeBack_19 : decode cX0_takeBack 19 = .ok (.iconst 1, 1) := by decide +kernel
theorem dX0_takeBack_20 : decode cX0_takeBack 20 = .ok (.isub, 1) := by decide +kernel
theorem dX0_takeBack_21 : decode cX0_takeBack 21 = .ok (.putfield 18, 3) := by decide +kernel
theorem dX0_takeBack_24 : decode cX0_takeBack 24 = .ok (.aload_n 1, 1) := by decide +kernel
theorem dX0_takeBack_25 : decode cX0_takeBack 25 = .ok (.aload_n 0, 1) := by decide +kernel
theorem dX0_takeBack_26 : decode cX0_takeBack 26 = .ok (.getfield 11, 3) := by decide +kernel
theorem dX0_takeBack_29 : decode cX0_takeBack 29 = .ok (.aload_n 0, 1) := by decide +kernel
theorem dX0_takeBack_30 : decode cX0_takeBack 30 = .ok (.getfield 22, 3) := by decide +kernel
theorem dX0_takeBack_33 : decode cX0_takeBack 33 = .ok (.aaload, 1) := by decide +kernel
theorem dX0_takeBack_34 : decode cX0_takeBack 34 = .ok (.invokevirtual 25, 3) := by decide +kernel
theorem dX0_takeBack_37 : decode cX0_takeBack 37 = .ok (.return_, 1) := by decide +kernel
theorem dX1_init_0 : decode cX1_init 0 = .ok (.aload_n 0, 1) := by decide +kernel
theorem dX1_init_1 : decode cX1_init 1 = .ok (.invokespecial 3, 3) := by decide +kernel
theorem dX1_init_4 : decode cX1_init 4 = .ok (.aload_n 0, 1) := by decide +kernel
theorem dX1_init_5 : decode cX1_init 5 = .ok (.bipush 24, 2) := by decide +kernel
theorem dX1_init_7 : decode cX1_init 7 = .ok (.newarray .int, 2) := by decide +kernel
theorem dX1_init_9 : decode cX1_init 9 = .ok (.putfield 9, 3) := by decide +kernel
theorem dX1_init_12 : decode cX1_init 12 = .ok (.aload_n 0, 1) := by decide +kernel
theorem dX1_init_13 : decode cX1_init 13 = .ok (.bipush 24, 2) := by decide +kernel
theorem dX1_init_15 : decode cX1_init 15 = .ok (.newarray .int, 2) := by decide +kernel
theorem dX1_init_17 : decode cX1_init 17 = .ok (.putfield 15, 3) := by decide +kernel
theorem dX1_init_20 : decode cX1_init 20 = .ok (.return_, 1) := by decide +kernel
theorem dX1_copyFrom_0 : decode cX1_copyFrom 0 = .ok (.aload_n 1, 1) := by decide +kernel
theorem dX1_copyFrom_1 : decode cX1_copyFrom 1 = .ok (.getfield 9, 3) := by decide +kernel
theorem dX1_copyFrom_4 : decode cX1_copyFrom 4 = .ok (.iconst 0, 1) := by decide +kernel
theorem dX1_copyFrom_5 : decode cX1_copyFrom 5 = .ok (.aload_n 0, 1) := by decide +kernel
theorem dX1_copyFrom_6 : decode cX1_copyFrom 6 = .ok (.getfield 9, 3) := by decide +kernel
theorem dX1_copyFrom_9 : decode cX1_copyFrom 9 = .ok (.iconst 0, 1) := by decide +kernel
theorem dX1_copyFrom_10 : decode cX1_copyFrom 10 = .ok (.bipush 24, 2) := by decide +kernel
theorem dX1_copyFrom_12 : decode cX1_copyFrom 12 = .ok (.invokestatic 18, 3) := by decide +kernel
theorem dX1_copyFrom_15 : decode cX1_copyFrom 15 = .ok (.aload_n 1, 1) := by decide +kernel
theorem dX1_copyFrom_16 : decode cX1_copyFrom 16 = .ok (.getfield 15, 3) := by decide +kernel
theorem dX1_copyFrom_19 : decode cX1_copyFrom 19 = .ok (.iconst 0, 1) := by decide +kernel
theorem dX1_copyFrom_20 : decode cX1_copyFrom 20 = .ok (.aload_n 0, 1) := by decide +kernel
theorem dX1_copyFrom_21 : decode cX1_copyFrom 21 = .ok (.getfield 15, 3) := by decide +kernel
theorem dX1_copyFrom_24 : decode cX1_copyFrom 24 = .ok (.iconst 0, 1) := by decide +kernel
theorem dX1_copyFrom_25 : decode cX1_copyFrom 25 = .ok (.bipush 24, 2) := by decide +kernel
theorem dX1_copyFrom_27 : decode cX1_copyFrom 27 = .ok (.invokestatic 18, 3) := by decide +kernel
theorem dX1_copyFrom_30 : decode cX1_copyFrom 30 = .ok (.aload_n 0, 1) := by decide +kernel
theorem dX1_copyFrom_31 : decode cX1_copyFrom 31 = .ok (.aload_n 1, 1) := by decide +kernel
theorem dX1_copyFrom_32 : decode cX1_copyFrom 32 = .ok (.getfield 24, 3) := by decide +kernel
theorem dX1_copyFrom_35 : decode cX1_copyFrom 35 = .ok (.putfield 24, 3) := by decide +kernel
theorem dX1_copyFrom_38 : decode cX1_copyFrom 38 = .ok (.return_, 1) := by decide +kernel
theorem dX1_size_0 : decode cX1_size 0 = .ok (.aload_n 0, 1) := by decide +kernel
theorem dX1_size_1 : decode cX1_size 1 = .ok (.getfield 24, 3) := by decide +kernel
theorem dX1_size_4 : decode cX1_size 4 = .ok (.ireturn, 1) := by decide +kernel
theorem dX1_rowOf_0 : decode cX1_rowOf 0 = .ok (.aload_n 0, 1) := by decide +kernel
theorem dX1_rowOf_1 : decode cX1_rowOf 1 = .ok (.getfield 9, 3) := by decide +kernel
theorem dX1_rowOf_4 : decode cX1_rowOf 4 = .ok (.iload_n 1, 1) := by decide +kernel
theorem dX1_rowOf_5 : decode cX1_rowOf 5 = .ok (.iaload, 1) := by decide +kernel
theorem dX1_rowOf_6 : decode cX1_rowOf 6 = .ok (.ireturn, 1) := by decide +kernel
theorem dX1_heightOf_0 : decode cX1_heightOf 0 = .ok (.aload_n 0, 1) := by decide +kernel
theorem dX1_heightOf_1 : decode cX1_heightOf 1 = .ok (.getfield 15, 3) := by decide +kernel
theorem dX1_heightOf_4 : decode cX1_heightOf 4 = .ok (.iload_n 1, 1) := by decide +kernel
theorem dX1_heightOf_5 : decode cX1_heightOf 5 = .ok (.iaload, 1) := by decide +kernel
theorem dX1_heightOf_6 : decode cX1_heightOf 6 = .ok (.ireturn, 1) := by decide +kernel
theorem dX1_add_0 : decode cX1_add 0 = .ok (.aload_n 0, 1) := by decide +kernel
theorem dX1_add_1 : decode cX1_add 1 = .ok (.getfield 24, 3) := by decide +kernel
theorem dX1_add_4 : decode cX1_add 4 = .ok (.bipush 24, 2) := by decide +kernel
theorem dX1_add_6 : decode cX1_add 6 = .ok (.if_icmp .ge 33, 3) := by decide +kernel
theorem dX1_add_9 : decode cX1_add 9 = .ok (.aload_n 0, 1) := by decide +kernel
theorem dX1_add_10 : decode cX1_add 10 = .ok (.getfield 9, 3) := by decide +kernel
theorem dX1_add_13 : decode cX1_add 13 = .ok (.aload_n 0, 1) := by decide +kernel
theorem dX1_add_14 : decode cX1_add 14 = .ok (.getfield 24, 3) := by decide +kernel
theorem dX1_add_17 : decode cX1_add 17 = .ok (.iload_n 1, 1) := by decide +kernel
theorem dX1_add_18 : decode cX1_add 18 = .ok (.iastore, 1) := by decide +kernel
theorem dX1_add_19 : decode cX1_add 19 = .ok (.aload_n 0, 1) := by decide +kernel
theorem dX1_add_20 : decode cX1_add 20 = .ok (.getfield 15, 3) := by decide +kernel
theorem dX1_add_23 : decode cX1_add 23 = .ok (.aload_n 0, 1) := by decide +kernel
theorem dX1_add_24 : decode cX1_add 24 = .ok (.getfield 24, 3) := by decide +kernel
theorem dX1_add_27 : decode cX1_add 27 = .ok (.iload_n 2, 1) := by decide +kernel
theorem dX1_add_28 : decode cX1_add 28 = .ok (.iastore, 1) := by decide +kernel
theorem dX1_add_29 : decode cX1_add 29 = .ok (.aload_n 0, 1) := by decide +kernel
theorem dX1_add_30 : decode cX1_add 30 = .ok (.dup, 1) := by decide +kernel
theorem dX1_add_31 : decode cX1_add 31 = .ok (.getfield 24, 3) := by decide +kernel
theorem dX1_add_34 : decode cX1_add 34 = .ok (.iconst 1, 1) := by decide +kernel
theorem dX1_add_35 : decode cX1_add 35 = .ok (.iadd, 1) := by decide +kernel
theorem dX1_add_36 : decode cX1_add 36 = .ok (.putfield 24, 3) := by decide +kernel
theorem dX1_add_39 : decode cX1_add 39 = .ok (.return_, 1) := by decide +kernel
theorem dX1_hasBetween_0 : decode cX1_hasBetween 0 = .ok (.iconst 0, 1) := by decide +kernel
theorem dX1_hasBetween_1 : decode cX1_hasBetween 1 = .ok (.istore_n 3, 1) := by decide +kernel
theorem dX1_hasBetween_2 : decode cX1_hasBetween 2 = .ok (.iload_n 3, 1) := by decide +kernel
theorem dX1_hasBetween_3 : decode cX1_hasBetween 3 = .ok (.aload_n 0, 1) := by decide +kernel
theorem dX1_hasBetween_4 : decode cX1_hasBetween 4 = .ok (.getfield 24, 3) := by decide +kernel
theorem dX1_hasBetween_7 : decode cX1_hasBetween 7 = .ok (.if_icmp .ge 31, 3) := by decide +kernel
theorem dX1_hasBetween_10 : decode cX1_hasBetween 10 = .ok (.aload_n 0, 1) := by decide +kernel
theorem dX1_hasBetween_11 : decode cX1_hasBetween 11 = .ok (.getfield 15, 3) := by decide +kernel
theorem dX1_hasBetween_14 : decode cX1_hasBetween 14 = .ok (.iload_n 3, 1) := by decide +kernel
theorem dX1_hasBetween_15 : decode cX1_hasBetween 15 = .ok (.iaload, 1) := by decide +kernel
theorem dX1_hasBetween_16 : decode cX1_hasBetween 16 = .ok (.iload_n 1, 1) := by decide +kernel
theorem dX1_hasBetween_17 : decode cX1_hasBetween 17 = .ok (.if_icmp .lt 15, 3) := by decide +kernel
theorem dX1_hasBetween_20 : decode cX1_hasBetween 20 = .ok (.aload_n 0, 1) := by decide +kernel
theorem dX1_hasBetween_21 : decode cX1_hasBetween 21 = .ok (.getfield 15, 3) := by decide +kernel
theorem dX1_hasBetween_24 : decode cX1_hasBetween 24 = .ok (.iload_n 3, 1) := by decide +kernel
theorem dX1_hasBetween_25 : decode cX1_hasBetween 25 = .ok (.iaload, 1) := by decide +kernel
theorem dX1_hasBetween_26 : decode cX1_hasBetween 26 = .ok (.iload_n 2, 1) := by decide +kernel
theorem dX1_hasBetween_27 : decode cX1_hasBetween 27 = .ok (.if_icmp .gt 5, 3) := by decide +kernel
theorem dX1_hasBetween_30 : decode cX1_hasBetween 30 = .ok (.iconst 1, 1) := by decide +kernel
theorem dX1_hasBetween_31 : decode cX1_hasBetween 31 = .ok (.ireturn, 1) := by decide +kernel
theorem dX1_hasBetween_32 : decode cX1_hasBetween 32 = .ok (.iinc 3 1, 3) := by decide +kernel
theorem dX1_hasBetween_35 : decode cX1_hasBetween 35 = .ok (.goto (-33), 3) := by decide +kernel
theorem dX1_hasBetween_38 : decode cX1_hasBetween 38 = .ok (.iconst 0, 1) := by decide +kernel
theorem dX1_hasBetween_39 : decode cX1_hasBetween 39 = .ok (.ireturn, 1) := by decide +kernel
theorem dX1_removeBetween_0 : decode cX1_removeBetween 0 = .ok (.iconst 0, 1) := by decide +kernel
theorem dX1_removeBetween_1 : decode cX1_removeBetween 1 = .ok (.istore_n 3, 1) := by decide +kernel
theorem dX1_removeBetween_2 : decode cX1_removeBetween 2 = .ok (.iconst 0, 1) := by decide +kernel
theorem dX1_removeBetween_3 : decode cX1_removeBetween 3 = .ok (.istore 4, 2) := by decide +kernel
theorem dX1_removeBetween_5 : decode cX1_removeBetween 5 = .ok (.iload 4, 2) := by decide +kernel
theorem dX1_removeBetween_7 : decode cX1_removeBetween 7 = .ok (.aload_n 0, 1) := by decide +kernel
theorem dX1_removeBetween_8 : decode cX1_removeBetween 8 = .ok (.getfield 24, 3) := by decide +kernel
theorem dX1_removeBetween_11 : decode cX1_removeBetween 11 = .ok (.if_icmp .ge 60, 3) := by decide +kernel
theorem dX1_removeBetween_14 : decode cX1_removeBetween 14 = .ok (.aload_n 0, 1) := by decide +kernel
theorem dX1_removeBetween_15 : decode cX1_removeBetween 15 = .ok (.getfield 15, 3) := by decide +kernel
theorem dX1_removeBetween_18 : decode cX1_removeBetween 18 = .ok (.iload 4, 2) := by decide +kernel
theorem dX1_removeBetween_20 : decode cX1_removeBetween 20 = .ok (.iaload, 1) := by decide +kernel
theorem dX1_removeBetween_21 : decode cX1_removeBetween 21 = .ok (.iload_n 1, 1) := by decide +kernel
theorem dX1_removeBetween_22 : decode cX1_removeBetween 22 = .ok (.if_icmp .lt 14, 3) := by decide +kernel
theorem dX1_removeBetween_25 : decode cX1_removeBetween 25 = .ok (.aload_n 0, 1) := by decide +kernel
theorem dX1_removeBetween_26 : decode cX1_removeBetween 26 = .ok (.getfield 15, 3) := by decide +kernel
theorem dX1_removeBetween_29 : decode cX1_removeBetween 29 = .ok (.iload 4, 2) := by decide +kernel
theorem dX1_removeBetween_31 : decode cX1_removeBetween 31 = .ok (.iaload, 1) := by decide +kernel
theorem dX1_removeBetween_32 : decode cX1_removeBetween 32 = .ok (.iload_n 2, 1) := by decide +kernel
theorem dX1_removeBetween_33 : decode cX1_removeBetween 33 = .ok (.if_icmp .le 32, 3) := by decide +kernel
theorem dX1_removeBetween_36 : decode cX1_removeBetween 36 = .ok (.aload_n 0, 1) := by decide +kernel
theorem dX1_removeBetween_37 : decode cX1_removeBetween 37 = .ok (.getfield 9, 3) := by decide +kernel
theorem dX1_removeBetween_40 : decode cX1_removeBetween 40 = .ok (.iload_n 3, 1) := by decide +kernel
theorem dX1_removeBetween_41 : decode cX1_removeBetween 41 = .ok (.aload_n 0, 1) := by decide +kernel
theorem dX1_removeBetween_42 : decode cX1_removeBetween 42 = .ok (.getfield 9, 3) := by decide +kernel
theorem dX1_removeBetween_45 : decode cX1_removeBetween 45 = .ok (.iload 4, 2) := by decide +kernel
theorem dX1_removeBetween_47 : decode cX1_removeBetween 47 = .ok (.iaload, 1) := by decide +kernel
theorem dX1_removeBetween_48 : decode cX1_removeBetween 48 = .ok (.iastore, 1) := by decide +kernel
theorem dX1_removeBetween_49 : decode cX1_removeBetween 49 = .ok (.aload_n 0, 1) := by decide +kernel
theorem dX1_removeBetween_50 : decode cX1_removeBetween 50 = .ok (.getfield 15, 3) := by decide +kernel
theorem dX1_removeBetween_53 : decode cX1_removeBetween 53 = .ok (.iload_n 3, 1) := by decide +kernel
theorem dX1_removeBetween_54 : decode cX1_removeBetween 54 = .ok (.aload_n 0, 1) := by decide +kernel
theorem dX1_removeBetween_55 : decode cX1_removeBetween 55 = .ok (.getfield 15, 3) := by decide +kernel
theorem dX1_removeBetween_58 : decode cX1_removeBetween 58 = .ok (.iload 4, 2) := by decide +kernel
theorem dX1_removeBetween_60 : decode cX1_removeBetween 60 = .ok (.iaload, 1) := by decide +kernel
theorem dX1_removeBetween_61 : decode cX1_removeBetween 61 = .ok (.iastore, 1) := by decide +kernel
theorem dX1_removeBetween_62 : decode cX1_removeBetween 62 = .ok (.iinc 3 1, 3) := by decide +kernel
theorem dX1_removeBetween_65 : decode cX1_removeBetween 65 = .ok (.iinc 4 1, 3) := by decide +kernel
theorem dX1_removeBetween_68 : decode cX1_removeBetween 68 = .ok (.goto (-63), 3) := by decide +kernel
theorem dX1_removeBetween_71 : decode cX1_removeBetween 71 = .ok (.aload_n 0, 1) := by decide +kernel
theorem dX1_removeBetween_72 : decode cX1_removeBetween 72 = .ok (.getfield 24, 3) := by decide +kernel
theorem dX1_removeBetween_75 : decode cX1_removeBetween 75 = .ok (.iload_n 3, 1) := by decide +kernel
theorem dX1_removeBetween_76 : decode cX1_removeBetween 76 = .ok (.isub, 1) := by decide +kernel
theorem dX1_removeBetween_77 : decode cX1_removeBetween 77 = .ok (.istore 4, 2) := by decide +kernel
theorem dX1_removeBetween_79 : decode cX1_removeBetween 79 = .ok (.aload_n 0, 1) := by decide +kernel
theorem dX1_removeBetween_80 : decode cX1_removeBetween 80 = .ok (.iload_n 3, 1) := by decide +kernel
theorem dX1_removeBetween_81 : decode cX1_removeBetween 81 = .ok (.putfield 24, 3) := by decide +kernel
theorem dX1_removeBetween_84 : decode cX1_removeBetween 84 = .ok (.iload 4, 2) := by decide +kernel
theorem dX1_removeBetween_86 : decode cX1_removeBetween 86 = .ok (.ireturn, 1) := by decide +kernel
theorem dX1_removeAll_0 : decode cX1_removeAll 0 = .ok (.aload_n 0, 1) := by decide +kernel
theorem dX1_removeAll_1 : decode cX1_removeAll 1 = .ok (.iconst 0, 1) := by decide +kernel
theorem dX1_removeAll_2 : decode cX1_removeAll 2 = .ok (.putfield 24, 3) := by decide +kernel
theorem dX1_removeAll_5 : decode cX1_removeAll 5 = .ok (.return_, 1) := by decide +kernel
theorem dX2_init_0 : decode cX2_init 0 = .ok (.aload_n 0, 1) := by decide +kernel
theorem dX2_init_1 : decode cX2_init 1 = .ok (.invokespecial 3, 3) := by decide +kernel
theorem dX2_init_4 : decode cX2_init 4 = .ok (.aload_n 0, 1) := by decide +kernel
theorem dX2_init_5 : decode cX2_init 5 = .ok (.bipush 7, 2) := by decide +kernel
theorem dX2_init_7 : decode cX2_init 7 = .ok (.newarray .int, 2) := by decide +kernel
theorem dX2_init_9 : decode cX2_init 9 = .ok (.putfield 9, 3) := by decide +kernel
theorem dX2_init_12 : decode cX2_init 12 = .ok (.return_, 1) := by decide +kernel
theorem dX2_fact_0 : decode cX2_fact 0 = .ok (.aload_n 0, 1) := by decide +kernel
theorem dX2_fact_1 : decode cX2_fact 1 = .ok (.getfield 9, 3) := by decide +kernel
theorem dX2_fact_4 : decode cX2_fact 4 = .ok (.iload_n 1, 1) := by decide +kernel
theorem dX2_fact_5 : decode cX2_fact 5 = .ok (.iaload, 1) := by decide +kernel
theorem dX2_fact_6 : decode cX2_fact 6 = .ok (.ireturn, 1) := by decide +kernel
theorem dX2_go_0 : decode cX2_go 0 = .ok (.aload_n 0, 1) := by decide +kernel
theorem dX2_go_1 : decode cX2_go 1 = .ok (.iload_n 2, 1) := by decide +kernel
theorem dX2_go_2 : decode cX2_go 2 = .ok (.iload_n 3, 1) := by decide +kernel
theorem dX2_go_3 : decode cX2_go 3 = .ok (.invokevirtual 15, 3) := by decide +kernel
theorem dX2_go_6 : decode cX2_go 6 = .ok (.iload_n 3, 1) := by decide +kernel
theorem dX2_go_7 : decode cX2_go 7 = .ok (.istore 6, 2) := by decide +kernel
theorem dX2_go_9 : decode cX2_go 9 = .ok (.bipush 19, 2) := by decide +kernel
theorem dX2_go_11 : decode cX2_go 11 = .ok (.istore 7, 2) := by decide +kernel
theorem dX2_go_13 : decode cX2_go 13 = .ok (.iload 7, 2) := by decide +kernel
theorem dX2_go_15 : decode cX2_go 15 = .ok (.ifCond .lt 71, 3) := by decide +kernel
theorem dX2_go_18 : decode cX2_go 18 = .ok (.iload 4, 2) := by decide +kernel
theorem dX2_go_20 : decode cX2_go 20 = .ok (.aload_n 1, 1) := by decide +kernel
theorem dX2_go_21 : decode cX2_go 21 = .ok (.iload_n 2, 1) := by decide +kernel
theorem dX2_go_22 : decode cX2_go 22 = .ok (.iload 7, 2) := by decide +kernel
theorem dX2_go_24 : decode cX2_go 24 = .ok (.invokevirtual 19, 3) := by decide +kernel
theorem dX2_go_27 : decode cX2_go 27 = .ok (.isub, 1) := by decide +kernel
theorem dX2_go_28 : decode cX2_go 28 = .ok (.istore 8, 2) := by decide +kernel
theorem dX2_go_30 : decode cX2_go 30 = .ok (.iload 8, 2) := by decide +kernel
theorem dX2_go_32 : decode cX2_go 32 = .ok (.ifCond .gt 11, 3) := by decide +kernel
theorem dX2_go_35 : decode cX2_go 35 = .ok (.aload_n 0, 1) := by decide +kernel
theorem dX2_go_36 : decode cX2_go 36 = .ok (.iload 7, 2) := by decide +kernel
theorem dX2_go_38 : decode cX2_go 38 = .ok (.iconst 1, 1) := by decide +kernel
theorem dX2_go_39 : decode cX2_go 39 = .ok (.invokevirtual 25, 3) := by decide +kernel
theorem dX2_go_42 : decode cX2_go 42 = .ok (.return_, 1) := by decide +kernel
theorem dX2_go_43 : decode cX2_go 43 = .ok (.iload 8, 2) := by decide +kernel
theorem dX2_go_45 : decode cX2_go 45 = .ok (.iload 6, 2) := by decide +kernel
theorem dX2_go_47 : decode cX2_go 47 = .ok (.if_icmp .ge 33, 3) := by decide +kernel
theorem dX2_go_50 : decode cX2_go 50 = .ok (.aload_n 0, 1) := by decide +kernel
theorem dX2_go_51 : decode cX2_go 51 = .ok (.aload_n 1, 1) := by decide +kernel
theorem dX2_go_52 : decode cX2_go 52 = .ok (.iload 7, 2) := by decide +kernel
theorem dX2_go_54 : decode cX2_go 54 = .ok (.iload 6, 2) := by decide +kernel
theorem dX2_go_56 : decode cX2_go 56 = .ok (.iload 5, 2) := by decide +kernel
theorem dX2_go_58 : decode cX2_go 58 = .ok (.invokevirtual 28, 3) := by decide +kernel
theorem dX2_go_61 : decode cX2_go 61 = .ok (.iload 6, 2) := by decide +kernel
theorem dX2_go_63 : decode cX2_go 63 = .ok (.iconst 2, 1) := by decide +kernel
theorem dX2_go_64 : decode cX2_go 64 = .ok (.idiv, 1) := by decide +kernel
theorem dX2_go_65 : decode cX2_go 65 = .ok (.istore 6, 2) := by decide +kernel
theorem dX2_go_67 : decode cX2_go 67 = .ok (.iload 6, 2) := by decide +kernel
theorem dX2_go_69 : decode cX2_go 69 = .ok (.ifCond .ne 11, 3) := by decide +kernel
theorem dX2_go_72 : decode cX2_go 72 = .ok (.aload_n 0, 1) := by decide +kernel
theorem dX2_go_73 : decode cX2_go 73 = .ok (.iload 7, 2) := by decide +kernel
theorem dX2_go_75 : decode cX2_go 75 = .ok (.iconst 2, 1) := by decide +kernel
theorem dX2_go_76 : decode cX2_go 76 = .ok (.invokevirtual 25, 3) := by decide +kernel
theorem dX2_go_79 : decode cX2_go 79 = .ok (.return_, 1) := by decide +kernel
theorem dX2_go_80 : decode cX2_go 80 = .ok (.iinc 7 (-1), 3) := by decide +kernel
theorem dX2_go_83 : decode cX2_go 83 = .ok (.goto (-70), 3) := by decide +kernel
theorem dX2_go_86 : decode cX2_go 86 = .ok (.aload_n 0, 1) := by decide +kernel
theorem dX2_go_87 : decode cX2_go 87 = .ok (.iconst (-1), 1) := by decide +kernel
theorem dX2_go_88 : decode cX2_go 88 = .ok (.iconst 3, 1) := by decide +kernel
theorem dX2_go_89 : decode cX2_go 89 = .ok (.invokevirtual 25, 3) := by decide +kernel
theorem dX2_go_92 : decode cX2_go 92 = .ok (.return_, 1) := by decide +kernel
theorem dX2_begin_0 : decode cX2_begin 0 = .ok (.aload_n 0, 1) := by decide +kernel
theorem dX2_begin_1 : decode cX2_begin 1 = .ok (.getfield 9, 3) := by decide +kernel
theorem dX2_begin_4 : decode cX2_begin 4 = .ok (.iconst 0, 1) := by decide +kernel
theorem dX2_begin_5 : decode cX2_begin 5 = .ok (.iload_n 1, 1) := by decide +kernel
theorem dX2_begin_6 : decode cX2_begin 6 = .ok (.iastore, 1) := by decide +kernel
theorem dX2_begin_7 : decode cX2_begin 7 = .ok (.aload_n 0, 1) := by decide +kernel
theorem dX2_begin_8 : decode cX2_begin 8 = .ok (.getfield 9, 3) := by decide +kernel
theorem dX2_begin_11 : decode cX2_begin 11 = .ok (.iconst 1, 1) := by decide +kernel
theorem dX2_begin_12 : decode cX2_begin 12 = .ok (.iload_n 2, 1) := by decide +kernel
theorem dX2_begin_13 : decode cX2_begin 13 = .ok (.iastore, 1) := by decide +kernel
theorem dX2_begin_14 : decode cX2_begin 14 = .ok (.aload_n 0, 1) := by decide +kernel
theorem dX2_begin_15 : decode cX2_begin 15 = .ok (.getfield 9, 3) := by decide +kernel
theorem dX2_begin_18 : decode cX2_begin 18 = .ok (.iconst 2, 1) := by decide +kernel
theorem dX2_begin_19 : decode cX2_begin 19 = .ok (.sipush (-1005), 3) := by decide +kernel
theorem dX2_begin_22 : decode cX2_begin 22 = .ok (.iastore, 1) := by decide +kernel
theorem dX2_begin_23 : decode cX2_begin 23 = .ok (.aload_n 0, 1) := by decide +kernel
theorem dX2_begin_24 : decode cX2_begin 24 = .ok (.getfield 9, 3) := by decide +kernel
theorem dX2_begin_27 : decode cX2_begin 27 = .ok (.iconst 5, 1) := by decide +kernel
theorem dX2_begin_28 : decode cX2_begin 28 = .ok (.iconst 0, 1) := by decide +kernel
theorem dX2_begin_29 : decode cX2_begin 29 = .ok (.iastore, 1) := by decide +kernel
theorem dX2_begin_30 : decode cX2_begin 30 = .ok (.aload_n 0, 1) := by decide +kernel
theorem dX2_begin_31 : decode cX2_begin 31 = .ok (.getfield 9, 3) := by decide +kernel
theorem dX2_begin_34 : decode cX2_begin 34 = .ok (.bipush 6, 2) := by decide +kernel
theorem dX2_begin_36 : decode cX2_begin 36 = .ok (.iconst 0, 1) := by decide +kernel
theorem dX2_begin_37 : decode cX2_begin 37 = .ok (.iastore, 1) := by decide +kernel
theorem dX2_begin_38 : decode cX2_begin 38 = .ok (.aload_n 0, 1) := by decide +kernel
theorem dX2_begin_39 : decode cX2_begin 39 = .ok (.iconst 0, 1) := by decide +kernel
theorem dX2_begin_40 : decode cX2_begin 40 = .ok (.putfield 32, 3) := by decide +kernel
theorem dX2_begin_43 : decode cX2_begin 43 = .ok (.aload_n 0, 1) := by decide +kernel
theorem dX2_begin_44 : decode cX2_begin 44 = .ok (.iconst 0, 1) := by decide +kernel
theorem dX2_begin_45 : decode cX2_begin 45 = .ok (.putfield 36, 3) := by decide +kernel
theorem dX2_begin_48 : decode cX2_begin 48 = .ok (.return_, 1) := by decide +kernel
theorem dX2_end_0 : decode cX2_end 0 = .ok (.aload_n 0, 1) := by decide +kernel
theorem dX2_end_1 : decode cX2_end 1 = .ok (.getfield 9, 3) := by decide +kernel
theorem dX2_end_4 : decode cX2_end 4 = .ok (.iconst 3, 1) := by decide +kernel
theorem dX2_end_5 : decode cX2_end 5 = .ok (.iload_n 1, 1) := by decide +kernel
theorem dX2_end_6 : decode cX2_end 6 = .ok (.iastore, 1) := by decide +kernel
theorem dX2_end_7 : decode cX2_end 7 = .ok (.aload_n 0, 1) := by decide +kernel
theorem dX2_end_8 : decode cX2_end 8 = .ok (.getfield 9, 3) := by decide +kernel
theorem dX2_end_11 : decode cX2_end 11 = .ok (.iconst 4, 1) := by decide +kernel
theorem dX2_end_12 : decode cX2_end 12 = .ok (.iload_n 2, 1) := by decide +kernel
theorem dX2_end_13 : decode cX2_end 13 = .ok (.iastore, 1) := by decide +kernel
theorem dX2_end_14 : decode cX2_end 14 = .ok (.return_, 1) := by decide +kernel
theorem dX2_breakAt_0 : decode cX2_breakAt 0 = .ok (.aload_n 0, 1) := by decide +kernel
theorem dX2_breakAt_1 : decode cX2_breakAt 1 = .ok (.getfield 9, 3) := by decide +kernel
theorem dX2_breakAt_4 : decode cX2_breakAt 4 = .ok (.iconst 5, 1) := by decide +kernel
theorem dX2_breakAt_5 : decode cX2_breakAt 5 = .ok (.iaload, 1) := by decide +kernel
theorem dX2_breakAt_6 : decode cX2_breakAt 6 = .ok (.ifCond .ne 10, 3) := by decide +kernel
theorem dX2_breakAt_9 : decode cX2_breakAt 9 = .ok (.aload_n 0, 1) := by decide +kernel
theorem dX2_breakAt_10 : decode cX2_breakAt 10 = .ok (.getfield 9, 3) := by decide +kernel
theorem dX2_breakAt_13 : decode cX2_breakAt 13 = .ok (.iconst 2, 1) := by decide +kernel
theorem dX2_breakAt_14 : decode cX2_breakAt 14 = .ok (.iload_n 2, 1) := by decide +kernel
theorem dX2_breakAt_15 : decode cX2_breakAt 15 = .ok (.iastore, 1) := by decide +kernel
theorem dX2_breakAt_16 : decode cX2_breakAt 16 = .ok (.aload_n 0, 1) := by decide +kernel
theorem dX2_breakAt_17 : decode cX2_breakAt 17 = .ok (.getfield 9, 3) := by decide +kernel
theorem dX2_breakAt_20 : decode cX2_breakAt 20 = .ok (.iconst 5, 1) := by decide +kernel
theorem dX2_breakAt_21 : decode cX2_breakAt 21 = .ok (.dup2, 1) := by decide +kernel
theorem dX2_breakAt_22 : decode cX2_breakAt 22 = .ok (.iaload, 1) := by decide +kernel
theorem dX2_breakAt_23 : decode cX2_breakAt 23 = .ok (.iconst 1, 1) := by decide +kernel
theorem dX2_breakAt_24 : decode cX2_breakAt 24 = .ok (.iadd, 1) := by decide +kernel
theorem dX2_breakAt_25 : decode cX2_breakAt 25 = .ok (.iastore, 1) := by decide +kernel
theorem dX2_breakAt_26 : decode cX2_breakAt 26 = .ok (.aload_n 0, 1) := by decide +kernel
theorem dX2_breakAt_27 : decode cX2_breakAt 27 = .ok (.getfield 9, 3) := by decide +kernel
theorem dX2_breakAt_30 : decode cX2_breakAt 30 = .ok (.iconst 0, 1) := by decide +kernel
theorem dX2_breakAt_31 : decode cX2_breakAt 31 = .ok (.iaload, 1) := by decide +kernel
theorem dX2_breakAt_32 : decode cX2_breakAt 32 = .ok (.istore 5, 2) := by decide +kernel
theorem dX2_breakAt_34 : decode cX2_breakAt 34 = .ok (.iconst 1, 1) := by decide +kernel
theorem dX2_breakAt_35 : decode cX2_breakAt 35 = .ok (.iload_n 3, 1) := by decide +kernel
theorem dX2_breakAt_36 : decode cX2_breakAt 36 = .ok (.iconst 5, 1) := by decide +kernel
theorem dX2_breakAt_37 : decode cX2_breakAt 37 = .ok (.idiv, 1) := by decide +kernel
theorem dX2_breakAt_38 : decode cX2_breakAt 38 = .ok (.iadd, 1) := by decide +kernel
theorem dX2_breakAt_39 : decode cX2_breakAt 39 = .ok (.aload_n 1, 1) := by decide +kernel
theorem dX2_breakAt_40 : decode cX2_breakAt 40 = .ok (.iload 5, 2) := by decide +kernel
theorem dX2_breakAt_42 : decode cX2_breakAt 42 = .ok (.iload_n 2, 1) := by decide +kernel
theorem dX2_breakAt_43 : decode cX2_breakAt 43 = .ok (.invokevirtual 19, 3) := by decide +kernel
theorem dX2_breakAt_46 : decode cX2_breakAt 46 = .ok (.invokestatic 39, 3) := by decide +kernel
theorem dX2_breakAt_49 : decode cX2_breakAt 49 = .ok (.istore 6, 2) := by decide +kernel
theorem dX2_breakAt_51 : decode cX2_breakAt 51 = .ok (.aload_n 0, 1) := by decide +kernel
theorem dX2_breakAt_52 : decode cX2_breakAt 52 = .ok (.aload_n 1, 1) := by decide +kernel
theorem dX2_breakAt_53 : decode cX2_breakAt 53 = .ok (.iload 4, 2) := by decide +kernel
theorem dX2_breakAt_55 : decode cX2_breakAt 55 = .ok (.ifCond .eq 9, 3) := by decide +kernel
theorem dX2_breakAt_58 : decode cX2_breakAt 58 = .ok (.iload_n 2, 1) := by decide +kernel
theorem dX2_breakAt_59 : decode cX2_breakAt 59 = .ok (.iconst 1, 1) := by decide +kernel
theorem dX2_breakAt_60 : decode cX2_breakAt 60 = .ok (.iadd, 1) := by decide +kernel
theorem dX2_breakAt_61 : decode cX2_breakAt 61 = .ok (.goto 6, 3) := by decide +kernel
theorem dX2_breakAt_64 : decode cX2_breakAt 64 = .ok (.iload_n 2, 1) := by decide +kernel
theorem dX2_breakAt_65 : decode cX2_breakAt 65 = .ok (.iconst 1, 1) := by decide +kernel
theorem dX2_breakAt_66 : decode cX2_breakAt 66 = .ok (.isub, 1) := by decide +kernel
theorem dX2_breakAt_67 : decode cX2_breakAt 67 = .ok (.iload 6, 2) := by decide +kernel
theorem dX2_breakAt_69 : decode cX2_breakAt 69 = .ok (.invokevirtual 44, 3) := by decide +kernel
theorem dX2_breakAt_72 : decode cX2_breakAt 72 = .ok (.istore 7, 2) := by decide +kernel
theorem dX2_breakAt_74 : decode cX2_breakAt 74 = .ok (.aload_n 1, 1) := by decide +kernel
theorem dX2_breakAt_75 : decode cX2_breakAt 75 = .ok (.iload 5, 2) := by decide +kernel
theorem dX2_breakAt_77 : decode cX2_breakAt 77 = .ok (.iload_n 2, 1) := by decide +kernel
theorem dX2_breakAt_78 : decode cX2_breakAt 78 = .ok (.iload 7, 2) := by decide +kernel
theorem dX2_breakAt_80 : decode cX2_breakAt 80 = .ok (.ineg, 1) := by decide +kernel
theorem dX2_breakAt_81 : decode cX2_breakAt 81 = .ok (.invokevirtual 48, 3) := by decide +kernel
theorem dX2_breakAt_84 : decode cX2_breakAt 84 = .ok (.aload_n 0, 1) := by decide +kernel
theorem dX2_breakAt_85 : decode cX2_breakAt 85 = .ok (.getfield 9, 3) := by decide +kernel
theorem dX2_breakAt_88 : decode cX2_breakAt 88 = .ok (.bipush 6, 2) := by decide +kernel
theorem dX2_breakAt_90 : decode cX2_breakAt 90 = .ok (.dup2, 1) := by decide +kernel
theorem dX2_breakAt_91 : decode cX2_breakAt 91 = .ok (.iaload, 1) := by decide +kernel
theorem dX2_breakAt_92 : decode cX2_breakAt 92 = .ok (.iload 7, 2) := by decide +kernel
theorem dX2_breakAt_94 : decode cX2_breakAt 94 = .ok (.iadd, 1) := by decide +kernel
theorem dX2_breakAt_95 : decode cX2_breakAt 95 = .ok (.iastore, 1) := by decide +kernel
theorem dX2_breakAt_96 : decode cX2_breakAt 96 = .ok (.return_, 1) := by decide +kernel
theorem dX2_give_0 : decode cX2_give 0 = .ok (.iload_n 2, 1) := by decide +kernel
theorem dX2_give_1 : decode cX2_give 1 = .ok (.ifCond .ge 15, 3) := by decide +kernel
theorem dX2_give_4 : decode cX2_give 4 = .ok (.aload_n 0, 1) := by decide +kernel
theorem dX2_give_5 : decode cX2_give 5 = .ok (.dup, 1) := by decide +kernel
theorem dX2_give_6 : decode cX2_give 6 = .ok (.getfield 36, 3) := by decide +kernel
theorem dX2_give_9 : decode cX2_give 9 = .ok (.iload_n 3, 1) := by decide +kernel
theorem dX2_give_10 : decode cX2_give 10 = .ok (.iadd, 1) := by decide +kernel
theorem dX2_give_11 : decode cX2_give 11 = .ok (.putfield 36, 3) := by decide +kernel
theorem dX2_give_14 : decode cX2_give 14 = .ok (.iload_n 3, 1) := by decide +kernel
theorem dX2_give_15 : decode cX2_give 15 = .ok (.ireturn, 1) := by decide +kernel
theorem dX2_give_16 : decode cX2_give 16 = .ok (.iload_n 2, 1) := by decide +kernel
theorem dX2_give_17 : decode cX2_give 17 = .ok (.bipush 20, 2) := by decide +kernel
theorem dX2_give_19 : decode cX2_give 19 = .ok (.if_icmp .lt 15, 3) := by decide +kernel
theorem dX2_give_22 : decode cX2_give 22 = .ok (.aload_n 0, 1) := by decide +kernel
theorem dX2_give_23 : decode cX2_give 23 = .ok (.dup, 1) := by decide +kernel
theorem dX2_give_24 : decode cX2_give 24 = .ok (.getfield 32, 3) := by decide +kernel
theorem dX2_give_27 : decode cX2_give 27 = .ok (.iload_n 3, 1) := by decide +kernel
theorem dX2_give_28 : decode cX2_give 28 = .ok (.iadd, 1) := by decide +kernel
theorem dX2_give_29 : decode cX2_give 29 = .ok (.putfield 32, 3) := by decide +kernel
theorem dX2_give_32 : decode cX2_give 32 = .ok (.iload_n 3, 1) := by decide +kernel
theorem dX2_give_33 : decode cX2_give 33 = .ok (.ireturn, 1) := by decide +kernel
theorem dX2_give_34 : decode cX2_give 34 = .ok (.aload_n 0, 1) := by decide +kernel
theorem dX2_give_35 : decode cX2_give 35 = .ok (.getfield 9, 3) := by decide +kernel
theorem dX2_give_38 : decode cX2_give 38 = .ok (.iconst 0, 1) := by decide +kernel
theorem dX2_give_39 : decode cX2_give 39 = .ok (.iaload, 1) := by decide +kernel
theorem dX2_give_40 : decode cX2_give 40 = .ok (.istore 4, 2) := by decide +kernel
theorem dX2_give_42 : decode cX2_give 42 = .ok (.iload_n 3, 1) := by decide +kernel
theorem dX2_give_43 : decode cX2_give 43 = .ok (.bipush 99, 2) := by decide +kernel
theorem dX2_give_45 : decode cX2_give 45 = .ok (.aload_n 1, 1) := by decide +kernel
theorem dX2_give_46 : decode cX2_give 46 = .ok (.iload 4, 2) := by decide +kernel
theorem dX2_give_48 : decode cX2_give 48 = .ok (.iload_n 2, 1) := by decide +kernel
theorem dX2_give_49 : decode cX2_give 49 = .ok (.invokevirtual 19, 3) := by decide +kernel
theorem dX2_give_52 : decode cX2_give 52 = .ok (.isub, 1) := by decide +kernel
theorem dX2_give_53 : decode cX2_give 53 = .ok (.invokestatic 39, 3) := by decide +kernel
theorem dX2_give_56 : decode cX2_give 56 = .ok (.istore 5, 2) := by decide +kernel
theorem dX2_give_58 : decode cX2_give 58 = .ok (.aload_n 1, 1) := by decide +kernel
theorem dX2_give_59 : decode cX2_give 59 = .ok (.iload 4, 2) := by decide +kernel
theorem dX2_give_61 : decode cX2_give 61 = .ok (.iload_n 2, 1) := by decide +kernel
theorem dX2_give_62 : decode cX2_give 62 = .ok (.iload 5, 2) := by decide +kernel
theorem dX2_give_64 : decode cX2_give 64 = .ok (.invokevirtual 48, 3) := by decide +kernel
theorem dX2_give_67 : decode cX2_give 67 = .ok (.iload 5, 2) := by decide +kernel
theorem dX2_give_69 : decode cX2_give 69 = .ok (.ireturn, 1) := by decide +kernel
theorem dX3_init_0 : decode cX3_init 0 = .ok (.aload_n 0, 1) := by decide +kernel
theorem dX3_init_1 : decode cX3_init 1 = .ok (.invokespecial 3, 3) := by decide +kernel
theorem dX3_init_4 : decode cX3_init 4 = .ok (.aload_n 0, 1) := by decide +kernel
theorem dX3_init_5 : decode cX3_init 5 = .ok (.bipush 80, 2) := by decide +kernel
theorem dX3_init_7 : decode cX3_init 7 = .ok (.newarray .int, 2) := by decide +kernel
theorem dX3_init_9 : decode cX3_init 9 = .ok (.putfield 9, 3) := by decide +kernel
theorem dX3_init_12 : decode cX3_init 12 = .ok (.aload_n 0, 1) := by decide +kernel
theorem dX3_init_13 : decode cX3_init 13 = .ok (.iconst 4, 1) := by decide +kernel
theorem dX3_init_14 : decode cX3_init 14 = .ok (.newarray .int, 2) := by decide +kernel
theorem dX3_init_16 : decode cX3_init 16 = .ok (.putfield 15, 3) := by decide +kernel
theorem dX3_init_19 : decode cX3_init 19 = .ok (.iconst 0, 1) := by decide +kernel
theorem dX3_init_20 : decode cX3_init 20 = .ok (.istore_n 1, 1) := by decide +kernel
theorem dX3_init_21 : decode cX3_init 21 = .ok (.iload_n 1, 1) := by decide +kernel
theorem dX3_init_22 : decode cX3_init 22 = .ok (.aload_n 0, 1) := by decide +kernel
theorem dX3_init_23 : decode cX3_init 23 = .ok (.getfield 9, 3) := by decide +kernel
theorem dX3_init_26 : decode cX3_init 26 = .ok (.arraylength, 1) := by decide +kernel
theorem dX3_init_27 : decode cX3_init 27 = .ok (.if_icmp .ge 22, 3) := by decide +kernel
theorem dX3_init_30 : decode cX3_init 30 = .ok (.aload_n 0, 1) := by decide +kernel
theorem dX3_init_31 : decode cX3_init 31 = .ok (.getfield 9, 3) := by decide +kernel
theorem dX3_init_34 : decode cX3_init 34 = .ok (.iload_n 1, 1) := by decide +kernel
theorem dX3_init_35 : decode cX3_init 35 = .ok (.iload_n 1, 1) := by decide +kernel
theorem dX3_init_36 : decode cX3_init 36 = .ok (.bipush 20, 2) := by decide +kernel
theorem dX3_init_38 : decode cX3_init 38 = .ok (.irem, 1) := by decide +kernel
theorem dX3_init_39 : decode cX3_init 39 = .ok (.invokestatic 18, 3) := by decide +kernel
theorem dX3_init_42 : decode cX3_init 42 = .ok (.iastore, 1) := by decide +kernel
theorem dX3_init_43 : decode cX3_init 43 = .ok (.iinc 1 1, 3) := by decide +kernel
theorem dX3_init_46 : decode cX3_init 46 = .ok (.goto (-25), 3) := by decide +kernel
theorem dX3_init_49 : decode cX3_init 49 = .ok (.return_, 1) := by decide +kernel
theorem dX3_copyFrom_0 : decode cX3_copyFrom 0 = .ok (.aload_n 1, 1) := by decide +kernel
theorem dX3_copyFrom_1 : decode cX3_copyFrom 1 = .ok (.getfield 9, 3) := by decide +kernel
theorem dX3_copyFrom_4 : decode cX3_copyFrom 4 = .ok (.iconst 0, 1) := by decide +kernel
theorem dX3_copyFrom_5 : decode cX3_copyFrom 5 = .ok (.aload_n 0, 1) := by decide +kernel
theorem dX3_copyFrom_6 : decode cX3_copyFrom 6 = .ok (.getfield 9, 3) := by decide +kernel
theorem dX3_copyFrom_9 : decode cX3_copyFrom 9 = .ok (.iconst 0, 1) := by decide +kernel
theorem dX3_copyFrom_10 : decode cX3_copyFrom 10 = .ok (.aload_n 0, 1) := by decide +kernel
theorem dX3_copyFrom_11 : decode cX3_copyFrom 11 = .ok (.getfield 9, 3) := by decide +kernel
theorem dX3_copyFrom_14 : decode cX3_copyFrom 14 = .ok (.arraylength, 1) := by decide +kernel
theorem dX3_copyFrom_15 : decode cX3_copyFrom 15 = .ok (.invokestatic 22, 3) := by decide +kernel
theorem dX3_copyFrom_18 : decode cX3_copyFrom 18 = .ok (.return_, 1) := by decide +kernel
theorem dX3_heightAt_0 : decode cX3_heightAt 0 = .ok (.aload_n 0, 1) := by decide +kernel
theorem dX3_heightAt_1 : decode cX3_heightAt 1 = .ok (.getfield 9, 3) := by decide +kernel
theorem dX3_heightAt_4 : decode cX3_heightAt 4 = .ok (.iload_n 1, 1) := by decide +kernel
theorem dX3_heightAt_5 : decode cX3_heightAt 5 = .ok (.bipush 20, 2) := by decide +kernel
theorem dX3_heightAt_7 : decode cX3_heightAt 7 = .ok (.imul, 1) := by decide +kernel
theorem dX3_heightAt_8 : decode cX3_heightAt 8 = .ok (.iload_n 2, 1) := by decide +kernel
theorem dX3_heightAt_9 : decode cX3_heightAt 9 = .ok (.iadd, 1) := by decide +kernel
theorem dX3_heightAt_10 : decode cX3_heightAt 10 = .ok (.iaload, 1) := by decide +kernel
theorem dX3_heightAt_11 : decode cX3_heightAt 11 = .ok (.ireturn, 1) := by decide +kernel
theorem dX3_setHeight_0 : decode cX3_setHeight 0 = .ok (.aload_n 0, 1) := by decide +kernel
theorem dX3_setHeight_1 : decode cX3_setHeight 1 = .ok (.getfield 9, 3) := by decide +kernel
theorem dX3_setHeight_4 : decode cX3_setHeight 4 = .ok (.iload_n 1, 1) := by decide +kernel
theorem dX3_setHeight_5 : decode cX3_setHeight 5 = .ok (.bipush 20, 2) := by decide +kernel
theorem dX3_setHeight_7 : decode cX3_setHeight 7 = .ok (.imul, 1) := by decide +kernel
theorem dX3_setHeight_8 : decode cX3_setHeight 8 = .ok (.iload_n 2, 1) := by decide +kernel
theorem dX3_setHeight_9 : decode cX3_setHeight 9 = .ok (.iadd, 1) := by decide +kernel
theorem dX3_setHeight_10 : decode cX3_setHeight 10 = .ok (.iload_n 3, 1) := by decide +kernel
theorem dX3_setHeight_11 : decode cX3_setHeight 11 = .ok (.iastore, 1) := by decide +kernel
theorem dX3_setHeight_12 : decode cX3_setHeight 12 = .ok (.return_, 1) := by decide +kernel
theorem dX3_addTo_0 : decode cX3_addTo 0 = .ok (.aload_n 0, 1) := by decide +kernel
theorem dX3_addTo_1 : decode cX3_addTo 1 = .ok (.getfield 9, 3) := by decide +kernel
theorem dX3_addTo_4 : decode cX3_addTo 4 = .ok (.iload_n 1, 1) := by decide +kernel
theorem dX3_addTo_5 : decode cX3_addTo 5 = .ok (.bipush 20, 2) := by decide +kernel
theorem dX3_addTo_7 : decode cX3_addTo 7 = .ok (.imul, 1) := by decide +kernel
theorem dX3_addTo_8 : decode cX3_addTo 8 = .ok (.iload_n 2, 1) := by decide +kernel
theorem dX3_addTo_9 : decode cX3_addTo 9 = .ok (.iadd, 1) := by decide +kernel
theorem dX3_addTo_10 : decode cX3_addTo 10 = .ok (.dup2, 1) := by decide +kernel
theorem dX3_addTo_11 : decode cX3_addTo 11 = .ok (.iaload, 1) := by decide +kernel
theorem dX3_addTo_12 : decode cX3_addTo 12 = .ok (.iload_n 3, 1) := by decide +kernel
theorem dX3_addTo_13 : decode cX3_addTo 13 = .ok (.iadd, 1) := by decide +kernel
theorem dX3_addTo_14 : decode cX3_addTo 14 = .ok (.iastore, 1) := by decide +kernel
theorem dX3_addTo_15 : decode cX3_addTo 15 = .ok (.return_, 1) := by decide +kernel
theorem dX3_between_0 : decode cX3_between 0 = .ok (.iconst 0, 1) := by decide +kernel
theorem dX3_between_1 : decode cX3_between 1 = .ok (.istore_n 3, 1) := by decide +kernel
theorem dX3_between_2 : decode cX3_between 2 = .ok (.iconst 0, 1) := by decide +kernel
theorem dX3_between_3 : decode cX3_between 3 = .ok (.istore 4, 2) := by decide +kernel
theorem dX3_between_5 : decode cX3_between 5 = .ok (.iload 4, 2) := by decide +kernel
theorem dX3_between_7 : decode cX3_between 7 = .ok (.iconst 4, 1) := by decide +kernel
theorem dX3_between_8 : decode cX3_between 8 = .ok (.if_icmp .ge 35, 3) := by decide +kernel
theorem dX3_between_11 : decode cX3_between 11 = .ok (.iload_n 1, 1) := by decide +kernel
theorem dX3_between_12 : decode cX3_between 12 = .ok (.istore 5, 2) := by decide +kernel
theorem dX3_between_14 : decode cX3_between 14 = .ok (.iload 5, 2) := by decide +kernel
theorem dX3_between_16 : decode cX3_between 16 = .ok (.iload_n 2, 1) := by decide +kernel
theorem dX3_between_17 : decode cX3_between 17 = .ok (.if_icmp .gt 20, 3) := by decide +kernel
theorem dX3_between_20 : decode cX3_between 20 = .ok (.iload_n 3, 1) := by decide +kernel
theorem dX3_between_21 : decode cX3_between 21 = .ok (.aload_n 0, 1) := by decide +kernel
theorem dX3_between_22 : decode cX3_between 22 = .ok (.iload 4, 2) := by decide +kernel
theorem dX3_between_24 : decode cX3_between 24 = .ok (.iload 5, 2) := by decide +kernel
theorem dX3_between_26 : decode cX3_between 26 = .ok (.invokevirtual 28, 3) := by decide +kernel
theorem dX3_between_29 : decode cX3_between 29 = .ok (.iadd, 1) := by decide +kernel
theorem dX3_between_30 : decode cX3_between 30 = .ok (.istore_n 3, 1) := by decide +kernel
theorem dX3_between_31 : decode cX3_between 31 = .ok (.iinc 5 1, 3) := by decide +kernel
theorem dX3_between_34 : decode cX3_between 34 = .ok (.goto (-20), 3) := by decide +kernel
theorem dX3_between_37 : decode cX3_between 37 = .ok (.iinc 4 1, 3) := by decide +kernel
theorem dX3_between_40 : decode cX3_between 40 = .ok (.goto (-35), 3) := by decide +kernel
theorem dX3_between_43 : decode cX3_between 43 = .ok (.iload_n 3, 1) := by decide +kernel
theorem dX3_between_44 : decode cX3_between 44 = .ok (.ireturn, 1) := by decide +kernel
theorem dX3_all_0 : decode cX3_all 0 = .ok (.aload_n 0, 1) := by decide +kernel
theorem dX3_all_1 : decode cX3_all 1 = .ok (.iconst 0, 1) := by decide +kernel
theorem dX3_all_2 : decode cX3_all 2 = .ok (.bipush 19, 2) := by decide +kernel
theorem dX3_all_4 : decode cX3_all 4 = .ok (.invokevirtual 32, 3) := by decide +kernel
theorem dX3_all_7 : decode cX3_all 7 = .ok (.ireturn, 1) := by decide +kernel
theorem dX3_inRow_0 : decode cX3_inRow 0 = .ok (.iconst 0, 1) := by decide +kernel
theorem dX3_inRow_1 : decode cX3_inRow 1 = .ok (.istore_n 2, 1) := by decide +kernel
theorem dX3_inRow_2 : decode cX3_inRow 2 = .ok (.iconst 0, 1) := by decide +kernel
theorem dX3_inRow_3 : decode cX3_inRow 3 = .ok (.istore_n 3, 1) := by decide +kernel
theorem dX3_inRow_4 : decode cX3_inRow 4 = .ok (.iload_n 3, 1) := by decide +kernel
theorem dX3_inRow_5 : decode cX3_inRow 5 = .ok (.bipush 20, 2) := by decide +kernel
theorem dX3_inRow_7 : decode cX3_inRow 7 = .ok (.if_icmp .ge 18, 3) := by decide +kernel
theorem dX3_inRow_10 : decode cX3_inRow 10 = .ok (.iload_n 2, 1) := by decide +kernel
theorem dX3_inRow_11 : decode cX3_inRow 11 = .ok (.aload_n 0, 1) := by decide +kernel
theorem dX3_inRow_12 : decode cX3_inRow 12 = .ok (.iload_n 1, 1) := by decide +kernel
theorem dX3_inRow_13 : decode cX3_inRow 13 = .ok (.iload_n 3, 1) := by decide +kernel
theorem dX3_inRow_14 : decode cX3_inRow 14 = .ok (.invokevirtual 28, 3) := by decide +kernel
theorem dX3_inRow_17 : decode cX3_inRow 17 = .ok (.iadd, 1) := by decide +kernel
theorem dX3_inRow_18 : decode cX3_inRow 18 = .ok (.istore_n 2, 1) := by decide +kernel
theorem dX3_inRow_19 : decode cX3_inRow 19 = .ok (.iinc 3 1, 3) := by decide +kernel
theorem dX3_inRow_22 : decode cX3_inRow 22 = .ok (.goto (-18), 3) := by decide +kernel
theorem dX3_inRow_25 : decode cX3_inRow 25 = .ok (.iload_n 2, 1) := by decide +kernel
theorem dX3_inRow_26 : decode cX3_inRow 26 = .ok (.ireturn, 1) := by decide +kernel
theorem dX3_isDry_0 : decode cX3_isDry 0 = .ok (.iload_n 3, 1) := by decide +kernel
theorem dX3_isDry_1 : decode cX3_isDry 1 = .ok (.aload_n 0, 1) := by decide +kernel
theorem dX3_isDry_2 : decode cX3_isDry 2 = .ok (.iload_n 1, 1) := by decide +kernel
theorem dX3_isDry_3 : decode cX3_isDry 3 = .ok (.iload_n 2, 1) := by decide +kernel
theorem dX3_isDry_4 : decode cX3_isDry 4 = .ok (.invokevirtual 28, 3) := by decide +kernel
theorem dX3_isDry_7 : decode cX3_isDry 7 = .ok (.if_icmp .gt 7, 3) := by decide +kernel
theorem dX3_isDry_10 : decode cX3_isDry 10 = .ok (.iconst 1, 1) := by decide +kernel
theorem dX3_isDry_11 : decode cX3_isDry 11 = .ok (.goto 4, 3) := by decide +kernel
theorem dX3_isDry_14 : decode cX3_isDry 14 = .ok (.iconst 0, 1) := by decide +kernel
theorem dX3_isDry_15 : decode cX3_isDry 15 = .ok (.ireturn, 1) := by decide +kernel
theorem dX3_isBar_0 : decode cX3_isBar 0 = .ok (.iload_n 2, 1) := by decide +kernel
theorem dX3_isBar_1 : decode cX3_isBar 1 = .ok (.iconst 1, 1) := by decide +kernel
theorem dX3_isBar_2 : decode cX3_isBar 2 = .ok (.if_icmp .lt 9, 3) := by decide +kernel
theorem dX3_isBar_5 : decode cX3_isBar 5 = .ok (.iload_n 2, 1) := by decide +kernel
theorem dX3_isBar_6 : decode cX3_isBar 6 = .ok (.bipush 19, 2) := by decide +kernel
theorem dX3_isBar_8 : decode cX3_isBar 8 = .ok (.if_icmp .lt 5, 3) := by decide +kernel
theorem dX3_isBar_11 : decode cX3_isBar 11 = .ok (.iconst 0, 1) := by decide +kernel
theorem dX3_isBar_12 : decode cX3_isBar 12 = .ok (.ireturn, 1) := by decide +kernel
theorem dX3_isBar_13 : decode cX3_isBar 13 = .ok (.iload_n 1, 1) := by decide +kernel
theorem dX3_isBar_14 : decode cX3_isBar 14 = .ok (.bipush 20, 2) := by decide +kernel
theorem dX3_isBar_16 : decode cX3_isBar 16 = .ok (.imul, 1) := by decide +kernel
theorem dX3_isBar_17 : decode cX3_isBar 17 = .ok (.iload_n 2, 1) := by decide +kernel
theorem dX3_isBar_18 : decode cX3_isBar 18 = .ok (.iadd, 1) := by decide +kernel
theorem dX3_isBar_19 : decode cX3_isBar 19 = .ok (.istore 4, 2) := by decide +kernel
theorem dX3_isBar_21 : decode cX3_isBar 21 = .ok (.aload_n 0, 1) := by decide +kernel
theorem dX3_isBar_22 : decode cX3_isBar 22 = .ok (.getfield 9, 3) := by decide +kernel
theorem dX3_isBar_25 : decode cX3_isBar 25 = .ok (.iload 4, 2) := by decide +kernel
theorem dX3_isBar_27 : decode cX3_isBar 27 = .ok (.iaload, 1) := by decide +kernel
theorem dX3_isBar_28 : decode cX3_isBar 28 = .ok (.istore 5, 2) := by decide +kernel
theorem dX3_isBar_30 : decode cX3_isBar 30 = .ok (.iload 5, 2) := by decide +kernel
theorem dX3_isBar_32 : decode cX3_isBar 32 = .ok (.iload_n 3, 1) := by decide +kernel
theorem dX3_isBar_33 : decode cX3_isBar 33 = .ok (.if_icmp .ge 35, 3) := by decide +kernel
theorem dX3_isBar_36 : decode cX3_isBar 36 = .ok (.iload 5, 2) := by decide +kernel
theorem dX3_isBar_38 : decode cX3_isBar 38 = .ok (.aload_n 0, 1) := by decide +kernel
theorem dX3_isBar_39 : decode cX3_isBar 39 = .ok (.getfield 9, 3) := by decide +kernel
theorem dX3_isBar_42 : decode cX3_isBar 42 = .ok (.iload 4, 2) := by decide +kernel
theorem dX3_isBar_44 : decode cX3_isBar 44 = .ok (.iconst 1, 1) := by decide +kernel
theorem dX3_isBar_45 : decode cX3_isBar 45 = .ok (.isub, 1) := by decide +kernel
theorem dX3_isBar_46 : decode cX3_isBar 46 = .ok (.iaload, 1) := by decide +kernel
theorem dX3_isBar_47 : decode cX3_isBar 47 = .ok (.if_icmp .le 21, 3) := by decide +kernel
theorem dX3_isBar_50 : decode cX3_isBar 50 = .ok (.iload 5, 2) := by decide +kernel
theorem dX3_isBar_52 : decode cX3_isBar 52 = .ok (.aload_n 0, 1) := by decide +kernel
theorem dX3_isBar_53 : decode cX3_isBar 53 = .ok (.getfield 9, 3) := by decide +kernel
theorem dX3_isBar_56 : decode cX3_isBar 56 = .ok (.iload 4, 2) := by decide +kernel
theorem dX3_isBar_58 : decode cX3_isBar 58 = .ok (.iconst 1, 1) := by decide +kernel
theorem dX3_isBar_59 : decode cX3_isBar 59 = .ok (.iadd, 1) := by decide +kernel
theorem dX3_isBar_60 : decode cX3_isBar 60 = .ok (.iaload, 1) := by decide +kernel
theorem dX3_isBar_61 : decode cX3_isBar 61 = .ok (.if_icmp .le 7, 3) := by decide +kernel
theorem dX3_isBar_64 : decode cX3_isBar 64 = .ok (.iconst 1, 1) := by decide +kernel
theorem dX3_isBar_65 : decode cX3_isBar 65 = .ok (.goto 4, 3) := by decide +kernel
theorem dX3_isBar_68 : decode cX3_isBar 68 = .ok (.iconst 0, 1) := by decide +kernel
theorem dX3_isBar_69 : decode cX3_isBar 69 = .ok (.ireturn, 1) := by decide +kernel
theorem dX3_isGap_0 : decode cX3_isGap 0 = .ok (.iload_n 2, 1) := by decide +kernel
theorem dX3_isGap_1 : decode cX3_isGap 1 = .ok (.iconst 1, 1) := by decide +kernel
theorem dX3_isGap_2 : decode cX3_isGap 2 = .ok (.if_icmp .lt 29, 3) := by decide +kernel
theorem dX3_isGap_5 : decode cX3_isGap 5 = .ok (.iload_n 2, 1) := by decide +kernel
theorem dX3_isGap_6 : decode cX3_isGap 6 = .ok (.bipush 19, 2) := by decide +kernel
theorem dX3_isGap_8 : decode cX3_isGap 8 = .ok (.if_icmp .ge 23, 3) := by decide +kernel
theorem dX3_isGap_11 : decode cX3_isGap 11 = .ok (.aload_n 0, 1) := by decide +kernel
theorem dX3_isGap_12 : decode cX3_isGap 12 = .ok (.iload_n 1, 1) := by decide +kernel
theorem dX3_isGap_13 : decode cX3_isGap 13 = .ok (.iload_n 2, 1) := by decide +kernel
theorem dX3_isGap_14 : decode cX3_isGap 14 = .ok (.iload_n 3, 1) := by decide +kernel
theorem dX3_isGap_15 : decode cX3_isGap 15 = .ok (.invokevirtual 35, 3) := by decide +kernel
theorem dX3_isGap_18 : decode cX3_isGap 18 = .ok (.ifCond .ne 13, 3) := by decide +kernel
theorem dX3_isGap_21 : decode cX3_isGap 21 = .ok (.aload_n 0, 1) := by decide +kernel
theorem dX3_isGap_22 : decode cX3_isGap 22 = .ok (.iload_n 1, 1) := by decide +kernel
theorem dX3_isGap_23 : decode cX3_isGap 23 = .ok (.iload_n 2, 1) := by decide +kernel
theorem dX3_isGap_24 : decode cX3_isGap 24 = .ok (.iload_n 3, 1) := by decide +kernel
theorem dX3_isGap_25 : decode cX3_isGap 25 = .ok (.invokevirtual 39, 3) := by decide +kernel
theorem dX3_isGap_28 : decode cX3_isGap 28 = .ok (.ifCond .eq 5, 3) := by decide +kernel
theorem dX3_isGap_31 : decode cX3_isGap 31 = .ok (.iconst 0, 1) := by decide +kernel
theorem dX3_isGap_32 : decode cX3_isGap 32 = .ok (.ireturn, 1) := by decide +kernel
theorem dX3_isGap_33 : decode cX3_isGap 33 = .ok (.aload_n 0, 1) := by decide +kernel
theorem dX3_isGap_34 : decode cX3_isGap 34 = .ok (.iload_n 1, 1) := by decide +kernel
theorem dX3_isGap_35 : decode cX3_isGap 35 = .ok (.iload_n 2, 1) := by decide +kernel
theorem dX3_isGap_36 : decode cX3_isGap 36 = .ok (.invokevirtual 28, 3) := by decide +kernel
theorem dX3_isGap_39 : decode cX3_isGap 39 = .ok (.iload 4, 2) := by decide +kernel
theorem dX3_isGap_41 : decode cX3_isGap 41 = .ok (.iadd, 1) := by decide +kernel
theorem dX3_isGap_42 : decode cX3_isGap 42 = .ok (.istore 5, 2) := by decide +kernel
theorem dX3_isGap_44 : decode cX3_isGap 44 = .ok (.iload_n 1, 1) := by decide +kernel
theorem dX3_isGap_45 : decode cX3_isGap 45 = .ok (.ifCond .le 17, 3) := by decide +kernel
theorem dX3_isGap_48 : decode cX3_isGap 48 = .ok (.aload_n 0, 1) := by decide +kernel
theorem dX3_isGap_49 : decode cX3_isGap 49 = .ok (.iload_n 1, 1) := by decide +kernel
theorem dX3_isGap_50 : decode cX3_isGap 50 = .ok (.iconst 1, 1) := by decide +kernel
theorem dX3_isGap_51 : decode cX3_isGap 51 = .ok (.isub, 1) := by decide +kernel
theorem dX3_isGap_52 : decode cX3_isGap 52 = .ok (.iload_n 2, 1) := by decide +kernel
theorem dX3_isGap_53 : decode cX3_isGap 53 = .ok (.iload_n 3, 1) := by decide +kernel
theorem dX3_isGap_54 : decode cX3_isGap 54 = .ok (.iload 5, 2) := by decide +kernel
theorem dX3_isGap_56 : decode cX3_isGap 56 = .ok (.invokevirtual 42, 3) := by decide +kernel
theorem dX3_isGap_59 : decode cX3_isGap 59 = .ok (.ifCond .ne 22, 3) := by decide +kernel
theorem dX3_isGap_62 : decode cX3_isGap 62 = .ok (.iload_n 1, 1) := by decide +kernel
theorem dX3_isGap_63 : decode cX3_isGap 63 = .ok (.iconst 3, 1) := by decide +kernel
theorem dX3_isGap_64 : decode cX3_isGap 64 = .ok (.if_icmp .ge 21, 3) := by decide +kernel
theorem dX3_isGap_67 : decode cX3_isGap 67 = .ok (.aload_n 0, 1) := by decide +kernel
theorem dX3_isGap_68 : decode cX3_isGap 68 = .ok (.iload_n 1, 1) := by decide +kernel
theorem dX3_isGap_69 : decode cX3_isGap 69 = .ok (.iconst 1, 1) := by decide +kernel
theorem dX3_isGap_70 : decode cX3_isGap 70 = .ok (.iadd, 1) := by decide +kernel
theorem dX3_isGap_71 : decode cX3_isGap 71 = .ok (.iload_n 2, 1) := by decide +kernel
theorem dX3_isGap_72 : decode cX3_isGap 72 = .ok (.iload_n 3, 1) := by decide +kernel
theorem dX3_isGap_73 : decode cX3_isGap 73 = .ok (.iload 5, 2) := by decide +kernel
theorem dX3_isGap_75 : decode cX3_isGap 75 = .ok (.invokevirtual 42, 3) := by decide +kernel
theorem dX3_isGap_78 : decode cX3_isGap 78 = .ok (.ifCond .eq 7, 3) := by decide +kernel
theorem dX3_isGap_81 : decode cX3_isGap 81 = .ok (.iconst 1, 1) := by decide +kernel
theorem dX3_isGap_82 : decode cX3_isGap 82 = .ok (.goto 4, 3) := by decide +kernel
theorem dX3_isGap_85 : decode cX3_isGap 85 = .ok (.iconst 0, 1) := by decide +kernel
theorem dX3_isGap_86 : decode cX3_isGap 86 = .ok (.ireturn, 1) := by decide +kernel
theorem dX3_isBarFrom_0 : decode cX3_isBarFrom 0 = .ok (.aload_n 0, 1) := by decide +kernel
theorem dX3_isBarFrom_1 : decode cX3_isBarFrom 1 = .ok (.iload_n 1, 1) := by decide +kernel
theorem dX3_isBarFrom_2 : decode cX3_isBarFrom 2 = .ok (.iload_n 2, 1) := by decide +kernel
theorem dX3_isBarFrom_3 : decode cX3_isBarFrom 3 = .ok (.invokevirtual 28, 3) := by decide +kernel
theorem dX3_isBarFrom_6 : decode cX3_isBarFrom 6 = .ok (.iload 4, 2) := by decide +kernel
theorem dX3_isBarFrom_8 : decode cX3_isBarFrom 8 = .ok (.if_icmp .lt 17, 3) := by decide +kernel
theorem dX3_isBarFrom_11 : decode cX3_isBarFrom 11 = .ok (.aload_n 0, 1) := by decide +kernel
theorem dX3_isBarFrom_12 : decode cX3_isBarFrom 12 = .ok (.iload_n 1, 1) := by decide +kernel
theorem dX3_isBarFrom_13 : decode cX3_isBarFrom 13 = .ok (.iload_n 2, 1) := by decide +kernel
theorem dX3_isBarFrom_14 : decode cX3_isBarFrom 14 = .ok (.iload_n 3, 1) := by decide +kernel
theorem dX3_isBarFrom_15 : decode cX3_isBarFrom 15 = .ok (.invokevirtual 39, 3) := by decide +kernel
theorem dX3_isBarFrom_18 : decode cX3_isBarFrom 18 = .ok (.ifCond .eq 7, 3) := by decide +kernel
theorem dX3_isBarFrom_21 : decode cX3_isBarFrom 21 = .ok (.iconst 1, 1) := by decide +kernel
theorem dX3_isBarFrom_22 : decode cX3_isBarFrom 22 = .ok (.goto 4, 3) := by decide +kernel
theorem dX3_isBarFrom_25 : decode cX3_isBarFrom 25 = .ok (.iconst 0, 1) := by decide +kernel
theorem dX3_isBarFrom_26 : decode cX3_isBarFrom 26 = .ok (.ireturn, 1) := by decide +kernel
theorem dX3_bars_0 : decode cX3_bars 0 = .ok (.iconst 0, 1) := by decide +kernel
theorem dX3_bars_1 : decode cX3_bars 1 = .ok (.istore_n 3, 1) := by decide +kernel
theorem dX3_bars_2 : decode cX3_bars 2 = .ok (.iconst 1, 1) := by decide +kernel
theorem dX3_bars_3 : decode cX3_bars 3 = .ok (.istore 4, 2) := by decide +kernel
theorem dX3_bars_5 : decode cX3_bars 5 = .ok (.iload 4, 2) := by decide +kernel
theorem dX3_bars_7 : decode cX3_bars 7 = .ok (.bipush 19, 2) := by decide +kernel
theorem dX3_bars_9 : decode cX3_bars 9 = .ok (.if_icmp .ge 27, 3) := by decide +kernel
theorem dX3_bars_12 : decode cX3_bars 12 = .ok (.aload_n 0, 1) := by decide +kernel
theorem dX3_bars_13 : decode cX3_bars 13 = .ok (.iload_n 1, 1) := by decide +kernel
theorem dX3_bars_14 : decode cX3_bars 14 = .ok (.iload 4, 2) := by decide +kernel
theorem dX3_bars_16 : decode cX3_bars 16 = .ok (.iload_n 2, 1) := by decide +kernel
theorem dX3_bars_17 : decode cX3_bars 17 = .ok (.invokevirtual 39, 3) := by decide +kernel
theorem dX3_bars_20 : decode cX3_bars 20 = .ok (.ifCond .eq 10, 3) := by decide +kernel
theorem dX3_bars_23 : decode cX3_bars 23 = .ok (.iload_n 3, 1) := by decide +kernel
theorem dX3_bars_24 : decode cX3_bars 24 = .ok (.iconst 1, 1) := by decide +kernel
theorem dX3_bars_25 : decode cX3_bars 25 = .ok (.iload 4, 2) := by decide +kernel
theorem dX3_bars_27 : decode cX3_bars 27 = .ok (.ishl, 1) := by decide +kernel
theorem dX3_bars_28 : decode cX3_bars 28 = .ok (.ior, 1) := by decide +kernel
theorem dX3_bars_29 : decode cX3_bars 29 = .ok (.istore_n 3, 1) := by decide +kernel
theorem dX3_bars_30 : decode cX3_bars 30 = .ok (.iinc 4 1, 3) := by decide +kernel
theorem dX3_bars_33 : decode cX3_bars 33 = .ok (.goto (-28), 3) := by decide +kernel
theorem dX3_bars_36 : decode cX3_bars 36 = .ok (.iload_n 3, 1) := by decide +kernel
theorem dX3_bars_37 : decode cX3_bars 37 = .ok (.ireturn, 1) := by decide +kernel
theorem dX3_gaps_0 : decode cX3_gaps 0 = .ok (.iconst 0, 1) := by decide +kernel
theorem dX3_gaps_1 : decode cX3_gaps 1 = .ok (.istore 4, 2) := by decide +kernel
theorem dX3_gaps_3 : decode cX3_gaps 3 = .ok (.iconst 1, 1) := by decide +kernel
theorem dX3_gaps_4 : decode cX3_gaps 4 = .ok (.istore 5, 2) := by decide +kernel
theorem dX3_gaps_6 : decode cX3_gaps 6 = .ok (.iload 5, 2) := by decide +kernel
theorem dX3_gaps_8 : decode cX3_gaps 8 = .ok (.bipush 19, 2) := by decide +kernel
theorem dX3_gaps_10 : decode cX3_gaps 10 = .ok (.if_icmp .ge 30, 3) := by decide +kernel
theorem dX3_gaps_13 : decode cX3_gaps 13 = .ok (.aload_n 0, 1) := by decide +kernel
theorem dX3_gaps_14 : decode cX3_gaps 14 = .ok (.iload_n 1, 1) := by decide +kernel
theorem dX3_gaps_15 : decode cX3_gaps 15 = .ok (.iload 5, 2) := by decide +kernel
theorem dX3_gaps_17 : decode cX3_gaps 17 = .ok (.iload_n 2, 1) := by decide +kernel
theorem dX3_gaps_18 : decode cX3_gaps 18 = .ok (.iload_n 3, 1) := by decide +kernel
theorem dX3_gaps_19 : decode cX3_gaps 19 = .ok (.invokevirtual 46, 3) := by decide +kernel
theorem dX3_gaps_22 : decode cX3_gaps 22 = .ok (.ifCond .eq 12, 3) := by decide +kernel
theorem dX3_gaps_25 : decode cX3_gaps 25 = .ok (.iload 4, 2) := by decide +kernel
theorem dX3_gaps_27 : decode cX3_gaps 27 = .ok (.iconst 1, 1) := by decide +kernel
theorem dX3_gaps_28 : decode cX3_gaps 28 = .ok (.iload 5, 2) := by decide +kernel
theorem dX3_gaps_30 : decode cX3_gaps 30 = .ok (.ishl, 1) := by decide +kernel
theorem dX3_gaps_31 : decode cX3_gaps 31 = .ok (.ior, 1) := by decide +kernel
theorem dX3_gaps_32 : decode cX3_gaps 32 = .ok (.istore 4, 2) := by decide +kernel
theorem dX3_gaps_34 : decode cX3_gaps 34 = .ok (.iinc 5 1, 3) := by decide +kernel
theorem dX3_gaps_37 : decode cX3_gaps 37 = .ok (.goto (-31), 3) := by decide +kernel
theorem dX3_gaps_40 : decode cX3_gaps 40 = .ok (.iload 4, 2) := by decide +kernel
theorem dX3_gaps_42 : decode cX3_gaps 42 = .ok (.ireturn, 1) := by decide +kernel
theorem dX3_allBars_0 : decode cX3_allBars 0 = .ok (.iconst 0, 1) := by decide +kernel
theorem dX3_allBars_1 : decode cX3_allBars 1 = .ok (.istore_n 2, 1) := by decide +kernel
theorem dX3_allBars_2 : decode cX3_allBars 2 = .ok (.iconst 0, 1) := by decide +kernel
theorem dX3_allBars_3 : decode cX3_allBars 3 = .ok (.istore_n 3, 1) := by decide +kernel
theorem dX3_allBars_4 : decode cX3_allBars 4 = .ok (.iload_n 3, 1) := by decide +kernel
theorem dX3_allBars_5 : decode cX3_allBars 5 = .ok (.iconst 4, 1) := by decide +kernel
theorem dX3_allBars_6 : decode cX3_allBars 6 = .ok (.if_icmp .ge 21, 3) := by decide +kernel
theorem dX3_allBars_9 : decode cX3_allBars 9 = .ok (.iload_n 2, 1) := by decide +kernel
theorem dX3_allBars_10 : decode cX3_allBars 10 = .ok (.aload_n 0, 1) := by decide +kernel
theorem dX3_allBars_11 : decode cX3_allBars 11 = .ok (.iload_n 3, 1) := by decide +kernel
theorem dX3_allBars_12 : decode cX3_allBars 12 = .ok (.iload_n 1, 1) := by decide +kernel
theorem dX3_allBars_13 : decode cX3_allBars 13 = .ok (.invokevirtual 49, 3) := by decide +kernel
theorem dX3_allBars_16 : decode cX3_allBars 16 = .ok (.invokestatic 52, 3) := by decide +kernel
theorem dX3_allBars_19 : decode cX3_allBars 19 = .ok (.iadd, 1) := by decide +kernel
theorem dX3_allBars_20 : decode cX3_allBars 20 = .ok (.istore_n 2, 1) := by decide +kernel
theorem dX3_allBars_21 : decode cX3_allBars 21 = .ok (.iinc 3 1, 3) := by decide +kernel
theorem dX3_allBars_24 : decode cX3_allBars 24 = .ok (.goto (-20), 3) := by decide +kernel
theorem dX3_allBars_27 : decode cX3_allBars 27 = .ok (.iload_n 2, 1) := by decide +kernel
theorem dX3_allBars_28 : decode cX3_allBars 28 = .ok (.ireturn, 1) := by decide +kernel
theorem dX3_allGaps_0 : decode cX3_allGaps 0 = .ok (.iconst 0, 1) := by decide +kernel
theorem dX3_allGaps_1 : decode cX3_allGaps 1 = .ok (.istore_n 3, 1) := by decide +kernel
theorem dX3_allGaps_2 : decode cX3_allGaps 2 = .ok (.iconst 0, 1) := by decide +kernel
theorem dX3_allGaps_3 : decode cX3_allGaps 3 = .ok (.istore 4, 2) := by decide +kernel
theorem dX3_allGaps_5 : decode cX3_allGaps 5 = .ok (.iload 4, 2) := by decide +kernel
theorem dX3_allGaps_7 : decode cX3_allGaps 7 = .ok (.iconst 4, 1) := by decide +kernel
theorem dX3_allGaps_8 : decode cX3_allGaps 8 = .ok (.if_icmp .ge 23, 3) := by decide +kernel
theorem dX3_allGaps_11 : decode cX3_allGaps 11 = .ok (.iload_n 3, 1) := by decide +kernel
theorem dX3_allGaps_12 : decode cX3_allGaps 12 = .ok (.aload_n 0, 1) := by decide +kernel
theorem dX3_allGaps_13 : decode cX3_allGaps 13 = .ok (.iload 4, 2) := by decide +kernel
theorem dX3_allGaps_15 : decode cX3_allGaps 15 = .ok (.iload_n 1, 1) := by decide +kernel
theorem dX3_allGaps_16 : decode cX3_allGaps 16 = .ok (.iload_n 2, 1) := by decide +kernel
theorem dX3_allGaps_17 : decode cX3_allGaps 17 = .ok (.invokevirtual 57, 3) := by decide +kernel
theorem dX3_allGaps_20 : decode cX3_allGaps 20 = .ok (.invokestatic 52, 3) := by decide +kernel
theorem dX3_allGaps_23 : decode cX3_allGaps 23 = .ok (.iadd, 1) := by decide +kernel
theorem dX3_allGaps_24 : decode cX3_allGaps 24 = .ok (.istore_n 3, 1) := by decide +kernel
theorem dX3_allGaps_25 : decode cX3_allGaps 25 = .ok (.iinc 4 1, 3) := by decide +kernel
theorem dX3_allGaps_28 : decode cX3_allGaps 28 = .ok (.goto (-23), 3) := by decide +kernel
theorem dX3_allGaps_31 : decode cX3_allGaps 31 = .ok (.iload_n 3, 1) := by decide +kernel
theorem dX3_allGaps_32 : decode cX3_allGaps 32 = .ok (.ireturn, 1) := by decide +kernel
theorem dX3_allDry_0 : decode cX3_allDry 0 = .ok (.iconst 0, 1) := by decide +kernel
theorem dX3_allDry_1 : decode cX3_allDry 1 = .ok (.istore_n 2, 1) := by decide +kernel
theorem dX3_allDry_2 : decode cX3_allDry 2 = .ok (.iconst 0, 1) := by decide +kernel
theorem dX3_allDry_3 : decode cX3_allDry 3 = .ok (.istore_n 3, 1) := by decide +kernel
theorem dX3_allDry_4 : decode cX3_allDry 4 = .ok (.iload_n 3, 1) := by decide +kernel
theorem dX3_allDry_5 : decode cX3_allDry 5 = .ok (.iconst 4, 1) := by decide +kernel
theorem dX3_allDry_6 : decode cX3_allDry 6 = .ok (.if_icmp .ge 39, 3) := by decide +kernel
theorem dX3_allDry_9 : decode cX3_allDry 9 = .ok (.iconst 0, 1) := by decide +kernel
theorem dX3_allDry_10 : decode cX3_allDry 10 = .ok (.istore 4, 2) := by decide +kernel
theorem dX3_allDry_12 : decode cX3_allDry 12 = .ok (.iload 4, 2) := by decide +kernel
theorem dX3_allDry_14 : decode cX3_allDry 14 = .ok (.bipush 20, 2) := by decide +kernel
theorem dX3_allDry_16 : decode cX3_allDry 16 = .ok (.if_icmp .ge 23, 3) := by decide +kernel
theorem dX3_allDry_19 : decode cX3_allDry 19 = .ok (.aload_n 0, 1) := by decide +kernel
theorem dX3_allDry_20 : decode cX3_allDry 20 = .ok (.iload_n 3, 1) := by decide +kernel
theorem dX3_allDry_21 : decode cX3_allDry 21 = .ok (.iload 4, 2) := by decide +kernel
theorem dX3_allDry_23 : decode cX3_allDry 23 = .ok (.iload_n 1, 1) := by decide +kernel
theorem dX3_allDry_24 : decode cX3_allDry 24 = .ok (.invokevirtual 35, 3) := by decide +kernel
theorem dX3_allDry_27 : decode cX3_allDry 27 = .ok (.ifCond .eq 6, 3) := by decide +kernel
theorem dX3_allDry_30 : decode cX3_allDry 30 = .ok (.iinc 2 1, 3) := by decide +kernel
theorem dX3_allDry_33 : decode cX3_allDry 33 = .ok (.iinc 4 1, 3) := by decide +kernel
theorem dX3_allDry_36 : decode cX3_allDry 36 = .ok (.goto (-24), 3) := by decide +kernel
theorem dX3_allDry_39 : decode cX3_allDry 39 = .ok (.iinc 3 1, 3) := by decide +kernel
theorem dX3_allDry_42 : decode cX3_allDry 42 = .ok (.goto (-38), 3) := by decide +kernel
theorem dX3_allDry_45 : decode cX3_allDry 45 = .ok (.iload_n 2, 1) := by decide +kernel
theorem dX3_allDry_46 : decode cX3_allDry 46 = .ok (.ireturn, 1) := by decide +kernel
theorem dX3_lastDry_0 : decode cX3_lastDry 0 = .ok (.bipush 19, 2) := by decide +kernel
theorem dX3_lastDry_2 : decode cX3_lastDry 2 = .ok (.istore_n 3, 1) := by decide +kernel
theorem dX3_lastDry_3 : decode cX3_lastDry 3 = .ok (.iload_n 3, 1) := by decide +kernel
theorem dX3_lastDry_4 : decode cX3_lastDry 4 = .ok (.ifCond .lt 21, 3) := by decide +kernel
theorem dX3_lastDry_7 : decode cX3_lastDry 7 = .ok (.aload_n 0, 1) := by decide +kernel
theorem dX3_lastDry_8 : decode cX3_lastDry 8 = .ok (.iload_n 1, 1) := by decide +kernel
theorem dX3_lastDry_9 : decode cX3_lastDry 9 = .ok (.iload_n 3, 1) := by decide +kernel
theorem dX3_lastDry_10 : decode cX3_lastDry 10 = .ok (.iload_n 2, 1) := by decide +kernel
theorem dX3_lastDry_11 : decode cX3_lastDry 11 = .ok (.invokevirtual 35, 3) := by decide +kernel
theorem dX3_lastDry_14 : decode cX3_lastDry 14 = .ok (.ifCond .eq 5, 3) := by decide +kernel
theorem dX3_lastDry_17 : decode cX3_lastDry 17 = .ok (.iload_n 3, 1) := by decide +kernel
theorem dX3_lastDry_18 : decode cX3_lastDry 18 = .ok (.ireturn, 1) := by decide +kernel
theorem dX3_lastDry_19 : decode cX3_lastDry 19 = .ok (.iinc 3 (-1), 3) := by decide +kernel
theorem dX3_lastDry_22 : decode cX3_lastDry 22 = .ok (.goto (-19), 3) := by decide +kernel
theorem dX3_lastDry_25 : decode cX3_lastDry 25 = .ok (.sipush (-1005), 3) := by decide +kernel
theorem dX3_lastDry_28 : decode cX3_lastDry 28 = .ok (.ireturn, 1) := by decide +kernel
theorem dX3_greatestDifference_0 : decode cX3_greatestDifference 0 = .ok (.iconst 0, 1) := by decide +kernel
theorem dX3_greatestDifference_1 : decode cX3_greatestDifference 1 = .ok (.istore_n 2, 1) := by decide +kernel
theorem dX3_greatestDifference_2 : decode cX3_greatestDifference 2 = .ok (.iconst 0, 1) := by decide +kernel
theorem dX3_greatestDifference_3 : decode cX3_greatestDifference 3 = .ok (.istore_n 3, 1) := by decide +kernel
theorem dX3_greatestDifference_4 : decode cX3_greatestDifference 4 = .ok (.iload_n 3, 1) := by decide +kernel
theorem dX3_greatestDifference_5 : decode cX3_greatestDifference 5 = .ok (.bipush 19, 2) := by decide +kernel
theorem dX3_greatestDifference_7 : decode cX3_greatestDifference 7 = .ok (.if_icmp .ge 32, 3) := by decide +kernel
theorem dX3_greatestDifference_10 : decode cX3_greatestDifference 10 = .ok (.iload_n 2, 1) := by decide +kernel
theorem dX3_greatestDifference_11 : decode cX3_greatestDifference 11 = .ok (.aload_n 0, 1) := by decide +kernel
theorem dX3_greatestDifference_12 : decode cX3_greatestDifference 12 = .ok (.iload_n 1, 1) := by decide +kernel
theorem dX3_greatestDifference_13 : decode cX3_greatestDifference 13 = .ok (.iload_n 3, 1) := by decide +kernel
theorem dX3_greatestDifference_14 : decode cX3_greatestDifference 14 = .ok (.invokevirtual 28, 3) := by decide +kernel
theorem dX3_greatestDifference_17 : decode cX3_greatestDifference 17 = .ok (.aload_n 0, 1) := by decide +kernel
theorem dX3_greatestDifference_18 : decode cX3_greatestDifference 18 = .ok (.iload_n 1, 1) := by decide +kernel
theorem dX3_greatestDifference_19 : decode cX3_greatestDifference 19 = .ok (.iload_n 3, 1) := by decide +kernel
theorem dX3_greatestDifference_20 : decode cX3_greatestDifference 20 = .ok (.iconst 1, 1) := by decide +kernel
theorem dX3_greatestDifference_21 : decode cX3_greatestDifference 21 = .ok (.iadd, 1) := by decide +kernel
theorem dX3_greatestDifference_22 : decode cX3_greatestDifference 22 = .ok (.invokevirtual 28, 3) := by decide +kernel
theorem dX3_greatestDifference_25 : decode cX3_greatestDifference 25 = .ok (.isub, 1) := by decide +kernel
theorem dX3_greatestDifference_26 : decode cX3_greatestDifference 26 = .ok (.invokestatic 61, 3) := by decide +kernel
theorem dX3_greatestDifference_29 : decode cX3_greatestDifference 29 = .ok (.invokestatic 66, 3) := by decide +kernel
theorem dX3_greatestDifference_32 : decode cX3_greatestDifference 32 = .ok (.istore_n 2, 1) := by decide +kernel
theorem dX3_greatestDifference_33 : decode cX3_greatestDifference 33 = .ok (.iinc 3 1, 3) := by decide +kernel
theorem dX3_greatestDifference_36 : decode cX3_greatestDifference 36 = .ok (.goto (-32), 3) := by decide +kernel
theorem dX3_greatestDifference_39 : decode cX3_greatestDifference 39 = .ok (.iload_n 2, 1) := by decide +kernel
theorem dX3_greatestDifference_40 : decode cX3_greatestDifference 40 = .ok (.ireturn, 1) := by decide +kernel
theorem dX3_highestBar_0 : decode cX3_highestBar 0 = .ok (.sipush (-1005), 3) := by decide +kernel
theorem dX3_highestBar_3 : decode cX3_highestBar 3 = .ok (.istore_n 3, 1) := by decide +kernel
theorem dX3_highestBar_4 : decode cX3_highestBar 4 = .ok (.iconst (-1), 1) := by decide +kernel
theorem dX3_highestBar_5 : decode cX3_highestBar 5 = .ok (.istore 4, 2) := by decide +kernel
theorem dX3_highestBar_7 : decode cX3_highestBar 7 = .ok (.iconst 1, 1) := by decide +kernel
theorem dX3_highestBar_8 : decode cX3_highestBar 8 = .ok (.istore 5, 2) := by decide +kernel
theorem dX3_highestBar_10 : decode cX3_highestBar 10 = .ok (.iload 5, 2) := by decide +kernel
theorem dX3_highestBar_12 : decode cX3_highestBar 12 = .ok (.bipush 19, 2) := by decide +kernel
theorem dX3_highestBar_14 : decode cX3_highestBar 14 = .ok (.if_icmp .ge 44, 3) := by decide +kernel
theorem dX3_highestBar_17 : decode cX3_highestBar 17 = .ok (.aload_n 0, 1) := by decide +kernel
theorem dX3_highestBar_18 : decode cX3_highestBar 18 = .ok (.iload_n 1, 1) := by decide +kernel
theorem dX3_highestBar_19 : decode cX3_highestBar 19 = .ok (.iload 5, 2) := by decide +kernel
theorem dX3_highestBar_21 : decode cX3_highestBar 21 = .ok (.iload_n 2, 1) := by decide +kernel
theorem dX3_highestBar_22 : decode cX3_highestBar 22 = .ok (.invokevirtual 39, 3) := by decide +kernel
theorem dX3_highestBar_25 : decode cX3_highestBar 25 = .ok (.ifCond .eq 27, 3) := by decide +kernel
theorem dX3_highestBar_28 : decode cX3_highestBar 28 = .ok (.aload_n 0, 1) := by decide +kernel
theorem dX3_highestBar_29 : decode cX3_highestBar 29 = .ok (.iload_n 1, 1) := by decide +kernel
theorem dX3_highestBar_30 : decode cX3_highestBar 30 = .ok (.iload 5, 2) := by decide +kernel
theorem dX3_highestBar_32 : decode cX3_highestBar 32 = .ok (.invokevirtual 28, 3) := by decide +kernel
theorem dX3_highestBar_35 : decode cX3_highestBar 35 = .ok (.iload 4, 2) := by decide +kernel
theorem dX3_highestBar_37 : decode cX3_highestBar 37 = .ok (.if_icmp .le 15, 3) := by decide +kernel
theorem dX3_highestBar_40 : decode cX3_highestBar 40 = .ok (.aload_n 0, 1) := by decide +kernel
theorem dX3_highestBar_41 : decode cX3_highestBar 41 = .ok (.iload_n 1, 1) := by decide +kernel
theorem dX3_highestBar_42 : decode cX3_highestBar 42 = .ok (.iload 5, 2) := by decide +kernel
theorem dX3_highestBar_44 : decode cX3_highestBar 44 = .ok (.invokevirtual 28, 3) := by decide +kernel
theorem dX3_highestBar_47 : decode cX3_highestBar 47 = .ok (.istore 4, 2) := by decide +kernel
theorem dX3_highestBar_49 : decode cX3_highestBar 49 = .ok (.iload 5, 2) := by decide +kernel
theorem dX3_highestBar_51 : decode cX3_highestBar 51 = .ok (.istore_n 3, 1) := by decide +kernel
theorem dX3_highestBar_52 : decode cX3_highestBar 52 = .ok (.iinc 5 1, 3) := by decide +kernel
theorem dX3_highestBar_55 : decode cX3_highestBar 55 = .ok (.goto (-45), 3) := by decide +kernel
theorem dX3_highestBar_58 : decode cX3_highestBar 58 = .ok (.iload_n 3, 1) := by decide +kernel
theorem dX3_highestBar_59 : decode cX3_highestBar 59 = .ok (.ireturn, 1) := by decide +kernel
theorem dX3_scour_0 : decode cX3_scour 0 = .ok (.iconst 0, 1) := by decide +kernel
theorem dX3_scour_1 : decode cX3_scour 1 = .ok (.istore_n 3, 1) := by decide +kernel
theorem dX3_scour_2 : decode cX3_scour 2 = .ok (.iload_n 3, 1) := by decide +kernel
theorem dX3_scour_3 : decode cX3_scour 3 = .ok (.iconst 4, 1) := by decide +kernel
theorem dX3_scour_4 : decode cX3_scour 4 = .ok (.if_icmp .ge 22, 3) := by decide +kernel
theorem dX3_scour_7 : decode cX3_scour 7 = .ok (.aload_n 0, 1) := by decide +kernel
theorem dX3_scour_8 : decode cX3_scour 8 = .ok (.getfield 15, 3) := by decide +kernel
theorem dX3_scour_11 : decode cX3_scour 11 = .ok (.iload_n 3, 1) := by decide +kernel
theorem dX3_scour_12 : decode cX3_scour 12 = .ok (.aload_n 0, 1) := by decide +kernel
theorem dX3_scour_13 : decode cX3_scour 13 = .ok (.iload_n 3, 1) := by decide +kernel
theorem dX3_scour_14 : decode cX3_scour 14 = .ok (.iload_n 1, 1) := by decide +kernel
theorem dX3_scour_15 : decode cX3_scour 15 = .ok (.iload_n 2, 1) := by decide +kernel
theorem dX3_scour_16 : decode cX3_scour 16 = .ok (.invokevirtual 57, 3) := by decide +kernel
theorem dX3_scour_19 : decode cX3_scour 19 = .ok (.iastore, 1) := by decide +kernel
theorem dX3_scour_20 : decode cX3_scour 20 = .ok (.iinc 3 1, 3) := by decide +kernel
theorem dX3_scour_23 : decode cX3_scour 23 = .ok (.goto (-21), 3) := by decide +kernel
theorem dX3_scour_26 : decode cX3_scour 26 = .ok (.iconst 0, 1) := by decide +kernel
theorem dX3_scour_27 : decode cX3_scour 27 = .ok (.istore_n 3, 1) := by decide +kernel
theorem dX3_scour_28 : decode cX3_scour 28 = .ok (.iconst 0, 1) := by decide +kernel
theorem dX3_scour_29 : decode cX3_scour 29 = .ok (.istore 4, 2) := by decide +kernel
theorem dX3_scour_31 : decode cX3_scour 31 = .ok (.iload 4, 2) := by decide +kernel
theorem dX3_scour_33 : decode cX3_scour 33 = .ok (.iconst 4, 1) := by decide +kernel
theorem dX3_scour_34 : decode cX3_scour 34 = .ok (.if_icmp .ge 52, 3) := by decide +kernel
theorem dX3_scour_37 : decode cX3_scour 37 = .ok (.iconst 1, 1) := by decide +kernel
theorem dX3_scour_38 : decode cX3_scour 38 = .ok (.istore 5, 2) := by decide +kernel
theorem dX3_scour_40 : decode cX3_scour 40 = .ok (.iload 5, 2) := by decide +kernel
theorem dX3_scour_42 : decode cX3_scour 42 = .ok (.bipush 19, 2) := by decide +kernel
theorem dX3_scour_44 : decode cX3_scour 44 = .ok (.if_icmp .ge 36, 3) := by decide +kernel
theorem dX3_scour_47 : decode cX3_scour 47 = .ok (.aload_n 0, 1) := by decide +kernel
theorem dX3_scour_48 : decode cX3_scour 48 = .ok (.getfield 15, 3) := by decide +kernel
theorem dX3_scour_51 : decode cX3_scour 51 = .ok (.iload 4, 2) := by decide +kernel
theorem dX3_scour_53 : decode cX3_scour 53 = .ok (.iaload, 1) := by decide +kernel
theorem dX3_scour_54 : decode cX3_scour 54 = .ok (.iload 5, 2) := by decide +kernel
theorem dX3_scour_56 : decode cX3_scour 56 = .ok (.ishr, 1) := by decide +kernel
theorem dX3_scour_57 : decode cX3_scour 57 = .ok (.iconst 1, 1) := by decide +kernel
theorem dX3_scour_58 : decode cX3_scour 58 = .ok (.iand, 1) := by decide +kernel
theorem dX3_scour_59 : decode cX3_scour 59 = .ok (.iconst 1, 1) := by decide +kernel
theorem dX3_scour_60 : decode cX3_scour 60 = .ok (.if_icmp .ne 14, 3) := by decide +kernel
theorem dX3_scour_63 : decode cX3_scour 63 = .ok (.iload_n 3, 1) := by decide +kernel
theorem dX3_scour_64 : decode cX3_scour 64 = .ok (.aload_n 0, 1) := by decide +kernel
theorem dX3_scour_65 : decode cX3_scour 65 = .ok (.iload 4, 2) := by decide +kernel
theorem dX3_scour_67 : decode cX3_scour 67 = .ok (.iload 5, 2) := by decide +kernel
theorem dX3_scour_69 : decode cX3_scour 69 = .ok (.invokevirtual 69, 3) := by decide +kernel
theorem dX3_scour_72 : decode cX3_scour 72 = .ok (.iadd, 1) := by decide +kernel
theorem dX3_scour_73 : decode cX3_scour 73 = .ok (.istore_n 3, 1) := by decide +kernel
theorem dX3_scour_74 : decode cX3_scour 74 = .ok (.iinc 5 1, 3) := by decide +kernel
theorem dX3_scour_77 : decode cX3_scour 77 = .ok (.goto (-37), 3) := by decide +kernel
theorem dX3_scour_80 : decode cX3_scour 80 = .ok (.iinc 4 1, 3) := by decide +kernel
theorem dX3_scour_83 : decode cX3_scour 83 = .ok (.goto (-52), 3) := by decide +kernel
theorem dX3_scour_86 : decode cX3_scour 86 = .ok (.iload_n 3, 1) := by decide +kernel
theorem dX3_scour_87 : decode cX3_scour 87 = .ok (.ireturn, 1) := by decide +kernel
theorem dX3_scourCell_0 : decode cX3_scourCell 0 = .ok (.aload_n 0, 1) := by decide +kernel
theorem dX3_scourCell_1 : decode cX3_scourCell 1 = .ok (.iload_n 1, 1) := by decide +kernel
theorem dX3_scourCell_2 : decode cX3_scourCell 2 = .ok (.iload_n 2, 1) := by decide +kernel
theorem dX3_scourCell_3 : decode cX3_scourCell 3 = .ok (.invokevirtual 28, 3) := by decide +kernel
theorem dX3_scourCell_6 : decode cX3_scourCell 6 = .ok (.ifCond .eq 16, 3) := by decide +kernel
theorem dX3_scourCell_9 : decode cX3_scourCell 9 = .ok (.aload_n 0, 1) := by decide +kernel
theorem dX3_scourCell_10 : decode cX3_scourCell 10 = .ok (.iload_n 1, 1) := by decide +kernel
theorem dX3_scourCell_11 : decode cX3_scourCell 11 = .ok (.iload_n 2, 1) := by decide +kernel
theorem dX3_scourCell_12 : decode cX3_scourCell 12 = .ok (.iconst 1, 1) := by decide +kernel
theorem dX3_scourCell_13 : decode cX3_scourCell 13 = .ok (.iadd, 1) := by decide +kernel
theorem dX3_scourCell_14 : decode cX3_scourCell 14 = .ok (.invokevirtual 28, 3) := by decide +kernel
theorem dX3_scourCell_17 : decode cX3_scourCell 17 = .ok (.bipush 99, 2) := by decide +kernel
theorem dX3_scourCell_19 : decode cX3_scourCell 19 = .ok (.if_icmp .lt 5, 3) := by decide +kernel
theorem dX3_scourCell_22 : decode cX3_scourCell 22 = .ok (.iconst 0, 1) := by decide +kernel
theorem dX3_scourCell_23 : decode cX3_scourCell 23 = .ok (.ireturn, 1) := by decide +kernel
theorem dX3_scourCell_24 : decode cX3_scourCell 24 = .ok (.aload_n 0, 1) := by decide +kernel
theorem dX3_scourCell_25 : decode cX3_scourCell 25 = .ok (.iload_n 1, 1) := by decide +kernel
theorem dX3_scourCell_26 : decode cX3_scourCell 26 = .ok (.iload_n 2, 1) := by decide +kernel
theorem dX3_scourCell_27 : decode cX3_scourCell 27 = .ok (.iconst (-1), 1) := by decide +kernel
theorem dX3_scourCell_28 : decode cX3_scourCell 28 = .ok (.invokevirtual 72, 3) := by decide +kernel
theorem dX3_scourCell_31 : decode cX3_scourCell 31 = .ok (.aload_n 0, 1) := by decide +kernel
theorem dX3_scourCell_32 : decode cX3_scourCell 32 = .ok (.iload_n 1, 1) := by decide +kernel
theorem dX3_scourCell_33 : decode cX3_scourCell 33 = .ok (.iload_n 2, 1) := by decide +kernel
theorem dX3_scourCell_34 : decode cX3_scourCell 34 = .ok (.iconst 1, 1) := by decide +kernel
theorem dX3_scourCell_35 : decode cX3_scourCell 35 = .ok (.iadd, 1) := by decide +kernel
theorem dX3_scourCell_36 : decode cX3_scourCell 36 = .ok (.iconst 1, 1) := by decide +kernel
theorem dX3_scourCell_37 : decode cX3_scourCell 37 = .ok (.invokevirtual 72, 3) := by decide +kernel
theorem dX3_scourCell_40 : decode cX3_scourCell 40 = .ok (.iconst 1, 1) := by decide +kernel
theorem dX3_scourCell_41 : decode cX3_scourCell 41 = .ok (.ireturn, 1) := by decide +kernel
theorem dX3_slump_0 : decode cX3_slump 0 = .ok (.iconst 0, 1) := by decide +kernel
theorem dX3_slump_1 : decode cX3_slump 1 = .ok (.istore_n 2, 1) := by decide +kernel
theorem dX3_slump_2 : decode cX3_slump 2 = .ok (.iconst 0, 1) := by decide +kernel
theorem dX3_slump_3 : decode cX3_slump 3 = .ok (.istore_n 3, 1) := by decide +kernel
theorem dX3_slump_4 : decode cX3_slump 4 = .ok (.iload_n 3, 1) := by decide +kernel
theorem dX3_slump_5 : decode cX3_slump 5 = .ok (.iconst 4, 1) := by decide +kernel
theorem dX3_slump_6 : decode cX3_slump 6 = .ok (.if_icmp .ge 18, 3) := by decide +kernel
theorem dX3_slump_9 : decode cX3_slump 9 = .ok (.iload_n 2, 1) := by decide +kernel
theorem dX3_slump_10 : decode cX3_slump 10 = .ok (.aload_n 0, 1) := by decide +kernel
theorem dX3_slump_11 : decode cX3_slump 11 = .ok (.iload_n 3, 1) := by decide +kernel
theorem dX3_slump_12 : decode cX3_slump 12 = .ok (.iload_n 1, 1) := by decide +kernel
theorem dX3_slump_13 : decode cX3_slump 13 = .ok (.invokevirtual 76, 3) := by decide +kernel
theorem dX3_slump_16 : decode cX3_slump 16 = .ok (.iadd, 1) := by decide +kernel
theorem dX3_slump_17 : decode cX3_slump 17 = .ok (.istore_n 2, 1) := by decide +kernel
theorem dX3_slump_18 : decode cX3_slump 18 = .ok (.iinc 3 1, 3) := by decide +kernel
theorem dX3_slump_21 : decode cX3_slump 21 = .ok (.goto (-17), 3) := by decide +kernel
theorem dX3_slump_24 : decode cX3_slump 24 = .ok (.iload_n 2, 1) := by decide +kernel
theorem dX3_slump_25 : decode cX3_slump 25 = .ok (.ireturn, 1) := by decide +kernel
theorem dX3_slumpRow_0 : decode cX3_slumpRow 0 = .ok (.iconst 0, 1) := by decide +kernel
theorem dX3_slumpRow_1 : decode cX3_slumpRow 1 = .ok (.istore_n 3, 1) := by decide +kernel
theorem dX3_slumpRow_2 : decode cX3_slumpRow 2 = .ok (.iconst 0, 1) := by decide +kernel
theorem dX3_slumpRow_3 : decode cX3_slumpRow 3 = .ok (.istore 4, 2) := by decide +kernel
theorem dX3_slumpRow_5 : decode cX3_slumpRow 5 = .ok (.iload 4, 2) := by decide +kernel
theorem dX3_slumpRow_7 : decode cX3_slumpRow 7 = .ok (.ldc 79, 2) := by decide +kernel
theorem dX3_slumpRow_9 : decode cX3_slumpRow 9 = .ok (.if_icmp .ge 29, 3) := by decide +kernel
theorem dX3_slumpRow_12 : decode cX3_slumpRow 12 = .ok (.aload_n 0, 1) := by decide +kernel
theorem dX3_slumpRow_13 : decode cX3_slumpRow 13 = .ok (.iload_n 1, 1) := by decide +kernel
theorem dX3_slumpRow_14 : decode cX3_slumpRow 14 = .ok (.iload_n 2, 1) := by decide +kernel
theorem dX3_slumpRow_15 : decode cX3_slumpRow 15 = .ok (.invokevirtual 80, 3) := by decide +kernel
theorem dX3_slumpRow_18 : decode cX3_slumpRow 18 = .ok (.istore 5, 2) := by decide +kernel
theorem dX3_slumpRow_20 : decode cX3_slumpRow 20 = .ok (.iload 5, 2) := by decide +kernel
theorem dX3_slumpRow_22 : decode cX3_slumpRow 22 = .ok (.ifCond .ne 5, 3) := by decide +kernel
theorem dX3_slumpRow_25 : decode cX3_slumpRow 25 = .ok (.iload_n 3, 1) := by decide +kernel
theorem dX3_slumpRow_26 : decode cX3_slumpRow 26 = .ok (.ireturn, 1) := by decide +kernel
theorem dX3_slumpRow_27 : decode cX3_slumpRow 27 = .ok (.iload_n 3, 1) := by decide +kernel
theorem dX3_slumpRow_28 : decode cX3_slumpRow 28 = .ok (.iload 5, 2) := by decide +kernel
theorem dX3_slumpRow_30 : decode cX3_slumpRow 30 = .ok (.iadd, 1) := by decide +kernel
theorem dX3_slumpRow_31 : decode cX3_slumpRow 31 = .ok (.istore_n 3, 1) := by decide +kernel
theorem dX3_slumpRow_32 : decode cX3_slumpRow 32 = .ok (.iinc 4 1, 3) := by decide +kernel
theorem dX3_slumpRow_35 : decode cX3_slumpRow 35 = .ok (.goto (-30), 3) := by decide +kernel
theorem dX3_slumpRow_38 : decode cX3_slumpRow 38 = .ok (.iload_n 3, 1) := by decide +kernel
theorem dX3_slumpRow_39 : decode cX3_slumpRow 39 = .ok (.ireturn, 1) := by decide +kernel
theorem dX3_slumpRowOnce_0 : decode cX3_slumpRowOnce 0 = .ok (.iconst 0, 1) := by decide +kernel
theorem dX3_slumpRowOnce_1 : decode cX3_slumpRowOnce 1 = .ok (.istore_n 3, 1) := by decide +kernel
theorem dX3_slumpRowOnce_2 : decode cX3_slumpRowOnce 2 = .ok (.iconst 0, 1) := by decide +kernel
theorem dX3_slumpRowOnce_3 : decode cX3_slumpRowOnce 3 = .ok (.istore 4, 2) := by decide +kernel
theorem dX3_slumpRowOnce_5 : decode cX3_slumpRowOnce 5 = .ok (.iload 4, 2) := by decide +kernel
theorem dX3_slumpRowOnce_7 : decode cX3_slumpRowOnce 7 = .ok (.bipush 19, 2) := by decide +kernel
theorem dX3_slumpRowOnce_9 : decode cX3_slumpRowOnce 9 = .ok (.if_icmp .ge 107, 3) := by decide +kernel
theorem dX3_slumpRowOnce_12 : decode cX3_slumpRowOnce 12 = .ok (.iload_n 1, 1) := by decide +kernel
theorem dX3_slumpRowOnce_13 : decode cX3_slumpRowOnce 13 = .ok (.bipush 20, 2) := by decide +kernel
theorem dX3_slumpRowOnce_15 : decode cX3_slumpRowOnce 15 = .ok (.imul, 1) := by decide +kernel
theorem dX3_slumpRowOnce_16 : decode cX3_slumpRowOnce 16 = .ok (.iload 4, 2) := by decide +kernel
theorem dX3_slumpRowOnce_18 : decode cX3_slumpRowOnce 18 = .ok (.iadd, 1) := by decide +kernel
theorem dX3_slumpRowOnce_19 : decode cX3_slumpRowOnce 19 = .ok (.istore 5, 2) := by decide +kernel
theorem dX3_slumpRowOnce_21 : decode cX3_slumpRowOnce 21 = .ok (.aload_n 0, 1) := by decide +kernel
theorem dX3_slumpRowOnce_22 : decode cX3_slumpRowOnce 22 = .ok (.getfield 9, 3) := by decide +kernel
theorem dX3_slumpRowOnce_25 : decode cX3_slumpRowOnce 25 = .ok (.iload 5, 2) := by decide +kernel
theorem dX3_slumpRowOnce_27 : decode cX3_slumpRowOnce 27 = .ok (.iaload, 1) := by decide +kernel
theorem dX3_slumpRowOnce_28 : decode cX3_slumpRowOnce 28 = .ok (.aload_n 0, 1) := by decide +kernel
theorem dX3_slumpRowOnce_29 : decode cX3_slumpRowOnce 29 = .ok (.getfield 9, 3) := by decide +kernel
theorem dX3_slumpRowOnce_32 : decode cX3_slumpRowOnce 32 = .ok (.iload 5, 2) := by decide +kernel
theorem dX3_slumpRowOnce_34 : decode cX3_slumpRowOnce 34 = .ok (.iconst 1, 1) := by decide +kernel
theorem dX3_slumpRowOnce_35 : decode cX3_slumpRowOnce 35 = .ok (.iadd, 1) := by decide +kernel
theorem dX3_slumpRowOnce_36 : decode cX3_slumpRowOnce 36 = .ok (.iaload, 1) := by decide +kernel
theorem dX3_slumpRowOnce_37 : decode cX3_slumpRowOnce 37 = .ok (.isub, 1) := by decide +kernel
theorem dX3_slumpRowOnce_38 : decode cX3_slumpRowOnce 38 = .ok (.istore 6, 2) := by decide +kernel
theorem dX3_slumpRowOnce_40 : decode cX3_slumpRowOnce 40 = .ok (.iload 6, 2) := by decide +kernel
theorem dX3_slumpRowOnce_42 : decode cX3_slumpRowOnce 42 = .ok (.iload_n 2, 1) := by decide +kernel
theorem dX3_slumpRowOnce_43 : decode cX3_slumpRowOnce 43 = .ok (.if_icmp .le 33, 3) := by decide +kernel
theorem dX3_slumpRowOnce_46 : decode cX3_slumpRowOnce 46 = .ok (.aload_n 0, 1) := by decide +kernel
theorem dX3_slumpRowOnce_47 : decode cX3_slumpRowOnce 47 = .ok (.getfield 9, 3) := by decide +kernel
theorem dX3_slumpRowOnce_50 : decode cX3_slumpRowOnce 50 = .ok (.iload 5, 2) := by decide +kernel
theorem dX3_slumpRowOnce_52 : decode cX3_slumpRowOnce 52 = .ok (.dup2, 1) := by decide +kernel
theorem dX3_slumpRowOnce_53 : decode cX3_slumpRowOnce 53 = .ok (.iaload, 1) := by decide +kernel
theorem dX3_slumpRowOnce_54 : decode cX3_slumpRowOnce 54 = .ok (.iconst 1, 1) := by decide +kernel
theorem dX3_slumpRowOnce_55 : decode cX3_slumpRowOnce 55 = .ok (.isub, 1) := by decide +kernel
theorem dX3_slumpRowOnce_56 : decode cX3_slumpRowOnce 56 = .ok (.iastore, 1) := by decide +kernel
theorem dX3_slumpRowOnce_57 : decode cX3_slumpRowOnce 57 = .ok (.aload_n 0, 1) := by decide +kernel
theorem dX3_slumpRowOnce_58 : decode cX3_slumpRowOnce 58 = .ok (.getfield 9, 3) := by decide +kernel
theorem dX3_slumpRowOnce_61 : decode cX3_slumpRowOnce 61 = .ok (.iload 5, 2) := by decide +kernel
theorem dX3_slumpRowOnce_63 : decode cX3_slumpRowOnce 63 = .ok (.iconst 1, 1) := by decide +kernel
theorem dX3_slumpRowOnce_64 : decode cX3_slumpRowOnce 64 = .ok (.iadd, 1) := by decide +kernel
theorem dX3_slumpRowOnce_65 : decode cX3_slumpRowOnce 65 = .ok (.dup2, 1) := by decide +kernel
theorem dX3_slumpRowOnce_66 : decode cX3_slumpRowOnce 66 = .ok (.iaload, 1) := by decide +kernel
theorem dX3_slumpRowOnce_67 : decode cX3_slumpRowOnce 67 = .ok (.iconst 1, 1) := by decide +kernel
theorem dX3_slumpRowOnce_68 : decode cX3_slumpRowOnce 68 = .ok (.iadd, 1) := by decide +kernel
theorem dX3_slumpRowOnce_69 : decode cX3_slumpRowOnce 69 = .ok (.iastore, 1) := by decide +kernel
theorem dX3_slumpRowOnce_70 : decode cX3_slumpRowOnce 70 = .ok (.iinc 3 1, 3) := by decide +kernel
theorem dX3_slumpRowOnce_73 : decode cX3_slumpRowOnce 73 = .ok (.goto 37, 3) := by decide +kernel
theorem dX3_slumpRowOnce_76 : decode cX3_slumpRowOnce 76 = .ok (.iload 6, 2) := by decide +kernel
theorem dX3_slumpRowOnce_78 : decode cX3_slumpRowOnce 78 = .ok (.iload_n 2, 1) := by decide +kernel
theorem dX3_slumpRowOnce_79 : decode cX3_slumpRowOnce 79 = .ok (.ineg, 1) := by decide +kernel
theorem dX3_slumpRowOnce_80 : decode cX3_slumpRowOnce 80 = .ok (.if_icmp .ge 30, 3) := by decide +kernel
theorem dX3_slumpRowOnce_83 : decode cX3_slumpRowOnce 83 = .ok (.aload_n 0, 1) := by decide +kernel
theorem dX3_slumpRowOnce_84 : decode cX3_slumpRowOnce 84 = .ok (.getfield 9, 3) := by decide +kernel
theorem dX3_slumpRowOnce_87 : decode cX3_slumpRowOnce 87 = .ok (.iload 5, 2) := by decide +kernel
theorem dX3_slumpRowOnce_89 : decode cX3_slumpRowOnce 89 = .ok (.dup2, 1) := by decide +kernel
theorem dX3_slumpRowOnce_90 : decode cX3_slumpRowOnce 90 = .ok (.iaload, 1) := by decide +kernel
theorem dX3_slumpRowOnce_91 : decode cX3_slumpRowOnce 91 = .ok (.iconst 1, 1) := by decide +kernel
theorem dX3_slumpRowOnce_92 : decode cX3_slumpRowOnce 92 = .ok (.iadd, 1) := by decide +kernel
theorem dX3_slumpRowOnce_93 : decode cX3_slumpRowOnce 93 = .ok (.iastore, 1) := by decide +kernel
theorem dX3_slumpRowOnce_94 : decode cX3_slumpRowOnce 94 = .ok (.aload_n 0, 1) := by decide +kernel
theorem dX3_slumpRowOnce_95 : decode cX3_slumpRowOnce 95 = .ok (.getfield 9, 3) := by decide +kernel
theorem dX3_slumpRowOnce_98 : decode cX3_slumpRowOnce 98 = .ok (.iload 5, 2) := by decide +kernel
theorem dX3_slumpRowOnce_100 : decode cX3_slumpRowOnce 100 = .ok (.iconst 1, 1) := by decide +kernel
theorem dX3_slumpRowOnce_101 : decode cX3_slumpRowOnce 101 = .ok (.iadd, 1) := by decide +kernel
theorem dX3_slumpRowOnce_102 : decode cX3_slumpRowOnce 102 = .ok (.dup2, 1) := by decide +kernel
theorem dX3_slumpRowOnce_103 : decode cX3_slumpRowOnce 103 = .ok (.iaload, 1) := by decide +kernel
theorem dX3_slumpRowOnce_104 : decode cX3_slumpRowOnce 104 = .ok (.iconst 1, 1) := by decide +kernel
theorem dX3_slumpRowOnce_105 : decode cX3_slumpRowOnce 105 = .ok (.isub, 1) := by decide +kernel
theorem dX3_slumpRowOnce_106 : decode cX3_slumpRowOnce 106 = .ok (.iastore, 1) := by decide +kernel
theorem dX3_slumpRowOnce_107 : decode cX3_slumpRowOnce 107 = .ok (.iinc 3 1, 3) := by decide +kernel
theorem dX3_slumpRowOnce_110 : decode cX3_slumpRowOnce 110 = .ok (.iinc 4 1, 3) := by decide +kernel
theorem dX3_slumpRowOnce_113 : decode cX3_slumpRowOnce 113 = .ok (.goto (-108), 3) := by decide +kernel
theorem dX3_slumpRowOnce_116 : decode cX3_slumpRowOnce 116 = .ok (.iload_n 3, 1) := by decide +kernel
theorem dX3_slumpRowOnce_117 : decode cX3_slumpRowOnce 117 = .ok (.ireturn, 1) := by decide +kernel
theorem dX4_init_0 : decode cX4_init 0 = .ok (.aload_n 0, 1) := by decide +kernel
theorem dX4_init_1 : decode cX4_init 1 = .ok (.invokespecial 3, 3) := by decide +kernel
theorem dX4_init_4 : decode cX4_init 4 = .ok (.aload_n 0, 1) := by decide +kernel
theorem dX4_init_5 : decode cX4_init 5 = .ok (.new 9, 3) := by decide +kernel
theorem dX4_init_8 : decode cX4_init 8 = .ok (.dup, 1) := by decide +kernel
theorem dX4_init_9 : decode cX4_init 9 = .ok (.invokespecial 11, 3) := by decide +kernel
theorem dX4_init_12 : decode cX4_init 12 = .ok (.putfield 12, 3) := by decide +kernel
theorem dX4_init_15 : decode cX4_init 15 = .ok (.aload_n 0, 1) := by decide +kernel
theorem dX4_init_16 : decode cX4_init 16 = .ok (.new 18, 3) := by decide +kernel
theorem dX4_init_19 : decode cX4_init 19 = .ok (.dup, 1) := by decide +kernel
theorem dX4_init_20 : decode cX4_init 20 = .ok (.invokespecial 20, 3) := by decide +kernel
theorem dX4_init_23 : decode cX4_init 23 = .ok (.putfield 21, 3) := by decide +kernel
theorem dX4_init_26 : decode cX4_init 26 = .ok (.aload_n 0, 1) := by decide +kernel
theorem dX4_init_27 : decode cX4_init 27 = .ok (.iconst 4, 1) := by decide +kernel
theorem dX4_init_28 : decode cX4_init 28 = .ok (.newarray .int, 2) := by decide +kernel
theorem dX4_init_30 : decode cX4_init 30 = .ok (.putfield 25, 3) := by decide +kernel
theorem dX4_init_33 : decode cX4_init 33 = .ok (.aload_n 0, 1) := by decide +kernel
theorem dX4_init_34 : decode cX4_init 34 = .ok (.bipush 9, 2) := by decide +kernel
theorem dX4_init_36 : decode cX4_init 36 = .ok (.newarray .int, 2) := by decide +kernel
theorem dX4_init_38 : decode cX4_init 38 = .ok (.putfield 29, 3) := by decide +kernel
theorem dX4_init_41 : decode cX4_init 41 = .ok (.aload_n 0, 1) := by decide +kernel
theorem dX4_init_42 : decode cX4_init 42 = .ok (.sipush 168, 3) := by decide +kernel
theorem dX4_init_45 : decode cX4_init 45 = .ok (.newarray .int, 2) := by decide +kernel
theorem dX4_init_47 : decode cX4_init 47 = .ok (.putfield 32, 3) := by decide +kernel
theorem dX4_init_50 : decode cX4_init 50 = .ok (.aload_n 0, 1) := by decide +kernel
theorem dX4_init_51 : decode cX4_init 51 = .ok (.bipush 40, 2) := by decide +kernel
theorem dX4_init_53 : decode cX4_init 53 = .ok (.putfield 35, 3) := by decide +kernel
theorem dX4_init_56 : decode cX4_init 56 = .ok (.getstatic 39, 3) := by decide +kernel
theorem dX4_init_59 : decode cX4_init 59 = .ok (.iconst 0, 1) := by decide +kernel
theorem dX4_init_60 : decode cX4_init 60 = .ok (.aload_n 0, 1) := by decide +kernel
theorem dX4_init_61 : decode cX4_init 61 = .ok (.getfield 25, 3) := by decide +kernel
theorem dX4_init_64 : decode cX4_init 64 = .ok (.iconst 0, 1) := by decide +kernel
theorem dX4_init_65 : decode cX4_init 65 = .ok (.iconst 4, 1) := by decide +kernel
theorem dX4_init_66 : decode cX4_init 66 = .ok (.invokestatic 42, 3) := by decide +kernel
theorem dX4_init_69 : decode cX4_init 69 = .ok (.return_, 1) := by decide +kernel
theorem dX4_copyFrom_0 : decode cX4_copyFrom 0 = .ok (.aload_n 0, 1) := by decide +kernel
theorem dX4_copyFrom_1 : decode cX4_copyFrom 1 = .ok (.getfield 12, 3) := by decide +kernel
theorem dX4_copyFrom_4 : decode cX4_copyFrom 4 = .ok (.aload_n 1, 1) := by decide +kernel
theorem dX4_copyFrom_5 : decode cX4_copyFrom 5 = .ok (.getfield 12, 3) := by decide +kernel
theorem dX4_copyFrom_8 : decode cX4_copyFrom 8 = .ok (.invokevirtual 48, 3) := by decide +kernel
theorem dX4_copyFrom_11 : decode cX4_copyFrom 11 = .ok (.aload_n 0, 1) := by decide +kernel
theorem dX4_copyFrom_12 : decode cX4_copyFrom 12 = .ok (.getfield 21, 3) := by decide +kernel
theorem dX4_copyFrom_15 : decode cX4_copyFrom 15 = .ok (.aload_n 1, 1) := by decide +kernel
theorem dX4_copyFrom_16 : decode cX4_copyFrom 16 = .ok (.getfield 21, 3) := by decide +kernel
theorem dX4_copyFrom_19 : decode cX4_copyFrom 19 = .ok (.invokevirtual 52, 3) := by decide +kernel
theorem dX4_copyFrom_22 : decode cX4_copyFrom 22 = .ok (.aload_n 1, 1) := by decide +kernel
theorem dX4_copyFrom_23 : decode cX4_copyFrom 23 = .ok (.getfield 25, 3) := by decide +kernel
theorem dX4_copyFrom_26 : decode cX4_copyFrom 26 = .ok (.iconst 0, 1) := by decide +kernel
theorem dX4_copyFrom_27 : decode cX4_copyFrom 27 = .ok (.aload_n 0, 1) := by decide +kernel
theorem dX4_copyFrom_28 : decode cX4_copyFrom 28 = .ok (.getfield 25, 3) := by decide +kernel
theorem dX4_copyFrom_31 : decode cX4_copyFrom 31 = .ok (.iconst 0, 1) := by decide +kernel
theorem dX4_copyFrom_32 : decode cX4_copyFrom 32 = .ok (.iconst 4, 1) := by decide +kernel
theorem dX4_copyFrom_33 : decode cX4_copyFrom 33 = .ok (.invokestatic 42, 3) := by decide +kernel
theorem dX4_copyFrom_36 : decode cX4_copyFrom 36 = .ok (.aload_n 1, 1) := by decide +kernel
theorem dX4_copyFrom_37 : decode cX4_copyFrom 37 = .ok (.getfield 29, 3) := by decide +kernel
theorem dX4_copyFrom_40 : decode cX4_copyFrom 40 = .ok (.iconst 0, 1) := by decide +kernel
theorem dX4_copyFrom_41 : decode cX4_copyFrom 41 = .ok (.aload_n 0, 1) := by decide +kernel
theorem dX4_copyFrom_42 : decode cX4_copyFrom 42 = .ok (.getfield 29, 3) := by decide +kernel
theorem dX4_copyFrom_45 : decode cX4_copyFrom 45 = .ok (.iconst 0, 1) := by decide +kernel
theorem dX4_copyFrom_46 : decode cX4_copyFrom 46 = .ok (.bipush 9, 2) := by decide +kernel
theorem dX4_copyFrom_48 : decode cX4_copyFrom 48 = .ok (.invokestatic 42, 3) := by decide +kernel
theorem dX4_copyFrom_51 : decode cX4_copyFrom 51 = .ok (.aload_n 1, 1) := by decide +kernel
theorem dX4_copyFrom_52 : decode cX4_copyFrom 52 = .ok (.getfield 32, 3) := by decide +kernel
theorem dX4_copyFrom_55 : decode cX4_copyFrom 55 = .ok (.iconst 0, 1) := by decide +kernel
theorem dX4_copyFrom_56 : decode cX4_copyFrom 56 = .ok (.aload_n 0, 1) := by decide +kernel
theorem dX4_copyFrom_57 : decode cX4_copyFrom 57 = .ok (.getfield 32, 3) := by decide +kernel
theorem dX4_copyFrom_60 : decode cX4_copyFrom 60 = .ok (.iconst 0, 1) := by decide +kernel
theorem dX4_copyFrom_61 : decode cX4_copyFrom 61 = .ok (.aload_n 0, 1) := by decide +kernel
theorem dX4_copyFrom_62 : decode cX4_copyFrom 62 = .ok (.getfield 32, 3) := by decide +kernel
theorem dX4_copyFrom_65 : decode cX4_copyFrom 65 = .ok (.arraylength, 1) := by decide +kernel
theorem dX4_copyFrom_66 : decode cX4_copyFrom 66 = .ok (.invokestatic 42, 3) := by decide +kernel
theorem dX4_copyFrom_69 : decode cX4_copyFrom 69 = .ok (.aload_n 0, 1) := by decide +kernel
theorem dX4_copyFrom_70 : decode cX4_copyFrom 70 = .ok (.aload_n 1, 1) := by decide +kernel
theorem dX4_copyFrom_71 : decode cX4_copyFrom 71 = .ok (.getfield 55, 3) := by decide +kernel
theorem dX4_copyFrom_74 : decode cX4_copyFrom 74 = .ok (.putfield 55, 3) := by decide +kernel
theorem dX4_copyFrom_77 : decode cX4_copyFrom 77 = .ok (.aload_n 0, 1) := by decide +kernel
theorem dX4_copyFrom_78 : decode cX4_copyFrom 78 = .ok (.aload_n 1, 1) := by decide +kernel
theorem dX4_copyFrom_79 : decode cX4_copyFrom 79 = .ok (.getfield 35, 3) := by decide +kernel
theorem dX4_copyFrom_82 : decode cX4_copyFrom 82 = .ok (.putfield 35, 3) := by decide +kernel
theorem dX4_copyFrom_85 : decode cX4_copyFrom 85 = .ok (.return_, 1) := by decide +kernel
theorem dX4_takeOver_0 : decode cX4_takeOver 0 = .ok (.aload_n 1, 1) := by decide +kernel
theorem dX4_takeOver_1 : decode cX4_takeOver 1 = .ok (.getfield 58, 3) := by decide +kernel
theorem dX4_takeOver_4 : decode cX4_takeOver 4 = .ok (.iconst 0, 1) := by decide +kernel
theorem dX4_takeOver_5 : decode cX4_takeOver 5 = .ok (.aload_n 0, 1) := by decide +kernel
theorem dX4_takeOver_6 : decode cX4_takeOver 6 = .ok (.getfield 32, 3) := by decide +kernel
theorem dX4_takeOver_9 : decode cX4_takeOver 9 = .ok (.iload_n 2, 1) := by decide +kernel
theorem dX4_takeOver_10 : decode cX4_takeOver 10 = .ok (.bipush 7, 2) := by decide +kernel
theorem dX4_takeOver_12 : decode cX4_takeOver 12 = .ok (.imul, 1) := by decide +kernel
theorem dX4_takeOver_13 : decode cX4_takeOver 13 = .ok (.bipush 7, 2) := by decide +kernel
theorem dX4_takeOver_15 : decode cX4_takeOver 15 = .ok (.invokestatic 42, 3) := by decide +kernel
theorem dX4_takeOver_18 : decode cX4_takeOver 18 = .ok (.aload_n 0, 1) := by decide +kernel
theorem dX4_takeOver_19 : decode cX4_takeOver 19 = .ok (.getfield 29, 3) := by decide +kernel
theorem dX4_takeOver_22 : decode cX4_takeOver 22 = .ok (.iconst 1, 1) := by decide +kernel
theorem dX4_takeOver_23 : decode cX4_takeOver 23 = .ok (.dup2, 1) := by decide +kernel
theorem dX4_takeOver_24 : decode cX4_takeOver 24 = .ok (.iaload, 1) := by decide +kernel
theorem dX4_takeOver_25 : decode cX4_takeOver 25 = .ok (.aload_n 1, 1) := by decide +kernel
theorem dX4_takeOver_26 : decode cX4_takeOver 26 = .ok (.getfield 63, 3) := by decide +kernel
theorem dX4_takeOver_29 : decode cX4_takeOver 29 = .ok (.iadd, 1) := by decide +kernel
theorem dX4_takeOver_30 : decode cX4_takeOver 30 = .ok (.iastore, 1) := by decide +kernel
theorem dX4_takeOver_31 : decode cX4_takeOver 31 = .ok (.aload_n 0, 1) := by decide +kernel
theorem dX4_takeOver_32 : decode cX4_takeOver 32 = .ok (.getfield 29, 3) := by decide +kernel
theorem dX4_takeOver_35 : decode cX4_takeOver 35 = .ok (.iconst 2, 1) := by decide +kernel
theorem dX4_takeOver_36 : decode cX4_takeOver 36 = .ok (.dup2, 1) := by decide +kernel
theorem dX4_takeOver_37 : decode cX4_takeOver 37 = .ok (.iaload, 1) := by decide +kernel
theorem dX4_takeOver_38 : decode cX4_takeOver 38 = .ok (.aload_n 1, 1) := by decide +kernel
theorem dX4_takeOver_39 : decode cX4_takeOver 39 = .ok (.getfield 66, 3) := by decide +kernel
theorem dX4_takeOver_42 : decode cX4_takeOver 42 = .ok (.iadd, 1) := by decide +kernel
theorem dX4_takeOver_43 : decode cX4_takeOver 43 = .ok (.iastore, 1) := by decide +kernel
theorem dX4_takeOver_44 : decode cX4_takeOver 44 = .ok (.aload_n 0, 1) := by decide +kernel
theorem dX4_takeOver_45 : decode cX4_takeOver 45 = .ok (.getfield 29, 3) := by decide +kernel
theorem dX4_takeOver_48 : decode cX4_takeOver 48 = .ok (.iconst 5, 1) := by decide +kernel
theorem dX4_takeOver_49 : decode cX4_takeOver 49 = .ok (.dup2, 1) := by decide +kernel
theorem dX4_takeOver_50 : decode cX4_takeOver 50 = .ok (.iaload, 1) := by decide +kernel
theorem dX4_takeOver_51 : decode cX4_takeOver 51 = .ok (.iconst 1, 1) := by decide +kernel
theorem dX4_takeOver_52 : decode cX4_takeOver 52 = .ok (.iadd, 1) := by decide +kernel
theorem dX4_takeOver_53 : decode cX4_takeOver 53 = .ok (.iastore, 1) := by decide +kernel
theorem dX4_takeOver_54 : decode cX4_takeOver 54 = .ok (.aload_n 0, 1) := by decide +kernel
theorem dX4_takeOver_55 : decode cX4_takeOver 55 = .ok (.getfield 29, 3) := by decide +kernel
theorem dX4_takeOver_58 : decode cX4_takeOver 58 = .ok (.bipush 6, 2) := by decide +kernel
theorem dX4_takeOver_60 : decode cX4_takeOver 60 = .ok (.dup2, 1) := by decide +kernel
theorem dX4_takeOver_61 : decode cX4_takeOver 61 = .ok (.iaload, 1) := by decide +kernel
theorem dX4_takeOver_62 : decode cX4_takeOver 62 = .ok (.aload_n 1, 1) := by decide +kernel
theorem dX4_takeOver_63 : decode cX4_takeOver 63 = .ok (.iconst 5, 1) := by decide +kernel
theorem dX4_takeOver_64 : decode cX4_takeOver 64 = .ok (.invokevirtual 69, 3) := by decide +kernel
theorem dX4_takeOver_67 : decode cX4_takeOver 67 = .ok (.iadd, 1) := by decide +kernel
theorem dX4_takeOver_68 : decode cX4_takeOver 68 = .ok (.iastore, 1) := by decide +kernel
theorem dX4_takeOver_69 : decode cX4_takeOver 69 = .ok (.return_, 1) := by decide +kernel
theorem dX5_init_0 : decode cX5_init 0 = .ok (.aload_n 0, 1) := by decide +kernel
theorem dX5_init_1 : decode cX5_init 1 = .ok (.invokespecial 3, 3) := by decide +kernel
theorem dX5_init_4 : decode cX5_init 4 = .ok (.aload_n 0, 1) := by decide +kernel
theorem dX5_init_5 : decode cX5_init 5 = .ok (.bipush 60, 2) := by decide +kernel
theorem dX5_init_7 : decode cX5_init 7 = .ok (.newarray .char, 2) := by decide +kernel
theorem dX5_init_9 : decode cX5_init 9 = .ok (.putfield 9, 3) := by decide +kernel
theorem dX5_init_12 : decode cX5_init 12 = .ok (.aload_n 0, 1) := by decide +kernel
theorem dX5_init_13 : decode cX5_init 13 = .ok (.new 15, 3) := by decide +kernel
theorem dX5_init_16 : decode cX5_init 16 = .ok (.dup, 1) := by decide +kernel
theorem dX5_init_17 : decode cX5_init 17 = .ok (.invokespecial 17, 3) := by decide +kernel
theorem dX5_init_20 : decode cX5_init 20 = .ok (.putfield 18, 3) := by decide +kernel
theorem dX5_init_23 : decode cX5_init 23 = .ok (.return_, 1) := by decide +kernel
theorem dX5_length_0 : decode cX5_length 0 = .ok (.aload_n 0, 1) := by decide +kernel
theorem dX5_length_1 : decode cX5_length 1 = .ok (.getfield 22, 3) := by decide +kernel
theorem dX5_length_4 : decode cX5_length 4 = .ok (.ireturn, 1) := by decide +kernel
theorem dX6_init_0 : decode cX6_init 0 = .ok (.aload_n 0, 1) := by decide +kernel
theorem dX6_init_1 : decode cX6_init 1 = .ok (.invokespecial 3, 3) := by decide +kernel
theorem dX6_init_4 : decode cX6_init 4 = .ok (.aload_n 0, 1) := by decide +kernel
theorem dX6_init_5 : decode cX6_init 5 = .ok (.new 9, 3) := by decide +kernel
theorem dX6_init_8 : decode cX6_init 8 = .ok (.dup, 1) := by decide +kernel
theorem dX6_init_9 : decode cX6_init 9 = .ok (.invokespecial 11, 3) := by decide +kernel
theorem dX6_init_12 : decode cX6_init 12 = .ok (.putfield 12, 3) := by decide +kernel
theorem dX6_init_15 : decode cX6_init 15 = .ok (.aload_n 0, 1) := by decide +kernel
theorem dX6_init_16 : decode cX6_init 16 = .ok (.new 9, 3) := by decide +kernel
theorem dX6_init_19 : decode cX6_init 19 = .ok (.dup, 1) := by decide +kernel
theorem dX6_init_20 : decode cX6_init 20 = .ok (.invokespecial 11, 3) := by decide +kernel
theorem dX6_init_23 : decode cX6_init 23 = .ok (.putfield 16, 3) := by decide +kernel
theorem dX6_init_26 : decode cX6_init 26 = .ok (.aload_n 0, 1) := by decide +kernel
theorem dX6_init_27 : decode cX6_init 27 = .ok (.new 9, 3) := by decide +kernel
theorem dX6_init_30 : decode cX6_init 30 = .ok (.dup, 1) := by decide +kernel
theorem dX6_init_31 : decode cX6_init 31 = .ok (.invokespecial 11, 3) := by decide +kernel
theorem dX6_init_34 : decode cX6_init 34 = .ok (.putfield 19, 3) := by decide +kernel
theorem dX6_init_37 : decode cX6_init 37 = .ok (.aload_n 0, 1) := by decide +kernel
theorem dX6_init_38 : decode cX6_init 38 = .ok (.new 22, 3) := by decide +kernel
theorem dX6_init_41 : decode cX6_init 41 = .ok (.dup, 1) := by decide +kernel
theorem dX6_init_42 : decode cX6_init 42 = .ok (.invokespecial 24, 3) := by decide +kernel
theorem dX6_init_45 : decode cX6_init 45 = .ok (.putfield 25, 3) := by decide +kernel
theorem dX6_init_48 : decode cX6_init 48 = .ok (.aload_n 0, 1) := by decide +kernel
theorem dX6_init_49 : decode cX6_init 49 = .ok (.new 29, 3) := by decide +kernel
theorem dX6_init_52 : decode cX6_init 52 = .ok (.dup, 1) := by decide +kernel
theorem dX6_init_53 : decode cX6_init 53 = .ok (.invokespecial 31, 3) := by decide +kernel
theorem dX6_init_56 : decode cX6_init 56 = .ok (.putfield 32, 3) := by decide +kernel
theorem dX6_init_59 : decode cX6_init 59 = .ok (.aload_n 0, 1) := by decide +kernel
theorem dX6_init_60 : decode cX6_init 60 = .ok (.new 36, 3) := by decide +kernel
theorem dX6_init_63 : decode cX6_init 63 = .ok (.dup, 1) := by decide +kernel
theorem dX6_init_64 : decode cX6_init 64 = .ok (.invokespecial 38, 3) := by decide +kernel
theorem dX6_init_67 : decode cX6_init 67 = .ok (.putfield 39, 3) := by decide +kernel
theorem dX6_init_70 : decode cX6_init 70 = .ok (.aload_n 0, 1) := by decide +kernel
theorem dX6_init_71 : decode cX6_init 71 = .ok (.new 43, 3) := by decide +kernel
theorem dX6_init_74 : decode cX6_init 74 = .ok (.dup, 1) := by decide +kernel
theorem dX6_init_75 : decode cX6_init 75 = .ok (.invokespecial 45, 3) := by decide +kernel
theorem dX6_init_78 : decode cX6_init 78 = .ok (.putfield 46, 3) := by decide +kernel
theorem dX6_init_81 : decode cX6_init 81 = .ok (.aload_n 0, 1) := by decide +kernel
theorem dX6_init_82 : decode cX6_init 82 = .ok (.bipush 24, 2) := by decide +kernel
theorem dX6_init_84 : decode cX6_init 84 = .ok (.newarray .int, 2) := by decide +kernel
theorem dX6_init_86 : decode cX6_init 86 = .ok (.putfield 50, 3) := by decide +kernel
theorem dX6_init_89 : decode cX6_init 89 = .ok (.return_, 1) := by decide +kernel
theorem dX6_dump_0 : decode cX6_dump 0 = .ok (.iload_n 1, 1) := by decide +kernel
theorem dX6_dump_1 : decode cX6_dump 1 = .ok (.invokestatic 54, 3) := by decide +kernel
theorem dX6_dump_4 : decode cX6_dump 4 = .ok (.ifCond .eq 10, 3) := by decide +kernel
theorem dX6_dump_7 : decode cX6_dump 7 = .ok (.iload_n 2, 1) := by decide +kernel
theorem dX6_dump_8 : decode cX6_dump 8 = .ok (.invokestatic 58, 3) := by decide +kernel
theorem dX6_dump_11 : decode cX6_dump 11 = .ok (.ifCond .ne 7, 3) := by decide +kernel
theorem dX6_dump_14 : decode cX6_dump 14 = .ok (.sipush (-1001), 3) := by decide +kernel
theorem dX6_dump_17 : decode cX6_dump 17 = .ok (.ireturn, 1) := by decide +kernel
theorem dX6_dump_18 : decode cX6_dump 18 = .ok (.iload_n 3, 1) := by decide +kernel
theorem dX6_dump_19 : decode cX6_dump 19 = .ok (.ifCond .lt 9, 3) := by decide +kernel
theorem dX6_dump_22 : decode cX6_dump 22 = .ok (.iload_n 3, 1) := by decide +kernel
theorem dX6_dump_23 : decode cX6_dump 23 = .ok (.bipush 99, 2) := by decide +kernel
theorem dX6_dump_25 : decode cX6_dump 25 = .ok (.if_icmp .le 7, 3) := by decide +kernel
theorem dX6_dump_28 : decode cX6_dump 28 = .ok (.sipush (-1002), 3) := by decide +kernel
theorem dX6_dump_31 : decode cX6_dump 31 = .ok (.ireturn, 1) := by decide +kernel
theorem dX6_dump_32 : decode cX6_dump 32 = .ok (.aload_n 0, 1) := by decide +kernel
theorem dX6_dump_33 : decode cX6_dump 33 = .ok (.getfield 12, 3) := by decide +kernel
theorem dX6_dump_36 : decode cX6_dump 36 = .ok (.getfield 61, 3) := by decide +kernel
theorem dX6_dump_39 : decode cX6_dump 39 = .ok (.iload_n 1, 1) := by decide +kernel
theorem dX6_dump_40 : decode cX6_dump 40 = .ok (.iload_n 2, 1) := by decide +kernel
theorem dX6_dump_41 : decode cX6_dump 41 = .ok (.invokevirtual 64, 3) := by decide +kernel
theorem dX6_dump_44 : decode cX6_dump 44 = .ok (.istore 4, 2) := by decide +kernel
theorem dX6_dump_46 : decode cX6_dump 46 = .ok (.iload 4, 2) := by decide +kernel
theorem dX6_dump_48 : decode cX6_dump 48 = .ok (.iload_n 3, 1) := by decide +kernel
theorem dX6_dump_49 : decode cX6_dump 49 = .ok (.if_icmp .ne 7, 3) := by decide +kernel
theorem dX6_dump_52 : decode cX6_dump 52 = .ok (.sipush (-1005), 3) := by decide +kernel
theorem dX6_dump_55 : decode cX6_dump 55 = .ok (.ireturn, 1) := by decide +kernel
theorem dX6_dump_56 : decode cX6_dump 56 = .ok (.aload_n 0, 1) := by decide +kernel
theorem dX6_dump_57 : decode cX6_dump 57 = .ok (.getfield 25, 3) := by decide +kernel
theorem dX6_dump_60 : decode cX6_dump 60 = .ok (.aload_n 0, 1) := by decide +kernel
theorem dX6_dump_61 : decode cX6_dump 61 = .ok (.getfield 12, 3) := by decide +kernel
theorem dX6_dump_64 : decode cX6_dump 64 = .ok (.invokevirtual 68, 3) := by decide +kernel
theorem dX6_dump_67 : decode cX6_dump 67 = .ok (.aload_n 0, 1) := by decide +kernel
theorem dX6_dump_68 : decode cX6_dump 68 = .ok (.getfield 12, 3) := by decide +kernel
theorem dX6_dump_71 : decode cX6_dump 71 = .ok (.getfield 61, 3) := by decide +kernel
theorem dX6_dump_74 : decode cX6_dump 74 = .ok (.iload_n 1, 1) := by decide +kernel
theorem dX6_dump_75 : decode cX6_dump 75 = .ok (.iload_n 2, 1) := by decide +kernel
theorem dX6_dump_76 : decode cX6_dump 76 = .ok (.iload_n 3, 1) := by decide +kernel
theorem dX6_dump_77 : decode cX6_dump 77 = .ok (.invokevirtual 72, 3) := by decide +kernel
theorem dX6_dump_80 : decode cX6_dump 80 = .ok (.iload_n 3, 1) := by decide +kernel
theorem dX6_dump_81 : decode cX6_dump 81 = .ok (.iload 4, 2) := by decide +kernel
theorem dX6_dump_83 : decode cX6_dump 83 = .ok (.if_icmp .le 22, 3) := by decide +kernel
theorem dX6_dump_86 : decode cX6_dump 86 = .ok (.aload_n 0, 1) := by decide +kernel
theorem dX6_dump_87 : decode cX6_dump 87 = .ok (.getfield 12, 3) := by decide +kernel
theorem dX6_dump_90 : decode cX6_dump 90 = .ok (.getfield 76, 3) := by decide +kernel
theorem dX6_dump_93 : decode cX6_dump 93 = .ok (.iconst 3, 1) := by decide +kernel
theorem dX6_dump_94 : decode cX6_dump 94 = .ok (.dup2, 1) := by decide +kernel
theorem dX6_dump_95 : decode cX6_dump 95 = .ok (.iaload, 1) := by decide +kernel
theorem dX6_dump_96 : decode cX6_dump 96 = .ok (.iload_n 3, 1) := by decide +kernel
theorem dX6_dump_97 : decode cX6_dump 97 = .ok (.iload 4, 2) := by decide +kernel
theorem dX6_dump_99 : decode cX6_dump 99 = .ok (.isub, 1) := by decide +kernel
theorem dX6_dump_100 : decode cX6_dump 100 = .ok (.iadd, 1) := by decide +kernel
theorem dX6_dump_101 : decode cX6_dump 101 = .ok (.iastore, 1) := by decide +kernel
theorem dX6_dump_102 : decode cX6_dump 102 = .ok (.goto 19, 3) := by decide +kernel
theorem dX6_dump_105 : decode cX6_dump 105 = .ok (.aload_n 0, 1) := by decide +kernel
theorem dX6_dump_106 : decode cX6_dump 106 = .ok (.getfield 12, 3) := by decide +kernel
theorem dX6_dump_109 : decode cX6_dump 109 = .ok (.getfield 76, 3) := by decide +kernel
theorem dX6_dump_112 : decode cX6_dump 112 = .ok (.iconst 4, 1) := by decide +kernel
theorem dX6_dump_113 : decode cX6_dump 113 = .ok (.dup2, 1) := by decide +kernel
theorem dX6_dump_114 : decode cX6_dump 114 = .ok (.iaload, 1) := by decide +kernel
theorem dX6_dump_115 : decode cX6_dump 115 = .ok (.iload 4, 2) := by decide +kernel
theorem dX6_dump_117 : decode cX6_dump 117 = .ok (.iload_n 3, 1) := by decide +kernel
theorem dX6_dump_118 : decode cX6_dump 118 = .ok (.isub, 1) := by decide +kernel
theorem dX6_dump_119 : decode cX6_dump 119 = .ok (.iadd, 1) := by decide +kernel
theorem dX6_dump_120 : decode cX6_dump 120 = .ok (.iastore, 1) := by decide +kernel
theorem dX6_dump_121 : decode cX6_dump 121 = .ok (.iload 4, 2) := by decide +kernel
theorem dX6_dump_123 : decode cX6_dump 123 = .ok (.ireturn, 1) := by decide +kernel
theorem dX6_setLevel_0 : decode cX6_setLevel 0 = .ok (.iload_n 1, 1) := by decide +kernel
theorem dX6_setLevel_1 : decode cX6_setLevel 1 = .ok (.bipush 20, 2) := by decide +kernel
theorem dX6_setLevel_3 : decode cX6_setLevel 3 = .ok (.if_icmp .lt 9, 3) := by decide +kernel
theorem dX6_setLevel_6 : decode cX6_setLevel 6 = .ok (.iload_n 1, 1) := by decide +kernel
theorem dX6_setLevel_7 : decode cX6_setLevel 7 = .ok (.bipush 70, 2) := by decide +kernel
theorem dX6_setLevel_9 : decode cX6_setLevel 9 = .ok (.if_icmp .le 7, 3) := by decide +kernel
theorem dX6_setLevel_12 : decode cX6_setLevel 12 = .ok (.sipush (-1002), 3) := by decide +kernel
theorem dX6_setLevel_15 : decode cX6_setLevel 15 = .ok (.ireturn, 1) := by decide +kernel
theorem dX6_setLevel_16 : decode cX6_setLevel 16 = .ok (.aload_n 0, 1) := by decide +kernel
theorem dX6_setLevel_17 : decode cX6_setLevel 17 = .ok (.getfield 12, 3) := by decide +kernel
theorem dX6_setLevel_20 : decode cX6_setLevel 20 = .ok (.getfield 79, 3) := by decide +kernel
theorem dX6_setLevel_23 : decode cX6_setLevel 23 = .ok (.istore_n 2, 1) := by decide +kernel
theorem dX6_setLevel_24 : decode cX6_setLevel 24 = .ok (.iload_n 2, 1) := by decide +kernel
theorem dX6_setLevel_25 : decode cX6_setLevel 25 = .ok (.iload_n 1, 1) := by decide +kernel
theorem dX6_setLevel_26 : decode cX6_setLevel 26 = .ok (.if_icmp .ne 7, 3) := by decide +kernel
theorem dX6_setLevel_29 : decode cX6_setLevel 29 = .ok (.sipush (-1005), 3) := by decide +kernel
theorem dX6_setLevel_32 : decode cX6_setLevel 32 = .ok (.ireturn, 1) := by decide +kernel
theorem dX6_setLevel_33 : decode cX6_setLevel 33 = .ok (.aload_n 0, 1) := by decide +kernel
theorem dX6_setLevel_34 : decode cX6_setLevel 34 = .ok (.getfield 25, 3) := by decide +kernel
theorem dX6_setLevel_37 : decode cX6_setLevel 37 = .ok (.aload_n 0, 1) := by decide +kernel
theorem dX6_setLevel_38 : decode cX6_setLevel 38 = .ok (.getfield 12, 3) := by decide +kernel
theorem dX6_setLevel_41 : decode cX6_setLevel 41 = .ok (.invokevirtual 68, 3) := by decide +kernel
theorem dX6_setLevel_44 : decode cX6_setLevel 44 = .ok (.aload_n 0, 1) := by decide +kernel
theorem dX6_setLevel_45 : decode cX6_setLevel 45 = .ok (.getfield 12, 3) := by decide +kernel
theorem dX6_setLevel_48 : decode cX6_setLevel 48 = .ok (.iload_n 1, 1) := by decide +kernel
theorem dX6_setLevel_49 : decode cX6_setLevel 49 = .ok (.putfield 79, 3) := by decide +kernel
theorem dX6_setLevel_52 : decode cX6_setLevel 52 = .ok (.iload_n 2, 1) := by decide +kernel
theorem dX6_setLevel_53 : decode cX6_setLevel 53 = .ok (.ireturn, 1) := by decide +kernel
theorem dX6_set_0 : decode cX6_set 0 = .ok (.iload_n 1, 1) := by decide +kernel
theorem dX6_set_1 : decode cX6_set 1 = .ok (.ifCond .lt 8, 3) := by decide +kernel
theorem dX6_set_4 : decode cX6_set 4 = .ok (.iload_n 1, 1) := by decide +kernel
theorem dX6_set_5 : decode cX6_set 5 = .ok (.iconst 4, 1) := by decide +kernel
theorem dX6_set_6 : decode cX6_set 6 = .ok (.if_icmp .lt 7, 3) := by decide +kernel
theorem dX6_set_9 : decode cX6_set 9 = .ok (.sipush (-1002), 3) := by decide +kernel
theorem dX6_set_12 : decode cX6_set 12 = .ok (.ireturn, 1) := by decide +kernel
theorem dX6_set_13 : decode cX6_set 13 = .ok (.iload_n 2, 1) := by decide +kernel
theorem dX6_set_14 : decode cX6_set 14 = .ok (.getstatic 83, 3) := by decide +kernel
theorem dX6_set_17 : decode cX6_set 17 = .ok (.iload_n 1, 1) := by decide +kernel
theorem dX6_set_18 : decode cX6_set 18 = .ok (.iaload, 1) := by decide +kernel
theorem dX6_set_19 : decode cX6_set 19 = .ok (.if_icmp .lt 12, 3) := by decide +kernel
theorem dX6_set_22 : decode cX6_set 22 = .ok (.iload_n 2, 1) := by decide +kernel
theorem dX6_set_23 : decode cX6_set 23 = .ok (.getstatic 86, 3) := by decide +kernel
theorem dX6_set_26 : decode cX6_set 26 = .ok (.iload_n 1, 1) := by decide +kernel
theorem dX6_set_27 : decode cX6_set 27 = .ok (.iaload, 1) := by decide +kernel
theorem dX6_set_28 : decode cX6_set 28 = .ok (.if_icmp .le 7, 3) := by decide +kernel
theorem dX6_set_31 : decode cX6_set 31 = .ok (.sipush (-1002), 3) := by decide +kernel
theorem dX6_set_34 : decode cX6_set 34 = .ok (.ireturn, 1) := by decide +kernel
theorem dX6_set_35 : decode cX6_set 35 = .ok (.aload_n 0, 1) := by decide +kernel
theorem dX6_set_36 : decode cX6_set 36 = .ok (.getfield 12, 3) := by decide +kernel
theorem dX6_set_39 : decode cX6_set 39 = .ok (.getfield 89, 3) := by decide +kernel
theorem dX6_set_42 : decode cX6_set 42 = .ok (.iload_n 1, 1) := by decide +kernel
theorem dX6_set_43 : decode cX6_set 43 = .ok (.iaload, 1) := by decide +kernel
theorem dX6_set_44 : decode cX6_set 44 = .ok (.istore_n 3, 1) := by decide +kernel
theorem dX6_set_45 : decode cX6_set 45 = .ok (.iload_n 3, 1) := by decide +kernel
theorem dX6_set_46 : decode cX6_set 46 = .ok (.iload_n 2, 1) := by decide +kernel
theorem dX6_set_47 : decode cX6_set 47 = .ok (.if_icmp .ne 7, 3) := by decide +kernel
theorem dX6_set_50 : decode cX6_set 50 = .ok (.sipush (-1005), 3) := by decide +kernel
theorem dX6_set_53 : decode cX6_set 53 = .ok (.ireturn, 1) := by decide +kernel
theorem dX6_set_54 : decode cX6_set 54 = .ok (.aload_n 0, 1) := by decide +kernel
theorem dX6_set_55 : decode cX6_set 55 = .ok (.getfield 25, 3) := by decide +kernel
theorem dX6_set_58 : decode cX6_set 58 = .ok (.aload_n 0, 1) := by decide +kernel
theorem dX6_set_59 : decode cX6_set 59 = .ok (.getfield 12, 3) := by decide +kernel
theorem dX6_set_62 : decode cX6_set 62 = .ok (.invokevirtual 68, 3) := by decide +kernel
theorem dX6_set_65 : decode cX6_set 65 = .ok (.aload_n 0, 1) := by decide +kernel
theorem dX6_set_66 : decode cX6_set 66 = .ok (.getfield 12, 3) := by decide +kernel
theorem dX6_set_69 : decode cX6_set 69 = .ok (.getfield 89, 3) := by decide +kernel
theorem dX6_set_72 : decode cX6_set 72 = .ok (.iload_n 1, 1) := by decide +kernel
theorem dX6_set_73 : decode cX6_set 73 = .ok (.iload_n 2, 1) := by decide +kernel
theorem dX6_set_74 : decode cX6_set 74 = .ok (.iastore, 1) := by decide +kernel
theorem dX6_set_75 : decode cX6_set 75 = .ok (.iload_n 3, 1) := by decide +kernel
theorem dX6_set_76 : decode cX6_set 76 = .ok (.ireturn, 1) := by decide +kernel
theorem dX6_wave_0 : decode cX6_wave 0 = .ok (.iload_n 1, 1) := by decide +kernel
theorem dX6_wave_1 : decode cX6_wave 1 = .ok (.invokestatic 54, 3) := by decide +kernel
theorem dX6_wave_4 : decode cX6_wave 4 = .ok (.ifCond .ne 7, 3) := by decide +kernel
theorem dX6_wave_7 : decode cX6_wave 7 = .ok (.sipush (-1001), 3) := by decide +kernel
theorem dX6_wave_10 : decode cX6_wave 10 = .ok (.ireturn, 1) := by decide +kernel
theorem dX6_wave_11 : decode cX6_wave 11 = .ok (.iload_n 2, 1) := by decide +kernel
theorem dX6_wave_12 : decode cX6_wave 12 = .ok (.invokestatic 92, 3) := by decide +kernel
theorem dX6_wave_15 : decode cX6_wave 15 = .ok (.ifCond .ne 7, 3) := by decide +kernel
theorem dX6_wave_18 : decode cX6_wave 18 = .ok (.sipush (-1002), 3) := by decide +kernel
theorem dX6_wave_21 : decode cX6_wave 21 = .ok (.ireturn, 1) := by decide +kernel
theorem dX6_wave_22 : decode cX6_wave 22 = .ok (.aload_n 0, 1) := by decide +kernel
theorem dX6_wave_23 : decode cX6_wave 23 = .ok (.getfield 12, 3) := by decide +kernel
theorem dX6_wave_26 : decode cX6_wave 26 = .ok (.getfield 95, 3) := by decide +kernel
theorem dX6_wave_29 : decode cX6_wave 29 = .ok (.invokevirtual 99, 3) := by decide +kernel
theorem dX6_wave_32 : decode cX6_wave 32 = .ok (.bipush 24, 2) := by decide +kernel
theorem dX6_wave_34 : decode cX6_wave 34 = .ok (.if_icmp .lt 7, 3) := by decide +kernel
theorem dX6_wave_37 : decode cX6_wave 37 = .ok (.sipush (-1003), 3) := by decide +kernel
theorem dX6_wave_40 : decode cX6_wave 40 = .ok (.ireturn, 1) := by decide +kernel
theorem dX6_wave_41 : decode cX6_wave 41 = .ok (.aload_n 0, 1) := by decide +kernel
theorem dX6_wave_42 : decode cX6_wave 42 = .ok (.getfield 25, 3) := by decide +kernel
theorem dX6_wave_45 : decode cX6_wave 45 = .ok (.aload_n 0, 1) := by decide +kernel
theorem dX6_wave_46 : decode cX6_wave 46 = .ok (.getfield 12, 3) := by decide +kernel
theorem dX6_wave_49 : decode cX6_wave 49 = .ok (.invokevirtual 68, 3) := by decide +kernel
theorem dX6_wave_52 : decode cX6_wave 52 = .ok (.aload_n 0, 1) := by decide +kernel
theorem dX6_wave_53 : decode cX6_wave 53 = .ok (.getfield 12, 3) := by decide +kernel
theorem dX6_wave_56 : decode cX6_wave 56 = .ok (.getfield 95, 3) := by decide +kernel
theorem dX6_wave_59 : decode cX6_wave 59 = .ok (.iload_n 1, 1) := by decide +kernel
theorem dX6_wave_60 : decode cX6_wave 60 = .ok (.iload_n 2, 1) := by decide +kernel
theorem dX6_wave_61 : decode cX6_wave 61 = .ok (.invokevirtual 105, 3) := by decide +kernel
theorem dX6_wave_64 : decode cX6_wave 64 = .ok (.aload_n 0, 1) := by decide +kernel
theorem dX6_wave_65 : decode cX6_wave 65 = .ok (.getfield 12, 3) := by decide +kernel
theorem dX6_wave_68 : decode cX6_wave 68 = .ok (.getfield 95, 3) := by decide +kernel
theorem dX6_wave_71 : decode cX6_wave 71 = .ok (.invokevirtual 99, 3) := by decide +kernel
theorem dX6_wave_74 : decode cX6_wave 74 = .ok (.ireturn, 1) := by decide +kernel
theorem dX6_strike_0 : decode cX6_strike 0 = .ok (.iload_n 1, 1) := by decide +kernel
theorem dX6_strike_1 : decode cX6_strike 1 = .ok (.invokestatic 92, 3) := by decide +kernel
theorem dX6_strike_4 : decode cX6_strike 4 = .ok (.ifCond .eq 15, 3) := by decide +kernel
theorem dX6_strike_7 : decode cX6_strike 7 = .ok (.iload_n 2, 1) := by decide +kernel
theorem dX6_strike_8 : decode cX6_strike 8 = .ok (.invokestatic 92, 3) := by decide +kernel
theorem dX6_strike_11 : decode cX6_strike 11 = .ok (.ifCond .eq 8, 3) := by decide +kernel
theorem dX6_strike_14 : decode cX6_strike 14 = .ok (.iload_n 2, 1) := by decide +kernel
theorem dX6_strike_15 : decode cX6_strike 15 = .ok (.iload_n 1, 1) := by decide +kernel
theorem dX6_strike_16 : decode cX6_strike 16 = .ok (.if_icmp .ge 7, 3) := by decide +kernel
theorem dX6_strike_19 : decode cX6_strike 19 = .ok (.sipush (-1002), 3) := by decide +kernel
theorem dX6_strike_22 : decode cX6_strike 22 = .ok (.ireturn, 1) := by decide +kernel
theorem dX6_strike_23 : decode cX6_strike 23 = .ok (.aload_n 0, 1) := by decide +kernel
theorem dX6_strike_24 : decode cX6_strike 24 = .ok (.getfield 12, 3) := by decide +kernel
theorem dX6_strike_27 : decode cX6_strike 27 = .ok (.getfield 95, 3) := by decide +kernel
theorem dX6_strike_30 : decode cX6_strike 30 = .ok (.iload_n 1, 1) := by decide +kernel
theorem dX6_strike_31 : decode cX6_strike 31 = .ok (.iload_n 2, 1) := by decide +kernel
theorem dX6_strike_32 : decode cX6_strike 32 = .ok (.invokevirtual 122, 3) := by decide +kernel
theorem dX6_strike_35 : decode cX6_strike 35 = .ok (.ifCond .ne 7, 3) := by decide +kernel
theorem dX6_strike_38 : decode cX6_strike 38 = .ok (.sipush (-1005), 3) := by decide +kernel
theorem dX6_strike_41 : decode cX6_strike 41 = .ok (.ireturn, 1) := by decide +kernel
theorem dX6_strike_42 : decode cX6_strike 42 = .ok (.aload_n 0, 1) := by decide +kernel
theorem dX6_strike_43 : decode cX6_strike 43 = .ok (.getfield 25, 3) := by decide +kernel
theorem dX6_strike_46 : decode cX6_strike 46 = .ok (.aload_n 0, 1) := by decide +kernel
theorem dX6_strike_47 : decode cX6_strike 47 = .ok (.getfield 12, 3) := by decide +kernel
theorem dX6_strike_50 : decode cX6_strike 50 = .ok (.invokevirtual 68, 3) := by decide +kernel
theorem dX6_strike_53 : decode cX6_strike 53 = .ok (.aload_n 0, 1) := by decide +kernel
theorem dX6_strike_54 : decode cX6_strike 54 = .ok (.getfield 12, 3) := by decide +kernel
theorem dX6_strike_57 : decode cX6_strike 57 = .ok (.getfield 95, 3) := by decide +kernel
theorem dX6_strike_60 : decode cX6_strike 60 = .ok (.iload_n 1, 1) := by decide +kernel
theorem dX6_strike_61 : decode cX6_strike 61 = .ok (.iload_n 2, 1) := by decide +kernel
theorem dX6_strike_62 : decode cX6_strike 62 = .ok (.invokevirtual 126, 3) := by decide +kernel
theorem dX6_strike_65 : decode cX6_strike 65 = .ok (.ireturn, 1) := by decide +kernel
theorem dX6_run_0 : decode cX6_run 0 = .ok (.iload_n 1, 1) := by decide +kernel
theorem dX6_run_1 : decode cX6_run 1 = .ok (.ifCond .lt 9, 3) := by decide +kernel
theorem dX6_run_4 : decode cX6_run 4 = .ok (.iload_n 1, 1) := by decide +kernel
theorem dX6_run_5 : decode cX6_run 5 = .ok (.bipush 30, 2) := by decide +kernel
theorem dX6_run_7 : decode cX6_run 7 = .ok (.if_icmp .le 7, 3) := by decide +kernel
theorem dX6_run_10 : decode cX6_run 10 = .ok (.sipush (-1002), 3) := by decide +kernel
theorem dX6_run_13 : decode cX6_run 13 = .ok (.ireturn, 1) := by decide +kernel
theorem dX6_run_14 : decode cX6_run 14 = .ok (.aload_n 0, 1) := by decide +kernel
theorem dX6_run_15 : decode cX6_run 15 = .ok (.getfield 12, 3) := by decide +kernel
theorem dX6_run_18 : decode cX6_run 18 = .ok (.getfield 95, 3) := by decide +kernel
theorem dX6_run_21 : decode cX6_run 21 = .ok (.invokevirtual 99, 3) := by decide +kernel
theorem dX6_run_24 : decode cX6_run 24 = .ok (.ifCond .ne 7, 3) := by decide +kernel
theorem dX6_run_27 : decode cX6_run 27 = .ok (.sipush (-1005), 3) := by decide +kernel
theorem dX6_run_30 : decode cX6_run 30 = .ok (.ireturn, 1) := by decide +kernel
theorem dX6_run_31 : decode cX6_run 31 = .ok (.aload_n 0, 1) := by decide +kernel
theorem dX6_run_32 : decode cX6_run 32 = .ok (.getfield 25, 3) := by decide +kernel
theorem dX6_run_35 : decode cX6_run 35 = .ok (.aload_n 0, 1) := by decide +kernel
theorem dX6_run_36 : decode cX6_run 36 = .ok (.getfield 12, 3) := by decide +kernel
theorem dX6_run_39 : decode cX6_run 39 = .ok (.invokevirtual 68, 3) := by decide +kernel
theorem dX6_run_42 : decode cX6_run 42 = .ok (.aload_n 0, 1) := by decide +kernel
theorem dX6_run_43 : decode cX6_run 43 = .ok (.getfield 12, 3) := by decide +kernel
theorem dX6_run_46 : decode cX6_run 46 = .ok (.getfield 79, 3) := by decide +kernel
theorem dX6_run_49 : decode cX6_run 49 = .ok (.iload_n 1, 1) := by decide +kernel
theorem dX6_run_50 : decode cX6_run 50 = .ok (.iadd, 1) := by decide +kernel
theorem dX6_run_51 : decode cX6_run 51 = .ok (.istore_n 2, 1) := by decide +kernel
theorem dX6_run_52 : decode cX6_run 52 = .ok (.aload_n 0, 1) := by decide +kernel
theorem dX6_run_53 : decode cX6_run 53 = .ok (.iload_n 2, 1) := by decide +kernel
theorem dX6_run_54 : decode cX6_run 54 = .ok (.invokevirtual 129, 3) := by decide +kernel
theorem dX6_run_57 : decode cX6_run 57 = .ok (.istore_n 3, 1) := by decide +kernel
theorem dX6_run_58 : decode cX6_run 58 = .ok (.aload_n 0, 1) := by decide +kernel
theorem dX6_run_59 : decode cX6_run 59 = .ok (.iload_n 2, 1) := by decide +kernel
theorem dX6_run_60 : decode cX6_run 60 = .ok (.invokevirtual 133, 3) := by decide +kernel
theorem dX6_run_63 : decode cX6_run 63 = .ok (.pop, 1) := by decide +kernel
theorem dX6_run_64 : decode cX6_run 64 = .ok (.aload_n 0, 1) := by decide +kernel
theorem dX6_run_65 : decode cX6_run 65 = .ok (.getfield 12, 3) := by decide +kernel
theorem dX6_run_68 : decode cX6_run 68 = .ok (.getfield 95, 3) := by decide +kernel
theorem dX6_run_71 : decode cX6_run 71 = .ok (.invokevirtual 136, 3) := by decide +kernel
theorem dX6_run_74 : decode cX6_run 74 = .ok (.iload_n 3, 1) := by decide +kernel
theorem dX6_run_75 : decode cX6_run 75 = .ok (.ireturn, 1) := by decide +kernel
theorem dX6_settle_0 : decode cX6_settle 0 = .ok (.aload_n 0, 1) := by decide +kernel
theorem dX6_settle_1 : decode cX6_settle 1 = .ok (.getfield 16, 3) := by decide +kernel
theorem dX6_settle_4 : decode cX6_settle 4 = .ok (.aload_n 0, 1) := by decide +kernel
theorem dX6_settle_5 : decode cX6_settle 5 = .ok (.getfield 12, 3) := by decide +kernel
theorem dX6_settle_8 : decode cX6_settle 8 = .ok (.invokevirtual 139, 3) := by decide +kernel
theorem dX6_settle_11 : decode cX6_settle 11 = .ok (.aload_n 0, 1) := by decide +kernel
theorem dX6_settle_12 : decode cX6_settle 12 = .ok (.aload_n 0, 1) := by decide +kernel
theorem dX6_settle_13 : decode cX6_settle 13 = .ok (.getfield 12, 3) := by decide +kernel
theorem dX6_settle_16 : decode cX6_settle 16 = .ok (.getfield 79, 3) := by decide +kernel
theorem dX6_settle_19 : decode cX6_settle 19 = .ok (.invokevirtual 133, 3) := by decide +kernel
theorem dX6_settle_22 : decode cX6_settle 22 = .ok (.istore_n 1, 1) := by decide +kernel
theorem dX6_settle_23 : decode cX6_settle 23 = .ok (.iload_n 1, 1) := by decide +kernel
theorem dX6_settle_24 : decode cX6_settle 24 = .ok (.ifCond .ne 7, 3) := by decide +kernel
theorem dX6_settle_27 : decode cX6_settle 27 = .ok (.sipush (-1005), 3) := by decide +kernel
theorem dX6_settle_30 : decode cX6_settle 30 = .ok (.ireturn, 1) := by decide +kernel
theorem dX6_settle_31 : decode cX6_settle 31 = .ok (.aload_n 0, 1) := by decide +kernel
theorem dX6_settle_32 : decode cX6_settle 32 = .ok (.getfield 25, 3) := by decide +kernel
theorem dX6_settle_35 : decode cX6_settle 35 = .ok (.aload_n 0, 1) := by decide +kernel
theorem dX6_settle_36 : decode cX6_settle 36 = .ok (.getfield 16, 3) := by decide +kernel
theorem dX6_settle_39 : decode cX6_settle 39 = .ok (.invokevirtual 68, 3) := by decide +kernel
theorem dX6_settle_42 : decode cX6_settle 42 = .ok (.iload_n 1, 1) := by decide +kernel
theorem dX6_settle_43 : decode cX6_settle 43 = .ok (.ireturn, 1) := by decide +kernel
theorem dX6_undo_0 : decode cX6_undo 0 = .ok (.aload_n 0, 1) := by decide +kernel
theorem dX6_undo_1 : decode cX6_undo 1 = .ok (.getfield 25, 3) := by decide +kernel
theorem dX6_undo_4 : decode cX6_undo 4 = .ok (.invokevirtual 151, 3) := by decide +kernel
theorem dX6_undo_7 : decode cX6_undo 7 = .ok (.ifCond .ne 7, 3) := by decide +kernel
theorem dX6_undo_10 : decode cX6_undo 10 = .ok (.sipush (-1005), 3) := by decide +kernel
theorem dX6_undo_13 : decode cX6_undo 13 = .ok (.ireturn, 1) := by decide +kernel
theorem dX6_undo_14 : decode cX6_undo 14 = .ok (.aload_n 0, 1) := by decide +kernel
theorem dX6_undo_15 : decode cX6_undo 15 = .ok (.getfield 25, 3) := by decide +kernel
theorem dX6_undo_18 : decode cX6_undo 18 = .ok (.aload_n 0, 1) := by decide +kernel
theorem dX6_undo_19 : decode cX6_undo 19 = .ok (.getfield 12, 3) := by decide +kernel
theorem dX6_undo_22 : decode cX6_undo 22 = .ok (.invokevirtual 152, 3) := by decide +kernel
theorem dX6_undo_25 : decode cX6_undo 25 = .ok (.aload_n 0, 1) := by decide +kernel
theorem dX6_undo_26 : decode cX6_undo 26 = .ok (.getfield 25, 3) := by decide +kernel
theorem dX6_undo_29 : decode cX6_undo 29 = .ok (.invokevirtual 151, 3) := by decide +kernel
theorem dX6_undo_32 : decode cX6_undo 32 = .ok (.ireturn, 1) := by decide +kernel
theorem dX6_cell_0 : decode cX6_cell 0 = .ok (.iload_n 1, 1) := by decide +kernel
theorem dX6_cell_1 : decode cX6_cell 1 = .ok (.invokestatic 54, 3) := by decide +kernel
theorem dX6_cell_4 : decode cX6_cell 4 = .ok (.ifCond .eq 10, 3) := by decide +kernel
theorem dX6_cell_7 : decode cX6_cell 7 = .ok (.iload_n 2, 1) := by decide +kernel
theorem dX6_cell_8 : decode cX6_cell 8 = .ok (.invokestatic 58, 3) := by decide +kernel
theorem dX6_cell_11 : decode cX6_cell 11 = .ok (.ifCond .ne 7, 3) := by decide +kernel
theorem dX6_cell_14 : decode cX6_cell 14 = .ok (.sipush (-1001), 3) := by decide +kernel
theorem dX6_cell_17 : decode cX6_cell 17 = .ok (.ireturn, 1) := by decide +kernel
theorem dX6_cell_18 : decode cX6_cell 18 = .ok (.aload_n 0, 1) := by decide +kernel
theorem dX6_cell_19 : decode cX6_cell 19 = .ok (.getfield 12, 3) := by decide +kernel
theorem dX6_cell_22 : decode cX6_cell 22 = .ok (.getfield 61, 3) := by decide +kernel
theorem dX6_cell_25 : decode cX6_cell 25 = .ok (.astore 4, 2) := by decide +kernel
theorem dX6_cell_27 : decode cX6_cell 27 = .ok (.iload_n 3, 1) := by decide +kernel
theorem dX6_cell_28 : decode cX6_cell 28 = .ok (.tableswitch 128 0 4 #[36, 44, 60, 83, 115], 36) := by decide +kernel
theorem dX6_cell_64 : decode cX6_cell 64 = .ok (.aload 4, 2) := by decide +kernel
theorem dX6_cell_66 : decode cX6_cell 66 = .ok (.iload_n 1, 1) := by decide +kernel
theorem dX6_cell_67 : decode cX6_cell 67 = .ok (.iload_n 2, 1) := by decide +kernel
theorem dX6_cell_68 : decode cX6_cell 68 = .ok (.invokevirtual 64, 3) := by decide +kernel
theorem dX6_cell_71 : decode cX6_cell 71 = .ok (.ireturn, 1) := by decide +kernel
theorem dX6_cell_72 : decode cX6_cell 72 = .ok (.aload_n 0, 1) := by decide +kernel
theorem dX6_cell_73 : decode cX6_cell 73 = .ok (.getfield 12, 3) := by decide +kernel
theorem dX6_cell_76 : decode cX6_cell 76 = .ok (.getfield 79, 3) := by decide +kernel
theorem dX6_cell_79 : decode cX6_cell 79 = .ok (.aload 4, 2) := by decide +kernel
theorem dX6_cell_81 : decode cX6_cell 81 = .ok (.iload_n 1, 1) := by decide +kernel
theorem dX6_cell_82 : decode cX6_cell 82 = .ok (.iload_n 2, 1) := by decide +kernel
theorem dX6_cell_83 : decode cX6_cell 83 = .ok (.invokevirtual 64, 3) := by decide +kernel
theorem dX6_cell_86 : decode cX6_cell 86 = .ok (.isub, 1) := by decide +kernel
theorem dX6_cell_87 : decode cX6_cell 87 = .ok (.ireturn, 1) := by decide +kernel
theorem dX6_cell_88 : decode cX6_cell 88 = .ok (.aload 4, 2) := by decide +kernel
theorem dX6_cell_90 : decode cX6_cell 90 = .ok (.iload_n 1, 1) := by decide +kernel
theorem dX6_cell_91 : decode cX6_cell 91 = .ok (.iload_n 2, 1) := by decide +kernel
theorem dX6_cell_92 : decode cX6_cell 92 = .ok (.aload_n 0, 1) := by decide +kernel
theorem dX6_cell_93 : decode cX6_cell 93 = .ok (.getfield 12, 3) := by decide +kernel
theorem dX6_cell_96 : decode cX6_cell 96 = .ok (.getfield 79, 3) := by decide +kernel
theorem dX6_cell_99 : decode cX6_cell 99 = .ok (.invokevirtual 162, 3) := by decide +kernel
theorem dX6_cell_102 : decode cX6_cell 102 = .ok (.ifCond .eq 7, 3) := by decide +kernel
theorem dX6_cell_105 : decode cX6_cell 105 = .ok (.iconst 1, 1) := by decide +kernel
theorem dX6_cell_106 : decode cX6_cell 106 = .ok (.goto 4, 3) := by decide +kernel
theorem dX6_cell_109 : decode cX6_cell 109 = .ok (.iconst 0, 1) := by decide +kernel
theorem dX6_cell_110 : decode cX6_cell 110 = .ok (.ireturn, 1) := by decide +kernel
theorem dX6_cell_111 : decode cX6_cell 111 = .ok (.aload 4, 2) := by decide +kernel
theorem dX6_cell_113 : decode cX6_cell 113 = .ok (.iload_n 1, 1) := by decide +kernel
theorem dX6_cell_114 : decode cX6_cell 114 = .ok (.iload_n 2, 1) := by decide +kernel
theorem dX6_cell_115 : decode cX6_cell 115 = .ok (.aload_n 0, 1) := by decide +kernel
theorem dX6_cell_116 : decode cX6_cell 116 = .ok (.getfield 12, 3) := by decide +kernel
theorem dX6_cell_119 : decode cX6_cell 119 = .ok (.getfield 79, 3) := by decide +kernel
theorem dX6_cell_122 : decode cX6_cell 122 = .ok (.aload_n 0, 1) := by decide +kernel
theorem dX6_cell_123 : decode cX6_cell 123 = .ok (.getfield 12, 3) := by decide +kernel
theorem dX6_cell_126 : decode cX6_cell 126 = .ok (.getfield 89, 3) := by decide +kernel
theorem dX6_cell_129 : decode cX6_cell 129 = .ok (.iconst 2, 1) := by decide +kernel
theorem dX6_cell_130 : decode cX6_cell 130 = .ok (.iaload, 1) := by decide +kernel
theorem dX6_cell_131 : decode cX6_cell 131 = .ok (.invokevirtual 166, 3) := by decide +kernel
theorem dX6_cell_134 : decode cX6_cell 134 = .ok (.ifCond .eq 7, 3) := by decide +kernel
theorem dX6_cell_137 : decode cX6_cell 137 = .ok (.iconst 1, 1) := by decide +kernel
theorem dX6_cell_138 : decode cX6_cell 138 = .ok (.goto 4, 3) := by decide +kernel
theorem dX6_cell_141 : decode cX6_cell 141 = .ok (.iconst 0, 1) := by decide +kernel
theorem dX6_cell_142 : decode cX6_cell 142 = .ok (.ireturn, 1) := by decide +kernel
theorem dX6_cell_143 : decode cX6_cell 143 = .ok (.aload 4, 2) := by decide +kernel
theorem dX6_cell_145 : decode cX6_cell 145 = .ok (.iload_n 1, 1) := by decide +kernel
theorem dX6_cell_146 : decode cX6_cell 146 = .ok (.iload_n 2, 1) := by decide +kernel
theorem dX6_cell_147 : decode cX6_cell 147 = .ok (.invokevirtual 64, 3) := by decide +kernel
theorem dX6_cell_150 : decode cX6_cell 150 = .ok (.iload_n 2, 1) := by decide +kernel
theorem dX6_cell_151 : decode cX6_cell 151 = .ok (.invokestatic 170, 3) := by decide +kernel
theorem dX6_cell_154 : decode cX6_cell 154 = .ok (.isub, 1) := by decide +kernel
theorem dX6_cell_155 : decode cX6_cell 155 = .ok (.ireturn, 1) := by decide +kernel
theorem dX6_cell_156 : decode cX6_cell 156 = .ok (.sipush (-1002), 3) := by decide +kernel
theorem dX6_cell_159 : decode cX6_cell 159 = .ok (.ireturn, 1) := by decide +kernel
theorem dX6_row_0 : decode cX6_row 0 = .ok (.iload_n 1, 1) := by decide +kernel
theorem dX6_row_1 : decode cX6_row 1 = .ok (.invokestatic 54, 3) := by decide +kernel
theorem dX6_row_4 : decode cX6_row 4 = .ok (.ifCond .ne 7, 3) := by decide +kernel
theorem dX6_row_7 : decode cX6_row 7 = .ok (.sipush (-1001), 3) := by decide +kernel
theorem dX6_row_10 : decode cX6_row 10 = .ok (.ireturn, 1) := by decide +kernel
theorem dX6_row_11 : decode cX6_row 11 = .ok (.aload_n 0, 1) := by decide +kernel
theorem dX6_row_12 : decode cX6_row 12 = .ok (.getfield 12, 3) := by decide +kernel
theorem dX6_row_15 : decode cX6_row 15 = .ok (.getfield 61, 3) := by decide +kernel
theorem dX6_row_18 : decode cX6_row 18 = .ok (.astore_n 3, 1) := by decide +kernel
theorem dX6_row_19 : decode cX6_row 19 = .ok (.iload_n 2, 1) := by decide +kernel
theorem dX6_row_20 : decode cX6_row 20 = .ok (.tableswitch 136 0 6 #[44, 50, 66, 91, 104, 110, 123], 44) := by decide +kernel
theorem dX6_row_64 : decode cX6_row 64 = .ok (.aload_n 3, 1) := by decide +kernel
theorem dX6_row_65 : decode cX6_row 65 = .ok (.iload_n 1, 1) := by decide +kernel
theorem dX6_row_66 : decode cX6_row 66 = .ok (.invokevirtual 173, 3) := by decide +kernel
theorem dX6_row_69 : decode cX6_row 69 = .ok (.ireturn, 1) := by decide +kernel
theorem dX6_row_70 : decode cX6_row 70 = .ok (.aload_n 3, 1) := by decide +kernel
theorem dX6_row_71 : decode cX6_row 71 = .ok (.iload_n 1, 1) := by decide +kernel
theorem dX6_row_72 : decode cX6_row 72 = .ok (.aload_n 0, 1) := by decide +kernel
theorem dX6_row_73 : decode cX6_row 73 = .ok (.getfield 12, 3) := by decide +kernel
theorem dX6_row_76 : decode cX6_row 76 = .ok (.getfield 79, 3) := by decide +kernel
theorem dX6_row_79 : decode cX6_row 79 = .ok (.invokevirtual 176, 3) := by decide +kernel
theorem dX6_row_82 : decode cX6_row 82 = .ok (.invokestatic 179, 3) := by decide +kernel
theorem dX6_row_85 : decode cX6_row 85 = .ok (.ireturn, 1) := by decide +kernel
theorem dX6_row_86 : decode cX6_row 86 = .ok (.aload_n 3, 1) := by decide +kernel
theorem dX6_row_87 : decode cX6_row 87 = .ok (.iload_n 1, 1) := by decide +kernel
theorem dX6_row_88 : decode cX6_row 88 = .ok (.aload_n 0, 1) := by decide +kernel
theorem dX6_row_89 : decode cX6_row 89 = .ok (.getfield 12, 3) := by decide +kernel
theorem dX6_row_92 : decode cX6_row 92 = .ok (.getfield 79, 3) := by decide +kernel
theorem dX6_row_95 : decode cX6_row 95 = .ok (.aload_n 0, 1) := by decide +kernel
theorem dX6_row_96 : decode cX6_row 96 = .ok (.getfield 12, 3) := by decide +kernel
theorem dX6_row_99 : decode cX6_row 99 = .ok (.getfield 89, 3) := by decide +kernel
theorem dX6_row_102 : decode cX6_row 102 = .ok (.iconst 2, 1) := by decide +kernel
theorem dX6_row_103 : decode cX6_row 103 = .ok (.iaload, 1) := by decide +kernel
theorem dX6_row_104 : decode cX6_row 104 = .ok (.invokevirtual 184, 3) := by decide +kernel
theorem dX6_row_107 : decode cX6_row 107 = .ok (.invokestatic 179, 3) := by decide +kernel
theorem dX6_row_110 : decode cX6_row 110 = .ok (.ireturn, 1) := by decide +kernel
theorem dX6_row_111 : decode cX6_row 111 = .ok (.aload_n 3, 1) := by decide +kernel
theorem dX6_row_112 : decode cX6_row 112 = .ok (.iload_n 1, 1) := by decide +kernel
theorem dX6_row_113 : decode cX6_row 113 = .ok (.aload_n 0, 1) := by decide +kernel
theorem dX6_row_114 : decode cX6_row 114 = .ok (.getfield 12, 3) := by decide +kernel
theorem dX6_row_117 : decode cX6_row 117 = .ok (.getfield 79, 3) := by decide +kernel
theorem dX6_row_120 : decode cX6_row 120 = .ok (.invokevirtual 188, 3) := by decide +kernel
theorem dX6_row_123 : decode cX6_row 123 = .ok (.ireturn, 1) := by decide +kernel
theorem dX6_row_124 : decode cX6_row 124 = .ok (.aload_n 3, 1) := by decide +kernel
theorem dX6_row_125 : decode cX6_row 125 = .ok (.iload_n 1, 1) := by decide +kernel
theorem dX6_row_126 : decode cX6_row 126 = .ok (.invokevirtual 191, 3) := by decide +kernel
theorem dX6_row_129 : decode cX6_row 129 = .ok (.ireturn, 1) := by decide +kernel
theorem dX6_row_130 : decode cX6_row 130 = .ok (.aload_n 3, 1) := by decide +kernel
theorem dX6_row_131 : decode cX6_row 131 = .ok (.iload_n 1, 1) := by decide +kernel
theorem dX6_row_132 : decode cX6_row 132 = .ok (.aload_n 0, 1) := by decide +kernel
theorem dX6_row_133 : decode cX6_row 133 = .ok (.getfield 12, 3) := by decide +kernel
theorem dX6_row_136 : decode cX6_row 136 = .ok (.getfield 79, 3) := by decide +kernel
theorem dX6_row_139 : decode cX6_row 139 = .ok (.invokevirtual 176, 3) := by decide +kernel
theorem dX6_row_142 : decode cX6_row 142 = .ok (.ireturn, 1) := by decide +kernel
theorem dX6_row_143 : decode cX6_row 143 = .ok (.aload_n 3, 1) := by decide +kernel
theorem dX6_row_144 : decode cX6_row 144 = .ok (.iload_n 1, 1) := by decide +kernel
theorem dX6_row_145 : decode cX6_row 145 = .ok (.aload_n 0, 1) := by decide +kernel
theorem dX6_row_146 : decode cX6_row 146 = .ok (.getfield 12, 3) := by decide +kernel
theorem dX6_row_149 : decode cX6_row 149 = .ok (.getfield 79, 3) := by decide +kernel
theorem dX6_row_152 : decode cX6_row 152 = .ok (.invokevirtual 194, 3) := by decide +kernel
theorem dX6_row_155 : decode cX6_row 155 = .ok (.ireturn, 1) := by decide +kernel
theorem dX6_row_156 : decode cX6_row 156 = .ok (.sipush (-1002), 3) := by decide +kernel
theorem dX6_row_159 : decode cX6_row 159 = .ok (.ireturn, 1) := by decide +kernel
theorem dX6_waiting_0 : decode cX6_waiting 0 = .ok (.iload_n 1, 1) := by decide +kernel
theorem dX6_waiting_1 : decode cX6_waiting 1 = .ok (.ifCond .ge 7, 3) := by decide +kernel
theorem dX6_waiting_4 : decode cX6_waiting 4 = .ok (.sipush (-1002), 3) := by decide +kernel
theorem dX6_waiting_7 : decode cX6_waiting 7 = .ok (.ireturn, 1) := by decide +kernel
theorem dX6_waiting_8 : decode cX6_waiting 8 = .ok (.iload_n 1, 1) := by decide +kernel
theorem dX6_waiting_9 : decode cX6_waiting 9 = .ok (.aload_n 0, 1) := by decide +kernel
theorem dX6_waiting_10 : decode cX6_waiting 10 = .ok (.getfield 12, 3) := by decide +kernel
theorem dX6_waiting_13 : decode cX6_waiting 13 = .ok (.getfield 95, 3) := by decide +kernel
theorem dX6_waiting_16 : decode cX6_waiting 16 = .ok (.invokevirtual 99, 3) := by decide +kernel
theorem dX6_waiting_19 : decode cX6_waiting 19 = .ok (.if_icmp .lt 7, 3) := by decide +kernel
theorem dX6_waiting_22 : decode cX6_waiting 22 = .ok (.sipush (-1005), 3) := by decide +kernel
theorem dX6_waiting_25 : decode cX6_waiting 25 = .ok (.ireturn, 1) := by decide +kernel
theorem dX6_waiting_26 : decode cX6_waiting 26 = .ok (.iload_n 2, 1) := by decide +kernel
theorem dX6_waiting_27 : decode cX6_waiting 27 = .ok (.ifCond .eq 17, 3) := by decide +kernel
theorem dX6_waiting_30 : decode cX6_waiting 30 = .ok (.aload_n 0, 1) := by decide +kernel
theorem dX6_waiting_31 : decode cX6_waiting 31 = .ok (.getfield 12, 3) := by decide +kernel
theorem dX6_waiting_34 : decode cX6_waiting 34 = .ok (.getfield 95, 3) := by decide +kernel
theorem dX6_waiting_37 : decode cX6_waiting 37 = .ok (.iload_n 1, 1) := by decide +kernel
theorem dX6_waiting_38 : decode cX6_waiting 38 = .ok (.invokevirtual 197, 3) := by decide +kernel
theorem dX6_waiting_41 : decode cX6_waiting 41 = .ok (.goto 14, 3) := by decide +kernel
theorem dX6_waiting_44 : decode cX6_waiting 44 = .ok (.aload_n 0, 1) := by decide +kernel
theorem dX6_waiting_45 : decode cX6_waiting 45 = .ok (.getfield 12, 3) := by decide +kernel
theorem dX6_waiting_48 : decode cX6_waiting 48 = .ok (.getfield 95, 3) := by decide +kernel
theorem dX6_waiting_51 : decode cX6_waiting 51 = .ok (.iload_n 1, 1) := by decide +kernel
theorem dX6_waiting_52 : decode cX6_waiting 52 = .ok (.invokevirtual 200, 3) := by decide +kernel
theorem dX6_waiting_55 : decode cX6_waiting 55 = .ok (.ireturn, 1) := by decide +kernel
theorem dX6_ended_0 : decode cX6_ended 0 = .ok (.iload_n 1, 1) := by decide +kernel
theorem dX6_ended_1 : decode cX6_ended 1 = .ok (.ifCond .lt 13, 3) := by decide +kernel
theorem dX6_ended_4 : decode cX6_ended 4 = .ok (.iload_n 2, 1) := by decide +kernel
theorem dX6_ended_5 : decode cX6_ended 5 = .ok (.ifCond .lt 9, 3) := by decide +kernel
theorem dX6_ended_8 : decode cX6_ended 8 = .ok (.iload_n 2, 1) := by decide +kernel
theorem dX6_ended_9 : decode cX6_ended 9 = .ok (.bipush 7, 2) := by decide +kernel
theorem dX6_ended_11 : decode cX6_ended 11 = .ok (.if_icmp .lt 7, 3) := by decide +kernel
theorem dX6_ended_14 : decode cX6_ended 14 = .ok (.sipush (-1002), 3) := by decide +kernel
theorem dX6_ended_17 : decode cX6_ended 17 = .ok (.ireturn, 1) := by decide +kernel
theorem dX6_ended_18 : decode cX6_ended 18 = .ok (.iload_n 1, 1) := by decide +kernel
theorem dX6_ended_19 : decode cX6_ended 19 = .ok (.aload_n 0, 1) := by decide +kernel
theorem dX6_ended_20 : decode cX6_ended 20 = .ok (.getfield 12, 3) := by decide +kernel
theorem dX6_ended_23 : decode cX6_ended 23 = .ok (.getfield 203, 3) := by decide +kernel
theorem dX6_ended_26 : decode cX6_ended 26 = .ok (.if_icmp .lt 7, 3) := by decide +kernel
theorem dX6_ended_29 : decode cX6_ended 29 = .ok (.sipush (-1005), 3) := by decide +kernel
theorem dX6_ended_32 : decode cX6_ended 32 = .ok (.ireturn, 1) := by decide +kernel
theorem dX6_ended_33 : decode cX6_ended 33 = .ok (.aload_n 0, 1) := by decide +kernel
theorem dX6_ended_34 : decode cX6_ended 34 = .ok (.getfield 12, 3) := by decide +kernel
theorem dX6_ended_37 : decode cX6_ended 37 = .ok (.getfield 206, 3) := by decide +kernel
theorem dX6_ended_40 : decode cX6_ended 40 = .ok (.iload_n 1, 1) := by decide +kernel
theorem dX6_ended_41 : decode cX6_ended 41 = .ok (.bipush 7, 2) := by decide +kernel
theorem dX6_ended_43 : decode cX6_ended 43 = .ok (.imul, 1) := by decide +kernel
theorem dX6_ended_44 : decode cX6_ended 44 = .ok (.iload_n 2, 1) := by decide +kernel
theorem dX6_ended_45 : decode cX6_ended 45 = .ok (.iadd, 1) := by decide +kernel
theorem dX6_ended_46 : decode cX6_ended 46 = .ok (.iaload, 1) := by decide +kernel
theorem dX6_ended_47 : decode cX6_ended 47 = .ok (.ireturn, 1) := by decide +kernel
theorem dX6_would_0 : decode cX6_would 0 = .ok (.iload_n 1, 1) := by decide +kernel
theorem dX6_would_1 : decode cX6_would 1 = .ok (.invokestatic 54, 3) := by decide +kernel
theorem dX6_would_4 : decode cX6_would 4 = .ok (.ifCond .ne 7, 3) := by decide +kernel
theorem dX6_would_7 : decode cX6_would 7 = .ok (.sipush (-1001), 3) := by decide +kernel
theorem dX6_would_10 : decode cX6_would 10 = .ok (.ireturn, 1) := by decide +kernel
theorem dX6_would_11 : decode cX6_would 11 = .ok (.iload_n 2, 1) := by decide +kernel
theorem dX6_would_12 : decode cX6_would 12 = .ok (.invokestatic 92, 3) := by decide +kernel
theorem dX6_would_15 : decode cX6_would 15 = .ok (.ifCond .eq 14, 3) := by decide +kernel
theorem dX6_would_18 : decode cX6_would 18 = .ok (.iload_n 3, 1) := by decide +kernel
theorem dX6_would_19 : decode cX6_would 19 = .ok (.iconst 2, 1) := by decide +kernel
theorem dX6_would_20 : decode cX6_would 20 = .ok (.if_icmp .lt 9, 3) := by decide +kernel
theorem dX6_would_23 : decode cX6_would 23 = .ok (.iload_n 3, 1) := by decide +kernel
theorem dX6_would_24 : decode cX6_would 24 = .ok (.bipush 7, 2) := by decide +kernel
theorem dX6_would_26 : decode cX6_would 26 = .ok (.if_icmp .lt 7, 3) := by decide +kernel
theorem dX6_would_29 : decode cX6_would 29 = .ok (.sipush (-1002), 3) := by decide +kernel
theorem dX6_would_32 : decode cX6_would 32 = .ok (.ireturn, 1) := by decide +kernel
theorem dX6_would_33 : decode cX6_would 33 = .ok (.aload_n 0, 1) := by decide +kernel
theorem dX6_would_34 : decode cX6_would 34 = .ok (.getfield 46, 3) := by decide +kernel
theorem dX6_would_37 : decode cX6_would 37 = .ok (.aload_n 0, 1) := by decide +kernel
theorem dX6_would_38 : decode cX6_would 38 = .ok (.getfield 12, 3) := by decide +kernel
theorem dX6_would_41 : decode cX6_would 41 = .ok (.getfield 61, 3) := by decide +kernel
theorem dX6_would_44 : decode cX6_would 44 = .ok (.invokevirtual 209, 3) := by decide +kernel
theorem dX6_would_47 : decode cX6_would 47 = .ok (.aload_n 0, 1) := by decide +kernel
theorem dX6_would_48 : decode cX6_would 48 = .ok (.getfield 39, 3) := by decide +kernel
theorem dX6_would_51 : decode cX6_would 51 = .ok (.aload_n 0, 1) := by decide +kernel
theorem dX6_would_52 : decode cX6_would 52 = .ok (.getfield 46, 3) := by decide +kernel
theorem dX6_would_55 : decode cX6_would 55 = .ok (.iload_n 1, 1) := by decide +kernel
theorem dX6_would_56 : decode cX6_would 56 = .ok (.iload_n 2, 1) := by decide +kernel
theorem dX6_would_57 : decode cX6_would 57 = .ok (.aload_n 0, 1) := by decide +kernel
theorem dX6_would_58 : decode cX6_would 58 = .ok (.getfield 12, 3) := by decide +kernel
theorem dX6_would_61 : decode cX6_would 61 = .ok (.getfield 79, 3) := by decide +kernel
theorem dX6_would_64 : decode cX6_would 64 = .ok (.aload_n 0, 1) := by decide +kernel
theorem dX6_would_65 : decode cX6_would 65 = .ok (.iload_n 2, 1) := by decide +kernel
theorem dX6_would_66 : decode cX6_would 66 = .ok (.invokevirtual 212, 3) := by decide +kernel
theorem dX6_would_69 : decode cX6_would 69 = .ok (.invokevirtual 215, 3) := by decide +kernel
theorem dX6_would_72 : decode cX6_would 72 = .ok (.aload_n 0, 1) := by decide +kernel
theorem dX6_would_73 : decode cX6_would 73 = .ok (.getfield 39, 3) := by decide +kernel
theorem dX6_would_76 : decode cX6_would 76 = .ok (.iload_n 3, 1) := by decide +kernel
theorem dX6_would_77 : decode cX6_would 77 = .ok (.invokevirtual 219, 3) := by decide +kernel
theorem dX6_would_80 : decode cX6_would 80 = .ok (.ireturn, 1) := by decide +kernel
theorem dX6_sand_0 : decode cX6_sand 0 = .ok (.iload_n 1, 1) := by decide +kernel
theorem dX6_sand_1 : decode cX6_sand 1 = .ok (.invokestatic 58, 3) := by decide +kernel
theorem dX6_sand_4 : decode cX6_sand 4 = .ok (.ifCond .eq 10, 3) := by decide +kernel
theorem dX6_sand_7 : decode cX6_sand 7 = .ok (.iload_n 2, 1) := by decide +kernel
theorem dX6_sand_8 : decode cX6_sand 8 = .ok (.invokestatic 58, 3) := by decide +kernel
theorem dX6_sand_11 : decode cX6_sand 11 = .ok (.ifCond .ne 7, 3) := by decide +kernel
theorem dX6_sand_14 : decode cX6_sand 14 = .ok (.sipush (-1001), 3) := by decide +kernel
theorem dX6_sand_17 : decode cX6_sand 17 = .ok (.ireturn, 1) := by decide +kernel
theorem dX6_sand_18 : decode cX6_sand 18 = .ok (.iload_n 2, 1) := by decide +kernel
theorem dX6_sand_19 : decode cX6_sand 19 = .ok (.iload_n 1, 1) := by decide +kernel
theorem dX6_sand_20 : decode cX6_sand 20 = .ok (.if_icmp .ge 7, 3) := by decide +kernel
theorem dX6_sand_23 : decode cX6_sand 23 = .ok (.sipush (-1002), 3) := by decide +kernel
theorem dX6_sand_26 : decode cX6_sand 26 = .ok (.ireturn, 1) := by decide +kernel
theorem dX6_sand_27 : decode cX6_sand 27 = .ok (.aload_n 0, 1) := by decide +kernel
theorem dX6_sand_28 : decode cX6_sand 28 = .ok (.getfield 12, 3) := by decide +kernel
theorem dX6_sand_31 : decode cX6_sand 31 = .ok (.getfield 61, 3) := by decide +kernel
theorem dX6_sand_34 : decode cX6_sand 34 = .ok (.iload_n 1, 1) := by decide +kernel
theorem dX6_sand_35 : decode cX6_sand 35 = .ok (.iload_n 2, 1) := by decide +kernel
theorem dX6_sand_36 : decode cX6_sand 36 = .ok (.invokevirtual 222, 3) := by decide +kernel
theorem dX6_sand_39 : decode cX6_sand 39 = .ok (.ireturn, 1) := by decide +kernel
theorem dX6_count_0 : decode cX6_count 0 = .ok (.iload_n 1, 1) := by decide +kernel
theorem dX6_count_1 : decode cX6_count 1 = .ok (.iconst 1, 1) := by decide +kernel
theorem dX6_count_2 : decode cX6_count 2 = .ok (.if_icmp .lt 19, 3) := by decide +kernel
theorem dX6_count_5 : decode cX6_count 5 = .ok (.iload_n 1, 1) := by decide +kernel
theorem dX6_count_6 : decode cX6_count 6 = .ok (.bipush 9, 2) := by decide +kernel
theorem dX6_count_8 : decode cX6_count 8 = .ok (.if_icmp .ge 13, 3) := by decide +kernel
theorem dX6_count_11 : decode cX6_count 11 = .ok (.aload_n 0, 1) := by decide +kernel
theorem dX6_count_12 : decode cX6_count 12 = .ok (.getfield 12, 3) := by decide +kernel
theorem dX6_count_15 : decode cX6_count 15 = .ok (.getfield 76, 3) := by decide +kernel
theorem dX6_count_18 : decode cX6_count 18 = .ok (.iload_n 1, 1) := by decide +kernel
theorem dX6_count_19 : decode cX6_count 19 = .ok (.iaload, 1) := by decide +kernel
theorem dX6_count_20 : decode cX6_count 20 = .ok (.ireturn, 1) := by decide +kernel
theorem dX6_count_21 : decode cX6_count 21 = .ok (.aload_n 0, 1) := by decide +kernel
theorem dX6_count_22 : decode cX6_count 22 = .ok (.getfield 12, 3) := by decide +kernel
theorem dX6_count_25 : decode cX6_count 25 = .ok (.getfield 61, 3) := by decide +kernel
theorem dX6_count_28 : decode cX6_count 28 = .ok (.astore_n 2, 1) := by decide +kernel
theorem dX6_count_29 : decode cX6_count 29 = .ok (.iload_n 1, 1) := by decide +kernel
theorem dX6_count_30 : decode cX6_count 30 = .ok (.tableswitch 219 0 19 #[94, 219, 219, 219, 219, 219, 219, 219, 219, 99, 110, 118, 128, 138, 148, 158, 170, 191, 203, 211], 94) := by decide +kernel
theorem dX6_count_124 : decode cX6_count 124 = .ok (.aload_n 2, 1) := by decide +kernel
theorem dX6_count_125 : decode cX6_count 125 = .ok (.invokevirtual 159, 3) := by decide +kernel
theorem dX6_count_128 : decode cX6_count 128 = .ok (.ireturn, 1) := by decide +kernel
theorem dX6_count_129 : decode cX6_count 129 = .ok (.aload_n 0, 1) := by decide +kernel
theorem dX6_count_130 : decode cX6_count 130 = .ok (.getfield 12, 3) := by decide +kernel
theorem dX6_count_133 : decode cX6_count 133 = .ok (.getfield 95, 3) := by decide +kernel
theorem dX6_count_136 : decode cX6_count 136 = .ok (.invokevirtual 99, 3) := by decide +kernel
theorem dX6_count_139 : decode cX6_count 139 = .ok (.ireturn, 1) := by decide +kernel
theorem dX6_count_140 : decode cX6_count 140 = .ok (.aload_n 0, 1) := by decide +kernel
theorem dX6_count_141 : decode cX6_count 141 = .ok (.getfield 12, 3) := by decide +kernel
theorem dX6_count_144 : decode cX6_count 144 = .ok (.getfield 79, 3) := by decide +kernel
theorem dX6_count_147 : decode cX6_count 147 = .ok (.ireturn, 1) := by decide +kernel
theorem dX6_count_148 : decode cX6_count 148 = .ok (.aload_n 0, 1) := by decide +kernel
theorem dX6_count_149 : decode cX6_count 149 = .ok (.getfield 12, 3) := by decide +kernel
theorem dX6_count_152 : decode cX6_count 152 = .ok (.getfield 89, 3) := by decide +kernel
theorem dX6_count_155 : decode cX6_count 155 = .ok (.iconst 0, 1) := by decide +kernel
theorem dX6_count_156 : decode cX6_count 156 = .ok (.iaload, 1) := by decide +kernel
theorem dX6_count_157 : decode cX6_count 157 = .ok (.ireturn, 1) := by decide +kernel
theorem dX6_count_158 : decode cX6_count 158 = .ok (.aload_n 0, 1) := by decide +kernel
theorem dX6_count_159 : decode cX6_count 159 = .ok (.getfield 12, 3) := by decide +kernel
theorem dX6_count_162 : decode cX6_count 162 = .ok (.getfield 89, 3) := by decide +kernel
theorem dX6_count_165 : decode cX6_count 165 = .ok (.iconst 1, 1) := by decide +kernel
theorem dX6_count_166 : decode cX6_count 166 = .ok (.iaload, 1) := by decide +kernel
theorem dX6_count_167 : decode cX6_count 167 = .ok (.ireturn, 1) := by decide +kernel
theorem dX6_count_168 : decode cX6_count 168 = .ok (.aload_n 0, 1) := by decide +kernel
theorem dX6_count_169 : decode cX6_count 169 = .ok (.getfield 12, 3) := by decide +kernel
theorem dX6_count_172 : decode cX6_count 172 = .ok (.getfield 89, 3) := by decide +kernel
theorem dX6_count_175 : decode cX6_count 175 = .ok (.iconst 2, 1) := by decide +kernel
theorem dX6_count_176 : decode cX6_count 176 = .ok (.iaload, 1) := by decide +kernel
theorem dX6_count_177 : decode cX6_count 177 = .ok (.ireturn, 1) := by decide +kernel
theorem dX6_count_178 : decode cX6_count 178 = .ok (.aload_n 0, 1) := by decide +kernel
theorem dX6_count_179 : decode cX6_count 179 = .ok (.getfield 12, 3) := by decide +kernel
theorem dX6_count_182 : decode cX6_count 182 = .ok (.getfield 89, 3) := by decide +kernel
theorem dX6_count_185 : decode cX6_count 185 = .ok (.iconst 3, 1) := by decide +kernel
theorem dX6_count_186 : decode cX6_count 186 = .ok (.iaload, 1) := by decide +kernel
theorem dX6_count_187 : decode cX6_count 187 = .ok (.ireturn, 1) := by decide +kernel
theorem dX6_count_188 : decode cX6_count 188 = .ok (.aload_n 2, 1) := by decide +kernel
theorem dX6_count_189 : decode cX6_count 189 = .ok (.aload_n 0, 1) := by decide +kernel
theorem dX6_count_190 : decode cX6_count 190 = .ok (.getfield 12, 3) := by decide +kernel
theorem dX6_count_193 : decode cX6_count 193 = .ok (.getfield 79, 3) := by decide +kernel
theorem dX6_count_196 : decode cX6_count 196 = .ok (.invokevirtual 225, 3) := by decide +kernel
theorem dX6_count_199 : decode cX6_count 199 = .ok (.ireturn, 1) := by decide +kernel
theorem dX6_count_200 : decode cX6_count 200 = .ok (.aload_n 2, 1) := by decide +kernel
theorem dX6_count_201 : decode cX6_count 201 = .ok (.aload_n 0, 1) := by decide +kernel
theorem dX6_count_202 : decode cX6_count 202 = .ok (.getfield 12, 3) := by decide +kernel
theorem dX6_count_205 : decode cX6_count 205 = .ok (.getfield 79, 3) := by decide +kernel
theorem dX6_count_208 : decode cX6_count 208 = .ok (.aload_n 0, 1) := by decide +kernel
theorem dX6_count_209 : decode cX6_count 209 = .ok (.getfield 12, 3) := by decide +kernel
theorem dX6_count_212 : decode cX6_count 212 = .ok (.getfield 89, 3) := by decide +kernel
theorem dX6_count_215 : decode cX6_count 215 = .ok (.iconst 2, 1) := by decide +kernel
theorem dX6_count_216 : decode cX6_count 216 = .ok (.iaload, 1) := by decide +kernel
theorem dX6_count_217 : decode cX6_count 217 = .ok (.invokevirtual 228, 3) := by decide +kernel
theorem dX6_count_220 : decode cX6_count 220 = .ok (.ireturn, 1) := by decide +kernel
theorem dX6_count_221 : decode cX6_count 221 = .ok (.aload_n 2, 1) := by decide +kernel
theorem dX6_count_222 : decode cX6_count 222 = .ok (.aload_n 0, 1) := by decide +kernel
theorem dX6_count_223 : decode cX6_count 223 = .ok (.getfield 12, 3) := by decide +kernel
theorem dX6_count_226 : decode cX6_count 226 = .ok (.getfield 79, 3) := by decide +kernel
theorem dX6_count_229 : decode cX6_count 229 = .ok (.invokevirtual 231, 3) := by decide +kernel
theorem dX6_count_232 : decode cX6_count 232 = .ok (.ireturn, 1) := by decide +kernel
theorem dX6_count_233 : decode cX6_count 233 = .ok (.aload_n 0, 1) := by decide +kernel
theorem dX6_count_234 : decode cX6_count 234 = .ok (.getfield 25, 3) := by decide +kernel
theorem dX6_count_237 : decode cX6_count 237 = .ok (.invokevirtual 151, 3) := by decide +kernel
theorem dX6_count_240 : decode cX6_count 240 = .ok (.ireturn, 1) := by decide +kernel
theorem dX6_count_241 : decode cX6_count 241 = .ok (.aload_n 0, 1) := by decide +kernel
theorem dX6_count_242 : decode cX6_count 242 = .ok (.getfield 32, 3) := by decide +kernel
theorem dX6_count_245 : decode cX6_count 245 = .ok (.invokevirtual 142, 3) := by decide +kernel
theorem dX6_count_248 : decode cX6_count 248 = .ok (.ireturn, 1) := by decide +kernel
theorem dX6_count_249 : decode cX6_count 249 = .ok (.sipush (-1002), 3) := by decide +kernel
theorem dX6_count_252 : decode cX6_count 252 = .ok (.ireturn, 1) := by decide +kernel
theorem dX6_isRow_0 : decode cX6_isRow 0 = .ok (.iload_n 0, 1) := by decide +kernel
theorem dX6_isRow_1 : decode cX6_isRow 1 = .ok (.ifCond .lt 12, 3) := by decide +kernel
theorem dX6_isRow_4 : decode cX6_isRow 4 = .ok (.iload_n 0, 1) := by decide +kernel
theorem dX6_isRow_5 : decode cX6_isRow 5 = .ok (.iconst 4, 1) := by decide +kernel
theorem dX6_isRow_6 : decode cX6_isRow 6 = .ok (.if_icmp .ge 7, 3) := by decide +kernel
theorem dX6_isRow_9 : decode cX6_isRow 9 = .ok (.iconst 1, 1) := by decide +kernel
theorem dX6_isRow_10 : decode cX6_isRow 10 = .ok (.goto 4, 3) := by decide +kernel
theorem dX6_isRow_13 : decode cX6_isRow 13 = .ok (.iconst 0, 1) := by decide +kernel
theorem dX6_isRow_14 : decode cX6_isRow 14 = .ok (.ireturn, 1) := by decide +kernel
theorem dX6_isCell_0 : decode cX6_isCell 0 = .ok (.iload_n 0, 1) := by decide +kernel
theorem dX6_isCell_1 : decode cX6_isCell 1 = .ok (.ifCond .lt 13, 3) := by decide +kernel
theorem dX6_isCell_4 : decode cX6_isCell 4 = .ok (.iload_n 0, 1) := by decide +kernel
theorem dX6_isCell_5 : decode cX6_isCell 5 = .ok (.bipush 20, 2) := by decide +kernel
theorem dX6_isCell_7 : decode cX6_isCell 7 = .ok (.if_icmp .ge 7, 3) := by decide +kernel
theorem dX6_isCell_10 : decode cX6_isCell 10 = .ok (.iconst 1, 1) := by decide +kernel
theorem dX6_isCell_11 : decode cX6_isCell 11 = .ok (.goto 4, 3) := by decide +kernel
theorem dX6_isCell_14 : decode cX6_isCell 14 = .ok (.iconst 0, 1) := by decide +kernel
theorem dX6_isCell_15 : decode cX6_isCell 15 = .ok (.ireturn, 1) := by decide +kernel
theorem dX6_isWaveHeight_0 : decode cX6_isWaveHeight 0 = .ok (.iload_n 0, 1) := by decide +kernel
theorem dX6_isWaveHeight_1 : decode cX6_isWaveHeight 1 = .ok (.iconst 1, 1) := by decide +kernel
theorem dX6_isWaveHeight_2 : decode cX6_isWaveHeight 2 = .ok (.if_icmp .lt 13, 3) := by decide +kernel
theorem dX6_isWaveHeight_5 : decode cX6_isWaveHeight 5 = .ok (.iload_n 0, 1) := by decide +kernel
theorem dX6_isWaveHeight_6 : decode cX6_isWaveHeight 6 = .ok (.bipush 20, 2) := by decide +kernel
theorem dX6_isWaveHeight_8 : decode cX6_isWaveHeight 8 = .ok (.if_icmp .gt 7, 3) := by decide +kernel
theorem dX6_isWaveHeight_11 : decode cX6_isWaveHeight 11 = .ok (.iconst 1, 1) := by decide +kernel
theorem dX6_isWaveHeight_12 : decode cX6_isWaveHeight 12 = .ok (.goto 4, 3) := by decide +kernel
theorem dX6_isWaveHeight_15 : decode cX6_isWaveHeight 15 = .ok (.iconst 0, 1) := by decide +kernel
theorem dX6_isWaveHeight_16 : decode cX6_isWaveHeight 16 = .ok (.ireturn, 1) := by decide +kernel
theorem dX6_firstHeight_0 : decode cX6_firstHeight 0 = .ok (.bipush 60, 2) := by decide +kernel
theorem dX6_firstHeight_2 : decode cX6_firstHeight 2 = .ok (.iconst 3, 1) := by decide +kernel
theorem dX6_firstHeight_3 : decode cX6_firstHeight 3 = .ok (.iload_n 0, 1) := by decide +kernel
theorem dX6_firstHeight_4 : decode cX6_firstHeight 4 = .ok (.imul, 1) := by decide +kernel
theorem dX6_firstHeight_5 : decode cX6_firstHeight 5 = .ok (.isub, 1) := by decide +kernel
theorem dX6_firstHeight_6 : decode cX6_firstHeight 6 = .ok (.ireturn, 1) := by decide +kernel
theorem dX6_goesSeaward_0 : decode cX6_goesSeaward 0 = .ok (.iload_n 1, 1) := by decide +kernel
theorem dX6_goesSeaward_1 : decode cX6_goesSeaward 1 = .ok (.aload_n 0, 1) := by decide +kernel
theorem dX6_goesSeaward_2 : decode cX6_goesSeaward 2 = .ok (.getfield 12, 3) := by decide +kernel
theorem dX6_goesSeaward_5 : decode cX6_goesSeaward 5 = .ok (.getfield 89, 3) := by decide +kernel
theorem dX6_goesSeaward_8 : decode cX6_goesSeaward 8 = .ok (.iconst 0, 1) := by decide +kernel
theorem dX6_goesSeaward_9 : decode cX6_goesSeaward 9 = .ok (.iaload, 1) := by decide +kernel
theorem dX6_goesSeaward_10 : decode cX6_goesSeaward 10 = .ok (.if_icmp .lt 7, 3) := by decide +kernel
theorem dX6_goesSeaward_13 : decode cX6_goesSeaward 13 = .ok (.iconst 1, 1) := by decide +kernel
theorem dX6_goesSeaward_14 : decode cX6_goesSeaward 14 = .ok (.goto 4, 3) := by decide +kernel
theorem dX6_goesSeaward_17 : decode cX6_goesSeaward 17 = .ok (.iconst 0, 1) := by decide +kernel
theorem dX6_goesSeaward_18 : decode cX6_goesSeaward 18 = .ok (.ireturn, 1) := by decide +kernel
theorem dX6_runWaves_0 : decode cX6_runWaves 0 = .ok (.aload_n 0, 1) := by decide +kernel
theorem dX6_runWaves_1 : decode cX6_runWaves 1 = .ok (.invokevirtual 234, 3) := by decide +kernel
theorem dX6_runWaves_4 : decode cX6_runWaves 4 = .ok (.iconst 0, 1) := by decide +kernel
theorem dX6_runWaves_5 : decode cX6_runWaves 5 = .ok (.istore_n 2, 1) := by decide +kernel
theorem dX6_runWaves_6 : decode cX6_runWaves 6 = .ok (.aload_n 0, 1) := by decide +kernel
theorem dX6_runWaves_7 : decode cX6_runWaves 7 = .ok (.getfield 12, 3) := by decide +kernel
theorem dX6_runWaves_10 : decode cX6_runWaves 10 = .ok (.getfield 95, 3) := by decide +kernel
theorem dX6_runWaves_13 : decode cX6_runWaves 13 = .ok (.invokevirtual 99, 3) := by decide +kernel
theorem dX6_runWaves_16 : decode cX6_runWaves 16 = .ok (.istore_n 3, 1) := by decide +kernel
theorem dX6_runWaves_17 : decode cX6_runWaves 17 = .ok (.iconst 0, 1) := by decide +kernel
theorem dX6_runWaves_18 : decode cX6_runWaves 18 = .ok (.istore 4, 2) := by decide +kernel
theorem dX6_runWaves_20 : decode cX6_runWaves 20 = .ok (.iload 4, 2) := by decide +kernel
theorem dX6_runWaves_22 : decode cX6_runWaves 22 = .ok (.iload_n 3, 1) := by decide +kernel
theorem dX6_runWaves_23 : decode cX6_runWaves 23 = .ok (.if_icmp .ge 91, 3) := by decide +kernel
theorem dX6_runWaves_26 : decode cX6_runWaves 26 = .ok (.aload_n 0, 1) := by decide +kernel
theorem dX6_runWaves_27 : decode cX6_runWaves 27 = .ok (.getfield 50, 3) := by decide +kernel
theorem dX6_runWaves_30 : decode cX6_runWaves 30 = .ok (.iload 4, 2) := by decide +kernel
theorem dX6_runWaves_32 : decode cX6_runWaves 32 = .ok (.iaload, 1) := by decide +kernel
theorem dX6_runWaves_33 : decode cX6_runWaves 33 = .ok (.istore 5, 2) := by decide +kernel
theorem dX6_runWaves_35 : decode cX6_runWaves 35 = .ok (.aload_n 0, 1) := by decide +kernel
theorem dX6_runWaves_36 : decode cX6_runWaves 36 = .ok (.getfield 12, 3) := by decide +kernel
theorem dX6_runWaves_39 : decode cX6_runWaves 39 = .ok (.getfield 95, 3) := by decide +kernel
theorem dX6_runWaves_42 : decode cX6_runWaves 42 = .ok (.iload 5, 2) := by decide +kernel
theorem dX6_runWaves_44 : decode cX6_runWaves 44 = .ok (.invokevirtual 197, 3) := by decide +kernel
theorem dX6_runWaves_47 : decode cX6_runWaves 47 = .ok (.istore 6, 2) := by decide +kernel
theorem dX6_runWaves_49 : decode cX6_runWaves 49 = .ok (.aload_n 0, 1) := by decide +kernel
theorem dX6_runWaves_50 : decode cX6_runWaves 50 = .ok (.getfield 39, 3) := by decide +kernel
theorem dX6_runWaves_53 : decode cX6_runWaves 53 = .ok (.aload_n 0, 1) := by decide +kernel
theorem dX6_runWaves_54 : decode cX6_runWaves 54 = .ok (.getfield 12, 3) := by decide +kernel
theorem dX6_runWaves_57 : decode cX6_runWaves 57 = .ok (.getfield 61, 3) := by decide +kernel
theorem dX6_runWaves_60 : decode cX6_runWaves 60 = .ok (.aload_n 0, 1) := by decide +kernel
theorem dX6_runWaves_61 : decode cX6_runWaves 61 = .ok (.getfield 12, 3) := by decide +kernel
theorem dX6_runWaves_64 : decode cX6_runWaves 64 = .ok (.getfield 95, 3) := by decide +kernel
theorem dX6_runWaves_67 : decode cX6_runWaves 67 = .ok (.iload 5, 2) := by decide +kernel
theorem dX6_runWaves_69 : decode cX6_runWaves 69 = .ok (.invokevirtual 200, 3) := by decide +kernel
theorem dX6_runWaves_72 : decode cX6_runWaves 72 = .ok (.iload 6, 2) := by decide +kernel
theorem dX6_runWaves_74 : decode cX6_runWaves 74 = .ok (.iload_n 1, 1) := by decide +kernel
theorem dX6_runWaves_75 : decode cX6_runWaves 75 = .ok (.aload_n 0, 1) := by decide +kernel
theorem dX6_runWaves_76 : decode cX6_runWaves 76 = .ok (.iload 6, 2) := by decide +kernel
theorem dX6_runWaves_78 : decode cX6_runWaves 78 = .ok (.invokevirtual 212, 3) := by decide +kernel
theorem dX6_runWaves_81 : decode cX6_runWaves 81 = .ok (.invokevirtual 215, 3) := by decide +kernel
theorem dX6_runWaves_84 : decode cX6_runWaves 84 = .ok (.aload_n 0, 1) := by decide +kernel
theorem dX6_runWaves_85 : decode cX6_runWaves 85 = .ok (.getfield 12, 3) := by decide +kernel
theorem dX6_runWaves_88 : decode cX6_runWaves 88 = .ok (.aload_n 0, 1) := by decide +kernel
theorem dX6_runWaves_89 : decode cX6_runWaves 89 = .ok (.getfield 39, 3) := by decide +kernel
theorem dX6_runWaves_92 : decode cX6_runWaves 92 = .ok (.iload 4, 2) := by decide +kernel
theorem dX6_runWaves_94 : decode cX6_runWaves 94 = .ok (.invokevirtual 237, 3) := by decide +kernel
theorem dX6_runWaves_97 : decode cX6_runWaves 97 = .ok (.iload_n 2, 1) := by decide +kernel
theorem dX6_runWaves_98 : decode cX6_runWaves 98 = .ok (.aload_n 0, 1) := by decide +kernel
theorem dX6_runWaves_99 : decode cX6_runWaves 99 = .ok (.getfield 39, 3) := by decide +kernel
theorem dX6_runWaves_102 : decode cX6_runWaves 102 = .ok (.iconst 5, 1) := by decide +kernel
theorem dX6_runWaves_103 : decode cX6_runWaves 103 = .ok (.invokevirtual 219, 3) := by decide +kernel
theorem dX6_runWaves_106 : decode cX6_runWaves 106 = .ok (.iadd, 1) := by decide +kernel
theorem dX6_runWaves_107 : decode cX6_runWaves 107 = .ok (.istore_n 2, 1) := by decide +kernel
theorem dX6_runWaves_108 : decode cX6_runWaves 108 = .ok (.iinc 4 1, 3) := by decide +kernel
theorem dX6_runWaves_111 : decode cX6_runWaves 111 = .ok (.goto (-91), 3) := by decide +kernel
theorem dX6_runWaves_114 : decode cX6_runWaves 114 = .ok (.aload_n 0, 1) := by decide +kernel
theorem dX6_runWaves_115 : decode cX6_runWaves 115 = .ok (.getfield 12, 3) := by decide +kernel
theorem dX6_runWaves_118 : decode cX6_runWaves 118 = .ok (.iload_n 3, 1) := by decide +kernel
theorem dX6_runWaves_119 : decode cX6_runWaves 119 = .ok (.putfield 203, 3) := by decide +kernel
theorem dX6_runWaves_122 : decode cX6_runWaves 122 = .ok (.iload_n 2, 1) := by decide +kernel
theorem dX6_runWaves_123 : decode cX6_runWaves 123 = .ok (.ireturn, 1) := by decide +kernel
theorem dX6_sortWaves_0 : decode cX6_sortWaves 0 = .ok (.aload_n 0, 1) := by decide +kernel
theorem dX6_sortWaves_1 : decode cX6_sortWaves 1 = .ok (.getfield 12, 3) := by decide +kernel
theorem dX6_sortWaves_4 : decode cX6_sortWaves 4 = .ok (.getfield 95, 3) := by decide +kernel
theorem dX6_sortWaves_7 : decode cX6_sortWaves 7 = .ok (.invokevirtual 99, 3) := by decide +kernel
theorem dX6_sortWaves_10 : decode cX6_sortWaves 10 = .ok (.istore_n 1, 1) := by decide +kernel
theorem dX6_sortWaves_11 : decode cX6_sortWaves 11 = .ok (.iconst 0, 1) := by decide +kernel
theorem dX6_sortWaves_12 : decode cX6_sortWaves 12 = .ok (.istore_n 2, 1) := by decide +kernel
theorem dX6_sortWaves_13 : decode cX6_sortWaves 13 = .ok (.iload_n 2, 1) := by decide +kernel
theorem dX6_sortWaves_14 : decode cX6_sortWaves 14 = .ok (.iload_n 1, 1) := by decide +kernel
theorem dX6_sortWaves_15 : decode cX6_sortWaves 15 = .ok (.if_icmp .ge 58, 3) := by decide +kernel
theorem dX6_sortWaves_18 : decode cX6_sortWaves 18 = .ok (.iload_n 2, 1) := by decide +kernel
theorem dX6_sortWaves_19 : decode cX6_sortWaves 19 = .ok (.istore_n 3, 1) := by decide +kernel
theorem dX6_sortWaves_20 : decode cX6_sortWaves 20 = .ok (.iload_n 3, 1) := by decide +kernel
theorem dX6_sortWaves_21 : decode cX6_sortWaves 21 = .ok (.ifCond .le 39, 3) := by decide +kernel
theorem dX6_sortWaves_24 : decode cX6_sortWaves 24 = .ok (.aload_n 0, 1) := by decide +kernel
theorem dX6_sortWaves_25 : decode cX6_sortWaves 25 = .ok (.iload_n 2, 1) := by decide +kernel
theorem dX6_sortWaves_26 : decode cX6_sortWaves 26 = .ok (.aload_n 0, 1) := by decide +kernel
theorem dX6_sortWaves_27 : decode cX6_sortWaves 27 = .ok (.getfield 50, 3) := by decide +kernel
theorem dX6_sortWaves_30 : decode cX6_sortWaves 30 = .ok (.iload_n 3, 1) := by decide +kernel
theorem dX6_sortWaves_31 : decode cX6_sortWaves 31 = .ok (.iconst 1, 1) := by decide +kernel
theorem dX6_sortWaves_32 : decode cX6_sortWaves 32 = .ok (.isub, 1) := by decide +kernel
theorem dX6_sortWaves_33 : decode cX6_sortWaves 33 = .ok (.iaload, 1) := by decide +kernel
theorem dX6_sortWaves_34 : decode cX6_sortWaves 34 = .ok (.invokevirtual 241, 3) := by decide +kernel
theorem dX6_sortWaves_37 : decode cX6_sortWaves 37 = .ok (.ifCond .eq 23, 3) := by decide +kernel
theorem dX6_sortWaves_40 : decode cX6_sortWaves 40 = .ok (.aload_n 0, 1) := by decide +kernel
theorem dX6_sortWaves_41 : decode cX6_sortWaves 41 = .ok (.getfield 50, 3) := by decide +kernel
theorem dX6_sortWaves_44 : decode cX6_sortWaves 44 = .ok (.iload_n 3, 1) := by decide +kernel
theorem dX6_sortWaves_45 : decode cX6_sortWaves 45 = .ok (.aload_n 0, 1) := by decide +kernel
theorem dX6_sortWaves_46 : decode cX6_sortWaves 46 = .ok (.getfield 50, 3) := by decide +kernel
theorem dX6_sortWaves_49 : decode cX6_sortWaves 49 = .ok (.iload_n 3, 1) := by decide +kernel
theorem dX6_sortWaves_50 : decode cX6_sortWaves 50 = .ok (.iconst 1, 1) := by decide +kernel
theorem dX6_sortWaves_51 : decode cX6_sortWaves 51 = .ok (.isub, 1) := by decide +kernel
theorem dX6_sortWaves_52 : decode cX6_sortWaves 52 = .ok (.iaload, 1) := by decide +kernel
theorem dX6_sortWaves_53 : decode cX6_sortWaves 53 = .ok (.iastore, 1) := by decide +kernel
theorem dX6_sortWaves_54 : decode cX6_sortWaves 54 = .ok (.iinc 3 (-1), 3) := by decide +kernel
theorem dX6_sortWaves_57 : decode cX6_sortWaves 57 = .ok (.goto (-37), 3) := by decide +kernel
theorem dX6_sortWaves_60 : decode cX6_sortWaves 60 = .ok (.aload_n 0, 1) := by decide +kernel
theorem dX6_sortWaves_61 : decode cX6_sortWaves 61 = .ok (.getfield 50, 3) := by decide +kernel
theorem dX6_sortWaves_64 : decode cX6_sortWaves 64 = .ok (.iload_n 3, 1) := by decide +kernel
theorem dX6_sortWaves_65 : decode cX6_sortWaves 65 = .ok (.iload_n 2, 1) := by decide +kernel
theorem dX6_sortWaves_66 : decode cX6_sortWaves 66 = .ok (.iastore, 1) := by decide +kernel
theorem dX6_sortWaves_67 : decode cX6_sortWaves 67 = .ok (.iinc 2 1, 3) := by decide +kernel
theorem dX6_sortWaves_70 : decode cX6_sortWaves 70 = .ok (.goto (-57), 3) := by decide +kernel
theorem dX6_sortWaves_73 : decode cX6_sortWaves 73 = .ok (.return_, 1) := by decide +kernel
theorem dX6_runsEarlier_0 : decode cX6_runsEarlier 0 = .ok (.aload_n 0, 1) := by decide +kernel
theorem dX6_runsEarlier_1 : decode cX6_runsEarlier 1 = .ok (.getfield 12, 3) := by decide +kernel
theorem dX6_runsEarlier_4 : decode cX6_runsEarlier 4 = .ok (.getfield 95, 3) := by decide +kernel
theorem dX6_runsEarlier_7 : decode cX6_runsEarlier 7 = .ok (.iload_n 1, 1) := by decide +kernel
theorem dX6_runsEarlier_8 : decode cX6_runsEarlier 8 = .ok (.invokevirtual 197, 3) := by decide +kernel
theorem dX6_runsEarlier_11 : decode cX6_runsEarlier 11 = .ok (.istore_n 3, 1) := by decide +kernel
theorem dX6_runsEarlier_12 : decode cX6_runsEarlier 12 = .ok (.aload_n 0, 1) := by decide +kernel
theorem dX6_runsEarlier_13 : decode cX6_runsEarlier 13 = .ok (.getfield 12, 3) := by decide +kernel
theorem dX6_runsEarlier_16 : decode cX6_runsEarlier 16 = .ok (.getfield 95, 3) := by decide +kernel
theorem dX6_runsEarlier_19 : decode cX6_runsEarlier 19 = .ok (.iload_n 2, 1) := by decide +kernel
theorem dX6_runsEarlier_20 : decode cX6_runsEarlier 20 = .ok (.invokevirtual 197, 3) := by decide +kernel
theorem dX6_runsEarlier_23 : decode cX6_runsEarlier 23 = .ok (.istore 4, 2) := by decide +kernel
theorem dX6_runsEarlier_25 : decode cX6_runsEarlier 25 = .ok (.aload_n 0, 1) := by decide +kernel
theorem dX6_runsEarlier_26 : decode cX6_runsEarlier 26 = .ok (.getfield 12, 3) := by decide +kernel
theorem dX6_runsEarlier_29 : decode cX6_runsEarlier 29 = .ok (.getfield 89, 3) := by decide +kernel
theorem dX6_runsEarlier_32 : decode cX6_runsEarlier 32 = .ok (.iconst 1, 1) := by decide +kernel
theorem dX6_runsEarlier_33 : decode cX6_runsEarlier 33 = .ok (.iaload, 1) := by decide +kernel
theorem dX6_runsEarlier_34 : decode cX6_runsEarlier 34 = .ok (.lookupswitch 50 #[(1, 26), (2, 38)], 26) := by decide +kernel
theorem dX6_runsEarlier_60 : decode cX6_runsEarlier 60 = .ok (.iload_n 3, 1) := by decide +kernel
theorem dX6_runsEarlier_61 : decode cX6_runsEarlier 61 = .ok (.iload 4, 2) := by decide +kernel
theorem dX6_runsEarlier_63 : decode cX6_runsEarlier 63 = .ok (.if_icmp .le 7, 3) := by decide +kernel
theorem dX6_runsEarlier_66 : decode cX6_runsEarlier 66 = .ok (.iconst 1, 1) := by decide +kernel
theorem dX6_runsEarlier_67 : decode cX6_runsEarlier 67 = .ok (.goto 4, 3) := by decide +kernel
theorem dX6_runsEarlier_70 : decode cX6_runsEarlier 70 = .ok (.iconst 0, 1) := by decide +kernel
theorem dX6_runsEarlier_71 : decode cX6_runsEarlier 71 = .ok (.ireturn, 1) := by decide +kernel
theorem dX6_runsEarlier_72 : decode cX6_runsEarlier 72 = .ok (.iload_n 3, 1) := by decide +kernel
theorem dX6_runsEarlier_73 : decode cX6_runsEarlier 73 = .ok (.iload 4, 2) := by decide +kernel
theorem dX6_runsEarlier_75 : decode cX6_runsEarlier 75 = .ok (.if_icmp .ge 7, 3) := by decide +kernel
theorem dX6_runsEarlier_78 : decode cX6_runsEarlier 78 = .ok (.iconst 1, 1) := by decide +kernel
theorem dX6_runsEarlier_79 : decode cX6_runsEarlier 79 = .ok (.goto 4, 3) := by decide +kernel
theorem dX6_runsEarlier_82 : decode cX6_runsEarlier 82 = .ok (.iconst 0, 1) := by decide +kernel
theorem dX6_runsEarlier_83 : decode cX6_runsEarlier 83 = .ok (.ireturn, 1) := by decide +kernel
theorem dX6_runsEarlier_84 : decode cX6_runsEarlier 84 = .ok (.iconst 0, 1) := by decide +kernel
theorem dX6_runsEarlier_85 : decode cX6_runsEarlier 85 = .ok (.ireturn, 1) := by decide +kernel
theorem dX6_letSandFollow_0 : decode cX6_letSandFollow 0 = .ok (.aload_n 0, 1) := by decide +kernel
theorem dX6_letSandFollow_1 : decode cX6_letSandFollow 1 = .ok (.getfield 12, 3) := by decide +kernel
theorem dX6_letSandFollow_4 : decode cX6_letSandFollow 4 = .ok (.getfield 61, 3) := by decide +kernel
theorem dX6_letSandFollow_7 : decode cX6_letSandFollow 7 = .ok (.iload_n 1, 1) := by decide +kernel
theorem dX6_letSandFollow_8 : decode cX6_letSandFollow 8 = .ok (.aload_n 0, 1) := by decide +kernel
theorem dX6_letSandFollow_9 : decode cX6_letSandFollow 9 = .ok (.getfield 12, 3) := by decide +kernel
theorem dX6_letSandFollow_12 : decode cX6_letSandFollow 12 = .ok (.getfield 89, 3) := by decide +kernel
theorem dX6_letSandFollow_15 : decode cX6_letSandFollow 15 = .ok (.iconst 2, 1) := by decide +kernel
theorem dX6_letSandFollow_16 : decode cX6_letSandFollow 16 = .ok (.iaload, 1) := by decide +kernel
theorem dX6_letSandFollow_17 : decode cX6_letSandFollow 17 = .ok (.invokevirtual 244, 3) := by decide +kernel
theorem dX6_letSandFollow_20 : decode cX6_letSandFollow 20 = .ok (.istore_n 2, 1) := by decide +kernel
theorem dX6_letSandFollow_21 : decode cX6_letSandFollow 21 = .ok (.aload_n 0, 1) := by decide +kernel
theorem dX6_letSandFollow_22 : decode cX6_letSandFollow 22 = .ok (.getfield 12, 3) := by decide +kernel
theorem dX6_letSandFollow_25 : decode cX6_letSandFollow 25 = .ok (.getfield 61, 3) := by decide +kernel
theorem dX6_letSandFollow_28 : decode cX6_letSandFollow 28 = .ok (.aload_n 0, 1) := by decide +kernel
theorem dX6_letSandFollow_29 : decode cX6_letSandFollow 29 = .ok (.getfield 12, 3) := by decide +kernel
theorem dX6_letSandFollow_32 : decode cX6_letSandFollow 32 = .ok (.getfield 89, 3) := by decide +kernel
theorem dX6_letSandFollow_35 : decode cX6_letSandFollow 35 = .ok (.iconst 3, 1) := by decide +kernel
theorem dX6_letSandFollow_36 : decode cX6_letSandFollow 36 = .ok (.iaload, 1) := by decide +kernel
theorem dX6_letSandFollow_37 : decode cX6_letSandFollow 37 = .ok (.invokevirtual 247, 3) := by decide +kernel
theorem dX6_letSandFollow_40 : decode cX6_letSandFollow 40 = .ok (.istore_n 3, 1) := by decide +kernel
theorem dX6_letSandFollow_41 : decode cX6_letSandFollow 41 = .ok (.aload_n 0, 1) := by decide +kernel
theorem dX6_letSandFollow_42 : decode cX6_letSandFollow 42 = .ok (.getfield 12, 3) := by decide +kernel
theorem dX6_letSandFollow_45 : decode cX6_letSandFollow 45 = .ok (.getfield 76, 3) := by decide +kernel
theorem dX6_letSandFollow_48 : decode cX6_letSandFollow 48 = .ok (.bipush 7, 2) := by decide +kernel
theorem dX6_letSandFollow_50 : decode cX6_letSandFollow 50 = .ok (.dup2, 1) := by decide +kernel
theorem dX6_letSandFollow_51 : decode cX6_letSandFollow 51 = .ok (.iaload, 1) := by decide +kernel
theorem dX6_letSandFollow_52 : decode cX6_letSandFollow 52 = .ok (.iload_n 2, 1) := by decide +kernel
theorem dX6_letSandFollow_53 : decode cX6_letSandFollow 53 = .ok (.iadd, 1) := by decide +kernel
theorem dX6_letSandFollow_54 : decode cX6_letSandFollow 54 = .ok (.iastore, 1) := by decide +kernel
theorem dX6_letSandFollow_55 : decode cX6_letSandFollow 55 = .ok (.aload_n 0, 1) := by decide +kernel
theorem dX6_letSandFollow_56 : decode cX6_letSandFollow 56 = .ok (.getfield 12, 3) := by decide +kernel
theorem dX6_letSandFollow_59 : decode cX6_letSandFollow 59 = .ok (.getfield 76, 3) := by decide +kernel
theorem dX6_letSandFollow_62 : decode cX6_letSandFollow 62 = .ok (.bipush 8, 2) := by decide +kernel
theorem dX6_letSandFollow_64 : decode cX6_letSandFollow 64 = .ok (.dup2, 1) := by decide +kernel
theorem dX6_letSandFollow_65 : decode cX6_letSandFollow 65 = .ok (.iaload, 1) := by decide +kernel
theorem dX6_letSandFollow_66 : decode cX6_letSandFollow 66 = .ok (.iload_n 3, 1) := by decide +kernel
theorem dX6_letSandFollow_67 : decode cX6_letSandFollow 67 = .ok (.iadd, 1) := by decide +kernel
theorem dX6_letSandFollow_68 : decode cX6_letSandFollow 68 = .ok (.iastore, 1) := by decide +kernel
theorem dX6_letSandFollow_69 : decode cX6_letSandFollow 69 = .ok (.iload_n 2, 1) := by decide +kernel
theorem dX6_letSandFollow_70 : decode cX6_letSandFollow 70 = .ok (.iload_n 3, 1) := by decide +kernel
theorem dX6_letSandFollow_71 : decode cX6_letSandFollow 71 = .ok (.iadd, 1) := by decide +kernel
theorem dX6_letSandFollow_72 : decode cX6_letSandFollow 72 = .ok (.ireturn, 1) := by decide +kernel
theorem dJ6_bitCount_0f7a4_0 : decode cJ6_bitCount_0f7a4 0 = .ok (.iload_n 0, 1) := by decide +kernel
theorem dJ6_bitCount_0f7a4_1 : decode cJ6_bitCount_0f7a4 1 = .ok (.iload_n 0, 1) := by decide +kernel
theorem dJ6_bitCount_0f7a4_2 : decode cJ6_bitCount_0f7a4 2 = .ok (.iconst 1, 1) := by decide +kernel
theorem dJ6_bitCount_0f7a4_3 : decode cJ6_bitCount_0f7a4 3 = .ok (.iushr, 1) := by decide +kernel
theorem dJ6_bitCount_0f7a4_4 : decode cJ6_bitCount_0f7a4 4 = .ok (.ldc_w 265, 3) := by decide +kernel
theorem dJ6_bitCount_0f7a4_7 : decode cJ6_bitCount_0f7a4 7 = .ok (.iand, 1) := by decide +kernel
theorem dJ6_bitCount_0f7a4_8 : decode cJ6_bitCount_0f7a4 8 = .ok (.isub, 1) := by decide +kernel
theorem dJ6_bitCount_0f7a4_9 : decode cJ6_bitCount_0f7a4 9 = .ok (.istore_n 0, 1) := by decide +kernel
theorem dJ6_bitCount_0f7a4_10 : decode cJ6_bitCount_0f7a4 10 = .ok (.iload_n 0, 1) := by decide +kernel
theorem dJ6_bitCount_0f7a4_11 : decode cJ6_bitCount_0f7a4 11 = .ok (.ldc_w 266, 3) := by decide +kernel
theorem dJ6_bitCount_0f7a4_14 : decode cJ6_bitCount_0f7a4 14 = .ok (.iand, 1) := by decide +kernel
theorem dJ6_bitCount_0f7a4_15 : decode cJ6_bitCount_0f7a4 15 = .ok (.iload_n 0, 1) := by decide +kernel
theorem dJ6_bitCount_0f7a4_16 : decode cJ6_bitCount_0f7a4 16 = .ok (.iconst 2, 1) := by decide +kernel
theorem dJ6_bitCount_0f7a4_17 : decode cJ6_bitCount_0f7a4 17 = .ok (.iushr, 1) := by decide +kernel
theorem dJ6_bitCount_0f7a4_18 : decode cJ6_bitCount_0f7a4 18 = .ok (.ldc_w 266, 3) := by decide +kernel
theorem dJ6_bitCount_0f7a4_21 : decode cJ6_bitCount_0f7a4 21 = .ok (.iand, 1) := by decide +kernel
theorem dJ6_bitCount_0f7a4_22 : decode cJ6_bitCount_0f7a4 22 = .ok (.iadd, 1) := by decide +kernel
theorem dJ6_bitCount_0f7a4_23 : decode cJ6_bitCount_0f7a4 23 = .ok (.istore_n 0, 1) := by decide +kernel
theorem dJ6_bitCount_0f7a4_24 : decode cJ6_bitCount_0f7a4 24 = .ok (.iload_n 0, 1) := by decide +kernel
theorem dJ6_bitCount_0f7a4_25 : decode cJ6_bitCount_0f7a4 25 = .ok (.iload_n 0, 1) := by decide +kernel
theorem dJ6_bitCount_0f7a4_26 : decode cJ6_bitCount_0f7a4 26 = .ok (.iconst 4, 1) := by decide +kernel
theorem dJ6_bitCount_0f7a4_27 : decode cJ6_bitCount_0f7a4 27 = .ok (.iushr, 1) := by decide +kernel
theorem dJ6_bitCount_0f7a4_28 : decode cJ6_bitCount_0f7a4 28 = .ok (.iadd, 1) := by decide +kernel
theorem dJ6_bitCount_0f7a4_29 : decode cJ6_bitCount_0f7a4 29 = .ok (.ldc_w 267, 3) := by decide +kernel
theorem dJ6_bitCount_0f7a4_32 : decode cJ6_bitCount_0f7a4 32 = .ok (.iand, 1) := by decide +kernel
theorem dJ6_bitCount_0f7a4_33 : decode cJ6_bitCount_0f7a4 33 = .ok (.istore_n 0, 1) := by decide +kernel
theorem dJ6_bitCount_0f7a4_34 : decode cJ6_bitCount_0f7a4 34 = .ok (.iload_n 0, 1) := by decide +kernel
theorem dJ6_bitCount_0f7a4_35 : decode cJ6_bitCount_0f7a4 35 = .ok (.iload_n 0, 1) := by decide +kernel
theorem dJ6_bitCount_0f7a4_36 : decode cJ6_bitCount_0f7a4 36 = .ok (.bipush 8, 2) := by decide +kernel
theorem dJ6_bitCount_0f7a4_38 : decode cJ6_bitCount_0f7a4 38 = .ok (.iushr, 1) := by decide +kernel
theorem dJ6_bitCount_0f7a4_39 : decode cJ6_bitCount_0f7a4 39 = .ok (.iadd, 1) := by decide +kernel
theorem dJ6_bitCount_0f7a4_40 : decode cJ6_bitCount_0f7a4 40 = .ok (.istore_n 0, 1) := by decide +kernel
theorem dJ6_bitCount_0f7a4_41 : decode cJ6_bitCount_0f7a4 41 = .ok (.iload_n 0, 1) := by decide +kernel
theorem dJ6_bitCount_0f7a4_42 : decode cJ6_bitCount_0f7a4 42 = .ok (.iload_n 0, 1) := by decide +kernel
theorem dJ6_bitCount_0f7a4_43 : decode cJ6_bitCount_0f7a4 43 = .ok (.bipush 16, 2) := by decide +kernel
theorem dJ6_bitCount_0f7a4_45 : decode cJ6_bitCount_0f7a4 45 = .ok (.iushr, 1) := by decide +kernel
theorem dJ6_bitCount_0f7a4_46 : decode cJ6_bitCount_0f7a4 46 = .ok (.iadd, 1) := by decide +kernel
theorem dJ6_bitCount_0f7a4_47 : decode cJ6_bitCount_0f7a4 47 = .ok (.istore_n 0, 1) := by decide +kernel
theorem dJ6_bitCount_0f7a4_48 : decode cJ6_bitCount_0f7a4 48 = .ok (.iload_n 0, 1) := by decide +kernel
theorem dJ6_bitCount_0f7a4_49 : decode cJ6_bitCount_0f7a4 49 = .ok (.bipush 63, 2) := by decide +kernel
theorem dJ6_bitCount_0f7a4_51 : decode cJ6_bitCount_0f7a4 51 = .ok (.iand, 1) := by decide +kernel
theorem dJ6_bitCount_0f7a4_52 : decode cJ6_bitCount_0f7a4 52 = .ok (.ireturn, 1) := by decide +kernel
theorem dJ9_abs_0f7a4_0 : decode cJ9_abs_0f7a4 0 = .ok (.iload_n 0, 1) := by decide +kernel
theorem dJ9_abs_0f7a4_1 : decode cJ9_abs_0f7a4 1 = .ok (.ifCond .ge 8, 3) := by decide +kernel
theorem dJ9_abs_0f7a4_4 : decode cJ9_abs_0f7a4 4 = .ok (.iload_n 0, 1) := by decide +kernel
theorem dJ9_abs_0f7a4_5 : decode cJ9_abs_0f7a4 5 = .ok (.ineg, 1) := by decide +kernel
theorem dJ9_abs_0f7a4_6 : decode cJ9_abs_0f7a4 6 = .ok (.goto 4, 3) := by decide +kernel
theorem dJ9_abs_0f7a4_9 : decode cJ9_abs_0f7a4 9 = .ok (.iload_n 0, 1) := by decide +kernel
theorem dJ9_abs_0f7a4_10 : decode cJ9_abs_0f7a4 10 = .ok (.ireturn, 1) := by decide +kernel
theorem dJ9_max_7cf53_0 : decode cJ9_max_7cf53 0 = .ok (.iload_n 0, 1) := by decide +kernel
theorem dJ9_max_7cf53_1 : decode cJ9_max_7cf53 1 = .ok (.iload_n 1, 1) := by decide +kernel
theorem dJ9_max_7cf53_2 : decode cJ9_max_7cf53 2 = .ok (.if_icmp .lt 7, 3) := by decide +kernel
theorem dJ9_max_7cf53_5 : decode cJ9_max_7cf53 5 = .ok (.iload_n 0, 1) := by decide +kernel
theorem dJ9_max_7cf53_6 : decode cJ9_max_7cf53 6 = .ok (.goto 4, 3) := by decide +kernel
theorem dJ9_max_7cf53_9 : decode cJ9_max_7cf53 9 = .ok (.iload_n 1, 1) := by decide +kernel
theorem dJ9_max_7cf53_10 : decode cJ9_max_7cf53 10 = .ok (.ireturn, 1) := by decide +kernel
theorem dJ9_min_7cf53_0 : decode cJ9_min_7cf53 0 = .ok (.iload_n 0, 1) := by decide +kernel
theorem dJ9_min_7cf53_1 : decode cJ9_min_7cf53 1 = .ok (.iload_n 1, 1) := by decide +kernel
theorem dJ9_min_7cf53_2 : decode cJ9_min_7cf53 2 = .ok (.if_icmp .gt 7, 3) := by decide +kernel
theorem dJ9_min_7cf53_5 : decode cJ9_min_7cf53 5 = .ok (.iload_n 0, 1) := by decide +kernel
theorem dJ9_min_7cf53_6 : decode cJ9_min_7cf53 6 = .ok (.goto 4, 3) := by decide +kernel
theorem dJ9_min_7cf53_9 : decode cJ9_min_7cf53 9 = .ok (.iload_n 1, 1) := by decide +kernel
theorem dJ9_min_7cf53_10 : decode cJ9_min_7cf53 10 = .ok (.ireturn, 1) := by decide +kernel
theorem dL_cell_0 : decode cL_cell 0 = .ok (.iload_n 1, 1) := by decide +kernel
theorem dL_cell_1 : decode cL_cell 1 = .ok (.aload_n 0, 1) := by decide +kernel
theorem dL_cell_2 : decode cL_cell 2 = .ok (.arraylength, 1) := by decide +kernel
theorem dL_cell_3 : decode cL_cell 3 = .ok (.if_icmp .ge 9, 3) := by decide +kernel
theorem dL_cell_6 : decode cL_cell 6 = .ok (.aload_n 0, 1) := by decide +kernel
theorem dL_cell_7 : decode cL_cell 7 = .ok (.iload_n 1, 1) := by decide +kernel
theorem dL_cell_8 : decode cL_cell 8 = .ok (.iaload, 1) := by decide +kernel
theorem dL_cell_9 : decode cL_cell 9 = .ok (.goto 11, 3) := by decide +kernel
theorem dL_cell_12 : decode cL_cell 12 = .ok (.ldc 7, 2) := by decide +kernel
theorem dL_cell_14 : decode cL_cell 14 = .ok (.iload_n 1, 1) := by decide +kernel
theorem dL_cell_15 : decode cL_cell 15 = .ok (.sipush 1103, 3) := by decide +kernel
theorem dL_cell_18 : decode cL_cell 18 = .ok (.iadd, 1) := by decide +kernel
theorem dL_cell_19 : decode cL_cell 19 = .ok (.imul, 1) := by decide +kernel
theorem dL_cell_20 : decode cL_cell 20 = .ok (.ireturn, 1) := by decide +kernel
theorem dL_up_0 : decode cL_up 0 = .ok (.iload_n 0, 1) := by decide +kernel
theorem dL_up_1 : decode cL_up 1 = .ok (.ldc 8, 2) := by decide +kernel
theorem dL_up_3 : decode cL_up 3 = .ok (.iand, 1) := by decide +kernel
theorem dL_up_4 : decode cL_up 4 = .ok (.iload_n 1, 1) := by decide +kernel
theorem dL_up_5 : decode cL_up 5 = .ok (.irem, 1) := by decide +kernel
theorem dL_up_6 : decode cL_up 6 = .ok (.ireturn, 1) := by decide +kernel
theorem dL_isStep_0 : decode cL_isStep 0 = .ok (.iload_n 2, 1) := by decide +kernel
theorem dL_isStep_1 : decode cL_isStep 1 = .ok (.iconst 4, 1) := by decide +kernel
theorem dL_isStep_2 : decode cL_isStep 2 = .ok (.ishr, 1) := by decide +kernel
theorem dL_isStep_3 : decode cL_isStep 3 = .ok (.istore 4, 2) := by decide +kernel
theorem dL_isStep_5 : decode cL_isStep 5 = .ok (.iload 4, 2) := by decide +kernel
theorem dL_isStep_7 : decode cL_isStep 7 = .ok (.iconst 4, 1) := by decide +kernel
theorem dL_isStep_8 : decode cL_isStep 8 = .ok (.invokestatic 9, 3) := by decide +kernel
theorem dL_isStep_11 : decode cL_isStep 11 = .ok (.istore 5, 2) := by decide +kernel
theorem dL_isStep_13 : decode cL_isStep 13 = .ok (.aload_n 0, 1) := by decide +kernel
theorem dL_isStep_14 : decode cL_isStep 14 = .ok (.bipush 9, 2) := by decide +kernel
theorem dL_isStep_16 : decode cL_isStep 16 = .ok (.invokevirtual 15, 3) := by decide +kernel
theorem dL_isStep_19 : decode cL_isStep 19 = .ok (.istore 6, 2) := by decide +kernel
theorem dL_isStep_21 : decode cL_isStep 21 = .ok (.aload_n 0, 1) := by decide +kernel
theorem dL_isStep_22 : decode cL_isStep 22 = .ok (.iconst 0, 1) := by decide +kernel
theorem dL_isStep_23 : decode cL_isStep 23 = .ok (.invokevirtual 15, 3) := by decide +kernel
theorem dL_isStep_26 : decode cL_isStep 26 = .ok (.istore 7, 2) := by decide +kernel
theorem dL_isStep_28 : decode cL_isStep 28 = .ok (.iload_n 2, 1) := by decide +kernel
theorem dL_isStep_29 : decode cL_isStep 29 = .ok (.bipush 15, 2) := by decide +kernel
theorem dL_isStep_31 : decode cL_isStep 31 = .ok (.invokestatic 9, 3) := by decide +kernel
theorem dL_isStep_34 : decode cL_isStep 34 = .ok (.tableswitch 818 0 13 #[70, 70, 70, 70, 70, 143, 143, 143, 276, 276, 451, 583, 676, 792], 70) := by decide +kernel
theorem dL_isStep_104 : decode cL_isStep 104 = .ok (.iconst 1, 1) := by decide +kernel
theorem dL_isStep_105 : decode cL_isStep 105 = .ok (.iload_n 3, 1) := by decide +kernel
theorem dL_isStep_106 : decode cL_isStep 106 = .ok (.bipush 20, 2) := by decide +kernel
theorem dL_isStep_108 : decode cL_isStep 108 = .ok (.invokestatic 9, 3) := by decide +kernel
theorem dL_isStep_111 : decode cL_isStep 111 = .ok (.iadd, 1) := by decide +kernel
theorem dL_isStep_112 : decode cL_isStep 112 = .ok (.istore 8, 2) := by decide +kernel
theorem dL_isStep_114 : decode cL_isStep 114 = .ok (.aload_n 0, 1) := by decide +kernel
theorem dL_isStep_115 : decode cL_isStep 115 = .ok (.iload 5, 2) := by decide +kernel
theorem dL_isStep_117 : decode cL_isStep 117 = .ok (.iload 8, 2) := by decide +kernel
theorem dL_isStep_119 : decode cL_isStep 119 = .ok (.invokevirtual 21, 3) := by decide +kernel
theorem dL_isStep_122 : decode cL_isStep 122 = .ok (.istore 9, 2) := by decide +kernel
theorem dL_isStep_124 : decode cL_isStep 124 = .ok (.iload 9, 2) := by decide +kernel
theorem dL_isStep_126 : decode cL_isStep 126 = .ok (.aload_n 1, 1) := by decide +kernel
theorem dL_isStep_127 : decode cL_isStep 127 = .ok (.iconst 3, 1) := by decide +kernel
theorem dL_isStep_128 : decode cL_isStep 128 = .ok (.iload 5, 2) := by decide +kernel
theorem dL_isStep_130 : decode cL_isStep 130 = .ok (.isub, 1) := by decide +kernel
theorem dL_isStep_131 : decode cL_isStep 131 = .ok (.iload 8, 2) := by decide +kernel
theorem dL_isStep_133 : decode cL_isStep 133 = .ok (.invokevirtual 21, 3) := by decide +kernel
theorem dL_isStep_136 : decode cL_isStep 136 = .ok (.if_icmp .ne 39, 3) := by decide +kernel
theorem dL_isStep_139 : decode cL_isStep 139 = .ok (.iload 9, 2) := by decide +kernel
theorem dL_isStep_141 : decode cL_isStep 141 = .ok (.iload 6, 2) := by decide +kernel
theorem dL_isStep_143 : decode cL_isStep 143 = .ok (.bipush 24, 2) := by decide +kernel
theorem dL_isStep_145 : decode cL_isStep 145 = .ok (.if_icmp .ne 9, 3) := by decide +kernel
theorem dL_isStep_148 : decode cL_isStep 148 = .ok (.sipush (-1003), 3) := by decide +kernel
theorem dL_isStep_151 : decode cL_isStep 151 = .ok (.goto 7, 3) := by decide +kernel
theorem dL_isStep_154 : decode cL_isStep 154 = .ok (.iload 6, 2) := by decide +kernel
theorem dL_isStep_156 : decode cL_isStep 156 = .ok (.iconst 1, 1) := by decide +kernel
theorem dL_isStep_157 : decode cL_isStep 157 = .ok (.iadd, 1) := by decide +kernel
theorem dL_isStep_158 : decode cL_isStep 158 = .ok (.if_icmp .ne 17, 3) := by decide +kernel
theorem dL_isStep_161 : decode cL_isStep 161 = .ok (.aload_n 0, 1) := by decide +kernel
theorem dL_isStep_162 : decode cL_isStep 162 = .ok (.iconst 0, 1) := by decide +kernel
theorem dL_isStep_163 : decode cL_isStep 163 = .ok (.invokevirtual 15, 3) := by decide +kernel
theorem dL_isStep_166 : decode cL_isStep 166 = .ok (.iload 7, 2) := by decide +kernel
theorem dL_isStep_168 : decode cL_isStep 168 = .ok (.if_icmp .ne 7, 3) := by decide +kernel
theorem dL_isStep_171 : decode cL_isStep 171 = .ok (.iconst 1, 1) := by decide +kernel
theorem dL_isStep_172 : decode cL_isStep 172 = .ok (.goto 4, 3) := by decide +kernel
theorem dL_isStep_175 : decode cL_isStep 175 = .ok (.iconst 0, 1) := by decide +kernel
theorem dL_isStep_176 : decode cL_isStep 176 = .ok (.ireturn, 1) := by decide +kernel
theorem dL_isStep_177 : decode cL_isStep 177 = .ok (.iload_n 3, 1) := by decide +kernel
theorem dL_isStep_178 : decode cL_isStep 178 = .ok (.iconst 3, 1) := by decide +kernel
theorem dL_isStep_179 : decode cL_isStep 179 = .ok (.invokestatic 9, 3) := by decide +kernel
theorem dL_isStep_182 : decode cL_isStep 182 = .ok (.ifCond .ne 14, 3) := by decide +kernel
theorem dL_isStep_185 : decode cL_isStep 185 = .ok (.iload_n 3, 1) := by decide +kernel
theorem dL_isStep_186 : decode cL_isStep 186 = .ok (.iconst 2, 1) := by decide +kernel
theorem dL_isStep_187 : decode cL_isStep 187 = .ok (.ishr, 1) := by decide +kernel
theorem dL_isStep_188 : decode cL_isStep 188 = .ok (.bipush 31, 2) := by decide +kernel
theorem dL_isStep_190 : decode cL_isStep 190 = .ok (.invokestatic 9, 3) := by decide +kernel
theorem dL_isStep_193 : decode cL_isStep 193 = .ok (.goto 4, 3) := by decide +kernel
theorem dL_isStep_196 : decode cL_isStep 196 = .ok (.iconst 0, 1) := by decide +kernel
theorem dL_isStep_197 : decode cL_isStep 197 = .ok (.istore 8, 2) := by decide +kernel
theorem dL_isStep_199 : decode cL_isStep 199 = .ok (.aload_n 0, 1) := by decide +kernel
theorem dL_isStep_200 : decode cL_isStep 200 = .ok (.bipush 6, 2) := by decide +kernel
theorem dL_isStep_202 : decode cL_isStep 202 = .ok (.invokevirtual 15, 3) := by decide +kernel
theorem dL_isStep_205 : decode cL_isStep 205 = .ok (.istore 9, 2) := by decide +kernel
theorem dL_isStep_207 : decode cL_isStep 207 = .ok (.aload_n 0, 1) := by decide +kernel
theorem dL_isStep_208 : decode cL_isStep 208 = .ok (.iconst 5, 1) := by decide +kernel
theorem dL_isStep_209 : decode cL_isStep 209 = .ok (.invokevirtual 15, 3) := by decide +kernel
theorem dL_isStep_212 : decode cL_isStep 212 = .ok (.istore 10, 2) := by decide +kernel
theorem dL_isStep_214 : decode cL_isStep 214 = .ok (.aload_n 0, 1) := by decide +kernel
theorem dL_isStep_215 : decode cL_isStep 215 = .ok (.iload 8, 2) := by decide +kernel
theorem dL_isStep_217 : decode cL_isStep 217 = .ok (.invokevirtual 24, 3) := by decide +kernel
theorem dL_isStep_220 : decode cL_isStep 220 = .ok (.istore 11, 2) := by decide +kernel
theorem dL_isStep_222 : decode cL_isStep 222 = .ok (.iload 11, 2) := by decide +kernel
theorem dL_isStep_224 : decode cL_isStep 224 = .ok (.aload_n 1, 1) := by decide +kernel
theorem dL_isStep_225 : decode cL_isStep 225 = .ok (.iload 8, 2) := by decide +kernel
theorem dL_isStep_227 : decode cL_isStep 227 = .ok (.invokevirtual 24, 3) := by decide +kernel
theorem dL_isStep_230 : decode cL_isStep 230 = .ok (.if_icmp .ne 78, 3) := by decide +kernel
theorem dL_isStep_233 : decode cL_isStep 233 = .ok (.iload 6, 2) := by decide +kernel
theorem dL_isStep_235 : decode cL_isStep 235 = .ok (.ifCond .ne 14, 3) := by decide +kernel
theorem dL_isStep_238 : decode cL_isStep 238 = .ok (.iload 11, 2) := by decide +kernel
theorem dL_isStep_240 : decode cL_isStep 240 = .ok (.sipush (-1005), 3) := by decide +kernel
theorem dL_isStep_243 : decode cL_isStep 243 = .ok (.if_icmp .ne 65, 3) := by decide +kernel
theorem dL_isStep_246 : decode cL_isStep 246 = .ok (.goto 51, 3) := by decide +kernel
theorem dL_isStep_249 : decode cL_isStep 249 = .ok (.iload 11, 2) := by decide +kernel
theorem dL_isStep_251 : decode cL_isStep 251 = .ok (.aload_n 0, 1) := by decide +kernel
theorem dL_isStep_252 : decode cL_isStep 252 = .ok (.bipush 6, 2) := by decide +kernel
theorem dL_isStep_254 : decode cL_isStep 254 = .ok (.invokevirtual 15, 3) := by decide +kernel
theorem dL_isStep_257 : decode cL_isStep 257 = .ok (.iload 9, 2) := by decide +kernel
theorem dL_isStep_259 : decode cL_isStep 259 = .ok (.isub, 1) := by decide +kernel
theorem dL_isStep_260 : decode cL_isStep 260 = .ok (.if_icmp .ne 48, 3) := by decide +kernel
theorem dL_isStep_263 : decode cL_isStep 263 = .ok (.aload_n 0, 1) := by decide +kernel
theorem dL_isStep_264 : decode cL_isStep 264 = .ok (.iconst 5, 1) := by decide +kernel
theorem dL_isStep_265 : decode cL_isStep 265 = .ok (.invokevirtual 15, 3) := by decide +kernel
theorem dL_isStep_268 : decode cL_isStep 268 = .ok (.iload 10, 2) := by decide +kernel
theorem dL_isStep_270 : decode cL_isStep 270 = .ok (.iload 6, 2) := by decide +kernel
theorem dL_isStep_272 : decode cL_isStep 272 = .ok (.iadd, 1) := by decide +kernel
theorem dL_isStep_273 : decode cL_isStep 273 = .ok (.if_icmp .ne 35, 3) := by decide +kernel
theorem dL_isStep_276 : decode cL_isStep 276 = .ok (.aload_n 0, 1) := by decide +kernel
theorem dL_isStep_277 : decode cL_isStep 277 = .ok (.bipush 9, 2) := by decide +kernel
theorem dL_isStep_279 : decode cL_isStep 279 = .ok (.invokevirtual 15, 3) := by decide +kernel
theorem dL_isStep_282 : decode cL_isStep 282 = .ok (.ifCond .ne 26, 3) := by decide +kernel
theorem dL_isStep_285 : decode cL_isStep 285 = .ok (.aload_n 0, 1) := by decide +kernel
theorem dL_isStep_286 : decode cL_isStep 286 = .ok (.aload_n 1, 1) := by decide +kernel
theorem dL_isStep_287 : decode cL_isStep 287 = .ok (.iload 6, 2) := by decide +kernel
theorem dL_isStep_289 : decode cL_isStep 289 = .ok (.iload 11, 2) := by decide +kernel
theorem dL_isStep_291 : decode cL_isStep 291 = .ok (.invokestatic 27, 3) := by decide +kernel
theorem dL_isStep_294 : decode cL_isStep 294 = .ok (.ifCond .eq 14, 3) := by decide +kernel
theorem dL_isStep_297 : decode cL_isStep 297 = .ok (.aload_n 0, 1) := by decide +kernel
theorem dL_isStep_298 : decode cL_isStep 298 = .ok (.invokestatic 31, 3) := by decide +kernel
theorem dL_isStep_301 : decode cL_isStep 301 = .ok (.ifCond .eq 7, 3) := by decide +kernel
theorem dL_isStep_304 : decode cL_isStep 304 = .ok (.iconst 1, 1) := by decide +kernel
theorem dL_isStep_305 : decode cL_isStep 305 = .ok (.goto 4, 3) := by decide +kernel
theorem dL_isStep_308 : decode cL_isStep 308 = .ok (.iconst 0, 1) := by decide +kernel
theorem dL_isStep_309 : decode cL_isStep 309 = .ok (.ireturn, 1) := by decide +kernel
theorem dL_isStep_310 : decode cL_isStep 310 = .ok (.iload 4, 2) := by decide +kernel
theorem dL_isStep_312 : decode cL_isStep 312 = .ok (.iconst 2, 1) := by decide +kernel
theorem dL_isStep_313 : decode cL_isStep 313 = .ok (.ishr, 1) := by decide +kernel
theorem dL_isStep_314 : decode cL_isStep 314 = .ok (.bipush 20, 2) := by decide +kernel
theorem dL_isStep_316 : decode cL_isStep 316 = .ok (.invokestatic 9, 3) := by decide +kernel
theorem dL_isStep_319 : decode cL_isStep 319 = .ok (.istore 8, 2) := by decide +kernel
theorem dL_isStep_321 : decode cL_isStep 321 = .ok (.aload_n 0, 1) := by decide +kernel
theorem dL_isStep_322 : decode cL_isStep 322 = .ok (.iload 5, 2) := by decide +kernel
theorem dL_isStep_324 : decode cL_isStep 324 = .ok (.iload 8, 2) := by decide +kernel
theorem dL_isStep_326 : decode cL_isStep 326 = .ok (.iconst 0, 1) := by decide +kernel
theorem dL_isStep_327 : decode cL_isStep 327 = .ok (.invokevirtual 35, 3) := by decide +kernel
theorem dL_isStep_330 : decode cL_isStep 330 = .ok (.istore 9, 2) := by decide +kernel
theorem dL_isStep_332 : decode cL_isStep 332 = .ok (.iload_n 3, 1) := by decide +kernel
theorem dL_isStep_333 : decode cL_isStep 333 = .ok (.iconst 4, 1) := by decide +kernel
theorem dL_isStep_334 : decode cL_isStep 334 = .ok (.invokestatic 9, 3) := by decide +kernel
theorem dL_isStep_337 : decode cL_isStep 337 = .ok (.ifCond .ne 14, 3) := by decide +kernel
theorem dL_isStep_340 : decode cL_isStep 340 = .ok (.iload_n 3, 1) := by decide +kernel
theorem dL_isStep_341 : decode cL_isStep 341 = .ok (.iconst 2, 1) := by decide +kernel
theorem dL_isStep_342 : decode cL_isStep 342 = .ok (.ishr, 1) := by decide +kernel
theorem dL_isStep_343 : decode cL_isStep 343 = .ok (.bipush 100, 2) := by decide +kernel
theorem dL_isStep_345 : decode cL_isStep 345 = .ok (.invokestatic 9, 3) := by decide +kernel
theorem dL_isStep_348 : decode cL_isStep 348 = .ok (.goto 17, 3) := by decide +kernel
theorem dL_isStep_351 : decode cL_isStep 351 = .ok (.iload 9, 2) := by decide +kernel
theorem dL_isStep_353 : decode cL_isStep 353 = .ok (.iload_n 3, 1) := by decide +kernel
theorem dL_isStep_354 : decode cL_isStep 354 = .ok (.iconst 2, 1) := by decide +kernel
theorem dL_isStep_355 : decode cL_isStep 355 = .ok (.ishr, 1) := by decide +kernel
theorem dL_isStep_356 : decode cL_isStep 356 = .ok (.bipush 15, 2) := by decide +kernel
theorem dL_isStep_358 : decode cL_isStep 358 = .ok (.invokestatic 9, 3) := by decide +kernel
theorem dL_isStep_361 : decode cL_isStep 361 = .ok (.iadd, 1) := by decide +kernel
theorem dL_isStep_362 : decode cL_isStep 362 = .ok (.bipush 7, 2) := by decide +kernel
theorem dL_isStep_364 : decode cL_isStep 364 = .ok (.isub, 1) := by decide +kernel
theorem dL_isStep_365 : decode cL_isStep 365 = .ok (.istore 10, 2) := by decide +kernel
theorem dL_isStep_367 : decode cL_isStep 367 = .ok (.aload_n 0, 1) := by decide +kernel
theorem dL_isStep_368 : decode cL_isStep 368 = .ok (.iload 5, 2) := by decide +kernel
theorem dL_isStep_370 : decode cL_isStep 370 = .ok (.iload 8, 2) := by decide +kernel
theorem dL_isStep_372 : decode cL_isStep 372 = .ok (.iload 10, 2) := by decide +kernel
theorem dL_isStep_374 : decode cL_isStep 374 = .ok (.invokevirtual 39, 3) := by decide +kernel
theorem dL_isStep_377 : decode cL_isStep 377 = .ok (.istore 11, 2) := by decide +kernel
theorem dL_isStep_379 : decode cL_isStep 379 = .ok (.iload 10, 2) := by decide +kernel
theorem dL_isStep_381 : decode cL_isStep 381 = .ok (.ifCond .lt 14, 3) := by decide +kernel
theorem dL_isStep_384 : decode cL_isStep 384 = .ok (.iload 10, 2) := by decide +kernel
theorem dL_isStep_386 : decode cL_isStep 386 = .ok (.bipush 100, 2) := by decide +kernel
theorem dL_isStep_388 : decode cL_isStep 388 = .ok (.if_icmp .ge 7, 3) := by decide +kernel
theorem dL_isStep_391 : decode cL_isStep 391 = .ok (.iconst 1, 1) := by decide +kernel
theorem dL_isStep_392 : decode cL_isStep 392 = .ok (.goto 4, 3) := by decide +kernel
theorem dL_isStep_395 : decode cL_isStep 395 = .ok (.iconst 0, 1) := by decide +kernel
theorem dL_isStep_396 : decode cL_isStep 396 = .ok (.istore 12, 2) := by decide +kernel
theorem dL_isStep_398 : decode cL_isStep 398 = .ok (.iload 11, 2) := by decide +kernel
theorem dL_isStep_400 : decode cL_isStep 400 = .ok (.aload_n 1, 1) := by decide +kernel
theorem dL_isStep_401 : decode cL_isStep 401 = .ok (.iconst 3, 1) := by decide +kernel
theorem dL_isStep_402 : decode cL_isStep 402 = .ok (.iload 5, 2) := by decide +kernel
theorem dL_isStep_404 : decode cL_isStep 404 = .ok (.isub, 1) := by decide +kernel
theorem dL_isStep_405 : decode cL_isStep 405 = .ok (.iload 8, 2) := by decide +kernel
theorem dL_isStep_407 : decode cL_isStep 407 = .ok (.iload 10, 2) := by decide +kernel
theorem dL_isStep_409 : decode cL_isStep 409 = .ok (.invokevirtual 39, 3) := by decide +kernel
theorem dL_isStep_412 : decode cL_isStep 412 = .ok (.if_icmp .ne 71, 3) := by decide +kernel
theorem dL_isStep_415 : decode cL_isStep 415 = .ok (.iload 11, 2) := by decide +kernel
theorem dL_isStep_417 : decode cL_isStep 417 = .ok (.iload 12, 2) := by decide +kernel
theorem dL_isStep_419 : decode cL_isStep 419 = .ok (.ifCond .ne 9, 3) := by decide +kernel
theorem dL_isStep_422 : decode cL_isStep 422 = .ok (.sipush (-1002), 3) := by decide +kernel
theorem dL_isStep_425 : decode cL_isStep 425 = .ok (.goto 18, 3) := by decide +kernel
theorem dL_isStep_428 : decode cL_isStep 428 = .ok (.iload 9, 2) := by decide +kernel
theorem dL_isStep_430 : decode cL_isStep 430 = .ok (.iload 10, 2) := by decide +kernel
theorem dL_isStep_432 : decode cL_isStep 432 = .ok (.if_icmp .ne 9, 3) := by decide +kernel
theorem dL_isStep_435 : decode cL_isStep 435 = .ok (.sipush (-1005), 3) := by decide +kernel
theorem dL_isStep_438 : decode cL_isStep 438 = .ok (.goto 5, 3) := by decide +kernel
theorem dL_isStep_441 : decode cL_isStep 441 = .ok (.iload 9, 2) := by decide +kernel
theorem dL_isStep_443 : decode cL_isStep 443 = .ok (.if_icmp .ne 40, 3) := by decide +kernel
theorem dL_isStep_446 : decode cL_isStep 446 = .ok (.aload_n 0, 1) := by decide +kernel
theorem dL_isStep_447 : decode cL_isStep 447 = .ok (.iconst 0, 1) := by decide +kernel
theorem dL_isStep_448 : decode cL_isStep 448 = .ok (.invokevirtual 15, 3) := by decide +kernel
theorem dL_isStep_451 : decode cL_isStep 451 = .ok (.iload 12, 2) := by decide +kernel
theorem dL_isStep_453 : decode cL_isStep 453 = .ok (.ifCond .eq 14, 3) := by decide +kernel
theorem dL_isStep_456 : decode cL_isStep 456 = .ok (.iload 7, 2) := by decide +kernel
theorem dL_isStep_458 : decode cL_isStep 458 = .ok (.iload 10, 2) := by decide +kernel
theorem dL_isStep_460 : decode cL_isStep 460 = .ok (.iadd, 1) := by decide +kernel
theorem dL_isStep_461 : decode cL_isStep 461 = .ok (.iload 9, 2) := by decide +kernel
theorem dL_isStep_463 : decode cL_isStep 463 = .ok (.isub, 1) := by decide +kernel
theorem dL_isStep_464 : decode cL_isStep 464 = .ok (.goto 5, 3) := by decide +kernel
theorem dL_isStep_467 : decode cL_isStep 467 = .ok (.iload 7, 2) := by decide +kernel
theorem dL_isStep_469 : decode cL_isStep 469 = .ok (.if_icmp .ne 14, 3) := by decide +kernel
theorem dL_isStep_472 : decode cL_isStep 472 = .ok (.aload_n 0, 1) := by decide +kernel
theorem dL_isStep_473 : decode cL_isStep 473 = .ok (.invokestatic 31, 3) := by decide +kernel
theorem dL_isStep_476 : decode cL_isStep 476 = .ok (.ifCond .eq 7, 3) := by decide +kernel
theorem dL_isStep_479 : decode cL_isStep 479 = .ok (.iconst 1, 1) := by decide +kernel
theorem dL_isStep_480 : decode cL_isStep 480 = .ok (.goto 4, 3) := by decide +kernel
theorem dL_isStep_483 : decode cL_isStep 483 = .ok (.iconst 0, 1) := by decide +kernel
theorem dL_isStep_484 : decode cL_isStep 484 = .ok (.ireturn, 1) := by decide +kernel
theorem dL_isStep_485 : decode cL_isStep 485 = .ok (.iload_n 3, 1) := by decide +kernel
theorem dL_isStep_486 : decode cL_isStep 486 = .ok (.iconst 4, 1) := by decide +kernel
theorem dL_isStep_487 : decode cL_isStep 487 = .ok (.invokestatic 9, 3) := by decide +kernel
theorem dL_isStep_490 : decode cL_isStep 490 = .ok (.ifCond .ne 17, 3) := by decide +kernel
theorem dL_isStep_493 : decode cL_isStep 493 = .ok (.bipush 20, 2) := by decide +kernel
theorem dL_isStep_495 : decode cL_isStep 495 = .ok (.iload_n 3, 1) := by decide +kernel
theorem dL_isStep_496 : decode cL_isStep 496 = .ok (.iconst 2, 1) := by decide +kernel
theorem dL_isStep_497 : decode cL_isStep 497 = .ok (.ishr, 1) := by decide +kernel
theorem dL_isStep_498 : decode cL_isStep 498 = .ok (.bipush 51, 2) := by decide +kernel
theorem dL_isStep_500 : decode cL_isStep 500 = .ok (.invokestatic 9, 3) := by decide +kernel
theorem dL_isStep_503 : decode cL_isStep 503 = .ok (.iadd, 1) := by decide +kernel
theorem dL_isStep_504 : decode cL_isStep 504 = .ok (.goto 14, 3) := by decide +kernel
theorem dL_isStep_507 : decode cL_isStep 507 = .ok (.bipush 32, 2) := by decide +kernel
theorem dL_isStep_509 : decode cL_isStep 509 = .ok (.iload_n 3, 1) := by decide +kernel
theorem dL_isStep_510 : decode cL_isStep 510 = .ok (.iconst 2, 1) := by decide +kernel
theorem dL_isStep_511 : decode cL_isStep 511 = .ok (.ishr, 1) := by decide +kernel
theorem dL_isStep_512 : decode cL_isStep 512 = .ok (.bipush 16, 2) := by decide +kernel
theorem dL_isStep_514 : decode cL_isStep 514 = .ok (.invokestatic 9, 3) := by decide +kernel
theorem dL_isStep_517 : decode cL_isStep 517 = .ok (.iadd, 1) := by decide +kernel
theorem dL_isStep_518 : decode cL_isStep 518 = .ok (.istore 8, 2) := by decide +kernel
theorem dL_isStep_520 : decode cL_isStep 520 = .ok (.aload_n 0, 1) := by decide +kernel
theorem dL_isStep_521 : decode cL_isStep 521 = .ok (.bipush 17, 2) := by decide +kernel
theorem dL_isStep_523 : decode cL_isStep 523 = .ok (.invokevirtual 15, 3) := by decide +kernel
theorem dL_isStep_526 : decode cL_isStep 526 = .ok (.istore 9, 2) := by decide +kernel
theorem dL_isStep_528 : decode cL_isStep 528 = .ok (.aload_n 0, 1) := by decide +kernel
theorem dL_isStep_529 : decode cL_isStep 529 = .ok (.bipush 10, 2) := by decide +kernel
theorem dL_isStep_531 : decode cL_isStep 531 = .ok (.invokevirtual 15, 3) := by decide +kernel
theorem dL_isStep_534 : decode cL_isStep 534 = .ok (.istore 10, 2) := by decide +kernel
theorem dL_isStep_536 : decode cL_isStep 536 = .ok (.aload_n 0, 1) := by decide +kernel
theorem dL_isStep_537 : decode cL_isStep 537 = .ok (.iload 8, 2) := by decide +kernel
theorem dL_isStep_539 : decode cL_isStep 539 = .ok (.invokevirtual 42, 3) := by decide +kernel
theorem dL_isStep_542 : decode cL_isStep 542 = .ok (.istore 11, 2) := by decide +kernel
theorem dL_isStep_544 : decode cL_isStep 544 = .ok (.iload 11, 2) := by decide +kernel
theorem dL_isStep_546 : decode cL_isStep 546 = .ok (.aload_n 1, 1) := by decide +kernel
theorem dL_isStep_547 : decode cL_isStep 547 = .ok (.iload 8, 2) := by decide +kernel
theorem dL_isStep_549 : decode cL_isStep 549 = .ok (.invokevirtual 42, 3) := by decide +kernel
theorem dL_isStep_552 : decode cL_isStep 552 = .ok (.if_icmp .ne 63, 3) := by decide +kernel
theorem dL_isStep_555 : decode cL_isStep 555 = .ok (.iload 11, 2) := by decide +kernel
theorem dL_isStep_557 : decode cL_isStep 557 = .ok (.iload 10, 2) := by decide +kernel
theorem dL_isStep_559 : decode cL_isStep 559 = .ok (.iload 8, 2) := by decide +kernel
theorem dL_isStep_561 : decode cL_isStep 561 = .ok (.if_icmp .ne 9, 3) := by decide +kernel
theorem dL_isStep_564 : decode cL_isStep 564 = .ok (.sipush (-1005), 3) := by decide +kernel
theorem dL_isStep_567 : decode cL_isStep 567 = .ok (.goto 5, 3) := by decide +kernel
theorem dL_isStep_570 : decode cL_isStep 570 = .ok (.iload 10, 2) := by decide +kernel
theorem dL_isStep_572 : decode cL_isStep 572 = .ok (.if_icmp .ne 43, 3) := by decide +kernel
theorem dL_isStep_575 : decode cL_isStep 575 = .ok (.iload 8, 2) := by decide +kernel
theorem dL_isStep_577 : decode cL_isStep 577 = .ok (.iload 10, 2) := by decide +kernel
theorem dL_isStep_579 : decode cL_isStep 579 = .ok (.if_icmp .lt 14, 3) := by decide +kernel
theorem dL_isStep_582 : decode cL_isStep 582 = .ok (.aload_n 0, 1) := by decide +kernel
theorem dL_isStep_583 : decode cL_isStep 583 = .ok (.bipush 17, 2) := by decide +kernel
theorem dL_isStep_585 : decode cL_isStep 585 = .ok (.invokevirtual 15, 3) := by decide +kernel
theorem dL_isStep_588 : decode cL_isStep 588 = .ok (.iload 9, 2) := by decide +kernel
theorem dL_isStep_590 : decode cL_isStep 590 = .ok (.if_icmp .gt 25, 3) := by decide +kernel
theorem dL_isStep_593 : decode cL_isStep 593 = .ok (.iload 8, 2) := by decide +kernel
theorem dL_isStep_595 : decode cL_isStep 595 = .ok (.iload 10, 2) := by decide +kernel
theorem dL_isStep_597 : decode cL_isStep 597 = .ok (.if_icmp .gt 14, 3) := by decide +kernel
theorem dL_isStep_600 : decode cL_isStep 600 = .ok (.aload_n 0, 1) := by decide +kernel
theorem dL_isStep_601 : decode cL_isStep 601 = .ok (.bipush 17, 2) := by decide +kernel
theorem dL_isStep_603 : decode cL_isStep 603 = .ok (.invokevirtual 15, 3) := by decide +kernel
theorem dL_isStep_606 : decode cL_isStep 606 = .ok (.iload 9, 2) := by decide +kernel
theorem dL_isStep_608 : decode cL_isStep 608 = .ok (.if_icmp .lt 7, 3) := by decide +kernel
theorem dL_isStep_611 : decode cL_isStep 611 = .ok (.iconst 1, 1) := by decide +kernel
theorem dL_isStep_612 : decode cL_isStep 612 = .ok (.goto 4, 3) := by decide +kernel
theorem dL_isStep_615 : decode cL_isStep 615 = .ok (.iconst 0, 1) := by decide +kernel
theorem dL_isStep_616 : decode cL_isStep 616 = .ok (.ireturn, 1) := by decide +kernel
theorem dL_isStep_617 : decode cL_isStep 617 = .ok (.iload 4, 2) := by decide +kernel
theorem dL_isStep_619 : decode cL_isStep 619 = .ok (.iconst 4, 1) := by decide +kernel
theorem dL_isStep_620 : decode cL_isStep 620 = .ok (.invokestatic 9, 3) := by decide +kernel
theorem dL_isStep_623 : decode cL_isStep 623 = .ok (.istore 8, 2) := by decide +kernel
theorem dL_isStep_625 : decode cL_isStep 625 = .ok (.iload 8, 2) := by decide +kernel
theorem dL_isStep_627 : decode cL_isStep 627 = .ok (.ifCond .eq 9, 3) := by decide +kernel
theorem dL_isStep_630 : decode cL_isStep 630 = .ok (.iload 8, 2) := by decide +kernel
theorem dL_isStep_632 : decode cL_isStep 632 = .ok (.iconst 2, 1) := by decide +kernel
theorem dL_isStep_633 : decode cL_isStep 633 = .ok (.if_icmp .ne 14, 3) := by decide +kernel
theorem dL_isStep_636 : decode cL_isStep 636 = .ok (.iconst 1, 1) := by decide +kernel
theorem dL_isStep_637 : decode cL_isStep 637 = .ok (.iload_n 3, 1) := by decide +kernel
theorem dL_isStep_638 : decode cL_isStep 638 = .ok (.bipush 20, 2) := by decide +kernel
theorem dL_isStep_640 : decode cL_isStep 640 = .ok (.invokestatic 9, 3) := by decide +kernel
theorem dL_isStep_643 : decode cL_isStep 643 = .ok (.iadd, 1) := by decide +kernel
theorem dL_isStep_644 : decode cL_isStep 644 = .ok (.goto 25, 3) := by decide +kernel
theorem dL_isStep_647 : decode cL_isStep 647 = .ok (.iload 8, 2) := by decide +kernel
theorem dL_isStep_649 : decode cL_isStep 649 = .ok (.iconst 1, 1) := by decide +kernel
theorem dL_isStep_650 : decode cL_isStep 650 = .ok (.if_icmp .ne 11, 3) := by decide +kernel
theorem dL_isStep_653 : decode cL_isStep 653 = .ok (.iload_n 3, 1) := by decide +kernel
theorem dL_isStep_654 : decode cL_isStep 654 = .ok (.iconst 3, 1) := by decide +kernel
theorem dL_isStep_655 : decode cL_isStep 655 = .ok (.invokestatic 9, 3) := by decide +kernel
theorem dL_isStep_658 : decode cL_isStep 658 = .ok (.goto 11, 3) := by decide +kernel
theorem dL_isStep_661 : decode cL_isStep 661 = .ok (.iconst 4, 1) := by decide +kernel
theorem dL_isStep_662 : decode cL_isStep 662 = .ok (.iload_n 3, 1) := by decide +kernel
theorem dL_isStep_663 : decode cL_isStep 663 = .ok (.bipush 27, 2) := by decide +kernel
theorem dL_isStep_665 : decode cL_isStep 665 = .ok (.invokestatic 9, 3) := by decide +kernel
theorem dL_isStep_668 : decode cL_isStep 668 = .ok (.iadd, 1) := by decide +kernel
theorem dL_isStep_669 : decode cL_isStep 669 = .ok (.istore 9, 2) := by decide +kernel
theorem dL_isStep_671 : decode cL_isStep 671 = .ok (.aload_n 0, 1) := by decide +kernel
theorem dL_isStep_672 : decode cL_isStep 672 = .ok (.iload 8, 2) := by decide +kernel
theorem dL_isStep_674 : decode cL_isStep 674 = .ok (.iload 9, 2) := by decide +kernel
theorem dL_isStep_676 : decode cL_isStep 676 = .ok (.invokevirtual 45, 3) := by decide +kernel
theorem dL_isStep_679 : decode cL_isStep 679 = .ok (.aload_n 1, 1) := by decide +kernel
theorem dL_isStep_680 : decode cL_isStep 680 = .ok (.iload 8, 2) := by decide +kernel
theorem dL_isStep_682 : decode cL_isStep 682 = .ok (.iload 9, 2) := by decide +kernel
theorem dL_isStep_684 : decode cL_isStep 684 = .ok (.invokevirtual 45, 3) := by decide +kernel
theorem dL_isStep_687 : decode cL_isStep 687 = .ok (.if_icmp .ne 21, 3) := by decide +kernel
theorem dL_isStep_690 : decode cL_isStep 690 = .ok (.aload_n 0, 1) := by decide +kernel
theorem dL_isStep_691 : decode cL_isStep 691 = .ok (.bipush 11, 2) := by decide +kernel
theorem dL_isStep_693 : decode cL_isStep 693 = .ok (.iload 8, 2) := by decide +kernel
theorem dL_isStep_695 : decode cL_isStep 695 = .ok (.iadd, 1) := by decide +kernel
theorem dL_isStep_696 : decode cL_isStep 696 = .ok (.invokevirtual 15, 3) := by decide +kernel
theorem dL_isStep_699 : decode cL_isStep 699 = .ok (.iload 9, 2) := by decide +kernel
theorem dL_isStep_701 : decode cL_isStep 701 = .ok (.if_icmp .ne 7, 3) := by decide +kernel
theorem dL_isStep_704 : decode cL_isStep 704 = .ok (.iconst 1, 1) := by decide +kernel
theorem dL_isStep_705 : decode cL_isStep 705 = .ok (.goto 4, 3) := by decide +kernel
theorem dL_isStep_708 : decode cL_isStep 708 = .ok (.iconst 0, 1) := by decide +kernel
theorem dL_isStep_709 : decode cL_isStep 709 = .ok (.ireturn, 1) := by decide +kernel
theorem dL_isStep_710 : decode cL_isStep 710 = .ok (.aload_n 0, 1) := by decide +kernel
theorem dL_isStep_711 : decode cL_isStep 711 = .ok (.bipush 7, 2) := by decide +kernel
theorem dL_isStep_713 : decode cL_isStep 713 = .ok (.invokevirtual 15, 3) := by decide +kernel
theorem dL_isStep_716 : decode cL_isStep 716 = .ok (.istore 8, 2) := by decide +kernel
theorem dL_isStep_718 : decode cL_isStep 718 = .ok (.aload_n 0, 1) := by decide +kernel
theorem dL_isStep_719 : decode cL_isStep 719 = .ok (.bipush 8, 2) := by decide +kernel
theorem dL_isStep_721 : decode cL_isStep 721 = .ok (.invokevirtual 15, 3) := by decide +kernel
theorem dL_isStep_724 : decode cL_isStep 724 = .ok (.istore 9, 2) := by decide +kernel
theorem dL_isStep_726 : decode cL_isStep 726 = .ok (.aload_n 0, 1) := by decide +kernel
theorem dL_isStep_727 : decode cL_isStep 727 = .ok (.bipush 16, 2) := by decide +kernel
theorem dL_isStep_729 : decode cL_isStep 729 = .ok (.invokevirtual 15, 3) := by decide +kernel
theorem dL_isStep_732 : decode cL_isStep 732 = .ok (.istore 10, 2) := by decide +kernel
theorem dL_isStep_734 : decode cL_isStep 734 = .ok (.aload_n 0, 1) := by decide +kernel
theorem dL_isStep_735 : decode cL_isStep 735 = .ok (.invokevirtual 48, 3) := by decide +kernel
theorem dL_isStep_738 : decode cL_isStep 738 = .ok (.istore 11, 2) := by decide +kernel
theorem dL_isStep_740 : decode cL_isStep 740 = .ok (.aload_n 0, 1) := by decide +kernel
theorem dL_isStep_741 : decode cL_isStep 741 = .ok (.bipush 7, 2) := by decide +kernel
theorem dL_isStep_743 : decode cL_isStep 743 = .ok (.invokevirtual 15, 3) := by decide +kernel
theorem dL_isStep_746 : decode cL_isStep 746 = .ok (.iload 8, 2) := by decide +kernel
theorem dL_isStep_748 : decode cL_isStep 748 = .ok (.isub, 1) := by decide +kernel
theorem dL_isStep_749 : decode cL_isStep 749 = .ok (.aload_n 0, 1) := by decide +kernel
theorem dL_isStep_750 : decode cL_isStep 750 = .ok (.bipush 8, 2) := by decide +kernel
theorem dL_isStep_752 : decode cL_isStep 752 = .ok (.invokevirtual 15, 3) := by decide +kernel
theorem dL_isStep_755 : decode cL_isStep 755 = .ok (.iadd, 1) := by decide +kernel
theorem dL_isStep_756 : decode cL_isStep 756 = .ok (.iload 9, 2) := by decide +kernel
theorem dL_isStep_758 : decode cL_isStep 758 = .ok (.isub, 1) := by decide +kernel
theorem dL_isStep_759 : decode cL_isStep 759 = .ok (.istore 12, 2) := by decide +kernel
theorem dL_isStep_761 : decode cL_isStep 761 = .ok (.aload_n 0, 1) := by decide +kernel
theorem dL_isStep_762 : decode cL_isStep 762 = .ok (.bipush 7, 2) := by decide +kernel
theorem dL_isStep_764 : decode cL_isStep 764 = .ok (.invokevirtual 15, 3) := by decide +kernel
theorem dL_isStep_767 : decode cL_isStep 767 = .ok (.iload 8, 2) := by decide +kernel
theorem dL_isStep_769 : decode cL_isStep 769 = .ok (.isub, 1) := by decide +kernel
theorem dL_isStep_770 : decode cL_isStep 770 = .ok (.iload 10, 2) := by decide +kernel
theorem dL_isStep_772 : decode cL_isStep 772 = .ok (.if_icmp .gt 52, 3) := by decide +kernel
theorem dL_isStep_775 : decode cL_isStep 775 = .ok (.iload 11, 2) := by decide +kernel
theorem dL_isStep_777 : decode cL_isStep 777 = .ok (.sipush (-1005), 3) := by decide +kernel
theorem dL_isStep_780 : decode cL_isStep 780 = .ok (.if_icmp .ne 11, 3) := by decide +kernel
theorem dL_isStep_783 : decode cL_isStep 783 = .ok (.iload 12, 2) := by decide +kernel
theorem dL_isStep_785 : decode cL_isStep 785 = .ok (.ifCond .ne 39, 3) := by decide +kernel
theorem dL_isStep_788 : decode cL_isStep 788 = .ok (.goto 15, 3) := by decide +kernel
theorem dL_isStep_791 : decode cL_isStep 791 = .ok (.iload 11, 2) := by decide +kernel
theorem dL_isStep_793 : decode cL_isStep 793 = .ok (.iload 12, 2) := by decide +kernel
theorem dL_isStep_795 : decode cL_isStep 795 = .ok (.if_icmp .ne 29, 3) := by decide +kernel
theorem dL_isStep_798 : decode cL_isStep 798 = .ok (.iload 12, 2) := by decide +kernel
theorem dL_isStep_800 : decode cL_isStep 800 = .ok (.ifCond .le 24, 3) := by decide +kernel
theorem dL_isStep_803 : decode cL_isStep 803 = .ok (.aload_n 0, 1) := by decide +kernel
theorem dL_isStep_804 : decode cL_isStep 804 = .ok (.invokestatic 31, 3) := by decide +kernel
theorem dL_isStep_807 : decode cL_isStep 807 = .ok (.ifCond .eq 17, 3) := by decide +kernel
theorem dL_isStep_810 : decode cL_isStep 810 = .ok (.aload_n 0, 1) := by decide +kernel
theorem dL_isStep_811 : decode cL_isStep 811 = .ok (.aload_n 1, 1) := by decide +kernel
theorem dL_isStep_812 : decode cL_isStep 812 = .ok (.iload 11, 2) := by decide +kernel
theorem dL_isStep_814 : decode cL_isStep 814 = .ok (.invokestatic 52, 3) := by decide +kernel
theorem dL_isStep_817 : decode cL_isStep 817 = .ok (.ifCond .eq 7, 3) := by decide +kernel
theorem dL_isStep_820 : decode cL_isStep 820 = .ok (.iconst 1, 1) := by decide +kernel
theorem dL_isStep_821 : decode cL_isStep 821 = .ok (.goto 4, 3) := by decide +kernel
theorem dL_isStep_824 : decode cL_isStep 824 = .ok (.iconst 0, 1) := by decide +kernel
theorem dL_isStep_825 : decode cL_isStep 825 = .ok (.ireturn, 1) := by decide +kernel
theorem dL_isStep_826 : decode cL_isStep 826 = .ok (.aload_n 0, 1) := by decide +kernel
theorem dL_isStep_827 : decode cL_isStep 827 = .ok (.bipush 18, 2) := by decide +kernel
theorem dL_isStep_829 : decode cL_isStep 829 = .ok (.invokevirtual 15, 3) := by decide +kernel
theorem dL_isStep_832 : decode cL_isStep 832 = .ok (.ifCond .eq 14, 3) := by decide +kernel
theorem dL_isStep_835 : decode cL_isStep 835 = .ok (.aload_n 0, 1) := by decide +kernel
theorem dL_isStep_836 : decode cL_isStep 836 = .ok (.invokevirtual 56, 3) := by decide +kernel
theorem dL_isStep_839 : decode cL_isStep 839 = .ok (.aload_n 1, 1) := by decide +kernel
theorem dL_isStep_840 : decode cL_isStep 840 = .ok (.invokevirtual 56, 3) := by decide +kernel
theorem dL_isStep_843 : decode cL_isStep 843 = .ok (.if_icmp .ne 7, 3) := by decide +kernel
theorem dL_isStep_846 : decode cL_isStep 846 = .ok (.iconst 1, 1) := by decide +kernel
theorem dL_isStep_847 : decode cL_isStep 847 = .ok (.goto 4, 3) := by decide +kernel
theorem dL_isStep_850 : decode cL_isStep 850 = .ok (.iconst 0, 1) := by decide +kernel
theorem dL_isStep_851 : decode cL_isStep 851 = .ok (.ireturn, 1) := by decide +kernel
theorem dL_isStep_852 : decode cL_isStep 852 = .ok (.iconst 1, 1) := by decide +kernel
theorem dL_isStep_853 : decode cL_isStep 853 = .ok (.iload_n 3, 1) := by decide +kernel
theorem dL_isStep_854 : decode cL_isStep 854 = .ok (.bipush 20, 2) := by decide +kernel
theorem dL_isStep_856 : decode cL_isStep 856 = .ok (.invokestatic 9, 3) := by decide +kernel
theorem dL_isStep_859 : decode cL_isStep 859 = .ok (.iadd, 1) := by decide +kernel
theorem dL_isStep_860 : decode cL_isStep 860 = .ok (.istore 8, 2) := by decide +kernel
theorem dL_isStep_862 : decode cL_isStep 862 = .ok (.iconst 1, 1) := by decide +kernel
theorem dL_isStep_863 : decode cL_isStep 863 = .ok (.iload 4, 2) := by decide +kernel
theorem dL_isStep_865 : decode cL_isStep 865 = .ok (.bipush 20, 2) := by decide +kernel
theorem dL_isStep_867 : decode cL_isStep 867 = .ok (.invokestatic 9, 3) := by decide +kernel
theorem dL_isStep_870 : decode cL_isStep 870 = .ok (.iadd, 1) := by decide +kernel
theorem dL_isStep_871 : decode cL_isStep 871 = .ok (.istore 9, 2) := by decide +kernel
theorem dL_isStep_873 : decode cL_isStep 873 = .ok (.aload_n 0, 1) := by decide +kernel
theorem dL_isStep_874 : decode cL_isStep 874 = .ok (.iload 8, 2) := by decide +kernel
theorem dL_isStep_876 : decode cL_isStep 876 = .ok (.iload 9, 2) := by decide +kernel
theorem dL_isStep_878 : decode cL_isStep 878 = .ok (.invokevirtual 59, 3) := by decide +kernel
theorem dL_isStep_881 : decode cL_isStep 881 = .ok (.istore 10, 2) := by decide +kernel
theorem dL_isStep_883 : decode cL_isStep 883 = .ok (.iload 10, 2) := by decide +kernel
theorem dL_isStep_885 : decode cL_isStep 885 = .ok (.aload_n 1, 1) := by decide +kernel
theorem dL_isStep_886 : decode cL_isStep 886 = .ok (.iload 8, 2) := by decide +kernel
theorem dL_isStep_888 : decode cL_isStep 888 = .ok (.iload 9, 2) := by decide +kernel
theorem dL_isStep_890 : decode cL_isStep 890 = .ok (.invokevirtual 59, 3) := by decide +kernel
theorem dL_isStep_893 : decode cL_isStep 893 = .ok (.if_icmp .ne 49, 3) := by decide +kernel
theorem dL_isStep_896 : decode cL_isStep 896 = .ok (.iload 9, 2) := by decide +kernel
theorem dL_isStep_898 : decode cL_isStep 898 = .ok (.iload 8, 2) := by decide +kernel
theorem dL_isStep_900 : decode cL_isStep 900 = .ok (.if_icmp .ge 14, 3) := by decide +kernel
theorem dL_isStep_903 : decode cL_isStep 903 = .ok (.iload 10, 2) := by decide +kernel
theorem dL_isStep_905 : decode cL_isStep 905 = .ok (.sipush (-1002), 3) := by decide +kernel
theorem dL_isStep_908 : decode cL_isStep 908 = .ok (.if_icmp .ne 34, 3) := by decide +kernel
theorem dL_isStep_911 : decode cL_isStep 911 = .ok (.goto 27, 3) := by decide +kernel
theorem dL_isStep_914 : decode cL_isStep 914 = .ok (.aload_n 0, 1) := by decide +kernel
theorem dL_isStep_915 : decode cL_isStep 915 = .ok (.bipush 9, 2) := by decide +kernel
theorem dL_isStep_917 : decode cL_isStep 917 = .ok (.invokevirtual 15, 3) := by decide +kernel
theorem dL_isStep_920 : decode cL_isStep 920 = .ok (.iload 10, 2) := by decide +kernel
theorem dL_isStep_922 : decode cL_isStep 922 = .ok (.ifCond .ge 8, 3) := by decide +kernel
theorem dL_isStep_925 : decode cL_isStep 925 = .ok (.iload 6, 2) := by decide +kernel
theorem dL_isStep_927 : decode cL_isStep 927 = .ok (.goto 8, 3) := by decide +kernel
theorem dL_isStep_930 : decode cL_isStep 930 = .ok (.iload 6, 2) := by decide +kernel
theorem dL_isStep_932 : decode cL_isStep 932 = .ok (.iload 10, 2) := by decide +kernel
theorem dL_isStep_934 : decode cL_isStep 934 = .ok (.isub, 1) := by decide +kernel
theorem dL_isStep_935 : decode cL_isStep 935 = .ok (.if_icmp .ne 7, 3) := by decide +kernel
theorem dL_isStep_938 : decode cL_isStep 938 = .ok (.iconst 1, 1) := by decide +kernel
theorem dL_isStep_939 : decode cL_isStep 939 = .ok (.goto 4, 3) := by decide +kernel
theorem dL_isStep_942 : decode cL_isStep 942 = .ok (.iconst 0, 1) := by decide +kernel
theorem dL_isStep_943 : decode cL_isStep 943 = .ok (.ireturn, 1) := by decide +kernel
theorem dL_areSame_0 : decode cL_areSame 0 = .ok (.aload_n 1, 1) := by decide +kernel
theorem dL_areSame_1 : decode cL_areSame 1 = .ok (.invokevirtual 48, 3) := by decide +kernel
theorem dL_areSame_4 : decode cL_areSame 4 = .ok (.iload_n 2, 1) := by decide +kernel
theorem dL_areSame_5 : decode cL_areSame 5 = .ok (.if_icmp .ne 7, 3) := by decide +kernel
theorem dL_areSame_8 : decode cL_areSame 8 = .ok (.iconst 1, 1) := by decide +kernel
theorem dL_areSame_9 : decode cL_areSame 9 = .ok (.goto 4, 3) := by decide +kernel
theorem dL_areSame_12 : decode cL_areSame 12 = .ok (.iconst 0, 1) := by decide +kernel
theorem dL_areSame_13 : decode cL_areSame 13 = .ok (.ireturn, 1) := by decide +kernel
theorem dL_isBalanced_0 : decode cL_isBalanced 0 = .ok (.aload_n 0, 1) := by decide +kernel
theorem dL_isBalanced_1 : decode cL_isBalanced 1 = .ok (.iconst 0, 1) := by decide +kernel
theorem dL_isBalanced_2 : decode cL_isBalanced 2 = .ok (.invokevirtual 15, 3) := by decide +kernel
theorem dL_isBalanced_5 : decode cL_isBalanced 5 = .ok (.aload_n 0, 1) := by decide +kernel
theorem dL_isBalanced_6 : decode cL_isBalanced 6 = .ok (.iconst 1, 1) := by decide +kernel
theorem dL_isBalanced_7 : decode cL_isBalanced 7 = .ok (.invokevirtual 15, 3) := by decide +kernel
theorem dL_isBalanced_10 : decode cL_isBalanced 10 = .ok (.iadd, 1) := by decide +kernel
theorem dL_isBalanced_11 : decode cL_isBalanced 11 = .ok (.aload_n 0, 1) := by decide +kernel
theorem dL_isBalanced_12 : decode cL_isBalanced 12 = .ok (.iconst 2, 1) := by decide +kernel
theorem dL_isBalanced_13 : decode cL_isBalanced 13 = .ok (.invokevirtual 15, 3) := by decide +kernel
theorem dL_isBalanced_16 : decode cL_isBalanced 16 = .ok (.iadd, 1) := by decide +kernel
theorem dL_isBalanced_17 : decode cL_isBalanced 17 = .ok (.aload_n 0, 1) := by decide +kernel
theorem dL_isBalanced_18 : decode cL_isBalanced 18 = .ok (.iconst 4, 1) := by decide +kernel
theorem dL_isBalanced_19 : decode cL_isBalanced 19 = .ok (.invokevirtual 15, 3) := by decide +kernel
theorem dL_isBalanced_22 : decode cL_isBalanced 22 = .ok (.iadd, 1) := by decide +kernel
theorem dL_isBalanced_23 : decode cL_isBalanced 23 = .ok (.sipush 2520, 3) := by decide +kernel
theorem dL_isBalanced_26 : decode cL_isBalanced 26 = .ok (.aload_n 0, 1) := by decide +kernel
theorem dL_isBalanced_27 : decode cL_isBalanced 27 = .ok (.iconst 3, 1) := by decide +kernel
theorem dL_isBalanced_28 : decode cL_isBalanced 28 = .ok (.invokevirtual 15, 3) := by decide +kernel
theorem dL_isBalanced_31 : decode cL_isBalanced 31 = .ok (.iadd, 1) := by decide +kernel
theorem dL_isBalanced_32 : decode cL_isBalanced 32 = .ok (.if_icmp .ne 7, 3) := by decide +kernel
theorem dL_isBalanced_35 : decode cL_isBalanced 35 = .ok (.iconst 1, 1) := by decide +kernel
theorem dL_isBalanced_36 : decode cL_isBalanced 36 = .ok (.goto 4, 3) := by decide +kernel
theorem dL_isBalanced_39 : decode cL_isBalanced 39 = .ok (.iconst 0, 1) := by decide +kernel
theorem dL_isBalanced_40 : decode cL_isBalanced 40 = .ok (.ireturn, 1) := by decide +kernel
theorem dL_areEnded_0 : decode cL_areEnded 0 = .ok (.iconst 0, 1) := by decide +kernel
theorem dL_areEnded_1 : decode cL_areEnded 1 = .ok (.istore 4, 2) := by decide +kernel
theorem dL_areEnded_3 : decode cL_areEnded 3 = .ok (.aload_n 0, 1) := by decide +kernel
theorem dL_areEnded_4 : decode cL_areEnded 4 = .ok (.iload_n 2, 1) := by decide +kernel
theorem dL_areEnded_5 : decode cL_areEnded 5 = .ok (.iconst 0, 1) := by decide +kernel
theorem dL_areEnded_6 : decode cL_areEnded 6 = .ok (.invokevirtual 62, 3) := by decide +kernel
theorem dL_areEnded_9 : decode cL_areEnded 9 = .ok (.sipush (-1005), 3) := by decide +kernel
theorem dL_areEnded_12 : decode cL_areEnded 12 = .ok (.if_icmp .ne 7, 3) := by decide +kernel
theorem dL_areEnded_15 : decode cL_areEnded 15 = .ok (.iconst 1, 1) := by decide +kernel
theorem dL_areEnded_16 : decode cL_areEnded 16 = .ok (.goto 4, 3) := by decide +kernel
theorem dL_areEnded_19 : decode cL_areEnded 19 = .ok (.iconst 0, 1) := by decide +kernel
theorem dL_areEnded_20 : decode cL_areEnded 20 = .ok (.istore 5, 2) := by decide +kernel
theorem dL_areEnded_22 : decode cL_areEnded 22 = .ok (.iconst 0, 1) := by decide +kernel
theorem dL_areEnded_23 : decode cL_areEnded 23 = .ok (.istore 6, 2) := by decide +kernel
theorem dL_areEnded_25 : decode cL_areEnded 25 = .ok (.iload 6, 2) := by decide +kernel
theorem dL_areEnded_27 : decode cL_areEnded 27 = .ok (.iload_n 2, 1) := by decide +kernel
theorem dL_areEnded_28 : decode cL_areEnded 28 = .ok (.if_icmp .ge 99, 3) := by decide +kernel
theorem dL_areEnded_31 : decode cL_areEnded 31 = .ok (.iload 5, 2) := by decide +kernel
theorem dL_areEnded_33 : decode cL_areEnded 33 = .ok (.ifCond .eq 94, 3) := by decide +kernel
theorem dL_areEnded_36 : decode cL_areEnded 36 = .ok (.iload 4, 2) := by decide +kernel
theorem dL_areEnded_38 : decode cL_areEnded 38 = .ok (.aload_n 0, 1) := by decide +kernel
theorem dL_areEnded_39 : decode cL_areEnded 39 = .ok (.iload 6, 2) := by decide +kernel
theorem dL_areEnded_41 : decode cL_areEnded 41 = .ok (.iconst 5, 1) := by decide +kernel
theorem dL_areEnded_42 : decode cL_areEnded 42 = .ok (.invokevirtual 62, 3) := by decide +kernel
theorem dL_areEnded_45 : decode cL_areEnded 45 = .ok (.iadd, 1) := by decide +kernel
theorem dL_areEnded_46 : decode cL_areEnded 46 = .ok (.istore 4, 2) := by decide +kernel
theorem dL_areEnded_48 : decode cL_areEnded 48 = .ok (.aload_n 0, 1) := by decide +kernel
theorem dL_areEnded_49 : decode cL_areEnded 49 = .ok (.iload 6, 2) := by decide +kernel
theorem dL_areEnded_51 : decode cL_areEnded 51 = .ok (.iconst 0, 1) := by decide +kernel
theorem dL_areEnded_52 : decode cL_areEnded 52 = .ok (.invokevirtual 62, 3) := by decide +kernel
theorem dL_areEnded_55 : decode cL_areEnded 55 = .ok (.iconst 3, 1) := by decide +kernel
theorem dL_areEnded_56 : decode cL_areEnded 56 = .ok (.aload_n 1, 1) := by decide +kernel
theorem dL_areEnded_57 : decode cL_areEnded 57 = .ok (.iload 6, 2) := by decide +kernel
theorem dL_areEnded_59 : decode cL_areEnded 59 = .ok (.iconst 0, 1) := by decide +kernel
theorem dL_areEnded_60 : decode cL_areEnded 60 = .ok (.invokevirtual 62, 3) := by decide +kernel
theorem dL_areEnded_63 : decode cL_areEnded 63 = .ok (.isub, 1) := by decide +kernel
theorem dL_areEnded_64 : decode cL_areEnded 64 = .ok (.if_icmp .ne 7, 3) := by decide +kernel
theorem dL_areEnded_67 : decode cL_areEnded 67 = .ok (.iconst 1, 1) := by decide +kernel
theorem dL_areEnded_68 : decode cL_areEnded 68 = .ok (.goto 4, 3) := by decide +kernel
theorem dL_areEnded_71 : decode cL_areEnded 71 = .ok (.iconst 0, 1) := by decide +kernel
theorem dL_areEnded_72 : decode cL_areEnded 72 = .ok (.istore 5, 2) := by decide +kernel
theorem dL_areEnded_74 : decode cL_areEnded 74 = .ok (.iconst 1, 1) := by decide +kernel
theorem dL_areEnded_75 : decode cL_areEnded 75 = .ok (.istore 7, 2) := by decide +kernel
theorem dL_areEnded_77 : decode cL_areEnded 77 = .ok (.iload 7, 2) := by decide +kernel
theorem dL_areEnded_79 : decode cL_areEnded 79 = .ok (.bipush 7, 2) := by decide +kernel
theorem dL_areEnded_81 : decode cL_areEnded 81 = .ok (.if_icmp .ge 40, 3) := by decide +kernel
theorem dL_areEnded_84 : decode cL_areEnded 84 = .ok (.iload 5, 2) := by decide +kernel
theorem dL_areEnded_86 : decode cL_areEnded 86 = .ok (.ifCond .eq 26, 3) := by decide +kernel
theorem dL_areEnded_89 : decode cL_areEnded 89 = .ok (.aload_n 0, 1) := by decide +kernel
theorem dL_areEnded_90 : decode cL_areEnded 90 = .ok (.iload 6, 2) := by decide +kernel
theorem dL_areEnded_92 : decode cL_areEnded 92 = .ok (.iload 7, 2) := by decide +kernel
theorem dL_areEnded_94 : decode cL_areEnded 94 = .ok (.invokevirtual 62, 3) := by decide +kernel
theorem dL_areEnded_97 : decode cL_areEnded 97 = .ok (.aload_n 1, 1) := by decide +kernel
theorem dL_areEnded_98 : decode cL_areEnded 98 = .ok (.iload 6, 2) := by decide +kernel
theorem dL_areEnded_100 : decode cL_areEnded 100 = .ok (.iload 7, 2) := by decide +kernel
theorem dL_areEnded_102 : decode cL_areEnded 102 = .ok (.invokevirtual 62, 3) := by decide +kernel
theorem dL_areEnded_105 : decode cL_areEnded 105 = .ok (.if_icmp .ne 7, 3) := by decide +kernel
theorem dL_areEnded_108 : decode cL_areEnded 108 = .ok (.iconst 1, 1) := by decide +kernel
theorem dL_areEnded_109 : decode cL_areEnded 109 = .ok (.goto 4, 3) := by decide +kernel
theorem dL_areEnded_112 : decode cL_areEnded 112 = .ok (.iconst 0, 1) := by decide +kernel
theorem dL_areEnded_113 : decode cL_areEnded 113 = .ok (.istore 5, 2) := by decide +kernel
theorem dL_areEnded_115 : decode cL_areEnded 115 = .ok (.iinc 7 1, 3) := by decide +kernel
theorem dL_areEnded_118 : decode cL_areEnded 118 = .ok (.goto (-41), 3) := by decide +kernel
theorem dL_areEnded_121 : decode cL_areEnded 121 = .ok (.iinc 6 1, 3) := by decide +kernel
theorem dL_areEnded_124 : decode cL_areEnded 124 = .ok (.goto (-99), 3) := by decide +kernel
theorem dL_areEnded_127 : decode cL_areEnded 127 = .ok (.iload 5, 2) := by decide +kernel
theorem dL_areEnded_129 : decode cL_areEnded 129 = .ok (.ifCond .eq 13, 3) := by decide +kernel
theorem dL_areEnded_132 : decode cL_areEnded 132 = .ok (.iload 4, 2) := by decide +kernel
theorem dL_areEnded_134 : decode cL_areEnded 134 = .ok (.iload_n 3, 1) := by decide +kernel
theorem dL_areEnded_135 : decode cL_areEnded 135 = .ok (.if_icmp .ne 7, 3) := by decide +kernel
theorem dL_areEnded_138 : decode cL_areEnded 138 = .ok (.iconst 1, 1) := by decide +kernel
theorem dL_areEnded_139 : decode cL_areEnded 139 = .ok (.goto 4, 3) := by decide +kernel
theorem dL_areEnded_142 : decode cL_areEnded 142 = .ok (.iconst 0, 1) := by decide +kernel
theorem dL_areEnded_143 : decode cL_areEnded 143 = .ok (.ireturn, 1) := by decide +kernel
theorem dL_areAlike_0 : decode cL_areAlike 0 = .ok (.iconst 1, 1) := by decide +kernel
theorem dL_areAlike_1 : decode cL_areAlike 1 = .ok (.istore_n 3, 1) := by decide +kernel
theorem dL_areAlike_2 : decode cL_areAlike 2 = .ok (.iconst 0, 1) := by decide +kernel
theorem dL_areAlike_3 : decode cL_areAlike 3 = .ok (.istore 4, 2) := by decide +kernel
theorem dL_areAlike_5 : decode cL_areAlike 5 = .ok (.iload 4, 2) := by decide +kernel
theorem dL_areAlike_7 : decode cL_areAlike 7 = .ok (.bipush 19, 2) := by decide +kernel
theorem dL_areAlike_9 : decode cL_areAlike 9 = .ok (.if_icmp .ge 34, 3) := by decide +kernel
theorem dL_areAlike_12 : decode cL_areAlike 12 = .ok (.iload_n 3, 1) := by decide +kernel
theorem dL_areAlike_13 : decode cL_areAlike 13 = .ok (.ifCond .eq 22, 3) := by decide +kernel
theorem dL_areAlike_16 : decode cL_areAlike 16 = .ok (.aload_n 0, 1) := by decide +kernel
theorem dL_areAlike_17 : decode cL_areAlike 17 = .ok (.iload 4, 2) := by decide +kernel
theorem dL_areAlike_19 : decode cL_areAlike 19 = .ok (.invokevirtual 15, 3) := by decide +kernel
theorem dL_areAlike_22 : decode cL_areAlike 22 = .ok (.aload_n 1, 1) := by decide +kernel
theorem dL_areAlike_23 : decode cL_areAlike 23 = .ok (.iload 4, 2) := by decide +kernel
theorem dL_areAlike_25 : decode cL_areAlike 25 = .ok (.invokevirtual 15, 3) := by decide +kernel
theorem dL_areAlike_28 : decode cL_areAlike 28 = .ok (.if_icmp .ne 7, 3) := by decide +kernel
theorem dL_areAlike_31 : decode cL_areAlike 31 = .ok (.iconst 1, 1) := by decide +kernel
theorem dL_areAlike_32 : decode cL_areAlike 32 = .ok (.goto 4, 3) := by decide +kernel
theorem dL_areAlike_35 : decode cL_areAlike 35 = .ok (.iconst 0, 1) := by decide +kernel
theorem dL_areAlike_36 : decode cL_areAlike 36 = .ok (.istore_n 3, 1) := by decide +kernel
theorem dL_areAlike_37 : decode cL_areAlike 37 = .ok (.iinc 4 1, 3) := by decide +kernel
theorem dL_areAlike_40 : decode cL_areAlike 40 = .ok (.goto (-35), 3) := by decide +kernel
theorem dL_areAlike_43 : decode cL_areAlike 43 = .ok (.iconst 0, 1) := by decide +kernel
theorem dL_areAlike_44 : decode cL_areAlike 44 = .ok (.istore 4, 2) := by decide +kernel
theorem dL_areAlike_46 : decode cL_areAlike 46 = .ok (.iload 4, 2) := by decide +kernel
theorem dL_areAlike_48 : decode cL_areAlike 48 = .ok (.iconst 4, 1) := by decide +kernel
theorem dL_areAlike_49 : decode cL_areAlike 49 = .ok (.if_icmp .ge 221, 3) := by decide +kernel
theorem dL_areAlike_52 : decode cL_areAlike 52 = .ok (.iload_n 3, 1) := by decide +kernel
theorem dL_areAlike_53 : decode cL_areAlike 53 = .ok (.ifCond .eq 217, 3) := by decide +kernel
theorem dL_areAlike_56 : decode cL_areAlike 56 = .ok (.iconst 0, 1) := by decide +kernel
theorem dL_areAlike_57 : decode cL_areAlike 57 = .ok (.istore 5, 2) := by decide +kernel
theorem dL_areAlike_59 : decode cL_areAlike 59 = .ok (.iload 5, 2) := by decide +kernel
theorem dL_areAlike_61 : decode cL_areAlike 61 = .ok (.bipush 7, 2) := by decide +kernel
theorem dL_areAlike_63 : decode cL_areAlike 63 = .ok (.if_icmp .ge 40, 3) := by decide +kernel
theorem dL_areAlike_66 : decode cL_areAlike 66 = .ok (.iload_n 3, 1) := by decide +kernel
theorem dL_areAlike_67 : decode cL_areAlike 67 = .ok (.ifCond .eq 28, 3) := by decide +kernel
theorem dL_areAlike_70 : decode cL_areAlike 70 = .ok (.aload_n 0, 1) := by decide +kernel
theorem dL_areAlike_71 : decode cL_areAlike 71 = .ok (.iload 4, 2) := by decide +kernel
theorem dL_areAlike_73 : decode cL_areAlike 73 = .ok (.iload 5, 2) := by decide +kernel
theorem dL_areAlike_75 : decode cL_areAlike 75 = .ok (.invokevirtual 65, 3) := by decide +kernel
theorem dL_areAlike_78 : decode cL_areAlike 78 = .ok (.aload_n 1, 1) := by decide +kernel
theorem dL_areAlike_79 : decode cL_areAlike 79 = .ok (.iconst 3, 1) := by decide +kernel
theorem dL_areAlike_80 : decode cL_areAlike 80 = .ok (.iload 4, 2) := by decide +kernel
theorem dL_areAlike_82 : decode cL_areAlike 82 = .ok (.isub, 1) := by decide +kernel
theorem dL_areAlike_83 : decode cL_areAlike 83 = .ok (.iload 5, 2) := by decide +kernel
theorem dL_areAlike_85 : decode cL_areAlike 85 = .ok (.invokevirtual 65, 3) := by decide +kernel
theorem dL_areAlike_88 : decode cL_areAlike 88 = .ok (.if_icmp .ne 7, 3) := by decide +kernel
theorem dL_areAlike_91 : decode cL_areAlike 91 = .ok (.iconst 1, 1) := by decide +kernel
theorem dL_areAlike_92 : decode cL_areAlike 92 = .ok (.goto 4, 3) := by decide +kernel
theorem dL_areAlike_95 : decode cL_areAlike 95 = .ok (.iconst 0, 1) := by decide +kernel
theorem dL_areAlike_96 : decode cL_areAlike 96 = .ok (.istore_n 3, 1) := by decide +kernel
theorem dL_areAlike_97 : decode cL_areAlike 97 = .ok (.iinc 5 1, 3) := by decide +kernel
theorem dL_areAlike_100 : decode cL_areAlike 100 = .ok (.goto (-41), 3) := by decide +kernel
theorem dL_areAlike_103 : decode cL_areAlike 103 = .ok (.iconst 0, 1) := by decide +kernel
theorem dL_areAlike_104 : decode cL_areAlike 104 = .ok (.istore 5, 2) := by decide +kernel
theorem dL_areAlike_106 : decode cL_areAlike 106 = .ok (.iload 5, 2) := by decide +kernel
theorem dL_areAlike_108 : decode cL_areAlike 108 = .ok (.bipush 20, 2) := by decide +kernel
theorem dL_areAlike_110 : decode cL_areAlike 110 = .ok (.if_icmp .ge 88, 3) := by decide +kernel
theorem dL_areAlike_113 : decode cL_areAlike 113 = .ok (.iload_n 3, 1) := by decide +kernel
theorem dL_areAlike_114 : decode cL_areAlike 114 = .ok (.ifCond .eq 76, 3) := by decide +kernel
theorem dL_areAlike_117 : decode cL_areAlike 117 = .ok (.aload_n 0, 1) := by decide +kernel
theorem dL_areAlike_118 : decode cL_areAlike 118 = .ok (.iload 4, 2) := by decide +kernel
theorem dL_areAlike_120 : decode cL_areAlike 120 = .ok (.iload 5, 2) := by decide +kernel
theorem dL_areAlike_122 : decode cL_areAlike 122 = .ok (.iconst 0, 1) := by decide +kernel
theorem dL_areAlike_123 : decode cL_areAlike 123 = .ok (.invokevirtual 35, 3) := by decide +kernel
theorem dL_areAlike_126 : decode cL_areAlike 126 = .ok (.aload_n 1, 1) := by decide +kernel
theorem dL_areAlike_127 : decode cL_areAlike 127 = .ok (.iconst 3, 1) := by decide +kernel
theorem dL_areAlike_128 : decode cL_areAlike 128 = .ok (.iload 4, 2) := by decide +kernel
theorem dL_areAlike_130 : decode cL_areAlike 130 = .ok (.isub, 1) := by decide +kernel
theorem dL_areAlike_131 : decode cL_areAlike 131 = .ok (.iload 5, 2) := by decide +kernel
theorem dL_areAlike_133 : decode cL_areAlike 133 = .ok (.iconst 0, 1) := by decide +kernel
theorem dL_areAlike_134 : decode cL_areAlike 134 = .ok (.invokevirtual 35, 3) := by decide +kernel
theorem dL_areAlike_137 : decode cL_areAlike 137 = .ok (.if_icmp .ne 53, 3) := by decide +kernel
theorem dL_areAlike_140 : decode cL_areAlike 140 = .ok (.aload_n 0, 1) := by decide +kernel
theorem dL_areAlike_141 : decode cL_areAlike 141 = .ok (.iload 4, 2) := by decide +kernel
theorem dL_areAlike_143 : decode cL_areAlike 143 = .ok (.iload 5, 2) := by decide +kernel
theorem dL_areAlike_145 : decode cL_areAlike 145 = .ok (.iconst 2, 1) := by decide +kernel
theorem dL_areAlike_146 : decode cL_areAlike 146 = .ok (.invokevirtual 35, 3) := by decide +kernel
theorem dL_areAlike_149 : decode cL_areAlike 149 = .ok (.aload_n 1, 1) := by decide +kernel
theorem dL_areAlike_150 : decode cL_areAlike 150 = .ok (.iconst 3, 1) := by decide +kernel
theorem dL_areAlike_151 : decode cL_areAlike 151 = .ok (.iload 4, 2) := by decide +kernel
theorem dL_areAlike_153 : decode cL_areAlike 153 = .ok (.isub, 1) := by decide +kernel
theorem dL_areAlike_154 : decode cL_areAlike 154 = .ok (.iload 5, 2) := by decide +kernel
theorem dL_areAlike_156 : decode cL_areAlike 156 = .ok (.iconst 2, 1) := by decide +kernel
theorem dL_areAlike_157 : decode cL_areAlike 157 = .ok (.invokevirtual 35, 3) := by decide +kernel
theorem dL_areAlike_160 : decode cL_areAlike 160 = .ok (.if_icmp .ne 30, 3) := by decide +kernel
theorem dL_areAlike_163 : decode cL_areAlike 163 = .ok (.aload_n 0, 1) := by decide +kernel
theorem dL_areAlike_164 : decode cL_areAlike 164 = .ok (.iload 4, 2) := by decide +kernel
theorem dL_areAlike_166 : decode cL_areAlike 166 = .ok (.iload 5, 2) := by decide +kernel
theorem dL_areAlike_168 : decode cL_areAlike 168 = .ok (.iconst 3, 1) := by decide +kernel
theorem dL_areAlike_169 : decode cL_areAlike 169 = .ok (.invokevirtual 35, 3) := by decide +kernel
theorem dL_areAlike_172 : decode cL_areAlike 172 = .ok (.aload_n 1, 1) := by decide +kernel
theorem dL_areAlike_173 : decode cL_areAlike 173 = .ok (.iconst 3, 1) := by decide +kernel
theorem dL_areAlike_174 : decode cL_areAlike 174 = .ok (.iload 4, 2) := by decide +kernel
theorem dL_areAlike_176 : decode cL_areAlike 176 = .ok (.isub, 1) := by decide +kernel
theorem dL_areAlike_177 : decode cL_areAlike 177 = .ok (.iload 5, 2) := by decide +kernel
theorem dL_areAlike_179 : decode cL_areAlike 179 = .ok (.iconst 3, 1) := by decide +kernel
theorem dL_areAlike_180 : decode cL_areAlike 180 = .ok (.invokevirtual 35, 3) := by decide +kernel
theorem dL_areAlike_183 : decode cL_areAlike 183 = .ok (.if_icmp .ne 7, 3) := by decide +kernel
theorem dL_areAlike_186 : decode cL_areAlike 186 = .ok (.iconst 1, 1) := by decide +kernel
theorem dL_areAlike_187 : decode cL_areAlike 187 = .ok (.goto 4, 3) := by decide +kernel
theorem dL_areAlike_190 : decode cL_areAlike 190 = .ok (.iconst 0, 1) := by decide +kernel
theorem dL_areAlike_191 : decode cL_areAlike 191 = .ok (.istore_n 3, 1) := by decide +kernel
theorem dL_areAlike_192 : decode cL_areAlike 192 = .ok (.iinc 5 1, 3) := by decide +kernel
theorem dL_areAlike_195 : decode cL_areAlike 195 = .ok (.goto (-89), 3) := by decide +kernel
theorem dL_areAlike_198 : decode cL_areAlike 198 = .ok (.iconst 1, 1) := by decide +kernel
theorem dL_areAlike_199 : decode cL_areAlike 199 = .ok (.iload_n 2, 1) := by decide +kernel
theorem dL_areAlike_200 : decode cL_areAlike 200 = .ok (.iconst 3, 1) := by decide +kernel
theorem dL_areAlike_201 : decode cL_areAlike 201 = .ok (.iload 4, 2) := by decide +kernel
theorem dL_areAlike_203 : decode cL_areAlike 203 = .ok (.imul, 1) := by decide +kernel
theorem dL_areAlike_204 : decode cL_areAlike 204 = .ok (.ishr, 1) := by decide +kernel
theorem dL_areAlike_205 : decode cL_areAlike 205 = .ok (.bipush 20, 2) := by decide +kernel
theorem dL_areAlike_207 : decode cL_areAlike 207 = .ok (.invokestatic 9, 3) := by decide +kernel
theorem dL_areAlike_210 : decode cL_areAlike 210 = .ok (.iadd, 1) := by decide +kernel
theorem dL_areAlike_211 : decode cL_areAlike 211 = .ok (.istore 5, 2) := by decide +kernel
theorem dL_areAlike_213 : decode cL_areAlike 213 = .ok (.iconst 2, 1) := by decide +kernel
theorem dL_areAlike_214 : decode cL_areAlike 214 = .ok (.istore 6, 2) := by decide +kernel
theorem dL_areAlike_216 : decode cL_areAlike 216 = .ok (.iload 6, 2) := by decide +kernel
theorem dL_areAlike_218 : decode cL_areAlike 218 = .ok (.bipush 7, 2) := by decide +kernel
theorem dL_areAlike_220 : decode cL_areAlike 220 = .ok (.if_icmp .ge 44, 3) := by decide +kernel
theorem dL_areAlike_223 : decode cL_areAlike 223 = .ok (.iload_n 3, 1) := by decide +kernel
theorem dL_areAlike_224 : decode cL_areAlike 224 = .ok (.ifCond .eq 32, 3) := by decide +kernel
theorem dL_areAlike_227 : decode cL_areAlike 227 = .ok (.aload_n 0, 1) := by decide +kernel
theorem dL_areAlike_228 : decode cL_areAlike 228 = .ok (.iload 4, 2) := by decide +kernel
theorem dL_areAlike_230 : decode cL_areAlike 230 = .ok (.iload 5, 2) := by decide +kernel
theorem dL_areAlike_232 : decode cL_areAlike 232 = .ok (.iload 6, 2) := by decide +kernel
theorem dL_areAlike_234 : decode cL_areAlike 234 = .ok (.invokevirtual 68, 3) := by decide +kernel
theorem dL_areAlike_237 : decode cL_areAlike 237 = .ok (.aload_n 1, 1) := by decide +kernel
theorem dL_areAlike_238 : decode cL_areAlike 238 = .ok (.iconst 3, 1) := by decide +kernel
theorem dL_areAlike_239 : decode cL_areAlike 239 = .ok (.iload 4, 2) := by decide +kernel
theorem dL_areAlike_241 : decode cL_areAlike 241 = .ok (.isub, 1) := by decide +kernel
theorem dL_areAlike_242 : decode cL_areAlike 242 = .ok (.iload 5, 2) := by decide +kernel
theorem dL_areAlike_244 : decode cL_areAlike 244 = .ok (.iload 6, 2) := by decide +kernel
theorem dL_areAlike_246 : decode cL_areAlike 246 = .ok (.invokevirtual 68, 3) := by decide +kernel
theorem dL_areAlike_249 : decode cL_areAlike 249 = .ok (.if_icmp .ne 7, 3) := by decide +kernel
theorem dL_areAlike_252 : decode cL_areAlike 252 = .ok (.iconst 1, 1) := by decide +kernel
theorem dL_areAlike_253 : decode cL_areAlike 253 = .ok (.goto 4, 3) := by decide +kernel
theorem dL_areAlike_256 : decode cL_areAlike 256 = .ok (.iconst 0, 1) := by decide +kernel
theorem dL_areAlike_257 : decode cL_areAlike 257 = .ok (.istore_n 3, 1) := by decide +kernel
theorem dL_areAlike_258 : decode cL_areAlike 258 = .ok (.iinc 6 1, 3) := by decide +kernel
theorem dL_areAlike_261 : decode cL_areAlike 261 = .ok (.goto (-45), 3) := by decide +kernel
theorem dL_areAlike_264 : decode cL_areAlike 264 = .ok (.iinc 4 1, 3) := by decide +kernel
theorem dL_areAlike_267 : decode cL_areAlike 267 = .ok (.goto (-221), 3) := by decide +kernel
theorem dL_areAlike_270 : decode cL_areAlike 270 = .ok (.iconst 0, 1) := by decide +kernel
theorem dL_areAlike_271 : decode cL_areAlike 271 = .ok (.istore 4, 2) := by decide +kernel
theorem dL_areAlike_273 : decode cL_areAlike 273 = .ok (.iload 4, 2) := by decide +kernel
theorem dL_areAlike_275 : decode cL_areAlike 275 = .ok (.aload_n 0, 1) := by decide +kernel
theorem dL_areAlike_276 : decode cL_areAlike 276 = .ok (.bipush 9, 2) := by decide +kernel
theorem dL_areAlike_278 : decode cL_areAlike 278 = .ok (.invokevirtual 15, 3) := by decide +kernel
theorem dL_areAlike_281 : decode cL_areAlike 281 = .ok (.if_icmp .ge 55, 3) := by decide +kernel
theorem dL_areAlike_284 : decode cL_areAlike 284 = .ok (.iload_n 3, 1) := by decide +kernel
theorem dL_areAlike_285 : decode cL_areAlike 285 = .ok (.ifCond .eq 43, 3) := by decide +kernel
theorem dL_areAlike_288 : decode cL_areAlike 288 = .ok (.aload_n 0, 1) := by decide +kernel
theorem dL_areAlike_289 : decode cL_areAlike 289 = .ok (.iload 4, 2) := by decide +kernel
theorem dL_areAlike_291 : decode cL_areAlike 291 = .ok (.iconst 0, 1) := by decide +kernel
theorem dL_areAlike_292 : decode cL_areAlike 292 = .ok (.invokevirtual 71, 3) := by decide +kernel
theorem dL_areAlike_295 : decode cL_areAlike 295 = .ok (.iconst 3, 1) := by decide +kernel
theorem dL_areAlike_296 : decode cL_areAlike 296 = .ok (.aload_n 1, 1) := by decide +kernel
theorem dL_areAlike_297 : decode cL_areAlike 297 = .ok (.iload 4, 2) := by decide +kernel
theorem dL_areAlike_299 : decode cL_areAlike 299 = .ok (.iconst 0, 1) := by decide +kernel
theorem dL_areAlike_300 : decode cL_areAlike 300 = .ok (.invokevirtual 71, 3) := by decide +kernel
theorem dL_areAlike_303 : decode cL_areAlike 303 = .ok (.isub, 1) := by decide +kernel
theorem dL_areAlike_304 : decode cL_areAlike 304 = .ok (.if_icmp .ne 24, 3) := by decide +kernel
theorem dL_areAlike_307 : decode cL_areAlike 307 = .ok (.aload_n 0, 1) := by decide +kernel
theorem dL_areAlike_308 : decode cL_areAlike 308 = .ok (.iload 4, 2) := by decide +kernel
theorem dL_areAlike_310 : decode cL_areAlike 310 = .ok (.iconst 1, 1) := by decide +kernel
theorem dL_areAlike_311 : decode cL_areAlike 311 = .ok (.invokevirtual 71, 3) := by decide +kernel
theorem dL_areAlike_314 : decode cL_areAlike 314 = .ok (.aload_n 1, 1) := by decide +kernel
theorem dL_areAlike_315 : decode cL_areAlike 315 = .ok (.iload 4, 2) := by decide +kernel
theorem dL_areAlike_317 : decode cL_areAlike 317 = .ok (.iconst 1, 1) := by decide +kernel
theorem dL_areAlike_318 : decode cL_areAlike 318 = .ok (.invokevirtual 71, 3) := by decide +kernel
theorem dL_areAlike_321 : decode cL_areAlike 321 = .ok (.if_icmp .ne 7, 3) := by decide +kernel
theorem dL_areAlike_324 : decode cL_areAlike 324 = .ok (.iconst 1, 1) := by decide +kernel
theorem dL_areAlike_325 : decode cL_areAlike 325 = .ok (.goto 4, 3) := by decide +kernel
theorem dL_areAlike_328 : decode cL_areAlike 328 = .ok (.iconst 0, 1) := by decide +kernel
theorem dL_areAlike_329 : decode cL_areAlike 329 = .ok (.istore_n 3, 1) := by decide +kernel
theorem dL_areAlike_330 : decode cL_areAlike 330 = .ok (.iinc 4 1, 3) := by decide +kernel
theorem dL_areAlike_333 : decode cL_areAlike 333 = .ok (.goto (-60), 3) := by decide +kernel
theorem dL_areAlike_336 : decode cL_areAlike 336 = .ok (.iload_n 3, 1) := by decide +kernel
theorem dL_areAlike_337 : decode cL_areAlike 337 = .ok (.ifCond .eq 24, 3) := by decide +kernel
theorem dL_areAlike_340 : decode cL_areAlike 340 = .ok (.aload_n 0, 1) := by decide +kernel
theorem dL_areAlike_341 : decode cL_areAlike 341 = .ok (.iconst 3, 1) := by decide +kernel
theorem dL_areAlike_342 : decode cL_areAlike 342 = .ok (.bipush 11, 2) := by decide +kernel
theorem dL_areAlike_344 : decode cL_areAlike 344 = .ok (.invokevirtual 75, 3) := by decide +kernel
theorem dL_areAlike_347 : decode cL_areAlike 347 = .ok (.aload_n 1, 1) := by decide +kernel
theorem dL_areAlike_348 : decode cL_areAlike 348 = .ok (.iconst 3, 1) := by decide +kernel
theorem dL_areAlike_349 : decode cL_areAlike 349 = .ok (.bipush 11, 2) := by decide +kernel
theorem dL_areAlike_351 : decode cL_areAlike 351 = .ok (.invokevirtual 75, 3) := by decide +kernel
theorem dL_areAlike_354 : decode cL_areAlike 354 = .ok (.if_icmp .ne 7, 3) := by decide +kernel
theorem dL_areAlike_357 : decode cL_areAlike 357 = .ok (.iconst 1, 1) := by decide +kernel
theorem dL_areAlike_358 : decode cL_areAlike 358 = .ok (.goto 4, 3) := by decide +kernel
theorem dL_areAlike_361 : decode cL_areAlike 361 = .ok (.iconst 0, 1) := by decide +kernel
theorem dL_areAlike_362 : decode cL_areAlike 362 = .ok (.ireturn, 1) := by decide +kernel
theorem dL_isWell_0 : decode cL_isWell 0 = .ok (.iconst 0, 1) := by decide +kernel
theorem dL_isWell_1 : decode cL_isWell 1 = .ok (.istore_n 1, 1) := by decide +kernel
theorem dL_isWell_2 : decode cL_isWell 2 = .ok (.iconst 0, 1) := by decide +kernel
theorem dL_isWell_3 : decode cL_isWell 3 = .ok (.istore_n 2, 1) := by decide +kernel
theorem dL_isWell_4 : decode cL_isWell 4 = .ok (.iconst 0, 1) := by decide +kernel
theorem dL_isWell_5 : decode cL_isWell 5 = .ok (.istore_n 3, 1) := by decide +kernel
theorem dL_isWell_6 : decode cL_isWell 6 = .ok (.iconst 0, 1) := by decide +kernel
theorem dL_isWell_7 : decode cL_isWell 7 = .ok (.istore 4, 2) := by decide +kernel
theorem dL_isWell_9 : decode cL_isWell 9 = .ok (.iconst 1, 1) := by decide +kernel
theorem dL_isWell_10 : decode cL_isWell 10 = .ok (.istore 5, 2) := by decide +kernel
theorem dL_isWell_12 : decode cL_isWell 12 = .ok (.iconst 0, 1) := by decide +kernel
theorem dL_isWell_13 : decode cL_isWell 13 = .ok (.istore 6, 2) := by decide +kernel
theorem dL_isWell_15 : decode cL_isWell 15 = .ok (.iload 6, 2) := by decide +kernel
theorem dL_isWell_17 : decode cL_isWell 17 = .ok (.iconst 4, 1) := by decide +kernel
theorem dL_isWell_18 : decode cL_isWell 18 = .ok (.if_icmp .ge 508, 3) := by decide +kernel
theorem dL_isWell_21 : decode cL_isWell 21 = .ok (.iload 5, 2) := by decide +kernel
theorem dL_isWell_23 : decode cL_isWell 23 = .ok (.ifCond .eq 503, 3) := by decide +kernel
theorem dL_isWell_26 : decode cL_isWell 26 = .ok (.iconst 0, 1) := by decide +kernel
theorem dL_isWell_27 : decode cL_isWell 27 = .ok (.istore 7, 2) := by decide +kernel
theorem dL_isWell_29 : decode cL_isWell 29 = .ok (.sipush (-1005), 3) := by decide +kernel
theorem dL_isWell_32 : decode cL_isWell 32 = .ok (.istore 8, 2) := by decide +kernel
theorem dL_isWell_34 : decode cL_isWell 34 = .ok (.iconst 0, 1) := by decide +kernel
theorem dL_isWell_35 : decode cL_isWell 35 = .ok (.istore 9, 2) := by decide +kernel
theorem dL_isWell_37 : decode cL_isWell 37 = .ok (.iload 9, 2) := by decide +kernel
theorem dL_isWell_39 : decode cL_isWell 39 = .ok (.bipush 20, 2) := by decide +kernel
theorem dL_isWell_41 : decode cL_isWell 41 = .ok (.if_icmp .ge 401, 3) := by decide +kernel
theorem dL_isWell_44 : decode cL_isWell 44 = .ok (.iload 5, 2) := by decide +kernel
theorem dL_isWell_46 : decode cL_isWell 46 = .ok (.ifCond .eq 396, 3) := by decide +kernel
theorem dL_isWell_49 : decode cL_isWell 49 = .ok (.aload_n 0, 1) := by decide +kernel
theorem dL_isWell_50 : decode cL_isWell 50 = .ok (.iload 6, 2) := by decide +kernel
theorem dL_isWell_52 : decode cL_isWell 52 = .ok (.iload 9, 2) := by decide +kernel
theorem dL_isWell_54 : decode cL_isWell 54 = .ok (.iconst 0, 1) := by decide +kernel
theorem dL_isWell_55 : decode cL_isWell 55 = .ok (.invokevirtual 35, 3) := by decide +kernel
theorem dL_isWell_58 : decode cL_isWell 58 = .ok (.istore 10, 2) := by decide +kernel
theorem dL_isWell_60 : decode cL_isWell 60 = .ok (.aload_n 0, 1) := by decide +kernel
theorem dL_isWell_61 : decode cL_isWell 61 = .ok (.iload 6, 2) := by decide +kernel
theorem dL_isWell_63 : decode cL_isWell 63 = .ok (.iload 9, 2) := by decide +kernel
theorem dL_isWell_65 : decode cL_isWell 65 = .ok (.iconst 2, 1) := by decide +kernel
theorem dL_isWell_66 : decode cL_isWell 66 = .ok (.invokevirtual 35, 3) := by decide +kernel
theorem dL_isWell_69 : decode cL_isWell 69 = .ok (.iconst 1, 1) := by decide +kernel
theorem dL_isWell_70 : decode cL_isWell 70 = .ok (.if_icmp .ne 7, 3) := by decide +kernel
theorem dL_isWell_73 : decode cL_isWell 73 = .ok (.iconst 1, 1) := by decide +kernel
theorem dL_isWell_74 : decode cL_isWell 74 = .ok (.goto 4, 3) := by decide +kernel
theorem dL_isWell_77 : decode cL_isWell 77 = .ok (.iconst 0, 1) := by decide +kernel
theorem dL_isWell_78 : decode cL_isWell 78 = .ok (.istore 11, 2) := by decide +kernel
theorem dL_isWell_80 : decode cL_isWell 80 = .ok (.aload_n 0, 1) := by decide +kernel
theorem dL_isWell_81 : decode cL_isWell 81 = .ok (.iload 6, 2) := by decide +kernel
theorem dL_isWell_83 : decode cL_isWell 83 = .ok (.iload 9, 2) := by decide +kernel
theorem dL_isWell_85 : decode cL_isWell 85 = .ok (.iconst 3, 1) := by decide +kernel
theorem dL_isWell_86 : decode cL_isWell 86 = .ok (.invokevirtual 35, 3) := by decide +kernel
theorem dL_isWell_89 : decode cL_isWell 89 = .ok (.iconst 1, 1) := by decide +kernel
theorem dL_isWell_90 : decode cL_isWell 90 = .ok (.if_icmp .ne 7, 3) := by decide +kernel
theorem dL_isWell_93 : decode cL_isWell 93 = .ok (.iconst 1, 1) := by decide +kernel
theorem dL_isWell_94 : decode cL_isWell 94 = .ok (.goto 4, 3) := by decide +kernel
theorem dL_isWell_97 : decode cL_isWell 97 = .ok (.iconst 0, 1) := by decide +kernel
theorem dL_isWell_98 : decode cL_isWell 98 = .ok (.istore 12, 2) := by decide +kernel
theorem dL_isWell_100 : decode cL_isWell 100 = .ok (.aload_n 0, 1) := by decide +kernel
theorem dL_isWell_101 : decode cL_isWell 101 = .ok (.iload 6, 2) := by decide +kernel
theorem dL_isWell_103 : decode cL_isWell 103 = .ok (.iload 9, 2) := by decide +kernel
theorem dL_isWell_105 : decode cL_isWell 105 = .ok (.iconst 1, 1) := by decide +kernel
theorem dL_isWell_106 : decode cL_isWell 106 = .ok (.invokevirtual 35, 3) := by decide +kernel
theorem dL_isWell_109 : decode cL_isWell 109 = .ok (.ifCond .gt 7, 3) := by decide +kernel
theorem dL_isWell_112 : decode cL_isWell 112 = .ok (.iconst 1, 1) := by decide +kernel
theorem dL_isWell_113 : decode cL_isWell 113 = .ok (.goto 4, 3) := by decide +kernel
theorem dL_isWell_116 : decode cL_isWell 116 = .ok (.iconst 0, 1) := by decide +kernel
theorem dL_isWell_117 : decode cL_isWell 117 = .ok (.istore 13, 2) := by decide +kernel
theorem dL_isWell_119 : decode cL_isWell 119 = .ok (.iload 6, 2) := by decide +kernel
theorem dL_isWell_121 : decode cL_isWell 121 = .ok (.ifCond .le 41, 3) := by decide +kernel
theorem dL_isWell_124 : decode cL_isWell 124 = .ok (.aload_n 0, 1) := by decide +kernel
theorem dL_isWell_125 : decode cL_isWell 125 = .ok (.iload 6, 2) := by decide +kernel
theorem dL_isWell_127 : decode cL_isWell 127 = .ok (.iconst 1, 1) := by decide +kernel
theorem dL_isWell_128 : decode cL_isWell 128 = .ok (.isub, 1) := by decide +kernel
theorem dL_isWell_129 : decode cL_isWell 129 = .ok (.iload 9, 2) := by decide +kernel
theorem dL_isWell_131 : decode cL_isWell 131 = .ok (.iconst 2, 1) := by decide +kernel
theorem dL_isWell_132 : decode cL_isWell 132 = .ok (.invokevirtual 35, 3) := by decide +kernel
theorem dL_isWell_135 : decode cL_isWell 135 = .ok (.iconst 1, 1) := by decide +kernel
theorem dL_isWell_136 : decode cL_isWell 136 = .ok (.if_icmp .ne 26, 3) := by decide +kernel
theorem dL_isWell_139 : decode cL_isWell 139 = .ok (.aload_n 0, 1) := by decide +kernel
theorem dL_isWell_140 : decode cL_isWell 140 = .ok (.iload 6, 2) := by decide +kernel
theorem dL_isWell_142 : decode cL_isWell 142 = .ok (.iconst 1, 1) := by decide +kernel
theorem dL_isWell_143 : decode cL_isWell 143 = .ok (.isub, 1) := by decide +kernel
theorem dL_isWell_144 : decode cL_isWell 144 = .ok (.iload 9, 2) := by decide +kernel
theorem dL_isWell_146 : decode cL_isWell 146 = .ok (.iconst 0, 1) := by decide +kernel
theorem dL_isWell_147 : decode cL_isWell 147 = .ok (.invokevirtual 35, 3) := by decide +kernel
theorem dL_isWell_150 : decode cL_isWell 150 = .ok (.iload 10, 2) := by decide +kernel
theorem dL_isWell_152 : decode cL_isWell 152 = .ok (.isub, 1) := by decide +kernel
theorem dL_isWell_153 : decode cL_isWell 153 = .ok (.aload_n 0, 1) := by decide +kernel
theorem dL_isWell_154 : decode cL_isWell 154 = .ok (.bipush 13, 2) := by decide +kernel
theorem dL_isWell_156 : decode cL_isWell 156 = .ok (.invokevirtual 15, 3) := by decide +kernel
theorem dL_isWell_159 : decode cL_isWell 159 = .ok (.if_icmp .ge 47, 3) := by decide +kernel
theorem dL_isWell_162 : decode cL_isWell 162 = .ok (.iload 6, 2) := by decide +kernel
theorem dL_isWell_164 : decode cL_isWell 164 = .ok (.iconst 3, 1) := by decide +kernel
theorem dL_isWell_165 : decode cL_isWell 165 = .ok (.if_icmp .ge 45, 3) := by decide +kernel
theorem dL_isWell_168 : decode cL_isWell 168 = .ok (.aload_n 0, 1) := by decide +kernel
theorem dL_isWell_169 : decode cL_isWell 169 = .ok (.iload 6, 2) := by decide +kernel
theorem dL_isWell_171 : decode cL_isWell 171 = .ok (.iconst 1, 1) := by decide +kernel
theorem dL_isWell_172 : decode cL_isWell 172 = .ok (.iadd, 1) := by decide +kernel
theorem dL_isWell_173 : decode cL_isWell 173 = .ok (.iload 9, 2) := by decide +kernel
theorem dL_isWell_175 : decode cL_isWell 175 = .ok (.iconst 2, 1) := by decide +kernel
theorem dL_isWell_176 : decode cL_isWell 176 = .ok (.invokevirtual 35, 3) := by decide +kernel
theorem dL_isWell_179 : decode cL_isWell 179 = .ok (.iconst 1, 1) := by decide +kernel
theorem dL_isWell_180 : decode cL_isWell 180 = .ok (.if_icmp .ne 30, 3) := by decide +kernel
theorem dL_isWell_183 : decode cL_isWell 183 = .ok (.aload_n 0, 1) := by decide +kernel
theorem dL_isWell_184 : decode cL_isWell 184 = .ok (.iload 6, 2) := by decide +kernel
theorem dL_isWell_186 : decode cL_isWell 186 = .ok (.iconst 1, 1) := by decide +kernel
theorem dL_isWell_187 : decode cL_isWell 187 = .ok (.iadd, 1) := by decide +kernel
theorem dL_isWell_188 : decode cL_isWell 188 = .ok (.iload 9, 2) := by decide +kernel
theorem dL_isWell_190 : decode cL_isWell 190 = .ok (.iconst 0, 1) := by decide +kernel
theorem dL_isWell_191 : decode cL_isWell 191 = .ok (.invokevirtual 35, 3) := by decide +kernel
theorem dL_isWell_194 : decode cL_isWell 194 = .ok (.iload 10, 2) := by decide +kernel
theorem dL_isWell_196 : decode cL_isWell 196 = .ok (.isub, 1) := by decide +kernel
theorem dL_isWell_197 : decode cL_isWell 197 = .ok (.aload_n 0, 1) := by decide +kernel
theorem dL_isWell_198 : decode cL_isWell 198 = .ok (.bipush 13, 2) := by decide +kernel
theorem dL_isWell_200 : decode cL_isWell 200 = .ok (.invokevirtual 15, 3) := by decide +kernel
theorem dL_isWell_203 : decode cL_isWell 203 = .ok (.if_icmp .lt 7, 3) := by decide +kernel
theorem dL_isWell_206 : decode cL_isWell 206 = .ok (.iconst 1, 1) := by decide +kernel
theorem dL_isWell_207 : decode cL_isWell 207 = .ok (.goto 4, 3) := by decide +kernel
theorem dL_isWell_210 : decode cL_isWell 210 = .ok (.iconst 0, 1) := by decide +kernel
theorem dL_isWell_211 : decode cL_isWell 211 = .ok (.istore 14, 2) := by decide +kernel
theorem dL_isWell_213 : decode cL_isWell 213 = .ok (.iload 7, 2) := by decide +kernel
theorem dL_isWell_215 : decode cL_isWell 215 = .ok (.iload 10, 2) := by decide +kernel
theorem dL_isWell_217 : decode cL_isWell 217 = .ok (.iadd, 1) := by decide +kernel
theorem dL_isWell_218 : decode cL_isWell 218 = .ok (.istore 7, 2) := by decide +kernel
theorem dL_isWell_220 : decode cL_isWell 220 = .ok (.iload_n 2, 1) := by decide +kernel
theorem dL_isWell_221 : decode cL_isWell 221 = .ok (.iload 11, 2) := by decide +kernel
theorem dL_isWell_223 : decode cL_isWell 223 = .ok (.ifCond .eq 7, 3) := by decide +kernel
theorem dL_isWell_226 : decode cL_isWell 226 = .ok (.iconst 1, 1) := by decide +kernel
theorem dL_isWell_227 : decode cL_isWell 227 = .ok (.goto 4, 3) := by decide +kernel
theorem dL_isWell_230 : decode cL_isWell 230 = .ok (.iconst 0, 1) := by decide +kernel
theorem dL_isWell_231 : decode cL_isWell 231 = .ok (.iadd, 1) := by decide +kernel
theorem dL_isWell_232 : decode cL_isWell 232 = .ok (.istore_n 2, 1) := by decide +kernel
theorem dL_isWell_233 : decode cL_isWell 233 = .ok (.iload_n 3, 1) := by decide +kernel
theorem dL_isWell_234 : decode cL_isWell 234 = .ok (.iload 12, 2) := by decide +kernel
theorem dL_isWell_236 : decode cL_isWell 236 = .ok (.ifCond .eq 7, 3) := by decide +kernel
theorem dL_isWell_239 : decode cL_isWell 239 = .ok (.iconst 1, 1) := by decide +kernel
theorem dL_isWell_240 : decode cL_isWell 240 = .ok (.goto 4, 3) := by decide +kernel
theorem dL_isWell_243 : decode cL_isWell 243 = .ok (.iconst 0, 1) := by decide +kernel
theorem dL_isWell_244 : decode cL_isWell 244 = .ok (.iadd, 1) := by decide +kernel
theorem dL_isWell_245 : decode cL_isWell 245 = .ok (.istore_n 3, 1) := by decide +kernel
theorem dL_isWell_246 : decode cL_isWell 246 = .ok (.iload 4, 2) := by decide +kernel
theorem dL_isWell_248 : decode cL_isWell 248 = .ok (.iload 13, 2) := by decide +kernel
theorem dL_isWell_250 : decode cL_isWell 250 = .ok (.ifCond .eq 7, 3) := by decide +kernel
theorem dL_isWell_253 : decode cL_isWell 253 = .ok (.iconst 1, 1) := by decide +kernel
theorem dL_isWell_254 : decode cL_isWell 254 = .ok (.goto 4, 3) := by decide +kernel
theorem dL_isWell_257 : decode cL_isWell 257 = .ok (.iconst 0, 1) := by decide +kernel
theorem dL_isWell_258 : decode cL_isWell 258 = .ok (.iadd, 1) := by decide +kernel
theorem dL_isWell_259 : decode cL_isWell 259 = .ok (.istore 4, 2) := by decide +kernel
theorem dL_isWell_261 : decode cL_isWell 261 = .ok (.iload 13, 2) := by decide +kernel
theorem dL_isWell_263 : decode cL_isWell 263 = .ok (.ifCond .eq 8, 3) := by decide +kernel
theorem dL_isWell_266 : decode cL_isWell 266 = .ok (.iload 9, 2) := by decide +kernel
theorem dL_isWell_268 : decode cL_isWell 268 = .ok (.goto 5, 3) := by decide +kernel
theorem dL_isWell_271 : decode cL_isWell 271 = .ok (.iload 8, 2) := by decide +kernel
theorem dL_isWell_273 : decode cL_isWell 273 = .ok (.istore 8, 2) := by decide +kernel
theorem dL_isWell_275 : decode cL_isWell 275 = .ok (.iload 10, 2) := by decide +kernel
theorem dL_isWell_277 : decode cL_isWell 277 = .ok (.ifCond .lt 156, 3) := by decide +kernel
theorem dL_isWell_280 : decode cL_isWell 280 = .ok (.iload 10, 2) := by decide +kernel
theorem dL_isWell_282 : decode cL_isWell 282 = .ok (.bipush 100, 2) := by decide +kernel
theorem dL_isWell_284 : decode cL_isWell 284 = .ok (.if_icmp .ge 149, 3) := by decide +kernel
theorem dL_isWell_287 : decode cL_isWell 287 = .ok (.aload_n 0, 1) := by decide +kernel
theorem dL_isWell_288 : decode cL_isWell 288 = .ok (.iload 6, 2) := by decide +kernel
theorem dL_isWell_290 : decode cL_isWell 290 = .ok (.iload 9, 2) := by decide +kernel
theorem dL_isWell_292 : decode cL_isWell 292 = .ok (.iconst 1, 1) := by decide +kernel
theorem dL_isWell_293 : decode cL_isWell 293 = .ok (.invokevirtual 35, 3) := by decide +kernel
theorem dL_isWell_296 : decode cL_isWell 296 = .ok (.aload_n 0, 1) := by decide +kernel
theorem dL_isWell_297 : decode cL_isWell 297 = .ok (.bipush 10, 2) := by decide +kernel
theorem dL_isWell_299 : decode cL_isWell 299 = .ok (.invokevirtual 15, 3) := by decide +kernel
theorem dL_isWell_302 : decode cL_isWell 302 = .ok (.iload 10, 2) := by decide +kernel
theorem dL_isWell_304 : decode cL_isWell 304 = .ok (.isub, 1) := by decide +kernel
theorem dL_isWell_305 : decode cL_isWell 305 = .ok (.if_icmp .ne 128, 3) := by decide +kernel
theorem dL_isWell_308 : decode cL_isWell 308 = .ok (.iload 11, 2) := by decide +kernel
theorem dL_isWell_310 : decode cL_isWell 310 = .ok (.iload 9, 2) := by decide +kernel
theorem dL_isWell_312 : decode cL_isWell 312 = .ok (.ifCond .le 51, 3) := by decide +kernel
theorem dL_isWell_315 : decode cL_isWell 315 = .ok (.iload 9, 2) := by decide +kernel
theorem dL_isWell_317 : decode cL_isWell 317 = .ok (.bipush 19, 2) := by decide +kernel
theorem dL_isWell_319 : decode cL_isWell 319 = .ok (.if_icmp .ge 44, 3) := by decide +kernel
theorem dL_isWell_322 : decode cL_isWell 322 = .ok (.iload 13, 2) := by decide +kernel
theorem dL_isWell_324 : decode cL_isWell 324 = .ok (.ifCond .ne 39, 3) := by decide +kernel
theorem dL_isWell_327 : decode cL_isWell 327 = .ok (.iload 10, 2) := by decide +kernel
theorem dL_isWell_329 : decode cL_isWell 329 = .ok (.aload_n 0, 1) := by decide +kernel
theorem dL_isWell_330 : decode cL_isWell 330 = .ok (.iload 6, 2) := by decide +kernel
theorem dL_isWell_332 : decode cL_isWell 332 = .ok (.iload 9, 2) := by decide +kernel
theorem dL_isWell_334 : decode cL_isWell 334 = .ok (.iconst 1, 1) := by decide +kernel
theorem dL_isWell_335 : decode cL_isWell 335 = .ok (.isub, 1) := by decide +kernel
theorem dL_isWell_336 : decode cL_isWell 336 = .ok (.iconst 0, 1) := by decide +kernel
theorem dL_isWell_337 : decode cL_isWell 337 = .ok (.invokevirtual 35, 3) := by decide +kernel
theorem dL_isWell_340 : decode cL_isWell 340 = .ok (.if_icmp .le 23, 3) := by decide +kernel
theorem dL_isWell_343 : decode cL_isWell 343 = .ok (.iload 10, 2) := by decide +kernel
theorem dL_isWell_345 : decode cL_isWell 345 = .ok (.aload_n 0, 1) := by decide +kernel
theorem dL_isWell_346 : decode cL_isWell 346 = .ok (.iload 6, 2) := by decide +kernel
theorem dL_isWell_348 : decode cL_isWell 348 = .ok (.iload 9, 2) := by decide +kernel
theorem dL_isWell_350 : decode cL_isWell 350 = .ok (.iconst 1, 1) := by decide +kernel
theorem dL_isWell_351 : decode cL_isWell 351 = .ok (.iadd, 1) := by decide +kernel
theorem dL_isWell_352 : decode cL_isWell 352 = .ok (.iconst 0, 1) := by decide +kernel
theorem dL_isWell_353 : decode cL_isWell 353 = .ok (.invokevirtual 35, 3) := by decide +kernel
theorem dL_isWell_356 : decode cL_isWell 356 = .ok (.if_icmp .le 7, 3) := by decide +kernel
theorem dL_isWell_359 : decode cL_isWell 359 = .ok (.iconst 1, 1) := by decide +kernel
theorem dL_isWell_360 : decode cL_isWell 360 = .ok (.goto 4, 3) := by decide +kernel
theorem dL_isWell_363 : decode cL_isWell 363 = .ok (.iconst 0, 1) := by decide +kernel
theorem dL_isWell_364 : decode cL_isWell 364 = .ok (.if_icmp .ne 69, 3) := by decide +kernel
theorem dL_isWell_367 : decode cL_isWell 367 = .ok (.iload 12, 2) := by decide +kernel
theorem dL_isWell_369 : decode cL_isWell 369 = .ok (.iload 9, 2) := by decide +kernel
theorem dL_isWell_371 : decode cL_isWell 371 = .ok (.ifCond .le 29, 3) := by decide +kernel
theorem dL_isWell_374 : decode cL_isWell 374 = .ok (.iload 9, 2) := by decide +kernel
theorem dL_isWell_376 : decode cL_isWell 376 = .ok (.bipush 19, 2) := by decide +kernel
theorem dL_isWell_378 : decode cL_isWell 378 = .ok (.if_icmp .ge 22, 3) := by decide +kernel
theorem dL_isWell_381 : decode cL_isWell 381 = .ok (.iload 13, 2) := by decide +kernel
theorem dL_isWell_383 : decode cL_isWell 383 = .ok (.ifCond .ne 17, 3) := by decide +kernel
theorem dL_isWell_386 : decode cL_isWell 386 = .ok (.iload 11, 2) := by decide +kernel
theorem dL_isWell_388 : decode cL_isWell 388 = .ok (.ifCond .ne 12, 3) := by decide +kernel
theorem dL_isWell_391 : decode cL_isWell 391 = .ok (.iload 14, 2) := by decide +kernel
theorem dL_isWell_393 : decode cL_isWell 393 = .ok (.ifCond .eq 7, 3) := by decide +kernel
theorem dL_isWell_396 : decode cL_isWell 396 = .ok (.iconst 1, 1) := by decide +kernel
theorem dL_isWell_397 : decode cL_isWell 397 = .ok (.goto 4, 3) := by decide +kernel
theorem dL_isWell_400 : decode cL_isWell 400 = .ok (.iconst 0, 1) := by decide +kernel
theorem dL_isWell_401 : decode cL_isWell 401 = .ok (.if_icmp .ne 32, 3) := by decide +kernel
theorem dL_isWell_404 : decode cL_isWell 404 = .ok (.aload_n 0, 1) := by decide +kernel
theorem dL_isWell_405 : decode cL_isWell 405 = .ok (.iload 6, 2) := by decide +kernel
theorem dL_isWell_407 : decode cL_isWell 407 = .ok (.iconst 5, 1) := by decide +kernel
theorem dL_isWell_408 : decode cL_isWell 408 = .ok (.invokevirtual 65, 3) := by decide +kernel
theorem dL_isWell_411 : decode cL_isWell 411 = .ok (.iload 9, 2) := by decide +kernel
theorem dL_isWell_413 : decode cL_isWell 413 = .ok (.ishr, 1) := by decide +kernel
theorem dL_isWell_414 : decode cL_isWell 414 = .ok (.iconst 1, 1) := by decide +kernel
theorem dL_isWell_415 : decode cL_isWell 415 = .ok (.iand, 1) := by decide +kernel
theorem dL_isWell_416 : decode cL_isWell 416 = .ok (.iload 11, 2) := by decide +kernel
theorem dL_isWell_418 : decode cL_isWell 418 = .ok (.ifCond .eq 7, 3) := by decide +kernel
theorem dL_isWell_421 : decode cL_isWell 421 = .ok (.iconst 1, 1) := by decide +kernel
theorem dL_isWell_422 : decode cL_isWell 422 = .ok (.goto 4, 3) := by decide +kernel
theorem dL_isWell_425 : decode cL_isWell 425 = .ok (.iconst 0, 1) := by decide +kernel
theorem dL_isWell_426 : decode cL_isWell 426 = .ok (.if_icmp .ne 7, 3) := by decide +kernel
theorem dL_isWell_429 : decode cL_isWell 429 = .ok (.iconst 1, 1) := by decide +kernel
theorem dL_isWell_430 : decode cL_isWell 430 = .ok (.goto 4, 3) := by decide +kernel
theorem dL_isWell_433 : decode cL_isWell 433 = .ok (.iconst 0, 1) := by decide +kernel
theorem dL_isWell_434 : decode cL_isWell 434 = .ok (.istore 5, 2) := by decide +kernel
theorem dL_isWell_436 : decode cL_isWell 436 = .ok (.iinc 9 1, 3) := by decide +kernel
theorem dL_isWell_439 : decode cL_isWell 439 = .ok (.goto (-402), 3) := by decide +kernel
theorem dL_isWell_442 : decode cL_isWell 442 = .ok (.iload_n 1, 1) := by decide +kernel
theorem dL_isWell_443 : decode cL_isWell 443 = .ok (.iload 7, 2) := by decide +kernel
theorem dL_isWell_445 : decode cL_isWell 445 = .ok (.iadd, 1) := by decide +kernel
theorem dL_isWell_446 : decode cL_isWell 446 = .ok (.istore_n 1, 1) := by decide +kernel
theorem dL_isWell_447 : decode cL_isWell 447 = .ok (.iload 5, 2) := by decide +kernel
theorem dL_isWell_449 : decode cL_isWell 449 = .ok (.ifCond .eq 68, 3) := by decide +kernel
theorem dL_isWell_452 : decode cL_isWell 452 = .ok (.aload_n 0, 1) := by decide +kernel
theorem dL_isWell_453 : decode cL_isWell 453 = .ok (.iload 6, 2) := by decide +kernel
theorem dL_isWell_455 : decode cL_isWell 455 = .ok (.iconst 0, 1) := by decide +kernel
theorem dL_isWell_456 : decode cL_isWell 456 = .ok (.invokevirtual 65, 3) := by decide +kernel
theorem dL_isWell_459 : decode cL_isWell 459 = .ok (.iload 7, 2) := by decide +kernel
theorem dL_isWell_461 : decode cL_isWell 461 = .ok (.if_icmp .ne 56, 3) := by decide +kernel
theorem dL_isWell_464 : decode cL_isWell 464 = .ok (.aload_n 0, 1) := by decide +kernel
theorem dL_isWell_465 : decode cL_isWell 465 = .ok (.iload 6, 2) := by decide +kernel
theorem dL_isWell_467 : decode cL_isWell 467 = .ok (.iconst 3, 1) := by decide +kernel
theorem dL_isWell_468 : decode cL_isWell 468 = .ok (.invokevirtual 65, 3) := by decide +kernel
theorem dL_isWell_471 : decode cL_isWell 471 = .ok (.iload 8, 2) := by decide +kernel
theorem dL_isWell_473 : decode cL_isWell 473 = .ok (.if_icmp .ne 44, 3) := by decide +kernel
theorem dL_isWell_476 : decode cL_isWell 476 = .ok (.aload_n 0, 1) := by decide +kernel
theorem dL_isWell_477 : decode cL_isWell 477 = .ok (.iload 6, 2) := by decide +kernel
theorem dL_isWell_479 : decode cL_isWell 479 = .ok (.bipush 6, 2) := by decide +kernel
theorem dL_isWell_481 : decode cL_isWell 481 = .ok (.invokevirtual 65, 3) := by decide +kernel
theorem dL_isWell_484 : decode cL_isWell 484 = .ok (.sipush (-1005), 3) := by decide +kernel
theorem dL_isWell_487 : decode cL_isWell 487 = .ok (.if_icmp .ne 7, 3) := by decide +kernel
theorem dL_isWell_490 : decode cL_isWell 490 = .ok (.iconst 1, 1) := by decide +kernel
theorem dL_isWell_491 : decode cL_isWell 491 = .ok (.goto 4, 3) := by decide +kernel
theorem dL_isWell_494 : decode cL_isWell 494 = .ok (.iconst 0, 1) := by decide +kernel
theorem dL_isWell_495 : decode cL_isWell 495 = .ok (.aload_n 0, 1) := by decide +kernel
theorem dL_isWell_496 : decode cL_isWell 496 = .ok (.iload 6, 2) := by decide +kernel
theorem dL_isWell_498 : decode cL_isWell 498 = .ok (.iconst 1, 1) := by decide +kernel
theorem dL_isWell_499 : decode cL_isWell 499 = .ok (.invokevirtual 65, 3) := by decide +kernel
theorem dL_isWell_502 : decode cL_isWell 502 = .ok (.ifCond .ne 7, 3) := by decide +kernel
theorem dL_isWell_505 : decode cL_isWell 505 = .ok (.iconst 1, 1) := by decide +kernel
theorem dL_isWell_506 : decode cL_isWell 506 = .ok (.goto 4, 3) := by decide +kernel
theorem dL_isWell_509 : decode cL_isWell 509 = .ok (.iconst 0, 1) := by decide +kernel
theorem dL_isWell_510 : decode cL_isWell 510 = .ok (.if_icmp .ne 7, 3) := by decide +kernel
theorem dL_isWell_513 : decode cL_isWell 513 = .ok (.iconst 1, 1) := by decide +kernel
theorem dL_isWell_514 : decode cL_isWell 514 = .ok (.goto 4, 3) := by decide +kernel
theorem dL_isWell_517 : decode cL_isWell 517 = .ok (.iconst 0, 1) := by decide +kernel
theorem dL_isWell_518 : decode cL_isWell 518 = .ok (.istore 5, 2) := by decide +kernel
theorem dL_isWell_520 : decode cL_isWell 520 = .ok (.iinc 6 1, 3) := by decide +kernel
theorem dL_isWell_523 : decode cL_isWell 523 = .ok (.goto (-508), 3) := by decide +kernel
theorem dL_isWell_526 : decode cL_isWell 526 = .ok (.iload 5, 2) := by decide +kernel
theorem dL_isWell_528 : decode cL_isWell 528 = .ok (.ifCond .eq 67, 3) := by decide +kernel
theorem dL_isWell_531 : decode cL_isWell 531 = .ok (.iload_n 1, 1) := by decide +kernel
theorem dL_isWell_532 : decode cL_isWell 532 = .ok (.aload_n 0, 1) := by decide +kernel
theorem dL_isWell_533 : decode cL_isWell 533 = .ok (.iconst 0, 1) := by decide +kernel
theorem dL_isWell_534 : decode cL_isWell 534 = .ok (.invokevirtual 15, 3) := by decide +kernel
theorem dL_isWell_537 : decode cL_isWell 537 = .ok (.if_icmp .ne 58, 3) := by decide +kernel
theorem dL_isWell_540 : decode cL_isWell 540 = .ok (.iload_n 2, 1) := by decide +kernel
theorem dL_isWell_541 : decode cL_isWell 541 = .ok (.aload_n 0, 1) := by decide +kernel
theorem dL_isWell_542 : decode cL_isWell 542 = .ok (.bipush 15, 2) := by decide +kernel
theorem dL_isWell_544 : decode cL_isWell 544 = .ok (.invokevirtual 15, 3) := by decide +kernel
theorem dL_isWell_547 : decode cL_isWell 547 = .ok (.if_icmp .ne 48, 3) := by decide +kernel
theorem dL_isWell_550 : decode cL_isWell 550 = .ok (.iload_n 3, 1) := by decide +kernel
theorem dL_isWell_551 : decode cL_isWell 551 = .ok (.aload_n 0, 1) := by decide +kernel
theorem dL_isWell_552 : decode cL_isWell 552 = .ok (.bipush 16, 2) := by decide +kernel
theorem dL_isWell_554 : decode cL_isWell 554 = .ok (.invokevirtual 15, 3) := by decide +kernel
theorem dL_isWell_557 : decode cL_isWell 557 = .ok (.if_icmp .ne 38, 3) := by decide +kernel
theorem dL_isWell_560 : decode cL_isWell 560 = .ok (.iload 4, 2) := by decide +kernel
theorem dL_isWell_562 : decode cL_isWell 562 = .ok (.aload_n 0, 1) := by decide +kernel
theorem dL_isWell_563 : decode cL_isWell 563 = .ok (.bipush 17, 2) := by decide +kernel
theorem dL_isWell_565 : decode cL_isWell 565 = .ok (.invokevirtual 15, 3) := by decide +kernel
theorem dL_isWell_568 : decode cL_isWell 568 = .ok (.if_icmp .ne 27, 3) := by decide +kernel
theorem dL_isWell_571 : decode cL_isWell 571 = .ok (.aload_n 0, 1) := by decide +kernel
theorem dL_isWell_572 : decode cL_isWell 572 = .ok (.iconst 0, 1) := by decide +kernel
theorem dL_isWell_573 : decode cL_isWell 573 = .ok (.bipush 9, 2) := by decide +kernel
theorem dL_isWell_575 : decode cL_isWell 575 = .ok (.invokevirtual 75, 3) := by decide +kernel
theorem dL_isWell_578 : decode cL_isWell 578 = .ok (.aload_n 0, 1) := by decide +kernel
theorem dL_isWell_579 : decode cL_isWell 579 = .ok (.bipush 10, 2) := by decide +kernel
theorem dL_isWell_581 : decode cL_isWell 581 = .ok (.bipush 19, 2) := by decide +kernel
theorem dL_isWell_583 : decode cL_isWell 583 = .ok (.invokevirtual 75, 3) := by decide +kernel
theorem dL_isWell_586 : decode cL_isWell 586 = .ok (.iadd, 1) := by decide +kernel
theorem dL_isWell_587 : decode cL_isWell 587 = .ok (.iload_n 1, 1) := by decide +kernel
theorem dL_isWell_588 : decode cL_isWell 588 = .ok (.if_icmp .ne 7, 3) := by decide +kernel
theorem dL_isWell_591 : decode cL_isWell 591 = .ok (.iconst 1, 1) := by decide +kernel
theorem dL_isWell_592 : decode cL_isWell 592 = .ok (.goto 4, 3) := by decide +kernel
theorem dL_isWell_595 : decode cL_isWell 595 = .ok (.iconst 0, 1) := by decide +kernel
theorem dL_isWell_596 : decode cL_isWell 596 = .ok (.ireturn, 1) := by decide +kernel
theorem dL_law_0 : decode cL_law 0 = .ok (.new 16, 3) := by decide +kernel
theorem dL_law_3 : decode cL_law 3 = .ok (.dup, 1) := by decide +kernel
theorem dL_law_4 : decode cL_law 4 = .ok (.invokespecial 78, 3) := by decide +kernel
theorem dL_law_7 : decode cL_law 7 = .ok (.astore_n 1, 1) := by decide +kernel
theorem dL_law_8 : decode cL_law 8 = .ok (.new 16, 3) := by decide +kernel
theorem dL_law_11 : decode cL_law 11 = .ok (.dup, 1) := by decide +kernel
theorem dL_law_12 : decode cL_law 12 = .ok (.invokespecial 78, 3) := by decide +kernel
theorem dL_law_15 : decode cL_law 15 = .ok (.astore_n 2, 1) := by decide +kernel
theorem dL_law_16 : decode cL_law 16 = .ok (.iconst 1, 1) := by decide +kernel
theorem dL_law_17 : decode cL_law 17 = .ok (.istore_n 3, 1) := by decide +kernel
theorem dL_law_18 : decode cL_law 18 = .ok (.iconst 0, 1) := by decide +kernel
theorem dL_law_19 : decode cL_law 19 = .ok (.istore 4, 2) := by decide +kernel
theorem dL_law_21 : decode cL_law 21 = .ok (.iload 4, 2) := by decide +kernel
theorem dL_law_23 : decode cL_law 23 = .ok (.bipush 44, 2) := by decide +kernel
theorem dL_law_25 : decode cL_law 25 = .ok (.if_icmp .ge 57, 3) := by decide +kernel
theorem dL_law_28 : decode cL_law 28 = .ok (.iload_n 3, 1) := by decide +kernel
theorem dL_law_29 : decode cL_law 29 = .ok (.ifCond .eq 53, 3) := by decide +kernel
theorem dL_law_32 : decode cL_law 32 = .ok (.aload_n 1, 1) := by decide +kernel
theorem dL_law_33 : decode cL_law 33 = .ok (.aload_n 2, 1) := by decide +kernel
theorem dL_law_34 : decode cL_law 34 = .ok (.aload_n 0, 1) := by decide +kernel
theorem dL_law_35 : decode cL_law 35 = .ok (.iload 4, 2) := by decide +kernel
theorem dL_law_37 : decode cL_law 37 = .ok (.invokestatic 79, 3) := by decide +kernel
theorem dL_law_40 : decode cL_law 40 = .ok (.aload_n 0, 1) := by decide +kernel
theorem dL_law_41 : decode cL_law 41 = .ok (.iload 4, 2) := by decide +kernel
theorem dL_law_43 : decode cL_law 43 = .ok (.iconst 1, 1) := by decide +kernel
theorem dL_law_44 : decode cL_law 44 = .ok (.iadd, 1) := by decide +kernel
theorem dL_law_45 : decode cL_law 45 = .ok (.invokestatic 79, 3) := by decide +kernel
theorem dL_law_48 : decode cL_law 48 = .ok (.iconst 2, 1) := by decide +kernel
theorem dL_law_49 : decode cL_law 49 = .ok (.ishr, 1) := by decide +kernel
theorem dL_law_50 : decode cL_law 50 = .ok (.invokestatic 82, 3) := by decide +kernel
theorem dL_law_53 : decode cL_law 53 = .ok (.ifCond .eq 21, 3) := by decide +kernel
theorem dL_law_56 : decode cL_law 56 = .ok (.iload 4, 2) := by decide +kernel
theorem dL_law_58 : decode cL_law 58 = .ok (.iconst 5, 1) := by decide +kernel
theorem dL_law_59 : decode cL_law 59 = .ok (.irem, 1) := by decide +kernel
theorem dL_law_60 : decode cL_law 60 = .ok (.ifCond .gt 10, 3) := by decide +kernel
theorem dL_law_63 : decode cL_law 63 = .ok (.aload_n 1, 1) := by decide +kernel
theorem dL_law_64 : decode cL_law 64 = .ok (.invokestatic 85, 3) := by decide +kernel
theorem dL_law_67 : decode cL_law 67 = .ok (.ifCond .eq 7, 3) := by decide +kernel
theorem dL_law_70 : decode cL_law 70 = .ok (.iconst 1, 1) := by decide +kernel
theorem dL_law_71 : decode cL_law 71 = .ok (.goto 4, 3) := by decide +kernel
theorem dL_law_74 : decode cL_law 74 = .ok (.iconst 0, 1) := by decide +kernel
theorem dL_law_75 : decode cL_law 75 = .ok (.istore_n 3, 1) := by decide +kernel
theorem dL_law_76 : decode cL_law 76 = .ok (.iinc 4 1, 3) := by decide +kernel
theorem dL_law_79 : decode cL_law 79 = .ok (.goto (-58), 3) := by decide +kernel
theorem dL_law_82 : decode cL_law 82 = .ok (.iload_n 3, 1) := by decide +kernel
theorem dL_law_83 : decode cL_law 83 = .ok (.ifCond .eq 28, 3) := by decide +kernel
theorem dL_law_86 : decode cL_law 86 = .ok (.aload_n 1, 1) := by decide +kernel
theorem dL_law_87 : decode cL_law 87 = .ok (.invokestatic 85, 3) := by decide +kernel
theorem dL_law_90 : decode cL_law 90 = .ok (.ifCond .eq 21, 3) := by decide +kernel
theorem dL_law_93 : decode cL_law 93 = .ok (.aload_n 1, 1) := by decide +kernel
theorem dL_law_94 : decode cL_law 94 = .ok (.aload_n 2, 1) := by decide +kernel
theorem dL_law_95 : decode cL_law 95 = .ok (.aload_n 0, 1) := by decide +kernel
theorem dL_law_96 : decode cL_law 96 = .ok (.bipush 45, 2) := by decide +kernel
theorem dL_law_98 : decode cL_law 98 = .ok (.invokestatic 79, 3) := by decide +kernel
theorem dL_law_101 : decode cL_law 101 = .ok (.invokestatic 88, 3) := by decide +kernel
theorem dL_law_104 : decode cL_law 104 = .ok (.ifCond .eq 7, 3) := by decide +kernel
theorem dL_law_107 : decode cL_law 107 = .ok (.iconst 1, 1) := by decide +kernel
theorem dL_law_108 : decode cL_law 108 = .ok (.goto 4, 3) := by decide +kernel
theorem dL_law_111 : decode cL_law 111 = .ok (.iconst 0, 1) := by decide +kernel
theorem dL_law_112 : decode cL_law 112 = .ok (.ireturn, 1) := by decide +kernel
