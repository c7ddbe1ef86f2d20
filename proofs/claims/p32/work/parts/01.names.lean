-- ===== PART A: goes FIRST, ahead of the names: the tables' words, and 'selects' of the private methods out of them =====
/-- a private method of a class that the tables say can be made, by its rows of tables_1 -/
def lw_okq (q : MethodName × Nat) : Prop := (q.1.cls ≠ "java/lang/invoke/MethodHandle" ∧ q.1.cls ≠ "java/lang/invoke/VarHandle") ∧ Cond.instantiable q.1.cls q.2 ∈ tables_1 ∧ Cond.privateMethod q.1 ∈ tables_1 ∧ Cond.instanceMethod q.1 ∈ tables_1
theorem lw_p0 : lw_okq (⟨"GaleNames$State", "isTaken", "(II)Z"⟩, 13) := ⟨⟨by decide +kernel, by decide +kernel⟩, List.mem_of_getElem? (i := 19) (by decide +kernel), List.mem_of_getElem? (i := 202) (by decide +kernel), List.mem_of_getElem? (i := 203) (by decide +kernel)⟩
theorem lw_p1 : lw_okq (⟨"GaleNames$State", "isAlikeToListed", "(ILGaleNames$Row;)Z"⟩, 13) := ⟨⟨by decide +kernel, by decide +kernel⟩, List.mem_of_getElem? (i := 19) (by decide +kernel), List.mem_of_getElem? (i := 221) (by decide +kernel), List.mem_of_getElem? (i := 222) (by decide +kernel)⟩
theorem lw_p2 : lw_okq (⟨"GaleNames$State", "areAlike", "(II)Z"⟩, 13) := ⟨⟨by decide +kernel, by decide +kernel⟩, List.mem_of_getElem? (i := 19) (by decide +kernel), List.mem_of_getElem? (i := 225) (by decide +kernel), List.mem_of_getElem? (i := 226) (by decide +kernel)⟩
theorem lw_p3 : lw_okq (⟨"GaleNames$History", "dropOldest", "()V"⟩, 2) := ⟨⟨by decide +kernel, by decide +kernel⟩, List.mem_of_getElem? (i := 114) (by decide +kernel), List.mem_of_getElem? (i := 247) (by decide +kernel), List.mem_of_getElem? (i := 248) (by decide +kernel)⟩
theorem lw_p4 : lw_okq (⟨"GaleNames$History", "stateAt", "(I)LGaleNames$State;"⟩, 2) := ⟨⟨by decide +kernel, by decide +kernel⟩, List.mem_of_getElem? (i := 114) (by decide +kernel), List.mem_of_getElem? (i := 251) (by decide +kernel), List.mem_of_getElem? (i := 252) (by decide +kernel)⟩
theorem lw_p5 : lw_okq (⟨"GaleNames$State", "wasGiven", "(II)Z"⟩, 13) := ⟨⟨by decide +kernel, by decide +kernel⟩, List.mem_of_getElem? (i := 19) (by decide +kernel), List.mem_of_getElem? (i := 296) (by decide +kernel), List.mem_of_getElem? (i := 297) (by decide +kernel)⟩
theorem lw_p6 : lw_okq (⟨"GaleNames$State", "harmOfYear", "(I)I"⟩, 13) := ⟨⟨by decide +kernel, by decide +kernel⟩, List.mem_of_getElem? (i := 19) (by decide +kernel), List.mem_of_getElem? (i := 320) (by decide +kernel), List.mem_of_getElem? (i := 321) (by decide +kernel)⟩
theorem lw_p7 : lw_okq (⟨"GaleNames$State", "retire", "(I)V"⟩, 13) := ⟨⟨by decide +kernel, by decide +kernel⟩, List.mem_of_getElem? (i := 19) (by decide +kernel), List.mem_of_getElem? (i := 328) (by decide +kernel), List.mem_of_getElem? (i := 329) (by decide +kernel)⟩
def lw_privs_1 : List (MethodName × Nat) := [(⟨"GaleNames$State", "isTaken", "(II)Z"⟩, 13), (⟨"GaleNames$State", "isAlikeToListed", "(ILGaleNames$Row;)Z"⟩, 13), (⟨"GaleNames$State", "areAlike", "(II)Z"⟩, 13), (⟨"GaleNames$History", "dropOldest", "()V"⟩, 2), (⟨"GaleNames$History", "stateAt", "(I)LGaleNames$State;"⟩, 2), (⟨"GaleNames$State", "wasGiven", "(II)Z"⟩, 13), (⟨"GaleNames$State", "harmOfYear", "(I)I"⟩, 13), (⟨"GaleNames$State", "retire", "(I)V"⟩, 13)]
theorem lw_r1 : ∀ q ∈ lw_privs_1, lw_okq q := List.forall_mem_cons.mpr ⟨lw_p0, List.forall_mem_cons.mpr ⟨lw_p1, List.forall_mem_cons.mpr ⟨lw_p2, List.forall_mem_cons.mpr ⟨lw_p3, List.forall_mem_cons.mpr ⟨lw_p4, List.forall_mem_cons.mpr ⟨lw_p5, List.forall_mem_cons.mpr ⟨lw_p6, List.forall_mem_cons.mpr ⟨lw_p7, fun _ h => absurd h List.not_mem_nil⟩⟩⟩⟩⟩⟩⟩⟩
def lw_privs : List (MethodName × Nat) := lw_privs_1
def lw_tbl : List Cond := k2_sels lw_privs ++ tables_1
theorem lw_privs_ok : ∀ q ∈ lw_privs, lw_okq q := lw_r1
-- ===== end of PART A; then your names; then what follows =====
def lw_g : List Cond := lw_tbl.filter goodWord
theorem lw_mg {w : Cond} (h : w ∈ lw_tbl) (g : goodWord w = true) : w ∈ lw_g := List.mem_filter.mpr ⟨h, g⟩
def nestW : Cond → Bool
  | .fieldLinkNest _ _ _ _ _ _ => true
  | .methodLinkNest _ _ _ _ => true
  | _ => false
def lw_n : List Cond := lw_tbl.filter nestW
theorem lw_mn {w : Cond} (h : w ∈ lw_tbl) (g : nestW w = true) : w ∈ lw_n := List.mem_filter.mpr ⟨h, g⟩
theorem lw_pl (ws : List Cond) (ps : List Nat) (hp : ws = ps.filterMap (fun i => lw_tbl[i]?)) (h : ws.all goodWord = true) : ∀ w ∈ ws, w ∈ lw_g := by
  intro w hw
  have h1 := List.all_eq_true.mp h w hw
  rw [hp] at hw
  obtain ⟨i, -, hi⟩ := List.mem_filterMap.mp hw
  exact lw_mg (List.mem_of_getElem? hi) h1
def R_Hi : String := "GaleNames$History"
def F_Hi : u_T := fun k => match k with
  | 0 => ("GaleNames$History", "states", "[LGaleNames$State;", true)
  | _ => ("GaleNames$History", "size", "I", false)
def t_Hi : Nat → FieldType := fun k => match k with
  | 0 => .array (.object "GaleNames$State")
  | _ => .int
theorem nm_Hi : ∀ a, a < 2 → ∀ b, b < 2 → a ≠ b → (F_Hi a).2.1 ≠ (F_Hi b).2.1 := by decide +kernel
theorem tk_Hi : ∀ k, k < 2 → parseFieldDescriptor (F_Hi k).2.2.1 = some (t_Hi k) := by decide +kernel
def R_Ke : String := "GaleNames$Key"
def F_Ke : u_T := fun k => match k with
  | _ => ("", "", "", false)
def t_Ke : Nat → FieldType := fun k => match k with
  | _ => .int
theorem nm_Ke : ∀ a, a < 0 → ∀ b, b < 0 → a ≠ b → (F_Ke a).2.1 ≠ (F_Ke b).2.1 := by decide +kernel
theorem tk_Ke : ∀ k, k < 0 → parseFieldDescriptor (F_Ke k).2.2.1 = some (t_Ke k) := by decide +kernel
def R_Pa : String := "GaleNames$Pad"
def F_Pa : u_T := fun k => match k with
  | 0 => ("GaleNames$Pad", "signs", "LGaleNames$Row;", true)
  | _ => ("GaleNames$Pad", "told", "LGaleNames$Row;", true)
def t_Pa : Nat → FieldType := fun k => match k with
  | 0 => .object "GaleNames$Row"
  | _ => .object "GaleNames$Row"
theorem nm_Pa : ∀ a, a < 2 → ∀ b, b < 2 → a ≠ b → (F_Pa a).2.1 ≠ (F_Pa b).2.1 := by decide +kernel
theorem tk_Pa : ∀ k, k < 2 → parseFieldDescriptor (F_Pa k).2.2.1 = some (t_Pa k) := by decide +kernel
def R_Ro : String := "GaleNames$Row"
def F_Ro : u_T := fun k => match k with
  | 0 => ("GaleNames$Row", "cells", "[I", true)
  | _ => ("GaleNames$Row", "size", "I", false)
def t_Ro : Nat → FieldType := fun k => match k with
  | 0 => .array .int
  | _ => .int
theorem nm_Ro : ∀ a, a < 2 → ∀ b, b < 2 → a ≠ b → (F_Ro a).2.1 ≠ (F_Ro b).2.1 := by decide +kernel
theorem tk_Ro : ∀ k, k < 2 → parseFieldDescriptor (F_Ro k).2.2.1 = some (t_Ro k) := by decide +kernel
def R_Sl : String := "GaleNames$Slots"
def F_Sl : u_T := fun k => match k with
  | _ => ("GaleNames$Slots", "states", "[LGaleNames$State;", true)
def t_Sl : Nat → FieldType := fun k => match k with
  | _ => .array (.object "GaleNames$State")
theorem nm_Sl : ∀ a, a < 1 → ∀ b, b < 1 → a ≠ b → (F_Sl a).2.1 ≠ (F_Sl b).2.1 := by decide +kernel
theorem tk_Sl : ∀ k, k < 1 → parseFieldDescriptor (F_Sl k).2.2.1 = some (t_Sl k) := by decide +kernel
def R_St : String := "GaleNames$State"
def F_St : u_T := fun k => match k with
  | 0 => ("GaleNames$State", "year", "I", false)
  | 1 => ("GaleNames$State", "settings", "LGaleNames$Row;", true)
  | 2 => ("GaleNames$State", "keys", "LGaleNames$Row;", true)
  | 3 => ("GaleNames$State", "retired", "LGaleNames$Row;", true)
  | 4 => ("GaleNames$State", "stormsOfNames", "LGaleNames$Row;", true)
  | 5 => ("GaleNames$State", "harmsOfNames", "LGaleNames$Row;", true)
  | 6 => ("GaleNames$State", "lists", "[LGaleNames$Row;", true)
  | 7 => ("GaleNames$State", "stormNames", "LGaleNames$Row;", true)
  | 8 => ("GaleNames$State", "stormCoasts", "LGaleNames$Row;", true)
  | 9 => ("GaleNames$State", "stormHarms", "LGaleNames$Row;", true)
  | 10 => ("GaleNames$State", "namesakeNames", "LGaleNames$Row;", true)
  | 11 => ("GaleNames$State", "owed", "LGaleNames$Row;", true)
  | _ => ("GaleNames$State", "written", "LGaleNames$Row;", true)
def t_St : Nat → FieldType := fun k => match k with
  | 0 => .int
  | 1 => .object "GaleNames$Row"
  | 2 => .object "GaleNames$Row"
  | 3 => .object "GaleNames$Row"
  | 4 => .object "GaleNames$Row"
  | 5 => .object "GaleNames$Row"
  | 6 => .array (.object "GaleNames$Row")
  | 7 => .object "GaleNames$Row"
  | 8 => .object "GaleNames$Row"
  | 9 => .object "GaleNames$Row"
  | 10 => .object "GaleNames$Row"
  | 11 => .object "GaleNames$Row"
  | _ => .object "GaleNames$Row"
theorem nm_St : ∀ a, a < 13 → ∀ b, b < 13 → a ≠ b → (F_St a).2.1 ≠ (F_St b).2.1 := by decide +kernel
theorem tk_St : ∀ k, k < 13 → parseFieldDescriptor (F_St k).2.2.1 = some (t_St k) := by decide +kernel
def R_Ga : String := "GaleNames"
def F_Ga : u_T := fun k => match k with
  | 0 => ("GaleNames", "now", "LGaleNames$State;", true)
  | 1 => ("GaleNames", "pad", "LGaleNames$Pad;", true)
  | 2 => ("GaleNames", "history", "LGaleNames$History;", true)
  | _ => ("GaleNames", "slots", "LGaleNames$Slots;", true)
def t_Ga : Nat → FieldType := fun k => match k with
  | 0 => .object "GaleNames$State"
  | 1 => .object "GaleNames$Pad"
  | 2 => .object "GaleNames$History"
  | _ => .object "GaleNames$Slots"
theorem nm_Ga : ∀ a, a < 4 → ∀ b, b < 4 → a ≠ b → (F_Ga a).2.1 ≠ (F_Ga b).2.1 := by decide +kernel
theorem tk_Ga : ∀ k, k < 4 → parseFieldDescriptor (F_Ga k).2.2.1 = some (t_Ga k) := by decide +kernel
def R_Mo : String := "GaleNamesModel"
def F_Mo : u_T := fun k => match k with
  | _ => ("", "", "", false)
def t_Mo : Nat → FieldType := fun k => match k with
  | _ => .int
theorem nm_Mo : ∀ a, a < 0 → ∀ b, b < 0 → a ≠ b → (F_Mo a).2.1 ≠ (F_Mo b).2.1 := by decide +kernel
theorem tk_Mo : ∀ k, k < 0 → parseFieldDescriptor (F_Mo k).2.2.1 = some (t_Mo k) := by decide +kernel
def R_law0 : String := "GaleNamesLaw"
abbrev vwCl : List vw_C := [(R_Hi, F_Hi, 2), (R_Pa, F_Pa, 2), (R_Ro, F_Ro, 2), (R_Sl, F_Sl, 1), (R_St, F_St, 13), (R_Ga, F_Ga, 4)]
abbrev c_Hi_init : ByteArray := prog_2_method_1_code
def y_Hi_init : MethodName := ⟨"GaleNames$History", "<init>", "()V"⟩
abbrev c_Hi_size : ByteArray := prog_2_method_2_code
def y_Hi_size : MethodName := ⟨"GaleNames$History", "size", "()I"⟩
abbrev c_Hi_record : ByteArray := prog_2_method_3_code
def y_Hi_record : MethodName := ⟨"GaleNames$History", "record", "(LGaleNames$State;)V"⟩
abbrev c_Hi_takeLatest : ByteArray := prog_2_method_4_code
def y_Hi_takeLatest : MethodName := ⟨"GaleNames$History", "takeLatest", "()LGaleNames$State;"⟩
abbrev c_Hi_stateAt : ByteArray := prog_2_method_5_code
def y_Hi_stateAt : MethodName := ⟨"GaleNames$History", "stateAt", "(I)LGaleNames$State;"⟩
abbrev c_Hi_dropOldest : ByteArray := prog_2_method_6_code
def y_Hi_dropOldest : MethodName := ⟨"GaleNames$History", "dropOldest", "()V"⟩
abbrev c_Ke_letterAt : ByteArray := prog_3_method_2_code
def y_Ke_letterAt : MethodName := ⟨"GaleNames$Key", "letterAt", "(II)I"⟩
abbrev c_Ke_withLetter : ByteArray := prog_3_method_3_code
def y_Ke_withLetter : MethodName := ⟨"GaleNames$Key", "withLetter", "(III)I"⟩
abbrev c_Ke_signOf : ByteArray := prog_3_method_4_code
def y_Ke_signOf : MethodName := ⟨"GaleNames$Key", "signOf", "(I)I"⟩
abbrev c_Ke_letterOf : ByteArray := prog_3_method_5_code
def y_Ke_letterOf : MethodName := ⟨"GaleNames$Key", "letterOf", "(I)I"⟩
abbrev c_Ke_length : ByteArray := prog_3_method_6_code
def y_Ke_length : MethodName := ⟨"GaleNames$Key", "length", "(I)I"⟩
abbrev c_Ke_shared : ByteArray := prog_3_method_7_code
def y_Ke_shared : MethodName := ⟨"GaleNames$Key", "shared", "(II)I"⟩
abbrev c_Ke_alike : ByteArray := prog_3_method_8_code
def y_Ke_alike : MethodName := ⟨"GaleNames$Key", "alike", "(III)Z"⟩
abbrev c_Pa_init : ByteArray := prog_4_method_1_code
def y_Pa_init : MethodName := ⟨"GaleNames$Pad", "<init>", "()V"⟩
abbrev c_Pa_signs : ByteArray := prog_4_method_2_code
def y_Pa_signs : MethodName := ⟨"GaleNames$Pad", "signs", "()LGaleNames$Row;"⟩
abbrev c_Pa_told : ByteArray := prog_4_method_3_code
def y_Pa_told : MethodName := ⟨"GaleNames$Pad", "told", "()LGaleNames$Row;"⟩
abbrev c_Pa_read : ByteArray := prog_4_method_4_code
def y_Pa_read : MethodName := ⟨"GaleNames$Pad", "read", "()I"⟩
abbrev c_Pa_tellsOneName : ByteArray := prog_4_method_5_code
def y_Pa_tellsOneName : MethodName := ⟨"GaleNames$Pad", "tellsOneName", "()Z"⟩
abbrev c_Pa_appendName : ByteArray := prog_4_method_6_code
def y_Pa_appendName : MethodName := ⟨"GaleNames$Pad", "appendName", "(I)V"⟩
abbrev c_Ro_init : ByteArray := prog_5_method_1_code
def y_Ro_init : MethodName := ⟨"GaleNames$Row", "<init>", "(I)V"⟩
abbrev c_Ro_size : ByteArray := prog_5_method_2_code
def y_Ro_size : MethodName := ⟨"GaleNames$Row", "size", "()I"⟩
abbrev c_Ro_has : ByteArray := prog_5_method_3_code
def y_Ro_has : MethodName := ⟨"GaleNames$Row", "has", "(I)Z"⟩
abbrev c_Ro_at : ByteArray := prog_5_method_4_code
def y_Ro_at : MethodName := ⟨"GaleNames$Row", "at", "(I)I"⟩
abbrev c_Ro_change : ByteArray := prog_5_method_5_code
def y_Ro_change : MethodName := ⟨"GaleNames$Row", "change", "(II)V"⟩
abbrev c_Ro_raise : ByteArray := prog_5_method_6_code
def y_Ro_raise : MethodName := ⟨"GaleNames$Row", "raise", "(II)V"⟩
abbrev c_Ro_add : ByteArray := prog_5_method_7_code
def y_Ro_add : MethodName := ⟨"GaleNames$Row", "add", "(I)V"⟩
abbrev c_Ro_drop : ByteArray := prog_5_method_8_code
def y_Ro_drop : MethodName := ⟨"GaleNames$Row", "drop", "(I)V"⟩
abbrev c_Ro_clear : ByteArray := prog_5_method_9_code
def y_Ro_clear : MethodName := ⟨"GaleNames$Row", "clear", "()V"⟩
abbrev c_Ro_placeOf : ByteArray := prog_5_method_10_code
def y_Ro_placeOf : MethodName := ⟨"GaleNames$Row", "placeOf", "(I)I"⟩
abbrev c_Ro_holds : ByteArray := prog_5_method_11_code
def y_Ro_holds : MethodName := ⟨"GaleNames$Row", "holds", "(I)Z"⟩
abbrev c_Ro_timesOf : ByteArray := prog_5_method_12_code
def y_Ro_timesOf : MethodName := ⟨"GaleNames$Row", "timesOf", "(I)I"⟩
abbrev c_Ro_total : ByteArray := prog_5_method_13_code
def y_Ro_total : MethodName := ⟨"GaleNames$Row", "total", "()I"⟩
abbrev c_Ro_copy : ByteArray := prog_5_method_14_code
def y_Ro_copy : MethodName := ⟨"GaleNames$Row", "copy", "(LGaleNames$Row;)V"⟩
abbrev c_Sl_init : ByteArray := prog_6_method_1_code
def y_Sl_init : MethodName := ⟨"GaleNames$Slots", "<init>", "()V"⟩
abbrev c_Sl_has : ByteArray := prog_6_method_2_code
def y_Sl_has : MethodName := ⟨"GaleNames$Slots", "has", "(I)Z"⟩
abbrev c_Sl_keptIn : ByteArray := prog_6_method_3_code
def y_Sl_keptIn : MethodName := ⟨"GaleNames$Slots", "keptIn", "(I)LGaleNames$State;"⟩
abbrev c_Sl_keep : ByteArray := prog_6_method_4_code
def y_Sl_keep : MethodName := ⟨"GaleNames$Slots", "keep", "(ILGaleNames$State;)V"⟩
abbrev c_St_init : ByteArray := prog_7_method_1_code
def y_St_init : MethodName := ⟨"GaleNames$State", "<init>", "()V"⟩
abbrev c_St_copy : ByteArray := prog_7_method_2_code
def y_St_copy : MethodName := ⟨"GaleNames$State", "copy", "(LGaleNames$State;)V"⟩
abbrev c_St_copyList : ByteArray := prog_7_method_3_code
def y_St_copyList : MethodName := ⟨"GaleNames$State", "copyList", "(LGaleNames$Row;LGaleNames$Row;)V"⟩
abbrev c_St_listOf : ByteArray := prog_7_method_4_code
def y_St_listOf : MethodName := ⟨"GaleNames$State", "listOf", "(II)LGaleNames$Row;"⟩
abbrev c_St_listOfYear : ByteArray := prog_7_method_5_code
def y_St_listOfYear : MethodName := ⟨"GaleNames$State", "listOfYear", "(II)LGaleNames$Row;"⟩
abbrev c_St_standsOn : ByteArray := prog_7_method_6_code
def y_St_standsOn : MethodName := ⟨"GaleNames$State", "standsOn", "(II)Z"⟩
abbrev c_St_coastsOf : ByteArray := prog_7_method_7_code
def y_St_coastsOf : MethodName := ⟨"GaleNames$State", "coastsOf", "(I)I"⟩
abbrev c_St_mayJoin : ByteArray := prog_7_method_8_code
def y_St_mayJoin : MethodName := ⟨"GaleNames$State", "mayJoin", "(LGaleNames$Row;ILGaleNames$Row;)Z"⟩
abbrev c_St_isTaken : ByteArray := prog_7_method_9_code
def y_St_isTaken : MethodName := ⟨"GaleNames$State", "isTaken", "(II)Z"⟩
abbrev c_St_isAlikeToListed : ByteArray := prog_7_method_10_code
def y_St_isAlikeToListed : MethodName := ⟨"GaleNames$State", "isAlikeToListed", "(ILGaleNames$Row;)Z"⟩
abbrev c_St_areAlike : ByteArray := prog_7_method_11_code
def y_St_areAlike : MethodName := ⟨"GaleNames$State", "areAlike", "(II)Z"⟩
abbrev c_St_alikeTo : ByteArray := prog_7_method_12_code
def y_St_alikeTo : MethodName := ⟨"GaleNames$State", "alikeTo", "(I)I"⟩
abbrev c_St_beginningWith : ByteArray := prog_7_method_13_code
def y_St_beginningWith : MethodName := ⟨"GaleNames$State", "beginningWith", "(I)I"⟩
abbrev c_St_rankOf : ByteArray := prog_7_method_14_code
def y_St_rankOf : MethodName := ⟨"GaleNames$State", "rankOf", "(I)I"⟩
abbrev c_St_knownWith : ByteArray := prog_7_method_15_code
def y_St_knownWith : MethodName := ⟨"GaleNames$State", "knownWith", "(LGaleNames$Row;)I"⟩
abbrev c_St_learn : ByteArray := prog_7_method_16_code
def y_St_learn : MethodName := ⟨"GaleNames$State", "learn", "(I)I"⟩
abbrev c_St_wasGiven : ByteArray := prog_7_method_17_code
def y_St_wasGiven : MethodName := ⟨"GaleNames$State", "wasGiven", "(II)Z"⟩
abbrev c_St_nextName : ByteArray := prog_7_method_18_code
def y_St_nextName : MethodName := ⟨"GaleNames$State", "nextName", "(I)I"⟩
abbrev c_St_namesLeft : ByteArray := prog_7_method_19_code
def y_St_namesLeft : MethodName := ⟨"GaleNames$State", "namesLeft", "(II)I"⟩
abbrev c_St_addStorm : ByteArray := prog_7_method_20_code
def y_St_addStorm : MethodName := ⟨"GaleNames$State", "addStorm", "(II)I"⟩
abbrev c_St_twinOf : ByteArray := prog_7_method_21_code
def y_St_twinOf : MethodName := ⟨"GaleNames$State", "twinOf", "(I)I"⟩
abbrev c_St_twins : ByteArray := prog_7_method_22_code
def y_St_twins : MethodName := ⟨"GaleNames$State", "twins", "()I"⟩
abbrev c_St_harmOfYear : ByteArray := prog_7_method_23_code
def y_St_harmOfYear : MethodName := ⟨"GaleNames$State", "harmOfYear", "(I)I"⟩
abbrev c_St_harmedBy : ByteArray := prog_7_method_24_code
def y_St_harmedBy : MethodName := ⟨"GaleNames$State", "harmedBy", "(I)I"⟩
abbrev c_St_oweApologies : ByteArray := prog_7_method_25_code
def y_St_oweApologies : MethodName := ⟨"GaleNames$State", "oweApologies", "()V"⟩
abbrev c_St_retireHarmed : ByteArray := prog_7_method_26_code
def y_St_retireHarmed : MethodName := ⟨"GaleNames$State", "retireHarmed", "()I"⟩
abbrev c_St_retire : ByteArray := prog_7_method_27_code
def y_St_retire : MethodName := ⟨"GaleNames$State", "retire", "(I)V"⟩
abbrev c_St_beginNextYear : ByteArray := prog_7_method_28_code
def y_St_beginNextYear : MethodName := ⟨"GaleNames$State", "beginNextYear", "()V"⟩
abbrev c_St_addNamesake : ByteArray := prog_7_method_29_code
def y_St_addNamesake : MethodName := ⟨"GaleNames$State", "addNamesake", "(I)I"⟩
abbrev c_St_namesakesOf : ByteArray := prog_7_method_30_code
def y_St_namesakesOf : MethodName := ⟨"GaleNames$State", "namesakesOf", "(I)I"⟩
abbrev c_Ga_init : ByteArray := prog_1_method_1_code
def y_Ga_init : MethodName := ⟨"GaleNames", "<init>", "()V"⟩
abbrev c_Ga_set : ByteArray := prog_1_method_2_code
def y_Ga_set : MethodName := ⟨"GaleNames", "set", "(II)I"⟩
abbrev c_Ga_fill : ByteArray := prog_1_method_3_code
def y_Ga_fill : MethodName := ⟨"GaleNames", "fill", "(II)I"⟩
abbrev c_Ga_strike : ByteArray := prog_1_method_4_code
def y_Ga_strike : MethodName := ⟨"GaleNames", "strike", "(III)I"⟩
abbrev c_Ga_storm : ByteArray := prog_1_method_5_code
def y_Ga_storm : MethodName := ⟨"GaleNames", "storm", "(I)I"⟩
abbrev c_Ga_harm : ByteArray := prog_1_method_6_code
def y_Ga_harm : MethodName := ⟨"GaleNames", "harm", "(II)I"⟩
abbrev c_Ga_endYear : ByteArray := prog_1_method_7_code
def y_Ga_endYear : MethodName := ⟨"GaleNames", "endYear", "()I"⟩
abbrev c_Ga_namesake : ByteArray := prog_1_method_8_code
def y_Ga_namesake : MethodName := ⟨"GaleNames", "namesake", "()I"⟩
abbrev c_Ga_apologise : ByteArray := prog_1_method_9_code
def y_Ga_apologise : MethodName := ⟨"GaleNames", "apologise", "(I)I"⟩
abbrev c_Ga_write : ByteArray := prog_1_method_10_code
def y_Ga_write : MethodName := ⟨"GaleNames", "write", "(II)I"⟩
abbrev c_Ga_of : ByteArray := prog_1_method_11_code
def y_Ga_of : MethodName := ⟨"GaleNames", "of", "(II)I"⟩
abbrev c_Ga_letter : ByteArray := prog_1_method_12_code
def y_Ga_letter : MethodName := ⟨"GaleNames", "letter", "(II)I"⟩
abbrev c_Ga_listed : ByteArray := prog_1_method_13_code
def y_Ga_listed : MethodName := ⟨"GaleNames", "listed", "(III)I"⟩
abbrev c_Ga_ofStorm : ByteArray := prog_1_method_14_code
def y_Ga_ofStorm : MethodName := ⟨"GaleNames", "ofStorm", "(II)I"⟩
abbrev c_Ga_ofNamesake : ByteArray := prog_1_method_15_code
def y_Ga_ofNamesake : MethodName := ⟨"GaleNames", "ofNamesake", "(II)I"⟩
abbrev c_Ga_ranked : ByteArray := prog_1_method_16_code
def y_Ga_ranked : MethodName := ⟨"GaleNames", "ranked", "(I)I"⟩
abbrev c_Ga_sign : ByteArray := prog_1_method_17_code
def y_Ga_sign : MethodName := ⟨"GaleNames", "sign", "(I)I"⟩
abbrev c_Ga_count : ByteArray := prog_1_method_18_code
def y_Ga_count : MethodName := ⟨"GaleNames", "count", "(I)I"⟩
abbrev c_Ga_find : ByteArray := prog_1_method_19_code
def y_Ga_find : MethodName := ⟨"GaleNames", "find", "()I"⟩
abbrev c_Ga_beginning : ByteArray := prog_1_method_20_code
def y_Ga_beginning : MethodName := ⟨"GaleNames", "beginning", "()I"⟩
abbrev c_Ga_next : ByteArray := prog_1_method_21_code
def y_Ga_next : MethodName := ⟨"GaleNames", "next", "(I)I"⟩
abbrev c_Ga_left : ByteArray := prog_1_method_22_code
def y_Ga_left : MethodName := ⟨"GaleNames", "left", "(II)I"⟩
abbrev c_Ga_ifRetired : ByteArray := prog_1_method_23_code
def y_Ga_ifRetired : MethodName := ⟨"GaleNames", "ifRetired", "(I)I"⟩
abbrev c_Ga_same : ByteArray := prog_1_method_24_code
def y_Ga_same : MethodName := ⟨"GaleNames", "same", "(II)I"⟩
abbrev c_Ga_put : ByteArray := prog_1_method_25_code
def y_Ga_put : MethodName := ⟨"GaleNames", "put", "(J)I"⟩
abbrev c_Ga_wipe : ByteArray := prog_1_method_26_code
def y_Ga_wipe : MethodName := ⟨"GaleNames", "wipe", "()I"⟩
abbrev c_Ga_fault : ByteArray := prog_1_method_27_code
def y_Ga_fault : MethodName := ⟨"GaleNames", "fault", "()I"⟩
abbrev c_Ga_undo : ByteArray := prog_1_method_28_code
def y_Ga_undo : MethodName := ⟨"GaleNames", "undo", "()I"⟩
abbrev c_Ga_save : ByteArray := prog_1_method_29_code
def y_Ga_save : MethodName := ⟨"GaleNames", "save", "(I)I"⟩
abbrev c_Ga_restore : ByteArray := prog_1_method_30_code
def y_Ga_restore : MethodName := ⟨"GaleNames", "restore", "(I)I"⟩
abbrev c_Ga_isCoast : ByteArray := prog_1_method_31_code
def y_Ga_isCoast : MethodName := ⟨"GaleNames", "isCoast", "(I)Z"⟩
abbrev c_Ga_signsIn : ByteArray := prog_1_method_32_code
def y_Ga_signsIn : MethodName := ⟨"GaleNames", "signsIn", "(J)I"⟩
theorem se_St_isTaken : Cond.selects "GaleNames$State" y_St_isTaken y_St_isTaken ∈ lw_g := lw_mg (List.mem_of_getElem? (i := 0) (by decide +kernel)) rfl
theorem se_St_isAlikeToListed : Cond.selects "GaleNames$State" y_St_isAlikeToListed y_St_isAlikeToListed ∈ lw_g := lw_mg (List.mem_of_getElem? (i := 1) (by decide +kernel)) rfl
theorem se_St_areAlike : Cond.selects "GaleNames$State" y_St_areAlike y_St_areAlike ∈ lw_g := lw_mg (List.mem_of_getElem? (i := 2) (by decide +kernel)) rfl
theorem se_Hi_dropOldest : Cond.selects "GaleNames$History" y_Hi_dropOldest y_Hi_dropOldest ∈ lw_g := lw_mg (List.mem_of_getElem? (i := 3) (by decide +kernel)) rfl
theorem se_Hi_stateAt : Cond.selects "GaleNames$History" y_Hi_stateAt y_Hi_stateAt ∈ lw_g := lw_mg (List.mem_of_getElem? (i := 4) (by decide +kernel)) rfl
theorem se_St_wasGiven : Cond.selects "GaleNames$State" y_St_wasGiven y_St_wasGiven ∈ lw_g := lw_mg (List.mem_of_getElem? (i := 5) (by decide +kernel)) rfl
theorem se_St_harmOfYear : Cond.selects "GaleNames$State" y_St_harmOfYear y_St_harmOfYear ∈ lw_g := lw_mg (List.mem_of_getElem? (i := 6) (by decide +kernel)) rfl
theorem se_St_retire : Cond.selects "GaleNames$State" y_St_retire y_St_retire ∈ lw_g := lw_mg (List.mem_of_getElem? (i := 7) (by decide +kernel)) rfl
theorem in_La : Cond.initialized "GaleNamesLaw" ∈ lw_g := lw_mg (List.mem_of_getElem? (i := 8) (by decide +kernel)) rfl
theorem in_Ga : Cond.initialized "GaleNames" ∈ lw_g := lw_mg (List.mem_of_getElem? (i := 9) (by decide +kernel)) rfl
theorem in_St : Cond.initialized "GaleNames$State" ∈ lw_g := lw_mg (List.mem_of_getElem? (i := 10) (by decide +kernel)) rfl
theorem in_Ro : Cond.initialized "GaleNames$Row" ∈ lw_g := lw_mg (List.mem_of_getElem? (i := 11) (by decide +kernel)) rfl
theorem in_Ma : Cond.initialized "java/lang/Math" ∈ lw_g := lw_mg (List.mem_of_getElem? (i := 12) (by decide +kernel)) rfl
theorem in_Pa : Cond.initialized "GaleNames$Pad" ∈ lw_g := lw_mg (List.mem_of_getElem? (i := 13) (by decide +kernel)) rfl
theorem in_Hi : Cond.initialized "GaleNames$History" ∈ lw_g := lw_mg (List.mem_of_getElem? (i := 14) (by decide +kernel)) rfl
theorem in_Sl : Cond.initialized "GaleNames$Slots" ∈ lw_g := lw_mg (List.mem_of_getElem? (i := 15) (by decide +kernel)) rfl
theorem in_Sy : Cond.initialized "java/lang/System" ∈ lw_g := lw_mg (List.mem_of_getElem? (i := 16) (by decide +kernel)) rfl
theorem in_Ke : Cond.initialized "GaleNames$Key" ∈ lw_g := lw_mg (List.mem_of_getElem? (i := 17) (by decide +kernel)) rfl
theorem is_Ga : Cond.instantiable "GaleNames" 4 ∈ lw_g := lw_mg (List.mem_of_getElem? (i := 19) (by decide +kernel)) rfl
theorem im_Ga_init : Cond.instanceMethod y_Ga_init ∈ lw_g := lw_mg (List.mem_of_getElem? (i := 21) (by decide +kernel)) rfl
theorem co_Ga_init : Cond.code y_Ga_init prog_1_method_1_code 1 (Option.none : Option Jvm.ClassFile.FieldType) ∈ lw_g := lw_mg (List.mem_of_getElem? (i := 22) (by decide +kernel)) rfl
theorem ml_Ga_3 : Cond.methodLink "GaleNames" 3 ⟨"java/lang/Object", "<init>", "()V"⟩ ∈ lw_g := lw_mg (List.mem_of_getElem? (i := 23) (by decide +kernel)) rfl
theorem im_Ob_init : Cond.instanceMethod ⟨"java/lang/Object", "<init>", "()V"⟩ ∈ lw_g := lw_mg (List.mem_of_getElem? (i := 24) (by decide +kernel)) rfl
theorem co_Ob_init : Cond.code ⟨"java/lang/Object", "<init>", "()V"⟩ object_method_1_code 1 (Option.none : Option Jvm.ClassFile.FieldType) ∈ lw_g := lw_mg (List.mem_of_getElem? (i := 25) (by decide +kernel)) rfl
theorem cl_Ga_9 : Cond.classLink "GaleNames" 9 "GaleNames$State" ∈ lw_g := lw_mg (List.mem_of_getElem? (i := 26) (by decide +kernel)) rfl
theorem is_St : Cond.instantiable "GaleNames$State" 13 ∈ lw_g := lw_mg (List.mem_of_getElem? (i := 27) (by decide +kernel)) rfl
theorem ml_Ga_11 : Cond.methodLink "GaleNames" 11 y_St_init ∈ lw_g := lw_mg (List.mem_of_getElem? (i := 28) (by decide +kernel)) rfl
theorem im_St_init : Cond.instanceMethod y_St_init ∈ lw_g := lw_mg (List.mem_of_getElem? (i := 29) (by decide +kernel)) rfl
theorem co_St_init : Cond.code y_St_init prog_7_method_1_code 2 (Option.none : Option Jvm.ClassFile.FieldType) ∈ lw_g := lw_mg (List.mem_of_getElem? (i := 30) (by decide +kernel)) rfl
theorem ml_St_3 : Cond.methodLink "GaleNames$State" 3 ⟨"java/lang/Object", "<init>", "()V"⟩ ∈ lw_g := lw_mg (List.mem_of_getElem? (i := 31) (by decide +kernel)) rfl
theorem cl_St_9 : Cond.classLink "GaleNames$State" 9 "GaleNames$Row" ∈ lw_g := lw_mg (List.mem_of_getElem? (i := 32) (by decide +kernel)) rfl
theorem is_Ro : Cond.instantiable "GaleNames$Row" 2 ∈ lw_g := lw_mg (List.mem_of_getElem? (i := 33) (by decide +kernel)) rfl
theorem ml_St_11 : Cond.methodLink "GaleNames$State" 11 y_Ro_init ∈ lw_g := lw_mg (List.mem_of_getElem? (i := 34) (by decide +kernel)) rfl
theorem im_Ro_init : Cond.instanceMethod y_Ro_init ∈ lw_g := lw_mg (List.mem_of_getElem? (i := 35) (by decide +kernel)) rfl
theorem co_Ro_init : Cond.code y_Ro_init prog_5_method_1_code 2 (Option.none : Option Jvm.ClassFile.FieldType) ∈ lw_g := lw_mg (List.mem_of_getElem? (i := 36) (by decide +kernel)) rfl
theorem ml_Ro_3 : Cond.methodLink "GaleNames$Row" 3 ⟨"java/lang/Object", "<init>", "()V"⟩ ∈ lw_g := lw_mg (List.mem_of_getElem? (i := 37) (by decide +kernel)) rfl
theorem ml_Ro_9 : Cond.methodLink "GaleNames$Row" 9 ⟨"java/lang/Math", "max", "(II)I"⟩ ∈ lw_g := lw_mg (List.mem_of_getElem? (i := 38) (by decide +kernel)) rfl
theorem sm_Ma_max : Cond.static ⟨"java/lang/Math", "max", "(II)I"⟩ ∈ lw_g := lw_mg (List.mem_of_getElem? (i := 39) (by decide +kernel)) rfl
theorem co_Ma_max : Cond.code ⟨"java/lang/Math", "max", "(II)I"⟩ prog_10_method_65_code 2 (Option.some Jvm.ClassFile.FieldType.int) ∈ lw_g := lw_mg (List.mem_of_getElem? (i := 40) (by decide +kernel)) rfl
theorem fl_Ro_15 : Cond.fieldLink "GaleNames$Row" 15 "GaleNames$Row" "cells" "[I" ∈ lw_g := lw_mg (List.mem_of_getElem? (i := 41) (by decide +kernel)) rfl
theorem fl_Ro_21 : Cond.fieldLink "GaleNames$Row" 21 "GaleNames$Row" "size" "I" ∈ lw_g := lw_mg (List.mem_of_getElem? (i := 42) (by decide +kernel)) rfl
theorem ml_St_54 : Cond.methodLink "GaleNames$State" 54 y_Ro_add ∈ lw_g := lw_mg (List.mem_of_getElem? (i := 50) (by decide +kernel)) rfl
theorem im_Ro_add : Cond.instanceMethod y_Ro_add ∈ lw_g := lw_mg (List.mem_of_getElem? (i := 51) (by decide +kernel)) rfl
theorem se_Ro_add : Cond.selects "GaleNames$Row" y_Ro_add y_Ro_add ∈ lw_g := lw_mg (List.mem_of_getElem? (i := 52) (by decide +kernel)) rfl
theorem co_Ro_add : Cond.code y_Ro_add prog_5_method_7_code 2 (Option.none : Option Jvm.ClassFile.FieldType) ∈ lw_g := lw_mg (List.mem_of_getElem? (i := 53) (by decide +kernel)) rfl
theorem fl_St_57 : Cond.fieldLink "GaleNames$State" 57 "GaleNames$State" "year" "I" ∈ lw_g := lw_mg (List.mem_of_getElem? (i := 54) (by decide +kernel)) rfl
theorem fn_Ga_120 : Cond.fieldLinkNest "GaleNames" 120 "GaleNames$State" "year" "I" "GaleNames" ∈ lw_n := lw_mn (List.mem_of_getElem? (i := 55) (by decide +kernel)) rfl
theorem fl_St_14 : Cond.fieldLink "GaleNames$State" 14 "GaleNames$State" "settings" "LGaleNames$Row;" ∈ lw_g := lw_mg (List.mem_of_getElem? (i := 56) (by decide +kernel)) rfl
theorem fn_Ga_41 : Cond.fieldLinkNest "GaleNames" 41 "GaleNames$State" "settings" "LGaleNames$Row;" "GaleNames" ∈ lw_n := lw_mn (List.mem_of_getElem? (i := 57) (by decide +kernel)) rfl
theorem fl_St_20 : Cond.fieldLink "GaleNames$State" 20 "GaleNames$State" "keys" "LGaleNames$Row;" ∈ lw_g := lw_mg (List.mem_of_getElem? (i := 58) (by decide +kernel)) rfl
theorem fn_Ga_149 : Cond.fieldLinkNest "GaleNames" 149 "GaleNames$State" "keys" "LGaleNames$Row;" "GaleNames" ∈ lw_n := lw_mn (List.mem_of_getElem? (i := 59) (by decide +kernel)) rfl
theorem fl_St_23 : Cond.fieldLink "GaleNames$State" 23 "GaleNames$State" "retired" "LGaleNames$Row;" ∈ lw_g := lw_mg (List.mem_of_getElem? (i := 60) (by decide +kernel)) rfl
theorem fn_Ga_160 : Cond.fieldLinkNest "GaleNames" 160 "GaleNames$State" "retired" "LGaleNames$Row;" "GaleNames" ∈ lw_n := lw_mn (List.mem_of_getElem? (i := 61) (by decide +kernel)) rfl
theorem fl_St_26 : Cond.fieldLink "GaleNames$State" 26 "GaleNames$State" "stormsOfNames" "LGaleNames$Row;" ∈ lw_g := lw_mg (List.mem_of_getElem? (i := 62) (by decide +kernel)) rfl
theorem fn_Ga_166 : Cond.fieldLinkNest "GaleNames" 166 "GaleNames$State" "stormsOfNames" "LGaleNames$Row;" "GaleNames" ∈ lw_n := lw_mn (List.mem_of_getElem? (i := 63) (by decide +kernel)) rfl
theorem fl_St_29 : Cond.fieldLink "GaleNames$State" 29 "GaleNames$State" "harmsOfNames" "LGaleNames$Row;" ∈ lw_g := lw_mg (List.mem_of_getElem? (i := 64) (by decide +kernel)) rfl
theorem fn_Ga_111 : Cond.fieldLinkNest "GaleNames" 111 "GaleNames$State" "harmsOfNames" "LGaleNames$Row;" "GaleNames" ∈ lw_n := lw_mn (List.mem_of_getElem? (i := 65) (by decide +kernel)) rfl
theorem fl_St_32 : Cond.fieldLink "GaleNames$State" 32 "GaleNames$State" "lists" "[LGaleNames$Row;" ∈ lw_g := lw_mg (List.mem_of_getElem? (i := 66) (by decide +kernel)) rfl
theorem fl_St_36 : Cond.fieldLink "GaleNames$State" 36 "GaleNames$State" "stormNames" "LGaleNames$Row;" ∈ lw_g := lw_mg (List.mem_of_getElem? (i := 67) (by decide +kernel)) rfl
theorem fn_Ga_104 : Cond.fieldLinkNest "GaleNames" 104 "GaleNames$State" "stormNames" "LGaleNames$Row;" "GaleNames" ∈ lw_n := lw_mn (List.mem_of_getElem? (i := 68) (by decide +kernel)) rfl
theorem fl_St_39 : Cond.fieldLink "GaleNames$State" 39 "GaleNames$State" "stormCoasts" "LGaleNames$Row;" ∈ lw_g := lw_mg (List.mem_of_getElem? (i := 69) (by decide +kernel)) rfl
theorem fn_Ga_181 : Cond.fieldLinkNest "GaleNames" 181 "GaleNames$State" "stormCoasts" "LGaleNames$Row;" "GaleNames" ∈ lw_n := lw_mn (List.mem_of_getElem? (i := 70) (by decide +kernel)) rfl
theorem fl_St_42 : Cond.fieldLink "GaleNames$State" 42 "GaleNames$State" "stormHarms" "LGaleNames$Row;" ∈ lw_g := lw_mg (List.mem_of_getElem? (i := 71) (by decide +kernel)) rfl
theorem fn_Ga_117 : Cond.fieldLinkNest "GaleNames" 117 "GaleNames$State" "stormHarms" "LGaleNames$Row;" "GaleNames" ∈ lw_n := lw_mn (List.mem_of_getElem? (i := 72) (by decide +kernel)) rfl
theorem fl_St_45 : Cond.fieldLink "GaleNames$State" 45 "GaleNames$State" "namesakeNames" "LGaleNames$Row;" ∈ lw_g := lw_mg (List.mem_of_getElem? (i := 73) (by decide +kernel)) rfl
theorem fn_Ga_137 : Cond.fieldLinkNest "GaleNames" 137 "GaleNames$State" "namesakeNames" "LGaleNames$Row;" "GaleNames" ∈ lw_n := lw_mn (List.mem_of_getElem? (i := 74) (by decide +kernel)) rfl
theorem fl_St_48 : Cond.fieldLink "GaleNames$State" 48 "GaleNames$State" "owed" "LGaleNames$Row;" ∈ lw_g := lw_mg (List.mem_of_getElem? (i := 75) (by decide +kernel)) rfl
theorem fn_Ga_143 : Cond.fieldLinkNest "GaleNames" 143 "GaleNames$State" "owed" "LGaleNames$Row;" "GaleNames" ∈ lw_n := lw_mn (List.mem_of_getElem? (i := 76) (by decide +kernel)) rfl
theorem fl_St_51 : Cond.fieldLink "GaleNames$State" 51 "GaleNames$State" "written" "LGaleNames$Row;" ∈ lw_g := lw_mg (List.mem_of_getElem? (i := 77) (by decide +kernel)) rfl
theorem fn_Ga_146 : Cond.fieldLinkNest "GaleNames" 146 "GaleNames$State" "written" "LGaleNames$Row;" "GaleNames" ∈ lw_n := lw_mn (List.mem_of_getElem? (i := 78) (by decide +kernel)) rfl
theorem cl_Ga_16 : Cond.classLink "GaleNames" 16 "GaleNames$Pad" ∈ lw_g := lw_mg (List.mem_of_getElem? (i := 106) (by decide +kernel)) rfl
theorem is_Pa : Cond.instantiable "GaleNames$Pad" 2 ∈ lw_g := lw_mg (List.mem_of_getElem? (i := 107) (by decide +kernel)) rfl
theorem mn_Ga_18 : Cond.methodLinkNest "GaleNames" 18 y_Pa_init "GaleNames" ∈ lw_n := lw_mn (List.mem_of_getElem? (i := 108) (by decide +kernel)) rfl
theorem im_Pa_init : Cond.instanceMethod y_Pa_init ∈ lw_g := lw_mg (List.mem_of_getElem? (i := 109) (by decide +kernel)) rfl
theorem co_Pa_init : Cond.code y_Pa_init prog_4_method_1_code 1 (Option.none : Option Jvm.ClassFile.FieldType) ∈ lw_g := lw_mg (List.mem_of_getElem? (i := 110) (by decide +kernel)) rfl
theorem ml_Pa_3 : Cond.methodLink "GaleNames$Pad" 3 ⟨"java/lang/Object", "<init>", "()V"⟩ ∈ lw_g := lw_mg (List.mem_of_getElem? (i := 111) (by decide +kernel)) rfl
theorem cl_Pa_9 : Cond.classLink "GaleNames$Pad" 9 "GaleNames$Row" ∈ lw_g := lw_mg (List.mem_of_getElem? (i := 112) (by decide +kernel)) rfl
theorem ml_Pa_11 : Cond.methodLink "GaleNames$Pad" 11 y_Ro_init ∈ lw_g := lw_mg (List.mem_of_getElem? (i := 113) (by decide +kernel)) rfl
theorem fl_Pa_14 : Cond.fieldLink "GaleNames$Pad" 14 "GaleNames$Pad" "signs" "LGaleNames$Row;" ∈ lw_g := lw_mg (List.mem_of_getElem? (i := 114) (by decide +kernel)) rfl
theorem fl_Pa_20 : Cond.fieldLink "GaleNames$Pad" 20 "GaleNames$Pad" "told" "LGaleNames$Row;" ∈ lw_g := lw_mg (List.mem_of_getElem? (i := 115) (by decide +kernel)) rfl
theorem cl_Ga_23 : Cond.classLink "GaleNames" 23 "GaleNames$History" ∈ lw_g := lw_mg (List.mem_of_getElem? (i := 121) (by decide +kernel)) rfl
theorem is_Hi : Cond.instantiable "GaleNames$History" 2 ∈ lw_g := lw_mg (List.mem_of_getElem? (i := 122) (by decide +kernel)) rfl
theorem ml_Ga_25 : Cond.methodLink "GaleNames" 25 y_Hi_init ∈ lw_g := lw_mg (List.mem_of_getElem? (i := 123) (by decide +kernel)) rfl
theorem im_Hi_init : Cond.instanceMethod y_Hi_init ∈ lw_g := lw_mg (List.mem_of_getElem? (i := 124) (by decide +kernel)) rfl
theorem co_Hi_init : Cond.code y_Hi_init prog_2_method_1_code 2 (Option.none : Option Jvm.ClassFile.FieldType) ∈ lw_g := lw_mg (List.mem_of_getElem? (i := 125) (by decide +kernel)) rfl
theorem ml_Hi_3 : Cond.methodLink "GaleNames$History" 3 ⟨"java/lang/Object", "<init>", "()V"⟩ ∈ lw_g := lw_mg (List.mem_of_getElem? (i := 126) (by decide +kernel)) rfl
theorem cl_Hi_9 : Cond.classLink "GaleNames$History" 9 "GaleNames$State" ∈ lw_g := lw_mg (List.mem_of_getElem? (i := 127) (by decide +kernel)) rfl
theorem ml_Hi_17 : Cond.methodLink "GaleNames$History" 17 y_St_init ∈ lw_g := lw_mg (List.mem_of_getElem? (i := 129) (by decide +kernel)) rfl
theorem fl_Hi_11 : Cond.fieldLink "GaleNames$History" 11 "GaleNames$History" "states" "[LGaleNames$State;" ∈ lw_g := lw_mg (List.mem_of_getElem? (i := 130) (by decide +kernel)) rfl
theorem fl_Hi_18 : Cond.fieldLink "GaleNames$History" 18 "GaleNames$History" "size" "I" ∈ lw_g := lw_mg (List.mem_of_getElem? (i := 131) (by decide +kernel)) rfl
theorem cl_Ga_30 : Cond.classLink "GaleNames" 30 "GaleNames$Slots" ∈ lw_g := lw_mg (List.mem_of_getElem? (i := 137) (by decide +kernel)) rfl
theorem is_Sl : Cond.instantiable "GaleNames$Slots" 1 ∈ lw_g := lw_mg (List.mem_of_getElem? (i := 138) (by decide +kernel)) rfl
theorem mn_Ga_32 : Cond.methodLinkNest "GaleNames" 32 y_Sl_init "GaleNames" ∈ lw_n := lw_mn (List.mem_of_getElem? (i := 139) (by decide +kernel)) rfl
theorem im_Sl_init : Cond.instanceMethod y_Sl_init ∈ lw_g := lw_mg (List.mem_of_getElem? (i := 140) (by decide +kernel)) rfl
theorem co_Sl_init : Cond.code y_Sl_init prog_6_method_1_code 1 (Option.none : Option Jvm.ClassFile.FieldType) ∈ lw_g := lw_mg (List.mem_of_getElem? (i := 141) (by decide +kernel)) rfl
theorem ml_Sl_3 : Cond.methodLink "GaleNames$Slots" 3 ⟨"java/lang/Object", "<init>", "()V"⟩ ∈ lw_g := lw_mg (List.mem_of_getElem? (i := 142) (by decide +kernel)) rfl
theorem cl_Sl_9 : Cond.classLink "GaleNames$Slots" 9 "GaleNames$State" ∈ lw_g := lw_mg (List.mem_of_getElem? (i := 143) (by decide +kernel)) rfl
theorem fl_Sl_11 : Cond.fieldLink "GaleNames$Slots" 11 "GaleNames$Slots" "states" "[LGaleNames$State;" ∈ lw_g := lw_mg (List.mem_of_getElem? (i := 144) (by decide +kernel)) rfl
theorem fl_Ga_12 : Cond.fieldLink "GaleNames" 12 "GaleNames" "now" "LGaleNames$State;" ∈ lw_g := lw_mg (List.mem_of_getElem? (i := 148) (by decide +kernel)) rfl
theorem fl_Ga_19 : Cond.fieldLink "GaleNames" 19 "GaleNames" "pad" "LGaleNames$Pad;" ∈ lw_g := lw_mg (List.mem_of_getElem? (i := 149) (by decide +kernel)) rfl
theorem fl_Ga_26 : Cond.fieldLink "GaleNames" 26 "GaleNames" "history" "LGaleNames$History;" ∈ lw_g := lw_mg (List.mem_of_getElem? (i := 150) (by decide +kernel)) rfl
theorem fl_Ga_33 : Cond.fieldLink "GaleNames" 33 "GaleNames" "slots" "LGaleNames$Slots;" ∈ lw_g := lw_mg (List.mem_of_getElem? (i := 151) (by decide +kernel)) rfl
theorem im_Ga_fill : Cond.instanceMethod y_Ga_fill ∈ lw_g := lw_mg (List.mem_of_getElem? (i := 162) (by decide +kernel)) rfl
theorem se_Ga_fill : Cond.selects "GaleNames" y_Ga_fill y_Ga_fill ∈ lw_g := lw_mg (List.mem_of_getElem? (i := 163) (by decide +kernel)) rfl
theorem co_Ga_fill : Cond.code y_Ga_fill prog_1_method_3_code 6 (Option.some Jvm.ClassFile.FieldType.int) ∈ lw_g := lw_mg (List.mem_of_getElem? (i := 164) (by decide +kernel)) rfl
theorem ml_Ga_55 : Cond.methodLink "GaleNames" 55 y_St_listOf ∈ lw_g := lw_mg (List.mem_of_getElem? (i := 165) (by decide +kernel)) rfl
theorem im_St_listOf : Cond.instanceMethod y_St_listOf ∈ lw_g := lw_mg (List.mem_of_getElem? (i := 166) (by decide +kernel)) rfl
theorem se_St_listOf : Cond.selects "GaleNames$State" y_St_listOf y_St_listOf ∈ lw_g := lw_mg (List.mem_of_getElem? (i := 167) (by decide +kernel)) rfl
theorem co_St_listOf : Cond.code y_St_listOf prog_7_method_4_code 4 (Option.some (Jvm.ClassFile.FieldType.object "GaleNames$Row")) ∈ lw_g := lw_mg (List.mem_of_getElem? (i := 168) (by decide +kernel)) rfl
theorem mn_St_73 : Cond.methodLinkNest "GaleNames$State" 73 y_Ga_isCoast "GaleNames" ∈ lw_n := lw_mn (List.mem_of_getElem? (i := 169) (by decide +kernel)) rfl
theorem sm_Ga_isCoast : Cond.static y_Ga_isCoast ∈ lw_g := lw_mg (List.mem_of_getElem? (i := 170) (by decide +kernel)) rfl
theorem co_Ga_isCoast : Cond.code y_Ga_isCoast prog_1_method_31_code 1 (Option.some Jvm.ClassFile.FieldType.boolean) ∈ lw_g := lw_mg (List.mem_of_getElem? (i := 171) (by decide +kernel)) rfl
theorem ml_Ga_59 : Cond.methodLink "GaleNames" 59 y_Pa_read ∈ lw_g := lw_mg (List.mem_of_getElem? (i := 172) (by decide +kernel)) rfl
theorem im_Pa_read : Cond.instanceMethod y_Pa_read ∈ lw_g := lw_mg (List.mem_of_getElem? (i := 173) (by decide +kernel)) rfl
theorem se_Pa_read : Cond.selects "GaleNames$Pad" y_Pa_read y_Pa_read ∈ lw_g := lw_mg (List.mem_of_getElem? (i := 174) (by decide +kernel)) rfl
theorem co_Pa_read : Cond.code y_Pa_read prog_4_method_4_code 5 (Option.some Jvm.ClassFile.FieldType.int) ∈ lw_g := lw_mg (List.mem_of_getElem? (i := 175) (by decide +kernel)) rfl
theorem ml_Pa_23 : Cond.methodLink "GaleNames$Pad" 23 y_Ro_clear ∈ lw_g := lw_mg (List.mem_of_getElem? (i := 176) (by decide +kernel)) rfl
theorem im_Ro_clear : Cond.instanceMethod y_Ro_clear ∈ lw_g := lw_mg (List.mem_of_getElem? (i := 177) (by decide +kernel)) rfl
theorem se_Ro_clear : Cond.selects "GaleNames$Row" y_Ro_clear y_Ro_clear ∈ lw_g := lw_mg (List.mem_of_getElem? (i := 178) (by decide +kernel)) rfl
theorem co_Ro_clear : Cond.code y_Ro_clear prog_5_method_9_code 1 (Option.none : Option Jvm.ClassFile.FieldType) ∈ lw_g := lw_mg (List.mem_of_getElem? (i := 179) (by decide +kernel)) rfl
theorem ml_Pa_26 : Cond.methodLink "GaleNames$Pad" 26 y_Ro_size ∈ lw_g := lw_mg (List.mem_of_getElem? (i := 180) (by decide +kernel)) rfl
theorem im_Ro_size : Cond.instanceMethod y_Ro_size ∈ lw_g := lw_mg (List.mem_of_getElem? (i := 181) (by decide +kernel)) rfl
theorem se_Ro_size : Cond.selects "GaleNames$Row" y_Ro_size y_Ro_size ∈ lw_g := lw_mg (List.mem_of_getElem? (i := 182) (by decide +kernel)) rfl
theorem co_Ro_size : Cond.code y_Ro_size prog_5_method_2_code 1 (Option.some Jvm.ClassFile.FieldType.int) ∈ lw_g := lw_mg (List.mem_of_getElem? (i := 183) (by decide +kernel)) rfl
theorem ml_Pa_30 : Cond.methodLink "GaleNames$Pad" 30 y_Ro_at ∈ lw_g := lw_mg (List.mem_of_getElem? (i := 184) (by decide +kernel)) rfl
theorem im_Ro_at : Cond.instanceMethod y_Ro_at ∈ lw_g := lw_mg (List.mem_of_getElem? (i := 185) (by decide +kernel)) rfl
theorem se_Ro_at : Cond.selects "GaleNames$Row" y_Ro_at y_Ro_at ∈ lw_g := lw_mg (List.mem_of_getElem? (i := 186) (by decide +kernel)) rfl
theorem co_Ro_at : Cond.code y_Ro_at prog_5_method_4_code 2 (Option.some Jvm.ClassFile.FieldType.int) ∈ lw_g := lw_mg (List.mem_of_getElem? (i := 187) (by decide +kernel)) rfl
theorem ml_Ro_25 : Cond.methodLink "GaleNames$Row" 25 y_Ro_has ∈ lw_g := lw_mg (List.mem_of_getElem? (i := 188) (by decide +kernel)) rfl
theorem im_Ro_has : Cond.instanceMethod y_Ro_has ∈ lw_g := lw_mg (List.mem_of_getElem? (i := 189) (by decide +kernel)) rfl
theorem se_Ro_has : Cond.selects "GaleNames$Row" y_Ro_has y_Ro_has ∈ lw_g := lw_mg (List.mem_of_getElem? (i := 190) (by decide +kernel)) rfl
theorem co_Ro_has : Cond.code y_Ro_has prog_5_method_3_code 2 (Option.some Jvm.ClassFile.FieldType.boolean) ∈ lw_g := lw_mg (List.mem_of_getElem? (i := 191) (by decide +kernel)) rfl
theorem ml_Pa_34 : Cond.methodLink "GaleNames$Pad" 34 y_Ke_letterOf ∈ lw_g := lw_mg (List.mem_of_getElem? (i := 192) (by decide +kernel)) rfl
theorem sm_Ke_letterOf : Cond.static y_Ke_letterOf ∈ lw_g := lw_mg (List.mem_of_getElem? (i := 193) (by decide +kernel)) rfl
theorem co_Ke_letterOf : Cond.code y_Ke_letterOf prog_3_method_5_code 2 (Option.some Jvm.ClassFile.FieldType.int) ∈ lw_g := lw_mg (List.mem_of_getElem? (i := 194) (by decide +kernel)) rfl
theorem ml_Pa_39 : Cond.methodLink "GaleNames$Pad" 39 y_Ke_withLetter ∈ lw_g := lw_mg (List.mem_of_getElem? (i := 195) (by decide +kernel)) rfl
theorem sm_Ke_withLetter : Cond.static y_Ke_withLetter ∈ lw_g := lw_mg (List.mem_of_getElem? (i := 196) (by decide +kernel)) rfl
theorem co_Ke_withLetter : Cond.code y_Ke_withLetter prog_3_method_3_code 3 (Option.some Jvm.ClassFile.FieldType.int) ∈ lw_g := lw_mg (List.mem_of_getElem? (i := 197) (by decide +kernel)) rfl
theorem ml_Pa_43 : Cond.methodLink "GaleNames$Pad" 43 y_Ro_add ∈ lw_g := lw_mg (List.mem_of_getElem? (i := 198) (by decide +kernel)) rfl
theorem ml_Ga_63 : Cond.methodLink "GaleNames" 63 y_Pa_told ∈ lw_g := lw_mg (List.mem_of_getElem? (i := 199) (by decide +kernel)) rfl
theorem im_Pa_told : Cond.instanceMethod y_Pa_told ∈ lw_g := lw_mg (List.mem_of_getElem? (i := 200) (by decide +kernel)) rfl
theorem se_Pa_told : Cond.selects "GaleNames$Pad" y_Pa_told y_Pa_told ∈ lw_g := lw_mg (List.mem_of_getElem? (i := 201) (by decide +kernel)) rfl
theorem co_Pa_told : Cond.code y_Pa_told prog_4_method_3_code 1 (Option.some (Jvm.ClassFile.FieldType.object "GaleNames$Row")) ∈ lw_g := lw_mg (List.mem_of_getElem? (i := 202) (by decide +kernel)) rfl
theorem ml_Ga_67 : Cond.methodLink "GaleNames" 67 y_St_mayJoin ∈ lw_g := lw_mg (List.mem_of_getElem? (i := 203) (by decide +kernel)) rfl
theorem im_St_mayJoin : Cond.instanceMethod y_St_mayJoin ∈ lw_g := lw_mg (List.mem_of_getElem? (i := 204) (by decide +kernel)) rfl
theorem se_St_mayJoin : Cond.selects "GaleNames$State" y_St_mayJoin y_St_mayJoin ∈ lw_g := lw_mg (List.mem_of_getElem? (i := 205) (by decide +kernel)) rfl
theorem co_St_mayJoin : Cond.code y_St_mayJoin prog_7_method_8_code 7 (Option.some Jvm.ClassFile.FieldType.boolean) ∈ lw_g := lw_mg (List.mem_of_getElem? (i := 206) (by decide +kernel)) rfl
theorem ml_St_84 : Cond.methodLink "GaleNames$State" 84 y_Ro_size ∈ lw_g := lw_mg (List.mem_of_getElem? (i := 207) (by decide +kernel)) rfl
theorem ml_St_88 : Cond.methodLink "GaleNames$State" 88 y_Ro_at ∈ lw_g := lw_mg (List.mem_of_getElem? (i := 208) (by decide +kernel)) rfl
theorem ml_St_92 : Cond.methodLink "GaleNames$State" 92 y_St_isTaken ∈ lw_g := lw_mg (List.mem_of_getElem? (i := 209) (by decide +kernel)) rfl
theorem im_St_isTaken : Cond.instanceMethod y_St_isTaken ∈ lw_g := lw_mg (List.mem_of_getElem? (i := 211) (by decide +kernel)) rfl
theorem co_St_isTaken : Cond.code y_St_isTaken prog_7_method_9_code 4 (Option.some Jvm.ClassFile.FieldType.boolean) ∈ lw_g := lw_mg (List.mem_of_getElem? (i := 212) (by decide +kernel)) rfl
theorem ml_St_102 : Cond.methodLink "GaleNames$State" 102 y_Ro_placeOf ∈ lw_g := lw_mg (List.mem_of_getElem? (i := 213) (by decide +kernel)) rfl
theorem im_Ro_placeOf : Cond.instanceMethod y_Ro_placeOf ∈ lw_g := lw_mg (List.mem_of_getElem? (i := 214) (by decide +kernel)) rfl
theorem se_Ro_placeOf : Cond.selects "GaleNames$Row" y_Ro_placeOf y_Ro_placeOf ∈ lw_g := lw_mg (List.mem_of_getElem? (i := 215) (by decide +kernel)) rfl
theorem co_Ro_placeOf : Cond.code y_Ro_placeOf prog_5_method_10_code 3 (Option.some Jvm.ClassFile.FieldType.int) ∈ lw_g := lw_mg (List.mem_of_getElem? (i := 216) (by decide +kernel)) rfl
theorem ml_Ro_29 : Cond.methodLink "GaleNames$Row" 29 y_Ro_at ∈ lw_g := lw_mg (List.mem_of_getElem? (i := 217) (by decide +kernel)) rfl
theorem ml_St_80 : Cond.methodLink "GaleNames$State" 80 y_St_standsOn ∈ lw_g := lw_mg (List.mem_of_getElem? (i := 218) (by decide +kernel)) rfl
theorem im_St_standsOn : Cond.instanceMethod y_St_standsOn ∈ lw_g := lw_mg (List.mem_of_getElem? (i := 219) (by decide +kernel)) rfl
theorem se_St_standsOn : Cond.selects "GaleNames$State" y_St_standsOn y_St_standsOn ∈ lw_g := lw_mg (List.mem_of_getElem? (i := 220) (by decide +kernel)) rfl
theorem co_St_standsOn : Cond.code y_St_standsOn prog_7_method_6_code 5 (Option.some Jvm.ClassFile.FieldType.boolean) ∈ lw_g := lw_mg (List.mem_of_getElem? (i := 221) (by decide +kernel)) rfl
theorem ml_St_65 : Cond.methodLink "GaleNames$State" 65 y_St_listOf ∈ lw_g := lw_mg (List.mem_of_getElem? (i := 222) (by decide +kernel)) rfl
theorem ml_St_77 : Cond.methodLink "GaleNames$State" 77 y_Ro_holds ∈ lw_g := lw_mg (List.mem_of_getElem? (i := 223) (by decide +kernel)) rfl
theorem im_Ro_holds : Cond.instanceMethod y_Ro_holds ∈ lw_g := lw_mg (List.mem_of_getElem? (i := 224) (by decide +kernel)) rfl
theorem se_Ro_holds : Cond.selects "GaleNames$Row" y_Ro_holds y_Ro_holds ∈ lw_g := lw_mg (List.mem_of_getElem? (i := 225) (by decide +kernel)) rfl
theorem co_Ro_holds : Cond.code y_Ro_holds prog_5_method_11_code 2 (Option.some Jvm.ClassFile.FieldType.boolean) ∈ lw_g := lw_mg (List.mem_of_getElem? (i := 226) (by decide +kernel)) rfl
theorem ml_Ro_37 : Cond.methodLink "GaleNames$Row" 37 y_Ro_placeOf ∈ lw_g := lw_mg (List.mem_of_getElem? (i := 227) (by decide +kernel)) rfl
theorem ml_St_95 : Cond.methodLink "GaleNames$State" 95 y_St_isAlikeToListed ∈ lw_g := lw_mg (List.mem_of_getElem? (i := 228) (by decide +kernel)) rfl
theorem im_St_isAlikeToListed : Cond.instanceMethod y_St_isAlikeToListed ∈ lw_g := lw_mg (List.mem_of_getElem? (i := 230) (by decide +kernel)) rfl
theorem co_St_isAlikeToListed : Cond.code y_St_isAlikeToListed prog_7_method_10_code 4 (Option.some Jvm.ClassFile.FieldType.boolean) ∈ lw_g := lw_mg (List.mem_of_getElem? (i := 231) (by decide +kernel)) rfl
theorem ml_St_99 : Cond.methodLink "GaleNames$State" 99 y_St_areAlike ∈ lw_g := lw_mg (List.mem_of_getElem? (i := 232) (by decide +kernel)) rfl
theorem im_St_areAlike : Cond.instanceMethod y_St_areAlike ∈ lw_g := lw_mg (List.mem_of_getElem? (i := 234) (by decide +kernel)) rfl
theorem co_St_areAlike : Cond.code y_St_areAlike prog_7_method_11_code 3 (Option.some Jvm.ClassFile.FieldType.boolean) ∈ lw_g := lw_mg (List.mem_of_getElem? (i := 235) (by decide +kernel)) rfl
theorem ml_St_105 : Cond.methodLink "GaleNames$State" 105 y_Ke_alike ∈ lw_g := lw_mg (List.mem_of_getElem? (i := 236) (by decide +kernel)) rfl
theorem sm_Ke_alike : Cond.static y_Ke_alike ∈ lw_g := lw_mg (List.mem_of_getElem? (i := 237) (by decide +kernel)) rfl
theorem co_Ke_alike : Cond.code y_Ke_alike prog_3_method_8_code 3 (Option.some Jvm.ClassFile.FieldType.boolean) ∈ lw_g := lw_mg (List.mem_of_getElem? (i := 238) (by decide +kernel)) rfl
theorem ml_Ke_11 : Cond.methodLink "GaleNames$Key" 11 y_Ke_shared ∈ lw_g := lw_mg (List.mem_of_getElem? (i := 239) (by decide +kernel)) rfl
theorem sm_Ke_shared : Cond.static y_Ke_shared ∈ lw_g := lw_mg (List.mem_of_getElem? (i := 240) (by decide +kernel)) rfl
theorem co_Ke_shared : Cond.code y_Ke_shared prog_3_method_7_code 3 (Option.some Jvm.ClassFile.FieldType.int) ∈ lw_g := lw_mg (List.mem_of_getElem? (i := 241) (by decide +kernel)) rfl
theorem ml_Ke_15 : Cond.methodLink "GaleNames$Key" 15 y_Ke_letterAt ∈ lw_g := lw_mg (List.mem_of_getElem? (i := 242) (by decide +kernel)) rfl
theorem sm_Ke_letterAt : Cond.static y_Ke_letterAt ∈ lw_g := lw_mg (List.mem_of_getElem? (i := 243) (by decide +kernel)) rfl
theorem co_Ke_letterAt : Cond.code y_Ke_letterAt prog_3_method_2_code 2 (Option.some Jvm.ClassFile.FieldType.int) ∈ lw_g := lw_mg (List.mem_of_getElem? (i := 244) (by decide +kernel)) rfl
theorem ml_Ga_71 : Cond.methodLink "GaleNames" 71 y_Ro_size ∈ lw_g := lw_mg (List.mem_of_getElem? (i := 245) (by decide +kernel)) rfl
theorem ml_Ga_74 : Cond.methodLink "GaleNames" 74 y_St_knownWith ∈ lw_g := lw_mg (List.mem_of_getElem? (i := 246) (by decide +kernel)) rfl
theorem im_St_knownWith : Cond.instanceMethod y_St_knownWith ∈ lw_g := lw_mg (List.mem_of_getElem? (i := 247) (by decide +kernel)) rfl
theorem se_St_knownWith : Cond.selects "GaleNames$State" y_St_knownWith y_St_knownWith ∈ lw_g := lw_mg (List.mem_of_getElem? (i := 248) (by decide +kernel)) rfl
theorem co_St_knownWith : Cond.code y_St_knownWith prog_7_method_15_code 4 (Option.some Jvm.ClassFile.FieldType.int) ∈ lw_g := lw_mg (List.mem_of_getElem? (i := 249) (by decide +kernel)) rfl
theorem ml_Ga_37 : Cond.methodLink "GaleNames" 37 y_Hi_record ∈ lw_g := lw_mg (List.mem_of_getElem? (i := 250) (by decide +kernel)) rfl
theorem im_Hi_record : Cond.instanceMethod y_Hi_record ∈ lw_g := lw_mg (List.mem_of_getElem? (i := 251) (by decide +kernel)) rfl
theorem se_Hi_record : Cond.selects "GaleNames$History" y_Hi_record y_Hi_record ∈ lw_g := lw_mg (List.mem_of_getElem? (i := 252) (by decide +kernel)) rfl
theorem co_Hi_record : Cond.code y_Hi_record prog_2_method_3_code 3 (Option.none : Option Jvm.ClassFile.FieldType) ∈ lw_g := lw_mg (List.mem_of_getElem? (i := 253) (by decide +kernel)) rfl
theorem ml_Hi_22 : Cond.methodLink "GaleNames$History" 22 y_Hi_dropOldest ∈ lw_g := lw_mg (List.mem_of_getElem? (i := 254) (by decide +kernel)) rfl
theorem im_Hi_dropOldest : Cond.instanceMethod y_Hi_dropOldest ∈ lw_g := lw_mg (List.mem_of_getElem? (i := 256) (by decide +kernel)) rfl
theorem co_Hi_dropOldest : Cond.code y_Hi_dropOldest prog_2_method_6_code 3 (Option.none : Option Jvm.ClassFile.FieldType) ∈ lw_g := lw_mg (List.mem_of_getElem? (i := 257) (by decide +kernel)) rfl
theorem ml_Hi_25 : Cond.methodLink "GaleNames$History" 25 y_Hi_stateAt ∈ lw_g := lw_mg (List.mem_of_getElem? (i := 258) (by decide +kernel)) rfl
theorem im_Hi_stateAt : Cond.instanceMethod y_Hi_stateAt ∈ lw_g := lw_mg (List.mem_of_getElem? (i := 260) (by decide +kernel)) rfl
theorem co_Hi_stateAt : Cond.code y_Hi_stateAt prog_2_method_5_code 2 (Option.some (Jvm.ClassFile.FieldType.object "GaleNames$State")) ∈ lw_g := lw_mg (List.mem_of_getElem? (i := 261) (by decide +kernel)) rfl
theorem ml_Hi_29 : Cond.methodLink "GaleNames$History" 29 y_St_copy ∈ lw_g := lw_mg (List.mem_of_getElem? (i := 262) (by decide +kernel)) rfl
theorem im_St_copy : Cond.instanceMethod y_St_copy ∈ lw_g := lw_mg (List.mem_of_getElem? (i := 263) (by decide +kernel)) rfl
theorem se_St_copy : Cond.selects "GaleNames$State" y_St_copy y_St_copy ∈ lw_g := lw_mg (List.mem_of_getElem? (i := 264) (by decide +kernel)) rfl
theorem co_St_copy : Cond.code y_St_copy prog_7_method_2_code 4 (Option.none : Option Jvm.ClassFile.FieldType) ∈ lw_g := lw_mg (List.mem_of_getElem? (i := 265) (by decide +kernel)) rfl
theorem ml_St_61 : Cond.methodLink "GaleNames$State" 61 y_Ro_copy ∈ lw_g := lw_mg (List.mem_of_getElem? (i := 266) (by decide +kernel)) rfl
theorem im_Ro_copy : Cond.instanceMethod y_Ro_copy ∈ lw_g := lw_mg (List.mem_of_getElem? (i := 267) (by decide +kernel)) rfl
theorem se_Ro_copy : Cond.selects "GaleNames$Row" y_Ro_copy y_Ro_copy ∈ lw_g := lw_mg (List.mem_of_getElem? (i := 268) (by decide +kernel)) rfl
theorem co_Ro_copy : Cond.code y_Ro_copy prog_5_method_14_code 3 (Option.none : Option Jvm.ClassFile.FieldType) ∈ lw_g := lw_mg (List.mem_of_getElem? (i := 269) (by decide +kernel)) rfl
theorem ml_Ro_40 : Cond.methodLink "GaleNames$Row" 40 ⟨"java/lang/Math", "min", "(II)I"⟩ ∈ lw_g := lw_mg (List.mem_of_getElem? (i := 270) (by decide +kernel)) rfl
theorem sm_Ma_min : Cond.static ⟨"java/lang/Math", "min", "(II)I"⟩ ∈ lw_g := lw_mg (List.mem_of_getElem? (i := 271) (by decide +kernel)) rfl
theorem co_Ma_min : Cond.code ⟨"java/lang/Math", "min", "(II)I"⟩ prog_10_method_69_code 2 (Option.some Jvm.ClassFile.FieldType.int) ∈ lw_g := lw_mg (List.mem_of_getElem? (i := 272) (by decide +kernel)) rfl
theorem ml_Ro_43 : Cond.methodLink "GaleNames$Row" 43 ⟨"java/lang/System", "arraycopy", "(Ljava/lang/Object;ILjava/lang/Object;II)V"⟩ ∈ lw_g := lw_mg (List.mem_of_getElem? (i := 273) (by decide +kernel)) rfl
theorem sm_Sy_arraycopy : Cond.static ⟨"java/lang/System", "arraycopy", "(Ljava/lang/Object;ILjava/lang/Object;II)V"⟩ ∈ lw_g := lw_mg (List.mem_of_getElem? (i := 274) (by decide +kernel)) rfl
theorem na_Sy_arraycopy : Cond.native ⟨"java/lang/System", "arraycopy", "(Ljava/lang/Object;ILjava/lang/Object;II)V"⟩ ∈ lw_g := lw_mg (List.mem_of_getElem? (i := 275) (by decide +kernel)) rfl
theorem ml_St_69 : Cond.methodLink "GaleNames$State" 69 y_St_copyList ∈ lw_g := lw_mg (List.mem_of_getElem? (i := 276) (by decide +kernel)) rfl
theorem sm_St_copyList : Cond.static y_St_copyList ∈ lw_g := lw_mg (List.mem_of_getElem? (i := 277) (by decide +kernel)) rfl
theorem co_St_copyList : Cond.code y_St_copyList prog_7_method_3_code 2 (Option.none : Option Jvm.ClassFile.FieldType) ∈ lw_g := lw_mg (List.mem_of_getElem? (i := 278) (by decide +kernel)) rfl
theorem ml_Ga_45 : Cond.methodLink "GaleNames" 45 y_Ro_at ∈ lw_g := lw_mg (List.mem_of_getElem? (i := 279) (by decide +kernel)) rfl
theorem ml_Ga_78 : Cond.methodLink "GaleNames" 78 y_St_learn ∈ lw_g := lw_mg (List.mem_of_getElem? (i := 280) (by decide +kernel)) rfl
theorem im_St_learn : Cond.instanceMethod y_St_learn ∈ lw_g := lw_mg (List.mem_of_getElem? (i := 281) (by decide +kernel)) rfl
theorem se_St_learn : Cond.selects "GaleNames$State" y_St_learn y_St_learn ∈ lw_g := lw_mg (List.mem_of_getElem? (i := 282) (by decide +kernel)) rfl
theorem co_St_learn : Cond.code y_St_learn prog_7_method_16_code 3 (Option.some Jvm.ClassFile.FieldType.int) ∈ lw_g := lw_mg (List.mem_of_getElem? (i := 283) (by decide +kernel)) rfl
theorem ml_Ga_81 : Cond.methodLink "GaleNames" 81 y_Ro_add ∈ lw_g := lw_mg (List.mem_of_getElem? (i := 284) (by decide +kernel)) rfl
theorem ml_Ga_85 : Cond.methodLink "GaleNames" 85 y_Pa_signs ∈ lw_g := lw_mg (List.mem_of_getElem? (i := 285) (by decide +kernel)) rfl
theorem im_Pa_signs : Cond.instanceMethod y_Pa_signs ∈ lw_g := lw_mg (List.mem_of_getElem? (i := 286) (by decide +kernel)) rfl
theorem se_Pa_signs : Cond.selects "GaleNames$Pad" y_Pa_signs y_Pa_signs ∈ lw_g := lw_mg (List.mem_of_getElem? (i := 287) (by decide +kernel)) rfl
theorem co_Pa_signs : Cond.code y_Pa_signs prog_4_method_2_code 1 (Option.some (Jvm.ClassFile.FieldType.object "GaleNames$Row")) ∈ lw_g := lw_mg (List.mem_of_getElem? (i := 288) (by decide +kernel)) rfl
theorem ml_Ga_88 : Cond.methodLink "GaleNames" 88 y_Ro_clear ∈ lw_g := lw_mg (List.mem_of_getElem? (i := 289) (by decide +kernel)) rfl
theorem im_Ga_storm : Cond.instanceMethod y_Ga_storm ∈ lw_g := lw_mg (List.mem_of_getElem? (i := 291) (by decide +kernel)) rfl
theorem se_Ga_storm : Cond.selects "GaleNames" y_Ga_storm y_Ga_storm ∈ lw_g := lw_mg (List.mem_of_getElem? (i := 292) (by decide +kernel)) rfl
theorem co_Ga_storm : Cond.code y_Ga_storm prog_1_method_5_code 3 (Option.some Jvm.ClassFile.FieldType.int) ∈ lw_g := lw_mg (List.mem_of_getElem? (i := 293) (by decide +kernel)) rfl
theorem ml_Ga_98 : Cond.methodLink "GaleNames" 98 y_Ga_isCoast ∈ lw_g := lw_mg (List.mem_of_getElem? (i := 294) (by decide +kernel)) rfl
theorem ml_Ga_101 : Cond.methodLink "GaleNames" 101 y_St_nextName ∈ lw_g := lw_mg (List.mem_of_getElem? (i := 295) (by decide +kernel)) rfl
theorem im_St_nextName : Cond.instanceMethod y_St_nextName ∈ lw_g := lw_mg (List.mem_of_getElem? (i := 296) (by decide +kernel)) rfl
theorem se_St_nextName : Cond.selects "GaleNames$State" y_St_nextName y_St_nextName ∈ lw_g := lw_mg (List.mem_of_getElem? (i := 297) (by decide +kernel)) rfl
theorem co_St_nextName : Cond.code y_St_nextName prog_7_method_18_code 4 (Option.some Jvm.ClassFile.FieldType.int) ∈ lw_g := lw_mg (List.mem_of_getElem? (i := 298) (by decide +kernel)) rfl
theorem ml_St_118 : Cond.methodLink "GaleNames$State" 118 y_St_listOfYear ∈ lw_g := lw_mg (List.mem_of_getElem? (i := 299) (by decide +kernel)) rfl
theorem im_St_listOfYear : Cond.instanceMethod y_St_listOfYear ∈ lw_g := lw_mg (List.mem_of_getElem? (i := 300) (by decide +kernel)) rfl
theorem se_St_listOfYear : Cond.selects "GaleNames$State" y_St_listOfYear y_St_listOfYear ∈ lw_g := lw_mg (List.mem_of_getElem? (i := 301) (by decide +kernel)) rfl
theorem co_St_listOfYear : Cond.code y_St_listOfYear prog_7_method_5_code 3 (Option.some (Jvm.ClassFile.FieldType.object "GaleNames$Row")) ∈ lw_g := lw_mg (List.mem_of_getElem? (i := 302) (by decide +kernel)) rfl
theorem ml_St_121 : Cond.methodLink "GaleNames$State" 121 y_St_wasGiven ∈ lw_g := lw_mg (List.mem_of_getElem? (i := 303) (by decide +kernel)) rfl
theorem im_St_wasGiven : Cond.instanceMethod y_St_wasGiven ∈ lw_g := lw_mg (List.mem_of_getElem? (i := 305) (by decide +kernel)) rfl
theorem co_St_wasGiven : Cond.code y_St_wasGiven prog_7_method_17_code 4 (Option.some Jvm.ClassFile.FieldType.boolean) ∈ lw_g := lw_mg (List.mem_of_getElem? (i := 306) (by decide +kernel)) rfl
theorem ml_Ga_107 : Cond.methodLink "GaleNames" 107 y_St_addStorm ∈ lw_g := lw_mg (List.mem_of_getElem? (i := 307) (by decide +kernel)) rfl
theorem im_St_addStorm : Cond.instanceMethod y_St_addStorm ∈ lw_g := lw_mg (List.mem_of_getElem? (i := 308) (by decide +kernel)) rfl
theorem se_St_addStorm : Cond.selects "GaleNames$State" y_St_addStorm y_St_addStorm ∈ lw_g := lw_mg (List.mem_of_getElem? (i := 309) (by decide +kernel)) rfl
theorem co_St_addStorm : Cond.code y_St_addStorm prog_7_method_20_code 3 (Option.some Jvm.ClassFile.FieldType.int) ∈ lw_g := lw_mg (List.mem_of_getElem? (i := 310) (by decide +kernel)) rfl
theorem ml_St_124 : Cond.methodLink "GaleNames$State" 124 y_Ro_raise ∈ lw_g := lw_mg (List.mem_of_getElem? (i := 311) (by decide +kernel)) rfl
theorem im_Ro_raise : Cond.instanceMethod y_Ro_raise ∈ lw_g := lw_mg (List.mem_of_getElem? (i := 312) (by decide +kernel)) rfl
theorem se_Ro_raise : Cond.selects "GaleNames$Row" y_Ro_raise y_Ro_raise ∈ lw_g := lw_mg (List.mem_of_getElem? (i := 313) (by decide +kernel)) rfl
theorem co_Ro_raise : Cond.code y_Ro_raise prog_5_method_6_code 3 (Option.none : Option Jvm.ClassFile.FieldType) ∈ lw_g := lw_mg (List.mem_of_getElem? (i := 314) (by decide +kernel)) rfl
theorem ml_Ro_33 : Cond.methodLink "GaleNames$Row" 33 y_Ro_change ∈ lw_g := lw_mg (List.mem_of_getElem? (i := 315) (by decide +kernel)) rfl
theorem im_Ro_change : Cond.instanceMethod y_Ro_change ∈ lw_g := lw_mg (List.mem_of_getElem? (i := 316) (by decide +kernel)) rfl
theorem se_Ro_change : Cond.selects "GaleNames$Row" y_Ro_change y_Ro_change ∈ lw_g := lw_mg (List.mem_of_getElem? (i := 317) (by decide +kernel)) rfl
theorem co_Ro_change : Cond.code y_Ro_change prog_5_method_5_code 3 (Option.none : Option Jvm.ClassFile.FieldType) ∈ lw_g := lw_mg (List.mem_of_getElem? (i := 318) (by decide +kernel)) rfl
theorem im_Ga_endYear : Cond.instanceMethod y_Ga_endYear ∈ lw_g := lw_mg (List.mem_of_getElem? (i := 320) (by decide +kernel)) rfl
theorem se_Ga_endYear : Cond.selects "GaleNames" y_Ga_endYear y_Ga_endYear ∈ lw_g := lw_mg (List.mem_of_getElem? (i := 321) (by decide +kernel)) rfl
theorem co_Ga_endYear : Cond.code y_Ga_endYear prog_1_method_7_code 2 (Option.some Jvm.ClassFile.FieldType.int) ∈ lw_g := lw_mg (List.mem_of_getElem? (i := 322) (by decide +kernel)) rfl
theorem ml_Ga_124 : Cond.methodLink "GaleNames" 124 y_St_oweApologies ∈ lw_g := lw_mg (List.mem_of_getElem? (i := 323) (by decide +kernel)) rfl
theorem im_St_oweApologies : Cond.instanceMethod y_St_oweApologies ∈ lw_g := lw_mg (List.mem_of_getElem? (i := 324) (by decide +kernel)) rfl
theorem se_St_oweApologies : Cond.selects "GaleNames$State" y_St_oweApologies y_St_oweApologies ∈ lw_g := lw_mg (List.mem_of_getElem? (i := 325) (by decide +kernel)) rfl
theorem co_St_oweApologies : Cond.code y_St_oweApologies prog_7_method_25_code 2 (Option.none : Option Jvm.ClassFile.FieldType) ∈ lw_g := lw_mg (List.mem_of_getElem? (i := 326) (by decide +kernel)) rfl
theorem ml_St_131 : Cond.methodLink "GaleNames$State" 131 y_St_harmOfYear ∈ lw_g := lw_mg (List.mem_of_getElem? (i := 327) (by decide +kernel)) rfl
theorem im_St_harmOfYear : Cond.instanceMethod y_St_harmOfYear ∈ lw_g := lw_mg (List.mem_of_getElem? (i := 329) (by decide +kernel)) rfl
theorem co_St_harmOfYear : Cond.code y_St_harmOfYear prog_7_method_23_code 4 (Option.some Jvm.ClassFile.FieldType.int) ∈ lw_g := lw_mg (List.mem_of_getElem? (i := 330) (by decide +kernel)) rfl
theorem ml_Ga_127 : Cond.methodLink "GaleNames" 127 y_St_retireHarmed ∈ lw_g := lw_mg (List.mem_of_getElem? (i := 331) (by decide +kernel)) rfl
theorem im_St_retireHarmed : Cond.instanceMethod y_St_retireHarmed ∈ lw_g := lw_mg (List.mem_of_getElem? (i := 332) (by decide +kernel)) rfl
theorem se_St_retireHarmed : Cond.selects "GaleNames$State" y_St_retireHarmed y_St_retireHarmed ∈ lw_g := lw_mg (List.mem_of_getElem? (i := 333) (by decide +kernel)) rfl
theorem co_St_retireHarmed : Cond.code y_St_retireHarmed prog_7_method_26_code 3 (Option.some Jvm.ClassFile.FieldType.int) ∈ lw_g := lw_mg (List.mem_of_getElem? (i := 334) (by decide +kernel)) rfl
theorem ml_St_134 : Cond.methodLink "GaleNames$State" 134 y_St_retire ∈ lw_g := lw_mg (List.mem_of_getElem? (i := 335) (by decide +kernel)) rfl
theorem im_St_retire : Cond.instanceMethod y_St_retire ∈ lw_g := lw_mg (List.mem_of_getElem? (i := 337) (by decide +kernel)) rfl
theorem co_St_retire : Cond.code y_St_retire prog_7_method_27_code 5 (Option.none : Option Jvm.ClassFile.FieldType) ∈ lw_g := lw_mg (List.mem_of_getElem? (i := 338) (by decide +kernel)) rfl
theorem ml_St_137 : Cond.methodLink "GaleNames$State" 137 y_Ro_change ∈ lw_g := lw_mg (List.mem_of_getElem? (i := 339) (by decide +kernel)) rfl
theorem ml_St_140 : Cond.methodLink "GaleNames$State" 140 y_Ro_drop ∈ lw_g := lw_mg (List.mem_of_getElem? (i := 340) (by decide +kernel)) rfl
theorem im_Ro_drop : Cond.instanceMethod y_Ro_drop ∈ lw_g := lw_mg (List.mem_of_getElem? (i := 341) (by decide +kernel)) rfl
theorem se_Ro_drop : Cond.selects "GaleNames$Row" y_Ro_drop y_Ro_drop ∈ lw_g := lw_mg (List.mem_of_getElem? (i := 342) (by decide +kernel)) rfl
theorem co_Ro_drop : Cond.code y_Ro_drop prog_5_method_8_code 3 (Option.none : Option Jvm.ClassFile.FieldType) ∈ lw_g := lw_mg (List.mem_of_getElem? (i := 343) (by decide +kernel)) rfl
theorem ml_Ga_130 : Cond.methodLink "GaleNames" 130 y_St_beginNextYear ∈ lw_g := lw_mg (List.mem_of_getElem? (i := 344) (by decide +kernel)) rfl
theorem im_St_beginNextYear : Cond.instanceMethod y_St_beginNextYear ∈ lw_g := lw_mg (List.mem_of_getElem? (i := 345) (by decide +kernel)) rfl
theorem se_St_beginNextYear : Cond.selects "GaleNames$State" y_St_beginNextYear y_St_beginNextYear ∈ lw_g := lw_mg (List.mem_of_getElem? (i := 346) (by decide +kernel)) rfl
theorem co_St_beginNextYear : Cond.code y_St_beginNextYear prog_7_method_28_code 1 (Option.none : Option Jvm.ClassFile.FieldType) ∈ lw_g := lw_mg (List.mem_of_getElem? (i := 347) (by decide +kernel)) rfl
theorem ml_St_143 : Cond.methodLink "GaleNames$State" 143 y_Ro_clear ∈ lw_g := lw_mg (List.mem_of_getElem? (i := 348) (by decide +kernel)) rfl
theorem im_Ga_namesake : Cond.instanceMethod y_Ga_namesake ∈ lw_g := lw_mg (List.mem_of_getElem? (i := 350) (by decide +kernel)) rfl
theorem se_Ga_namesake : Cond.selects "GaleNames" y_Ga_namesake y_Ga_namesake ∈ lw_g := lw_mg (List.mem_of_getElem? (i := 351) (by decide +kernel)) rfl
theorem co_Ga_namesake : Cond.code y_Ga_namesake prog_1_method_8_code 2 (Option.some Jvm.ClassFile.FieldType.int) ∈ lw_g := lw_mg (List.mem_of_getElem? (i := 352) (by decide +kernel)) rfl
theorem ml_Ga_133 : Cond.methodLink "GaleNames" 133 y_Pa_tellsOneName ∈ lw_g := lw_mg (List.mem_of_getElem? (i := 353) (by decide +kernel)) rfl
theorem im_Pa_tellsOneName : Cond.instanceMethod y_Pa_tellsOneName ∈ lw_g := lw_mg (List.mem_of_getElem? (i := 354) (by decide +kernel)) rfl
theorem se_Pa_tellsOneName : Cond.selects "GaleNames$Pad" y_Pa_tellsOneName y_Pa_tellsOneName ∈ lw_g := lw_mg (List.mem_of_getElem? (i := 355) (by decide +kernel)) rfl
theorem co_Pa_tellsOneName : Cond.code y_Pa_tellsOneName prog_4_method_5_code 1 (Option.some Jvm.ClassFile.FieldType.boolean) ∈ lw_g := lw_mg (List.mem_of_getElem? (i := 356) (by decide +kernel)) rfl
theorem ml_Pa_46 : Cond.methodLink "GaleNames$Pad" 46 y_Pa_read ∈ lw_g := lw_mg (List.mem_of_getElem? (i := 357) (by decide +kernel)) rfl
theorem ml_Ga_140 : Cond.methodLink "GaleNames" 140 y_St_addNamesake ∈ lw_g := lw_mg (List.mem_of_getElem? (i := 358) (by decide +kernel)) rfl
theorem im_St_addNamesake : Cond.instanceMethod y_St_addNamesake ∈ lw_g := lw_mg (List.mem_of_getElem? (i := 359) (by decide +kernel)) rfl
theorem se_St_addNamesake : Cond.selects "GaleNames$State" y_St_addNamesake y_St_addNamesake ∈ lw_g := lw_mg (List.mem_of_getElem? (i := 360) (by decide +kernel)) rfl
theorem co_St_addNamesake : Cond.code y_St_addNamesake prog_7_method_29_code 2 (Option.some Jvm.ClassFile.FieldType.int) ∈ lw_g := lw_mg (List.mem_of_getElem? (i := 361) (by decide +kernel)) rfl
theorem im_Ga_count : Cond.instanceMethod y_Ga_count ∈ lw_g := lw_mg (List.mem_of_getElem? (i := 363) (by decide +kernel)) rfl
theorem se_Ga_count : Cond.selects "GaleNames" y_Ga_count y_Ga_count ∈ lw_g := lw_mg (List.mem_of_getElem? (i := 364) (by decide +kernel)) rfl
theorem co_Ga_count : Cond.code y_Ga_count prog_1_method_18_code 2 (Option.some Jvm.ClassFile.FieldType.int) ∈ lw_g := lw_mg (List.mem_of_getElem? (i := 365) (by decide +kernel)) rfl
theorem ml_Ga_190 : Cond.methodLink "GaleNames" 190 y_Ro_total ∈ lw_g := lw_mg (List.mem_of_getElem? (i := 366) (by decide +kernel)) rfl
theorem im_Ro_total : Cond.instanceMethod y_Ro_total ∈ lw_g := lw_mg (List.mem_of_getElem? (i := 367) (by decide +kernel)) rfl
theorem se_Ro_total : Cond.selects "GaleNames$Row" y_Ro_total y_Ro_total ∈ lw_g := lw_mg (List.mem_of_getElem? (i := 368) (by decide +kernel)) rfl
theorem co_Ro_total : Cond.code y_Ro_total prog_5_method_13_code 3 (Option.some Jvm.ClassFile.FieldType.int) ∈ lw_g := lw_mg (List.mem_of_getElem? (i := 369) (by decide +kernel)) rfl
theorem ml_Ga_193 : Cond.methodLink "GaleNames" 193 y_St_twins ∈ lw_g := lw_mg (List.mem_of_getElem? (i := 370) (by decide +kernel)) rfl
theorem im_St_twins : Cond.instanceMethod y_St_twins ∈ lw_g := lw_mg (List.mem_of_getElem? (i := 371) (by decide +kernel)) rfl
theorem se_St_twins : Cond.selects "GaleNames$State" y_St_twins y_St_twins ∈ lw_g := lw_mg (List.mem_of_getElem? (i := 372) (by decide +kernel)) rfl
theorem co_St_twins : Cond.code y_St_twins prog_7_method_22_code 3 (Option.some Jvm.ClassFile.FieldType.int) ∈ lw_g := lw_mg (List.mem_of_getElem? (i := 373) (by decide +kernel)) rfl
theorem ml_St_128 : Cond.methodLink "GaleNames$State" 128 y_St_twinOf ∈ lw_g := lw_mg (List.mem_of_getElem? (i := 374) (by decide +kernel)) rfl
theorem im_St_twinOf : Cond.instanceMethod y_St_twinOf ∈ lw_g := lw_mg (List.mem_of_getElem? (i := 375) (by decide +kernel)) rfl
theorem se_St_twinOf : Cond.selects "GaleNames$State" y_St_twinOf y_St_twinOf ∈ lw_g := lw_mg (List.mem_of_getElem? (i := 376) (by decide +kernel)) rfl
theorem co_St_twinOf : Cond.code y_St_twinOf prog_7_method_21_code 3 (Option.some Jvm.ClassFile.FieldType.int) ∈ lw_g := lw_mg (List.mem_of_getElem? (i := 377) (by decide +kernel)) rfl
theorem ml_Ga_196 : Cond.methodLink "GaleNames" 196 y_Hi_size ∈ lw_g := lw_mg (List.mem_of_getElem? (i := 378) (by decide +kernel)) rfl
theorem im_Hi_size : Cond.instanceMethod y_Hi_size ∈ lw_g := lw_mg (List.mem_of_getElem? (i := 379) (by decide +kernel)) rfl
theorem se_Hi_size : Cond.selects "GaleNames$History" y_Hi_size y_Hi_size ∈ lw_g := lw_mg (List.mem_of_getElem? (i := 380) (by decide +kernel)) rfl
theorem co_Hi_size : Cond.code y_Hi_size prog_2_method_2_code 1 (Option.some Jvm.ClassFile.FieldType.int) ∈ lw_g := lw_mg (List.mem_of_getElem? (i := 381) (by decide +kernel)) rfl
theorem im_Ga_next : Cond.instanceMethod y_Ga_next ∈ lw_g := lw_mg (List.mem_of_getElem? (i := 383) (by decide +kernel)) rfl
theorem se_Ga_next : Cond.selects "GaleNames" y_Ga_next y_Ga_next ∈ lw_g := lw_mg (List.mem_of_getElem? (i := 384) (by decide +kernel)) rfl
theorem co_Ga_next : Cond.code y_Ga_next prog_1_method_21_code 2 (Option.some Jvm.ClassFile.FieldType.int) ∈ lw_g := lw_mg (List.mem_of_getElem? (i := 385) (by decide +kernel)) rfl
theorem im_Ga_left : Cond.instanceMethod y_Ga_left ∈ lw_g := lw_mg (List.mem_of_getElem? (i := 387) (by decide +kernel)) rfl
theorem se_Ga_left : Cond.selects "GaleNames" y_Ga_left y_Ga_left ∈ lw_g := lw_mg (List.mem_of_getElem? (i := 388) (by decide +kernel)) rfl
theorem co_Ga_left : Cond.code y_Ga_left prog_1_method_22_code 3 (Option.some Jvm.ClassFile.FieldType.int) ∈ lw_g := lw_mg (List.mem_of_getElem? (i := 389) (by decide +kernel)) rfl
theorem ml_Ga_203 : Cond.methodLink "GaleNames" 203 y_St_namesLeft ∈ lw_g := lw_mg (List.mem_of_getElem? (i := 390) (by decide +kernel)) rfl
theorem im_St_namesLeft : Cond.instanceMethod y_St_namesLeft ∈ lw_g := lw_mg (List.mem_of_getElem? (i := 391) (by decide +kernel)) rfl
theorem se_St_namesLeft : Cond.selects "GaleNames$State" y_St_namesLeft y_St_namesLeft ∈ lw_g := lw_mg (List.mem_of_getElem? (i := 392) (by decide +kernel)) rfl
theorem co_St_namesLeft : Cond.code y_St_namesLeft prog_7_method_19_code 6 (Option.some Jvm.ClassFile.FieldType.int) ∈ lw_g := lw_mg (List.mem_of_getElem? (i := 393) (by decide +kernel)) rfl
theorem im_Ga_undo : Cond.instanceMethod y_Ga_undo ∈ lw_g := lw_mg (List.mem_of_getElem? (i := 395) (by decide +kernel)) rfl
theorem se_Ga_undo : Cond.selects "GaleNames" y_Ga_undo y_Ga_undo ∈ lw_g := lw_mg (List.mem_of_getElem? (i := 396) (by decide +kernel)) rfl
theorem co_Ga_undo : Cond.code y_Ga_undo prog_1_method_28_code 2 (Option.some Jvm.ClassFile.FieldType.int) ∈ lw_g := lw_mg (List.mem_of_getElem? (i := 397) (by decide +kernel)) rfl
theorem ml_Ga_216 : Cond.methodLink "GaleNames" 216 y_Hi_takeLatest ∈ lw_g := lw_mg (List.mem_of_getElem? (i := 398) (by decide +kernel)) rfl
theorem im_Hi_takeLatest : Cond.instanceMethod y_Hi_takeLatest ∈ lw_g := lw_mg (List.mem_of_getElem? (i := 399) (by decide +kernel)) rfl
theorem se_Hi_takeLatest : Cond.selects "GaleNames$History" y_Hi_takeLatest y_Hi_takeLatest ∈ lw_g := lw_mg (List.mem_of_getElem? (i := 400) (by decide +kernel)) rfl
theorem co_Hi_takeLatest : Cond.code y_Hi_takeLatest prog_2_method_4_code 1 (Option.some (Jvm.ClassFile.FieldType.object "GaleNames$State")) ∈ lw_g := lw_mg (List.mem_of_getElem? (i := 401) (by decide +kernel)) rfl
theorem ml_Ga_220 : Cond.methodLink "GaleNames" 220 y_St_copy ∈ lw_g := lw_mg (List.mem_of_getElem? (i := 402) (by decide +kernel)) rfl
theorem im_Ga_save : Cond.instanceMethod y_Ga_save ∈ lw_g := lw_mg (List.mem_of_getElem? (i := 404) (by decide +kernel)) rfl
theorem se_Ga_save : Cond.selects "GaleNames" y_Ga_save y_Ga_save ∈ lw_g := lw_mg (List.mem_of_getElem? (i := 405) (by decide +kernel)) rfl
theorem co_Ga_save : Cond.code y_Ga_save prog_1_method_29_code 2 (Option.some Jvm.ClassFile.FieldType.int) ∈ lw_g := lw_mg (List.mem_of_getElem? (i := 406) (by decide +kernel)) rfl
theorem ml_Ga_223 : Cond.methodLink "GaleNames" 223 y_Sl_has ∈ lw_g := lw_mg (List.mem_of_getElem? (i := 407) (by decide +kernel)) rfl
theorem im_Sl_has : Cond.instanceMethod y_Sl_has ∈ lw_g := lw_mg (List.mem_of_getElem? (i := 408) (by decide +kernel)) rfl
theorem se_Sl_has : Cond.selects "GaleNames$Slots" y_Sl_has y_Sl_has ∈ lw_g := lw_mg (List.mem_of_getElem? (i := 409) (by decide +kernel)) rfl
theorem co_Sl_has : Cond.code y_Sl_has prog_6_method_2_code 2 (Option.some Jvm.ClassFile.FieldType.boolean) ∈ lw_g := lw_mg (List.mem_of_getElem? (i := 410) (by decide +kernel)) rfl
theorem ml_Ga_224 : Cond.methodLink "GaleNames" 224 y_Sl_keep ∈ lw_g := lw_mg (List.mem_of_getElem? (i := 411) (by decide +kernel)) rfl
theorem im_Sl_keep : Cond.instanceMethod y_Sl_keep ∈ lw_g := lw_mg (List.mem_of_getElem? (i := 412) (by decide +kernel)) rfl
theorem se_Sl_keep : Cond.selects "GaleNames$Slots" y_Sl_keep y_Sl_keep ∈ lw_g := lw_mg (List.mem_of_getElem? (i := 413) (by decide +kernel)) rfl
theorem co_Sl_keep : Cond.code y_Sl_keep prog_6_method_4_code 4 (Option.none : Option Jvm.ClassFile.FieldType) ∈ lw_g := lw_mg (List.mem_of_getElem? (i := 414) (by decide +kernel)) rfl
theorem ml_Sl_17 : Cond.methodLink "GaleNames$Slots" 17 y_Sl_has ∈ lw_g := lw_mg (List.mem_of_getElem? (i := 415) (by decide +kernel)) rfl
theorem ml_Sl_21 : Cond.methodLink "GaleNames$Slots" 21 y_Sl_keptIn ∈ lw_g := lw_mg (List.mem_of_getElem? (i := 416) (by decide +kernel)) rfl
theorem im_Sl_keptIn : Cond.instanceMethod y_Sl_keptIn ∈ lw_g := lw_mg (List.mem_of_getElem? (i := 417) (by decide +kernel)) rfl
theorem se_Sl_keptIn : Cond.selects "GaleNames$Slots" y_Sl_keptIn y_Sl_keptIn ∈ lw_g := lw_mg (List.mem_of_getElem? (i := 418) (by decide +kernel)) rfl
theorem co_Sl_keptIn : Cond.code y_Sl_keptIn prog_6_method_3_code 2 (Option.some (Jvm.ClassFile.FieldType.object "GaleNames$State")) ∈ lw_g := lw_mg (List.mem_of_getElem? (i := 419) (by decide +kernel)) rfl
theorem ml_Sl_25 : Cond.methodLink "GaleNames$Slots" 25 y_St_init ∈ lw_g := lw_mg (List.mem_of_getElem? (i := 420) (by decide +kernel)) rfl
theorem ml_Sl_26 : Cond.methodLink "GaleNames$Slots" 26 y_St_copy ∈ lw_g := lw_mg (List.mem_of_getElem? (i := 421) (by decide +kernel)) rfl
theorem im_Ga_restore : Cond.instanceMethod y_Ga_restore ∈ lw_g := lw_mg (List.mem_of_getElem? (i := 423) (by decide +kernel)) rfl
theorem se_Ga_restore : Cond.selects "GaleNames" y_Ga_restore y_Ga_restore ∈ lw_g := lw_mg (List.mem_of_getElem? (i := 424) (by decide +kernel)) rfl
theorem co_Ga_restore : Cond.code y_Ga_restore prog_1_method_30_code 3 (Option.some Jvm.ClassFile.FieldType.int) ∈ lw_g := lw_mg (List.mem_of_getElem? (i := 425) (by decide +kernel)) rfl
theorem ml_Ga_228 : Cond.methodLink "GaleNames" 228 y_Sl_keptIn ∈ lw_g := lw_mg (List.mem_of_getElem? (i := 426) (by decide +kernel)) rfl
theorem im_Ga_of : Cond.instanceMethod y_Ga_of ∈ lw_g := lw_mg (List.mem_of_getElem? (i := 436) (by decide +kernel)) rfl
theorem se_Ga_of : Cond.selects "GaleNames" y_Ga_of y_Ga_of ∈ lw_g := lw_mg (List.mem_of_getElem? (i := 437) (by decide +kernel)) rfl
theorem co_Ga_of : Cond.code y_Ga_of prog_1_method_11_code 3 (Option.some Jvm.ClassFile.FieldType.int) ∈ lw_g := lw_mg (List.mem_of_getElem? (i := 438) (by decide +kernel)) rfl
theorem ml_Ga_91 : Cond.methodLink "GaleNames" 91 y_Ro_has ∈ lw_g := lw_mg (List.mem_of_getElem? (i := 439) (by decide +kernel)) rfl
theorem ml_Ga_155 : Cond.methodLink "GaleNames" 155 y_Ke_length ∈ lw_g := lw_mg (List.mem_of_getElem? (i := 440) (by decide +kernel)) rfl
theorem sm_Ke_length : Cond.static y_Ke_length ∈ lw_g := lw_mg (List.mem_of_getElem? (i := 441) (by decide +kernel)) rfl
theorem co_Ke_length : Cond.code y_Ke_length prog_3_method_6_code 1 (Option.some Jvm.ClassFile.FieldType.int) ∈ lw_g := lw_mg (List.mem_of_getElem? (i := 442) (by decide +kernel)) rfl
theorem ml_Ga_163 : Cond.methodLink "GaleNames" 163 y_St_coastsOf ∈ lw_g := lw_mg (List.mem_of_getElem? (i := 443) (by decide +kernel)) rfl
theorem im_St_coastsOf : Cond.instanceMethod y_St_coastsOf ∈ lw_g := lw_mg (List.mem_of_getElem? (i := 444) (by decide +kernel)) rfl
theorem se_St_coastsOf : Cond.selects "GaleNames$State" y_St_coastsOf y_St_coastsOf ∈ lw_g := lw_mg (List.mem_of_getElem? (i := 445) (by decide +kernel)) rfl
theorem co_St_coastsOf : Cond.code y_St_coastsOf prog_7_method_7_code 4 (Option.some Jvm.ClassFile.FieldType.int) ∈ lw_g := lw_mg (List.mem_of_getElem? (i := 446) (by decide +kernel)) rfl
theorem ml_Ga_169 : Cond.methodLink "GaleNames" 169 y_St_namesakesOf ∈ lw_g := lw_mg (List.mem_of_getElem? (i := 447) (by decide +kernel)) rfl
theorem im_St_namesakesOf : Cond.instanceMethod y_St_namesakesOf ∈ lw_g := lw_mg (List.mem_of_getElem? (i := 448) (by decide +kernel)) rfl
theorem se_St_namesakesOf : Cond.selects "GaleNames$State" y_St_namesakesOf y_St_namesakesOf ∈ lw_g := lw_mg (List.mem_of_getElem? (i := 449) (by decide +kernel)) rfl
theorem co_St_namesakesOf : Cond.code y_St_namesakesOf prog_7_method_30_code 2 (Option.some Jvm.ClassFile.FieldType.int) ∈ lw_g := lw_mg (List.mem_of_getElem? (i := 450) (by decide +kernel)) rfl
theorem ml_St_146 : Cond.methodLink "GaleNames$State" 146 y_Ro_timesOf ∈ lw_g := lw_mg (List.mem_of_getElem? (i := 451) (by decide +kernel)) rfl
theorem im_Ro_timesOf : Cond.instanceMethod y_Ro_timesOf ∈ lw_g := lw_mg (List.mem_of_getElem? (i := 452) (by decide +kernel)) rfl
theorem se_Ro_timesOf : Cond.selects "GaleNames$Row" y_Ro_timesOf y_Ro_timesOf ∈ lw_g := lw_mg (List.mem_of_getElem? (i := 453) (by decide +kernel)) rfl
theorem co_Ro_timesOf : Cond.code y_Ro_timesOf prog_5_method_12_code 4 (Option.some Jvm.ClassFile.FieldType.int) ∈ lw_g := lw_mg (List.mem_of_getElem? (i := 454) (by decide +kernel)) rfl
theorem ml_Ga_172 : Cond.methodLink "GaleNames" 172 y_St_alikeTo ∈ lw_g := lw_mg (List.mem_of_getElem? (i := 455) (by decide +kernel)) rfl
theorem im_St_alikeTo : Cond.instanceMethod y_St_alikeTo ∈ lw_g := lw_mg (List.mem_of_getElem? (i := 456) (by decide +kernel)) rfl
theorem se_St_alikeTo : Cond.selects "GaleNames$State" y_St_alikeTo y_St_alikeTo ∈ lw_g := lw_mg (List.mem_of_getElem? (i := 457) (by decide +kernel)) rfl
theorem co_St_alikeTo : Cond.code y_St_alikeTo prog_7_method_12_code 4 (Option.some Jvm.ClassFile.FieldType.int) ∈ lw_g := lw_mg (List.mem_of_getElem? (i := 458) (by decide +kernel)) rfl
theorem im_Ga_ranked : Cond.instanceMethod y_Ga_ranked ∈ lw_g := lw_mg (List.mem_of_getElem? (i := 460) (by decide +kernel)) rfl
theorem se_Ga_ranked : Cond.selects "GaleNames" y_Ga_ranked y_Ga_ranked ∈ lw_g := lw_mg (List.mem_of_getElem? (i := 461) (by decide +kernel)) rfl
theorem co_Ga_ranked : Cond.code y_Ga_ranked prog_1_method_16_code 3 (Option.some Jvm.ClassFile.FieldType.int) ∈ lw_g := lw_mg (List.mem_of_getElem? (i := 462) (by decide +kernel)) rfl
theorem ml_Ga_187 : Cond.methodLink "GaleNames" 187 y_St_rankOf ∈ lw_g := lw_mg (List.mem_of_getElem? (i := 463) (by decide +kernel)) rfl
theorem im_St_rankOf : Cond.instanceMethod y_St_rankOf ∈ lw_g := lw_mg (List.mem_of_getElem? (i := 464) (by decide +kernel)) rfl
theorem se_St_rankOf : Cond.selects "GaleNames$State" y_St_rankOf y_St_rankOf ∈ lw_g := lw_mg (List.mem_of_getElem? (i := 465) (by decide +kernel)) rfl
theorem co_St_rankOf : Cond.code y_St_rankOf prog_7_method_14_code 4 (Option.some Jvm.ClassFile.FieldType.int) ∈ lw_g := lw_mg (List.mem_of_getElem? (i := 466) (by decide +kernel)) rfl
theorem im_Ga_same : Cond.instanceMethod y_Ga_same ∈ lw_g := lw_mg (List.mem_of_getElem? (i := 468) (by decide +kernel)) rfl
theorem se_Ga_same : Cond.selects "GaleNames" y_Ga_same y_Ga_same ∈ lw_g := lw_mg (List.mem_of_getElem? (i := 469) (by decide +kernel)) rfl
theorem co_Ga_same : Cond.code y_Ga_same prog_1_method_24_code 3 (Option.some Jvm.ClassFile.FieldType.int) ∈ lw_g := lw_mg (List.mem_of_getElem? (i := 470) (by decide +kernel)) rfl
theorem ml_Ga_209 : Cond.methodLink "GaleNames" 209 y_Ke_shared ∈ lw_g := lw_mg (List.mem_of_getElem? (i := 471) (by decide +kernel)) rfl
theorem im_Ga_letter : Cond.instanceMethod y_Ga_letter ∈ lw_g := lw_mg (List.mem_of_getElem? (i := 473) (by decide +kernel)) rfl
theorem se_Ga_letter : Cond.selects "GaleNames" y_Ga_letter y_Ga_letter ∈ lw_g := lw_mg (List.mem_of_getElem? (i := 474) (by decide +kernel)) rfl
theorem co_Ga_letter : Cond.code y_Ga_letter prog_1_method_12_code 4 (Option.some Jvm.ClassFile.FieldType.int) ∈ lw_g := lw_mg (List.mem_of_getElem? (i := 475) (by decide +kernel)) rfl
theorem ml_Ga_175 : Cond.methodLink "GaleNames" 175 y_Ke_letterAt ∈ lw_g := lw_mg (List.mem_of_getElem? (i := 476) (by decide +kernel)) rfl
theorem ml_Ga_178 : Cond.methodLink "GaleNames" 178 y_Ke_signOf ∈ lw_g := lw_mg (List.mem_of_getElem? (i := 477) (by decide +kernel)) rfl
theorem sm_Ke_signOf : Cond.static y_Ke_signOf ∈ lw_g := lw_mg (List.mem_of_getElem? (i := 478) (by decide +kernel)) rfl
theorem co_Ke_signOf : Cond.code y_Ke_signOf prog_3_method_4_code 1 (Option.some Jvm.ClassFile.FieldType.int) ∈ lw_g := lw_mg (List.mem_of_getElem? (i := 479) (by decide +kernel)) rfl
theorem im_Ga_listed : Cond.instanceMethod y_Ga_listed ∈ lw_g := lw_mg (List.mem_of_getElem? (i := 487) (by decide +kernel)) rfl
theorem se_Ga_listed : Cond.selects "GaleNames" y_Ga_listed y_Ga_listed ∈ lw_g := lw_mg (List.mem_of_getElem? (i := 488) (by decide +kernel)) rfl
theorem co_Ga_listed : Cond.code y_Ga_listed prog_1_method_13_code 5 (Option.some Jvm.ClassFile.FieldType.int) ∈ lw_g := lw_mg (List.mem_of_getElem? (i := 489) (by decide +kernel)) rfl
theorem im_Ga_ofStorm : Cond.instanceMethod y_Ga_ofStorm ∈ lw_g := lw_mg (List.mem_of_getElem? (i := 491) (by decide +kernel)) rfl
theorem se_Ga_ofStorm : Cond.selects "GaleNames" y_Ga_ofStorm y_Ga_ofStorm ∈ lw_g := lw_mg (List.mem_of_getElem? (i := 492) (by decide +kernel)) rfl
theorem co_Ga_ofStorm : Cond.code y_Ga_ofStorm prog_1_method_14_code 3 (Option.some Jvm.ClassFile.FieldType.int) ∈ lw_g := lw_mg (List.mem_of_getElem? (i := 493) (by decide +kernel)) rfl
theorem ml_Ga_184 : Cond.methodLink "GaleNames" 184 y_St_twinOf ∈ lw_g := lw_mg (List.mem_of_getElem? (i := 494) (by decide +kernel)) rfl
theorem im_Ga_ofNamesake : Cond.instanceMethod y_Ga_ofNamesake ∈ lw_g := lw_mg (List.mem_of_getElem? (i := 499) (by decide +kernel)) rfl
theorem se_Ga_ofNamesake : Cond.selects "GaleNames" y_Ga_ofNamesake y_Ga_ofNamesake ∈ lw_g := lw_mg (List.mem_of_getElem? (i := 500) (by decide +kernel)) rfl
theorem co_Ga_ofNamesake : Cond.code y_Ga_ofNamesake prog_1_method_15_code 3 (Option.some Jvm.ClassFile.FieldType.int) ∈ lw_g := lw_mg (List.mem_of_getElem? (i := 501) (by decide +kernel)) rfl
theorem im_Ga_wipe : Cond.instanceMethod y_Ga_wipe ∈ lw_g := lw_mg (List.mem_of_getElem? (i := 506) (by decide +kernel)) rfl
theorem se_Ga_wipe : Cond.selects "GaleNames" y_Ga_wipe y_Ga_wipe ∈ lw_g := lw_mg (List.mem_of_getElem? (i := 507) (by decide +kernel)) rfl
theorem co_Ga_wipe : Cond.code y_Ga_wipe prog_1_method_26_code 2 (Option.some Jvm.ClassFile.FieldType.int) ∈ lw_g := lw_mg (List.mem_of_getElem? (i := 508) (by decide +kernel)) rfl
theorem im_Ga_put : Cond.instanceMethod y_Ga_put ∈ lw_g := lw_mg (List.mem_of_getElem? (i := 513) (by decide +kernel)) rfl
theorem se_Ga_put : Cond.selects "GaleNames" y_Ga_put y_Ga_put ∈ lw_g := lw_mg (List.mem_of_getElem? (i := 514) (by decide +kernel)) rfl
theorem co_Ga_put : Cond.code y_Ga_put prog_1_method_25_code 5 (Option.some Jvm.ClassFile.FieldType.int) ∈ lw_g := lw_mg (List.mem_of_getElem? (i := 515) (by decide +kernel)) rfl
theorem ml_Ga_212 : Cond.methodLink "GaleNames" 212 y_Ga_signsIn ∈ lw_g := lw_mg (List.mem_of_getElem? (i := 516) (by decide +kernel)) rfl
theorem sm_Ga_signsIn : Cond.static y_Ga_signsIn ∈ lw_g := lw_mg (List.mem_of_getElem? (i := 517) (by decide +kernel)) rfl
theorem co_Ga_signsIn : Cond.code y_Ga_signsIn prog_1_method_32_code 7 (Option.some Jvm.ClassFile.FieldType.int) ∈ lw_g := lw_mg (List.mem_of_getElem? (i := 518) (by decide +kernel)) rfl
theorem kl_Ga_232 : Cond.constantLong "GaleNames" 232 255 ∈ lw_g := lw_mg (List.mem_of_getElem? (i := 519) (by decide +kernel)) rfl
theorem kl_Ga_234 : Cond.constantLong "GaleNames" 234 33 ∈ lw_g := lw_mg (List.mem_of_getElem? (i := 520) (by decide +kernel)) rfl
theorem kl_Ga_236 : Cond.constantLong "GaleNames" 236 126 ∈ lw_g := lw_mg (List.mem_of_getElem? (i := 521) (by decide +kernel)) rfl
theorem im_Ga_strike : Cond.instanceMethod y_Ga_strike ∈ lw_g := lw_mg (List.mem_of_getElem? (i := 524) (by decide +kernel)) rfl
theorem se_Ga_strike : Cond.selects "GaleNames" y_Ga_strike y_Ga_strike ∈ lw_g := lw_mg (List.mem_of_getElem? (i := 525) (by decide +kernel)) rfl
theorem co_Ga_strike : Cond.code y_Ga_strike prog_1_method_4_code 6 (Option.some Jvm.ClassFile.FieldType.int) ∈ lw_g := lw_mg (List.mem_of_getElem? (i := 526) (by decide +kernel)) rfl
theorem ml_Ga_95 : Cond.methodLink "GaleNames" 95 y_Ro_drop ∈ lw_g := lw_mg (List.mem_of_getElem? (i := 527) (by decide +kernel)) rfl
theorem im_Ga_harm : Cond.instanceMethod y_Ga_harm ∈ lw_g := lw_mg (List.mem_of_getElem? (i := 529) (by decide +kernel)) rfl
theorem se_Ga_harm : Cond.selects "GaleNames" y_Ga_harm y_Ga_harm ∈ lw_g := lw_mg (List.mem_of_getElem? (i := 530) (by decide +kernel)) rfl
theorem co_Ga_harm : Cond.code y_Ga_harm prog_1_method_6_code 3 (Option.some Jvm.ClassFile.FieldType.int) ∈ lw_g := lw_mg (List.mem_of_getElem? (i := 531) (by decide +kernel)) rfl
theorem ml_Ga_114 : Cond.methodLink "GaleNames" 114 y_Ro_raise ∈ lw_g := lw_mg (List.mem_of_getElem? (i := 532) (by decide +kernel)) rfl
theorem im_Ga_ifRetired : Cond.instanceMethod y_Ga_ifRetired ∈ lw_g := lw_mg (List.mem_of_getElem? (i := 534) (by decide +kernel)) rfl
theorem se_Ga_ifRetired : Cond.selects "GaleNames" y_Ga_ifRetired y_Ga_ifRetired ∈ lw_g := lw_mg (List.mem_of_getElem? (i := 535) (by decide +kernel)) rfl
theorem co_Ga_ifRetired : Cond.code y_Ga_ifRetired prog_1_method_23_code 2 (Option.some Jvm.ClassFile.FieldType.int) ∈ lw_g := lw_mg (List.mem_of_getElem? (i := 536) (by decide +kernel)) rfl
theorem ml_Ga_206 : Cond.methodLink "GaleNames" 206 y_St_harmedBy ∈ lw_g := lw_mg (List.mem_of_getElem? (i := 537) (by decide +kernel)) rfl
theorem im_St_harmedBy : Cond.instanceMethod y_St_harmedBy ∈ lw_g := lw_mg (List.mem_of_getElem? (i := 538) (by decide +kernel)) rfl
theorem se_St_harmedBy : Cond.selects "GaleNames$State" y_St_harmedBy y_St_harmedBy ∈ lw_g := lw_mg (List.mem_of_getElem? (i := 539) (by decide +kernel)) rfl
theorem co_St_harmedBy : Cond.code y_St_harmedBy prog_7_method_24_code 4 (Option.some Jvm.ClassFile.FieldType.int) ∈ lw_g := lw_mg (List.mem_of_getElem? (i := 540) (by decide +kernel)) rfl
theorem im_Ga_apologise : Cond.instanceMethod y_Ga_apologise ∈ lw_g := lw_mg (List.mem_of_getElem? (i := 542) (by decide +kernel)) rfl
theorem se_Ga_apologise : Cond.selects "GaleNames" y_Ga_apologise y_Ga_apologise ∈ lw_g := lw_mg (List.mem_of_getElem? (i := 543) (by decide +kernel)) rfl
theorem co_Ga_apologise : Cond.code y_Ga_apologise prog_1_method_9_code 2 (Option.some Jvm.ClassFile.FieldType.int) ∈ lw_g := lw_mg (List.mem_of_getElem? (i := 544) (by decide +kernel)) rfl
theorem im_Ga_set : Cond.instanceMethod y_Ga_set ∈ lw_g := lw_mg (List.mem_of_getElem? (i := 546) (by decide +kernel)) rfl
theorem se_Ga_set : Cond.selects "GaleNames" y_Ga_set y_Ga_set ∈ lw_g := lw_mg (List.mem_of_getElem? (i := 547) (by decide +kernel)) rfl
theorem co_Ga_set : Cond.code y_Ga_set prog_1_method_2_code 5 (Option.some Jvm.ClassFile.FieldType.int) ∈ lw_g := lw_mg (List.mem_of_getElem? (i := 548) (by decide +kernel)) rfl
theorem ml_Ga_51 : Cond.methodLink "GaleNames" 51 y_Ro_change ∈ lw_g := lw_mg (List.mem_of_getElem? (i := 549) (by decide +kernel)) rfl
theorem im_Ga_write : Cond.instanceMethod y_Ga_write ∈ lw_g := lw_mg (List.mem_of_getElem? (i := 554) (by decide +kernel)) rfl
theorem se_Ga_write : Cond.selects "GaleNames" y_Ga_write y_Ga_write ∈ lw_g := lw_mg (List.mem_of_getElem? (i := 555) (by decide +kernel)) rfl
theorem co_Ga_write : Cond.code y_Ga_write prog_1_method_10_code 5 (Option.some Jvm.ClassFile.FieldType.int) ∈ lw_g := lw_mg (List.mem_of_getElem? (i := 556) (by decide +kernel)) rfl
theorem ml_Ga_152 : Cond.methodLink "GaleNames" 152 y_Pa_appendName ∈ lw_g := lw_mg (List.mem_of_getElem? (i := 557) (by decide +kernel)) rfl
theorem im_Pa_appendName : Cond.instanceMethod y_Pa_appendName ∈ lw_g := lw_mg (List.mem_of_getElem? (i := 558) (by decide +kernel)) rfl
theorem se_Pa_appendName : Cond.selects "GaleNames$Pad" y_Pa_appendName y_Pa_appendName ∈ lw_g := lw_mg (List.mem_of_getElem? (i := 559) (by decide +kernel)) rfl
theorem co_Pa_appendName : Cond.code y_Pa_appendName prog_4_method_6_code 3 (Option.none : Option Jvm.ClassFile.FieldType) ∈ lw_g := lw_mg (List.mem_of_getElem? (i := 560) (by decide +kernel)) rfl
theorem ml_Pa_49 : Cond.methodLink "GaleNames$Pad" 49 y_Ke_length ∈ lw_g := lw_mg (List.mem_of_getElem? (i := 561) (by decide +kernel)) rfl
theorem ml_Pa_52 : Cond.methodLink "GaleNames$Pad" 52 y_Ke_letterAt ∈ lw_g := lw_mg (List.mem_of_getElem? (i := 562) (by decide +kernel)) rfl
theorem ml_Pa_56 : Cond.methodLink "GaleNames$Pad" 56 y_Ke_signOf ∈ lw_g := lw_mg (List.mem_of_getElem? (i := 563) (by decide +kernel)) rfl
theorem im_Ga_sign : Cond.instanceMethod y_Ga_sign ∈ lw_g := lw_mg (List.mem_of_getElem? (i := 565) (by decide +kernel)) rfl
theorem se_Ga_sign : Cond.selects "GaleNames" y_Ga_sign y_Ga_sign ∈ lw_g := lw_mg (List.mem_of_getElem? (i := 566) (by decide +kernel)) rfl
theorem co_Ga_sign : Cond.code y_Ga_sign prog_1_method_17_code 2 (Option.some Jvm.ClassFile.FieldType.int) ∈ lw_g := lw_mg (List.mem_of_getElem? (i := 567) (by decide +kernel)) rfl
theorem im_Ga_find : Cond.instanceMethod y_Ga_find ∈ lw_g := lw_mg (List.mem_of_getElem? (i := 569) (by decide +kernel)) rfl
theorem se_Ga_find : Cond.selects "GaleNames" y_Ga_find y_Ga_find ∈ lw_g := lw_mg (List.mem_of_getElem? (i := 570) (by decide +kernel)) rfl
theorem co_Ga_find : Cond.code y_Ga_find prog_1_method_19_code 2 (Option.some Jvm.ClassFile.FieldType.int) ∈ lw_g := lw_mg (List.mem_of_getElem? (i := 571) (by decide +kernel)) rfl
theorem ml_Ga_197 : Cond.methodLink "GaleNames" 197 y_Ro_placeOf ∈ lw_g := lw_mg (List.mem_of_getElem? (i := 572) (by decide +kernel)) rfl
theorem im_Ga_beginning : Cond.instanceMethod y_Ga_beginning ∈ lw_g := lw_mg (List.mem_of_getElem? (i := 574) (by decide +kernel)) rfl
theorem se_Ga_beginning : Cond.selects "GaleNames" y_Ga_beginning y_Ga_beginning ∈ lw_g := lw_mg (List.mem_of_getElem? (i := 575) (by decide +kernel)) rfl
theorem co_Ga_beginning : Cond.code y_Ga_beginning prog_1_method_20_code 1 (Option.some Jvm.ClassFile.FieldType.int) ∈ lw_g := lw_mg (List.mem_of_getElem? (i := 576) (by decide +kernel)) rfl
theorem ml_Ga_200 : Cond.methodLink "GaleNames" 200 y_St_beginningWith ∈ lw_g := lw_mg (List.mem_of_getElem? (i := 577) (by decide +kernel)) rfl
theorem im_St_beginningWith : Cond.instanceMethod y_St_beginningWith ∈ lw_g := lw_mg (List.mem_of_getElem? (i := 578) (by decide +kernel)) rfl
theorem se_St_beginningWith : Cond.selects "GaleNames$State" y_St_beginningWith y_St_beginningWith ∈ lw_g := lw_mg (List.mem_of_getElem? (i := 579) (by decide +kernel)) rfl
theorem co_St_beginningWith : Cond.code y_St_beginningWith prog_7_method_13_code 4 (Option.some Jvm.ClassFile.FieldType.int) ∈ lw_g := lw_mg (List.mem_of_getElem? (i := 580) (by decide +kernel)) rfl
theorem ml_St_111 : Cond.methodLink "GaleNames$State" 111 y_Ke_shared ∈ lw_g := lw_mg (List.mem_of_getElem? (i := 581) (by decide +kernel)) rfl
theorem ml_St_115 : Cond.methodLink "GaleNames$State" 115 y_Ke_length ∈ lw_g := lw_mg (List.mem_of_getElem? (i := 582) (by decide +kernel)) rfl
theorem im_Ga_fault : Cond.instanceMethod y_Ga_fault ∈ lw_g := lw_mg (List.mem_of_getElem? (i := 584) (by decide +kernel)) rfl
theorem se_Ga_fault : Cond.selects "GaleNames" y_Ga_fault y_Ga_fault ∈ lw_g := lw_mg (List.mem_of_getElem? (i := 585) (by decide +kernel)) rfl
theorem co_Ga_fault : Cond.code y_Ga_fault prog_1_method_27_code 1 (Option.some Jvm.ClassFile.FieldType.int) ∈ lw_g := lw_mg (List.mem_of_getElem? (i := 586) (by decide +kernel)) rfl
theorem ac_int : Cond.arrayClass Jvm.ClassFile.FieldType.int ∈ lw_g := lw_mg (List.mem_of_getElem? (i := 48) (by decide +kernel)) rfl
theorem ao_object_GaleNames_Row : Cond.arrayOver (Jvm.ClassFile.FieldType.object "GaleNames$Row") ∈ lw_tbl := List.mem_of_getElem? (i := 49) (by decide +kernel)
theorem ao_object_GaleNames_State : Cond.arrayOver (Jvm.ClassFile.FieldType.object "GaleNames$State") ∈ lw_tbl := List.mem_of_getElem? (i := 128) (by decide +kernel)
theorem il_Hi : ∀ w ∈ u_ws "GaleNames$History" F_Hi 2, w ∈ lw_g := lw_pl _ [132, 134] (by decide +kernel) (by decide +kernel)
theorem il_Ke : ∀ w ∈ u_ws "GaleNames$Key" F_Ke 0, w ∈ lw_g := lw_pl _ [] (by decide +kernel) (by decide +kernel)
theorem il_Pa : ∀ w ∈ u_ws "GaleNames$Pad" F_Pa 2, w ∈ lw_g := lw_pl _ [116, 118] (by decide +kernel) (by decide +kernel)
theorem il_Ro : ∀ w ∈ u_ws "GaleNames$Row" F_Ro 2, w ∈ lw_g := lw_pl _ [43, 45] (by decide +kernel) (by decide +kernel)
theorem il_Sl : ∀ w ∈ u_ws "GaleNames$Slots" F_Sl 1, w ∈ lw_g := lw_pl _ [145] (by decide +kernel) (by decide +kernel)
theorem il_St : ∀ w ∈ u_ws "GaleNames$State" F_St 13, w ∈ lw_g := lw_pl _ [79, 81, 83, 85, 87, 89, 91, 93, 95, 97, 99, 101, 103] (by decide +kernel) (by decide +kernel)
theorem il_Ga : ∀ w ∈ u_ws "GaleNames" F_Ga 4, w ∈ lw_g := lw_pl _ [152, 154, 156, 158] (by decide +kernel) (by decide +kernel)
theorem il_Mo : ∀ w ∈ u_ws "GaleNamesModel" F_Mo 0, w ∈ lw_g := lw_pl _ [] (by decide +kernel) (by decide +kernel)
