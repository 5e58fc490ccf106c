section
-- ===== PART A: goes FIRST, ahead of the names: the tables' words, and 'selects' of the private methods out of them =====
/-- a private method of a class that the tables say can be made, by its rows of tables_1 -/
def lw_okq (q : MethodName × Nat) : Prop := (q.1.cls ≠ "java/lang/invoke/MethodHandle" ∧ q.1.cls ≠ "java/lang/invoke/VarHandle") ∧ Cond.instantiable q.1.cls q.2 ∈ tables_1 ∧ Cond.privateMethod q.1 ∈ tables_1 ∧ Cond.instanceMethod q.1 ∈ tables_1
theorem lw_p0 : lw_okq (⟨"AbendRows", "levelOf", "(I)LAbendRows$Level;"⟩, 11) := ⟨⟨by decide +kernel, by decide +kernel⟩, List.mem_of_getElem? (i := 13) (by decide +kernel), List.mem_of_getElem? (i := 120) (by decide +kernel), List.mem_of_getElem? (i := 121) (by decide +kernel)⟩
theorem lw_p1 : lw_okq (⟨"AbendRows", "guardsOf", "(I)I"⟩, 11) := ⟨⟨by decide +kernel, by decide +kernel⟩, List.mem_of_getElem? (i := 13) (by decide +kernel), List.mem_of_getElem? (i := 242) (by decide +kernel), List.mem_of_getElem? (i := 243) (by decide +kernel)⟩
theorem lw_p2 : lw_okq (⟨"AbendRows", "brokenGuardsOf", "(I)I"⟩, 11) := ⟨⟨by decide +kernel, by decide +kernel⟩, List.mem_of_getElem? (i := 13) (by decide +kernel), List.mem_of_getElem? (i := 250) (by decide +kernel), List.mem_of_getElem? (i := 251) (by decide +kernel)⟩
theorem lw_p3 : lw_okq (⟨"AbendRows", "guardOf", "(I)LAbendRows$Guard;"⟩, 11) := ⟨⟨by decide +kernel, by decide +kernel⟩, List.mem_of_getElem? (i := 13) (by decide +kernel), List.mem_of_getElem? (i := 312) (by decide +kernel), List.mem_of_getElem? (i := 313) (by decide +kernel)⟩
theorem lw_p4 : lw_okq (⟨"AbendRowsModel", "isLevel", "(I)Z"⟩, 22) := ⟨⟨by decide +kernel, by decide +kernel⟩, List.mem_of_getElem? (i := 358) (by decide +kernel), List.mem_of_getElem? (i := 436) (by decide +kernel), List.mem_of_getElem? (i := 437) (by decide +kernel)⟩
theorem lw_p5 : lw_okq (⟨"AbendRowsModel", "endOf", "(III)I"⟩, 22) := ⟨⟨by decide +kernel, by decide +kernel⟩, List.mem_of_getElem? (i := 358) (by decide +kernel), List.mem_of_getElem? (i := 455) (by decide +kernel), List.mem_of_getElem? (i := 456) (by decide +kernel)⟩
theorem lw_p6 : lw_okq (⟨"AbendRowsModel", "isGuard", "(I)Z"⟩, 22) := ⟨⟨by decide +kernel, by decide +kernel⟩, List.mem_of_getElem? (i := 358) (by decide +kernel), List.mem_of_getElem? (i := 499) (by decide +kernel), List.mem_of_getElem? (i := 500) (by decide +kernel)⟩
def lw_privs_1 : List (MethodName × Nat) := [(⟨"AbendRows", "levelOf", "(I)LAbendRows$Level;"⟩, 11), (⟨"AbendRows", "guardsOf", "(I)I"⟩, 11), (⟨"AbendRows", "brokenGuardsOf", "(I)I"⟩, 11), (⟨"AbendRows", "guardOf", "(I)LAbendRows$Guard;"⟩, 11), (⟨"AbendRowsModel", "isLevel", "(I)Z"⟩, 22), (⟨"AbendRowsModel", "endOf", "(III)I"⟩, 22), (⟨"AbendRowsModel", "isGuard", "(I)Z"⟩, 22)]
theorem lw_r1 : ∀ q ∈ lw_privs_1, lw_okq q := List.forall_mem_cons.mpr ⟨lw_p0, List.forall_mem_cons.mpr ⟨lw_p1, List.forall_mem_cons.mpr ⟨lw_p2, List.forall_mem_cons.mpr ⟨lw_p3, List.forall_mem_cons.mpr ⟨lw_p4, List.forall_mem_cons.mpr ⟨lw_p5, List.forall_mem_cons.mpr ⟨lw_p6, fun _ h => absurd h List.not_mem_nil⟩⟩⟩⟩⟩⟩⟩
def lw_privs : List (MethodName × Nat) := lw_privs_1
def lw_tbl : List Cond := k2_sels lw_privs ++ tables_1
theorem lw_privs_ok : ∀ q ∈ lw_privs, lw_okq q := lw_r1

/-! the words that stay good under every call -/
def gt_l : List Cond := lw_tbl.filter goodWord
theorem gt_in {w : Cond} {i : Nat} (h : lw_tbl[i]? = some w) (g : goodWord w = true) : w ∈ gt_l := List.mem_filter.mpr ⟨List.mem_of_getElem? h, g⟩
theorem gt_gd {w : Cond} (h : w ∈ gt_l) : GoodIn gt_l (w :: gt_l) := fun v hv => by
  have hm : v ∈ gt_l := (List.mem_cons.mp hv).elim (fun q => q ▸ h) id
  exact ⟨hm, good_of_word (List.mem_filter.mp hm).2⟩

def R_AR : String := "AbendRows"
def T_AR : u_T := fun k => match k with
  | 0 => ("AbendRows", "levels", "[LAbendRows$Level;", true)
  | 1 => ("AbendRows", "levelsMade", "I", false)
  | 2 => ("AbendRows", "exitsMade", "I", false)
  | 3 => ("AbendRows", "search", "LAbendRows$Search;", true)
  | 4 => ("AbendRows", "guards", "[LAbendRows$Guard;", true)
  | 5 => ("AbendRows", "guardsMade", "I", false)
  | 6 => ("AbendRows", "restarts", "[I", true)
  | 7 => ("AbendRows", "stepsGone", "[J", true)
  | 8 => ("AbendRows", "dumps", "LAbendRows$DumpRow;", true)
  | 9 => ("AbendRows", "suppressed", "LAbendRows$CodeSet;", true)
  | _ => ("AbendRows", "ended", "LAbendRows$CodeLog;", true)
def t_AR : Nat → FieldType := fun k => match k with
  | 0 => .array (.object "AbendRows$Level")
  | 1 => .int
  | 2 => .int
  | 3 => .object "AbendRows$Search"
  | 4 => .array (.object "AbendRows$Guard")
  | 5 => .int
  | 6 => .array .int
  | 7 => .array .long
  | 8 => .object "AbendRows$DumpRow"
  | 9 => .object "AbendRows$CodeSet"
  | _ => .object "AbendRows$CodeLog"
theorem n_AR : ∀ a, a < 11 → ∀ b, b < 11 → a ≠ b → (T_AR a).2.1 ≠ (T_AR b).2.1 := by decide +kernel
theorem k_AR : ∀ k, k < 11 → parseFieldDescriptor (T_AR k).2.2.1 = some (t_AR k) := by decide +kernel
def R_SE : String := "AbendRows$Search"
def T_SE : u_T := fun k => match k with
  | 0 => ("AbendRows$Search", "asked", "[I", true)
  | 1 => ("AbendRows$Search", "askedCount", "I", false)
  | _ => ("AbendRows$Search", "code", "I", false)
def t_SE : Nat → FieldType := fun k => match k with
  | 0 => .array .int
  | 1 => .int
  | _ => .int
theorem n_SE : ∀ a, a < 3 → ∀ b, b < 3 → a ≠ b → (T_SE a).2.1 ≠ (T_SE b).2.1 := by decide +kernel
theorem k_SE : ∀ k, k < 3 → parseFieldDescriptor (T_SE k).2.2.1 = some (t_SE k) := by decide +kernel
def R_DR : String := "AbendRows$DumpRow"
def T_DR : u_T := fun k => match k with
  | 0 => ("AbendRows$DumpRow", "ring", "[LAbendRows$Dump;", true)
  | _ => ("AbendRows$DumpRow", "next", "I", false)
def t_DR : Nat → FieldType := fun k => match k with
  | 0 => .array (.object "AbendRows$Dump")
  | _ => .int
theorem n_DR : ∀ a, a < 2 → ∀ b, b < 2 → a ≠ b → (T_DR a).2.1 ≠ (T_DR b).2.1 := by decide +kernel
theorem k_DR : ∀ k, k < 2 → parseFieldDescriptor (T_DR k).2.2.1 = some (t_DR k) := by decide +kernel
def R_CS : String := "AbendRows$CodeSet"
def T_CS : u_T := fun k => match k with
  | _ => ("AbendRows$CodeSet", "words", "[J", true)
def t_CS : Nat → FieldType := fun k => match k with
  | _ => .array .long
theorem n_CS : ∀ a, a < 1 → ∀ b, b < 1 → a ≠ b → (T_CS a).2.1 ≠ (T_CS b).2.1 := by decide +kernel
theorem k_CS : ∀ k, k < 1 → parseFieldDescriptor (T_CS k).2.2.1 = some (t_CS k) := by decide +kernel
def R_CG : String := "AbendRows$CodeLog"
def T_CG : u_T := fun k => match k with
  | 0 => ("AbendRows$CodeLog", "codes", "[I", true)
  | _ => ("AbendRows$CodeLog", "size", "I", false)
def t_CG : Nat → FieldType := fun k => match k with
  | 0 => .array .int
  | _ => .int
theorem n_CG : ∀ a, a < 2 → ∀ b, b < 2 → a ≠ b → (T_CG a).2.1 ≠ (T_CG b).2.1 := by decide +kernel
theorem k_CG : ∀ k, k < 2 → parseFieldDescriptor (T_CG k).2.2.1 = some (t_CG k) := by decide +kernel
def R_LV : String := "AbendRows$Level"
def T_LV : u_T := fun k => match k with
  | 0 => ("AbendRows$Level", "number", "I", true)
  | 1 => ("AbendRows$Level", "above", "LAbendRows$Level;", true)
  | 2 => ("AbendRows$Level", "depth", "I", true)
  | 3 => ("AbendRows$Level", "latest", "LAbendRows$Exit;", false)
  | _ => ("AbendRows$Level", "exits", "I", false)
def t_LV : Nat → FieldType := fun k => match k with
  | 0 => .int
  | 1 => .object "AbendRows$Level"
  | 2 => .int
  | 3 => .object "AbendRows$Exit"
  | _ => .int
theorem n_LV : ∀ a, a < 5 → ∀ b, b < 5 → a ≠ b → (T_LV a).2.1 ≠ (T_LV b).2.1 := by decide +kernel
theorem k_LV : ∀ k, k < 5 → parseFieldDescriptor (T_LV k).2.2.1 = some (t_LV k) := by decide +kernel
def R_EX : String := "AbendRows$Exit"
def T_EX : u_T := fun k => match k with
  | 0 => ("AbendRows$Exit", "number", "I", true)
  | 1 => ("AbendRows$Exit", "does", "I", true)
  | 2 => ("AbendRows$Exit", "abends", "Z", true)
  | 3 => ("AbendRows$Exit", "earlier", "LAbendRows$Exit;", true)
  | _ => ("AbendRows$Exit", "retried", "Z", false)
def t_EX : Nat → FieldType := fun k => match k with
  | 0 => .int
  | 1 => .int
  | 2 => .boolean
  | 3 => .object "AbendRows$Exit"
  | _ => .boolean
theorem n_EX : ∀ a, a < 5 → ∀ b, b < 5 → a ≠ b → (T_EX a).2.1 ≠ (T_EX b).2.1 := by decide +kernel
theorem k_EX : ∀ k, k < 5 → parseFieldDescriptor (T_EX k).2.2.1 = some (t_EX k) := by decide +kernel
def R_GU : String := "AbendRows$Guard"
def T_GU : u_T := fun k => match k with
  | 0 => ("AbendRows$Guard", "task", "I", true)
  | 1 => ("AbendRows$Guard", "size", "I", true)
  | 2 => ("AbendRows$Guard", "broken", "Z", false)
  | _ => ("AbendRows$Guard", "freed", "Z", false)
def t_GU : Nat → FieldType := fun k => match k with
  | 0 => .int
  | 1 => .int
  | 2 => .boolean
  | _ => .boolean
theorem n_GU : ∀ a, a < 4 → ∀ b, b < 4 → a ≠ b → (T_GU a).2.1 ≠ (T_GU b).2.1 := by decide +kernel
theorem k_GU : ∀ k, k < 4 → parseFieldDescriptor (T_GU k).2.2.1 = some (t_GU k) := by decide +kernel
def R_DU : String := "AbendRows$Dump"
def T_DU : u_T := fun k => match k with
  | 0 => ("AbendRows$Dump", "task", "I", true)
  | 1 => ("AbendRows$Dump", "code", "I", true)
  | 2 => ("AbendRows$Dump", "guards", "I", true)
  | 3 => ("AbendRows$Dump", "brokenGuards", "I", true)
  | _ => ("AbendRows$Dump", "restarted", "Z", true)
def t_DU : Nat → FieldType := fun k => match k with
  | 0 => .int
  | 1 => .int
  | 2 => .int
  | 3 => .int
  | _ => .boolean
theorem n_DU : ∀ a, a < 5 → ∀ b, b < 5 → a ≠ b → (T_DU a).2.1 ≠ (T_DU b).2.1 := by decide +kernel
theorem k_DU : ∀ k, k < 5 → parseFieldDescriptor (T_DU k).2.2.1 = some (t_DU k) := by decide +kernel
def R_MO : String := "AbendRowsModel"
def T_MO : u_T := fun k => match k with
  | 0 => ("AbendRowsModel", "code", "I", false)
  | 1 => ("AbendRowsModel", "levels", "I", false)
  | 2 => ("AbendRowsModel", "exits", "I", false)
  | 3 => ("AbendRowsModel", "guards", "I", false)
  | 4 => ("AbendRowsModel", "dumps", "I", false)
  | 5 => ("AbendRowsModel", "asked", "I", false)
  | 6 => ("AbendRowsModel", "aboves", "[I", true)
  | 7 => ("AbendRowsModel", "depths", "[I", true)
  | 8 => ("AbendRowsModel", "sizes", "[I", true)
  | 9 => ("AbendRowsModel", "rows", "[I", true)
  | 10 => ("AbendRowsModel", "does", "[I", true)
  | 11 => ("AbendRowsModel", "order", "[I", true)
  | 12 => ("AbendRowsModel", "abends", "[Z", true)
  | 13 => ("AbendRowsModel", "retried", "[Z", true)
  | 14 => ("AbendRowsModel", "counts", "[I", true)
  | 15 => ("AbendRowsModel", "restarts", "[I", true)
  | 16 => ("AbendRowsModel", "suppressed", "[Z", true)
  | 17 => ("AbendRowsModel", "steps", "[J", true)
  | 18 => ("AbendRowsModel", "guardTasks", "[I", true)
  | 19 => ("AbendRowsModel", "guardSizes", "[I", true)
  | 20 => ("AbendRowsModel", "guardStates", "[I", true)
  | _ => ("AbendRowsModel", "kept", "[I", true)
def t_MO : Nat → FieldType := fun k => match k with
  | 0 => .int
  | 1 => .int
  | 2 => .int
  | 3 => .int
  | 4 => .int
  | 5 => .int
  | 6 => .array .int
  | 7 => .array .int
  | 8 => .array .int
  | 9 => .array .int
  | 10 => .array .int
  | 11 => .array .int
  | 12 => .array .boolean
  | 13 => .array .boolean
  | 14 => .array .int
  | 15 => .array .int
  | 16 => .array .boolean
  | 17 => .array .long
  | 18 => .array .int
  | 19 => .array .int
  | 20 => .array .int
  | _ => .array .int
theorem n_MO : ∀ a, a < 22 → ∀ b, b < 22 → a ≠ b → (T_MO a).2.1 ≠ (T_MO b).2.1 := by decide +kernel
theorem k_MO : ∀ k, k < 22 → parseFieldDescriptor (T_MO k).2.2.1 = some (t_MO k) := by decide +kernel
abbrev vC : List vw_C := [(R_AR, T_AR, 11), (R_SE, T_SE, 3), (R_DR, T_DR, 2), (R_CS, T_CS, 1), (R_CG, T_CG, 2), (R_LV, T_LV, 5), (R_EX, T_EX, 5), (R_GU, T_GU, 4), (R_DU, T_DU, 5), (R_MO, T_MO, 22)]
theorem gw_0 : (Cond.selects "AbendRows" ⟨"AbendRows", "levelOf", "(I)LAbendRows$Level;"⟩ ⟨"AbendRows", "levelOf", "(I)LAbendRows$Level;"⟩) ∈ gt_l := gt_in (i := 0) (by decide +kernel) rfl
theorem gw_1 : (Cond.selects "AbendRows" ⟨"AbendRows", "guardsOf", "(I)I"⟩ ⟨"AbendRows", "guardsOf", "(I)I"⟩) ∈ gt_l := gt_in (i := 1) (by decide +kernel) rfl
theorem gw_2 : (Cond.selects "AbendRows" ⟨"AbendRows", "brokenGuardsOf", "(I)I"⟩ ⟨"AbendRows", "brokenGuardsOf", "(I)I"⟩) ∈ gt_l := gt_in (i := 2) (by decide +kernel) rfl
theorem gw_3 : (Cond.selects "AbendRows" ⟨"AbendRows", "guardOf", "(I)LAbendRows$Guard;"⟩ ⟨"AbendRows", "guardOf", "(I)LAbendRows$Guard;"⟩) ∈ gt_l := gt_in (i := 3) (by decide +kernel) rfl
theorem gw_4 : (Cond.selects "AbendRowsModel" ⟨"AbendRowsModel", "isLevel", "(I)Z"⟩ ⟨"AbendRowsModel", "isLevel", "(I)Z"⟩) ∈ gt_l := gt_in (i := 4) (by decide +kernel) rfl
theorem gw_5 : (Cond.selects "AbendRowsModel" ⟨"AbendRowsModel", "endOf", "(III)I"⟩ ⟨"AbendRowsModel", "endOf", "(III)I"⟩) ∈ gt_l := gt_in (i := 5) (by decide +kernel) rfl
theorem gw_6 : (Cond.selects "AbendRowsModel" ⟨"AbendRowsModel", "isGuard", "(I)Z"⟩ ⟨"AbendRowsModel", "isGuard", "(I)Z"⟩) ∈ gt_l := gt_in (i := 6) (by decide +kernel) rfl
theorem gw_7 : (Jvm.Cond.initialized "AbendRowsLaw") ∈ gt_l := gt_in (i := 7) (by decide +kernel) rfl
theorem gw_8 : (Jvm.Cond.initialized "AbendRows") ∈ gt_l := gt_in (i := 8) (by decide +kernel) rfl
theorem gw_9 : (Jvm.Cond.initialized "AbendRows$Search") ∈ gt_l := gt_in (i := 9) (by decide +kernel) rfl
theorem gw_10 : (Jvm.Cond.initialized "AbendRows$DumpRow") ∈ gt_l := gt_in (i := 10) (by decide +kernel) rfl
theorem gw_11 : (Jvm.Cond.initialized "AbendRows$CodeSet") ∈ gt_l := gt_in (i := 11) (by decide +kernel) rfl
theorem gw_12 : (Jvm.Cond.initialized "AbendRows$CodeLog") ∈ gt_l := gt_in (i := 12) (by decide +kernel) rfl
theorem gw_13 : (Jvm.Cond.initialized "AbendRowsModel") ∈ gt_l := gt_in (i := 13) (by decide +kernel) rfl
theorem gw_14 : (Jvm.Cond.initialized "AbendRows$Level") ∈ gt_l := gt_in (i := 14) (by decide +kernel) rfl
theorem gw_15 : (Jvm.Cond.initialized "AbendRows$Exit") ∈ gt_l := gt_in (i := 15) (by decide +kernel) rfl
theorem gw_16 : (Jvm.Cond.initialized "java/lang/Math") ∈ gt_l := gt_in (i := 16) (by decide +kernel) rfl
theorem gw_17 : (Jvm.Cond.initialized "AbendRows$Dump") ∈ gt_l := gt_in (i := 17) (by decide +kernel) rfl
theorem gw_18 : (Jvm.Cond.initialized "AbendRows$Guard") ∈ gt_l := gt_in (i := 18) (by decide +kernel) rfl
theorem gw_19 : (Jvm.Cond.classLink "AbendRowsLaw" (7 : Nat) "AbendRows") ∈ gt_l := gt_in (i := 19) (by decide +kernel) rfl
theorem gw_20 : (Jvm.Cond.instantiable "AbendRows" (11 : Nat)) ∈ gt_l := gt_in (i := 20) (by decide +kernel) rfl
theorem gw_21 : (Jvm.Cond.methodLink "AbendRowsLaw" (9 : Nat) ({ cls := "AbendRows", name := "<init>", desc := "()V" } : Jvm.MethodName)) ∈ gt_l := gt_in (i := 21) (by decide +kernel) rfl
theorem gw_22 : (Jvm.Cond.instanceMethod ({ cls := "AbendRows", name := "<init>", desc := "()V" } : Jvm.MethodName)) ∈ gt_l := gt_in (i := 22) (by decide +kernel) rfl
set_option maxRecDepth 20000 in
theorem gw_23 : (Jvm.Cond.code ({ cls := "AbendRows", name := "<init>", desc := "()V" } : Jvm.MethodName) prog_1_method_1_code (1 : Nat) (Option.none : Option Jvm.ClassFile.FieldType)) ∈ gt_l := gt_in (i := 23) rfl rfl
theorem gw_24 : (Jvm.Cond.methodLink "AbendRows" (1 : Nat) ({ cls := "java/lang/Object", name := "<init>", desc := "()V" } : Jvm.MethodName)) ∈ gt_l := gt_in (i := 24) (by decide +kernel) rfl
theorem gw_25 : (Jvm.Cond.instanceMethod ({ cls := "java/lang/Object", name := "<init>", desc := "()V" } : Jvm.MethodName)) ∈ gt_l := gt_in (i := 25) (by decide +kernel) rfl
set_option maxRecDepth 20000 in
theorem gw_26 : (Jvm.Cond.code ({ cls := "java/lang/Object", name := "<init>", desc := "()V" } : Jvm.MethodName) object_method_1_code (1 : Nat) (Option.none : Option Jvm.ClassFile.FieldType)) ∈ gt_l := gt_in (i := 26) rfl rfl
theorem gw_27 : (Jvm.Cond.classLink "AbendRows" (9 : Nat) "AbendRows$Level") ∈ gt_l := gt_in (i := 27) (by decide +kernel) rfl
theorem gw_29 : (Jvm.Cond.classLink "AbendRows" (15 : Nat) "AbendRows$Search") ∈ gt_l := gt_in (i := 29) (by decide +kernel) rfl
theorem gw_30 : (Jvm.Cond.instantiable "AbendRows$Search" (3 : Nat)) ∈ gt_l := gt_in (i := 30) (by decide +kernel) rfl
theorem gw_32 : (Jvm.Cond.instanceMethod ({ cls := "AbendRows$Search", name := "<init>", desc := "()V" } : Jvm.MethodName)) ∈ gt_l := gt_in (i := 32) (by decide +kernel) rfl
set_option maxRecDepth 20000 in
theorem gw_33 : (Jvm.Cond.code ({ cls := "AbendRows$Search", name := "<init>", desc := "()V" } : Jvm.MethodName) prog_9_method_1_code (1 : Nat) (Option.none : Option Jvm.ClassFile.FieldType)) ∈ gt_l := gt_in (i := 33) rfl rfl
theorem gw_34 : (Jvm.Cond.methodLink "AbendRows$Search" (3 : Nat) ({ cls := "java/lang/Object", name := "<init>", desc := "()V" } : Jvm.MethodName)) ∈ gt_l := gt_in (i := 34) (by decide +kernel) rfl
theorem gw_35 : (Jvm.Cond.fieldLink "AbendRows$Search" (9 : Nat) "AbendRows$Search" "asked" "[I") ∈ gt_l := gt_in (i := 35) (by decide +kernel) rfl
theorem gw_36 : (Jvm.Cond.fieldLink "AbendRows$Search" (15 : Nat) "AbendRows$Search" "askedCount" "I") ∈ gt_l := gt_in (i := 36) (by decide +kernel) rfl
theorem gw_37 : (Jvm.Cond.fieldLink "AbendRows$Search" (19 : Nat) "AbendRows$Search" "code" "I") ∈ gt_l := gt_in (i := 37) (by decide +kernel) rfl
theorem gw_38 : (Jvm.Cond.fieldLink "AbendRows" (101 : Nat) "AbendRows$Search" "code" "I") ∈ gt_l := gt_in (i := 38) (by decide +kernel) rfl
theorem gw_46 : (Jvm.Cond.arrayClass Jvm.ClassFile.FieldType.int) ∈ gt_l := gt_in (i := 46) (by decide +kernel) rfl
theorem gw_47 : (Jvm.Cond.classLink "AbendRows" (22 : Nat) "AbendRows$Guard") ∈ gt_l := gt_in (i := 47) (by decide +kernel) rfl
theorem gw_49 : (Jvm.Cond.classLink "AbendRows" (36 : Nat) "AbendRows$DumpRow") ∈ gt_l := gt_in (i := 49) (by decide +kernel) rfl
theorem gw_50 : (Jvm.Cond.instantiable "AbendRows$DumpRow" (2 : Nat)) ∈ gt_l := gt_in (i := 50) (by decide +kernel) rfl
theorem gw_52 : (Jvm.Cond.instanceMethod ({ cls := "AbendRows$DumpRow", name := "<init>", desc := "()V" } : Jvm.MethodName)) ∈ gt_l := gt_in (i := 52) (by decide +kernel) rfl
set_option maxRecDepth 20000 in
theorem gw_53 : (Jvm.Cond.code ({ cls := "AbendRows$DumpRow", name := "<init>", desc := "()V" } : Jvm.MethodName) prog_5_method_1_code (1 : Nat) (Option.none : Option Jvm.ClassFile.FieldType)) ∈ gt_l := gt_in (i := 53) rfl rfl
theorem gw_54 : (Jvm.Cond.methodLink "AbendRows$DumpRow" (3 : Nat) ({ cls := "java/lang/Object", name := "<init>", desc := "()V" } : Jvm.MethodName)) ∈ gt_l := gt_in (i := 54) (by decide +kernel) rfl
theorem gw_55 : (Jvm.Cond.classLink "AbendRows$DumpRow" (9 : Nat) "AbendRows$Dump") ∈ gt_l := gt_in (i := 55) (by decide +kernel) rfl
theorem gw_57 : (Jvm.Cond.fieldLink "AbendRows$DumpRow" (11 : Nat) "AbendRows$DumpRow" "ring" "[LAbendRows$Dump;") ∈ gt_l := gt_in (i := 57) (by decide +kernel) rfl
theorem gw_58 : (Jvm.Cond.fieldLink "AbendRows$DumpRow" (17 : Nat) "AbendRows$DumpRow" "next" "I") ∈ gt_l := gt_in (i := 58) (by decide +kernel) rfl
theorem gw_64 : (Jvm.Cond.arrayClass Jvm.ClassFile.FieldType.long) ∈ gt_l := gt_in (i := 64) (by decide +kernel) rfl
theorem gw_65 : (Jvm.Cond.classLink "AbendRows" (43 : Nat) "AbendRows$CodeSet") ∈ gt_l := gt_in (i := 65) (by decide +kernel) rfl
theorem gw_66 : (Jvm.Cond.instantiable "AbendRows$CodeSet" (1 : Nat)) ∈ gt_l := gt_in (i := 66) (by decide +kernel) rfl
theorem gw_68 : (Jvm.Cond.instanceMethod ({ cls := "AbendRows$CodeSet", name := "<init>", desc := "()V" } : Jvm.MethodName)) ∈ gt_l := gt_in (i := 68) (by decide +kernel) rfl
set_option maxRecDepth 20000 in
theorem gw_69 : (Jvm.Cond.code ({ cls := "AbendRows$CodeSet", name := "<init>", desc := "()V" } : Jvm.MethodName) prog_3_method_1_code (1 : Nat) (Option.none : Option Jvm.ClassFile.FieldType)) ∈ gt_l := gt_in (i := 69) rfl rfl
theorem gw_70 : (Jvm.Cond.methodLink "AbendRows$CodeSet" (3 : Nat) ({ cls := "java/lang/Object", name := "<init>", desc := "()V" } : Jvm.MethodName)) ∈ gt_l := gt_in (i := 70) (by decide +kernel) rfl
theorem gw_71 : (Jvm.Cond.fieldLink "AbendRows$CodeSet" (11 : Nat) "AbendRows$CodeSet" "words" "[J") ∈ gt_l := gt_in (i := 71) (by decide +kernel) rfl
theorem gw_75 : (Jvm.Cond.classLink "AbendRows" (50 : Nat) "AbendRows$CodeLog") ∈ gt_l := gt_in (i := 75) (by decide +kernel) rfl
theorem gw_76 : (Jvm.Cond.instantiable "AbendRows$CodeLog" (2 : Nat)) ∈ gt_l := gt_in (i := 76) (by decide +kernel) rfl
theorem gw_78 : (Jvm.Cond.instanceMethod ({ cls := "AbendRows$CodeLog", name := "<init>", desc := "()V" } : Jvm.MethodName)) ∈ gt_l := gt_in (i := 78) (by decide +kernel) rfl
set_option maxRecDepth 20000 in
theorem gw_79 : (Jvm.Cond.code ({ cls := "AbendRows$CodeLog", name := "<init>", desc := "()V" } : Jvm.MethodName) prog_2_method_1_code (1 : Nat) (Option.none : Option Jvm.ClassFile.FieldType)) ∈ gt_l := gt_in (i := 79) rfl rfl
theorem gw_80 : (Jvm.Cond.methodLink "AbendRows$CodeLog" (3 : Nat) ({ cls := "java/lang/Object", name := "<init>", desc := "()V" } : Jvm.MethodName)) ∈ gt_l := gt_in (i := 80) (by decide +kernel) rfl
theorem gw_81 : (Jvm.Cond.fieldLink "AbendRows$CodeLog" (9 : Nat) "AbendRows$CodeLog" "codes" "[I") ∈ gt_l := gt_in (i := 81) (by decide +kernel) rfl
theorem gw_82 : (Jvm.Cond.fieldLink "AbendRows$CodeLog" (15 : Nat) "AbendRows$CodeLog" "size" "I") ∈ gt_l := gt_in (i := 82) (by decide +kernel) rfl
theorem gw_88 : (Jvm.Cond.fieldLink "AbendRows" (11 : Nat) "AbendRows" "levels" "[LAbendRows$Level;") ∈ gt_l := gt_in (i := 88) (by decide +kernel) rfl
theorem gw_89 : (Jvm.Cond.fieldLink "AbendRows" (65 : Nat) "AbendRows" "levelsMade" "I") ∈ gt_l := gt_in (i := 89) (by decide +kernel) rfl
theorem gw_90 : (Jvm.Cond.fieldLink "AbendRows" (77 : Nat) "AbendRows" "exitsMade" "I") ∈ gt_l := gt_in (i := 90) (by decide +kernel) rfl
theorem gw_91 : (Jvm.Cond.fieldLink "AbendRows" (18 : Nat) "AbendRows" "search" "LAbendRows$Search;") ∈ gt_l := gt_in (i := 91) (by decide +kernel) rfl
theorem gw_92 : (Jvm.Cond.fieldLink "AbendRows" (24 : Nat) "AbendRows" "guards" "[LAbendRows$Guard;") ∈ gt_l := gt_in (i := 92) (by decide +kernel) rfl
theorem gw_93 : (Jvm.Cond.fieldLink "AbendRows" (136 : Nat) "AbendRows" "guardsMade" "I") ∈ gt_l := gt_in (i := 93) (by decide +kernel) rfl
theorem gw_94 : (Jvm.Cond.fieldLink "AbendRows" (28 : Nat) "AbendRows" "restarts" "[I") ∈ gt_l := gt_in (i := 94) (by decide +kernel) rfl
theorem gw_95 : (Jvm.Cond.fieldLink "AbendRows" (32 : Nat) "AbendRows" "stepsGone" "[J") ∈ gt_l := gt_in (i := 95) (by decide +kernel) rfl
theorem gw_96 : (Jvm.Cond.fieldLink "AbendRows" (39 : Nat) "AbendRows" "dumps" "LAbendRows$DumpRow;") ∈ gt_l := gt_in (i := 96) (by decide +kernel) rfl
theorem gw_97 : (Jvm.Cond.fieldLink "AbendRows" (46 : Nat) "AbendRows" "suppressed" "LAbendRows$CodeSet;") ∈ gt_l := gt_in (i := 97) (by decide +kernel) rfl
theorem gw_98 : (Jvm.Cond.fieldLink "AbendRows" (53 : Nat) "AbendRows" "ended" "LAbendRows$CodeLog;") ∈ gt_l := gt_in (i := 98) (by decide +kernel) rfl
theorem gw_122 : (Jvm.Cond.methodLink "AbendRowsLaw" (13 : Nat) ({ cls := "AbendRows", name := "level", desc := "(I)I" } : Jvm.MethodName)) ∈ gt_l := gt_in (i := 122) (by decide +kernel) rfl
theorem gw_123 : (Jvm.Cond.instanceMethod ({ cls := "AbendRows", name := "level", desc := "(I)I" } : Jvm.MethodName)) ∈ gt_l := gt_in (i := 123) (by decide +kernel) rfl
theorem gw_124 : (Jvm.Cond.selects "AbendRows" ({ cls := "AbendRows", name := "level", desc := "(I)I" } : Jvm.MethodName) ({ cls := "AbendRows", name := "level", desc := "(I)I" } : Jvm.MethodName)) ∈ gt_l := gt_in (i := 124) (by decide +kernel) rfl
set_option maxRecDepth 20000 in
theorem gw_125 : (Jvm.Cond.code ({ cls := "AbendRows", name := "level", desc := "(I)I" } : Jvm.MethodName) prog_1_method_2_code (5 : Nat) (Option.some Jvm.ClassFile.FieldType.int)) ∈ gt_l := gt_in (i := 125) rfl rfl
theorem gw_126 : (Jvm.Cond.methodLink "AbendRows" (57 : Nat) ({ cls := "AbendRows", name := "levelOf", desc := "(I)LAbendRows$Level;" } : Jvm.MethodName)) ∈ gt_l := gt_in (i := 126) (by decide +kernel) rfl
theorem gw_128 : (Jvm.Cond.instanceMethod ({ cls := "AbendRows", name := "levelOf", desc := "(I)LAbendRows$Level;" } : Jvm.MethodName)) ∈ gt_l := gt_in (i := 128) (by decide +kernel) rfl
set_option maxRecDepth 20000 in
theorem gw_129 : (Jvm.Cond.code ({ cls := "AbendRows", name := "levelOf", desc := "(I)LAbendRows$Level;" } : Jvm.MethodName) prog_1_method_19_code (2 : Nat) (Option.some (Jvm.ClassFile.FieldType.object "AbendRows$Level"))) ∈ gt_l := gt_in (i := 129) rfl rfl
theorem gw_130 : (Jvm.Cond.instantiable "AbendRows$Level" (5 : Nat)) ∈ gt_l := gt_in (i := 130) (by decide +kernel) rfl
theorem gw_131 : (Jvm.Cond.methodLink "AbendRows" (68 : Nat) ({ cls := "AbendRows$Level", name := "<init>", desc := "(ILAbendRows$Level;I)V" } : Jvm.MethodName)) ∈ gt_l := gt_in (i := 131) (by decide +kernel) rfl
theorem gw_132 : (Jvm.Cond.instanceMethod ({ cls := "AbendRows$Level", name := "<init>", desc := "(ILAbendRows$Level;I)V" } : Jvm.MethodName)) ∈ gt_l := gt_in (i := 132) (by decide +kernel) rfl
set_option maxRecDepth 20000 in
theorem gw_133 : (Jvm.Cond.code ({ cls := "AbendRows$Level", name := "<init>", desc := "(ILAbendRows$Level;I)V" } : Jvm.MethodName) prog_8_method_1_code (4 : Nat) (Option.none : Option Jvm.ClassFile.FieldType)) ∈ gt_l := gt_in (i := 133) rfl rfl
theorem gw_134 : (Jvm.Cond.methodLink "AbendRows$Level" (1 : Nat) ({ cls := "java/lang/Object", name := "<init>", desc := "()V" } : Jvm.MethodName)) ∈ gt_l := gt_in (i := 134) (by decide +kernel) rfl
theorem gw_135 : (Jvm.Cond.fieldLink "AbendRows$Level" (7 : Nat) "AbendRows$Level" "number" "I") ∈ gt_l := gt_in (i := 135) (by decide +kernel) rfl
theorem gw_136 : (Jvm.Cond.fieldLink "AbendRows" (71 : Nat) "AbendRows$Level" "number" "I") ∈ gt_l := gt_in (i := 136) (by decide +kernel) rfl
theorem gw_137 : (Jvm.Cond.fieldLink "AbendRows$Level" (13 : Nat) "AbendRows$Level" "above" "LAbendRows$Level;") ∈ gt_l := gt_in (i := 137) (by decide +kernel) rfl
theorem gw_138 : (Jvm.Cond.fieldLink "AbendRows$Search" (37 : Nat) "AbendRows$Level" "above" "LAbendRows$Level;") ∈ gt_l := gt_in (i := 138) (by decide +kernel) rfl
theorem gw_139 : (Jvm.Cond.fieldLink "AbendRows" (181 : Nat) "AbendRows$Level" "above" "LAbendRows$Level;") ∈ gt_l := gt_in (i := 139) (by decide +kernel) rfl
theorem gw_140 : (Jvm.Cond.fieldLink "AbendRows$Level" (17 : Nat) "AbendRows$Level" "depth" "I") ∈ gt_l := gt_in (i := 140) (by decide +kernel) rfl
theorem gw_141 : (Jvm.Cond.fieldLink "AbendRows" (61 : Nat) "AbendRows$Level" "depth" "I") ∈ gt_l := gt_in (i := 141) (by decide +kernel) rfl
theorem gw_142 : (Jvm.Cond.fieldLink "AbendRows$Search" (22 : Nat) "AbendRows$Level" "latest" "LAbendRows$Exit;") ∈ gt_l := gt_in (i := 142) (by decide +kernel) rfl
theorem gw_143 : (Jvm.Cond.fieldLink "AbendRows" (82 : Nat) "AbendRows$Level" "latest" "LAbendRows$Exit;") ∈ gt_l := gt_in (i := 143) (by decide +kernel) rfl
theorem gw_144 : (Jvm.Cond.fieldLink "AbendRows" (74 : Nat) "AbendRows$Level" "exits" "I") ∈ gt_l := gt_in (i := 144) (by decide +kernel) rfl
theorem gw_156 : (Jvm.Cond.methodLink "AbendRowsLaw" (18 : Nat) ({ cls := "AbendRows", name := "exit", desc := "(IIZ)I" } : Jvm.MethodName)) ∈ gt_l := gt_in (i := 156) (by decide +kernel) rfl
theorem gw_157 : (Jvm.Cond.instanceMethod ({ cls := "AbendRows", name := "exit", desc := "(IIZ)I" } : Jvm.MethodName)) ∈ gt_l := gt_in (i := 157) (by decide +kernel) rfl
theorem gw_158 : (Jvm.Cond.selects "AbendRows" ({ cls := "AbendRows", name := "exit", desc := "(IIZ)I" } : Jvm.MethodName) ({ cls := "AbendRows", name := "exit", desc := "(IIZ)I" } : Jvm.MethodName)) ∈ gt_l := gt_in (i := 158) (by decide +kernel) rfl
set_option maxRecDepth 20000 in
theorem gw_159 : (Jvm.Cond.code ({ cls := "AbendRows", name := "exit", desc := "(IIZ)I" } : Jvm.MethodName) prog_1_method_3_code (5 : Nat) (Option.some Jvm.ClassFile.FieldType.int)) ∈ gt_l := gt_in (i := 159) rfl rfl
theorem gw_160 : (Jvm.Cond.classLink "AbendRows" (80 : Nat) "AbendRows$Exit") ∈ gt_l := gt_in (i := 160) (by decide +kernel) rfl
theorem gw_161 : (Jvm.Cond.instantiable "AbendRows$Exit" (5 : Nat)) ∈ gt_l := gt_in (i := 161) (by decide +kernel) rfl
theorem gw_162 : (Jvm.Cond.methodLink "AbendRows" (86 : Nat) ({ cls := "AbendRows$Exit", name := "<init>", desc := "(IIZLAbendRows$Exit;)V" } : Jvm.MethodName)) ∈ gt_l := gt_in (i := 162) (by decide +kernel) rfl
theorem gw_163 : (Jvm.Cond.instanceMethod ({ cls := "AbendRows$Exit", name := "<init>", desc := "(IIZLAbendRows$Exit;)V" } : Jvm.MethodName)) ∈ gt_l := gt_in (i := 163) (by decide +kernel) rfl
set_option maxRecDepth 20000 in
theorem gw_164 : (Jvm.Cond.code ({ cls := "AbendRows$Exit", name := "<init>", desc := "(IIZLAbendRows$Exit;)V" } : Jvm.MethodName) prog_6_method_1_code (5 : Nat) (Option.none : Option Jvm.ClassFile.FieldType)) ∈ gt_l := gt_in (i := 164) rfl rfl
theorem gw_165 : (Jvm.Cond.methodLink "AbendRows$Exit" (1 : Nat) ({ cls := "java/lang/Object", name := "<init>", desc := "()V" } : Jvm.MethodName)) ∈ gt_l := gt_in (i := 165) (by decide +kernel) rfl
theorem gw_166 : (Jvm.Cond.fieldLink "AbendRows$Exit" (7 : Nat) "AbendRows$Exit" "number" "I") ∈ gt_l := gt_in (i := 166) (by decide +kernel) rfl
theorem gw_167 : (Jvm.Cond.fieldLink "AbendRows$Search" (41 : Nat) "AbendRows$Exit" "number" "I") ∈ gt_l := gt_in (i := 167) (by decide +kernel) rfl
theorem gw_168 : (Jvm.Cond.fieldLink "AbendRows$Exit" (13 : Nat) "AbendRows$Exit" "does" "I") ∈ gt_l := gt_in (i := 168) (by decide +kernel) rfl
theorem gw_169 : (Jvm.Cond.fieldLink "AbendRows$Search" (58 : Nat) "AbendRows$Exit" "does" "I") ∈ gt_l := gt_in (i := 169) (by decide +kernel) rfl
theorem gw_170 : (Jvm.Cond.fieldLink "AbendRows$Exit" (16 : Nat) "AbendRows$Exit" "abends" "Z") ∈ gt_l := gt_in (i := 170) (by decide +kernel) rfl
theorem gw_171 : (Jvm.Cond.fieldLink "AbendRows$Search" (48 : Nat) "AbendRows$Exit" "abends" "Z") ∈ gt_l := gt_in (i := 171) (by decide +kernel) rfl
theorem gw_172 : (Jvm.Cond.fieldLink "AbendRows$Exit" (20 : Nat) "AbendRows$Exit" "earlier" "LAbendRows$Exit;") ∈ gt_l := gt_in (i := 172) (by decide +kernel) rfl
theorem gw_173 : (Jvm.Cond.fieldLink "AbendRows$Search" (32 : Nat) "AbendRows$Exit" "earlier" "LAbendRows$Exit;") ∈ gt_l := gt_in (i := 173) (by decide +kernel) rfl
theorem gw_174 : (Jvm.Cond.fieldLink "AbendRows" (112 : Nat) "AbendRows$Exit" "earlier" "LAbendRows$Exit;") ∈ gt_l := gt_in (i := 174) (by decide +kernel) rfl
theorem gw_175 : (Jvm.Cond.fieldLink "AbendRows$Search" (65 : Nat) "AbendRows$Exit" "retried" "Z") ∈ gt_l := gt_in (i := 175) (by decide +kernel) rfl
theorem gw_187 : (Jvm.Cond.methodLink "AbendRowsLaw" (23 : Nat) ({ cls := "AbendRows", name := "abend", desc := "(II)I" } : Jvm.MethodName)) ∈ gt_l := gt_in (i := 187) (by decide +kernel) rfl
theorem gw_188 : (Jvm.Cond.instanceMethod ({ cls := "AbendRows", name := "abend", desc := "(II)I" } : Jvm.MethodName)) ∈ gt_l := gt_in (i := 188) (by decide +kernel) rfl
theorem gw_189 : (Jvm.Cond.selects "AbendRows" ({ cls := "AbendRows", name := "abend", desc := "(II)I" } : Jvm.MethodName) ({ cls := "AbendRows", name := "abend", desc := "(II)I" } : Jvm.MethodName)) ∈ gt_l := gt_in (i := 189) (by decide +kernel) rfl
set_option maxRecDepth 20000 in
theorem gw_190 : (Jvm.Cond.code ({ cls := "AbendRows", name := "abend", desc := "(II)I" } : Jvm.MethodName) prog_1_method_4_code (5 : Nat) (Option.some Jvm.ClassFile.FieldType.int)) ∈ gt_l := gt_in (i := 190) rfl rfl
theorem gw_191 : (Jvm.Cond.methodLink "AbendRows" (89 : Nat) ({ cls := "AbendRows", name := "isCode", desc := "(I)Z" } : Jvm.MethodName)) ∈ gt_l := gt_in (i := 191) (by decide +kernel) rfl
theorem gw_192 : (Jvm.Cond.static ({ cls := "AbendRows", name := "isCode", desc := "(I)Z" } : Jvm.MethodName)) ∈ gt_l := gt_in (i := 192) (by decide +kernel) rfl
set_option maxRecDepth 20000 in
theorem gw_193 : (Jvm.Cond.code ({ cls := "AbendRows", name := "isCode", desc := "(I)Z" } : Jvm.MethodName) prog_1_method_17_code (1 : Nat) (Option.some Jvm.ClassFile.FieldType.boolean)) ∈ gt_l := gt_in (i := 193) rfl rfl
theorem gw_194 : (Jvm.Cond.methodLink "AbendRows" (93 : Nat) ({ cls := "AbendRows$Search", name := "findEnd", desc := "(LAbendRows$Level;I)LAbendRows$Level;" } : Jvm.MethodName)) ∈ gt_l := gt_in (i := 194) (by decide +kernel) rfl
theorem gw_195 : (Jvm.Cond.instanceMethod ({ cls := "AbendRows$Search", name := "findEnd", desc := "(LAbendRows$Level;I)LAbendRows$Level;" } : Jvm.MethodName)) ∈ gt_l := gt_in (i := 195) (by decide +kernel) rfl
theorem gw_196 : (Jvm.Cond.selects "AbendRows$Search" ({ cls := "AbendRows$Search", name := "findEnd", desc := "(LAbendRows$Level;I)LAbendRows$Level;" } : Jvm.MethodName) ({ cls := "AbendRows$Search", name := "findEnd", desc := "(LAbendRows$Level;I)LAbendRows$Level;" } : Jvm.MethodName)) ∈ gt_l := gt_in (i := 196) (by decide +kernel) rfl
set_option maxRecDepth 20000 in
theorem gw_197 : (Jvm.Cond.code ({ cls := "AbendRows$Search", name := "findEnd", desc := "(LAbendRows$Level;I)LAbendRows$Level;" } : Jvm.MethodName) prog_9_method_2_code (6 : Nat) (Option.some (Jvm.ClassFile.FieldType.object "AbendRows$Level"))) ∈ gt_l := gt_in (i := 197) rfl rfl
theorem gw_198 : (Jvm.Cond.methodLink "AbendRows$Search" (28 : Nat) ({ cls := "AbendRows$Search", name := "ask", desc := "(LAbendRows$Exit;LAbendRows$Level;LAbendRows$Level;)LAbendRows$Level;" } : Jvm.MethodName)) ∈ gt_l := gt_in (i := 198) (by decide +kernel) rfl
theorem gw_199 : (Jvm.Cond.instanceMethod ({ cls := "AbendRows$Search", name := "ask", desc := "(LAbendRows$Exit;LAbendRows$Level;LAbendRows$Level;)LAbendRows$Level;" } : Jvm.MethodName)) ∈ gt_l := gt_in (i := 199) (by decide +kernel) rfl
theorem gw_200 : (Jvm.Cond.selects "AbendRows$Search" ({ cls := "AbendRows$Search", name := "ask", desc := "(LAbendRows$Exit;LAbendRows$Level;LAbendRows$Level;)LAbendRows$Level;" } : Jvm.MethodName) ({ cls := "AbendRows$Search", name := "ask", desc := "(LAbendRows$Exit;LAbendRows$Level;LAbendRows$Level;)LAbendRows$Level;" } : Jvm.MethodName)) ∈ gt_l := gt_in (i := 200) (by decide +kernel) rfl
set_option maxRecDepth 20000 in
theorem gw_201 : (Jvm.Cond.code ({ cls := "AbendRows$Search", name := "ask", desc := "(LAbendRows$Exit;LAbendRows$Level;LAbendRows$Level;)LAbendRows$Level;" } : Jvm.MethodName) prog_9_method_3_code (4 : Nat) (Option.some (Jvm.ClassFile.FieldType.object "AbendRows$Level"))) ∈ gt_l := gt_in (i := 201) rfl rfl
theorem gw_202 : (Jvm.Cond.methodLink "AbendRows$Search" (44 : Nat) ({ cls := "AbendRows$Search", name := "note", desc := "(I)V" } : Jvm.MethodName)) ∈ gt_l := gt_in (i := 202) (by decide +kernel) rfl
theorem gw_203 : (Jvm.Cond.instanceMethod ({ cls := "AbendRows$Search", name := "note", desc := "(I)V" } : Jvm.MethodName)) ∈ gt_l := gt_in (i := 203) (by decide +kernel) rfl
theorem gw_204 : (Jvm.Cond.selects "AbendRows$Search" ({ cls := "AbendRows$Search", name := "note", desc := "(I)V" } : Jvm.MethodName) ({ cls := "AbendRows$Search", name := "note", desc := "(I)V" } : Jvm.MethodName)) ∈ gt_l := gt_in (i := 204) (by decide +kernel) rfl
set_option maxRecDepth 20000 in
theorem gw_205 : (Jvm.Cond.code ({ cls := "AbendRows$Search", name := "note", desc := "(I)V" } : Jvm.MethodName) prog_9_method_5_code (2 : Nat) (Option.none : Option Jvm.ClassFile.FieldType)) ∈ gt_l := gt_in (i := 205) rfl rfl
theorem gw_206 : (Jvm.Cond.methodLink "AbendRows$Search" (52 : Nat) ({ cls := "java/lang/Math", name := "min", desc := "(II)I" } : Jvm.MethodName)) ∈ gt_l := gt_in (i := 206) (by decide +kernel) rfl
theorem gw_207 : (Jvm.Cond.static ({ cls := "java/lang/Math", name := "min", desc := "(II)I" } : Jvm.MethodName)) ∈ gt_l := gt_in (i := 207) (by decide +kernel) rfl
set_option maxRecDepth 20000 in
theorem gw_208 : (Jvm.Cond.code ({ cls := "java/lang/Math", name := "min", desc := "(II)I" } : Jvm.MethodName) prog_12_method_69_code (2 : Nat) (Option.some Jvm.ClassFile.FieldType.int)) ∈ gt_l := gt_in (i := 208) rfl rfl
theorem gw_209 : (Jvm.Cond.methodLink "AbendRows$Search" (61 : Nat) ({ cls := "AbendRows$Search", name := "retriesNow", desc := "(LAbendRows$Exit;)Z" } : Jvm.MethodName)) ∈ gt_l := gt_in (i := 209) (by decide +kernel) rfl
theorem gw_210 : (Jvm.Cond.static ({ cls := "AbendRows$Search", name := "retriesNow", desc := "(LAbendRows$Exit;)Z" } : Jvm.MethodName)) ∈ gt_l := gt_in (i := 210) (by decide +kernel) rfl
set_option maxRecDepth 20000 in
theorem gw_211 : (Jvm.Cond.code ({ cls := "AbendRows$Search", name := "retriesNow", desc := "(LAbendRows$Exit;)Z" } : Jvm.MethodName) prog_9_method_4_code (2 : Nat) (Option.some Jvm.ClassFile.FieldType.boolean)) ∈ gt_l := gt_in (i := 211) rfl rfl
theorem gw_212 : (Jvm.Cond.methodLink "AbendRows" (97 : Nat) ({ cls := "AbendRows", name := "loseExits", desc := "(LAbendRows$Level;LAbendRows$Level;)V" } : Jvm.MethodName)) ∈ gt_l := gt_in (i := 212) (by decide +kernel) rfl
theorem gw_213 : (Jvm.Cond.static ({ cls := "AbendRows", name := "loseExits", desc := "(LAbendRows$Level;LAbendRows$Level;)V" } : Jvm.MethodName)) ∈ gt_l := gt_in (i := 213) (by decide +kernel) rfl
set_option maxRecDepth 20000 in
theorem gw_214 : (Jvm.Cond.code ({ cls := "AbendRows", name := "loseExits", desc := "(LAbendRows$Level;LAbendRows$Level;)V" } : Jvm.MethodName) prog_1_method_23_code (3 : Nat) (Option.none : Option Jvm.ClassFile.FieldType)) ∈ gt_l := gt_in (i := 214) rfl rfl
theorem gw_215 : (Jvm.Cond.methodLink "AbendRows" (104 : Nat) ({ cls := "AbendRows$CodeLog", name := "add", desc := "(I)V" } : Jvm.MethodName)) ∈ gt_l := gt_in (i := 215) (by decide +kernel) rfl
theorem gw_216 : (Jvm.Cond.instanceMethod ({ cls := "AbendRows$CodeLog", name := "add", desc := "(I)V" } : Jvm.MethodName)) ∈ gt_l := gt_in (i := 216) (by decide +kernel) rfl
theorem gw_217 : (Jvm.Cond.selects "AbendRows$CodeLog" ({ cls := "AbendRows$CodeLog", name := "add", desc := "(I)V" } : Jvm.MethodName) ({ cls := "AbendRows$CodeLog", name := "add", desc := "(I)V" } : Jvm.MethodName)) ∈ gt_l := gt_in (i := 217) (by decide +kernel) rfl
set_option maxRecDepth 20000 in
theorem gw_218 : (Jvm.Cond.code ({ cls := "AbendRows$CodeLog", name := "add", desc := "(I)V" } : Jvm.MethodName) prog_2_method_2_code (2 : Nat) (Option.none : Option Jvm.ClassFile.FieldType)) ∈ gt_l := gt_in (i := 218) rfl rfl
theorem gw_219 : (Jvm.Cond.methodLink "AbendRowsLaw" (28 : Nat) ({ cls := "AbendRows", name := "order", desc := "(I)I" } : Jvm.MethodName)) ∈ gt_l := gt_in (i := 219) (by decide +kernel) rfl
theorem gw_220 : (Jvm.Cond.instanceMethod ({ cls := "AbendRows", name := "order", desc := "(I)I" } : Jvm.MethodName)) ∈ gt_l := gt_in (i := 220) (by decide +kernel) rfl
theorem gw_221 : (Jvm.Cond.selects "AbendRows" ({ cls := "AbendRows", name := "order", desc := "(I)I" } : Jvm.MethodName) ({ cls := "AbendRows", name := "order", desc := "(I)I" } : Jvm.MethodName)) ∈ gt_l := gt_in (i := 221) (by decide +kernel) rfl
set_option maxRecDepth 20000 in
theorem gw_222 : (Jvm.Cond.code ({ cls := "AbendRows", name := "order", desc := "(I)I" } : Jvm.MethodName) prog_1_method_5_code (2 : Nat) (Option.some Jvm.ClassFile.FieldType.int)) ∈ gt_l := gt_in (i := 222) rfl rfl
theorem gw_223 : (Jvm.Cond.methodLink "AbendRows" (108 : Nat) ({ cls := "AbendRows$Search", name := "askedAt", desc := "(I)I" } : Jvm.MethodName)) ∈ gt_l := gt_in (i := 223) (by decide +kernel) rfl
theorem gw_224 : (Jvm.Cond.instanceMethod ({ cls := "AbendRows$Search", name := "askedAt", desc := "(I)I" } : Jvm.MethodName)) ∈ gt_l := gt_in (i := 224) (by decide +kernel) rfl
theorem gw_225 : (Jvm.Cond.selects "AbendRows$Search" ({ cls := "AbendRows$Search", name := "askedAt", desc := "(I)I" } : Jvm.MethodName) ({ cls := "AbendRows$Search", name := "askedAt", desc := "(I)I" } : Jvm.MethodName)) ∈ gt_l := gt_in (i := 225) (by decide +kernel) rfl
set_option maxRecDepth 20000 in
theorem gw_226 : (Jvm.Cond.code ({ cls := "AbendRows$Search", name := "askedAt", desc := "(I)I" } : Jvm.MethodName) prog_9_method_6_code (2 : Nat) (Option.some Jvm.ClassFile.FieldType.int)) ∈ gt_l := gt_in (i := 226) rfl rfl
theorem gw_227 : (Jvm.Cond.methodLink "AbendRowsLaw" (32 : Nat) ({ cls := "AbendRows", name := "cancel", desc := "(I)I" } : Jvm.MethodName)) ∈ gt_l := gt_in (i := 227) (by decide +kernel) rfl
theorem gw_228 : (Jvm.Cond.instanceMethod ({ cls := "AbendRows", name := "cancel", desc := "(I)I" } : Jvm.MethodName)) ∈ gt_l := gt_in (i := 228) (by decide +kernel) rfl
theorem gw_229 : (Jvm.Cond.selects "AbendRows" ({ cls := "AbendRows", name := "cancel", desc := "(I)I" } : Jvm.MethodName) ({ cls := "AbendRows", name := "cancel", desc := "(I)I" } : Jvm.MethodName)) ∈ gt_l := gt_in (i := 229) (by decide +kernel) rfl
set_option maxRecDepth 20000 in
theorem gw_230 : (Jvm.Cond.code ({ cls := "AbendRows", name := "cancel", desc := "(I)I" } : Jvm.MethodName) prog_1_method_6_code (4 : Nat) (Option.some Jvm.ClassFile.FieldType.int)) ∈ gt_l := gt_in (i := 230) rfl rfl
theorem gw_231 : (Jvm.Cond.methodLink "AbendRowsLaw" (36 : Nat) ({ cls := "AbendRows", name := "restart", desc := "(II)I" } : Jvm.MethodName)) ∈ gt_l := gt_in (i := 231) (by decide +kernel) rfl
theorem gw_232 : (Jvm.Cond.instanceMethod ({ cls := "AbendRows", name := "restart", desc := "(II)I" } : Jvm.MethodName)) ∈ gt_l := gt_in (i := 232) (by decide +kernel) rfl
theorem gw_233 : (Jvm.Cond.selects "AbendRows" ({ cls := "AbendRows", name := "restart", desc := "(II)I" } : Jvm.MethodName) ({ cls := "AbendRows", name := "restart", desc := "(II)I" } : Jvm.MethodName)) ∈ gt_l := gt_in (i := 233) (by decide +kernel) rfl
set_option maxRecDepth 20000 in
theorem gw_234 : (Jvm.Cond.code ({ cls := "AbendRows", name := "restart", desc := "(II)I" } : Jvm.MethodName) prog_1_method_7_code (4 : Nat) (Option.some Jvm.ClassFile.FieldType.int)) ∈ gt_l := gt_in (i := 234) rfl rfl
theorem gw_235 : (Jvm.Cond.methodLink "AbendRows" (115 : Nat) ({ cls := "AbendRows", name := "isTask", desc := "(I)Z" } : Jvm.MethodName)) ∈ gt_l := gt_in (i := 235) (by decide +kernel) rfl
theorem gw_236 : (Jvm.Cond.static ({ cls := "AbendRows", name := "isTask", desc := "(I)Z" } : Jvm.MethodName)) ∈ gt_l := gt_in (i := 236) (by decide +kernel) rfl
set_option maxRecDepth 20000 in
theorem gw_237 : (Jvm.Cond.code ({ cls := "AbendRows", name := "isTask", desc := "(I)Z" } : Jvm.MethodName) prog_1_method_18_code (1 : Nat) (Option.some Jvm.ClassFile.FieldType.boolean)) ∈ gt_l := gt_in (i := 237) rfl rfl
theorem gw_238 : (Jvm.Cond.methodLink "AbendRows" (118 : Nat) ({ cls := "AbendRows$CodeSet", name := "has", desc := "(I)Z" } : Jvm.MethodName)) ∈ gt_l := gt_in (i := 238) (by decide +kernel) rfl
theorem gw_239 : (Jvm.Cond.instanceMethod ({ cls := "AbendRows$CodeSet", name := "has", desc := "(I)Z" } : Jvm.MethodName)) ∈ gt_l := gt_in (i := 239) (by decide +kernel) rfl
theorem gw_240 : (Jvm.Cond.selects "AbendRows$CodeSet" ({ cls := "AbendRows$CodeSet", name := "has", desc := "(I)Z" } : Jvm.MethodName) ({ cls := "AbendRows$CodeSet", name := "has", desc := "(I)Z" } : Jvm.MethodName)) ∈ gt_l := gt_in (i := 240) (by decide +kernel) rfl
set_option maxRecDepth 20000 in
theorem gw_241 : (Jvm.Cond.code ({ cls := "AbendRows$CodeSet", name := "has", desc := "(I)Z" } : Jvm.MethodName) prog_3_method_2_code (2 : Nat) (Option.some Jvm.ClassFile.FieldType.boolean)) ∈ gt_l := gt_in (i := 241) rfl rfl
theorem gw_243 : (Jvm.Cond.methodLink "AbendRows$CodeSet" (19 : Nat) ({ cls := "AbendRows$CodeSet", name := "bitOf", desc := "(I)J" } : Jvm.MethodName)) ∈ gt_l := gt_in (i := 243) (by decide +kernel) rfl
theorem gw_244 : (Jvm.Cond.static ({ cls := "AbendRows$CodeSet", name := "bitOf", desc := "(I)J" } : Jvm.MethodName)) ∈ gt_l := gt_in (i := 244) (by decide +kernel) rfl
set_option maxRecDepth 20000 in
theorem gw_245 : (Jvm.Cond.code ({ cls := "AbendRows$CodeSet", name := "bitOf", desc := "(I)J" } : Jvm.MethodName) prog_3_method_4_code (1 : Nat) (Option.some Jvm.ClassFile.FieldType.long)) ∈ gt_l := gt_in (i := 245) rfl rfl
theorem gw_246 : (Jvm.Cond.classLink "AbendRows" (121 : Nat) "AbendRows$Dump") ∈ gt_l := gt_in (i := 246) (by decide +kernel) rfl
theorem gw_247 : (Jvm.Cond.instantiable "AbendRows$Dump" (5 : Nat)) ∈ gt_l := gt_in (i := 247) (by decide +kernel) rfl
theorem gw_248 : (Jvm.Cond.methodLink "AbendRows" (123 : Nat) ({ cls := "AbendRows", name := "guardsOf", desc := "(I)I" } : Jvm.MethodName)) ∈ gt_l := gt_in (i := 248) (by decide +kernel) rfl
theorem gw_250 : (Jvm.Cond.instanceMethod ({ cls := "AbendRows", name := "guardsOf", desc := "(I)I" } : Jvm.MethodName)) ∈ gt_l := gt_in (i := 250) (by decide +kernel) rfl
set_option maxRecDepth 20000 in
theorem gw_251 : (Jvm.Cond.code ({ cls := "AbendRows", name := "guardsOf", desc := "(I)I" } : Jvm.MethodName) prog_1_method_21_code (7 : Nat) (Option.some Jvm.ClassFile.FieldType.int)) ∈ gt_l := gt_in (i := 251) rfl rfl
theorem gw_252 : (Jvm.Cond.methodLink "AbendRows" (185 : Nat) ({ cls := "AbendRows$Guard", name := "isHeldBy", desc := "(I)Z" } : Jvm.MethodName)) ∈ gt_l := gt_in (i := 252) (by decide +kernel) rfl
theorem gw_253 : (Jvm.Cond.instanceMethod ({ cls := "AbendRows$Guard", name := "isHeldBy", desc := "(I)Z" } : Jvm.MethodName)) ∈ gt_l := gt_in (i := 253) (by decide +kernel) rfl
theorem gw_254 : (Jvm.Cond.selects "AbendRows$Guard" ({ cls := "AbendRows$Guard", name := "isHeldBy", desc := "(I)Z" } : Jvm.MethodName) ({ cls := "AbendRows$Guard", name := "isHeldBy", desc := "(I)Z" } : Jvm.MethodName)) ∈ gt_l := gt_in (i := 254) (by decide +kernel) rfl
set_option maxRecDepth 20000 in
theorem gw_255 : (Jvm.Cond.code ({ cls := "AbendRows$Guard", name := "isHeldBy", desc := "(I)Z" } : Jvm.MethodName) prog_7_method_2_code (2 : Nat) (Option.some Jvm.ClassFile.FieldType.boolean)) ∈ gt_l := gt_in (i := 255) rfl rfl
theorem gw_256 : (Jvm.Cond.methodLink "AbendRows" (126 : Nat) ({ cls := "AbendRows", name := "brokenGuardsOf", desc := "(I)I" } : Jvm.MethodName)) ∈ gt_l := gt_in (i := 256) (by decide +kernel) rfl
theorem gw_258 : (Jvm.Cond.instanceMethod ({ cls := "AbendRows", name := "brokenGuardsOf", desc := "(I)I" } : Jvm.MethodName)) ∈ gt_l := gt_in (i := 258) (by decide +kernel) rfl
set_option maxRecDepth 20000 in
theorem gw_259 : (Jvm.Cond.code ({ cls := "AbendRows", name := "brokenGuardsOf", desc := "(I)I" } : Jvm.MethodName) prog_1_method_22_code (7 : Nat) (Option.some Jvm.ClassFile.FieldType.int)) ∈ gt_l := gt_in (i := 259) rfl rfl
theorem gw_260 : (Jvm.Cond.methodLink "AbendRows" (129 : Nat) ({ cls := "AbendRows$Dump", name := "<init>", desc := "(IIIIZ)V" } : Jvm.MethodName)) ∈ gt_l := gt_in (i := 260) (by decide +kernel) rfl
theorem gw_261 : (Jvm.Cond.instanceMethod ({ cls := "AbendRows$Dump", name := "<init>", desc := "(IIIIZ)V" } : Jvm.MethodName)) ∈ gt_l := gt_in (i := 261) (by decide +kernel) rfl
set_option maxRecDepth 20000 in
theorem gw_262 : (Jvm.Cond.code ({ cls := "AbendRows$Dump", name := "<init>", desc := "(IIIIZ)V" } : Jvm.MethodName) prog_4_method_1_code (6 : Nat) (Option.none : Option Jvm.ClassFile.FieldType)) ∈ gt_l := gt_in (i := 262) rfl rfl
theorem gw_263 : (Jvm.Cond.methodLink "AbendRows$Dump" (1 : Nat) ({ cls := "java/lang/Object", name := "<init>", desc := "()V" } : Jvm.MethodName)) ∈ gt_l := gt_in (i := 263) (by decide +kernel) rfl
theorem gw_264 : (Jvm.Cond.fieldLink "AbendRows$Dump" (7 : Nat) "AbendRows$Dump" "task" "I") ∈ gt_l := gt_in (i := 264) (by decide +kernel) rfl
theorem gw_265 : (Jvm.Cond.fieldLink "AbendRows$DumpRow" (21 : Nat) "AbendRows$Dump" "task" "I") ∈ gt_l := gt_in (i := 265) (by decide +kernel) rfl
theorem gw_266 : (Jvm.Cond.fieldLink "AbendRows$Dump" (13 : Nat) "AbendRows$Dump" "code" "I") ∈ gt_l := gt_in (i := 266) (by decide +kernel) rfl
theorem gw_267 : (Jvm.Cond.fieldLink "AbendRows" (163 : Nat) "AbendRows$Dump" "code" "I") ∈ gt_l := gt_in (i := 267) (by decide +kernel) rfl
theorem gw_268 : (Jvm.Cond.fieldLink "AbendRows$Dump" (16 : Nat) "AbendRows$Dump" "guards" "I") ∈ gt_l := gt_in (i := 268) (by decide +kernel) rfl
theorem gw_269 : (Jvm.Cond.fieldLink "AbendRows" (164 : Nat) "AbendRows$Dump" "guards" "I") ∈ gt_l := gt_in (i := 269) (by decide +kernel) rfl
theorem gw_270 : (Jvm.Cond.fieldLink "AbendRows$Dump" (19 : Nat) "AbendRows$Dump" "brokenGuards" "I") ∈ gt_l := gt_in (i := 270) (by decide +kernel) rfl
theorem gw_271 : (Jvm.Cond.fieldLink "AbendRows" (166 : Nat) "AbendRows$Dump" "brokenGuards" "I") ∈ gt_l := gt_in (i := 271) (by decide +kernel) rfl
theorem gw_272 : (Jvm.Cond.fieldLink "AbendRows$Dump" (22 : Nat) "AbendRows$Dump" "restarted" "Z") ∈ gt_l := gt_in (i := 272) (by decide +kernel) rfl
theorem gw_273 : (Jvm.Cond.fieldLink "AbendRows" (169 : Nat) "AbendRows$Dump" "restarted" "Z") ∈ gt_l := gt_in (i := 273) (by decide +kernel) rfl
theorem gw_285 : (Jvm.Cond.methodLink "AbendRows" (132 : Nat) ({ cls := "AbendRows$DumpRow", name := "keep", desc := "(LAbendRows$Dump;)V" } : Jvm.MethodName)) ∈ gt_l := gt_in (i := 285) (by decide +kernel) rfl
theorem gw_286 : (Jvm.Cond.instanceMethod ({ cls := "AbendRows$DumpRow", name := "keep", desc := "(LAbendRows$Dump;)V" } : Jvm.MethodName)) ∈ gt_l := gt_in (i := 286) (by decide +kernel) rfl
theorem gw_287 : (Jvm.Cond.selects "AbendRows$DumpRow" ({ cls := "AbendRows$DumpRow", name := "keep", desc := "(LAbendRows$Dump;)V" } : Jvm.MethodName) ({ cls := "AbendRows$DumpRow", name := "keep", desc := "(LAbendRows$Dump;)V" } : Jvm.MethodName)) ∈ gt_l := gt_in (i := 287) (by decide +kernel) rfl
set_option maxRecDepth 20000 in
theorem gw_288 : (Jvm.Cond.code ({ cls := "AbendRows$DumpRow", name := "keep", desc := "(LAbendRows$Dump;)V" } : Jvm.MethodName) prog_5_method_2_code (2 : Nat) (Option.none : Option Jvm.ClassFile.FieldType)) ∈ gt_l := gt_in (i := 288) rfl rfl
theorem gw_289 : (Jvm.Cond.methodLink "AbendRowsLaw" (40 : Nat) ({ cls := "AbendRows", name := "guard", desc := "(II)I" } : Jvm.MethodName)) ∈ gt_l := gt_in (i := 289) (by decide +kernel) rfl
theorem gw_290 : (Jvm.Cond.instanceMethod ({ cls := "AbendRows", name := "guard", desc := "(II)I" } : Jvm.MethodName)) ∈ gt_l := gt_in (i := 290) (by decide +kernel) rfl
theorem gw_291 : (Jvm.Cond.selects "AbendRows" ({ cls := "AbendRows", name := "guard", desc := "(II)I" } : Jvm.MethodName) ({ cls := "AbendRows", name := "guard", desc := "(II)I" } : Jvm.MethodName)) ∈ gt_l := gt_in (i := 291) (by decide +kernel) rfl
set_option maxRecDepth 20000 in
theorem gw_292 : (Jvm.Cond.code ({ cls := "AbendRows", name := "guard", desc := "(II)I" } : Jvm.MethodName) prog_1_method_8_code (3 : Nat) (Option.some Jvm.ClassFile.FieldType.int)) ∈ gt_l := gt_in (i := 292) rfl rfl
theorem gw_293 : (Jvm.Cond.instantiable "AbendRows$Guard" (4 : Nat)) ∈ gt_l := gt_in (i := 293) (by decide +kernel) rfl
theorem gw_294 : (Jvm.Cond.methodLink "AbendRows" (139 : Nat) ({ cls := "AbendRows$Guard", name := "<init>", desc := "(II)V" } : Jvm.MethodName)) ∈ gt_l := gt_in (i := 294) (by decide +kernel) rfl
theorem gw_295 : (Jvm.Cond.instanceMethod ({ cls := "AbendRows$Guard", name := "<init>", desc := "(II)V" } : Jvm.MethodName)) ∈ gt_l := gt_in (i := 295) (by decide +kernel) rfl
set_option maxRecDepth 20000 in
theorem gw_296 : (Jvm.Cond.code ({ cls := "AbendRows$Guard", name := "<init>", desc := "(II)V" } : Jvm.MethodName) prog_7_method_1_code (3 : Nat) (Option.none : Option Jvm.ClassFile.FieldType)) ∈ gt_l := gt_in (i := 296) rfl rfl
theorem gw_297 : (Jvm.Cond.methodLink "AbendRows$Guard" (1 : Nat) ({ cls := "java/lang/Object", name := "<init>", desc := "()V" } : Jvm.MethodName)) ∈ gt_l := gt_in (i := 297) (by decide +kernel) rfl
theorem gw_298 : (Jvm.Cond.fieldLink "AbendRows$Guard" (7 : Nat) "AbendRows$Guard" "task" "I") ∈ gt_l := gt_in (i := 298) (by decide +kernel) rfl
theorem gw_299 : (Jvm.Cond.fieldLink "AbendRows" (156 : Nat) "AbendRows$Guard" "task" "I") ∈ gt_l := gt_in (i := 299) (by decide +kernel) rfl
theorem gw_300 : (Jvm.Cond.fieldLink "AbendRows$Guard" (13 : Nat) "AbendRows$Guard" "size" "I") ∈ gt_l := gt_in (i := 300) (by decide +kernel) rfl
theorem gw_301 : (Jvm.Cond.fieldLink "AbendRows" (146 : Nat) "AbendRows$Guard" "size" "I") ∈ gt_l := gt_in (i := 301) (by decide +kernel) rfl
theorem gw_302 : (Jvm.Cond.fieldLink "AbendRows" (149 : Nat) "AbendRows$Guard" "broken" "Z") ∈ gt_l := gt_in (i := 302) (by decide +kernel) rfl
theorem gw_303 : (Jvm.Cond.fieldLink "AbendRows$Guard" (16 : Nat) "AbendRows$Guard" "freed" "Z") ∈ gt_l := gt_in (i := 303) (by decide +kernel) rfl
theorem gw_304 : (Jvm.Cond.fieldLink "AbendRows" (153 : Nat) "AbendRows$Guard" "freed" "Z") ∈ gt_l := gt_in (i := 304) (by decide +kernel) rfl
theorem gw_314 : (Jvm.Cond.methodLink "AbendRowsLaw" (44 : Nat) ({ cls := "AbendRows", name := "write", desc := "(II)I" } : Jvm.MethodName)) ∈ gt_l := gt_in (i := 314) (by decide +kernel) rfl
theorem gw_315 : (Jvm.Cond.instanceMethod ({ cls := "AbendRows", name := "write", desc := "(II)I" } : Jvm.MethodName)) ∈ gt_l := gt_in (i := 315) (by decide +kernel) rfl
theorem gw_316 : (Jvm.Cond.selects "AbendRows" ({ cls := "AbendRows", name := "write", desc := "(II)I" } : Jvm.MethodName) ({ cls := "AbendRows", name := "write", desc := "(II)I" } : Jvm.MethodName)) ∈ gt_l := gt_in (i := 316) (by decide +kernel) rfl
set_option maxRecDepth 20000 in
theorem gw_317 : (Jvm.Cond.code ({ cls := "AbendRows", name := "write", desc := "(II)I" } : Jvm.MethodName) prog_1_method_9_code (4 : Nat) (Option.some Jvm.ClassFile.FieldType.int)) ∈ gt_l := gt_in (i := 317) rfl rfl
theorem gw_318 : (Jvm.Cond.methodLink "AbendRows" (142 : Nat) ({ cls := "AbendRows", name := "guardOf", desc := "(I)LAbendRows$Guard;" } : Jvm.MethodName)) ∈ gt_l := gt_in (i := 318) (by decide +kernel) rfl
theorem gw_320 : (Jvm.Cond.instanceMethod ({ cls := "AbendRows", name := "guardOf", desc := "(I)LAbendRows$Guard;" } : Jvm.MethodName)) ∈ gt_l := gt_in (i := 320) (by decide +kernel) rfl
set_option maxRecDepth 20000 in
theorem gw_321 : (Jvm.Cond.code ({ cls := "AbendRows", name := "guardOf", desc := "(I)LAbendRows$Guard;" } : Jvm.MethodName) prog_1_method_20_code (3 : Nat) (Option.some (Jvm.ClassFile.FieldType.object "AbendRows$Guard"))) ∈ gt_l := gt_in (i := 321) rfl rfl
theorem gw_322 : (Jvm.Cond.methodLink "AbendRowsLaw" (48 : Nat) ({ cls := "AbendRows", name := "free", desc := "(I)I" } : Jvm.MethodName)) ∈ gt_l := gt_in (i := 322) (by decide +kernel) rfl
theorem gw_323 : (Jvm.Cond.instanceMethod ({ cls := "AbendRows", name := "free", desc := "(I)I" } : Jvm.MethodName)) ∈ gt_l := gt_in (i := 323) (by decide +kernel) rfl
theorem gw_324 : (Jvm.Cond.selects "AbendRows" ({ cls := "AbendRows", name := "free", desc := "(I)I" } : Jvm.MethodName) ({ cls := "AbendRows", name := "free", desc := "(I)I" } : Jvm.MethodName)) ∈ gt_l := gt_in (i := 324) (by decide +kernel) rfl
set_option maxRecDepth 20000 in
theorem gw_325 : (Jvm.Cond.code ({ cls := "AbendRows", name := "free", desc := "(I)I" } : Jvm.MethodName) prog_1_method_10_code (3 : Nat) (Option.some Jvm.ClassFile.FieldType.int)) ∈ gt_l := gt_in (i := 325) rfl rfl
theorem gw_326 : (Jvm.Cond.methodLink "AbendRowsLaw" (52 : Nat) ({ cls := "AbendRows", name := "dump", desc := "(III)I" } : Jvm.MethodName)) ∈ gt_l := gt_in (i := 326) (by decide +kernel) rfl
theorem gw_327 : (Jvm.Cond.instanceMethod ({ cls := "AbendRows", name := "dump", desc := "(III)I" } : Jvm.MethodName)) ∈ gt_l := gt_in (i := 327) (by decide +kernel) rfl
theorem gw_328 : (Jvm.Cond.selects "AbendRows" ({ cls := "AbendRows", name := "dump", desc := "(III)I" } : Jvm.MethodName) ({ cls := "AbendRows", name := "dump", desc := "(III)I" } : Jvm.MethodName)) ∈ gt_l := gt_in (i := 328) (by decide +kernel) rfl
set_option maxRecDepth 20000 in
theorem gw_329 : (Jvm.Cond.code ({ cls := "AbendRows", name := "dump", desc := "(III)I" } : Jvm.MethodName) prog_1_method_11_code (5 : Nat) (Option.some Jvm.ClassFile.FieldType.int)) ∈ gt_l := gt_in (i := 329) rfl rfl
theorem gw_330 : (Jvm.Cond.methodLink "AbendRows" (159 : Nat) ({ cls := "AbendRows$DumpRow", name := "find", desc := "(II)LAbendRows$Dump;" } : Jvm.MethodName)) ∈ gt_l := gt_in (i := 330) (by decide +kernel) rfl
theorem gw_331 : (Jvm.Cond.instanceMethod ({ cls := "AbendRows$DumpRow", name := "find", desc := "(II)LAbendRows$Dump;" } : Jvm.MethodName)) ∈ gt_l := gt_in (i := 331) (by decide +kernel) rfl
theorem gw_332 : (Jvm.Cond.selects "AbendRows$DumpRow" ({ cls := "AbendRows$DumpRow", name := "find", desc := "(II)LAbendRows$Dump;" } : Jvm.MethodName) ({ cls := "AbendRows$DumpRow", name := "find", desc := "(II)LAbendRows$Dump;" } : Jvm.MethodName)) ∈ gt_l := gt_in (i := 332) (by decide +kernel) rfl
set_option maxRecDepth 20000 in
theorem gw_333 : (Jvm.Cond.code ({ cls := "AbendRows$DumpRow", name := "find", desc := "(II)LAbendRows$Dump;" } : Jvm.MethodName) prog_5_method_3_code (6 : Nat) (Option.some (Jvm.ClassFile.FieldType.object "AbendRows$Dump"))) ∈ gt_l := gt_in (i := 333) rfl rfl
theorem gw_334 : (Jvm.Cond.methodLink "AbendRowsLaw" (59 : Nat) ({ cls := "AbendRows", name := "loop", desc := "(IJ)I" } : Jvm.MethodName)) ∈ gt_l := gt_in (i := 334) (by decide +kernel) rfl
theorem gw_335 : (Jvm.Cond.instanceMethod ({ cls := "AbendRows", name := "loop", desc := "(IJ)I" } : Jvm.MethodName)) ∈ gt_l := gt_in (i := 335) (by decide +kernel) rfl
theorem gw_336 : (Jvm.Cond.selects "AbendRows" ({ cls := "AbendRows", name := "loop", desc := "(IJ)I" } : Jvm.MethodName) ({ cls := "AbendRows", name := "loop", desc := "(IJ)I" } : Jvm.MethodName)) ∈ gt_l := gt_in (i := 336) (by decide +kernel) rfl
set_option maxRecDepth 20000 in
theorem gw_337 : (Jvm.Cond.code ({ cls := "AbendRows", name := "loop", desc := "(IJ)I" } : Jvm.MethodName) prog_1_method_12_code (4 : Nat) (Option.some Jvm.ClassFile.FieldType.int)) ∈ gt_l := gt_in (i := 337) rfl rfl
theorem gw_338 : (Jvm.Cond.constantLong "AbendRows" (172 : Nat) (1000 : Int64)) ∈ gt_l := gt_in (i := 338) (by decide +kernel) rfl
theorem gw_339 : (Jvm.Cond.methodLink "AbendRowsLaw" (64 : Nat) ({ cls := "AbendRows", name := "suppress", desc := "(IZ)I" } : Jvm.MethodName)) ∈ gt_l := gt_in (i := 339) (by decide +kernel) rfl
theorem gw_340 : (Jvm.Cond.instanceMethod ({ cls := "AbendRows", name := "suppress", desc := "(IZ)I" } : Jvm.MethodName)) ∈ gt_l := gt_in (i := 340) (by decide +kernel) rfl
theorem gw_341 : (Jvm.Cond.selects "AbendRows" ({ cls := "AbendRows", name := "suppress", desc := "(IZ)I" } : Jvm.MethodName) ({ cls := "AbendRows", name := "suppress", desc := "(IZ)I" } : Jvm.MethodName)) ∈ gt_l := gt_in (i := 341) (by decide +kernel) rfl
set_option maxRecDepth 20000 in
theorem gw_342 : (Jvm.Cond.code ({ cls := "AbendRows", name := "suppress", desc := "(IZ)I" } : Jvm.MethodName) prog_1_method_13_code (4 : Nat) (Option.some Jvm.ClassFile.FieldType.int)) ∈ gt_l := gt_in (i := 342) rfl rfl
theorem gw_343 : (Jvm.Cond.methodLink "AbendRows" (174 : Nat) ({ cls := "AbendRows$CodeSet", name := "put", desc := "(IZ)V" } : Jvm.MethodName)) ∈ gt_l := gt_in (i := 343) (by decide +kernel) rfl
theorem gw_344 : (Jvm.Cond.instanceMethod ({ cls := "AbendRows$CodeSet", name := "put", desc := "(IZ)V" } : Jvm.MethodName)) ∈ gt_l := gt_in (i := 344) (by decide +kernel) rfl
theorem gw_345 : (Jvm.Cond.selects "AbendRows$CodeSet" ({ cls := "AbendRows$CodeSet", name := "put", desc := "(IZ)V" } : Jvm.MethodName) ({ cls := "AbendRows$CodeSet", name := "put", desc := "(IZ)V" } : Jvm.MethodName)) ∈ gt_l := gt_in (i := 345) (by decide +kernel) rfl
set_option maxRecDepth 20000 in
theorem gw_346 : (Jvm.Cond.code ({ cls := "AbendRows$CodeSet", name := "put", desc := "(IZ)V" } : Jvm.MethodName) prog_3_method_3_code (5 : Nat) (Option.none : Option Jvm.ClassFile.FieldType)) ∈ gt_l := gt_in (i := 346) rfl rfl
theorem gw_347 : (Jvm.Cond.constantLong "AbendRows$CodeSet" (23 : Nat) (-1 : Int64)) ∈ gt_l := gt_in (i := 347) (by decide +kernel) rfl
theorem gw_348 : (Jvm.Cond.methodLink "AbendRowsLaw" (69 : Nat) ({ cls := "AbendRows", name := "count", desc := "(I)I" } : Jvm.MethodName)) ∈ gt_l := gt_in (i := 348) (by decide +kernel) rfl
theorem gw_349 : (Jvm.Cond.instanceMethod ({ cls := "AbendRows", name := "count", desc := "(I)I" } : Jvm.MethodName)) ∈ gt_l := gt_in (i := 349) (by decide +kernel) rfl
theorem gw_350 : (Jvm.Cond.selects "AbendRows" ({ cls := "AbendRows", name := "count", desc := "(I)I" } : Jvm.MethodName) ({ cls := "AbendRows", name := "count", desc := "(I)I" } : Jvm.MethodName)) ∈ gt_l := gt_in (i := 350) (by decide +kernel) rfl
set_option maxRecDepth 20000 in
theorem gw_351 : (Jvm.Cond.code ({ cls := "AbendRows", name := "count", desc := "(I)I" } : Jvm.MethodName) prog_1_method_14_code (2 : Nat) (Option.some Jvm.ClassFile.FieldType.int)) ∈ gt_l := gt_in (i := 351) rfl rfl
theorem gw_352 : (Jvm.Cond.methodLink "AbendRows" (178 : Nat) ({ cls := "AbendRows$CodeLog", name := "timesOf", desc := "(I)I" } : Jvm.MethodName)) ∈ gt_l := gt_in (i := 352) (by decide +kernel) rfl
theorem gw_353 : (Jvm.Cond.instanceMethod ({ cls := "AbendRows$CodeLog", name := "timesOf", desc := "(I)I" } : Jvm.MethodName)) ∈ gt_l := gt_in (i := 353) (by decide +kernel) rfl
theorem gw_354 : (Jvm.Cond.selects "AbendRows$CodeLog" ({ cls := "AbendRows$CodeLog", name := "timesOf", desc := "(I)I" } : Jvm.MethodName) ({ cls := "AbendRows$CodeLog", name := "timesOf", desc := "(I)I" } : Jvm.MethodName)) ∈ gt_l := gt_in (i := 354) (by decide +kernel) rfl
set_option maxRecDepth 20000 in
theorem gw_355 : (Jvm.Cond.code ({ cls := "AbendRows$CodeLog", name := "timesOf", desc := "(I)I" } : Jvm.MethodName) prog_2_method_3_code (4 : Nat) (Option.some Jvm.ClassFile.FieldType.int)) ∈ gt_l := gt_in (i := 355) rfl rfl
theorem gw_356 : (Jvm.Cond.methodLink "AbendRowsLaw" (73 : Nat) ({ cls := "AbendRows", name := "region", desc := "(I)I" } : Jvm.MethodName)) ∈ gt_l := gt_in (i := 356) (by decide +kernel) rfl
theorem gw_357 : (Jvm.Cond.instanceMethod ({ cls := "AbendRows", name := "region", desc := "(I)I" } : Jvm.MethodName)) ∈ gt_l := gt_in (i := 357) (by decide +kernel) rfl
theorem gw_358 : (Jvm.Cond.selects "AbendRows" ({ cls := "AbendRows", name := "region", desc := "(I)I" } : Jvm.MethodName) ({ cls := "AbendRows", name := "region", desc := "(I)I" } : Jvm.MethodName)) ∈ gt_l := gt_in (i := 358) (by decide +kernel) rfl
set_option maxRecDepth 20000 in
theorem gw_359 : (Jvm.Cond.code ({ cls := "AbendRows", name := "region", desc := "(I)I" } : Jvm.MethodName) prog_1_method_15_code (2 : Nat) (Option.some Jvm.ClassFile.FieldType.int)) ∈ gt_l := gt_in (i := 359) rfl rfl
theorem gw_360 : (Jvm.Cond.methodLink "AbendRowsLaw" (77 : Nat) ({ cls := "AbendRows", name := "told", desc := "(II)I" } : Jvm.MethodName)) ∈ gt_l := gt_in (i := 360) (by decide +kernel) rfl
theorem gw_361 : (Jvm.Cond.instanceMethod ({ cls := "AbendRows", name := "told", desc := "(II)I" } : Jvm.MethodName)) ∈ gt_l := gt_in (i := 361) (by decide +kernel) rfl
theorem gw_362 : (Jvm.Cond.selects "AbendRows" ({ cls := "AbendRows", name := "told", desc := "(II)I" } : Jvm.MethodName) ({ cls := "AbendRows", name := "told", desc := "(II)I" } : Jvm.MethodName)) ∈ gt_l := gt_in (i := 362) (by decide +kernel) rfl
set_option maxRecDepth 20000 in
theorem gw_363 : (Jvm.Cond.code ({ cls := "AbendRows", name := "told", desc := "(II)I" } : Jvm.MethodName) prog_1_method_16_code (4 : Nat) (Option.some Jvm.ClassFile.FieldType.int)) ∈ gt_l := gt_in (i := 363) rfl rfl
theorem gw_364 : (Jvm.Cond.classLink "AbendRowsLaw" (10 : Nat) "AbendRowsModel") ∈ gt_l := gt_in (i := 364) (by decide +kernel) rfl
theorem gw_365 : (Jvm.Cond.instantiable "AbendRowsModel" (22 : Nat)) ∈ gt_l := gt_in (i := 365) (by decide +kernel) rfl
theorem gw_366 : (Jvm.Cond.methodLink "AbendRowsLaw" (12 : Nat) ({ cls := "AbendRowsModel", name := "<init>", desc := "()V" } : Jvm.MethodName)) ∈ gt_l := gt_in (i := 366) (by decide +kernel) rfl
theorem gw_367 : (Jvm.Cond.instanceMethod ({ cls := "AbendRowsModel", name := "<init>", desc := "()V" } : Jvm.MethodName)) ∈ gt_l := gt_in (i := 367) (by decide +kernel) rfl
set_option maxRecDepth 20000 in
theorem gw_368 : (Jvm.Cond.code ({ cls := "AbendRowsModel", name := "<init>", desc := "()V" } : Jvm.MethodName) prog_11_method_1_code (1 : Nat) (Option.none : Option Jvm.ClassFile.FieldType)) ∈ gt_l := gt_in (i := 368) rfl rfl
theorem gw_369 : (Jvm.Cond.methodLink "AbendRowsModel" (1 : Nat) ({ cls := "java/lang/Object", name := "<init>", desc := "()V" } : Jvm.MethodName)) ∈ gt_l := gt_in (i := 369) (by decide +kernel) rfl
theorem gw_370 : (Jvm.Cond.fieldLink "AbendRowsModel" (60 : Nat) "AbendRowsModel" "code" "I") ∈ gt_l := gt_in (i := 370) (by decide +kernel) rfl
theorem gw_371 : (Jvm.Cond.fieldLink "AbendRowsModel" (64 : Nat) "AbendRowsModel" "levels" "I") ∈ gt_l := gt_in (i := 371) (by decide +kernel) rfl
theorem gw_372 : (Jvm.Cond.fieldLink "AbendRowsModel" (71 : Nat) "AbendRowsModel" "exits" "I") ∈ gt_l := gt_in (i := 372) (by decide +kernel) rfl
theorem gw_373 : (Jvm.Cond.fieldLink "AbendRowsModel" (90 : Nat) "AbendRowsModel" "guards" "I") ∈ gt_l := gt_in (i := 373) (by decide +kernel) rfl
theorem gw_374 : (Jvm.Cond.fieldLink "AbendRowsModel" (87 : Nat) "AbendRowsModel" "dumps" "I") ∈ gt_l := gt_in (i := 374) (by decide +kernel) rfl
theorem gw_375 : (Jvm.Cond.fieldLink "AbendRowsModel" (77 : Nat) "AbendRowsModel" "asked" "I") ∈ gt_l := gt_in (i := 375) (by decide +kernel) rfl
theorem gw_376 : (Jvm.Cond.fieldLink "AbendRowsModel" (7 : Nat) "AbendRowsModel" "aboves" "[I") ∈ gt_l := gt_in (i := 376) (by decide +kernel) rfl
theorem gw_377 : (Jvm.Cond.fieldLink "AbendRowsModel" (13 : Nat) "AbendRowsModel" "depths" "[I") ∈ gt_l := gt_in (i := 377) (by decide +kernel) rfl
theorem gw_378 : (Jvm.Cond.fieldLink "AbendRowsModel" (16 : Nat) "AbendRowsModel" "sizes" "[I") ∈ gt_l := gt_in (i := 378) (by decide +kernel) rfl
theorem gw_379 : (Jvm.Cond.fieldLink "AbendRowsModel" (19 : Nat) "AbendRowsModel" "rows" "[I") ∈ gt_l := gt_in (i := 379) (by decide +kernel) rfl
theorem gw_380 : (Jvm.Cond.fieldLink "AbendRowsModel" (22 : Nat) "AbendRowsModel" "does" "[I") ∈ gt_l := gt_in (i := 380) (by decide +kernel) rfl
theorem gw_381 : (Jvm.Cond.fieldLink "AbendRowsModel" (25 : Nat) "AbendRowsModel" "order" "[I") ∈ gt_l := gt_in (i := 381) (by decide +kernel) rfl
theorem gw_382 : (Jvm.Cond.fieldLink "AbendRowsModel" (28 : Nat) "AbendRowsModel" "abends" "[Z") ∈ gt_l := gt_in (i := 382) (by decide +kernel) rfl
theorem gw_383 : (Jvm.Cond.fieldLink "AbendRowsModel" (32 : Nat) "AbendRowsModel" "retried" "[Z") ∈ gt_l := gt_in (i := 383) (by decide +kernel) rfl
theorem gw_384 : (Jvm.Cond.fieldLink "AbendRowsModel" (35 : Nat) "AbendRowsModel" "counts" "[I") ∈ gt_l := gt_in (i := 384) (by decide +kernel) rfl
theorem gw_385 : (Jvm.Cond.fieldLink "AbendRowsModel" (38 : Nat) "AbendRowsModel" "restarts" "[I") ∈ gt_l := gt_in (i := 385) (by decide +kernel) rfl
theorem gw_386 : (Jvm.Cond.fieldLink "AbendRowsModel" (41 : Nat) "AbendRowsModel" "suppressed" "[Z") ∈ gt_l := gt_in (i := 386) (by decide +kernel) rfl
theorem gw_387 : (Jvm.Cond.fieldLink "AbendRowsModel" (44 : Nat) "AbendRowsModel" "steps" "[J") ∈ gt_l := gt_in (i := 387) (by decide +kernel) rfl
theorem gw_388 : (Jvm.Cond.fieldLink "AbendRowsModel" (48 : Nat) "AbendRowsModel" "guardTasks" "[I") ∈ gt_l := gt_in (i := 388) (by decide +kernel) rfl
theorem gw_389 : (Jvm.Cond.fieldLink "AbendRowsModel" (51 : Nat) "AbendRowsModel" "guardSizes" "[I") ∈ gt_l := gt_in (i := 389) (by decide +kernel) rfl
theorem gw_390 : (Jvm.Cond.fieldLink "AbendRowsModel" (54 : Nat) "AbendRowsModel" "guardStates" "[I") ∈ gt_l := gt_in (i := 390) (by decide +kernel) rfl
theorem gw_391 : (Jvm.Cond.fieldLink "AbendRowsModel" (57 : Nat) "AbendRowsModel" "kept" "[I") ∈ gt_l := gt_in (i := 391) (by decide +kernel) rfl
theorem gw_437 : (Jvm.Cond.arrayClass Jvm.ClassFile.FieldType.boolean) ∈ gt_l := gt_in (i := 437) (by decide +kernel) rfl
theorem gw_438 : (Jvm.Cond.methodLink "AbendRowsLaw" (17 : Nat) ({ cls := "AbendRowsModel", name := "level", desc := "(I)I" } : Jvm.MethodName)) ∈ gt_l := gt_in (i := 438) (by decide +kernel) rfl
theorem gw_439 : (Jvm.Cond.instanceMethod ({ cls := "AbendRowsModel", name := "level", desc := "(I)I" } : Jvm.MethodName)) ∈ gt_l := gt_in (i := 439) (by decide +kernel) rfl
theorem gw_440 : (Jvm.Cond.selects "AbendRowsModel" ({ cls := "AbendRowsModel", name := "level", desc := "(I)I" } : Jvm.MethodName) ({ cls := "AbendRowsModel", name := "level", desc := "(I)I" } : Jvm.MethodName)) ∈ gt_l := gt_in (i := 440) (by decide +kernel) rfl
set_option maxRecDepth 20000 in
theorem gw_441 : (Jvm.Cond.code ({ cls := "AbendRowsModel", name := "level", desc := "(I)I" } : Jvm.MethodName) prog_11_method_6_code (2 : Nat) (Option.some Jvm.ClassFile.FieldType.int)) ∈ gt_l := gt_in (i := 441) rfl rfl
theorem gw_442 : (Jvm.Cond.methodLink "AbendRowsModel" (67 : Nat) ({ cls := "AbendRowsModel", name := "isLevel", desc := "(I)Z" } : Jvm.MethodName)) ∈ gt_l := gt_in (i := 442) (by decide +kernel) rfl
theorem gw_444 : (Jvm.Cond.instanceMethod ({ cls := "AbendRowsModel", name := "isLevel", desc := "(I)Z" } : Jvm.MethodName)) ∈ gt_l := gt_in (i := 444) (by decide +kernel) rfl
set_option maxRecDepth 20000 in
theorem gw_445 : (Jvm.Cond.code ({ cls := "AbendRowsModel", name := "isLevel", desc := "(I)Z" } : Jvm.MethodName) prog_11_method_3_code (2 : Nat) (Option.some Jvm.ClassFile.FieldType.boolean)) ∈ gt_l := gt_in (i := 445) rfl rfl
theorem gw_446 : (Jvm.Cond.methodLink "AbendRowsLaw" (22 : Nat) ({ cls := "AbendRowsModel", name := "exit", desc := "(IIZ)I" } : Jvm.MethodName)) ∈ gt_l := gt_in (i := 446) (by decide +kernel) rfl
theorem gw_447 : (Jvm.Cond.instanceMethod ({ cls := "AbendRowsModel", name := "exit", desc := "(IIZ)I" } : Jvm.MethodName)) ∈ gt_l := gt_in (i := 447) (by decide +kernel) rfl
theorem gw_448 : (Jvm.Cond.selects "AbendRowsModel" ({ cls := "AbendRowsModel", name := "exit", desc := "(IIZ)I" } : Jvm.MethodName) ({ cls := "AbendRowsModel", name := "exit", desc := "(IIZ)I" } : Jvm.MethodName)) ∈ gt_l := gt_in (i := 448) (by decide +kernel) rfl
set_option maxRecDepth 20000 in
theorem gw_449 : (Jvm.Cond.code ({ cls := "AbendRowsModel", name := "exit", desc := "(IIZ)I" } : Jvm.MethodName) prog_11_method_7_code (4 : Nat) (Option.some Jvm.ClassFile.FieldType.int)) ∈ gt_l := gt_in (i := 449) rfl rfl
theorem gw_450 : (Jvm.Cond.methodLink "AbendRowsLaw" (35 : Nat) ({ cls := "AbendRowsModel", name := "cancel", desc := "(I)I" } : Jvm.MethodName)) ∈ gt_l := gt_in (i := 450) (by decide +kernel) rfl
theorem gw_451 : (Jvm.Cond.instanceMethod ({ cls := "AbendRowsModel", name := "cancel", desc := "(I)I" } : Jvm.MethodName)) ∈ gt_l := gt_in (i := 451) (by decide +kernel) rfl
theorem gw_452 : (Jvm.Cond.selects "AbendRowsModel" ({ cls := "AbendRowsModel", name := "cancel", desc := "(I)I" } : Jvm.MethodName) ({ cls := "AbendRowsModel", name := "cancel", desc := "(I)I" } : Jvm.MethodName)) ∈ gt_l := gt_in (i := 452) (by decide +kernel) rfl
set_option maxRecDepth 20000 in
theorem gw_453 : (Jvm.Cond.code ({ cls := "AbendRowsModel", name := "cancel", desc := "(I)I" } : Jvm.MethodName) prog_11_method_8_code (2 : Nat) (Option.some Jvm.ClassFile.FieldType.int)) ∈ gt_l := gt_in (i := 453) rfl rfl
theorem gw_454 : (Jvm.Cond.methodLink "AbendRowsLaw" (27 : Nat) ({ cls := "AbendRowsModel", name := "abend", desc := "(II)I" } : Jvm.MethodName)) ∈ gt_l := gt_in (i := 454) (by decide +kernel) rfl
theorem gw_455 : (Jvm.Cond.instanceMethod ({ cls := "AbendRowsModel", name := "abend", desc := "(II)I" } : Jvm.MethodName)) ∈ gt_l := gt_in (i := 455) (by decide +kernel) rfl
theorem gw_456 : (Jvm.Cond.selects "AbendRowsModel" ({ cls := "AbendRowsModel", name := "abend", desc := "(II)I" } : Jvm.MethodName) ({ cls := "AbendRowsModel", name := "abend", desc := "(II)I" } : Jvm.MethodName)) ∈ gt_l := gt_in (i := 456) (by decide +kernel) rfl
set_option maxRecDepth 20000 in
theorem gw_457 : (Jvm.Cond.code ({ cls := "AbendRowsModel", name := "abend", desc := "(II)I" } : Jvm.MethodName) prog_11_method_10_code (9 : Nat) (Option.some Jvm.ClassFile.FieldType.int)) ∈ gt_l := gt_in (i := 457) rfl rfl
theorem gw_458 : (Jvm.Cond.methodLink "AbendRowsModel" (74 : Nat) ({ cls := "AbendRowsModel", name := "isCode", desc := "(I)Z" } : Jvm.MethodName)) ∈ gt_l := gt_in (i := 458) (by decide +kernel) rfl
theorem gw_459 : (Jvm.Cond.static ({ cls := "AbendRowsModel", name := "isCode", desc := "(I)Z" } : Jvm.MethodName)) ∈ gt_l := gt_in (i := 459) (by decide +kernel) rfl
set_option maxRecDepth 20000 in
theorem gw_460 : (Jvm.Cond.code ({ cls := "AbendRowsModel", name := "isCode", desc := "(I)Z" } : Jvm.MethodName) prog_11_method_4_code (1 : Nat) (Option.some Jvm.ClassFile.FieldType.boolean)) ∈ gt_l := gt_in (i := 460) rfl rfl
theorem gw_461 : (Jvm.Cond.methodLink "AbendRowsModel" (80 : Nat) ({ cls := "AbendRowsModel", name := "endOf", desc := "(III)I" } : Jvm.MethodName)) ∈ gt_l := gt_in (i := 461) (by decide +kernel) rfl
theorem gw_463 : (Jvm.Cond.instanceMethod ({ cls := "AbendRowsModel", name := "endOf", desc := "(III)I" } : Jvm.MethodName)) ∈ gt_l := gt_in (i := 463) (by decide +kernel) rfl
set_option maxRecDepth 20000 in
theorem gw_464 : (Jvm.Cond.code ({ cls := "AbendRowsModel", name := "endOf", desc := "(III)I" } : Jvm.MethodName) prog_11_method_9_code (4 : Nat) (Option.some Jvm.ClassFile.FieldType.int)) ∈ gt_l := gt_in (i := 464) rfl rfl
theorem gw_465 : (Jvm.Cond.methodLink "AbendRowsLaw" (31 : Nat) ({ cls := "AbendRowsModel", name := "order", desc := "(I)I" } : Jvm.MethodName)) ∈ gt_l := gt_in (i := 465) (by decide +kernel) rfl
theorem gw_466 : (Jvm.Cond.instanceMethod ({ cls := "AbendRowsModel", name := "order", desc := "(I)I" } : Jvm.MethodName)) ∈ gt_l := gt_in (i := 466) (by decide +kernel) rfl
theorem gw_467 : (Jvm.Cond.selects "AbendRowsModel" ({ cls := "AbendRowsModel", name := "order", desc := "(I)I" } : Jvm.MethodName) ({ cls := "AbendRowsModel", name := "order", desc := "(I)I" } : Jvm.MethodName)) ∈ gt_l := gt_in (i := 467) (by decide +kernel) rfl
set_option maxRecDepth 20000 in
theorem gw_468 : (Jvm.Cond.code ({ cls := "AbendRowsModel", name := "order", desc := "(I)I" } : Jvm.MethodName) prog_11_method_11_code (2 : Nat) (Option.some Jvm.ClassFile.FieldType.int)) ∈ gt_l := gt_in (i := 468) rfl rfl
theorem gw_469 : (Jvm.Cond.methodLink "AbendRowsLaw" (72 : Nat) ({ cls := "AbendRowsModel", name := "count", desc := "(I)I" } : Jvm.MethodName)) ∈ gt_l := gt_in (i := 469) (by decide +kernel) rfl
theorem gw_470 : (Jvm.Cond.instanceMethod ({ cls := "AbendRowsModel", name := "count", desc := "(I)I" } : Jvm.MethodName)) ∈ gt_l := gt_in (i := 470) (by decide +kernel) rfl
theorem gw_471 : (Jvm.Cond.selects "AbendRowsModel" ({ cls := "AbendRowsModel", name := "count", desc := "(I)I" } : Jvm.MethodName) ({ cls := "AbendRowsModel", name := "count", desc := "(I)I" } : Jvm.MethodName)) ∈ gt_l := gt_in (i := 471) (by decide +kernel) rfl
set_option maxRecDepth 20000 in
theorem gw_472 : (Jvm.Cond.code ({ cls := "AbendRowsModel", name := "count", desc := "(I)I" } : Jvm.MethodName) prog_11_method_12_code (2 : Nat) (Option.some Jvm.ClassFile.FieldType.int)) ∈ gt_l := gt_in (i := 472) rfl rfl
theorem gw_473 : (Jvm.Cond.methodLink "AbendRowsLaw" (76 : Nat) ({ cls := "AbendRowsModel", name := "region", desc := "(I)I" } : Jvm.MethodName)) ∈ gt_l := gt_in (i := 473) (by decide +kernel) rfl
theorem gw_474 : (Jvm.Cond.instanceMethod ({ cls := "AbendRowsModel", name := "region", desc := "(I)I" } : Jvm.MethodName)) ∈ gt_l := gt_in (i := 474) (by decide +kernel) rfl
theorem gw_475 : (Jvm.Cond.selects "AbendRowsModel" ({ cls := "AbendRowsModel", name := "region", desc := "(I)I" } : Jvm.MethodName) ({ cls := "AbendRowsModel", name := "region", desc := "(I)I" } : Jvm.MethodName)) ∈ gt_l := gt_in (i := 475) (by decide +kernel) rfl
set_option maxRecDepth 20000 in
theorem gw_476 : (Jvm.Cond.code ({ cls := "AbendRowsModel", name := "region", desc := "(I)I" } : Jvm.MethodName) prog_11_method_13_code (2 : Nat) (Option.some Jvm.ClassFile.FieldType.int)) ∈ gt_l := gt_in (i := 476) rfl rfl
theorem gw_477 : (Jvm.Cond.methodLink "AbendRowsLaw" (39 : Nat) ({ cls := "AbendRowsModel", name := "restart", desc := "(II)I" } : Jvm.MethodName)) ∈ gt_l := gt_in (i := 477) (by decide +kernel) rfl
theorem gw_478 : (Jvm.Cond.instanceMethod ({ cls := "AbendRowsModel", name := "restart", desc := "(II)I" } : Jvm.MethodName)) ∈ gt_l := gt_in (i := 478) (by decide +kernel) rfl
theorem gw_479 : (Jvm.Cond.selects "AbendRowsModel" ({ cls := "AbendRowsModel", name := "restart", desc := "(II)I" } : Jvm.MethodName) ({ cls := "AbendRowsModel", name := "restart", desc := "(II)I" } : Jvm.MethodName)) ∈ gt_l := gt_in (i := 479) (by decide +kernel) rfl
set_option maxRecDepth 20000 in
theorem gw_480 : (Jvm.Cond.code ({ cls := "AbendRowsModel", name := "restart", desc := "(II)I" } : Jvm.MethodName) prog_11_method_14_code (7 : Nat) (Option.some Jvm.ClassFile.FieldType.int)) ∈ gt_l := gt_in (i := 480) rfl rfl
theorem gw_481 : (Jvm.Cond.methodLink "AbendRowsModel" (84 : Nat) ({ cls := "AbendRowsModel", name := "isTask", desc := "(I)Z" } : Jvm.MethodName)) ∈ gt_l := gt_in (i := 481) (by decide +kernel) rfl
theorem gw_482 : (Jvm.Cond.static ({ cls := "AbendRowsModel", name := "isTask", desc := "(I)Z" } : Jvm.MethodName)) ∈ gt_l := gt_in (i := 482) (by decide +kernel) rfl
set_option maxRecDepth 20000 in
theorem gw_483 : (Jvm.Cond.code ({ cls := "AbendRowsModel", name := "isTask", desc := "(I)Z" } : Jvm.MethodName) prog_11_method_5_code (1 : Nat) (Option.some Jvm.ClassFile.FieldType.boolean)) ∈ gt_l := gt_in (i := 483) rfl rfl
theorem gw_484 : (Jvm.Cond.methodLink "AbendRowsLaw" (56 : Nat) ({ cls := "AbendRowsModel", name := "dump", desc := "(III)I" } : Jvm.MethodName)) ∈ gt_l := gt_in (i := 484) (by decide +kernel) rfl
theorem gw_485 : (Jvm.Cond.instanceMethod ({ cls := "AbendRowsModel", name := "dump", desc := "(III)I" } : Jvm.MethodName)) ∈ gt_l := gt_in (i := 485) (by decide +kernel) rfl
theorem gw_486 : (Jvm.Cond.selects "AbendRowsModel" ({ cls := "AbendRowsModel", name := "dump", desc := "(III)I" } : Jvm.MethodName) ({ cls := "AbendRowsModel", name := "dump", desc := "(III)I" } : Jvm.MethodName)) ∈ gt_l := gt_in (i := 486) (by decide +kernel) rfl
set_option maxRecDepth 20000 in
theorem gw_487 : (Jvm.Cond.code ({ cls := "AbendRowsModel", name := "dump", desc := "(III)I" } : Jvm.MethodName) prog_11_method_15_code (6 : Nat) (Option.some Jvm.ClassFile.FieldType.int)) ∈ gt_l := gt_in (i := 487) rfl rfl
theorem gw_488 : (Jvm.Cond.methodLink "AbendRowsLaw" (68 : Nat) ({ cls := "AbendRowsModel", name := "suppress", desc := "(IZ)I" } : Jvm.MethodName)) ∈ gt_l := gt_in (i := 488) (by decide +kernel) rfl
theorem gw_489 : (Jvm.Cond.instanceMethod ({ cls := "AbendRowsModel", name := "suppress", desc := "(IZ)I" } : Jvm.MethodName)) ∈ gt_l := gt_in (i := 489) (by decide +kernel) rfl
theorem gw_490 : (Jvm.Cond.selects "AbendRowsModel" ({ cls := "AbendRowsModel", name := "suppress", desc := "(IZ)I" } : Jvm.MethodName) ({ cls := "AbendRowsModel", name := "suppress", desc := "(IZ)I" } : Jvm.MethodName)) ∈ gt_l := gt_in (i := 490) (by decide +kernel) rfl
set_option maxRecDepth 20000 in
theorem gw_491 : (Jvm.Cond.code ({ cls := "AbendRowsModel", name := "suppress", desc := "(IZ)I" } : Jvm.MethodName) prog_11_method_16_code (4 : Nat) (Option.some Jvm.ClassFile.FieldType.int)) ∈ gt_l := gt_in (i := 491) rfl rfl
theorem gw_492 : (Jvm.Cond.methodLink "AbendRowsLaw" (63 : Nat) ({ cls := "AbendRowsModel", name := "loop", desc := "(IJ)I" } : Jvm.MethodName)) ∈ gt_l := gt_in (i := 492) (by decide +kernel) rfl
theorem gw_493 : (Jvm.Cond.instanceMethod ({ cls := "AbendRowsModel", name := "loop", desc := "(IJ)I" } : Jvm.MethodName)) ∈ gt_l := gt_in (i := 493) (by decide +kernel) rfl
theorem gw_494 : (Jvm.Cond.selects "AbendRowsModel" ({ cls := "AbendRowsModel", name := "loop", desc := "(IJ)I" } : Jvm.MethodName) ({ cls := "AbendRowsModel", name := "loop", desc := "(IJ)I" } : Jvm.MethodName)) ∈ gt_l := gt_in (i := 494) (by decide +kernel) rfl
set_option maxRecDepth 20000 in
theorem gw_495 : (Jvm.Cond.code ({ cls := "AbendRowsModel", name := "loop", desc := "(IJ)I" } : Jvm.MethodName) prog_11_method_17_code (5 : Nat) (Option.some Jvm.ClassFile.FieldType.int)) ∈ gt_l := gt_in (i := 495) rfl rfl
theorem gw_496 : (Jvm.Cond.constantLong "AbendRowsModel" (93 : Nat) (1000 : Int64)) ∈ gt_l := gt_in (i := 496) (by decide +kernel) rfl
theorem gw_497 : (Jvm.Cond.methodLink "AbendRowsLaw" (43 : Nat) ({ cls := "AbendRowsModel", name := "guard", desc := "(II)I" } : Jvm.MethodName)) ∈ gt_l := gt_in (i := 497) (by decide +kernel) rfl
theorem gw_498 : (Jvm.Cond.instanceMethod ({ cls := "AbendRowsModel", name := "guard", desc := "(II)I" } : Jvm.MethodName)) ∈ gt_l := gt_in (i := 498) (by decide +kernel) rfl
theorem gw_499 : (Jvm.Cond.selects "AbendRowsModel" ({ cls := "AbendRowsModel", name := "guard", desc := "(II)I" } : Jvm.MethodName) ({ cls := "AbendRowsModel", name := "guard", desc := "(II)I" } : Jvm.MethodName)) ∈ gt_l := gt_in (i := 499) (by decide +kernel) rfl
set_option maxRecDepth 20000 in
theorem gw_500 : (Jvm.Cond.code ({ cls := "AbendRowsModel", name := "guard", desc := "(II)I" } : Jvm.MethodName) prog_11_method_18_code (3 : Nat) (Option.some Jvm.ClassFile.FieldType.int)) ∈ gt_l := gt_in (i := 500) rfl rfl
theorem gw_501 : (Jvm.Cond.methodLink "AbendRowsLaw" (47 : Nat) ({ cls := "AbendRowsModel", name := "write", desc := "(II)I" } : Jvm.MethodName)) ∈ gt_l := gt_in (i := 501) (by decide +kernel) rfl
theorem gw_502 : (Jvm.Cond.instanceMethod ({ cls := "AbendRowsModel", name := "write", desc := "(II)I" } : Jvm.MethodName)) ∈ gt_l := gt_in (i := 502) (by decide +kernel) rfl
theorem gw_503 : (Jvm.Cond.selects "AbendRowsModel" ({ cls := "AbendRowsModel", name := "write", desc := "(II)I" } : Jvm.MethodName) ({ cls := "AbendRowsModel", name := "write", desc := "(II)I" } : Jvm.MethodName)) ∈ gt_l := gt_in (i := 503) (by decide +kernel) rfl
set_option maxRecDepth 20000 in
theorem gw_504 : (Jvm.Cond.code ({ cls := "AbendRowsModel", name := "write", desc := "(II)I" } : Jvm.MethodName) prog_11_method_20_code (3 : Nat) (Option.some Jvm.ClassFile.FieldType.int)) ∈ gt_l := gt_in (i := 504) rfl rfl
theorem gw_505 : (Jvm.Cond.methodLink "AbendRowsModel" (95 : Nat) ({ cls := "AbendRowsModel", name := "isGuard", desc := "(I)Z" } : Jvm.MethodName)) ∈ gt_l := gt_in (i := 505) (by decide +kernel) rfl
theorem gw_507 : (Jvm.Cond.instanceMethod ({ cls := "AbendRowsModel", name := "isGuard", desc := "(I)Z" } : Jvm.MethodName)) ∈ gt_l := gt_in (i := 507) (by decide +kernel) rfl
set_option maxRecDepth 20000 in
theorem gw_508 : (Jvm.Cond.code ({ cls := "AbendRowsModel", name := "isGuard", desc := "(I)Z" } : Jvm.MethodName) prog_11_method_19_code (2 : Nat) (Option.some Jvm.ClassFile.FieldType.boolean)) ∈ gt_l := gt_in (i := 508) rfl rfl
theorem gw_509 : (Jvm.Cond.methodLink "AbendRowsLaw" (51 : Nat) ({ cls := "AbendRowsModel", name := "free", desc := "(I)I" } : Jvm.MethodName)) ∈ gt_l := gt_in (i := 509) (by decide +kernel) rfl
theorem gw_510 : (Jvm.Cond.instanceMethod ({ cls := "AbendRowsModel", name := "free", desc := "(I)I" } : Jvm.MethodName)) ∈ gt_l := gt_in (i := 510) (by decide +kernel) rfl
theorem gw_511 : (Jvm.Cond.selects "AbendRowsModel" ({ cls := "AbendRowsModel", name := "free", desc := "(I)I" } : Jvm.MethodName) ({ cls := "AbendRowsModel", name := "free", desc := "(I)I" } : Jvm.MethodName)) ∈ gt_l := gt_in (i := 511) (by decide +kernel) rfl
set_option maxRecDepth 20000 in
theorem gw_512 : (Jvm.Cond.code ({ cls := "AbendRowsModel", name := "free", desc := "(I)I" } : Jvm.MethodName) prog_11_method_21_code (3 : Nat) (Option.some Jvm.ClassFile.FieldType.int)) ∈ gt_l := gt_in (i := 512) rfl rfl
theorem gw_513 : (Jvm.Cond.methodLink "AbendRowsLaw" (80 : Nat) ({ cls := "AbendRowsModel", name := "told", desc := "(II)I" } : Jvm.MethodName)) ∈ gt_l := gt_in (i := 513) (by decide +kernel) rfl
theorem gw_514 : (Jvm.Cond.instanceMethod ({ cls := "AbendRowsModel", name := "told", desc := "(II)I" } : Jvm.MethodName)) ∈ gt_l := gt_in (i := 514) (by decide +kernel) rfl
theorem gw_515 : (Jvm.Cond.selects "AbendRowsModel" ({ cls := "AbendRowsModel", name := "told", desc := "(II)I" } : Jvm.MethodName) ({ cls := "AbendRowsModel", name := "told", desc := "(II)I" } : Jvm.MethodName)) ∈ gt_l := gt_in (i := 515) (by decide +kernel) rfl
set_option maxRecDepth 20000 in
theorem gw_516 : (Jvm.Cond.code ({ cls := "AbendRowsModel", name := "told", desc := "(II)I" } : Jvm.MethodName) prog_11_method_22_code (3 : Nat) (Option.some Jvm.ClassFile.FieldType.int)) ∈ gt_l := gt_in (i := 516) rfl rfl
theorem gw_517 : (Jvm.Cond.constantLong "AbendRowsLaw" (57 : Nat) (4294967295 : Int64)) ∈ gt_l := gt_in (i := 517) (by decide +kernel) rfl
theorem in_AR : ∀ w ∈ u_ws R_AR T_AR 11, w ∈ gt_l := by
  intro w hw
  obtain ⟨k, hk, rfl⟩ := List.mem_map.mp hw
  have hk := List.mem_range.mp hk
  match k, hk with
  | 0, _ => exact gt_in (i := 99) (by decide +kernel) (by decide +kernel)
  | 1, _ => exact gt_in (i := 101) (by decide +kernel) (by decide +kernel)
  | 2, _ => exact gt_in (i := 103) (by decide +kernel) (by decide +kernel)
  | 3, _ => exact gt_in (i := 105) (by decide +kernel) (by decide +kernel)
  | 4, _ => exact gt_in (i := 107) (by decide +kernel) (by decide +kernel)
  | 5, _ => exact gt_in (i := 109) (by decide +kernel) (by decide +kernel)
  | 6, _ => exact gt_in (i := 111) (by decide +kernel) (by decide +kernel)
  | 7, _ => exact gt_in (i := 113) (by decide +kernel) (by decide +kernel)
  | 8, _ => exact gt_in (i := 115) (by decide +kernel) (by decide +kernel)
  | 9, _ => exact gt_in (i := 117) (by decide +kernel) (by decide +kernel)
  | 10, _ => exact gt_in (i := 119) (by decide +kernel) (by decide +kernel)
  | k + 11, hk => exact absurd hk (by omega)
theorem in_SE : ∀ w ∈ u_ws R_SE T_SE 3, w ∈ gt_l := by
  intro w hw
  obtain ⟨k, hk, rfl⟩ := List.mem_map.mp hw
  have hk := List.mem_range.mp hk
  match k, hk with
  | 0, _ => exact gt_in (i := 39) (by decide +kernel) (by decide +kernel)
  | 1, _ => exact gt_in (i := 41) (by decide +kernel) (by decide +kernel)
  | 2, _ => exact gt_in (i := 43) (by decide +kernel) (by decide +kernel)
  | k + 3, hk => exact absurd hk (by omega)
theorem in_DR : ∀ w ∈ u_ws R_DR T_DR 2, w ∈ gt_l := by
  intro w hw
  obtain ⟨k, hk, rfl⟩ := List.mem_map.mp hw
  have hk := List.mem_range.mp hk
  match k, hk with
  | 0, _ => exact gt_in (i := 59) (by decide +kernel) (by decide +kernel)
  | 1, _ => exact gt_in (i := 61) (by decide +kernel) (by decide +kernel)
  | k + 2, hk => exact absurd hk (by omega)
theorem in_CS : ∀ w ∈ u_ws R_CS T_CS 1, w ∈ gt_l := by
  intro w hw
  obtain ⟨k, hk, rfl⟩ := List.mem_map.mp hw
  have hk := List.mem_range.mp hk
  match k, hk with
  | 0, _ => exact gt_in (i := 72) (by decide +kernel) (by decide +kernel)
  | k + 1, hk => exact absurd hk (by omega)
theorem in_CG : ∀ w ∈ u_ws R_CG T_CG 2, w ∈ gt_l := by
  intro w hw
  obtain ⟨k, hk, rfl⟩ := List.mem_map.mp hw
  have hk := List.mem_range.mp hk
  match k, hk with
  | 0, _ => exact gt_in (i := 83) (by decide +kernel) (by decide +kernel)
  | 1, _ => exact gt_in (i := 85) (by decide +kernel) (by decide +kernel)
  | k + 2, hk => exact absurd hk (by omega)
theorem in_LV : ∀ w ∈ u_ws R_LV T_LV 5, w ∈ gt_l := by
  intro w hw
  obtain ⟨k, hk, rfl⟩ := List.mem_map.mp hw
  have hk := List.mem_range.mp hk
  match k, hk with
  | 0, _ => exact gt_in (i := 145) (by decide +kernel) (by decide +kernel)
  | 1, _ => exact gt_in (i := 147) (by decide +kernel) (by decide +kernel)
  | 2, _ => exact gt_in (i := 149) (by decide +kernel) (by decide +kernel)
  | 3, _ => exact gt_in (i := 151) (by decide +kernel) (by decide +kernel)
  | 4, _ => exact gt_in (i := 153) (by decide +kernel) (by decide +kernel)
  | k + 5, hk => exact absurd hk (by omega)
theorem in_EX : ∀ w ∈ u_ws R_EX T_EX 5, w ∈ gt_l := by
  intro w hw
  obtain ⟨k, hk, rfl⟩ := List.mem_map.mp hw
  have hk := List.mem_range.mp hk
  match k, hk with
  | 0, _ => exact gt_in (i := 176) (by decide +kernel) (by decide +kernel)
  | 1, _ => exact gt_in (i := 178) (by decide +kernel) (by decide +kernel)
  | 2, _ => exact gt_in (i := 180) (by decide +kernel) (by decide +kernel)
  | 3, _ => exact gt_in (i := 182) (by decide +kernel) (by decide +kernel)
  | 4, _ => exact gt_in (i := 184) (by decide +kernel) (by decide +kernel)
  | k + 5, hk => exact absurd hk (by omega)
theorem in_GU : ∀ w ∈ u_ws R_GU T_GU 4, w ∈ gt_l := by
  intro w hw
  obtain ⟨k, hk, rfl⟩ := List.mem_map.mp hw
  have hk := List.mem_range.mp hk
  match k, hk with
  | 0, _ => exact gt_in (i := 305) (by decide +kernel) (by decide +kernel)
  | 1, _ => exact gt_in (i := 307) (by decide +kernel) (by decide +kernel)
  | 2, _ => exact gt_in (i := 309) (by decide +kernel) (by decide +kernel)
  | 3, _ => exact gt_in (i := 311) (by decide +kernel) (by decide +kernel)
  | k + 4, hk => exact absurd hk (by omega)
theorem in_DU : ∀ w ∈ u_ws R_DU T_DU 5, w ∈ gt_l := by
  intro w hw
  obtain ⟨k, hk, rfl⟩ := List.mem_map.mp hw
  have hk := List.mem_range.mp hk
  match k, hk with
  | 0, _ => exact gt_in (i := 274) (by decide +kernel) (by decide +kernel)
  | 1, _ => exact gt_in (i := 276) (by decide +kernel) (by decide +kernel)
  | 2, _ => exact gt_in (i := 278) (by decide +kernel) (by decide +kernel)
  | 3, _ => exact gt_in (i := 280) (by decide +kernel) (by decide +kernel)
  | 4, _ => exact gt_in (i := 282) (by decide +kernel) (by decide +kernel)
  | k + 5, hk => exact absurd hk (by omega)
theorem in_MO : ∀ w ∈ u_ws R_MO T_MO 22, w ∈ gt_l := by
  intro w hw
  obtain ⟨k, hk, rfl⟩ := List.mem_map.mp hw
  have hk := List.mem_range.mp hk
  match k, hk with
  | 0, _ => exact gt_in (i := 392) (by decide +kernel) (by decide +kernel)
  | 1, _ => exact gt_in (i := 394) (by decide +kernel) (by decide +kernel)
  | 2, _ => exact gt_in (i := 396) (by decide +kernel) (by decide +kernel)
  | 3, _ => exact gt_in (i := 398) (by decide +kernel) (by decide +kernel)
  | 4, _ => exact gt_in (i := 400) (by decide +kernel) (by decide +kernel)
  | 5, _ => exact gt_in (i := 402) (by decide +kernel) (by decide +kernel)
  | 6, _ => exact gt_in (i := 404) (by decide +kernel) (by decide +kernel)
  | 7, _ => exact gt_in (i := 406) (by decide +kernel) (by decide +kernel)
  | 8, _ => exact gt_in (i := 408) (by decide +kernel) (by decide +kernel)
  | 9, _ => exact gt_in (i := 410) (by decide +kernel) (by decide +kernel)
  | 10, _ => exact gt_in (i := 412) (by decide +kernel) (by decide +kernel)
  | 11, _ => exact gt_in (i := 414) (by decide +kernel) (by decide +kernel)
  | 12, _ => exact gt_in (i := 416) (by decide +kernel) (by decide +kernel)
  | 13, _ => exact gt_in (i := 418) (by decide +kernel) (by decide +kernel)
  | 14, _ => exact gt_in (i := 420) (by decide +kernel) (by decide +kernel)
  | 15, _ => exact gt_in (i := 422) (by decide +kernel) (by decide +kernel)
  | 16, _ => exact gt_in (i := 424) (by decide +kernel) (by decide +kernel)
  | 17, _ => exact gt_in (i := 426) (by decide +kernel) (by decide +kernel)
  | 18, _ => exact gt_in (i := 428) (by decide +kernel) (by decide +kernel)
  | 19, _ => exact gt_in (i := 430) (by decide +kernel) (by decide +kernel)
  | 20, _ => exact gt_in (i := 432) (by decide +kernel) (by decide +kernel)
  | 21, _ => exact gt_in (i := 434) (by decide +kernel) (by decide +kernel)
  | k + 22, hk => exact absurd hk (by omega)
abbrev b_AR_init : ByteArray := prog_1_method_1_code
def y_AR_init : MethodName := ⟨"AbendRows", "<init>", "()V"⟩
abbrev w_AR_init : List Cond := .code y_AR_init b_AR_init 1 (none) :: gt_l
abbrev b_SE_init : ByteArray := prog_9_method_1_code
def y_SE_init : MethodName := ⟨"AbendRows$Search", "<init>", "()V"⟩
abbrev w_SE_init : List Cond := .code y_SE_init b_SE_init 1 (none) :: gt_l
abbrev b_DR_init : ByteArray := prog_5_method_1_code
def y_DR_init : MethodName := ⟨"AbendRows$DumpRow", "<init>", "()V"⟩
abbrev w_DR_init : List Cond := .code y_DR_init b_DR_init 1 (none) :: gt_l
abbrev b_CS_init : ByteArray := prog_3_method_1_code
def y_CS_init : MethodName := ⟨"AbendRows$CodeSet", "<init>", "()V"⟩
abbrev w_CS_init : List Cond := .code y_CS_init b_CS_init 1 (none) :: gt_l
abbrev b_CG_init : ByteArray := prog_2_method_1_code
def y_CG_init : MethodName := ⟨"AbendRows$CodeLog", "<init>", "()V"⟩
abbrev w_CG_init : List Cond := .code y_CG_init b_CG_init 1 (none) :: gt_l
abbrev b_AR_level : ByteArray := prog_1_method_2_code
def y_AR_level : MethodName := ⟨"AbendRows", "level", "(I)I"⟩
abbrev w_AR_level : List Cond := .code y_AR_level b_AR_level 5 (some (Jvm.ClassFile.FieldType.int)) :: gt_l
abbrev b_AR_levelOf : ByteArray := prog_1_method_19_code
def y_AR_levelOf : MethodName := ⟨"AbendRows", "levelOf", "(I)LAbendRows$Level;"⟩
abbrev w_AR_levelOf : List Cond := .code y_AR_levelOf b_AR_levelOf 2 (some ((Jvm.ClassFile.FieldType.object "AbendRows$Level"))) :: gt_l
abbrev b_LV_init : ByteArray := prog_8_method_1_code
def y_LV_init : MethodName := ⟨"AbendRows$Level", "<init>", "(ILAbendRows$Level;I)V"⟩
abbrev w_LV_init : List Cond := .code y_LV_init b_LV_init 4 (none) :: gt_l
abbrev b_AR_exit : ByteArray := prog_1_method_3_code
def y_AR_exit : MethodName := ⟨"AbendRows", "exit", "(IIZ)I"⟩
abbrev w_AR_exit : List Cond := .code y_AR_exit b_AR_exit 5 (some (Jvm.ClassFile.FieldType.int)) :: gt_l
abbrev b_EX_init : ByteArray := prog_6_method_1_code
def y_EX_init : MethodName := ⟨"AbendRows$Exit", "<init>", "(IIZLAbendRows$Exit;)V"⟩
abbrev w_EX_init : List Cond := .code y_EX_init b_EX_init 5 (none) :: gt_l
abbrev b_AR_abend : ByteArray := prog_1_method_4_code
def y_AR_abend : MethodName := ⟨"AbendRows", "abend", "(II)I"⟩
abbrev w_AR_abend : List Cond := .code y_AR_abend b_AR_abend 5 (some (Jvm.ClassFile.FieldType.int)) :: gt_l
abbrev b_AR_isCode : ByteArray := prog_1_method_17_code
def y_AR_isCode : MethodName := ⟨"AbendRows", "isCode", "(I)Z"⟩
abbrev w_AR_isCode : List Cond := .code y_AR_isCode b_AR_isCode 1 (some (Jvm.ClassFile.FieldType.boolean)) :: gt_l
abbrev b_SE_findEnd : ByteArray := prog_9_method_2_code
def y_SE_findEnd : MethodName := ⟨"AbendRows$Search", "findEnd", "(LAbendRows$Level;I)LAbendRows$Level;"⟩
abbrev w_SE_findEnd : List Cond := .code y_SE_findEnd b_SE_findEnd 6 (some ((Jvm.ClassFile.FieldType.object "AbendRows$Level"))) :: gt_l
abbrev b_SE_ask : ByteArray := prog_9_method_3_code
def y_SE_ask : MethodName := ⟨"AbendRows$Search", "ask", "(LAbendRows$Exit;LAbendRows$Level;LAbendRows$Level;)LAbendRows$Level;"⟩
abbrev w_SE_ask : List Cond := .code y_SE_ask b_SE_ask 4 (some ((Jvm.ClassFile.FieldType.object "AbendRows$Level"))) :: gt_l
abbrev b_SE_note : ByteArray := prog_9_method_5_code
def y_SE_note : MethodName := ⟨"AbendRows$Search", "note", "(I)V"⟩
abbrev w_SE_note : List Cond := .code y_SE_note b_SE_note 2 (none) :: gt_l
abbrev b_MA_min : ByteArray := prog_12_method_69_code
def y_MA_min : MethodName := ⟨"java/lang/Math", "min", "(II)I"⟩
abbrev w_MA_min : List Cond := .code y_MA_min b_MA_min 2 (some (Jvm.ClassFile.FieldType.int)) :: gt_l
abbrev b_SE_retriesNow : ByteArray := prog_9_method_4_code
def y_SE_retriesNow : MethodName := ⟨"AbendRows$Search", "retriesNow", "(LAbendRows$Exit;)Z"⟩
abbrev w_SE_retriesNow : List Cond := .code y_SE_retriesNow b_SE_retriesNow 2 (some (Jvm.ClassFile.FieldType.boolean)) :: gt_l
abbrev b_AR_loseExits : ByteArray := prog_1_method_23_code
def y_AR_loseExits : MethodName := ⟨"AbendRows", "loseExits", "(LAbendRows$Level;LAbendRows$Level;)V"⟩
abbrev w_AR_loseExits : List Cond := .code y_AR_loseExits b_AR_loseExits 3 (none) :: gt_l
abbrev b_CG_add : ByteArray := prog_2_method_2_code
def y_CG_add : MethodName := ⟨"AbendRows$CodeLog", "add", "(I)V"⟩
abbrev w_CG_add : List Cond := .code y_CG_add b_CG_add 2 (none) :: gt_l
abbrev b_AR_order : ByteArray := prog_1_method_5_code
def y_AR_order : MethodName := ⟨"AbendRows", "order", "(I)I"⟩
abbrev w_AR_order : List Cond := .code y_AR_order b_AR_order 2 (some (Jvm.ClassFile.FieldType.int)) :: gt_l
abbrev b_SE_askedAt : ByteArray := prog_9_method_6_code
def y_SE_askedAt : MethodName := ⟨"AbendRows$Search", "askedAt", "(I)I"⟩
abbrev w_SE_askedAt : List Cond := .code y_SE_askedAt b_SE_askedAt 2 (some (Jvm.ClassFile.FieldType.int)) :: gt_l
abbrev b_AR_cancel : ByteArray := prog_1_method_6_code
def y_AR_cancel : MethodName := ⟨"AbendRows", "cancel", "(I)I"⟩
abbrev w_AR_cancel : List Cond := .code y_AR_cancel b_AR_cancel 4 (some (Jvm.ClassFile.FieldType.int)) :: gt_l
abbrev b_AR_restart : ByteArray := prog_1_method_7_code
def y_AR_restart : MethodName := ⟨"AbendRows", "restart", "(II)I"⟩
abbrev w_AR_restart : List Cond := .code y_AR_restart b_AR_restart 4 (some (Jvm.ClassFile.FieldType.int)) :: gt_l
abbrev b_AR_isTask : ByteArray := prog_1_method_18_code
def y_AR_isTask : MethodName := ⟨"AbendRows", "isTask", "(I)Z"⟩
abbrev w_AR_isTask : List Cond := .code y_AR_isTask b_AR_isTask 1 (some (Jvm.ClassFile.FieldType.boolean)) :: gt_l
abbrev b_CS_has : ByteArray := prog_3_method_2_code
def y_CS_has : MethodName := ⟨"AbendRows$CodeSet", "has", "(I)Z"⟩
abbrev w_CS_has : List Cond := .code y_CS_has b_CS_has 2 (some (Jvm.ClassFile.FieldType.boolean)) :: gt_l
abbrev b_CS_bitOf : ByteArray := prog_3_method_4_code
def y_CS_bitOf : MethodName := ⟨"AbendRows$CodeSet", "bitOf", "(I)J"⟩
abbrev w_CS_bitOf : List Cond := .code y_CS_bitOf b_CS_bitOf 1 (some (Jvm.ClassFile.FieldType.long)) :: gt_l
abbrev b_AR_guardsOf : ByteArray := prog_1_method_21_code
def y_AR_guardsOf : MethodName := ⟨"AbendRows", "guardsOf", "(I)I"⟩
abbrev w_AR_guardsOf : List Cond := .code y_AR_guardsOf b_AR_guardsOf 7 (some (Jvm.ClassFile.FieldType.int)) :: gt_l
abbrev b_GU_isHeldBy : ByteArray := prog_7_method_2_code
def y_GU_isHeldBy : MethodName := ⟨"AbendRows$Guard", "isHeldBy", "(I)Z"⟩
abbrev w_GU_isHeldBy : List Cond := .code y_GU_isHeldBy b_GU_isHeldBy 2 (some (Jvm.ClassFile.FieldType.boolean)) :: gt_l
abbrev b_AR_brokenGuardsOf : ByteArray := prog_1_method_22_code
def y_AR_brokenGuardsOf : MethodName := ⟨"AbendRows", "brokenGuardsOf", "(I)I"⟩
abbrev w_AR_brokenGuardsOf : List Cond := .code y_AR_brokenGuardsOf b_AR_brokenGuardsOf 7 (some (Jvm.ClassFile.FieldType.int)) :: gt_l
abbrev b_DU_init : ByteArray := prog_4_method_1_code
def y_DU_init : MethodName := ⟨"AbendRows$Dump", "<init>", "(IIIIZ)V"⟩
abbrev w_DU_init : List Cond := .code y_DU_init b_DU_init 6 (none) :: gt_l
abbrev b_DR_keep : ByteArray := prog_5_method_2_code
def y_DR_keep : MethodName := ⟨"AbendRows$DumpRow", "keep", "(LAbendRows$Dump;)V"⟩
abbrev w_DR_keep : List Cond := .code y_DR_keep b_DR_keep 2 (none) :: gt_l
abbrev b_AR_guard : ByteArray := prog_1_method_8_code
def y_AR_guard : MethodName := ⟨"AbendRows", "guard", "(II)I"⟩
abbrev w_AR_guard : List Cond := .code y_AR_guard b_AR_guard 3 (some (Jvm.ClassFile.FieldType.int)) :: gt_l
abbrev b_GU_init : ByteArray := prog_7_method_1_code
def y_GU_init : MethodName := ⟨"AbendRows$Guard", "<init>", "(II)V"⟩
abbrev w_GU_init : List Cond := .code y_GU_init b_GU_init 3 (none) :: gt_l
abbrev b_AR_write : ByteArray := prog_1_method_9_code
def y_AR_write : MethodName := ⟨"AbendRows", "write", "(II)I"⟩
abbrev w_AR_write : List Cond := .code y_AR_write b_AR_write 4 (some (Jvm.ClassFile.FieldType.int)) :: gt_l
abbrev b_AR_guardOf : ByteArray := prog_1_method_20_code
def y_AR_guardOf : MethodName := ⟨"AbendRows", "guardOf", "(I)LAbendRows$Guard;"⟩
abbrev w_AR_guardOf : List Cond := .code y_AR_guardOf b_AR_guardOf 3 (some ((Jvm.ClassFile.FieldType.object "AbendRows$Guard"))) :: gt_l
abbrev b_AR_free : ByteArray := prog_1_method_10_code
def y_AR_free : MethodName := ⟨"AbendRows", "free", "(I)I"⟩
abbrev w_AR_free : List Cond := .code y_AR_free b_AR_free 3 (some (Jvm.ClassFile.FieldType.int)) :: gt_l
abbrev b_AR_dump : ByteArray := prog_1_method_11_code
def y_AR_dump : MethodName := ⟨"AbendRows", "dump", "(III)I"⟩
abbrev w_AR_dump : List Cond := .code y_AR_dump b_AR_dump 5 (some (Jvm.ClassFile.FieldType.int)) :: gt_l
abbrev b_DR_find : ByteArray := prog_5_method_3_code
def y_DR_find : MethodName := ⟨"AbendRows$DumpRow", "find", "(II)LAbendRows$Dump;"⟩
abbrev w_DR_find : List Cond := .code y_DR_find b_DR_find 6 (some ((Jvm.ClassFile.FieldType.object "AbendRows$Dump"))) :: gt_l
abbrev b_AR_loop : ByteArray := prog_1_method_12_code
def y_AR_loop : MethodName := ⟨"AbendRows", "loop", "(IJ)I"⟩
abbrev w_AR_loop : List Cond := .code y_AR_loop b_AR_loop 4 (some (Jvm.ClassFile.FieldType.int)) :: gt_l
abbrev b_AR_suppress : ByteArray := prog_1_method_13_code
def y_AR_suppress : MethodName := ⟨"AbendRows", "suppress", "(IZ)I"⟩
abbrev w_AR_suppress : List Cond := .code y_AR_suppress b_AR_suppress 4 (some (Jvm.ClassFile.FieldType.int)) :: gt_l
abbrev b_CS_put : ByteArray := prog_3_method_3_code
def y_CS_put : MethodName := ⟨"AbendRows$CodeSet", "put", "(IZ)V"⟩
abbrev w_CS_put : List Cond := .code y_CS_put b_CS_put 5 (none) :: gt_l
abbrev b_AR_count : ByteArray := prog_1_method_14_code
def y_AR_count : MethodName := ⟨"AbendRows", "count", "(I)I"⟩
abbrev w_AR_count : List Cond := .code y_AR_count b_AR_count 2 (some (Jvm.ClassFile.FieldType.int)) :: gt_l
abbrev b_CG_timesOf : ByteArray := prog_2_method_3_code
def y_CG_timesOf : MethodName := ⟨"AbendRows$CodeLog", "timesOf", "(I)I"⟩
abbrev w_CG_timesOf : List Cond := .code y_CG_timesOf b_CG_timesOf 4 (some (Jvm.ClassFile.FieldType.int)) :: gt_l
abbrev b_AR_region : ByteArray := prog_1_method_15_code
def y_AR_region : MethodName := ⟨"AbendRows", "region", "(I)I"⟩
abbrev w_AR_region : List Cond := .code y_AR_region b_AR_region 2 (some (Jvm.ClassFile.FieldType.int)) :: gt_l
abbrev b_AR_told : ByteArray := prog_1_method_16_code
def y_AR_told : MethodName := ⟨"AbendRows", "told", "(II)I"⟩
abbrev w_AR_told : List Cond := .code y_AR_told b_AR_told 4 (some (Jvm.ClassFile.FieldType.int)) :: gt_l
abbrev b_MO_init : ByteArray := prog_11_method_1_code
def y_MO_init : MethodName := ⟨"AbendRowsModel", "<init>", "()V"⟩
abbrev w_MO_init : List Cond := .code y_MO_init b_MO_init 1 (none) :: gt_l
abbrev b_MO_level : ByteArray := prog_11_method_6_code
def y_MO_level : MethodName := ⟨"AbendRowsModel", "level", "(I)I"⟩
abbrev w_MO_level : List Cond := .code y_MO_level b_MO_level 2 (some (Jvm.ClassFile.FieldType.int)) :: gt_l
abbrev b_MO_isLevel : ByteArray := prog_11_method_3_code
def y_MO_isLevel : MethodName := ⟨"AbendRowsModel", "isLevel", "(I)Z"⟩
abbrev w_MO_isLevel : List Cond := .code y_MO_isLevel b_MO_isLevel 2 (some (Jvm.ClassFile.FieldType.boolean)) :: gt_l
abbrev b_MO_exit : ByteArray := prog_11_method_7_code
def y_MO_exit : MethodName := ⟨"AbendRowsModel", "exit", "(IIZ)I"⟩
abbrev w_MO_exit : List Cond := .code y_MO_exit b_MO_exit 4 (some (Jvm.ClassFile.FieldType.int)) :: gt_l
abbrev b_MO_cancel : ByteArray := prog_11_method_8_code
def y_MO_cancel : MethodName := ⟨"AbendRowsModel", "cancel", "(I)I"⟩
abbrev w_MO_cancel : List Cond := .code y_MO_cancel b_MO_cancel 2 (some (Jvm.ClassFile.FieldType.int)) :: gt_l
abbrev b_MO_abend : ByteArray := prog_11_method_10_code
def y_MO_abend : MethodName := ⟨"AbendRowsModel", "abend", "(II)I"⟩
abbrev w_MO_abend : List Cond := .code y_MO_abend b_MO_abend 9 (some (Jvm.ClassFile.FieldType.int)) :: gt_l
abbrev b_MO_isCode : ByteArray := prog_11_method_4_code
def y_MO_isCode : MethodName := ⟨"AbendRowsModel", "isCode", "(I)Z"⟩
abbrev w_MO_isCode : List Cond := .code y_MO_isCode b_MO_isCode 1 (some (Jvm.ClassFile.FieldType.boolean)) :: gt_l
abbrev b_MO_endOf : ByteArray := prog_11_method_9_code
def y_MO_endOf : MethodName := ⟨"AbendRowsModel", "endOf", "(III)I"⟩
abbrev w_MO_endOf : List Cond := .code y_MO_endOf b_MO_endOf 4 (some (Jvm.ClassFile.FieldType.int)) :: gt_l
abbrev b_MO_order : ByteArray := prog_11_method_11_code
def y_MO_order : MethodName := ⟨"AbendRowsModel", "order", "(I)I"⟩
abbrev w_MO_order : List Cond := .code y_MO_order b_MO_order 2 (some (Jvm.ClassFile.FieldType.int)) :: gt_l
abbrev b_MO_count : ByteArray := prog_11_method_12_code
def y_MO_count : MethodName := ⟨"AbendRowsModel", "count", "(I)I"⟩
abbrev w_MO_count : List Cond := .code y_MO_count b_MO_count 2 (some (Jvm.ClassFile.FieldType.int)) :: gt_l
abbrev b_MO_region : ByteArray := prog_11_method_13_code
def y_MO_region : MethodName := ⟨"AbendRowsModel", "region", "(I)I"⟩
abbrev w_MO_region : List Cond := .code y_MO_region b_MO_region 2 (some (Jvm.ClassFile.FieldType.int)) :: gt_l
abbrev b_MO_restart : ByteArray := prog_11_method_14_code
def y_MO_restart : MethodName := ⟨"AbendRowsModel", "restart", "(II)I"⟩
abbrev w_MO_restart : List Cond := .code y_MO_restart b_MO_restart 7 (some (Jvm.ClassFile.FieldType.int)) :: gt_l
abbrev b_MO_isTask : ByteArray := prog_11_method_5_code
def y_MO_isTask : MethodName := ⟨"AbendRowsModel", "isTask", "(I)Z"⟩
abbrev w_MO_isTask : List Cond := .code y_MO_isTask b_MO_isTask 1 (some (Jvm.ClassFile.FieldType.boolean)) :: gt_l
abbrev b_MO_dump : ByteArray := prog_11_method_15_code
def y_MO_dump : MethodName := ⟨"AbendRowsModel", "dump", "(III)I"⟩
abbrev w_MO_dump : List Cond := .code y_MO_dump b_MO_dump 6 (some (Jvm.ClassFile.FieldType.int)) :: gt_l
abbrev b_MO_suppress : ByteArray := prog_11_method_16_code
def y_MO_suppress : MethodName := ⟨"AbendRowsModel", "suppress", "(IZ)I"⟩
abbrev w_MO_suppress : List Cond := .code y_MO_suppress b_MO_suppress 4 (some (Jvm.ClassFile.FieldType.int)) :: gt_l
abbrev b_MO_loop : ByteArray := prog_11_method_17_code
def y_MO_loop : MethodName := ⟨"AbendRowsModel", "loop", "(IJ)I"⟩
abbrev w_MO_loop : List Cond := .code y_MO_loop b_MO_loop 5 (some (Jvm.ClassFile.FieldType.int)) :: gt_l
abbrev b_MO_guard : ByteArray := prog_11_method_18_code
def y_MO_guard : MethodName := ⟨"AbendRowsModel", "guard", "(II)I"⟩
abbrev w_MO_guard : List Cond := .code y_MO_guard b_MO_guard 3 (some (Jvm.ClassFile.FieldType.int)) :: gt_l
abbrev b_MO_write : ByteArray := prog_11_method_20_code
def y_MO_write : MethodName := ⟨"AbendRowsModel", "write", "(II)I"⟩
abbrev w_MO_write : List Cond := .code y_MO_write b_MO_write 3 (some (Jvm.ClassFile.FieldType.int)) :: gt_l
abbrev b_MO_isGuard : ByteArray := prog_11_method_19_code
def y_MO_isGuard : MethodName := ⟨"AbendRowsModel", "isGuard", "(I)Z"⟩
abbrev w_MO_isGuard : List Cond := .code y_MO_isGuard b_MO_isGuard 2 (some (Jvm.ClassFile.FieldType.boolean)) :: gt_l
abbrev b_MO_free : ByteArray := prog_11_method_21_code
def y_MO_free : MethodName := ⟨"AbendRowsModel", "free", "(I)I"⟩
abbrev w_MO_free : List Cond := .code y_MO_free b_MO_free 3 (some (Jvm.ClassFile.FieldType.int)) :: gt_l
abbrev b_MO_told : ByteArray := prog_11_method_22_code
def y_MO_told : MethodName := ⟨"AbendRowsModel", "told", "(II)I"⟩
abbrev w_MO_told : List Cond := .code y_MO_told b_MO_told 3 (some (Jvm.ClassFile.FieldType.int)) :: gt_l
end
section
/-! THE MEMORY: all cells that a system has, as one partial map from addresses; a method's contract speaks of the whole map -/
abbrev mm_M : Type := Nat → Option va_E
def mm_up (M : mm_M) (a : Nat) (e : va_E) : mm_M := fun q => if q = a then some e else M q
theorem mm_us {M : mm_M} {a : Nat} {e : va_E} : mm_up M a e a = some e := by simp [mm_up]
theorem mm_un {M : mm_M} {a q : Nat} {e : va_E} (h : q ≠ a) : mm_up M a e q = M q := by simp [mm_up, h]
theorem mm_ne {M : mm_M} {a b : Nat} {x y : va_E} (ha : M a = some x) (hb : M b = some y) (h : x ≠ y) : a ≠ b := fun q => h (by rw [q] at ha; exact Option.some.inj (ha.symm.trans hb))
/-- a cell that is another one, by what it holds, stays -/
theorem mm_uk {M : mm_M} {a b : Nat} {x y e : va_E} (ha : M a = some x) (hb : M b = some y) (h : y ≠ x) : mm_up M a e b = some y := by
  rw [mm_un (fun q => mm_ne hb ha h q)]; exact hb
/-- a new cell is none of the old ones -/
theorem mm_fk {M : mm_M} {a b : Nat} {y e : va_E} (ha : M a = none) (hb : M b = some y) : mm_up M a e b = some y := by
  rw [mm_un (fun q => by rw [q, ha] at hb; cases hb)]; exact hb
def mm_has (D : va_G) (cl : List vw_C) (M : mm_M) (H : Heap) : Prop := ∀ (a : Nat) (e : va_E), M a = some e → va_at D cl (a, e) H
/-- the walk's world: the heap holds M; M lies in A; nothing outside A has changed since H0 -/
def mm_w (D : va_G) (cl : List vw_C) (A : Nat → Prop) (H0 : Heap) (M : mm_M) (H : Heap) (locs : List Loc) : Prop := mm_has D cl M H ∧ (∀ (a : Nat) (e : va_E), M a = some e → A a) ∧ va_S A H0 H locs ∧ ∀ q : Nat, H0.size ≤ q → A q
def mm_ls (M : mm_M) (n : Nat) : va_W := (List.range n).filterMap (fun a => (M a).map (fun e => (a, e)))
theorem mm_ls_in {M : mm_M} {n a : Nat} {e : va_E} : (a, e) ∈ mm_ls M n ↔ a < n ∧ M a = some e := by
  unfold mm_ls
  rw [List.mem_filterMap]
  constructor
  · rintro ⟨b, hb, h⟩
    cases hM : M b with
    | none => rw [hM] at h; cases h
    | some x =>
      rw [hM] at h
      have h2 := Option.some.inj h
      have h3 : b = a := congrArg Prod.fst h2
      have h4 : x = e := congrArg Prod.snd h2
      subst h3; subst h4
      exact ⟨List.mem_range.mp hb, hM⟩
  · rintro ⟨h1, h2⟩
    exact ⟨a, List.mem_range.mpr h1, by rw [h2]; rfl⟩
theorem mm_ls_lt (M : mm_M) (n : Nat) : (mm_ls M n).Pairwise (fun x y => x.1 < y.1) := by
  unfold mm_ls
  rw [List.pairwise_filterMap]
  refine List.Pairwise.imp ?_ List.pairwise_lt_range
  intro a b hab x hx y hy
  cases hA : M a with
  | none => rw [hA] at hx; cases hx
  | some e1 =>
    cases hB : M b with
    | none => rw [hB] at hy; cases hy
    | some e2 =>
      rw [hA] at hx
      rw [hB] at hy
      cases hx; cases hy
      exact hab
theorem mm_P {D : va_G} {cl : List vw_C} {M : mm_M} {H : Heap} (h : mm_has D cl M H) : va_P D cl (mm_ls M H.size) H := fun k q hk => by
  obtain ⟨a, e⟩ := q
  exact h a e (mm_ls_in.mp (List.mem_of_getElem? hk)).2
theorem mm_D {A : Nat → Prop} {M : mm_M} {n : Nat} (h : ∀ (a : Nat) (e : va_E), M a = some e → A a) : va_D A (mm_ls M n) := by
  refine ⟨fun i j x y hi hj hxy => ?_, fun k q hk => ?_⟩
  · have hp := List.pairwise_iff_getElem.mp (mm_ls_lt M n)
    obtain ⟨hi1, hi2⟩ := List.getElem?_eq_some_iff.mp hi
    obtain ⟨hj1, hj2⟩ := List.getElem?_eq_some_iff.mp hj
    rcases Nat.lt_trichotomy i j with g | g | g
    · have := hp i j hi1 hj1 g
      rw [hi2, hj2, hxy] at this
      exact absurd this (Nat.lt_irrefl _)
    · exact g
    · have := hp j i hj1 hi1 g
      rw [hi2, hj2, hxy] at this
      exact absurd this (Nat.lt_irrefl _)
  · obtain ⟨a, e⟩ := q
    exact h a e (mm_ls_in.mp (List.mem_of_getElem? hk)).2
theorem mm_ix {D : va_G} {cl : List vw_C} {M : mm_M} {H : Heap} {a : Nat} {e : va_E} (h : mm_has D cl M H) (ha : M a = some e) : ∃ k : Nat, (mm_ls M H.size)[k]? = some (a, e) :=
  List.getElem?_of_mem (mm_ls_in.mpr ⟨(h a e ha).lt, ha⟩)
theorem mm_set {D : va_G} {cl : List vw_C} {A : Nat → Prop} {H0 H H1 : Heap} {M : mm_M} {locs locs1 : List Loc} {k a : Nat} {e0 e : va_E} (hw : mm_w D cl A H0 M H locs) (hk : (mm_ls M H.size)[k]? = some (a, e0)) (hP1 : va_P D cl ((mm_ls M H.size).set k (a, e)) H1) (hS1 : va_S A H0 H1 locs1) : mm_w D cl A H0 (mm_up M a e) H1 locs1 := by
  have hl := (List.getElem?_eq_some_iff.mp hk).1
  have haM := (mm_ls_in.mp (List.mem_of_getElem? hk)).2
  refine ⟨fun b x hb => ?_, fun b x hb => ?_, hS1, hw.2.2.2⟩
  · by_cases hba : b = a
    · subst hba
      rw [mm_us] at hb
      cases hb
      exact hP1 k _ (List.getElem?_set_self hl)
    · rw [mm_un hba] at hb
      obtain ⟨j, hj⟩ := mm_ix hw.1 hb
      have hjk : k ≠ j := fun q => by
        rw [q, hj] at hk
        exact hba (congrArg Prod.fst (Option.some.inj hk))
      exact hP1 j _ (by rw [List.getElem?_set_ne hjk]; exact hj)
  · by_cases hba : b = a
    · rw [hba]; exact hw.2.1 a e0 haM
    · rw [mm_un hba] at hb
      exact hw.2.1 b x hb
theorem mm_push {D : va_G} {cl : List vw_C} {A : Nat → Prop} {H0 H H1 : Heap} {M : mm_M} {locs locs1 : List Loc} {q : Nat} {e : va_E} (hw : mm_w D cl A H0 M H locs) (hP1 : va_P D cl (mm_ls M H.size ++ [(q, e)]) H1) (hD1 : va_D A (mm_ls M H.size ++ [(q, e)])) (hS1 : va_S A H0 H1 locs1) : M q = none ∧ mm_w D cl A H0 (mm_up M q e) H1 locs1 := by
  have hend : (mm_ls M H.size ++ [(q, e)])[(mm_ls M H.size).length]? = some (q, e) := by rw [List.getElem?_append_right (Nat.le_refl _), Nat.sub_self]; rfl
  have hbef : ∀ (k : Nat) (x : Nat × va_E), (mm_ls M H.size)[k]? = some x → (mm_ls M H.size ++ [(q, e)])[k]? = some x := fun k x hx => by
    rw [List.getElem?_append_left (List.getElem?_eq_some_iff.mp hx).1]; exact hx
  have hq : M q = none := by
    cases hM : M q with
    | none => rfl
    | some x =>
      obtain ⟨k, hk⟩ := mm_ix hw.1 hM
      have h1 := hD1.1 _ _ _ _ (hbef k _ hk) hend rfl
      have h2 := (List.getElem?_eq_some_iff.mp hk).1
      omega
  refine ⟨hq, fun b x hb => ?_, fun b x hb => ?_, hS1, hw.2.2.2⟩
  · by_cases hba : b = q
    · subst hba
      rw [mm_us] at hb
      cases hb
      exact hP1 _ _ hend
    · rw [mm_un hba] at hb
      obtain ⟨j, hj⟩ := mm_ix hw.1 hb
      exact hP1 j _ (hbef j _ hj)
  · by_cases hba : b = q
    · rw [hba]; exact hD1.2 _ _ hend
    · rw [mm_un hba] at hb
      exact hw.2.1 b x hb
section MMR
variable {p : Program} {l : Launch} {e : Env} {R : Room} {s : State} {m : MethodId} {args : Array Value} {below : List Frame} {meth : Method} {c : Code} {H : Heap} {locs : List Loc} {cells slots : Nat} {Q : State → Prop}
variable {cc : ByteArray} {pc nL : Nat} {ls : Array Slot} {rest : List Value} {D : va_G} {cl : List vw_C} {A : Nat → Prop} {a : Nat} {tys : List (ClassId × FieldType)} {M : mm_M} {H0 : Heap} {Ts : List Cond} {own : String}
theorem mm_get (S : CallFix p m c cc nL s args Ts own) (hK : va_K D cl tys s) (hw : mm_w D cl A H0 M H locs) {C ref : String} {T : u_T} {N ci index : Nat} {fs : List Value} (hc : M a = some (.inr (ci, fs))) (hcl : cl[ci]? = some (C, T, N)) (hin : ∀ w ∈ u_ws C T N, w ∈ Ts) (k : Nat) (hk : k < N) (hlink : Cond.fieldLink own index ref (T k).2.1 (T k).2.2.1 ∈ Ts) (hsame : ref = (T k).1) {v : Value} (hv : fs[k]? = some v) (hdg : decode cc pc = .ok (.getfield index, 3))
    (kk : W p l e R s m args below meth c H locs cells slots Q (F0 m (pc + 3) ls (v :: rest))) : W p l e R s m args below meth c H locs cells slots Q (F0 m pc ls (.ref a :: rest)) := by
  obtain ⟨i, hi⟩ := mm_ix hw.1 hc
  exact va_get S.1 S.2.1 S.2.2.2.2 hin S.2.2.2.1 hK (mm_P hw.1) i hi hcl k hk (S.2.2.2.2 _ hlink) (fun x h => by rw [hsame]; exact h) hv hdg kk
theorem mm_put (S : CallFix p m c cc nL s args Ts own) (hK : va_K D cl tys s) (hw : mm_w D cl A H0 M H locs) {C ref : String} {T : u_T} {N ci index : Nat} {fs : List Value} (hc : M a = some (.inr (ci, fs))) (hcl : cl[ci]? = some (C, T, N)) (hin : ∀ w ∈ u_ws C T N, w ∈ Ts) (ty0 : Nat → FieldType) (hty : ∀ k, k < N → parseFieldDescriptor (T k).2.2.1 = some (ty0 k)) (hnm : ∀ a, a < N → ∀ b, b < N → a ≠ b → (T a).2.1 ≠ (T b).2.1) (k : Nat) (hk : k < N) (hlink : Cond.fieldLink own index ref (T k).2.1 (T k).2.2.1 ∈ Ts) (hsame : ref = (T k).1) (hfin : (T k).2.2.2 = false) {ty : FieldType} {v : Value} (hd : parseFieldDescriptor (T k).2.2.1 = some ty) (hn : narrow ty v = v) (hfit : fits ty v = true) (hl : k < fs.length) (hdg : decode cc pc = .ok (.putfield index, 3))
    (kk : ∀ (H1 : Heap) (locs1 : List Loc), mm_w D cl A H0 (mm_up M a (.inr (ci, fs.set k v))) H1 locs1 → W p l e R s m args below meth c H1 locs1 cells slots Q (F0 m (pc + 3) ls rest)) : W p l e R s m args below meth c H locs cells slots Q (F0 m pc ls (v :: .ref a :: rest)) := by
  obtain ⟨i, hi⟩ := mm_ix hw.1 hc
  exact va_put S.1 S.2.1 S.2.2.2.2 hin ty0 hty hnm S.2.2.2.1 hK (mm_P hw.1) (mm_D hw.2.1) hw.2.2.1 i hi hcl k hk (S.2.2.2.2 _ hlink) (fun x h => by rw [hsame]; exact h) hfin hd hn hfit hl hdg (fun H1 locs1 hP1 _ hS1 => kk H1 locs1 (mm_set hw hi hP1 hS1))
theorem mm_putF (S : CallFix p m c cc nL s args Ts own) (hK : va_K D cl tys s) (hw : mm_w D cl A H0 M H locs) {C ref : String} {T : u_T} {N ci index : Nat} {fs : List Value} (hc : M a = some (.inr (ci, fs))) (hcl : cl[ci]? = some (C, T, N)) (hin : ∀ w ∈ u_ws C T N, w ∈ Ts) (ty0 : Nat → FieldType) (hty : ∀ k, k < N → parseFieldDescriptor (T k).2.2.1 = some (ty0 k)) (hnm : ∀ a, a < N → ∀ b, b < N → a ≠ b → (T a).2.1 ≠ (T b).2.1) (k : Nat) (hk : k < N) (hlink : Cond.fieldLink own index ref (T k).2.1 (T k).2.2.1 ∈ Ts) (hsame : ref = (T k).1) (hfin : (T k).2.2.2 = true) (hin2 : meth.name = "<init>") (hdecl : (T k).1 = own) {ty : FieldType} {v : Value} (hd : parseFieldDescriptor (T k).2.2.1 = some ty) (hn : narrow ty v = v) (hfit : fits ty v = true) (hl : k < fs.length) (hdg : decode cc pc = .ok (.putfield index, 3))
    (kk : ∀ (H1 : Heap) (locs1 : List Loc), mm_w D cl A H0 (mm_up M a (.inr (ci, fs.set k v))) H1 locs1 → W p l e R s m args below meth c H1 locs1 cells slots Q (F0 m (pc + 3) ls rest)) : W p l e R s m args below meth c H locs cells slots Q (F0 m pc ls (v :: .ref a :: rest)) := by
  obtain ⟨i, hi⟩ := mm_ix hw.1 hc
  exact va_putF S.1 S.2.1 S.2.2.2.2 hin ty0 hty hnm S.2.2.2.1 hK (mm_P hw.1) (mm_D hw.2.1) hw.2.2.1 i hi hcl k hk (S.2.2.2.2 _ hlink) (fun x h => by rw [hsame]; exact h) hfin hin2 hdecl hd hn hfit hl hdg (fun H1 locs1 hP1 _ hS1 => kk H1 locs1 (mm_set hw hi hP1 hS1))
theorem mm_iald (S : CallFix p m c cc nL s args Ts own) (hK : va_K D cl tys s) (hw : mm_w D cl A H0 M H locs) (t0 : Nat) {cA : ClassId} {n : Nat} {f : Nat → Int32} (ha : M a = some (.inl (cA, n, .inl f))) (ht : tys[t0]? = some (cA, .int)) {i : Int32} (hin : vp_in i n) (hdg : decode cc pc = .ok (.iaload, 1))
    (kk : W p l e R s m args below meth c H locs cells slots Q (F0 m (pc + 1) ls (.int (f i.toNatClampNeg) :: rest))) : W p l e R s m args below meth c H locs cells slots Q (F0 m pc ls (.int i :: .ref a :: rest)) := by
  obtain ⟨j, hj⟩ := mm_ix hw.1 ha
  exact va_iald S.1 S.2.1 hK (mm_P hw.1) j t0 hj ht hin hdg kk
theorem mm_zald (S : CallFix p m c cc nL s args Ts own) (hK : va_K D cl tys s) (hw : mm_w D cl A H0 M H locs) (t0 : Nat) {cA : ClassId} {n : Nat} {f : Nat → Int32} (ha : M a = some (.inl (cA, n, .inl f))) (ht : tys[t0]? = some (cA, .boolean)) {i : Int32} (hin : vp_in i n) (hdg : decode cc pc = .ok (.baload, 1))
    (kk : W p l e R s m args below meth c H locs cells slots Q (F0 m (pc + 1) ls (.int (f i.toNatClampNeg) :: rest))) : W p l e R s m args below meth c H locs cells slots Q (F0 m pc ls (.int i :: .ref a :: rest)) := by
  obtain ⟨j, hj⟩ := mm_ix hw.1 ha
  exact va_zald S.1 S.2.1 hK (mm_P hw.1) j t0 hj ht hin hdg kk
theorem mm_lald (S : CallFix p m c cc nL s args Ts own) (hK : va_K D cl tys s) (hw : mm_w D cl A H0 M H locs) (t0 : Nat) {cA : ClassId} {n : Nat} {f : Nat → Int64} (ha : M a = some (.inl (cA, n, .inr (.inl f)))) (ht : tys[t0]? = some (cA, .long)) {i : Int32} (hin : vp_in i n) (hdg : decode cc pc = .ok (.laload, 1))
    (kk : W p l e R s m args below meth c H locs cells slots Q (F0 m (pc + 1) ls (.long (f i.toNatClampNeg) :: rest))) : W p l e R s m args below meth c H locs cells slots Q (F0 m pc ls (.int i :: .ref a :: rest)) := by
  obtain ⟨j, hj⟩ := mm_ix hw.1 ha
  exact va_lald S.1 S.2.1 hK (mm_P hw.1) j t0 hj ht hin hdg kk
theorem mm_aldq (S : CallFix p m c cc nL s args Ts own) (hK : va_K D cl tys s) (hw : mm_w D cl A H0 M H locs) (t0 : Nat) {cA : ClassId} {C : String} {n : Nat} {f : Nat → Option Nat} (ha : M a = some (.inl (cA, n, .inr (.inr (.inr (.inr f)))))) (ht : tys[t0]? = some (cA, .object C)) {i : Int32} (hin : vp_in i n) (hdg : decode cc pc = .ok (.aaload, 1))
    (kk : W p l e R s m args below meth c H locs cells slots Q (F0 m (pc + 1) ls (va_rf (f i.toNatClampNeg) :: rest))) : W p l e R s m args below meth c H locs cells slots Q (F0 m pc ls (.int i :: .ref a :: rest)) := by
  obtain ⟨j, hj⟩ := mm_ix hw.1 ha
  exact va_aldq S.1 S.2.1 hK (mm_P hw.1) j t0 hj ht hin hdg kk
theorem mm_alen (S : CallFix p m c cc nL s args Ts own) (hK : va_K D cl tys s) (hw : mm_w D cl A H0 M H locs) (t0 : Nat) {cA : ClassId} {x : vp_A} (ha : M a = some (.inl (cA, x))) {ty : FieldType} (ht : tys[t0]? = some (cA, ty)) {v : Int32} (hv : Int32.ofNat x.1 = v) (hdg : decode cc pc = .ok (.arraylength, 1))
    (kk : W p l e R s m args below meth c H locs cells slots Q (F0 m (pc + 1) ls (.int v :: rest))) : W p l e R s m args below meth c H locs cells slots Q (F0 m pc ls (.ref a :: rest)) := by
  obtain ⟨j, hj⟩ := mm_ix hw.1 ha
  exact va_alen S.1 S.2.1 hK (mm_P hw.1) j t0 hj ht hv hdg kk
theorem mm_iast (S : CallFix p m c cc nL s args Ts own) (hK : va_K D cl tys s) (hw : mm_w D cl A H0 M H locs) (t0 : Nat) {cA : ClassId} {n : Nat} {f : Nat → Int32} (ha : M a = some (.inl (cA, n, .inl f))) (ht : tys[t0]? = some (cA, .int)) {i x : Int32} (hin : vp_in i n) (hdg : decode cc pc = .ok (.iastore, 1))
    (kk : ∀ (H1 : Heap) (locs1 : List Loc), mm_w D cl A H0 (mm_up M a (.inl (cA, n, .inl (upd f i.toNatClampNeg x)))) H1 locs1 → W p l e R s m args below meth c H1 locs1 cells slots Q (F0 m (pc + 1) ls rest)) : W p l e R s m args below meth c H locs cells slots Q (F0 m pc ls (.int x :: .int i :: .ref a :: rest)) := by
  obtain ⟨j, hj⟩ := mm_ix hw.1 ha
  exact va_iast S.1 S.2.1 hK (mm_P hw.1) (mm_D hw.2.1) hw.2.2.1 j t0 hj ht hin hdg (fun H1 locs1 hP1 _ hS1 => kk H1 locs1 (mm_set hw hj hP1 hS1))
theorem mm_last (S : CallFix p m c cc nL s args Ts own) (hK : va_K D cl tys s) (hw : mm_w D cl A H0 M H locs) (t0 : Nat) {cA : ClassId} {n : Nat} {f : Nat → Int64} (ha : M a = some (.inl (cA, n, .inr (.inl f)))) (ht : tys[t0]? = some (cA, .long)) {i : Int32} {x : Int64} (hin : vp_in i n) (hdg : decode cc pc = .ok (.lastore, 1))
    (kk : ∀ (H1 : Heap) (locs1 : List Loc), mm_w D cl A H0 (mm_up M a (.inl (cA, n, .inr (.inl (vp_updL f i.toNatClampNeg x))))) H1 locs1 → W p l e R s m args below meth c H1 locs1 cells slots Q (F0 m (pc + 1) ls rest)) : W p l e R s m args below meth c H locs cells slots Q (F0 m pc ls (.long x :: .int i :: .ref a :: rest)) := by
  obtain ⟨j, hj⟩ := mm_ix hw.1 ha
  exact va_last S.1 S.2.1 hK (mm_P hw.1) (mm_D hw.2.1) hw.2.2.1 j t0 hj ht hin hdg (fun H1 locs1 hP1 _ hS1 => kk H1 locs1 (mm_set hw hj hP1 hS1))
theorem mm_zast (S : CallFix p m c cc nL s args Ts own) (hK : va_K D cl tys s) (hw : mm_w D cl A H0 M H locs) (t0 : Nat) {cA : ClassId} {n : Nat} {f : Nat → Int32} (ha : M a = some (.inl (cA, n, .inl f))) (ht : tys[t0]? = some (cA, .boolean)) {i x : Int32} (hin : vp_in i n) (hx : vp_nar .boolean x = x) (hdg : decode cc pc = .ok (.bastore, 1))
    (kk : ∀ (H1 : Heap) (locs1 : List Loc), mm_w D cl A H0 (mm_up M a (.inl (cA, n, .inl (upd f i.toNatClampNeg x)))) H1 locs1 → W p l e R s m args below meth c H1 locs1 cells slots Q (F0 m (pc + 1) ls rest)) : W p l e R s m args below meth c H locs cells slots Q (F0 m pc ls (.int x :: .int i :: .ref a :: rest)) := by
  obtain ⟨j, hj⟩ := mm_ix hw.1 ha
  exact va_zast S.1 S.2.1 hK (mm_P hw.1) (mm_D hw.2.1) hw.2.2.1 j t0 hj ht hin hdg (fun H1 locs1 hP1 _ hS1 => kk H1 locs1 (mm_set hw hj (by rw [hx] at hP1; exact hP1) hS1))
theorem mm_astq (S : CallFix p m c cc nL s args Ts own) (hK : va_K D cl tys s) (hw : mm_w D cl A H0 M H locs) (t0 ci : Nat) {cA : ClassId} {r : vw_C} {n v : Nat} {vs : List Value} {f : Nat → Option Nat} (ha : M a = some (.inl (cA, n, .inr (.inr (.inr (.inr f)))))) (ht : tys[t0]? = some (cA, .object r.1)) (hv : M v = some (.inr (ci, vs))) (hc : cl[ci]? = some r) {i : Int32} (hin : vp_in i n) (hdg : decode cc pc = .ok (.aastore, 1))
    (kk : ∀ (H1 : Heap) (locs1 : List Loc), mm_w D cl A H0 (mm_up M a (.inl (cA, n, .inr (.inr (.inr (.inr (va_up f i.toNatClampNeg (some v)))))))) H1 locs1 → W p l e R s m args below meth c H1 locs1 cells slots Q (F0 m (pc + 1) ls rest)) : W p l e R s m args below meth c H locs cells slots Q (F0 m pc ls (.ref v :: .int i :: .ref a :: rest)) := by
  obtain ⟨j, hj⟩ := mm_ix hw.1 ha
  obtain ⟨jv, hjv⟩ := mm_ix hw.1 hv
  exact va_astq S.1 S.2.1 hK (mm_P hw.1) (mm_D hw.2.1) hw.2.2.1 j t0 jv ci hj ht hjv hc hin hdg (fun H1 locs1 hP1 _ hS1 => kk H1 locs1 (mm_set hw hj hP1 hS1))
theorem mm_new (S : CallFix p m c cc nL s args Ts own) (hK : va_K D cl tys s) (hw : mm_w D cl A H0 M H locs) {C : String} {T : u_T} {N ci index : Nat} (hcl : cl[ci]? = some (C, T, N)) (hin : ∀ w ∈ u_ws C T N, w ∈ Ts) (ty : Nat → FieldType) (hty : ∀ k, k < N → parseFieldDescriptor (T k).2.2.1 = some (ty k)) (hli : Cond.classLink own index C ∈ Ts) (hinst : Cond.instantiable C N ∈ Ts) (hini : Cond.initialized C ∈ Ts) {fs : List Value} (hfs : ∀ j, j < N → defaultValue (ty j) = vp_V fs j) (hcells : cells + 1 ≤ R.cells) (hslots : slots + N ≤ R.slots) (hdg : decode cc pc = .ok (.new index, 3))
    (kk : ∀ (q : Nat) (H1 : Heap), M q = none → mm_w D cl A H0 (mm_up M q (.inr (ci, fs))) H1 locs → W p l e R s m args below meth c H1 locs (cells + 1) (slots + N) Q (F0 m (pc + 3) ls (.ref q :: rest))) : W p l e R s m args below meth c H locs cells slots Q (F0 m pc ls rest) :=
  va_new S.1 S.2.1 S.2.2.2.2 hin ty hty S.2.2.2.1 (S.2.2.2.2 _ hli) (S.2.2.2.2 _ hinst) (S.2.2.2.2 _ hini) hK (mm_P hw.1) (mm_D hw.2.1) hw.2.2.1 hw.2.2.2 hcl hfs hcells hslots hdg (fun q H1 hP1 hD1 hS1 => by
    obtain ⟨h1, h2⟩ := mm_push hw hP1 hD1 hS1
    exact kk q H1 h1 h2)
/-- a new array of numbers: its class is the one that the tables name -/
theorem mm_newa (S : CallFix p m c cc nL s args Ts own) (hK : va_K D cl tys s) (hw : mm_w D cl A H0 M H locs) (t0 : Nat) {cA : ClassId} {atype : ArrayType} {ty : FieldType} (harr : Cond.arrayClass (newarray.typeOf atype) ∈ Ts) (hty : newarray.typeOf atype = ty) (ht : tys[t0]? = some (cA, ty)) (hfc : s.vm.findClass ("[" ++ ty.toString) = some cA)
    {n : Int32} {N' : Nat} {a0 : vp_A} (ha : ∀ cA : ClassId, vp_cell cA a0 = arrV cA N' (fun _ => defaultValue ty)) (hn : ¬ n < 0) (hN : n.toNatClampNeg = N') (hbytes : N' * componentBytes ty ≤ 536870912) (hcells : cells + 1 ≤ R.cells) (hslots : slots + N' ≤ R.slots) (hprim : ∀ C : String, ty ≠ .object C) (hdg : decode cc pc = .ok (.newarray atype, 2))
    (kk : ∀ (q : Nat) (H1 : Heap), M q = none → mm_w D cl A H0 (mm_up M q (.inl (cA, a0))) H1 locs → W p l e R s m args below meth c H1 locs (cells + 1) (slots + N') Q (F0 m (pc + 2) ls (.ref q :: rest))) : W p l e R s m args below meth c H locs cells slots Q (F0 m pc ls (.int n :: rest)) :=
  va_newa S.1 S.2.1 (S.2.2.2.2 _ harr) hty hK (mm_P hw.1) (mm_D hw.2.1) hw.2.2.1 hw.2.2.2 ha hn hN hbytes hcells hslots hdg (fun q cA' H1 hK1 hP1 hD1 hS1 => by
    have h9 := (hK1.2 tys.length (cA', ty) (by rw [List.getElem?_append_right (Nat.le_refl _), Nat.sub_self]; rfl)).2
    have hcc : cA' = cA := by
      have h10 : s.vm.findClass ("[" ++ ty.toString) = some cA' := by
        cases ty with
        | object C => exact absurd rfl (hprim C)
        | _ => exact h9
      exact Option.some.inj (h10.symm.trans hfc)
    subst hcc
    obtain ⟨h1, h2⟩ := mm_push hw hP1 hD1 hS1
    exact kk q H1 h1 h2)
theorem mm_newq (S : CallFix p m c cc nL s args Ts own) (hK : va_K D cl tys s) (hw : mm_w D cl A H0 M H locs) (t0 : Nat) {cA : ClassId} {C : String} {index : Nat} (hli : Cond.classLink own index C ∈ Ts) (hover : va_AO C s) (ht : tys[t0]? = some (cA, .object C))
    {n : Int32} {N' : Nat} (hn : ¬ n < 0) (hN : n.toNatClampNeg = N') (hbytes : N' * 4 ≤ 536870912) (hcells : cells + 1 ≤ R.cells) (hslots : slots + N' ≤ R.slots) (hdg : decode cc pc = .ok (.anewarray index, 3))
    (kk : ∀ (q : Nat) (H1 : Heap), M q = none → mm_w D cl A H0 (mm_up M q (.inl (cA, N', .inr (.inr (.inr (.inr (fun _ => none))))))) H1 locs → W p l e R s m args below meth c H1 locs (cells + 1) (slots + N') Q (F0 m (pc + 3) ls (.ref q :: rest))) : W p l e R s m args below meth c H locs cells slots Q (F0 m pc ls (.int n :: rest)) :=
  va_newq S.1 S.2.1 S.2.2.2.1 (S.2.2.2.2 _ hli) hover hK (mm_P hw.1) (mm_D hw.2.1) hw.2.2.1 hw.2.2.2 hn hN hbytes hcells hslots hdg (fun q cA' H1 hK1 hP1 hD1 hS1 => by
    obtain ⟨_, _, _, _, _, h9⟩ := (hK1.2 tys.length (cA', .object C) (by rw [List.getElem?_append_right (Nat.le_refl _), Nat.sub_self]; rfl)).2
    obtain ⟨_, _, _, _, _, h10⟩ := (hK.2 t0 _ ht).2
    have hcc : cA' = cA := Option.some.inj (h9.symm.trans h10)
    subst hcc
    obtain ⟨h1, h2⟩ := mm_push hw hP1 hD1 hS1
    exact kk q H1 h1 h2)
end MMR
/-! contracts: a method is given the whole memory M, and leaves the whole memory M' -/
def mm_A (M : mm_M) (sz : Nat) : Nat → Prop := fun q => (∃ e, M q = some e) ∨ sz ≤ q
/-- what the tables say beside the good words: arrays over own classes, links to nest mates -/
def nw_ok (U : State) : Prop := (va_AO "AbendRows$Level" U ∧ va_AO "AbendRows$Guard" U ∧ va_AO "AbendRows$Dump" U) ∧ va_Nw (.methodLinkNest "AbendRows" 17 ⟨"AbendRows$Search", "<init>", "()V"⟩ "AbendRows") U ∧ va_Nw (.methodLinkNest "AbendRows" 38 ⟨"AbendRows$DumpRow", "<init>", "()V"⟩ "AbendRows") U ∧ va_Nw (.methodLinkNest "AbendRows" 45 ⟨"AbendRows$CodeSet", "<init>", "()V"⟩ "AbendRows") U ∧ va_Nw (.methodLinkNest "AbendRows" 52 ⟨"AbendRows$CodeLog", "<init>", "()V"⟩ "AbendRows") U ∧ va_Nw (.methodLinkNest "AbendRows$CodeSet" 15 ⟨"AbendRows", "isCode", "(I)Z"⟩ "AbendRows") U
theorem nw_call {U : State} {g : JFrame} {mk : MethodId} {a : Array Value} (h : nw_ok U) : nw_ok (U.calling g mk a) := ⟨⟨va_AO.moved (u := U) (Vm.Alike.refl U.vm) h.1.1, va_AO.moved (u := U) (Vm.Alike.refl U.vm) h.1.2.1, va_AO.moved (u := U) (Vm.Alike.refl U.vm) h.1.2.2⟩, va_Nw.same rfl rfl h.2.1, va_Nw.same rfl rfl h.2.2.1, va_Nw.same rfl rfl h.2.2.2.1, va_Nw.same rfl rfl h.2.2.2.2.1, va_Nw.same rfl rfl h.2.2.2.2.2⟩
theorem nw_warm {s U : State} (hW : s.WarmedH U.vm) (h : nw_ok s) : nw_ok U := ⟨⟨va_AO.moved hW.alike h.1.1, va_AO.moved hW.alike h.1.2.1, va_AO.moved hW.alike h.1.2.2⟩, va_Nw.warmM hW h.2.1, va_Nw.warmM hW h.2.2.1, va_Nw.warmM hW h.2.2.2.1, va_Nw.warmM hW h.2.2.2.2.1, va_Nw.warmM hW h.2.2.2.2.2⟩
def mm_K (D : va_G) (cl : List vw_C) (tys : List (ClassId × FieldType)) (U : State) : Prop := va_K D cl tys U ∧ nw_ok U
def mm_pre (D : va_G) (cl : List vw_C) (tys : List (ClassId × FieldType)) (M : mm_M) (sz : Nat) (U : State) : Prop := U.heap.size = sz ∧ mm_K D cl tys U ∧ mm_has D cl M U.heap
def mm_pos (D : va_G) (cl : List vw_C) (M : mm_M) (sz : Nat) (M' : mm_M) (t : State) : Prop := mm_has D cl M' t.heap ∧ ∀ (q : Nat) (e : va_E), M' q = some e → mm_A M sz q
def mm_Ci (l : Launch) (y : MethodName) (ws : List Cond) (rm : Room) (mc ms : Nat) (D : va_G) (cl : List vw_C) (tys : List (ClassId × FieldType)) (av : List Value) (M : mm_M) (post : Int32 → mm_M → Prop) : Prop := ∀ sz : Nat, Met l y ws rm (va_Pc av (mm_pre D cl tys M sz)) (va_Qi post (mm_pos D cl M sz) (mm_A M sz)) mc ms (mm_A M sz)
def mm_Cq (l : Launch) (y : MethodName) (ws : List Cond) (rm : Room) (mc ms : Nat) (D : va_G) (cl : List vw_C) (tys : List (ClassId × FieldType)) (av : List Value) (M : mm_M) (post : Option Nat → mm_M → Prop) : Prop := ∀ sz : Nat, Met l y ws rm (va_Pc av (mm_pre D cl tys M sz)) (va_Qq post (mm_pos D cl M sz) (mm_A M sz)) mc ms (mm_A M sz)
def mm_Cl (l : Launch) (y : MethodName) (ws : List Cond) (rm : Room) (mc ms : Nat) (D : va_G) (cl : List vw_C) (tys : List (ClassId × FieldType)) (av : List Value) (M : mm_M) (post : Int64 → mm_M → Prop) : Prop := ∀ sz : Nat, Met l y ws rm (va_Pc av (mm_pre D cl tys M sz)) (va_Ql post (mm_pos D cl M sz) (mm_A M sz)) mc ms (mm_A M sz)
def mm_Cv (l : Launch) (y : MethodName) (ws : List Cond) (rm : Room) (mc ms : Nat) (D : va_G) (cl : List vw_C) (tys : List (ClassId × FieldType)) (av : List Value) (M : mm_M) (post : mm_M → Prop) : Prop := ∀ sz : Nat, Met l y ws rm (va_Pc av (mm_pre D cl tys M sz)) (va_Qv post (mm_pos D cl M sz) (mm_A M sz)) mc ms (mm_A M sz)
theorem mm_blind {D : va_G} {cl : List vw_C} {tys : List (ClassId × FieldType)} {av : List Value} {M : mm_M} {sz : Nat} : FrameBlind (va_Pc av (mm_pre D cl tys M sz)) := fun a U g mk q => ⟨q.1, q.2.1, ⟨va_K.moved (u := U) (U := U.calling g mk a) (Vm.Alike.refl U.vm) q.2.2.1.1, nw_call q.2.2.1.2⟩, q.2.2.2⟩
section MMC
variable {p : Program} {l : Launch} {e : Env} {R : Room} {s : State} {m : MethodId} {args : Array Value} {below : List Frame} {meth : Method} {c : Code} {H : Heap} {locs : List Loc} {cells slots : Nat} {Q : State → Prop}
variable {pc : Nat} {ls : Array Slot} {rest st0 : List Value} {D : va_G} {cl : List vw_C} {A : Nat → Prop} {tys : List (ClassId × FieldType)} {M : mm_M} {H0 : Heap} {mc ms : Nat} {av : Array Value}
theorem mm_preS {As : List Value} (hK : mm_K D cl tys s) (hw : mm_w D cl A H0 M H locs) : PreS s H (va_Pc As (mm_pre D cl tys M H.size)) As := ⟨mm_blind, fun U hU hW => ⟨rfl, by rw [hU], ⟨va_K.moved hW.alike hK.1, nw_warm hW hK.2⟩, by rw [hU]; exact hw.1⟩⟩
theorem mm_preV {As : List Value} {b ci : Nat} {C : String} {T : u_T} {N : Nat} {fs : List Value} (hK : mm_K D cl tys s) (hw : mm_w D cl A H0 M H locs) (hc : M b = some (.inr (ci, fs))) (hcl : cl[ci]? = some (C, T, N)) : PreV s H C b (va_Pc (.ref b :: As) (mm_pre D cl tys M H.size)) As := by
  obtain ⟨k, hk⟩ := mm_ix hw.1 hc
  exact ⟨mm_blind, va_recv (q := (C, T, N)) hK.1 (mm_P hw.1) hcl hk, fun U hU hW => ⟨rfl, by rw [hU], ⟨va_K.moved hW.alike hK.1, nw_warm hW hK.2⟩, by rw [hU]; exact hw.1⟩⟩
theorem mm_sub (hw : mm_w D cl A H0 M H locs) : ∀ q, mm_A M H.size q → A q := fun q h => by
  rcases h with ⟨e, h⟩ | h
  · exact hw.2.1 q e h
  · exact hw.2.2.2 q (Nat.le_trans hw.2.2.1.1 h)
theorem mm_aft {M' : mm_M} {H1 : Heap} {locs1 : List Loc} {t : State} (hw : mm_w D cl A H0 M H locs) (ht : t.heap = H1) (hB : mm_pos D cl M H.size M' t) (hS : va_S A H0 H1 locs1) : mm_w D cl A H0 M' H1 locs1 := ⟨by rw [← ht]; exact hB.1, fun q e h => mm_sub hw q (hB.2 q e h), hS, hw.2.2.2⟩
theorem mm_calli {post : Int32 → mm_M → Prop} (hw : mm_w D cl A H0 M H locs) (hr : va_Run p l e R s m args below meth c H locs cells slots mc ms (F0 m pc ls st0) rest (va_Qi post (mm_pos D cl M H.size) (mm_A M H.size) av) (mm_A M H.size))
    (kk : ∀ (r : Int32) (M' : mm_M) (H1 : Heap) (locs1 : List Loc), post r M' → mm_w D cl A H0 M' H1 locs1 → W p l e R s m args below meth c H1 locs1 (cells + mc) (slots + ms) Q (F0 m (pc + 3) ls (.int r :: rest))) : W p l e R s m args below meth c H locs cells slots Q (F0 m pc ls st0) :=
  va_calli hr hw.2.2.1 (fun q _ h => mm_sub hw q h) (mm_sub hw) (fun r M' t H1 locs1 ht _ hp hB _ _ hS => kk r M' H1 locs1 hp (mm_aft hw ht hB hS))
theorem mm_calll {post : Int64 → mm_M → Prop} (hw : mm_w D cl A H0 M H locs) (hr : va_Run p l e R s m args below meth c H locs cells slots mc ms (F0 m pc ls st0) rest (va_Ql post (mm_pos D cl M H.size) (mm_A M H.size) av) (mm_A M H.size))
    (kk : ∀ (r : Int64) (M' : mm_M) (H1 : Heap) (locs1 : List Loc), post r M' → mm_w D cl A H0 M' H1 locs1 → W p l e R s m args below meth c H1 locs1 (cells + mc) (slots + ms) Q (F0 m (pc + 3) ls (.long r :: rest))) : W p l e R s m args below meth c H locs cells slots Q (F0 m pc ls st0) :=
  va_calll hr hw.2.2.1 (fun q _ h => mm_sub hw q h) (mm_sub hw) (fun r M' t H1 locs1 ht _ hp hB _ _ hS => kk r M' H1 locs1 hp (mm_aft hw ht hB hS))
theorem mm_callq {post : Option Nat → mm_M → Prop} (hw : mm_w D cl A H0 M H locs) (hr : va_Run p l e R s m args below meth c H locs cells slots mc ms (F0 m pc ls st0) rest (va_Qq post (mm_pos D cl M H.size) (mm_A M H.size) av) (mm_A M H.size))
    (kk : ∀ (r : Option Nat) (M' : mm_M) (H1 : Heap) (locs1 : List Loc), post r M' → mm_w D cl A H0 M' H1 locs1 → W p l e R s m args below meth c H1 locs1 (cells + mc) (slots + ms) Q (F0 m (pc + 3) ls (va_rf r :: rest))) : W p l e R s m args below meth c H locs cells slots Q (F0 m pc ls st0) :=
  va_callq hr hw.2.2.1 (fun q _ h => mm_sub hw q h) (mm_sub hw) (fun r M' t H1 locs1 ht _ hp hB _ _ hS => kk r M' H1 locs1 hp (mm_aft hw ht hB hS))
theorem mm_callv {post : mm_M → Prop} (hw : mm_w D cl A H0 M H locs) (hr : va_Run p l e R s m args below meth c H locs cells slots mc ms (F0 m pc ls st0) rest (va_Qv post (mm_pos D cl M H.size) (mm_A M H.size) av) (mm_A M H.size))
    (kk : ∀ (M' : mm_M) (H1 : Heap) (locs1 : List Loc), post M' → mm_w D cl A H0 M' H1 locs1 → W p l e R s m args below meth c H1 locs1 (cells + mc) (slots + ms) Q (F0 m (pc + 3) ls rest)) : W p l e R s m args below meth c H locs cells slots Q (F0 m pc ls st0) :=
  va_callv hr hw.2.2.1 (fun q _ h => mm_sub hw q h) (mm_sub hw) (fun M' t H1 locs1 ht _ hp hB _ _ hS => kk M' H1 locs1 hp (mm_aft hw ht hB hS))
/-- a method's entry -/
theorem mm_in {U : State} {sz : Nat} (h : mm_pre D cl tys M sz U) : mm_w D cl (mm_A M sz) U.heap M U.heap [] := ⟨h.2.2, fun a e h => Or.inl ⟨e, h⟩, va_S.rf, fun q h2 => Or.inr (by rw [← h.1]; exact h2)⟩
variable {cc : ByteArray} {sz : Nat} {M' : mm_M}
theorem mm_reti {post : Int32 → mm_M → Prop} {v : Int32} (hx : p.tables.exec = Jvm.exec) (hb : c.code = cc) (hr : meth.sig.returnType = some .int) (hlocks : meth.locks = false) {mc ms : Nat} {A : Nat → Prop} {Q : State → Prop} (hA : A = mm_A M sz) (hQ : Q = MQ below (va_Qi post (mm_pos D cl M sz) (mm_A M sz)) args s mc ms (mm_A M sz)) (hw : mm_w D cl A s.heap M' H locs) (hp : post v M') (h1 : cells ≤ mc) (h2 : slots ≤ ms) (hdg : decode cc pc = .ok (.ireturn, 1)) : W p l e R s m args below meth c H locs cells slots Q (F0 m pc ls [.int v]) := by
  subst hA; subst hQ
  exact W.widen h1 h2 (W.iret hx hb hr (fun t ht _ => ⟨⟨v, M', rfl, hp, by rw [ht]; exact hw.1, hw.2.1⟩, hw.2.2.1.F ht⟩) hw.2.2.1.2.2 hdg hlocks)
theorem mm_retz {post : Int32 → mm_M → Prop} {v : Int32} (hx : p.tables.exec = Jvm.exec) (hb : c.code = cc) (hr : meth.sig.returnType = some .boolean) (hlocks : meth.locks = false) {mc ms : Nat} {A : Nat → Prop} {Q : State → Prop} (hA : A = mm_A M sz) (hQ : Q = MQ below (va_Qi post (mm_pos D cl M sz) (mm_A M sz)) args s mc ms (mm_A M sz)) (hw : mm_w D cl A s.heap M' H locs) (hn : narrow .boolean (.int v) = .int v) (hp : post v M') (h1 : cells ≤ mc) (h2 : slots ≤ ms) (hdg : decode cc pc = .ok (.ireturn, 1)) : W p l e R s m args below meth c H locs cells slots Q (F0 m pc ls [.int v]) := by
  subst hA; subst hQ
  exact W.widen h1 h2 (W.zret hx hb hr hn (fun t ht _ => ⟨⟨v, M', rfl, hp, by rw [ht]; exact hw.1, hw.2.1⟩, hw.2.2.1.F ht⟩) hw.2.2.1.2.2 hdg hlocks)
theorem mm_retl {post : Int64 → mm_M → Prop} {v : Int64} (hx : p.tables.exec = Jvm.exec) (hb : c.code = cc) (hr : meth.sig.returnType = some .long) (hlocks : meth.locks = false) {mc ms : Nat} {A : Nat → Prop} {Q : State → Prop} (hA : A = mm_A M sz) (hQ : Q = MQ below (va_Ql post (mm_pos D cl M sz) (mm_A M sz)) args s mc ms (mm_A M sz)) (hw : mm_w D cl A s.heap M' H locs) (hp : post v M') (h1 : cells ≤ mc) (h2 : slots ≤ ms) (hdg : decode cc pc = .ok (.lreturn, 1)) : W p l e R s m args below meth c H locs cells slots Q (F0 m pc ls [.long v]) := by
  subst hA; subst hQ
  exact W.widen h1 h2 (W.lret hx hb hr (fun t ht _ => ⟨⟨v, M', rfl, hp, by rw [ht]; exact hw.1, hw.2.1⟩, hw.2.2.1.F ht⟩) hw.2.2.1.2.2 hdg hlocks)
theorem mm_retq {post : Option Nat → mm_M → Prop} {v : Option Nat} {n : String} (hx : p.tables.exec = Jvm.exec) (hb : c.code = cc) (hr : meth.sig.returnType = some (.object n)) (hlocks : meth.locks = false) {mc ms : Nat} {A : Nat → Prop} {Q : State → Prop} (hA : A = mm_A M sz) (hQ : Q = MQ below (va_Qq post (mm_pos D cl M sz) (mm_A M sz)) args s mc ms (mm_A M sz)) (hw : mm_w D cl A s.heap M' H locs) (hp : post v M') (h1 : cells ≤ mc) (h2 : slots ≤ ms) (hdg : decode cc pc = .ok (.areturn, 1)) : W p l e R s m args below meth c H locs cells slots Q (F0 m pc ls [va_rf v]) := by
  subst hA; subst hQ
  exact W.widen h1 h2 (W.aret hx hb hr (Or.inl ⟨n, rfl⟩) (va_rf_or v) (fun t ht _ => ⟨⟨v, M', rfl, hp, by rw [ht]; exact hw.1, hw.2.1⟩, hw.2.2.1.F ht⟩) hw.2.2.1.2.2 hdg hlocks)
theorem mm_retv {post : mm_M → Prop} (hx : p.tables.exec = Jvm.exec) (hb : c.code = cc) (hr : meth.sig.returnType = none) (hlocks : meth.locks = false) {mc ms : Nat} {A : Nat → Prop} {Q : State → Prop} (hA : A = mm_A M sz) (hQ : Q = MQ below (va_Qv post (mm_pos D cl M sz) (mm_A M sz)) args s mc ms (mm_A M sz)) (hw : mm_w D cl A s.heap M' H locs) (hp : post M') (h1 : cells ≤ mc) (h2 : slots ≤ ms) (hdg : decode cc pc = .ok (.return_, 1)) : W p l e R s m args below meth c H locs cells slots Q (F0 m pc ls []) := by
  subst hA; subst hQ
  exact W.widen h1 h2 (W.vret hx hb hr (fun t ht _ => ⟨⟨M', rfl, hp, by rw [ht]; exact hw.1, hw.2.1⟩, hw.2.2.1.F ht⟩) hw.2.2.1.2.2 hdg hlocks)
end MMC
section MM2
variable {p : Program} {l : Launch} {e : Env} {R : Room} {s : State} {m : MethodId} {args : Array Value} {below : List Frame} {meth : Method} {c : Code} {H : Heap} {locs : List Loc} {cells slots : Nat} {Q : State → Prop}
variable {pc : Nat} {ls : Array Slot} {rest st0 : List Value} {D : va_G} {cl : List vw_C} {A : Nat → Prop} {tys : List (ClassId × FieldType)} {M N : mm_M} {H0 : Heap} {mc ms : Nat} {av : Array Value}
/-- beside a call's memory another one, of other cells: it stays -/
theorem mm_side {M' : mm_M} {H1 : Heap} {locs1 : List Loc} {t : State} (hw : mm_w D cl A H0 M H locs) (hn : mm_w D cl A H0 N H locs) (hd : ∀ (q : Nat) (e : va_E), N q = some e → M q = none) (ht : t.heap = H1) (hB : mm_pos D cl M H.size M' t) (hk : ∀ q : Nat, q < H.size → ¬ mm_A M H.size q → H1[q]? = H[q]?) (hS : va_S A H0 H1 locs1) : mm_w D cl A H0 N H1 locs1 ∧ ∀ (q : Nat) (e : va_E), N q = some e → M' q = none := by
  have hlt : ∀ (q : Nat) (e : va_E), N q = some e → q < H.size ∧ ¬ mm_A M H.size q := fun q e h => by
    have h1 : q < H.size := (hn.1 q e h).lt
    refine ⟨h1, fun h2 => ?_⟩
    rcases h2 with ⟨x, h2⟩ | h2
    · rw [hd q e h] at h2; cases h2
    · omega
  refine ⟨⟨fun q e h => (hn.1 q e h).kept (hk q (hlt q e h).1 (hlt q e h).2), hn.2.1, hS, hn.2.2.2⟩, fun q e h => ?_⟩
  cases hM : M' q with
  | none => rfl
  | some x => exact absurd (hB.2 q x hM) (hlt q e h).2
theorem mm_calli2 {post : Int32 → mm_M → Prop} (hw : mm_w D cl A H0 M H locs) (hn : mm_w D cl A H0 N H locs) (hd : ∀ (q : Nat) (e : va_E), N q = some e → M q = none) (hr : va_Run p l e R s m args below meth c H locs cells slots mc ms (F0 m pc ls st0) rest (va_Qi post (mm_pos D cl M H.size) (mm_A M H.size) av) (mm_A M H.size))
    (kk : ∀ (r : Int32) (M' : mm_M) (H1 : Heap) (locs1 : List Loc), post r M' → mm_w D cl A H0 M' H1 locs1 → mm_w D cl A H0 N H1 locs1 → (∀ (q : Nat) (e : va_E), N q = some e → M' q = none) → W p l e R s m args below meth c H1 locs1 (cells + mc) (slots + ms) Q (F0 m (pc + 3) ls (.int r :: rest))) : W p l e R s m args below meth c H locs cells slots Q (F0 m pc ls st0) :=
  va_calli hr hw.2.2.1 (fun q _ h => mm_sub hw q h) (mm_sub hw) (fun r M' t H1 locs1 ht _ hp hB _ hk hS => by
    obtain ⟨h1, h2⟩ := mm_side hw hn hd ht hB hk hS
    exact kk r M' H1 locs1 hp (mm_aft hw ht hB hS) h1 h2)
theorem mm_callv2 {post : mm_M → Prop} (hw : mm_w D cl A H0 M H locs) (hn : mm_w D cl A H0 N H locs) (hd : ∀ (q : Nat) (e : va_E), N q = some e → M q = none) (hr : va_Run p l e R s m args below meth c H locs cells slots mc ms (F0 m pc ls st0) rest (va_Qv post (mm_pos D cl M H.size) (mm_A M H.size) av) (mm_A M H.size))
    (kk : ∀ (M' : mm_M) (H1 : Heap) (locs1 : List Loc), post M' → mm_w D cl A H0 M' H1 locs1 → mm_w D cl A H0 N H1 locs1 → (∀ (q : Nat) (e : va_E), N q = some e → M' q = none) → W p l e R s m args below meth c H1 locs1 (cells + mc) (slots + ms) Q (F0 m (pc + 3) ls rest)) : W p l e R s m args below meth c H locs cells slots Q (F0 m pc ls st0) :=
  va_callv hr hw.2.2.1 (fun q _ h => mm_sub hw q h) (mm_sub hw) (fun M' t H1 locs1 ht _ hp hB _ hk hS => by
    obtain ⟨h1, h2⟩ := mm_side hw hn hd ht hB hk hS
    exact kk M' H1 locs1 hp (mm_aft hw ht hB hS) h1 h2)
end MM2
end
section
/-! THE SYSTEM'S TABLES, a method's start, calls -/
abbrev tyL (dA : Nat → ClassId) : List (ClassId × FieldType) := [(dA 0, .int), (dA 1, .long), (dA 2, .boolean), (dA 3, .object "AbendRows$Level"), (dA 4, .object "AbendRows$Guard"), (dA 5, .object "AbendRows$Dump")]
theorem mm_start {l : Launch} {y : MethodName} {b : ByteArray} {maxL mc ms : Nat} {ret : Option FieldType} {rm : Room} {D : va_G} {tys : List (ClassId × FieldType)} {av : List Value} {M : mm_M} {sz : Nat} {Qc : Array Value → State → Outcome → State → Prop} {free : Addr → Prop} (hy : plainName y.cls = true) (hlen : (lg_sl av).length ≤ maxL)
    (body : ∀ (p : Program) (e : Env) (s : State) (m : MethodId) (below : List Frame) (meth : Method) (c : Code) (A : Nat → Prop) (Q : State → Prop) (ls : Array Slot), A = mm_A M sz → Q = MQ below Qc av.toArray s mc ms free → CallFix p m c b maxL s av.toArray gt_l y.cls → meth.sig.returnType = ret → meth.locks = false → meth.name = y.name → mm_K D vC tys s → mm_w D vC A s.heap M s.heap [] → lv_has ls maxL (lv_args 0 av) → W p l e rm s m av.toArray below meth c s.heap [] 0 0 Q (F0 m 0 ls [])) : Met l y (.code y b maxL ret :: gt_l) rm (va_Pc av (mm_pre D vC tys M sz)) Qc mc ms free := by
  refine Met.ofW (cc := b) (maxL := maxL) (ret := ret) hy rfl ?_
  intro p e s m args below meth c s₁ B hml hv
  obtain ⟨rfl, hpre⟩ := hv
  have hts := atoms_spec (ws := (.code y b maxL ret :: gt_l)) B.pre
  have hl := lv_entry av (n := maxL) hlen
  rw [lg_entry_eq]
  exact body p e s m below meth c _ _ _ rfl rfl ⟨B.exec, B.bytes, hml, findClass_of_methodNamed B.named, fun w h => hts w (List.mem_cons_of_mem _ h)⟩ B.returns B.notSynchronized (name_of_methodNamed B.named B.method).1 hpre.2.1 (mm_in hpre) hl
def mm_nm (y : MethodName) (n : Nat) : Prop := y.cls ≠ "java/lang/invoke/MethodHandle" ∧ y.cls ≠ "java/lang/invoke/VarHandle" ∧ (parseMethodDescriptor y.desc).map (fun d => d.parameters.length) = some n
def mm_V (C : String) (y : MethodName) (b : ByteArray) (maxL : Nat) (ret : Option FieldType) (n : Nat) : Prop := (Cond.code y b maxL ret ∈ gt_l ∧ Cond.instanceMethod y ∈ gt_l ∧ Cond.selects C y y ∈ gt_l ∧ Cond.initialized y.cls ∈ gt_l) ∧ mm_nm y n
def mm_S (y : MethodName) (b : ByteArray) (maxL : Nat) (ret : Option FieldType) (n : Nat) : Prop := (Cond.code y b maxL ret ∈ gt_l ∧ Cond.static y ∈ gt_l ∧ Cond.initialized y.cls ∈ gt_l) ∧ mm_nm y n
def mm_I (y : MethodName) (b : ByteArray) (maxL : Nat) (n : Nat) : Prop := (Cond.code y b maxL none ∈ gt_l ∧ Cond.instanceMethod y ∈ gt_l ∧ Cond.initialized y.cls ∈ gt_l ∧ y.name = "<init>") ∧ mm_nm y n
def mm_rm (rm R : Room) (maxL mc ms cells slots : Nat) : Prop := rm.cells = mc ∧ rm.slots = ms ∧ rm.frames + 1 ≤ R.frames ∧ 8 + (maxL + 11) + rm.locals ≤ R.locals ∧ cells + mc ≤ R.cells ∧ slots + ms ≤ R.slots
section MRUN
variable {p : Program} {l : Launch} {e : Env} {R : Room} {s : State} {m : MethodId} {args : Array Value} {below : List Frame} {meth : Method} {c : Code} {H : Heap} {locs : List Loc} {cells slots : Nat} {Q : State → Prop}
variable {cc : ByteArray} {pc nL : Nat} {ls : Array Slot} {rest st0 : List Value} {D : va_G} {cl : List vw_C} {A : Nat → Prop} {tys : List (ClassId × FieldType)} {M : mm_M} {H0 : Heap} {own : String}
variable {y : MethodName} {b : ByteArray} {maxL mc ms n index : Nat} {ret : Option FieldType} {rm : Room} {Qc : Array Value → State → Outcome → State → Prop} {free : Addr → Prop} {As : List Value} {a : Nat}
theorem mm_runV {ci N : Nat} {C : String} {T : u_T} {fs : List Value} (S : CallFix p m c cc nL s args gt_l own) (hK : mm_K D cl tys s) (hw : mm_w D cl A H0 M H locs) (hM : Met l y (.code y b maxL ret :: gt_l) rm (va_Pc (.ref a :: As) (mm_pre D cl tys M H.size)) Qc mc ms free) (hB : mm_V C y b maxL ret n) (hl : Cond.methodLink own index y ∈ gt_l) (hc : M a = some (.inr (ci, fs))) (hcl : cl[ci]? = some (C, T, N)) (hrm : mm_rm rm R maxL mc ms cells slots) (hsz : ls.size = nL) (hst : st0 = As.reverse ++ .ref a :: rest) (hn : As.length = n) (hcat : (rest.map fun v => v.category).sum ≤ 8) (hdg : decode cc pc = .ok (.invokevirtual index, 3)) :
    va_Run p l e R s m args below meth c H locs cells slots mc ms (F0 m pc ls st0) rest (Qc (Value.ref a :: As).toArray) free :=
  va_runV (C := C) (As := As) (rest := rest) S hM ⟨callB_of (Ts := gt_l) n S.2.2.2.2 (gt_gd hB.1.1) rfl hrm.1 hrm.2.1 (S.2.2.2.2 _ hB.1.2.2.2) (S.2.2.2.2 _ hl) hB.2 ⟨hrm.2.2.1, hrm.2.2.2.1⟩, S.2.2.2.2 _ hB.1.2.1, S.2.2.2.2 _ hB.1.2.2.1⟩ (mm_preV hK hw hc hcl) rfl hn hsz hst (lv_room hcat) hdg hrm.2.2.2.2
theorem mm_runS (S : CallFix p m c cc nL s args gt_l own) (hK : mm_K D cl tys s) (hw : mm_w D cl A H0 M H locs) (hM : Met l y (.code y b maxL ret :: gt_l) rm (va_Pc As (mm_pre D cl tys M H.size)) Qc mc ms free) (hB : mm_S y b maxL ret n) (hl : Cond.methodLink own index y ∈ gt_l) (hrm : mm_rm rm R maxL mc ms cells slots) (hsz : ls.size = nL) (hst : st0 = As.reverse ++ rest) (hn : As.length = n) (hcat : (rest.map fun v => v.category).sum ≤ 8) (hdg : decode cc pc = .ok (.invokestatic index, 3)) :
    va_Run p l e R s m args below meth c H locs cells slots mc ms (F0 m pc ls st0) rest (Qc As.toArray) free :=
  va_runS (As := As) (rest := rest) S hM ⟨callB_of (Ts := gt_l) n S.2.2.2.2 (gt_gd hB.1.1) rfl hrm.1 hrm.2.1 (S.2.2.2.2 _ hB.1.2.2) (S.2.2.2.2 _ hl) hB.2 ⟨hrm.2.2.1, hrm.2.2.2.1⟩, S.2.2.2.2 _ hB.1.2.1⟩ (mm_preS hK hw) rfl hn hsz hst (lv_room hcat) hdg hrm.2.2.2.2
theorem mm_runI (S : CallFix p m c cc nL s args gt_l own) (hK : mm_K D cl tys s) (hw : mm_w D cl A H0 M H locs) (hM : Met l y (.code y b maxL none :: gt_l) rm (va_Pc (.ref a :: As) (mm_pre D cl tys M H.size)) Qc mc ms free) (hB : mm_I y b maxL n) (hl : Cond.methodLink own index y ∈ gt_l) (hrm : mm_rm rm R maxL mc ms cells slots) (hsz : ls.size = nL) (hst : st0 = As.reverse ++ .ref a :: rest) (hn : As.length = n) (hcat : (rest.map fun v => v.category).sum ≤ 8) (hdg : decode cc pc = .ok (.invokespecial index, 3)) :
    va_Run p l e R s m args below meth c H locs cells slots mc ms (F0 m pc ls st0) rest (Qc (Value.ref a :: As).toArray) free :=
  va_runI (As := As) (rest := rest) S hM ⟨callB_of (Ts := gt_l) n S.2.2.2.2 (gt_gd hB.1.1) rfl hrm.1 hrm.2.1 (S.2.2.2.2 _ hB.1.2.2.1) (S.2.2.2.2 _ hl) hB.2 ⟨hrm.2.2.1, hrm.2.2.2.1⟩, hB.1.2.2.2, S.2.2.2.2 _ hB.1.2.1⟩ (mm_preS hK hw) rfl hn hsz hst (lv_room hcat) hdg hrm.2.2.2.2
theorem mm_runIN {host : String} (S : CallFix p m c cc nL s args gt_l own) (hK : mm_K D cl tys s) (hw : mm_w D cl A H0 M H locs) (hM : Met l y (.code y b maxL none :: gt_l) rm (va_Pc (.ref a :: As) (mm_pre D cl tys M H.size)) Qc mc ms free) (hB : mm_I y b maxL n) (hl : va_Nw (.methodLinkNest own index y host) s) (hrm : mm_rm rm R maxL mc ms cells slots) (hsz : ls.size = nL) (hst : st0 = As.reverse ++ .ref a :: rest) (hn : As.length = n) (hcat : (rest.map fun v => v.category).sum ≤ 8) (hdg : decode cc pc = .ok (.invokespecial index, 3)) :
    va_Run p l e R s m args below meth c H locs cells slots mc ms (F0 m pc ls st0) rest (Qc (Value.ref a :: As).toArray) free :=
  va_runIN (As := As) (rest := rest) S hM ⟨va_cnB (Ts := gt_l) n S.2.2.2.2 (gt_gd hB.1.1) rfl hrm.1 hrm.2.1 hl (S.2.2.2.2 _ hB.1.2.2.1) hB.2 ⟨hrm.2.2.1, hrm.2.2.2.1⟩, hB.1.2.2.2, S.2.2.2.2 _ hB.1.2.1⟩ (mm_preS hK hw) rfl hn hsz hst (lv_room hcat) hdg hrm.2.2.2.2
theorem mm_runSN {host : String} (S : CallFix p m c cc nL s args gt_l own) (hK : mm_K D cl tys s) (hw : mm_w D cl A H0 M H locs) (hM : Met l y (.code y b maxL ret :: gt_l) rm (va_Pc As (mm_pre D cl tys M H.size)) Qc mc ms free) (hB : mm_S y b maxL ret n) (hl : va_Nw (.methodLinkNest own index y host) s) (hrm : mm_rm rm R maxL mc ms cells slots) (hsz : ls.size = nL) (hst : st0 = As.reverse ++ rest) (hn : As.length = n) (hcat : (rest.map fun v => v.category).sum ≤ 8) (hdg : decode cc pc = .ok (.invokestatic index, 3)) :
    va_Run p l e R s m args below meth c H locs cells slots mc ms (F0 m pc ls st0) rest (Qc As.toArray) free :=
  va_runSN (As := As) (rest := rest) S hM ⟨va_cnB (Ts := gt_l) n S.2.2.2.2 (gt_gd hB.1.1) rfl hrm.1 hrm.2.1 hl (S.2.2.2.2 _ hB.1.2.2) hB.2 ⟨hrm.2.2.1, hrm.2.2.2.1⟩, S.2.2.2.2 _ hB.1.2.1, trivial⟩ (mm_preS hK hw) rfl hn hsz hst (lv_room hcat) hdg hrm.2.2.2.2
theorem mm_obj (S : CallFix p m c cc nL s args gt_l own) (hl : Cond.methodLink own index objectInit ∈ gt_l) (hi : Cond.instanceMethod objectInit ∈ gt_l) (hc : Cond.code objectInit ⟨#[0xb1]⟩ 1 none ∈ gt_l) (hsz : ls.size = nL) (hd : decode cc pc = .ok (.invokespecial index, 3)) (hf : 1 ≤ R.frames) (hlo : (rest.map fun v => v.category).sum + 12 ≤ R.locals)
    (kk : W p l e R s m args below meth c H locs cells slots Q (F0 m (pc + 3) ls rest)) : W p l e R s m args below meth c H locs cells slots Q (F0 m pc ls (.ref a :: rest)) :=
  W.objInit S.1 S.2.1 S.2.2.2.1 (S.2.2.2.2 _ hl) (S.2.2.2.2 _ hi) (S.2.2.2.2 _ hc) rfl (by rw [S.2.2.1]; exact hsz) rfl hd hf (by show 2 * 0 + _ + 12 ≤ _; omega) kk
/-! references that may be null -/
theorem mq_aload_n (hx : p.tables.exec = Jvm.exec) (hb : c.code = cc) {k : Fin 4} {i : Nat} {r : Option Nat} (hdg : decode cc pc = .ok (.aload_n k, 1)) (hi : (k : Nat) = i) (hl : ls[i]? = some (.val (va_rf r)))
    (kk : W p l e R s m args below meth c H locs cells slots Q (F0 m (pc + 1) ls (va_rf r :: rest))) : W p l e R s m args below meth c H locs cells slots Q (F0 m pc ls rest) := by
  cases r with
  | none => exact lv_aload_nN hx hb hdg hi hl kk
  | some x => exact lv_aload_n hx hb hdg hi hl kk
theorem mq_aload (hx : p.tables.exec = Jvm.exec) (hb : c.code = cc) {i : Nat} {r : Option Nat} (hdg : decode cc pc = .ok (.aload i, 2)) (hl : ls[i]? = some (.val (va_rf r)))
    (kk : W p l e R s m args below meth c H locs cells slots Q (F0 m (pc + 2) ls (va_rf r :: rest))) : W p l e R s m args below meth c H locs cells slots Q (F0 m pc ls rest) := by
  cases r with
  | none => exact lv_aloadN hx hb hdg hl kk
  | some x => exact lv_aload hx hb hdg hl kk
theorem mq_filter (i : Nat) (r : Option Nat) (lv : List (Nat × Value)) : ∀ v : Value, v = va_rf r → ((i, v) :: lv.filter (fun q => !(q.1 == i) && !(q.1 + 1 == i && q.2.category == 2))) = ((i, va_rf r) :: lv.filter (fun q => !(q.1 == i) && !(q.1 + 1 == i && q.2.category == 2))) := fun v h => by rw [h]
theorem mq_astore_n (hx : p.tables.exec = Jvm.exec) (hb : c.code = cc) {k : Fin 4} {i nL : Nat} {r : Option Nat} {lv lv' : List (Nat × Value)} (hdg : decode cc pc = .ok (.astore_n k, 1)) (hi : (k : Nat) = i) (h : lv_has ls nL lv) (hn : i < nL) (hl : (i, va_rf r) :: lv.filter (fun q => !(q.1 == i) && !(q.1 + 1 == i && q.2.category == 2)) = lv')
    (kk : ∀ ls' : Array Slot, lv_has ls' nL lv' → W p l e R s m args below meth c H locs cells slots Q (F0 m (pc + 1) ls' rest)) : W p l e R s m args below meth c H locs cells slots Q (F0 m pc ls (va_rf r :: rest)) := by
  cases r with
  | none => exact lv_astore_nN hx hb hdg hi h hn hl kk
  | some x => exact lv_astore_n hx hb hdg hi h hn hl kk
theorem mq_astore (hx : p.tables.exec = Jvm.exec) (hb : c.code = cc) {i nL : Nat} {r : Option Nat} {lv lv' : List (Nat × Value)} (hdg : decode cc pc = .ok (.astore i, 2)) (h : lv_has ls nL lv) (hn : i < nL) (hl : (i, va_rf r) :: lv.filter (fun q => !(q.1 == i) && !(q.1 + 1 == i && q.2.category == 2)) = lv')
    (kk : ∀ ls' : Array Slot, lv_has ls' nL lv' → W p l e R s m args below meth c H locs cells slots Q (F0 m (pc + 2) ls' rest)) : W p l e R s m args below meth c H locs cells slots Q (F0 m pc ls (va_rf r :: rest)) := by
  cases r with
  | none => exact lv_astoreN hx hb hdg h hn hl kk
  | some x => exact lv_astore hx hb hdg h hn hl kk
theorem mq_ifnull (hx : p.tables.exec = Jvm.exec) (hb : c.code = cc) {r : Option Nat} {off : Int} {tgt : Nat} (hdg : decode cc pc = .ok (.ifnull off, 3)) (ht : (pc : Int) + off = (tgt : Int))
    (kn : r = none → W p l e R s m args below meth c H locs cells slots Q (F0 m tgt ls rest)) (ks : ∀ x : Nat, r = some x → W p l e R s m args below meth c H locs cells slots Q (F0 m (pc + 3) ls rest)) : W p l e R s m args below meth c H locs cells slots Q (F0 m pc ls (va_rf r :: rest)) := by
  cases r with
  | none => exact lv_ifnullN hx hb hdg ht (kn rfl)
  | some x => exact lv_ifnull hx hb hdg (ks x rfl)
theorem mq_ifnonnull (hx : p.tables.exec = Jvm.exec) (hb : c.code = cc) {r : Option Nat} {off : Int} {tgt : Nat} (hdg : decode cc pc = .ok (.ifnonnull off, 3)) (ht : (pc : Int) + off = (tgt : Int))
    (ks : ∀ x : Nat, r = some x → W p l e R s m args below meth c H locs cells slots Q (F0 m tgt ls rest)) (kn : r = none → W p l e R s m args below meth c H locs cells slots Q (F0 m (pc + 3) ls rest)) : W p l e R s m args below meth c H locs cells slots Q (F0 m pc ls (va_rf r :: rest)) := by
  cases r with
  | none => exact lv_ifnonnullN hx hb hdg (kn rfl)
  | some x => exact lv_ifnonnull hx hb hdg ht (ks x rfl)
end MRUN
theorem mq_nar (C : String) (r : Option Nat) : narrow (.object C) (va_rf r) = va_rf r := by cases r <;> rfl
theorem mq_fit (C : String) (r : Option Nat) : fits (.object C) (va_rf r) = true := by cases r <;> rfl
theorem mz_nar {v : Int32} (h : v = 0 ∨ v = 1) : narrow .boolean (.int v) = .int v := by rcases h with rfl | rfl <;> rfl
theorem mz_fit {v : Int32} (h : v = 0 ∨ v = 1) : fits .boolean (.int v) = true := by rcases h with rfl | rfl <;> rfl
theorem mz_nar2 {v : Int32} (h : v = 0 ∨ v = 1) : vp_nar .boolean v = v := by rcases h with rfl | rfl <;> rfl

theorem mn_ix {i : Int32} {j n : Nat} (hi : i = nI j) (hj : j < n) (hn : n < 2 ^ 31) : vp_in i n ∧ i.toNatClampNeg = j := by
  subst hi
  exact ⟨vp_in_nI hj hn, nI_clamp (by omega)⟩
section MNI
variable {p : Program} {l : Launch} {e : Env} {R : Room} {s : State} {m : MethodId} {args : Array Value} {below : List Frame} {meth : Method} {c : Code} {H : Heap} {locs : List Loc} {cells slots : Nat} {Q : State → Prop}
variable {cc : ByteArray} {pc nL : Nat} {ls : Array Slot} {rest : List Value} {D : va_G} {cl : List vw_C} {A : Nat → Prop} {a : Nat} {tys : List (ClassId × FieldType)} {M : mm_M} {H0 : Heap} {Ts : List Cond} {own : String} {i : Int32} {j n : Nat} {cA : ClassId}
theorem mn_iald (S : CallFix p m c cc nL s args Ts own) (hK : va_K D cl tys s) (hw : mm_w D cl A H0 M H locs) (t0 : Nat) {f : Nat → Int32} (ha : M a = some (.inl (cA, n, .inl f))) (ht : tys[t0]? = some (cA, .int)) (hi : i = nI j) (hj : j < n) (hn : n < 2 ^ 31) (hdg : decode cc pc = .ok (.iaload, 1))
    (kk : W p l e R s m args below meth c H locs cells slots Q (F0 m (pc + 1) ls (.int (f j) :: rest))) : W p l e R s m args below meth c H locs cells slots Q (F0 m pc ls (.int i :: .ref a :: rest)) :=
  mm_iald S hK hw t0 ha ht (mn_ix hi hj hn).1 hdg (by rw [(mn_ix hi hj hn).2]; exact kk)
theorem mn_zald (S : CallFix p m c cc nL s args Ts own) (hK : va_K D cl tys s) (hw : mm_w D cl A H0 M H locs) (t0 : Nat) {f : Nat → Int32} (ha : M a = some (.inl (cA, n, .inl f))) (ht : tys[t0]? = some (cA, .boolean)) (hi : i = nI j) (hj : j < n) (hn : n < 2 ^ 31) (hdg : decode cc pc = .ok (.baload, 1))
    (kk : W p l e R s m args below meth c H locs cells slots Q (F0 m (pc + 1) ls (.int (f j) :: rest))) : W p l e R s m args below meth c H locs cells slots Q (F0 m pc ls (.int i :: .ref a :: rest)) :=
  mm_zald S hK hw t0 ha ht (mn_ix hi hj hn).1 hdg (by rw [(mn_ix hi hj hn).2]; exact kk)
theorem mn_lald (S : CallFix p m c cc nL s args Ts own) (hK : va_K D cl tys s) (hw : mm_w D cl A H0 M H locs) (t0 : Nat) {f : Nat → Int64} (ha : M a = some (.inl (cA, n, .inr (.inl f)))) (ht : tys[t0]? = some (cA, .long)) (hi : i = nI j) (hj : j < n) (hn : n < 2 ^ 31) (hdg : decode cc pc = .ok (.laload, 1))
    (kk : W p l e R s m args below meth c H locs cells slots Q (F0 m (pc + 1) ls (.long (f j) :: rest))) : W p l e R s m args below meth c H locs cells slots Q (F0 m pc ls (.int i :: .ref a :: rest)) :=
  mm_lald S hK hw t0 ha ht (mn_ix hi hj hn).1 hdg (by rw [(mn_ix hi hj hn).2]; exact kk)
theorem mn_aldq (S : CallFix p m c cc nL s args Ts own) (hK : va_K D cl tys s) (hw : mm_w D cl A H0 M H locs) (t0 : Nat) {C : String} {f : Nat → Option Nat} (ha : M a = some (.inl (cA, n, .inr (.inr (.inr (.inr f)))))) (ht : tys[t0]? = some (cA, .object C)) (hi : i = nI j) (hj : j < n) (hn : n < 2 ^ 31) (hdg : decode cc pc = .ok (.aaload, 1))
    (kk : W p l e R s m args below meth c H locs cells slots Q (F0 m (pc + 1) ls (va_rf (f j) :: rest))) : W p l e R s m args below meth c H locs cells slots Q (F0 m pc ls (.int i :: .ref a :: rest)) :=
  mm_aldq S hK hw t0 ha ht (mn_ix hi hj hn).1 hdg (by rw [(mn_ix hi hj hn).2]; exact kk)
theorem mn_iast (S : CallFix p m c cc nL s args Ts own) (hK : va_K D cl tys s) (hw : mm_w D cl A H0 M H locs) (t0 : Nat) {f : Nat → Int32} (ha : M a = some (.inl (cA, n, .inl f))) (ht : tys[t0]? = some (cA, .int)) {x : Int32} (hi : i = nI j) (hj : j < n) (hn : n < 2 ^ 31) (hdg : decode cc pc = .ok (.iastore, 1))
    (kk : ∀ (H1 : Heap) (locs1 : List Loc), mm_w D cl A H0 (mm_up M a (.inl (cA, n, .inl (upd f j x)))) H1 locs1 → W p l e R s m args below meth c H1 locs1 cells slots Q (F0 m (pc + 1) ls rest)) : W p l e R s m args below meth c H locs cells slots Q (F0 m pc ls (.int x :: .int i :: .ref a :: rest)) :=
  mm_iast S hK hw t0 ha ht (mn_ix hi hj hn).1 hdg (by rw [(mn_ix hi hj hn).2]; exact kk)
theorem mn_zast (S : CallFix p m c cc nL s args Ts own) (hK : va_K D cl tys s) (hw : mm_w D cl A H0 M H locs) (t0 : Nat) {f : Nat → Int32} (ha : M a = some (.inl (cA, n, .inl f))) (ht : tys[t0]? = some (cA, .boolean)) {x : Int32} (hi : i = nI j) (hj : j < n) (hn : n < 2 ^ 31) (hz : vp_nar .boolean x = x) (hdg : decode cc pc = .ok (.bastore, 1))
    (kk : ∀ (H1 : Heap) (locs1 : List Loc), mm_w D cl A H0 (mm_up M a (.inl (cA, n, .inl (upd f j x)))) H1 locs1 → W p l e R s m args below meth c H1 locs1 cells slots Q (F0 m (pc + 1) ls rest)) : W p l e R s m args below meth c H locs cells slots Q (F0 m pc ls (.int x :: .int i :: .ref a :: rest)) :=
  mm_zast S hK hw t0 ha ht (mn_ix hi hj hn).1 hz hdg (by rw [(mn_ix hi hj hn).2]; exact kk)
theorem mn_last (S : CallFix p m c cc nL s args Ts own) (hK : va_K D cl tys s) (hw : mm_w D cl A H0 M H locs) (t0 : Nat) {f : Nat → Int64} (ha : M a = some (.inl (cA, n, .inr (.inl f)))) (ht : tys[t0]? = some (cA, .long)) {x : Int64} (hi : i = nI j) (hj : j < n) (hn : n < 2 ^ 31) (hdg : decode cc pc = .ok (.lastore, 1))
    (kk : ∀ (H1 : Heap) (locs1 : List Loc), mm_w D cl A H0 (mm_up M a (.inl (cA, n, .inr (.inl (vp_updL f j x))))) H1 locs1 → W p l e R s m args below meth c H1 locs1 cells slots Q (F0 m (pc + 1) ls rest)) : W p l e R s m args below meth c H locs cells slots Q (F0 m pc ls (.long x :: .int i :: .ref a :: rest)) :=
  mm_last S hK hw t0 ha ht (mn_ix hi hj hn).1 hdg (by rw [(mn_ix hi hj hn).2]; exact kk)
theorem mn_astq (S : CallFix p m c cc nL s args Ts own) (hK : va_K D cl tys s) (hw : mm_w D cl A H0 M H locs) (t0 ci : Nat) {r : vw_C} {v : Nat} {vs : List Value} {f : Nat → Option Nat} (ha : M a = some (.inl (cA, n, .inr (.inr (.inr (.inr f)))))) (ht : tys[t0]? = some (cA, .object r.1)) (hv : M v = some (.inr (ci, vs))) (hc : cl[ci]? = some r) (hi : i = nI j) (hj : j < n) (hn : n < 2 ^ 31) (hdg : decode cc pc = .ok (.aastore, 1))
    (kk : ∀ (H1 : Heap) (locs1 : List Loc), mm_w D cl A H0 (mm_up M a (.inl (cA, n, .inr (.inr (.inr (.inr (va_up f j (some v)))))))) H1 locs1 → W p l e R s m args below meth c H1 locs1 cells slots Q (F0 m (pc + 1) ls rest)) : W p l e R s m args below meth c H locs cells slots Q (F0 m pc ls (.ref v :: .int i :: .ref a :: rest)) :=
  mm_astq S hK hw t0 ci ha ht hv hc (mn_ix hi hj hn).1 hdg (by rw [(mn_ix hi hj hn).2]; exact kk)
end MNI

theorem oi_c : Cond.code objectInit ⟨#[0xb1]⟩ 1 none ∈ gt_l := gt_in (i := 26) rfl rfl
theorem bi_AR_init : mm_I y_AR_init b_AR_init 1 0 := ⟨⟨gw_23, gw_22, gw_8, rfl⟩, ⟨by decide, by decide, by decide +kernel⟩⟩
theorem bi_SE_init : mm_I y_SE_init b_SE_init 1 0 := ⟨⟨gw_33, gw_32, gw_9, rfl⟩, ⟨by decide, by decide, by decide +kernel⟩⟩
theorem bi_DR_init : mm_I y_DR_init b_DR_init 1 0 := ⟨⟨gw_53, gw_52, gw_10, rfl⟩, ⟨by decide, by decide, by decide +kernel⟩⟩
theorem bi_CS_init : mm_I y_CS_init b_CS_init 1 0 := ⟨⟨gw_69, gw_68, gw_11, rfl⟩, ⟨by decide, by decide, by decide +kernel⟩⟩
theorem bi_CG_init : mm_I y_CG_init b_CG_init 1 0 := ⟨⟨gw_79, gw_78, gw_12, rfl⟩, ⟨by decide, by decide, by decide +kernel⟩⟩
theorem bv_AR_level : mm_V "AbendRows" y_AR_level b_AR_level 5 (some (Jvm.ClassFile.FieldType.int)) 1 := ⟨⟨gw_125, gw_123, gw_124, gw_8⟩, ⟨by decide, by decide, by decide +kernel⟩⟩
theorem bv_AR_levelOf : mm_V "AbendRows" y_AR_levelOf b_AR_levelOf 2 (some ((Jvm.ClassFile.FieldType.object "AbendRows$Level"))) 1 := ⟨⟨gw_129, gw_128, gw_0, gw_8⟩, ⟨by decide, by decide, by decide +kernel⟩⟩
theorem bi_LV_init : mm_I y_LV_init b_LV_init 4 3 := ⟨⟨gw_133, gw_132, gw_14, rfl⟩, ⟨by decide, by decide, by decide +kernel⟩⟩
theorem bv_AR_exit : mm_V "AbendRows" y_AR_exit b_AR_exit 5 (some (Jvm.ClassFile.FieldType.int)) 3 := ⟨⟨gw_159, gw_157, gw_158, gw_8⟩, ⟨by decide, by decide, by decide +kernel⟩⟩
theorem bi_EX_init : mm_I y_EX_init b_EX_init 5 4 := ⟨⟨gw_164, gw_163, gw_15, rfl⟩, ⟨by decide, by decide, by decide +kernel⟩⟩
theorem bv_AR_abend : mm_V "AbendRows" y_AR_abend b_AR_abend 5 (some (Jvm.ClassFile.FieldType.int)) 2 := ⟨⟨gw_190, gw_188, gw_189, gw_8⟩, ⟨by decide, by decide, by decide +kernel⟩⟩
theorem bs_AR_isCode : mm_S y_AR_isCode b_AR_isCode 1 (some (Jvm.ClassFile.FieldType.boolean)) 1 := ⟨⟨gw_193, gw_192, gw_8⟩, ⟨by decide, by decide, by decide +kernel⟩⟩
theorem bv_SE_findEnd : mm_V "AbendRows$Search" y_SE_findEnd b_SE_findEnd 6 (some ((Jvm.ClassFile.FieldType.object "AbendRows$Level"))) 2 := ⟨⟨gw_197, gw_195, gw_196, gw_9⟩, ⟨by decide, by decide, by decide +kernel⟩⟩
theorem bv_SE_ask : mm_V "AbendRows$Search" y_SE_ask b_SE_ask 4 (some ((Jvm.ClassFile.FieldType.object "AbendRows$Level"))) 3 := ⟨⟨gw_201, gw_199, gw_200, gw_9⟩, ⟨by decide, by decide, by decide +kernel⟩⟩
theorem bv_SE_note : mm_V "AbendRows$Search" y_SE_note b_SE_note 2 none 1 := ⟨⟨gw_205, gw_203, gw_204, gw_9⟩, ⟨by decide, by decide, by decide +kernel⟩⟩
theorem bs_MA_min : mm_S y_MA_min b_MA_min 2 (some (Jvm.ClassFile.FieldType.int)) 2 := ⟨⟨gw_208, gw_207, gw_16⟩, ⟨by decide, by decide, by decide +kernel⟩⟩
theorem bs_SE_retriesNow : mm_S y_SE_retriesNow b_SE_retriesNow 2 (some (Jvm.ClassFile.FieldType.boolean)) 1 := ⟨⟨gw_211, gw_210, gw_9⟩, ⟨by decide, by decide, by decide +kernel⟩⟩
theorem bs_AR_loseExits : mm_S y_AR_loseExits b_AR_loseExits 3 none 2 := ⟨⟨gw_214, gw_213, gw_8⟩, ⟨by decide, by decide, by decide +kernel⟩⟩
theorem bv_CG_add : mm_V "AbendRows$CodeLog" y_CG_add b_CG_add 2 none 1 := ⟨⟨gw_218, gw_216, gw_217, gw_12⟩, ⟨by decide, by decide, by decide +kernel⟩⟩
theorem bv_AR_order : mm_V "AbendRows" y_AR_order b_AR_order 2 (some (Jvm.ClassFile.FieldType.int)) 1 := ⟨⟨gw_222, gw_220, gw_221, gw_8⟩, ⟨by decide, by decide, by decide +kernel⟩⟩
theorem bv_SE_askedAt : mm_V "AbendRows$Search" y_SE_askedAt b_SE_askedAt 2 (some (Jvm.ClassFile.FieldType.int)) 1 := ⟨⟨gw_226, gw_224, gw_225, gw_9⟩, ⟨by decide, by decide, by decide +kernel⟩⟩
theorem bv_AR_cancel : mm_V "AbendRows" y_AR_cancel b_AR_cancel 4 (some (Jvm.ClassFile.FieldType.int)) 1 := ⟨⟨gw_230, gw_228, gw_229, gw_8⟩, ⟨by decide, by decide, by decide +kernel⟩⟩
theorem bv_AR_restart : mm_V "AbendRows" y_AR_restart b_AR_restart 4 (some (Jvm.ClassFile.FieldType.int)) 2 := ⟨⟨gw_234, gw_232, gw_233, gw_8⟩, ⟨by decide, by decide, by decide +kernel⟩⟩
theorem bs_AR_isTask : mm_S y_AR_isTask b_AR_isTask 1 (some (Jvm.ClassFile.FieldType.boolean)) 1 := ⟨⟨gw_237, gw_236, gw_8⟩, ⟨by decide, by decide, by decide +kernel⟩⟩
theorem bv_CS_has : mm_V "AbendRows$CodeSet" y_CS_has b_CS_has 2 (some (Jvm.ClassFile.FieldType.boolean)) 1 := ⟨⟨gw_241, gw_239, gw_240, gw_11⟩, ⟨by decide, by decide, by decide +kernel⟩⟩
theorem bs_CS_bitOf : mm_S y_CS_bitOf b_CS_bitOf 1 (some (Jvm.ClassFile.FieldType.long)) 1 := ⟨⟨gw_245, gw_244, gw_11⟩, ⟨by decide, by decide, by decide +kernel⟩⟩
theorem bv_AR_guardsOf : mm_V "AbendRows" y_AR_guardsOf b_AR_guardsOf 7 (some (Jvm.ClassFile.FieldType.int)) 1 := ⟨⟨gw_251, gw_250, gw_1, gw_8⟩, ⟨by decide, by decide, by decide +kernel⟩⟩
theorem bv_GU_isHeldBy : mm_V "AbendRows$Guard" y_GU_isHeldBy b_GU_isHeldBy 2 (some (Jvm.ClassFile.FieldType.boolean)) 1 := ⟨⟨gw_255, gw_253, gw_254, gw_18⟩, ⟨by decide, by decide, by decide +kernel⟩⟩
theorem bv_AR_brokenGuardsOf : mm_V "AbendRows" y_AR_brokenGuardsOf b_AR_brokenGuardsOf 7 (some (Jvm.ClassFile.FieldType.int)) 1 := ⟨⟨gw_259, gw_258, gw_2, gw_8⟩, ⟨by decide, by decide, by decide +kernel⟩⟩
theorem bi_DU_init : mm_I y_DU_init b_DU_init 6 5 := ⟨⟨gw_262, gw_261, gw_17, rfl⟩, ⟨by decide, by decide, by decide +kernel⟩⟩
theorem bv_DR_keep : mm_V "AbendRows$DumpRow" y_DR_keep b_DR_keep 2 none 1 := ⟨⟨gw_288, gw_286, gw_287, gw_10⟩, ⟨by decide, by decide, by decide +kernel⟩⟩
theorem bv_AR_guard : mm_V "AbendRows" y_AR_guard b_AR_guard 3 (some (Jvm.ClassFile.FieldType.int)) 2 := ⟨⟨gw_292, gw_290, gw_291, gw_8⟩, ⟨by decide, by decide, by decide +kernel⟩⟩
theorem bi_GU_init : mm_I y_GU_init b_GU_init 3 2 := ⟨⟨gw_296, gw_295, gw_18, rfl⟩, ⟨by decide, by decide, by decide +kernel⟩⟩
theorem bv_AR_write : mm_V "AbendRows" y_AR_write b_AR_write 4 (some (Jvm.ClassFile.FieldType.int)) 2 := ⟨⟨gw_317, gw_315, gw_316, gw_8⟩, ⟨by decide, by decide, by decide +kernel⟩⟩
theorem bv_AR_guardOf : mm_V "AbendRows" y_AR_guardOf b_AR_guardOf 3 (some ((Jvm.ClassFile.FieldType.object "AbendRows$Guard"))) 1 := ⟨⟨gw_321, gw_320, gw_3, gw_8⟩, ⟨by decide, by decide, by decide +kernel⟩⟩
theorem bv_AR_free : mm_V "AbendRows" y_AR_free b_AR_free 3 (some (Jvm.ClassFile.FieldType.int)) 1 := ⟨⟨gw_325, gw_323, gw_324, gw_8⟩, ⟨by decide, by decide, by decide +kernel⟩⟩
theorem bv_AR_dump : mm_V "AbendRows" y_AR_dump b_AR_dump 5 (some (Jvm.ClassFile.FieldType.int)) 3 := ⟨⟨gw_329, gw_327, gw_328, gw_8⟩, ⟨by decide, by decide, by decide +kernel⟩⟩
theorem bv_DR_find : mm_V "AbendRows$DumpRow" y_DR_find b_DR_find 6 (some ((Jvm.ClassFile.FieldType.object "AbendRows$Dump"))) 2 := ⟨⟨gw_333, gw_331, gw_332, gw_10⟩, ⟨by decide, by decide, by decide +kernel⟩⟩
theorem bv_AR_loop : mm_V "AbendRows" y_AR_loop b_AR_loop 4 (some (Jvm.ClassFile.FieldType.int)) 2 := ⟨⟨gw_337, gw_335, gw_336, gw_8⟩, ⟨by decide, by decide, by decide +kernel⟩⟩
theorem bv_AR_suppress : mm_V "AbendRows" y_AR_suppress b_AR_suppress 4 (some (Jvm.ClassFile.FieldType.int)) 2 := ⟨⟨gw_342, gw_340, gw_341, gw_8⟩, ⟨by decide, by decide, by decide +kernel⟩⟩
theorem bv_CS_put : mm_V "AbendRows$CodeSet" y_CS_put b_CS_put 5 none 2 := ⟨⟨gw_346, gw_344, gw_345, gw_11⟩, ⟨by decide, by decide, by decide +kernel⟩⟩
theorem bv_AR_count : mm_V "AbendRows" y_AR_count b_AR_count 2 (some (Jvm.ClassFile.FieldType.int)) 1 := ⟨⟨gw_351, gw_349, gw_350, gw_8⟩, ⟨by decide, by decide, by decide +kernel⟩⟩
theorem bv_CG_timesOf : mm_V "AbendRows$CodeLog" y_CG_timesOf b_CG_timesOf 4 (some (Jvm.ClassFile.FieldType.int)) 1 := ⟨⟨gw_355, gw_353, gw_354, gw_12⟩, ⟨by decide, by decide, by decide +kernel⟩⟩
theorem bv_AR_region : mm_V "AbendRows" y_AR_region b_AR_region 2 (some (Jvm.ClassFile.FieldType.int)) 1 := ⟨⟨gw_359, gw_357, gw_358, gw_8⟩, ⟨by decide, by decide, by decide +kernel⟩⟩
theorem bv_AR_told : mm_V "AbendRows" y_AR_told b_AR_told 4 (some (Jvm.ClassFile.FieldType.int)) 2 := ⟨⟨gw_363, gw_361, gw_362, gw_8⟩, ⟨by decide, by decide, by decide +kernel⟩⟩
theorem bi_MO_init : mm_I y_MO_init b_MO_init 1 0 := ⟨⟨gw_368, gw_367, gw_13, rfl⟩, ⟨by decide, by decide, by decide +kernel⟩⟩
theorem bv_MO_level : mm_V "AbendRowsModel" y_MO_level b_MO_level 2 (some (Jvm.ClassFile.FieldType.int)) 1 := ⟨⟨gw_441, gw_439, gw_440, gw_13⟩, ⟨by decide, by decide, by decide +kernel⟩⟩
theorem bv_MO_isLevel : mm_V "AbendRowsModel" y_MO_isLevel b_MO_isLevel 2 (some (Jvm.ClassFile.FieldType.boolean)) 1 := ⟨⟨gw_445, gw_444, gw_4, gw_13⟩, ⟨by decide, by decide, by decide +kernel⟩⟩
theorem bv_MO_exit : mm_V "AbendRowsModel" y_MO_exit b_MO_exit 4 (some (Jvm.ClassFile.FieldType.int)) 3 := ⟨⟨gw_449, gw_447, gw_448, gw_13⟩, ⟨by decide, by decide, by decide +kernel⟩⟩
theorem bv_MO_cancel : mm_V "AbendRowsModel" y_MO_cancel b_MO_cancel 2 (some (Jvm.ClassFile.FieldType.int)) 1 := ⟨⟨gw_453, gw_451, gw_452, gw_13⟩, ⟨by decide, by decide, by decide +kernel⟩⟩
theorem bv_MO_abend : mm_V "AbendRowsModel" y_MO_abend b_MO_abend 9 (some (Jvm.ClassFile.FieldType.int)) 2 := ⟨⟨gw_457, gw_455, gw_456, gw_13⟩, ⟨by decide, by decide, by decide +kernel⟩⟩
theorem bs_MO_isCode : mm_S y_MO_isCode b_MO_isCode 1 (some (Jvm.ClassFile.FieldType.boolean)) 1 := ⟨⟨gw_460, gw_459, gw_13⟩, ⟨by decide, by decide, by decide +kernel⟩⟩
theorem bv_MO_endOf : mm_V "AbendRowsModel" y_MO_endOf b_MO_endOf 4 (some (Jvm.ClassFile.FieldType.int)) 3 := ⟨⟨gw_464, gw_463, gw_5, gw_13⟩, ⟨by decide, by decide, by decide +kernel⟩⟩
theorem bv_MO_order : mm_V "AbendRowsModel" y_MO_order b_MO_order 2 (some (Jvm.ClassFile.FieldType.int)) 1 := ⟨⟨gw_468, gw_466, gw_467, gw_13⟩, ⟨by decide, by decide, by decide +kernel⟩⟩
theorem bv_MO_count : mm_V "AbendRowsModel" y_MO_count b_MO_count 2 (some (Jvm.ClassFile.FieldType.int)) 1 := ⟨⟨gw_472, gw_470, gw_471, gw_13⟩, ⟨by decide, by decide, by decide +kernel⟩⟩
theorem bv_MO_region : mm_V "AbendRowsModel" y_MO_region b_MO_region 2 (some (Jvm.ClassFile.FieldType.int)) 1 := ⟨⟨gw_476, gw_474, gw_475, gw_13⟩, ⟨by decide, by decide, by decide +kernel⟩⟩
theorem bv_MO_restart : mm_V "AbendRowsModel" y_MO_restart b_MO_restart 7 (some (Jvm.ClassFile.FieldType.int)) 2 := ⟨⟨gw_480, gw_478, gw_479, gw_13⟩, ⟨by decide, by decide, by decide +kernel⟩⟩
theorem bs_MO_isTask : mm_S y_MO_isTask b_MO_isTask 1 (some (Jvm.ClassFile.FieldType.boolean)) 1 := ⟨⟨gw_483, gw_482, gw_13⟩, ⟨by decide, by decide, by decide +kernel⟩⟩
theorem bv_MO_dump : mm_V "AbendRowsModel" y_MO_dump b_MO_dump 6 (some (Jvm.ClassFile.FieldType.int)) 3 := ⟨⟨gw_487, gw_485, gw_486, gw_13⟩, ⟨by decide, by decide, by decide +kernel⟩⟩
theorem bv_MO_suppress : mm_V "AbendRowsModel" y_MO_suppress b_MO_suppress 4 (some (Jvm.ClassFile.FieldType.int)) 2 := ⟨⟨gw_491, gw_489, gw_490, gw_13⟩, ⟨by decide, by decide, by decide +kernel⟩⟩
theorem bv_MO_loop : mm_V "AbendRowsModel" y_MO_loop b_MO_loop 5 (some (Jvm.ClassFile.FieldType.int)) 2 := ⟨⟨gw_495, gw_493, gw_494, gw_13⟩, ⟨by decide, by decide, by decide +kernel⟩⟩
theorem bv_MO_guard : mm_V "AbendRowsModel" y_MO_guard b_MO_guard 3 (some (Jvm.ClassFile.FieldType.int)) 2 := ⟨⟨gw_500, gw_498, gw_499, gw_13⟩, ⟨by decide, by decide, by decide +kernel⟩⟩
theorem bv_MO_write : mm_V "AbendRowsModel" y_MO_write b_MO_write 3 (some (Jvm.ClassFile.FieldType.int)) 2 := ⟨⟨gw_504, gw_502, gw_503, gw_13⟩, ⟨by decide, by decide, by decide +kernel⟩⟩
theorem bv_MO_isGuard : mm_V "AbendRowsModel" y_MO_isGuard b_MO_isGuard 2 (some (Jvm.ClassFile.FieldType.boolean)) 1 := ⟨⟨gw_508, gw_507, gw_6, gw_13⟩, ⟨by decide, by decide, by decide +kernel⟩⟩
theorem bv_MO_free : mm_V "AbendRowsModel" y_MO_free b_MO_free 3 (some (Jvm.ClassFile.FieldType.int)) 1 := ⟨⟨gw_512, gw_510, gw_511, gw_13⟩, ⟨by decide, by decide, by decide +kernel⟩⟩
theorem bv_MO_told : mm_V "AbendRowsModel" y_MO_told b_MO_told 3 (some (Jvm.ClassFile.FieldType.int)) 2 := ⟨⟨gw_516, gw_514, gw_515, gw_13⟩, ⟨by decide, by decide, by decide +kernel⟩⟩
end
section
/-! small pure rows -/
theorem mm_uu {M : mm_M} {a : Nat} {x y : va_E} : mm_up (mm_up M a x) a y = mm_up M a y := by
  funext q
  by_cases h : q = a <;> simp [mm_up, h]
/-- a number from 1 to n -/
abbrev is_ok (n k : Int32) : Prop := ¬ k ≤ 0 ∧ ¬ n < k
theorem is_lt1 {k : Int32} : k < 1 ↔ k ≤ 0 := by
  rw [Int32.lt_iff_toInt_lt, Int32.le_iff_toInt_le, Int32.toInt_zero, show (1 : Int32).toInt = 1 from rfl]
  omega
theorem is_le0 {k : Int32} : ¬ k ≤ 0 → ¬ k < 0 := by
  rw [Int32.lt_iff_toInt_lt, Int32.le_iff_toInt_le, Int32.toInt_zero]
  omega
theorem cl_nI {k : Int32} (h : ¬ k < 0) : k = nI k.toNatClampNeg := by
  obtain ⟨j, hj, rfl⟩ := nI_of h
  rw [nI_clamp hj]
/-- the number itself -/
theorem is_of {n k : Int32} {N : Nat} (hn : n = nI N) (hN : N < 2 ^ 31) (h : is_ok n k) : ∃ j : Nat, k = nI j ∧ 1 ≤ j ∧ j ≤ N ∧ k.toNatClampNeg = j := by
  subst hn
  obtain ⟨h1, h2⟩ := h
  obtain ⟨j, hj, rfl⟩ := nI_of (is_le0 h1)
  refine ⟨j, rfl, ?_, Nat.not_lt.mp (fun q => h2 ((nI_ltI hN hj).mpr q)), nI_clamp hj⟩
  rcases Nat.eq_zero_or_pos j with h | h
  · subst h
    exact absurd (by rw [nI_0, Int32.le_iff_toInt_le]; exact Int.le_refl _) h1
  · exact h

theorem d_AR_isCode_0 : decode b_AR_isCode 0 = .ok (.iload_n 0, 1) := by decide +kernel
theorem d_AR_isCode_1 : decode b_AR_isCode 1 = .ok (.iconst 1, 1) := by decide +kernel
theorem d_AR_isCode_2 : decode b_AR_isCode 2 = .ok (.if_icmp .lt 14, 3) := by decide +kernel
theorem d_AR_isCode_5 : decode b_AR_isCode 5 = .ok (.iload_n 0, 1) := by decide +kernel
theorem d_AR_isCode_6 : decode b_AR_isCode 6 = .ok (.sipush 9999, 3) := by decide +kernel
theorem d_AR_isCode_9 : decode b_AR_isCode 9 = .ok (.if_icmp .gt 7, 3) := by decide +kernel
theorem d_AR_isCode_12 : decode b_AR_isCode 12 = .ok (.iconst 1, 1) := by decide +kernel
theorem d_AR_isCode_13 : decode b_AR_isCode 13 = .ok (.goto 4, 3) := by decide +kernel
theorem d_AR_isCode_16 : decode b_AR_isCode 16 = .ok (.iconst 0, 1) := by decide +kernel
theorem d_AR_isCode_17 : decode b_AR_isCode 17 = .ok (.ireturn, 1) := by decide +kernel
set_option maxHeartbeats 4000000 in
set_option maxRecDepth 100000 in
theorem c_AR_isCode (l : Launch) (D : va_G) (dA : Nat → ClassId) (M : mm_M) (k : Int32) : mm_Ci l y_AR_isCode w_AR_isCode ({ frames := 0, cells := 0, slots := 0, locals := 0 }) 0 0 D vC (tyL dA) [.int k] M (fun r M' => M' = M ∧ ((r = 1 ∧ is_ok 9999 k) ∨ (r = 0 ∧ ¬ is_ok 9999 k))) := by
  intro sz
  refine mm_start (by decide) (Nat.le_of_ble_eq_true rfl) ?_
  intro p e s m below meth c A Q ls hA hQ S hr hlocks hin hK hw hl
  have hl : lv_has ls 1 [(0, .int k)] := hl
  refine lv_iload_n S.1 S.2.1 d_AR_isCode_0 rfl (lv_at hl 0 rfl) ?_
  refine lv_iconst (v := 1) S.1 S.2.1 d_AR_isCode_1 (by decide) ?_
  refine lv_icmp_lt (tgt := 16) S.1 S.2.1 d_AR_isCode_2 (by decide) (fun c2 => ?_) (fun c2 => ?_)
  · refine lv_iconst (v := 0) S.1 S.2.1 d_AR_isCode_16 (by decide) ?_
    exact mm_retz S.1 S.2.1 hr hlocks hA hQ hw (rfl) (⟨rfl, Or.inr ⟨rfl, fun h => h.1 (is_lt1.mp c2)⟩⟩) (Nat.le_of_ble_eq_true rfl) (Nat.le_of_ble_eq_true rfl) d_AR_isCode_17
  · refine lv_iload_n S.1 S.2.1 d_AR_isCode_5 rfl (lv_at hl 0 rfl) ?_
    refine lv_sipush (v := 9999) S.1 S.2.1 d_AR_isCode_6 (by decide) ?_
    refine lv_icmp_gt (tgt := 16) S.1 S.2.1 d_AR_isCode_9 (by decide) (fun c9 => ?_) (fun c9 => ?_)
    · refine lv_iconst (v := 0) S.1 S.2.1 d_AR_isCode_16 (by decide) ?_
      exact mm_retz S.1 S.2.1 hr hlocks hA hQ hw (rfl) (⟨rfl, Or.inr ⟨rfl, fun h => h.2 c9⟩⟩) (Nat.le_of_ble_eq_true rfl) (Nat.le_of_ble_eq_true rfl) d_AR_isCode_17
    · refine lv_iconst (v := 1) S.1 S.2.1 d_AR_isCode_12 (by decide) ?_
      refine lv_goto (tgt := 17) S.1 S.2.1 d_AR_isCode_13 (by decide) ?_
      exact mm_retz S.1 S.2.1 hr hlocks hA hQ hw (rfl) (⟨rfl, Or.inl ⟨rfl, fun h => c2 (is_lt1.mpr h), c9⟩⟩) (Nat.le_of_ble_eq_true rfl) (Nat.le_of_ble_eq_true rfl) d_AR_isCode_17
theorem d_AR_isTask_0 : decode b_AR_isTask 0 = .ok (.iload_n 0, 1) := by decide +kernel
theorem d_AR_isTask_1 : decode b_AR_isTask 1 = .ok (.iconst 1, 1) := by decide +kernel
theorem d_AR_isTask_2 : decode b_AR_isTask 2 = .ok (.if_icmp .lt 13, 3) := by decide +kernel
theorem d_AR_isTask_5 : decode b_AR_isTask 5 = .ok (.iload_n 0, 1) := by decide +kernel
theorem d_AR_isTask_6 : decode b_AR_isTask 6 = .ok (.bipush 40, 2) := by decide +kernel
theorem d_AR_isTask_8 : decode b_AR_isTask 8 = .ok (.if_icmp .gt 7, 3) := by decide +kernel
theorem d_AR_isTask_11 : decode b_AR_isTask 11 = .ok (.iconst 1, 1) := by decide +kernel
theorem d_AR_isTask_12 : decode b_AR_isTask 12 = .ok (.goto 4, 3) := by decide +kernel
theorem d_AR_isTask_15 : decode b_AR_isTask 15 = .ok (.iconst 0, 1) := by decide +kernel
theorem d_AR_isTask_16 : decode b_AR_isTask 16 = .ok (.ireturn, 1) := by decide +kernel
set_option maxHeartbeats 4000000 in
set_option maxRecDepth 100000 in
theorem c_AR_isTask (l : Launch) (D : va_G) (dA : Nat → ClassId) (M : mm_M) (k : Int32) : mm_Ci l y_AR_isTask w_AR_isTask ({ frames := 0, cells := 0, slots := 0, locals := 0 }) 0 0 D vC (tyL dA) [.int k] M (fun r M' => M' = M ∧ ((r = 1 ∧ is_ok 40 k) ∨ (r = 0 ∧ ¬ is_ok 40 k))) := by
  intro sz
  refine mm_start (by decide) (Nat.le_of_ble_eq_true rfl) ?_
  intro p e s m below meth c A Q ls hA hQ S hr hlocks hin hK hw hl
  have hl : lv_has ls 1 [(0, .int k)] := hl
  refine lv_iload_n S.1 S.2.1 d_AR_isTask_0 rfl (lv_at hl 0 rfl) ?_
  refine lv_iconst (v := 1) S.1 S.2.1 d_AR_isTask_1 (by decide) ?_
  refine lv_icmp_lt (tgt := 15) S.1 S.2.1 d_AR_isTask_2 (by decide) (fun c2 => ?_) (fun c2 => ?_)
  · refine lv_iconst (v := 0) S.1 S.2.1 d_AR_isTask_15 (by decide) ?_
    exact mm_retz S.1 S.2.1 hr hlocks hA hQ hw (rfl) (⟨rfl, Or.inr ⟨rfl, fun h => h.1 (is_lt1.mp c2)⟩⟩) (Nat.le_of_ble_eq_true rfl) (Nat.le_of_ble_eq_true rfl) d_AR_isTask_16
  · refine lv_iload_n S.1 S.2.1 d_AR_isTask_5 rfl (lv_at hl 0 rfl) ?_
    refine lv_bipush (v := 40) S.1 S.2.1 d_AR_isTask_6 (by decide) ?_
    refine lv_icmp_gt (tgt := 15) S.1 S.2.1 d_AR_isTask_8 (by decide) (fun c8 => ?_) (fun c8 => ?_)
    · refine lv_iconst (v := 0) S.1 S.2.1 d_AR_isTask_15 (by decide) ?_
      exact mm_retz S.1 S.2.1 hr hlocks hA hQ hw (rfl) (⟨rfl, Or.inr ⟨rfl, fun h => h.2 c8⟩⟩) (Nat.le_of_ble_eq_true rfl) (Nat.le_of_ble_eq_true rfl) d_AR_isTask_16
    · refine lv_iconst (v := 1) S.1 S.2.1 d_AR_isTask_11 (by decide) ?_
      refine lv_goto (tgt := 16) S.1 S.2.1 d_AR_isTask_12 (by decide) ?_
      exact mm_retz S.1 S.2.1 hr hlocks hA hQ hw (rfl) (⟨rfl, Or.inl ⟨rfl, fun h => c2 (is_lt1.mpr h), c8⟩⟩) (Nat.le_of_ble_eq_true rfl) (Nat.le_of_ble_eq_true rfl) d_AR_isTask_16
theorem d_MO_isCode_0 : decode b_MO_isCode 0 = .ok (.iload_n 0, 1) := by decide +kernel
theorem d_MO_isCode_1 : decode b_MO_isCode 1 = .ok (.ifCond .le 14, 3) := by decide +kernel
theorem d_MO_isCode_4 : decode b_MO_isCode 4 = .ok (.iload_n 0, 1) := by decide +kernel
theorem d_MO_isCode_5 : decode b_MO_isCode 5 = .ok (.sipush 9999, 3) := by decide +kernel
theorem d_MO_isCode_8 : decode b_MO_isCode 8 = .ok (.if_icmp .gt 7, 3) := by decide +kernel
theorem d_MO_isCode_11 : decode b_MO_isCode 11 = .ok (.iconst 1, 1) := by decide +kernel
theorem d_MO_isCode_12 : decode b_MO_isCode 12 = .ok (.goto 4, 3) := by decide +kernel
theorem d_MO_isCode_15 : decode b_MO_isCode 15 = .ok (.iconst 0, 1) := by decide +kernel
theorem d_MO_isCode_16 : decode b_MO_isCode 16 = .ok (.ireturn, 1) := by decide +kernel
set_option maxHeartbeats 4000000 in
set_option maxRecDepth 100000 in
theorem c_MO_isCode (l : Launch) (D : va_G) (dA : Nat → ClassId) (M : mm_M) (k : Int32) : mm_Ci l y_MO_isCode w_MO_isCode ({ frames := 0, cells := 0, slots := 0, locals := 0 }) 0 0 D vC (tyL dA) [.int k] M (fun r M' => M' = M ∧ ((r = 1 ∧ is_ok 9999 k) ∨ (r = 0 ∧ ¬ is_ok 9999 k))) := by
  intro sz
  refine mm_start (by decide) (Nat.le_of_ble_eq_true rfl) ?_
  intro p e s m below meth c A Q ls hA hQ S hr hlocks hin hK hw hl
  have hl : lv_has ls 1 [(0, .int k)] := hl
  refine lv_iload_n S.1 S.2.1 d_MO_isCode_0 rfl (lv_at hl 0 rfl) ?_
  refine lv_if_le (tgt := 15) S.1 S.2.1 d_MO_isCode_1 (by decide) (fun c1 => ?_) (fun c1 => ?_)
  · refine lv_iconst (v := 0) S.1 S.2.1 d_MO_isCode_15 (by decide) ?_
    exact mm_retz S.1 S.2.1 hr hlocks hA hQ hw (rfl) (⟨rfl, Or.inr ⟨rfl, fun h => h.1 (c1)⟩⟩) (Nat.le_of_ble_eq_true rfl) (Nat.le_of_ble_eq_true rfl) d_MO_isCode_16
  · refine lv_iload_n S.1 S.2.1 d_MO_isCode_4 rfl (lv_at hl 0 rfl) ?_
    refine lv_sipush (v := 9999) S.1 S.2.1 d_MO_isCode_5 (by decide) ?_
    refine lv_icmp_gt (tgt := 15) S.1 S.2.1 d_MO_isCode_8 (by decide) (fun c8 => ?_) (fun c8 => ?_)
    · refine lv_iconst (v := 0) S.1 S.2.1 d_MO_isCode_15 (by decide) ?_
      exact mm_retz S.1 S.2.1 hr hlocks hA hQ hw (rfl) (⟨rfl, Or.inr ⟨rfl, fun h => h.2 c8⟩⟩) (Nat.le_of_ble_eq_true rfl) (Nat.le_of_ble_eq_true rfl) d_MO_isCode_16
    · refine lv_iconst (v := 1) S.1 S.2.1 d_MO_isCode_11 (by decide) ?_
      refine lv_goto (tgt := 16) S.1 S.2.1 d_MO_isCode_12 (by decide) ?_
      exact mm_retz S.1 S.2.1 hr hlocks hA hQ hw (rfl) (⟨rfl, Or.inl ⟨rfl, c1, c8⟩⟩) (Nat.le_of_ble_eq_true rfl) (Nat.le_of_ble_eq_true rfl) d_MO_isCode_16
theorem d_MO_isTask_0 : decode b_MO_isTask 0 = .ok (.iload_n 0, 1) := by decide +kernel
theorem d_MO_isTask_1 : decode b_MO_isTask 1 = .ok (.ifCond .le 13, 3) := by decide +kernel
theorem d_MO_isTask_4 : decode b_MO_isTask 4 = .ok (.iload_n 0, 1) := by decide +kernel
theorem d_MO_isTask_5 : decode b_MO_isTask 5 = .ok (.bipush 40, 2) := by decide +kernel
theorem d_MO_isTask_7 : decode b_MO_isTask 7 = .ok (.if_icmp .gt 7, 3) := by decide +kernel
theorem d_MO_isTask_10 : decode b_MO_isTask 10 = .ok (.iconst 1, 1) := by decide +kernel
theorem d_MO_isTask_11 : decode b_MO_isTask 11 = .ok (.goto 4, 3) := by decide +kernel
theorem d_MO_isTask_14 : decode b_MO_isTask 14 = .ok (.iconst 0, 1) := by decide +kernel
theorem d_MO_isTask_15 : decode b_MO_isTask 15 = .ok (.ireturn, 1) := by decide +kernel
set_option maxHeartbeats 4000000 in
set_option maxRecDepth 100000 in
theorem c_MO_isTask (l : Launch) (D : va_G) (dA : Nat → ClassId) (M : mm_M) (k : Int32) : mm_Ci l y_MO_isTask w_MO_isTask ({ frames := 0, cells := 0, slots := 0, locals := 0 }) 0 0 D vC (tyL dA) [.int k] M (fun r M' => M' = M ∧ ((r = 1 ∧ is_ok 40 k) ∨ (r = 0 ∧ ¬ is_ok 40 k))) := by
  intro sz
  refine mm_start (by decide) (Nat.le_of_ble_eq_true rfl) ?_
  intro p e s m below meth c A Q ls hA hQ S hr hlocks hin hK hw hl
  have hl : lv_has ls 1 [(0, .int k)] := hl
  refine lv_iload_n S.1 S.2.1 d_MO_isTask_0 rfl (lv_at hl 0 rfl) ?_
  refine lv_if_le (tgt := 14) S.1 S.2.1 d_MO_isTask_1 (by decide) (fun c1 => ?_) (fun c1 => ?_)
  · refine lv_iconst (v := 0) S.1 S.2.1 d_MO_isTask_14 (by decide) ?_
    exact mm_retz S.1 S.2.1 hr hlocks hA hQ hw (rfl) (⟨rfl, Or.inr ⟨rfl, fun h => h.1 (c1)⟩⟩) (Nat.le_of_ble_eq_true rfl) (Nat.le_of_ble_eq_true rfl) d_MO_isTask_15
  · refine lv_iload_n S.1 S.2.1 d_MO_isTask_4 rfl (lv_at hl 0 rfl) ?_
    refine lv_bipush (v := 40) S.1 S.2.1 d_MO_isTask_5 (by decide) ?_
    refine lv_icmp_gt (tgt := 14) S.1 S.2.1 d_MO_isTask_7 (by decide) (fun c7 => ?_) (fun c7 => ?_)
    · refine lv_iconst (v := 0) S.1 S.2.1 d_MO_isTask_14 (by decide) ?_
      exact mm_retz S.1 S.2.1 hr hlocks hA hQ hw (rfl) (⟨rfl, Or.inr ⟨rfl, fun h => h.2 c7⟩⟩) (Nat.le_of_ble_eq_true rfl) (Nat.le_of_ble_eq_true rfl) d_MO_isTask_15
    · refine lv_iconst (v := 1) S.1 S.2.1 d_MO_isTask_10 (by decide) ?_
      refine lv_goto (tgt := 15) S.1 S.2.1 d_MO_isTask_11 (by decide) ?_
      exact mm_retz S.1 S.2.1 hr hlocks hA hQ hw (rfl) (⟨rfl, Or.inl ⟨rfl, c1, c7⟩⟩) (Nat.le_of_ble_eq_true rfl) (Nat.le_of_ble_eq_true rfl) d_MO_isTask_15
theorem d_LV_init_0 : decode b_LV_init 0 = .ok (.aload_n 0, 1) := by decide +kernel
theorem d_LV_init_1 : decode b_LV_init 1 = .ok (.invokespecial 1, 3) := by decide +kernel
theorem d_LV_init_4 : decode b_LV_init 4 = .ok (.aload_n 0, 1) := by decide +kernel
theorem d_LV_init_5 : decode b_LV_init 5 = .ok (.iload_n 1, 1) := by decide +kernel
theorem d_LV_init_6 : decode b_LV_init 6 = .ok (.putfield 7, 3) := by decide +kernel
theorem d_LV_init_9 : decode b_LV_init 9 = .ok (.aload_n 0, 1) := by decide +kernel
theorem d_LV_init_10 : decode b_LV_init 10 = .ok (.aload_n 2, 1) := by decide +kernel
theorem d_LV_init_11 : decode b_LV_init 11 = .ok (.putfield 13, 3) := by decide +kernel
theorem d_LV_init_14 : decode b_LV_init 14 = .ok (.aload_n 0, 1) := by decide +kernel
theorem d_LV_init_15 : decode b_LV_init 15 = .ok (.iload_n 3, 1) := by decide +kernel
theorem d_LV_init_16 : decode b_LV_init 16 = .ok (.putfield 17, 3) := by decide +kernel
theorem d_LV_init_19 : decode b_LV_init 19 = .ok (.return_, 1) := by decide +kernel
set_option maxHeartbeats 4000000 in
set_option maxRecDepth 100000 in
theorem c_LV_init (l : Launch) (D : va_G) (dA : Nat → ClassId) (M : mm_M) (q : Nat) (n d : Int32) (ab : Option Nat) (hq : M q = some (.inr (5, [.int 0, .null, .int 0, .null, .int 0]))) : mm_Cv l y_LV_init w_LV_init ({ frames := 1, cells := 0, slots := 0, locals := 20 }) 0 0 D vC (tyL dA) [.ref q, .int n, va_rf ab, .int d] M (fun M' => M' = mm_up M q (.inr (5, [.int n, va_rf ab, .int d, .null, .int 0]))) := by
  intro sz
  refine mm_start (by decide) (by rcases ab with _ | _ <;> exact Nat.le_of_ble_eq_true rfl) ?_
  intro p e s m below meth c A Q ls hA hQ S hr hlocks hin hK hw hl
  have hl : lv_has ls 4 [(0, .ref q), (1, .int n), (2, va_rf ab), (3, .int d)] := by rcases ab with _ | _ <;> exact hl
  refine lv_aload_n S.1 S.2.1 d_LV_init_0 rfl (lv_at hl 0 rfl) ?_
  refine mm_obj S gw_134 gw_25 oi_c hl.1 d_LV_init_1 (by decide) (by decide) ?_
  refine lv_aload_n S.1 S.2.1 d_LV_init_4 rfl (lv_at hl 0 rfl) ?_
  refine lv_iload_n S.1 S.2.1 d_LV_init_5 rfl (lv_at hl 1 rfl) ?_
  refine mm_putF (C := R_LV) (T := T_LV) (N := 5) (ty := .int) (v := .int n) S hK.1 hw hq rfl in_LV t_LV k_LV n_LV 0 (by decide) gw_135 rfl rfl hin rfl (by decide +kernel) (rfl) (rfl) (Nat.le_of_ble_eq_true rfl) d_LV_init_6 (fun H locs hw => ?_)
  obtain ⟨M1, eM1⟩ : ∃ zM : mm_M, zM = mm_up M q (.inr (5, [.int n, .null, .int 0, .null, .int 0])) := ⟨_, rfl⟩
  have hw : mm_w D vC _ _ (mm_up M q (.inr (5, [.int n, .null, .int 0, .null, .int 0]))) H _ := hw
  rw [← eM1] at hw
  have hq_1 : M1 q = some (.inr (5, [.int n, .null, .int 0, .null, .int 0])) := by rw [eM1]; exact mm_us
  refine lv_aload_n S.1 S.2.1 d_LV_init_9 rfl (lv_at hl 0 rfl) ?_
  refine mq_aload_n S.1 S.2.1 d_LV_init_10 rfl (lv_at hl 2 rfl) ?_
  refine mm_putF (C := R_LV) (T := T_LV) (N := 5) (ty := .object "AbendRows$Level") (v := va_rf ab) S hK.1 hw hq_1 rfl in_LV t_LV k_LV n_LV 1 (by decide) gw_137 rfl rfl hin rfl (by decide +kernel) (mq_nar _ _) (mq_fit _ _) (Nat.le_of_ble_eq_true rfl) d_LV_init_11 (fun H locs hw => ?_)
  obtain ⟨M2, eM2⟩ : ∃ zM : mm_M, zM = mm_up M1 q (.inr (5, [.int n, va_rf ab, .int 0, .null, .int 0])) := ⟨_, rfl⟩
  have hw : mm_w D vC _ _ (mm_up M1 q (.inr (5, [.int n, va_rf ab, .int 0, .null, .int 0]))) H _ := hw
  rw [← eM2] at hw
  have hq_2 : M2 q = some (.inr (5, [.int n, va_rf ab, .int 0, .null, .int 0])) := by rw [eM2]; exact mm_us
  refine lv_aload_n S.1 S.2.1 d_LV_init_14 rfl (lv_at hl 0 rfl) ?_
  refine lv_iload_n S.1 S.2.1 d_LV_init_15 rfl (lv_at hl 3 rfl) ?_
  refine mm_putF (C := R_LV) (T := T_LV) (N := 5) (ty := .int) (v := .int d) S hK.1 hw hq_2 rfl in_LV t_LV k_LV n_LV 2 (by decide) gw_140 rfl rfl hin rfl (by decide +kernel) (rfl) (rfl) (Nat.le_of_ble_eq_true rfl) d_LV_init_16 (fun H locs hw => ?_)
  obtain ⟨M3, eM3⟩ : ∃ zM : mm_M, zM = mm_up M2 q (.inr (5, [.int n, va_rf ab, .int d, .null, .int 0])) := ⟨_, rfl⟩
  have hw : mm_w D vC _ _ (mm_up M2 q (.inr (5, [.int n, va_rf ab, .int d, .null, .int 0]))) H _ := hw
  rw [← eM3] at hw
  have hq_3 : M3 q = some (.inr (5, [.int n, va_rf ab, .int d, .null, .int 0])) := by rw [eM3]; exact mm_us
  exact mm_retv S.1 S.2.1 hr hlocks hA hQ hw (by rw [eM3, eM2, eM1, mm_uu, mm_uu]) (Nat.le_of_ble_eq_true rfl) (Nat.le_of_ble_eq_true rfl) d_LV_init_19
theorem d_EX_init_0 : decode b_EX_init 0 = .ok (.aload_n 0, 1) := by decide +kernel
theorem d_EX_init_1 : decode b_EX_init 1 = .ok (.invokespecial 1, 3) := by decide +kernel
theorem d_EX_init_4 : decode b_EX_init 4 = .ok (.aload_n 0, 1) := by decide +kernel
theorem d_EX_init_5 : decode b_EX_init 5 = .ok (.iload_n 1, 1) := by decide +kernel
theorem d_EX_init_6 : decode b_EX_init 6 = .ok (.putfield 7, 3) := by decide +kernel
theorem d_EX_init_9 : decode b_EX_init 9 = .ok (.aload_n 0, 1) := by decide +kernel
theorem d_EX_init_10 : decode b_EX_init 10 = .ok (.iload_n 2, 1) := by decide +kernel
theorem d_EX_init_11 : decode b_EX_init 11 = .ok (.putfield 13, 3) := by decide +kernel
theorem d_EX_init_14 : decode b_EX_init 14 = .ok (.aload_n 0, 1) := by decide +kernel
theorem d_EX_init_15 : decode b_EX_init 15 = .ok (.iload_n 3, 1) := by decide +kernel
theorem d_EX_init_16 : decode b_EX_init 16 = .ok (.putfield 16, 3) := by decide +kernel
theorem d_EX_init_19 : decode b_EX_init 19 = .ok (.aload_n 0, 1) := by decide +kernel
theorem d_EX_init_20 : decode b_EX_init 20 = .ok (.aload 4, 2) := by decide +kernel
theorem d_EX_init_22 : decode b_EX_init 22 = .ok (.putfield 20, 3) := by decide +kernel
theorem d_EX_init_25 : decode b_EX_init 25 = .ok (.return_, 1) := by decide +kernel
set_option maxHeartbeats 4000000 in
set_option maxRecDepth 100000 in
theorem c_EX_init (l : Launch) (D : va_G) (dA : Nat → ClassId) (M : mm_M) (q : Nat) (n d z : Int32) (ea : Option Nat) (hz : z = 0 ∨ z = 1) (hq : M q = some (.inr (6, [.int 0, .int 0, .int 0, .null, .int 0]))) : mm_Cv l y_EX_init w_EX_init ({ frames := 1, cells := 0, slots := 0, locals := 20 }) 0 0 D vC (tyL dA) [.ref q, .int n, .int d, .int z, va_rf ea] M (fun M' => M' = mm_up M q (.inr (6, [.int n, .int d, .int z, va_rf ea, .int 0]))) := by
  intro sz
  refine mm_start (by decide) (by rcases ea with _ | _ <;> exact Nat.le_of_ble_eq_true rfl) ?_
  intro p e s m below meth c A Q ls hA hQ S hr hlocks hin hK hw hl
  have hl : lv_has ls 5 [(0, .ref q), (1, .int n), (2, .int d), (3, .int z), (4, va_rf ea)] := by rcases ea with _ | _ <;> exact hl
  refine lv_aload_n S.1 S.2.1 d_EX_init_0 rfl (lv_at hl 0 rfl) ?_
  refine mm_obj S gw_165 gw_25 oi_c hl.1 d_EX_init_1 (by decide) (by decide) ?_
  refine lv_aload_n S.1 S.2.1 d_EX_init_4 rfl (lv_at hl 0 rfl) ?_
  refine lv_iload_n S.1 S.2.1 d_EX_init_5 rfl (lv_at hl 1 rfl) ?_
  refine mm_putF (C := R_EX) (T := T_EX) (N := 5) (ty := .int) (v := .int n) S hK.1 hw hq rfl in_EX t_EX k_EX n_EX 0 (by decide) gw_166 rfl rfl hin rfl (by decide +kernel) (rfl) (rfl) (Nat.le_of_ble_eq_true rfl) d_EX_init_6 (fun H locs hw => ?_)
  obtain ⟨M1, eM1⟩ : ∃ zM : mm_M, zM = mm_up M q (.inr (6, [.int n, .int 0, .int 0, .null, .int 0])) := ⟨_, rfl⟩
  have hw : mm_w D vC _ _ (mm_up M q (.inr (6, [.int n, .int 0, .int 0, .null, .int 0]))) H _ := hw
  rw [← eM1] at hw
  have hq_1 : M1 q = some (.inr (6, [.int n, .int 0, .int 0, .null, .int 0])) := by rw [eM1]; exact mm_us
  refine lv_aload_n S.1 S.2.1 d_EX_init_9 rfl (lv_at hl 0 rfl) ?_
  refine lv_iload_n S.1 S.2.1 d_EX_init_10 rfl (lv_at hl 2 rfl) ?_
  refine mm_putF (C := R_EX) (T := T_EX) (N := 5) (ty := .int) (v := .int d) S hK.1 hw hq_1 rfl in_EX t_EX k_EX n_EX 1 (by decide) gw_168 rfl rfl hin rfl (by decide +kernel) (rfl) (rfl) (Nat.le_of_ble_eq_true rfl) d_EX_init_11 (fun H locs hw => ?_)
  obtain ⟨M2, eM2⟩ : ∃ zM : mm_M, zM = mm_up M1 q (.inr (6, [.int n, .int d, .int 0, .null, .int 0])) := ⟨_, rfl⟩
  have hw : mm_w D vC _ _ (mm_up M1 q (.inr (6, [.int n, .int d, .int 0, .null, .int 0]))) H _ := hw
  rw [← eM2] at hw
  have hq_2 : M2 q = some (.inr (6, [.int n, .int d, .int 0, .null, .int 0])) := by rw [eM2]; exact mm_us
  refine lv_aload_n S.1 S.2.1 d_EX_init_14 rfl (lv_at hl 0 rfl) ?_
  refine lv_iload_n S.1 S.2.1 d_EX_init_15 rfl (lv_at hl 3 rfl) ?_
  refine mm_putF (C := R_EX) (T := T_EX) (N := 5) (ty := .boolean) (v := .int z) S hK.1 hw hq_2 rfl in_EX t_EX k_EX n_EX 2 (by decide) gw_170 rfl rfl hin rfl (by decide +kernel) (mz_nar (hz)) (mz_fit (hz)) (Nat.le_of_ble_eq_true rfl) d_EX_init_16 (fun H locs hw => ?_)
  obtain ⟨M3, eM3⟩ : ∃ zM : mm_M, zM = mm_up M2 q (.inr (6, [.int n, .int d, .int z, .null, .int 0])) := ⟨_, rfl⟩
  have hw : mm_w D vC _ _ (mm_up M2 q (.inr (6, [.int n, .int d, .int z, .null, .int 0]))) H _ := hw
  rw [← eM3] at hw
  have hq_3 : M3 q = some (.inr (6, [.int n, .int d, .int z, .null, .int 0])) := by rw [eM3]; exact mm_us
  refine lv_aload_n S.1 S.2.1 d_EX_init_19 rfl (lv_at hl 0 rfl) ?_
  refine mq_aload S.1 S.2.1 d_EX_init_20 (lv_at hl 4 rfl) ?_
  refine mm_putF (C := R_EX) (T := T_EX) (N := 5) (ty := .object "AbendRows$Exit") (v := va_rf ea) S hK.1 hw hq_3 rfl in_EX t_EX k_EX n_EX 3 (by decide) gw_172 rfl rfl hin rfl (by decide +kernel) (mq_nar _ _) (mq_fit _ _) (Nat.le_of_ble_eq_true rfl) d_EX_init_22 (fun H locs hw => ?_)
  obtain ⟨M4, eM4⟩ : ∃ zM : mm_M, zM = mm_up M3 q (.inr (6, [.int n, .int d, .int z, va_rf ea, .int 0])) := ⟨_, rfl⟩
  have hw : mm_w D vC _ _ (mm_up M3 q (.inr (6, [.int n, .int d, .int z, va_rf ea, .int 0]))) H _ := hw
  rw [← eM4] at hw
  have hq_4 : M4 q = some (.inr (6, [.int n, .int d, .int z, va_rf ea, .int 0])) := by rw [eM4]; exact mm_us
  exact mm_retv S.1 S.2.1 hr hlocks hA hQ hw (by rw [eM4, eM3, eM2, eM1, mm_uu, mm_uu, mm_uu]) (Nat.le_of_ble_eq_true rfl) (Nat.le_of_ble_eq_true rfl) d_EX_init_25
theorem d_GU_init_0 : decode b_GU_init 0 = .ok (.aload_n 0, 1) := by decide +kernel
theorem d_GU_init_1 : decode b_GU_init 1 = .ok (.invokespecial 1, 3) := by decide +kernel
theorem d_GU_init_4 : decode b_GU_init 4 = .ok (.aload_n 0, 1) := by decide +kernel
theorem d_GU_init_5 : decode b_GU_init 5 = .ok (.iload_n 1, 1) := by decide +kernel
theorem d_GU_init_6 : decode b_GU_init 6 = .ok (.putfield 7, 3) := by decide +kernel
theorem d_GU_init_9 : decode b_GU_init 9 = .ok (.aload_n 0, 1) := by decide +kernel
theorem d_GU_init_10 : decode b_GU_init 10 = .ok (.iload_n 2, 1) := by decide +kernel
theorem d_GU_init_11 : decode b_GU_init 11 = .ok (.putfield 13, 3) := by decide +kernel
theorem d_GU_init_14 : decode b_GU_init 14 = .ok (.return_, 1) := by decide +kernel
set_option maxHeartbeats 4000000 in
set_option maxRecDepth 100000 in
theorem c_GU_init (l : Launch) (D : va_G) (dA : Nat → ClassId) (M : mm_M) (q : Nat) (t z : Int32) (hq : M q = some (.inr (7, [.int 0, .int 0, .int 0, .int 0]))) : mm_Cv l y_GU_init w_GU_init ({ frames := 1, cells := 0, slots := 0, locals := 20 }) 0 0 D vC (tyL dA) [.ref q, .int t, .int z] M (fun M' => M' = mm_up M q (.inr (7, [.int t, .int z, .int 0, .int 0]))) := by
  intro sz
  refine mm_start (by decide) (Nat.le_of_ble_eq_true rfl) ?_
  intro p e s m below meth c A Q ls hA hQ S hr hlocks hin hK hw hl
  have hl : lv_has ls 3 [(0, .ref q), (1, .int t), (2, .int z)] := hl
  refine lv_aload_n S.1 S.2.1 d_GU_init_0 rfl (lv_at hl 0 rfl) ?_
  refine mm_obj S gw_297 gw_25 oi_c hl.1 d_GU_init_1 (by decide) (by decide) ?_
  refine lv_aload_n S.1 S.2.1 d_GU_init_4 rfl (lv_at hl 0 rfl) ?_
  refine lv_iload_n S.1 S.2.1 d_GU_init_5 rfl (lv_at hl 1 rfl) ?_
  refine mm_putF (C := R_GU) (T := T_GU) (N := 4) (ty := .int) (v := .int t) S hK.1 hw hq rfl in_GU t_GU k_GU n_GU 0 (by decide) gw_298 rfl rfl hin rfl (by decide +kernel) (rfl) (rfl) (Nat.le_of_ble_eq_true rfl) d_GU_init_6 (fun H locs hw => ?_)
  obtain ⟨M1, eM1⟩ : ∃ zM : mm_M, zM = mm_up M q (.inr (7, [.int t, .int 0, .int 0, .int 0])) := ⟨_, rfl⟩
  have hw : mm_w D vC _ _ (mm_up M q (.inr (7, [.int t, .int 0, .int 0, .int 0]))) H _ := hw
  rw [← eM1] at hw
  have hq_1 : M1 q = some (.inr (7, [.int t, .int 0, .int 0, .int 0])) := by rw [eM1]; exact mm_us
  refine lv_aload_n S.1 S.2.1 d_GU_init_9 rfl (lv_at hl 0 rfl) ?_
  refine lv_iload_n S.1 S.2.1 d_GU_init_10 rfl (lv_at hl 2 rfl) ?_
  refine mm_putF (C := R_GU) (T := T_GU) (N := 4) (ty := .int) (v := .int z) S hK.1 hw hq_1 rfl in_GU t_GU k_GU n_GU 1 (by decide) gw_300 rfl rfl hin rfl (by decide +kernel) (rfl) (rfl) (Nat.le_of_ble_eq_true rfl) d_GU_init_11 (fun H locs hw => ?_)
  obtain ⟨M2, eM2⟩ : ∃ zM : mm_M, zM = mm_up M1 q (.inr (7, [.int t, .int z, .int 0, .int 0])) := ⟨_, rfl⟩
  have hw : mm_w D vC _ _ (mm_up M1 q (.inr (7, [.int t, .int z, .int 0, .int 0]))) H _ := hw
  rw [← eM2] at hw
  have hq_2 : M2 q = some (.inr (7, [.int t, .int z, .int 0, .int 0])) := by rw [eM2]; exact mm_us
  exact mm_retv S.1 S.2.1 hr hlocks hA hQ hw (by rw [eM2, eM1, mm_uu]) (Nat.le_of_ble_eq_true rfl) (Nat.le_of_ble_eq_true rfl) d_GU_init_14
theorem d_DU_init_0 : decode b_DU_init 0 = .ok (.aload_n 0, 1) := by decide +kernel
theorem d_DU_init_1 : decode b_DU_init 1 = .ok (.invokespecial 1, 3) := by decide +kernel
theorem d_DU_init_4 : decode b_DU_init 4 = .ok (.aload_n 0, 1) := by decide +kernel
theorem d_DU_init_5 : decode b_DU_init 5 = .ok (.iload_n 1, 1) := by decide +kernel
theorem d_DU_init_6 : decode b_DU_init 6 = .ok (.putfield 7, 3) := by decide +kernel
theorem d_DU_init_9 : decode b_DU_init 9 = .ok (.aload_n 0, 1) := by decide +kernel
theorem d_DU_init_10 : decode b_DU_init 10 = .ok (.iload_n 2, 1) := by decide +kernel
theorem d_DU_init_11 : decode b_DU_init 11 = .ok (.putfield 13, 3) := by decide +kernel
theorem d_DU_init_14 : decode b_DU_init 14 = .ok (.aload_n 0, 1) := by decide +kernel
theorem d_DU_init_15 : decode b_DU_init 15 = .ok (.iload_n 3, 1) := by decide +kernel
theorem d_DU_init_16 : decode b_DU_init 16 = .ok (.putfield 16, 3) := by decide +kernel
theorem d_DU_init_19 : decode b_DU_init 19 = .ok (.aload_n 0, 1) := by decide +kernel
theorem d_DU_init_20 : decode b_DU_init 20 = .ok (.iload 4, 2) := by decide +kernel
theorem d_DU_init_22 : decode b_DU_init 22 = .ok (.putfield 19, 3) := by decide +kernel
theorem d_DU_init_25 : decode b_DU_init 25 = .ok (.aload_n 0, 1) := by decide +kernel
theorem d_DU_init_26 : decode b_DU_init 26 = .ok (.iload 5, 2) := by decide +kernel
theorem d_DU_init_28 : decode b_DU_init 28 = .ok (.putfield 22, 3) := by decide +kernel
theorem d_DU_init_31 : decode b_DU_init 31 = .ok (.return_, 1) := by decide +kernel
set_option maxHeartbeats 4000000 in
set_option maxRecDepth 100000 in
theorem c_DU_init (l : Launch) (D : va_G) (dA : Nat → ClassId) (M : mm_M) (q : Nat) (t k g b z : Int32) (hz : z = 0 ∨ z = 1) (hq : M q = some (.inr (8, [.int 0, .int 0, .int 0, .int 0, .int 0]))) : mm_Cv l y_DU_init w_DU_init ({ frames := 1, cells := 0, slots := 0, locals := 20 }) 0 0 D vC (tyL dA) [.ref q, .int t, .int k, .int g, .int b, .int z] M (fun M' => M' = mm_up M q (.inr (8, [.int t, .int k, .int g, .int b, .int z]))) := by
  intro sz
  refine mm_start (by decide) (Nat.le_of_ble_eq_true rfl) ?_
  intro p e s m below meth c A Q ls hA hQ S hr hlocks hin hK hw hl
  have hl : lv_has ls 6 [(0, .ref q), (1, .int t), (2, .int k), (3, .int g), (4, .int b), (5, .int z)] := hl
  refine lv_aload_n S.1 S.2.1 d_DU_init_0 rfl (lv_at hl 0 rfl) ?_
  refine mm_obj S gw_263 gw_25 oi_c hl.1 d_DU_init_1 (by decide) (by decide) ?_
  refine lv_aload_n S.1 S.2.1 d_DU_init_4 rfl (lv_at hl 0 rfl) ?_
  refine lv_iload_n S.1 S.2.1 d_DU_init_5 rfl (lv_at hl 1 rfl) ?_
  refine mm_putF (C := R_DU) (T := T_DU) (N := 5) (ty := .int) (v := .int t) S hK.1 hw hq rfl in_DU t_DU k_DU n_DU 0 (by decide) gw_264 rfl rfl hin rfl (by decide +kernel) (rfl) (rfl) (Nat.le_of_ble_eq_true rfl) d_DU_init_6 (fun H locs hw => ?_)
  obtain ⟨M1, eM1⟩ : ∃ zM : mm_M, zM = mm_up M q (.inr (8, [.int t, .int 0, .int 0, .int 0, .int 0])) := ⟨_, rfl⟩
  have hw : mm_w D vC _ _ (mm_up M q (.inr (8, [.int t, .int 0, .int 0, .int 0, .int 0]))) H _ := hw
  rw [← eM1] at hw
  have hq_1 : M1 q = some (.inr (8, [.int t, .int 0, .int 0, .int 0, .int 0])) := by rw [eM1]; exact mm_us
  refine lv_aload_n S.1 S.2.1 d_DU_init_9 rfl (lv_at hl 0 rfl) ?_
  refine lv_iload_n S.1 S.2.1 d_DU_init_10 rfl (lv_at hl 2 rfl) ?_
  refine mm_putF (C := R_DU) (T := T_DU) (N := 5) (ty := .int) (v := .int k) S hK.1 hw hq_1 rfl in_DU t_DU k_DU n_DU 1 (by decide) gw_266 rfl rfl hin rfl (by decide +kernel) (rfl) (rfl) (Nat.le_of_ble_eq_true rfl) d_DU_init_11 (fun H locs hw => ?_)
  obtain ⟨M2, eM2⟩ : ∃ zM : mm_M, zM = mm_up M1 q (.inr (8, [.int t, .int k, .int 0, .int 0, .int 0])) := ⟨_, rfl⟩
  have hw : mm_w D vC _ _ (mm_up M1 q (.inr (8, [.int t, .int k, .int 0, .int 0, .int 0]))) H _ := hw
  rw [← eM2] at hw
  have hq_2 : M2 q = some (.inr (8, [.int t, .int k, .int 0, .int 0, .int 0])) := by rw [eM2]; exact mm_us
  refine lv_aload_n S.1 S.2.1 d_DU_init_14 rfl (lv_at hl 0 rfl) ?_
  refine lv_iload_n S.1 S.2.1 d_DU_init_15 rfl (lv_at hl 3 rfl) ?_
  refine mm_putF (C := R_DU) (T := T_DU) (N := 5) (ty := .int) (v := .int g) S hK.1 hw hq_2 rfl in_DU t_DU k_DU n_DU 2 (by decide) gw_268 rfl rfl hin rfl (by decide +kernel) (rfl) (rfl) (Nat.le_of_ble_eq_true rfl) d_DU_init_16 (fun H locs hw => ?_)
  obtain ⟨M3, eM3⟩ : ∃ zM : mm_M, zM = mm_up M2 q (.inr (8, [.int t, .int k, .int g, .int 0, .int 0])) := ⟨_, rfl⟩
  have hw : mm_w D vC _ _ (mm_up M2 q (.inr (8, [.int t, .int k, .int g, .int 0, .int 0]))) H _ := hw
  rw [← eM3] at hw
  have hq_3 : M3 q = some (.inr (8, [.int t, .int k, .int g, .int 0, .int 0])) := by rw [eM3]; exact mm_us
  refine lv_aload_n S.1 S.2.1 d_DU_init_19 rfl (lv_at hl 0 rfl) ?_
  refine lv_iload S.1 S.2.1 d_DU_init_20 (lv_at hl 4 rfl) ?_
  refine mm_putF (C := R_DU) (T := T_DU) (N := 5) (ty := .int) (v := .int b) S hK.1 hw hq_3 rfl in_DU t_DU k_DU n_DU 3 (by decide) gw_270 rfl rfl hin rfl (by decide +kernel) (rfl) (rfl) (Nat.le_of_ble_eq_true rfl) d_DU_init_22 (fun H locs hw => ?_)
  obtain ⟨M4, eM4⟩ : ∃ zM : mm_M, zM = mm_up M3 q (.inr (8, [.int t, .int k, .int g, .int b, .int 0])) := ⟨_, rfl⟩
  have hw : mm_w D vC _ _ (mm_up M3 q (.inr (8, [.int t, .int k, .int g, .int b, .int 0]))) H _ := hw
  rw [← eM4] at hw
  have hq_4 : M4 q = some (.inr (8, [.int t, .int k, .int g, .int b, .int 0])) := by rw [eM4]; exact mm_us
  refine lv_aload_n S.1 S.2.1 d_DU_init_25 rfl (lv_at hl 0 rfl) ?_
  refine lv_iload S.1 S.2.1 d_DU_init_26 (lv_at hl 5 rfl) ?_
  refine mm_putF (C := R_DU) (T := T_DU) (N := 5) (ty := .boolean) (v := .int z) S hK.1 hw hq_4 rfl in_DU t_DU k_DU n_DU 4 (by decide) gw_272 rfl rfl hin rfl (by decide +kernel) (mz_nar (hz)) (mz_fit (hz)) (Nat.le_of_ble_eq_true rfl) d_DU_init_28 (fun H locs hw => ?_)
  obtain ⟨M5, eM5⟩ : ∃ zM : mm_M, zM = mm_up M4 q (.inr (8, [.int t, .int k, .int g, .int b, .int z])) := ⟨_, rfl⟩
  have hw : mm_w D vC _ _ (mm_up M4 q (.inr (8, [.int t, .int k, .int g, .int b, .int z]))) H _ := hw
  rw [← eM5] at hw
  have hq_5 : M5 q = some (.inr (8, [.int t, .int k, .int g, .int b, .int z])) := by rw [eM5]; exact mm_us
  exact mm_retv S.1 S.2.1 hr hlocks hA hQ hw (by rw [eM5, eM4, eM3, eM2, eM1, mm_uu, mm_uu, mm_uu, mm_uu]) (Nat.le_of_ble_eq_true rfl) (Nat.le_of_ble_eq_true rfl) d_DU_init_31
theorem d_SE_init_0 : decode b_SE_init 0 = .ok (.aload_n 0, 1) := by decide +kernel
theorem d_SE_init_1 : decode b_SE_init 1 = .ok (.invokespecial 3, 3) := by decide +kernel
theorem d_SE_init_4 : decode b_SE_init 4 = .ok (.aload_n 0, 1) := by decide +kernel
theorem d_SE_init_5 : decode b_SE_init 5 = .ok (.sipush 200, 3) := by decide +kernel
theorem d_SE_init_8 : decode b_SE_init 8 = .ok (.newarray .int, 2) := by decide +kernel
theorem d_SE_init_10 : decode b_SE_init 10 = .ok (.putfield 9, 3) := by decide +kernel
theorem d_SE_init_13 : decode b_SE_init 13 = .ok (.return_, 1) := by decide +kernel
set_option maxHeartbeats 4000000 in
set_option maxRecDepth 100000 in
theorem c_SE_init (l : Launch) (D : va_G) (dA : Nat → ClassId) (M : mm_M) (q : Nat) (hq : M q = some (.inr (1, [.null, .int 0, .int 0]))) : mm_Cv l y_SE_init w_SE_init ({ frames := 1, cells := 1, slots := 200, locals := 20 }) 1 200 D vC (tyL dA) [.ref q] M (fun M' => ∃ qa : Nat, M qa = none ∧ M' = mm_up (mm_up M qa (.inl (dA 0, 200, .inl (fun _ => 0)))) q (.inr (1, [.ref qa, .int 0, .int 0]))) := by
  intro sz
  refine mm_start (by decide) (Nat.le_of_ble_eq_true rfl) ?_
  intro p e s m below meth c A Q ls hA hQ S hr hlocks hin hK hw hl
  have hl : lv_has ls 1 [(0, .ref q)] := hl
  refine lv_aload_n S.1 S.2.1 d_SE_init_0 rfl (lv_at hl 0 rfl) ?_
  refine mm_obj S gw_34 gw_25 oi_c hl.1 d_SE_init_1 (by decide) (by decide) ?_
  refine lv_aload_n S.1 S.2.1 d_SE_init_4 rfl (lv_at hl 0 rfl) ?_
  refine lv_sipush (v := 200) S.1 S.2.1 d_SE_init_5 (by decide) ?_
  refine mm_newa (atype := .int) (ty := .int) (N' := 200) (a0 := (200, .inl (fun _ => 0))) S hK.1 hw 0 gw_46 rfl rfl ((hK.1.2 0 _ rfl).2) (fun _ => rfl) (by decide) (by decide) (by decide) (Nat.le_of_ble_eq_true rfl) (Nat.le_of_ble_eq_true rfl) (fun _ h => by cases h) d_SE_init_8 (fun qa H hqqa hw => ?_)
  obtain ⟨M1, eM1⟩ : ∃ zM : mm_M, zM = mm_up M qa (.inl (dA 0, 200, .inl (fun _ => 0))) := ⟨_, rfl⟩
  have hw : mm_w D vC _ _ (mm_up M qa (.inl (dA 0, 200, .inl (fun _ => 0)))) H _ := hw
  rw [← eM1] at hw
  have hq_1 : M1 q = some (.inr (1, [.null, .int 0, .int 0])) := by rw [eM1]; exact mm_fk hqqa hq
  have hqa_1 : M1 qa = some (.inl (dA 0, 200, .inl (fun _ => 0))) := by rw [eM1]; exact mm_us
  refine mm_putF (C := R_SE) (T := T_SE) (N := 3) (ty := .array .int) (v := .ref qa) S hK.1 hw hq_1 rfl in_SE t_SE k_SE n_SE 0 (by decide) gw_35 rfl rfl hin rfl (by decide +kernel) (rfl) (rfl) (Nat.le_of_ble_eq_true rfl) d_SE_init_10 (fun H locs hw => ?_)
  obtain ⟨M2, eM2⟩ : ∃ zM : mm_M, zM = mm_up M1 q (.inr (1, [.ref qa, .int 0, .int 0])) := ⟨_, rfl⟩
  have hw : mm_w D vC _ _ (mm_up M1 q (.inr (1, [.ref qa, .int 0, .int 0]))) H _ := hw
  rw [← eM2] at hw
  have hqa_2 : M2 qa = some (.inl (dA 0, 200, .inl (fun _ => 0))) := by rw [eM2]; exact mm_uk hq_1 hqa_1 (by simp)
  have hq_2 : M2 q = some (.inr (1, [.ref qa, .int 0, .int 0])) := by rw [eM2]; exact mm_us
  exact mm_retv S.1 S.2.1 hr hlocks hA hQ hw (⟨qa, hqqa, by rw [eM2, eM1]⟩) (Nat.le_of_ble_eq_true rfl) (Nat.le_of_ble_eq_true rfl) d_SE_init_13
theorem d_CG_init_0 : decode b_CG_init 0 = .ok (.aload_n 0, 1) := by decide +kernel
theorem d_CG_init_1 : decode b_CG_init 1 = .ok (.invokespecial 3, 3) := by decide +kernel
theorem d_CG_init_4 : decode b_CG_init 4 = .ok (.aload_n 0, 1) := by decide +kernel
theorem d_CG_init_5 : decode b_CG_init 5 = .ok (.sipush 512, 3) := by decide +kernel
theorem d_CG_init_8 : decode b_CG_init 8 = .ok (.newarray .int, 2) := by decide +kernel
theorem d_CG_init_10 : decode b_CG_init 10 = .ok (.putfield 9, 3) := by decide +kernel
theorem d_CG_init_13 : decode b_CG_init 13 = .ok (.return_, 1) := by decide +kernel
set_option maxHeartbeats 4000000 in
set_option maxRecDepth 100000 in
theorem c_CG_init (l : Launch) (D : va_G) (dA : Nat → ClassId) (M : mm_M) (q : Nat) (hq : M q = some (.inr (4, [.null, .int 0]))) : mm_Cv l y_CG_init w_CG_init ({ frames := 1, cells := 1, slots := 512, locals := 20 }) 1 512 D vC (tyL dA) [.ref q] M (fun M' => ∃ qa : Nat, M qa = none ∧ M' = mm_up (mm_up M qa (.inl (dA 0, 512, .inl (fun _ => 0)))) q (.inr (4, [.ref qa, .int 0]))) := by
  intro sz
  refine mm_start (by decide) (Nat.le_of_ble_eq_true rfl) ?_
  intro p e s m below meth c A Q ls hA hQ S hr hlocks hin hK hw hl
  have hl : lv_has ls 1 [(0, .ref q)] := hl
  refine lv_aload_n S.1 S.2.1 d_CG_init_0 rfl (lv_at hl 0 rfl) ?_
  refine mm_obj S gw_80 gw_25 oi_c hl.1 d_CG_init_1 (by decide) (by decide) ?_
  refine lv_aload_n S.1 S.2.1 d_CG_init_4 rfl (lv_at hl 0 rfl) ?_
  refine lv_sipush (v := 512) S.1 S.2.1 d_CG_init_5 (by decide) ?_
  refine mm_newa (atype := .int) (ty := .int) (N' := 512) (a0 := (512, .inl (fun _ => 0))) S hK.1 hw 0 gw_46 rfl rfl ((hK.1.2 0 _ rfl).2) (fun _ => rfl) (by decide) (by decide) (by decide) (Nat.le_of_ble_eq_true rfl) (Nat.le_of_ble_eq_true rfl) (fun _ h => by cases h) d_CG_init_8 (fun qa H hqqa hw => ?_)
  obtain ⟨M1, eM1⟩ : ∃ zM : mm_M, zM = mm_up M qa (.inl (dA 0, 512, .inl (fun _ => 0))) := ⟨_, rfl⟩
  have hw : mm_w D vC _ _ (mm_up M qa (.inl (dA 0, 512, .inl (fun _ => 0)))) H _ := hw
  rw [← eM1] at hw
  have hq_1 : M1 q = some (.inr (4, [.null, .int 0])) := by rw [eM1]; exact mm_fk hqqa hq
  have hqa_1 : M1 qa = some (.inl (dA 0, 512, .inl (fun _ => 0))) := by rw [eM1]; exact mm_us
  refine mm_putF (C := R_CG) (T := T_CG) (N := 2) (ty := .array .int) (v := .ref qa) S hK.1 hw hq_1 rfl in_CG t_CG k_CG n_CG 0 (by decide) gw_81 rfl rfl hin rfl (by decide +kernel) (rfl) (rfl) (Nat.le_of_ble_eq_true rfl) d_CG_init_10 (fun H locs hw => ?_)
  obtain ⟨M2, eM2⟩ : ∃ zM : mm_M, zM = mm_up M1 q (.inr (4, [.ref qa, .int 0])) := ⟨_, rfl⟩
  have hw : mm_w D vC _ _ (mm_up M1 q (.inr (4, [.ref qa, .int 0]))) H _ := hw
  rw [← eM2] at hw
  have hqa_2 : M2 qa = some (.inl (dA 0, 512, .inl (fun _ => 0))) := by rw [eM2]; exact mm_uk hq_1 hqa_1 (by simp)
  have hq_2 : M2 q = some (.inr (4, [.ref qa, .int 0])) := by rw [eM2]; exact mm_us
  exact mm_retv S.1 S.2.1 hr hlocks hA hQ hw (⟨qa, hqqa, by rw [eM2, eM1]⟩) (Nat.le_of_ble_eq_true rfl) (Nat.le_of_ble_eq_true rfl) d_CG_init_13
theorem d_CS_init_0 : decode b_CS_init 0 = .ok (.aload_n 0, 1) := by decide +kernel
theorem d_CS_init_1 : decode b_CS_init 1 = .ok (.invokespecial 3, 3) := by decide +kernel
theorem d_CS_init_4 : decode b_CS_init 4 = .ok (.aload_n 0, 1) := by decide +kernel
theorem d_CS_init_5 : decode b_CS_init 5 = .ok (.sipush 157, 3) := by decide +kernel
theorem d_CS_init_8 : decode b_CS_init 8 = .ok (.newarray .long, 2) := by decide +kernel
theorem d_CS_init_10 : decode b_CS_init 10 = .ok (.putfield 11, 3) := by decide +kernel
theorem d_CS_init_13 : decode b_CS_init 13 = .ok (.return_, 1) := by decide +kernel
set_option maxHeartbeats 4000000 in
set_option maxRecDepth 100000 in
theorem c_CS_init (l : Launch) (D : va_G) (dA : Nat → ClassId) (M : mm_M) (q : Nat) (hq : M q = some (.inr (3, [.null]))) : mm_Cv l y_CS_init w_CS_init ({ frames := 1, cells := 1, slots := 157, locals := 20 }) 1 157 D vC (tyL dA) [.ref q] M (fun M' => ∃ qa : Nat, M qa = none ∧ M' = mm_up (mm_up M qa (.inl (dA 1, 157, .inr (.inl (fun _ => 0))))) q (.inr (3, [.ref qa]))) := by
  intro sz
  refine mm_start (by decide) (Nat.le_of_ble_eq_true rfl) ?_
  intro p e s m below meth c A Q ls hA hQ S hr hlocks hin hK hw hl
  have hl : lv_has ls 1 [(0, .ref q)] := hl
  refine lv_aload_n S.1 S.2.1 d_CS_init_0 rfl (lv_at hl 0 rfl) ?_
  refine mm_obj S gw_70 gw_25 oi_c hl.1 d_CS_init_1 (by decide) (by decide) ?_
  refine lv_aload_n S.1 S.2.1 d_CS_init_4 rfl (lv_at hl 0 rfl) ?_
  refine lv_sipush (v := 157) S.1 S.2.1 d_CS_init_5 (by decide) ?_
  refine mm_newa (atype := .long) (ty := .long) (N' := 157) (a0 := (157, .inr (.inl (fun _ => 0)))) S hK.1 hw 1 gw_64 rfl rfl ((hK.1.2 1 _ rfl).2) (fun _ => rfl) (by decide) (by decide) (by decide) (Nat.le_of_ble_eq_true rfl) (Nat.le_of_ble_eq_true rfl) (fun _ h => by cases h) d_CS_init_8 (fun qa H hqqa hw => ?_)
  obtain ⟨M1, eM1⟩ : ∃ zM : mm_M, zM = mm_up M qa (.inl (dA 1, 157, .inr (.inl (fun _ => 0)))) := ⟨_, rfl⟩
  have hw : mm_w D vC _ _ (mm_up M qa (.inl (dA 1, 157, .inr (.inl (fun _ => 0))))) H _ := hw
  rw [← eM1] at hw
  have hq_1 : M1 q = some (.inr (3, [.null])) := by rw [eM1]; exact mm_fk hqqa hq
  have hqa_1 : M1 qa = some (.inl (dA 1, 157, .inr (.inl (fun _ => 0)))) := by rw [eM1]; exact mm_us
  refine mm_putF (C := R_CS) (T := T_CS) (N := 1) (ty := .array .long) (v := .ref qa) S hK.1 hw hq_1 rfl in_CS t_CS k_CS n_CS 0 (by decide) gw_71 rfl rfl hin rfl (by decide +kernel) (rfl) (rfl) (Nat.le_of_ble_eq_true rfl) d_CS_init_10 (fun H locs hw => ?_)
  obtain ⟨M2, eM2⟩ : ∃ zM : mm_M, zM = mm_up M1 q (.inr (3, [.ref qa])) := ⟨_, rfl⟩
  have hw : mm_w D vC _ _ (mm_up M1 q (.inr (3, [.ref qa]))) H _ := hw
  rw [← eM2] at hw
  have hqa_2 : M2 qa = some (.inl (dA 1, 157, .inr (.inl (fun _ => 0)))) := by rw [eM2]; exact mm_uk hq_1 hqa_1 (by simp)
  have hq_2 : M2 q = some (.inr (3, [.ref qa])) := by rw [eM2]; exact mm_us
  exact mm_retv S.1 S.2.1 hr hlocks hA hQ hw (⟨qa, hqqa, by rw [eM2, eM1]⟩) (Nat.le_of_ble_eq_true rfl) (Nat.le_of_ble_eq_true rfl) d_CS_init_13
theorem d_DR_init_0 : decode b_DR_init 0 = .ok (.aload_n 0, 1) := by decide +kernel
theorem d_DR_init_1 : decode b_DR_init 1 = .ok (.invokespecial 3, 3) := by decide +kernel
theorem d_DR_init_4 : decode b_DR_init 4 = .ok (.aload_n 0, 1) := by decide +kernel
theorem d_DR_init_5 : decode b_DR_init 5 = .ok (.bipush 50, 2) := by decide +kernel
theorem d_DR_init_7 : decode b_DR_init 7 = .ok (.anewarray 9, 3) := by decide +kernel
theorem d_DR_init_10 : decode b_DR_init 10 = .ok (.putfield 11, 3) := by decide +kernel
theorem d_DR_init_13 : decode b_DR_init 13 = .ok (.return_, 1) := by decide +kernel
set_option maxHeartbeats 4000000 in
set_option maxRecDepth 100000 in
theorem c_DR_init (l : Launch) (D : va_G) (dA : Nat → ClassId) (M : mm_M) (q : Nat) (hq : M q = some (.inr (2, [.null, .int 0]))) : mm_Cv l y_DR_init w_DR_init ({ frames := 1, cells := 1, slots := 50, locals := 20 }) 1 50 D vC (tyL dA) [.ref q] M (fun M' => ∃ qa : Nat, M qa = none ∧ M' = mm_up (mm_up M qa (.inl (dA 5, 50, .inr (.inr (.inr (.inr (fun _ => none))))))) q (.inr (2, [.ref qa, .int 0]))) := by
  intro sz
  refine mm_start (by decide) (Nat.le_of_ble_eq_true rfl) ?_
  intro p e s m below meth c A Q ls hA hQ S hr hlocks hin hK hw hl
  have hl : lv_has ls 1 [(0, .ref q)] := hl
  refine lv_aload_n S.1 S.2.1 d_DR_init_0 rfl (lv_at hl 0 rfl) ?_
  refine mm_obj S gw_54 gw_25 oi_c hl.1 d_DR_init_1 (by decide) (by decide) ?_
  refine lv_aload_n S.1 S.2.1 d_DR_init_4 rfl (lv_at hl 0 rfl) ?_
  refine lv_bipush (v := 50) S.1 S.2.1 d_DR_init_5 (by decide) ?_
  refine mm_newq (C := "AbendRows$Dump") (N' := 50) S hK.1 hw 5 gw_55 hK.2.1.2.2 rfl (by decide) (by decide) (by decide) (Nat.le_of_ble_eq_true rfl) (Nat.le_of_ble_eq_true rfl) d_DR_init_7 (fun qa H hqqa hw => ?_)
  obtain ⟨M1, eM1⟩ : ∃ zM : mm_M, zM = mm_up M qa (.inl (dA 5, 50, .inr (.inr (.inr (.inr (fun _ => none)))))) := ⟨_, rfl⟩
  have hw : mm_w D vC _ _ (mm_up M qa (.inl (dA 5, 50, .inr (.inr (.inr (.inr (fun _ => none))))))) H _ := hw
  rw [← eM1] at hw
  have hq_1 : M1 q = some (.inr (2, [.null, .int 0])) := by rw [eM1]; exact mm_fk hqqa hq
  have hqa_1 : M1 qa = some (.inl (dA 5, 50, .inr (.inr (.inr (.inr (fun _ => none)))))) := by rw [eM1]; exact mm_us
  refine mm_putF (C := R_DR) (T := T_DR) (N := 2) (ty := .array (.object "AbendRows$Dump")) (v := .ref qa) S hK.1 hw hq_1 rfl in_DR t_DR k_DR n_DR 0 (by decide) gw_57 rfl rfl hin rfl (by decide +kernel) (rfl) (rfl) (Nat.le_of_ble_eq_true rfl) d_DR_init_10 (fun H locs hw => ?_)
  obtain ⟨M2, eM2⟩ : ∃ zM : mm_M, zM = mm_up M1 q (.inr (2, [.ref qa, .int 0])) := ⟨_, rfl⟩
  have hw : mm_w D vC _ _ (mm_up M1 q (.inr (2, [.ref qa, .int 0]))) H _ := hw
  rw [← eM2] at hw
  have hqa_2 : M2 qa = some (.inl (dA 5, 50, .inr (.inr (.inr (.inr (fun _ => none)))))) := by rw [eM2]; exact mm_uk hq_1 hqa_1 (by simp)
  have hq_2 : M2 q = some (.inr (2, [.ref qa, .int 0])) := by rw [eM2]; exact mm_us
  exact mm_retv S.1 S.2.1 hr hlocks hA hQ hw (⟨qa, hqqa, by rw [eM2, eM1]⟩) (Nat.le_of_ble_eq_true rfl) (Nat.le_of_ble_eq_true rfl) d_DR_init_13
theorem d_GU_isHeldBy_0 : decode b_GU_isHeldBy 0 = .ok (.aload_n 0, 1) := by decide +kernel
theorem d_GU_isHeldBy_1 : decode b_GU_isHeldBy 1 = .ok (.getfield 7, 3) := by decide +kernel
theorem d_GU_isHeldBy_4 : decode b_GU_isHeldBy 4 = .ok (.iload_n 1, 1) := by decide +kernel
theorem d_GU_isHeldBy_5 : decode b_GU_isHeldBy 5 = .ok (.if_icmp .ne 14, 3) := by decide +kernel
theorem d_GU_isHeldBy_8 : decode b_GU_isHeldBy 8 = .ok (.aload_n 0, 1) := by decide +kernel
theorem d_GU_isHeldBy_9 : decode b_GU_isHeldBy 9 = .ok (.getfield 16, 3) := by decide +kernel
theorem d_GU_isHeldBy_12 : decode b_GU_isHeldBy 12 = .ok (.ifCond .ne 7, 3) := by decide +kernel
theorem d_GU_isHeldBy_15 : decode b_GU_isHeldBy 15 = .ok (.iconst 1, 1) := by decide +kernel
theorem d_GU_isHeldBy_16 : decode b_GU_isHeldBy 16 = .ok (.goto 4, 3) := by decide +kernel
theorem d_GU_isHeldBy_19 : decode b_GU_isHeldBy 19 = .ok (.iconst 0, 1) := by decide +kernel
theorem d_GU_isHeldBy_20 : decode b_GU_isHeldBy 20 = .ok (.ireturn, 1) := by decide +kernel
set_option maxHeartbeats 4000000 in
set_option maxRecDepth 100000 in
theorem c_GU_isHeldBy (l : Launch) (D : va_G) (dA : Nat → ClassId) (M : mm_M) (g : Nat) (t z b f k : Int32) (hf : f = 0 ∨ f = 1) (hg : M g = some (.inr (7, [.int t, .int z, .int b, .int f]))) : mm_Ci l y_GU_isHeldBy w_GU_isHeldBy ({ frames := 0, cells := 0, slots := 0, locals := 0 }) 0 0 D vC (tyL dA) [.ref g, .int k] M (fun r M' => M' = M ∧ r = (if t = k ∧ f = 0 then 1 else 0)) := by
  intro sz
  refine mm_start (by decide) (Nat.le_of_ble_eq_true rfl) ?_
  intro p e s m below meth c A Q ls hA hQ S hr hlocks hin hK hw hl
  have hl : lv_has ls 2 [(0, .ref g), (1, .int k)] := hl
  refine lv_aload_n S.1 S.2.1 d_GU_isHeldBy_0 rfl (lv_at hl 0 rfl) ?_
  refine mm_get (C := R_GU) (T := T_GU) (N := 4) S hK.1 hw hg rfl in_GU 0 (by decide) gw_298 rfl rfl d_GU_isHeldBy_1 ?_
  refine lv_iload_n S.1 S.2.1 d_GU_isHeldBy_4 rfl (lv_at hl 1 rfl) ?_
  refine lv_icmp_ne (tgt := 19) S.1 S.2.1 d_GU_isHeldBy_5 (by decide) (fun c5 => ?_) (fun c5 => ?_)
  · refine lv_iconst (v := 0) S.1 S.2.1 d_GU_isHeldBy_19 (by decide) ?_
    exact mm_retz S.1 S.2.1 hr hlocks hA hQ hw (rfl) (⟨rfl, by simp_all⟩) (Nat.le_of_ble_eq_true rfl) (Nat.le_of_ble_eq_true rfl) d_GU_isHeldBy_20
  · refine lv_aload_n S.1 S.2.1 d_GU_isHeldBy_8 rfl (lv_at hl 0 rfl) ?_
    refine mm_get (C := R_GU) (T := T_GU) (N := 4) S hK.1 hw hg rfl in_GU 3 (by decide) gw_303 rfl rfl d_GU_isHeldBy_9 ?_
    refine lv_if_ne (tgt := 19) S.1 S.2.1 d_GU_isHeldBy_12 (by decide) (fun c12 => ?_) (fun c12 => ?_)
    · refine lv_iconst (v := 0) S.1 S.2.1 d_GU_isHeldBy_19 (by decide) ?_
      exact mm_retz S.1 S.2.1 hr hlocks hA hQ hw (rfl) (⟨rfl, by simp_all⟩) (Nat.le_of_ble_eq_true rfl) (Nat.le_of_ble_eq_true rfl) d_GU_isHeldBy_20
    · refine lv_iconst (v := 1) S.1 S.2.1 d_GU_isHeldBy_15 (by decide) ?_
      refine lv_goto (tgt := 20) S.1 S.2.1 d_GU_isHeldBy_16 (by decide) ?_
      exact mm_retz S.1 S.2.1 hr hlocks hA hQ hw (rfl) (⟨rfl, by simp_all⟩) (Nat.le_of_ble_eq_true rfl) (Nat.le_of_ble_eq_true rfl) d_GU_isHeldBy_20
theorem d_SE_retriesNow_0 : decode b_SE_retriesNow 0 = .ok (.aload_n 0, 1) := by decide +kernel
theorem d_SE_retriesNow_1 : decode b_SE_retriesNow 1 = .ok (.getfield 65, 3) := by decide +kernel
theorem d_SE_retriesNow_4 : decode b_SE_retriesNow 4 = .ok (.ifCond .ne 7, 3) := by decide +kernel
theorem d_SE_retriesNow_7 : decode b_SE_retriesNow 7 = .ok (.iconst 1, 1) := by decide +kernel
theorem d_SE_retriesNow_8 : decode b_SE_retriesNow 8 = .ok (.goto 4, 3) := by decide +kernel
theorem d_SE_retriesNow_11 : decode b_SE_retriesNow 11 = .ok (.iconst 0, 1) := by decide +kernel
theorem d_SE_retriesNow_12 : decode b_SE_retriesNow 12 = .ok (.istore_n 1, 1) := by decide +kernel
theorem d_SE_retriesNow_13 : decode b_SE_retriesNow 13 = .ok (.aload_n 0, 1) := by decide +kernel
theorem d_SE_retriesNow_14 : decode b_SE_retriesNow 14 = .ok (.iconst 1, 1) := by decide +kernel
theorem d_SE_retriesNow_15 : decode b_SE_retriesNow 15 = .ok (.putfield 65, 3) := by decide +kernel
theorem d_SE_retriesNow_18 : decode b_SE_retriesNow 18 = .ok (.iload_n 1, 1) := by decide +kernel
theorem d_SE_retriesNow_19 : decode b_SE_retriesNow 19 = .ok (.ireturn, 1) := by decide +kernel
set_option maxHeartbeats 4000000 in
set_option maxRecDepth 100000 in
theorem c_SE_retriesNow (l : Launch) (D : va_G) (dA : Nat → ClassId) (M : mm_M) (x : Nat) (n d z t : Int32) (ea : Option Nat) (ht : t = 0 ∨ t = 1) (hx : M x = some (.inr (6, [.int n, .int d, .int z, va_rf ea, .int t]))) : mm_Ci l y_SE_retriesNow w_SE_retriesNow ({ frames := 0, cells := 0, slots := 0, locals := 0 }) 0 0 D vC (tyL dA) [.ref x] M (fun r M' => M' = mm_up M x (.inr (6, [.int n, .int d, .int z, va_rf ea, .int 1])) ∧ r = (if t = 0 then 1 else 0)) := by
  intro sz
  refine mm_start (by decide) (Nat.le_of_ble_eq_true rfl) ?_
  intro p e s m below meth c A Q ls hA hQ S hr hlocks hin hK hw hl
  have hl : lv_has ls 2 [(0, .ref x)] := hl
  refine lv_aload_n S.1 S.2.1 d_SE_retriesNow_0 rfl (lv_at hl 0 rfl) ?_
  refine mm_get (C := R_EX) (T := T_EX) (N := 5) S hK.1 hw hx rfl in_EX 4 (by decide) gw_175 rfl rfl d_SE_retriesNow_1 ?_
  refine lv_if_ne (tgt := 11) S.1 S.2.1 d_SE_retriesNow_4 (by decide) (fun c4 => ?_) (fun c4 => ?_)
  · refine lv_iconst (v := 0) S.1 S.2.1 d_SE_retriesNow_11 (by decide) ?_
    refine lv_istore_n (lv' := [(1, .int 0), (0, .ref x)]) S.1 S.2.1 d_SE_retriesNow_12 rfl hl (by decide) rfl (fun ls hl => ?_)
    refine lv_aload_n S.1 S.2.1 d_SE_retriesNow_13 rfl (lv_at hl 1 rfl) ?_
    refine lv_iconst (v := 1) S.1 S.2.1 d_SE_retriesNow_14 (by decide) ?_
    refine mm_put (C := R_EX) (T := T_EX) (N := 5) (ty := .boolean) (v := .int 1) S hK.1 hw hx rfl in_EX t_EX k_EX n_EX 4 (by decide) gw_175 rfl rfl (by decide +kernel) (rfl) (rfl) (Nat.le_of_ble_eq_true rfl) d_SE_retriesNow_15 (fun H locs hw => ?_)
    obtain ⟨M1, eM1⟩ : ∃ zM : mm_M, zM = mm_up M x (.inr (6, [.int n, .int d, .int z, va_rf ea, .int 1])) := ⟨_, rfl⟩
    have hw : mm_w D vC _ _ (mm_up M x (.inr (6, [.int n, .int d, .int z, va_rf ea, .int 1]))) H _ := hw
    rw [← eM1] at hw
    have hx_1 : M1 x = some (.inr (6, [.int n, .int d, .int z, va_rf ea, .int 1])) := by rw [eM1]; exact mm_us
    refine lv_iload_n S.1 S.2.1 d_SE_retriesNow_18 rfl (lv_at hl 0 rfl) ?_
    exact mm_retz S.1 S.2.1 hr hlocks hA hQ hw (rfl) (⟨eM1, by simp_all⟩) (Nat.le_of_ble_eq_true rfl) (Nat.le_of_ble_eq_true rfl) d_SE_retriesNow_19
  · refine lv_iconst (v := 1) S.1 S.2.1 d_SE_retriesNow_7 (by decide) ?_
    refine lv_goto (tgt := 12) S.1 S.2.1 d_SE_retriesNow_8 (by decide) ?_
    refine lv_istore_n (lv' := [(1, .int 1), (0, .ref x)]) S.1 S.2.1 d_SE_retriesNow_12 rfl hl (by decide) rfl (fun ls hl => ?_)
    refine lv_aload_n S.1 S.2.1 d_SE_retriesNow_13 rfl (lv_at hl 1 rfl) ?_
    refine lv_iconst (v := 1) S.1 S.2.1 d_SE_retriesNow_14 (by decide) ?_
    refine mm_put (C := R_EX) (T := T_EX) (N := 5) (ty := .boolean) (v := .int 1) S hK.1 hw hx rfl in_EX t_EX k_EX n_EX 4 (by decide) gw_175 rfl rfl (by decide +kernel) (rfl) (rfl) (Nat.le_of_ble_eq_true rfl) d_SE_retriesNow_15 (fun H locs hw => ?_)
    obtain ⟨M2, eM2⟩ : ∃ zM : mm_M, zM = mm_up M x (.inr (6, [.int n, .int d, .int z, va_rf ea, .int 1])) := ⟨_, rfl⟩
    have hw : mm_w D vC _ _ (mm_up M x (.inr (6, [.int n, .int d, .int z, va_rf ea, .int 1]))) H _ := hw
    rw [← eM2] at hw
    have hx_2 : M2 x = some (.inr (6, [.int n, .int d, .int z, va_rf ea, .int 1])) := by rw [eM2]; exact mm_us
    refine lv_iload_n S.1 S.2.1 d_SE_retriesNow_18 rfl (lv_at hl 0 rfl) ?_
    exact mm_retz S.1 S.2.1 hr hlocks hA hQ hw (rfl) (⟨eM2, by simp_all⟩) (Nat.le_of_ble_eq_true rfl) (Nat.le_of_ble_eq_true rfl) d_SE_retriesNow_19
end
section
/-! THE REFERENCE'S PICTURE: six numbers I, fifteen arrays F of ints or booleans, one array of longs -/
abbrev sI : Type := Nat → Int32
abbrev sF : Type := Nat → Nat → Int32
abbrev sT : Type := Nat → Int64
abbrev sR : Type := Int32 × sI × sF × sT
def mL (k : Nat) : Nat := match k with
  | 0 => 101 | 1 => 101 | 2 => 101 | 3 => 1010 | 4 => 301 | 5 => 301 | 6 => 301 | 7 => 301 | 8 => 10000 | 9 => 41 | 10 => 10000 | 11 => 41 | 12 => 61 | 13 => 61 | 14 => 61 | _ => 250
def mT (k : Nat) : Nat := match k with
  | 6 => 2 | 7 => 2 | 10 => 2 | 11 => 1 | _ => 0
abbrev mO (g : Nat → Nat) (I : sI) : List Value := [.int (I 0), .int (I 1), .int (I 2), .int (I 3), .int (I 4), .int (I 5), .ref (g 0), .ref (g 1), .ref (g 2), .ref (g 3), .ref (g 4), .ref (g 5), .ref (g 6), .ref (g 7), .ref (g 8), .ref (g 9), .ref (g 10), .ref (g 11), .ref (g 12), .ref (g 13), .ref (g 14), .ref (g 15)]
def mP (dA : Nat → ClassId) (M : mm_M) (x : Nat) (g : Nat → Nat) (I : sI) (F : sF) (st : sT) : Prop :=
  (∀ i j, i < 16 → j < 16 → g i = g j → i = j) ∧ M x = some (.inr (9, mO g I)) ∧ (∀ k, k < 16 → k ≠ 11 → M (g k) = some (.inl (dA (mT k), mL k, .inl (F k)))) ∧ M (g 11) = some (.inl (dA 1, 41, .inr (.inl st)))
theorem mP_a {dA : Nat → ClassId} {M : mm_M} {x k : Nat} {g : Nat → Nat} {I : sI} {F : sF} {st : sT} (h : mP dA M x g I F st) (hk : k < 16) (h11 : k ≠ 11) : M (g k) = some (.inl (dA (mT k), mL k, .inl (F k))) := h.2.2.1 k hk h11
section MDR
variable {dA : Nat → ClassId} {M : mm_M} {x : Nat} {g : Nat → Nat} {I : sI} {F : sF} {st : sT} {D : va_G} {A : Nat → Prop} {H0 H : Heap} {locs : List Loc}
theorem md_puti {k : Nat} {v : Int32} (hk : k < 6) (hw : mm_w D vC A H0 (mm_up M x (.inr (9, (mO g I).set k (.int v)))) H locs) (h : mP dA M x g I F st) : ∃ M' : mm_M, mm_w D vC A H0 M' H locs ∧ mP dA M' x g (upd I k v) F st := by
  refine ⟨_, hw, h.1, ?_, fun i hi h11 => ?_, ?_⟩
  · rw [mm_us]
    match k, hk with
    | 0, _ => rfl
    | 1, _ => rfl
    | 2, _ => rfl
    | 3, _ => rfl
    | 4, _ => rfl
    | 5, _ => rfl
  · exact mm_uk h.2.1 (h.2.2.1 i hi h11) (by simp)
  · exact mm_uk h.2.1 h.2.2.2 (by simp)
theorem md_ast {k j : Nat} {v : Int32} (hk : k < 16) (h11 : k ≠ 11) (hw : mm_w D vC A H0 (mm_up M (g k) (.inl (dA (mT k), mL k, .inl (upd (F k) j v)))) H locs) (h : mP dA M x g I F st) : ∃ M' : mm_M, mm_w D vC A H0 M' H locs ∧ mP dA M' x g I (va_up F k (upd (F k) j v)) st := by
  refine ⟨_, hw, h.1, ?_, fun i hi hi11 => ?_, ?_⟩
  · exact mm_uk (h.2.2.1 k hk h11) h.2.1 (by simp)
  · by_cases hik : i = k
    · subst hik
      rw [mm_us, va_up_self]
    · rw [mm_un (fun q => hik (h.1 i k hi hk q)), va_up_ne _ _ hik]
      exact h.2.2.1 i hi hi11
  · exact mm_uk (h.2.2.1 k hk h11) h.2.2.2 (by simp)
theorem md_last {j : Nat} {v : Int64} (hw : mm_w D vC A H0 (mm_up M (g 11) (.inl (dA 1, 41, .inr (.inl (vp_updL st j v))))) H locs) (h : mP dA M x g I F st) : ∃ M' : mm_M, mm_w D vC A H0 M' H locs ∧ mP dA M' x g I F (vp_updL st j v) := by
  refine ⟨_, hw, h.1, ?_, fun i hi hi11 => ?_, mm_us⟩
  · exact mm_uk h.2.2.2 h.2.1 (by simp)
  · exact mm_uk h.2.2.2 (h.2.2.1 i hi hi11) (by simp)
end MDR
abbrev cN (k : Int32) : Nat := k.toNatClampNeg
/-! WHAT EACH CALL DOES, as a function of the state -/
def sp_level (k : Int32) (I : sI) (F : sF) (st : sT) : sR :=
  if ¬ k = 0 ∧ ¬ is_ok (I 1) k then (-2, upd I 0 0, F, st)
  else if I 1 = 100 ∨ F 1 (cN k) = 20 then (-1, upd I 0 0, F, st)
  else (I 1 + 1, upd (upd I 0 0) 1 (I 1 + 1), va_up (va_up F 0 (upd (F 0) (cN (I 1 + 1)) k)) 1 (upd (F 1) (cN (I 1 + 1)) (F 1 (cN k) + 1)), st)
def sp_exit (k d z : Int32) (I : sI) (F : sF) (st : sT) : sR :=
  if ¬ is_ok (I 1) k then (-2, upd I 0 0, F, st)
  else if d < 0 ∨ ¬ d ≤ 3 then (-4, upd I 0 0, F, st)
  else if F 2 (cN k) = 10 ∨ I 2 = 300 then (-1, upd I 0 0, F, st)
  else (I 2 + 1, upd (upd I 0 0) 2 (I 2 + 1), va_up (va_up (va_up (va_up F 4 (upd (F 4) (cN (I 2 + 1)) d)) 6 (upd (F 6) (cN (I 2 + 1)) z)) 3 (upd (F 3) (10 * cN k + cN (F 2 (cN k))) (I 2 + 1))) 2 (upd (F 2) (cN k) (F 2 (cN k) + 1)), st)
def sp_cancel (k : Int32) (I : sI) (F : sF) (st : sT) : sR :=
  if ¬ is_ok (I 1) k then (-2, upd I 0 0, F, st)
  else if F 2 (cN k) = 0 then (-1, upd I 0 0, F, st)
  else (F 2 (cN k) - 1, upd I 0 0, va_up F 2 (upd (F 2) (cN k) (F 2 (cN k) - 1)), st)
def sp_order (i : Int32) (I : sI) (F : sF) (st : sT) : sR := (if ¬ i < 0 ∧ ¬ I 5 ≤ i then F 5 (cN i) else 0, upd I 0 0, F, st)
def sp_count (k : Int32) (I : sI) (F : sF) (st : sT) : sR := (if is_ok 9999 k then F 8 (cN k) else 0, upd I 0 0, F, st)
def sp_region (k : Int32) (I : sI) (F : sF) (st : sT) : sR := (if ¬ is_ok 9999 k then -4 else if 1000 ≤ k then (if 4000 ≤ k then 3 else 2) else 1, upd I 0 0, F, st)
def sp_suppress (k z : Int32) (I : sI) (F : sF) (st : sT) : sR :=
  if ¬ is_ok 9999 k then (-4, upd I 0 0, F, st)
  else (if F 10 (cN k) = 0 then 0 else 1, upd I 0 0, va_up F 10 (upd (F 10) (cN k) z), st)
def sp_loop (t : Int32) (w : Int64) (I : sI) (F : sF) (st : sT) : sR :=
  if ¬ is_ok 40 t ∨ w < 0 then (-4, upd I 0 0, F, st)
  else if 1000 < w ∨ 1000 < st (cN t) + w then (71, upd I 0 0, F, vp_updL st (cN t) 0)
  else (0, upd I 0 0, F, vp_updL st (cN t) (st (cN t) + w))
def sp_guard (t z : Int32) (I : sI) (F : sF) (st : sT) : sR :=
  if ¬ is_ok 40 t ∨ z < 1 ∨ ¬ z ≤ 64 then (-4, upd I 0 0, F, st)
  else if I 3 = 60 then (-1, upd I 0 0, F, st)
  else (I 3 + 1, upd (upd I 0 0) 3 (I 3 + 1), va_up (va_up (va_up F 12 (upd (F 12) (cN (I 3 + 1)) t)) 13 (upd (F 13) (cN (I 3 + 1)) z)) 14 (upd (F 14) (cN (I 3 + 1)) 1), st)
abbrev is_gd (I : sI) (F : sF) (g : Int32) : Prop := is_ok (I 3) g ∧ ¬ F 14 (cN g) ≤ 0
def sp_write (g i : Int32) (I : sI) (F : sF) (st : sT) : sR :=
  if ¬ is_gd I F g then (-2, upd I 0 0, F, st)
  else if i < -1 ∨ ¬ i ≤ F 13 (cN g) then (-4, upd I 0 0, F, st)
  else if i = -1 ∨ i = F 13 (cN g) then (0, upd I 0 0, va_up F 14 (upd (F 14) (cN g) 2), st)
  else (if F 14 (cN g) = 2 then 0 else 1, upd I 0 0, F, st)
def sp_free (g : Int32) (I : sI) (F : sF) (st : sT) : sR :=
  if ¬ is_gd I F g then (-2, upd I 0 0, F, st)
  else (if F 14 (cN g) = 2 then -10 - F 12 (cN g) else 1, upd I 0 0, va_up F 14 (upd (F 14) (cN g) 0), st)
def sp_told (k w : Int32) (I : sI) (F : sF) (st : sT) : sR :=
  (if ¬ is_ok (I 1) k then -1 else if w = 0 then F 2 (cN k) else if w = 1 then F 1 (cN k) else if w = 2 then F 0 (cN k) else -1, upd I 0 0, F, st)
/-- a reference's contract: the answer and the new picture are what the function says -/
abbrev md_post (dA : Nat → ClassId) (x : Nat) (g : Nat → Nat) (R : sR) : Int32 → mm_M → Prop := fun r M' => r = R.1 ∧ mP dA M' x g R.2.1 R.2.2.1 R.2.2.2
theorem md_done {dA : Nat → ClassId} {x : Nat} {g : Nat → Nat} {R : sR} {v : Int32} {M : mm_M} {I : sI} {F : sF} {st : sT} (hP : mP dA M x g I F st) (h : R = (v, I, F, st)) : md_post dA x g R v M := by
  subst h
  exact ⟨rfl, hP⟩
theorem cN_s {n : Nat} (h : n + 1 < 2 ^ 31) : cN (nI n + 1) = n + 1 := by rw [nI_1, cN, nI_clamp h]

theorem d_MO_isLevel_0 : decode b_MO_isLevel 0 = .ok (.iload_n 1, 1) := by decide +kernel
theorem d_MO_isLevel_1 : decode b_MO_isLevel 1 = .ok (.ifCond .le 15, 3) := by decide +kernel
theorem d_MO_isLevel_4 : decode b_MO_isLevel 4 = .ok (.iload_n 1, 1) := by decide +kernel
theorem d_MO_isLevel_5 : decode b_MO_isLevel 5 = .ok (.aload_n 0, 1) := by decide +kernel
theorem d_MO_isLevel_6 : decode b_MO_isLevel 6 = .ok (.getfield 64, 3) := by decide +kernel
theorem d_MO_isLevel_9 : decode b_MO_isLevel 9 = .ok (.if_icmp .gt 7, 3) := by decide +kernel
theorem d_MO_isLevel_12 : decode b_MO_isLevel 12 = .ok (.iconst 1, 1) := by decide +kernel
theorem d_MO_isLevel_13 : decode b_MO_isLevel 13 = .ok (.goto 4, 3) := by decide +kernel
theorem d_MO_isLevel_16 : decode b_MO_isLevel 16 = .ok (.iconst 0, 1) := by decide +kernel
theorem d_MO_isLevel_17 : decode b_MO_isLevel 17 = .ok (.ireturn, 1) := by decide +kernel
set_option maxHeartbeats 4000000 in
set_option maxRecDepth 100000 in
theorem c_MO_isLevel (l : Launch) (D : va_G) (dA : Nat → ClassId) (M : mm_M) (x : Nat) (g : Nat → Nat) (I : sI) (F : sF) (st : sT) (k : Int32) (hP : mP dA M x g I F st) : mm_Ci l y_MO_isLevel w_MO_isLevel ({ frames := 0, cells := 0, slots := 0, locals := 0 }) 0 0 D vC (tyL dA) [.ref x, .int k] M (fun r M' => M' = M ∧ ((r = 1 ∧ is_ok (I 1) k) ∨ (r = 0 ∧ ¬ is_ok (I 1) k))) := by
  intro sz
  refine mm_start (by decide) (Nat.le_of_ble_eq_true rfl) ?_
  intro p e s m below meth c A Q ls hA hQ S hr hlocks hin hK hw hl
  have hl : lv_has ls 2 [(0, .ref x), (1, .int k)] := hl
  refine lv_iload_n S.1 S.2.1 d_MO_isLevel_0 rfl (lv_at hl 1 rfl) ?_
  refine lv_if_le (tgt := 16) S.1 S.2.1 d_MO_isLevel_1 (by decide) (fun c1 => ?_) (fun c1 => ?_)
  · refine lv_iconst (v := 0) S.1 S.2.1 d_MO_isLevel_16 (by decide) ?_
    exact mm_retz S.1 S.2.1 hr hlocks hA hQ hw (rfl) (⟨rfl, Or.inr ⟨rfl, fun h => h.1 c1⟩⟩) (Nat.le_of_ble_eq_true rfl) (Nat.le_of_ble_eq_true rfl) d_MO_isLevel_17
  · refine lv_iload_n S.1 S.2.1 d_MO_isLevel_4 rfl (lv_at hl 1 rfl) ?_
    refine lv_aload_n S.1 S.2.1 d_MO_isLevel_5 rfl (lv_at hl 0 rfl) ?_
    refine mm_get (C := R_MO) (T := T_MO) (N := 22) (v := .int (I 1)) S hK.1 hw hP.2.1 rfl in_MO 1 (by decide) gw_371 rfl rfl d_MO_isLevel_6 ?_
    refine lv_icmp_gt (tgt := 16) S.1 S.2.1 d_MO_isLevel_9 (by decide) (fun c9 => ?_) (fun c9 => ?_)
    · refine lv_iconst (v := 0) S.1 S.2.1 d_MO_isLevel_16 (by decide) ?_
      exact mm_retz S.1 S.2.1 hr hlocks hA hQ hw (rfl) (⟨rfl, Or.inr ⟨rfl, fun h => h.2 c9⟩⟩) (Nat.le_of_ble_eq_true rfl) (Nat.le_of_ble_eq_true rfl) d_MO_isLevel_17
    · refine lv_iconst (v := 1) S.1 S.2.1 d_MO_isLevel_12 (by decide) ?_
      refine lv_goto (tgt := 17) S.1 S.2.1 d_MO_isLevel_13 (by decide) ?_
      exact mm_retz S.1 S.2.1 hr hlocks hA hQ hw (rfl) (⟨rfl, Or.inl ⟨rfl, c1, c9⟩⟩) (Nat.le_of_ble_eq_true rfl) (Nat.le_of_ble_eq_true rfl) d_MO_isLevel_17
theorem d_MO_isGuard_0 : decode b_MO_isGuard 0 = .ok (.iload_n 1, 1) := by decide +kernel
theorem d_MO_isGuard_1 : decode b_MO_isGuard 1 = .ok (.ifCond .le 24, 3) := by decide +kernel
theorem d_MO_isGuard_4 : decode b_MO_isGuard 4 = .ok (.iload_n 1, 1) := by decide +kernel
theorem d_MO_isGuard_5 : decode b_MO_isGuard 5 = .ok (.aload_n 0, 1) := by decide +kernel
theorem d_MO_isGuard_6 : decode b_MO_isGuard 6 = .ok (.getfield 90, 3) := by decide +kernel
theorem d_MO_isGuard_9 : decode b_MO_isGuard 9 = .ok (.if_icmp .gt 16, 3) := by decide +kernel
theorem d_MO_isGuard_12 : decode b_MO_isGuard 12 = .ok (.aload_n 0, 1) := by decide +kernel
theorem d_MO_isGuard_13 : decode b_MO_isGuard 13 = .ok (.getfield 54, 3) := by decide +kernel
theorem d_MO_isGuard_16 : decode b_MO_isGuard 16 = .ok (.iload_n 1, 1) := by decide +kernel
theorem d_MO_isGuard_17 : decode b_MO_isGuard 17 = .ok (.iaload, 1) := by decide +kernel
theorem d_MO_isGuard_18 : decode b_MO_isGuard 18 = .ok (.ifCond .le 7, 3) := by decide +kernel
theorem d_MO_isGuard_21 : decode b_MO_isGuard 21 = .ok (.iconst 1, 1) := by decide +kernel
theorem d_MO_isGuard_22 : decode b_MO_isGuard 22 = .ok (.goto 4, 3) := by decide +kernel
theorem d_MO_isGuard_25 : decode b_MO_isGuard 25 = .ok (.iconst 0, 1) := by decide +kernel
theorem d_MO_isGuard_26 : decode b_MO_isGuard 26 = .ok (.ireturn, 1) := by decide +kernel
set_option maxHeartbeats 4000000 in
set_option maxRecDepth 100000 in
theorem c_MO_isGuard (l : Launch) (D : va_G) (dA : Nat → ClassId) (M : mm_M) (x : Nat) (g : Nat → Nat) (I : sI) (F : sF) (st : sT) (k : Int32) (n : Nat) (hn : I 3 = nI n) (hN : n ≤ 60) (hP : mP dA M x g I F st) : mm_Ci l y_MO_isGuard w_MO_isGuard ({ frames := 0, cells := 0, slots := 0, locals := 0 }) 0 0 D vC (tyL dA) [.ref x, .int k] M (fun r M' => M' = M ∧ ((r = 1 ∧ is_gd I F k) ∨ (r = 0 ∧ ¬ is_gd I F k))) := by
  intro sz
  refine mm_start (by decide) (Nat.le_of_ble_eq_true rfl) ?_
  intro p e s m below meth c A Q ls hA hQ S hr hlocks hin hK hw hl
  have hl : lv_has ls 2 [(0, .ref x), (1, .int k)] := hl
  refine lv_iload_n S.1 S.2.1 d_MO_isGuard_0 rfl (lv_at hl 1 rfl) ?_
  refine lv_if_le (tgt := 25) S.1 S.2.1 d_MO_isGuard_1 (by decide) (fun c1 => ?_) (fun c1 => ?_)
  · refine lv_iconst (v := 0) S.1 S.2.1 d_MO_isGuard_25 (by decide) ?_
    exact mm_retz S.1 S.2.1 hr hlocks hA hQ hw (rfl) (⟨rfl, Or.inr ⟨rfl, fun h => h.1.1 c1⟩⟩) (Nat.le_of_ble_eq_true rfl) (Nat.le_of_ble_eq_true rfl) d_MO_isGuard_26
  · refine lv_iload_n S.1 S.2.1 d_MO_isGuard_4 rfl (lv_at hl 1 rfl) ?_
    refine lv_aload_n S.1 S.2.1 d_MO_isGuard_5 rfl (lv_at hl 0 rfl) ?_
    refine mm_get (C := R_MO) (T := T_MO) (N := 22) (v := .int (I 3)) S hK.1 hw hP.2.1 rfl in_MO 3 (by decide) gw_373 rfl rfl d_MO_isGuard_6 ?_
    refine lv_icmp_gt (tgt := 25) S.1 S.2.1 d_MO_isGuard_9 (by decide) (fun c9 => ?_) (fun c9 => ?_)
    · refine lv_iconst (v := 0) S.1 S.2.1 d_MO_isGuard_25 (by decide) ?_
      exact mm_retz S.1 S.2.1 hr hlocks hA hQ hw (rfl) (⟨rfl, Or.inr ⟨rfl, fun h => h.1.2 c9⟩⟩) (Nat.le_of_ble_eq_true rfl) (Nat.le_of_ble_eq_true rfl) d_MO_isGuard_26
    · refine lv_aload_n S.1 S.2.1 d_MO_isGuard_12 rfl (lv_at hl 0 rfl) ?_
      refine mm_get (C := R_MO) (T := T_MO) (N := 22) (v := .ref (g 14)) S hK.1 hw hP.2.1 rfl in_MO 20 (by decide) gw_390 rfl rfl d_MO_isGuard_13 ?_
      refine lv_iload_n S.1 S.2.1 d_MO_isGuard_16 rfl (lv_at hl 1 rfl) ?_
      obtain ⟨j, ekj, hlj, hhj, enj⟩ := is_of (N := n) hn (by omega) ⟨c1, c9⟩
      refine mn_iald (j := cN k) (n := 61) (f := F 14) S hK.1 hw 0 (mP_a (k := 14) (F := F) hP (by decide) (by decide)) rfl (cl_nI (is_le0 c1)) (by rw [cN, enj]; omega) (by decide) d_MO_isGuard_17 ?_
      refine lv_if_le (tgt := 25) S.1 S.2.1 d_MO_isGuard_18 (by decide) (fun c18 => ?_) (fun c18 => ?_)
      · refine lv_iconst (v := 0) S.1 S.2.1 d_MO_isGuard_25 (by decide) ?_
        exact mm_retz S.1 S.2.1 hr hlocks hA hQ hw (rfl) (⟨rfl, Or.inr ⟨rfl, fun h => h.2 c18⟩⟩) (Nat.le_of_ble_eq_true rfl) (Nat.le_of_ble_eq_true rfl) d_MO_isGuard_26
      · refine lv_iconst (v := 1) S.1 S.2.1 d_MO_isGuard_21 (by decide) ?_
        refine lv_goto (tgt := 26) S.1 S.2.1 d_MO_isGuard_22 (by decide) ?_
        exact mm_retz S.1 S.2.1 hr hlocks hA hQ hw (rfl) (⟨rfl, Or.inl ⟨rfl, ⟨c1, c9⟩, c18⟩⟩) (Nat.le_of_ble_eq_true rfl) (Nat.le_of_ble_eq_true rfl) d_MO_isGuard_26
theorem d_MO_level_0 : decode b_MO_level 0 = .ok (.aload_n 0, 1) := by decide +kernel
theorem d_MO_level_1 : decode b_MO_level 1 = .ok (.iconst 0, 1) := by decide +kernel
theorem d_MO_level_2 : decode b_MO_level 2 = .ok (.putfield 60, 3) := by decide +kernel
theorem d_MO_level_5 : decode b_MO_level 5 = .ok (.iload_n 1, 1) := by decide +kernel
theorem d_MO_level_6 : decode b_MO_level 6 = .ok (.ifCond .eq 14, 3) := by decide +kernel
theorem d_MO_level_9 : decode b_MO_level 9 = .ok (.aload_n 0, 1) := by decide +kernel
theorem d_MO_level_10 : decode b_MO_level 10 = .ok (.iload_n 1, 1) := by decide +kernel
theorem d_MO_level_11 : decode b_MO_level 11 = .ok (.invokevirtual 67, 3) := by decide +kernel
theorem d_MO_level_14 : decode b_MO_level 14 = .ok (.ifCond .ne 6, 3) := by decide +kernel
theorem d_MO_level_17 : decode b_MO_level 17 = .ok (.bipush (-2), 2) := by decide +kernel
theorem d_MO_level_19 : decode b_MO_level 19 = .ok (.ireturn, 1) := by decide +kernel
theorem d_MO_level_20 : decode b_MO_level 20 = .ok (.aload_n 0, 1) := by decide +kernel
theorem d_MO_level_21 : decode b_MO_level 21 = .ok (.getfield 64, 3) := by decide +kernel
theorem d_MO_level_24 : decode b_MO_level 24 = .ok (.bipush 100, 2) := by decide +kernel
theorem d_MO_level_26 : decode b_MO_level 26 = .ok (.if_icmp .eq 14, 3) := by decide +kernel
theorem d_MO_level_29 : decode b_MO_level 29 = .ok (.aload_n 0, 1) := by decide +kernel
theorem d_MO_level_30 : decode b_MO_level 30 = .ok (.getfield 13, 3) := by decide +kernel
theorem d_MO_level_33 : decode b_MO_level 33 = .ok (.iload_n 1, 1) := by decide +kernel
theorem d_MO_level_34 : decode b_MO_level 34 = .ok (.iaload, 1) := by decide +kernel
theorem d_MO_level_35 : decode b_MO_level 35 = .ok (.bipush 20, 2) := by decide +kernel
theorem d_MO_level_37 : decode b_MO_level 37 = .ok (.if_icmp .ne 5, 3) := by decide +kernel
theorem d_MO_level_40 : decode b_MO_level 40 = .ok (.iconst (-1), 1) := by decide +kernel
theorem d_MO_level_41 : decode b_MO_level 41 = .ok (.ireturn, 1) := by decide +kernel
theorem d_MO_level_42 : decode b_MO_level 42 = .ok (.aload_n 0, 1) := by decide +kernel
theorem d_MO_level_43 : decode b_MO_level 43 = .ok (.dup, 1) := by decide +kernel
theorem d_MO_level_44 : decode b_MO_level 44 = .ok (.getfield 64, 3) := by decide +kernel
theorem d_MO_level_47 : decode b_MO_level 47 = .ok (.iconst 1, 1) := by decide +kernel
theorem d_MO_level_48 : decode b_MO_level 48 = .ok (.iadd, 1) := by decide +kernel
theorem d_MO_level_49 : decode b_MO_level 49 = .ok (.putfield 64, 3) := by decide +kernel
theorem d_MO_level_52 : decode b_MO_level 52 = .ok (.aload_n 0, 1) := by decide +kernel
theorem d_MO_level_53 : decode b_MO_level 53 = .ok (.getfield 7, 3) := by decide +kernel
theorem d_MO_level_56 : decode b_MO_level 56 = .ok (.aload_n 0, 1) := by decide +kernel
theorem d_MO_level_57 : decode b_MO_level 57 = .ok (.getfield 64, 3) := by decide +kernel
theorem d_MO_level_60 : decode b_MO_level 60 = .ok (.iload_n 1, 1) := by decide +kernel
theorem d_MO_level_61 : decode b_MO_level 61 = .ok (.iastore, 1) := by decide +kernel
theorem d_MO_level_62 : decode b_MO_level 62 = .ok (.aload_n 0, 1) := by decide +kernel
theorem d_MO_level_63 : decode b_MO_level 63 = .ok (.getfield 13, 3) := by decide +kernel
theorem d_MO_level_66 : decode b_MO_level 66 = .ok (.aload_n 0, 1) := by decide +kernel
theorem d_MO_level_67 : decode b_MO_level 67 = .ok (.getfield 64, 3) := by decide +kernel
theorem d_MO_level_70 : decode b_MO_level 70 = .ok (.aload_n 0, 1) := by decide +kernel
theorem d_MO_level_71 : decode b_MO_level 71 = .ok (.getfield 13, 3) := by decide +kernel
theorem d_MO_level_74 : decode b_MO_level 74 = .ok (.iload_n 1, 1) := by decide +kernel
theorem d_MO_level_75 : decode b_MO_level 75 = .ok (.iaload, 1) := by decide +kernel
theorem d_MO_level_76 : decode b_MO_level 76 = .ok (.iconst 1, 1) := by decide +kernel
theorem d_MO_level_77 : decode b_MO_level 77 = .ok (.iadd, 1) := by decide +kernel
theorem d_MO_level_78 : decode b_MO_level 78 = .ok (.iastore, 1) := by decide +kernel
theorem d_MO_level_79 : decode b_MO_level 79 = .ok (.aload_n 0, 1) := by decide +kernel
theorem d_MO_level_80 : decode b_MO_level 80 = .ok (.getfield 64, 3) := by decide +kernel
theorem d_MO_level_83 : decode b_MO_level 83 = .ok (.ireturn, 1) := by decide +kernel
set_option maxHeartbeats 4000000 in
set_option maxRecDepth 100000 in
theorem c_MO_level (l : Launch) (D : va_G) (dA : Nat → ClassId) (M : mm_M) (x : Nat) (g : Nat → Nat) (I : sI) (F : sF) (st : sT) (k : Int32) (n : Nat) (hn : I 1 = nI n) (hN : n ≤ 100) (hP : mP dA M x g I F st) : mm_Ci l y_MO_level w_MO_level ({ frames := 1, cells := 0, slots := 0, locals := 21 }) 0 0 D vC (tyL dA) [.ref x, .int k] M (md_post dA x g (sp_level k I F st)) := by
  intro sz
  refine mm_start (by decide) (Nat.le_of_ble_eq_true rfl) ?_
  intro p e s m below meth c A Q ls hA hQ S hr hlocks hin hK hw hl
  have hl : lv_has ls 2 [(0, .ref x), (1, .int k)] := hl
  refine lv_aload_n S.1 S.2.1 d_MO_level_0 rfl (lv_at hl 0 rfl) ?_
  refine lv_iconst (v := 0) S.1 S.2.1 d_MO_level_1 (by decide) ?_
  refine mm_put (C := R_MO) (T := T_MO) (N := 22) (ty := .int) (v := .int 0) S hK.1 hw hP.2.1 rfl in_MO t_MO k_MO n_MO 0 (by decide) gw_370 rfl rfl (by decide +kernel) rfl rfl (Nat.le_of_ble_eq_true rfl) d_MO_level_2 (fun H locs hw => ?_)
  obtain ⟨M, hw, hP⟩ := md_puti (k := 0) (v := 0) (by decide) hw hP
  refine lv_iload_n S.1 S.2.1 d_MO_level_5 rfl (lv_at hl 1 rfl) ?_
  refine lv_if_eq (tgt := 20) S.1 S.2.1 d_MO_level_6 (by decide) (fun c6 => ?_) (fun c6 => ?_)
  · refine lv_aload_n S.1 S.2.1 d_MO_level_20 rfl (lv_at hl 0 rfl) ?_
    refine mm_get (C := R_MO) (T := T_MO) (N := 22) (v := .int (I 1)) S hK.1 hw hP.2.1 rfl in_MO 1 (by decide) gw_371 rfl rfl d_MO_level_21 ?_
    refine lv_bipush (v := 100) S.1 S.2.1 d_MO_level_24 (by decide) ?_
    refine lv_icmp_eq (tgt := 40) S.1 S.2.1 d_MO_level_26 (by decide) (fun c26 => ?_) (fun c26 => ?_)
    · refine lv_iconst (v := (-1)) S.1 S.2.1 d_MO_level_40 (by decide) ?_
      exact mm_reti S.1 S.2.1 hr hlocks hA hQ hw (md_done hP (show sp_level k I F st = ((-1), (upd I 0 (0)), F, st) by simp only [sp_level, eq_true c6, eq_true c26, not_true_eq_false, not_false_eq_true, and_true, true_and, and_false, false_and, and_self, or_true, true_or, or_false, false_or, or_self, ↓reduceIte])) (Nat.le_of_ble_eq_true rfl) (Nat.le_of_ble_eq_true rfl) d_MO_level_41
    · refine lv_aload_n S.1 S.2.1 d_MO_level_29 rfl (lv_at hl 0 rfl) ?_
      refine mm_get (C := R_MO) (T := T_MO) (N := 22) (v := .ref (g 1)) S hK.1 hw hP.2.1 rfl in_MO 7 (by decide) gw_377 rfl rfl d_MO_level_30 ?_
      refine lv_iload_n S.1 S.2.1 d_MO_level_33 rfl (lv_at hl 1 rfl) ?_
      refine mn_iald (j := cN k) (n := 101) (f := F 1) S hK.1 hw 0 (mP_a (k := 1) (F := F) hP (by decide) (by decide)) rfl (by rw [c6]; rfl) (by rw [c6]; decide) (by decide) d_MO_level_34 ?_
      refine lv_bipush (v := 20) S.1 S.2.1 d_MO_level_35 (by decide) ?_
      refine lv_icmp_ne (tgt := 42) S.1 S.2.1 d_MO_level_37 (by decide) (fun c37 => ?_) (fun c37 => ?_)
      · have hn1 : n + 1 < 101 := by
          rcases Nat.lt_or_ge n 100 with q | q
          · omega
          · exact absurd (by rw [hn, show n = 100 by omega]; rfl) c26
        refine lv_aload_n S.1 S.2.1 d_MO_level_42 rfl (lv_at hl 0 rfl) ?_
        refine lv_dup S.1 S.2.1 d_MO_level_43 rfl ?_
        refine mm_get (C := R_MO) (T := T_MO) (N := 22) (v := .int (I 1)) S hK.1 hw hP.2.1 rfl in_MO 1 (by decide) gw_371 rfl rfl d_MO_level_44 ?_
        refine lv_iconst (v := 1) S.1 S.2.1 d_MO_level_47 (by decide) ?_
        refine lv_iadd S.1 S.2.1 d_MO_level_48 ?_
        refine mm_put (C := R_MO) (T := T_MO) (N := 22) (ty := .int) (v := .int ((I 1) + 1)) S hK.1 hw hP.2.1 rfl in_MO t_MO k_MO n_MO 1 (by decide) gw_371 rfl rfl (by decide +kernel) rfl rfl (Nat.le_of_ble_eq_true rfl) d_MO_level_49 (fun H locs hw => ?_)
        obtain ⟨M, hw, hP⟩ := md_puti (k := 1) (v := ((I 1) + 1)) (by decide) hw hP
        refine lv_aload_n S.1 S.2.1 d_MO_level_52 rfl (lv_at hl 0 rfl) ?_
        refine mm_get (C := R_MO) (T := T_MO) (N := 22) (v := .ref (g 0)) S hK.1 hw hP.2.1 rfl in_MO 6 (by decide) gw_376 rfl rfl d_MO_level_53 ?_
        refine lv_aload_n S.1 S.2.1 d_MO_level_56 rfl (lv_at hl 0 rfl) ?_
        refine mm_get (C := R_MO) (T := T_MO) (N := 22) (v := .int (((I 1) + 1))) S hK.1 hw hP.2.1 rfl in_MO 1 (by decide) gw_371 rfl rfl d_MO_level_57 ?_
        refine lv_iload_n S.1 S.2.1 d_MO_level_60 rfl (lv_at hl 1 rfl) ?_
        refine mn_iast (j := cN (I 1 + 1)) (n := 101) (f := F 0) S hK.1 hw 0 (mP_a (k := 0) (F := F) hP (by decide) (by decide)) rfl (by rw [hn, cN_s (by omega)]; exact nI_1 n) (by rw [hn, cN_s (by omega)]; omega) (by decide) d_MO_level_61 (fun H locs hw => ?_)
        obtain ⟨M, hw, hP⟩ := md_ast (k := 0) (j := cN (I 1 + 1)) (v := k) (F := F) (by decide) (by decide) hw hP
        refine lv_aload_n S.1 S.2.1 d_MO_level_62 rfl (lv_at hl 0 rfl) ?_
        refine mm_get (C := R_MO) (T := T_MO) (N := 22) (v := .ref (g 1)) S hK.1 hw hP.2.1 rfl in_MO 7 (by decide) gw_377 rfl rfl d_MO_level_63 ?_
        refine lv_aload_n S.1 S.2.1 d_MO_level_66 rfl (lv_at hl 0 rfl) ?_
        refine mm_get (C := R_MO) (T := T_MO) (N := 22) (v := .int (((I 1) + 1))) S hK.1 hw hP.2.1 rfl in_MO 1 (by decide) gw_371 rfl rfl d_MO_level_67 ?_
        refine lv_aload_n S.1 S.2.1 d_MO_level_70 rfl (lv_at hl 0 rfl) ?_
        refine mm_get (C := R_MO) (T := T_MO) (N := 22) (v := .ref (g 1)) S hK.1 hw hP.2.1 rfl in_MO 7 (by decide) gw_377 rfl rfl d_MO_level_71 ?_
        refine lv_iload_n S.1 S.2.1 d_MO_level_74 rfl (lv_at hl 1 rfl) ?_
        refine mn_iald (j := cN k) (n := 101) (f := F 1) S hK.1 hw 0 (mP_a (k := 1) (F := (va_up F 0 (upd (F 0) (cN (I 1 + 1)) (k)))) hP (by decide) (by decide)) rfl (by rw [c6]; rfl) (by rw [c6]; decide) (by decide) d_MO_level_75 ?_
        refine lv_iconst (v := 1) S.1 S.2.1 d_MO_level_76 (by decide) ?_
        refine lv_iadd S.1 S.2.1 d_MO_level_77 ?_
        refine mn_iast (j := cN (I 1 + 1)) (n := 101) (f := F 1) S hK.1 hw 0 (mP_a (k := 1) (F := (va_up F 0 (upd (F 0) (cN (I 1 + 1)) (k)))) hP (by decide) (by decide)) rfl (by rw [hn, cN_s (by omega)]; exact nI_1 n) (by rw [hn, cN_s (by omega)]; omega) (by decide) d_MO_level_78 (fun H locs hw => ?_)
        obtain ⟨M, hw, hP⟩ := md_ast (k := 1) (j := cN (I 1 + 1)) (v := ((F 1 (cN k)) + 1)) (F := (va_up F 0 (upd (F 0) (cN (I 1 + 1)) (k)))) (by decide) (by decide) hw hP
        refine lv_aload_n S.1 S.2.1 d_MO_level_79 rfl (lv_at hl 0 rfl) ?_
        refine mm_get (C := R_MO) (T := T_MO) (N := 22) (v := .int (((I 1) + 1))) S hK.1 hw hP.2.1 rfl in_MO 1 (by decide) gw_371 rfl rfl d_MO_level_80 ?_
        exact mm_reti S.1 S.2.1 hr hlocks hA hQ hw (md_done hP (show sp_level k I F st = ((((I 1) + 1)), (upd (upd I 0 (0)) 1 (((I 1) + 1))), (va_up (va_up F 0 (upd (F 0) (cN (I 1 + 1)) (k))) 1 (upd (F 1) (cN (I 1 + 1)) (((F 1 (cN k)) + 1)))), st) by simp only [sp_level, eq_true c6, eq_false c26, eq_false c37, not_true_eq_false, not_false_eq_true, and_true, true_and, and_false, false_and, and_self, or_true, true_or, or_false, false_or, or_self, ↓reduceIte])) (Nat.le_of_ble_eq_true rfl) (Nat.le_of_ble_eq_true rfl) d_MO_level_83
      · refine lv_iconst (v := (-1)) S.1 S.2.1 d_MO_level_40 (by decide) ?_
        exact mm_reti S.1 S.2.1 hr hlocks hA hQ hw (md_done hP (show sp_level k I F st = ((-1), (upd I 0 (0)), F, st) by simp only [sp_level, eq_true c6, eq_false c26, eq_true c37, not_true_eq_false, not_false_eq_true, and_true, true_and, and_false, false_and, and_self, or_true, true_or, or_false, false_or, or_self, ↓reduceIte])) (Nat.le_of_ble_eq_true rfl) (Nat.le_of_ble_eq_true rfl) d_MO_level_41
  · refine lv_aload_n S.1 S.2.1 d_MO_level_9 rfl (lv_at hl 0 rfl) ?_
    refine lv_iload_n S.1 S.2.1 d_MO_level_10 rfl (lv_at hl 1 rfl) ?_
    refine mm_calli hw (mm_runV (a := x) (As := [.int k]) (rest := []) S hK hw (c_MO_isLevel l D dA _ x g (upd I 0 (0)) F st k hP _) bv_MO_isLevel gw_442 hP.2.1 rfl (⟨rfl, rfl, by decide, by decide, by decide, by decide⟩) hl.1 rfl rfl (Nat.le_of_ble_eq_true rfl) d_MO_level_11) (fun r1 M2 H locs hp hw => ?_)
    rw [hp.1] at hw
    rcases hp.2 with ⟨rfl, hc3⟩ | ⟨rfl, hc3⟩
    · have hc3 : is_ok (I 1) (k) := hc3
      obtain ⟨j4, ekj4, hlj4, hhj4, enj4⟩ := is_of (N := n) hn (by omega) hc3
      refine lv_if_ne (tgt := 20) S.1 S.2.1 d_MO_level_14 (by decide) (fun c14 => ?_) (fun c14 => absurd c14 (by decide))
      refine lv_aload_n S.1 S.2.1 d_MO_level_20 rfl (lv_at hl 0 rfl) ?_
      refine mm_get (C := R_MO) (T := T_MO) (N := 22) (v := .int (I 1)) S hK.1 hw hP.2.1 rfl in_MO 1 (by decide) gw_371 rfl rfl d_MO_level_21 ?_
      refine lv_bipush (v := 100) S.1 S.2.1 d_MO_level_24 (by decide) ?_
      refine lv_icmp_eq (tgt := 40) S.1 S.2.1 d_MO_level_26 (by decide) (fun c26 => ?_) (fun c26 => ?_)
      · refine lv_iconst (v := (-1)) S.1 S.2.1 d_MO_level_40 (by decide) ?_
        exact mm_reti S.1 S.2.1 hr hlocks hA hQ hw (md_done hP (show sp_level k I F st = ((-1), (upd I 0 (0)), F, st) by simp only [sp_level, eq_false c6, eq_false c14, eq_true c26, eq_true hc3, not_true_eq_false, not_false_eq_true, and_true, true_and, and_false, false_and, and_self, or_true, true_or, or_false, false_or, or_self, ↓reduceIte])) (Nat.le_of_ble_eq_true rfl) (Nat.le_of_ble_eq_true rfl) d_MO_level_41
      · refine lv_aload_n S.1 S.2.1 d_MO_level_29 rfl (lv_at hl 0 rfl) ?_
        refine mm_get (C := R_MO) (T := T_MO) (N := 22) (v := .ref (g 1)) S hK.1 hw hP.2.1 rfl in_MO 7 (by decide) gw_377 rfl rfl d_MO_level_30 ?_
        refine lv_iload_n S.1 S.2.1 d_MO_level_33 rfl (lv_at hl 1 rfl) ?_
        refine mn_iald (j := cN k) (n := 101) (f := F 1) S hK.1 hw 0 (mP_a (k := 1) (F := F) hP (by decide) (by decide)) rfl (cl_nI (is_le0 hc3.1)) (by rw [cN, enj4]; omega) (by decide) d_MO_level_34 ?_
        refine lv_bipush (v := 20) S.1 S.2.1 d_MO_level_35 (by decide) ?_
        refine lv_icmp_ne (tgt := 42) S.1 S.2.1 d_MO_level_37 (by decide) (fun c37 => ?_) (fun c37 => ?_)
        · have hn1 : n + 1 < 101 := by
            rcases Nat.lt_or_ge n 100 with q | q
            · omega
            · exact absurd (by rw [hn, show n = 100 by omega]; rfl) c26
          refine lv_aload_n S.1 S.2.1 d_MO_level_42 rfl (lv_at hl 0 rfl) ?_
          refine lv_dup S.1 S.2.1 d_MO_level_43 rfl ?_
          refine mm_get (C := R_MO) (T := T_MO) (N := 22) (v := .int (I 1)) S hK.1 hw hP.2.1 rfl in_MO 1 (by decide) gw_371 rfl rfl d_MO_level_44 ?_
          refine lv_iconst (v := 1) S.1 S.2.1 d_MO_level_47 (by decide) ?_
          refine lv_iadd S.1 S.2.1 d_MO_level_48 ?_
          refine mm_put (C := R_MO) (T := T_MO) (N := 22) (ty := .int) (v := .int ((I 1) + 1)) S hK.1 hw hP.2.1 rfl in_MO t_MO k_MO n_MO 1 (by decide) gw_371 rfl rfl (by decide +kernel) rfl rfl (Nat.le_of_ble_eq_true rfl) d_MO_level_49 (fun H locs hw => ?_)
          obtain ⟨M, hw, hP⟩ := md_puti (k := 1) (v := ((I 1) + 1)) (by decide) hw hP
          refine lv_aload_n S.1 S.2.1 d_MO_level_52 rfl (lv_at hl 0 rfl) ?_
          refine mm_get (C := R_MO) (T := T_MO) (N := 22) (v := .ref (g 0)) S hK.1 hw hP.2.1 rfl in_MO 6 (by decide) gw_376 rfl rfl d_MO_level_53 ?_
          refine lv_aload_n S.1 S.2.1 d_MO_level_56 rfl (lv_at hl 0 rfl) ?_
          refine mm_get (C := R_MO) (T := T_MO) (N := 22) (v := .int (((I 1) + 1))) S hK.1 hw hP.2.1 rfl in_MO 1 (by decide) gw_371 rfl rfl d_MO_level_57 ?_
          refine lv_iload_n S.1 S.2.1 d_MO_level_60 rfl (lv_at hl 1 rfl) ?_
          refine mn_iast (j := cN (I 1 + 1)) (n := 101) (f := F 0) S hK.1 hw 0 (mP_a (k := 0) (F := F) hP (by decide) (by decide)) rfl (by rw [hn, cN_s (by omega)]; exact nI_1 n) (by rw [hn, cN_s (by omega)]; omega) (by decide) d_MO_level_61 (fun H locs hw => ?_)
          obtain ⟨M, hw, hP⟩ := md_ast (k := 0) (j := cN (I 1 + 1)) (v := k) (F := F) (by decide) (by decide) hw hP
          refine lv_aload_n S.1 S.2.1 d_MO_level_62 rfl (lv_at hl 0 rfl) ?_
          refine mm_get (C := R_MO) (T := T_MO) (N := 22) (v := .ref (g 1)) S hK.1 hw hP.2.1 rfl in_MO 7 (by decide) gw_377 rfl rfl d_MO_level_63 ?_
          refine lv_aload_n S.1 S.2.1 d_MO_level_66 rfl (lv_at hl 0 rfl) ?_
          refine mm_get (C := R_MO) (T := T_MO) (N := 22) (v := .int (((I 1) + 1))) S hK.1 hw hP.2.1 rfl in_MO 1 (by decide) gw_371 rfl rfl d_MO_level_67 ?_
          refine lv_aload_n S.1 S.2.1 d_MO_level_70 rfl (lv_at hl 0 rfl) ?_
          refine mm_get (C := R_MO) (T := T_MO) (N := 22) (v := .ref (g 1)) S hK.1 hw hP.2.1 rfl in_MO 7 (by decide) gw_377 rfl rfl d_MO_level_71 ?_
          refine lv_iload_n S.1 S.2.1 d_MO_level_74 rfl (lv_at hl 1 rfl) ?_
          refine mn_iald (j := cN k) (n := 101) (f := F 1) S hK.1 hw 0 (mP_a (k := 1) (F := (va_up F 0 (upd (F 0) (cN (I 1 + 1)) (k)))) hP (by decide) (by decide)) rfl (cl_nI (is_le0 hc3.1)) (by rw [cN, enj4]; omega) (by decide) d_MO_level_75 ?_
          refine lv_iconst (v := 1) S.1 S.2.1 d_MO_level_76 (by decide) ?_
          refine lv_iadd S.1 S.2.1 d_MO_level_77 ?_
          refine mn_iast (j := cN (I 1 + 1)) (n := 101) (f := F 1) S hK.1 hw 0 (mP_a (k := 1) (F := (va_up F 0 (upd (F 0) (cN (I 1 + 1)) (k)))) hP (by decide) (by decide)) rfl (by rw [hn, cN_s (by omega)]; exact nI_1 n) (by rw [hn, cN_s (by omega)]; omega) (by decide) d_MO_level_78 (fun H locs hw => ?_)
          obtain ⟨M, hw, hP⟩ := md_ast (k := 1) (j := cN (I 1 + 1)) (v := ((F 1 (cN k)) + 1)) (F := (va_up F 0 (upd (F 0) (cN (I 1 + 1)) (k)))) (by decide) (by decide) hw hP
          refine lv_aload_n S.1 S.2.1 d_MO_level_79 rfl (lv_at hl 0 rfl) ?_
          refine mm_get (C := R_MO) (T := T_MO) (N := 22) (v := .int (((I 1) + 1))) S hK.1 hw hP.2.1 rfl in_MO 1 (by decide) gw_371 rfl rfl d_MO_level_80 ?_
          exact mm_reti S.1 S.2.1 hr hlocks hA hQ hw (md_done hP (show sp_level k I F st = ((((I 1) + 1)), (upd (upd I 0 (0)) 1 (((I 1) + 1))), (va_up (va_up F 0 (upd (F 0) (cN (I 1 + 1)) (k))) 1 (upd (F 1) (cN (I 1 + 1)) (((F 1 (cN k)) + 1)))), st) by simp only [sp_level, eq_false c6, eq_false c14, eq_false c26, eq_false c37, eq_true hc3, not_true_eq_false, not_false_eq_true, and_true, true_and, and_false, false_and, and_self, or_true, true_or, or_false, false_or, or_self, ↓reduceIte])) (Nat.le_of_ble_eq_true rfl) (Nat.le_of_ble_eq_true rfl) d_MO_level_83
        · refine lv_iconst (v := (-1)) S.1 S.2.1 d_MO_level_40 (by decide) ?_
          exact mm_reti S.1 S.2.1 hr hlocks hA hQ hw (md_done hP (show sp_level k I F st = ((-1), (upd I 0 (0)), F, st) by simp only [sp_level, eq_false c6, eq_false c14, eq_false c26, eq_true c37, eq_true hc3, not_true_eq_false, not_false_eq_true, and_true, true_and, and_false, false_and, and_self, or_true, true_or, or_false, false_or, or_self, ↓reduceIte])) (Nat.le_of_ble_eq_true rfl) (Nat.le_of_ble_eq_true rfl) d_MO_level_41
    · have hc3 : ¬ is_ok (I 1) (k) := hc3
      refine lv_if_ne (tgt := 20) S.1 S.2.1 d_MO_level_14 (by decide) (fun c14 => absurd c14 (by decide)) (fun c14 => ?_)
      refine lv_bipush (v := (-2)) S.1 S.2.1 d_MO_level_17 (by decide) ?_
      exact mm_reti S.1 S.2.1 hr hlocks hA hQ hw (md_done hP (show sp_level k I F st = ((-2), (upd I 0 (0)), F, st) by simp only [sp_level, eq_false c6, eq_true c14, eq_false hc3, not_true_eq_false, not_false_eq_true, and_true, true_and, and_false, false_and, and_self, or_true, true_or, or_false, false_or, or_self, ↓reduceIte])) (Nat.le_of_ble_eq_true rfl) (Nat.le_of_ble_eq_true rfl) d_MO_level_19
end
section
theorem lgc_ge {x y : Int64} : 0 ≤ lg_cmp x y ↔ ¬ x < y := by
  unfold lg_cmp
  have h0 : (0 : Int32) ≤ 1 := by decide
  have h1 : (0 : Int32) ≤ 0 := by decide
  have h2 : ¬ (0 : Int32) ≤ -1 := by decide
  by_cases a : y < x
  · simp only [a, if_true, h0, true_iff]
    rw [Int64.lt_iff_toInt_lt] at a ⊢
    omega
  · by_cases b : x = y
    · subst b
      simp only [a, if_false, if_true, h1, not_false_eq_true]
    · simp only [a, b, if_false, h2, false_iff, Classical.not_not]
      rw [Int64.lt_iff_toInt_lt] at a ⊢
      have : x.toInt ≠ y.toInt := fun q => b (Int64.toInt_inj.mp q)
      omega
theorem lgc_gt {x y : Int64} : 0 < lg_cmp x y ↔ y < x := by
  unfold lg_cmp
  have h0 : (0 : Int32) < 1 := by decide
  have h1 : ¬ (0 : Int32) < 0 := by decide
  have h2 : ¬ (0 : Int32) < -1 := by decide
  by_cases a : y < x
  · simp only [a, if_true, h0]
  · by_cases b : x = y
    · subst b
      simp only [a, if_false, if_true, h1]
    · simp only [a, b, if_false, h2]
theorem lgc_le {x y : Int64} : lg_cmp x y ≤ 0 ↔ ¬ y < x := by
  unfold lg_cmp
  have h0 : ¬ (1 : Int32) ≤ 0 := by decide
  have h1 : (0 : Int32) ≤ 0 := by decide
  have h2 : (-1 : Int32) ≤ 0 := by decide
  by_cases a : y < x
  · simp only [a, if_true, h0, not_true_eq_false]
  · by_cases b : x = y
    · subst b
      simp only [a, if_false, if_true, h1, not_false_eq_true]
    · simp only [a, b, if_false, h2, not_false_eq_true]
theorem cN_lt {i : Int32} {n : Nat} (h0 : ¬ i < 0) (h : ¬ nI n ≤ i) (hn : n < 2 ^ 31) : cN i < n := by
  obtain ⟨j, hj, rfl⟩ := nI_of h0
  rw [cN, nI_clamp hj]
  exact Nat.not_le.mp (fun q => h ((nI_leI hn hj).mpr q))

theorem d_MO_exit_0 : decode b_MO_exit 0 = .ok (.aload_n 0, 1) := by decide +kernel
theorem d_MO_exit_1 : decode b_MO_exit 1 = .ok (.iconst 0, 1) := by decide +kernel
theorem d_MO_exit_2 : decode b_MO_exit 2 = .ok (.putfield 60, 3) := by decide +kernel
theorem d_MO_exit_5 : decode b_MO_exit 5 = .ok (.aload_n 0, 1) := by decide +kernel
theorem d_MO_exit_6 : decode b_MO_exit 6 = .ok (.iload_n 1, 1) := by decide +kernel
theorem d_MO_exit_7 : decode b_MO_exit 7 = .ok (.invokevirtual 67, 3) := by decide +kernel
theorem d_MO_exit_10 : decode b_MO_exit 10 = .ok (.ifCond .ne 6, 3) := by decide +kernel
theorem d_MO_exit_13 : decode b_MO_exit 13 = .ok (.bipush (-2), 2) := by decide +kernel
theorem d_MO_exit_15 : decode b_MO_exit 15 = .ok (.ireturn, 1) := by decide +kernel
theorem d_MO_exit_16 : decode b_MO_exit 16 = .ok (.iload_n 2, 1) := by decide +kernel
theorem d_MO_exit_17 : decode b_MO_exit 17 = .ok (.ifCond .lt 8, 3) := by decide +kernel
theorem d_MO_exit_20 : decode b_MO_exit 20 = .ok (.iload_n 2, 1) := by decide +kernel
theorem d_MO_exit_21 : decode b_MO_exit 21 = .ok (.iconst 3, 1) := by decide +kernel
theorem d_MO_exit_22 : decode b_MO_exit 22 = .ok (.if_icmp .le 6, 3) := by decide +kernel
theorem d_MO_exit_25 : decode b_MO_exit 25 = .ok (.bipush (-4), 2) := by decide +kernel
theorem d_MO_exit_27 : decode b_MO_exit 27 = .ok (.ireturn, 1) := by decide +kernel
theorem d_MO_exit_28 : decode b_MO_exit 28 = .ok (.aload_n 0, 1) := by decide +kernel
theorem d_MO_exit_29 : decode b_MO_exit 29 = .ok (.getfield 16, 3) := by decide +kernel
theorem d_MO_exit_32 : decode b_MO_exit 32 = .ok (.iload_n 1, 1) := by decide +kernel
theorem d_MO_exit_33 : decode b_MO_exit 33 = .ok (.iaload, 1) := by decide +kernel
theorem d_MO_exit_34 : decode b_MO_exit 34 = .ok (.bipush 10, 2) := by decide +kernel
theorem d_MO_exit_36 : decode b_MO_exit 36 = .ok (.if_icmp .eq 13, 3) := by decide +kernel
theorem d_MO_exit_39 : decode b_MO_exit 39 = .ok (.aload_n 0, 1) := by decide +kernel
theorem d_MO_exit_40 : decode b_MO_exit 40 = .ok (.getfield 71, 3) := by decide +kernel
theorem d_MO_exit_43 : decode b_MO_exit 43 = .ok (.sipush 300, 3) := by decide +kernel
theorem d_MO_exit_46 : decode b_MO_exit 46 = .ok (.if_icmp .ne 5, 3) := by decide +kernel
theorem d_MO_exit_49 : decode b_MO_exit 49 = .ok (.iconst (-1), 1) := by decide +kernel
theorem d_MO_exit_50 : decode b_MO_exit 50 = .ok (.ireturn, 1) := by decide +kernel
theorem d_MO_exit_51 : decode b_MO_exit 51 = .ok (.aload_n 0, 1) := by decide +kernel
theorem d_MO_exit_52 : decode b_MO_exit 52 = .ok (.dup, 1) := by decide +kernel
theorem d_MO_exit_53 : decode b_MO_exit 53 = .ok (.getfield 71, 3) := by decide +kernel
theorem d_MO_exit_56 : decode b_MO_exit 56 = .ok (.iconst 1, 1) := by decide +kernel
theorem d_MO_exit_57 : decode b_MO_exit 57 = .ok (.iadd, 1) := by decide +kernel
theorem d_MO_exit_58 : decode b_MO_exit 58 = .ok (.putfield 71, 3) := by decide +kernel
theorem d_MO_exit_61 : decode b_MO_exit 61 = .ok (.aload_n 0, 1) := by decide +kernel
theorem d_MO_exit_62 : decode b_MO_exit 62 = .ok (.getfield 22, 3) := by decide +kernel
theorem d_MO_exit_65 : decode b_MO_exit 65 = .ok (.aload_n 0, 1) := by decide +kernel
theorem d_MO_exit_66 : decode b_MO_exit 66 = .ok (.getfield 71, 3) := by decide +kernel
theorem d_MO_exit_69 : decode b_MO_exit 69 = .ok (.iload_n 2, 1) := by decide +kernel
theorem d_MO_exit_70 : decode b_MO_exit 70 = .ok (.iastore, 1) := by decide +kernel
theorem d_MO_exit_71 : decode b_MO_exit 71 = .ok (.aload_n 0, 1) := by decide +kernel
theorem d_MO_exit_72 : decode b_MO_exit 72 = .ok (.getfield 28, 3) := by decide +kernel
theorem d_MO_exit_75 : decode b_MO_exit 75 = .ok (.aload_n 0, 1) := by decide +kernel
theorem d_MO_exit_76 : decode b_MO_exit 76 = .ok (.getfield 71, 3) := by decide +kernel
theorem d_MO_exit_79 : decode b_MO_exit 79 = .ok (.iload_n 3, 1) := by decide +kernel
theorem d_MO_exit_80 : decode b_MO_exit 80 = .ok (.bastore, 1) := by decide +kernel
theorem d_MO_exit_81 : decode b_MO_exit 81 = .ok (.aload_n 0, 1) := by decide +kernel
theorem d_MO_exit_82 : decode b_MO_exit 82 = .ok (.getfield 19, 3) := by decide +kernel
theorem d_MO_exit_85 : decode b_MO_exit 85 = .ok (.bipush 10, 2) := by decide +kernel
theorem d_MO_exit_87 : decode b_MO_exit 87 = .ok (.iload_n 1, 1) := by decide +kernel
theorem d_MO_exit_88 : decode b_MO_exit 88 = .ok (.imul, 1) := by decide +kernel
theorem d_MO_exit_89 : decode b_MO_exit 89 = .ok (.aload_n 0, 1) := by decide +kernel
theorem d_MO_exit_90 : decode b_MO_exit 90 = .ok (.getfield 16, 3) := by decide +kernel
theorem d_MO_exit_93 : decode b_MO_exit 93 = .ok (.iload_n 1, 1) := by decide +kernel
theorem d_MO_exit_94 : decode b_MO_exit 94 = .ok (.iaload, 1) := by decide +kernel
theorem d_MO_exit_95 : decode b_MO_exit 95 = .ok (.iadd, 1) := by decide +kernel
theorem d_MO_exit_96 : decode b_MO_exit 96 = .ok (.aload_n 0, 1) := by decide +kernel
theorem d_MO_exit_97 : decode b_MO_exit 97 = .ok (.getfield 71, 3) := by decide +kernel
theorem d_MO_exit_100 : decode b_MO_exit 100 = .ok (.iastore, 1) := by decide +kernel
theorem d_MO_exit_101 : decode b_MO_exit 101 = .ok (.aload_n 0, 1) := by decide +kernel
theorem d_MO_exit_102 : decode b_MO_exit 102 = .ok (.getfield 16, 3) := by decide +kernel
theorem d_MO_exit_105 : decode b_MO_exit 105 = .ok (.iload_n 1, 1) := by decide +kernel
theorem d_MO_exit_106 : decode b_MO_exit 106 = .ok (.dup2, 1) := by decide +kernel
theorem d_MO_exit_107 : decode b_MO_exit 107 = .ok (.iaload, 1) := by decide +kernel
theorem d_MO_exit_108 : decode b_MO_exit 108 = .ok (.iconst 1, 1) := by decide +kernel
theorem d_MO_exit_109 : decode b_MO_exit 109 = .ok (.iadd, 1) := by decide +kernel
theorem d_MO_exit_110 : decode b_MO_exit 110 = .ok (.iastore, 1) := by decide +kernel
theorem d_MO_exit_111 : decode b_MO_exit 111 = .ok (.aload_n 0, 1) := by decide +kernel
theorem d_MO_exit_112 : decode b_MO_exit 112 = .ok (.getfield 71, 3) := by decide +kernel
theorem d_MO_exit_115 : decode b_MO_exit 115 = .ok (.ireturn, 1) := by decide +kernel
set_option maxHeartbeats 4000000 in
set_option maxRecDepth 100000 in
theorem c_MO_exit (l : Launch) (D : va_G) (dA : Nat → ClassId) (M : mm_M) (x : Nat) (g : Nat → Nat) (I : sI) (F : sF) (st : sT) (k d z : Int32) (n ne : Nat) (hn : I 1 = nI n) (hN : n ≤ 100) (hne : I 2 = nI ne) (hNE : ne ≤ 300) (hz : ∀ j, 1 ≤ j → j ≤ n → ∃ z, F 2 j = nI z ∧ z ≤ 10) (hb : z = 0 ∨ z = 1) (hP : mP dA M x g I F st) : mm_Ci l y_MO_exit w_MO_exit ({ frames := 1, cells := 0, slots := 0, locals := 21 }) 0 0 D vC (tyL dA) [.ref x, .int k, .int d, .int z] M (md_post dA x g (sp_exit k d z I F st)) := by
  intro sz
  refine mm_start (by decide) (Nat.le_of_ble_eq_true rfl) ?_
  intro p e s m below meth c A Q ls hA hQ S hr hlocks hin hK hw hl
  have hl : lv_has ls 4 [(0, .ref x), (1, .int k), (2, .int d), (3, .int z)] := hl
  refine lv_aload_n S.1 S.2.1 d_MO_exit_0 rfl (lv_at hl 0 rfl) ?_
  refine lv_iconst (v := 0) S.1 S.2.1 d_MO_exit_1 (by decide) ?_
  refine mm_put (C := R_MO) (T := T_MO) (N := 22) (ty := .int) (v := .int 0) S hK.1 hw hP.2.1 rfl in_MO t_MO k_MO n_MO 0 (by decide) gw_370 rfl rfl (by decide +kernel) rfl rfl (Nat.le_of_ble_eq_true rfl) d_MO_exit_2 (fun H locs hw => ?_)
  obtain ⟨M, hw, hP⟩ := md_puti (k := 0) (v := 0) (by decide) hw hP
  refine lv_aload_n S.1 S.2.1 d_MO_exit_5 rfl (lv_at hl 0 rfl) ?_
  refine lv_iload_n S.1 S.2.1 d_MO_exit_6 rfl (lv_at hl 1 rfl) ?_
  refine mm_calli hw (mm_runV (a := x) (As := [.int k]) (rest := []) S hK hw (c_MO_isLevel l D dA _ x g (upd I 0 (0)) F st k hP _) bv_MO_isLevel gw_442 hP.2.1 rfl (⟨rfl, rfl, by decide, by decide, by decide, by decide⟩) hl.1 rfl rfl (Nat.le_of_ble_eq_true rfl) d_MO_exit_7) (fun r1 M2 H locs hp hw => ?_)
  rw [hp.1] at hw
  rcases hp.2 with ⟨rfl, hc3⟩ | ⟨rfl, hc3⟩
  · have hc3 : is_ok (I 1) (k) := hc3
    obtain ⟨j4, ekj4, hlj4, hhj4, enj4⟩ := is_of (N := n) hn (by omega) hc3
    refine lv_if_ne (tgt := 16) S.1 S.2.1 d_MO_exit_10 (by decide) (fun c10 => ?_) (fun c10 => absurd c10 (by decide))
    refine lv_iload_n S.1 S.2.1 d_MO_exit_16 rfl (lv_at hl 2 rfl) ?_
    refine lv_if_lt (tgt := 25) S.1 S.2.1 d_MO_exit_17 (by decide) (fun c17 => ?_) (fun c17 => ?_)
    · refine lv_bipush (v := (-4)) S.1 S.2.1 d_MO_exit_25 (by decide) ?_
      exact mm_reti S.1 S.2.1 hr hlocks hA hQ hw (md_done hP (show sp_exit k d z I F st = ((-4), (upd I 0 (0)), F, st) by simp only [sp_exit, eq_false c10, eq_true c17, eq_true hc3, not_true_eq_false, not_false_eq_true, and_true, true_and, and_false, false_and, and_self, or_true, true_or, or_false, false_or, or_self, ↓reduceIte])) (Nat.le_of_ble_eq_true rfl) (Nat.le_of_ble_eq_true rfl) d_MO_exit_27
    · refine lv_iload_n S.1 S.2.1 d_MO_exit_20 rfl (lv_at hl 2 rfl) ?_
      refine lv_iconst (v := 3) S.1 S.2.1 d_MO_exit_21 (by decide) ?_
      refine lv_icmp_le (tgt := 28) S.1 S.2.1 d_MO_exit_22 (by decide) (fun c22 => ?_) (fun c22 => ?_)
      · refine lv_aload_n S.1 S.2.1 d_MO_exit_28 rfl (lv_at hl 0 rfl) ?_
        refine mm_get (C := R_MO) (T := T_MO) (N := 22) (v := .ref (g 2)) S hK.1 hw hP.2.1 rfl in_MO 8 (by decide) gw_378 rfl rfl d_MO_exit_29 ?_
        refine lv_iload_n S.1 S.2.1 d_MO_exit_32 rfl (lv_at hl 1 rfl) ?_
        obtain ⟨z0, ez0, hz0⟩ := hz (cN k) (by rw [cN, enj4]; exact hlj4) (by rw [cN, enj4]; exact hhj4)
        refine mn_iald (j := cN k) (n := 101) (f := F 2) S hK.1 hw 0 (mP_a (k := 2) (F := F) hP (by decide) (by decide)) rfl (cl_nI (is_le0 hc3.1)) (by rw [cN, enj4]; omega) (by decide) d_MO_exit_33 ?_
        refine lv_bipush (v := 10) S.1 S.2.1 d_MO_exit_34 (by decide) ?_
        refine lv_icmp_eq (tgt := 49) S.1 S.2.1 d_MO_exit_36 (by decide) (fun c36 => ?_) (fun c36 => ?_)
        · refine lv_iconst (v := (-1)) S.1 S.2.1 d_MO_exit_49 (by decide) ?_
          exact mm_reti S.1 S.2.1 hr hlocks hA hQ hw (md_done hP (show sp_exit k d z I F st = ((-1), (upd I 0 (0)), F, st) by simp only [sp_exit, eq_false c10, eq_false c17, eq_true c22, eq_true c36, eq_true hc3, not_true_eq_false, not_false_eq_true, and_true, true_and, and_false, false_and, and_self, or_true, true_or, or_false, false_or, or_self, ↓reduceIte])) (Nat.le_of_ble_eq_true rfl) (Nat.le_of_ble_eq_true rfl) d_MO_exit_50
        · refine lv_aload_n S.1 S.2.1 d_MO_exit_39 rfl (lv_at hl 0 rfl) ?_
          refine mm_get (C := R_MO) (T := T_MO) (N := 22) (v := .int (I 2)) S hK.1 hw hP.2.1 rfl in_MO 2 (by decide) gw_372 rfl rfl d_MO_exit_40 ?_
          refine lv_sipush (v := 300) S.1 S.2.1 d_MO_exit_43 (by decide) ?_
          refine lv_icmp_ne (tgt := 51) S.1 S.2.1 d_MO_exit_46 (by decide) (fun c46 => ?_) (fun c46 => ?_)
          · refine lv_aload_n S.1 S.2.1 d_MO_exit_51 rfl (lv_at hl 0 rfl) ?_
            refine lv_dup S.1 S.2.1 d_MO_exit_52 rfl ?_
            refine mm_get (C := R_MO) (T := T_MO) (N := 22) (v := .int (I 2)) S hK.1 hw hP.2.1 rfl in_MO 2 (by decide) gw_372 rfl rfl d_MO_exit_53 ?_
            refine lv_iconst (v := 1) S.1 S.2.1 d_MO_exit_56 (by decide) ?_
            refine lv_iadd S.1 S.2.1 d_MO_exit_57 ?_
            have hz1 : z0 < 10 := by
              rcases Nat.lt_or_ge z0 10 with q | q
              · exact q
              · exact absurd (by rw [ez0, show z0 = 10 by omega]; rfl) c36
            have hn1 : ne + 1 < 301 := by
              rcases Nat.lt_or_ge ne 300 with q | q
              · omega
              · exact absurd (by rw [hne, show ne = 300 by omega]; rfl) c46
            refine mm_put (C := R_MO) (T := T_MO) (N := 22) (ty := .int) (v := .int ((I 2) + 1)) S hK.1 hw hP.2.1 rfl in_MO t_MO k_MO n_MO 2 (by decide) gw_372 rfl rfl (by decide +kernel) rfl rfl (Nat.le_of_ble_eq_true rfl) d_MO_exit_58 (fun H locs hw => ?_)
            obtain ⟨M, hw, hP⟩ := md_puti (k := 2) (v := ((I 2) + 1)) (by decide) hw hP
            refine lv_aload_n S.1 S.2.1 d_MO_exit_61 rfl (lv_at hl 0 rfl) ?_
            refine mm_get (C := R_MO) (T := T_MO) (N := 22) (v := .ref (g 4)) S hK.1 hw hP.2.1 rfl in_MO 10 (by decide) gw_380 rfl rfl d_MO_exit_62 ?_
            refine lv_aload_n S.1 S.2.1 d_MO_exit_65 rfl (lv_at hl 0 rfl) ?_
            refine mm_get (C := R_MO) (T := T_MO) (N := 22) (v := .int (((I 2) + 1))) S hK.1 hw hP.2.1 rfl in_MO 2 (by decide) gw_372 rfl rfl d_MO_exit_66 ?_
            refine lv_iload_n S.1 S.2.1 d_MO_exit_69 rfl (lv_at hl 2 rfl) ?_
            refine mn_iast (j := cN (I 2 + 1)) (n := 301) (f := F 4) S hK.1 hw 0 (mP_a (k := 4) (F := F) hP (by decide) (by decide)) rfl (by rw [hne, cN_s (by omega)]; exact nI_1 ne) (by rw [hne, cN_s (by omega)]; omega) (by decide) d_MO_exit_70 (fun H locs hw => ?_)
            obtain ⟨M, hw, hP⟩ := md_ast (k := 4) (j := cN (I 2 + 1)) (v := d) (F := F) (by decide) (by decide) hw hP
            refine lv_aload_n S.1 S.2.1 d_MO_exit_71 rfl (lv_at hl 0 rfl) ?_
            refine mm_get (C := R_MO) (T := T_MO) (N := 22) (v := .ref (g 6)) S hK.1 hw hP.2.1 rfl in_MO 12 (by decide) gw_382 rfl rfl d_MO_exit_72 ?_
            refine lv_aload_n S.1 S.2.1 d_MO_exit_75 rfl (lv_at hl 0 rfl) ?_
            refine mm_get (C := R_MO) (T := T_MO) (N := 22) (v := .int (((I 2) + 1))) S hK.1 hw hP.2.1 rfl in_MO 2 (by decide) gw_372 rfl rfl d_MO_exit_76 ?_
            refine lv_iload_n S.1 S.2.1 d_MO_exit_79 rfl (lv_at hl 3 rfl) ?_
            refine mn_zast (j := cN (I 2 + 1)) (n := 301) (f := F 6) S hK.1 hw 2 (mP_a (k := 6) (F := (va_up F 4 (upd (F 4) (cN (I 2 + 1)) (d)))) hP (by decide) (by decide)) rfl (by rw [hne, cN_s (by omega)]; exact nI_1 ne) (by rw [hne, cN_s (by omega)]; omega) (by decide) (mz_nar2 (hb)) d_MO_exit_80 (fun H locs hw => ?_)
            obtain ⟨M, hw, hP⟩ := md_ast (k := 6) (j := cN (I 2 + 1)) (v := z) (F := (va_up F 4 (upd (F 4) (cN (I 2 + 1)) (d)))) (by decide) (by decide) hw hP
            refine lv_aload_n S.1 S.2.1 d_MO_exit_81 rfl (lv_at hl 0 rfl) ?_
            refine mm_get (C := R_MO) (T := T_MO) (N := 22) (v := .ref (g 3)) S hK.1 hw hP.2.1 rfl in_MO 9 (by decide) gw_379 rfl rfl d_MO_exit_82 ?_
            refine lv_bipush (v := 10) S.1 S.2.1 d_MO_exit_85 (by decide) ?_
            refine lv_iload_n S.1 S.2.1 d_MO_exit_87 rfl (lv_at hl 1 rfl) ?_
            refine lv_imul S.1 S.2.1 d_MO_exit_88 ?_
            refine lv_aload_n S.1 S.2.1 d_MO_exit_89 rfl (lv_at hl 0 rfl) ?_
            refine mm_get (C := R_MO) (T := T_MO) (N := 22) (v := .ref (g 2)) S hK.1 hw hP.2.1 rfl in_MO 8 (by decide) gw_378 rfl rfl d_MO_exit_90 ?_
            refine lv_iload_n S.1 S.2.1 d_MO_exit_93 rfl (lv_at hl 1 rfl) ?_
            refine mn_iald (j := cN k) (n := 101) (f := F 2) S hK.1 hw 0 (mP_a (k := 2) (F := (va_up (va_up F 4 (upd (F 4) (cN (I 2 + 1)) (d))) 6 (upd (F 6) (cN (I 2 + 1)) (z)))) hP (by decide) (by decide)) rfl (cl_nI (is_le0 hc3.1)) (by rw [cN, enj4]; omega) (by decide) d_MO_exit_94 ?_
            refine lv_iadd S.1 S.2.1 d_MO_exit_95 ?_
            refine lv_aload_n S.1 S.2.1 d_MO_exit_96 rfl (lv_at hl 0 rfl) ?_
            refine mm_get (C := R_MO) (T := T_MO) (N := 22) (v := .int (((I 2) + 1))) S hK.1 hw hP.2.1 rfl in_MO 2 (by decide) gw_372 rfl rfl d_MO_exit_97 ?_
            refine mn_iast (j := 10 * cN k + cN (F 2 (cN k))) (n := 1010) (f := F 3) S hK.1 hw 0 (mP_a (k := 3) (F := (va_up (va_up F 4 (upd (F 4) (cN (I 2 + 1)) (d))) 6 (upd (F 6) (cN (I 2 + 1)) (z)))) hP (by decide) (by decide)) rfl (by rw [ez0, cN, cN, enj4, ekj4, nI_clamp (by omega), show (10 : Int32) = nI 10 from rfl, pk_mul, nI_add]) (by rw [ez0, cN, cN, enj4, nI_clamp (by omega)]; omega) (by decide) d_MO_exit_100 (fun H locs hw => ?_)
            obtain ⟨M, hw, hP⟩ := md_ast (k := 3) (j := 10 * cN k + cN (F 2 (cN k))) (v := (((I 2) + 1))) (F := (va_up (va_up F 4 (upd (F 4) (cN (I 2 + 1)) (d))) 6 (upd (F 6) (cN (I 2 + 1)) (z)))) (by decide) (by decide) hw hP
            refine lv_aload_n S.1 S.2.1 d_MO_exit_101 rfl (lv_at hl 0 rfl) ?_
            refine mm_get (C := R_MO) (T := T_MO) (N := 22) (v := .ref (g 2)) S hK.1 hw hP.2.1 rfl in_MO 8 (by decide) gw_378 rfl rfl d_MO_exit_102 ?_
            refine lv_iload_n S.1 S.2.1 d_MO_exit_105 rfl (lv_at hl 1 rfl) ?_
            refine lv_dup2_11 S.1 S.2.1 d_MO_exit_106 rfl rfl ?_
            refine mn_iald (j := cN k) (n := 101) (f := F 2) S hK.1 hw 0 (mP_a (k := 2) (F := (va_up (va_up (va_up F 4 (upd (F 4) (cN (I 2 + 1)) (d))) 6 (upd (F 6) (cN (I 2 + 1)) (z))) 3 (upd (F 3) (10 * cN k + cN (F 2 (cN k))) ((((I 2) + 1)))))) hP (by decide) (by decide)) rfl (cl_nI (is_le0 hc3.1)) (by rw [cN, enj4]; omega) (by decide) d_MO_exit_107 ?_
            refine lv_iconst (v := 1) S.1 S.2.1 d_MO_exit_108 (by decide) ?_
            refine lv_iadd S.1 S.2.1 d_MO_exit_109 ?_
            refine mn_iast (j := cN k) (n := 101) (f := F 2) S hK.1 hw 0 (mP_a (k := 2) (F := (va_up (va_up (va_up F 4 (upd (F 4) (cN (I 2 + 1)) (d))) 6 (upd (F 6) (cN (I 2 + 1)) (z))) 3 (upd (F 3) (10 * cN k + cN (F 2 (cN k))) ((((I 2) + 1)))))) hP (by decide) (by decide)) rfl (cl_nI (is_le0 hc3.1)) (by rw [cN, enj4]; omega) (by decide) d_MO_exit_110 (fun H locs hw => ?_)
            obtain ⟨M, hw, hP⟩ := md_ast (k := 2) (j := cN k) (v := ((F 2 (cN k)) + 1)) (F := (va_up (va_up (va_up F 4 (upd (F 4) (cN (I 2 + 1)) (d))) 6 (upd (F 6) (cN (I 2 + 1)) (z))) 3 (upd (F 3) (10 * cN k + cN (F 2 (cN k))) ((((I 2) + 1)))))) (by decide) (by decide) hw hP
            refine lv_aload_n S.1 S.2.1 d_MO_exit_111 rfl (lv_at hl 0 rfl) ?_
            refine mm_get (C := R_MO) (T := T_MO) (N := 22) (v := .int (((I 2) + 1))) S hK.1 hw hP.2.1 rfl in_MO 2 (by decide) gw_372 rfl rfl d_MO_exit_112 ?_
            exact mm_reti S.1 S.2.1 hr hlocks hA hQ hw (md_done hP (show sp_exit k d z I F st = ((((I 2) + 1)), (upd (upd I 0 (0)) 2 (((I 2) + 1))), (va_up (va_up (va_up (va_up F 4 (upd (F 4) (cN (I 2 + 1)) (d))) 6 (upd (F 6) (cN (I 2 + 1)) (z))) 3 (upd (F 3) (10 * cN k + cN (F 2 (cN k))) ((((I 2) + 1))))) 2 (upd (F 2) (cN k) (((F 2 (cN k)) + 1)))), st) by simp only [sp_exit, eq_false c10, eq_false c17, eq_true c22, eq_false c36, eq_false c46, eq_true hc3, not_true_eq_false, not_false_eq_true, and_true, true_and, and_false, false_and, and_self, or_true, true_or, or_false, false_or, or_self, ↓reduceIte])) (Nat.le_of_ble_eq_true rfl) (Nat.le_of_ble_eq_true rfl) d_MO_exit_115
          · refine lv_iconst (v := (-1)) S.1 S.2.1 d_MO_exit_49 (by decide) ?_
            exact mm_reti S.1 S.2.1 hr hlocks hA hQ hw (md_done hP (show sp_exit k d z I F st = ((-1), (upd I 0 (0)), F, st) by simp only [sp_exit, eq_false c10, eq_false c17, eq_true c22, eq_false c36, eq_true c46, eq_true hc3, not_true_eq_false, not_false_eq_true, and_true, true_and, and_false, false_and, and_self, or_true, true_or, or_false, false_or, or_self, ↓reduceIte])) (Nat.le_of_ble_eq_true rfl) (Nat.le_of_ble_eq_true rfl) d_MO_exit_50
      · refine lv_bipush (v := (-4)) S.1 S.2.1 d_MO_exit_25 (by decide) ?_
        exact mm_reti S.1 S.2.1 hr hlocks hA hQ hw (md_done hP (show sp_exit k d z I F st = ((-4), (upd I 0 (0)), F, st) by simp only [sp_exit, eq_false c10, eq_false c17, eq_false c22, eq_true hc3, not_true_eq_false, not_false_eq_true, and_true, true_and, and_false, false_and, and_self, or_true, true_or, or_false, false_or, or_self, ↓reduceIte])) (Nat.le_of_ble_eq_true rfl) (Nat.le_of_ble_eq_true rfl) d_MO_exit_27
  · have hc3 : ¬ is_ok (I 1) (k) := hc3
    refine lv_if_ne (tgt := 16) S.1 S.2.1 d_MO_exit_10 (by decide) (fun c10 => absurd c10 (by decide)) (fun c10 => ?_)
    refine lv_bipush (v := (-2)) S.1 S.2.1 d_MO_exit_13 (by decide) ?_
    exact mm_reti S.1 S.2.1 hr hlocks hA hQ hw (md_done hP (show sp_exit k d z I F st = ((-2), (upd I 0 (0)), F, st) by simp only [sp_exit, eq_true c10, eq_false hc3, not_true_eq_false, not_false_eq_true, and_true, true_and, and_false, false_and, and_self, or_true, true_or, or_false, false_or, or_self, ↓reduceIte])) (Nat.le_of_ble_eq_true rfl) (Nat.le_of_ble_eq_true rfl) d_MO_exit_15
theorem d_MO_cancel_0 : decode b_MO_cancel 0 = .ok (.aload_n 0, 1) := by decide +kernel
theorem d_MO_cancel_1 : decode b_MO_cancel 1 = .ok (.iconst 0, 1) := by decide +kernel
theorem d_MO_cancel_2 : decode b_MO_cancel 2 = .ok (.putfield 60, 3) := by decide +kernel
theorem d_MO_cancel_5 : decode b_MO_cancel 5 = .ok (.aload_n 0, 1) := by decide +kernel
theorem d_MO_cancel_6 : decode b_MO_cancel 6 = .ok (.iload_n 1, 1) := by decide +kernel
theorem d_MO_cancel_7 : decode b_MO_cancel 7 = .ok (.invokevirtual 67, 3) := by decide +kernel
theorem d_MO_cancel_10 : decode b_MO_cancel 10 = .ok (.ifCond .ne 6, 3) := by decide +kernel
theorem d_MO_cancel_13 : decode b_MO_cancel 13 = .ok (.bipush (-2), 2) := by decide +kernel
theorem d_MO_cancel_15 : decode b_MO_cancel 15 = .ok (.ireturn, 1) := by decide +kernel
theorem d_MO_cancel_16 : decode b_MO_cancel 16 = .ok (.aload_n 0, 1) := by decide +kernel
theorem d_MO_cancel_17 : decode b_MO_cancel 17 = .ok (.getfield 16, 3) := by decide +kernel
theorem d_MO_cancel_20 : decode b_MO_cancel 20 = .ok (.iload_n 1, 1) := by decide +kernel
theorem d_MO_cancel_21 : decode b_MO_cancel 21 = .ok (.iaload, 1) := by decide +kernel
theorem d_MO_cancel_22 : decode b_MO_cancel 22 = .ok (.ifCond .ne 5, 3) := by decide +kernel
theorem d_MO_cancel_25 : decode b_MO_cancel 25 = .ok (.iconst (-1), 1) := by decide +kernel
theorem d_MO_cancel_26 : decode b_MO_cancel 26 = .ok (.ireturn, 1) := by decide +kernel
theorem d_MO_cancel_27 : decode b_MO_cancel 27 = .ok (.aload_n 0, 1) := by decide +kernel
theorem d_MO_cancel_28 : decode b_MO_cancel 28 = .ok (.getfield 16, 3) := by decide +kernel
theorem d_MO_cancel_31 : decode b_MO_cancel 31 = .ok (.iload_n 1, 1) := by decide +kernel
theorem d_MO_cancel_32 : decode b_MO_cancel 32 = .ok (.dup2, 1) := by decide +kernel
theorem d_MO_cancel_33 : decode b_MO_cancel 33 = .ok (.iaload, 1) := by decide +kernel
theorem d_MO_cancel_34 : decode b_MO_cancel 34 = .ok (.iconst 1, 1) := by decide +kernel
theorem d_MO_cancel_35 : decode b_MO_cancel 35 = .ok (.isub, 1) := by decide +kernel
theorem d_MO_cancel_36 : decode b_MO_cancel 36 = .ok (.iastore, 1) := by decide +kernel
theorem d_MO_cancel_37 : decode b_MO_cancel 37 = .ok (.aload_n 0, 1) := by decide +kernel
theorem d_MO_cancel_38 : decode b_MO_cancel 38 = .ok (.getfield 16, 3) := by decide +kernel
theorem d_MO_cancel_41 : decode b_MO_cancel 41 = .ok (.iload_n 1, 1) := by decide +kernel
theorem d_MO_cancel_42 : decode b_MO_cancel 42 = .ok (.iaload, 1) := by decide +kernel
theorem d_MO_cancel_43 : decode b_MO_cancel 43 = .ok (.ireturn, 1) := by decide +kernel
set_option maxHeartbeats 4000000 in
set_option maxRecDepth 100000 in
theorem c_MO_cancel (l : Launch) (D : va_G) (dA : Nat → ClassId) (M : mm_M) (x : Nat) (g : Nat → Nat) (I : sI) (F : sF) (st : sT) (k : Int32) (n : Nat) (hn : I 1 = nI n) (hN : n ≤ 100) (hP : mP dA M x g I F st) : mm_Ci l y_MO_cancel w_MO_cancel ({ frames := 1, cells := 0, slots := 0, locals := 21 }) 0 0 D vC (tyL dA) [.ref x, .int k] M (md_post dA x g (sp_cancel k I F st)) := by
  intro sz
  refine mm_start (by decide) (Nat.le_of_ble_eq_true rfl) ?_
  intro p e s m below meth c A Q ls hA hQ S hr hlocks hin hK hw hl
  have hl : lv_has ls 2 [(0, .ref x), (1, .int k)] := hl
  refine lv_aload_n S.1 S.2.1 d_MO_cancel_0 rfl (lv_at hl 0 rfl) ?_
  refine lv_iconst (v := 0) S.1 S.2.1 d_MO_cancel_1 (by decide) ?_
  refine mm_put (C := R_MO) (T := T_MO) (N := 22) (ty := .int) (v := .int 0) S hK.1 hw hP.2.1 rfl in_MO t_MO k_MO n_MO 0 (by decide) gw_370 rfl rfl (by decide +kernel) rfl rfl (Nat.le_of_ble_eq_true rfl) d_MO_cancel_2 (fun H locs hw => ?_)
  obtain ⟨M, hw, hP⟩ := md_puti (k := 0) (v := 0) (by decide) hw hP
  refine lv_aload_n S.1 S.2.1 d_MO_cancel_5 rfl (lv_at hl 0 rfl) ?_
  refine lv_iload_n S.1 S.2.1 d_MO_cancel_6 rfl (lv_at hl 1 rfl) ?_
  refine mm_calli hw (mm_runV (a := x) (As := [.int k]) (rest := []) S hK hw (c_MO_isLevel l D dA _ x g (upd I 0 (0)) F st k hP _) bv_MO_isLevel gw_442 hP.2.1 rfl (⟨rfl, rfl, by decide, by decide, by decide, by decide⟩) hl.1 rfl rfl (Nat.le_of_ble_eq_true rfl) d_MO_cancel_7) (fun r1 M2 H locs hp hw => ?_)
  rw [hp.1] at hw
  rcases hp.2 with ⟨rfl, hc3⟩ | ⟨rfl, hc3⟩
  · have hc3 : is_ok (I 1) (k) := hc3
    obtain ⟨j4, ekj4, hlj4, hhj4, enj4⟩ := is_of (N := n) hn (by omega) hc3
    refine lv_if_ne (tgt := 16) S.1 S.2.1 d_MO_cancel_10 (by decide) (fun c10 => ?_) (fun c10 => absurd c10 (by decide))
    refine lv_aload_n S.1 S.2.1 d_MO_cancel_16 rfl (lv_at hl 0 rfl) ?_
    refine mm_get (C := R_MO) (T := T_MO) (N := 22) (v := .ref (g 2)) S hK.1 hw hP.2.1 rfl in_MO 8 (by decide) gw_378 rfl rfl d_MO_cancel_17 ?_
    refine lv_iload_n S.1 S.2.1 d_MO_cancel_20 rfl (lv_at hl 1 rfl) ?_
    refine mn_iald (j := cN k) (n := 101) (f := F 2) S hK.1 hw 0 (mP_a (k := 2) (F := F) hP (by decide) (by decide)) rfl (cl_nI (is_le0 hc3.1)) (by rw [cN, enj4]; omega) (by decide) d_MO_cancel_21 ?_
    refine lv_if_ne (tgt := 27) S.1 S.2.1 d_MO_cancel_22 (by decide) (fun c22 => ?_) (fun c22 => ?_)
    · refine lv_aload_n S.1 S.2.1 d_MO_cancel_27 rfl (lv_at hl 0 rfl) ?_
      refine mm_get (C := R_MO) (T := T_MO) (N := 22) (v := .ref (g 2)) S hK.1 hw hP.2.1 rfl in_MO 8 (by decide) gw_378 rfl rfl d_MO_cancel_28 ?_
      refine lv_iload_n S.1 S.2.1 d_MO_cancel_31 rfl (lv_at hl 1 rfl) ?_
      refine lv_dup2_11 S.1 S.2.1 d_MO_cancel_32 rfl rfl ?_
      refine mn_iald (j := cN k) (n := 101) (f := F 2) S hK.1 hw 0 (mP_a (k := 2) (F := F) hP (by decide) (by decide)) rfl (cl_nI (is_le0 hc3.1)) (by rw [cN, enj4]; omega) (by decide) d_MO_cancel_33 ?_
      refine lv_iconst (v := 1) S.1 S.2.1 d_MO_cancel_34 (by decide) ?_
      refine lv_isub S.1 S.2.1 d_MO_cancel_35 ?_
      refine mn_iast (j := cN k) (n := 101) (f := F 2) S hK.1 hw 0 (mP_a (k := 2) (F := F) hP (by decide) (by decide)) rfl (cl_nI (is_le0 hc3.1)) (by rw [cN, enj4]; omega) (by decide) d_MO_cancel_36 (fun H locs hw => ?_)
      obtain ⟨M, hw, hP⟩ := md_ast (k := 2) (j := cN k) (v := ((F 2 (cN k)) - 1)) (F := F) (by decide) (by decide) hw hP
      refine lv_aload_n S.1 S.2.1 d_MO_cancel_37 rfl (lv_at hl 0 rfl) ?_
      refine mm_get (C := R_MO) (T := T_MO) (N := 22) (v := .ref (g 2)) S hK.1 hw hP.2.1 rfl in_MO 8 (by decide) gw_378 rfl rfl d_MO_cancel_38 ?_
      refine lv_iload_n S.1 S.2.1 d_MO_cancel_41 rfl (lv_at hl 1 rfl) ?_
      refine mn_iald (j := cN k) (n := 101) (f := upd (F 2) (cN k) (((F 2 (cN k)) - 1))) S hK.1 hw 0 (mP_a (k := 2) (F := (va_up F 2 (upd (F 2) (cN k) (((F 2 (cN k)) - 1))))) hP (by decide) (by decide)) rfl (cl_nI (is_le0 hc3.1)) (by rw [cN, enj4]; omega) (by decide) d_MO_cancel_42 ?_
      rw [pk_us]
      exact mm_reti S.1 S.2.1 hr hlocks hA hQ hw (md_done hP (show sp_cancel k I F st = ((F 2 (cN k) - 1), (upd I 0 (0)), (va_up F 2 (upd (F 2) (cN k) (((F 2 (cN k)) - 1)))), st) by simp only [sp_cancel, eq_false c10, eq_false c22, eq_true hc3, not_true_eq_false, not_false_eq_true, and_true, true_and, and_false, false_and, and_self, or_true, true_or, or_false, false_or, or_self, ↓reduceIte])) (Nat.le_of_ble_eq_true rfl) (Nat.le_of_ble_eq_true rfl) d_MO_cancel_43
    · refine lv_iconst (v := (-1)) S.1 S.2.1 d_MO_cancel_25 (by decide) ?_
      exact mm_reti S.1 S.2.1 hr hlocks hA hQ hw (md_done hP (show sp_cancel k I F st = ((-1), (upd I 0 (0)), F, st) by simp only [sp_cancel, eq_false c10, eq_true c22, eq_true hc3, not_true_eq_false, not_false_eq_true, and_true, true_and, and_false, false_and, and_self, or_true, true_or, or_false, false_or, or_self, ↓reduceIte])) (Nat.le_of_ble_eq_true rfl) (Nat.le_of_ble_eq_true rfl) d_MO_cancel_26
  · have hc3 : ¬ is_ok (I 1) (k) := hc3
    refine lv_if_ne (tgt := 16) S.1 S.2.1 d_MO_cancel_10 (by decide) (fun c10 => absurd c10 (by decide)) (fun c10 => ?_)
    refine lv_bipush (v := (-2)) S.1 S.2.1 d_MO_cancel_13 (by decide) ?_
    exact mm_reti S.1 S.2.1 hr hlocks hA hQ hw (md_done hP (show sp_cancel k I F st = ((-2), (upd I 0 (0)), F, st) by simp only [sp_cancel, eq_true c10, eq_false hc3, not_true_eq_false, not_false_eq_true, and_true, true_and, and_false, false_and, and_self, or_true, true_or, or_false, false_or, or_self, ↓reduceIte])) (Nat.le_of_ble_eq_true rfl) (Nat.le_of_ble_eq_true rfl) d_MO_cancel_15
theorem d_MO_order_0 : decode b_MO_order 0 = .ok (.aload_n 0, 1) := by decide +kernel
theorem d_MO_order_1 : decode b_MO_order 1 = .ok (.iconst 0, 1) := by decide +kernel
theorem d_MO_order_2 : decode b_MO_order 2 = .ok (.putfield 60, 3) := by decide +kernel
theorem d_MO_order_5 : decode b_MO_order 5 = .ok (.iload_n 1, 1) := by decide +kernel
theorem d_MO_order_6 : decode b_MO_order 6 = .ok (.ifCond .lt 20, 3) := by decide +kernel
theorem d_MO_order_9 : decode b_MO_order 9 = .ok (.iload_n 1, 1) := by decide +kernel
theorem d_MO_order_10 : decode b_MO_order 10 = .ok (.aload_n 0, 1) := by decide +kernel
theorem d_MO_order_11 : decode b_MO_order 11 = .ok (.getfield 77, 3) := by decide +kernel
theorem d_MO_order_14 : decode b_MO_order 14 = .ok (.if_icmp .ge 12, 3) := by decide +kernel
theorem d_MO_order_17 : decode b_MO_order 17 = .ok (.aload_n 0, 1) := by decide +kernel
theorem d_MO_order_18 : decode b_MO_order 18 = .ok (.getfield 25, 3) := by decide +kernel
theorem d_MO_order_21 : decode b_MO_order 21 = .ok (.iload_n 1, 1) := by decide +kernel
theorem d_MO_order_22 : decode b_MO_order 22 = .ok (.iaload, 1) := by decide +kernel
theorem d_MO_order_23 : decode b_MO_order 23 = .ok (.goto 4, 3) := by decide +kernel
theorem d_MO_order_26 : decode b_MO_order 26 = .ok (.iconst 0, 1) := by decide +kernel
theorem d_MO_order_27 : decode b_MO_order 27 = .ok (.ireturn, 1) := by decide +kernel
set_option maxHeartbeats 4000000 in
set_option maxRecDepth 100000 in
theorem c_MO_order (l : Launch) (D : va_G) (dA : Nat → ClassId) (M : mm_M) (x : Nat) (g : Nat → Nat) (I : sI) (F : sF) (st : sT) (i : Int32) (na : Nat) (hna : I 5 = nI na) (hNA : na ≤ 300) (hP : mP dA M x g I F st) : mm_Ci l y_MO_order w_MO_order ({ frames := 0, cells := 0, slots := 0, locals := 0 }) 0 0 D vC (tyL dA) [.ref x, .int i] M (md_post dA x g (sp_order i I F st)) := by
  intro sz
  refine mm_start (by decide) (Nat.le_of_ble_eq_true rfl) ?_
  intro p e s m below meth c A Q ls hA hQ S hr hlocks hin hK hw hl
  have hl : lv_has ls 2 [(0, .ref x), (1, .int i)] := hl
  refine lv_aload_n S.1 S.2.1 d_MO_order_0 rfl (lv_at hl 0 rfl) ?_
  refine lv_iconst (v := 0) S.1 S.2.1 d_MO_order_1 (by decide) ?_
  refine mm_put (C := R_MO) (T := T_MO) (N := 22) (ty := .int) (v := .int 0) S hK.1 hw hP.2.1 rfl in_MO t_MO k_MO n_MO 0 (by decide) gw_370 rfl rfl (by decide +kernel) rfl rfl (Nat.le_of_ble_eq_true rfl) d_MO_order_2 (fun H locs hw => ?_)
  obtain ⟨M, hw, hP⟩ := md_puti (k := 0) (v := 0) (by decide) hw hP
  refine lv_iload_n S.1 S.2.1 d_MO_order_5 rfl (lv_at hl 1 rfl) ?_
  refine lv_if_lt (tgt := 26) S.1 S.2.1 d_MO_order_6 (by decide) (fun c6 => ?_) (fun c6 => ?_)
  · refine lv_iconst (v := 0) S.1 S.2.1 d_MO_order_26 (by decide) ?_
    exact mm_reti S.1 S.2.1 hr hlocks hA hQ hw (md_done hP (show sp_order i I F st = (0, (upd I 0 (0)), F, st) by simp only [sp_order, eq_true c6, not_true_eq_false, not_false_eq_true, and_true, true_and, and_false, false_and, and_self, or_true, true_or, or_false, false_or, or_self, ↓reduceIte])) (Nat.le_of_ble_eq_true rfl) (Nat.le_of_ble_eq_true rfl) d_MO_order_27
  · refine lv_iload_n S.1 S.2.1 d_MO_order_9 rfl (lv_at hl 1 rfl) ?_
    refine lv_aload_n S.1 S.2.1 d_MO_order_10 rfl (lv_at hl 0 rfl) ?_
    refine mm_get (C := R_MO) (T := T_MO) (N := 22) (v := .int (I 5)) S hK.1 hw hP.2.1 rfl in_MO 5 (by decide) gw_375 rfl rfl d_MO_order_11 ?_
    refine lv_icmp_ge (tgt := 26) S.1 S.2.1 d_MO_order_14 (by decide) (fun c14 => ?_) (fun c14 => ?_)
    · refine lv_iconst (v := 0) S.1 S.2.1 d_MO_order_26 (by decide) ?_
      exact mm_reti S.1 S.2.1 hr hlocks hA hQ hw (md_done hP (show sp_order i I F st = (0, (upd I 0 (0)), F, st) by simp only [sp_order, eq_false c6, eq_true c14, not_true_eq_false, not_false_eq_true, and_true, true_and, and_false, false_and, and_self, or_true, true_or, or_false, false_or, or_self, ↓reduceIte])) (Nat.le_of_ble_eq_true rfl) (Nat.le_of_ble_eq_true rfl) d_MO_order_27
    · refine lv_aload_n S.1 S.2.1 d_MO_order_17 rfl (lv_at hl 0 rfl) ?_
      refine mm_get (C := R_MO) (T := T_MO) (N := 22) (v := .ref (g 5)) S hK.1 hw hP.2.1 rfl in_MO 11 (by decide) gw_381 rfl rfl d_MO_order_18 ?_
      refine lv_iload_n S.1 S.2.1 d_MO_order_21 rfl (lv_at hl 1 rfl) ?_
      refine mn_iald (j := cN i) (n := 301) (f := F 5) S hK.1 hw 0 (mP_a (k := 5) (F := F) hP (by decide) (by decide)) rfl (cl_nI c6) (Nat.lt_of_lt_of_le (cN_lt (n := na) c6 (by rw [← hna]; exact c14) (by omega)) (by omega)) (by decide) d_MO_order_22 ?_
      refine lv_goto (tgt := 27) S.1 S.2.1 d_MO_order_23 (by decide) ?_
      exact mm_reti S.1 S.2.1 hr hlocks hA hQ hw (md_done hP (show sp_order i I F st = ((F 5 (cN i)), (upd I 0 (0)), F, st) by simp only [sp_order, eq_false c6, eq_false c14, not_true_eq_false, not_false_eq_true, and_true, true_and, and_false, false_and, and_self, or_true, true_or, or_false, false_or, or_self, ↓reduceIte])) (Nat.le_of_ble_eq_true rfl) (Nat.le_of_ble_eq_true rfl) d_MO_order_27
theorem d_MO_count_0 : decode b_MO_count 0 = .ok (.aload_n 0, 1) := by decide +kernel
theorem d_MO_count_1 : decode b_MO_count 1 = .ok (.iconst 0, 1) := by decide +kernel
theorem d_MO_count_2 : decode b_MO_count 2 = .ok (.putfield 60, 3) := by decide +kernel
theorem d_MO_count_5 : decode b_MO_count 5 = .ok (.iload_n 1, 1) := by decide +kernel
theorem d_MO_count_6 : decode b_MO_count 6 = .ok (.invokestatic 74, 3) := by decide +kernel
theorem d_MO_count_9 : decode b_MO_count 9 = .ok (.ifCond .eq 12, 3) := by decide +kernel
theorem d_MO_count_12 : decode b_MO_count 12 = .ok (.aload_n 0, 1) := by decide +kernel
theorem d_MO_count_13 : decode b_MO_count 13 = .ok (.getfield 35, 3) := by decide +kernel
theorem d_MO_count_16 : decode b_MO_count 16 = .ok (.iload_n 1, 1) := by decide +kernel
theorem d_MO_count_17 : decode b_MO_count 17 = .ok (.iaload, 1) := by decide +kernel
theorem d_MO_count_18 : decode b_MO_count 18 = .ok (.goto 4, 3) := by decide +kernel
theorem d_MO_count_21 : decode b_MO_count 21 = .ok (.iconst 0, 1) := by decide +kernel
theorem d_MO_count_22 : decode b_MO_count 22 = .ok (.ireturn, 1) := by decide +kernel
set_option maxHeartbeats 4000000 in
set_option maxRecDepth 100000 in
theorem c_MO_count (l : Launch) (D : va_G) (dA : Nat → ClassId) (M : mm_M) (x : Nat) (g : Nat → Nat) (I : sI) (F : sF) (st : sT) (k : Int32) (hP : mP dA M x g I F st) : mm_Ci l y_MO_count w_MO_count ({ frames := 1, cells := 0, slots := 0, locals := 20 }) 0 0 D vC (tyL dA) [.ref x, .int k] M (md_post dA x g (sp_count k I F st)) := by
  intro sz
  refine mm_start (by decide) (Nat.le_of_ble_eq_true rfl) ?_
  intro p e s m below meth c A Q ls hA hQ S hr hlocks hin hK hw hl
  have hl : lv_has ls 2 [(0, .ref x), (1, .int k)] := hl
  refine lv_aload_n S.1 S.2.1 d_MO_count_0 rfl (lv_at hl 0 rfl) ?_
  refine lv_iconst (v := 0) S.1 S.2.1 d_MO_count_1 (by decide) ?_
  refine mm_put (C := R_MO) (T := T_MO) (N := 22) (ty := .int) (v := .int 0) S hK.1 hw hP.2.1 rfl in_MO t_MO k_MO n_MO 0 (by decide) gw_370 rfl rfl (by decide +kernel) rfl rfl (Nat.le_of_ble_eq_true rfl) d_MO_count_2 (fun H locs hw => ?_)
  obtain ⟨M, hw, hP⟩ := md_puti (k := 0) (v := 0) (by decide) hw hP
  refine lv_iload_n S.1 S.2.1 d_MO_count_5 rfl (lv_at hl 1 rfl) ?_
  refine mm_calli hw (mm_runS (As := [.int k]) (rest := []) S hK hw (c_MO_isCode l D dA _ k _) bs_MO_isCode gw_458 (⟨rfl, rfl, by decide, by decide, by decide, by decide⟩) hl.1 rfl rfl (Nat.le_of_ble_eq_true rfl) d_MO_count_6) (fun r1 M2 H locs hp hw => ?_)
  rw [hp.1] at hw
  rcases hp.2 with ⟨rfl, hc3⟩ | ⟨rfl, hc3⟩
  · obtain ⟨j4, ekj4, hlj4, hhj4, enj4⟩ := is_of (N := 9999) rfl (by omega) hc3
    refine lv_if_eq (tgt := 21) S.1 S.2.1 d_MO_count_9 (by decide) (fun c9 => absurd c9 (by decide)) (fun c9 => ?_)
    refine lv_aload_n S.1 S.2.1 d_MO_count_12 rfl (lv_at hl 0 rfl) ?_
    refine mm_get (C := R_MO) (T := T_MO) (N := 22) (v := .ref (g 8)) S hK.1 hw hP.2.1 rfl in_MO 14 (by decide) gw_384 rfl rfl d_MO_count_13 ?_
    refine lv_iload_n S.1 S.2.1 d_MO_count_16 rfl (lv_at hl 1 rfl) ?_
    refine mn_iald (j := cN k) (n := 10000) (f := F 8) S hK.1 hw 0 (mP_a (k := 8) (F := F) hP (by decide) (by decide)) rfl (cl_nI (is_le0 hc3.1)) (by rw [cN, enj4]; omega) (by decide) d_MO_count_17 ?_
    refine lv_goto (tgt := 22) S.1 S.2.1 d_MO_count_18 (by decide) ?_
    exact mm_reti S.1 S.2.1 hr hlocks hA hQ hw (md_done hP (show sp_count k I F st = ((F 8 (cN k)), (upd I 0 (0)), F, st) by simp only [sp_count, eq_false c9, eq_true hc3, not_true_eq_false, not_false_eq_true, and_true, true_and, and_false, false_and, and_self, or_true, true_or, or_false, false_or, or_self, ↓reduceIte])) (Nat.le_of_ble_eq_true rfl) (Nat.le_of_ble_eq_true rfl) d_MO_count_22
  · refine lv_if_eq (tgt := 21) S.1 S.2.1 d_MO_count_9 (by decide) (fun c9 => ?_) (fun c9 => absurd c9 (by decide))
    refine lv_iconst (v := 0) S.1 S.2.1 d_MO_count_21 (by decide) ?_
    exact mm_reti S.1 S.2.1 hr hlocks hA hQ hw (md_done hP (show sp_count k I F st = (0, (upd I 0 (0)), F, st) by simp only [sp_count, eq_true c9, eq_false hc3, not_true_eq_false, not_false_eq_true, and_true, true_and, and_false, false_and, and_self, or_true, true_or, or_false, false_or, or_self, ↓reduceIte])) (Nat.le_of_ble_eq_true rfl) (Nat.le_of_ble_eq_true rfl) d_MO_count_22
theorem d_MO_region_0 : decode b_MO_region 0 = .ok (.aload_n 0, 1) := by decide +kernel
theorem d_MO_region_1 : decode b_MO_region 1 = .ok (.iconst 0, 1) := by decide +kernel
theorem d_MO_region_2 : decode b_MO_region 2 = .ok (.putfield 60, 3) := by decide +kernel
theorem d_MO_region_5 : decode b_MO_region 5 = .ok (.iload_n 1, 1) := by decide +kernel
theorem d_MO_region_6 : decode b_MO_region 6 = .ok (.invokestatic 74, 3) := by decide +kernel
theorem d_MO_region_9 : decode b_MO_region 9 = .ok (.ifCond .ne 8, 3) := by decide +kernel
theorem d_MO_region_12 : decode b_MO_region 12 = .ok (.bipush (-4), 2) := by decide +kernel
theorem d_MO_region_14 : decode b_MO_region 14 = .ok (.goto 26, 3) := by decide +kernel
theorem d_MO_region_17 : decode b_MO_region 17 = .ok (.iload_n 1, 1) := by decide +kernel
theorem d_MO_region_18 : decode b_MO_region 18 = .ok (.sipush 1000, 3) := by decide +kernel
theorem d_MO_region_21 : decode b_MO_region 21 = .ok (.if_icmp .ge 7, 3) := by decide +kernel
theorem d_MO_region_24 : decode b_MO_region 24 = .ok (.iconst 1, 1) := by decide +kernel
theorem d_MO_region_25 : decode b_MO_region 25 = .ok (.goto 15, 3) := by decide +kernel
theorem d_MO_region_28 : decode b_MO_region 28 = .ok (.iload_n 1, 1) := by decide +kernel
theorem d_MO_region_29 : decode b_MO_region 29 = .ok (.sipush 4000, 3) := by decide +kernel
theorem d_MO_region_32 : decode b_MO_region 32 = .ok (.if_icmp .ge 7, 3) := by decide +kernel
theorem d_MO_region_35 : decode b_MO_region 35 = .ok (.iconst 2, 1) := by decide +kernel
theorem d_MO_region_36 : decode b_MO_region 36 = .ok (.goto 4, 3) := by decide +kernel
theorem d_MO_region_39 : decode b_MO_region 39 = .ok (.iconst 3, 1) := by decide +kernel
theorem d_MO_region_40 : decode b_MO_region 40 = .ok (.ireturn, 1) := by decide +kernel
set_option maxHeartbeats 4000000 in
set_option maxRecDepth 100000 in
theorem c_MO_region (l : Launch) (D : va_G) (dA : Nat → ClassId) (M : mm_M) (x : Nat) (g : Nat → Nat) (I : sI) (F : sF) (st : sT) (k : Int32) (hP : mP dA M x g I F st) : mm_Ci l y_MO_region w_MO_region ({ frames := 1, cells := 0, slots := 0, locals := 20 }) 0 0 D vC (tyL dA) [.ref x, .int k] M (md_post dA x g (sp_region k I F st)) := by
  intro sz
  refine mm_start (by decide) (Nat.le_of_ble_eq_true rfl) ?_
  intro p e s m below meth c A Q ls hA hQ S hr hlocks hin hK hw hl
  have hl : lv_has ls 2 [(0, .ref x), (1, .int k)] := hl
  refine lv_aload_n S.1 S.2.1 d_MO_region_0 rfl (lv_at hl 0 rfl) ?_
  refine lv_iconst (v := 0) S.1 S.2.1 d_MO_region_1 (by decide) ?_
  refine mm_put (C := R_MO) (T := T_MO) (N := 22) (ty := .int) (v := .int 0) S hK.1 hw hP.2.1 rfl in_MO t_MO k_MO n_MO 0 (by decide) gw_370 rfl rfl (by decide +kernel) rfl rfl (Nat.le_of_ble_eq_true rfl) d_MO_region_2 (fun H locs hw => ?_)
  obtain ⟨M, hw, hP⟩ := md_puti (k := 0) (v := 0) (by decide) hw hP
  refine lv_iload_n S.1 S.2.1 d_MO_region_5 rfl (lv_at hl 1 rfl) ?_
  refine mm_calli hw (mm_runS (As := [.int k]) (rest := []) S hK hw (c_MO_isCode l D dA _ k _) bs_MO_isCode gw_458 (⟨rfl, rfl, by decide, by decide, by decide, by decide⟩) hl.1 rfl rfl (Nat.le_of_ble_eq_true rfl) d_MO_region_6) (fun r1 M2 H locs hp hw => ?_)
  rw [hp.1] at hw
  rcases hp.2 with ⟨rfl, hc3⟩ | ⟨rfl, hc3⟩
  · obtain ⟨j4, ekj4, hlj4, hhj4, enj4⟩ := is_of (N := 9999) rfl (by omega) hc3
    refine lv_if_ne (tgt := 17) S.1 S.2.1 d_MO_region_9 (by decide) (fun c9 => ?_) (fun c9 => absurd c9 (by decide))
    refine lv_iload_n S.1 S.2.1 d_MO_region_17 rfl (lv_at hl 1 rfl) ?_
    refine lv_sipush (v := 1000) S.1 S.2.1 d_MO_region_18 (by decide) ?_
    refine lv_icmp_ge (tgt := 28) S.1 S.2.1 d_MO_region_21 (by decide) (fun c21 => ?_) (fun c21 => ?_)
    · refine lv_iload_n S.1 S.2.1 d_MO_region_28 rfl (lv_at hl 1 rfl) ?_
      refine lv_sipush (v := 4000) S.1 S.2.1 d_MO_region_29 (by decide) ?_
      refine lv_icmp_ge (tgt := 39) S.1 S.2.1 d_MO_region_32 (by decide) (fun c32 => ?_) (fun c32 => ?_)
      · refine lv_iconst (v := 3) S.1 S.2.1 d_MO_region_39 (by decide) ?_
        exact mm_reti S.1 S.2.1 hr hlocks hA hQ hw (md_done hP (show sp_region k I F st = (3, (upd I 0 (0)), F, st) by simp only [sp_region, eq_false c9, eq_true c21, eq_true c32, eq_true hc3, not_true_eq_false, not_false_eq_true, and_true, true_and, and_false, false_and, and_self, or_true, true_or, or_false, false_or, or_self, ↓reduceIte])) (Nat.le_of_ble_eq_true rfl) (Nat.le_of_ble_eq_true rfl) d_MO_region_40
      · refine lv_iconst (v := 2) S.1 S.2.1 d_MO_region_35 (by decide) ?_
        refine lv_goto (tgt := 40) S.1 S.2.1 d_MO_region_36 (by decide) ?_
        exact mm_reti S.1 S.2.1 hr hlocks hA hQ hw (md_done hP (show sp_region k I F st = (2, (upd I 0 (0)), F, st) by simp only [sp_region, eq_false c9, eq_true c21, eq_false c32, eq_true hc3, not_true_eq_false, not_false_eq_true, and_true, true_and, and_false, false_and, and_self, or_true, true_or, or_false, false_or, or_self, ↓reduceIte])) (Nat.le_of_ble_eq_true rfl) (Nat.le_of_ble_eq_true rfl) d_MO_region_40
    · refine lv_iconst (v := 1) S.1 S.2.1 d_MO_region_24 (by decide) ?_
      refine lv_goto (tgt := 40) S.1 S.2.1 d_MO_region_25 (by decide) ?_
      exact mm_reti S.1 S.2.1 hr hlocks hA hQ hw (md_done hP (show sp_region k I F st = (1, (upd I 0 (0)), F, st) by simp only [sp_region, eq_false c9, eq_false c21, eq_true hc3, not_true_eq_false, not_false_eq_true, and_true, true_and, and_false, false_and, and_self, or_true, true_or, or_false, false_or, or_self, ↓reduceIte])) (Nat.le_of_ble_eq_true rfl) (Nat.le_of_ble_eq_true rfl) d_MO_region_40
  · refine lv_if_ne (tgt := 17) S.1 S.2.1 d_MO_region_9 (by decide) (fun c9 => absurd c9 (by decide)) (fun c9 => ?_)
    refine lv_bipush (v := (-4)) S.1 S.2.1 d_MO_region_12 (by decide) ?_
    refine lv_goto (tgt := 40) S.1 S.2.1 d_MO_region_14 (by decide) ?_
    exact mm_reti S.1 S.2.1 hr hlocks hA hQ hw (md_done hP (show sp_region k I F st = ((-4), (upd I 0 (0)), F, st) by simp only [sp_region, eq_true c9, eq_false hc3, not_true_eq_false, not_false_eq_true, and_true, true_and, and_false, false_and, and_self, or_true, true_or, or_false, false_or, or_self, ↓reduceIte])) (Nat.le_of_ble_eq_true rfl) (Nat.le_of_ble_eq_true rfl) d_MO_region_40
theorem d_MO_suppress_0 : decode b_MO_suppress 0 = .ok (.aload_n 0, 1) := by decide +kernel
theorem d_MO_suppress_1 : decode b_MO_suppress 1 = .ok (.iconst 0, 1) := by decide +kernel
theorem d_MO_suppress_2 : decode b_MO_suppress 2 = .ok (.putfield 60, 3) := by decide +kernel
theorem d_MO_suppress_5 : decode b_MO_suppress 5 = .ok (.iload_n 1, 1) := by decide +kernel
theorem d_MO_suppress_6 : decode b_MO_suppress 6 = .ok (.invokestatic 74, 3) := by decide +kernel
theorem d_MO_suppress_9 : decode b_MO_suppress 9 = .ok (.ifCond .ne 6, 3) := by decide +kernel
theorem d_MO_suppress_12 : decode b_MO_suppress 12 = .ok (.bipush (-4), 2) := by decide +kernel
theorem d_MO_suppress_14 : decode b_MO_suppress 14 = .ok (.ireturn, 1) := by decide +kernel
theorem d_MO_suppress_15 : decode b_MO_suppress 15 = .ok (.aload_n 0, 1) := by decide +kernel
theorem d_MO_suppress_16 : decode b_MO_suppress 16 = .ok (.getfield 41, 3) := by decide +kernel
theorem d_MO_suppress_19 : decode b_MO_suppress 19 = .ok (.iload_n 1, 1) := by decide +kernel
theorem d_MO_suppress_20 : decode b_MO_suppress 20 = .ok (.baload, 1) := by decide +kernel
theorem d_MO_suppress_21 : decode b_MO_suppress 21 = .ok (.ifCond .eq 7, 3) := by decide +kernel
theorem d_MO_suppress_24 : decode b_MO_suppress 24 = .ok (.iconst 1, 1) := by decide +kernel
theorem d_MO_suppress_25 : decode b_MO_suppress 25 = .ok (.goto 4, 3) := by decide +kernel
theorem d_MO_suppress_28 : decode b_MO_suppress 28 = .ok (.iconst 0, 1) := by decide +kernel
theorem d_MO_suppress_29 : decode b_MO_suppress 29 = .ok (.istore_n 3, 1) := by decide +kernel
theorem d_MO_suppress_30 : decode b_MO_suppress 30 = .ok (.aload_n 0, 1) := by decide +kernel
theorem d_MO_suppress_31 : decode b_MO_suppress 31 = .ok (.getfield 41, 3) := by decide +kernel
theorem d_MO_suppress_34 : decode b_MO_suppress 34 = .ok (.iload_n 1, 1) := by decide +kernel
theorem d_MO_suppress_35 : decode b_MO_suppress 35 = .ok (.iload_n 2, 1) := by decide +kernel
theorem d_MO_suppress_36 : decode b_MO_suppress 36 = .ok (.bastore, 1) := by decide +kernel
theorem d_MO_suppress_37 : decode b_MO_suppress 37 = .ok (.iload_n 3, 1) := by decide +kernel
theorem d_MO_suppress_38 : decode b_MO_suppress 38 = .ok (.ireturn, 1) := by decide +kernel
set_option maxHeartbeats 4000000 in
set_option maxRecDepth 100000 in
theorem c_MO_suppress (l : Launch) (D : va_G) (dA : Nat → ClassId) (M : mm_M) (x : Nat) (g : Nat → Nat) (I : sI) (F : sF) (st : sT) (k z : Int32) (hb : z = 0 ∨ z = 1) (hP : mP dA M x g I F st) : mm_Ci l y_MO_suppress w_MO_suppress ({ frames := 1, cells := 0, slots := 0, locals := 20 }) 0 0 D vC (tyL dA) [.ref x, .int k, .int z] M (md_post dA x g (sp_suppress k z I F st)) := by
  intro sz
  refine mm_start (by decide) (Nat.le_of_ble_eq_true rfl) ?_
  intro p e s m below meth c A Q ls hA hQ S hr hlocks hin hK hw hl
  have hl : lv_has ls 4 [(0, .ref x), (1, .int k), (2, .int z)] := hl
  refine lv_aload_n S.1 S.2.1 d_MO_suppress_0 rfl (lv_at hl 0 rfl) ?_
  refine lv_iconst (v := 0) S.1 S.2.1 d_MO_suppress_1 (by decide) ?_
  refine mm_put (C := R_MO) (T := T_MO) (N := 22) (ty := .int) (v := .int 0) S hK.1 hw hP.2.1 rfl in_MO t_MO k_MO n_MO 0 (by decide) gw_370 rfl rfl (by decide +kernel) rfl rfl (Nat.le_of_ble_eq_true rfl) d_MO_suppress_2 (fun H locs hw => ?_)
  obtain ⟨M, hw, hP⟩ := md_puti (k := 0) (v := 0) (by decide) hw hP
  refine lv_iload_n S.1 S.2.1 d_MO_suppress_5 rfl (lv_at hl 1 rfl) ?_
  refine mm_calli hw (mm_runS (As := [.int k]) (rest := []) S hK hw (c_MO_isCode l D dA _ k _) bs_MO_isCode gw_458 (⟨rfl, rfl, by decide, by decide, by decide, by decide⟩) hl.1 rfl rfl (Nat.le_of_ble_eq_true rfl) d_MO_suppress_6) (fun r1 M2 H locs hp hw => ?_)
  rw [hp.1] at hw
  rcases hp.2 with ⟨rfl, hc3⟩ | ⟨rfl, hc3⟩
  · obtain ⟨j4, ekj4, hlj4, hhj4, enj4⟩ := is_of (N := 9999) rfl (by omega) hc3
    refine lv_if_ne (tgt := 15) S.1 S.2.1 d_MO_suppress_9 (by decide) (fun c9 => ?_) (fun c9 => absurd c9 (by decide))
    refine lv_aload_n S.1 S.2.1 d_MO_suppress_15 rfl (lv_at hl 0 rfl) ?_
    refine mm_get (C := R_MO) (T := T_MO) (N := 22) (v := .ref (g 10)) S hK.1 hw hP.2.1 rfl in_MO 16 (by decide) gw_386 rfl rfl d_MO_suppress_16 ?_
    refine lv_iload_n S.1 S.2.1 d_MO_suppress_19 rfl (lv_at hl 1 rfl) ?_
    refine mn_zald (j := cN k) (n := 10000) (f := F 10) S hK.1 hw 2 (mP_a (k := 10) (F := F) hP (by decide) (by decide)) rfl (cl_nI (is_le0 hc3.1)) (by rw [cN, enj4]; omega) (by decide) d_MO_suppress_20 ?_
    refine lv_if_eq (tgt := 28) S.1 S.2.1 d_MO_suppress_21 (by decide) (fun c21 => ?_) (fun c21 => ?_)
    · refine lv_iconst (v := 0) S.1 S.2.1 d_MO_suppress_28 (by decide) ?_
      refine lv_istore_n (lv' := [(3, .int 0), (0, .ref x), (1, .int k), (2, .int z)]) S.1 S.2.1 d_MO_suppress_29 rfl hl (by decide) rfl (fun ls hl => ?_)
      refine lv_aload_n S.1 S.2.1 d_MO_suppress_30 rfl (lv_at hl 1 rfl) ?_
      refine mm_get (C := R_MO) (T := T_MO) (N := 22) (v := .ref (g 10)) S hK.1 hw hP.2.1 rfl in_MO 16 (by decide) gw_386 rfl rfl d_MO_suppress_31 ?_
      refine lv_iload_n S.1 S.2.1 d_MO_suppress_34 rfl (lv_at hl 2 rfl) ?_
      refine lv_iload_n S.1 S.2.1 d_MO_suppress_35 rfl (lv_at hl 3 rfl) ?_
      refine mn_zast (j := cN k) (n := 10000) (f := F 10) S hK.1 hw 2 (mP_a (k := 10) (F := F) hP (by decide) (by decide)) rfl (cl_nI (is_le0 hc3.1)) (by rw [cN, enj4]; omega) (by decide) (mz_nar2 (hb)) d_MO_suppress_36 (fun H locs hw => ?_)
      obtain ⟨M, hw, hP⟩ := md_ast (k := 10) (j := cN k) (v := z) (F := F) (by decide) (by decide) hw hP
      refine lv_iload_n S.1 S.2.1 d_MO_suppress_37 rfl (lv_at hl 0 rfl) ?_
      exact mm_reti S.1 S.2.1 hr hlocks hA hQ hw (md_done hP (show sp_suppress k z I F st = (0, (upd I 0 (0)), (va_up F 10 (upd (F 10) (cN k) (z))), st) by simp only [sp_suppress, eq_false c9, eq_true c21, eq_true hc3, not_true_eq_false, not_false_eq_true, and_true, true_and, and_false, false_and, and_self, or_true, true_or, or_false, false_or, or_self, ↓reduceIte])) (Nat.le_of_ble_eq_true rfl) (Nat.le_of_ble_eq_true rfl) d_MO_suppress_38
    · refine lv_iconst (v := 1) S.1 S.2.1 d_MO_suppress_24 (by decide) ?_
      refine lv_goto (tgt := 29) S.1 S.2.1 d_MO_suppress_25 (by decide) ?_
      refine lv_istore_n (lv' := [(3, .int 1), (0, .ref x), (1, .int k), (2, .int z)]) S.1 S.2.1 d_MO_suppress_29 rfl hl (by decide) rfl (fun ls hl => ?_)
      refine lv_aload_n S.1 S.2.1 d_MO_suppress_30 rfl (lv_at hl 1 rfl) ?_
      refine mm_get (C := R_MO) (T := T_MO) (N := 22) (v := .ref (g 10)) S hK.1 hw hP.2.1 rfl in_MO 16 (by decide) gw_386 rfl rfl d_MO_suppress_31 ?_
      refine lv_iload_n S.1 S.2.1 d_MO_suppress_34 rfl (lv_at hl 2 rfl) ?_
      refine lv_iload_n S.1 S.2.1 d_MO_suppress_35 rfl (lv_at hl 3 rfl) ?_
      refine mn_zast (j := cN k) (n := 10000) (f := F 10) S hK.1 hw 2 (mP_a (k := 10) (F := F) hP (by decide) (by decide)) rfl (cl_nI (is_le0 hc3.1)) (by rw [cN, enj4]; omega) (by decide) (mz_nar2 (hb)) d_MO_suppress_36 (fun H locs hw => ?_)
      obtain ⟨M, hw, hP⟩ := md_ast (k := 10) (j := cN k) (v := z) (F := F) (by decide) (by decide) hw hP
      refine lv_iload_n S.1 S.2.1 d_MO_suppress_37 rfl (lv_at hl 0 rfl) ?_
      exact mm_reti S.1 S.2.1 hr hlocks hA hQ hw (md_done hP (show sp_suppress k z I F st = (1, (upd I 0 (0)), (va_up F 10 (upd (F 10) (cN k) (z))), st) by simp only [sp_suppress, eq_false c9, eq_false c21, eq_true hc3, not_true_eq_false, not_false_eq_true, and_true, true_and, and_false, false_and, and_self, or_true, true_or, or_false, false_or, or_self, ↓reduceIte])) (Nat.le_of_ble_eq_true rfl) (Nat.le_of_ble_eq_true rfl) d_MO_suppress_38
  · refine lv_if_ne (tgt := 15) S.1 S.2.1 d_MO_suppress_9 (by decide) (fun c9 => absurd c9 (by decide)) (fun c9 => ?_)
    refine lv_bipush (v := (-4)) S.1 S.2.1 d_MO_suppress_12 (by decide) ?_
    exact mm_reti S.1 S.2.1 hr hlocks hA hQ hw (md_done hP (show sp_suppress k z I F st = ((-4), (upd I 0 (0)), F, st) by simp only [sp_suppress, eq_true c9, eq_false hc3, not_true_eq_false, not_false_eq_true, and_true, true_and, and_false, false_and, and_self, or_true, true_or, or_false, false_or, or_self, ↓reduceIte])) (Nat.le_of_ble_eq_true rfl) (Nat.le_of_ble_eq_true rfl) d_MO_suppress_14
theorem d_MO_loop_0 : decode b_MO_loop 0 = .ok (.aload_n 0, 1) := by decide +kernel
theorem d_MO_loop_1 : decode b_MO_loop 1 = .ok (.iconst 0, 1) := by decide +kernel
theorem d_MO_loop_2 : decode b_MO_loop 2 = .ok (.putfield 60, 3) := by decide +kernel
theorem d_MO_loop_5 : decode b_MO_loop 5 = .ok (.iload_n 1, 1) := by decide +kernel
theorem d_MO_loop_6 : decode b_MO_loop 6 = .ok (.invokestatic 84, 3) := by decide +kernel
theorem d_MO_loop_9 : decode b_MO_loop 9 = .ok (.ifCond .eq 9, 3) := by decide +kernel
theorem d_MO_loop_12 : decode b_MO_loop 12 = .ok (.lload_n 2, 1) := by decide +kernel
theorem d_MO_loop_13 : decode b_MO_loop 13 = .ok (.lconst 0, 1) := by decide +kernel
theorem d_MO_loop_14 : decode b_MO_loop 14 = .ok (.lcmp, 1) := by decide +kernel
theorem d_MO_loop_15 : decode b_MO_loop 15 = .ok (.ifCond .ge 6, 3) := by decide +kernel
theorem d_MO_loop_18 : decode b_MO_loop 18 = .ok (.bipush (-4), 2) := by decide +kernel
theorem d_MO_loop_20 : decode b_MO_loop 20 = .ok (.ireturn, 1) := by decide +kernel
theorem d_MO_loop_21 : decode b_MO_loop 21 = .ok (.lload_n 2, 1) := by decide +kernel
theorem d_MO_loop_22 : decode b_MO_loop 22 = .ok (.ldc2_w 93, 3) := by decide +kernel
theorem d_MO_loop_25 : decode b_MO_loop 25 = .ok (.lcmp, 1) := by decide +kernel
theorem d_MO_loop_26 : decode b_MO_loop 26 = .ok (.ifCond .gt 18, 3) := by decide +kernel
theorem d_MO_loop_29 : decode b_MO_loop 29 = .ok (.aload_n 0, 1) := by decide +kernel
theorem d_MO_loop_30 : decode b_MO_loop 30 = .ok (.getfield 44, 3) := by decide +kernel
theorem d_MO_loop_33 : decode b_MO_loop 33 = .ok (.iload_n 1, 1) := by decide +kernel
theorem d_MO_loop_34 : decode b_MO_loop 34 = .ok (.laload, 1) := by decide +kernel
theorem d_MO_loop_35 : decode b_MO_loop 35 = .ok (.lload_n 2, 1) := by decide +kernel
theorem d_MO_loop_36 : decode b_MO_loop 36 = .ok (.ladd, 1) := by decide +kernel
theorem d_MO_loop_37 : decode b_MO_loop 37 = .ok (.ldc2_w 93, 3) := by decide +kernel
theorem d_MO_loop_40 : decode b_MO_loop 40 = .ok (.lcmp, 1) := by decide +kernel
theorem d_MO_loop_41 : decode b_MO_loop 41 = .ok (.ifCond .le 7, 3) := by decide +kernel
theorem d_MO_loop_44 : decode b_MO_loop 44 = .ok (.iconst 1, 1) := by decide +kernel
theorem d_MO_loop_45 : decode b_MO_loop 45 = .ok (.goto 4, 3) := by decide +kernel
theorem d_MO_loop_48 : decode b_MO_loop 48 = .ok (.iconst 0, 1) := by decide +kernel
theorem d_MO_loop_49 : decode b_MO_loop 49 = .ok (.istore 4, 2) := by decide +kernel
theorem d_MO_loop_51 : decode b_MO_loop 51 = .ok (.aload_n 0, 1) := by decide +kernel
theorem d_MO_loop_52 : decode b_MO_loop 52 = .ok (.getfield 44, 3) := by decide +kernel
theorem d_MO_loop_55 : decode b_MO_loop 55 = .ok (.iload_n 1, 1) := by decide +kernel
theorem d_MO_loop_56 : decode b_MO_loop 56 = .ok (.iload 4, 2) := by decide +kernel
theorem d_MO_loop_58 : decode b_MO_loop 58 = .ok (.ifCond .eq 7, 3) := by decide +kernel
theorem d_MO_loop_61 : decode b_MO_loop 61 = .ok (.lconst 0, 1) := by decide +kernel
theorem d_MO_loop_62 : decode b_MO_loop 62 = .ok (.goto 11, 3) := by decide +kernel
theorem d_MO_loop_65 : decode b_MO_loop 65 = .ok (.aload_n 0, 1) := by decide +kernel
theorem d_MO_loop_66 : decode b_MO_loop 66 = .ok (.getfield 44, 3) := by decide +kernel
theorem d_MO_loop_69 : decode b_MO_loop 69 = .ok (.iload_n 1, 1) := by decide +kernel
theorem d_MO_loop_70 : decode b_MO_loop 70 = .ok (.laload, 1) := by decide +kernel
theorem d_MO_loop_71 : decode b_MO_loop 71 = .ok (.lload_n 2, 1) := by decide +kernel
theorem d_MO_loop_72 : decode b_MO_loop 72 = .ok (.ladd, 1) := by decide +kernel
theorem d_MO_loop_73 : decode b_MO_loop 73 = .ok (.lastore, 1) := by decide +kernel
theorem d_MO_loop_74 : decode b_MO_loop 74 = .ok (.iload 4, 2) := by decide +kernel
theorem d_MO_loop_76 : decode b_MO_loop 76 = .ok (.ifCond .eq 8, 3) := by decide +kernel
theorem d_MO_loop_79 : decode b_MO_loop 79 = .ok (.bipush 71, 2) := by decide +kernel
theorem d_MO_loop_81 : decode b_MO_loop 81 = .ok (.goto 4, 3) := by decide +kernel
theorem d_MO_loop_84 : decode b_MO_loop 84 = .ok (.iconst 0, 1) := by decide +kernel
theorem d_MO_loop_85 : decode b_MO_loop 85 = .ok (.ireturn, 1) := by decide +kernel
set_option maxHeartbeats 4000000 in
set_option maxRecDepth 100000 in
theorem c_MO_loop (l : Launch) (D : va_G) (dA : Nat → ClassId) (M : mm_M) (x : Nat) (g : Nat → Nat) (I : sI) (F : sF) (st : sT) (t : Int32) (w : Int64) (hP : mP dA M x g I F st) : mm_Ci l y_MO_loop w_MO_loop ({ frames := 1, cells := 0, slots := 0, locals := 20 }) 0 0 D vC (tyL dA) [.ref x, .int t, .long w] M (md_post dA x g (sp_loop t w I F st)) := by
  intro sz
  refine mm_start (by decide) (Nat.le_of_ble_eq_true rfl) ?_
  intro p e s m below meth c A Q ls hA hQ S hr hlocks hin hK hw hl
  have hl : lv_has ls 5 [(0, .ref x), (1, .int t), (2, .long w)] := hl
  refine lv_aload_n S.1 S.2.1 d_MO_loop_0 rfl (lv_at hl 0 rfl) ?_
  refine lv_iconst (v := 0) S.1 S.2.1 d_MO_loop_1 (by decide) ?_
  refine mm_put (C := R_MO) (T := T_MO) (N := 22) (ty := .int) (v := .int 0) S hK.1 hw hP.2.1 rfl in_MO t_MO k_MO n_MO 0 (by decide) gw_370 rfl rfl (by decide +kernel) rfl rfl (Nat.le_of_ble_eq_true rfl) d_MO_loop_2 (fun H locs hw => ?_)
  obtain ⟨M, hw, hP⟩ := md_puti (k := 0) (v := 0) (by decide) hw hP
  refine lv_iload_n S.1 S.2.1 d_MO_loop_5 rfl (lv_at hl 1 rfl) ?_
  refine mm_calli hw (mm_runS (As := [.int t]) (rest := []) S hK hw (c_MO_isTask l D dA _ t _) bs_MO_isTask gw_481 (⟨rfl, rfl, by decide, by decide, by decide, by decide⟩) hl.1 rfl rfl (Nat.le_of_ble_eq_true rfl) d_MO_loop_6) (fun r1 M2 H locs hp hw => ?_)
  rw [hp.1] at hw
  rcases hp.2 with ⟨rfl, hc3⟩ | ⟨rfl, hc3⟩
  · obtain ⟨j4, ekj4, hlj4, hhj4, enj4⟩ := is_of (N := 40) rfl (by omega) hc3
    refine lv_if_eq (tgt := 18) S.1 S.2.1 d_MO_loop_9 (by decide) (fun c9 => absurd c9 (by decide)) (fun c9 => ?_)
    refine lv_lload_n S.1 S.2.1 d_MO_loop_12 rfl (lv_at hl 2 rfl) ?_
    refine lv_lconst (v := 0) S.1 S.2.1 d_MO_loop_13 (by decide) ?_
    refine W.lcmp S.1 S.2.1 d_MO_loop_14 ?_
    refine lv_if_ge (tgt := 21) S.1 S.2.1 d_MO_loop_15 (by decide) (fun c15 => ?_) (fun c15 => ?_)
    · have c15 : ¬ w < 0 := lgc_ge.mp c15
      refine lv_lload_n S.1 S.2.1 d_MO_loop_21 rfl (lv_at hl 2 rfl) ?_
      refine lv_ldc2 (v := 1000) S.1 S.2.1 S.2.2.2.1 (S.2.2.2.2 _ gw_496) d_MO_loop_22 ?_
      refine W.lcmp S.1 S.2.1 d_MO_loop_25 ?_
      refine lv_if_gt (tgt := 44) S.1 S.2.1 d_MO_loop_26 (by decide) (fun c26 => ?_) (fun c26 => ?_)
      · have c26 : 1000 < w := lgc_gt.mp c26
        refine lv_iconst (v := 1) S.1 S.2.1 d_MO_loop_44 (by decide) ?_
        refine lv_goto (tgt := 49) S.1 S.2.1 d_MO_loop_45 (by decide) ?_
        refine lv_istore (lv' := [(4, .int 1), (0, .ref x), (1, .int t), (2, .long w)]) S.1 S.2.1 d_MO_loop_49 hl (by decide) rfl (fun ls hl => ?_)
        refine lv_aload_n S.1 S.2.1 d_MO_loop_51 rfl (lv_at hl 1 rfl) ?_
        refine mm_get (C := R_MO) (T := T_MO) (N := 22) (v := .ref (g 11)) S hK.1 hw hP.2.1 rfl in_MO 17 (by decide) gw_387 rfl rfl d_MO_loop_52 ?_
        refine lv_iload_n S.1 S.2.1 d_MO_loop_55 rfl (lv_at hl 2 rfl) ?_
        refine lv_iload S.1 S.2.1 d_MO_loop_56 (lv_at hl 0 rfl) ?_
        refine lv_if_eq (tgt := 65) S.1 S.2.1 d_MO_loop_58 (by decide) (fun c58 => absurd c58 (by decide)) (fun c58 => ?_)
        refine lv_lconst (v := 0) S.1 S.2.1 d_MO_loop_61 (by decide) ?_
        refine lv_goto (tgt := 73) S.1 S.2.1 d_MO_loop_62 (by decide) ?_
        refine mn_last (j := cN t) (n := 41) (f := st) S hK.1 hw 1 hP.2.2.2 rfl (cl_nI (is_le0 hc3.1)) (by rw [cN, enj4]; omega) (by decide) d_MO_loop_73 (fun H locs hw => ?_)
        obtain ⟨M, hw, hP⟩ := md_last (j := cN t) (v := 0) hw hP
        refine lv_iload S.1 S.2.1 d_MO_loop_74 (lv_at hl 0 rfl) ?_
        refine lv_if_eq (tgt := 84) S.1 S.2.1 d_MO_loop_76 (by decide) (fun c76 => absurd c76 (by decide)) (fun c76 => ?_)
        refine lv_bipush (v := 71) S.1 S.2.1 d_MO_loop_79 (by decide) ?_
        refine lv_goto (tgt := 85) S.1 S.2.1 d_MO_loop_81 (by decide) ?_
        exact mm_reti S.1 S.2.1 hr hlocks hA hQ hw (md_done hP (show sp_loop t w I F st = (71, (upd I 0 (0)), F, (vp_updL st (cN t) (0))) by simp only [sp_loop, eq_false c9, eq_false c15, eq_true c26, eq_false c58, eq_false c76, eq_true hc3, not_true_eq_false, not_false_eq_true, and_true, true_and, and_false, false_and, and_self, or_true, true_or, or_false, false_or, or_self, ↓reduceIte])) (Nat.le_of_ble_eq_true rfl) (Nat.le_of_ble_eq_true rfl) d_MO_loop_85
      · have c26 : ¬ 1000 < w := fun h => c26 (lgc_gt.mpr h)
        refine lv_aload_n S.1 S.2.1 d_MO_loop_29 rfl (lv_at hl 0 rfl) ?_
        refine mm_get (C := R_MO) (T := T_MO) (N := 22) (v := .ref (g 11)) S hK.1 hw hP.2.1 rfl in_MO 17 (by decide) gw_387 rfl rfl d_MO_loop_30 ?_
        refine lv_iload_n S.1 S.2.1 d_MO_loop_33 rfl (lv_at hl 1 rfl) ?_
        refine mn_lald (j := cN t) (n := 41) (f := st) S hK.1 hw 1 hP.2.2.2 rfl (cl_nI (is_le0 hc3.1)) (by rw [cN, enj4]; omega) (by decide) d_MO_loop_34 ?_
        refine lv_lload_n S.1 S.2.1 d_MO_loop_35 rfl (lv_at hl 2 rfl) ?_
        refine lv_ladd S.1 S.2.1 d_MO_loop_36 ?_
        refine lv_ldc2 (v := 1000) S.1 S.2.1 S.2.2.2.1 (S.2.2.2.2 _ gw_496) d_MO_loop_37 ?_
        refine W.lcmp S.1 S.2.1 d_MO_loop_40 ?_
        refine lv_if_le (tgt := 48) S.1 S.2.1 d_MO_loop_41 (by decide) (fun c41 => ?_) (fun c41 => ?_)
        · have c41 : ¬ 1000 < ((st (cN t)) + w) := lgc_le.mp c41
          refine lv_iconst (v := 0) S.1 S.2.1 d_MO_loop_48 (by decide) ?_
          refine lv_istore (lv' := [(4, .int 0), (0, .ref x), (1, .int t), (2, .long w)]) S.1 S.2.1 d_MO_loop_49 hl (by decide) rfl (fun ls hl => ?_)
          refine lv_aload_n S.1 S.2.1 d_MO_loop_51 rfl (lv_at hl 1 rfl) ?_
          refine mm_get (C := R_MO) (T := T_MO) (N := 22) (v := .ref (g 11)) S hK.1 hw hP.2.1 rfl in_MO 17 (by decide) gw_387 rfl rfl d_MO_loop_52 ?_
          refine lv_iload_n S.1 S.2.1 d_MO_loop_55 rfl (lv_at hl 2 rfl) ?_
          refine lv_iload S.1 S.2.1 d_MO_loop_56 (lv_at hl 0 rfl) ?_
          refine lv_if_eq (tgt := 65) S.1 S.2.1 d_MO_loop_58 (by decide) (fun c58 => ?_) (fun c58 => absurd c58 (by decide))
          refine lv_aload_n S.1 S.2.1 d_MO_loop_65 rfl (lv_at hl 1 rfl) ?_
          refine mm_get (C := R_MO) (T := T_MO) (N := 22) (v := .ref (g 11)) S hK.1 hw hP.2.1 rfl in_MO 17 (by decide) gw_387 rfl rfl d_MO_loop_66 ?_
          refine lv_iload_n S.1 S.2.1 d_MO_loop_69 rfl (lv_at hl 2 rfl) ?_
          refine mn_lald (j := cN t) (n := 41) (f := st) S hK.1 hw 1 hP.2.2.2 rfl (cl_nI (is_le0 hc3.1)) (by rw [cN, enj4]; omega) (by decide) d_MO_loop_70 ?_
          refine lv_lload_n S.1 S.2.1 d_MO_loop_71 rfl (lv_at hl 3 rfl) ?_
          refine lv_ladd S.1 S.2.1 d_MO_loop_72 ?_
          refine mn_last (j := cN t) (n := 41) (f := st) S hK.1 hw 1 hP.2.2.2 rfl (cl_nI (is_le0 hc3.1)) (by rw [cN, enj4]; omega) (by decide) d_MO_loop_73 (fun H locs hw => ?_)
          obtain ⟨M, hw, hP⟩ := md_last (j := cN t) (v := ((st (cN t)) + w)) hw hP
          refine lv_iload S.1 S.2.1 d_MO_loop_74 (lv_at hl 0 rfl) ?_
          refine lv_if_eq (tgt := 84) S.1 S.2.1 d_MO_loop_76 (by decide) (fun c76 => ?_) (fun c76 => absurd c76 (by decide))
          refine lv_iconst (v := 0) S.1 S.2.1 d_MO_loop_84 (by decide) ?_
          exact mm_reti S.1 S.2.1 hr hlocks hA hQ hw (md_done hP (show sp_loop t w I F st = (0, (upd I 0 (0)), F, (vp_updL st (cN t) (((st (cN t)) + w)))) by simp only [sp_loop, eq_false c9, eq_false c15, eq_false c26, eq_false c41, eq_true c58, eq_true c76, eq_true hc3, not_true_eq_false, not_false_eq_true, and_true, true_and, and_false, false_and, and_self, or_true, true_or, or_false, false_or, or_self, ↓reduceIte])) (Nat.le_of_ble_eq_true rfl) (Nat.le_of_ble_eq_true rfl) d_MO_loop_85
        · have c41 : 1000 < ((st (cN t)) + w) := Classical.not_not.mp (fun h => c41 (lgc_le.mpr h))
          refine lv_iconst (v := 1) S.1 S.2.1 d_MO_loop_44 (by decide) ?_
          refine lv_goto (tgt := 49) S.1 S.2.1 d_MO_loop_45 (by decide) ?_
          refine lv_istore (lv' := [(4, .int 1), (0, .ref x), (1, .int t), (2, .long w)]) S.1 S.2.1 d_MO_loop_49 hl (by decide) rfl (fun ls hl => ?_)
          refine lv_aload_n S.1 S.2.1 d_MO_loop_51 rfl (lv_at hl 1 rfl) ?_
          refine mm_get (C := R_MO) (T := T_MO) (N := 22) (v := .ref (g 11)) S hK.1 hw hP.2.1 rfl in_MO 17 (by decide) gw_387 rfl rfl d_MO_loop_52 ?_
          refine lv_iload_n S.1 S.2.1 d_MO_loop_55 rfl (lv_at hl 2 rfl) ?_
          refine lv_iload S.1 S.2.1 d_MO_loop_56 (lv_at hl 0 rfl) ?_
          refine lv_if_eq (tgt := 65) S.1 S.2.1 d_MO_loop_58 (by decide) (fun c58 => absurd c58 (by decide)) (fun c58 => ?_)
          refine lv_lconst (v := 0) S.1 S.2.1 d_MO_loop_61 (by decide) ?_
          refine lv_goto (tgt := 73) S.1 S.2.1 d_MO_loop_62 (by decide) ?_
          refine mn_last (j := cN t) (n := 41) (f := st) S hK.1 hw 1 hP.2.2.2 rfl (cl_nI (is_le0 hc3.1)) (by rw [cN, enj4]; omega) (by decide) d_MO_loop_73 (fun H locs hw => ?_)
          obtain ⟨M, hw, hP⟩ := md_last (j := cN t) (v := 0) hw hP
          refine lv_iload S.1 S.2.1 d_MO_loop_74 (lv_at hl 0 rfl) ?_
          refine lv_if_eq (tgt := 84) S.1 S.2.1 d_MO_loop_76 (by decide) (fun c76 => absurd c76 (by decide)) (fun c76 => ?_)
          refine lv_bipush (v := 71) S.1 S.2.1 d_MO_loop_79 (by decide) ?_
          refine lv_goto (tgt := 85) S.1 S.2.1 d_MO_loop_81 (by decide) ?_
          exact mm_reti S.1 S.2.1 hr hlocks hA hQ hw (md_done hP (show sp_loop t w I F st = (71, (upd I 0 (0)), F, (vp_updL st (cN t) (0))) by simp only [sp_loop, eq_false c9, eq_false c15, eq_false c26, eq_true c41, eq_false c58, eq_false c76, eq_true hc3, not_true_eq_false, not_false_eq_true, and_true, true_and, and_false, false_and, and_self, or_true, true_or, or_false, false_or, or_self, ↓reduceIte])) (Nat.le_of_ble_eq_true rfl) (Nat.le_of_ble_eq_true rfl) d_MO_loop_85
    · have c15 : w < 0 := Classical.not_not.mp (fun h => c15 (lgc_ge.mpr h))
      refine lv_bipush (v := (-4)) S.1 S.2.1 d_MO_loop_18 (by decide) ?_
      exact mm_reti S.1 S.2.1 hr hlocks hA hQ hw (md_done hP (show sp_loop t w I F st = ((-4), (upd I 0 (0)), F, st) by simp only [sp_loop, eq_false c9, eq_true c15, eq_true hc3, not_true_eq_false, not_false_eq_true, and_true, true_and, and_false, false_and, and_self, or_true, true_or, or_false, false_or, or_self, ↓reduceIte])) (Nat.le_of_ble_eq_true rfl) (Nat.le_of_ble_eq_true rfl) d_MO_loop_20
  · refine lv_if_eq (tgt := 18) S.1 S.2.1 d_MO_loop_9 (by decide) (fun c9 => ?_) (fun c9 => absurd c9 (by decide))
    refine lv_bipush (v := (-4)) S.1 S.2.1 d_MO_loop_18 (by decide) ?_
    exact mm_reti S.1 S.2.1 hr hlocks hA hQ hw (md_done hP (show sp_loop t w I F st = ((-4), (upd I 0 (0)), F, st) by simp only [sp_loop, eq_true c9, eq_false hc3, not_true_eq_false, not_false_eq_true, and_true, true_and, and_false, false_and, and_self, or_true, true_or, or_false, false_or, or_self, ↓reduceIte])) (Nat.le_of_ble_eq_true rfl) (Nat.le_of_ble_eq_true rfl) d_MO_loop_20
theorem d_MO_guard_0 : decode b_MO_guard 0 = .ok (.aload_n 0, 1) := by decide +kernel
theorem d_MO_guard_1 : decode b_MO_guard 1 = .ok (.iconst 0, 1) := by decide +kernel
theorem d_MO_guard_2 : decode b_MO_guard 2 = .ok (.putfield 60, 3) := by decide +kernel
theorem d_MO_guard_5 : decode b_MO_guard 5 = .ok (.iload_n 1, 1) := by decide +kernel
theorem d_MO_guard_6 : decode b_MO_guard 6 = .ok (.invokestatic 84, 3) := by decide +kernel
theorem d_MO_guard_9 : decode b_MO_guard 9 = .ok (.ifCond .eq 14, 3) := by decide +kernel
theorem d_MO_guard_12 : decode b_MO_guard 12 = .ok (.iload_n 2, 1) := by decide +kernel
theorem d_MO_guard_13 : decode b_MO_guard 13 = .ok (.iconst 1, 1) := by decide +kernel
theorem d_MO_guard_14 : decode b_MO_guard 14 = .ok (.if_icmp .lt 9, 3) := by decide +kernel
theorem d_MO_guard_17 : decode b_MO_guard 17 = .ok (.iload_n 2, 1) := by decide +kernel
theorem d_MO_guard_18 : decode b_MO_guard 18 = .ok (.bipush 64, 2) := by decide +kernel
theorem d_MO_guard_20 : decode b_MO_guard 20 = .ok (.if_icmp .le 6, 3) := by decide +kernel
theorem d_MO_guard_23 : decode b_MO_guard 23 = .ok (.bipush (-4), 2) := by decide +kernel
theorem d_MO_guard_25 : decode b_MO_guard 25 = .ok (.ireturn, 1) := by decide +kernel
theorem d_MO_guard_26 : decode b_MO_guard 26 = .ok (.aload_n 0, 1) := by decide +kernel
theorem d_MO_guard_27 : decode b_MO_guard 27 = .ok (.getfield 90, 3) := by decide +kernel
theorem d_MO_guard_30 : decode b_MO_guard 30 = .ok (.bipush 60, 2) := by decide +kernel
theorem d_MO_guard_32 : decode b_MO_guard 32 = .ok (.if_icmp .ne 5, 3) := by decide +kernel
theorem d_MO_guard_35 : decode b_MO_guard 35 = .ok (.iconst (-1), 1) := by decide +kernel
theorem d_MO_guard_36 : decode b_MO_guard 36 = .ok (.ireturn, 1) := by decide +kernel
theorem d_MO_guard_37 : decode b_MO_guard 37 = .ok (.aload_n 0, 1) := by decide +kernel
theorem d_MO_guard_38 : decode b_MO_guard 38 = .ok (.dup, 1) := by decide +kernel
theorem d_MO_guard_39 : decode b_MO_guard 39 = .ok (.getfield 90, 3) := by decide +kernel
theorem d_MO_guard_42 : decode b_MO_guard 42 = .ok (.iconst 1, 1) := by decide +kernel
theorem d_MO_guard_43 : decode b_MO_guard 43 = .ok (.iadd, 1) := by decide +kernel
theorem d_MO_guard_44 : decode b_MO_guard 44 = .ok (.putfield 90, 3) := by decide +kernel
theorem d_MO_guard_47 : decode b_MO_guard 47 = .ok (.aload_n 0, 1) := by decide +kernel
theorem d_MO_guard_48 : decode b_MO_guard 48 = .ok (.getfield 48, 3) := by decide +kernel
theorem d_MO_guard_51 : decode b_MO_guard 51 = .ok (.aload_n 0, 1) := by decide +kernel
theorem d_MO_guard_52 : decode b_MO_guard 52 = .ok (.getfield 90, 3) := by decide +kernel
theorem d_MO_guard_55 : decode b_MO_guard 55 = .ok (.iload_n 1, 1) := by decide +kernel
theorem d_MO_guard_56 : decode b_MO_guard 56 = .ok (.iastore, 1) := by decide +kernel
theorem d_MO_guard_57 : decode b_MO_guard 57 = .ok (.aload_n 0, 1) := by decide +kernel
theorem d_MO_guard_58 : decode b_MO_guard 58 = .ok (.getfield 51, 3) := by decide +kernel
theorem d_MO_guard_61 : decode b_MO_guard 61 = .ok (.aload_n 0, 1) := by decide +kernel
theorem d_MO_guard_62 : decode b_MO_guard 62 = .ok (.getfield 90, 3) := by decide +kernel
theorem d_MO_guard_65 : decode b_MO_guard 65 = .ok (.iload_n 2, 1) := by decide +kernel
theorem d_MO_guard_66 : decode b_MO_guard 66 = .ok (.iastore, 1) := by decide +kernel
theorem d_MO_guard_67 : decode b_MO_guard 67 = .ok (.aload_n 0, 1) := by decide +kernel
theorem d_MO_guard_68 : decode b_MO_guard 68 = .ok (.getfield 54, 3) := by decide +kernel
theorem d_MO_guard_71 : decode b_MO_guard 71 = .ok (.aload_n 0, 1) := by decide +kernel
theorem d_MO_guard_72 : decode b_MO_guard 72 = .ok (.getfield 90, 3) := by decide +kernel
theorem d_MO_guard_75 : decode b_MO_guard 75 = .ok (.iconst 1, 1) := by decide +kernel
theorem d_MO_guard_76 : decode b_MO_guard 76 = .ok (.iastore, 1) := by decide +kernel
theorem d_MO_guard_77 : decode b_MO_guard 77 = .ok (.aload_n 0, 1) := by decide +kernel
theorem d_MO_guard_78 : decode b_MO_guard 78 = .ok (.getfield 90, 3) := by decide +kernel
theorem d_MO_guard_81 : decode b_MO_guard 81 = .ok (.ireturn, 1) := by decide +kernel
set_option maxHeartbeats 4000000 in
set_option maxRecDepth 100000 in
theorem c_MO_guard (l : Launch) (D : va_G) (dA : Nat → ClassId) (M : mm_M) (x : Nat) (g : Nat → Nat) (I : sI) (F : sF) (st : sT) (t z : Int32) (n : Nat) (hn : I 3 = nI n) (hN : n ≤ 60) (hP : mP dA M x g I F st) : mm_Ci l y_MO_guard w_MO_guard ({ frames := 1, cells := 0, slots := 0, locals := 20 }) 0 0 D vC (tyL dA) [.ref x, .int t, .int z] M (md_post dA x g (sp_guard t z I F st)) := by
  intro sz
  refine mm_start (by decide) (Nat.le_of_ble_eq_true rfl) ?_
  intro p e s m below meth c A Q ls hA hQ S hr hlocks hin hK hw hl
  have hl : lv_has ls 3 [(0, .ref x), (1, .int t), (2, .int z)] := hl
  refine lv_aload_n S.1 S.2.1 d_MO_guard_0 rfl (lv_at hl 0 rfl) ?_
  refine lv_iconst (v := 0) S.1 S.2.1 d_MO_guard_1 (by decide) ?_
  refine mm_put (C := R_MO) (T := T_MO) (N := 22) (ty := .int) (v := .int 0) S hK.1 hw hP.2.1 rfl in_MO t_MO k_MO n_MO 0 (by decide) gw_370 rfl rfl (by decide +kernel) rfl rfl (Nat.le_of_ble_eq_true rfl) d_MO_guard_2 (fun H locs hw => ?_)
  obtain ⟨M, hw, hP⟩ := md_puti (k := 0) (v := 0) (by decide) hw hP
  refine lv_iload_n S.1 S.2.1 d_MO_guard_5 rfl (lv_at hl 1 rfl) ?_
  refine mm_calli hw (mm_runS (As := [.int t]) (rest := []) S hK hw (c_MO_isTask l D dA _ t _) bs_MO_isTask gw_481 (⟨rfl, rfl, by decide, by decide, by decide, by decide⟩) hl.1 rfl rfl (Nat.le_of_ble_eq_true rfl) d_MO_guard_6) (fun r1 M2 H locs hp hw => ?_)
  rw [hp.1] at hw
  rcases hp.2 with ⟨rfl, hc3⟩ | ⟨rfl, hc3⟩
  · obtain ⟨j4, ekj4, hlj4, hhj4, enj4⟩ := is_of (N := 40) rfl (by omega) hc3
    refine lv_if_eq (tgt := 23) S.1 S.2.1 d_MO_guard_9 (by decide) (fun c9 => absurd c9 (by decide)) (fun c9 => ?_)
    refine lv_iload_n S.1 S.2.1 d_MO_guard_12 rfl (lv_at hl 2 rfl) ?_
    refine lv_iconst (v := 1) S.1 S.2.1 d_MO_guard_13 (by decide) ?_
    refine lv_icmp_lt (tgt := 23) S.1 S.2.1 d_MO_guard_14 (by decide) (fun c14 => ?_) (fun c14 => ?_)
    · refine lv_bipush (v := (-4)) S.1 S.2.1 d_MO_guard_23 (by decide) ?_
      exact mm_reti S.1 S.2.1 hr hlocks hA hQ hw (md_done hP (show sp_guard t z I F st = ((-4), (upd I 0 (0)), F, st) by simp only [sp_guard, eq_false c9, eq_true c14, eq_true hc3, not_true_eq_false, not_false_eq_true, and_true, true_and, and_false, false_and, and_self, or_true, true_or, or_false, false_or, or_self, ↓reduceIte])) (Nat.le_of_ble_eq_true rfl) (Nat.le_of_ble_eq_true rfl) d_MO_guard_25
    · refine lv_iload_n S.1 S.2.1 d_MO_guard_17 rfl (lv_at hl 2 rfl) ?_
      refine lv_bipush (v := 64) S.1 S.2.1 d_MO_guard_18 (by decide) ?_
      refine lv_icmp_le (tgt := 26) S.1 S.2.1 d_MO_guard_20 (by decide) (fun c20 => ?_) (fun c20 => ?_)
      · refine lv_aload_n S.1 S.2.1 d_MO_guard_26 rfl (lv_at hl 0 rfl) ?_
        refine mm_get (C := R_MO) (T := T_MO) (N := 22) (v := .int (I 3)) S hK.1 hw hP.2.1 rfl in_MO 3 (by decide) gw_373 rfl rfl d_MO_guard_27 ?_
        refine lv_bipush (v := 60) S.1 S.2.1 d_MO_guard_30 (by decide) ?_
        refine lv_icmp_ne (tgt := 37) S.1 S.2.1 d_MO_guard_32 (by decide) (fun c32 => ?_) (fun c32 => ?_)
        · refine lv_aload_n S.1 S.2.1 d_MO_guard_37 rfl (lv_at hl 0 rfl) ?_
          refine lv_dup S.1 S.2.1 d_MO_guard_38 rfl ?_
          refine mm_get (C := R_MO) (T := T_MO) (N := 22) (v := .int (I 3)) S hK.1 hw hP.2.1 rfl in_MO 3 (by decide) gw_373 rfl rfl d_MO_guard_39 ?_
          refine lv_iconst (v := 1) S.1 S.2.1 d_MO_guard_42 (by decide) ?_
          refine lv_iadd S.1 S.2.1 d_MO_guard_43 ?_
          have hn1 : n + 1 < 61 := by
            rcases Nat.lt_or_ge n 60 with q | q
            · omega
            · exact absurd (by rw [hn, show n = 60 by omega]; rfl) c32
          refine mm_put (C := R_MO) (T := T_MO) (N := 22) (ty := .int) (v := .int ((I 3) + 1)) S hK.1 hw hP.2.1 rfl in_MO t_MO k_MO n_MO 3 (by decide) gw_373 rfl rfl (by decide +kernel) rfl rfl (Nat.le_of_ble_eq_true rfl) d_MO_guard_44 (fun H locs hw => ?_)
          obtain ⟨M, hw, hP⟩ := md_puti (k := 3) (v := ((I 3) + 1)) (by decide) hw hP
          refine lv_aload_n S.1 S.2.1 d_MO_guard_47 rfl (lv_at hl 0 rfl) ?_
          refine mm_get (C := R_MO) (T := T_MO) (N := 22) (v := .ref (g 12)) S hK.1 hw hP.2.1 rfl in_MO 18 (by decide) gw_388 rfl rfl d_MO_guard_48 ?_
          refine lv_aload_n S.1 S.2.1 d_MO_guard_51 rfl (lv_at hl 0 rfl) ?_
          refine mm_get (C := R_MO) (T := T_MO) (N := 22) (v := .int (((I 3) + 1))) S hK.1 hw hP.2.1 rfl in_MO 3 (by decide) gw_373 rfl rfl d_MO_guard_52 ?_
          refine lv_iload_n S.1 S.2.1 d_MO_guard_55 rfl (lv_at hl 1 rfl) ?_
          refine mn_iast (j := cN (I 3 + 1)) (n := 61) (f := F 12) S hK.1 hw 0 (mP_a (k := 12) (F := F) hP (by decide) (by decide)) rfl (by rw [hn, cN_s (by omega)]; exact nI_1 n) (by rw [hn, cN_s (by omega)]; omega) (by decide) d_MO_guard_56 (fun H locs hw => ?_)
          obtain ⟨M, hw, hP⟩ := md_ast (k := 12) (j := cN (I 3 + 1)) (v := t) (F := F) (by decide) (by decide) hw hP
          refine lv_aload_n S.1 S.2.1 d_MO_guard_57 rfl (lv_at hl 0 rfl) ?_
          refine mm_get (C := R_MO) (T := T_MO) (N := 22) (v := .ref (g 13)) S hK.1 hw hP.2.1 rfl in_MO 19 (by decide) gw_389 rfl rfl d_MO_guard_58 ?_
          refine lv_aload_n S.1 S.2.1 d_MO_guard_61 rfl (lv_at hl 0 rfl) ?_
          refine mm_get (C := R_MO) (T := T_MO) (N := 22) (v := .int (((I 3) + 1))) S hK.1 hw hP.2.1 rfl in_MO 3 (by decide) gw_373 rfl rfl d_MO_guard_62 ?_
          refine lv_iload_n S.1 S.2.1 d_MO_guard_65 rfl (lv_at hl 2 rfl) ?_
          refine mn_iast (j := cN (I 3 + 1)) (n := 61) (f := F 13) S hK.1 hw 0 (mP_a (k := 13) (F := (va_up F 12 (upd (F 12) (cN (I 3 + 1)) (t)))) hP (by decide) (by decide)) rfl (by rw [hn, cN_s (by omega)]; exact nI_1 n) (by rw [hn, cN_s (by omega)]; omega) (by decide) d_MO_guard_66 (fun H locs hw => ?_)
          obtain ⟨M, hw, hP⟩ := md_ast (k := 13) (j := cN (I 3 + 1)) (v := z) (F := (va_up F 12 (upd (F 12) (cN (I 3 + 1)) (t)))) (by decide) (by decide) hw hP
          refine lv_aload_n S.1 S.2.1 d_MO_guard_67 rfl (lv_at hl 0 rfl) ?_
          refine mm_get (C := R_MO) (T := T_MO) (N := 22) (v := .ref (g 14)) S hK.1 hw hP.2.1 rfl in_MO 20 (by decide) gw_390 rfl rfl d_MO_guard_68 ?_
          refine lv_aload_n S.1 S.2.1 d_MO_guard_71 rfl (lv_at hl 0 rfl) ?_
          refine mm_get (C := R_MO) (T := T_MO) (N := 22) (v := .int (((I 3) + 1))) S hK.1 hw hP.2.1 rfl in_MO 3 (by decide) gw_373 rfl rfl d_MO_guard_72 ?_
          refine lv_iconst (v := 1) S.1 S.2.1 d_MO_guard_75 (by decide) ?_
          refine mn_iast (j := cN (I 3 + 1)) (n := 61) (f := F 14) S hK.1 hw 0 (mP_a (k := 14) (F := (va_up (va_up F 12 (upd (F 12) (cN (I 3 + 1)) (t))) 13 (upd (F 13) (cN (I 3 + 1)) (z)))) hP (by decide) (by decide)) rfl (by rw [hn, cN_s (by omega)]; exact nI_1 n) (by rw [hn, cN_s (by omega)]; omega) (by decide) d_MO_guard_76 (fun H locs hw => ?_)
          obtain ⟨M, hw, hP⟩ := md_ast (k := 14) (j := cN (I 3 + 1)) (v := 1) (F := (va_up (va_up F 12 (upd (F 12) (cN (I 3 + 1)) (t))) 13 (upd (F 13) (cN (I 3 + 1)) (z)))) (by decide) (by decide) hw hP
          refine lv_aload_n S.1 S.2.1 d_MO_guard_77 rfl (lv_at hl 0 rfl) ?_
          refine mm_get (C := R_MO) (T := T_MO) (N := 22) (v := .int (((I 3) + 1))) S hK.1 hw hP.2.1 rfl in_MO 3 (by decide) gw_373 rfl rfl d_MO_guard_78 ?_
          exact mm_reti S.1 S.2.1 hr hlocks hA hQ hw (md_done hP (show sp_guard t z I F st = ((((I 3) + 1)), (upd (upd I 0 (0)) 3 (((I 3) + 1))), (va_up (va_up (va_up F 12 (upd (F 12) (cN (I 3 + 1)) (t))) 13 (upd (F 13) (cN (I 3 + 1)) (z))) 14 (upd (F 14) (cN (I 3 + 1)) (1))), st) by simp only [sp_guard, eq_false c9, eq_false c14, eq_true c20, eq_false c32, eq_true hc3, not_true_eq_false, not_false_eq_true, and_true, true_and, and_false, false_and, and_self, or_true, true_or, or_false, false_or, or_self, ↓reduceIte])) (Nat.le_of_ble_eq_true rfl) (Nat.le_of_ble_eq_true rfl) d_MO_guard_81
        · refine lv_iconst (v := (-1)) S.1 S.2.1 d_MO_guard_35 (by decide) ?_
          exact mm_reti S.1 S.2.1 hr hlocks hA hQ hw (md_done hP (show sp_guard t z I F st = ((-1), (upd I 0 (0)), F, st) by simp only [sp_guard, eq_false c9, eq_false c14, eq_true c20, eq_true c32, eq_true hc3, not_true_eq_false, not_false_eq_true, and_true, true_and, and_false, false_and, and_self, or_true, true_or, or_false, false_or, or_self, ↓reduceIte])) (Nat.le_of_ble_eq_true rfl) (Nat.le_of_ble_eq_true rfl) d_MO_guard_36
      · refine lv_bipush (v := (-4)) S.1 S.2.1 d_MO_guard_23 (by decide) ?_
        exact mm_reti S.1 S.2.1 hr hlocks hA hQ hw (md_done hP (show sp_guard t z I F st = ((-4), (upd I 0 (0)), F, st) by simp only [sp_guard, eq_false c9, eq_false c14, eq_false c20, eq_true hc3, not_true_eq_false, not_false_eq_true, and_true, true_and, and_false, false_and, and_self, or_true, true_or, or_false, false_or, or_self, ↓reduceIte])) (Nat.le_of_ble_eq_true rfl) (Nat.le_of_ble_eq_true rfl) d_MO_guard_25
  · refine lv_if_eq (tgt := 23) S.1 S.2.1 d_MO_guard_9 (by decide) (fun c9 => ?_) (fun c9 => absurd c9 (by decide))
    refine lv_bipush (v := (-4)) S.1 S.2.1 d_MO_guard_23 (by decide) ?_
    exact mm_reti S.1 S.2.1 hr hlocks hA hQ hw (md_done hP (show sp_guard t z I F st = ((-4), (upd I 0 (0)), F, st) by simp only [sp_guard, eq_true c9, eq_false hc3, not_true_eq_false, not_false_eq_true, and_true, true_and, and_false, false_and, and_self, or_true, true_or, or_false, false_or, or_self, ↓reduceIte])) (Nat.le_of_ble_eq_true rfl) (Nat.le_of_ble_eq_true rfl) d_MO_guard_25
theorem d_MO_write_0 : decode b_MO_write 0 = .ok (.aload_n 0, 1) := by decide +kernel
theorem d_MO_write_1 : decode b_MO_write 1 = .ok (.iconst 0, 1) := by decide +kernel
theorem d_MO_write_2 : decode b_MO_write 2 = .ok (.putfield 60, 3) := by decide +kernel
theorem d_MO_write_5 : decode b_MO_write 5 = .ok (.aload_n 0, 1) := by decide +kernel
theorem d_MO_write_6 : decode b_MO_write 6 = .ok (.iload_n 1, 1) := by decide +kernel
theorem d_MO_write_7 : decode b_MO_write 7 = .ok (.invokevirtual 95, 3) := by decide +kernel
theorem d_MO_write_10 : decode b_MO_write 10 = .ok (.ifCond .ne 6, 3) := by decide +kernel
theorem d_MO_write_13 : decode b_MO_write 13 = .ok (.bipush (-2), 2) := by decide +kernel
theorem d_MO_write_15 : decode b_MO_write 15 = .ok (.ireturn, 1) := by decide +kernel
theorem d_MO_write_16 : decode b_MO_write 16 = .ok (.iload_n 2, 1) := by decide +kernel
theorem d_MO_write_17 : decode b_MO_write 17 = .ok (.iconst (-1), 1) := by decide +kernel
theorem d_MO_write_18 : decode b_MO_write 18 = .ok (.if_icmp .lt 13, 3) := by decide +kernel
theorem d_MO_write_21 : decode b_MO_write 21 = .ok (.iload_n 2, 1) := by decide +kernel
theorem d_MO_write_22 : decode b_MO_write 22 = .ok (.aload_n 0, 1) := by decide +kernel
theorem d_MO_write_23 : decode b_MO_write 23 = .ok (.getfield 51, 3) := by decide +kernel
theorem d_MO_write_26 : decode b_MO_write 26 = .ok (.iload_n 1, 1) := by decide +kernel
theorem d_MO_write_27 : decode b_MO_write 27 = .ok (.iaload, 1) := by decide +kernel
theorem d_MO_write_28 : decode b_MO_write 28 = .ok (.if_icmp .le 6, 3) := by decide +kernel
theorem d_MO_write_31 : decode b_MO_write 31 = .ok (.bipush (-4), 2) := by decide +kernel
theorem d_MO_write_33 : decode b_MO_write 33 = .ok (.ireturn, 1) := by decide +kernel
theorem d_MO_write_34 : decode b_MO_write 34 = .ok (.iload_n 2, 1) := by decide +kernel
theorem d_MO_write_35 : decode b_MO_write 35 = .ok (.iconst (-1), 1) := by decide +kernel
theorem d_MO_write_36 : decode b_MO_write 36 = .ok (.if_icmp .eq 13, 3) := by decide +kernel
theorem d_MO_write_39 : decode b_MO_write 39 = .ok (.iload_n 2, 1) := by decide +kernel
theorem d_MO_write_40 : decode b_MO_write 40 = .ok (.aload_n 0, 1) := by decide +kernel
theorem d_MO_write_41 : decode b_MO_write 41 = .ok (.getfield 51, 3) := by decide +kernel
theorem d_MO_write_44 : decode b_MO_write 44 = .ok (.iload_n 1, 1) := by decide +kernel
theorem d_MO_write_45 : decode b_MO_write 45 = .ok (.iaload, 1) := by decide +kernel
theorem d_MO_write_46 : decode b_MO_write 46 = .ok (.if_icmp .ne 10, 3) := by decide +kernel
theorem d_MO_write_49 : decode b_MO_write 49 = .ok (.aload_n 0, 1) := by decide +kernel
theorem d_MO_write_50 : decode b_MO_write 50 = .ok (.getfield 54, 3) := by decide +kernel
theorem d_MO_write_53 : decode b_MO_write 53 = .ok (.iload_n 1, 1) := by decide +kernel
theorem d_MO_write_54 : decode b_MO_write 54 = .ok (.iconst 2, 1) := by decide +kernel
theorem d_MO_write_55 : decode b_MO_write 55 = .ok (.iastore, 1) := by decide +kernel
theorem d_MO_write_56 : decode b_MO_write 56 = .ok (.aload_n 0, 1) := by decide +kernel
theorem d_MO_write_57 : decode b_MO_write 57 = .ok (.getfield 54, 3) := by decide +kernel
theorem d_MO_write_60 : decode b_MO_write 60 = .ok (.iload_n 1, 1) := by decide +kernel
theorem d_MO_write_61 : decode b_MO_write 61 = .ok (.iaload, 1) := by decide +kernel
theorem d_MO_write_62 : decode b_MO_write 62 = .ok (.iconst 2, 1) := by decide +kernel
theorem d_MO_write_63 : decode b_MO_write 63 = .ok (.if_icmp .ne 7, 3) := by decide +kernel
theorem d_MO_write_66 : decode b_MO_write 66 = .ok (.iconst 0, 1) := by decide +kernel
theorem d_MO_write_67 : decode b_MO_write 67 = .ok (.goto 4, 3) := by decide +kernel
theorem d_MO_write_70 : decode b_MO_write 70 = .ok (.iconst 1, 1) := by decide +kernel
theorem d_MO_write_71 : decode b_MO_write 71 = .ok (.ireturn, 1) := by decide +kernel
set_option maxHeartbeats 4000000 in
set_option maxRecDepth 100000 in
theorem c_MO_write (l : Launch) (D : va_G) (dA : Nat → ClassId) (M : mm_M) (x : Nat) (g : Nat → Nat) (I : sI) (F : sF) (st : sT) (q i : Int32) (n : Nat) (hn : I 3 = nI n) (hN : n ≤ 60) (hP : mP dA M x g I F st) : mm_Ci l y_MO_write w_MO_write ({ frames := 1, cells := 0, slots := 0, locals := 21 }) 0 0 D vC (tyL dA) [.ref x, .int q, .int i] M (md_post dA x g (sp_write q i I F st)) := by
  intro sz
  refine mm_start (by decide) (Nat.le_of_ble_eq_true rfl) ?_
  intro p e s m below meth c A Q ls hA hQ S hr hlocks hin hK hw hl
  have hl : lv_has ls 3 [(0, .ref x), (1, .int q), (2, .int i)] := hl
  refine lv_aload_n S.1 S.2.1 d_MO_write_0 rfl (lv_at hl 0 rfl) ?_
  refine lv_iconst (v := 0) S.1 S.2.1 d_MO_write_1 (by decide) ?_
  refine mm_put (C := R_MO) (T := T_MO) (N := 22) (ty := .int) (v := .int 0) S hK.1 hw hP.2.1 rfl in_MO t_MO k_MO n_MO 0 (by decide) gw_370 rfl rfl (by decide +kernel) rfl rfl (Nat.le_of_ble_eq_true rfl) d_MO_write_2 (fun H locs hw => ?_)
  obtain ⟨M, hw, hP⟩ := md_puti (k := 0) (v := 0) (by decide) hw hP
  refine lv_aload_n S.1 S.2.1 d_MO_write_5 rfl (lv_at hl 0 rfl) ?_
  refine lv_iload_n S.1 S.2.1 d_MO_write_6 rfl (lv_at hl 1 rfl) ?_
  refine mm_calli hw (mm_runV (a := x) (As := [.int q]) (rest := []) S hK hw (c_MO_isGuard l D dA _ x g (upd I 0 (0)) F st q n hn hN hP _) bv_MO_isGuard gw_505 hP.2.1 rfl (⟨rfl, rfl, by decide, by decide, by decide, by decide⟩) hl.1 rfl rfl (Nat.le_of_ble_eq_true rfl) d_MO_write_7) (fun r1 M2 H locs hp hw => ?_)
  rw [hp.1] at hw
  rcases hp.2 with ⟨rfl, hc3⟩ | ⟨rfl, hc3⟩
  · have hc3 : is_gd I F (q) := hc3
    obtain ⟨j4, ekj4, hlj4, hhj4, enj4⟩ := is_of (N := n) hn (by omega) hc3.1
    refine lv_if_ne (tgt := 16) S.1 S.2.1 d_MO_write_10 (by decide) (fun c10 => ?_) (fun c10 => absurd c10 (by decide))
    refine lv_iload_n S.1 S.2.1 d_MO_write_16 rfl (lv_at hl 2 rfl) ?_
    refine lv_iconst (v := (-1)) S.1 S.2.1 d_MO_write_17 (by decide) ?_
    refine lv_icmp_lt (tgt := 31) S.1 S.2.1 d_MO_write_18 (by decide) (fun c18 => ?_) (fun c18 => ?_)
    · refine lv_bipush (v := (-4)) S.1 S.2.1 d_MO_write_31 (by decide) ?_
      exact mm_reti S.1 S.2.1 hr hlocks hA hQ hw (md_done hP (show sp_write q i I F st = ((-4), (upd I 0 (0)), F, st) by simp only [sp_write, eq_false c10, eq_true c18, eq_true hc3, not_true_eq_false, not_false_eq_true, and_true, true_and, and_false, false_and, and_self, or_true, true_or, or_false, false_or, or_self, ↓reduceIte])) (Nat.le_of_ble_eq_true rfl) (Nat.le_of_ble_eq_true rfl) d_MO_write_33
    · refine lv_iload_n S.1 S.2.1 d_MO_write_21 rfl (lv_at hl 2 rfl) ?_
      refine lv_aload_n S.1 S.2.1 d_MO_write_22 rfl (lv_at hl 0 rfl) ?_
      refine mm_get (C := R_MO) (T := T_MO) (N := 22) (v := .ref (g 13)) S hK.1 hw hP.2.1 rfl in_MO 19 (by decide) gw_389 rfl rfl d_MO_write_23 ?_
      refine lv_iload_n S.1 S.2.1 d_MO_write_26 rfl (lv_at hl 1 rfl) ?_
      refine mn_iald (j := cN q) (n := 61) (f := F 13) S hK.1 hw 0 (mP_a (k := 13) (F := F) hP (by decide) (by decide)) rfl (cl_nI (is_le0 hc3.1.1)) (by rw [cN, enj4]; omega) (by decide) d_MO_write_27 ?_
      refine lv_icmp_le (tgt := 34) S.1 S.2.1 d_MO_write_28 (by decide) (fun c28 => ?_) (fun c28 => ?_)
      · refine lv_iload_n S.1 S.2.1 d_MO_write_34 rfl (lv_at hl 2 rfl) ?_
        refine lv_iconst (v := (-1)) S.1 S.2.1 d_MO_write_35 (by decide) ?_
        refine lv_icmp_eq (tgt := 49) S.1 S.2.1 d_MO_write_36 (by decide) (fun c36 => ?_) (fun c36 => ?_)
        · refine lv_aload_n S.1 S.2.1 d_MO_write_49 rfl (lv_at hl 0 rfl) ?_
          refine mm_get (C := R_MO) (T := T_MO) (N := 22) (v := .ref (g 14)) S hK.1 hw hP.2.1 rfl in_MO 20 (by decide) gw_390 rfl rfl d_MO_write_50 ?_
          refine lv_iload_n S.1 S.2.1 d_MO_write_53 rfl (lv_at hl 1 rfl) ?_
          refine lv_iconst (v := 2) S.1 S.2.1 d_MO_write_54 (by decide) ?_
          refine mn_iast (j := cN q) (n := 61) (f := F 14) S hK.1 hw 0 (mP_a (k := 14) (F := F) hP (by decide) (by decide)) rfl (cl_nI (is_le0 hc3.1.1)) (by rw [cN, enj4]; omega) (by decide) d_MO_write_55 (fun H locs hw => ?_)
          obtain ⟨M, hw, hP⟩ := md_ast (k := 14) (j := cN q) (v := 2) (F := F) (by decide) (by decide) hw hP
          refine lv_aload_n S.1 S.2.1 d_MO_write_56 rfl (lv_at hl 0 rfl) ?_
          refine mm_get (C := R_MO) (T := T_MO) (N := 22) (v := .ref (g 14)) S hK.1 hw hP.2.1 rfl in_MO 20 (by decide) gw_390 rfl rfl d_MO_write_57 ?_
          refine lv_iload_n S.1 S.2.1 d_MO_write_60 rfl (lv_at hl 1 rfl) ?_
          refine mn_iald (j := cN q) (n := 61) (f := upd (F 14) (cN q) (2)) S hK.1 hw 0 (mP_a (k := 14) (F := (va_up F 14 (upd (F 14) (cN q) (2)))) hP (by decide) (by decide)) rfl (cl_nI (is_le0 hc3.1.1)) (by rw [cN, enj4]; omega) (by decide) d_MO_write_61 ?_
          rw [pk_us]
          refine lv_iconst (v := 2) S.1 S.2.1 d_MO_write_62 (by decide) ?_
          refine lv_icmp_ne (tgt := 70) S.1 S.2.1 d_MO_write_63 (by decide) (fun c63 => absurd c63 (by decide)) (fun c63 => ?_)
          refine lv_iconst (v := 0) S.1 S.2.1 d_MO_write_66 (by decide) ?_
          refine lv_goto (tgt := 71) S.1 S.2.1 d_MO_write_67 (by decide) ?_
          exact mm_reti S.1 S.2.1 hr hlocks hA hQ hw (md_done hP (show sp_write q i I F st = (0, (upd I 0 (0)), (va_up F 14 (upd (F 14) (cN q) (2))), st) by simp only [sp_write, eq_false c10, eq_false c18, eq_true c28, eq_true c36, eq_true c63, eq_true hc3, not_true_eq_false, not_false_eq_true, and_true, true_and, and_false, false_and, and_self, or_true, true_or, or_false, false_or, or_self, ↓reduceIte])) (Nat.le_of_ble_eq_true rfl) (Nat.le_of_ble_eq_true rfl) d_MO_write_71
        · refine lv_iload_n S.1 S.2.1 d_MO_write_39 rfl (lv_at hl 2 rfl) ?_
          refine lv_aload_n S.1 S.2.1 d_MO_write_40 rfl (lv_at hl 0 rfl) ?_
          refine mm_get (C := R_MO) (T := T_MO) (N := 22) (v := .ref (g 13)) S hK.1 hw hP.2.1 rfl in_MO 19 (by decide) gw_389 rfl rfl d_MO_write_41 ?_
          refine lv_iload_n S.1 S.2.1 d_MO_write_44 rfl (lv_at hl 1 rfl) ?_
          refine mn_iald (j := cN q) (n := 61) (f := F 13) S hK.1 hw 0 (mP_a (k := 13) (F := F) hP (by decide) (by decide)) rfl (cl_nI (is_le0 hc3.1.1)) (by rw [cN, enj4]; omega) (by decide) d_MO_write_45 ?_
          refine lv_icmp_ne (tgt := 56) S.1 S.2.1 d_MO_write_46 (by decide) (fun c46 => ?_) (fun c46 => ?_)
          · refine lv_aload_n S.1 S.2.1 d_MO_write_56 rfl (lv_at hl 0 rfl) ?_
            refine mm_get (C := R_MO) (T := T_MO) (N := 22) (v := .ref (g 14)) S hK.1 hw hP.2.1 rfl in_MO 20 (by decide) gw_390 rfl rfl d_MO_write_57 ?_
            refine lv_iload_n S.1 S.2.1 d_MO_write_60 rfl (lv_at hl 1 rfl) ?_
            refine mn_iald (j := cN q) (n := 61) (f := F 14) S hK.1 hw 0 (mP_a (k := 14) (F := F) hP (by decide) (by decide)) rfl (cl_nI (is_le0 hc3.1.1)) (by rw [cN, enj4]; omega) (by decide) d_MO_write_61 ?_
            refine lv_iconst (v := 2) S.1 S.2.1 d_MO_write_62 (by decide) ?_
            refine lv_icmp_ne (tgt := 70) S.1 S.2.1 d_MO_write_63 (by decide) (fun c63 => ?_) (fun c63 => ?_)
            · refine lv_iconst (v := 1) S.1 S.2.1 d_MO_write_70 (by decide) ?_
              exact mm_reti S.1 S.2.1 hr hlocks hA hQ hw (md_done hP (show sp_write q i I F st = (1, (upd I 0 (0)), F, st) by simp only [sp_write, eq_false c10, eq_false c18, eq_true c28, eq_false c36, eq_false c46, eq_false c63, eq_true hc3, not_true_eq_false, not_false_eq_true, and_true, true_and, and_false, false_and, and_self, or_true, true_or, or_false, false_or, or_self, ↓reduceIte])) (Nat.le_of_ble_eq_true rfl) (Nat.le_of_ble_eq_true rfl) d_MO_write_71
            · refine lv_iconst (v := 0) S.1 S.2.1 d_MO_write_66 (by decide) ?_
              refine lv_goto (tgt := 71) S.1 S.2.1 d_MO_write_67 (by decide) ?_
              exact mm_reti S.1 S.2.1 hr hlocks hA hQ hw (md_done hP (show sp_write q i I F st = (0, (upd I 0 (0)), F, st) by simp only [sp_write, eq_false c10, eq_false c18, eq_true c28, eq_false c36, eq_false c46, eq_true c63, eq_true hc3, not_true_eq_false, not_false_eq_true, and_true, true_and, and_false, false_and, and_self, or_true, true_or, or_false, false_or, or_self, ↓reduceIte])) (Nat.le_of_ble_eq_true rfl) (Nat.le_of_ble_eq_true rfl) d_MO_write_71
          · refine lv_aload_n S.1 S.2.1 d_MO_write_49 rfl (lv_at hl 0 rfl) ?_
            refine mm_get (C := R_MO) (T := T_MO) (N := 22) (v := .ref (g 14)) S hK.1 hw hP.2.1 rfl in_MO 20 (by decide) gw_390 rfl rfl d_MO_write_50 ?_
            refine lv_iload_n S.1 S.2.1 d_MO_write_53 rfl (lv_at hl 1 rfl) ?_
            refine lv_iconst (v := 2) S.1 S.2.1 d_MO_write_54 (by decide) ?_
            refine mn_iast (j := cN q) (n := 61) (f := F 14) S hK.1 hw 0 (mP_a (k := 14) (F := F) hP (by decide) (by decide)) rfl (cl_nI (is_le0 hc3.1.1)) (by rw [cN, enj4]; omega) (by decide) d_MO_write_55 (fun H locs hw => ?_)
            obtain ⟨M, hw, hP⟩ := md_ast (k := 14) (j := cN q) (v := 2) (F := F) (by decide) (by decide) hw hP
            refine lv_aload_n S.1 S.2.1 d_MO_write_56 rfl (lv_at hl 0 rfl) ?_
            refine mm_get (C := R_MO) (T := T_MO) (N := 22) (v := .ref (g 14)) S hK.1 hw hP.2.1 rfl in_MO 20 (by decide) gw_390 rfl rfl d_MO_write_57 ?_
            refine lv_iload_n S.1 S.2.1 d_MO_write_60 rfl (lv_at hl 1 rfl) ?_
            refine mn_iald (j := cN q) (n := 61) (f := upd (F 14) (cN q) (2)) S hK.1 hw 0 (mP_a (k := 14) (F := (va_up F 14 (upd (F 14) (cN q) (2)))) hP (by decide) (by decide)) rfl (cl_nI (is_le0 hc3.1.1)) (by rw [cN, enj4]; omega) (by decide) d_MO_write_61 ?_
            rw [pk_us]
            refine lv_iconst (v := 2) S.1 S.2.1 d_MO_write_62 (by decide) ?_
            refine lv_icmp_ne (tgt := 70) S.1 S.2.1 d_MO_write_63 (by decide) (fun c63 => absurd c63 (by decide)) (fun c63 => ?_)
            refine lv_iconst (v := 0) S.1 S.2.1 d_MO_write_66 (by decide) ?_
            refine lv_goto (tgt := 71) S.1 S.2.1 d_MO_write_67 (by decide) ?_
            exact mm_reti S.1 S.2.1 hr hlocks hA hQ hw (md_done hP (show sp_write q i I F st = (0, (upd I 0 (0)), (va_up F 14 (upd (F 14) (cN q) (2))), st) by simp only [sp_write, eq_false c10, eq_false c18, eq_true c28, eq_false c36, eq_true c46, eq_true c63, eq_true hc3, not_true_eq_false, not_false_eq_true, and_true, true_and, and_false, false_and, and_self, or_true, true_or, or_false, false_or, or_self, ↓reduceIte])) (Nat.le_of_ble_eq_true rfl) (Nat.le_of_ble_eq_true rfl) d_MO_write_71
      · refine lv_bipush (v := (-4)) S.1 S.2.1 d_MO_write_31 (by decide) ?_
        exact mm_reti S.1 S.2.1 hr hlocks hA hQ hw (md_done hP (show sp_write q i I F st = ((-4), (upd I 0 (0)), F, st) by simp only [sp_write, eq_false c10, eq_false c18, eq_false c28, eq_true hc3, not_true_eq_false, not_false_eq_true, and_true, true_and, and_false, false_and, and_self, or_true, true_or, or_false, false_or, or_self, ↓reduceIte])) (Nat.le_of_ble_eq_true rfl) (Nat.le_of_ble_eq_true rfl) d_MO_write_33
  · have hc3 : ¬ is_gd I F (q) := hc3
    refine lv_if_ne (tgt := 16) S.1 S.2.1 d_MO_write_10 (by decide) (fun c10 => absurd c10 (by decide)) (fun c10 => ?_)
    refine lv_bipush (v := (-2)) S.1 S.2.1 d_MO_write_13 (by decide) ?_
    exact mm_reti S.1 S.2.1 hr hlocks hA hQ hw (md_done hP (show sp_write q i I F st = ((-2), (upd I 0 (0)), F, st) by simp only [sp_write, eq_true c10, eq_false hc3, not_true_eq_false, not_false_eq_true, and_true, true_and, and_false, false_and, and_self, or_true, true_or, or_false, false_or, or_self, ↓reduceIte])) (Nat.le_of_ble_eq_true rfl) (Nat.le_of_ble_eq_true rfl) d_MO_write_15
theorem d_MO_free_0 : decode b_MO_free 0 = .ok (.aload_n 0, 1) := by decide +kernel
theorem d_MO_free_1 : decode b_MO_free 1 = .ok (.iconst 0, 1) := by decide +kernel
theorem d_MO_free_2 : decode b_MO_free 2 = .ok (.putfield 60, 3) := by decide +kernel
theorem d_MO_free_5 : decode b_MO_free 5 = .ok (.aload_n 0, 1) := by decide +kernel
theorem d_MO_free_6 : decode b_MO_free 6 = .ok (.iload_n 1, 1) := by decide +kernel
theorem d_MO_free_7 : decode b_MO_free 7 = .ok (.invokevirtual 95, 3) := by decide +kernel
theorem d_MO_free_10 : decode b_MO_free 10 = .ok (.ifCond .ne 6, 3) := by decide +kernel
theorem d_MO_free_13 : decode b_MO_free 13 = .ok (.bipush (-2), 2) := by decide +kernel
theorem d_MO_free_15 : decode b_MO_free 15 = .ok (.ireturn, 1) := by decide +kernel
theorem d_MO_free_16 : decode b_MO_free 16 = .ok (.aload_n 0, 1) := by decide +kernel
theorem d_MO_free_17 : decode b_MO_free 17 = .ok (.getfield 54, 3) := by decide +kernel
theorem d_MO_free_20 : decode b_MO_free 20 = .ok (.iload_n 1, 1) := by decide +kernel
theorem d_MO_free_21 : decode b_MO_free 21 = .ok (.iaload, 1) := by decide +kernel
theorem d_MO_free_22 : decode b_MO_free 22 = .ok (.iconst 2, 1) := by decide +kernel
theorem d_MO_free_23 : decode b_MO_free 23 = .ok (.if_icmp .ne 15, 3) := by decide +kernel
theorem d_MO_free_26 : decode b_MO_free 26 = .ok (.bipush (-10), 2) := by decide +kernel
theorem d_MO_free_28 : decode b_MO_free 28 = .ok (.aload_n 0, 1) := by decide +kernel
theorem d_MO_free_29 : decode b_MO_free 29 = .ok (.getfield 48, 3) := by decide +kernel
theorem d_MO_free_32 : decode b_MO_free 32 = .ok (.iload_n 1, 1) := by decide +kernel
theorem d_MO_free_33 : decode b_MO_free 33 = .ok (.iaload, 1) := by decide +kernel
theorem d_MO_free_34 : decode b_MO_free 34 = .ok (.isub, 1) := by decide +kernel
theorem d_MO_free_35 : decode b_MO_free 35 = .ok (.goto 4, 3) := by decide +kernel
theorem d_MO_free_38 : decode b_MO_free 38 = .ok (.iconst 1, 1) := by decide +kernel
theorem d_MO_free_39 : decode b_MO_free 39 = .ok (.istore_n 2, 1) := by decide +kernel
theorem d_MO_free_40 : decode b_MO_free 40 = .ok (.aload_n 0, 1) := by decide +kernel
theorem d_MO_free_41 : decode b_MO_free 41 = .ok (.getfield 54, 3) := by decide +kernel
theorem d_MO_free_44 : decode b_MO_free 44 = .ok (.iload_n 1, 1) := by decide +kernel
theorem d_MO_free_45 : decode b_MO_free 45 = .ok (.iconst 0, 1) := by decide +kernel
theorem d_MO_free_46 : decode b_MO_free 46 = .ok (.iastore, 1) := by decide +kernel
theorem d_MO_free_47 : decode b_MO_free 47 = .ok (.iload_n 2, 1) := by decide +kernel
theorem d_MO_free_48 : decode b_MO_free 48 = .ok (.ireturn, 1) := by decide +kernel
set_option maxHeartbeats 4000000 in
set_option maxRecDepth 100000 in
theorem c_MO_free (l : Launch) (D : va_G) (dA : Nat → ClassId) (M : mm_M) (x : Nat) (g : Nat → Nat) (I : sI) (F : sF) (st : sT) (q : Int32) (n : Nat) (hn : I 3 = nI n) (hN : n ≤ 60) (hP : mP dA M x g I F st) : mm_Ci l y_MO_free w_MO_free ({ frames := 1, cells := 0, slots := 0, locals := 21 }) 0 0 D vC (tyL dA) [.ref x, .int q] M (md_post dA x g (sp_free q I F st)) := by
  intro sz
  refine mm_start (by decide) (Nat.le_of_ble_eq_true rfl) ?_
  intro p e s m below meth c A Q ls hA hQ S hr hlocks hin hK hw hl
  have hl : lv_has ls 3 [(0, .ref x), (1, .int q)] := hl
  refine lv_aload_n S.1 S.2.1 d_MO_free_0 rfl (lv_at hl 0 rfl) ?_
  refine lv_iconst (v := 0) S.1 S.2.1 d_MO_free_1 (by decide) ?_
  refine mm_put (C := R_MO) (T := T_MO) (N := 22) (ty := .int) (v := .int 0) S hK.1 hw hP.2.1 rfl in_MO t_MO k_MO n_MO 0 (by decide) gw_370 rfl rfl (by decide +kernel) rfl rfl (Nat.le_of_ble_eq_true rfl) d_MO_free_2 (fun H locs hw => ?_)
  obtain ⟨M, hw, hP⟩ := md_puti (k := 0) (v := 0) (by decide) hw hP
  refine lv_aload_n S.1 S.2.1 d_MO_free_5 rfl (lv_at hl 0 rfl) ?_
  refine lv_iload_n S.1 S.2.1 d_MO_free_6 rfl (lv_at hl 1 rfl) ?_
  refine mm_calli hw (mm_runV (a := x) (As := [.int q]) (rest := []) S hK hw (c_MO_isGuard l D dA _ x g (upd I 0 (0)) F st q n hn hN hP _) bv_MO_isGuard gw_505 hP.2.1 rfl (⟨rfl, rfl, by decide, by decide, by decide, by decide⟩) hl.1 rfl rfl (Nat.le_of_ble_eq_true rfl) d_MO_free_7) (fun r1 M2 H locs hp hw => ?_)
  rw [hp.1] at hw
  rcases hp.2 with ⟨rfl, hc3⟩ | ⟨rfl, hc3⟩
  · have hc3 : is_gd I F (q) := hc3
    obtain ⟨j4, ekj4, hlj4, hhj4, enj4⟩ := is_of (N := n) hn (by omega) hc3.1
    refine lv_if_ne (tgt := 16) S.1 S.2.1 d_MO_free_10 (by decide) (fun c10 => ?_) (fun c10 => absurd c10 (by decide))
    refine lv_aload_n S.1 S.2.1 d_MO_free_16 rfl (lv_at hl 0 rfl) ?_
    refine mm_get (C := R_MO) (T := T_MO) (N := 22) (v := .ref (g 14)) S hK.1 hw hP.2.1 rfl in_MO 20 (by decide) gw_390 rfl rfl d_MO_free_17 ?_
    refine lv_iload_n S.1 S.2.1 d_MO_free_20 rfl (lv_at hl 1 rfl) ?_
    refine mn_iald (j := cN q) (n := 61) (f := F 14) S hK.1 hw 0 (mP_a (k := 14) (F := F) hP (by decide) (by decide)) rfl (cl_nI (is_le0 hc3.1.1)) (by rw [cN, enj4]; omega) (by decide) d_MO_free_21 ?_
    refine lv_iconst (v := 2) S.1 S.2.1 d_MO_free_22 (by decide) ?_
    refine lv_icmp_ne (tgt := 38) S.1 S.2.1 d_MO_free_23 (by decide) (fun c23 => ?_) (fun c23 => ?_)
    · refine lv_iconst (v := 1) S.1 S.2.1 d_MO_free_38 (by decide) ?_
      refine lv_istore_n (lv' := [(2, .int 1), (0, .ref x), (1, .int q)]) S.1 S.2.1 d_MO_free_39 rfl hl (by decide) rfl (fun ls hl => ?_)
      refine lv_aload_n S.1 S.2.1 d_MO_free_40 rfl (lv_at hl 1 rfl) ?_
      refine mm_get (C := R_MO) (T := T_MO) (N := 22) (v := .ref (g 14)) S hK.1 hw hP.2.1 rfl in_MO 20 (by decide) gw_390 rfl rfl d_MO_free_41 ?_
      refine lv_iload_n S.1 S.2.1 d_MO_free_44 rfl (lv_at hl 2 rfl) ?_
      refine lv_iconst (v := 0) S.1 S.2.1 d_MO_free_45 (by decide) ?_
      refine mn_iast (j := cN q) (n := 61) (f := F 14) S hK.1 hw 0 (mP_a (k := 14) (F := F) hP (by decide) (by decide)) rfl (cl_nI (is_le0 hc3.1.1)) (by rw [cN, enj4]; omega) (by decide) d_MO_free_46 (fun H locs hw => ?_)
      obtain ⟨M, hw, hP⟩ := md_ast (k := 14) (j := cN q) (v := 0) (F := F) (by decide) (by decide) hw hP
      refine lv_iload_n S.1 S.2.1 d_MO_free_47 rfl (lv_at hl 0 rfl) ?_
      exact mm_reti S.1 S.2.1 hr hlocks hA hQ hw (md_done hP (show sp_free q I F st = (1, (upd I 0 (0)), (va_up F 14 (upd (F 14) (cN q) (0))), st) by simp only [sp_free, eq_false c10, eq_false c23, eq_true hc3, not_true_eq_false, not_false_eq_true, and_true, true_and, and_false, false_and, and_self, or_true, true_or, or_false, false_or, or_self, ↓reduceIte])) (Nat.le_of_ble_eq_true rfl) (Nat.le_of_ble_eq_true rfl) d_MO_free_48
    · refine lv_bipush (v := (-10)) S.1 S.2.1 d_MO_free_26 (by decide) ?_
      refine lv_aload_n S.1 S.2.1 d_MO_free_28 rfl (lv_at hl 0 rfl) ?_
      refine mm_get (C := R_MO) (T := T_MO) (N := 22) (v := .ref (g 12)) S hK.1 hw hP.2.1 rfl in_MO 18 (by decide) gw_388 rfl rfl d_MO_free_29 ?_
      refine lv_iload_n S.1 S.2.1 d_MO_free_32 rfl (lv_at hl 1 rfl) ?_
      refine mn_iald (j := cN q) (n := 61) (f := F 12) S hK.1 hw 0 (mP_a (k := 12) (F := F) hP (by decide) (by decide)) rfl (cl_nI (is_le0 hc3.1.1)) (by rw [cN, enj4]; omega) (by decide) d_MO_free_33 ?_
      refine lv_isub S.1 S.2.1 d_MO_free_34 ?_
      refine lv_goto (tgt := 39) S.1 S.2.1 d_MO_free_35 (by decide) ?_
      refine lv_istore_n (lv' := [(2, .int ((-10) - (F 12 (cN q)))), (0, .ref x), (1, .int q)]) S.1 S.2.1 d_MO_free_39 rfl hl (by decide) rfl (fun ls hl => ?_)
      refine lv_aload_n S.1 S.2.1 d_MO_free_40 rfl (lv_at hl 1 rfl) ?_
      refine mm_get (C := R_MO) (T := T_MO) (N := 22) (v := .ref (g 14)) S hK.1 hw hP.2.1 rfl in_MO 20 (by decide) gw_390 rfl rfl d_MO_free_41 ?_
      refine lv_iload_n S.1 S.2.1 d_MO_free_44 rfl (lv_at hl 2 rfl) ?_
      refine lv_iconst (v := 0) S.1 S.2.1 d_MO_free_45 (by decide) ?_
      refine mn_iast (j := cN q) (n := 61) (f := F 14) S hK.1 hw 0 (mP_a (k := 14) (F := F) hP (by decide) (by decide)) rfl (cl_nI (is_le0 hc3.1.1)) (by rw [cN, enj4]; omega) (by decide) d_MO_free_46 (fun H locs hw => ?_)
      obtain ⟨M, hw, hP⟩ := md_ast (k := 14) (j := cN q) (v := 0) (F := F) (by decide) (by decide) hw hP
      refine lv_iload_n S.1 S.2.1 d_MO_free_47 rfl (lv_at hl 0 rfl) ?_
      exact mm_reti S.1 S.2.1 hr hlocks hA hQ hw (md_done hP (show sp_free q I F st = (((-10) - (F 12 (cN q))), (upd I 0 (0)), (va_up F 14 (upd (F 14) (cN q) (0))), st) by simp only [sp_free, eq_false c10, eq_true c23, eq_true hc3, not_true_eq_false, not_false_eq_true, and_true, true_and, and_false, false_and, and_self, or_true, true_or, or_false, false_or, or_self, ↓reduceIte])) (Nat.le_of_ble_eq_true rfl) (Nat.le_of_ble_eq_true rfl) d_MO_free_48
  · have hc3 : ¬ is_gd I F (q) := hc3
    refine lv_if_ne (tgt := 16) S.1 S.2.1 d_MO_free_10 (by decide) (fun c10 => absurd c10 (by decide)) (fun c10 => ?_)
    refine lv_bipush (v := (-2)) S.1 S.2.1 d_MO_free_13 (by decide) ?_
    exact mm_reti S.1 S.2.1 hr hlocks hA hQ hw (md_done hP (show sp_free q I F st = ((-2), (upd I 0 (0)), F, st) by simp only [sp_free, eq_true c10, eq_false hc3, not_true_eq_false, not_false_eq_true, and_true, true_and, and_false, false_and, and_self, or_true, true_or, or_false, false_or, or_self, ↓reduceIte])) (Nat.le_of_ble_eq_true rfl) (Nat.le_of_ble_eq_true rfl) d_MO_free_15
theorem d_MO_told_0 : decode b_MO_told 0 = .ok (.aload_n 0, 1) := by decide +kernel
theorem d_MO_told_1 : decode b_MO_told 1 = .ok (.iconst 0, 1) := by decide +kernel
theorem d_MO_told_2 : decode b_MO_told 2 = .ok (.putfield 60, 3) := by decide +kernel
theorem d_MO_told_5 : decode b_MO_told 5 = .ok (.aload_n 0, 1) := by decide +kernel
theorem d_MO_told_6 : decode b_MO_told 6 = .ok (.iload_n 1, 1) := by decide +kernel
theorem d_MO_told_7 : decode b_MO_told 7 = .ok (.invokevirtual 67, 3) := by decide +kernel
theorem d_MO_told_10 : decode b_MO_told 10 = .ok (.ifCond .ne 5, 3) := by decide +kernel
theorem d_MO_told_13 : decode b_MO_told 13 = .ok (.iconst (-1), 1) := by decide +kernel
theorem d_MO_told_14 : decode b_MO_told 14 = .ok (.ireturn, 1) := by decide +kernel
theorem d_MO_told_15 : decode b_MO_told 15 = .ok (.iload_n 2, 1) := by decide +kernel
theorem d_MO_told_16 : decode b_MO_told 16 = .ok (.ifCond .ne 12, 3) := by decide +kernel
theorem d_MO_told_19 : decode b_MO_told 19 = .ok (.aload_n 0, 1) := by decide +kernel
theorem d_MO_told_20 : decode b_MO_told 20 = .ok (.getfield 16, 3) := by decide +kernel
theorem d_MO_told_23 : decode b_MO_told 23 = .ok (.iload_n 1, 1) := by decide +kernel
theorem d_MO_told_24 : decode b_MO_told 24 = .ok (.iaload, 1) := by decide +kernel
theorem d_MO_told_25 : decode b_MO_told 25 = .ok (.goto 32, 3) := by decide +kernel
theorem d_MO_told_28 : decode b_MO_told 28 = .ok (.iload_n 2, 1) := by decide +kernel
theorem d_MO_told_29 : decode b_MO_told 29 = .ok (.iconst 1, 1) := by decide +kernel
theorem d_MO_told_30 : decode b_MO_told 30 = .ok (.if_icmp .ne 12, 3) := by decide +kernel
theorem d_MO_told_33 : decode b_MO_told 33 = .ok (.aload_n 0, 1) := by decide +kernel
theorem d_MO_told_34 : decode b_MO_told 34 = .ok (.getfield 13, 3) := by decide +kernel
theorem d_MO_told_37 : decode b_MO_told 37 = .ok (.iload_n 1, 1) := by decide +kernel
theorem d_MO_told_38 : decode b_MO_told 38 = .ok (.iaload, 1) := by decide +kernel
theorem d_MO_told_39 : decode b_MO_told 39 = .ok (.goto 18, 3) := by decide +kernel
theorem d_MO_told_42 : decode b_MO_told 42 = .ok (.iload_n 2, 1) := by decide +kernel
theorem d_MO_told_43 : decode b_MO_told 43 = .ok (.iconst 2, 1) := by decide +kernel
theorem d_MO_told_44 : decode b_MO_told 44 = .ok (.if_icmp .ne 12, 3) := by decide +kernel
theorem d_MO_told_47 : decode b_MO_told 47 = .ok (.aload_n 0, 1) := by decide +kernel
theorem d_MO_told_48 : decode b_MO_told 48 = .ok (.getfield 7, 3) := by decide +kernel
theorem d_MO_told_51 : decode b_MO_told 51 = .ok (.iload_n 1, 1) := by decide +kernel
theorem d_MO_told_52 : decode b_MO_told 52 = .ok (.iaload, 1) := by decide +kernel
theorem d_MO_told_53 : decode b_MO_told 53 = .ok (.goto 4, 3) := by decide +kernel
theorem d_MO_told_56 : decode b_MO_told 56 = .ok (.iconst (-1), 1) := by decide +kernel
theorem d_MO_told_57 : decode b_MO_told 57 = .ok (.ireturn, 1) := by decide +kernel
set_option maxHeartbeats 4000000 in
set_option maxRecDepth 100000 in
theorem c_MO_told (l : Launch) (D : va_G) (dA : Nat → ClassId) (M : mm_M) (x : Nat) (g : Nat → Nat) (I : sI) (F : sF) (st : sT) (k v : Int32) (n : Nat) (hn : I 1 = nI n) (hN : n ≤ 100) (hP : mP dA M x g I F st) : mm_Ci l y_MO_told w_MO_told ({ frames := 1, cells := 0, slots := 0, locals := 21 }) 0 0 D vC (tyL dA) [.ref x, .int k, .int v] M (md_post dA x g (sp_told k v I F st)) := by
  intro sz
  refine mm_start (by decide) (Nat.le_of_ble_eq_true rfl) ?_
  intro p e s m below meth c A Q ls hA hQ S hr hlocks hin hK hw hl
  have hl : lv_has ls 3 [(0, .ref x), (1, .int k), (2, .int v)] := hl
  refine lv_aload_n S.1 S.2.1 d_MO_told_0 rfl (lv_at hl 0 rfl) ?_
  refine lv_iconst (v := 0) S.1 S.2.1 d_MO_told_1 (by decide) ?_
  refine mm_put (C := R_MO) (T := T_MO) (N := 22) (ty := .int) (v := .int 0) S hK.1 hw hP.2.1 rfl in_MO t_MO k_MO n_MO 0 (by decide) gw_370 rfl rfl (by decide +kernel) rfl rfl (Nat.le_of_ble_eq_true rfl) d_MO_told_2 (fun H locs hw => ?_)
  obtain ⟨M, hw, hP⟩ := md_puti (k := 0) (v := 0) (by decide) hw hP
  refine lv_aload_n S.1 S.2.1 d_MO_told_5 rfl (lv_at hl 0 rfl) ?_
  refine lv_iload_n S.1 S.2.1 d_MO_told_6 rfl (lv_at hl 1 rfl) ?_
  refine mm_calli hw (mm_runV (a := x) (As := [.int k]) (rest := []) S hK hw (c_MO_isLevel l D dA _ x g (upd I 0 (0)) F st k hP _) bv_MO_isLevel gw_442 hP.2.1 rfl (⟨rfl, rfl, by decide, by decide, by decide, by decide⟩) hl.1 rfl rfl (Nat.le_of_ble_eq_true rfl) d_MO_told_7) (fun r1 M2 H locs hp hw => ?_)
  rw [hp.1] at hw
  rcases hp.2 with ⟨rfl, hc3⟩ | ⟨rfl, hc3⟩
  · have hc3 : is_ok (I 1) (k) := hc3
    obtain ⟨j4, ekj4, hlj4, hhj4, enj4⟩ := is_of (N := n) hn (by omega) hc3
    refine lv_if_ne (tgt := 15) S.1 S.2.1 d_MO_told_10 (by decide) (fun c10 => ?_) (fun c10 => absurd c10 (by decide))
    refine lv_iload_n S.1 S.2.1 d_MO_told_15 rfl (lv_at hl 2 rfl) ?_
    refine lv_if_ne (tgt := 28) S.1 S.2.1 d_MO_told_16 (by decide) (fun c16 => ?_) (fun c16 => ?_)
    · refine lv_iload_n S.1 S.2.1 d_MO_told_28 rfl (lv_at hl 2 rfl) ?_
      refine lv_iconst (v := 1) S.1 S.2.1 d_MO_told_29 (by decide) ?_
      refine lv_icmp_ne (tgt := 42) S.1 S.2.1 d_MO_told_30 (by decide) (fun c30 => ?_) (fun c30 => ?_)
      · refine lv_iload_n S.1 S.2.1 d_MO_told_42 rfl (lv_at hl 2 rfl) ?_
        refine lv_iconst (v := 2) S.1 S.2.1 d_MO_told_43 (by decide) ?_
        refine lv_icmp_ne (tgt := 56) S.1 S.2.1 d_MO_told_44 (by decide) (fun c44 => ?_) (fun c44 => ?_)
        · refine lv_iconst (v := (-1)) S.1 S.2.1 d_MO_told_56 (by decide) ?_
          exact mm_reti S.1 S.2.1 hr hlocks hA hQ hw (md_done hP (show sp_told k v I F st = ((-1), (upd I 0 (0)), F, st) by simp only [sp_told, eq_false c10, eq_false c16, eq_false c30, eq_false c44, eq_true hc3, not_true_eq_false, not_false_eq_true, and_true, true_and, and_false, false_and, and_self, or_true, true_or, or_false, false_or, or_self, ↓reduceIte])) (Nat.le_of_ble_eq_true rfl) (Nat.le_of_ble_eq_true rfl) d_MO_told_57
        · refine lv_aload_n S.1 S.2.1 d_MO_told_47 rfl (lv_at hl 0 rfl) ?_
          refine mm_get (C := R_MO) (T := T_MO) (N := 22) (v := .ref (g 0)) S hK.1 hw hP.2.1 rfl in_MO 6 (by decide) gw_376 rfl rfl d_MO_told_48 ?_
          refine lv_iload_n S.1 S.2.1 d_MO_told_51 rfl (lv_at hl 1 rfl) ?_
          refine mn_iald (j := cN k) (n := 101) (f := F 0) S hK.1 hw 0 (mP_a (k := 0) (F := F) hP (by decide) (by decide)) rfl (cl_nI (is_le0 hc3.1)) (by rw [cN, enj4]; omega) (by decide) d_MO_told_52 ?_
          refine lv_goto (tgt := 57) S.1 S.2.1 d_MO_told_53 (by decide) ?_
          exact mm_reti S.1 S.2.1 hr hlocks hA hQ hw (md_done hP (show sp_told k v I F st = ((F 0 (cN k)), (upd I 0 (0)), F, st) by simp only [sp_told, eq_false c10, eq_false c16, eq_false c30, eq_true c44, eq_true hc3, not_true_eq_false, not_false_eq_true, and_true, true_and, and_false, false_and, and_self, or_true, true_or, or_false, false_or, or_self, ↓reduceIte])) (Nat.le_of_ble_eq_true rfl) (Nat.le_of_ble_eq_true rfl) d_MO_told_57
      · refine lv_aload_n S.1 S.2.1 d_MO_told_33 rfl (lv_at hl 0 rfl) ?_
        refine mm_get (C := R_MO) (T := T_MO) (N := 22) (v := .ref (g 1)) S hK.1 hw hP.2.1 rfl in_MO 7 (by decide) gw_377 rfl rfl d_MO_told_34 ?_
        refine lv_iload_n S.1 S.2.1 d_MO_told_37 rfl (lv_at hl 1 rfl) ?_
        refine mn_iald (j := cN k) (n := 101) (f := F 1) S hK.1 hw 0 (mP_a (k := 1) (F := F) hP (by decide) (by decide)) rfl (cl_nI (is_le0 hc3.1)) (by rw [cN, enj4]; omega) (by decide) d_MO_told_38 ?_
        refine lv_goto (tgt := 57) S.1 S.2.1 d_MO_told_39 (by decide) ?_
        exact mm_reti S.1 S.2.1 hr hlocks hA hQ hw (md_done hP (show sp_told k v I F st = ((F 1 (cN k)), (upd I 0 (0)), F, st) by simp only [sp_told, eq_false c10, eq_false c16, eq_true c30, eq_true hc3, not_true_eq_false, not_false_eq_true, and_true, true_and, and_false, false_and, and_self, or_true, true_or, or_false, false_or, or_self, ↓reduceIte])) (Nat.le_of_ble_eq_true rfl) (Nat.le_of_ble_eq_true rfl) d_MO_told_57
    · refine lv_aload_n S.1 S.2.1 d_MO_told_19 rfl (lv_at hl 0 rfl) ?_
      refine mm_get (C := R_MO) (T := T_MO) (N := 22) (v := .ref (g 2)) S hK.1 hw hP.2.1 rfl in_MO 8 (by decide) gw_378 rfl rfl d_MO_told_20 ?_
      refine lv_iload_n S.1 S.2.1 d_MO_told_23 rfl (lv_at hl 1 rfl) ?_
      refine mn_iald (j := cN k) (n := 101) (f := F 2) S hK.1 hw 0 (mP_a (k := 2) (F := F) hP (by decide) (by decide)) rfl (cl_nI (is_le0 hc3.1)) (by rw [cN, enj4]; omega) (by decide) d_MO_told_24 ?_
      refine lv_goto (tgt := 57) S.1 S.2.1 d_MO_told_25 (by decide) ?_
      exact mm_reti S.1 S.2.1 hr hlocks hA hQ hw (md_done hP (show sp_told k v I F st = ((F 2 (cN k)), (upd I 0 (0)), F, st) by simp only [sp_told, eq_false c10, eq_true c16, eq_true hc3, not_true_eq_false, not_false_eq_true, and_true, true_and, and_false, false_and, and_self, or_true, true_or, or_false, false_or, or_self, ↓reduceIte])) (Nat.le_of_ble_eq_true rfl) (Nat.le_of_ble_eq_true rfl) d_MO_told_57
  · have hc3 : ¬ is_ok (I 1) (k) := hc3
    refine lv_if_ne (tgt := 15) S.1 S.2.1 d_MO_told_10 (by decide) (fun c10 => absurd c10 (by decide)) (fun c10 => ?_)
    refine lv_iconst (v := (-1)) S.1 S.2.1 d_MO_told_13 (by decide) ?_
    exact mm_reti S.1 S.2.1 hr hlocks hA hQ hw (md_done hP (show sp_told k v I F st = ((-1), (upd I 0 (0)), F, st) by simp only [sp_told, eq_true c10, eq_false hc3, not_true_eq_false, not_false_eq_true, and_true, true_and, and_false, false_and, and_self, or_true, true_or, or_false, false_or, or_self, ↓reduceIte])) (Nat.le_of_ble_eq_true rfl) (Nat.le_of_ble_eq_true rfl) d_MO_told_14
end
section
theorem ts_ne {x a : Int32} (h : ¬ x = a) : x.toInt ≠ a.toInt := fun q => h (Int32.toInt_inj.mp q)
theorem up_uu {f : Nat → Int32} {k : Nat} {a b : Int32} : upd (upd f k a) k b = upd f k b := by
  funext j
  by_cases h : j = k <;> simp [upd, h]
def du_f (F : sF) (t i w : Int32) : Nat → Nat → Int32 → Int32
  | 0, _, _ => -1
  | m + 1, d, n => if F 15 (5 * d) = t then (if n = i then F 15 (5 * d + 1 + cN w) else du_f F t i w m (d + 1) (n + 1)) else du_f F t i w m (d + 1) n
def sp_dump (t i w : Int32) (I : sI) (F : sF) (st : sT) : sR := (if w < 0 ∨ ¬ w ≤ 3 then -1 else du_f F t i w (cN (I 4)) 0 0, upd I 0 0, F, st)
/-- what an exit does: the level at which it ends the abend (0: none), and which exits have retried -/
def en_of (F : sF) (x a l : Nat) : Int32 × (Nat → Int32) :=
  if ¬ F 6 x = 0 then (0, F 7)
  else if F 4 x = 1 then (nI a, F 7)
  else if F 4 x = 2 then (if ¬ F 7 x = 0 then (0, F 7) else (nI l, upd (F 7) x 1))
  else if F 4 x = 3 then (F 0 a, F 7)
  else (0, F 7)

/-- the picture behind endOf -/
theorem va_up_same {α : Type} {f : Nat → α} {k : Nat} : va_up f k (f k) = f := by
  funext j
  by_cases h : j = k
  · subst h; exact va_up_self _ _ _
  · exact va_up_ne _ _ h
theorem en_done {dA : Nat → ClassId} {x : Nat} {g : Nat → Nat} {R : Int32 × (Nat → Int32)} {v : Int32} {f : Nat → Int32} {M : mm_M} {I : sI} {F F' : sF} {st : sT} (hP : mP dA M x g I F' st) (h : R = (v, f)) (hF : F' = va_up F 7 f := by first | rfl | exact (va_up_same).symm) : v = R.1 ∧ mP dA M x g I (va_up F 7 R.2) st := by
  subst h; subst hF
  exact ⟨rfl, hP⟩
theorem d_MO_endOf_0 : decode b_MO_endOf 0 = .ok (.aload_n 0, 1) := by decide +kernel
theorem d_MO_endOf_1 : decode b_MO_endOf 1 = .ok (.getfield 28, 3) := by decide +kernel
theorem d_MO_endOf_4 : decode b_MO_endOf 4 = .ok (.iload_n 1, 1) := by decide +kernel
theorem d_MO_endOf_5 : decode b_MO_endOf 5 = .ok (.baload, 1) := by decide +kernel
theorem d_MO_endOf_6 : decode b_MO_endOf 6 = .ok (.ifCond .eq 5, 3) := by decide +kernel
theorem d_MO_endOf_9 : decode b_MO_endOf 9 = .ok (.iconst 0, 1) := by decide +kernel
theorem d_MO_endOf_10 : decode b_MO_endOf 10 = .ok (.ireturn, 1) := by decide +kernel
theorem d_MO_endOf_11 : decode b_MO_endOf 11 = .ok (.aload_n 0, 1) := by decide +kernel
theorem d_MO_endOf_12 : decode b_MO_endOf 12 = .ok (.getfield 22, 3) := by decide +kernel
theorem d_MO_endOf_15 : decode b_MO_endOf 15 = .ok (.iload_n 1, 1) := by decide +kernel
theorem d_MO_endOf_16 : decode b_MO_endOf 16 = .ok (.iaload, 1) := by decide +kernel
theorem d_MO_endOf_17 : decode b_MO_endOf 17 = .ok (.tableswitch 56 1 3 #[27, 29, 49], 27) := by decide +kernel
theorem d_MO_endOf_44 : decode b_MO_endOf 44 = .ok (.iload_n 2, 1) := by decide +kernel
theorem d_MO_endOf_45 : decode b_MO_endOf 45 = .ok (.ireturn, 1) := by decide +kernel
theorem d_MO_endOf_46 : decode b_MO_endOf 46 = .ok (.aload_n 0, 1) := by decide +kernel
theorem d_MO_endOf_47 : decode b_MO_endOf 47 = .ok (.getfield 32, 3) := by decide +kernel
theorem d_MO_endOf_50 : decode b_MO_endOf 50 = .ok (.iload_n 1, 1) := by decide +kernel
theorem d_MO_endOf_51 : decode b_MO_endOf 51 = .ok (.baload, 1) := by decide +kernel
theorem d_MO_endOf_52 : decode b_MO_endOf 52 = .ok (.ifCond .eq 5, 3) := by decide +kernel
theorem d_MO_endOf_55 : decode b_MO_endOf 55 = .ok (.iconst 0, 1) := by decide +kernel
theorem d_MO_endOf_56 : decode b_MO_endOf 56 = .ok (.ireturn, 1) := by decide +kernel
theorem d_MO_endOf_57 : decode b_MO_endOf 57 = .ok (.aload_n 0, 1) := by decide +kernel
theorem d_MO_endOf_58 : decode b_MO_endOf 58 = .ok (.getfield 32, 3) := by decide +kernel
theorem d_MO_endOf_61 : decode b_MO_endOf 61 = .ok (.iload_n 1, 1) := by decide +kernel
theorem d_MO_endOf_62 : decode b_MO_endOf 62 = .ok (.iconst 1, 1) := by decide +kernel
theorem d_MO_endOf_63 : decode b_MO_endOf 63 = .ok (.bastore, 1) := by decide +kernel
theorem d_MO_endOf_64 : decode b_MO_endOf 64 = .ok (.iload_n 3, 1) := by decide +kernel
theorem d_MO_endOf_65 : decode b_MO_endOf 65 = .ok (.ireturn, 1) := by decide +kernel
theorem d_MO_endOf_66 : decode b_MO_endOf 66 = .ok (.aload_n 0, 1) := by decide +kernel
theorem d_MO_endOf_67 : decode b_MO_endOf 67 = .ok (.getfield 7, 3) := by decide +kernel
theorem d_MO_endOf_70 : decode b_MO_endOf 70 = .ok (.iload_n 2, 1) := by decide +kernel
theorem d_MO_endOf_71 : decode b_MO_endOf 71 = .ok (.iaload, 1) := by decide +kernel
theorem d_MO_endOf_72 : decode b_MO_endOf 72 = .ok (.ireturn, 1) := by decide +kernel
theorem d_MO_endOf_73 : decode b_MO_endOf 73 = .ok (.iconst 0, 1) := by decide +kernel
theorem d_MO_endOf_74 : decode b_MO_endOf 74 = .ok (.ireturn, 1) := by decide +kernel
set_option maxHeartbeats 4000000 in
set_option maxRecDepth 100000 in
theorem c_MO_endOf (l : Launch) (D : va_G) (dA : Nat → ClassId) (M : mm_M) (x : Nat) (g : Nat → Nat) (I : sI) (F : sF) (st : sT) (x0 a lv : Nat) (hx0 : x0 ≤ 300) (ha : a ≤ 100) (hP : mP dA M x g I F st) : mm_Ci l y_MO_endOf w_MO_endOf ({ frames := 0, cells := 0, slots := 0, locals := 0 }) 0 0 D vC (tyL dA) [.ref x, .int (nI x0), .int (nI a), .int (nI lv)] M (fun r M' => r = (en_of F x0 a lv).1 ∧ mP dA M' x g I (va_up F 7 (en_of F x0 a lv).2) st) := by
  intro sz
  refine mm_start (by decide) (Nat.le_of_ble_eq_true rfl) ?_
  intro p e s m below meth c A Q ls hA hQ S hr hlocks hin hK hw hl
  have hl : lv_has ls 4 [(0, .ref x), (1, .int (nI x0)), (2, .int (nI a)), (3, .int (nI lv))] := hl
  refine lv_aload_n S.1 S.2.1 d_MO_endOf_0 rfl (lv_at hl 0 rfl) ?_
  refine mm_get (C := R_MO) (T := T_MO) (N := 22) (v := .ref (g 6)) S hK.1 hw hP.2.1 rfl in_MO 12 (by decide) gw_382 rfl rfl d_MO_endOf_1 ?_
  refine lv_iload_n S.1 S.2.1 d_MO_endOf_4 rfl (lv_at hl 1 rfl) ?_
  refine mn_zald (j := x0) (n := 301) (f := F 6) S hK.1 hw 2 (mP_a (k := 6) (F := F) hP (by decide) (by decide)) rfl (rfl) (by omega) (by decide) d_MO_endOf_5 ?_
  refine lv_if_eq (tgt := 11) S.1 S.2.1 d_MO_endOf_6 (by decide) (fun c6 => ?_) (fun c6 => ?_)
  · refine lv_aload_n S.1 S.2.1 d_MO_endOf_11 rfl (lv_at hl 0 rfl) ?_
    refine mm_get (C := R_MO) (T := T_MO) (N := 22) (v := .ref (g 4)) S hK.1 hw hP.2.1 rfl in_MO 10 (by decide) gw_380 rfl rfl d_MO_endOf_12 ?_
    refine lv_iload_n S.1 S.2.1 d_MO_endOf_15 rfl (lv_at hl 1 rfl) ?_
    refine mn_iald (j := x0) (n := 301) (f := F 4) S hK.1 hw 0 (mP_a (k := 4) (F := F) hP (by decide) (by decide)) rfl (rfl) (by omega) (by decide) d_MO_endOf_16 ?_
    by_cases k17_1 : (F 4 (x0)) = 1
    · refine lv_tableIn (off := 27) (tgt := 44) S.1 S.2.1 d_MO_endOf_17 (by rw [k17_1]; decide) (by rw [k17_1]; decide) (by rw [k17_1]; rfl) (by decide) ?_
      refine lv_iload_n S.1 S.2.1 d_MO_endOf_44 rfl (lv_at hl 2 rfl) ?_
      exact mm_reti S.1 S.2.1 hr hlocks hA hQ hw (en_done hP (show en_of F x0 a lv = ((nI a), F 7) by simp only [en_of, eq_true c6, eq_true k17_1, not_true_eq_false, not_false_eq_true, and_true, true_and, and_false, false_and, and_self, or_true, true_or, or_false, false_or, or_self, ↓reduceIte])) (Nat.le_of_ble_eq_true rfl) (Nat.le_of_ble_eq_true rfl) d_MO_endOf_45
    by_cases k17_2 : (F 4 (x0)) = 2
    · refine lv_tableIn (off := 29) (tgt := 46) S.1 S.2.1 d_MO_endOf_17 (by rw [k17_2]; decide) (by rw [k17_2]; decide) (by rw [k17_2]; rfl) (by decide) ?_
      refine lv_aload_n S.1 S.2.1 d_MO_endOf_46 rfl (lv_at hl 0 rfl) ?_
      refine mm_get (C := R_MO) (T := T_MO) (N := 22) (v := .ref (g 7)) S hK.1 hw hP.2.1 rfl in_MO 13 (by decide) gw_383 rfl rfl d_MO_endOf_47 ?_
      refine lv_iload_n S.1 S.2.1 d_MO_endOf_50 rfl (lv_at hl 1 rfl) ?_
      refine mn_zald (j := x0) (n := 301) (f := F 7) S hK.1 hw 2 (mP_a (k := 7) (F := F) hP (by decide) (by decide)) rfl (rfl) (by omega) (by decide) d_MO_endOf_51 ?_
      refine lv_if_eq (tgt := 57) S.1 S.2.1 d_MO_endOf_52 (by decide) (fun c52 => ?_) (fun c52 => ?_)
      · refine lv_aload_n S.1 S.2.1 d_MO_endOf_57 rfl (lv_at hl 0 rfl) ?_
        refine mm_get (C := R_MO) (T := T_MO) (N := 22) (v := .ref (g 7)) S hK.1 hw hP.2.1 rfl in_MO 13 (by decide) gw_383 rfl rfl d_MO_endOf_58 ?_
        refine lv_iload_n S.1 S.2.1 d_MO_endOf_61 rfl (lv_at hl 1 rfl) ?_
        refine lv_iconst (v := 1) S.1 S.2.1 d_MO_endOf_62 (by decide) ?_
        refine mn_zast (j := x0) (n := 301) (f := F 7) S hK.1 hw 2 (mP_a (k := 7) (F := F) hP (by decide) (by decide)) rfl (rfl) (by omega) (by decide) (mz_nar2 (Or.inr rfl)) d_MO_endOf_63 (fun H locs hw => ?_)
        obtain ⟨M, hw, hP⟩ := md_ast (k := 7) (j := x0) (v := 1) (F := F) (by decide) (by decide) hw hP
        refine lv_iload_n S.1 S.2.1 d_MO_endOf_64 rfl (lv_at hl 3 rfl) ?_
        exact mm_reti S.1 S.2.1 hr hlocks hA hQ hw (en_done hP (show en_of F x0 a lv = ((nI lv), upd (F 7) (x0) (1)) by simp only [en_of, eq_true c6, eq_false k17_1, eq_true k17_2, eq_true c52, not_true_eq_false, not_false_eq_true, and_true, true_and, and_false, false_and, and_self, or_true, true_or, or_false, false_or, or_self, ↓reduceIte])) (Nat.le_of_ble_eq_true rfl) (Nat.le_of_ble_eq_true rfl) d_MO_endOf_65
      · refine lv_iconst (v := 0) S.1 S.2.1 d_MO_endOf_55 (by decide) ?_
        exact mm_reti S.1 S.2.1 hr hlocks hA hQ hw (en_done hP (show en_of F x0 a lv = (0, F 7) by simp only [en_of, eq_true c6, eq_false k17_1, eq_true k17_2, eq_false c52, not_true_eq_false, not_false_eq_true, and_true, true_and, and_false, false_and, and_self, or_true, true_or, or_false, false_or, or_self, ↓reduceIte])) (Nat.le_of_ble_eq_true rfl) (Nat.le_of_ble_eq_true rfl) d_MO_endOf_56
    by_cases k17_3 : (F 4 (x0)) = 3
    · refine lv_tableIn (off := 49) (tgt := 66) S.1 S.2.1 d_MO_endOf_17 (by rw [k17_3]; decide) (by rw [k17_3]; decide) (by rw [k17_3]; rfl) (by decide) ?_
      refine lv_aload_n S.1 S.2.1 d_MO_endOf_66 rfl (lv_at hl 0 rfl) ?_
      refine mm_get (C := R_MO) (T := T_MO) (N := 22) (v := .ref (g 0)) S hK.1 hw hP.2.1 rfl in_MO 6 (by decide) gw_376 rfl rfl d_MO_endOf_67 ?_
      refine lv_iload_n S.1 S.2.1 d_MO_endOf_70 rfl (lv_at hl 2 rfl) ?_
      refine mn_iald (j := a) (n := 101) (f := F 0) S hK.1 hw 0 (mP_a (k := 0) (F := F) hP (by decide) (by decide)) rfl (rfl) (by omega) (by decide) d_MO_endOf_71 ?_
      exact mm_reti S.1 S.2.1 hr hlocks hA hQ hw (en_done hP (show en_of F x0 a lv = ((F 0 (a)), F 7) by simp only [en_of, eq_true c6, eq_false k17_1, eq_false k17_2, eq_true k17_3, not_true_eq_false, not_false_eq_true, and_true, true_and, and_false, false_and, and_self, or_true, true_or, or_false, false_or, or_self, ↓reduceIte])) (Nat.le_of_ble_eq_true rfl) (Nat.le_of_ble_eq_true rfl) d_MO_endOf_72
    refine lv_tableOut (tgt := 73) S.1 S.2.1 d_MO_endOf_17 (by have t1 : ((F 4 (x0))).toInt ≠ 1 := ts_ne k17_1; have t2 : ((F 4 (x0))).toInt ≠ 2 := ts_ne k17_2; have t3 : ((F 4 (x0))).toInt ≠ 3 := ts_ne k17_3; omega) (by decide) ?_
    refine lv_iconst (v := 0) S.1 S.2.1 d_MO_endOf_73 (by decide) ?_
    exact mm_reti S.1 S.2.1 hr hlocks hA hQ hw (en_done hP (show en_of F x0 a lv = (0, F 7) by simp only [en_of, eq_true c6, eq_false k17_1, eq_false k17_2, eq_false k17_3, not_true_eq_false, not_false_eq_true, and_true, true_and, and_false, false_and, and_self, or_true, true_or, or_false, false_or, or_self, ↓reduceIte])) (Nat.le_of_ble_eq_true rfl) (Nat.le_of_ble_eq_true rfl) d_MO_endOf_74
  · refine lv_iconst (v := 0) S.1 S.2.1 d_MO_endOf_9 (by decide) ?_
    exact mm_reti S.1 S.2.1 hr hlocks hA hQ hw (en_done hP (show en_of F x0 a lv = (0, F 7) by simp only [en_of, eq_false c6, not_true_eq_false, not_false_eq_true, and_true, true_and, and_false, false_and, and_self, or_true, true_or, or_false, false_or, or_self, ↓reduceIte])) (Nat.le_of_ble_eq_true rfl) (Nat.le_of_ble_eq_true rfl) d_MO_endOf_10
theorem cN_le3 {w : Int32} (h0 : ¬ w < 0) (h3 : w ≤ 3) : cN w ≤ 3 := by
  obtain ⟨j, hj, rfl⟩ := nI_of h0
  rw [cN, nI_clamp hj]
  exact (nI_leI hj (by decide)).mp (show nI j ≤ nI 3 from h3)
theorem d_MO_dump_0 : decode b_MO_dump 0 = .ok (.aload_n 0, 1) := by decide +kernel
theorem d_MO_dump_1 : decode b_MO_dump 1 = .ok (.iconst 0, 1) := by decide +kernel
theorem d_MO_dump_2 : decode b_MO_dump 2 = .ok (.putfield 60, 3) := by decide +kernel
theorem d_MO_dump_5 : decode b_MO_dump 5 = .ok (.iload_n 3, 1) := by decide +kernel
theorem d_MO_dump_6 : decode b_MO_dump 6 = .ok (.ifCond .lt 8, 3) := by decide +kernel
theorem d_MO_dump_9 : decode b_MO_dump 9 = .ok (.iload_n 3, 1) := by decide +kernel
theorem d_MO_dump_10 : decode b_MO_dump 10 = .ok (.iconst 3, 1) := by decide +kernel
theorem d_MO_dump_11 : decode b_MO_dump 11 = .ok (.if_icmp .le 5, 3) := by decide +kernel
theorem d_MO_dump_14 : decode b_MO_dump 14 = .ok (.iconst (-1), 1) := by decide +kernel
theorem d_MO_dump_15 : decode b_MO_dump 15 = .ok (.ireturn, 1) := by decide +kernel
theorem d_MO_dump_16 : decode b_MO_dump 16 = .ok (.iconst 0, 1) := by decide +kernel
theorem d_MO_dump_17 : decode b_MO_dump 17 = .ok (.istore 4, 2) := by decide +kernel
theorem d_MO_dump_19 : decode b_MO_dump 19 = .ok (.iconst 0, 1) := by decide +kernel
theorem d_MO_dump_20 : decode b_MO_dump 20 = .ok (.istore 5, 2) := by decide +kernel
theorem d_MO_dump_22 : decode b_MO_dump 22 = .ok (.iload 5, 2) := by decide +kernel
theorem d_MO_dump_24 : decode b_MO_dump 24 = .ok (.aload_n 0, 1) := by decide +kernel
theorem d_MO_dump_25 : decode b_MO_dump 25 = .ok (.getfield 87, 3) := by decide +kernel
theorem d_MO_dump_28 : decode b_MO_dump 28 = .ok (.if_icmp .ge 48, 3) := by decide +kernel
theorem d_MO_dump_31 : decode b_MO_dump 31 = .ok (.aload_n 0, 1) := by decide +kernel
theorem d_MO_dump_32 : decode b_MO_dump 32 = .ok (.getfield 57, 3) := by decide +kernel
theorem d_MO_dump_35 : decode b_MO_dump 35 = .ok (.iconst 5, 1) := by decide +kernel
theorem d_MO_dump_36 : decode b_MO_dump 36 = .ok (.iload 5, 2) := by decide +kernel
theorem d_MO_dump_38 : decode b_MO_dump 38 = .ok (.imul, 1) := by decide +kernel
theorem d_MO_dump_39 : decode b_MO_dump 39 = .ok (.iaload, 1) := by decide +kernel
theorem d_MO_dump_40 : decode b_MO_dump 40 = .ok (.iload_n 1, 1) := by decide +kernel
theorem d_MO_dump_41 : decode b_MO_dump 41 = .ok (.if_icmp .eq 6, 3) := by decide +kernel
theorem d_MO_dump_44 : decode b_MO_dump 44 = .ok (.goto 26, 3) := by decide +kernel
theorem d_MO_dump_47 : decode b_MO_dump 47 = .ok (.iload 4, 2) := by decide +kernel
theorem d_MO_dump_49 : decode b_MO_dump 49 = .ok (.iload_n 2, 1) := by decide +kernel
theorem d_MO_dump_50 : decode b_MO_dump 50 = .ok (.if_icmp .ne 17, 3) := by decide +kernel
theorem d_MO_dump_53 : decode b_MO_dump 53 = .ok (.aload_n 0, 1) := by decide +kernel
theorem d_MO_dump_54 : decode b_MO_dump 54 = .ok (.getfield 57, 3) := by decide +kernel
theorem d_MO_dump_57 : decode b_MO_dump 57 = .ok (.iconst 5, 1) := by decide +kernel
theorem d_MO_dump_58 : decode b_MO_dump 58 = .ok (.iload 5, 2) := by decide +kernel
theorem d_MO_dump_60 : decode b_MO_dump 60 = .ok (.imul, 1) := by decide +kernel
theorem d_MO_dump_61 : decode b_MO_dump 61 = .ok (.iconst 1, 1) := by decide +kernel
theorem d_MO_dump_62 : decode b_MO_dump 62 = .ok (.iadd, 1) := by decide +kernel
theorem d_MO_dump_63 : decode b_MO_dump 63 = .ok (.iload_n 3, 1) := by decide +kernel
theorem d_MO_dump_64 : decode b_MO_dump 64 = .ok (.iadd, 1) := by decide +kernel
theorem d_MO_dump_65 : decode b_MO_dump 65 = .ok (.iaload, 1) := by decide +kernel
theorem d_MO_dump_66 : decode b_MO_dump 66 = .ok (.ireturn, 1) := by decide +kernel
theorem d_MO_dump_67 : decode b_MO_dump 67 = .ok (.iinc 4 1, 3) := by decide +kernel
theorem d_MO_dump_70 : decode b_MO_dump 70 = .ok (.iinc 5 1, 3) := by decide +kernel
theorem d_MO_dump_73 : decode b_MO_dump 73 = .ok (.goto (-51), 3) := by decide +kernel
theorem d_MO_dump_76 : decode b_MO_dump 76 = .ok (.iconst (-1), 1) := by decide +kernel
theorem d_MO_dump_77 : decode b_MO_dump 77 = .ok (.ireturn, 1) := by decide +kernel
set_option maxHeartbeats 4000000 in
set_option maxRecDepth 100000 in
theorem c_MO_dump (l : Launch) (D : va_G) (dA : Nat → ClassId) (M : mm_M) (x : Nat) (g : Nat → Nat) (I : sI) (F : sF) (st : sT) (t i w : Int32) (nd : Nat) (hnd : I 4 = nI nd) (hND : nd ≤ 50) (hP : mP dA M x g I F st) : mm_Ci l y_MO_dump w_MO_dump ({ frames := 0, cells := 0, slots := 0, locals := 0 }) 0 0 D vC (tyL dA) [.ref x, .int t, .int i, .int w] M (md_post dA x g (sp_dump t i w I F st)) := by
  intro sz
  refine mm_start (by decide) (Nat.le_of_ble_eq_true rfl) ?_
  intro p e s m below meth c A Q ls hA hQ S hr hlocks hin hK hw hl
  have hl : lv_has ls 6 [(0, .ref x), (1, .int t), (2, .int i), (3, .int w)] := hl
  refine lv_aload_n S.1 S.2.1 d_MO_dump_0 rfl (lv_at hl 0 rfl) ?_
  refine lv_iconst (v := 0) S.1 S.2.1 d_MO_dump_1 (by decide) ?_
  refine mm_put (C := R_MO) (T := T_MO) (N := 22) (ty := .int) (v := .int 0) S hK.1 hw hP.2.1 rfl in_MO t_MO k_MO n_MO 0 (by decide) gw_370 rfl rfl (by decide +kernel) rfl rfl (Nat.le_of_ble_eq_true rfl) d_MO_dump_2 (fun H locs hw => ?_)
  obtain ⟨M, hw, hP⟩ := md_puti (k := 0) (v := 0) (by decide) hw hP
  refine lv_iload_n S.1 S.2.1 d_MO_dump_5 rfl (lv_at hl 3 rfl) ?_
  refine lv_if_lt (tgt := 14) S.1 S.2.1 d_MO_dump_6 (by decide) (fun c6 => ?_) (fun c6 => ?_)
  · refine lv_iconst (v := (-1)) S.1 S.2.1 d_MO_dump_14 (by decide) ?_
    exact mm_reti S.1 S.2.1 hr hlocks hA hQ hw (md_done hP (show sp_dump t i w I F st = ((-1), (upd I 0 (0)), F, st) by simp only [sp_dump, eq_true c6, not_true_eq_false, not_false_eq_true, and_true, true_and, and_false, false_and, and_self, or_true, true_or, or_false, false_or, or_self, ↓reduceIte])) (Nat.le_of_ble_eq_true rfl) (Nat.le_of_ble_eq_true rfl) d_MO_dump_15
  · refine lv_iload_n S.1 S.2.1 d_MO_dump_9 rfl (lv_at hl 3 rfl) ?_
    refine lv_iconst (v := 3) S.1 S.2.1 d_MO_dump_10 (by decide) ?_
    refine lv_icmp_le (tgt := 16) S.1 S.2.1 d_MO_dump_11 (by decide) (fun c11 => ?_) (fun c11 => ?_)
    · refine lv_iconst (v := 0) S.1 S.2.1 d_MO_dump_16 (by decide) ?_
      refine lv_istore (lv' := [(4, .int 0), (0, .ref x), (1, .int t), (2, .int i), (3, .int w)]) S.1 S.2.1 d_MO_dump_17 hl (by decide) rfl (fun ls hl => ?_)
      refine lv_iconst (v := 0) S.1 S.2.1 d_MO_dump_19 (by decide) ?_
      refine lv_istore (lv' := [(5, .int 0), (4, .int 0), (0, .ref x), (1, .int t), (2, .int i), (3, .int w)]) S.1 S.2.1 d_MO_dump_20 hl (by decide) rfl (fun ls hl => ?_)
      have hS : sp_dump t i w I F st = (du_f F t i w nd 0 0, upd I 0 0, F, st) := by
        have e9 : cN (I 4) = nd := by rw [hnd, cN, nI_clamp (by omega)]
        simp only [sp_dump, eq_false c6, eq_true c11, not_true_eq_false, not_false_eq_true, and_true, true_and, and_false, false_and, and_self, or_true, true_or, or_false, false_or, or_self, ↓reduceIte, e9]
      have L : ∀ (mm d : Nat) (n : Int32) (ls : Array Slot), d + mm = nd → du_f F t i w nd 0 0 = du_f F t i w mm d n → lv_has ls 6 [(0, .ref x), (1, .int t), (2, .int i), (3, .int w), (4, .int n), (5, .int (nI d))] → W p l e ({ frames := 0, cells := 0, slots := 0, locals := 0 }) s m [.ref x, .int t, .int i, .int w].toArray below meth c H locs 0 0 Q (F0 m 22 ls []) := by
        intro mm
        induction mm with
        | zero =>
          intro d n ls hd hs hl
          refine lv_iload S.1 S.2.1 d_MO_dump_22 (lv_at hl 5 rfl) ?_
          refine lv_aload_n S.1 S.2.1 d_MO_dump_24 rfl (lv_at hl 0 rfl) ?_
          refine mm_get (C := R_MO) (T := T_MO) (N := 22) (v := .int (I 4)) S hK.1 hw hP.2.1 rfl in_MO 4 (by decide) gw_374 rfl rfl d_MO_dump_25 ?_
          refine lv_icmp_ge (tgt := 76) S.1 S.2.1 d_MO_dump_28 (by decide) (fun c28 => ?_) (fun c28 => absurd (by rw [hnd]; exact nI_le (by omega) (by omega)) c28)
          refine lv_iconst (v := (-1)) S.1 S.2.1 d_MO_dump_76 (by decide) ?_
          exact mm_reti S.1 S.2.1 hr hlocks hA hQ hw (md_done hP (hS.trans (by rw [hs]; rfl))) (Nat.le_of_ble_eq_true rfl) (Nat.le_of_ble_eq_true rfl) d_MO_dump_77
        | succ mm ih =>
          intro d n ls hd hs hl
          refine lv_iload S.1 S.2.1 d_MO_dump_22 (lv_at hl 5 rfl) ?_
          refine lv_aload_n S.1 S.2.1 d_MO_dump_24 rfl (lv_at hl 0 rfl) ?_
          refine mm_get (C := R_MO) (T := T_MO) (N := 22) (v := .int (I 4)) S hK.1 hw hP.2.1 rfl in_MO 4 (by decide) gw_374 rfl rfl d_MO_dump_25 ?_
          refine lv_icmp_ge (tgt := 76) S.1 S.2.1 d_MO_dump_28 (by decide) (fun c28 => absurd (by rw [hnd] at c28; exact c28) (nI_ge (by omega) (by omega))) (fun c28 => ?_)
          refine lv_aload_n S.1 S.2.1 d_MO_dump_31 rfl (lv_at hl 0 rfl) ?_
          refine mm_get (C := R_MO) (T := T_MO) (N := 22) (v := .ref (g 15)) S hK.1 hw hP.2.1 rfl in_MO 21 (by decide) gw_391 rfl rfl d_MO_dump_32 ?_
          refine lv_iconst (v := 5) S.1 S.2.1 d_MO_dump_35 (by decide) ?_
          refine lv_iload S.1 S.2.1 d_MO_dump_36 (lv_at hl 5 rfl) ?_
          refine lv_imul S.1 S.2.1 d_MO_dump_38 ?_
          refine mn_iald (j := 5 * d) (n := 250) (f := F 15) S hK.1 hw 0 (mP_a (k := 15) (F := F) hP (by decide) (by decide)) rfl (by rw [show (5 : Int32) = nI 5 from rfl, pk_mul]) (by omega) (by decide) d_MO_dump_39 ?_
          refine lv_iload_n S.1 S.2.1 d_MO_dump_40 rfl (lv_at hl 1 rfl) ?_
          refine lv_icmp_eq (tgt := 47) S.1 S.2.1 d_MO_dump_41 (by decide) (fun c41 => ?_) (fun c41 => ?_)
          · refine lv_iload S.1 S.2.1 d_MO_dump_47 (lv_at hl 4 rfl) ?_
            refine lv_iload_n S.1 S.2.1 d_MO_dump_49 rfl (lv_at hl 2 rfl) ?_
            refine lv_icmp_ne (tgt := 67) S.1 S.2.1 d_MO_dump_50 (by decide) (fun c50 => ?_) (fun c50 => ?_)
            · refine lv_iinc (v := (n + 1)) (lv' := [(4, .int (n + 1)), (0, .ref x), (1, .int t), (2, .int i), (3, .int w), (5, .int (nI d))]) S.1 S.2.1 d_MO_dump_67 hl (k := 4) rfl (rfl) (by decide) rfl (fun ls hl => ?_)
              refine lv_iinc (v := (nI (d + 1))) (lv' := [(5, .int (nI (d + 1))), (4, .int (n + 1)), (0, .ref x), (1, .int t), (2, .int i), (3, .int w)]) S.1 S.2.1 d_MO_dump_70 hl (k := 5) rfl (nI_1 d) (by decide) rfl (fun ls hl => ?_)
              refine lv_goto (tgt := 22) S.1 S.2.1 d_MO_dump_73 (by decide) ?_
              exact ih (d + 1) ((n + 1)) ls (by omega) (hs.trans (by simp only [du_f, eq_true c41, eq_false c50, ↓reduceIte])) (lv_sub hl [2, 3, 4, 5, 1, 0] rfl)
            · refine lv_aload_n S.1 S.2.1 d_MO_dump_53 rfl (lv_at hl 0 rfl) ?_
              refine mm_get (C := R_MO) (T := T_MO) (N := 22) (v := .ref (g 15)) S hK.1 hw hP.2.1 rfl in_MO 21 (by decide) gw_391 rfl rfl d_MO_dump_54 ?_
              refine lv_iconst (v := 5) S.1 S.2.1 d_MO_dump_57 (by decide) ?_
              refine lv_iload S.1 S.2.1 d_MO_dump_58 (lv_at hl 5 rfl) ?_
              refine lv_imul S.1 S.2.1 d_MO_dump_60 ?_
              refine lv_iconst (v := 1) S.1 S.2.1 d_MO_dump_61 (by decide) ?_
              refine lv_iadd S.1 S.2.1 d_MO_dump_62 ?_
              refine lv_iload_n S.1 S.2.1 d_MO_dump_63 rfl (lv_at hl 3 rfl) ?_
              refine lv_iadd S.1 S.2.1 d_MO_dump_64 ?_
              refine mn_iald (j := 5 * d + 1 + cN w) (n := 250) (f := F 15) S hK.1 hw 0 (mP_a (k := 15) (F := F) hP (by decide) (by decide)) rfl (by rw [show (5 : Int32) = nI 5 from rfl, pk_mul, nI_1]; exact (congrArg (fun q => nI (5 * d + 1) + q) (cl_nI c6)).trans (nI_add _ _)) (by have := cN_le3 c6 c11; omega) (by decide) d_MO_dump_65 ?_
              exact mm_reti S.1 S.2.1 hr hlocks hA hQ hw (md_done hP (hS.trans (by rw [hs]; simp only [du_f, eq_true c41, eq_true c50, ↓reduceIte]))) (Nat.le_of_ble_eq_true rfl) (Nat.le_of_ble_eq_true rfl) d_MO_dump_66
          · refine lv_goto (tgt := 70) S.1 S.2.1 d_MO_dump_44 (by decide) ?_
            refine lv_iinc (v := (nI (d + 1))) (lv' := [(5, .int (nI (d + 1))), (0, .ref x), (1, .int t), (2, .int i), (3, .int w), (4, .int n)]) S.1 S.2.1 d_MO_dump_70 hl (k := 5) rfl (nI_1 d) (by decide) rfl (fun ls hl => ?_)
            refine lv_goto (tgt := 22) S.1 S.2.1 d_MO_dump_73 (by decide) ?_
            exact ih (d + 1) (n) ls (by omega) (hs.trans (by simp only [du_f, eq_false c41, ↓reduceIte])) (lv_sub hl [1, 2, 3, 4, 5, 0] rfl)
      exact L nd 0 0 ls (by omega) rfl (lv_sub hl [2, 3, 4, 5, 1, 0] rfl)
    · refine lv_iconst (v := (-1)) S.1 S.2.1 d_MO_dump_14 (by decide) ?_
      exact mm_reti S.1 S.2.1 hr hlocks hA hQ hw (md_done hP (show sp_dump t i w I F st = ((-1), (upd I 0 (0)), F, st) by simp only [sp_dump, eq_false c6, eq_false c11, not_true_eq_false, not_false_eq_true, and_true, true_and, and_false, false_and, and_self, or_true, true_or, or_false, false_or, or_self, ↓reduceIte])) (Nat.le_of_ble_eq_true rfl) (Nat.le_of_ble_eq_true rfl) d_MO_dump_15
end
section
def gc_a (F : sF) (t : Int32) : Nat → Int32
  | 0 => 0
  | g + 1 => gc_a F t g + (if F 12 (g + 1) = t ∧ ¬ F 14 (g + 1) ≤ 0 then 1 else 0)
def gc_b (F : sF) (t : Int32) : Nat → Int32
  | 0 => 0
  | g + 1 => gc_b F t g + (if F 12 (g + 1) = t ∧ F 14 (g + 1) = 2 then 1 else 0)
def sh5 (f : Nat → Int32) (n : Nat) : Nat → Int32 := fun j => if j < n then f (j + 5) else f j
theorem sh5_0 {f : Nat → Int32} : sh5 f 0 = f := by
  funext j
  simp [sh5]
theorem sh5_s {f : Nat → Int32} {i : Nat} : upd (sh5 f i) i (sh5 f i (i + 5)) = sh5 f (i + 1) := by
  funext j
  by_cases h : j = i
  · subst h
    rw [pk_us]
    unfold sh5
    rw [if_neg (by omega), if_pos (by omega)]
  · rw [pk_un h]
    unfold sh5
    by_cases h2 : j < i
    · rw [if_pos h2, if_pos (by omega)]
    · rw [if_neg h2, if_neg (by omega)]
def rs_ag (t k : Int32) (F : sF) : Int32 := if ¬ 1000 ≤ k ∧ ¬ 3 ≤ F 9 (cN t) then 1 else 0
def rs_F (t k : Int32) (F : sF) : sF := va_up (va_up F 9 (upd (F 9) (cN t) (F 9 (cN t) + rs_ag t k F))) 8 (upd (F 8) (cN k) (F 8 (cN k) + 1))
def rs_n (I : sI) : Nat := if I 4 = 50 then 49 else cN (I 4)
def rs_k (I : sI) (F : sF) : Nat → Int32 := if I 4 = 50 then sh5 (F 15) 245 else F 15
def sp_restart (t k : Int32) (I : sI) (F : sF) (st : sT) : sR :=
  if ¬ is_ok 40 t ∨ ¬ is_ok 9999 k then (-4, upd I 0 0, F, st)
  else if ¬ F 10 (cN k) = 0 then (rs_ag t k F, upd I 0 0, rs_F t k F, st)
  else (rs_ag t k F, upd (upd I 0 0) 4 (nI (rs_n I + 1)), va_up (rs_F t k F) 15 (upd (upd (upd (upd (upd (rs_k I F) (5 * rs_n I) t) (5 * rs_n I + 1) k) (5 * rs_n I + 2) (gc_a F t (cN (I 3)))) (5 * rs_n I + 3) (gc_b F t (cN (I 3)))) (5 * rs_n I + 4) (rs_ag t k F)), st)

theorem d_MO_restart_0 : decode b_MO_restart 0 = .ok (.aload_n 0, 1) := by decide +kernel
theorem d_MO_restart_1 : decode b_MO_restart 1 = .ok (.iconst 0, 1) := by decide +kernel
theorem d_MO_restart_2 : decode b_MO_restart 2 = .ok (.putfield 60, 3) := by decide +kernel
theorem d_MO_restart_5 : decode b_MO_restart 5 = .ok (.iload_n 1, 1) := by decide +kernel
theorem d_MO_restart_6 : decode b_MO_restart 6 = .ok (.invokestatic 84, 3) := by decide +kernel
theorem d_MO_restart_9 : decode b_MO_restart 9 = .ok (.ifCond .eq 10, 3) := by decide +kernel
theorem d_MO_restart_12 : decode b_MO_restart 12 = .ok (.iload_n 2, 1) := by decide +kernel
theorem d_MO_restart_13 : decode b_MO_restart 13 = .ok (.invokestatic 74, 3) := by decide +kernel
theorem d_MO_restart_16 : decode b_MO_restart 16 = .ok (.ifCond .ne 6, 3) := by decide +kernel
theorem d_MO_restart_19 : decode b_MO_restart 19 = .ok (.bipush (-4), 2) := by decide +kernel
theorem d_MO_restart_21 : decode b_MO_restart 21 = .ok (.ireturn, 1) := by decide +kernel
theorem d_MO_restart_22 : decode b_MO_restart 22 = .ok (.iload_n 2, 1) := by decide +kernel
theorem d_MO_restart_23 : decode b_MO_restart 23 = .ok (.sipush 1000, 3) := by decide +kernel
theorem d_MO_restart_26 : decode b_MO_restart 26 = .ok (.if_icmp .ge 17, 3) := by decide +kernel
theorem d_MO_restart_29 : decode b_MO_restart 29 = .ok (.aload_n 0, 1) := by decide +kernel
theorem d_MO_restart_30 : decode b_MO_restart 30 = .ok (.getfield 38, 3) := by decide +kernel
theorem d_MO_restart_33 : decode b_MO_restart 33 = .ok (.iload_n 1, 1) := by decide +kernel
theorem d_MO_restart_34 : decode b_MO_restart 34 = .ok (.iaload, 1) := by decide +kernel
theorem d_MO_restart_35 : decode b_MO_restart 35 = .ok (.iconst 3, 1) := by decide +kernel
theorem d_MO_restart_36 : decode b_MO_restart 36 = .ok (.if_icmp .ge 7, 3) := by decide +kernel
theorem d_MO_restart_39 : decode b_MO_restart 39 = .ok (.iconst 1, 1) := by decide +kernel
theorem d_MO_restart_40 : decode b_MO_restart 40 = .ok (.goto 4, 3) := by decide +kernel
theorem d_MO_restart_43 : decode b_MO_restart 43 = .ok (.iconst 0, 1) := by decide +kernel
theorem d_MO_restart_44 : decode b_MO_restart 44 = .ok (.istore_n 3, 1) := by decide +kernel
theorem d_MO_restart_45 : decode b_MO_restart 45 = .ok (.aload_n 0, 1) := by decide +kernel
theorem d_MO_restart_46 : decode b_MO_restart 46 = .ok (.getfield 38, 3) := by decide +kernel
theorem d_MO_restart_49 : decode b_MO_restart 49 = .ok (.iload_n 1, 1) := by decide +kernel
theorem d_MO_restart_50 : decode b_MO_restart 50 = .ok (.dup2, 1) := by decide +kernel
theorem d_MO_restart_51 : decode b_MO_restart 51 = .ok (.iaload, 1) := by decide +kernel
theorem d_MO_restart_52 : decode b_MO_restart 52 = .ok (.iload_n 3, 1) := by decide +kernel
theorem d_MO_restart_53 : decode b_MO_restart 53 = .ok (.iadd, 1) := by decide +kernel
theorem d_MO_restart_54 : decode b_MO_restart 54 = .ok (.iastore, 1) := by decide +kernel
theorem d_MO_restart_55 : decode b_MO_restart 55 = .ok (.aload_n 0, 1) := by decide +kernel
theorem d_MO_restart_56 : decode b_MO_restart 56 = .ok (.getfield 35, 3) := by decide +kernel
theorem d_MO_restart_59 : decode b_MO_restart 59 = .ok (.iload_n 2, 1) := by decide +kernel
theorem d_MO_restart_60 : decode b_MO_restart 60 = .ok (.dup2, 1) := by decide +kernel
theorem d_MO_restart_61 : decode b_MO_restart 61 = .ok (.iaload, 1) := by decide +kernel
theorem d_MO_restart_62 : decode b_MO_restart 62 = .ok (.iconst 1, 1) := by decide +kernel
theorem d_MO_restart_63 : decode b_MO_restart 63 = .ok (.iadd, 1) := by decide +kernel
theorem d_MO_restart_64 : decode b_MO_restart 64 = .ok (.iastore, 1) := by decide +kernel
theorem d_MO_restart_65 : decode b_MO_restart 65 = .ok (.aload_n 0, 1) := by decide +kernel
theorem d_MO_restart_66 : decode b_MO_restart 66 = .ok (.getfield 41, 3) := by decide +kernel
theorem d_MO_restart_69 : decode b_MO_restart 69 = .ok (.iload_n 2, 1) := by decide +kernel
theorem d_MO_restart_70 : decode b_MO_restart 70 = .ok (.baload, 1) := by decide +kernel
theorem d_MO_restart_71 : decode b_MO_restart 71 = .ok (.ifCond .eq 5, 3) := by decide +kernel
theorem d_MO_restart_74 : decode b_MO_restart 74 = .ok (.iload_n 3, 1) := by decide +kernel
theorem d_MO_restart_75 : decode b_MO_restart 75 = .ok (.ireturn, 1) := by decide +kernel
theorem d_MO_restart_76 : decode b_MO_restart 76 = .ok (.aload_n 0, 1) := by decide +kernel
theorem d_MO_restart_77 : decode b_MO_restart 77 = .ok (.getfield 87, 3) := by decide +kernel
theorem d_MO_restart_80 : decode b_MO_restart 80 = .ok (.bipush 50, 2) := by decide +kernel
theorem d_MO_restart_82 : decode b_MO_restart 82 = .ok (.if_icmp .ne 49, 3) := by decide +kernel
theorem d_MO_restart_85 : decode b_MO_restart 85 = .ok (.aload_n 0, 1) := by decide +kernel
theorem d_MO_restart_86 : decode b_MO_restart 86 = .ok (.dup, 1) := by decide +kernel
theorem d_MO_restart_87 : decode b_MO_restart 87 = .ok (.getfield 87, 3) := by decide +kernel
theorem d_MO_restart_90 : decode b_MO_restart 90 = .ok (.iconst 1, 1) := by decide +kernel
theorem d_MO_restart_91 : decode b_MO_restart 91 = .ok (.isub, 1) := by decide +kernel
theorem d_MO_restart_92 : decode b_MO_restart 92 = .ok (.putfield 87, 3) := by decide +kernel
theorem d_MO_restart_95 : decode b_MO_restart 95 = .ok (.iconst 0, 1) := by decide +kernel
theorem d_MO_restart_96 : decode b_MO_restart 96 = .ok (.istore 4, 2) := by decide +kernel
theorem d_MO_restart_98 : decode b_MO_restart 98 = .ok (.iload 4, 2) := by decide +kernel
theorem d_MO_restart_100 : decode b_MO_restart 100 = .ok (.iconst 5, 1) := by decide +kernel
theorem d_MO_restart_101 : decode b_MO_restart 101 = .ok (.aload_n 0, 1) := by decide +kernel
theorem d_MO_restart_102 : decode b_MO_restart 102 = .ok (.getfield 87, 3) := by decide +kernel
theorem d_MO_restart_105 : decode b_MO_restart 105 = .ok (.imul, 1) := by decide +kernel
theorem d_MO_restart_106 : decode b_MO_restart 106 = .ok (.if_icmp .ge 25, 3) := by decide +kernel
theorem d_MO_restart_109 : decode b_MO_restart 109 = .ok (.aload_n 0, 1) := by decide +kernel
theorem d_MO_restart_110 : decode b_MO_restart 110 = .ok (.getfield 57, 3) := by decide +kernel
theorem d_MO_restart_113 : decode b_MO_restart 113 = .ok (.iload 4, 2) := by decide +kernel
theorem d_MO_restart_115 : decode b_MO_restart 115 = .ok (.aload_n 0, 1) := by decide +kernel
theorem d_MO_restart_116 : decode b_MO_restart 116 = .ok (.getfield 57, 3) := by decide +kernel
theorem d_MO_restart_119 : decode b_MO_restart 119 = .ok (.iload 4, 2) := by decide +kernel
theorem d_MO_restart_121 : decode b_MO_restart 121 = .ok (.iconst 5, 1) := by decide +kernel
theorem d_MO_restart_122 : decode b_MO_restart 122 = .ok (.iadd, 1) := by decide +kernel
theorem d_MO_restart_123 : decode b_MO_restart 123 = .ok (.iaload, 1) := by decide +kernel
theorem d_MO_restart_124 : decode b_MO_restart 124 = .ok (.iastore, 1) := by decide +kernel
theorem d_MO_restart_125 : decode b_MO_restart 125 = .ok (.iinc 4 1, 3) := by decide +kernel
theorem d_MO_restart_128 : decode b_MO_restart 128 = .ok (.goto (-30), 3) := by decide +kernel
theorem d_MO_restart_131 : decode b_MO_restart 131 = .ok (.iconst 0, 1) := by decide +kernel
theorem d_MO_restart_132 : decode b_MO_restart 132 = .ok (.istore 4, 2) := by decide +kernel
theorem d_MO_restart_134 : decode b_MO_restart 134 = .ok (.iconst 0, 1) := by decide +kernel
theorem d_MO_restart_135 : decode b_MO_restart 135 = .ok (.istore 5, 2) := by decide +kernel
theorem d_MO_restart_137 : decode b_MO_restart 137 = .ok (.iconst 1, 1) := by decide +kernel
theorem d_MO_restart_138 : decode b_MO_restart 138 = .ok (.istore 6, 2) := by decide +kernel
theorem d_MO_restart_140 : decode b_MO_restart 140 = .ok (.iload 6, 2) := by decide +kernel
theorem d_MO_restart_142 : decode b_MO_restart 142 = .ok (.aload_n 0, 1) := by decide +kernel
theorem d_MO_restart_143 : decode b_MO_restart 143 = .ok (.getfield 90, 3) := by decide +kernel
theorem d_MO_restart_146 : decode b_MO_restart 146 = .ok (.if_icmp .gt 72, 3) := by decide +kernel
theorem d_MO_restart_149 : decode b_MO_restart 149 = .ok (.iload 4, 2) := by decide +kernel
theorem d_MO_restart_151 : decode b_MO_restart 151 = .ok (.aload_n 0, 1) := by decide +kernel
theorem d_MO_restart_152 : decode b_MO_restart 152 = .ok (.getfield 48, 3) := by decide +kernel
theorem d_MO_restart_155 : decode b_MO_restart 155 = .ok (.iload 6, 2) := by decide +kernel
theorem d_MO_restart_157 : decode b_MO_restart 157 = .ok (.iaload, 1) := by decide +kernel
theorem d_MO_restart_158 : decode b_MO_restart 158 = .ok (.iload_n 1, 1) := by decide +kernel
theorem d_MO_restart_159 : decode b_MO_restart 159 = .ok (.if_icmp .ne 17, 3) := by decide +kernel
theorem d_MO_restart_162 : decode b_MO_restart 162 = .ok (.aload_n 0, 1) := by decide +kernel
theorem d_MO_restart_163 : decode b_MO_restart 163 = .ok (.getfield 54, 3) := by decide +kernel
theorem d_MO_restart_166 : decode b_MO_restart 166 = .ok (.iload 6, 2) := by decide +kernel
theorem d_MO_restart_168 : decode b_MO_restart 168 = .ok (.iaload, 1) := by decide +kernel
theorem d_MO_restart_169 : decode b_MO_restart 169 = .ok (.ifCond .le 7, 3) := by decide +kernel
theorem d_MO_restart_172 : decode b_MO_restart 172 = .ok (.iconst 1, 1) := by decide +kernel
theorem d_MO_restart_173 : decode b_MO_restart 173 = .ok (.goto 4, 3) := by decide +kernel
theorem d_MO_restart_176 : decode b_MO_restart 176 = .ok (.iconst 0, 1) := by decide +kernel
theorem d_MO_restart_177 : decode b_MO_restart 177 = .ok (.iadd, 1) := by decide +kernel
theorem d_MO_restart_178 : decode b_MO_restart 178 = .ok (.istore 4, 2) := by decide +kernel
theorem d_MO_restart_180 : decode b_MO_restart 180 = .ok (.iload 5, 2) := by decide +kernel
theorem d_MO_restart_182 : decode b_MO_restart 182 = .ok (.aload_n 0, 1) := by decide +kernel
theorem d_MO_restart_183 : decode b_MO_restart 183 = .ok (.getfield 48, 3) := by decide +kernel
theorem d_MO_restart_186 : decode b_MO_restart 186 = .ok (.iload 6, 2) := by decide +kernel
theorem d_MO_restart_188 : decode b_MO_restart 188 = .ok (.iaload, 1) := by decide +kernel
theorem d_MO_restart_189 : decode b_MO_restart 189 = .ok (.iload_n 1, 1) := by decide +kernel
theorem d_MO_restart_190 : decode b_MO_restart 190 = .ok (.if_icmp .ne 18, 3) := by decide +kernel
theorem d_MO_restart_193 : decode b_MO_restart 193 = .ok (.aload_n 0, 1) := by decide +kernel
theorem d_MO_restart_194 : decode b_MO_restart 194 = .ok (.getfield 54, 3) := by decide +kernel
theorem d_MO_restart_197 : decode b_MO_restart 197 = .ok (.iload 6, 2) := by decide +kernel
theorem d_MO_restart_199 : decode b_MO_restart 199 = .ok (.iaload, 1) := by decide +kernel
theorem d_MO_restart_200 : decode b_MO_restart 200 = .ok (.iconst 2, 1) := by decide +kernel
theorem d_MO_restart_201 : decode b_MO_restart 201 = .ok (.if_icmp .ne 7, 3) := by decide +kernel
theorem d_MO_restart_204 : decode b_MO_restart 204 = .ok (.iconst 1, 1) := by decide +kernel
theorem d_MO_restart_205 : decode b_MO_restart 205 = .ok (.goto 4, 3) := by decide +kernel
theorem d_MO_restart_208 : decode b_MO_restart 208 = .ok (.iconst 0, 1) := by decide +kernel
theorem d_MO_restart_209 : decode b_MO_restart 209 = .ok (.iadd, 1) := by decide +kernel
theorem d_MO_restart_210 : decode b_MO_restart 210 = .ok (.istore 5, 2) := by decide +kernel
theorem d_MO_restart_212 : decode b_MO_restart 212 = .ok (.iinc 6 1, 3) := by decide +kernel
theorem d_MO_restart_215 : decode b_MO_restart 215 = .ok (.goto (-75), 3) := by decide +kernel
theorem d_MO_restart_218 : decode b_MO_restart 218 = .ok (.aload_n 0, 1) := by decide +kernel
theorem d_MO_restart_219 : decode b_MO_restart 219 = .ok (.getfield 57, 3) := by decide +kernel
theorem d_MO_restart_222 : decode b_MO_restart 222 = .ok (.iconst 5, 1) := by decide +kernel
theorem d_MO_restart_223 : decode b_MO_restart 223 = .ok (.aload_n 0, 1) := by decide +kernel
theorem d_MO_restart_224 : decode b_MO_restart 224 = .ok (.getfield 87, 3) := by decide +kernel
theorem d_MO_restart_227 : decode b_MO_restart 227 = .ok (.imul, 1) := by decide +kernel
theorem d_MO_restart_228 : decode b_MO_restart 228 = .ok (.iload_n 1, 1) := by decide +kernel
theorem d_MO_restart_229 : decode b_MO_restart 229 = .ok (.iastore, 1) := by decide +kernel
theorem d_MO_restart_230 : decode b_MO_restart 230 = .ok (.aload_n 0, 1) := by decide +kernel
theorem d_MO_restart_231 : decode b_MO_restart 231 = .ok (.getfield 57, 3) := by decide +kernel
theorem d_MO_restart_234 : decode b_MO_restart 234 = .ok (.iconst 5, 1) := by decide +kernel
theorem d_MO_restart_235 : decode b_MO_restart 235 = .ok (.aload_n 0, 1) := by decide +kernel
theorem d_MO_restart_236 : decode b_MO_restart 236 = .ok (.getfield 87, 3) := by decide +kernel
theorem d_MO_restart_239 : decode b_MO_restart 239 = .ok (.imul, 1) := by decide +kernel
theorem d_MO_restart_240 : decode b_MO_restart 240 = .ok (.iconst 1, 1) := by decide +kernel
theorem d_MO_restart_241 : decode b_MO_restart 241 = .ok (.iadd, 1) := by decide +kernel
theorem d_MO_restart_242 : decode b_MO_restart 242 = .ok (.iload_n 2, 1) := by decide +kernel
theorem d_MO_restart_243 : decode b_MO_restart 243 = .ok (.iastore, 1) := by decide +kernel
theorem d_MO_restart_244 : decode b_MO_restart 244 = .ok (.aload_n 0, 1) := by decide +kernel
theorem d_MO_restart_245 : decode b_MO_restart 245 = .ok (.getfield 57, 3) := by decide +kernel
theorem d_MO_restart_248 : decode b_MO_restart 248 = .ok (.iconst 5, 1) := by decide +kernel
theorem d_MO_restart_249 : decode b_MO_restart 249 = .ok (.aload_n 0, 1) := by decide +kernel
theorem d_MO_restart_250 : decode b_MO_restart 250 = .ok (.getfield 87, 3) := by decide +kernel
theorem d_MO_restart_253 : decode b_MO_restart 253 = .ok (.imul, 1) := by decide +kernel
theorem d_MO_restart_254 : decode b_MO_restart 254 = .ok (.iconst 2, 1) := by decide +kernel
theorem d_MO_restart_255 : decode b_MO_restart 255 = .ok (.iadd, 1) := by decide +kernel
theorem d_MO_restart_256 : decode b_MO_restart 256 = .ok (.iload 4, 2) := by decide +kernel
theorem d_MO_restart_258 : decode b_MO_restart 258 = .ok (.iastore, 1) := by decide +kernel
theorem d_MO_restart_259 : decode b_MO_restart 259 = .ok (.aload_n 0, 1) := by decide +kernel
theorem d_MO_restart_260 : decode b_MO_restart 260 = .ok (.getfield 57, 3) := by decide +kernel
theorem d_MO_restart_263 : decode b_MO_restart 263 = .ok (.iconst 5, 1) := by decide +kernel
theorem d_MO_restart_264 : decode b_MO_restart 264 = .ok (.aload_n 0, 1) := by decide +kernel
theorem d_MO_restart_265 : decode b_MO_restart 265 = .ok (.getfield 87, 3) := by decide +kernel
theorem d_MO_restart_268 : decode b_MO_restart 268 = .ok (.imul, 1) := by decide +kernel
theorem d_MO_restart_269 : decode b_MO_restart 269 = .ok (.iconst 3, 1) := by decide +kernel
theorem d_MO_restart_270 : decode b_MO_restart 270 = .ok (.iadd, 1) := by decide +kernel
theorem d_MO_restart_271 : decode b_MO_restart 271 = .ok (.iload 5, 2) := by decide +kernel
theorem d_MO_restart_273 : decode b_MO_restart 273 = .ok (.iastore, 1) := by decide +kernel
theorem d_MO_restart_274 : decode b_MO_restart 274 = .ok (.aload_n 0, 1) := by decide +kernel
theorem d_MO_restart_275 : decode b_MO_restart 275 = .ok (.getfield 57, 3) := by decide +kernel
theorem d_MO_restart_278 : decode b_MO_restart 278 = .ok (.iconst 5, 1) := by decide +kernel
theorem d_MO_restart_279 : decode b_MO_restart 279 = .ok (.aload_n 0, 1) := by decide +kernel
theorem d_MO_restart_280 : decode b_MO_restart 280 = .ok (.getfield 87, 3) := by decide +kernel
theorem d_MO_restart_283 : decode b_MO_restart 283 = .ok (.imul, 1) := by decide +kernel
theorem d_MO_restart_284 : decode b_MO_restart 284 = .ok (.iconst 4, 1) := by decide +kernel
theorem d_MO_restart_285 : decode b_MO_restart 285 = .ok (.iadd, 1) := by decide +kernel
theorem d_MO_restart_286 : decode b_MO_restart 286 = .ok (.iload_n 3, 1) := by decide +kernel
theorem d_MO_restart_287 : decode b_MO_restart 287 = .ok (.iastore, 1) := by decide +kernel
theorem d_MO_restart_288 : decode b_MO_restart 288 = .ok (.aload_n 0, 1) := by decide +kernel
theorem d_MO_restart_289 : decode b_MO_restart 289 = .ok (.dup, 1) := by decide +kernel
theorem d_MO_restart_290 : decode b_MO_restart 290 = .ok (.getfield 87, 3) := by decide +kernel
theorem d_MO_restart_293 : decode b_MO_restart 293 = .ok (.iconst 1, 1) := by decide +kernel
theorem d_MO_restart_294 : decode b_MO_restart 294 = .ok (.iadd, 1) := by decide +kernel
theorem d_MO_restart_295 : decode b_MO_restart 295 = .ok (.putfield 87, 3) := by decide +kernel
theorem d_MO_restart_298 : decode b_MO_restart 298 = .ok (.iload_n 3, 1) := by decide +kernel
theorem d_MO_restart_299 : decode b_MO_restart 299 = .ok (.ireturn, 1) := by decide +kernel
set_option maxHeartbeats 4000000 in
set_option maxRecDepth 100000 in
theorem c_MO_restart (l : Launch) (D : va_G) (dA : Nat → ClassId) (M : mm_M) (x : Nat) (g : Nat → Nat) (I : sI) (F : sF) (st : sT) (t k : Int32) (nd ng : Nat) (hnd : I 4 = nI nd) (hND : nd ≤ 50) (hng : I 3 = nI ng) (hNG : ng ≤ 60) (hP : mP dA M x g I F st) : mm_Ci l y_MO_restart w_MO_restart ({ frames := 1, cells := 0, slots := 0, locals := 20 }) 0 0 D vC (tyL dA) [.ref x, .int t, .int k] M (md_post dA x g (sp_restart t k I F st)) := by
  intro sz
  refine mm_start (by decide) (Nat.le_of_ble_eq_true rfl) ?_
  intro p e s m below meth c A Q ls hA hQ S hr hlocks hin hK hw hl
  have hl : lv_has ls 7 [(0, .ref x), (1, .int t), (2, .int k)] := hl
  refine lv_aload_n S.1 S.2.1 d_MO_restart_0 rfl (lv_at hl 0 rfl) ?_
  refine lv_iconst (v := 0) S.1 S.2.1 d_MO_restart_1 (by decide) ?_
  refine mm_put (C := R_MO) (T := T_MO) (N := 22) (ty := .int) (v := .int 0) S hK.1 hw hP.2.1 rfl in_MO t_MO k_MO n_MO 0 (by decide) gw_370 rfl rfl (by decide +kernel) rfl rfl (Nat.le_of_ble_eq_true rfl) d_MO_restart_2 (fun H locs hw => ?_)
  obtain ⟨M, hw, hP⟩ := md_puti (k := 0) (v := 0) (by decide) hw hP
  refine lv_iload_n S.1 S.2.1 d_MO_restart_5 rfl (lv_at hl 1 rfl) ?_
  refine mm_calli hw (mm_runS (As := [.int t]) (rest := []) S hK hw (c_MO_isTask l D dA _ t _) bs_MO_isTask gw_481 (⟨rfl, rfl, by decide, by decide, by decide, by decide⟩) hl.1 rfl rfl (Nat.le_of_ble_eq_true rfl) d_MO_restart_6) (fun r1 M2 H locs hp hw => ?_)
  rw [hp.1] at hw
  rcases hp.2 with ⟨rfl, hc3⟩ | ⟨rfl, hc3⟩
  · obtain ⟨j4, ekj4, hlj4, hhj4, enj4⟩ := is_of (N := 40) rfl (by omega) hc3
    refine lv_if_eq (tgt := 19) S.1 S.2.1 d_MO_restart_9 (by decide) (fun c9 => absurd c9 (by decide)) (fun c9 => ?_)
    refine lv_iload_n S.1 S.2.1 d_MO_restart_12 rfl (lv_at hl 2 rfl) ?_
    refine mm_calli hw (mm_runS (As := [.int k]) (rest := []) S hK hw (c_MO_isCode l D dA _ k _) bs_MO_isCode gw_458 (⟨rfl, rfl, by decide, by decide, by decide, by decide⟩) hl.1 rfl rfl (Nat.le_of_ble_eq_true rfl) d_MO_restart_13) (fun r5 M6 H locs hp hw => ?_)
    rw [hp.1] at hw
    rcases hp.2 with ⟨rfl, hc7⟩ | ⟨rfl, hc7⟩
    · obtain ⟨j8, ekj8, hlj8, hhj8, enj8⟩ := is_of (N := 9999) rfl (by omega) hc7
      refine lv_if_ne (tgt := 22) S.1 S.2.1 d_MO_restart_16 (by decide) (fun c16 => ?_) (fun c16 => absurd c16 (by decide))
      have J : ∀ (ls : Array Slot), lv_has ls 7 [(3, .int (rs_ag t k F)), (0, .ref x), (1, .int t), (2, .int k)] → W p l e ({ frames := 1, cells := 0, slots := 0, locals := 20 }) s m [.ref x, .int t, .int k].toArray below meth c H locs 0 0 Q (F0 m 45 ls []) := by
        intro ls hl
        refine lv_aload_n S.1 S.2.1 d_MO_restart_45 rfl (lv_at hl 1 rfl) ?_
        refine mm_get (C := R_MO) (T := T_MO) (N := 22) (v := .ref (g 9)) S hK.1 hw hP.2.1 rfl in_MO 15 (by decide) gw_385 rfl rfl d_MO_restart_46 ?_
        refine lv_iload_n S.1 S.2.1 d_MO_restart_49 rfl (lv_at hl 2 rfl) ?_
        refine lv_dup2_11 S.1 S.2.1 d_MO_restart_50 rfl rfl ?_
        refine mn_iald (j := cN t) (n := 41) (f := F 9) S hK.1 hw 0 (mP_a (k := 9) (F := F) hP (by decide) (by decide)) rfl (cl_nI (is_le0 hc3.1)) (by rw [cN, enj4]; omega) (by decide) d_MO_restart_51 ?_
        refine lv_iload_n S.1 S.2.1 d_MO_restart_52 rfl (lv_at hl 0 rfl) ?_
        refine lv_iadd S.1 S.2.1 d_MO_restart_53 ?_
        refine mn_iast (j := cN t) (n := 41) (f := F 9) S hK.1 hw 0 (mP_a (k := 9) (F := F) hP (by decide) (by decide)) rfl (cl_nI (is_le0 hc3.1)) (by rw [cN, enj4]; omega) (by decide) d_MO_restart_54 (fun H locs hw => ?_)
        obtain ⟨M, hw, hP⟩ := md_ast (k := 9) (j := cN t) (v := ((F 9 (cN t)) + (rs_ag t k F))) (F := F) (by decide) (by decide) hw hP
        refine lv_aload_n S.1 S.2.1 d_MO_restart_55 rfl (lv_at hl 1 rfl) ?_
        refine mm_get (C := R_MO) (T := T_MO) (N := 22) (v := .ref (g 8)) S hK.1 hw hP.2.1 rfl in_MO 14 (by decide) gw_384 rfl rfl d_MO_restart_56 ?_
        refine lv_iload_n S.1 S.2.1 d_MO_restart_59 rfl (lv_at hl 3 rfl) ?_
        refine lv_dup2_11 S.1 S.2.1 d_MO_restart_60 rfl rfl ?_
        refine mn_iald (j := cN k) (n := 10000) (f := F 8) S hK.1 hw 0 (mP_a (k := 8) (F := (va_up F 9 (upd (F 9) (cN t) (((F 9 (cN t)) + (rs_ag t k F)))))) hP (by decide) (by decide)) rfl (cl_nI (is_le0 hc7.1)) (by rw [cN, enj8]; omega) (by decide) d_MO_restart_61 ?_
        refine lv_iconst (v := 1) S.1 S.2.1 d_MO_restart_62 (by decide) ?_
        refine lv_iadd S.1 S.2.1 d_MO_restart_63 ?_
        refine mn_iast (j := cN k) (n := 10000) (f := F 8) S hK.1 hw 0 (mP_a (k := 8) (F := (va_up F 9 (upd (F 9) (cN t) (((F 9 (cN t)) + (rs_ag t k F)))))) hP (by decide) (by decide)) rfl (cl_nI (is_le0 hc7.1)) (by rw [cN, enj8]; omega) (by decide) d_MO_restart_64 (fun H locs hw => ?_)
        obtain ⟨M, hw, hP⟩ := md_ast (k := 8) (j := cN k) (v := ((F 8 (cN k)) + 1)) (F := (va_up F 9 (upd (F 9) (cN t) (((F 9 (cN t)) + (rs_ag t k F)))))) (by decide) (by decide) hw hP
        refine lv_aload_n S.1 S.2.1 d_MO_restart_65 rfl (lv_at hl 1 rfl) ?_
        refine mm_get (C := R_MO) (T := T_MO) (N := 22) (v := .ref (g 10)) S hK.1 hw hP.2.1 rfl in_MO 16 (by decide) gw_386 rfl rfl d_MO_restart_66 ?_
        refine lv_iload_n S.1 S.2.1 d_MO_restart_69 rfl (lv_at hl 3 rfl) ?_
        refine mn_zald (j := cN k) (n := 10000) (f := F 10) S hK.1 hw 2 (mP_a (k := 10) (F := (va_up (va_up F 9 (upd (F 9) (cN t) (((F 9 (cN t)) + (rs_ag t k F))))) 8 (upd (F 8) (cN k) (((F 8 (cN k)) + 1))))) hP (by decide) (by decide)) rfl (cl_nI (is_le0 hc7.1)) (by rw [cN, enj8]; omega) (by decide) d_MO_restart_70 ?_
        refine lv_if_eq (tgt := 76) S.1 S.2.1 d_MO_restart_71 (by decide) (fun c71 => ?_) (fun c71 => ?_)
        · have hn49 : rs_n I ≤ 49 := by
            unfold rs_n
            split
            · exact Nat.le_refl _
            · rename_i h9
              rw [hnd, cN, nI_clamp (by omega)]
              rcases Nat.lt_or_ge nd 50 with q | q
              · omega
              · exact absurd (by rw [hnd, show nd = 50 by omega]; rfl) h9
          have J2 : ∀ (I2 : sI) (M : mm_M) (H : Heap) (locs : List Loc) (ls : Array Slot), mm_w D vC A s.heap M H locs → mP dA M x g I2 (va_up (rs_F t k F) 15 (rs_k I F)) st → I2 4 = nI (rs_n I) → I2 3 = I 3 → upd I2 4 (nI (rs_n I + 1)) = upd (upd I 0 0) 4 (nI (rs_n I + 1)) → lv_has ls 7 [(3, .int (rs_ag t k F)), (0, .ref x), (1, .int t), (2, .int k)] → W p l e ({ frames := 1, cells := 0, slots := 0, locals := 20 }) s m [.ref x, .int t, .int k].toArray below meth c H locs 0 0 Q (F0 m 131 ls []) := by
            intro I2 M H locs ls hw hP hI4 hI3 hI9 hl
            refine lv_iconst (v := 0) S.1 S.2.1 d_MO_restart_131 (by decide) ?_
            refine lv_istore (lv' := [(4, .int 0), (3, .int (rs_ag t k F)), (0, .ref x), (1, .int t), (2, .int k)]) S.1 S.2.1 d_MO_restart_132 hl (by decide) rfl (fun ls hl => ?_)
            refine lv_iconst (v := 0) S.1 S.2.1 d_MO_restart_134 (by decide) ?_
            refine lv_istore (lv' := [(5, .int 0), (4, .int 0), (3, .int (rs_ag t k F)), (0, .ref x), (1, .int t), (2, .int k)]) S.1 S.2.1 d_MO_restart_135 hl (by decide) rfl (fun ls hl => ?_)
            refine lv_iconst (v := 1) S.1 S.2.1 d_MO_restart_137 (by decide) ?_
            refine lv_istore (lv' := [(6, .int 1), (5, .int 0), (4, .int 0), (3, .int (rs_ag t k F)), (0, .ref x), (1, .int t), (2, .int k)]) S.1 S.2.1 d_MO_restart_138 hl (by decide) rfl (fun ls hl => ?_)
            have L : ∀ (mm j : Nat) (ls : Array Slot), j + mm = ng → lv_has ls 7 [(6, .int (nI (j + 1))), (5, .int (gc_b F t j)), (4, .int (gc_a F t j)), (3, .int (rs_ag t k F)), (0, .ref x), (1, .int t), (2, .int k)] → W p l e ({ frames := 1, cells := 0, slots := 0, locals := 20 }) s m [.ref x, .int t, .int k].toArray below meth c H locs 0 0 Q (F0 m 140 ls []) := by
              intro mm
              induction mm with
              | zero =>
                intro j ls hj hl
                refine lv_iload S.1 S.2.1 d_MO_restart_140 (lv_at hl 0 rfl) ?_
                refine lv_aload_n S.1 S.2.1 d_MO_restart_142 rfl (lv_at hl 4 rfl) ?_
                refine mm_get (C := R_MO) (T := T_MO) (N := 22) (v := .int (I2 3)) S hK.1 hw hP.2.1 rfl in_MO 3 (by decide) gw_373 rfl rfl d_MO_restart_143 ?_
                refine lv_icmp_gt (tgt := 218) S.1 S.2.1 d_MO_restart_146 (by decide) (fun c146 => ?_) (fun c146 => absurd (by rw [hI3, hng]; exact nI_lt (by omega) (by omega)) c146)
                obtain rfl : j = ng := by omega
                have e5 : 5 * I2 4 = nI (5 * rs_n I) := by rw [hI4, show (5 : Int32) = nI 5 from rfl, pk_mul]
                refine lv_aload_n S.1 S.2.1 d_MO_restart_218 rfl (lv_at hl 4 rfl) ?_
                refine mm_get (C := R_MO) (T := T_MO) (N := 22) (v := .ref (g 15)) S hK.1 hw hP.2.1 rfl in_MO 21 (by decide) gw_391 rfl rfl d_MO_restart_219 ?_
                refine lv_iconst (v := 5) S.1 S.2.1 d_MO_restart_222 (by decide) ?_
                refine lv_aload_n S.1 S.2.1 d_MO_restart_223 rfl (lv_at hl 4 rfl) ?_
                refine mm_get (C := R_MO) (T := T_MO) (N := 22) (v := .int (I2 4)) S hK.1 hw hP.2.1 rfl in_MO 4 (by decide) gw_374 rfl rfl d_MO_restart_224 ?_
                refine lv_imul S.1 S.2.1 d_MO_restart_227 ?_
                refine lv_iload_n S.1 S.2.1 d_MO_restart_228 rfl (lv_at hl 5 rfl) ?_
                refine mn_iast (j := 5 * rs_n I) (n := 250) (f := rs_k I F) S hK.1 hw 0 (mP_a (k := 15) (F := (va_up (rs_F t k F) 15 (rs_k I F))) hP (by decide) (by decide)) rfl (e5) (by omega) (by decide) d_MO_restart_229 (fun H locs hw => ?_)
                obtain ⟨M, hw, hP⟩ := md_ast (k := 15) (j := 5 * rs_n I) (v := t) (F := (va_up (rs_F t k F) 15 (rs_k I F))) (by decide) (by decide) hw hP
                refine lv_aload_n S.1 S.2.1 d_MO_restart_230 rfl (lv_at hl 4 rfl) ?_
                refine mm_get (C := R_MO) (T := T_MO) (N := 22) (v := .ref (g 15)) S hK.1 hw hP.2.1 rfl in_MO 21 (by decide) gw_391 rfl rfl d_MO_restart_231 ?_
                refine lv_iconst (v := 5) S.1 S.2.1 d_MO_restart_234 (by decide) ?_
                refine lv_aload_n S.1 S.2.1 d_MO_restart_235 rfl (lv_at hl 4 rfl) ?_
                refine mm_get (C := R_MO) (T := T_MO) (N := 22) (v := .int (I2 4)) S hK.1 hw hP.2.1 rfl in_MO 4 (by decide) gw_374 rfl rfl d_MO_restart_236 ?_
                refine lv_imul S.1 S.2.1 d_MO_restart_239 ?_
                refine lv_iconst (v := 1) S.1 S.2.1 d_MO_restart_240 (by decide) ?_
                refine lv_iadd S.1 S.2.1 d_MO_restart_241 ?_
                refine lv_iload_n S.1 S.2.1 d_MO_restart_242 rfl (lv_at hl 6 rfl) ?_
                refine mn_iast (j := 5 * rs_n I + 1) (n := 250) (f := upd (rs_k I F) (5 * rs_n I) (t)) S hK.1 hw 0 (mP_a (k := 15) (F := (va_up (va_up (rs_F t k F) 15 (rs_k I F)) 15 (upd (rs_k I F) (5 * rs_n I) (t)))) hP (by decide) (by decide)) rfl (by rw [e5]; exact nI_add _ 1) (by omega) (by decide) d_MO_restart_243 (fun H locs hw => ?_)
                obtain ⟨M, hw, hP⟩ := md_ast (k := 15) (j := 5 * rs_n I + 1) (v := k) (F := (va_up (va_up (rs_F t k F) 15 (rs_k I F)) 15 (upd (rs_k I F) (5 * rs_n I) (t)))) (by decide) (by decide) hw hP
                refine lv_aload_n S.1 S.2.1 d_MO_restart_244 rfl (lv_at hl 4 rfl) ?_
                refine mm_get (C := R_MO) (T := T_MO) (N := 22) (v := .ref (g 15)) S hK.1 hw hP.2.1 rfl in_MO 21 (by decide) gw_391 rfl rfl d_MO_restart_245 ?_
                refine lv_iconst (v := 5) S.1 S.2.1 d_MO_restart_248 (by decide) ?_
                refine lv_aload_n S.1 S.2.1 d_MO_restart_249 rfl (lv_at hl 4 rfl) ?_
                refine mm_get (C := R_MO) (T := T_MO) (N := 22) (v := .int (I2 4)) S hK.1 hw hP.2.1 rfl in_MO 4 (by decide) gw_374 rfl rfl d_MO_restart_250 ?_
                refine lv_imul S.1 S.2.1 d_MO_restart_253 ?_
                refine lv_iconst (v := 2) S.1 S.2.1 d_MO_restart_254 (by decide) ?_
                refine lv_iadd S.1 S.2.1 d_MO_restart_255 ?_
                refine lv_iload S.1 S.2.1 d_MO_restart_256 (lv_at hl 2 rfl) ?_
                refine mn_iast (j := 5 * rs_n I + 2) (n := 250) (f := upd (upd (rs_k I F) (5 * rs_n I) (t)) (5 * rs_n I + 1) (k)) S hK.1 hw 0 (mP_a (k := 15) (F := (va_up (va_up (va_up (rs_F t k F) 15 (rs_k I F)) 15 (upd (rs_k I F) (5 * rs_n I) (t))) 15 (upd (upd (rs_k I F) (5 * rs_n I) (t)) (5 * rs_n I + 1) (k)))) hP (by decide) (by decide)) rfl (by rw [e5]; exact nI_add _ 2) (by omega) (by decide) d_MO_restart_258 (fun H locs hw => ?_)
                obtain ⟨M, hw, hP⟩ := md_ast (k := 15) (j := 5 * rs_n I + 2) (v := (gc_a F t j)) (F := (va_up (va_up (va_up (rs_F t k F) 15 (rs_k I F)) 15 (upd (rs_k I F) (5 * rs_n I) (t))) 15 (upd (upd (rs_k I F) (5 * rs_n I) (t)) (5 * rs_n I + 1) (k)))) (by decide) (by decide) hw hP
                refine lv_aload_n S.1 S.2.1 d_MO_restart_259 rfl (lv_at hl 4 rfl) ?_
                refine mm_get (C := R_MO) (T := T_MO) (N := 22) (v := .ref (g 15)) S hK.1 hw hP.2.1 rfl in_MO 21 (by decide) gw_391 rfl rfl d_MO_restart_260 ?_
                refine lv_iconst (v := 5) S.1 S.2.1 d_MO_restart_263 (by decide) ?_
                refine lv_aload_n S.1 S.2.1 d_MO_restart_264 rfl (lv_at hl 4 rfl) ?_
                refine mm_get (C := R_MO) (T := T_MO) (N := 22) (v := .int (I2 4)) S hK.1 hw hP.2.1 rfl in_MO 4 (by decide) gw_374 rfl rfl d_MO_restart_265 ?_
                refine lv_imul S.1 S.2.1 d_MO_restart_268 ?_
                refine lv_iconst (v := 3) S.1 S.2.1 d_MO_restart_269 (by decide) ?_
                refine lv_iadd S.1 S.2.1 d_MO_restart_270 ?_
                refine lv_iload S.1 S.2.1 d_MO_restart_271 (lv_at hl 1 rfl) ?_
                refine mn_iast (j := 5 * rs_n I + 3) (n := 250) (f := upd (upd (upd (rs_k I F) (5 * rs_n I) (t)) (5 * rs_n I + 1) (k)) (5 * rs_n I + 2) ((gc_a F t j))) S hK.1 hw 0 (mP_a (k := 15) (F := (va_up (va_up (va_up (va_up (rs_F t k F) 15 (rs_k I F)) 15 (upd (rs_k I F) (5 * rs_n I) (t))) 15 (upd (upd (rs_k I F) (5 * rs_n I) (t)) (5 * rs_n I + 1) (k))) 15 (upd (upd (upd (rs_k I F) (5 * rs_n I) (t)) (5 * rs_n I + 1) (k)) (5 * rs_n I + 2) ((gc_a F t j))))) hP (by decide) (by decide)) rfl (by rw [e5]; exact nI_add _ 3) (by omega) (by decide) d_MO_restart_273 (fun H locs hw => ?_)
                obtain ⟨M, hw, hP⟩ := md_ast (k := 15) (j := 5 * rs_n I + 3) (v := (gc_b F t j)) (F := (va_up (va_up (va_up (va_up (rs_F t k F) 15 (rs_k I F)) 15 (upd (rs_k I F) (5 * rs_n I) (t))) 15 (upd (upd (rs_k I F) (5 * rs_n I) (t)) (5 * rs_n I + 1) (k))) 15 (upd (upd (upd (rs_k I F) (5 * rs_n I) (t)) (5 * rs_n I + 1) (k)) (5 * rs_n I + 2) ((gc_a F t j))))) (by decide) (by decide) hw hP
                refine lv_aload_n S.1 S.2.1 d_MO_restart_274 rfl (lv_at hl 4 rfl) ?_
                refine mm_get (C := R_MO) (T := T_MO) (N := 22) (v := .ref (g 15)) S hK.1 hw hP.2.1 rfl in_MO 21 (by decide) gw_391 rfl rfl d_MO_restart_275 ?_
                refine lv_iconst (v := 5) S.1 S.2.1 d_MO_restart_278 (by decide) ?_
                refine lv_aload_n S.1 S.2.1 d_MO_restart_279 rfl (lv_at hl 4 rfl) ?_
                refine mm_get (C := R_MO) (T := T_MO) (N := 22) (v := .int (I2 4)) S hK.1 hw hP.2.1 rfl in_MO 4 (by decide) gw_374 rfl rfl d_MO_restart_280 ?_
                refine lv_imul S.1 S.2.1 d_MO_restart_283 ?_
                refine lv_iconst (v := 4) S.1 S.2.1 d_MO_restart_284 (by decide) ?_
                refine lv_iadd S.1 S.2.1 d_MO_restart_285 ?_
                refine lv_iload_n S.1 S.2.1 d_MO_restart_286 rfl (lv_at hl 3 rfl) ?_
                refine mn_iast (j := 5 * rs_n I + 4) (n := 250) (f := upd (upd (upd (upd (rs_k I F) (5 * rs_n I) (t)) (5 * rs_n I + 1) (k)) (5 * rs_n I + 2) ((gc_a F t j))) (5 * rs_n I + 3) ((gc_b F t j))) S hK.1 hw 0 (mP_a (k := 15) (F := (va_up (va_up (va_up (va_up (va_up (rs_F t k F) 15 (rs_k I F)) 15 (upd (rs_k I F) (5 * rs_n I) (t))) 15 (upd (upd (rs_k I F) (5 * rs_n I) (t)) (5 * rs_n I + 1) (k))) 15 (upd (upd (upd (rs_k I F) (5 * rs_n I) (t)) (5 * rs_n I + 1) (k)) (5 * rs_n I + 2) ((gc_a F t j)))) 15 (upd (upd (upd (upd (rs_k I F) (5 * rs_n I) (t)) (5 * rs_n I + 1) (k)) (5 * rs_n I + 2) ((gc_a F t j))) (5 * rs_n I + 3) ((gc_b F t j))))) hP (by decide) (by decide)) rfl (by rw [e5]; exact nI_add _ 4) (by omega) (by decide) d_MO_restart_287 (fun H locs hw => ?_)
                obtain ⟨M, hw, hP⟩ := md_ast (k := 15) (j := 5 * rs_n I + 4) (v := (rs_ag t k F)) (F := (va_up (va_up (va_up (va_up (va_up (rs_F t k F) 15 (rs_k I F)) 15 (upd (rs_k I F) (5 * rs_n I) (t))) 15 (upd (upd (rs_k I F) (5 * rs_n I) (t)) (5 * rs_n I + 1) (k))) 15 (upd (upd (upd (rs_k I F) (5 * rs_n I) (t)) (5 * rs_n I + 1) (k)) (5 * rs_n I + 2) ((gc_a F t j)))) 15 (upd (upd (upd (upd (rs_k I F) (5 * rs_n I) (t)) (5 * rs_n I + 1) (k)) (5 * rs_n I + 2) ((gc_a F t j))) (5 * rs_n I + 3) ((gc_b F t j))))) (by decide) (by decide) hw hP
                refine lv_aload_n S.1 S.2.1 d_MO_restart_288 rfl (lv_at hl 4 rfl) ?_
                refine lv_dup S.1 S.2.1 d_MO_restart_289 rfl ?_
                refine mm_get (C := R_MO) (T := T_MO) (N := 22) (v := .int (I2 4)) S hK.1 hw hP.2.1 rfl in_MO 4 (by decide) gw_374 rfl rfl d_MO_restart_290 ?_
                refine lv_iconst (v := 1) S.1 S.2.1 d_MO_restart_293 (by decide) ?_
                refine lv_iadd S.1 S.2.1 d_MO_restart_294 ?_
                refine mm_put (C := R_MO) (T := T_MO) (N := 22) (ty := .int) (v := .int ((I2 4) + 1)) S hK.1 hw hP.2.1 rfl in_MO t_MO k_MO n_MO 4 (by decide) gw_374 rfl rfl (by decide +kernel) rfl rfl (Nat.le_of_ble_eq_true rfl) d_MO_restart_295 (fun H locs hw => ?_)
                obtain ⟨M, hw, hP⟩ := md_puti (k := 4) (v := ((I2 4) + 1)) (by decide) hw hP
                refine lv_iload_n S.1 S.2.1 d_MO_restart_298 rfl (lv_at hl 3 rfl) ?_
                exact mm_reti S.1 S.2.1 hr hlocks hA hQ hw (md_done hP (show sp_restart t k I F st = ((rs_ag t k F), (upd I2 4 (((I2 4) + 1))), (va_up (va_up (va_up (va_up (va_up (va_up (rs_F t k F) 15 (rs_k I F)) 15 (upd (rs_k I F) (5 * rs_n I) (t))) 15 (upd (upd (rs_k I F) (5 * rs_n I) (t)) (5 * rs_n I + 1) (k))) 15 (upd (upd (upd (rs_k I F) (5 * rs_n I) (t)) (5 * rs_n I + 1) (k)) (5 * rs_n I + 2) ((gc_a F t j)))) 15 (upd (upd (upd (upd (rs_k I F) (5 * rs_n I) (t)) (5 * rs_n I + 1) (k)) (5 * rs_n I + 2) ((gc_a F t j))) (5 * rs_n I + 3) ((gc_b F t j)))) 15 (upd (upd (upd (upd (upd (rs_k I F) (5 * rs_n I) (t)) (5 * rs_n I + 1) (k)) (5 * rs_n I + 2) ((gc_a F t j))) (5 * rs_n I + 3) ((gc_b F t j))) (5 * rs_n I + 4) ((rs_ag t k F)))), st) by
                      have e3 : cN (I 3) = j := by rw [hng, cN, nI_clamp (by omega)]
                      have e4 : I2 4 + 1 = nI (rs_n I + 1) := by rw [hI4, nI_1]
                      rw [e4, hI9]
                      simp only [sp_restart, eq_false c9, eq_false c16, eq_true c71, eq_true hc3, eq_true hc7, not_true_eq_false, not_false_eq_true, and_true, true_and, and_false, false_and, and_self, or_true, true_or, or_false, false_or, or_self, ↓reduceIte, e3, bx_uu])) (Nat.le_of_ble_eq_true rfl) (Nat.le_of_ble_eq_true rfl) d_MO_restart_299
              | succ mm ih =>
                intro j ls hj hl
                refine lv_iload S.1 S.2.1 d_MO_restart_140 (lv_at hl 0 rfl) ?_
                refine lv_aload_n S.1 S.2.1 d_MO_restart_142 rfl (lv_at hl 4 rfl) ?_
                refine mm_get (C := R_MO) (T := T_MO) (N := 22) (v := .int (I2 3)) S hK.1 hw hP.2.1 rfl in_MO 3 (by decide) gw_373 rfl rfl d_MO_restart_143 ?_
                refine lv_icmp_gt (tgt := 218) S.1 S.2.1 d_MO_restart_146 (by decide) (fun c146 => absurd (show nI ng < nI (j + 1) from by rw [hI3, hng] at c146; exact c146) (nI_nlt (by omega) (by omega))) (fun c146 => ?_)
                refine lv_iload S.1 S.2.1 d_MO_restart_149 (lv_at hl 2 rfl) ?_
                refine lv_aload_n S.1 S.2.1 d_MO_restart_151 rfl (lv_at hl 4 rfl) ?_
                refine mm_get (C := R_MO) (T := T_MO) (N := 22) (v := .ref (g 12)) S hK.1 hw hP.2.1 rfl in_MO 18 (by decide) gw_388 rfl rfl d_MO_restart_152 ?_
                refine lv_iload S.1 S.2.1 d_MO_restart_155 (lv_at hl 0 rfl) ?_
                refine mn_iald (j := j + 1) (n := 61) (f := F 12) S hK.1 hw 0 (mP_a (k := 12) (F := (va_up (rs_F t k F) 15 (rs_k I F))) hP (by decide) (by decide)) rfl (rfl) (by omega) (by decide) d_MO_restart_157 ?_
                refine lv_iload_n S.1 S.2.1 d_MO_restart_158 rfl (lv_at hl 5 rfl) ?_
                refine lv_icmp_ne (tgt := 176) S.1 S.2.1 d_MO_restart_159 (by decide) (fun c159 => ?_) (fun c159 => ?_)
                · refine lv_iconst (v := 0) S.1 S.2.1 d_MO_restart_176 (by decide) ?_
                  refine lv_iadd S.1 S.2.1 d_MO_restart_177 ?_
                  refine lv_istore (lv' := [(4, .int ((gc_a F t j) + 0)), (6, .int (nI (j + 1))), (5, .int (gc_b F t j)), (3, .int (rs_ag t k F)), (0, .ref x), (1, .int t), (2, .int k)]) S.1 S.2.1 d_MO_restart_178 hl (by decide) rfl (fun ls hl => ?_)
                  refine lv_iload S.1 S.2.1 d_MO_restart_180 (lv_at hl 2 rfl) ?_
                  refine lv_aload_n S.1 S.2.1 d_MO_restart_182 rfl (lv_at hl 4 rfl) ?_
                  refine mm_get (C := R_MO) (T := T_MO) (N := 22) (v := .ref (g 12)) S hK.1 hw hP.2.1 rfl in_MO 18 (by decide) gw_388 rfl rfl d_MO_restart_183 ?_
                  refine lv_iload S.1 S.2.1 d_MO_restart_186 (lv_at hl 1 rfl) ?_
                  refine mn_iald (j := j + 1) (n := 61) (f := F 12) S hK.1 hw 0 (mP_a (k := 12) (F := (va_up (rs_F t k F) 15 (rs_k I F))) hP (by decide) (by decide)) rfl (rfl) (by omega) (by decide) d_MO_restart_188 ?_
                  refine lv_iload_n S.1 S.2.1 d_MO_restart_189 rfl (lv_at hl 5 rfl) ?_
                  refine lv_icmp_ne (tgt := 208) S.1 S.2.1 d_MO_restart_190 (by decide) (fun c190 => ?_) (fun c190 => ?_)
                  · refine lv_iconst (v := 0) S.1 S.2.1 d_MO_restart_208 (by decide) ?_
                    refine lv_iadd S.1 S.2.1 d_MO_restart_209 ?_
                    refine lv_istore (lv' := [(5, .int ((gc_b F t j) + 0)), (4, .int ((gc_a F t j) + 0)), (6, .int (nI (j + 1))), (3, .int (rs_ag t k F)), (0, .ref x), (1, .int t), (2, .int k)]) S.1 S.2.1 d_MO_restart_210 hl (by decide) rfl (fun ls hl => ?_)
                    refine lv_iinc (v := (nI (j + 1 + 1))) (lv' := [(6, .int (nI (j + 1 + 1))), (5, .int ((gc_b F t j) + 0)), (4, .int ((gc_a F t j) + 0)), (3, .int (rs_ag t k F)), (0, .ref x), (1, .int t), (2, .int k)]) S.1 S.2.1 d_MO_restart_212 hl (k := 2) rfl (nI_1 (j + 1)) (by decide) rfl (fun ls hl => ?_)
                    refine lv_goto (tgt := 140) S.1 S.2.1 d_MO_restart_215 (by decide) ?_
                    exact ih (j + 1) ls (by omega) (by rw [show gc_a F t (j + 1) = ((gc_a F t j) + 0) from by simp only [gc_a, eq_false c159, not_true_eq_false, not_false_eq_true, and_true, true_and, and_false, false_and, and_self, or_true, true_or, or_false, false_or, or_self, ↓reduceIte], show gc_b F t (j + 1) = ((gc_b F t j) + 0) from by simp only [gc_b, eq_false c190, not_true_eq_false, not_false_eq_true, and_true, true_and, and_false, false_and, and_self, or_true, true_or, or_false, false_or, or_self, ↓reduceIte]]; exact lv_sub hl [0, 1, 2, 3, 4, 5, 6] rfl)
                  · refine lv_aload_n S.1 S.2.1 d_MO_restart_193 rfl (lv_at hl 4 rfl) ?_
                    refine mm_get (C := R_MO) (T := T_MO) (N := 22) (v := .ref (g 14)) S hK.1 hw hP.2.1 rfl in_MO 20 (by decide) gw_390 rfl rfl d_MO_restart_194 ?_
                    refine lv_iload S.1 S.2.1 d_MO_restart_197 (lv_at hl 1 rfl) ?_
                    refine mn_iald (j := j + 1) (n := 61) (f := F 14) S hK.1 hw 0 (mP_a (k := 14) (F := (va_up (rs_F t k F) 15 (rs_k I F))) hP (by decide) (by decide)) rfl (rfl) (by omega) (by decide) d_MO_restart_199 ?_
                    refine lv_iconst (v := 2) S.1 S.2.1 d_MO_restart_200 (by decide) ?_
                    refine lv_icmp_ne (tgt := 208) S.1 S.2.1 d_MO_restart_201 (by decide) (fun c201 => ?_) (fun c201 => ?_)
                    · refine lv_iconst (v := 0) S.1 S.2.1 d_MO_restart_208 (by decide) ?_
                      refine lv_iadd S.1 S.2.1 d_MO_restart_209 ?_
                      refine lv_istore (lv' := [(5, .int ((gc_b F t j) + 0)), (4, .int ((gc_a F t j) + 0)), (6, .int (nI (j + 1))), (3, .int (rs_ag t k F)), (0, .ref x), (1, .int t), (2, .int k)]) S.1 S.2.1 d_MO_restart_210 hl (by decide) rfl (fun ls hl => ?_)
                      refine lv_iinc (v := (nI (j + 1 + 1))) (lv' := [(6, .int (nI (j + 1 + 1))), (5, .int ((gc_b F t j) + 0)), (4, .int ((gc_a F t j) + 0)), (3, .int (rs_ag t k F)), (0, .ref x), (1, .int t), (2, .int k)]) S.1 S.2.1 d_MO_restart_212 hl (k := 2) rfl (nI_1 (j + 1)) (by decide) rfl (fun ls hl => ?_)
                      refine lv_goto (tgt := 140) S.1 S.2.1 d_MO_restart_215 (by decide) ?_
                      exact ih (j + 1) ls (by omega) (by rw [show gc_a F t (j + 1) = ((gc_a F t j) + 0) from by simp only [gc_a, eq_false c159, not_true_eq_false, not_false_eq_true, and_true, true_and, and_false, false_and, and_self, or_true, true_or, or_false, false_or, or_self, ↓reduceIte], show gc_b F t (j + 1) = ((gc_b F t j) + 0) from by simp only [gc_b, eq_true c190, eq_false c201, not_true_eq_false, not_false_eq_true, and_true, true_and, and_false, false_and, and_self, or_true, true_or, or_false, false_or, or_self, ↓reduceIte]]; exact lv_sub hl [0, 1, 2, 3, 4, 5, 6] rfl)
                    · refine lv_iconst (v := 1) S.1 S.2.1 d_MO_restart_204 (by decide) ?_
                      refine lv_goto (tgt := 209) S.1 S.2.1 d_MO_restart_205 (by decide) ?_
                      refine lv_iadd S.1 S.2.1 d_MO_restart_209 ?_
                      refine lv_istore (lv' := [(5, .int ((gc_b F t j) + 1)), (4, .int ((gc_a F t j) + 0)), (6, .int (nI (j + 1))), (3, .int (rs_ag t k F)), (0, .ref x), (1, .int t), (2, .int k)]) S.1 S.2.1 d_MO_restart_210 hl (by decide) rfl (fun ls hl => ?_)
                      refine lv_iinc (v := (nI (j + 1 + 1))) (lv' := [(6, .int (nI (j + 1 + 1))), (5, .int ((gc_b F t j) + 1)), (4, .int ((gc_a F t j) + 0)), (3, .int (rs_ag t k F)), (0, .ref x), (1, .int t), (2, .int k)]) S.1 S.2.1 d_MO_restart_212 hl (k := 2) rfl (nI_1 (j + 1)) (by decide) rfl (fun ls hl => ?_)
                      refine lv_goto (tgt := 140) S.1 S.2.1 d_MO_restart_215 (by decide) ?_
                      exact ih (j + 1) ls (by omega) (by rw [show gc_a F t (j + 1) = ((gc_a F t j) + 0) from by simp only [gc_a, eq_false c159, not_true_eq_false, not_false_eq_true, and_true, true_and, and_false, false_and, and_self, or_true, true_or, or_false, false_or, or_self, ↓reduceIte], show gc_b F t (j + 1) = ((gc_b F t j) + 1) from by simp only [gc_b, eq_true c190, eq_true c201, not_true_eq_false, not_false_eq_true, and_true, true_and, and_false, false_and, and_self, or_true, true_or, or_false, false_or, or_self, ↓reduceIte]]; exact lv_sub hl [0, 1, 2, 3, 4, 5, 6] rfl)
                · refine lv_aload_n S.1 S.2.1 d_MO_restart_162 rfl (lv_at hl 4 rfl) ?_
                  refine mm_get (C := R_MO) (T := T_MO) (N := 22) (v := .ref (g 14)) S hK.1 hw hP.2.1 rfl in_MO 20 (by decide) gw_390 rfl rfl d_MO_restart_163 ?_
                  refine lv_iload S.1 S.2.1 d_MO_restart_166 (lv_at hl 0 rfl) ?_
                  refine mn_iald (j := j + 1) (n := 61) (f := F 14) S hK.1 hw 0 (mP_a (k := 14) (F := (va_up (rs_F t k F) 15 (rs_k I F))) hP (by decide) (by decide)) rfl (rfl) (by omega) (by decide) d_MO_restart_168 ?_
                  refine lv_if_le (tgt := 176) S.1 S.2.1 d_MO_restart_169 (by decide) (fun c169 => ?_) (fun c169 => ?_)
                  · refine lv_iconst (v := 0) S.1 S.2.1 d_MO_restart_176 (by decide) ?_
                    refine lv_iadd S.1 S.2.1 d_MO_restart_177 ?_
                    refine lv_istore (lv' := [(4, .int ((gc_a F t j) + 0)), (6, .int (nI (j + 1))), (5, .int (gc_b F t j)), (3, .int (rs_ag t k F)), (0, .ref x), (1, .int t), (2, .int k)]) S.1 S.2.1 d_MO_restart_178 hl (by decide) rfl (fun ls hl => ?_)
                    refine lv_iload S.1 S.2.1 d_MO_restart_180 (lv_at hl 2 rfl) ?_
                    refine lv_aload_n S.1 S.2.1 d_MO_restart_182 rfl (lv_at hl 4 rfl) ?_
                    refine mm_get (C := R_MO) (T := T_MO) (N := 22) (v := .ref (g 12)) S hK.1 hw hP.2.1 rfl in_MO 18 (by decide) gw_388 rfl rfl d_MO_restart_183 ?_
                    refine lv_iload S.1 S.2.1 d_MO_restart_186 (lv_at hl 1 rfl) ?_
                    refine mn_iald (j := j + 1) (n := 61) (f := F 12) S hK.1 hw 0 (mP_a (k := 12) (F := (va_up (rs_F t k F) 15 (rs_k I F))) hP (by decide) (by decide)) rfl (rfl) (by omega) (by decide) d_MO_restart_188 ?_
                    refine lv_iload_n S.1 S.2.1 d_MO_restart_189 rfl (lv_at hl 5 rfl) ?_
                    refine lv_icmp_ne (tgt := 208) S.1 S.2.1 d_MO_restart_190 (by decide) (fun c190 => ?_) (fun c190 => ?_)
                    · refine lv_iconst (v := 0) S.1 S.2.1 d_MO_restart_208 (by decide) ?_
                      refine lv_iadd S.1 S.2.1 d_MO_restart_209 ?_
                      refine lv_istore (lv' := [(5, .int ((gc_b F t j) + 0)), (4, .int ((gc_a F t j) + 0)), (6, .int (nI (j + 1))), (3, .int (rs_ag t k F)), (0, .ref x), (1, .int t), (2, .int k)]) S.1 S.2.1 d_MO_restart_210 hl (by decide) rfl (fun ls hl => ?_)
                      refine lv_iinc (v := (nI (j + 1 + 1))) (lv' := [(6, .int (nI (j + 1 + 1))), (5, .int ((gc_b F t j) + 0)), (4, .int ((gc_a F t j) + 0)), (3, .int (rs_ag t k F)), (0, .ref x), (1, .int t), (2, .int k)]) S.1 S.2.1 d_MO_restart_212 hl (k := 2) rfl (nI_1 (j + 1)) (by decide) rfl (fun ls hl => ?_)
                      refine lv_goto (tgt := 140) S.1 S.2.1 d_MO_restart_215 (by decide) ?_
                      exact ih (j + 1) ls (by omega) (by rw [show gc_a F t (j + 1) = ((gc_a F t j) + 0) from by simp only [gc_a, eq_true c159, eq_true c169, not_true_eq_false, not_false_eq_true, and_true, true_and, and_false, false_and, and_self, or_true, true_or, or_false, false_or, or_self, ↓reduceIte], show gc_b F t (j + 1) = ((gc_b F t j) + 0) from by simp only [gc_b, eq_false c190, not_true_eq_false, not_false_eq_true, and_true, true_and, and_false, false_and, and_self, or_true, true_or, or_false, false_or, or_self, ↓reduceIte]]; exact lv_sub hl [0, 1, 2, 3, 4, 5, 6] rfl)
                    · refine lv_aload_n S.1 S.2.1 d_MO_restart_193 rfl (lv_at hl 4 rfl) ?_
                      refine mm_get (C := R_MO) (T := T_MO) (N := 22) (v := .ref (g 14)) S hK.1 hw hP.2.1 rfl in_MO 20 (by decide) gw_390 rfl rfl d_MO_restart_194 ?_
                      refine lv_iload S.1 S.2.1 d_MO_restart_197 (lv_at hl 1 rfl) ?_
                      refine mn_iald (j := j + 1) (n := 61) (f := F 14) S hK.1 hw 0 (mP_a (k := 14) (F := (va_up (rs_F t k F) 15 (rs_k I F))) hP (by decide) (by decide)) rfl (rfl) (by omega) (by decide) d_MO_restart_199 ?_
                      refine lv_iconst (v := 2) S.1 S.2.1 d_MO_restart_200 (by decide) ?_
                      refine lv_icmp_ne (tgt := 208) S.1 S.2.1 d_MO_restart_201 (by decide) (fun c201 => ?_) (fun c201 => ?_)
                      · refine lv_iconst (v := 0) S.1 S.2.1 d_MO_restart_208 (by decide) ?_
                        refine lv_iadd S.1 S.2.1 d_MO_restart_209 ?_
                        refine lv_istore (lv' := [(5, .int ((gc_b F t j) + 0)), (4, .int ((gc_a F t j) + 0)), (6, .int (nI (j + 1))), (3, .int (rs_ag t k F)), (0, .ref x), (1, .int t), (2, .int k)]) S.1 S.2.1 d_MO_restart_210 hl (by decide) rfl (fun ls hl => ?_)
                        refine lv_iinc (v := (nI (j + 1 + 1))) (lv' := [(6, .int (nI (j + 1 + 1))), (5, .int ((gc_b F t j) + 0)), (4, .int ((gc_a F t j) + 0)), (3, .int (rs_ag t k F)), (0, .ref x), (1, .int t), (2, .int k)]) S.1 S.2.1 d_MO_restart_212 hl (k := 2) rfl (nI_1 (j + 1)) (by decide) rfl (fun ls hl => ?_)
                        refine lv_goto (tgt := 140) S.1 S.2.1 d_MO_restart_215 (by decide) ?_
                        exact ih (j + 1) ls (by omega) (by rw [show gc_a F t (j + 1) = ((gc_a F t j) + 0) from by simp only [gc_a, eq_true c159, eq_true c169, not_true_eq_false, not_false_eq_true, and_true, true_and, and_false, false_and, and_self, or_true, true_or, or_false, false_or, or_self, ↓reduceIte], show gc_b F t (j + 1) = ((gc_b F t j) + 0) from by simp only [gc_b, eq_true c190, eq_false c201, not_true_eq_false, not_false_eq_true, and_true, true_and, and_false, false_and, and_self, or_true, true_or, or_false, false_or, or_self, ↓reduceIte]]; exact lv_sub hl [0, 1, 2, 3, 4, 5, 6] rfl)
                      · refine lv_iconst (v := 1) S.1 S.2.1 d_MO_restart_204 (by decide) ?_
                        refine lv_goto (tgt := 209) S.1 S.2.1 d_MO_restart_205 (by decide) ?_
                        refine lv_iadd S.1 S.2.1 d_MO_restart_209 ?_
                        refine lv_istore (lv' := [(5, .int ((gc_b F t j) + 1)), (4, .int ((gc_a F t j) + 0)), (6, .int (nI (j + 1))), (3, .int (rs_ag t k F)), (0, .ref x), (1, .int t), (2, .int k)]) S.1 S.2.1 d_MO_restart_210 hl (by decide) rfl (fun ls hl => ?_)
                        refine lv_iinc (v := (nI (j + 1 + 1))) (lv' := [(6, .int (nI (j + 1 + 1))), (5, .int ((gc_b F t j) + 1)), (4, .int ((gc_a F t j) + 0)), (3, .int (rs_ag t k F)), (0, .ref x), (1, .int t), (2, .int k)]) S.1 S.2.1 d_MO_restart_212 hl (k := 2) rfl (nI_1 (j + 1)) (by decide) rfl (fun ls hl => ?_)
                        refine lv_goto (tgt := 140) S.1 S.2.1 d_MO_restart_215 (by decide) ?_
                        exact ih (j + 1) ls (by omega) (by rw [show gc_a F t (j + 1) = ((gc_a F t j) + 0) from by simp only [gc_a, eq_true c159, eq_true c169, not_true_eq_false, not_false_eq_true, and_true, true_and, and_false, false_and, and_self, or_true, true_or, or_false, false_or, or_self, ↓reduceIte], show gc_b F t (j + 1) = ((gc_b F t j) + 1) from by simp only [gc_b, eq_true c190, eq_true c201, not_true_eq_false, not_false_eq_true, and_true, true_and, and_false, false_and, and_self, or_true, true_or, or_false, false_or, or_self, ↓reduceIte]]; exact lv_sub hl [0, 1, 2, 3, 4, 5, 6] rfl)
                  · refine lv_iconst (v := 1) S.1 S.2.1 d_MO_restart_172 (by decide) ?_
                    refine lv_goto (tgt := 177) S.1 S.2.1 d_MO_restart_173 (by decide) ?_
                    refine lv_iadd S.1 S.2.1 d_MO_restart_177 ?_
                    refine lv_istore (lv' := [(4, .int ((gc_a F t j) + 1)), (6, .int (nI (j + 1))), (5, .int (gc_b F t j)), (3, .int (rs_ag t k F)), (0, .ref x), (1, .int t), (2, .int k)]) S.1 S.2.1 d_MO_restart_178 hl (by decide) rfl (fun ls hl => ?_)
                    refine lv_iload S.1 S.2.1 d_MO_restart_180 (lv_at hl 2 rfl) ?_
                    refine lv_aload_n S.1 S.2.1 d_MO_restart_182 rfl (lv_at hl 4 rfl) ?_
                    refine mm_get (C := R_MO) (T := T_MO) (N := 22) (v := .ref (g 12)) S hK.1 hw hP.2.1 rfl in_MO 18 (by decide) gw_388 rfl rfl d_MO_restart_183 ?_
                    refine lv_iload S.1 S.2.1 d_MO_restart_186 (lv_at hl 1 rfl) ?_
                    refine mn_iald (j := j + 1) (n := 61) (f := F 12) S hK.1 hw 0 (mP_a (k := 12) (F := (va_up (rs_F t k F) 15 (rs_k I F))) hP (by decide) (by decide)) rfl (rfl) (by omega) (by decide) d_MO_restart_188 ?_
                    refine lv_iload_n S.1 S.2.1 d_MO_restart_189 rfl (lv_at hl 5 rfl) ?_
                    refine lv_icmp_ne (tgt := 208) S.1 S.2.1 d_MO_restart_190 (by decide) (fun c190 => ?_) (fun c190 => ?_)
                    · refine lv_iconst (v := 0) S.1 S.2.1 d_MO_restart_208 (by decide) ?_
                      refine lv_iadd S.1 S.2.1 d_MO_restart_209 ?_
                      refine lv_istore (lv' := [(5, .int ((gc_b F t j) + 0)), (4, .int ((gc_a F t j) + 1)), (6, .int (nI (j + 1))), (3, .int (rs_ag t k F)), (0, .ref x), (1, .int t), (2, .int k)]) S.1 S.2.1 d_MO_restart_210 hl (by decide) rfl (fun ls hl => ?_)
                      refine lv_iinc (v := (nI (j + 1 + 1))) (lv' := [(6, .int (nI (j + 1 + 1))), (5, .int ((gc_b F t j) + 0)), (4, .int ((gc_a F t j) + 1)), (3, .int (rs_ag t k F)), (0, .ref x), (1, .int t), (2, .int k)]) S.1 S.2.1 d_MO_restart_212 hl (k := 2) rfl (nI_1 (j + 1)) (by decide) rfl (fun ls hl => ?_)
                      refine lv_goto (tgt := 140) S.1 S.2.1 d_MO_restart_215 (by decide) ?_
                      exact ih (j + 1) ls (by omega) (by rw [show gc_a F t (j + 1) = ((gc_a F t j) + 1) from by simp only [gc_a, eq_true c159, eq_false c169, not_true_eq_false, not_false_eq_true, and_true, true_and, and_false, false_and, and_self, or_true, true_or, or_false, false_or, or_self, ↓reduceIte], show gc_b F t (j + 1) = ((gc_b F t j) + 0) from by simp only [gc_b, eq_false c190, not_true_eq_false, not_false_eq_true, and_true, true_and, and_false, false_and, and_self, or_true, true_or, or_false, false_or, or_self, ↓reduceIte]]; exact lv_sub hl [0, 1, 2, 3, 4, 5, 6] rfl)
                    · refine lv_aload_n S.1 S.2.1 d_MO_restart_193 rfl (lv_at hl 4 rfl) ?_
                      refine mm_get (C := R_MO) (T := T_MO) (N := 22) (v := .ref (g 14)) S hK.1 hw hP.2.1 rfl in_MO 20 (by decide) gw_390 rfl rfl d_MO_restart_194 ?_
                      refine lv_iload S.1 S.2.1 d_MO_restart_197 (lv_at hl 1 rfl) ?_
                      refine mn_iald (j := j + 1) (n := 61) (f := F 14) S hK.1 hw 0 (mP_a (k := 14) (F := (va_up (rs_F t k F) 15 (rs_k I F))) hP (by decide) (by decide)) rfl (rfl) (by omega) (by decide) d_MO_restart_199 ?_
                      refine lv_iconst (v := 2) S.1 S.2.1 d_MO_restart_200 (by decide) ?_
                      refine lv_icmp_ne (tgt := 208) S.1 S.2.1 d_MO_restart_201 (by decide) (fun c201 => ?_) (fun c201 => ?_)
                      · refine lv_iconst (v := 0) S.1 S.2.1 d_MO_restart_208 (by decide) ?_
                        refine lv_iadd S.1 S.2.1 d_MO_restart_209 ?_
                        refine lv_istore (lv' := [(5, .int ((gc_b F t j) + 0)), (4, .int ((gc_a F t j) + 1)), (6, .int (nI (j + 1))), (3, .int (rs_ag t k F)), (0, .ref x), (1, .int t), (2, .int k)]) S.1 S.2.1 d_MO_restart_210 hl (by decide) rfl (fun ls hl => ?_)
                        refine lv_iinc (v := (nI (j + 1 + 1))) (lv' := [(6, .int (nI (j + 1 + 1))), (5, .int ((gc_b F t j) + 0)), (4, .int ((gc_a F t j) + 1)), (3, .int (rs_ag t k F)), (0, .ref x), (1, .int t), (2, .int k)]) S.1 S.2.1 d_MO_restart_212 hl (k := 2) rfl (nI_1 (j + 1)) (by decide) rfl (fun ls hl => ?_)
                        refine lv_goto (tgt := 140) S.1 S.2.1 d_MO_restart_215 (by decide) ?_
                        exact ih (j + 1) ls (by omega) (by rw [show gc_a F t (j + 1) = ((gc_a F t j) + 1) from by simp only [gc_a, eq_true c159, eq_false c169, not_true_eq_false, not_false_eq_true, and_true, true_and, and_false, false_and, and_self, or_true, true_or, or_false, false_or, or_self, ↓reduceIte], show gc_b F t (j + 1) = ((gc_b F t j) + 0) from by simp only [gc_b, eq_true c190, eq_false c201, not_true_eq_false, not_false_eq_true, and_true, true_and, and_false, false_and, and_self, or_true, true_or, or_false, false_or, or_self, ↓reduceIte]]; exact lv_sub hl [0, 1, 2, 3, 4, 5, 6] rfl)
                      · refine lv_iconst (v := 1) S.1 S.2.1 d_MO_restart_204 (by decide) ?_
                        refine lv_goto (tgt := 209) S.1 S.2.1 d_MO_restart_205 (by decide) ?_
                        refine lv_iadd S.1 S.2.1 d_MO_restart_209 ?_
                        refine lv_istore (lv' := [(5, .int ((gc_b F t j) + 1)), (4, .int ((gc_a F t j) + 1)), (6, .int (nI (j + 1))), (3, .int (rs_ag t k F)), (0, .ref x), (1, .int t), (2, .int k)]) S.1 S.2.1 d_MO_restart_210 hl (by decide) rfl (fun ls hl => ?_)
                        refine lv_iinc (v := (nI (j + 1 + 1))) (lv' := [(6, .int (nI (j + 1 + 1))), (5, .int ((gc_b F t j) + 1)), (4, .int ((gc_a F t j) + 1)), (3, .int (rs_ag t k F)), (0, .ref x), (1, .int t), (2, .int k)]) S.1 S.2.1 d_MO_restart_212 hl (k := 2) rfl (nI_1 (j + 1)) (by decide) rfl (fun ls hl => ?_)
                        refine lv_goto (tgt := 140) S.1 S.2.1 d_MO_restart_215 (by decide) ?_
                        exact ih (j + 1) ls (by omega) (by rw [show gc_a F t (j + 1) = ((gc_a F t j) + 1) from by simp only [gc_a, eq_true c159, eq_false c169, not_true_eq_false, not_false_eq_true, and_true, true_and, and_false, false_and, and_self, or_true, true_or, or_false, false_or, or_self, ↓reduceIte], show gc_b F t (j + 1) = ((gc_b F t j) + 1) from by simp only [gc_b, eq_true c190, eq_true c201, not_true_eq_false, not_false_eq_true, and_true, true_and, and_false, false_and, and_self, or_true, true_or, or_false, false_or, or_self, ↓reduceIte]]; exact lv_sub hl [0, 1, 2, 3, 4, 5, 6] rfl)
            exact L ng 0 ls (by omega) (lv_sub hl [0, 1, 2, 3, 4, 5, 6] rfl)
          refine lv_aload_n S.1 S.2.1 d_MO_restart_76 rfl (lv_at hl 1 rfl) ?_
          refine mm_get (C := R_MO) (T := T_MO) (N := 22) (v := .int (I 4)) S hK.1 hw hP.2.1 rfl in_MO 4 (by decide) gw_374 rfl rfl d_MO_restart_77 ?_
          refine lv_bipush (v := 50) S.1 S.2.1 d_MO_restart_80 (by decide) ?_
          refine lv_icmp_ne (tgt := 131) S.1 S.2.1 d_MO_restart_82 (by decide) (fun c82 => ?_) (fun c82 => ?_)
          · have hP : mP dA M x g (upd I 0 0) (rs_F t k F) st := hP
            rw [← va_up_same (f := rs_F t k F) (k := 15), show rs_F t k F 15 = rs_k I F from by simp only [rs_k, eq_false c82, ↓reduceIte]; rfl] at hP
            exact J2 _ M H locs ls hw hP (show I 4 = nI (rs_n I) from by simp only [rs_n, eq_false c82, ↓reduceIte]; rw [hnd, cN, nI_clamp (by omega)]) rfl rfl (lv_sub hl [0, 1, 2, 3] rfl)
          · refine lv_aload_n S.1 S.2.1 d_MO_restart_85 rfl (lv_at hl 1 rfl) ?_
            refine lv_dup S.1 S.2.1 d_MO_restart_86 rfl ?_
            refine mm_get (C := R_MO) (T := T_MO) (N := 22) (v := .int (I 4)) S hK.1 hw hP.2.1 rfl in_MO 4 (by decide) gw_374 rfl rfl d_MO_restart_87 ?_
            refine lv_iconst (v := 1) S.1 S.2.1 d_MO_restart_90 (by decide) ?_
            refine lv_isub S.1 S.2.1 d_MO_restart_91 ?_
            refine mm_put (C := R_MO) (T := T_MO) (N := 22) (ty := .int) (v := .int ((I 4) - 1)) S hK.1 hw hP.2.1 rfl in_MO t_MO k_MO n_MO 4 (by decide) gw_374 rfl rfl (by decide +kernel) rfl rfl (Nat.le_of_ble_eq_true rfl) d_MO_restart_92 (fun H locs hw => ?_)
            obtain ⟨M, hw, hP⟩ := md_puti (k := 4) (v := ((I 4) - 1)) (by decide) hw hP
            refine lv_iconst (v := 0) S.1 S.2.1 d_MO_restart_95 (by decide) ?_
            refine lv_istore (lv' := [(4, .int 0), (3, .int (rs_ag t k F)), (0, .ref x), (1, .int t), (2, .int k)]) S.1 S.2.1 d_MO_restart_96 hl (by decide) rfl (fun ls hl => ?_)
            have hP : mP dA M x g (upd (upd I 0 (0)) 4 (((I 4) - 1))) (rs_F t k F) st := hP
            rw [← va_up_same (f := rs_F t k F) (k := 15), show rs_F t k F 15 = sh5 (F 15) 0 from sh5_0.symm] at hP
            have L : ∀ (mm i : Nat) (M : mm_M) (H : Heap) (locs : List Loc) (ls : Array Slot), i + mm = 245 → mm_w D vC A s.heap M H locs → mP dA M x g (upd (upd I 0 (0)) 4 (((I 4) - 1))) (va_up (rs_F t k F) 15 (sh5 (F 15) i)) st → lv_has ls 7 [(4, .int (nI i)), (3, .int (rs_ag t k F)), (0, .ref x), (1, .int t), (2, .int k)] → W p l e ({ frames := 1, cells := 0, slots := 0, locals := 20 }) s m [.ref x, .int t, .int k].toArray below meth c H locs 0 0 Q (F0 m 98 ls []) := by
              intro mm
              induction mm with
              | zero =>
                intro i M H locs ls hi hw hP hl
                obtain rfl : i = 245 := by omega
                refine lv_iload S.1 S.2.1 d_MO_restart_98 (lv_at hl 0 rfl) ?_
                refine lv_iconst (v := 5) S.1 S.2.1 d_MO_restart_100 (by decide) ?_
                refine lv_aload_n S.1 S.2.1 d_MO_restart_101 rfl (lv_at hl 2 rfl) ?_
                refine mm_get (C := R_MO) (T := T_MO) (N := 22) (v := .int (((I 4) - 1))) S hK.1 hw hP.2.1 rfl in_MO 4 (by decide) gw_374 rfl rfl d_MO_restart_102 ?_
                refine lv_imul S.1 S.2.1 d_MO_restart_105 ?_
                refine lv_icmp_ge (tgt := 131) S.1 S.2.1 d_MO_restart_106 (by decide) (fun c106 => ?_) (fun c106 => absurd (by rw [c82]; decide) c106)
                rw [show sh5 (F 15) 245 = rs_k I F from by simp only [rs_k, eq_true c82, ↓reduceIte]] at hP
                exact J2 _ M H locs ls hw hP (show (I 4 - 1) = nI (rs_n I) from by simp only [rs_n, c82, ↓reduceIte]; rfl) rfl up_uu (lv_sub hl [1, 2, 3, 4] rfl)
              | succ mm ih =>
                intro i M H locs ls hi hw hP hl
                refine lv_iload S.1 S.2.1 d_MO_restart_98 (lv_at hl 0 rfl) ?_
                refine lv_iconst (v := 5) S.1 S.2.1 d_MO_restart_100 (by decide) ?_
                refine lv_aload_n S.1 S.2.1 d_MO_restart_101 rfl (lv_at hl 2 rfl) ?_
                refine mm_get (C := R_MO) (T := T_MO) (N := 22) (v := .int (((I 4) - 1))) S hK.1 hw hP.2.1 rfl in_MO 4 (by decide) gw_374 rfl rfl d_MO_restart_102 ?_
                refine lv_imul S.1 S.2.1 d_MO_restart_105 ?_
                refine lv_icmp_ge (tgt := 131) S.1 S.2.1 d_MO_restart_106 (by decide) (fun c106 => absurd (show nI 245 ≤ nI i from by rw [c82] at c106; exact c106) (nI_ge (by omega) (by omega))) (fun c106 => ?_)
                refine lv_aload_n S.1 S.2.1 d_MO_restart_109 rfl (lv_at hl 2 rfl) ?_
                refine mm_get (C := R_MO) (T := T_MO) (N := 22) (v := .ref (g 15)) S hK.1 hw hP.2.1 rfl in_MO 21 (by decide) gw_391 rfl rfl d_MO_restart_110 ?_
                refine lv_iload S.1 S.2.1 d_MO_restart_113 (lv_at hl 0 rfl) ?_
                refine lv_aload_n S.1 S.2.1 d_MO_restart_115 rfl (lv_at hl 2 rfl) ?_
                refine mm_get (C := R_MO) (T := T_MO) (N := 22) (v := .ref (g 15)) S hK.1 hw hP.2.1 rfl in_MO 21 (by decide) gw_391 rfl rfl d_MO_restart_116 ?_
                refine lv_iload S.1 S.2.1 d_MO_restart_119 (lv_at hl 0 rfl) ?_
                refine lv_iconst (v := 5) S.1 S.2.1 d_MO_restart_121 (by decide) ?_
                refine lv_iadd S.1 S.2.1 d_MO_restart_122 ?_
                refine mn_iald (j := i + 5) (n := 250) (f := sh5 (F 15) i) S hK.1 hw 0 (mP_a (k := 15) (F := (va_up (rs_F t k F) 15 (sh5 (F 15) i))) hP (by decide) (by decide)) rfl (nI_add i 5) (by omega) (by decide) d_MO_restart_123 ?_
                refine mn_iast (j := i) (n := 250) (f := sh5 (F 15) i) S hK.1 hw 0 (mP_a (k := 15) (F := (va_up (rs_F t k F) 15 (sh5 (F 15) i))) hP (by decide) (by decide)) rfl (rfl) (by omega) (by decide) d_MO_restart_124 (fun H locs hw => ?_)
                obtain ⟨M, hw, hP⟩ := md_ast (k := 15) (j := i) (v := ((sh5 (F 15) i) (i + 5))) (F := (va_up (rs_F t k F) 15 (sh5 (F 15) i))) (by decide) (by decide) hw hP
                refine lv_iinc (v := (nI (i + 1))) (lv' := [(4, .int (nI (i + 1))), (3, .int (rs_ag t k F)), (0, .ref x), (1, .int t), (2, .int k)]) S.1 S.2.1 d_MO_restart_125 hl (k := 0) rfl (nI_1 i) (by decide) rfl (fun ls hl => ?_)
                refine lv_goto (tgt := 98) S.1 S.2.1 d_MO_restart_128 (by decide) ?_
                rw [bx_uu, va_up_self, sh5_s] at hP
                exact ih (i + 1) M H locs ls (by omega) hw hP (lv_sub hl [0, 1, 2, 3, 4] rfl)
            exact L 245 0 M H locs ls (by omega) hw hP (lv_sub hl [0, 1, 2, 3, 4] rfl)
        · refine lv_iload_n S.1 S.2.1 d_MO_restart_74 rfl (lv_at hl 0 rfl) ?_
          exact mm_reti S.1 S.2.1 hr hlocks hA hQ hw (md_done hP (show sp_restart t k I F st = ((rs_ag t k F), (upd I 0 (0)), (va_up (va_up F 9 (upd (F 9) (cN t) (((F 9 (cN t)) + (rs_ag t k F))))) 8 (upd (F 8) (cN k) (((F 8 (cN k)) + 1)))), st) by simp only [sp_restart, rs_F, eq_false c9, eq_false c16, eq_false c71, eq_true hc3, eq_true hc7, not_true_eq_false, not_false_eq_true, and_true, true_and, and_false, false_and, and_self, or_true, true_or, or_false, false_or, or_self, ↓reduceIte])) (Nat.le_of_ble_eq_true rfl) (Nat.le_of_ble_eq_true rfl) d_MO_restart_75
      refine lv_iload_n S.1 S.2.1 d_MO_restart_22 rfl (lv_at hl 2 rfl) ?_
      refine lv_sipush (v := 1000) S.1 S.2.1 d_MO_restart_23 (by decide) ?_
      refine lv_icmp_ge (tgt := 43) S.1 S.2.1 d_MO_restart_26 (by decide) (fun c26 => ?_) (fun c26 => ?_)
      · refine lv_iconst (v := 0) S.1 S.2.1 d_MO_restart_43 (by decide) ?_
        refine lv_istore_n (lv' := [(3, .int 0), (0, .ref x), (1, .int t), (2, .int k)]) S.1 S.2.1 d_MO_restart_44 rfl hl (by decide) rfl (fun ls hl => ?_)
        have ea : (0 : Int32) = rs_ag t k F := by simp only [rs_ag, eq_false c9, eq_false c16, eq_true c26, eq_true hc3, eq_true hc7, not_true_eq_false, not_false_eq_true, and_true, true_and, and_false, false_and, and_self, or_true, true_or, or_false, false_or, or_self, ↓reduceIte]
        exact J ls (by rw [← ea]; exact lv_sub hl [0, 1, 2, 3] rfl)
      · refine lv_aload_n S.1 S.2.1 d_MO_restart_29 rfl (lv_at hl 0 rfl) ?_
        refine mm_get (C := R_MO) (T := T_MO) (N := 22) (v := .ref (g 9)) S hK.1 hw hP.2.1 rfl in_MO 15 (by decide) gw_385 rfl rfl d_MO_restart_30 ?_
        refine lv_iload_n S.1 S.2.1 d_MO_restart_33 rfl (lv_at hl 1 rfl) ?_
        refine mn_iald (j := cN t) (n := 41) (f := F 9) S hK.1 hw 0 (mP_a (k := 9) (F := F) hP (by decide) (by decide)) rfl (cl_nI (is_le0 hc3.1)) (by rw [cN, enj4]; omega) (by decide) d_MO_restart_34 ?_
        refine lv_iconst (v := 3) S.1 S.2.1 d_MO_restart_35 (by decide) ?_
        refine lv_icmp_ge (tgt := 43) S.1 S.2.1 d_MO_restart_36 (by decide) (fun c36 => ?_) (fun c36 => ?_)
        · refine lv_iconst (v := 0) S.1 S.2.1 d_MO_restart_43 (by decide) ?_
          refine lv_istore_n (lv' := [(3, .int 0), (0, .ref x), (1, .int t), (2, .int k)]) S.1 S.2.1 d_MO_restart_44 rfl hl (by decide) rfl (fun ls hl => ?_)
          have ea : (0 : Int32) = rs_ag t k F := by simp only [rs_ag, eq_false c9, eq_false c16, eq_false c26, eq_true c36, eq_true hc3, eq_true hc7, not_true_eq_false, not_false_eq_true, and_true, true_and, and_false, false_and, and_self, or_true, true_or, or_false, false_or, or_self, ↓reduceIte]
          exact J ls (by rw [← ea]; exact lv_sub hl [0, 1, 2, 3] rfl)
        · refine lv_iconst (v := 1) S.1 S.2.1 d_MO_restart_39 (by decide) ?_
          refine lv_goto (tgt := 44) S.1 S.2.1 d_MO_restart_40 (by decide) ?_
          refine lv_istore_n (lv' := [(3, .int 1), (0, .ref x), (1, .int t), (2, .int k)]) S.1 S.2.1 d_MO_restart_44 rfl hl (by decide) rfl (fun ls hl => ?_)
          have ea : (1 : Int32) = rs_ag t k F := by simp only [rs_ag, eq_false c9, eq_false c16, eq_false c26, eq_false c36, eq_true hc3, eq_true hc7, not_true_eq_false, not_false_eq_true, and_true, true_and, and_false, false_and, and_self, or_true, true_or, or_false, false_or, or_self, ↓reduceIte]
          exact J ls (by rw [← ea]; exact lv_sub hl [0, 1, 2, 3] rfl)
    · refine lv_if_ne (tgt := 22) S.1 S.2.1 d_MO_restart_16 (by decide) (fun c16 => absurd c16 (by decide)) (fun c16 => ?_)
      refine lv_bipush (v := (-4)) S.1 S.2.1 d_MO_restart_19 (by decide) ?_
      exact mm_reti S.1 S.2.1 hr hlocks hA hQ hw (md_done hP (show sp_restart t k I F st = ((-4), (upd I 0 (0)), F, st) by simp only [sp_restart, rs_F, eq_false c9, eq_true c16, eq_true hc3, eq_false hc7, not_true_eq_false, not_false_eq_true, and_true, true_and, and_false, false_and, and_self, or_true, true_or, or_false, false_or, or_self, ↓reduceIte])) (Nat.le_of_ble_eq_true rfl) (Nat.le_of_ble_eq_true rfl) d_MO_restart_21
  · refine lv_if_eq (tgt := 19) S.1 S.2.1 d_MO_restart_9 (by decide) (fun c9 => ?_) (fun c9 => absurd c9 (by decide))
    refine lv_bipush (v := (-4)) S.1 S.2.1 d_MO_restart_19 (by decide) ?_
    exact mm_reti S.1 S.2.1 hr hlocks hA hQ hw (md_done hP (show sp_restart t k I F st = ((-4), (upd I 0 (0)), F, st) by simp only [sp_restart, rs_F, eq_true c9, eq_false hc3, not_true_eq_false, not_false_eq_true, and_true, true_and, and_false, false_and, and_self, or_true, true_or, or_false, false_or, or_self, ↓reduceIte])) (Nat.le_of_ble_eq_true rfl) (Nat.le_of_ble_eq_true rfl) d_MO_restart_21
end
section
/-! THE SEARCH, as a function: the answer (0: none), how many were asked, the arrays, the code -/
abbrev sQ : Type := Int32 × Nat × sF × Nat
def ab_c (F : sF) (e cc : Nat) : Nat := if F 6 e = 0 then cc else if cc + 100 ≤ 9999 then cc + 100 else 9999
abbrev ab_F1 (F : sF) (na e : Nat) : sF := va_up F 5 (upd (F 5) na (nI e))
abbrev ab_F2 (F : sF) (na e a l : Nat) : sF := va_up (ab_F1 F na e) 7 (en_of (ab_F1 F na e) e a l).2
def ab_r (l a : Nat) : Nat → Nat → sF → Nat → sQ
  | 0, na, F, cc => (0, na, F, cc)
  | k + 1, na, F, cc =>
    if (en_of (ab_F1 F na (cN (F 3 (10 * a + k)))) (cN (F 3 (10 * a + k))) a l).1 = 0 then ab_r l a k (na + 1) (ab_F2 F na (cN (F 3 (10 * a + k))) a l) (ab_c F (cN (F 3 (10 * a + k))) cc)
    else ((en_of (ab_F1 F na (cN (F 3 (10 * a + k)))) (cN (F 3 (10 * a + k))) a l).1, na + 1, ab_F2 F na (cN (F 3 (10 * a + k))) a l, ab_c F (cN (F 3 (10 * a + k))) cc)
def ab_u (l : Nat) : Nat → Nat → Nat → sF → Nat → sQ
  | 0, _, na, F, cc => (0, na, F, cc)
  | f + 1, a, na, F, cc =>
    if a = 0 then (0, na, F, cc)
    else if (ab_r l a (cN (F 2 a)) na F cc).1 = 0 then ab_u l f (cN (F 0 a)) (ab_r l a (cN (F 2 a)) na F cc).2.1 (ab_r l a (cN (F 2 a)) na F cc).2.2.1 (ab_r l a (cN (F 2 a)) na F cc).2.2.2
    else ab_r l a (cN (F 2 a)) na F cc
def ab_k (l f pa : Nat) (q : sQ) : sQ := if q.1 = 0 then ab_u l f pa q.2.1 q.2.2.1 q.2.2.2 else q
theorem ab_u_s {l f a na cc : Nat} {F : sF} (ha : a ≠ 0) : ab_u l (f + 1) a na F cc = ab_k l f (cN (F 0 a)) (ab_r l a (cN (F 2 a)) na F cc) := by
  rw [ab_u, if_neg ha]
  rfl
theorem ab_r_s {l a k na cc e : Nat} {F : sF} (he : F 3 (10 * a + k) = nI e) (hb : e < 2 ^ 31) : ab_r l a (k + 1) na F cc = if (en_of (ab_F1 F na e) e a l).1 = 0 then ab_r l a k (na + 1) (ab_F2 F na e a l) (ab_c F e cc) else ((en_of (ab_F1 F na e) e a l).1, na + 1, ab_F2 F na e a l, ab_c F e cc) := by
  have h : cN (F 3 (10 * a + k)) = e := by rw [he, cN, nI_clamp hb]
  rw [ab_r, h]
def ab_z (en : Int32) (F : sF) : Nat → Nat → (Nat → Int32) → Nat → Int32
  | 0, _, z => z
  | f + 1, a, z => if nI a = en then z else ab_z en F f (cN (F 0 a)) (upd z a 0)
/-- the levels above -/
def ab_n (F : sF) (l : Nat) : Nat → Nat
  | 0 => l
  | j + 1 => cN (F 0 (ab_n F l j))
def sp_abend (k c : Int32) (I : sI) (F : sF) (st : sT) : sR :=
  if ¬ is_ok (I 1) k then (-2, upd I 0 0, F, st)
  else if ¬ is_ok 9999 c then (-4, upd I 0 0, F, st)
  else (fun q : sQ => (if q.1 = 0 then -1 else q.1, upd (upd I 0 0) 5 (nI q.2.1), va_up (va_up q.2.2.1 8 (upd (q.2.2.1 8) q.2.2.2 (q.2.2.1 8 q.2.2.2 + 1))) 2 (ab_z q.1 F 101 (cN k) (F 2)), st)) (ab_u (cN k) 101 (cN k) 0 F (cN c))
theorem en_two {F : sF} {x a l : Nat} (h : ¬ (en_of F x a l).1 = 0) (h4 : F 4 x = 2) : (en_of F x a l).1 = nI l := by
  unfold en_of at h ⊢
  by_cases h6 : F 6 x = 0
  · rw [if_neg (not_not_intro h6)] at h ⊢
    rw [if_neg (by rw [h4]; decide), if_pos h4] at h ⊢
    by_cases h7 : F 7 x = 0
    · rw [if_neg (not_not_intro h7)]
    · rw [if_pos h7] at h
      exact absurd rfl h
  · rw [if_pos h6] at h
    exact absurd rfl h
/-- an end is the level itself, the start, or the one above -/
theorem en_at {F : sF} {x a l : Nat} (h : ¬ (en_of F x a l).1 = 0) : (en_of F x a l).1 = nI a ∨ (en_of F x a l).1 = nI l ∨ (en_of F x a l).1 = F 0 a := by
  unfold en_of at h ⊢
  by_cases h6 : F 6 x = 0
  · rw [if_neg (not_not_intro h6)] at h ⊢
    by_cases h1 : F 4 x = 1
    · rw [if_pos h1]; exact Or.inl rfl
    · rw [if_neg h1] at h ⊢
      by_cases h2 : F 4 x = 2
      · rw [if_pos h2] at h ⊢
        by_cases h7 : F 7 x = 0
        · rw [if_neg (not_not_intro h7)]; exact Or.inr (Or.inl rfl)
        · rw [if_pos h7] at h
          exact absurd rfl h
      · rw [if_neg h2] at h ⊢
        by_cases h3 : F 4 x = 3
        · rw [if_pos h3]; exact Or.inr (Or.inr rfl)
        · rw [if_neg h3] at h
          exact absurd rfl h
  · rw [if_pos h6] at h
    exact absurd rfl h
/-- what a search leaves -/
def ab_I (F F' : sF) : Prop := F' 0 = F 0 ∧ F' 1 = F 1 ∧ F' 2 = F 2 ∧ F' 3 = F 3 ∧ F' 4 = F 4 ∧ F' 6 = F 6 ∧ F' 8 = F 8
theorem ab_Is {F F' : sF} {na e a l : Nat} (h : ab_I F F') : ab_I F (ab_F2 F' na e a l) := ⟨h.1, h.2.1, h.2.2.1, h.2.2.2.1, h.2.2.2.2.1, h.2.2.2.2.2.1, h.2.2.2.2.2.2⟩
theorem ab_cr {F : sF} {e cc : Nat} (h : 1 ≤ cc ∧ cc ≤ 9999) : 1 ≤ ab_c F e cc ∧ ab_c F e cc ≤ 9999 := by
  unfold ab_c
  split
  · exact h
  · split <;> omega
/-- what is known of levels and exits -/
def lv_wf2 (F : sF) (n ne : Nat) : Prop :=
  (F 0 0 = 0 ∧ F 1 0 = 0) ∧ (∀ a, 1 ≤ a → a ≤ n → ∃ q, F 0 a = nI q ∧ q < a ∧ cN (F 1 q) + 1 = cN (F 1 a) ∧ cN (F 1 a) ≤ 20) ∧
  (∀ a, 1 ≤ a → a ≤ n → ∃ z, F 2 a = nI z ∧ z ≤ 10 ∧ ∀ t, t < z → ∃ x, F 3 (10 * a + t) = nI x ∧ 1 ≤ x ∧ x ≤ ne)
theorem ab_nle {F : sF} {n ne l : Nat} (h : lv_wf2 F n ne) (hl : l ≤ n) (hn : n ≤ 100) : ∀ i, ab_n F l i ≤ l ∧ F 0 (ab_n F l i) = nI (ab_n F l (i + 1)) := by
  have key : ∀ a, a ≤ n → F 0 a = nI (cN (F 0 a)) ∧ cN (F 0 a) ≤ a := fun a ha => by
    rcases Nat.eq_zero_or_pos a with q | q
    · subst q
      rw [h.1.1]
      exact ⟨rfl, Nat.le_refl 0⟩
    · obtain ⟨r, h1, h2, -⟩ := h.2.1 a q ha
      rw [h1, cN, nI_clamp (by omega)]
      exact ⟨rfl, by omega⟩
  intro i
  induction i with
  | zero => exact ⟨Nat.le_refl _, (key l hl).1⟩
  | succ i ih =>
    have h1 : ab_n F l (i + 1) ≤ l := Nat.le_trans (key _ (Nat.le_trans ih.1 hl)).2 ih.1
    exact ⟨h1, (key _ (Nat.le_trans h1 hl)).1⟩
theorem ii_m1 (k : Int32) : k + Int32.ofInt (-1) = k - 1 := by
  rw [show Int32.ofInt (-1) = -1 from by decide, Int32.sub_eq_add_neg]

theorem d_MO_abend_0 : decode b_MO_abend 0 = .ok (.aload_n 0, 1) := by decide +kernel
theorem d_MO_abend_1 : decode b_MO_abend 1 = .ok (.iconst 0, 1) := by decide +kernel
theorem d_MO_abend_2 : decode b_MO_abend 2 = .ok (.putfield 60, 3) := by decide +kernel
theorem d_MO_abend_5 : decode b_MO_abend 5 = .ok (.aload_n 0, 1) := by decide +kernel
theorem d_MO_abend_6 : decode b_MO_abend 6 = .ok (.iload_n 1, 1) := by decide +kernel
theorem d_MO_abend_7 : decode b_MO_abend 7 = .ok (.invokevirtual 67, 3) := by decide +kernel
theorem d_MO_abend_10 : decode b_MO_abend 10 = .ok (.ifCond .ne 6, 3) := by decide +kernel
theorem d_MO_abend_13 : decode b_MO_abend 13 = .ok (.bipush (-2), 2) := by decide +kernel
theorem d_MO_abend_15 : decode b_MO_abend 15 = .ok (.ireturn, 1) := by decide +kernel
theorem d_MO_abend_16 : decode b_MO_abend 16 = .ok (.iload_n 2, 1) := by decide +kernel
theorem d_MO_abend_17 : decode b_MO_abend 17 = .ok (.invokestatic 74, 3) := by decide +kernel
theorem d_MO_abend_20 : decode b_MO_abend 20 = .ok (.ifCond .ne 6, 3) := by decide +kernel
theorem d_MO_abend_23 : decode b_MO_abend 23 = .ok (.bipush (-4), 2) := by decide +kernel
theorem d_MO_abend_25 : decode b_MO_abend 25 = .ok (.ireturn, 1) := by decide +kernel
theorem d_MO_abend_26 : decode b_MO_abend 26 = .ok (.aload_n 0, 1) := by decide +kernel
theorem d_MO_abend_27 : decode b_MO_abend 27 = .ok (.iconst 0, 1) := by decide +kernel
theorem d_MO_abend_28 : decode b_MO_abend 28 = .ok (.putfield 77, 3) := by decide +kernel
theorem d_MO_abend_31 : decode b_MO_abend 31 = .ok (.iload_n 2, 1) := by decide +kernel
theorem d_MO_abend_32 : decode b_MO_abend 32 = .ok (.istore_n 3, 1) := by decide +kernel
theorem d_MO_abend_33 : decode b_MO_abend 33 = .ok (.iconst 0, 1) := by decide +kernel
theorem d_MO_abend_34 : decode b_MO_abend 34 = .ok (.istore 4, 2) := by decide +kernel
theorem d_MO_abend_36 : decode b_MO_abend 36 = .ok (.iconst 0, 1) := by decide +kernel
theorem d_MO_abend_37 : decode b_MO_abend 37 = .ok (.istore 5, 2) := by decide +kernel
theorem d_MO_abend_39 : decode b_MO_abend 39 = .ok (.iload_n 1, 1) := by decide +kernel
theorem d_MO_abend_40 : decode b_MO_abend 40 = .ok (.istore 6, 2) := by decide +kernel
theorem d_MO_abend_42 : decode b_MO_abend 42 = .ok (.iload 6, 2) := by decide +kernel
theorem d_MO_abend_44 : decode b_MO_abend 44 = .ok (.ifCond .eq 148, 3) := by decide +kernel
theorem d_MO_abend_47 : decode b_MO_abend 47 = .ok (.iload 4, 2) := by decide +kernel
theorem d_MO_abend_49 : decode b_MO_abend 49 = .ok (.ifCond .ne 143, 3) := by decide +kernel
theorem d_MO_abend_52 : decode b_MO_abend 52 = .ok (.aload_n 0, 1) := by decide +kernel
theorem d_MO_abend_53 : decode b_MO_abend 53 = .ok (.getfield 16, 3) := by decide +kernel
theorem d_MO_abend_56 : decode b_MO_abend 56 = .ok (.iload 6, 2) := by decide +kernel
theorem d_MO_abend_58 : decode b_MO_abend 58 = .ok (.iaload, 1) := by decide +kernel
theorem d_MO_abend_59 : decode b_MO_abend 59 = .ok (.iconst 1, 1) := by decide +kernel
theorem d_MO_abend_60 : decode b_MO_abend 60 = .ok (.isub, 1) := by decide +kernel
theorem d_MO_abend_61 : decode b_MO_abend 61 = .ok (.istore 7, 2) := by decide +kernel
theorem d_MO_abend_63 : decode b_MO_abend 63 = .ok (.iload 7, 2) := by decide +kernel
theorem d_MO_abend_65 : decode b_MO_abend 65 = .ok (.ifCond .lt 115, 3) := by decide +kernel
theorem d_MO_abend_68 : decode b_MO_abend 68 = .ok (.iload 4, 2) := by decide +kernel
theorem d_MO_abend_70 : decode b_MO_abend 70 = .ok (.ifCond .ne 110, 3) := by decide +kernel
theorem d_MO_abend_73 : decode b_MO_abend 73 = .ok (.aload_n 0, 1) := by decide +kernel
theorem d_MO_abend_74 : decode b_MO_abend 74 = .ok (.getfield 19, 3) := by decide +kernel
theorem d_MO_abend_77 : decode b_MO_abend 77 = .ok (.bipush 10, 2) := by decide +kernel
theorem d_MO_abend_79 : decode b_MO_abend 79 = .ok (.iload 6, 2) := by decide +kernel
theorem d_MO_abend_81 : decode b_MO_abend 81 = .ok (.imul, 1) := by decide +kernel
theorem d_MO_abend_82 : decode b_MO_abend 82 = .ok (.iload 7, 2) := by decide +kernel
theorem d_MO_abend_84 : decode b_MO_abend 84 = .ok (.iadd, 1) := by decide +kernel
theorem d_MO_abend_85 : decode b_MO_abend 85 = .ok (.iaload, 1) := by decide +kernel
theorem d_MO_abend_86 : decode b_MO_abend 86 = .ok (.istore 8, 2) := by decide +kernel
theorem d_MO_abend_88 : decode b_MO_abend 88 = .ok (.aload_n 0, 1) := by decide +kernel
theorem d_MO_abend_89 : decode b_MO_abend 89 = .ok (.getfield 25, 3) := by decide +kernel
theorem d_MO_abend_92 : decode b_MO_abend 92 = .ok (.aload_n 0, 1) := by decide +kernel
theorem d_MO_abend_93 : decode b_MO_abend 93 = .ok (.getfield 77, 3) := by decide +kernel
theorem d_MO_abend_96 : decode b_MO_abend 96 = .ok (.iload 8, 2) := by decide +kernel
theorem d_MO_abend_98 : decode b_MO_abend 98 = .ok (.iastore, 1) := by decide +kernel
theorem d_MO_abend_99 : decode b_MO_abend 99 = .ok (.aload_n 0, 1) := by decide +kernel
theorem d_MO_abend_100 : decode b_MO_abend 100 = .ok (.dup, 1) := by decide +kernel
theorem d_MO_abend_101 : decode b_MO_abend 101 = .ok (.getfield 77, 3) := by decide +kernel
theorem d_MO_abend_104 : decode b_MO_abend 104 = .ok (.iconst 1, 1) := by decide +kernel
theorem d_MO_abend_105 : decode b_MO_abend 105 = .ok (.iadd, 1) := by decide +kernel
theorem d_MO_abend_106 : decode b_MO_abend 106 = .ok (.putfield 77, 3) := by decide +kernel
theorem d_MO_abend_109 : decode b_MO_abend 109 = .ok (.aload_n 0, 1) := by decide +kernel
theorem d_MO_abend_110 : decode b_MO_abend 110 = .ok (.iload 8, 2) := by decide +kernel
theorem d_MO_abend_112 : decode b_MO_abend 112 = .ok (.iload 6, 2) := by decide +kernel
theorem d_MO_abend_114 : decode b_MO_abend 114 = .ok (.iload_n 1, 1) := by decide +kernel
theorem d_MO_abend_115 : decode b_MO_abend 115 = .ok (.invokevirtual 80, 3) := by decide +kernel
theorem d_MO_abend_118 : decode b_MO_abend 118 = .ok (.istore 4, 2) := by decide +kernel
theorem d_MO_abend_120 : decode b_MO_abend 120 = .ok (.iload 4, 2) := by decide +kernel
theorem d_MO_abend_122 : decode b_MO_abend 122 = .ok (.ifCond .eq 18, 3) := by decide +kernel
theorem d_MO_abend_125 : decode b_MO_abend 125 = .ok (.aload_n 0, 1) := by decide +kernel
theorem d_MO_abend_126 : decode b_MO_abend 126 = .ok (.getfield 22, 3) := by decide +kernel
theorem d_MO_abend_129 : decode b_MO_abend 129 = .ok (.iload 8, 2) := by decide +kernel
theorem d_MO_abend_131 : decode b_MO_abend 131 = .ok (.iaload, 1) := by decide +kernel
theorem d_MO_abend_132 : decode b_MO_abend 132 = .ok (.iconst 2, 1) := by decide +kernel
theorem d_MO_abend_133 : decode b_MO_abend 133 = .ok (.if_icmp .ne 7, 3) := by decide +kernel
theorem d_MO_abend_136 : decode b_MO_abend 136 = .ok (.iconst 1, 1) := by decide +kernel
theorem d_MO_abend_137 : decode b_MO_abend 137 = .ok (.goto 4, 3) := by decide +kernel
theorem d_MO_abend_140 : decode b_MO_abend 140 = .ok (.iconst 0, 1) := by decide +kernel
theorem d_MO_abend_141 : decode b_MO_abend 141 = .ok (.istore 5, 2) := by decide +kernel
theorem d_MO_abend_143 : decode b_MO_abend 143 = .ok (.aload_n 0, 1) := by decide +kernel
theorem d_MO_abend_144 : decode b_MO_abend 144 = .ok (.getfield 28, 3) := by decide +kernel
theorem d_MO_abend_147 : decode b_MO_abend 147 = .ok (.iload 8, 2) := by decide +kernel
theorem d_MO_abend_149 : decode b_MO_abend 149 = .ok (.baload, 1) := by decide +kernel
theorem d_MO_abend_150 : decode b_MO_abend 150 = .ok (.ifCond .eq 24, 3) := by decide +kernel
theorem d_MO_abend_153 : decode b_MO_abend 153 = .ok (.iload_n 3, 1) := by decide +kernel
theorem d_MO_abend_154 : decode b_MO_abend 154 = .ok (.bipush 100, 2) := by decide +kernel
theorem d_MO_abend_156 : decode b_MO_abend 156 = .ok (.iadd, 1) := by decide +kernel
theorem d_MO_abend_157 : decode b_MO_abend 157 = .ok (.sipush 9999, 3) := by decide +kernel
theorem d_MO_abend_160 : decode b_MO_abend 160 = .ok (.if_icmp .le 9, 3) := by decide +kernel
theorem d_MO_abend_163 : decode b_MO_abend 163 = .ok (.sipush 9999, 3) := by decide +kernel
theorem d_MO_abend_166 : decode b_MO_abend 166 = .ok (.goto 7, 3) := by decide +kernel
theorem d_MO_abend_169 : decode b_MO_abend 169 = .ok (.iload_n 3, 1) := by decide +kernel
theorem d_MO_abend_170 : decode b_MO_abend 170 = .ok (.bipush 100, 2) := by decide +kernel
theorem d_MO_abend_172 : decode b_MO_abend 172 = .ok (.iadd, 1) := by decide +kernel
theorem d_MO_abend_173 : decode b_MO_abend 173 = .ok (.istore_n 3, 1) := by decide +kernel
theorem d_MO_abend_174 : decode b_MO_abend 174 = .ok (.iinc 7 (-1), 3) := by decide +kernel
theorem d_MO_abend_177 : decode b_MO_abend 177 = .ok (.goto (-114), 3) := by decide +kernel
theorem d_MO_abend_180 : decode b_MO_abend 180 = .ok (.aload_n 0, 1) := by decide +kernel
theorem d_MO_abend_181 : decode b_MO_abend 181 = .ok (.getfield 7, 3) := by decide +kernel
theorem d_MO_abend_184 : decode b_MO_abend 184 = .ok (.iload 6, 2) := by decide +kernel
theorem d_MO_abend_186 : decode b_MO_abend 186 = .ok (.iaload, 1) := by decide +kernel
theorem d_MO_abend_187 : decode b_MO_abend 187 = .ok (.istore 6, 2) := by decide +kernel
theorem d_MO_abend_189 : decode b_MO_abend 189 = .ok (.goto (-147), 3) := by decide +kernel
theorem d_MO_abend_192 : decode b_MO_abend 192 = .ok (.aload_n 0, 1) := by decide +kernel
theorem d_MO_abend_193 : decode b_MO_abend 193 = .ok (.getfield 35, 3) := by decide +kernel
theorem d_MO_abend_196 : decode b_MO_abend 196 = .ok (.iload_n 3, 1) := by decide +kernel
theorem d_MO_abend_197 : decode b_MO_abend 197 = .ok (.dup2, 1) := by decide +kernel
theorem d_MO_abend_198 : decode b_MO_abend 198 = .ok (.iaload, 1) := by decide +kernel
theorem d_MO_abend_199 : decode b_MO_abend 199 = .ok (.iconst 1, 1) := by decide +kernel
theorem d_MO_abend_200 : decode b_MO_abend 200 = .ok (.iadd, 1) := by decide +kernel
theorem d_MO_abend_201 : decode b_MO_abend 201 = .ok (.iastore, 1) := by decide +kernel
theorem d_MO_abend_202 : decode b_MO_abend 202 = .ok (.iload_n 1, 1) := by decide +kernel
theorem d_MO_abend_203 : decode b_MO_abend 203 = .ok (.istore 7, 2) := by decide +kernel
theorem d_MO_abend_205 : decode b_MO_abend 205 = .ok (.iload 7, 2) := by decide +kernel
theorem d_MO_abend_207 : decode b_MO_abend 207 = .ok (.iload 4, 2) := by decide +kernel
theorem d_MO_abend_209 : decode b_MO_abend 209 = .ok (.if_icmp .eq 28, 3) := by decide +kernel
theorem d_MO_abend_212 : decode b_MO_abend 212 = .ok (.iload 5, 2) := by decide +kernel
theorem d_MO_abend_214 : decode b_MO_abend 214 = .ok (.ifCond .ne 23, 3) := by decide +kernel
theorem d_MO_abend_217 : decode b_MO_abend 217 = .ok (.aload_n 0, 1) := by decide +kernel
theorem d_MO_abend_218 : decode b_MO_abend 218 = .ok (.getfield 16, 3) := by decide +kernel
theorem d_MO_abend_221 : decode b_MO_abend 221 = .ok (.iload 7, 2) := by decide +kernel
theorem d_MO_abend_223 : decode b_MO_abend 223 = .ok (.iconst 0, 1) := by decide +kernel
theorem d_MO_abend_224 : decode b_MO_abend 224 = .ok (.iastore, 1) := by decide +kernel
theorem d_MO_abend_225 : decode b_MO_abend 225 = .ok (.aload_n 0, 1) := by decide +kernel
theorem d_MO_abend_226 : decode b_MO_abend 226 = .ok (.getfield 7, 3) := by decide +kernel
theorem d_MO_abend_229 : decode b_MO_abend 229 = .ok (.iload 7, 2) := by decide +kernel
theorem d_MO_abend_231 : decode b_MO_abend 231 = .ok (.iaload, 1) := by decide +kernel
theorem d_MO_abend_232 : decode b_MO_abend 232 = .ok (.istore 7, 2) := by decide +kernel
theorem d_MO_abend_234 : decode b_MO_abend 234 = .ok (.goto (-29), 3) := by decide +kernel
theorem d_MO_abend_237 : decode b_MO_abend 237 = .ok (.iload 4, 2) := by decide +kernel
theorem d_MO_abend_239 : decode b_MO_abend 239 = .ok (.ifCond .ne 7, 3) := by decide +kernel
theorem d_MO_abend_242 : decode b_MO_abend 242 = .ok (.iconst (-1), 1) := by decide +kernel
theorem d_MO_abend_243 : decode b_MO_abend 243 = .ok (.goto 5, 3) := by decide +kernel
theorem d_MO_abend_246 : decode b_MO_abend 246 = .ok (.iload 4, 2) := by decide +kernel
theorem d_MO_abend_248 : decode b_MO_abend 248 = .ok (.ireturn, 1) := by decide +kernel
set_option maxHeartbeats 4000000 in
set_option maxRecDepth 100000 in
theorem c_MO_abend (l : Launch) (D : va_G) (dA : Nat → ClassId) (M : mm_M) (x : Nat) (g : Nat → Nat) (I : sI) (F : sF) (st : sT) (k c0 : Int32) (n ne : Nat) (hn : I 1 = nI n) (hN : n ≤ 100) (hNE : ne ≤ 300) (hwf : lv_wf2 F n ne) (hP : mP dA M x g I F st) : mm_Ci l y_MO_abend w_MO_abend ({ frames := 1, cells := 0, slots := 0, locals := 23 }) 0 0 D vC (tyL dA) [.ref x, .int k, .int c0] M (md_post dA x g (sp_abend k c0 I F st)) := by
  intro sz
  refine mm_start (by decide) (Nat.le_of_ble_eq_true rfl) ?_
  intro p e s m below meth c A Q ls hA hQ S hr hlocks hin hK hw hl
  have hl : lv_has ls 9 [(0, .ref x), (1, .int k), (2, .int c0)] := hl
  refine lv_aload_n S.1 S.2.1 d_MO_abend_0 rfl (lv_at hl 0 rfl) ?_
  refine lv_iconst (v := 0) S.1 S.2.1 d_MO_abend_1 (by decide) ?_
  refine mm_put (C := R_MO) (T := T_MO) (N := 22) (ty := .int) (v := .int 0) S hK.1 hw hP.2.1 rfl in_MO t_MO k_MO n_MO 0 (by decide) gw_370 rfl rfl (by decide +kernel) rfl rfl (Nat.le_of_ble_eq_true rfl) d_MO_abend_2 (fun H locs hw => ?_)
  obtain ⟨M, hw, hP⟩ := md_puti (k := 0) (v := 0) (by decide) hw hP
  refine lv_aload_n S.1 S.2.1 d_MO_abend_5 rfl (lv_at hl 0 rfl) ?_
  refine lv_iload_n S.1 S.2.1 d_MO_abend_6 rfl (lv_at hl 1 rfl) ?_
  refine mm_calli hw (mm_runV (a := x) (As := [.int k]) (rest := []) S hK hw (c_MO_isLevel l D dA _ x g (upd I 0 (0)) F st k hP _) bv_MO_isLevel gw_442 hP.2.1 rfl (⟨rfl, rfl, by decide, by decide, by decide, by decide⟩) hl.1 rfl rfl (Nat.le_of_ble_eq_true rfl) d_MO_abend_7) (fun r1 M2 H locs hp hw => ?_)
  rw [hp.1] at hw
  rcases hp.2 with ⟨rfl, hc3⟩ | ⟨rfl, hc3⟩
  · have hc3 : is_ok (I 1) (k) := hc3
    obtain ⟨j4, ekj4, hlj4, hhj4, enj4⟩ := is_of (N := n) hn (by omega) hc3
    refine lv_if_ne (tgt := 16) S.1 S.2.1 d_MO_abend_10 (by decide) (fun c10 => ?_) (fun c10 => absurd c10 (by decide))
    refine lv_iload_n S.1 S.2.1 d_MO_abend_16 rfl (lv_at hl 2 rfl) ?_
    refine mm_calli hw (mm_runS (As := [.int c0]) (rest := []) S hK hw (c_MO_isCode l D dA _ c0 _) bs_MO_isCode gw_458 (⟨rfl, rfl, by decide, by decide, by decide, by decide⟩) hl.1 rfl rfl (Nat.le_of_ble_eq_true rfl) d_MO_abend_17) (fun r5 M6 H locs hp hw => ?_)
    rw [hp.1] at hw
    rcases hp.2 with ⟨rfl, hc7⟩ | ⟨rfl, hc7⟩
    · obtain ⟨j8, ekj8, hlj8, hhj8, enj8⟩ := is_of (N := 9999) rfl (by omega) hc7
      refine lv_if_ne (tgt := 26) S.1 S.2.1 d_MO_abend_20 (by decide) (fun c20 => ?_) (fun c20 => absurd c20 (by decide))
      refine lv_aload_n S.1 S.2.1 d_MO_abend_26 rfl (lv_at hl 0 rfl) ?_
      refine lv_iconst (v := 0) S.1 S.2.1 d_MO_abend_27 (by decide) ?_
      refine mm_put (C := R_MO) (T := T_MO) (N := 22) (ty := .int) (v := .int 0) S hK.1 hw hP.2.1 rfl in_MO t_MO k_MO n_MO 5 (by decide) gw_375 rfl rfl (by decide +kernel) rfl rfl (Nat.le_of_ble_eq_true rfl) d_MO_abend_28 (fun H locs hw => ?_)
      obtain ⟨M, hw, hP⟩ := md_puti (k := 5) (v := 0) (by decide) hw hP
      obtain ⟨lv, ek, hlv1, hlvn, hcl⟩ : ∃ lv, k = nI lv ∧ 1 ≤ lv ∧ lv ≤ n ∧ cN k = lv := ⟨j4, ekj4, hlj4, hhj4, enj4⟩
      obtain ⟨cc0, ec, hc1, hc2, hcc⟩ : ∃ cc, c0 = nI cc ∧ 1 ≤ cc ∧ cc ≤ 9999 ∧ cN c0 = cc := ⟨j8, ekj8, hlj8, hhj8, enj8⟩
      subst ek; subst ec
      have hab := ab_nle hwf hlvn hN
      have hf10 : cN (F 1 0) = 0 := by rw [hwf.1.2]; rfl
      have hd20 : 0 + 10 * cN (F 1 lv) ≤ 200 + 10 * cN (F 1 0) := by
        obtain ⟨_, _, _, _, h9⟩ := hwf.2.1 lv hlv1 hlvn
        omega
      have hS : sp_abend (nI lv) (nI cc0) I F st = (fun q : sQ => (if q.1 = 0 then -1 else q.1, upd (upd I 0 0) 5 (nI q.2.1), va_up (va_up q.2.2.1 8 (upd (q.2.2.1 8) q.2.2.2 (q.2.2.1 8 q.2.2.2 + 1))) 2 (ab_z q.1 F 101 lv (F 2)), st)) (ab_u lv 101 lv 0 F cc0) := by
        simp only [sp_abend, eq_false c10, eq_false c20, eq_true hc3, eq_true hc7, not_true_eq_false, not_false_eq_true, and_true, true_and, and_false, false_and, and_self, or_true, true_or, or_false, false_or, or_self, ↓reduceIte, hcl, hcc]
      have J : ∀ (na cc jj : Nat) (F' : sF) (en rts : Int32) (M : mm_M) (H : Heap) (locs : List Loc) (ls : Array Slot), ab_I F F' → 1 ≤ cc → cc ≤ 9999 → jj ≤ 100 → en = nI (ab_n F lv jj) → (rts = 0 ∨ en = nI lv) → mm_w D vC A s.heap M H locs → mP dA M x g (upd (upd I 0 0) 5 (nI na)) F' st → ab_u lv 101 lv 0 F cc0 = (en, na, F', cc) → lv_has ls 9 [(3, .int (nI cc)), (4, .int en), (5, .int rts), (0, .ref x), (1, .int (nI lv)), (2, .int (nI cc0))] → W p l e ({ frames := 1, cells := 0, slots := 0, locals := 23 }) s m [.ref x, .int (nI lv), .int (nI cc0)].toArray below meth c H locs 0 0 Q (F0 m 192 ls []) := by
        intro na cc jj F' en rts M H locs ls hI hc3 hc4 hjj hen hrt hw hP hs hl
        refine lv_aload_n S.1 S.2.1 d_MO_abend_192 rfl (lv_at hl 3 rfl) ?_
        refine mm_get (C := R_MO) (T := T_MO) (N := 22) (v := .ref (g 8)) S hK.1 hw hP.2.1 rfl in_MO 14 (by decide) gw_384 rfl rfl d_MO_abend_193 ?_
        refine lv_iload_n S.1 S.2.1 d_MO_abend_196 rfl (lv_at hl 0 rfl) ?_
        refine lv_dup2_11 S.1 S.2.1 d_MO_abend_197 rfl rfl ?_
        refine mn_iald (j := cc) (n := 10000) (f := F' 8) S hK.1 hw 0 (mP_a (k := 8) (F := F') hP (by decide) (by decide)) rfl (rfl) (by omega) (by decide) d_MO_abend_198 ?_
        refine lv_iconst (v := 1) S.1 S.2.1 d_MO_abend_199 (by decide) ?_
        refine lv_iadd S.1 S.2.1 d_MO_abend_200 ?_
        refine mn_iast (j := cc) (n := 10000) (f := F' 8) S hK.1 hw 0 (mP_a (k := 8) (F := F') hP (by decide) (by decide)) rfl (rfl) (by omega) (by decide) d_MO_abend_201 (fun H locs hw => ?_)
        obtain ⟨M, hw, hP⟩ := md_ast (k := 8) (j := cc) (v := (((F' 8) (cc)) + 1)) (F := F') (by decide) (by decide) hw hP
        refine lv_iload_n S.1 S.2.1 d_MO_abend_202 rfl (lv_at hl 4 rfl) ?_
        refine lv_istore (lv' := [(7, .int (nI lv)), (3, .int (nI cc)), (4, .int en), (5, .int rts), (0, .ref x), (1, .int (nI lv)), (2, .int (nI cc0))]) S.1 S.2.1 d_MO_abend_203 hl (by decide) rfl (fun ls hl => ?_)
        have hP : mP dA M x g (upd (upd I 0 0) 5 (nI na)) (va_up (va_up F' 8 (upd (F' 8) cc (F' 8 cc + 1))) 2 (F 2)) st := by rw [← hI.2.2.1, show F' 2 = (va_up F' 8 (upd (F' 8) cc (F' 8 cc + 1))) 2 from rfl, va_up_same]; exact hP
        have L : ∀ (mm i f : Nat) (z : Nat → Int32) (M : mm_M) (H : Heap) (locs : List Loc) (ls : Array Slot), i + mm = jj → mm < f → (rts = 0 ∨ nI (ab_n F lv i) = en) → mm_w D vC A s.heap M H locs → mP dA M x g (upd (upd I 0 0) 5 (nI na)) (va_up (va_up F' 8 (upd (F' 8) cc (F' 8 cc + 1))) 2 z) st → ab_z en F 101 lv (F 2) = ab_z en F f (ab_n F lv i) z → lv_has ls 9 [(3, .int (nI cc)), (4, .int en), (5, .int rts), (7, .int (nI (ab_n F lv i))), (0, .ref x), (1, .int (nI lv)), (2, .int (nI cc0))] → W p l e ({ frames := 1, cells := 0, slots := 0, locals := 23 }) s m [.ref x, .int (nI lv), .int (nI cc0)].toArray below meth c H locs 0 0 Q (F0 m 205 ls []) := by
          intro mm
          induction mm with
          | zero =>
            intro i f z M H locs ls hi hf hr9 hw hP hz hl
            obtain ⟨f, rfl⟩ : ∃ f0, f = f0 + 1 := ⟨f - 1, by omega⟩
            obtain rfl : i = jj := by omega
            refine lv_iload S.1 S.2.1 d_MO_abend_205 (lv_at hl 3 rfl) ?_
            refine lv_iload S.1 S.2.1 d_MO_abend_207 (lv_at hl 1 rfl) ?_
            refine lv_icmp_eq (tgt := 237) S.1 S.2.1 d_MO_abend_209 (by decide) (fun c209 => ?_) (fun c209 => absurd hen.symm c209)
            refine lv_iload S.1 S.2.1 d_MO_abend_237 (lv_at hl 1 rfl) ?_
            refine lv_if_ne (tgt := 246) S.1 S.2.1 d_MO_abend_239 (by decide) (fun c239 => ?_) (fun c239 => ?_)
            · refine lv_iload S.1 S.2.1 d_MO_abend_246 (lv_at hl 1 rfl) ?_
              exact mm_reti S.1 S.2.1 hr hlocks hA hQ hw (md_done hP (hS.trans (by rw [hs]; show (_, _, _, _) = (_, _, _, _); rw [hz, ab_z, if_pos (hen.symm)]; simp only [eq_false c239, ↓reduceIte]))) (Nat.le_of_ble_eq_true rfl) (Nat.le_of_ble_eq_true rfl) d_MO_abend_248
            · refine lv_iconst (v := (-1)) S.1 S.2.1 d_MO_abend_242 (by decide) ?_
              refine lv_goto (tgt := 248) S.1 S.2.1 d_MO_abend_243 (by decide) ?_
              exact mm_reti S.1 S.2.1 hr hlocks hA hQ hw (md_done hP (hS.trans (by rw [hs]; show (_, _, _, _) = (_, _, _, _); rw [hz, ab_z, if_pos (hen.symm)]; simp only [eq_true c239, ↓reduceIte]))) (Nat.le_of_ble_eq_true rfl) (Nat.le_of_ble_eq_true rfl) d_MO_abend_248
          | succ mm ih =>
            intro i f z M H locs ls hi hf hr9 hw hP hz hl
            obtain ⟨f, rfl⟩ : ∃ f0, f = f0 + 1 := ⟨f - 1, by omega⟩
            refine lv_iload S.1 S.2.1 d_MO_abend_205 (lv_at hl 3 rfl) ?_
            refine lv_iload S.1 S.2.1 d_MO_abend_207 (lv_at hl 1 rfl) ?_
            refine lv_icmp_eq (tgt := 237) S.1 S.2.1 d_MO_abend_209 (by decide) (fun c209 => ?_) (fun c209 => ?_)
            · refine lv_iload S.1 S.2.1 d_MO_abend_237 (lv_at hl 1 rfl) ?_
              refine lv_if_ne (tgt := 246) S.1 S.2.1 d_MO_abend_239 (by decide) (fun c239 => ?_) (fun c239 => ?_)
              · refine lv_iload S.1 S.2.1 d_MO_abend_246 (lv_at hl 1 rfl) ?_
                exact mm_reti S.1 S.2.1 hr hlocks hA hQ hw (md_done hP (hS.trans (by rw [hs]; show (_, _, _, _) = (_, _, _, _); rw [hz, ab_z, if_pos c209]; simp only [eq_false c239, ↓reduceIte]))) (Nat.le_of_ble_eq_true rfl) (Nat.le_of_ble_eq_true rfl) d_MO_abend_248
              · refine lv_iconst (v := (-1)) S.1 S.2.1 d_MO_abend_242 (by decide) ?_
                refine lv_goto (tgt := 248) S.1 S.2.1 d_MO_abend_243 (by decide) ?_
                exact mm_reti S.1 S.2.1 hr hlocks hA hQ hw (md_done hP (hS.trans (by rw [hs]; show (_, _, _, _) = (_, _, _, _); rw [hz, ab_z, if_pos c209]; simp only [eq_true c239, ↓reduceIte]))) (Nat.le_of_ble_eq_true rfl) (Nat.le_of_ble_eq_true rfl) d_MO_abend_248
            · refine lv_iload S.1 S.2.1 d_MO_abend_212 (lv_at hl 2 rfl) ?_
              refine lv_if_ne (tgt := 237) S.1 S.2.1 d_MO_abend_214 (by decide) (fun c214 => absurd (hr9.resolve_right c209) c214) (fun c214 => ?_)
              have hr0 : rts = 0 := hr9.resolve_right c209
              refine lv_aload_n S.1 S.2.1 d_MO_abend_217 rfl (lv_at hl 4 rfl) ?_
              refine mm_get (C := R_MO) (T := T_MO) (N := 22) (v := .ref (g 2)) S hK.1 hw hP.2.1 rfl in_MO 8 (by decide) gw_378 rfl rfl d_MO_abend_218 ?_
              refine lv_iload S.1 S.2.1 d_MO_abend_221 (lv_at hl 3 rfl) ?_
              refine lv_iconst (v := 0) S.1 S.2.1 d_MO_abend_223 (by decide) ?_
              refine mn_iast (j := ab_n F lv i) (n := 101) (f := z) S hK.1 hw 0 (mP_a (k := 2) (F := (va_up (va_up F' 8 (upd (F' 8) cc (F' 8 cc + 1))) 2 z)) hP (by decide) (by decide)) rfl (rfl) (by have := (hab i).1; omega) (by decide) d_MO_abend_224 (fun H locs hw => ?_)
              obtain ⟨M, hw, hP⟩ := md_ast (k := 2) (j := ab_n F lv i) (v := 0) (F := (va_up (va_up F' 8 (upd (F' 8) cc (F' 8 cc + 1))) 2 z)) (by decide) (by decide) hw hP
              refine lv_aload_n S.1 S.2.1 d_MO_abend_225 rfl (lv_at hl 4 rfl) ?_
              refine mm_get (C := R_MO) (T := T_MO) (N := 22) (v := .ref (g 0)) S hK.1 hw hP.2.1 rfl in_MO 6 (by decide) gw_376 rfl rfl d_MO_abend_226 ?_
              refine lv_iload S.1 S.2.1 d_MO_abend_229 (lv_at hl 3 rfl) ?_
              refine mn_iald (j := ab_n F lv i) (n := 101) (f := F' 0) S hK.1 hw 0 (mP_a (k := 0) (F := (va_up (va_up (va_up F' 8 (upd (F' 8) cc (F' 8 cc + 1))) 2 z) 2 (upd (z) (ab_n F lv i) (0)))) hP (by decide) (by decide)) rfl (rfl) (by have := (hab i).1; omega) (by decide) d_MO_abend_231 ?_
              rw [show F' 0 (ab_n F lv i) = nI (ab_n F lv (i + 1)) from by rw [hI.1]; exact (hab i).2]
              refine lv_istore (lv' := [(7, .int (nI (ab_n F lv (i + 1)))), (3, .int (nI cc)), (4, .int en), (5, .int rts), (0, .ref x), (1, .int (nI lv)), (2, .int (nI cc0))]) S.1 S.2.1 d_MO_abend_232 hl (by decide) rfl (fun ls hl => ?_)
              refine lv_goto (tgt := 205) S.1 S.2.1 d_MO_abend_234 (by decide) ?_
              rw [bx_uu, va_up_self] at hP
              exact ih (i + 1) f (upd z (ab_n F lv i) 0) M H locs ls (by omega) (by omega) (Or.inl hr0) hw hP (hz.trans (by rw [ab_z, if_neg c209]; rfl)) (lv_sub hl [1, 2, 3, 0, 4, 5, 6] rfl)
        exact L jj 0 101 (F 2) M H locs ls (by omega) (by omega) (hrt.elim Or.inl (fun q => Or.inr q.symm)) hw hP rfl (lv_sub hl [1, 2, 3, 0, 4, 5, 6] rfl)
      refine lv_iload_n S.1 S.2.1 d_MO_abend_31 rfl (lv_at hl 2 rfl) ?_
      refine lv_istore_n (lv' := [(3, .int (nI cc0)), (0, .ref x), (1, .int (nI lv)), (2, .int (nI cc0))]) S.1 S.2.1 d_MO_abend_32 rfl hl (by decide) rfl (fun ls hl => ?_)
      refine lv_iconst (v := 0) S.1 S.2.1 d_MO_abend_33 (by decide) ?_
      refine lv_istore (lv' := [(4, .int 0), (3, .int (nI cc0)), (0, .ref x), (1, .int (nI lv)), (2, .int (nI cc0))]) S.1 S.2.1 d_MO_abend_34 hl (by decide) rfl (fun ls hl => ?_)
      refine lv_iconst (v := 0) S.1 S.2.1 d_MO_abend_36 (by decide) ?_
      refine lv_istore (lv' := [(5, .int 0), (4, .int 0), (3, .int (nI cc0)), (0, .ref x), (1, .int (nI lv)), (2, .int (nI cc0))]) S.1 S.2.1 d_MO_abend_37 hl (by decide) rfl (fun ls hl => ?_)
      refine lv_iload_n S.1 S.2.1 d_MO_abend_39 rfl (lv_at hl 4 rfl) ?_
      refine lv_istore (lv' := [(6, .int (nI lv)), (5, .int 0), (4, .int 0), (3, .int (nI cc0)), (0, .ref x), (1, .int (nI lv)), (2, .int (nI cc0))]) S.1 S.2.1 d_MO_abend_40 hl (by decide) rfl (fun ls hl => ?_)
      have LO : ∀ (f a na cc j : Nat) (F' : sF) (M : mm_M) (H : Heap) (locs : List Loc) (ls : Array Slot), a < f → a ≤ n → a = ab_n F lv j → j + a ≤ lv → na + 10 * cN (F 1 a) ≤ 200 + 10 * cN (F 1 0) → ab_I F F' → 1 ≤ cc → cc ≤ 9999 → mm_w D vC A s.heap M H locs → mP dA M x g (upd (upd I 0 0) 5 (nI na)) F' st → ab_u lv 101 lv 0 F cc0 = ab_u lv f a na F' cc → lv_has ls 9 [(3, .int (nI cc)), (4, .int 0), (5, .int 0), (6, .int (nI a)), (0, .ref x), (1, .int (nI lv)), (2, .int (nI cc0))] → W p l e ({ frames := 1, cells := 0, slots := 0, locals := 23 }) s m [.ref x, .int (nI lv), .int (nI cc0)].toArray below meth c H locs 0 0 Q (F0 m 42 ls []) := by
        intro f
        induction f with
        | zero => exact fun a na cc j F' M H locs ls h => absurd h (Nat.not_lt_zero _)
        | succ f ihO =>
          intro a na cc j F' M H locs ls haf han haj hja hna hI hc3 hc4 hw hP hs hl
          refine lv_iload S.1 S.2.1 d_MO_abend_42 (lv_at hl 3 rfl) ?_
          refine lv_if_eq (tgt := 192) S.1 S.2.1 d_MO_abend_44 (by decide) (fun c44 => ?_) (fun c44 => ?_)
          · have c44' : a = 0 := by
              rcases Nat.eq_zero_or_pos a with q | q
              · exact q
              · exact absurd c44 (nI_ne0 q (by omega))
            rw [c44'] at hs
            exact J na cc j F' 0 0 M H locs ls hI hc3 hc4 (by omega) (by rw [← haj, c44']; rfl) (Or.inl rfl) hw hP (hs.trans (by rw [ab_u, if_pos rfl])) (lv_sub hl [0, 1, 2, 4, 5, 6] rfl)
          · have ha0 : a ≠ 0 := fun q => c44 (by rw [q]; rfl)
            obtain ⟨pa, hpe, hpa, hpd, hp20⟩ := hwf.2.1 a (by omega) han
            obtain ⟨z, hze, hz10, hzr⟩ := hwf.2.2 a (by omega) han
            have hpc : cN (F 0 a) = pa := by rw [hpe, cN, nI_clamp (by omega)]
            have hzc : cN (F 2 a) = z := by rw [hze, cN, nI_clamp (by omega)]
            have hs : ab_u lv 101 lv 0 F cc0 = ab_k lv f (cN (F 0 a)) (ab_r lv a z na F' cc) := hs.trans (by rw [ab_u_s ha0, hI.1, hI.2.2.1, hzc])
            refine lv_iload S.1 S.2.1 d_MO_abend_47 (lv_at hl 1 rfl) ?_
            refine lv_if_ne (tgt := 192) S.1 S.2.1 d_MO_abend_49 (by decide) (fun c49 => absurd c49 (by decide)) (fun c49 => ?_)
            refine lv_aload_n S.1 S.2.1 d_MO_abend_52 rfl (lv_at hl 4 rfl) ?_
            refine mm_get (C := R_MO) (T := T_MO) (N := 22) (v := .ref (g 2)) S hK.1 hw hP.2.1 rfl in_MO 8 (by decide) gw_378 rfl rfl d_MO_abend_53 ?_
            refine lv_iload S.1 S.2.1 d_MO_abend_56 (lv_at hl 3 rfl) ?_
            refine mn_iald (j := a) (n := 101) (f := F' 2) S hK.1 hw 0 (mP_a (k := 2) (F := F') hP (by decide) (by decide)) rfl (rfl) (by omega) (by decide) d_MO_abend_58 ?_
            rw [show F' 2 a = nI z from by rw [hI.2.2.1]; exact hze]
            refine lv_iconst (v := 1) S.1 S.2.1 d_MO_abend_59 (by decide) ?_
            refine lv_isub S.1 S.2.1 d_MO_abend_60 ?_
            refine lv_istore (lv' := [(7, .int ((nI z) - 1)), (3, .int (nI cc)), (4, .int 0), (5, .int 0), (6, .int (nI a)), (0, .ref x), (1, .int (nI lv)), (2, .int (nI cc0))]) S.1 S.2.1 d_MO_abend_61 hl (by decide) rfl (fun ls hl => ?_)
            have LI : ∀ (kk na cc : Nat) (F' : sF) (M : mm_M) (H : Heap) (locs : List Loc) (ls : Array Slot), kk ≤ z → na + kk + 10 * cN (F 1 pa) ≤ 200 + 10 * cN (F 1 0) → ab_I F F' → 1 ≤ cc → cc ≤ 9999 → mm_w D vC A s.heap M H locs → mP dA M x g (upd (upd I 0 0) 5 (nI na)) F' st → ab_u lv 101 lv 0 F cc0 = ab_k lv f (cN (F 0 a)) (ab_r lv a kk na F' cc) → lv_has ls 9 [(3, .int (nI cc)), (4, .int 0), (5, .int 0), (6, .int (nI a)), (7, .int (nI kk - 1)), (0, .ref x), (1, .int (nI lv)), (2, .int (nI cc0))] → W p l e ({ frames := 1, cells := 0, slots := 0, locals := 23 }) s m [.ref x, .int (nI lv), .int (nI cc0)].toArray below meth c H locs 0 0 Q (F0 m 63 ls []) := by
              clear hs hna hI hc3 hc4 hw hP hl
              intro kk
              induction kk with
              | zero =>
                intro na cc F' M H locs ls hkz hna hI hc3 hc4 hw hP hs hl
                refine lv_iload S.1 S.2.1 d_MO_abend_63 (lv_at hl 4 rfl) ?_
                refine lv_if_lt (tgt := 180) S.1 S.2.1 d_MO_abend_65 (by decide) (fun c65 => ?_) (fun c65 => absurd (by decide) c65)
                refine lv_aload_n S.1 S.2.1 d_MO_abend_180 rfl (lv_at hl 5 rfl) ?_
                refine mm_get (C := R_MO) (T := T_MO) (N := 22) (v := .ref (g 0)) S hK.1 hw hP.2.1 rfl in_MO 6 (by decide) gw_376 rfl rfl d_MO_abend_181 ?_
                refine lv_iload S.1 S.2.1 d_MO_abend_184 (lv_at hl 3 rfl) ?_
                refine mn_iald (j := a) (n := 101) (f := F' 0) S hK.1 hw 0 (mP_a (k := 0) (F := F') hP (by decide) (by decide)) rfl (rfl) (by omega) (by decide) d_MO_abend_186 ?_
                rw [show ((F' 0) (a)) = F 0 a from congrFun hI.1 a]
                refine lv_istore (lv' := [(6, .int (F 0 a)), (3, .int (nI cc)), (4, .int 0), (5, .int 0), (7, .int (nI 0 - 1)), (0, .ref x), (1, .int (nI lv)), (2, .int (nI cc0))]) S.1 S.2.1 d_MO_abend_187 hl (by decide) rfl (fun ls hl => ?_)
                refine lv_goto (tgt := 42) S.1 S.2.1 d_MO_abend_189 (by decide) ?_
                exact ihO pa na cc (j + 1) F' M H locs ls (by omega) (by omega) (by rw [ab_n, ← haj, hpc]) (by omega) (by omega) hI hc3 hc4 hw hP (hs.trans (by rw [ab_r, hpc]; rfl)) (by rw [← hpe]; exact lv_sub hl [1, 2, 3, 0, 5, 6, 7] rfl)
              | succ kk ihI =>
                intro na cc F' M H locs ls hkz hna hI hc3 hc4 hw hP hs hl
                rw [nI_pred] at hl
                refine lv_iload S.1 S.2.1 d_MO_abend_63 (lv_at hl 4 rfl) ?_
                refine lv_if_lt (tgt := 180) S.1 S.2.1 d_MO_abend_65 (by decide) (fun c65 => absurd c65 (nI_pos (by omega))) (fun c65 => ?_)
                refine lv_iload S.1 S.2.1 d_MO_abend_68 (lv_at hl 1 rfl) ?_
                refine lv_if_ne (tgt := 180) S.1 S.2.1 d_MO_abend_70 (by decide) (fun c70 => absurd c70 (by decide)) (fun c70 => ?_)
                refine lv_aload_n S.1 S.2.1 d_MO_abend_73 rfl (lv_at hl 5 rfl) ?_
                refine mm_get (C := R_MO) (T := T_MO) (N := 22) (v := .ref (g 3)) S hK.1 hw hP.2.1 rfl in_MO 9 (by decide) gw_379 rfl rfl d_MO_abend_74 ?_
                refine lv_bipush (v := 10) S.1 S.2.1 d_MO_abend_77 (by decide) ?_
                refine lv_iload S.1 S.2.1 d_MO_abend_79 (lv_at hl 3 rfl) ?_
                refine lv_imul S.1 S.2.1 d_MO_abend_81 ?_
                refine lv_iload S.1 S.2.1 d_MO_abend_82 (lv_at hl 4 rfl) ?_
                refine lv_iadd S.1 S.2.1 d_MO_abend_84 ?_
                refine mn_iald (j := 10 * a + kk) (n := 1010) (f := F' 3) S hK.1 hw 0 (mP_a (k := 3) (F := F') hP (by decide) (by decide)) rfl (by rw [show (10 : Int32) = nI 10 from rfl, pk_mul, nI_add]) (by omega) (by decide) d_MO_abend_85 ?_
                obtain ⟨x0, hx0F, hx01, hx0n⟩ := hzr kk (by omega)
                have hx0 : F' 3 (10 * a + kk) = nI x0 := by rw [hI.2.2.2.1]; exact hx0F
                rw [hx0]
                refine lv_istore (lv' := [(8, .int (nI x0)), (3, .int (nI cc)), (4, .int 0), (5, .int 0), (6, .int (nI a)), (7, .int (nI kk)), (0, .ref x), (1, .int (nI lv)), (2, .int (nI cc0))]) S.1 S.2.1 d_MO_abend_86 hl (by decide) rfl (fun ls hl => ?_)
                refine lv_aload_n S.1 S.2.1 d_MO_abend_88 rfl (lv_at hl 6 rfl) ?_
                refine mm_get (C := R_MO) (T := T_MO) (N := 22) (v := .ref (g 5)) S hK.1 hw hP.2.1 rfl in_MO 11 (by decide) gw_381 rfl rfl d_MO_abend_89 ?_
                refine lv_aload_n S.1 S.2.1 d_MO_abend_92 rfl (lv_at hl 6 rfl) ?_
                refine mm_get (C := R_MO) (T := T_MO) (N := 22) (v := .int (nI na)) S hK.1 hw hP.2.1 rfl in_MO 5 (by decide) gw_375 rfl rfl d_MO_abend_93 ?_
                refine lv_iload S.1 S.2.1 d_MO_abend_96 (lv_at hl 0 rfl) ?_
                refine mn_iast (j := na) (n := 301) (f := F' 5) S hK.1 hw 0 (mP_a (k := 5) (F := F') hP (by decide) (by decide)) rfl (rfl) (by omega) (by decide) d_MO_abend_98 (fun H locs hw => ?_)
                obtain ⟨M, hw, hP⟩ := md_ast (k := 5) (j := na) (v := (nI x0)) (F := F') (by decide) (by decide) hw hP
                refine lv_aload_n S.1 S.2.1 d_MO_abend_99 rfl (lv_at hl 6 rfl) ?_
                refine lv_dup S.1 S.2.1 d_MO_abend_100 rfl ?_
                refine mm_get (C := R_MO) (T := T_MO) (N := 22) (v := .int (nI na)) S hK.1 hw hP.2.1 rfl in_MO 5 (by decide) gw_375 rfl rfl d_MO_abend_101 ?_
                refine lv_iconst (v := 1) S.1 S.2.1 d_MO_abend_104 (by decide) ?_
                refine lv_iadd S.1 S.2.1 d_MO_abend_105 ?_
                refine mm_put (C := R_MO) (T := T_MO) (N := 22) (ty := .int) (v := .int ((nI na) + 1)) S hK.1 hw hP.2.1 rfl in_MO t_MO k_MO n_MO 5 (by decide) gw_375 rfl rfl (by decide +kernel) rfl rfl (Nat.le_of_ble_eq_true rfl) d_MO_abend_106 (fun H locs hw => ?_)
                obtain ⟨M, hw, hP⟩ := md_puti (k := 5) (v := ((nI na) + 1)) (by decide) hw hP
                rw [up_uu, nI_1] at hP
                refine lv_aload_n S.1 S.2.1 d_MO_abend_109 rfl (lv_at hl 6 rfl) ?_
                refine lv_iload S.1 S.2.1 d_MO_abend_110 (lv_at hl 0 rfl) ?_
                refine lv_iload S.1 S.2.1 d_MO_abend_112 (lv_at hl 4 rfl) ?_
                refine lv_iload_n S.1 S.2.1 d_MO_abend_114 rfl (lv_at hl 7 rfl) ?_
                refine mm_calli hw (mm_runV (a := x) (As := [.int (nI x0), .int (nI a), .int (nI lv)]) (rest := []) S hK hw (c_MO_endOf l D dA _ x g (upd (upd I 0 0) 5 (nI (na + 1))) (ab_F1 F' na x0) st x0 a lv (by omega) (by omega) hP _) bv_MO_endOf gw_461 hP.2.1 rfl (⟨rfl, rfl, by decide, by decide, by decide, by decide⟩) hl.1 rfl rfl (Nat.le_of_ble_eq_true rfl) d_MO_abend_115) (fun r9 M10 H locs hp hw => ?_)
                obtain ⟨rfl, hP⟩ := hp
                refine lv_istore (lv' := [(4, .int (en_of (ab_F1 F' na x0) x0 a lv).1), (8, .int (nI x0)), (3, .int (nI cc)), (5, .int 0), (6, .int (nI a)), (7, .int (nI kk)), (0, .ref x), (1, .int (nI lv)), (2, .int (nI cc0))]) S.1 S.2.1 d_MO_abend_118 hl (by decide) rfl (fun ls hl => ?_)
                refine lv_iload S.1 S.2.1 d_MO_abend_120 (lv_at hl 0 rfl) ?_
                refine lv_if_eq (tgt := 140) S.1 S.2.1 d_MO_abend_122 (by decide) (fun c122 => ?_) (fun c122 => ?_)
                · refine lv_iconst (v := 0) S.1 S.2.1 d_MO_abend_140 (by decide) ?_
                  refine lv_istore (lv' := [(5, .int 0), (4, .int (en_of (ab_F1 F' na x0) x0 a lv).1), (8, .int (nI x0)), (3, .int (nI cc)), (6, .int (nI a)), (7, .int (nI kk)), (0, .ref x), (1, .int (nI lv)), (2, .int (nI cc0))]) S.1 S.2.1 d_MO_abend_141 hl (by decide) rfl (fun ls hl => ?_)
                  refine lv_aload_n S.1 S.2.1 d_MO_abend_143 rfl (lv_at hl 6 rfl) ?_
                  refine mm_get (C := R_MO) (T := T_MO) (N := 22) (v := .ref (g 6)) S hK.1 hw hP.2.1 rfl in_MO 12 (by decide) gw_382 rfl rfl d_MO_abend_144 ?_
                  refine lv_iload S.1 S.2.1 d_MO_abend_147 (lv_at hl 2 rfl) ?_
                  refine mn_zald (j := x0) (n := 301) (f := F' 6) S hK.1 hw 2 (mP_a (k := 6) (F := (ab_F2 F' na x0 a lv)) hP (by decide) (by decide)) rfl (rfl) (by omega) (by decide) d_MO_abend_149 ?_
                  refine lv_if_eq (tgt := 174) S.1 S.2.1 d_MO_abend_150 (by decide) (fun c150 => ?_) (fun c150 => ?_)
                  · have ecc : nI (ab_c F' x0 cc) = (nI cc) := by
                      rw [ab_c, if_pos c150]
                    have hl : lv_has ls 9 [(5, .int 0), (4, .int (en_of (ab_F1 F' na x0) x0 a lv).1), (8, .int (nI x0)), (3, .int (nI (ab_c F' x0 cc))), (6, .int (nI a)), (7, .int (nI kk)), (0, .ref x), (1, .int (nI lv)), (2, .int (nI cc0))] := by rw [ecc]; exact hl
                    refine lv_iinc (v := (nI kk - 1)) (lv' := [(7, .int (nI kk - 1)), (5, .int 0), (4, .int (en_of (ab_F1 F' na x0) x0 a lv).1), (8, .int (nI x0)), (3, .int (nI (ab_c F' x0 cc))), (6, .int (nI a)), (0, .ref x), (1, .int (nI lv)), (2, .int (nI cc0))]) S.1 S.2.1 d_MO_abend_174 hl (k := 5) rfl (ii_m1 _) (by decide) rfl (fun ls hl => ?_)
                    refine lv_goto (tgt := 63) S.1 S.2.1 d_MO_abend_177 (by decide) ?_
                    rw [c122] at hl
                    exact ihI (na + 1) (ab_c F' x0 cc) (ab_F2 F' na x0 a lv) _ H locs ls (by omega) (by omega) (ab_Is hI) (ab_cr ⟨hc3, hc4⟩).1 (ab_cr ⟨hc3, hc4⟩).2 hw hP (hs.trans (by rw [ab_r_s hx0 (by omega), if_pos c122])) (lv_sub hl [4, 2, 1, 5, 0, 6, 7, 8] rfl)
                  · refine lv_iload_n S.1 S.2.1 d_MO_abend_153 rfl (lv_at hl 3 rfl) ?_
                    refine lv_bipush (v := 100) S.1 S.2.1 d_MO_abend_154 (by decide) ?_
                    refine lv_iadd S.1 S.2.1 d_MO_abend_156 ?_
                    refine W.eq (g2 := F0 m 157 ls (.int (nI (cc + 100)) :: [])) (by rw [show ((nI cc) + 100) = (nI (cc + 100)) from nI_add cc 100]) ?_
                    refine lv_sipush (v := 9999) S.1 S.2.1 d_MO_abend_157 (by decide) ?_
                    refine lv_icmp_le (tgt := 169) S.1 S.2.1 d_MO_abend_160 (by decide) (fun c160 => ?_) (fun c160 => ?_)
                    · refine lv_iload_n S.1 S.2.1 d_MO_abend_169 rfl (lv_at hl 3 rfl) ?_
                      refine lv_bipush (v := 100) S.1 S.2.1 d_MO_abend_170 (by decide) ?_
                      refine lv_iadd S.1 S.2.1 d_MO_abend_172 ?_
                      refine W.eq (g2 := F0 m 173 ls (.int (nI (cc + 100)) :: [])) (by rw [show ((nI cc) + 100) = (nI (cc + 100)) from nI_add cc 100]) ?_
                      refine lv_istore_n (lv' := [(3, .int (nI (cc + 100))), (5, .int 0), (4, .int (en_of (ab_F1 F' na x0) x0 a lv).1), (8, .int (nI x0)), (6, .int (nI a)), (7, .int (nI kk)), (0, .ref x), (1, .int (nI lv)), (2, .int (nI cc0))]) S.1 S.2.1 d_MO_abend_173 rfl hl (by decide) rfl (fun ls hl => ?_)
                      have ecc : nI (ab_c F' x0 cc) = (nI (cc + 100)) := by
                        rw [ab_c, if_neg c150, if_pos ((nI_leI (by omega) (by decide)).mp (show nI (cc + 100) ≤ nI 9999 from c160))]
                      have hl : lv_has ls 9 [(3, .int (nI (ab_c F' x0 cc))), (5, .int 0), (4, .int (en_of (ab_F1 F' na x0) x0 a lv).1), (8, .int (nI x0)), (6, .int (nI a)), (7, .int (nI kk)), (0, .ref x), (1, .int (nI lv)), (2, .int (nI cc0))] := by rw [ecc]; exact hl
                      refine lv_iinc (v := (nI kk - 1)) (lv' := [(7, .int (nI kk - 1)), (3, .int (nI (ab_c F' x0 cc))), (5, .int 0), (4, .int (en_of (ab_F1 F' na x0) x0 a lv).1), (8, .int (nI x0)), (6, .int (nI a)), (0, .ref x), (1, .int (nI lv)), (2, .int (nI cc0))]) S.1 S.2.1 d_MO_abend_174 hl (k := 5) rfl (ii_m1 _) (by decide) rfl (fun ls hl => ?_)
                      refine lv_goto (tgt := 63) S.1 S.2.1 d_MO_abend_177 (by decide) ?_
                      rw [c122] at hl
                      exact ihI (na + 1) (ab_c F' x0 cc) (ab_F2 F' na x0 a lv) _ H locs ls (by omega) (by omega) (ab_Is hI) (ab_cr ⟨hc3, hc4⟩).1 (ab_cr ⟨hc3, hc4⟩).2 hw hP (hs.trans (by rw [ab_r_s hx0 (by omega), if_pos c122])) (lv_sub hl [1, 3, 2, 5, 0, 6, 7, 8] rfl)
                    · refine lv_sipush (v := 9999) S.1 S.2.1 d_MO_abend_163 (by decide) ?_
                      refine lv_goto (tgt := 173) S.1 S.2.1 d_MO_abend_166 (by decide) ?_
                      refine lv_istore_n (lv' := [(3, .int 9999), (5, .int 0), (4, .int (en_of (ab_F1 F' na x0) x0 a lv).1), (8, .int (nI x0)), (6, .int (nI a)), (7, .int (nI kk)), (0, .ref x), (1, .int (nI lv)), (2, .int (nI cc0))]) S.1 S.2.1 d_MO_abend_173 rfl hl (by decide) rfl (fun ls hl => ?_)
                      have ecc : nI (ab_c F' x0 cc) = 9999 := by
                        rw [ab_c, if_neg c150, if_neg (fun q => c160 (show nI (cc + 100) ≤ nI 9999 from (nI_leI (by omega) (by decide)).mpr q))]; rfl
                      have hl : lv_has ls 9 [(3, .int (nI (ab_c F' x0 cc))), (5, .int 0), (4, .int (en_of (ab_F1 F' na x0) x0 a lv).1), (8, .int (nI x0)), (6, .int (nI a)), (7, .int (nI kk)), (0, .ref x), (1, .int (nI lv)), (2, .int (nI cc0))] := by rw [ecc]; exact hl
                      refine lv_iinc (v := (nI kk - 1)) (lv' := [(7, .int (nI kk - 1)), (3, .int (nI (ab_c F' x0 cc))), (5, .int 0), (4, .int (en_of (ab_F1 F' na x0) x0 a lv).1), (8, .int (nI x0)), (6, .int (nI a)), (0, .ref x), (1, .int (nI lv)), (2, .int (nI cc0))]) S.1 S.2.1 d_MO_abend_174 hl (k := 5) rfl (ii_m1 _) (by decide) rfl (fun ls hl => ?_)
                      refine lv_goto (tgt := 63) S.1 S.2.1 d_MO_abend_177 (by decide) ?_
                      rw [c122] at hl
                      exact ihI (na + 1) (ab_c F' x0 cc) (ab_F2 F' na x0 a lv) _ H locs ls (by omega) (by omega) (ab_Is hI) (ab_cr ⟨hc3, hc4⟩).1 (ab_cr ⟨hc3, hc4⟩).2 hw hP (hs.trans (by rw [ab_r_s hx0 (by omega), if_pos c122])) (lv_sub hl [1, 3, 2, 5, 0, 6, 7, 8] rfl)
                · refine lv_aload_n S.1 S.2.1 d_MO_abend_125 rfl (lv_at hl 6 rfl) ?_
                  refine mm_get (C := R_MO) (T := T_MO) (N := 22) (v := .ref (g 4)) S hK.1 hw hP.2.1 rfl in_MO 10 (by decide) gw_380 rfl rfl d_MO_abend_126 ?_
                  refine lv_iload S.1 S.2.1 d_MO_abend_129 (lv_at hl 1 rfl) ?_
                  refine mn_iald (j := x0) (n := 301) (f := F' 4) S hK.1 hw 0 (mP_a (k := 4) (F := (ab_F2 F' na x0 a lv)) hP (by decide) (by decide)) rfl (rfl) (by omega) (by decide) d_MO_abend_131 ?_
                  refine lv_iconst (v := 2) S.1 S.2.1 d_MO_abend_132 (by decide) ?_
                  refine lv_icmp_ne (tgt := 140) S.1 S.2.1 d_MO_abend_133 (by decide) (fun c133 => ?_) (fun c133 => ?_)
                  · refine lv_iconst (v := 0) S.1 S.2.1 d_MO_abend_140 (by decide) ?_
                    refine lv_istore (lv' := [(5, .int 0), (4, .int (en_of (ab_F1 F' na x0) x0 a lv).1), (8, .int (nI x0)), (3, .int (nI cc)), (6, .int (nI a)), (7, .int (nI kk)), (0, .ref x), (1, .int (nI lv)), (2, .int (nI cc0))]) S.1 S.2.1 d_MO_abend_141 hl (by decide) rfl (fun ls hl => ?_)
                    refine lv_aload_n S.1 S.2.1 d_MO_abend_143 rfl (lv_at hl 6 rfl) ?_
                    refine mm_get (C := R_MO) (T := T_MO) (N := 22) (v := .ref (g 6)) S hK.1 hw hP.2.1 rfl in_MO 12 (by decide) gw_382 rfl rfl d_MO_abend_144 ?_
                    refine lv_iload S.1 S.2.1 d_MO_abend_147 (lv_at hl 2 rfl) ?_
                    refine mn_zald (j := x0) (n := 301) (f := F' 6) S hK.1 hw 2 (mP_a (k := 6) (F := (ab_F2 F' na x0 a lv)) hP (by decide) (by decide)) rfl (rfl) (by omega) (by decide) d_MO_abend_149 ?_
                    refine lv_if_eq (tgt := 174) S.1 S.2.1 d_MO_abend_150 (by decide) (fun c150 => ?_) (fun c150 => ?_)
                    · have ecc : nI (ab_c F' x0 cc) = (nI cc) := by
                        rw [ab_c, if_pos c150]
                      have hl : lv_has ls 9 [(5, .int 0), (4, .int (en_of (ab_F1 F' na x0) x0 a lv).1), (8, .int (nI x0)), (3, .int (nI (ab_c F' x0 cc))), (6, .int (nI a)), (7, .int (nI kk)), (0, .ref x), (1, .int (nI lv)), (2, .int (nI cc0))] := by rw [ecc]; exact hl
                      refine lv_iinc (v := (nI kk - 1)) (lv' := [(7, .int (nI kk - 1)), (5, .int 0), (4, .int (en_of (ab_F1 F' na x0) x0 a lv).1), (8, .int (nI x0)), (3, .int (nI (ab_c F' x0 cc))), (6, .int (nI a)), (0, .ref x), (1, .int (nI lv)), (2, .int (nI cc0))]) S.1 S.2.1 d_MO_abend_174 hl (k := 5) rfl (ii_m1 _) (by decide) rfl (fun ls hl => ?_)
                      refine lv_goto (tgt := 63) S.1 S.2.1 d_MO_abend_177 (by decide) ?_
                      obtain ⟨jj, hjj2, hen2⟩ : ∃ jj, jj ≤ 100 ∧ (en_of (ab_F1 F' na x0) x0 a lv).1 = nI (ab_n F lv jj) := by
                        rcases en_at c122 with q | q | q
                        · exact ⟨j, by omega, by rw [q, haj]⟩
                        · exact ⟨0, by omega, q⟩
                        · exact ⟨j + 1, by omega, by rw [q, ab_n, ← haj, show (ab_F1 F' na x0) 0 a = F 0 a from congrFun hI.1 a, hpc, hpe]⟩
                      refine lv_iload S.1 S.2.1 d_MO_abend_63 (lv_at hl 0 rfl) ?_
                      refine lv_if_lt (tgt := 180) S.1 S.2.1 d_MO_abend_65 (by decide) (fun c65' => ?_) (fun c65' => ?_)
                      · refine lv_aload_n S.1 S.2.1 d_MO_abend_180 rfl (lv_at hl 6 rfl) ?_
                        refine mm_get (C := R_MO) (T := T_MO) (N := 22) (v := .ref (g 0)) S hK.1 hw hP.2.1 rfl in_MO 6 (by decide) gw_376 rfl rfl d_MO_abend_181 ?_
                        refine lv_iload S.1 S.2.1 d_MO_abend_184 (lv_at hl 5 rfl) ?_
                        refine mn_iald (j := a) (n := 101) (f := F' 0) S hK.1 hw 0 (mP_a (k := 0) (F := (ab_F2 F' na x0 a lv)) hP (by decide) (by decide)) rfl (rfl) (by omega) (by decide) d_MO_abend_186 ?_
                        rw [show ((F' 0) (a)) = F 0 a from congrFun hI.1 a]
                        refine lv_istore (lv' := [(6, .int (F 0 a)), (7, .int (nI kk - 1)), (5, .int 0), (4, .int (en_of (ab_F1 F' na x0) x0 a lv).1), (8, .int (nI x0)), (3, .int (nI (ab_c F' x0 cc))), (0, .ref x), (1, .int (nI lv)), (2, .int (nI cc0))]) S.1 S.2.1 d_MO_abend_187 hl (by decide) rfl (fun ls hl => ?_)
                        refine lv_goto (tgt := 42) S.1 S.2.1 d_MO_abend_189 (by decide) ?_
                        refine lv_iload S.1 S.2.1 d_MO_abend_42 (lv_at hl 0 rfl) ?_
                        refine lv_if_eq (tgt := 192) S.1 S.2.1 d_MO_abend_44 (by decide) (fun c44' => ?_) (fun c44' => ?_)
                        · exact J (na + 1) (ab_c F' x0 cc) _ (ab_F2 F' na x0 a lv) _ 0 _ H locs ls (ab_Is hI) (ab_cr ⟨hc3, hc4⟩).1 (ab_cr ⟨hc3, hc4⟩).2 hjj2 hen2 (Or.inl rfl) hw hP (hs.trans (by rw [ab_r_s hx0 (by omega), if_neg c122]; unfold ab_k; rw [if_neg c122])) (lv_sub hl [5, 3, 2, 6, 7, 8] rfl)
                        · refine lv_iload S.1 S.2.1 d_MO_abend_47 (lv_at hl 3 rfl) ?_
                          refine lv_if_ne (tgt := 192) S.1 S.2.1 d_MO_abend_49 (by decide) (fun c49' => ?_) (fun c49' => absurd c49' c122)
                          exact J (na + 1) (ab_c F' x0 cc) _ (ab_F2 F' na x0 a lv) _ 0 _ H locs ls (ab_Is hI) (ab_cr ⟨hc3, hc4⟩).1 (ab_cr ⟨hc3, hc4⟩).2 hjj2 hen2 (Or.inl rfl) hw hP (hs.trans (by rw [ab_r_s hx0 (by omega), if_neg c122]; unfold ab_k; rw [if_neg c122])) (lv_sub hl [5, 3, 2, 6, 7, 8] rfl)
                      · refine lv_iload S.1 S.2.1 d_MO_abend_68 (lv_at hl 2 rfl) ?_
                        refine lv_if_ne (tgt := 180) S.1 S.2.1 d_MO_abend_70 (by decide) (fun c70' => ?_) (fun c70' => absurd c70' c122)
                        refine lv_aload_n S.1 S.2.1 d_MO_abend_180 rfl (lv_at hl 6 rfl) ?_
                        refine mm_get (C := R_MO) (T := T_MO) (N := 22) (v := .ref (g 0)) S hK.1 hw hP.2.1 rfl in_MO 6 (by decide) gw_376 rfl rfl d_MO_abend_181 ?_
                        refine lv_iload S.1 S.2.1 d_MO_abend_184 (lv_at hl 5 rfl) ?_
                        refine mn_iald (j := a) (n := 101) (f := F' 0) S hK.1 hw 0 (mP_a (k := 0) (F := (ab_F2 F' na x0 a lv)) hP (by decide) (by decide)) rfl (rfl) (by omega) (by decide) d_MO_abend_186 ?_
                        rw [show ((F' 0) (a)) = F 0 a from congrFun hI.1 a]
                        refine lv_istore (lv' := [(6, .int (F 0 a)), (7, .int (nI kk - 1)), (5, .int 0), (4, .int (en_of (ab_F1 F' na x0) x0 a lv).1), (8, .int (nI x0)), (3, .int (nI (ab_c F' x0 cc))), (0, .ref x), (1, .int (nI lv)), (2, .int (nI cc0))]) S.1 S.2.1 d_MO_abend_187 hl (by decide) rfl (fun ls hl => ?_)
                        refine lv_goto (tgt := 42) S.1 S.2.1 d_MO_abend_189 (by decide) ?_
                        refine lv_iload S.1 S.2.1 d_MO_abend_42 (lv_at hl 0 rfl) ?_
                        refine lv_if_eq (tgt := 192) S.1 S.2.1 d_MO_abend_44 (by decide) (fun c44' => ?_) (fun c44' => ?_)
                        · exact J (na + 1) (ab_c F' x0 cc) _ (ab_F2 F' na x0 a lv) _ 0 _ H locs ls (ab_Is hI) (ab_cr ⟨hc3, hc4⟩).1 (ab_cr ⟨hc3, hc4⟩).2 hjj2 hen2 (Or.inl rfl) hw hP (hs.trans (by rw [ab_r_s hx0 (by omega), if_neg c122]; unfold ab_k; rw [if_neg c122])) (lv_sub hl [5, 3, 2, 6, 7, 8] rfl)
                        · refine lv_iload S.1 S.2.1 d_MO_abend_47 (lv_at hl 3 rfl) ?_
                          refine lv_if_ne (tgt := 192) S.1 S.2.1 d_MO_abend_49 (by decide) (fun c49' => ?_) (fun c49' => absurd c49' c122)
                          exact J (na + 1) (ab_c F' x0 cc) _ (ab_F2 F' na x0 a lv) _ 0 _ H locs ls (ab_Is hI) (ab_cr ⟨hc3, hc4⟩).1 (ab_cr ⟨hc3, hc4⟩).2 hjj2 hen2 (Or.inl rfl) hw hP (hs.trans (by rw [ab_r_s hx0 (by omega), if_neg c122]; unfold ab_k; rw [if_neg c122])) (lv_sub hl [5, 3, 2, 6, 7, 8] rfl)
                    · refine lv_iload_n S.1 S.2.1 d_MO_abend_153 rfl (lv_at hl 3 rfl) ?_
                      refine lv_bipush (v := 100) S.1 S.2.1 d_MO_abend_154 (by decide) ?_
                      refine lv_iadd S.1 S.2.1 d_MO_abend_156 ?_
                      refine W.eq (g2 := F0 m 157 ls (.int (nI (cc + 100)) :: [])) (by rw [show ((nI cc) + 100) = (nI (cc + 100)) from nI_add cc 100]) ?_
                      refine lv_sipush (v := 9999) S.1 S.2.1 d_MO_abend_157 (by decide) ?_
                      refine lv_icmp_le (tgt := 169) S.1 S.2.1 d_MO_abend_160 (by decide) (fun c160 => ?_) (fun c160 => ?_)
                      · refine lv_iload_n S.1 S.2.1 d_MO_abend_169 rfl (lv_at hl 3 rfl) ?_
                        refine lv_bipush (v := 100) S.1 S.2.1 d_MO_abend_170 (by decide) ?_
                        refine lv_iadd S.1 S.2.1 d_MO_abend_172 ?_
                        refine W.eq (g2 := F0 m 173 ls (.int (nI (cc + 100)) :: [])) (by rw [show ((nI cc) + 100) = (nI (cc + 100)) from nI_add cc 100]) ?_
                        refine lv_istore_n (lv' := [(3, .int (nI (cc + 100))), (5, .int 0), (4, .int (en_of (ab_F1 F' na x0) x0 a lv).1), (8, .int (nI x0)), (6, .int (nI a)), (7, .int (nI kk)), (0, .ref x), (1, .int (nI lv)), (2, .int (nI cc0))]) S.1 S.2.1 d_MO_abend_173 rfl hl (by decide) rfl (fun ls hl => ?_)
                        have ecc : nI (ab_c F' x0 cc) = (nI (cc + 100)) := by
                          rw [ab_c, if_neg c150, if_pos ((nI_leI (by omega) (by decide)).mp (show nI (cc + 100) ≤ nI 9999 from c160))]
                        have hl : lv_has ls 9 [(3, .int (nI (ab_c F' x0 cc))), (5, .int 0), (4, .int (en_of (ab_F1 F' na x0) x0 a lv).1), (8, .int (nI x0)), (6, .int (nI a)), (7, .int (nI kk)), (0, .ref x), (1, .int (nI lv)), (2, .int (nI cc0))] := by rw [ecc]; exact hl
                        refine lv_iinc (v := (nI kk - 1)) (lv' := [(7, .int (nI kk - 1)), (3, .int (nI (ab_c F' x0 cc))), (5, .int 0), (4, .int (en_of (ab_F1 F' na x0) x0 a lv).1), (8, .int (nI x0)), (6, .int (nI a)), (0, .ref x), (1, .int (nI lv)), (2, .int (nI cc0))]) S.1 S.2.1 d_MO_abend_174 hl (k := 5) rfl (ii_m1 _) (by decide) rfl (fun ls hl => ?_)
                        refine lv_goto (tgt := 63) S.1 S.2.1 d_MO_abend_177 (by decide) ?_
                        obtain ⟨jj, hjj2, hen2⟩ : ∃ jj, jj ≤ 100 ∧ (en_of (ab_F1 F' na x0) x0 a lv).1 = nI (ab_n F lv jj) := by
                          rcases en_at c122 with q | q | q
                          · exact ⟨j, by omega, by rw [q, haj]⟩
                          · exact ⟨0, by omega, q⟩
                          · exact ⟨j + 1, by omega, by rw [q, ab_n, ← haj, show (ab_F1 F' na x0) 0 a = F 0 a from congrFun hI.1 a, hpc, hpe]⟩
                        refine lv_iload S.1 S.2.1 d_MO_abend_63 (lv_at hl 0 rfl) ?_
                        refine lv_if_lt (tgt := 180) S.1 S.2.1 d_MO_abend_65 (by decide) (fun c65' => ?_) (fun c65' => ?_)
                        · refine lv_aload_n S.1 S.2.1 d_MO_abend_180 rfl (lv_at hl 6 rfl) ?_
                          refine mm_get (C := R_MO) (T := T_MO) (N := 22) (v := .ref (g 0)) S hK.1 hw hP.2.1 rfl in_MO 6 (by decide) gw_376 rfl rfl d_MO_abend_181 ?_
                          refine lv_iload S.1 S.2.1 d_MO_abend_184 (lv_at hl 5 rfl) ?_
                          refine mn_iald (j := a) (n := 101) (f := F' 0) S hK.1 hw 0 (mP_a (k := 0) (F := (ab_F2 F' na x0 a lv)) hP (by decide) (by decide)) rfl (rfl) (by omega) (by decide) d_MO_abend_186 ?_
                          rw [show ((F' 0) (a)) = F 0 a from congrFun hI.1 a]
                          refine lv_istore (lv' := [(6, .int (F 0 a)), (7, .int (nI kk - 1)), (3, .int (nI (ab_c F' x0 cc))), (5, .int 0), (4, .int (en_of (ab_F1 F' na x0) x0 a lv).1), (8, .int (nI x0)), (0, .ref x), (1, .int (nI lv)), (2, .int (nI cc0))]) S.1 S.2.1 d_MO_abend_187 hl (by decide) rfl (fun ls hl => ?_)
                          refine lv_goto (tgt := 42) S.1 S.2.1 d_MO_abend_189 (by decide) ?_
                          refine lv_iload S.1 S.2.1 d_MO_abend_42 (lv_at hl 0 rfl) ?_
                          refine lv_if_eq (tgt := 192) S.1 S.2.1 d_MO_abend_44 (by decide) (fun c44' => ?_) (fun c44' => ?_)
                          · exact J (na + 1) (ab_c F' x0 cc) _ (ab_F2 F' na x0 a lv) _ 0 _ H locs ls (ab_Is hI) (ab_cr ⟨hc3, hc4⟩).1 (ab_cr ⟨hc3, hc4⟩).2 hjj2 hen2 (Or.inl rfl) hw hP (hs.trans (by rw [ab_r_s hx0 (by omega), if_neg c122]; unfold ab_k; rw [if_neg c122])) (lv_sub hl [2, 4, 3, 6, 7, 8] rfl)
                          · refine lv_iload S.1 S.2.1 d_MO_abend_47 (lv_at hl 4 rfl) ?_
                            refine lv_if_ne (tgt := 192) S.1 S.2.1 d_MO_abend_49 (by decide) (fun c49' => ?_) (fun c49' => absurd c49' c122)
                            exact J (na + 1) (ab_c F' x0 cc) _ (ab_F2 F' na x0 a lv) _ 0 _ H locs ls (ab_Is hI) (ab_cr ⟨hc3, hc4⟩).1 (ab_cr ⟨hc3, hc4⟩).2 hjj2 hen2 (Or.inl rfl) hw hP (hs.trans (by rw [ab_r_s hx0 (by omega), if_neg c122]; unfold ab_k; rw [if_neg c122])) (lv_sub hl [2, 4, 3, 6, 7, 8] rfl)
                        · refine lv_iload S.1 S.2.1 d_MO_abend_68 (lv_at hl 3 rfl) ?_
                          refine lv_if_ne (tgt := 180) S.1 S.2.1 d_MO_abend_70 (by decide) (fun c70' => ?_) (fun c70' => absurd c70' c122)
                          refine lv_aload_n S.1 S.2.1 d_MO_abend_180 rfl (lv_at hl 6 rfl) ?_
                          refine mm_get (C := R_MO) (T := T_MO) (N := 22) (v := .ref (g 0)) S hK.1 hw hP.2.1 rfl in_MO 6 (by decide) gw_376 rfl rfl d_MO_abend_181 ?_
                          refine lv_iload S.1 S.2.1 d_MO_abend_184 (lv_at hl 5 rfl) ?_
                          refine mn_iald (j := a) (n := 101) (f := F' 0) S hK.1 hw 0 (mP_a (k := 0) (F := (ab_F2 F' na x0 a lv)) hP (by decide) (by decide)) rfl (rfl) (by omega) (by decide) d_MO_abend_186 ?_
                          rw [show ((F' 0) (a)) = F 0 a from congrFun hI.1 a]
                          refine lv_istore (lv' := [(6, .int (F 0 a)), (7, .int (nI kk - 1)), (3, .int (nI (ab_c F' x0 cc))), (5, .int 0), (4, .int (en_of (ab_F1 F' na x0) x0 a lv).1), (8, .int (nI x0)), (0, .ref x), (1, .int (nI lv)), (2, .int (nI cc0))]) S.1 S.2.1 d_MO_abend_187 hl (by decide) rfl (fun ls hl => ?_)
                          refine lv_goto (tgt := 42) S.1 S.2.1 d_MO_abend_189 (by decide) ?_
                          refine lv_iload S.1 S.2.1 d_MO_abend_42 (lv_at hl 0 rfl) ?_
                          refine lv_if_eq (tgt := 192) S.1 S.2.1 d_MO_abend_44 (by decide) (fun c44' => ?_) (fun c44' => ?_)
                          · exact J (na + 1) (ab_c F' x0 cc) _ (ab_F2 F' na x0 a lv) _ 0 _ H locs ls (ab_Is hI) (ab_cr ⟨hc3, hc4⟩).1 (ab_cr ⟨hc3, hc4⟩).2 hjj2 hen2 (Or.inl rfl) hw hP (hs.trans (by rw [ab_r_s hx0 (by omega), if_neg c122]; unfold ab_k; rw [if_neg c122])) (lv_sub hl [2, 4, 3, 6, 7, 8] rfl)
                          · refine lv_iload S.1 S.2.1 d_MO_abend_47 (lv_at hl 4 rfl) ?_
                            refine lv_if_ne (tgt := 192) S.1 S.2.1 d_MO_abend_49 (by decide) (fun c49' => ?_) (fun c49' => absurd c49' c122)
                            exact J (na + 1) (ab_c F' x0 cc) _ (ab_F2 F' na x0 a lv) _ 0 _ H locs ls (ab_Is hI) (ab_cr ⟨hc3, hc4⟩).1 (ab_cr ⟨hc3, hc4⟩).2 hjj2 hen2 (Or.inl rfl) hw hP (hs.trans (by rw [ab_r_s hx0 (by omega), if_neg c122]; unfold ab_k; rw [if_neg c122])) (lv_sub hl [2, 4, 3, 6, 7, 8] rfl)
                      · refine lv_sipush (v := 9999) S.1 S.2.1 d_MO_abend_163 (by decide) ?_
                        refine lv_goto (tgt := 173) S.1 S.2.1 d_MO_abend_166 (by decide) ?_
                        refine lv_istore_n (lv' := [(3, .int 9999), (5, .int 0), (4, .int (en_of (ab_F1 F' na x0) x0 a lv).1), (8, .int (nI x0)), (6, .int (nI a)), (7, .int (nI kk)), (0, .ref x), (1, .int (nI lv)), (2, .int (nI cc0))]) S.1 S.2.1 d_MO_abend_173 rfl hl (by decide) rfl (fun ls hl => ?_)
                        have ecc : nI (ab_c F' x0 cc) = 9999 := by
                          rw [ab_c, if_neg c150, if_neg (fun q => c160 (show nI (cc + 100) ≤ nI 9999 from (nI_leI (by omega) (by decide)).mpr q))]; rfl
                        have hl : lv_has ls 9 [(3, .int (nI (ab_c F' x0 cc))), (5, .int 0), (4, .int (en_of (ab_F1 F' na x0) x0 a lv).1), (8, .int (nI x0)), (6, .int (nI a)), (7, .int (nI kk)), (0, .ref x), (1, .int (nI lv)), (2, .int (nI cc0))] := by rw [ecc]; exact hl
                        refine lv_iinc (v := (nI kk - 1)) (lv' := [(7, .int (nI kk - 1)), (3, .int (nI (ab_c F' x0 cc))), (5, .int 0), (4, .int (en_of (ab_F1 F' na x0) x0 a lv).1), (8, .int (nI x0)), (6, .int (nI a)), (0, .ref x), (1, .int (nI lv)), (2, .int (nI cc0))]) S.1 S.2.1 d_MO_abend_174 hl (k := 5) rfl (ii_m1 _) (by decide) rfl (fun ls hl => ?_)
                        refine lv_goto (tgt := 63) S.1 S.2.1 d_MO_abend_177 (by decide) ?_
                        obtain ⟨jj, hjj2, hen2⟩ : ∃ jj, jj ≤ 100 ∧ (en_of (ab_F1 F' na x0) x0 a lv).1 = nI (ab_n F lv jj) := by
                          rcases en_at c122 with q | q | q
                          · exact ⟨j, by omega, by rw [q, haj]⟩
                          · exact ⟨0, by omega, q⟩
                          · exact ⟨j + 1, by omega, by rw [q, ab_n, ← haj, show (ab_F1 F' na x0) 0 a = F 0 a from congrFun hI.1 a, hpc, hpe]⟩
                        refine lv_iload S.1 S.2.1 d_MO_abend_63 (lv_at hl 0 rfl) ?_
                        refine lv_if_lt (tgt := 180) S.1 S.2.1 d_MO_abend_65 (by decide) (fun c65' => ?_) (fun c65' => ?_)
                        · refine lv_aload_n S.1 S.2.1 d_MO_abend_180 rfl (lv_at hl 6 rfl) ?_
                          refine mm_get (C := R_MO) (T := T_MO) (N := 22) (v := .ref (g 0)) S hK.1 hw hP.2.1 rfl in_MO 6 (by decide) gw_376 rfl rfl d_MO_abend_181 ?_
                          refine lv_iload S.1 S.2.1 d_MO_abend_184 (lv_at hl 5 rfl) ?_
                          refine mn_iald (j := a) (n := 101) (f := F' 0) S hK.1 hw 0 (mP_a (k := 0) (F := (ab_F2 F' na x0 a lv)) hP (by decide) (by decide)) rfl (rfl) (by omega) (by decide) d_MO_abend_186 ?_
                          rw [show ((F' 0) (a)) = F 0 a from congrFun hI.1 a]
                          refine lv_istore (lv' := [(6, .int (F 0 a)), (7, .int (nI kk - 1)), (3, .int (nI (ab_c F' x0 cc))), (5, .int 0), (4, .int (en_of (ab_F1 F' na x0) x0 a lv).1), (8, .int (nI x0)), (0, .ref x), (1, .int (nI lv)), (2, .int (nI cc0))]) S.1 S.2.1 d_MO_abend_187 hl (by decide) rfl (fun ls hl => ?_)
                          refine lv_goto (tgt := 42) S.1 S.2.1 d_MO_abend_189 (by decide) ?_
                          refine lv_iload S.1 S.2.1 d_MO_abend_42 (lv_at hl 0 rfl) ?_
                          refine lv_if_eq (tgt := 192) S.1 S.2.1 d_MO_abend_44 (by decide) (fun c44' => ?_) (fun c44' => ?_)
                          · exact J (na + 1) (ab_c F' x0 cc) _ (ab_F2 F' na x0 a lv) _ 0 _ H locs ls (ab_Is hI) (ab_cr ⟨hc3, hc4⟩).1 (ab_cr ⟨hc3, hc4⟩).2 hjj2 hen2 (Or.inl rfl) hw hP (hs.trans (by rw [ab_r_s hx0 (by omega), if_neg c122]; unfold ab_k; rw [if_neg c122])) (lv_sub hl [2, 4, 3, 6, 7, 8] rfl)
                          · refine lv_iload S.1 S.2.1 d_MO_abend_47 (lv_at hl 4 rfl) ?_
                            refine lv_if_ne (tgt := 192) S.1 S.2.1 d_MO_abend_49 (by decide) (fun c49' => ?_) (fun c49' => absurd c49' c122)
                            exact J (na + 1) (ab_c F' x0 cc) _ (ab_F2 F' na x0 a lv) _ 0 _ H locs ls (ab_Is hI) (ab_cr ⟨hc3, hc4⟩).1 (ab_cr ⟨hc3, hc4⟩).2 hjj2 hen2 (Or.inl rfl) hw hP (hs.trans (by rw [ab_r_s hx0 (by omega), if_neg c122]; unfold ab_k; rw [if_neg c122])) (lv_sub hl [2, 4, 3, 6, 7, 8] rfl)
                        · refine lv_iload S.1 S.2.1 d_MO_abend_68 (lv_at hl 3 rfl) ?_
                          refine lv_if_ne (tgt := 180) S.1 S.2.1 d_MO_abend_70 (by decide) (fun c70' => ?_) (fun c70' => absurd c70' c122)
                          refine lv_aload_n S.1 S.2.1 d_MO_abend_180 rfl (lv_at hl 6 rfl) ?_
                          refine mm_get (C := R_MO) (T := T_MO) (N := 22) (v := .ref (g 0)) S hK.1 hw hP.2.1 rfl in_MO 6 (by decide) gw_376 rfl rfl d_MO_abend_181 ?_
                          refine lv_iload S.1 S.2.1 d_MO_abend_184 (lv_at hl 5 rfl) ?_
                          refine mn_iald (j := a) (n := 101) (f := F' 0) S hK.1 hw 0 (mP_a (k := 0) (F := (ab_F2 F' na x0 a lv)) hP (by decide) (by decide)) rfl (rfl) (by omega) (by decide) d_MO_abend_186 ?_
                          rw [show ((F' 0) (a)) = F 0 a from congrFun hI.1 a]
                          refine lv_istore (lv' := [(6, .int (F 0 a)), (7, .int (nI kk - 1)), (3, .int (nI (ab_c F' x0 cc))), (5, .int 0), (4, .int (en_of (ab_F1 F' na x0) x0 a lv).1), (8, .int (nI x0)), (0, .ref x), (1, .int (nI lv)), (2, .int (nI cc0))]) S.1 S.2.1 d_MO_abend_187 hl (by decide) rfl (fun ls hl => ?_)
                          refine lv_goto (tgt := 42) S.1 S.2.1 d_MO_abend_189 (by decide) ?_
                          refine lv_iload S.1 S.2.1 d_MO_abend_42 (lv_at hl 0 rfl) ?_
                          refine lv_if_eq (tgt := 192) S.1 S.2.1 d_MO_abend_44 (by decide) (fun c44' => ?_) (fun c44' => ?_)
                          · exact J (na + 1) (ab_c F' x0 cc) _ (ab_F2 F' na x0 a lv) _ 0 _ H locs ls (ab_Is hI) (ab_cr ⟨hc3, hc4⟩).1 (ab_cr ⟨hc3, hc4⟩).2 hjj2 hen2 (Or.inl rfl) hw hP (hs.trans (by rw [ab_r_s hx0 (by omega), if_neg c122]; unfold ab_k; rw [if_neg c122])) (lv_sub hl [2, 4, 3, 6, 7, 8] rfl)
                          · refine lv_iload S.1 S.2.1 d_MO_abend_47 (lv_at hl 4 rfl) ?_
                            refine lv_if_ne (tgt := 192) S.1 S.2.1 d_MO_abend_49 (by decide) (fun c49' => ?_) (fun c49' => absurd c49' c122)
                            exact J (na + 1) (ab_c F' x0 cc) _ (ab_F2 F' na x0 a lv) _ 0 _ H locs ls (ab_Is hI) (ab_cr ⟨hc3, hc4⟩).1 (ab_cr ⟨hc3, hc4⟩).2 hjj2 hen2 (Or.inl rfl) hw hP (hs.trans (by rw [ab_r_s hx0 (by omega), if_neg c122]; unfold ab_k; rw [if_neg c122])) (lv_sub hl [2, 4, 3, 6, 7, 8] rfl)
                  · refine lv_iconst (v := 1) S.1 S.2.1 d_MO_abend_136 (by decide) ?_
                    refine lv_goto (tgt := 141) S.1 S.2.1 d_MO_abend_137 (by decide) ?_
                    refine lv_istore (lv' := [(5, .int 1), (4, .int (en_of (ab_F1 F' na x0) x0 a lv).1), (8, .int (nI x0)), (3, .int (nI cc)), (6, .int (nI a)), (7, .int (nI kk)), (0, .ref x), (1, .int (nI lv)), (2, .int (nI cc0))]) S.1 S.2.1 d_MO_abend_141 hl (by decide) rfl (fun ls hl => ?_)
                    refine lv_aload_n S.1 S.2.1 d_MO_abend_143 rfl (lv_at hl 6 rfl) ?_
                    refine mm_get (C := R_MO) (T := T_MO) (N := 22) (v := .ref (g 6)) S hK.1 hw hP.2.1 rfl in_MO 12 (by decide) gw_382 rfl rfl d_MO_abend_144 ?_
                    refine lv_iload S.1 S.2.1 d_MO_abend_147 (lv_at hl 2 rfl) ?_
                    refine mn_zald (j := x0) (n := 301) (f := F' 6) S hK.1 hw 2 (mP_a (k := 6) (F := (ab_F2 F' na x0 a lv)) hP (by decide) (by decide)) rfl (rfl) (by omega) (by decide) d_MO_abend_149 ?_
                    refine lv_if_eq (tgt := 174) S.1 S.2.1 d_MO_abend_150 (by decide) (fun c150 => ?_) (fun c150 => ?_)
                    · have ecc : nI (ab_c F' x0 cc) = (nI cc) := by
                        rw [ab_c, if_pos c150]
                      have hl : lv_has ls 9 [(5, .int 1), (4, .int (en_of (ab_F1 F' na x0) x0 a lv).1), (8, .int (nI x0)), (3, .int (nI (ab_c F' x0 cc))), (6, .int (nI a)), (7, .int (nI kk)), (0, .ref x), (1, .int (nI lv)), (2, .int (nI cc0))] := by rw [ecc]; exact hl
                      refine lv_iinc (v := (nI kk - 1)) (lv' := [(7, .int (nI kk - 1)), (5, .int 1), (4, .int (en_of (ab_F1 F' na x0) x0 a lv).1), (8, .int (nI x0)), (3, .int (nI (ab_c F' x0 cc))), (6, .int (nI a)), (0, .ref x), (1, .int (nI lv)), (2, .int (nI cc0))]) S.1 S.2.1 d_MO_abend_174 hl (k := 5) rfl (ii_m1 _) (by decide) rfl (fun ls hl => ?_)
                      refine lv_goto (tgt := 63) S.1 S.2.1 d_MO_abend_177 (by decide) ?_
                      obtain ⟨jj, hjj2, hen2⟩ : ∃ jj, jj ≤ 100 ∧ (en_of (ab_F1 F' na x0) x0 a lv).1 = nI (ab_n F lv jj) := by
                        rcases en_at c122 with q | q | q
                        · exact ⟨j, by omega, by rw [q, haj]⟩
                        · exact ⟨0, by omega, q⟩
                        · exact ⟨j + 1, by omega, by rw [q, ab_n, ← haj, show (ab_F1 F' na x0) 0 a = F 0 a from congrFun hI.1 a, hpc, hpe]⟩
                      refine lv_iload S.1 S.2.1 d_MO_abend_63 (lv_at hl 0 rfl) ?_
                      refine lv_if_lt (tgt := 180) S.1 S.2.1 d_MO_abend_65 (by decide) (fun c65' => ?_) (fun c65' => ?_)
                      · refine lv_aload_n S.1 S.2.1 d_MO_abend_180 rfl (lv_at hl 6 rfl) ?_
                        refine mm_get (C := R_MO) (T := T_MO) (N := 22) (v := .ref (g 0)) S hK.1 hw hP.2.1 rfl in_MO 6 (by decide) gw_376 rfl rfl d_MO_abend_181 ?_
                        refine lv_iload S.1 S.2.1 d_MO_abend_184 (lv_at hl 5 rfl) ?_
                        refine mn_iald (j := a) (n := 101) (f := F' 0) S hK.1 hw 0 (mP_a (k := 0) (F := (ab_F2 F' na x0 a lv)) hP (by decide) (by decide)) rfl (rfl) (by omega) (by decide) d_MO_abend_186 ?_
                        rw [show ((F' 0) (a)) = F 0 a from congrFun hI.1 a]
                        refine lv_istore (lv' := [(6, .int (F 0 a)), (7, .int (nI kk - 1)), (5, .int 1), (4, .int (en_of (ab_F1 F' na x0) x0 a lv).1), (8, .int (nI x0)), (3, .int (nI (ab_c F' x0 cc))), (0, .ref x), (1, .int (nI lv)), (2, .int (nI cc0))]) S.1 S.2.1 d_MO_abend_187 hl (by decide) rfl (fun ls hl => ?_)
                        refine lv_goto (tgt := 42) S.1 S.2.1 d_MO_abend_189 (by decide) ?_
                        refine lv_iload S.1 S.2.1 d_MO_abend_42 (lv_at hl 0 rfl) ?_
                        refine lv_if_eq (tgt := 192) S.1 S.2.1 d_MO_abend_44 (by decide) (fun c44' => ?_) (fun c44' => ?_)
                        · exact J (na + 1) (ab_c F' x0 cc) _ (ab_F2 F' na x0 a lv) _ 1 _ H locs ls (ab_Is hI) (ab_cr ⟨hc3, hc4⟩).1 (ab_cr ⟨hc3, hc4⟩).2 hjj2 hen2 (Or.inr (en_two c122 c133)) hw hP (hs.trans (by rw [ab_r_s hx0 (by omega), if_neg c122]; unfold ab_k; rw [if_neg c122])) (lv_sub hl [5, 3, 2, 6, 7, 8] rfl)
                        · refine lv_iload S.1 S.2.1 d_MO_abend_47 (lv_at hl 3 rfl) ?_
                          refine lv_if_ne (tgt := 192) S.1 S.2.1 d_MO_abend_49 (by decide) (fun c49' => ?_) (fun c49' => absurd c49' c122)
                          exact J (na + 1) (ab_c F' x0 cc) _ (ab_F2 F' na x0 a lv) _ 1 _ H locs ls (ab_Is hI) (ab_cr ⟨hc3, hc4⟩).1 (ab_cr ⟨hc3, hc4⟩).2 hjj2 hen2 (Or.inr (en_two c122 c133)) hw hP (hs.trans (by rw [ab_r_s hx0 (by omega), if_neg c122]; unfold ab_k; rw [if_neg c122])) (lv_sub hl [5, 3, 2, 6, 7, 8] rfl)
                      · refine lv_iload S.1 S.2.1 d_MO_abend_68 (lv_at hl 2 rfl) ?_
                        refine lv_if_ne (tgt := 180) S.1 S.2.1 d_MO_abend_70 (by decide) (fun c70' => ?_) (fun c70' => absurd c70' c122)
                        refine lv_aload_n S.1 S.2.1 d_MO_abend_180 rfl (lv_at hl 6 rfl) ?_
                        refine mm_get (C := R_MO) (T := T_MO) (N := 22) (v := .ref (g 0)) S hK.1 hw hP.2.1 rfl in_MO 6 (by decide) gw_376 rfl rfl d_MO_abend_181 ?_
                        refine lv_iload S.1 S.2.1 d_MO_abend_184 (lv_at hl 5 rfl) ?_
                        refine mn_iald (j := a) (n := 101) (f := F' 0) S hK.1 hw 0 (mP_a (k := 0) (F := (ab_F2 F' na x0 a lv)) hP (by decide) (by decide)) rfl (rfl) (by omega) (by decide) d_MO_abend_186 ?_
                        rw [show ((F' 0) (a)) = F 0 a from congrFun hI.1 a]
                        refine lv_istore (lv' := [(6, .int (F 0 a)), (7, .int (nI kk - 1)), (5, .int 1), (4, .int (en_of (ab_F1 F' na x0) x0 a lv).1), (8, .int (nI x0)), (3, .int (nI (ab_c F' x0 cc))), (0, .ref x), (1, .int (nI lv)), (2, .int (nI cc0))]) S.1 S.2.1 d_MO_abend_187 hl (by decide) rfl (fun ls hl => ?_)
                        refine lv_goto (tgt := 42) S.1 S.2.1 d_MO_abend_189 (by decide) ?_
                        refine lv_iload S.1 S.2.1 d_MO_abend_42 (lv_at hl 0 rfl) ?_
                        refine lv_if_eq (tgt := 192) S.1 S.2.1 d_MO_abend_44 (by decide) (fun c44' => ?_) (fun c44' => ?_)
                        · exact J (na + 1) (ab_c F' x0 cc) _ (ab_F2 F' na x0 a lv) _ 1 _ H locs ls (ab_Is hI) (ab_cr ⟨hc3, hc4⟩).1 (ab_cr ⟨hc3, hc4⟩).2 hjj2 hen2 (Or.inr (en_two c122 c133)) hw hP (hs.trans (by rw [ab_r_s hx0 (by omega), if_neg c122]; unfold ab_k; rw [if_neg c122])) (lv_sub hl [5, 3, 2, 6, 7, 8] rfl)
                        · refine lv_iload S.1 S.2.1 d_MO_abend_47 (lv_at hl 3 rfl) ?_
                          refine lv_if_ne (tgt := 192) S.1 S.2.1 d_MO_abend_49 (by decide) (fun c49' => ?_) (fun c49' => absurd c49' c122)
                          exact J (na + 1) (ab_c F' x0 cc) _ (ab_F2 F' na x0 a lv) _ 1 _ H locs ls (ab_Is hI) (ab_cr ⟨hc3, hc4⟩).1 (ab_cr ⟨hc3, hc4⟩).2 hjj2 hen2 (Or.inr (en_two c122 c133)) hw hP (hs.trans (by rw [ab_r_s hx0 (by omega), if_neg c122]; unfold ab_k; rw [if_neg c122])) (lv_sub hl [5, 3, 2, 6, 7, 8] rfl)
                    · refine lv_iload_n S.1 S.2.1 d_MO_abend_153 rfl (lv_at hl 3 rfl) ?_
                      refine lv_bipush (v := 100) S.1 S.2.1 d_MO_abend_154 (by decide) ?_
                      refine lv_iadd S.1 S.2.1 d_MO_abend_156 ?_
                      refine W.eq (g2 := F0 m 157 ls (.int (nI (cc + 100)) :: [])) (by rw [show ((nI cc) + 100) = (nI (cc + 100)) from nI_add cc 100]) ?_
                      refine lv_sipush (v := 9999) S.1 S.2.1 d_MO_abend_157 (by decide) ?_
                      refine lv_icmp_le (tgt := 169) S.1 S.2.1 d_MO_abend_160 (by decide) (fun c160 => ?_) (fun c160 => ?_)
                      · refine lv_iload_n S.1 S.2.1 d_MO_abend_169 rfl (lv_at hl 3 rfl) ?_
                        refine lv_bipush (v := 100) S.1 S.2.1 d_MO_abend_170 (by decide) ?_
                        refine lv_iadd S.1 S.2.1 d_MO_abend_172 ?_
                        refine W.eq (g2 := F0 m 173 ls (.int (nI (cc + 100)) :: [])) (by rw [show ((nI cc) + 100) = (nI (cc + 100)) from nI_add cc 100]) ?_
                        refine lv_istore_n (lv' := [(3, .int (nI (cc + 100))), (5, .int 1), (4, .int (en_of (ab_F1 F' na x0) x0 a lv).1), (8, .int (nI x0)), (6, .int (nI a)), (7, .int (nI kk)), (0, .ref x), (1, .int (nI lv)), (2, .int (nI cc0))]) S.1 S.2.1 d_MO_abend_173 rfl hl (by decide) rfl (fun ls hl => ?_)
                        have ecc : nI (ab_c F' x0 cc) = (nI (cc + 100)) := by
                          rw [ab_c, if_neg c150, if_pos ((nI_leI (by omega) (by decide)).mp (show nI (cc + 100) ≤ nI 9999 from c160))]
                        have hl : lv_has ls 9 [(3, .int (nI (ab_c F' x0 cc))), (5, .int 1), (4, .int (en_of (ab_F1 F' na x0) x0 a lv).1), (8, .int (nI x0)), (6, .int (nI a)), (7, .int (nI kk)), (0, .ref x), (1, .int (nI lv)), (2, .int (nI cc0))] := by rw [ecc]; exact hl
                        refine lv_iinc (v := (nI kk - 1)) (lv' := [(7, .int (nI kk - 1)), (3, .int (nI (ab_c F' x0 cc))), (5, .int 1), (4, .int (en_of (ab_F1 F' na x0) x0 a lv).1), (8, .int (nI x0)), (6, .int (nI a)), (0, .ref x), (1, .int (nI lv)), (2, .int (nI cc0))]) S.1 S.2.1 d_MO_abend_174 hl (k := 5) rfl (ii_m1 _) (by decide) rfl (fun ls hl => ?_)
                        refine lv_goto (tgt := 63) S.1 S.2.1 d_MO_abend_177 (by decide) ?_
                        obtain ⟨jj, hjj2, hen2⟩ : ∃ jj, jj ≤ 100 ∧ (en_of (ab_F1 F' na x0) x0 a lv).1 = nI (ab_n F lv jj) := by
                          rcases en_at c122 with q | q | q
                          · exact ⟨j, by omega, by rw [q, haj]⟩
                          · exact ⟨0, by omega, q⟩
                          · exact ⟨j + 1, by omega, by rw [q, ab_n, ← haj, show (ab_F1 F' na x0) 0 a = F 0 a from congrFun hI.1 a, hpc, hpe]⟩
                        refine lv_iload S.1 S.2.1 d_MO_abend_63 (lv_at hl 0 rfl) ?_
                        refine lv_if_lt (tgt := 180) S.1 S.2.1 d_MO_abend_65 (by decide) (fun c65' => ?_) (fun c65' => ?_)
                        · refine lv_aload_n S.1 S.2.1 d_MO_abend_180 rfl (lv_at hl 6 rfl) ?_
                          refine mm_get (C := R_MO) (T := T_MO) (N := 22) (v := .ref (g 0)) S hK.1 hw hP.2.1 rfl in_MO 6 (by decide) gw_376 rfl rfl d_MO_abend_181 ?_
                          refine lv_iload S.1 S.2.1 d_MO_abend_184 (lv_at hl 5 rfl) ?_
                          refine mn_iald (j := a) (n := 101) (f := F' 0) S hK.1 hw 0 (mP_a (k := 0) (F := (ab_F2 F' na x0 a lv)) hP (by decide) (by decide)) rfl (rfl) (by omega) (by decide) d_MO_abend_186 ?_
                          rw [show ((F' 0) (a)) = F 0 a from congrFun hI.1 a]
                          refine lv_istore (lv' := [(6, .int (F 0 a)), (7, .int (nI kk - 1)), (3, .int (nI (ab_c F' x0 cc))), (5, .int 1), (4, .int (en_of (ab_F1 F' na x0) x0 a lv).1), (8, .int (nI x0)), (0, .ref x), (1, .int (nI lv)), (2, .int (nI cc0))]) S.1 S.2.1 d_MO_abend_187 hl (by decide) rfl (fun ls hl => ?_)
                          refine lv_goto (tgt := 42) S.1 S.2.1 d_MO_abend_189 (by decide) ?_
                          refine lv_iload S.1 S.2.1 d_MO_abend_42 (lv_at hl 0 rfl) ?_
                          refine lv_if_eq (tgt := 192) S.1 S.2.1 d_MO_abend_44 (by decide) (fun c44' => ?_) (fun c44' => ?_)
                          · exact J (na + 1) (ab_c F' x0 cc) _ (ab_F2 F' na x0 a lv) _ 1 _ H locs ls (ab_Is hI) (ab_cr ⟨hc3, hc4⟩).1 (ab_cr ⟨hc3, hc4⟩).2 hjj2 hen2 (Or.inr (en_two c122 c133)) hw hP (hs.trans (by rw [ab_r_s hx0 (by omega), if_neg c122]; unfold ab_k; rw [if_neg c122])) (lv_sub hl [2, 4, 3, 6, 7, 8] rfl)
                          · refine lv_iload S.1 S.2.1 d_MO_abend_47 (lv_at hl 4 rfl) ?_
                            refine lv_if_ne (tgt := 192) S.1 S.2.1 d_MO_abend_49 (by decide) (fun c49' => ?_) (fun c49' => absurd c49' c122)
                            exact J (na + 1) (ab_c F' x0 cc) _ (ab_F2 F' na x0 a lv) _ 1 _ H locs ls (ab_Is hI) (ab_cr ⟨hc3, hc4⟩).1 (ab_cr ⟨hc3, hc4⟩).2 hjj2 hen2 (Or.inr (en_two c122 c133)) hw hP (hs.trans (by rw [ab_r_s hx0 (by omega), if_neg c122]; unfold ab_k; rw [if_neg c122])) (lv_sub hl [2, 4, 3, 6, 7, 8] rfl)
                        · refine lv_iload S.1 S.2.1 d_MO_abend_68 (lv_at hl 3 rfl) ?_
                          refine lv_if_ne (tgt := 180) S.1 S.2.1 d_MO_abend_70 (by decide) (fun c70' => ?_) (fun c70' => absurd c70' c122)
                          refine lv_aload_n S.1 S.2.1 d_MO_abend_180 rfl (lv_at hl 6 rfl) ?_
                          refine mm_get (C := R_MO) (T := T_MO) (N := 22) (v := .ref (g 0)) S hK.1 hw hP.2.1 rfl in_MO 6 (by decide) gw_376 rfl rfl d_MO_abend_181 ?_
                          refine lv_iload S.1 S.2.1 d_MO_abend_184 (lv_at hl 5 rfl) ?_
                          refine mn_iald (j := a) (n := 101) (f := F' 0) S hK.1 hw 0 (mP_a (k := 0) (F := (ab_F2 F' na x0 a lv)) hP (by decide) (by decide)) rfl (rfl) (by omega) (by decide) d_MO_abend_186 ?_
                          rw [show ((F' 0) (a)) = F 0 a from congrFun hI.1 a]
                          refine lv_istore (lv' := [(6, .int (F 0 a)), (7, .int (nI kk - 1)), (3, .int (nI (ab_c F' x0 cc))), (5, .int 1), (4, .int (en_of (ab_F1 F' na x0) x0 a lv).1), (8, .int (nI x0)), (0, .ref x), (1, .int (nI lv)), (2, .int (nI cc0))]) S.1 S.2.1 d_MO_abend_187 hl (by decide) rfl (fun ls hl => ?_)
                          refine lv_goto (tgt := 42) S.1 S.2.1 d_MO_abend_189 (by decide) ?_
                          refine lv_iload S.1 S.2.1 d_MO_abend_42 (lv_at hl 0 rfl) ?_
                          refine lv_if_eq (tgt := 192) S.1 S.2.1 d_MO_abend_44 (by decide) (fun c44' => ?_) (fun c44' => ?_)
                          · exact J (na + 1) (ab_c F' x0 cc) _ (ab_F2 F' na x0 a lv) _ 1 _ H locs ls (ab_Is hI) (ab_cr ⟨hc3, hc4⟩).1 (ab_cr ⟨hc3, hc4⟩).2 hjj2 hen2 (Or.inr (en_two c122 c133)) hw hP (hs.trans (by rw [ab_r_s hx0 (by omega), if_neg c122]; unfold ab_k; rw [if_neg c122])) (lv_sub hl [2, 4, 3, 6, 7, 8] rfl)
                          · refine lv_iload S.1 S.2.1 d_MO_abend_47 (lv_at hl 4 rfl) ?_
                            refine lv_if_ne (tgt := 192) S.1 S.2.1 d_MO_abend_49 (by decide) (fun c49' => ?_) (fun c49' => absurd c49' c122)
                            exact J (na + 1) (ab_c F' x0 cc) _ (ab_F2 F' na x0 a lv) _ 1 _ H locs ls (ab_Is hI) (ab_cr ⟨hc3, hc4⟩).1 (ab_cr ⟨hc3, hc4⟩).2 hjj2 hen2 (Or.inr (en_two c122 c133)) hw hP (hs.trans (by rw [ab_r_s hx0 (by omega), if_neg c122]; unfold ab_k; rw [if_neg c122])) (lv_sub hl [2, 4, 3, 6, 7, 8] rfl)
                      · refine lv_sipush (v := 9999) S.1 S.2.1 d_MO_abend_163 (by decide) ?_
                        refine lv_goto (tgt := 173) S.1 S.2.1 d_MO_abend_166 (by decide) ?_
                        refine lv_istore_n (lv' := [(3, .int 9999), (5, .int 1), (4, .int (en_of (ab_F1 F' na x0) x0 a lv).1), (8, .int (nI x0)), (6, .int (nI a)), (7, .int (nI kk)), (0, .ref x), (1, .int (nI lv)), (2, .int (nI cc0))]) S.1 S.2.1 d_MO_abend_173 rfl hl (by decide) rfl (fun ls hl => ?_)
                        have ecc : nI (ab_c F' x0 cc) = 9999 := by
                          rw [ab_c, if_neg c150, if_neg (fun q => c160 (show nI (cc + 100) ≤ nI 9999 from (nI_leI (by omega) (by decide)).mpr q))]; rfl
                        have hl : lv_has ls 9 [(3, .int (nI (ab_c F' x0 cc))), (5, .int 1), (4, .int (en_of (ab_F1 F' na x0) x0 a lv).1), (8, .int (nI x0)), (6, .int (nI a)), (7, .int (nI kk)), (0, .ref x), (1, .int (nI lv)), (2, .int (nI cc0))] := by rw [ecc]; exact hl
                        refine lv_iinc (v := (nI kk - 1)) (lv' := [(7, .int (nI kk - 1)), (3, .int (nI (ab_c F' x0 cc))), (5, .int 1), (4, .int (en_of (ab_F1 F' na x0) x0 a lv).1), (8, .int (nI x0)), (6, .int (nI a)), (0, .ref x), (1, .int (nI lv)), (2, .int (nI cc0))]) S.1 S.2.1 d_MO_abend_174 hl (k := 5) rfl (ii_m1 _) (by decide) rfl (fun ls hl => ?_)
                        refine lv_goto (tgt := 63) S.1 S.2.1 d_MO_abend_177 (by decide) ?_
                        obtain ⟨jj, hjj2, hen2⟩ : ∃ jj, jj ≤ 100 ∧ (en_of (ab_F1 F' na x0) x0 a lv).1 = nI (ab_n F lv jj) := by
                          rcases en_at c122 with q | q | q
                          · exact ⟨j, by omega, by rw [q, haj]⟩
                          · exact ⟨0, by omega, q⟩
                          · exact ⟨j + 1, by omega, by rw [q, ab_n, ← haj, show (ab_F1 F' na x0) 0 a = F 0 a from congrFun hI.1 a, hpc, hpe]⟩
                        refine lv_iload S.1 S.2.1 d_MO_abend_63 (lv_at hl 0 rfl) ?_
                        refine lv_if_lt (tgt := 180) S.1 S.2.1 d_MO_abend_65 (by decide) (fun c65' => ?_) (fun c65' => ?_)
                        · refine lv_aload_n S.1 S.2.1 d_MO_abend_180 rfl (lv_at hl 6 rfl) ?_
                          refine mm_get (C := R_MO) (T := T_MO) (N := 22) (v := .ref (g 0)) S hK.1 hw hP.2.1 rfl in_MO 6 (by decide) gw_376 rfl rfl d_MO_abend_181 ?_
                          refine lv_iload S.1 S.2.1 d_MO_abend_184 (lv_at hl 5 rfl) ?_
                          refine mn_iald (j := a) (n := 101) (f := F' 0) S hK.1 hw 0 (mP_a (k := 0) (F := (ab_F2 F' na x0 a lv)) hP (by decide) (by decide)) rfl (rfl) (by omega) (by decide) d_MO_abend_186 ?_
                          rw [show ((F' 0) (a)) = F 0 a from congrFun hI.1 a]
                          refine lv_istore (lv' := [(6, .int (F 0 a)), (7, .int (nI kk - 1)), (3, .int (nI (ab_c F' x0 cc))), (5, .int 1), (4, .int (en_of (ab_F1 F' na x0) x0 a lv).1), (8, .int (nI x0)), (0, .ref x), (1, .int (nI lv)), (2, .int (nI cc0))]) S.1 S.2.1 d_MO_abend_187 hl (by decide) rfl (fun ls hl => ?_)
                          refine lv_goto (tgt := 42) S.1 S.2.1 d_MO_abend_189 (by decide) ?_
                          refine lv_iload S.1 S.2.1 d_MO_abend_42 (lv_at hl 0 rfl) ?_
                          refine lv_if_eq (tgt := 192) S.1 S.2.1 d_MO_abend_44 (by decide) (fun c44' => ?_) (fun c44' => ?_)
                          · exact J (na + 1) (ab_c F' x0 cc) _ (ab_F2 F' na x0 a lv) _ 1 _ H locs ls (ab_Is hI) (ab_cr ⟨hc3, hc4⟩).1 (ab_cr ⟨hc3, hc4⟩).2 hjj2 hen2 (Or.inr (en_two c122 c133)) hw hP (hs.trans (by rw [ab_r_s hx0 (by omega), if_neg c122]; unfold ab_k; rw [if_neg c122])) (lv_sub hl [2, 4, 3, 6, 7, 8] rfl)
                          · refine lv_iload S.1 S.2.1 d_MO_abend_47 (lv_at hl 4 rfl) ?_
                            refine lv_if_ne (tgt := 192) S.1 S.2.1 d_MO_abend_49 (by decide) (fun c49' => ?_) (fun c49' => absurd c49' c122)
                            exact J (na + 1) (ab_c F' x0 cc) _ (ab_F2 F' na x0 a lv) _ 1 _ H locs ls (ab_Is hI) (ab_cr ⟨hc3, hc4⟩).1 (ab_cr ⟨hc3, hc4⟩).2 hjj2 hen2 (Or.inr (en_two c122 c133)) hw hP (hs.trans (by rw [ab_r_s hx0 (by omega), if_neg c122]; unfold ab_k; rw [if_neg c122])) (lv_sub hl [2, 4, 3, 6, 7, 8] rfl)
                        · refine lv_iload S.1 S.2.1 d_MO_abend_68 (lv_at hl 3 rfl) ?_
                          refine lv_if_ne (tgt := 180) S.1 S.2.1 d_MO_abend_70 (by decide) (fun c70' => ?_) (fun c70' => absurd c70' c122)
                          refine lv_aload_n S.1 S.2.1 d_MO_abend_180 rfl (lv_at hl 6 rfl) ?_
                          refine mm_get (C := R_MO) (T := T_MO) (N := 22) (v := .ref (g 0)) S hK.1 hw hP.2.1 rfl in_MO 6 (by decide) gw_376 rfl rfl d_MO_abend_181 ?_
                          refine lv_iload S.1 S.2.1 d_MO_abend_184 (lv_at hl 5 rfl) ?_
                          refine mn_iald (j := a) (n := 101) (f := F' 0) S hK.1 hw 0 (mP_a (k := 0) (F := (ab_F2 F' na x0 a lv)) hP (by decide) (by decide)) rfl (rfl) (by omega) (by decide) d_MO_abend_186 ?_
                          rw [show ((F' 0) (a)) = F 0 a from congrFun hI.1 a]
                          refine lv_istore (lv' := [(6, .int (F 0 a)), (7, .int (nI kk - 1)), (3, .int (nI (ab_c F' x0 cc))), (5, .int 1), (4, .int (en_of (ab_F1 F' na x0) x0 a lv).1), (8, .int (nI x0)), (0, .ref x), (1, .int (nI lv)), (2, .int (nI cc0))]) S.1 S.2.1 d_MO_abend_187 hl (by decide) rfl (fun ls hl => ?_)
                          refine lv_goto (tgt := 42) S.1 S.2.1 d_MO_abend_189 (by decide) ?_
                          refine lv_iload S.1 S.2.1 d_MO_abend_42 (lv_at hl 0 rfl) ?_
                          refine lv_if_eq (tgt := 192) S.1 S.2.1 d_MO_abend_44 (by decide) (fun c44' => ?_) (fun c44' => ?_)
                          · exact J (na + 1) (ab_c F' x0 cc) _ (ab_F2 F' na x0 a lv) _ 1 _ H locs ls (ab_Is hI) (ab_cr ⟨hc3, hc4⟩).1 (ab_cr ⟨hc3, hc4⟩).2 hjj2 hen2 (Or.inr (en_two c122 c133)) hw hP (hs.trans (by rw [ab_r_s hx0 (by omega), if_neg c122]; unfold ab_k; rw [if_neg c122])) (lv_sub hl [2, 4, 3, 6, 7, 8] rfl)
                          · refine lv_iload S.1 S.2.1 d_MO_abend_47 (lv_at hl 4 rfl) ?_
                            refine lv_if_ne (tgt := 192) S.1 S.2.1 d_MO_abend_49 (by decide) (fun c49' => ?_) (fun c49' => absurd c49' c122)
                            exact J (na + 1) (ab_c F' x0 cc) _ (ab_F2 F' na x0 a lv) _ 1 _ H locs ls (ab_Is hI) (ab_cr ⟨hc3, hc4⟩).1 (ab_cr ⟨hc3, hc4⟩).2 hjj2 hen2 (Or.inr (en_two c122 c133)) hw hP (hs.trans (by rw [ab_r_s hx0 (by omega), if_neg c122]; unfold ab_k; rw [if_neg c122])) (lv_sub hl [2, 4, 3, 6, 7, 8] rfl)
            exact LI z na cc F' M H locs ls (Nat.le_refl _) (by omega) hI hc3 hc4 hw hP hs (lv_sub hl [1, 2, 3, 4, 0, 5, 6, 7] rfl)
      exact LO 101 lv 0 cc0 0 F M H locs ls (by omega) hlvn rfl (by omega) (hd20) ⟨rfl, rfl, rfl, rfl, rfl, rfl, rfl⟩ hc1 hc2 hw hP rfl (lv_sub hl [3, 2, 1, 0, 4, 5, 6] rfl)
    · refine lv_if_ne (tgt := 26) S.1 S.2.1 d_MO_abend_20 (by decide) (fun c20 => absurd c20 (by decide)) (fun c20 => ?_)
      refine lv_bipush (v := (-4)) S.1 S.2.1 d_MO_abend_23 (by decide) ?_
      exact mm_reti S.1 S.2.1 hr hlocks hA hQ hw (md_done hP (show sp_abend k c0 I F st = ((-4), (upd I 0 (0)), F, st) by simp only [sp_abend, eq_false c10, eq_true c20, eq_true hc3, eq_false hc7, not_true_eq_false, not_false_eq_true, and_true, true_and, and_false, false_and, and_self, or_true, true_or, or_false, false_or, or_self, ↓reduceIte])) (Nat.le_of_ble_eq_true rfl) (Nat.le_of_ble_eq_true rfl) d_MO_abend_25
  · have hc3 : ¬ is_ok (I 1) (k) := hc3
    refine lv_if_ne (tgt := 16) S.1 S.2.1 d_MO_abend_10 (by decide) (fun c10 => absurd c10 (by decide)) (fun c10 => ?_)
    refine lv_bipush (v := (-2)) S.1 S.2.1 d_MO_abend_13 (by decide) ?_
    exact mm_reti S.1 S.2.1 hr hlocks hA hQ hw (md_done hP (show sp_abend k c0 I F st = ((-2), (upd I 0 (0)), F, st) by simp only [sp_abend, eq_true c10, eq_false hc3, not_true_eq_false, not_false_eq_true, and_true, true_and, and_false, false_and, and_self, or_true, true_or, or_false, false_or, or_self, ↓reduceIte])) (Nat.le_of_ble_eq_true rfl) (Nat.le_of_ble_eq_true rfl) d_MO_abend_15
end
section
theorem nd_inj {l : List Nat} (h : l.Nodup) {i j : Nat} (hi : i < l.length) (hj : j < l.length) (e : l.getD i 0 = l.getD j 0) : i = j := by
  rw [List.getD_eq_getElem?_getD, List.getD_eq_getElem?_getD, List.getElem?_eq_getElem hi, List.getElem?_eq_getElem hj] at e
  exact (List.getElem_inj h).mp e
theorem d_MO_init_0 : decode b_MO_init 0 = .ok (.aload_n 0, 1) := by decide +kernel
theorem d_MO_init_1 : decode b_MO_init 1 = .ok (.invokespecial 1, 3) := by decide +kernel
theorem d_MO_init_4 : decode b_MO_init 4 = .ok (.aload_n 0, 1) := by decide +kernel
theorem d_MO_init_5 : decode b_MO_init 5 = .ok (.bipush 101, 2) := by decide +kernel
theorem d_MO_init_7 : decode b_MO_init 7 = .ok (.newarray .int, 2) := by decide +kernel
theorem d_MO_init_9 : decode b_MO_init 9 = .ok (.putfield 7, 3) := by decide +kernel
theorem d_MO_init_12 : decode b_MO_init 12 = .ok (.aload_n 0, 1) := by decide +kernel
theorem d_MO_init_13 : decode b_MO_init 13 = .ok (.bipush 101, 2) := by decide +kernel
theorem d_MO_init_15 : decode b_MO_init 15 = .ok (.newarray .int, 2) := by decide +kernel
theorem d_MO_init_17 : decode b_MO_init 17 = .ok (.putfield 13, 3) := by decide +kernel
theorem d_MO_init_20 : decode b_MO_init 20 = .ok (.aload_n 0, 1) := by decide +kernel
theorem d_MO_init_21 : decode b_MO_init 21 = .ok (.bipush 101, 2) := by decide +kernel
theorem d_MO_init_23 : decode b_MO_init 23 = .ok (.newarray .int, 2) := by decide +kernel
theorem d_MO_init_25 : decode b_MO_init 25 = .ok (.putfield 16, 3) := by decide +kernel
theorem d_MO_init_28 : decode b_MO_init 28 = .ok (.aload_n 0, 1) := by decide +kernel
theorem d_MO_init_29 : decode b_MO_init 29 = .ok (.sipush 1010, 3) := by decide +kernel
theorem d_MO_init_32 : decode b_MO_init 32 = .ok (.newarray .int, 2) := by decide +kernel
theorem d_MO_init_34 : decode b_MO_init 34 = .ok (.putfield 19, 3) := by decide +kernel
theorem d_MO_init_37 : decode b_MO_init 37 = .ok (.aload_n 0, 1) := by decide +kernel
theorem d_MO_init_38 : decode b_MO_init 38 = .ok (.sipush 301, 3) := by decide +kernel
theorem d_MO_init_41 : decode b_MO_init 41 = .ok (.newarray .int, 2) := by decide +kernel
theorem d_MO_init_43 : decode b_MO_init 43 = .ok (.putfield 22, 3) := by decide +kernel
theorem d_MO_init_46 : decode b_MO_init 46 = .ok (.aload_n 0, 1) := by decide +kernel
theorem d_MO_init_47 : decode b_MO_init 47 = .ok (.sipush 301, 3) := by decide +kernel
theorem d_MO_init_50 : decode b_MO_init 50 = .ok (.newarray .int, 2) := by decide +kernel
theorem d_MO_init_52 : decode b_MO_init 52 = .ok (.putfield 25, 3) := by decide +kernel
theorem d_MO_init_55 : decode b_MO_init 55 = .ok (.aload_n 0, 1) := by decide +kernel
theorem d_MO_init_56 : decode b_MO_init 56 = .ok (.sipush 301, 3) := by decide +kernel
theorem d_MO_init_59 : decode b_MO_init 59 = .ok (.newarray .boolean, 2) := by decide +kernel
theorem d_MO_init_61 : decode b_MO_init 61 = .ok (.putfield 28, 3) := by decide +kernel
theorem d_MO_init_64 : decode b_MO_init 64 = .ok (.aload_n 0, 1) := by decide +kernel
theorem d_MO_init_65 : decode b_MO_init 65 = .ok (.sipush 301, 3) := by decide +kernel
theorem d_MO_init_68 : decode b_MO_init 68 = .ok (.newarray .boolean, 2) := by decide +kernel
theorem d_MO_init_70 : decode b_MO_init 70 = .ok (.putfield 32, 3) := by decide +kernel
theorem d_MO_init_73 : decode b_MO_init 73 = .ok (.aload_n 0, 1) := by decide +kernel
theorem d_MO_init_74 : decode b_MO_init 74 = .ok (.sipush 10000, 3) := by decide +kernel
theorem d_MO_init_77 : decode b_MO_init 77 = .ok (.newarray .int, 2) := by decide +kernel
theorem d_MO_init_79 : decode b_MO_init 79 = .ok (.putfield 35, 3) := by decide +kernel
theorem d_MO_init_82 : decode b_MO_init 82 = .ok (.aload_n 0, 1) := by decide +kernel
theorem d_MO_init_83 : decode b_MO_init 83 = .ok (.bipush 41, 2) := by decide +kernel
theorem d_MO_init_85 : decode b_MO_init 85 = .ok (.newarray .int, 2) := by decide +kernel
theorem d_MO_init_87 : decode b_MO_init 87 = .ok (.putfield 38, 3) := by decide +kernel
theorem d_MO_init_90 : decode b_MO_init 90 = .ok (.aload_n 0, 1) := by decide +kernel
theorem d_MO_init_91 : decode b_MO_init 91 = .ok (.sipush 10000, 3) := by decide +kernel
theorem d_MO_init_94 : decode b_MO_init 94 = .ok (.newarray .boolean, 2) := by decide +kernel
theorem d_MO_init_96 : decode b_MO_init 96 = .ok (.putfield 41, 3) := by decide +kernel
theorem d_MO_init_99 : decode b_MO_init 99 = .ok (.aload_n 0, 1) := by decide +kernel
theorem d_MO_init_100 : decode b_MO_init 100 = .ok (.bipush 41, 2) := by decide +kernel
theorem d_MO_init_102 : decode b_MO_init 102 = .ok (.newarray .long, 2) := by decide +kernel
theorem d_MO_init_104 : decode b_MO_init 104 = .ok (.putfield 44, 3) := by decide +kernel
theorem d_MO_init_107 : decode b_MO_init 107 = .ok (.aload_n 0, 1) := by decide +kernel
theorem d_MO_init_108 : decode b_MO_init 108 = .ok (.bipush 61, 2) := by decide +kernel
theorem d_MO_init_110 : decode b_MO_init 110 = .ok (.newarray .int, 2) := by decide +kernel
theorem d_MO_init_112 : decode b_MO_init 112 = .ok (.putfield 48, 3) := by decide +kernel
theorem d_MO_init_115 : decode b_MO_init 115 = .ok (.aload_n 0, 1) := by decide +kernel
theorem d_MO_init_116 : decode b_MO_init 116 = .ok (.bipush 61, 2) := by decide +kernel
theorem d_MO_init_118 : decode b_MO_init 118 = .ok (.newarray .int, 2) := by decide +kernel
theorem d_MO_init_120 : decode b_MO_init 120 = .ok (.putfield 51, 3) := by decide +kernel
theorem d_MO_init_123 : decode b_MO_init 123 = .ok (.aload_n 0, 1) := by decide +kernel
theorem d_MO_init_124 : decode b_MO_init 124 = .ok (.bipush 61, 2) := by decide +kernel
theorem d_MO_init_126 : decode b_MO_init 126 = .ok (.newarray .int, 2) := by decide +kernel
theorem d_MO_init_128 : decode b_MO_init 128 = .ok (.putfield 54, 3) := by decide +kernel
theorem d_MO_init_131 : decode b_MO_init 131 = .ok (.aload_n 0, 1) := by decide +kernel
theorem d_MO_init_132 : decode b_MO_init 132 = .ok (.sipush 250, 3) := by decide +kernel
theorem d_MO_init_135 : decode b_MO_init 135 = .ok (.newarray .int, 2) := by decide +kernel
theorem d_MO_init_137 : decode b_MO_init 137 = .ok (.putfield 57, 3) := by decide +kernel
theorem d_MO_init_140 : decode b_MO_init 140 = .ok (.return_, 1) := by decide +kernel
set_option maxHeartbeats 4000000 in
set_option maxRecDepth 100000 in
theorem c_MO_init (l : Launch) (D : va_G) (dA : Nat → ClassId) (M : mm_M) (x : Nat) (hx : M x = some (.inr (9, [.int 0, .int 0, .int 0, .int 0, .int 0, .int 0, .null, .null, .null, .null, .null, .null, .null, .null, .null, .null, .null, .null, .null, .null, .null, .null]))) : mm_Cv l y_MO_init w_MO_init ({ frames := 1, cells := 16, slots := 23032, locals := 20 }) 16 23032 D vC (tyL dA) [.ref x] M (fun M' => ∃ g : Nat → Nat, mP dA M' x g (fun _ => 0) (fun _ _ => 0) (fun _ => 0)) := by
  intro sz
  refine mm_start (by decide) (Nat.le_of_ble_eq_true rfl) ?_
  intro p e s m below meth c A Q ls hA hQ S hr hlocks hin hK hw hl
  have hl : lv_has ls 1 [(0, .ref x)] := hl
  refine lv_aload_n S.1 S.2.1 d_MO_init_0 rfl (lv_at hl 0 rfl) ?_
  refine mm_obj S gw_369 gw_25 oi_c hl.1 d_MO_init_1 (by decide) (by decide) ?_
  refine lv_aload_n S.1 S.2.1 d_MO_init_4 rfl (lv_at hl 0 rfl) ?_
  refine lv_bipush (v := 101) S.1 S.2.1 d_MO_init_5 (by decide) ?_
  refine mm_newa (atype := .int) (ty := .int) (N' := 101) (a0 := (101, .inl (fun _ => 0))) S hK.1 hw 0 gw_46 rfl rfl ((hK.1.2 0 _ rfl).2) (fun _ => rfl) (by decide) (by decide) (by decide) (Nat.le_of_ble_eq_true rfl) (Nat.le_of_ble_eq_true rfl) (fun _ h => by cases h) d_MO_init_7 (fun a0 H hqa0 hw => ?_)
  obtain ⟨M1, eM1⟩ : ∃ zM : mm_M, zM = mm_up M a0 (.inl (dA 0, 101, .inl (fun _ => 0))) := ⟨_, rfl⟩
  have hw : mm_w D vC _ _ (mm_up M a0 (.inl (dA 0, 101, .inl (fun _ => 0)))) H _ := hw
  rw [← eM1] at hw
  have hx_1 : M1 x = some (.inr (9, [.int 0, .int 0, .int 0, .int 0, .int 0, .int 0, .null, .null, .null, .null, .null, .null, .null, .null, .null, .null, .null, .null, .null, .null, .null, .null])) := by rw [eM1]; exact mm_fk hqa0 hx
  have ha0_1 : M1 a0 = some (.inl (dA 0, 101, .inl (fun _ => 0))) := by rw [eM1]; exact mm_us
  refine mm_putF (C := R_MO) (T := T_MO) (N := 22) (ty := .array .int) (v := .ref a0) S hK.1 hw hx_1 rfl in_MO t_MO k_MO n_MO 6 (by decide) gw_376 rfl rfl hin rfl (by decide +kernel) (rfl) (rfl) (Nat.le_of_ble_eq_true rfl) d_MO_init_9 (fun H locs hw => ?_)
  obtain ⟨M2, eM2⟩ : ∃ zM : mm_M, zM = mm_up M1 x (.inr (9, [.int 0, .int 0, .int 0, .int 0, .int 0, .int 0, .ref a0, .null, .null, .null, .null, .null, .null, .null, .null, .null, .null, .null, .null, .null, .null, .null])) := ⟨_, rfl⟩
  have hw : mm_w D vC _ _ (mm_up M1 x (.inr (9, [.int 0, .int 0, .int 0, .int 0, .int 0, .int 0, .ref a0, .null, .null, .null, .null, .null, .null, .null, .null, .null, .null, .null, .null, .null, .null, .null]))) H _ := hw
  rw [← eM2] at hw
  have ha0_2 : M2 a0 = some (.inl (dA 0, 101, .inl (fun _ => 0))) := by rw [eM2]; exact mm_uk hx_1 ha0_1 (by simp)
  have hx_2 : M2 x = some (.inr (9, [.int 0, .int 0, .int 0, .int 0, .int 0, .int 0, .ref a0, .null, .null, .null, .null, .null, .null, .null, .null, .null, .null, .null, .null, .null, .null, .null])) := by rw [eM2]; exact mm_us
  refine lv_aload_n S.1 S.2.1 d_MO_init_12 rfl (lv_at hl 0 rfl) ?_
  refine lv_bipush (v := 101) S.1 S.2.1 d_MO_init_13 (by decide) ?_
  refine mm_newa (atype := .int) (ty := .int) (N' := 101) (a0 := (101, .inl (fun _ => 0))) S hK.1 hw 0 gw_46 rfl rfl ((hK.1.2 0 _ rfl).2) (fun _ => rfl) (by decide) (by decide) (by decide) (Nat.le_of_ble_eq_true rfl) (Nat.le_of_ble_eq_true rfl) (fun _ h => by cases h) d_MO_init_15 (fun a1 H hqa1 hw => ?_)
  obtain ⟨M3, eM3⟩ : ∃ zM : mm_M, zM = mm_up M2 a1 (.inl (dA 0, 101, .inl (fun _ => 0))) := ⟨_, rfl⟩
  have hw : mm_w D vC _ _ (mm_up M2 a1 (.inl (dA 0, 101, .inl (fun _ => 0)))) H _ := hw
  rw [← eM3] at hw
  have hx_3 : M3 x = some (.inr (9, [.int 0, .int 0, .int 0, .int 0, .int 0, .int 0, .ref a0, .null, .null, .null, .null, .null, .null, .null, .null, .null, .null, .null, .null, .null, .null, .null])) := by rw [eM3]; exact mm_fk hqa1 hx_2
  have ha0_3 : M3 a0 = some (.inl (dA 0, 101, .inl (fun _ => 0))) := by rw [eM3]; exact mm_fk hqa1 ha0_2
  have ha1_3 : M3 a1 = some (.inl (dA 0, 101, .inl (fun _ => 0))) := by rw [eM3]; exact mm_us
  have ne_a0_a1 : a0 ≠ a1 := fun h => by rw [h, hqa1] at ha0_2; cases ha0_2
  refine mm_putF (C := R_MO) (T := T_MO) (N := 22) (ty := .array .int) (v := .ref a1) S hK.1 hw hx_3 rfl in_MO t_MO k_MO n_MO 7 (by decide) gw_377 rfl rfl hin rfl (by decide +kernel) (rfl) (rfl) (Nat.le_of_ble_eq_true rfl) d_MO_init_17 (fun H locs hw => ?_)
  obtain ⟨M4, eM4⟩ : ∃ zM : mm_M, zM = mm_up M3 x (.inr (9, [.int 0, .int 0, .int 0, .int 0, .int 0, .int 0, .ref a0, .ref a1, .null, .null, .null, .null, .null, .null, .null, .null, .null, .null, .null, .null, .null, .null])) := ⟨_, rfl⟩
  have hw : mm_w D vC _ _ (mm_up M3 x (.inr (9, [.int 0, .int 0, .int 0, .int 0, .int 0, .int 0, .ref a0, .ref a1, .null, .null, .null, .null, .null, .null, .null, .null, .null, .null, .null, .null, .null, .null]))) H _ := hw
  rw [← eM4] at hw
  have ha0_4 : M4 a0 = some (.inl (dA 0, 101, .inl (fun _ => 0))) := by rw [eM4]; exact mm_uk hx_3 ha0_3 (by simp)
  have ha1_4 : M4 a1 = some (.inl (dA 0, 101, .inl (fun _ => 0))) := by rw [eM4]; exact mm_uk hx_3 ha1_3 (by simp)
  have hx_4 : M4 x = some (.inr (9, [.int 0, .int 0, .int 0, .int 0, .int 0, .int 0, .ref a0, .ref a1, .null, .null, .null, .null, .null, .null, .null, .null, .null, .null, .null, .null, .null, .null])) := by rw [eM4]; exact mm_us
  refine lv_aload_n S.1 S.2.1 d_MO_init_20 rfl (lv_at hl 0 rfl) ?_
  refine lv_bipush (v := 101) S.1 S.2.1 d_MO_init_21 (by decide) ?_
  refine mm_newa (atype := .int) (ty := .int) (N' := 101) (a0 := (101, .inl (fun _ => 0))) S hK.1 hw 0 gw_46 rfl rfl ((hK.1.2 0 _ rfl).2) (fun _ => rfl) (by decide) (by decide) (by decide) (Nat.le_of_ble_eq_true rfl) (Nat.le_of_ble_eq_true rfl) (fun _ h => by cases h) d_MO_init_23 (fun a2 H hqa2 hw => ?_)
  obtain ⟨M5, eM5⟩ : ∃ zM : mm_M, zM = mm_up M4 a2 (.inl (dA 0, 101, .inl (fun _ => 0))) := ⟨_, rfl⟩
  have hw : mm_w D vC _ _ (mm_up M4 a2 (.inl (dA 0, 101, .inl (fun _ => 0)))) H _ := hw
  rw [← eM5] at hw
  have hx_5 : M5 x = some (.inr (9, [.int 0, .int 0, .int 0, .int 0, .int 0, .int 0, .ref a0, .ref a1, .null, .null, .null, .null, .null, .null, .null, .null, .null, .null, .null, .null, .null, .null])) := by rw [eM5]; exact mm_fk hqa2 hx_4
  have ha0_5 : M5 a0 = some (.inl (dA 0, 101, .inl (fun _ => 0))) := by rw [eM5]; exact mm_fk hqa2 ha0_4
  have ha1_5 : M5 a1 = some (.inl (dA 0, 101, .inl (fun _ => 0))) := by rw [eM5]; exact mm_fk hqa2 ha1_4
  have ha2_5 : M5 a2 = some (.inl (dA 0, 101, .inl (fun _ => 0))) := by rw [eM5]; exact mm_us
  have ne_a0_a2 : a0 ≠ a2 := fun h => by rw [h, hqa2] at ha0_4; cases ha0_4
  have ne_a1_a2 : a1 ≠ a2 := fun h => by rw [h, hqa2] at ha1_4; cases ha1_4
  refine mm_putF (C := R_MO) (T := T_MO) (N := 22) (ty := .array .int) (v := .ref a2) S hK.1 hw hx_5 rfl in_MO t_MO k_MO n_MO 8 (by decide) gw_378 rfl rfl hin rfl (by decide +kernel) (rfl) (rfl) (Nat.le_of_ble_eq_true rfl) d_MO_init_25 (fun H locs hw => ?_)
  obtain ⟨M6, eM6⟩ : ∃ zM : mm_M, zM = mm_up M5 x (.inr (9, [.int 0, .int 0, .int 0, .int 0, .int 0, .int 0, .ref a0, .ref a1, .ref a2, .null, .null, .null, .null, .null, .null, .null, .null, .null, .null, .null, .null, .null])) := ⟨_, rfl⟩
  have hw : mm_w D vC _ _ (mm_up M5 x (.inr (9, [.int 0, .int 0, .int 0, .int 0, .int 0, .int 0, .ref a0, .ref a1, .ref a2, .null, .null, .null, .null, .null, .null, .null, .null, .null, .null, .null, .null, .null]))) H _ := hw
  rw [← eM6] at hw
  have ha0_6 : M6 a0 = some (.inl (dA 0, 101, .inl (fun _ => 0))) := by rw [eM6]; exact mm_uk hx_5 ha0_5 (by simp)
  have ha1_6 : M6 a1 = some (.inl (dA 0, 101, .inl (fun _ => 0))) := by rw [eM6]; exact mm_uk hx_5 ha1_5 (by simp)
  have ha2_6 : M6 a2 = some (.inl (dA 0, 101, .inl (fun _ => 0))) := by rw [eM6]; exact mm_uk hx_5 ha2_5 (by simp)
  have hx_6 : M6 x = some (.inr (9, [.int 0, .int 0, .int 0, .int 0, .int 0, .int 0, .ref a0, .ref a1, .ref a2, .null, .null, .null, .null, .null, .null, .null, .null, .null, .null, .null, .null, .null])) := by rw [eM6]; exact mm_us
  refine lv_aload_n S.1 S.2.1 d_MO_init_28 rfl (lv_at hl 0 rfl) ?_
  refine lv_sipush (v := 1010) S.1 S.2.1 d_MO_init_29 (by decide) ?_
  refine mm_newa (atype := .int) (ty := .int) (N' := 1010) (a0 := (1010, .inl (fun _ => 0))) S hK.1 hw 0 gw_46 rfl rfl ((hK.1.2 0 _ rfl).2) (fun _ => rfl) (by decide) (by decide) (by decide) (Nat.le_of_ble_eq_true rfl) (Nat.le_of_ble_eq_true rfl) (fun _ h => by cases h) d_MO_init_32 (fun a3 H hqa3 hw => ?_)
  obtain ⟨M7, eM7⟩ : ∃ zM : mm_M, zM = mm_up M6 a3 (.inl (dA 0, 1010, .inl (fun _ => 0))) := ⟨_, rfl⟩
  have hw : mm_w D vC _ _ (mm_up M6 a3 (.inl (dA 0, 1010, .inl (fun _ => 0)))) H _ := hw
  rw [← eM7] at hw
  have hx_7 : M7 x = some (.inr (9, [.int 0, .int 0, .int 0, .int 0, .int 0, .int 0, .ref a0, .ref a1, .ref a2, .null, .null, .null, .null, .null, .null, .null, .null, .null, .null, .null, .null, .null])) := by rw [eM7]; exact mm_fk hqa3 hx_6
  have ha0_7 : M7 a0 = some (.inl (dA 0, 101, .inl (fun _ => 0))) := by rw [eM7]; exact mm_fk hqa3 ha0_6
  have ha1_7 : M7 a1 = some (.inl (dA 0, 101, .inl (fun _ => 0))) := by rw [eM7]; exact mm_fk hqa3 ha1_6
  have ha2_7 : M7 a2 = some (.inl (dA 0, 101, .inl (fun _ => 0))) := by rw [eM7]; exact mm_fk hqa3 ha2_6
  have ha3_7 : M7 a3 = some (.inl (dA 0, 1010, .inl (fun _ => 0))) := by rw [eM7]; exact mm_us
  have ne_a0_a3 : a0 ≠ a3 := fun h => by rw [h, hqa3] at ha0_6; cases ha0_6
  have ne_a1_a3 : a1 ≠ a3 := fun h => by rw [h, hqa3] at ha1_6; cases ha1_6
  have ne_a2_a3 : a2 ≠ a3 := fun h => by rw [h, hqa3] at ha2_6; cases ha2_6
  refine mm_putF (C := R_MO) (T := T_MO) (N := 22) (ty := .array .int) (v := .ref a3) S hK.1 hw hx_7 rfl in_MO t_MO k_MO n_MO 9 (by decide) gw_379 rfl rfl hin rfl (by decide +kernel) (rfl) (rfl) (Nat.le_of_ble_eq_true rfl) d_MO_init_34 (fun H locs hw => ?_)
  obtain ⟨M8, eM8⟩ : ∃ zM : mm_M, zM = mm_up M7 x (.inr (9, [.int 0, .int 0, .int 0, .int 0, .int 0, .int 0, .ref a0, .ref a1, .ref a2, .ref a3, .null, .null, .null, .null, .null, .null, .null, .null, .null, .null, .null, .null])) := ⟨_, rfl⟩
  have hw : mm_w D vC _ _ (mm_up M7 x (.inr (9, [.int 0, .int 0, .int 0, .int 0, .int 0, .int 0, .ref a0, .ref a1, .ref a2, .ref a3, .null, .null, .null, .null, .null, .null, .null, .null, .null, .null, .null, .null]))) H _ := hw
  rw [← eM8] at hw
  have ha0_8 : M8 a0 = some (.inl (dA 0, 101, .inl (fun _ => 0))) := by rw [eM8]; exact mm_uk hx_7 ha0_7 (by simp)
  have ha1_8 : M8 a1 = some (.inl (dA 0, 101, .inl (fun _ => 0))) := by rw [eM8]; exact mm_uk hx_7 ha1_7 (by simp)
  have ha2_8 : M8 a2 = some (.inl (dA 0, 101, .inl (fun _ => 0))) := by rw [eM8]; exact mm_uk hx_7 ha2_7 (by simp)
  have ha3_8 : M8 a3 = some (.inl (dA 0, 1010, .inl (fun _ => 0))) := by rw [eM8]; exact mm_uk hx_7 ha3_7 (by simp)
  have hx_8 : M8 x = some (.inr (9, [.int 0, .int 0, .int 0, .int 0, .int 0, .int 0, .ref a0, .ref a1, .ref a2, .ref a3, .null, .null, .null, .null, .null, .null, .null, .null, .null, .null, .null, .null])) := by rw [eM8]; exact mm_us
  refine lv_aload_n S.1 S.2.1 d_MO_init_37 rfl (lv_at hl 0 rfl) ?_
  refine lv_sipush (v := 301) S.1 S.2.1 d_MO_init_38 (by decide) ?_
  refine mm_newa (atype := .int) (ty := .int) (N' := 301) (a0 := (301, .inl (fun _ => 0))) S hK.1 hw 0 gw_46 rfl rfl ((hK.1.2 0 _ rfl).2) (fun _ => rfl) (by decide) (by decide) (by decide) (Nat.le_of_ble_eq_true rfl) (Nat.le_of_ble_eq_true rfl) (fun _ h => by cases h) d_MO_init_41 (fun a4 H hqa4 hw => ?_)
  obtain ⟨M9, eM9⟩ : ∃ zM : mm_M, zM = mm_up M8 a4 (.inl (dA 0, 301, .inl (fun _ => 0))) := ⟨_, rfl⟩
  have hw : mm_w D vC _ _ (mm_up M8 a4 (.inl (dA 0, 301, .inl (fun _ => 0)))) H _ := hw
  rw [← eM9] at hw
  have hx_9 : M9 x = some (.inr (9, [.int 0, .int 0, .int 0, .int 0, .int 0, .int 0, .ref a0, .ref a1, .ref a2, .ref a3, .null, .null, .null, .null, .null, .null, .null, .null, .null, .null, .null, .null])) := by rw [eM9]; exact mm_fk hqa4 hx_8
  have ha0_9 : M9 a0 = some (.inl (dA 0, 101, .inl (fun _ => 0))) := by rw [eM9]; exact mm_fk hqa4 ha0_8
  have ha1_9 : M9 a1 = some (.inl (dA 0, 101, .inl (fun _ => 0))) := by rw [eM9]; exact mm_fk hqa4 ha1_8
  have ha2_9 : M9 a2 = some (.inl (dA 0, 101, .inl (fun _ => 0))) := by rw [eM9]; exact mm_fk hqa4 ha2_8
  have ha3_9 : M9 a3 = some (.inl (dA 0, 1010, .inl (fun _ => 0))) := by rw [eM9]; exact mm_fk hqa4 ha3_8
  have ha4_9 : M9 a4 = some (.inl (dA 0, 301, .inl (fun _ => 0))) := by rw [eM9]; exact mm_us
  have ne_a0_a4 : a0 ≠ a4 := fun h => by rw [h, hqa4] at ha0_8; cases ha0_8
  have ne_a1_a4 : a1 ≠ a4 := fun h => by rw [h, hqa4] at ha1_8; cases ha1_8
  have ne_a2_a4 : a2 ≠ a4 := fun h => by rw [h, hqa4] at ha2_8; cases ha2_8
  have ne_a3_a4 : a3 ≠ a4 := fun h => by rw [h, hqa4] at ha3_8; cases ha3_8
  refine mm_putF (C := R_MO) (T := T_MO) (N := 22) (ty := .array .int) (v := .ref a4) S hK.1 hw hx_9 rfl in_MO t_MO k_MO n_MO 10 (by decide) gw_380 rfl rfl hin rfl (by decide +kernel) (rfl) (rfl) (Nat.le_of_ble_eq_true rfl) d_MO_init_43 (fun H locs hw => ?_)
  obtain ⟨M10, eM10⟩ : ∃ zM : mm_M, zM = mm_up M9 x (.inr (9, [.int 0, .int 0, .int 0, .int 0, .int 0, .int 0, .ref a0, .ref a1, .ref a2, .ref a3, .ref a4, .null, .null, .null, .null, .null, .null, .null, .null, .null, .null, .null])) := ⟨_, rfl⟩
  have hw : mm_w D vC _ _ (mm_up M9 x (.inr (9, [.int 0, .int 0, .int 0, .int 0, .int 0, .int 0, .ref a0, .ref a1, .ref a2, .ref a3, .ref a4, .null, .null, .null, .null, .null, .null, .null, .null, .null, .null, .null]))) H _ := hw
  rw [← eM10] at hw
  have ha0_10 : M10 a0 = some (.inl (dA 0, 101, .inl (fun _ => 0))) := by rw [eM10]; exact mm_uk hx_9 ha0_9 (by simp)
  have ha1_10 : M10 a1 = some (.inl (dA 0, 101, .inl (fun _ => 0))) := by rw [eM10]; exact mm_uk hx_9 ha1_9 (by simp)
  have ha2_10 : M10 a2 = some (.inl (dA 0, 101, .inl (fun _ => 0))) := by rw [eM10]; exact mm_uk hx_9 ha2_9 (by simp)
  have ha3_10 : M10 a3 = some (.inl (dA 0, 1010, .inl (fun _ => 0))) := by rw [eM10]; exact mm_uk hx_9 ha3_9 (by simp)
  have ha4_10 : M10 a4 = some (.inl (dA 0, 301, .inl (fun _ => 0))) := by rw [eM10]; exact mm_uk hx_9 ha4_9 (by simp)
  have hx_10 : M10 x = some (.inr (9, [.int 0, .int 0, .int 0, .int 0, .int 0, .int 0, .ref a0, .ref a1, .ref a2, .ref a3, .ref a4, .null, .null, .null, .null, .null, .null, .null, .null, .null, .null, .null])) := by rw [eM10]; exact mm_us
  refine lv_aload_n S.1 S.2.1 d_MO_init_46 rfl (lv_at hl 0 rfl) ?_
  refine lv_sipush (v := 301) S.1 S.2.1 d_MO_init_47 (by decide) ?_
  refine mm_newa (atype := .int) (ty := .int) (N' := 301) (a0 := (301, .inl (fun _ => 0))) S hK.1 hw 0 gw_46 rfl rfl ((hK.1.2 0 _ rfl).2) (fun _ => rfl) (by decide) (by decide) (by decide) (Nat.le_of_ble_eq_true rfl) (Nat.le_of_ble_eq_true rfl) (fun _ h => by cases h) d_MO_init_50 (fun a5 H hqa5 hw => ?_)
  obtain ⟨M11, eM11⟩ : ∃ zM : mm_M, zM = mm_up M10 a5 (.inl (dA 0, 301, .inl (fun _ => 0))) := ⟨_, rfl⟩
  have hw : mm_w D vC _ _ (mm_up M10 a5 (.inl (dA 0, 301, .inl (fun _ => 0)))) H _ := hw
  rw [← eM11] at hw
  have hx_11 : M11 x = some (.inr (9, [.int 0, .int 0, .int 0, .int 0, .int 0, .int 0, .ref a0, .ref a1, .ref a2, .ref a3, .ref a4, .null, .null, .null, .null, .null, .null, .null, .null, .null, .null, .null])) := by rw [eM11]; exact mm_fk hqa5 hx_10
  have ha0_11 : M11 a0 = some (.inl (dA 0, 101, .inl (fun _ => 0))) := by rw [eM11]; exact mm_fk hqa5 ha0_10
  have ha1_11 : M11 a1 = some (.inl (dA 0, 101, .inl (fun _ => 0))) := by rw [eM11]; exact mm_fk hqa5 ha1_10
  have ha2_11 : M11 a2 = some (.inl (dA 0, 101, .inl (fun _ => 0))) := by rw [eM11]; exact mm_fk hqa5 ha2_10
  have ha3_11 : M11 a3 = some (.inl (dA 0, 1010, .inl (fun _ => 0))) := by rw [eM11]; exact mm_fk hqa5 ha3_10
  have ha4_11 : M11 a4 = some (.inl (dA 0, 301, .inl (fun _ => 0))) := by rw [eM11]; exact mm_fk hqa5 ha4_10
  have ha5_11 : M11 a5 = some (.inl (dA 0, 301, .inl (fun _ => 0))) := by rw [eM11]; exact mm_us
  have ne_a0_a5 : a0 ≠ a5 := fun h => by rw [h, hqa5] at ha0_10; cases ha0_10
  have ne_a1_a5 : a1 ≠ a5 := fun h => by rw [h, hqa5] at ha1_10; cases ha1_10
  have ne_a2_a5 : a2 ≠ a5 := fun h => by rw [h, hqa5] at ha2_10; cases ha2_10
  have ne_a3_a5 : a3 ≠ a5 := fun h => by rw [h, hqa5] at ha3_10; cases ha3_10
  have ne_a4_a5 : a4 ≠ a5 := fun h => by rw [h, hqa5] at ha4_10; cases ha4_10
  refine mm_putF (C := R_MO) (T := T_MO) (N := 22) (ty := .array .int) (v := .ref a5) S hK.1 hw hx_11 rfl in_MO t_MO k_MO n_MO 11 (by decide) gw_381 rfl rfl hin rfl (by decide +kernel) (rfl) (rfl) (Nat.le_of_ble_eq_true rfl) d_MO_init_52 (fun H locs hw => ?_)
  obtain ⟨M12, eM12⟩ : ∃ zM : mm_M, zM = mm_up M11 x (.inr (9, [.int 0, .int 0, .int 0, .int 0, .int 0, .int 0, .ref a0, .ref a1, .ref a2, .ref a3, .ref a4, .ref a5, .null, .null, .null, .null, .null, .null, .null, .null, .null, .null])) := ⟨_, rfl⟩
  have hw : mm_w D vC _ _ (mm_up M11 x (.inr (9, [.int 0, .int 0, .int 0, .int 0, .int 0, .int 0, .ref a0, .ref a1, .ref a2, .ref a3, .ref a4, .ref a5, .null, .null, .null, .null, .null, .null, .null, .null, .null, .null]))) H _ := hw
  rw [← eM12] at hw
  have ha0_12 : M12 a0 = some (.inl (dA 0, 101, .inl (fun _ => 0))) := by rw [eM12]; exact mm_uk hx_11 ha0_11 (by simp)
  have ha1_12 : M12 a1 = some (.inl (dA 0, 101, .inl (fun _ => 0))) := by rw [eM12]; exact mm_uk hx_11 ha1_11 (by simp)
  have ha2_12 : M12 a2 = some (.inl (dA 0, 101, .inl (fun _ => 0))) := by rw [eM12]; exact mm_uk hx_11 ha2_11 (by simp)
  have ha3_12 : M12 a3 = some (.inl (dA 0, 1010, .inl (fun _ => 0))) := by rw [eM12]; exact mm_uk hx_11 ha3_11 (by simp)
  have ha4_12 : M12 a4 = some (.inl (dA 0, 301, .inl (fun _ => 0))) := by rw [eM12]; exact mm_uk hx_11 ha4_11 (by simp)
  have ha5_12 : M12 a5 = some (.inl (dA 0, 301, .inl (fun _ => 0))) := by rw [eM12]; exact mm_uk hx_11 ha5_11 (by simp)
  have hx_12 : M12 x = some (.inr (9, [.int 0, .int 0, .int 0, .int 0, .int 0, .int 0, .ref a0, .ref a1, .ref a2, .ref a3, .ref a4, .ref a5, .null, .null, .null, .null, .null, .null, .null, .null, .null, .null])) := by rw [eM12]; exact mm_us
  refine lv_aload_n S.1 S.2.1 d_MO_init_55 rfl (lv_at hl 0 rfl) ?_
  refine lv_sipush (v := 301) S.1 S.2.1 d_MO_init_56 (by decide) ?_
  refine mm_newa (atype := .boolean) (ty := .boolean) (N' := 301) (a0 := (301, .inl (fun _ => 0))) S hK.1 hw 2 gw_437 rfl rfl ((hK.1.2 2 _ rfl).2) (fun _ => rfl) (by decide) (by decide) (by decide) (Nat.le_of_ble_eq_true rfl) (Nat.le_of_ble_eq_true rfl) (fun _ h => by cases h) d_MO_init_59 (fun a6 H hqa6 hw => ?_)
  obtain ⟨M13, eM13⟩ : ∃ zM : mm_M, zM = mm_up M12 a6 (.inl (dA 2, 301, .inl (fun _ => 0))) := ⟨_, rfl⟩
  have hw : mm_w D vC _ _ (mm_up M12 a6 (.inl (dA 2, 301, .inl (fun _ => 0)))) H _ := hw
  rw [← eM13] at hw
  have hx_13 : M13 x = some (.inr (9, [.int 0, .int 0, .int 0, .int 0, .int 0, .int 0, .ref a0, .ref a1, .ref a2, .ref a3, .ref a4, .ref a5, .null, .null, .null, .null, .null, .null, .null, .null, .null, .null])) := by rw [eM13]; exact mm_fk hqa6 hx_12
  have ha0_13 : M13 a0 = some (.inl (dA 0, 101, .inl (fun _ => 0))) := by rw [eM13]; exact mm_fk hqa6 ha0_12
  have ha1_13 : M13 a1 = some (.inl (dA 0, 101, .inl (fun _ => 0))) := by rw [eM13]; exact mm_fk hqa6 ha1_12
  have ha2_13 : M13 a2 = some (.inl (dA 0, 101, .inl (fun _ => 0))) := by rw [eM13]; exact mm_fk hqa6 ha2_12
  have ha3_13 : M13 a3 = some (.inl (dA 0, 1010, .inl (fun _ => 0))) := by rw [eM13]; exact mm_fk hqa6 ha3_12
  have ha4_13 : M13 a4 = some (.inl (dA 0, 301, .inl (fun _ => 0))) := by rw [eM13]; exact mm_fk hqa6 ha4_12
  have ha5_13 : M13 a5 = some (.inl (dA 0, 301, .inl (fun _ => 0))) := by rw [eM13]; exact mm_fk hqa6 ha5_12
  have ha6_13 : M13 a6 = some (.inl (dA 2, 301, .inl (fun _ => 0))) := by rw [eM13]; exact mm_us
  have ne_a0_a6 : a0 ≠ a6 := fun h => by rw [h, hqa6] at ha0_12; cases ha0_12
  have ne_a1_a6 : a1 ≠ a6 := fun h => by rw [h, hqa6] at ha1_12; cases ha1_12
  have ne_a2_a6 : a2 ≠ a6 := fun h => by rw [h, hqa6] at ha2_12; cases ha2_12
  have ne_a3_a6 : a3 ≠ a6 := fun h => by rw [h, hqa6] at ha3_12; cases ha3_12
  have ne_a4_a6 : a4 ≠ a6 := fun h => by rw [h, hqa6] at ha4_12; cases ha4_12
  have ne_a5_a6 : a5 ≠ a6 := fun h => by rw [h, hqa6] at ha5_12; cases ha5_12
  refine mm_putF (C := R_MO) (T := T_MO) (N := 22) (ty := .array .boolean) (v := .ref a6) S hK.1 hw hx_13 rfl in_MO t_MO k_MO n_MO 12 (by decide) gw_382 rfl rfl hin rfl (by decide +kernel) (rfl) (rfl) (Nat.le_of_ble_eq_true rfl) d_MO_init_61 (fun H locs hw => ?_)
  obtain ⟨M14, eM14⟩ : ∃ zM : mm_M, zM = mm_up M13 x (.inr (9, [.int 0, .int 0, .int 0, .int 0, .int 0, .int 0, .ref a0, .ref a1, .ref a2, .ref a3, .ref a4, .ref a5, .ref a6, .null, .null, .null, .null, .null, .null, .null, .null, .null])) := ⟨_, rfl⟩
  have hw : mm_w D vC _ _ (mm_up M13 x (.inr (9, [.int 0, .int 0, .int 0, .int 0, .int 0, .int 0, .ref a0, .ref a1, .ref a2, .ref a3, .ref a4, .ref a5, .ref a6, .null, .null, .null, .null, .null, .null, .null, .null, .null]))) H _ := hw
  rw [← eM14] at hw
  have ha0_14 : M14 a0 = some (.inl (dA 0, 101, .inl (fun _ => 0))) := by rw [eM14]; exact mm_uk hx_13 ha0_13 (by simp)
  have ha1_14 : M14 a1 = some (.inl (dA 0, 101, .inl (fun _ => 0))) := by rw [eM14]; exact mm_uk hx_13 ha1_13 (by simp)
  have ha2_14 : M14 a2 = some (.inl (dA 0, 101, .inl (fun _ => 0))) := by rw [eM14]; exact mm_uk hx_13 ha2_13 (by simp)
  have ha3_14 : M14 a3 = some (.inl (dA 0, 1010, .inl (fun _ => 0))) := by rw [eM14]; exact mm_uk hx_13 ha3_13 (by simp)
  have ha4_14 : M14 a4 = some (.inl (dA 0, 301, .inl (fun _ => 0))) := by rw [eM14]; exact mm_uk hx_13 ha4_13 (by simp)
  have ha5_14 : M14 a5 = some (.inl (dA 0, 301, .inl (fun _ => 0))) := by rw [eM14]; exact mm_uk hx_13 ha5_13 (by simp)
  have ha6_14 : M14 a6 = some (.inl (dA 2, 301, .inl (fun _ => 0))) := by rw [eM14]; exact mm_uk hx_13 ha6_13 (by simp)
  have hx_14 : M14 x = some (.inr (9, [.int 0, .int 0, .int 0, .int 0, .int 0, .int 0, .ref a0, .ref a1, .ref a2, .ref a3, .ref a4, .ref a5, .ref a6, .null, .null, .null, .null, .null, .null, .null, .null, .null])) := by rw [eM14]; exact mm_us
  refine lv_aload_n S.1 S.2.1 d_MO_init_64 rfl (lv_at hl 0 rfl) ?_
  refine lv_sipush (v := 301) S.1 S.2.1 d_MO_init_65 (by decide) ?_
  refine mm_newa (atype := .boolean) (ty := .boolean) (N' := 301) (a0 := (301, .inl (fun _ => 0))) S hK.1 hw 2 gw_437 rfl rfl ((hK.1.2 2 _ rfl).2) (fun _ => rfl) (by decide) (by decide) (by decide) (Nat.le_of_ble_eq_true rfl) (Nat.le_of_ble_eq_true rfl) (fun _ h => by cases h) d_MO_init_68 (fun a7 H hqa7 hw => ?_)
  obtain ⟨M15, eM15⟩ : ∃ zM : mm_M, zM = mm_up M14 a7 (.inl (dA 2, 301, .inl (fun _ => 0))) := ⟨_, rfl⟩
  have hw : mm_w D vC _ _ (mm_up M14 a7 (.inl (dA 2, 301, .inl (fun _ => 0)))) H _ := hw
  rw [← eM15] at hw
  have hx_15 : M15 x = some (.inr (9, [.int 0, .int 0, .int 0, .int 0, .int 0, .int 0, .ref a0, .ref a1, .ref a2, .ref a3, .ref a4, .ref a5, .ref a6, .null, .null, .null, .null, .null, .null, .null, .null, .null])) := by rw [eM15]; exact mm_fk hqa7 hx_14
  have ha0_15 : M15 a0 = some (.inl (dA 0, 101, .inl (fun _ => 0))) := by rw [eM15]; exact mm_fk hqa7 ha0_14
  have ha1_15 : M15 a1 = some (.inl (dA 0, 101, .inl (fun _ => 0))) := by rw [eM15]; exact mm_fk hqa7 ha1_14
  have ha2_15 : M15 a2 = some (.inl (dA 0, 101, .inl (fun _ => 0))) := by rw [eM15]; exact mm_fk hqa7 ha2_14
  have ha3_15 : M15 a3 = some (.inl (dA 0, 1010, .inl (fun _ => 0))) := by rw [eM15]; exact mm_fk hqa7 ha3_14
  have ha4_15 : M15 a4 = some (.inl (dA 0, 301, .inl (fun _ => 0))) := by rw [eM15]; exact mm_fk hqa7 ha4_14
  have ha5_15 : M15 a5 = some (.inl (dA 0, 301, .inl (fun _ => 0))) := by rw [eM15]; exact mm_fk hqa7 ha5_14
  have ha6_15 : M15 a6 = some (.inl (dA 2, 301, .inl (fun _ => 0))) := by rw [eM15]; exact mm_fk hqa7 ha6_14
  have ha7_15 : M15 a7 = some (.inl (dA 2, 301, .inl (fun _ => 0))) := by rw [eM15]; exact mm_us
  have ne_a0_a7 : a0 ≠ a7 := fun h => by rw [h, hqa7] at ha0_14; cases ha0_14
  have ne_a1_a7 : a1 ≠ a7 := fun h => by rw [h, hqa7] at ha1_14; cases ha1_14
  have ne_a2_a7 : a2 ≠ a7 := fun h => by rw [h, hqa7] at ha2_14; cases ha2_14
  have ne_a3_a7 : a3 ≠ a7 := fun h => by rw [h, hqa7] at ha3_14; cases ha3_14
  have ne_a4_a7 : a4 ≠ a7 := fun h => by rw [h, hqa7] at ha4_14; cases ha4_14
  have ne_a5_a7 : a5 ≠ a7 := fun h => by rw [h, hqa7] at ha5_14; cases ha5_14
  have ne_a6_a7 : a6 ≠ a7 := fun h => by rw [h, hqa7] at ha6_14; cases ha6_14
  refine mm_putF (C := R_MO) (T := T_MO) (N := 22) (ty := .array .boolean) (v := .ref a7) S hK.1 hw hx_15 rfl in_MO t_MO k_MO n_MO 13 (by decide) gw_383 rfl rfl hin rfl (by decide +kernel) (rfl) (rfl) (Nat.le_of_ble_eq_true rfl) d_MO_init_70 (fun H locs hw => ?_)
  obtain ⟨M16, eM16⟩ : ∃ zM : mm_M, zM = mm_up M15 x (.inr (9, [.int 0, .int 0, .int 0, .int 0, .int 0, .int 0, .ref a0, .ref a1, .ref a2, .ref a3, .ref a4, .ref a5, .ref a6, .ref a7, .null, .null, .null, .null, .null, .null, .null, .null])) := ⟨_, rfl⟩
  have hw : mm_w D vC _ _ (mm_up M15 x (.inr (9, [.int 0, .int 0, .int 0, .int 0, .int 0, .int 0, .ref a0, .ref a1, .ref a2, .ref a3, .ref a4, .ref a5, .ref a6, .ref a7, .null, .null, .null, .null, .null, .null, .null, .null]))) H _ := hw
  rw [← eM16] at hw
  have ha0_16 : M16 a0 = some (.inl (dA 0, 101, .inl (fun _ => 0))) := by rw [eM16]; exact mm_uk hx_15 ha0_15 (by simp)
  have ha1_16 : M16 a1 = some (.inl (dA 0, 101, .inl (fun _ => 0))) := by rw [eM16]; exact mm_uk hx_15 ha1_15 (by simp)
  have ha2_16 : M16 a2 = some (.inl (dA 0, 101, .inl (fun _ => 0))) := by rw [eM16]; exact mm_uk hx_15 ha2_15 (by simp)
  have ha3_16 : M16 a3 = some (.inl (dA 0, 1010, .inl (fun _ => 0))) := by rw [eM16]; exact mm_uk hx_15 ha3_15 (by simp)
  have ha4_16 : M16 a4 = some (.inl (dA 0, 301, .inl (fun _ => 0))) := by rw [eM16]; exact mm_uk hx_15 ha4_15 (by simp)
  have ha5_16 : M16 a5 = some (.inl (dA 0, 301, .inl (fun _ => 0))) := by rw [eM16]; exact mm_uk hx_15 ha5_15 (by simp)
  have ha6_16 : M16 a6 = some (.inl (dA 2, 301, .inl (fun _ => 0))) := by rw [eM16]; exact mm_uk hx_15 ha6_15 (by simp)
  have ha7_16 : M16 a7 = some (.inl (dA 2, 301, .inl (fun _ => 0))) := by rw [eM16]; exact mm_uk hx_15 ha7_15 (by simp)
  have hx_16 : M16 x = some (.inr (9, [.int 0, .int 0, .int 0, .int 0, .int 0, .int 0, .ref a0, .ref a1, .ref a2, .ref a3, .ref a4, .ref a5, .ref a6, .ref a7, .null, .null, .null, .null, .null, .null, .null, .null])) := by rw [eM16]; exact mm_us
  refine lv_aload_n S.1 S.2.1 d_MO_init_73 rfl (lv_at hl 0 rfl) ?_
  refine lv_sipush (v := 10000) S.1 S.2.1 d_MO_init_74 (by decide) ?_
  refine mm_newa (atype := .int) (ty := .int) (N' := 10000) (a0 := (10000, .inl (fun _ => 0))) S hK.1 hw 0 gw_46 rfl rfl ((hK.1.2 0 _ rfl).2) (fun _ => rfl) (by decide) (by decide) (by decide) (Nat.le_of_ble_eq_true rfl) (Nat.le_of_ble_eq_true rfl) (fun _ h => by cases h) d_MO_init_77 (fun a8 H hqa8 hw => ?_)
  obtain ⟨M17, eM17⟩ : ∃ zM : mm_M, zM = mm_up M16 a8 (.inl (dA 0, 10000, .inl (fun _ => 0))) := ⟨_, rfl⟩
  have hw : mm_w D vC _ _ (mm_up M16 a8 (.inl (dA 0, 10000, .inl (fun _ => 0)))) H _ := hw
  rw [← eM17] at hw
  have hx_17 : M17 x = some (.inr (9, [.int 0, .int 0, .int 0, .int 0, .int 0, .int 0, .ref a0, .ref a1, .ref a2, .ref a3, .ref a4, .ref a5, .ref a6, .ref a7, .null, .null, .null, .null, .null, .null, .null, .null])) := by rw [eM17]; exact mm_fk hqa8 hx_16
  have ha0_17 : M17 a0 = some (.inl (dA 0, 101, .inl (fun _ => 0))) := by rw [eM17]; exact mm_fk hqa8 ha0_16
  have ha1_17 : M17 a1 = some (.inl (dA 0, 101, .inl (fun _ => 0))) := by rw [eM17]; exact mm_fk hqa8 ha1_16
  have ha2_17 : M17 a2 = some (.inl (dA 0, 101, .inl (fun _ => 0))) := by rw [eM17]; exact mm_fk hqa8 ha2_16
  have ha3_17 : M17 a3 = some (.inl (dA 0, 1010, .inl (fun _ => 0))) := by rw [eM17]; exact mm_fk hqa8 ha3_16
  have ha4_17 : M17 a4 = some (.inl (dA 0, 301, .inl (fun _ => 0))) := by rw [eM17]; exact mm_fk hqa8 ha4_16
  have ha5_17 : M17 a5 = some (.inl (dA 0, 301, .inl (fun _ => 0))) := by rw [eM17]; exact mm_fk hqa8 ha5_16
  have ha6_17 : M17 a6 = some (.inl (dA 2, 301, .inl (fun _ => 0))) := by rw [eM17]; exact mm_fk hqa8 ha6_16
  have ha7_17 : M17 a7 = some (.inl (dA 2, 301, .inl (fun _ => 0))) := by rw [eM17]; exact mm_fk hqa8 ha7_16
  have ha8_17 : M17 a8 = some (.inl (dA 0, 10000, .inl (fun _ => 0))) := by rw [eM17]; exact mm_us
  have ne_a0_a8 : a0 ≠ a8 := fun h => by rw [h, hqa8] at ha0_16; cases ha0_16
  have ne_a1_a8 : a1 ≠ a8 := fun h => by rw [h, hqa8] at ha1_16; cases ha1_16
  have ne_a2_a8 : a2 ≠ a8 := fun h => by rw [h, hqa8] at ha2_16; cases ha2_16
  have ne_a3_a8 : a3 ≠ a8 := fun h => by rw [h, hqa8] at ha3_16; cases ha3_16
  have ne_a4_a8 : a4 ≠ a8 := fun h => by rw [h, hqa8] at ha4_16; cases ha4_16
  have ne_a5_a8 : a5 ≠ a8 := fun h => by rw [h, hqa8] at ha5_16; cases ha5_16
  have ne_a6_a8 : a6 ≠ a8 := fun h => by rw [h, hqa8] at ha6_16; cases ha6_16
  have ne_a7_a8 : a7 ≠ a8 := fun h => by rw [h, hqa8] at ha7_16; cases ha7_16
  refine mm_putF (C := R_MO) (T := T_MO) (N := 22) (ty := .array .int) (v := .ref a8) S hK.1 hw hx_17 rfl in_MO t_MO k_MO n_MO 14 (by decide) gw_384 rfl rfl hin rfl (by decide +kernel) (rfl) (rfl) (Nat.le_of_ble_eq_true rfl) d_MO_init_79 (fun H locs hw => ?_)
  obtain ⟨M18, eM18⟩ : ∃ zM : mm_M, zM = mm_up M17 x (.inr (9, [.int 0, .int 0, .int 0, .int 0, .int 0, .int 0, .ref a0, .ref a1, .ref a2, .ref a3, .ref a4, .ref a5, .ref a6, .ref a7, .ref a8, .null, .null, .null, .null, .null, .null, .null])) := ⟨_, rfl⟩
  have hw : mm_w D vC _ _ (mm_up M17 x (.inr (9, [.int 0, .int 0, .int 0, .int 0, .int 0, .int 0, .ref a0, .ref a1, .ref a2, .ref a3, .ref a4, .ref a5, .ref a6, .ref a7, .ref a8, .null, .null, .null, .null, .null, .null, .null]))) H _ := hw
  rw [← eM18] at hw
  have ha0_18 : M18 a0 = some (.inl (dA 0, 101, .inl (fun _ => 0))) := by rw [eM18]; exact mm_uk hx_17 ha0_17 (by simp)
  have ha1_18 : M18 a1 = some (.inl (dA 0, 101, .inl (fun _ => 0))) := by rw [eM18]; exact mm_uk hx_17 ha1_17 (by simp)
  have ha2_18 : M18 a2 = some (.inl (dA 0, 101, .inl (fun _ => 0))) := by rw [eM18]; exact mm_uk hx_17 ha2_17 (by simp)
  have ha3_18 : M18 a3 = some (.inl (dA 0, 1010, .inl (fun _ => 0))) := by rw [eM18]; exact mm_uk hx_17 ha3_17 (by simp)
  have ha4_18 : M18 a4 = some (.inl (dA 0, 301, .inl (fun _ => 0))) := by rw [eM18]; exact mm_uk hx_17 ha4_17 (by simp)
  have ha5_18 : M18 a5 = some (.inl (dA 0, 301, .inl (fun _ => 0))) := by rw [eM18]; exact mm_uk hx_17 ha5_17 (by simp)
  have ha6_18 : M18 a6 = some (.inl (dA 2, 301, .inl (fun _ => 0))) := by rw [eM18]; exact mm_uk hx_17 ha6_17 (by simp)
  have ha7_18 : M18 a7 = some (.inl (dA 2, 301, .inl (fun _ => 0))) := by rw [eM18]; exact mm_uk hx_17 ha7_17 (by simp)
  have ha8_18 : M18 a8 = some (.inl (dA 0, 10000, .inl (fun _ => 0))) := by rw [eM18]; exact mm_uk hx_17 ha8_17 (by simp)
  have hx_18 : M18 x = some (.inr (9, [.int 0, .int 0, .int 0, .int 0, .int 0, .int 0, .ref a0, .ref a1, .ref a2, .ref a3, .ref a4, .ref a5, .ref a6, .ref a7, .ref a8, .null, .null, .null, .null, .null, .null, .null])) := by rw [eM18]; exact mm_us
  refine lv_aload_n S.1 S.2.1 d_MO_init_82 rfl (lv_at hl 0 rfl) ?_
  refine lv_bipush (v := 41) S.1 S.2.1 d_MO_init_83 (by decide) ?_
  refine mm_newa (atype := .int) (ty := .int) (N' := 41) (a0 := (41, .inl (fun _ => 0))) S hK.1 hw 0 gw_46 rfl rfl ((hK.1.2 0 _ rfl).2) (fun _ => rfl) (by decide) (by decide) (by decide) (Nat.le_of_ble_eq_true rfl) (Nat.le_of_ble_eq_true rfl) (fun _ h => by cases h) d_MO_init_85 (fun a9 H hqa9 hw => ?_)
  obtain ⟨M19, eM19⟩ : ∃ zM : mm_M, zM = mm_up M18 a9 (.inl (dA 0, 41, .inl (fun _ => 0))) := ⟨_, rfl⟩
  have hw : mm_w D vC _ _ (mm_up M18 a9 (.inl (dA 0, 41, .inl (fun _ => 0)))) H _ := hw
  rw [← eM19] at hw
  have hx_19 : M19 x = some (.inr (9, [.int 0, .int 0, .int 0, .int 0, .int 0, .int 0, .ref a0, .ref a1, .ref a2, .ref a3, .ref a4, .ref a5, .ref a6, .ref a7, .ref a8, .null, .null, .null, .null, .null, .null, .null])) := by rw [eM19]; exact mm_fk hqa9 hx_18
  have ha0_19 : M19 a0 = some (.inl (dA 0, 101, .inl (fun _ => 0))) := by rw [eM19]; exact mm_fk hqa9 ha0_18
  have ha1_19 : M19 a1 = some (.inl (dA 0, 101, .inl (fun _ => 0))) := by rw [eM19]; exact mm_fk hqa9 ha1_18
  have ha2_19 : M19 a2 = some (.inl (dA 0, 101, .inl (fun _ => 0))) := by rw [eM19]; exact mm_fk hqa9 ha2_18
  have ha3_19 : M19 a3 = some (.inl (dA 0, 1010, .inl (fun _ => 0))) := by rw [eM19]; exact mm_fk hqa9 ha3_18
  have ha4_19 : M19 a4 = some (.inl (dA 0, 301, .inl (fun _ => 0))) := by rw [eM19]; exact mm_fk hqa9 ha4_18
  have ha5_19 : M19 a5 = some (.inl (dA 0, 301, .inl (fun _ => 0))) := by rw [eM19]; exact mm_fk hqa9 ha5_18
  have ha6_19 : M19 a6 = some (.inl (dA 2, 301, .inl (fun _ => 0))) := by rw [eM19]; exact mm_fk hqa9 ha6_18
  have ha7_19 : M19 a7 = some (.inl (dA 2, 301, .inl (fun _ => 0))) := by rw [eM19]; exact mm_fk hqa9 ha7_18
  have ha8_19 : M19 a8 = some (.inl (dA 0, 10000, .inl (fun _ => 0))) := by rw [eM19]; exact mm_fk hqa9 ha8_18
  have ha9_19 : M19 a9 = some (.inl (dA 0, 41, .inl (fun _ => 0))) := by rw [eM19]; exact mm_us
  have ne_a0_a9 : a0 ≠ a9 := fun h => by rw [h, hqa9] at ha0_18; cases ha0_18
  have ne_a1_a9 : a1 ≠ a9 := fun h => by rw [h, hqa9] at ha1_18; cases ha1_18
  have ne_a2_a9 : a2 ≠ a9 := fun h => by rw [h, hqa9] at ha2_18; cases ha2_18
  have ne_a3_a9 : a3 ≠ a9 := fun h => by rw [h, hqa9] at ha3_18; cases ha3_18
  have ne_a4_a9 : a4 ≠ a9 := fun h => by rw [h, hqa9] at ha4_18; cases ha4_18
  have ne_a5_a9 : a5 ≠ a9 := fun h => by rw [h, hqa9] at ha5_18; cases ha5_18
  have ne_a6_a9 : a6 ≠ a9 := fun h => by rw [h, hqa9] at ha6_18; cases ha6_18
  have ne_a7_a9 : a7 ≠ a9 := fun h => by rw [h, hqa9] at ha7_18; cases ha7_18
  have ne_a8_a9 : a8 ≠ a9 := fun h => by rw [h, hqa9] at ha8_18; cases ha8_18
  refine mm_putF (C := R_MO) (T := T_MO) (N := 22) (ty := .array .int) (v := .ref a9) S hK.1 hw hx_19 rfl in_MO t_MO k_MO n_MO 15 (by decide) gw_385 rfl rfl hin rfl (by decide +kernel) (rfl) (rfl) (Nat.le_of_ble_eq_true rfl) d_MO_init_87 (fun H locs hw => ?_)
  obtain ⟨M20, eM20⟩ : ∃ zM : mm_M, zM = mm_up M19 x (.inr (9, [.int 0, .int 0, .int 0, .int 0, .int 0, .int 0, .ref a0, .ref a1, .ref a2, .ref a3, .ref a4, .ref a5, .ref a6, .ref a7, .ref a8, .ref a9, .null, .null, .null, .null, .null, .null])) := ⟨_, rfl⟩
  have hw : mm_w D vC _ _ (mm_up M19 x (.inr (9, [.int 0, .int 0, .int 0, .int 0, .int 0, .int 0, .ref a0, .ref a1, .ref a2, .ref a3, .ref a4, .ref a5, .ref a6, .ref a7, .ref a8, .ref a9, .null, .null, .null, .null, .null, .null]))) H _ := hw
  rw [← eM20] at hw
  have ha0_20 : M20 a0 = some (.inl (dA 0, 101, .inl (fun _ => 0))) := by rw [eM20]; exact mm_uk hx_19 ha0_19 (by simp)
  have ha1_20 : M20 a1 = some (.inl (dA 0, 101, .inl (fun _ => 0))) := by rw [eM20]; exact mm_uk hx_19 ha1_19 (by simp)
  have ha2_20 : M20 a2 = some (.inl (dA 0, 101, .inl (fun _ => 0))) := by rw [eM20]; exact mm_uk hx_19 ha2_19 (by simp)
  have ha3_20 : M20 a3 = some (.inl (dA 0, 1010, .inl (fun _ => 0))) := by rw [eM20]; exact mm_uk hx_19 ha3_19 (by simp)
  have ha4_20 : M20 a4 = some (.inl (dA 0, 301, .inl (fun _ => 0))) := by rw [eM20]; exact mm_uk hx_19 ha4_19 (by simp)
  have ha5_20 : M20 a5 = some (.inl (dA 0, 301, .inl (fun _ => 0))) := by rw [eM20]; exact mm_uk hx_19 ha5_19 (by simp)
  have ha6_20 : M20 a6 = some (.inl (dA 2, 301, .inl (fun _ => 0))) := by rw [eM20]; exact mm_uk hx_19 ha6_19 (by simp)
  have ha7_20 : M20 a7 = some (.inl (dA 2, 301, .inl (fun _ => 0))) := by rw [eM20]; exact mm_uk hx_19 ha7_19 (by simp)
  have ha8_20 : M20 a8 = some (.inl (dA 0, 10000, .inl (fun _ => 0))) := by rw [eM20]; exact mm_uk hx_19 ha8_19 (by simp)
  have ha9_20 : M20 a9 = some (.inl (dA 0, 41, .inl (fun _ => 0))) := by rw [eM20]; exact mm_uk hx_19 ha9_19 (by simp)
  have hx_20 : M20 x = some (.inr (9, [.int 0, .int 0, .int 0, .int 0, .int 0, .int 0, .ref a0, .ref a1, .ref a2, .ref a3, .ref a4, .ref a5, .ref a6, .ref a7, .ref a8, .ref a9, .null, .null, .null, .null, .null, .null])) := by rw [eM20]; exact mm_us
  refine lv_aload_n S.1 S.2.1 d_MO_init_90 rfl (lv_at hl 0 rfl) ?_
  refine lv_sipush (v := 10000) S.1 S.2.1 d_MO_init_91 (by decide) ?_
  refine mm_newa (atype := .boolean) (ty := .boolean) (N' := 10000) (a0 := (10000, .inl (fun _ => 0))) S hK.1 hw 2 gw_437 rfl rfl ((hK.1.2 2 _ rfl).2) (fun _ => rfl) (by decide) (by decide) (by decide) (Nat.le_of_ble_eq_true rfl) (Nat.le_of_ble_eq_true rfl) (fun _ h => by cases h) d_MO_init_94 (fun a10 H hqa10 hw => ?_)
  obtain ⟨M21, eM21⟩ : ∃ zM : mm_M, zM = mm_up M20 a10 (.inl (dA 2, 10000, .inl (fun _ => 0))) := ⟨_, rfl⟩
  have hw : mm_w D vC _ _ (mm_up M20 a10 (.inl (dA 2, 10000, .inl (fun _ => 0)))) H _ := hw
  rw [← eM21] at hw
  have hx_21 : M21 x = some (.inr (9, [.int 0, .int 0, .int 0, .int 0, .int 0, .int 0, .ref a0, .ref a1, .ref a2, .ref a3, .ref a4, .ref a5, .ref a6, .ref a7, .ref a8, .ref a9, .null, .null, .null, .null, .null, .null])) := by rw [eM21]; exact mm_fk hqa10 hx_20
  have ha0_21 : M21 a0 = some (.inl (dA 0, 101, .inl (fun _ => 0))) := by rw [eM21]; exact mm_fk hqa10 ha0_20
  have ha1_21 : M21 a1 = some (.inl (dA 0, 101, .inl (fun _ => 0))) := by rw [eM21]; exact mm_fk hqa10 ha1_20
  have ha2_21 : M21 a2 = some (.inl (dA 0, 101, .inl (fun _ => 0))) := by rw [eM21]; exact mm_fk hqa10 ha2_20
  have ha3_21 : M21 a3 = some (.inl (dA 0, 1010, .inl (fun _ => 0))) := by rw [eM21]; exact mm_fk hqa10 ha3_20
  have ha4_21 : M21 a4 = some (.inl (dA 0, 301, .inl (fun _ => 0))) := by rw [eM21]; exact mm_fk hqa10 ha4_20
  have ha5_21 : M21 a5 = some (.inl (dA 0, 301, .inl (fun _ => 0))) := by rw [eM21]; exact mm_fk hqa10 ha5_20
  have ha6_21 : M21 a6 = some (.inl (dA 2, 301, .inl (fun _ => 0))) := by rw [eM21]; exact mm_fk hqa10 ha6_20
  have ha7_21 : M21 a7 = some (.inl (dA 2, 301, .inl (fun _ => 0))) := by rw [eM21]; exact mm_fk hqa10 ha7_20
  have ha8_21 : M21 a8 = some (.inl (dA 0, 10000, .inl (fun _ => 0))) := by rw [eM21]; exact mm_fk hqa10 ha8_20
  have ha9_21 : M21 a9 = some (.inl (dA 0, 41, .inl (fun _ => 0))) := by rw [eM21]; exact mm_fk hqa10 ha9_20
  have ha10_21 : M21 a10 = some (.inl (dA 2, 10000, .inl (fun _ => 0))) := by rw [eM21]; exact mm_us
  have ne_a0_a10 : a0 ≠ a10 := fun h => by rw [h, hqa10] at ha0_20; cases ha0_20
  have ne_a1_a10 : a1 ≠ a10 := fun h => by rw [h, hqa10] at ha1_20; cases ha1_20
  have ne_a2_a10 : a2 ≠ a10 := fun h => by rw [h, hqa10] at ha2_20; cases ha2_20
  have ne_a3_a10 : a3 ≠ a10 := fun h => by rw [h, hqa10] at ha3_20; cases ha3_20
  have ne_a4_a10 : a4 ≠ a10 := fun h => by rw [h, hqa10] at ha4_20; cases ha4_20
  have ne_a5_a10 : a5 ≠ a10 := fun h => by rw [h, hqa10] at ha5_20; cases ha5_20
  have ne_a6_a10 : a6 ≠ a10 := fun h => by rw [h, hqa10] at ha6_20; cases ha6_20
  have ne_a7_a10 : a7 ≠ a10 := fun h => by rw [h, hqa10] at ha7_20; cases ha7_20
  have ne_a8_a10 : a8 ≠ a10 := fun h => by rw [h, hqa10] at ha8_20; cases ha8_20
  have ne_a9_a10 : a9 ≠ a10 := fun h => by rw [h, hqa10] at ha9_20; cases ha9_20
  refine mm_putF (C := R_MO) (T := T_MO) (N := 22) (ty := .array .boolean) (v := .ref a10) S hK.1 hw hx_21 rfl in_MO t_MO k_MO n_MO 16 (by decide) gw_386 rfl rfl hin rfl (by decide +kernel) (rfl) (rfl) (Nat.le_of_ble_eq_true rfl) d_MO_init_96 (fun H locs hw => ?_)
  obtain ⟨M22, eM22⟩ : ∃ zM : mm_M, zM = mm_up M21 x (.inr (9, [.int 0, .int 0, .int 0, .int 0, .int 0, .int 0, .ref a0, .ref a1, .ref a2, .ref a3, .ref a4, .ref a5, .ref a6, .ref a7, .ref a8, .ref a9, .ref a10, .null, .null, .null, .null, .null])) := ⟨_, rfl⟩
  have hw : mm_w D vC _ _ (mm_up M21 x (.inr (9, [.int 0, .int 0, .int 0, .int 0, .int 0, .int 0, .ref a0, .ref a1, .ref a2, .ref a3, .ref a4, .ref a5, .ref a6, .ref a7, .ref a8, .ref a9, .ref a10, .null, .null, .null, .null, .null]))) H _ := hw
  rw [← eM22] at hw
  have ha0_22 : M22 a0 = some (.inl (dA 0, 101, .inl (fun _ => 0))) := by rw [eM22]; exact mm_uk hx_21 ha0_21 (by simp)
  have ha1_22 : M22 a1 = some (.inl (dA 0, 101, .inl (fun _ => 0))) := by rw [eM22]; exact mm_uk hx_21 ha1_21 (by simp)
  have ha2_22 : M22 a2 = some (.inl (dA 0, 101, .inl (fun _ => 0))) := by rw [eM22]; exact mm_uk hx_21 ha2_21 (by simp)
  have ha3_22 : M22 a3 = some (.inl (dA 0, 1010, .inl (fun _ => 0))) := by rw [eM22]; exact mm_uk hx_21 ha3_21 (by simp)
  have ha4_22 : M22 a4 = some (.inl (dA 0, 301, .inl (fun _ => 0))) := by rw [eM22]; exact mm_uk hx_21 ha4_21 (by simp)
  have ha5_22 : M22 a5 = some (.inl (dA 0, 301, .inl (fun _ => 0))) := by rw [eM22]; exact mm_uk hx_21 ha5_21 (by simp)
  have ha6_22 : M22 a6 = some (.inl (dA 2, 301, .inl (fun _ => 0))) := by rw [eM22]; exact mm_uk hx_21 ha6_21 (by simp)
  have ha7_22 : M22 a7 = some (.inl (dA 2, 301, .inl (fun _ => 0))) := by rw [eM22]; exact mm_uk hx_21 ha7_21 (by simp)
  have ha8_22 : M22 a8 = some (.inl (dA 0, 10000, .inl (fun _ => 0))) := by rw [eM22]; exact mm_uk hx_21 ha8_21 (by simp)
  have ha9_22 : M22 a9 = some (.inl (dA 0, 41, .inl (fun _ => 0))) := by rw [eM22]; exact mm_uk hx_21 ha9_21 (by simp)
  have ha10_22 : M22 a10 = some (.inl (dA 2, 10000, .inl (fun _ => 0))) := by rw [eM22]; exact mm_uk hx_21 ha10_21 (by simp)
  have hx_22 : M22 x = some (.inr (9, [.int 0, .int 0, .int 0, .int 0, .int 0, .int 0, .ref a0, .ref a1, .ref a2, .ref a3, .ref a4, .ref a5, .ref a6, .ref a7, .ref a8, .ref a9, .ref a10, .null, .null, .null, .null, .null])) := by rw [eM22]; exact mm_us
  refine lv_aload_n S.1 S.2.1 d_MO_init_99 rfl (lv_at hl 0 rfl) ?_
  refine lv_bipush (v := 41) S.1 S.2.1 d_MO_init_100 (by decide) ?_
  refine mm_newa (atype := .long) (ty := .long) (N' := 41) (a0 := (41, .inr (.inl (fun _ => 0)))) S hK.1 hw 1 gw_64 rfl rfl ((hK.1.2 1 _ rfl).2) (fun _ => rfl) (by decide) (by decide) (by decide) (Nat.le_of_ble_eq_true rfl) (Nat.le_of_ble_eq_true rfl) (fun _ h => by cases h) d_MO_init_102 (fun a11 H hqa11 hw => ?_)
  obtain ⟨M23, eM23⟩ : ∃ zM : mm_M, zM = mm_up M22 a11 (.inl (dA 1, 41, .inr (.inl (fun _ => 0)))) := ⟨_, rfl⟩
  have hw : mm_w D vC _ _ (mm_up M22 a11 (.inl (dA 1, 41, .inr (.inl (fun _ => 0))))) H _ := hw
  rw [← eM23] at hw
  have hx_23 : M23 x = some (.inr (9, [.int 0, .int 0, .int 0, .int 0, .int 0, .int 0, .ref a0, .ref a1, .ref a2, .ref a3, .ref a4, .ref a5, .ref a6, .ref a7, .ref a8, .ref a9, .ref a10, .null, .null, .null, .null, .null])) := by rw [eM23]; exact mm_fk hqa11 hx_22
  have ha0_23 : M23 a0 = some (.inl (dA 0, 101, .inl (fun _ => 0))) := by rw [eM23]; exact mm_fk hqa11 ha0_22
  have ha1_23 : M23 a1 = some (.inl (dA 0, 101, .inl (fun _ => 0))) := by rw [eM23]; exact mm_fk hqa11 ha1_22
  have ha2_23 : M23 a2 = some (.inl (dA 0, 101, .inl (fun _ => 0))) := by rw [eM23]; exact mm_fk hqa11 ha2_22
  have ha3_23 : M23 a3 = some (.inl (dA 0, 1010, .inl (fun _ => 0))) := by rw [eM23]; exact mm_fk hqa11 ha3_22
  have ha4_23 : M23 a4 = some (.inl (dA 0, 301, .inl (fun _ => 0))) := by rw [eM23]; exact mm_fk hqa11 ha4_22
  have ha5_23 : M23 a5 = some (.inl (dA 0, 301, .inl (fun _ => 0))) := by rw [eM23]; exact mm_fk hqa11 ha5_22
  have ha6_23 : M23 a6 = some (.inl (dA 2, 301, .inl (fun _ => 0))) := by rw [eM23]; exact mm_fk hqa11 ha6_22
  have ha7_23 : M23 a7 = some (.inl (dA 2, 301, .inl (fun _ => 0))) := by rw [eM23]; exact mm_fk hqa11 ha7_22
  have ha8_23 : M23 a8 = some (.inl (dA 0, 10000, .inl (fun _ => 0))) := by rw [eM23]; exact mm_fk hqa11 ha8_22
  have ha9_23 : M23 a9 = some (.inl (dA 0, 41, .inl (fun _ => 0))) := by rw [eM23]; exact mm_fk hqa11 ha9_22
  have ha10_23 : M23 a10 = some (.inl (dA 2, 10000, .inl (fun _ => 0))) := by rw [eM23]; exact mm_fk hqa11 ha10_22
  have ha11_23 : M23 a11 = some (.inl (dA 1, 41, .inr (.inl (fun _ => 0)))) := by rw [eM23]; exact mm_us
  have ne_a0_a11 : a0 ≠ a11 := fun h => by rw [h, hqa11] at ha0_22; cases ha0_22
  have ne_a1_a11 : a1 ≠ a11 := fun h => by rw [h, hqa11] at ha1_22; cases ha1_22
  have ne_a2_a11 : a2 ≠ a11 := fun h => by rw [h, hqa11] at ha2_22; cases ha2_22
  have ne_a3_a11 : a3 ≠ a11 := fun h => by rw [h, hqa11] at ha3_22; cases ha3_22
  have ne_a4_a11 : a4 ≠ a11 := fun h => by rw [h, hqa11] at ha4_22; cases ha4_22
  have ne_a5_a11 : a5 ≠ a11 := fun h => by rw [h, hqa11] at ha5_22; cases ha5_22
  have ne_a6_a11 : a6 ≠ a11 := fun h => by rw [h, hqa11] at ha6_22; cases ha6_22
  have ne_a7_a11 : a7 ≠ a11 := fun h => by rw [h, hqa11] at ha7_22; cases ha7_22
  have ne_a8_a11 : a8 ≠ a11 := fun h => by rw [h, hqa11] at ha8_22; cases ha8_22
  have ne_a9_a11 : a9 ≠ a11 := fun h => by rw [h, hqa11] at ha9_22; cases ha9_22
  have ne_a10_a11 : a10 ≠ a11 := fun h => by rw [h, hqa11] at ha10_22; cases ha10_22
  refine mm_putF (C := R_MO) (T := T_MO) (N := 22) (ty := .array .long) (v := .ref a11) S hK.1 hw hx_23 rfl in_MO t_MO k_MO n_MO 17 (by decide) gw_387 rfl rfl hin rfl (by decide +kernel) (rfl) (rfl) (Nat.le_of_ble_eq_true rfl) d_MO_init_104 (fun H locs hw => ?_)
  obtain ⟨M24, eM24⟩ : ∃ zM : mm_M, zM = mm_up M23 x (.inr (9, [.int 0, .int 0, .int 0, .int 0, .int 0, .int 0, .ref a0, .ref a1, .ref a2, .ref a3, .ref a4, .ref a5, .ref a6, .ref a7, .ref a8, .ref a9, .ref a10, .ref a11, .null, .null, .null, .null])) := ⟨_, rfl⟩
  have hw : mm_w D vC _ _ (mm_up M23 x (.inr (9, [.int 0, .int 0, .int 0, .int 0, .int 0, .int 0, .ref a0, .ref a1, .ref a2, .ref a3, .ref a4, .ref a5, .ref a6, .ref a7, .ref a8, .ref a9, .ref a10, .ref a11, .null, .null, .null, .null]))) H _ := hw
  rw [← eM24] at hw
  have ha0_24 : M24 a0 = some (.inl (dA 0, 101, .inl (fun _ => 0))) := by rw [eM24]; exact mm_uk hx_23 ha0_23 (by simp)
  have ha1_24 : M24 a1 = some (.inl (dA 0, 101, .inl (fun _ => 0))) := by rw [eM24]; exact mm_uk hx_23 ha1_23 (by simp)
  have ha2_24 : M24 a2 = some (.inl (dA 0, 101, .inl (fun _ => 0))) := by rw [eM24]; exact mm_uk hx_23 ha2_23 (by simp)
  have ha3_24 : M24 a3 = some (.inl (dA 0, 1010, .inl (fun _ => 0))) := by rw [eM24]; exact mm_uk hx_23 ha3_23 (by simp)
  have ha4_24 : M24 a4 = some (.inl (dA 0, 301, .inl (fun _ => 0))) := by rw [eM24]; exact mm_uk hx_23 ha4_23 (by simp)
  have ha5_24 : M24 a5 = some (.inl (dA 0, 301, .inl (fun _ => 0))) := by rw [eM24]; exact mm_uk hx_23 ha5_23 (by simp)
  have ha6_24 : M24 a6 = some (.inl (dA 2, 301, .inl (fun _ => 0))) := by rw [eM24]; exact mm_uk hx_23 ha6_23 (by simp)
  have ha7_24 : M24 a7 = some (.inl (dA 2, 301, .inl (fun _ => 0))) := by rw [eM24]; exact mm_uk hx_23 ha7_23 (by simp)
  have ha8_24 : M24 a8 = some (.inl (dA 0, 10000, .inl (fun _ => 0))) := by rw [eM24]; exact mm_uk hx_23 ha8_23 (by simp)
  have ha9_24 : M24 a9 = some (.inl (dA 0, 41, .inl (fun _ => 0))) := by rw [eM24]; exact mm_uk hx_23 ha9_23 (by simp)
  have ha10_24 : M24 a10 = some (.inl (dA 2, 10000, .inl (fun _ => 0))) := by rw [eM24]; exact mm_uk hx_23 ha10_23 (by simp)
  have ha11_24 : M24 a11 = some (.inl (dA 1, 41, .inr (.inl (fun _ => 0)))) := by rw [eM24]; exact mm_uk hx_23 ha11_23 (by simp)
  have hx_24 : M24 x = some (.inr (9, [.int 0, .int 0, .int 0, .int 0, .int 0, .int 0, .ref a0, .ref a1, .ref a2, .ref a3, .ref a4, .ref a5, .ref a6, .ref a7, .ref a8, .ref a9, .ref a10, .ref a11, .null, .null, .null, .null])) := by rw [eM24]; exact mm_us
  refine lv_aload_n S.1 S.2.1 d_MO_init_107 rfl (lv_at hl 0 rfl) ?_
  refine lv_bipush (v := 61) S.1 S.2.1 d_MO_init_108 (by decide) ?_
  refine mm_newa (atype := .int) (ty := .int) (N' := 61) (a0 := (61, .inl (fun _ => 0))) S hK.1 hw 0 gw_46 rfl rfl ((hK.1.2 0 _ rfl).2) (fun _ => rfl) (by decide) (by decide) (by decide) (Nat.le_of_ble_eq_true rfl) (Nat.le_of_ble_eq_true rfl) (fun _ h => by cases h) d_MO_init_110 (fun a12 H hqa12 hw => ?_)
  obtain ⟨M25, eM25⟩ : ∃ zM : mm_M, zM = mm_up M24 a12 (.inl (dA 0, 61, .inl (fun _ => 0))) := ⟨_, rfl⟩
  have hw : mm_w D vC _ _ (mm_up M24 a12 (.inl (dA 0, 61, .inl (fun _ => 0)))) H _ := hw
  rw [← eM25] at hw
  have hx_25 : M25 x = some (.inr (9, [.int 0, .int 0, .int 0, .int 0, .int 0, .int 0, .ref a0, .ref a1, .ref a2, .ref a3, .ref a4, .ref a5, .ref a6, .ref a7, .ref a8, .ref a9, .ref a10, .ref a11, .null, .null, .null, .null])) := by rw [eM25]; exact mm_fk hqa12 hx_24
  have ha0_25 : M25 a0 = some (.inl (dA 0, 101, .inl (fun _ => 0))) := by rw [eM25]; exact mm_fk hqa12 ha0_24
  have ha1_25 : M25 a1 = some (.inl (dA 0, 101, .inl (fun _ => 0))) := by rw [eM25]; exact mm_fk hqa12 ha1_24
  have ha2_25 : M25 a2 = some (.inl (dA 0, 101, .inl (fun _ => 0))) := by rw [eM25]; exact mm_fk hqa12 ha2_24
  have ha3_25 : M25 a3 = some (.inl (dA 0, 1010, .inl (fun _ => 0))) := by rw [eM25]; exact mm_fk hqa12 ha3_24
  have ha4_25 : M25 a4 = some (.inl (dA 0, 301, .inl (fun _ => 0))) := by rw [eM25]; exact mm_fk hqa12 ha4_24
  have ha5_25 : M25 a5 = some (.inl (dA 0, 301, .inl (fun _ => 0))) := by rw [eM25]; exact mm_fk hqa12 ha5_24
  have ha6_25 : M25 a6 = some (.inl (dA 2, 301, .inl (fun _ => 0))) := by rw [eM25]; exact mm_fk hqa12 ha6_24
  have ha7_25 : M25 a7 = some (.inl (dA 2, 301, .inl (fun _ => 0))) := by rw [eM25]; exact mm_fk hqa12 ha7_24
  have ha8_25 : M25 a8 = some (.inl (dA 0, 10000, .inl (fun _ => 0))) := by rw [eM25]; exact mm_fk hqa12 ha8_24
  have ha9_25 : M25 a9 = some (.inl (dA 0, 41, .inl (fun _ => 0))) := by rw [eM25]; exact mm_fk hqa12 ha9_24
  have ha10_25 : M25 a10 = some (.inl (dA 2, 10000, .inl (fun _ => 0))) := by rw [eM25]; exact mm_fk hqa12 ha10_24
  have ha11_25 : M25 a11 = some (.inl (dA 1, 41, .inr (.inl (fun _ => 0)))) := by rw [eM25]; exact mm_fk hqa12 ha11_24
  have ha12_25 : M25 a12 = some (.inl (dA 0, 61, .inl (fun _ => 0))) := by rw [eM25]; exact mm_us
  have ne_a0_a12 : a0 ≠ a12 := fun h => by rw [h, hqa12] at ha0_24; cases ha0_24
  have ne_a1_a12 : a1 ≠ a12 := fun h => by rw [h, hqa12] at ha1_24; cases ha1_24
  have ne_a2_a12 : a2 ≠ a12 := fun h => by rw [h, hqa12] at ha2_24; cases ha2_24
  have ne_a3_a12 : a3 ≠ a12 := fun h => by rw [h, hqa12] at ha3_24; cases ha3_24
  have ne_a4_a12 : a4 ≠ a12 := fun h => by rw [h, hqa12] at ha4_24; cases ha4_24
  have ne_a5_a12 : a5 ≠ a12 := fun h => by rw [h, hqa12] at ha5_24; cases ha5_24
  have ne_a6_a12 : a6 ≠ a12 := fun h => by rw [h, hqa12] at ha6_24; cases ha6_24
  have ne_a7_a12 : a7 ≠ a12 := fun h => by rw [h, hqa12] at ha7_24; cases ha7_24
  have ne_a8_a12 : a8 ≠ a12 := fun h => by rw [h, hqa12] at ha8_24; cases ha8_24
  have ne_a9_a12 : a9 ≠ a12 := fun h => by rw [h, hqa12] at ha9_24; cases ha9_24
  have ne_a10_a12 : a10 ≠ a12 := fun h => by rw [h, hqa12] at ha10_24; cases ha10_24
  have ne_a11_a12 : a11 ≠ a12 := fun h => by rw [h, hqa12] at ha11_24; cases ha11_24
  refine mm_putF (C := R_MO) (T := T_MO) (N := 22) (ty := .array .int) (v := .ref a12) S hK.1 hw hx_25 rfl in_MO t_MO k_MO n_MO 18 (by decide) gw_388 rfl rfl hin rfl (by decide +kernel) (rfl) (rfl) (Nat.le_of_ble_eq_true rfl) d_MO_init_112 (fun H locs hw => ?_)
  obtain ⟨M26, eM26⟩ : ∃ zM : mm_M, zM = mm_up M25 x (.inr (9, [.int 0, .int 0, .int 0, .int 0, .int 0, .int 0, .ref a0, .ref a1, .ref a2, .ref a3, .ref a4, .ref a5, .ref a6, .ref a7, .ref a8, .ref a9, .ref a10, .ref a11, .ref a12, .null, .null, .null])) := ⟨_, rfl⟩
  have hw : mm_w D vC _ _ (mm_up M25 x (.inr (9, [.int 0, .int 0, .int 0, .int 0, .int 0, .int 0, .ref a0, .ref a1, .ref a2, .ref a3, .ref a4, .ref a5, .ref a6, .ref a7, .ref a8, .ref a9, .ref a10, .ref a11, .ref a12, .null, .null, .null]))) H _ := hw
  rw [← eM26] at hw
  have ha0_26 : M26 a0 = some (.inl (dA 0, 101, .inl (fun _ => 0))) := by rw [eM26]; exact mm_uk hx_25 ha0_25 (by simp)
  have ha1_26 : M26 a1 = some (.inl (dA 0, 101, .inl (fun _ => 0))) := by rw [eM26]; exact mm_uk hx_25 ha1_25 (by simp)
  have ha2_26 : M26 a2 = some (.inl (dA 0, 101, .inl (fun _ => 0))) := by rw [eM26]; exact mm_uk hx_25 ha2_25 (by simp)
  have ha3_26 : M26 a3 = some (.inl (dA 0, 1010, .inl (fun _ => 0))) := by rw [eM26]; exact mm_uk hx_25 ha3_25 (by simp)
  have ha4_26 : M26 a4 = some (.inl (dA 0, 301, .inl (fun _ => 0))) := by rw [eM26]; exact mm_uk hx_25 ha4_25 (by simp)
  have ha5_26 : M26 a5 = some (.inl (dA 0, 301, .inl (fun _ => 0))) := by rw [eM26]; exact mm_uk hx_25 ha5_25 (by simp)
  have ha6_26 : M26 a6 = some (.inl (dA 2, 301, .inl (fun _ => 0))) := by rw [eM26]; exact mm_uk hx_25 ha6_25 (by simp)
  have ha7_26 : M26 a7 = some (.inl (dA 2, 301, .inl (fun _ => 0))) := by rw [eM26]; exact mm_uk hx_25 ha7_25 (by simp)
  have ha8_26 : M26 a8 = some (.inl (dA 0, 10000, .inl (fun _ => 0))) := by rw [eM26]; exact mm_uk hx_25 ha8_25 (by simp)
  have ha9_26 : M26 a9 = some (.inl (dA 0, 41, .inl (fun _ => 0))) := by rw [eM26]; exact mm_uk hx_25 ha9_25 (by simp)
  have ha10_26 : M26 a10 = some (.inl (dA 2, 10000, .inl (fun _ => 0))) := by rw [eM26]; exact mm_uk hx_25 ha10_25 (by simp)
  have ha11_26 : M26 a11 = some (.inl (dA 1, 41, .inr (.inl (fun _ => 0)))) := by rw [eM26]; exact mm_uk hx_25 ha11_25 (by simp)
  have ha12_26 : M26 a12 = some (.inl (dA 0, 61, .inl (fun _ => 0))) := by rw [eM26]; exact mm_uk hx_25 ha12_25 (by simp)
  have hx_26 : M26 x = some (.inr (9, [.int 0, .int 0, .int 0, .int 0, .int 0, .int 0, .ref a0, .ref a1, .ref a2, .ref a3, .ref a4, .ref a5, .ref a6, .ref a7, .ref a8, .ref a9, .ref a10, .ref a11, .ref a12, .null, .null, .null])) := by rw [eM26]; exact mm_us
  refine lv_aload_n S.1 S.2.1 d_MO_init_115 rfl (lv_at hl 0 rfl) ?_
  refine lv_bipush (v := 61) S.1 S.2.1 d_MO_init_116 (by decide) ?_
  refine mm_newa (atype := .int) (ty := .int) (N' := 61) (a0 := (61, .inl (fun _ => 0))) S hK.1 hw 0 gw_46 rfl rfl ((hK.1.2 0 _ rfl).2) (fun _ => rfl) (by decide) (by decide) (by decide) (Nat.le_of_ble_eq_true rfl) (Nat.le_of_ble_eq_true rfl) (fun _ h => by cases h) d_MO_init_118 (fun a13 H hqa13 hw => ?_)
  obtain ⟨M27, eM27⟩ : ∃ zM : mm_M, zM = mm_up M26 a13 (.inl (dA 0, 61, .inl (fun _ => 0))) := ⟨_, rfl⟩
  have hw : mm_w D vC _ _ (mm_up M26 a13 (.inl (dA 0, 61, .inl (fun _ => 0)))) H _ := hw
  rw [← eM27] at hw
  have hx_27 : M27 x = some (.inr (9, [.int 0, .int 0, .int 0, .int 0, .int 0, .int 0, .ref a0, .ref a1, .ref a2, .ref a3, .ref a4, .ref a5, .ref a6, .ref a7, .ref a8, .ref a9, .ref a10, .ref a11, .ref a12, .null, .null, .null])) := by rw [eM27]; exact mm_fk hqa13 hx_26
  have ha0_27 : M27 a0 = some (.inl (dA 0, 101, .inl (fun _ => 0))) := by rw [eM27]; exact mm_fk hqa13 ha0_26
  have ha1_27 : M27 a1 = some (.inl (dA 0, 101, .inl (fun _ => 0))) := by rw [eM27]; exact mm_fk hqa13 ha1_26
  have ha2_27 : M27 a2 = some (.inl (dA 0, 101, .inl (fun _ => 0))) := by rw [eM27]; exact mm_fk hqa13 ha2_26
  have ha3_27 : M27 a3 = some (.inl (dA 0, 1010, .inl (fun _ => 0))) := by rw [eM27]; exact mm_fk hqa13 ha3_26
  have ha4_27 : M27 a4 = some (.inl (dA 0, 301, .inl (fun _ => 0))) := by rw [eM27]; exact mm_fk hqa13 ha4_26
  have ha5_27 : M27 a5 = some (.inl (dA 0, 301, .inl (fun _ => 0))) := by rw [eM27]; exact mm_fk hqa13 ha5_26
  have ha6_27 : M27 a6 = some (.inl (dA 2, 301, .inl (fun _ => 0))) := by rw [eM27]; exact mm_fk hqa13 ha6_26
  have ha7_27 : M27 a7 = some (.inl (dA 2, 301, .inl (fun _ => 0))) := by rw [eM27]; exact mm_fk hqa13 ha7_26
  have ha8_27 : M27 a8 = some (.inl (dA 0, 10000, .inl (fun _ => 0))) := by rw [eM27]; exact mm_fk hqa13 ha8_26
  have ha9_27 : M27 a9 = some (.inl (dA 0, 41, .inl (fun _ => 0))) := by rw [eM27]; exact mm_fk hqa13 ha9_26
  have ha10_27 : M27 a10 = some (.inl (dA 2, 10000, .inl (fun _ => 0))) := by rw [eM27]; exact mm_fk hqa13 ha10_26
  have ha11_27 : M27 a11 = some (.inl (dA 1, 41, .inr (.inl (fun _ => 0)))) := by rw [eM27]; exact mm_fk hqa13 ha11_26
  have ha12_27 : M27 a12 = some (.inl (dA 0, 61, .inl (fun _ => 0))) := by rw [eM27]; exact mm_fk hqa13 ha12_26
  have ha13_27 : M27 a13 = some (.inl (dA 0, 61, .inl (fun _ => 0))) := by rw [eM27]; exact mm_us
  have ne_a0_a13 : a0 ≠ a13 := fun h => by rw [h, hqa13] at ha0_26; cases ha0_26
  have ne_a1_a13 : a1 ≠ a13 := fun h => by rw [h, hqa13] at ha1_26; cases ha1_26
  have ne_a2_a13 : a2 ≠ a13 := fun h => by rw [h, hqa13] at ha2_26; cases ha2_26
  have ne_a3_a13 : a3 ≠ a13 := fun h => by rw [h, hqa13] at ha3_26; cases ha3_26
  have ne_a4_a13 : a4 ≠ a13 := fun h => by rw [h, hqa13] at ha4_26; cases ha4_26
  have ne_a5_a13 : a5 ≠ a13 := fun h => by rw [h, hqa13] at ha5_26; cases ha5_26
  have ne_a6_a13 : a6 ≠ a13 := fun h => by rw [h, hqa13] at ha6_26; cases ha6_26
  have ne_a7_a13 : a7 ≠ a13 := fun h => by rw [h, hqa13] at ha7_26; cases ha7_26
  have ne_a8_a13 : a8 ≠ a13 := fun h => by rw [h, hqa13] at ha8_26; cases ha8_26
  have ne_a9_a13 : a9 ≠ a13 := fun h => by rw [h, hqa13] at ha9_26; cases ha9_26
  have ne_a10_a13 : a10 ≠ a13 := fun h => by rw [h, hqa13] at ha10_26; cases ha10_26
  have ne_a11_a13 : a11 ≠ a13 := fun h => by rw [h, hqa13] at ha11_26; cases ha11_26
  have ne_a12_a13 : a12 ≠ a13 := fun h => by rw [h, hqa13] at ha12_26; cases ha12_26
  refine mm_putF (C := R_MO) (T := T_MO) (N := 22) (ty := .array .int) (v := .ref a13) S hK.1 hw hx_27 rfl in_MO t_MO k_MO n_MO 19 (by decide) gw_389 rfl rfl hin rfl (by decide +kernel) (rfl) (rfl) (Nat.le_of_ble_eq_true rfl) d_MO_init_120 (fun H locs hw => ?_)
  obtain ⟨M28, eM28⟩ : ∃ zM : mm_M, zM = mm_up M27 x (.inr (9, [.int 0, .int 0, .int 0, .int 0, .int 0, .int 0, .ref a0, .ref a1, .ref a2, .ref a3, .ref a4, .ref a5, .ref a6, .ref a7, .ref a8, .ref a9, .ref a10, .ref a11, .ref a12, .ref a13, .null, .null])) := ⟨_, rfl⟩
  have hw : mm_w D vC _ _ (mm_up M27 x (.inr (9, [.int 0, .int 0, .int 0, .int 0, .int 0, .int 0, .ref a0, .ref a1, .ref a2, .ref a3, .ref a4, .ref a5, .ref a6, .ref a7, .ref a8, .ref a9, .ref a10, .ref a11, .ref a12, .ref a13, .null, .null]))) H _ := hw
  rw [← eM28] at hw
  have ha0_28 : M28 a0 = some (.inl (dA 0, 101, .inl (fun _ => 0))) := by rw [eM28]; exact mm_uk hx_27 ha0_27 (by simp)
  have ha1_28 : M28 a1 = some (.inl (dA 0, 101, .inl (fun _ => 0))) := by rw [eM28]; exact mm_uk hx_27 ha1_27 (by simp)
  have ha2_28 : M28 a2 = some (.inl (dA 0, 101, .inl (fun _ => 0))) := by rw [eM28]; exact mm_uk hx_27 ha2_27 (by simp)
  have ha3_28 : M28 a3 = some (.inl (dA 0, 1010, .inl (fun _ => 0))) := by rw [eM28]; exact mm_uk hx_27 ha3_27 (by simp)
  have ha4_28 : M28 a4 = some (.inl (dA 0, 301, .inl (fun _ => 0))) := by rw [eM28]; exact mm_uk hx_27 ha4_27 (by simp)
  have ha5_28 : M28 a5 = some (.inl (dA 0, 301, .inl (fun _ => 0))) := by rw [eM28]; exact mm_uk hx_27 ha5_27 (by simp)
  have ha6_28 : M28 a6 = some (.inl (dA 2, 301, .inl (fun _ => 0))) := by rw [eM28]; exact mm_uk hx_27 ha6_27 (by simp)
  have ha7_28 : M28 a7 = some (.inl (dA 2, 301, .inl (fun _ => 0))) := by rw [eM28]; exact mm_uk hx_27 ha7_27 (by simp)
  have ha8_28 : M28 a8 = some (.inl (dA 0, 10000, .inl (fun _ => 0))) := by rw [eM28]; exact mm_uk hx_27 ha8_27 (by simp)
  have ha9_28 : M28 a9 = some (.inl (dA 0, 41, .inl (fun _ => 0))) := by rw [eM28]; exact mm_uk hx_27 ha9_27 (by simp)
  have ha10_28 : M28 a10 = some (.inl (dA 2, 10000, .inl (fun _ => 0))) := by rw [eM28]; exact mm_uk hx_27 ha10_27 (by simp)
  have ha11_28 : M28 a11 = some (.inl (dA 1, 41, .inr (.inl (fun _ => 0)))) := by rw [eM28]; exact mm_uk hx_27 ha11_27 (by simp)
  have ha12_28 : M28 a12 = some (.inl (dA 0, 61, .inl (fun _ => 0))) := by rw [eM28]; exact mm_uk hx_27 ha12_27 (by simp)
  have ha13_28 : M28 a13 = some (.inl (dA 0, 61, .inl (fun _ => 0))) := by rw [eM28]; exact mm_uk hx_27 ha13_27 (by simp)
  have hx_28 : M28 x = some (.inr (9, [.int 0, .int 0, .int 0, .int 0, .int 0, .int 0, .ref a0, .ref a1, .ref a2, .ref a3, .ref a4, .ref a5, .ref a6, .ref a7, .ref a8, .ref a9, .ref a10, .ref a11, .ref a12, .ref a13, .null, .null])) := by rw [eM28]; exact mm_us
  refine lv_aload_n S.1 S.2.1 d_MO_init_123 rfl (lv_at hl 0 rfl) ?_
  refine lv_bipush (v := 61) S.1 S.2.1 d_MO_init_124 (by decide) ?_
  refine mm_newa (atype := .int) (ty := .int) (N' := 61) (a0 := (61, .inl (fun _ => 0))) S hK.1 hw 0 gw_46 rfl rfl ((hK.1.2 0 _ rfl).2) (fun _ => rfl) (by decide) (by decide) (by decide) (Nat.le_of_ble_eq_true rfl) (Nat.le_of_ble_eq_true rfl) (fun _ h => by cases h) d_MO_init_126 (fun a14 H hqa14 hw => ?_)
  obtain ⟨M29, eM29⟩ : ∃ zM : mm_M, zM = mm_up M28 a14 (.inl (dA 0, 61, .inl (fun _ => 0))) := ⟨_, rfl⟩
  have hw : mm_w D vC _ _ (mm_up M28 a14 (.inl (dA 0, 61, .inl (fun _ => 0)))) H _ := hw
  rw [← eM29] at hw
  have hx_29 : M29 x = some (.inr (9, [.int 0, .int 0, .int 0, .int 0, .int 0, .int 0, .ref a0, .ref a1, .ref a2, .ref a3, .ref a4, .ref a5, .ref a6, .ref a7, .ref a8, .ref a9, .ref a10, .ref a11, .ref a12, .ref a13, .null, .null])) := by rw [eM29]; exact mm_fk hqa14 hx_28
  have ha0_29 : M29 a0 = some (.inl (dA 0, 101, .inl (fun _ => 0))) := by rw [eM29]; exact mm_fk hqa14 ha0_28
  have ha1_29 : M29 a1 = some (.inl (dA 0, 101, .inl (fun _ => 0))) := by rw [eM29]; exact mm_fk hqa14 ha1_28
  have ha2_29 : M29 a2 = some (.inl (dA 0, 101, .inl (fun _ => 0))) := by rw [eM29]; exact mm_fk hqa14 ha2_28
  have ha3_29 : M29 a3 = some (.inl (dA 0, 1010, .inl (fun _ => 0))) := by rw [eM29]; exact mm_fk hqa14 ha3_28
  have ha4_29 : M29 a4 = some (.inl (dA 0, 301, .inl (fun _ => 0))) := by rw [eM29]; exact mm_fk hqa14 ha4_28
  have ha5_29 : M29 a5 = some (.inl (dA 0, 301, .inl (fun _ => 0))) := by rw [eM29]; exact mm_fk hqa14 ha5_28
  have ha6_29 : M29 a6 = some (.inl (dA 2, 301, .inl (fun _ => 0))) := by rw [eM29]; exact mm_fk hqa14 ha6_28
  have ha7_29 : M29 a7 = some (.inl (dA 2, 301, .inl (fun _ => 0))) := by rw [eM29]; exact mm_fk hqa14 ha7_28
  have ha8_29 : M29 a8 = some (.inl (dA 0, 10000, .inl (fun _ => 0))) := by rw [eM29]; exact mm_fk hqa14 ha8_28
  have ha9_29 : M29 a9 = some (.inl (dA 0, 41, .inl (fun _ => 0))) := by rw [eM29]; exact mm_fk hqa14 ha9_28
  have ha10_29 : M29 a10 = some (.inl (dA 2, 10000, .inl (fun _ => 0))) := by rw [eM29]; exact mm_fk hqa14 ha10_28
  have ha11_29 : M29 a11 = some (.inl (dA 1, 41, .inr (.inl (fun _ => 0)))) := by rw [eM29]; exact mm_fk hqa14 ha11_28
  have ha12_29 : M29 a12 = some (.inl (dA 0, 61, .inl (fun _ => 0))) := by rw [eM29]; exact mm_fk hqa14 ha12_28
  have ha13_29 : M29 a13 = some (.inl (dA 0, 61, .inl (fun _ => 0))) := by rw [eM29]; exact mm_fk hqa14 ha13_28
  have ha14_29 : M29 a14 = some (.inl (dA 0, 61, .inl (fun _ => 0))) := by rw [eM29]; exact mm_us
  have ne_a0_a14 : a0 ≠ a14 := fun h => by rw [h, hqa14] at ha0_28; cases ha0_28
  have ne_a1_a14 : a1 ≠ a14 := fun h => by rw [h, hqa14] at ha1_28; cases ha1_28
  have ne_a2_a14 : a2 ≠ a14 := fun h => by rw [h, hqa14] at ha2_28; cases ha2_28
  have ne_a3_a14 : a3 ≠ a14 := fun h => by rw [h, hqa14] at ha3_28; cases ha3_28
  have ne_a4_a14 : a4 ≠ a14 := fun h => by rw [h, hqa14] at ha4_28; cases ha4_28
  have ne_a5_a14 : a5 ≠ a14 := fun h => by rw [h, hqa14] at ha5_28; cases ha5_28
  have ne_a6_a14 : a6 ≠ a14 := fun h => by rw [h, hqa14] at ha6_28; cases ha6_28
  have ne_a7_a14 : a7 ≠ a14 := fun h => by rw [h, hqa14] at ha7_28; cases ha7_28
  have ne_a8_a14 : a8 ≠ a14 := fun h => by rw [h, hqa14] at ha8_28; cases ha8_28
  have ne_a9_a14 : a9 ≠ a14 := fun h => by rw [h, hqa14] at ha9_28; cases ha9_28
  have ne_a10_a14 : a10 ≠ a14 := fun h => by rw [h, hqa14] at ha10_28; cases ha10_28
  have ne_a11_a14 : a11 ≠ a14 := fun h => by rw [h, hqa14] at ha11_28; cases ha11_28
  have ne_a12_a14 : a12 ≠ a14 := fun h => by rw [h, hqa14] at ha12_28; cases ha12_28
  have ne_a13_a14 : a13 ≠ a14 := fun h => by rw [h, hqa14] at ha13_28; cases ha13_28
  refine mm_putF (C := R_MO) (T := T_MO) (N := 22) (ty := .array .int) (v := .ref a14) S hK.1 hw hx_29 rfl in_MO t_MO k_MO n_MO 20 (by decide) gw_390 rfl rfl hin rfl (by decide +kernel) (rfl) (rfl) (Nat.le_of_ble_eq_true rfl) d_MO_init_128 (fun H locs hw => ?_)
  obtain ⟨M30, eM30⟩ : ∃ zM : mm_M, zM = mm_up M29 x (.inr (9, [.int 0, .int 0, .int 0, .int 0, .int 0, .int 0, .ref a0, .ref a1, .ref a2, .ref a3, .ref a4, .ref a5, .ref a6, .ref a7, .ref a8, .ref a9, .ref a10, .ref a11, .ref a12, .ref a13, .ref a14, .null])) := ⟨_, rfl⟩
  have hw : mm_w D vC _ _ (mm_up M29 x (.inr (9, [.int 0, .int 0, .int 0, .int 0, .int 0, .int 0, .ref a0, .ref a1, .ref a2, .ref a3, .ref a4, .ref a5, .ref a6, .ref a7, .ref a8, .ref a9, .ref a10, .ref a11, .ref a12, .ref a13, .ref a14, .null]))) H _ := hw
  rw [← eM30] at hw
  have ha0_30 : M30 a0 = some (.inl (dA 0, 101, .inl (fun _ => 0))) := by rw [eM30]; exact mm_uk hx_29 ha0_29 (by simp)
  have ha1_30 : M30 a1 = some (.inl (dA 0, 101, .inl (fun _ => 0))) := by rw [eM30]; exact mm_uk hx_29 ha1_29 (by simp)
  have ha2_30 : M30 a2 = some (.inl (dA 0, 101, .inl (fun _ => 0))) := by rw [eM30]; exact mm_uk hx_29 ha2_29 (by simp)
  have ha3_30 : M30 a3 = some (.inl (dA 0, 1010, .inl (fun _ => 0))) := by rw [eM30]; exact mm_uk hx_29 ha3_29 (by simp)
  have ha4_30 : M30 a4 = some (.inl (dA 0, 301, .inl (fun _ => 0))) := by rw [eM30]; exact mm_uk hx_29 ha4_29 (by simp)
  have ha5_30 : M30 a5 = some (.inl (dA 0, 301, .inl (fun _ => 0))) := by rw [eM30]; exact mm_uk hx_29 ha5_29 (by simp)
  have ha6_30 : M30 a6 = some (.inl (dA 2, 301, .inl (fun _ => 0))) := by rw [eM30]; exact mm_uk hx_29 ha6_29 (by simp)
  have ha7_30 : M30 a7 = some (.inl (dA 2, 301, .inl (fun _ => 0))) := by rw [eM30]; exact mm_uk hx_29 ha7_29 (by simp)
  have ha8_30 : M30 a8 = some (.inl (dA 0, 10000, .inl (fun _ => 0))) := by rw [eM30]; exact mm_uk hx_29 ha8_29 (by simp)
  have ha9_30 : M30 a9 = some (.inl (dA 0, 41, .inl (fun _ => 0))) := by rw [eM30]; exact mm_uk hx_29 ha9_29 (by simp)
  have ha10_30 : M30 a10 = some (.inl (dA 2, 10000, .inl (fun _ => 0))) := by rw [eM30]; exact mm_uk hx_29 ha10_29 (by simp)
  have ha11_30 : M30 a11 = some (.inl (dA 1, 41, .inr (.inl (fun _ => 0)))) := by rw [eM30]; exact mm_uk hx_29 ha11_29 (by simp)
  have ha12_30 : M30 a12 = some (.inl (dA 0, 61, .inl (fun _ => 0))) := by rw [eM30]; exact mm_uk hx_29 ha12_29 (by simp)
  have ha13_30 : M30 a13 = some (.inl (dA 0, 61, .inl (fun _ => 0))) := by rw [eM30]; exact mm_uk hx_29 ha13_29 (by simp)
  have ha14_30 : M30 a14 = some (.inl (dA 0, 61, .inl (fun _ => 0))) := by rw [eM30]; exact mm_uk hx_29 ha14_29 (by simp)
  have hx_30 : M30 x = some (.inr (9, [.int 0, .int 0, .int 0, .int 0, .int 0, .int 0, .ref a0, .ref a1, .ref a2, .ref a3, .ref a4, .ref a5, .ref a6, .ref a7, .ref a8, .ref a9, .ref a10, .ref a11, .ref a12, .ref a13, .ref a14, .null])) := by rw [eM30]; exact mm_us
  refine lv_aload_n S.1 S.2.1 d_MO_init_131 rfl (lv_at hl 0 rfl) ?_
  refine lv_sipush (v := 250) S.1 S.2.1 d_MO_init_132 (by decide) ?_
  refine mm_newa (atype := .int) (ty := .int) (N' := 250) (a0 := (250, .inl (fun _ => 0))) S hK.1 hw 0 gw_46 rfl rfl ((hK.1.2 0 _ rfl).2) (fun _ => rfl) (by decide) (by decide) (by decide) (Nat.le_of_ble_eq_true rfl) (Nat.le_of_ble_eq_true rfl) (fun _ h => by cases h) d_MO_init_135 (fun a15 H hqa15 hw => ?_)
  obtain ⟨M31, eM31⟩ : ∃ zM : mm_M, zM = mm_up M30 a15 (.inl (dA 0, 250, .inl (fun _ => 0))) := ⟨_, rfl⟩
  have hw : mm_w D vC _ _ (mm_up M30 a15 (.inl (dA 0, 250, .inl (fun _ => 0)))) H _ := hw
  rw [← eM31] at hw
  have hx_31 : M31 x = some (.inr (9, [.int 0, .int 0, .int 0, .int 0, .int 0, .int 0, .ref a0, .ref a1, .ref a2, .ref a3, .ref a4, .ref a5, .ref a6, .ref a7, .ref a8, .ref a9, .ref a10, .ref a11, .ref a12, .ref a13, .ref a14, .null])) := by rw [eM31]; exact mm_fk hqa15 hx_30
  have ha0_31 : M31 a0 = some (.inl (dA 0, 101, .inl (fun _ => 0))) := by rw [eM31]; exact mm_fk hqa15 ha0_30
  have ha1_31 : M31 a1 = some (.inl (dA 0, 101, .inl (fun _ => 0))) := by rw [eM31]; exact mm_fk hqa15 ha1_30
  have ha2_31 : M31 a2 = some (.inl (dA 0, 101, .inl (fun _ => 0))) := by rw [eM31]; exact mm_fk hqa15 ha2_30
  have ha3_31 : M31 a3 = some (.inl (dA 0, 1010, .inl (fun _ => 0))) := by rw [eM31]; exact mm_fk hqa15 ha3_30
  have ha4_31 : M31 a4 = some (.inl (dA 0, 301, .inl (fun _ => 0))) := by rw [eM31]; exact mm_fk hqa15 ha4_30
  have ha5_31 : M31 a5 = some (.inl (dA 0, 301, .inl (fun _ => 0))) := by rw [eM31]; exact mm_fk hqa15 ha5_30
  have ha6_31 : M31 a6 = some (.inl (dA 2, 301, .inl (fun _ => 0))) := by rw [eM31]; exact mm_fk hqa15 ha6_30
  have ha7_31 : M31 a7 = some (.inl (dA 2, 301, .inl (fun _ => 0))) := by rw [eM31]; exact mm_fk hqa15 ha7_30
  have ha8_31 : M31 a8 = some (.inl (dA 0, 10000, .inl (fun _ => 0))) := by rw [eM31]; exact mm_fk hqa15 ha8_30
  have ha9_31 : M31 a9 = some (.inl (dA 0, 41, .inl (fun _ => 0))) := by rw [eM31]; exact mm_fk hqa15 ha9_30
  have ha10_31 : M31 a10 = some (.inl (dA 2, 10000, .inl (fun _ => 0))) := by rw [eM31]; exact mm_fk hqa15 ha10_30
  have ha11_31 : M31 a11 = some (.inl (dA 1, 41, .inr (.inl (fun _ => 0)))) := by rw [eM31]; exact mm_fk hqa15 ha11_30
  have ha12_31 : M31 a12 = some (.inl (dA 0, 61, .inl (fun _ => 0))) := by rw [eM31]; exact mm_fk hqa15 ha12_30
  have ha13_31 : M31 a13 = some (.inl (dA 0, 61, .inl (fun _ => 0))) := by rw [eM31]; exact mm_fk hqa15 ha13_30
  have ha14_31 : M31 a14 = some (.inl (dA 0, 61, .inl (fun _ => 0))) := by rw [eM31]; exact mm_fk hqa15 ha14_30
  have ha15_31 : M31 a15 = some (.inl (dA 0, 250, .inl (fun _ => 0))) := by rw [eM31]; exact mm_us
  have ne_a0_a15 : a0 ≠ a15 := fun h => by rw [h, hqa15] at ha0_30; cases ha0_30
  have ne_a1_a15 : a1 ≠ a15 := fun h => by rw [h, hqa15] at ha1_30; cases ha1_30
  have ne_a2_a15 : a2 ≠ a15 := fun h => by rw [h, hqa15] at ha2_30; cases ha2_30
  have ne_a3_a15 : a3 ≠ a15 := fun h => by rw [h, hqa15] at ha3_30; cases ha3_30
  have ne_a4_a15 : a4 ≠ a15 := fun h => by rw [h, hqa15] at ha4_30; cases ha4_30
  have ne_a5_a15 : a5 ≠ a15 := fun h => by rw [h, hqa15] at ha5_30; cases ha5_30
  have ne_a6_a15 : a6 ≠ a15 := fun h => by rw [h, hqa15] at ha6_30; cases ha6_30
  have ne_a7_a15 : a7 ≠ a15 := fun h => by rw [h, hqa15] at ha7_30; cases ha7_30
  have ne_a8_a15 : a8 ≠ a15 := fun h => by rw [h, hqa15] at ha8_30; cases ha8_30
  have ne_a9_a15 : a9 ≠ a15 := fun h => by rw [h, hqa15] at ha9_30; cases ha9_30
  have ne_a10_a15 : a10 ≠ a15 := fun h => by rw [h, hqa15] at ha10_30; cases ha10_30
  have ne_a11_a15 : a11 ≠ a15 := fun h => by rw [h, hqa15] at ha11_30; cases ha11_30
  have ne_a12_a15 : a12 ≠ a15 := fun h => by rw [h, hqa15] at ha12_30; cases ha12_30
  have ne_a13_a15 : a13 ≠ a15 := fun h => by rw [h, hqa15] at ha13_30; cases ha13_30
  have ne_a14_a15 : a14 ≠ a15 := fun h => by rw [h, hqa15] at ha14_30; cases ha14_30
  refine mm_putF (C := R_MO) (T := T_MO) (N := 22) (ty := .array .int) (v := .ref a15) S hK.1 hw hx_31 rfl in_MO t_MO k_MO n_MO 21 (by decide) gw_391 rfl rfl hin rfl (by decide +kernel) (rfl) (rfl) (Nat.le_of_ble_eq_true rfl) d_MO_init_137 (fun H locs hw => ?_)
  obtain ⟨M32, eM32⟩ : ∃ zM : mm_M, zM = mm_up M31 x (.inr (9, [.int 0, .int 0, .int 0, .int 0, .int 0, .int 0, .ref a0, .ref a1, .ref a2, .ref a3, .ref a4, .ref a5, .ref a6, .ref a7, .ref a8, .ref a9, .ref a10, .ref a11, .ref a12, .ref a13, .ref a14, .ref a15])) := ⟨_, rfl⟩
  have hw : mm_w D vC _ _ (mm_up M31 x (.inr (9, [.int 0, .int 0, .int 0, .int 0, .int 0, .int 0, .ref a0, .ref a1, .ref a2, .ref a3, .ref a4, .ref a5, .ref a6, .ref a7, .ref a8, .ref a9, .ref a10, .ref a11, .ref a12, .ref a13, .ref a14, .ref a15]))) H _ := hw
  rw [← eM32] at hw
  have ha0_32 : M32 a0 = some (.inl (dA 0, 101, .inl (fun _ => 0))) := by rw [eM32]; exact mm_uk hx_31 ha0_31 (by simp)
  have ha1_32 : M32 a1 = some (.inl (dA 0, 101, .inl (fun _ => 0))) := by rw [eM32]; exact mm_uk hx_31 ha1_31 (by simp)
  have ha2_32 : M32 a2 = some (.inl (dA 0, 101, .inl (fun _ => 0))) := by rw [eM32]; exact mm_uk hx_31 ha2_31 (by simp)
  have ha3_32 : M32 a3 = some (.inl (dA 0, 1010, .inl (fun _ => 0))) := by rw [eM32]; exact mm_uk hx_31 ha3_31 (by simp)
  have ha4_32 : M32 a4 = some (.inl (dA 0, 301, .inl (fun _ => 0))) := by rw [eM32]; exact mm_uk hx_31 ha4_31 (by simp)
  have ha5_32 : M32 a5 = some (.inl (dA 0, 301, .inl (fun _ => 0))) := by rw [eM32]; exact mm_uk hx_31 ha5_31 (by simp)
  have ha6_32 : M32 a6 = some (.inl (dA 2, 301, .inl (fun _ => 0))) := by rw [eM32]; exact mm_uk hx_31 ha6_31 (by simp)
  have ha7_32 : M32 a7 = some (.inl (dA 2, 301, .inl (fun _ => 0))) := by rw [eM32]; exact mm_uk hx_31 ha7_31 (by simp)
  have ha8_32 : M32 a8 = some (.inl (dA 0, 10000, .inl (fun _ => 0))) := by rw [eM32]; exact mm_uk hx_31 ha8_31 (by simp)
  have ha9_32 : M32 a9 = some (.inl (dA 0, 41, .inl (fun _ => 0))) := by rw [eM32]; exact mm_uk hx_31 ha9_31 (by simp)
  have ha10_32 : M32 a10 = some (.inl (dA 2, 10000, .inl (fun _ => 0))) := by rw [eM32]; exact mm_uk hx_31 ha10_31 (by simp)
  have ha11_32 : M32 a11 = some (.inl (dA 1, 41, .inr (.inl (fun _ => 0)))) := by rw [eM32]; exact mm_uk hx_31 ha11_31 (by simp)
  have ha12_32 : M32 a12 = some (.inl (dA 0, 61, .inl (fun _ => 0))) := by rw [eM32]; exact mm_uk hx_31 ha12_31 (by simp)
  have ha13_32 : M32 a13 = some (.inl (dA 0, 61, .inl (fun _ => 0))) := by rw [eM32]; exact mm_uk hx_31 ha13_31 (by simp)
  have ha14_32 : M32 a14 = some (.inl (dA 0, 61, .inl (fun _ => 0))) := by rw [eM32]; exact mm_uk hx_31 ha14_31 (by simp)
  have ha15_32 : M32 a15 = some (.inl (dA 0, 250, .inl (fun _ => 0))) := by rw [eM32]; exact mm_uk hx_31 ha15_31 (by simp)
  have hx_32 : M32 x = some (.inr (9, [.int 0, .int 0, .int 0, .int 0, .int 0, .int 0, .ref a0, .ref a1, .ref a2, .ref a3, .ref a4, .ref a5, .ref a6, .ref a7, .ref a8, .ref a9, .ref a10, .ref a11, .ref a12, .ref a13, .ref a14, .ref a15])) := by rw [eM32]; exact mm_us
  have hnd : [a0, a1, a2, a3, a4, a5, a6, a7, a8, a9, a10, a11, a12, a13, a14, a15].Nodup := by simp [ne_a0_a1, ne_a0_a2, ne_a0_a3, ne_a0_a4, ne_a0_a5, ne_a0_a6, ne_a0_a7, ne_a0_a8, ne_a0_a9, ne_a0_a10, ne_a0_a11, ne_a0_a12, ne_a0_a13, ne_a0_a14, ne_a0_a15, ne_a1_a2, ne_a1_a3, ne_a1_a4, ne_a1_a5, ne_a1_a6, ne_a1_a7, ne_a1_a8, ne_a1_a9, ne_a1_a10, ne_a1_a11, ne_a1_a12, ne_a1_a13, ne_a1_a14, ne_a1_a15, ne_a2_a3, ne_a2_a4, ne_a2_a5, ne_a2_a6, ne_a2_a7, ne_a2_a8, ne_a2_a9, ne_a2_a10, ne_a2_a11, ne_a2_a12, ne_a2_a13, ne_a2_a14, ne_a2_a15, ne_a3_a4, ne_a3_a5, ne_a3_a6, ne_a3_a7, ne_a3_a8, ne_a3_a9, ne_a3_a10, ne_a3_a11, ne_a3_a12, ne_a3_a13, ne_a3_a14, ne_a3_a15, ne_a4_a5, ne_a4_a6, ne_a4_a7, ne_a4_a8, ne_a4_a9, ne_a4_a10, ne_a4_a11, ne_a4_a12, ne_a4_a13, ne_a4_a14, ne_a4_a15, ne_a5_a6, ne_a5_a7, ne_a5_a8, ne_a5_a9, ne_a5_a10, ne_a5_a11, ne_a5_a12, ne_a5_a13, ne_a5_a14, ne_a5_a15, ne_a6_a7, ne_a6_a8, ne_a6_a9, ne_a6_a10, ne_a6_a11, ne_a6_a12, ne_a6_a13, ne_a6_a14, ne_a6_a15, ne_a7_a8, ne_a7_a9, ne_a7_a10, ne_a7_a11, ne_a7_a12, ne_a7_a13, ne_a7_a14, ne_a7_a15, ne_a8_a9, ne_a8_a10, ne_a8_a11, ne_a8_a12, ne_a8_a13, ne_a8_a14, ne_a8_a15, ne_a9_a10, ne_a9_a11, ne_a9_a12, ne_a9_a13, ne_a9_a14, ne_a9_a15, ne_a10_a11, ne_a10_a12, ne_a10_a13, ne_a10_a14, ne_a10_a15, ne_a11_a12, ne_a11_a13, ne_a11_a14, ne_a11_a15, ne_a12_a13, ne_a12_a14, ne_a12_a15, ne_a13_a14, ne_a13_a15, ne_a14_a15]
  have hP : mP dA M32 x (fun k => [a0, a1, a2, a3, a4, a5, a6, a7, a8, a9, a10, a11, a12, a13, a14, a15].getD k 0) (fun _ => 0) (fun _ _ => 0) (fun _ => 0) := ⟨fun i j hi hj e => nd_inj hnd hi hj e, hx_32, fun k hk h11 => match k, hk, h11 with
      | 0, _, _ => ha0_32
      | 1, _, _ => ha1_32
      | 2, _, _ => ha2_32
      | 3, _, _ => ha3_32
      | 4, _, _ => ha4_32
      | 5, _, _ => ha5_32
      | 6, _, _ => ha6_32
      | 7, _, _ => ha7_32
      | 8, _, _ => ha8_32
      | 9, _, _ => ha9_32
      | 10, _, _ => ha10_32
      | 11, _, h => absurd rfl h
      | 12, _, _ => ha12_32
      | 13, _, _ => ha13_32
      | 14, _, _ => ha14_32
      | 15, _, _ => ha15_32
      | k + 16, hk, _ => absurd hk (by omega), ha11_32⟩
  exact mm_retv S.1 S.2.1 hr hlocks hA hQ hw (⟨_, hP⟩) (Nat.le_of_ble_eq_true rfl) (Nat.le_of_ble_eq_true rfl) d_MO_init_140
end
section
/-! THE CLASS'S PICTURE -/
/-- a cell's kind: the class of an object, the length of an array -/
def tg : va_E → Nat
  | .inr o => o.1
  | .inl (_, n, .inr (.inl _)) => 2000 + n
  | .inl (_, n, _) => 1000 + n
/-- cells of kinds outside T stay -/
def kt (M M' : mm_M) (T : List Nat) : Prop := ∀ (a : Nat) (e : va_E), M a = some e → tg e ∉ T → M' a = some e
theorem kt_rf {M : mm_M} {T : List Nat} : kt M M T := fun _ _ h _ => h
theorem kt_tr {M M1 M2 : mm_M} {T : List Nat} (h1 : kt M M1 T) (h2 : kt M1 M2 T) : kt M M2 T := fun a e h ht => h2 a e (h1 a e h ht) ht
theorem kt_up {M : mm_M} {a : Nat} {e0 e : va_E} {T : List Nat} (ha : M a = some e0) (hT : tg e0 ∈ T) : kt M (mm_up M a e) T := fun b x hb hx => by
  have hba : b ≠ a := fun q => by
    rw [q, ha] at hb
    cases hb
    exact hx hT
  rw [mm_un hba]
  exact hb
theorem kt_nw {M : mm_M} {a : Nat} {e : va_E} {T : List Nat} (ha : M a = none) : kt M (mm_up M a e) T := fun b x hb _ => mm_fk ha hb
theorem kt_mo {M M' : mm_M} {T T' : List Nat} (h : kt M M' T) (hs : ∀ t ∈ T, t ∈ T') : kt M M' T' := fun a e he ht => h a e he (fun q => ht (hs _ q))
abbrev aQ (d : ClassId) (n : Nat) (f : Nat → Option Nat) : va_E := .inl (d, n, .inr (.inr (.inr (.inr f))))
abbrev aI (d : ClassId) (n : Nat) (f : Nat → Int32) : va_E := .inl (d, n, .inl f)
abbrev aJ (d : ClassId) (n : Nat) (f : Nat → Int64) : va_E := .inl (d, n, .inr (.inl f))
def cX (M : mm_M) (x : Nat) (I : sI) (lv sr gd rs ss dr cs cg : Nat) : Prop := M x = some (.inr (0, [.ref lv, .int (I 1), .int (I 2), .ref sr, .ref gd, .int (I 3), .ref rs, .ref ss, .ref dr, .ref cs, .ref cg]))
/-- the level of a number; 0: none -/
def lk (la : Nat → Nat) (v : Int32) : Option Nat := if v = 0 then none else some (la (cN v))
def tpf (ea : Nat → Nat) (F : sF) (a : Nat) : Option Nat := if cN (F 2 a) = 0 then none else some (ea (cN (F 3 (10 * a + (cN (F 2 a) - 1)))))
abbrev oL (la ea : Nat → Nat) (F : sF) (a : Nat) : va_E := .inr (5, [.int (nI a), va_rf (lk la (F 0 a)), .int (F 1 a), va_rf (tpf ea F a), .int (F 2 a)])
abbrev oE (er : Nat → Option Nat) (F : sF) (k : Nat) : va_E := .inr (6, [.int (nI k), .int (F 4 k), .int (F 6 k), va_rf (er k), .int (F 7 k)])
/-- the chain of a level's exits -/
def chn (ea : Nat → Nat) (er : Nat → Option Nat) (F : sF) (a : Nat) : Prop := ∀ t, t < cN (F 2 a) → er (cN (F 3 (10 * a + t))) = if t = 0 then none else some (ea (cN (F 3 (10 * a + (t - 1)))))
def cL (dA : Nat → ClassId) (M : mm_M) (lv : Nat) (I : sI) (F : sF) : Prop := ∃ (fL : Nat → Option Nat) (la ea : Nat → Nat) (er : Nat → Option Nat), M lv = some (aQ (dA 3) 100 fL) ∧ (∀ i, i < cN (I 1) → fL i = some (la (i + 1))) ∧ (∀ a, 1 ≤ a → a ≤ cN (I 1) → M (la a) = some (oL la ea F a)) ∧ (∀ k, 1 ≤ k → k ≤ cN (I 2) → M (ea k) = some (oE er F k)) ∧ ∀ a, 1 ≤ a → a ≤ cN (I 1) → chn ea er F a
/-- what a guard's flags say -/
def gst (v b f : Int32) : Prop := (v = 0 ∧ f = 1 ∧ (b = 0 ∨ b = 1)) ∨ (v = 1 ∧ f = 0 ∧ b = 0) ∨ (v = 2 ∧ f = 0 ∧ b = 1)
abbrev oG (F : sF) (b f : Nat → Int32) (i : Nat) : va_E := .inr (7, [.int (F 12 i), .int (F 13 i), .int (b i), .int (f i)])
def cG (dA : Nat → ClassId) (M : mm_M) (gd : Nat) (I : sI) (F : sF) : Prop := ∃ (fG : Nat → Option Nat) (ga : Nat → Nat) (b f : Nat → Int32), M gd = some (aQ (dA 4) 60 fG) ∧ (∀ i, i < 60 → fG i = if i < cN (I 3) then some (ga (i + 1)) else none) ∧ (∀ i, 1 ≤ i → i ≤ cN (I 3) → M (ga i) = some (oG F b f i) ∧ gst (F 14 i) (b i) (f i)) ∧ ∀ i j, 1 ≤ i → i ≤ cN (I 3) → 1 ≤ j → j ≤ cN (I 3) → ga i = ga j → i = j
def cS (dA : Nat → ClassId) (M : mm_M) (sr : Nat) (I : sI) (F : sF) : Prop := ∃ (ak : Nat) (fA : Nat → Int32) (sc : Int32), M sr = some (.inr (1, [.ref ak, .int (I 5), .int sc])) ∧ M ak = some (aI (dA 0) 200 fA) ∧ ∀ j, j < cN (I 5) → fA j = F 5 j
def cD (dA : Nat → ClassId) (M : mm_M) (dr : Nat) (I : sI) (F : sF) : Prop := ∃ (rg nx : Nat) (fD : Nat → Option Nat) (da : Nat → Nat), M dr = some (.inr (2, [.ref rg, .int (nI nx)])) ∧ nx < 50 ∧ M rg = some (aQ (dA 5) 50 fD) ∧ (∀ t, t < 50 → fD ((nx + t) % 50) = if t < 50 - cN (I 4) then none else some (da (t - (50 - cN (I 4))))) ∧ ∀ t, t < cN (I 4) → M (da t) = some (.inr (8, [.int (F 15 (5 * t)), .int (F 15 (5 * t + 1)), .int (F 15 (5 * t + 2)), .int (F 15 (5 * t + 3)), .int (F 15 (5 * t + 4))])) ∧ (F 15 (5 * t + 4) = 0 ∨ F 15 (5 * t + 4) = 1)
def bw (f : Nat → Int64) (j : Nat) : Bool := (f (j / 64)).toBitVec.getLsbD (j % 64)
def cC (dA : Nat → ClassId) (M : mm_M) (cs : Nat) (F : sF) : Prop := ∃ (wd : Nat) (fW : Nat → Int64), M cs = some (.inr (3, [.ref wd])) ∧ M wd = some (aJ (dA 1) 157 fW) ∧ ∀ j, 1 ≤ j → j ≤ 9999 → F 10 j = if bw fW j then 1 else 0
def cnt (f : Nat → Int32) (c : Int32) : Nat → Int32
  | 0 => 0
  | n + 1 => if f n = c then cnt f c n + 1 else cnt f c n
def cE (dA : Nat → ClassId) (M : mm_M) (cg : Nat) (F : sF) (nc : Nat) : Prop := ∃ (cd n : Nat) (fC : Nat → Int32), M cg = some (.inr (4, [.ref cd, .int (nI n)])) ∧ M cd = some (aI (dA 0) 512 fC) ∧ n ≤ nc ∧ (∀ j, j < n → is_ok 9999 (fC j)) ∧ ∀ k, 1 ≤ k → k ≤ 9999 → F 8 k = cnt fC (nI k) n
def cP (dA : Nat → ClassId) (M : mm_M) (x : Nat) (I : sI) (F : sF) (st : sT) (nc : Nat) : Prop := ∃ lv sr gd rs ss dr cs cg : Nat, cX M x I lv sr gd rs ss dr cs cg ∧ cL dA M lv I F ∧ cG dA M gd I F ∧ cS dA M sr I F ∧ M rs = some (aI (dA 0) 41 (F 9)) ∧ M ss = some (aJ (dA 1) 41 st) ∧ cD dA M dr I F ∧ cC dA M cs F ∧ cE dA M cg F nc
section KEEP
variable {dA : Nat → ClassId} {M M' : mm_M} {T : List Nat} {I I' : sI} {F F' : sF}
theorem cL_k {lv : Nat} (k : kt M M' T) (h : cL dA M lv I F) (hT : 1100 ∉ T ∧ 5 ∉ T ∧ 6 ∉ T) (h1 : I' 1 = I 1) (h2 : I' 2 = I 2) (f0 : F' 0 = F 0) (f1 : F' 1 = F 1) (f2 : F' 2 = F 2) (f3 : F' 3 = F 3) (f4 : F' 4 = F 4) (f6 : F' 6 = F 6) (f7 : F' 7 = F 7) : cL dA M' lv I' F' := by
  obtain ⟨fL, la, ea, er, a1, a2, a3, a4, a5⟩ := h
  refine ⟨fL, la, ea, er, k _ _ a1 hT.1, by rw [h1]; exact a2, fun a p q => ?_, fun e p q => ?_, fun a p q => ?_⟩
  · rw [h1] at q
    have := k _ _ (a3 a p q) hT.2.1
    simp only [oL, tpf, f0, f1, f2, f3]
    exact this
  · rw [h2] at q
    have := k _ _ (a4 e p q) hT.2.2
    simp only [oE, f4, f6, f7]
    exact this
  · rw [h1] at q
    unfold chn
    rw [f2, f3]
    exact a5 a p q
theorem cG_k {gd : Nat} (k : kt M M' T) (h : cG dA M gd I F) (hT : 1060 ∉ T ∧ 7 ∉ T) (h3 : I' 3 = I 3) (f2 : F' 12 = F 12) (f3 : F' 13 = F 13) (f4 : F' 14 = F 14) : cG dA M' gd I' F' := by
  obtain ⟨fG, ga, b, f, a1, a2, a3, a4⟩ := h
  refine ⟨fG, ga, b, f, k _ _ a1 hT.1, by rw [h3]; exact a2, fun i p q => ?_, by rw [h3]; exact a4⟩
  rw [h3] at q
  simp only [oG, f2, f3, f4]
  exact ⟨k _ _ (a3 i p q).1 hT.2, (a3 i p q).2⟩
theorem cS_k {sr : Nat} (k : kt M M' T) (h : cS dA M sr I F) (hT : 1 ∉ T ∧ 1200 ∉ T) (h5 : I' 5 = I 5) (f5 : F' 5 = F 5) : cS dA M' sr I' F' := by
  obtain ⟨ak, fA, sc, a1, a2, a3⟩ := h
  refine ⟨ak, fA, sc, ?_, k _ _ a2 hT.2, ?_⟩
  · rw [h5]; exact k _ _ a1 hT.1
  · rw [h5, f5]; exact a3
theorem cD_k {dr : Nat} (k : kt M M' T) (h : cD dA M dr I F) (hT : 2 ∉ T ∧ 1050 ∉ T ∧ 8 ∉ T) (h4 : I' 4 = I 4) (f5 : F' 15 = F 15) : cD dA M' dr I' F' := by
  obtain ⟨rg, nx, fD, da, a1, a2, a3, a4, a5⟩ := h
  refine ⟨rg, nx, fD, da, k _ _ a1 hT.1, a2, k _ _ a3 hT.2.1, by rw [h4]; exact a4, fun t p => ?_⟩
  rw [h4] at p
  rw [f5]
  exact ⟨k _ _ (a5 t p).1 hT.2.2, (a5 t p).2⟩
theorem cC_k {cs : Nat} (k : kt M M' T) (h : cC dA M cs F) (hT : 3 ∉ T ∧ 2157 ∉ T) (f0 : F' 10 = F 10) : cC dA M' cs F' := by
  obtain ⟨wd, fW, a1, a2, a3⟩ := h
  exact ⟨wd, fW, k _ _ a1 hT.1, k _ _ a2 hT.2, by rw [f0]; exact a3⟩
theorem cE_k {cg nc nc' : Nat} (k : kt M M' T) (h : cE dA M cg F nc) (hT : 4 ∉ T ∧ 1512 ∉ T) (hn : nc ≤ nc') (f8 : F' 8 = F 8) : cE dA M' cg F' nc' := by
  obtain ⟨cd, n, fC, a1, a2, a3, a4, a5⟩ := h
  exact ⟨cd, n, fC, k _ _ a1 hT.1, k _ _ a2 hT.2, Nat.le_trans a3 hn, a4, by rw [f8]; exact a5⟩
end KEEP
/-- nothing that the class holds has changed -/
theorem cP_s {dA : Nat → ClassId} {M : mm_M} {x : Nat} {I : sI} {F : sF} {st : sT} {nc : Nat} (h : cP dA M x I F st nc) : cP dA M x (upd I 0 0) F st (nc + 1) := by
  obtain ⟨lv, sr, gd, rs, ss, dr, cs, cg, a1, a2, a3, a4, a5, a6, a7, a8, a9⟩ := h
  exact ⟨lv, sr, gd, rs, ss, dr, cs, cg, a1, a2, a3, a4, a5, a6, a7, a8, cE_k (T := []) kt_rf a9 ⟨by simp, by simp⟩ (by omega) rfl⟩
/-- a class's contract -/
abbrev cs_post (dA : Nat → ClassId) (x nc : Nat) (R : sR) : Int32 → mm_M → Prop := fun r M' => r = R.1 ∧ cP dA M' x R.2.1 R.2.2.1 R.2.2.2 (nc + 1)
theorem cs_same {dA : Nat → ClassId} {M : mm_M} {x : Nat} {I : sI} {F : sF} {st : sT} {nc : Nat} {R : sR} {v : Int32} (h : cP dA M x I F st nc) (hR : R = (v, upd I 0 0, F, st)) : cs_post dA x nc R v M := by
  subst hR
  exact ⟨rfl, cP_s h⟩
theorem cs_done {dA : Nat → ClassId} {M : mm_M} {x : Nat} {I : sI} {F : sF} {st : sT} {nc : Nat} {R : sR} {v : Int32} (h : cP dA M x I F st (nc + 1)) (hR : R = (v, I, F, st)) : cs_post dA x nc R v M := by
  subst hR
  exact ⟨rfl, h⟩
/-- what holds of the numbers in every state -/
def wf (I : sI) (F : sF) (st : sT) : Prop := (∃ n, I 1 = nI n ∧ n ≤ 100) ∧ (∃ n, I 2 = nI n ∧ n ≤ 300) ∧ (∃ n, I 3 = nI n ∧ n ≤ 60) ∧ (∃ n, I 4 = nI n ∧ n ≤ 50) ∧ (∃ n, I 5 = nI n ∧ n ≤ 200) ∧ lv_wf2 F (cN (I 1)) (cN (I 2)) ∧ (∀ a, cN (I 1) < a → F 2 a = 0) ∧ (∀ k, 1 ≤ k → k ≤ cN (I 2) → (F 6 k = 0 ∨ F 6 k = 1) ∧ (F 7 k = 0 ∨ F 7 k = 1)) ∧ (∀ k, cN (I 2) < k → F 7 k = 0) ∧ (∀ t, 1 ≤ t → t ≤ 40 → ∃ u, st t = lN u ∧ u ≤ 1000)
end
section
theorem cN_I {v : Int32} {n : Nat} (h : v = nI n) (hn : n < 2 ^ 31) : cN v = n := by rw [h, cN, nI_clamp hn]
theorem oL_ne {la ea : Nat → Nat} {F F' : sF} {a b : Nat} (ha : a < 2 ^ 31) (hb : b < 2 ^ 31) (h : a ≠ b) : oL la ea F a ≠ oL la ea F' b := fun q => by
  have h1 := congrArg (fun z : va_E => match z with | .inr (_, .int v :: _) => v | _ => 0) q
  exact h ((nI_eq ha hb).mp h1)
section LVS
variable {dA : Nat → ClassId} {M : mm_M} {I I' : sI} {F F' : sF} {lv : Nat} {fL : Nat → Option Nat} {la ea : Nat → Nat} {er : Nat → Option Nat} {n : Nat}
/-- one level's row gets shorter -/
theorem cL_set (hn : cN (I 1) = n) (hN : n ≤ 100) (a1 : M lv = some (aQ (dA 3) 100 fL)) (a2 : ∀ i, i < cN (I 1) → fL i = some (la (i + 1))) (a3 : ∀ a, 1 ≤ a → a ≤ cN (I 1) → M (la a) = some (oL la ea F a)) (a4 : ∀ k, 1 ≤ k → k ≤ cN (I 2) → M (ea k) = some (oE er F k)) (a5 : ∀ a, 1 ≤ a → a ≤ cN (I 1) → chn ea er F a)
    {j : Nat} {z : Int32} (hj : 1 ≤ j) (hjn : j ≤ n) (h1 : I' 1 = I 1) (h2 : I' 2 = I 2) (f0 : F' 0 = F 0) (f1 : F' 1 = F 1) (f2 : F' 2 = upd (F 2) j z) (f3 : F' 3 = F 3) (f4 : F' 4 = F 4) (f6 : F' 6 = F 6) (f7 : F' 7 = F 7) (hz : cN z ≤ cN (F 2 j)) :
    cL dA (mm_up M (la j) (oL la ea F' j)) lv I' F' := by
  have hlj := a3 j hj (by omega)
  refine ⟨fL, la, ea, er, mm_uk hlj a1 (by simp), by rw [h1]; exact a2, fun a p q => ?_, fun k p q => ?_, fun a p q => ?_⟩
  · rw [h1] at q
    by_cases h : a = j
    · subst h; exact mm_us
    · have e1 : oL la ea F' a = oL la ea F a := by simp only [oL, tpf, f0, f1, f2, f3, pk_un h]
      rw [e1]
      exact mm_uk hlj (a3 a p q) (oL_ne (by omega) (by omega) h)
  · rw [h2] at q
    have e1 : oE er F' k = oE er F k := by simp only [oE, f4, f6, f7]
    rw [e1]
    exact mm_uk hlj (a4 k p q) (by simp)
  · rw [h1] at q
    unfold chn
    rw [f2, f3]
    by_cases h : a = j
    · subst h
      rw [pk_us]
      exact fun t ht => a5 a p q t (by omega)
    · rw [pk_un h]
      exact a5 a p q
end LVS

theorem d_AR_levelOf_0 : decode b_AR_levelOf 0 = .ok (.iload_n 1, 1) := by decide +kernel
theorem d_AR_levelOf_1 : decode b_AR_levelOf 1 = .ok (.iconst 1, 1) := by decide +kernel
theorem d_AR_levelOf_2 : decode b_AR_levelOf 2 = .ok (.if_icmp .lt 22, 3) := by decide +kernel
theorem d_AR_levelOf_5 : decode b_AR_levelOf 5 = .ok (.iload_n 1, 1) := by decide +kernel
theorem d_AR_levelOf_6 : decode b_AR_levelOf 6 = .ok (.aload_n 0, 1) := by decide +kernel
theorem d_AR_levelOf_7 : decode b_AR_levelOf 7 = .ok (.getfield 65, 3) := by decide +kernel
theorem d_AR_levelOf_10 : decode b_AR_levelOf 10 = .ok (.if_icmp .gt 14, 3) := by decide +kernel
theorem d_AR_levelOf_13 : decode b_AR_levelOf 13 = .ok (.aload_n 0, 1) := by decide +kernel
theorem d_AR_levelOf_14 : decode b_AR_levelOf 14 = .ok (.getfield 11, 3) := by decide +kernel
theorem d_AR_levelOf_17 : decode b_AR_levelOf 17 = .ok (.iload_n 1, 1) := by decide +kernel
theorem d_AR_levelOf_18 : decode b_AR_levelOf 18 = .ok (.iconst 1, 1) := by decide +kernel
theorem d_AR_levelOf_19 : decode b_AR_levelOf 19 = .ok (.isub, 1) := by decide +kernel
theorem d_AR_levelOf_20 : decode b_AR_levelOf 20 = .ok (.aaload, 1) := by decide +kernel
theorem d_AR_levelOf_21 : decode b_AR_levelOf 21 = .ok (.goto 4, 3) := by decide +kernel
theorem d_AR_levelOf_24 : decode b_AR_levelOf 24 = .ok (.aconst_null, 1) := by decide +kernel
theorem d_AR_levelOf_25 : decode b_AR_levelOf 25 = .ok (.areturn, 1) := by decide +kernel
set_option maxHeartbeats 4000000 in
set_option maxRecDepth 100000 in
theorem c_AR_levelOf (l : Launch) (D : va_G) (dA : Nat → ClassId) (M : mm_M) (x lv sr gd rs ss dr cs cg : Nat) (I : sI) (fL : Nat → Option Nat) (k : Int32) (n : Nat) (hn : I 1 = nI n) (hN : n ≤ 100) (hX : M x = some (.inr (0, [.ref lv, .int (I 1), .int (I 2), .ref sr, .ref gd, .int (I 3), .ref rs, .ref ss, .ref dr, .ref cs, .ref cg]))) (hlv : M lv = some (aQ (dA 3) 100 fL)) : mm_Cq l y_AR_levelOf w_AR_levelOf ({ frames := 0, cells := 0, slots := 0, locals := 0 }) 0 0 D vC (tyL dA) [.ref x, .int k] M (fun r M' => M' = M ∧ ((is_ok (I 1) k ∧ r = fL (cN k - 1)) ∨ (¬ is_ok (I 1) k ∧ r = none))) := by
  intro sz
  refine mm_start (by decide) (Nat.le_of_ble_eq_true rfl) ?_
  intro p e s m below meth c A Q ls hA hQ S hr hlocks hin hK hw hl
  have hl : lv_has ls 2 [(0, .ref x), (1, .int k)] := hl
  refine lv_iload_n S.1 S.2.1 d_AR_levelOf_0 rfl (lv_at hl 1 rfl) ?_
  refine lv_iconst (v := 1) S.1 S.2.1 d_AR_levelOf_1 (by decide) ?_
  refine lv_icmp_lt (tgt := 24) S.1 S.2.1 d_AR_levelOf_2 (by decide) (fun c2 => ?_) (fun c2 => ?_)
  · refine lv_null S.1 S.2.1 d_AR_levelOf_24 ?_
    exact mm_retq (v := none) S.1 S.2.1 hr hlocks hA hQ hw (⟨rfl, Or.inr ⟨fun h => h.1 (is_lt1.mp c2), rfl⟩⟩) (Nat.le_of_ble_eq_true rfl) (Nat.le_of_ble_eq_true rfl) d_AR_levelOf_25
  · refine lv_iload_n S.1 S.2.1 d_AR_levelOf_5 rfl (lv_at hl 1 rfl) ?_
    refine lv_aload_n S.1 S.2.1 d_AR_levelOf_6 rfl (lv_at hl 0 rfl) ?_
    refine mm_get (C := R_AR) (T := T_AR) (N := 11) S hK.1 hw hX rfl in_AR 1 (by decide) gw_89 rfl rfl d_AR_levelOf_7 ?_
    refine lv_icmp_gt (tgt := 24) S.1 S.2.1 d_AR_levelOf_10 (by decide) (fun c10 => ?_) (fun c10 => ?_)
    · refine lv_null S.1 S.2.1 d_AR_levelOf_24 ?_
      exact mm_retq (v := none) S.1 S.2.1 hr hlocks hA hQ hw (⟨rfl, Or.inr ⟨fun h => h.2 c10, rfl⟩⟩) (Nat.le_of_ble_eq_true rfl) (Nat.le_of_ble_eq_true rfl) d_AR_levelOf_25
    · refine lv_aload_n S.1 S.2.1 d_AR_levelOf_13 rfl (lv_at hl 0 rfl) ?_
      refine mm_get (C := R_AR) (T := T_AR) (N := 11) S hK.1 hw hX rfl in_AR 0 (by decide) gw_88 rfl rfl d_AR_levelOf_14 ?_
      refine lv_iload_n S.1 S.2.1 d_AR_levelOf_17 rfl (lv_at hl 1 rfl) ?_
      refine lv_iconst (v := 1) S.1 S.2.1 d_AR_levelOf_18 (by decide) ?_
      refine lv_isub S.1 S.2.1 d_AR_levelOf_19 ?_
      have hok : is_ok (I 1) k := ⟨fun h => c2 (is_lt1.mpr h), c10⟩
      obtain ⟨j, ek, hj1, hjn, en⟩ := is_of hn (by omega) hok
      refine mn_aldq (j := cN k - 1) S hK.1 hw 3 hlv rfl (by rw [cN, en, ek, show (1 : Int32) = nI 1 from rfl, pk_sub (by omega)]) (by rw [cN, en]; omega) (by decide) d_AR_levelOf_20 ?_
      refine lv_goto (tgt := 25) S.1 S.2.1 d_AR_levelOf_21 (by decide) ?_
      exact mm_retq (v := (fL (cN k - 1))) S.1 S.2.1 hr hlocks hA hQ hw (⟨rfl, Or.inl ⟨hok, rfl⟩⟩) (Nat.le_of_ble_eq_true rfl) (Nat.le_of_ble_eq_true rfl) d_AR_levelOf_25
theorem d_AR_region_0 : decode b_AR_region 0 = .ok (.iload_n 1, 1) := by decide +kernel
theorem d_AR_region_1 : decode b_AR_region 1 = .ok (.invokestatic 89, 3) := by decide +kernel
theorem d_AR_region_4 : decode b_AR_region 4 = .ok (.ifCond .ne 6, 3) := by decide +kernel
theorem d_AR_region_7 : decode b_AR_region 7 = .ok (.bipush (-4), 2) := by decide +kernel
theorem d_AR_region_9 : decode b_AR_region 9 = .ok (.ireturn, 1) := by decide +kernel
theorem d_AR_region_10 : decode b_AR_region 10 = .ok (.iload_n 1, 1) := by decide +kernel
theorem d_AR_region_11 : decode b_AR_region 11 = .ok (.sipush 1000, 3) := by decide +kernel
theorem d_AR_region_14 : decode b_AR_region 14 = .ok (.if_icmp .ge 5, 3) := by decide +kernel
theorem d_AR_region_17 : decode b_AR_region 17 = .ok (.iconst 1, 1) := by decide +kernel
theorem d_AR_region_18 : decode b_AR_region 18 = .ok (.ireturn, 1) := by decide +kernel
theorem d_AR_region_19 : decode b_AR_region 19 = .ok (.iload_n 1, 1) := by decide +kernel
theorem d_AR_region_20 : decode b_AR_region 20 = .ok (.sipush 4000, 3) := by decide +kernel
theorem d_AR_region_23 : decode b_AR_region 23 = .ok (.if_icmp .ge 7, 3) := by decide +kernel
theorem d_AR_region_26 : decode b_AR_region 26 = .ok (.iconst 2, 1) := by decide +kernel
theorem d_AR_region_27 : decode b_AR_region 27 = .ok (.goto 4, 3) := by decide +kernel
theorem d_AR_region_30 : decode b_AR_region 30 = .ok (.iconst 3, 1) := by decide +kernel
theorem d_AR_region_31 : decode b_AR_region 31 = .ok (.ireturn, 1) := by decide +kernel
set_option maxHeartbeats 4000000 in
set_option maxRecDepth 100000 in
theorem c_AR_region (l : Launch) (D : va_G) (dA : Nat → ClassId) (M : mm_M) (x nc : Nat) (I : sI) (F : sF) (st : sT) (hC : cP dA M x I F st nc) (hwf : wf I F st) (k : Int32) : mm_Ci l y_AR_region w_AR_region ({ frames := 1, cells := 0, slots := 0, locals := 20 }) 0 0 D vC (tyL dA) [.ref x, .int k] M (cs_post dA x nc (sp_region k I F st)) := by
  intro sz
  refine mm_start (by decide) (Nat.le_of_ble_eq_true rfl) ?_
  intro p e s m below meth c A Q ls hA hQ S hr hlocks hin hK hw hl
  have hl : lv_has ls 2 [(0, .ref x), (1, .int k)] := hl
  refine lv_iload_n S.1 S.2.1 d_AR_region_0 rfl (lv_at hl 1 rfl) ?_
  refine mm_calli hw (mm_runS (As := [.int k]) (rest := []) S hK hw (c_AR_isCode l D dA _ k _) bs_AR_isCode gw_191 (⟨rfl, rfl, by decide, by decide, by decide, by decide⟩) hl.1 rfl rfl (Nat.le_of_ble_eq_true rfl) d_AR_region_1) (fun r1 M2 H locs hp hw => ?_)
  rw [hp.1] at hw
  rcases hp.2 with ⟨rfl, hc3⟩ | ⟨rfl, hc3⟩
  · obtain ⟨j4, ekj4, hlj4, hhj4, enj4⟩ := is_of (N := 9999) rfl (by omega) hc3
    refine lv_if_ne (tgt := 10) S.1 S.2.1 d_AR_region_4 (by decide) (fun c4 => ?_) (fun c4 => absurd c4 (by decide))
    refine lv_iload_n S.1 S.2.1 d_AR_region_10 rfl (lv_at hl 1 rfl) ?_
    refine lv_sipush (v := 1000) S.1 S.2.1 d_AR_region_11 (by decide) ?_
    refine lv_icmp_ge (tgt := 19) S.1 S.2.1 d_AR_region_14 (by decide) (fun c14 => ?_) (fun c14 => ?_)
    · refine lv_iload_n S.1 S.2.1 d_AR_region_19 rfl (lv_at hl 1 rfl) ?_
      refine lv_sipush (v := 4000) S.1 S.2.1 d_AR_region_20 (by decide) ?_
      refine lv_icmp_ge (tgt := 30) S.1 S.2.1 d_AR_region_23 (by decide) (fun c23 => ?_) (fun c23 => ?_)
      · refine lv_iconst (v := 3) S.1 S.2.1 d_AR_region_30 (by decide) ?_
        exact mm_reti S.1 S.2.1 hr hlocks hA hQ hw (cs_same hC (show sp_region k I F st = (3, upd I 0 0, F, st) by simp only [sp_region, eq_true hc3, eq_false c4, eq_true c14, eq_true c23, not_true_eq_false, not_false_eq_true, and_true, true_and, and_false, false_and, and_self, or_true, true_or, or_false, false_or, or_self, ↓reduceIte])) (Nat.le_of_ble_eq_true rfl) (Nat.le_of_ble_eq_true rfl) d_AR_region_31
      · refine lv_iconst (v := 2) S.1 S.2.1 d_AR_region_26 (by decide) ?_
        refine lv_goto (tgt := 31) S.1 S.2.1 d_AR_region_27 (by decide) ?_
        exact mm_reti S.1 S.2.1 hr hlocks hA hQ hw (cs_same hC (show sp_region k I F st = (2, upd I 0 0, F, st) by simp only [sp_region, eq_true hc3, eq_false c4, eq_true c14, eq_false c23, not_true_eq_false, not_false_eq_true, and_true, true_and, and_false, false_and, and_self, or_true, true_or, or_false, false_or, or_self, ↓reduceIte])) (Nat.le_of_ble_eq_true rfl) (Nat.le_of_ble_eq_true rfl) d_AR_region_31
    · refine lv_iconst (v := 1) S.1 S.2.1 d_AR_region_17 (by decide) ?_
      exact mm_reti S.1 S.2.1 hr hlocks hA hQ hw (cs_same hC (show sp_region k I F st = (1, upd I 0 0, F, st) by simp only [sp_region, eq_true hc3, eq_false c4, eq_false c14, not_true_eq_false, not_false_eq_true, and_true, true_and, and_false, false_and, and_self, or_true, true_or, or_false, false_or, or_self, ↓reduceIte])) (Nat.le_of_ble_eq_true rfl) (Nat.le_of_ble_eq_true rfl) d_AR_region_18
  · refine lv_if_ne (tgt := 10) S.1 S.2.1 d_AR_region_4 (by decide) (fun c4 => absurd c4 (by decide)) (fun c4 => ?_)
    refine lv_bipush (v := (-4)) S.1 S.2.1 d_AR_region_7 (by decide) ?_
    exact mm_reti S.1 S.2.1 hr hlocks hA hQ hw (cs_same hC (show sp_region k I F st = ((-4), upd I 0 0, F, st) by simp only [sp_region, eq_false hc3, eq_true c4, not_true_eq_false, not_false_eq_true, and_true, true_and, and_false, false_and, and_self, or_true, true_or, or_false, false_or, or_self, ↓reduceIte])) (Nat.le_of_ble_eq_true rfl) (Nat.le_of_ble_eq_true rfl) d_AR_region_9
theorem d_AR_told_0 : decode b_AR_told 0 = .ok (.aload_n 0, 1) := by decide +kernel
theorem d_AR_told_1 : decode b_AR_told 1 = .ok (.iload_n 1, 1) := by decide +kernel
theorem d_AR_told_2 : decode b_AR_told 2 = .ok (.invokevirtual 57, 3) := by decide +kernel
theorem d_AR_told_5 : decode b_AR_told 5 = .ok (.astore_n 3, 1) := by decide +kernel
theorem d_AR_told_6 : decode b_AR_told 6 = .ok (.aload_n 3, 1) := by decide +kernel
theorem d_AR_told_7 : decode b_AR_told 7 = .ok (.ifnonnull 5, 3) := by decide +kernel
theorem d_AR_told_10 : decode b_AR_told 10 = .ok (.iconst (-1), 1) := by decide +kernel
theorem d_AR_told_11 : decode b_AR_told 11 = .ok (.ireturn, 1) := by decide +kernel
theorem d_AR_told_12 : decode b_AR_told 12 = .ok (.iload_n 2, 1) := by decide +kernel
theorem d_AR_told_13 : decode b_AR_told 13 = .ok (.tableswitch 56 0 2 #[27, 32, 37], 27) := by decide +kernel
theorem d_AR_told_40 : decode b_AR_told 40 = .ok (.aload_n 3, 1) := by decide +kernel
theorem d_AR_told_41 : decode b_AR_told 41 = .ok (.getfield 74, 3) := by decide +kernel
theorem d_AR_told_44 : decode b_AR_told 44 = .ok (.ireturn, 1) := by decide +kernel
theorem d_AR_told_45 : decode b_AR_told 45 = .ok (.aload_n 3, 1) := by decide +kernel
theorem d_AR_told_46 : decode b_AR_told 46 = .ok (.getfield 61, 3) := by decide +kernel
theorem d_AR_told_49 : decode b_AR_told 49 = .ok (.ireturn, 1) := by decide +kernel
theorem d_AR_told_50 : decode b_AR_told 50 = .ok (.aload_n 3, 1) := by decide +kernel
theorem d_AR_told_51 : decode b_AR_told 51 = .ok (.getfield 181, 3) := by decide +kernel
theorem d_AR_told_54 : decode b_AR_told 54 = .ok (.ifnonnull 7, 3) := by decide +kernel
theorem d_AR_told_57 : decode b_AR_told 57 = .ok (.iconst 0, 1) := by decide +kernel
theorem d_AR_told_58 : decode b_AR_told 58 = .ok (.goto 10, 3) := by decide +kernel
theorem d_AR_told_61 : decode b_AR_told 61 = .ok (.aload_n 3, 1) := by decide +kernel
theorem d_AR_told_62 : decode b_AR_told 62 = .ok (.getfield 181, 3) := by decide +kernel
theorem d_AR_told_65 : decode b_AR_told 65 = .ok (.getfield 71, 3) := by decide +kernel
theorem d_AR_told_68 : decode b_AR_told 68 = .ok (.ireturn, 1) := by decide +kernel
theorem d_AR_told_69 : decode b_AR_told 69 = .ok (.iconst (-1), 1) := by decide +kernel
theorem d_AR_told_70 : decode b_AR_told 70 = .ok (.ireturn, 1) := by decide +kernel
set_option maxHeartbeats 4000000 in
set_option maxRecDepth 100000 in
theorem c_AR_told (l : Launch) (D : va_G) (dA : Nat → ClassId) (M : mm_M) (x nc : Nat) (I : sI) (F : sF) (st : sT) (hC : cP dA M x I F st nc) (hwf : wf I F st) (k v : Int32) : mm_Ci l y_AR_told w_AR_told ({ frames := 1, cells := 0, slots := 0, locals := 21 }) 0 0 D vC (tyL dA) [.ref x, .int k, .int v] M (cs_post dA x nc (sp_told k v I F st)) := by
  intro sz
  refine mm_start (by decide) (Nat.le_of_ble_eq_true rfl) ?_
  intro p e s m below meth c A Q ls hA hQ S hr hlocks hin hK hw hl
  have hl : lv_has ls 4 [(0, .ref x), (1, .int k), (2, .int v)] := hl
  obtain ⟨lv, sr, gd, rs, ss, dr, cs, cg, hX, hL, hG, hS, hR, hT, hD, hCs, hE⟩ := id hC
  have hX : M x = some (.inr (0, [.ref lv, .int (I 1), .int (I 2), .ref sr, .ref gd, .int (I 3), .ref rs, .ref ss, .ref dr, .ref cs, .ref cg])) := hX
  obtain ⟨fL, la, ea, er, hlv, hfl, hla, hea, hch⟩ := id hL
  obtain ⟨n, hn, hN⟩ := hwf.1
  have hcn : cN (I 1) = n := cN_I hn (by omega)
  refine lv_aload_n S.1 S.2.1 d_AR_told_0 rfl (lv_at hl 0 rfl) ?_
  refine lv_iload_n S.1 S.2.1 d_AR_told_1 rfl (lv_at hl 1 rfl) ?_
  refine mm_callq hw (mm_runV (a := x) (As := [.int k]) (rest := []) S hK hw (c_AR_levelOf l D dA _ x lv sr gd rs ss dr cs cg I fL k n hn hN hX hlv _) bv_AR_levelOf gw_126 hX rfl (⟨rfl, rfl, by decide, by decide, by decide, by decide⟩) hl.1 rfl rfl (Nat.le_of_ble_eq_true rfl) d_AR_told_2) (fun r1 M2 H locs hp hw => ?_)
  rw [hp.1] at hw
  rcases hp.2 with ⟨hc3, er9⟩ | ⟨hc3, rfl⟩
  · obtain ⟨j, ek, hj1, hjn, en⟩ := is_of hn (by omega) hc3
    have er9 : r1 = some (la j) := by rw [er9, cN, en, hfl (j - 1) (by omega)]; congr 2; omega
    subst er9
    refine W.eq (g2 := F0 m 5 ls [.ref (la j)]) rfl ?_
    have hlj : M (la j) = some (oL la ea F j) := hla j hj1 (by omega)
    have en : cN k = j := en
    obtain ⟨pa, hpe, hpa, -⟩ := hwf.2.2.2.2.2.1.2.1 j hj1 (by omega)
    rcases Nat.eq_zero_or_pos pa with hp0 | hp0
    · have hlk : lk la (F 0 j) = none := by rw [lk, hpe, hp0]; rfl
      have h00 : F 0 j = 0 := by rw [hpe, hp0]; rfl
      have hlj : M (la j) = some (.inr (5, [.int (nI j), .null, .int (F 1 j), va_rf (tpf ea F j), .int (F 2 j)])) := by rw [oL, hlk] at hlj; exact hlj
      refine lv_astore_n (lv' := [(3, .ref (la j)), (0, .ref x), (1, .int k), (2, .int v)]) S.1 S.2.1 d_AR_told_5 rfl hl (by decide) rfl (fun ls hl => ?_)
      refine lv_aload_n S.1 S.2.1 d_AR_told_6 rfl (lv_at hl 0 rfl) ?_
      refine lv_ifnonnull (tgt := 12) S.1 S.2.1 d_AR_told_7 (by decide) ?_
      refine lv_iload_n S.1 S.2.1 d_AR_told_12 rfl (lv_at hl 3 rfl) ?_
      by_cases k13_0 : v = 0
      · refine lv_tableIn (off := 27) (tgt := 40) S.1 S.2.1 d_AR_told_13 (by rw [k13_0]; decide) (by rw [k13_0]; decide) (by rw [k13_0]; rfl) (by decide) ?_
        refine lv_aload_n S.1 S.2.1 d_AR_told_40 rfl (lv_at hl 0 rfl) ?_
        refine mm_get (C := R_LV) (T := T_LV) (N := 5) S hK.1 hw hlj rfl in_LV 4 (by decide) gw_144 rfl rfl d_AR_told_41 ?_
        exact mm_reti S.1 S.2.1 hr hlocks hA hQ hw (cs_same hC (show sp_told k v I F st = ((F 2 j), upd I 0 0, F, st) by simp only [sp_told, eq_true hc3, eq_true k13_0, not_true_eq_false, not_false_eq_true, and_true, true_and, and_false, false_and, and_self, or_true, true_or, or_false, false_or, or_self, ↓reduceIte, en])) (Nat.le_of_ble_eq_true rfl) (Nat.le_of_ble_eq_true rfl) d_AR_told_44
      by_cases k13_1 : v = 1
      · refine lv_tableIn (off := 32) (tgt := 45) S.1 S.2.1 d_AR_told_13 (by rw [k13_1]; decide) (by rw [k13_1]; decide) (by rw [k13_1]; rfl) (by decide) ?_
        refine lv_aload_n S.1 S.2.1 d_AR_told_45 rfl (lv_at hl 0 rfl) ?_
        refine mm_get (C := R_LV) (T := T_LV) (N := 5) S hK.1 hw hlj rfl in_LV 2 (by decide) gw_141 rfl rfl d_AR_told_46 ?_
        exact mm_reti S.1 S.2.1 hr hlocks hA hQ hw (cs_same hC (show sp_told k v I F st = ((F 1 j), upd I 0 0, F, st) by simp only [sp_told, eq_true hc3, eq_false k13_0, eq_true k13_1, not_true_eq_false, not_false_eq_true, and_true, true_and, and_false, false_and, and_self, or_true, true_or, or_false, false_or, or_self, ↓reduceIte, en])) (Nat.le_of_ble_eq_true rfl) (Nat.le_of_ble_eq_true rfl) d_AR_told_49
      by_cases k13_2 : v = 2
      · refine lv_tableIn (off := 37) (tgt := 50) S.1 S.2.1 d_AR_told_13 (by rw [k13_2]; decide) (by rw [k13_2]; decide) (by rw [k13_2]; rfl) (by decide) ?_
        refine lv_aload_n S.1 S.2.1 d_AR_told_50 rfl (lv_at hl 0 rfl) ?_
        refine mm_get (C := R_LV) (T := T_LV) (N := 5) S hK.1 hw hlj rfl in_LV 1 (by decide) gw_139 rfl rfl d_AR_told_51 ?_
        refine lv_ifnonnullN S.1 S.2.1 d_AR_told_54 ?_
        refine lv_iconst (v := 0) S.1 S.2.1 d_AR_told_57 (by decide) ?_
        refine lv_goto (tgt := 68) S.1 S.2.1 d_AR_told_58 (by decide) ?_
        exact mm_reti S.1 S.2.1 hr hlocks hA hQ hw (cs_same hC (show sp_told k v I F st = (0, upd I 0 0, F, st) by simp only [sp_told, eq_true hc3, eq_false k13_0, eq_false k13_1, eq_true k13_2, not_true_eq_false, not_false_eq_true, and_true, true_and, and_false, false_and, and_self, or_true, true_or, or_false, false_or, or_self, ↓reduceIte, en, h00])) (Nat.le_of_ble_eq_true rfl) (Nat.le_of_ble_eq_true rfl) d_AR_told_68
      refine lv_tableOut (tgt := 69) S.1 S.2.1 d_AR_told_13 (by have t0 : (v).toInt ≠ 0 := ts_ne k13_0; have t1 : (v).toInt ≠ 1 := ts_ne k13_1; have t2 : (v).toInt ≠ 2 := ts_ne k13_2; omega) (by decide) ?_
      refine lv_iconst (v := (-1)) S.1 S.2.1 d_AR_told_69 (by decide) ?_
      exact mm_reti S.1 S.2.1 hr hlocks hA hQ hw (cs_same hC (show sp_told k v I F st = ((-1), upd I 0 0, F, st) by simp only [sp_told, eq_true hc3, eq_false k13_0, eq_false k13_1, eq_false k13_2, not_true_eq_false, not_false_eq_true, and_true, true_and, and_false, false_and, and_self, or_true, true_or, or_false, false_or, or_self, ↓reduceIte, en])) (Nat.le_of_ble_eq_true rfl) (Nat.le_of_ble_eq_true rfl) d_AR_told_70
    · have hlk : lk la (F 0 j) = some (la pa) := by rw [lk, hpe, if_neg (nI_ne0 hp0 (by omega)), cN, nI_clamp (by omega)]
      have hlp : M (la pa) = some (oL la ea F pa) := hla pa hp0 (by omega)
      have hlj : M (la j) = some (.inr (5, [.int (nI j), .ref (la pa), .int (F 1 j), va_rf (tpf ea F j), .int (F 2 j)])) := by rw [oL, hlk] at hlj; exact hlj
      refine lv_astore_n (lv' := [(3, .ref (la j)), (0, .ref x), (1, .int k), (2, .int v)]) S.1 S.2.1 d_AR_told_5 rfl hl (by decide) rfl (fun ls hl => ?_)
      refine lv_aload_n S.1 S.2.1 d_AR_told_6 rfl (lv_at hl 0 rfl) ?_
      refine lv_ifnonnull (tgt := 12) S.1 S.2.1 d_AR_told_7 (by decide) ?_
      refine lv_iload_n S.1 S.2.1 d_AR_told_12 rfl (lv_at hl 3 rfl) ?_
      by_cases k13_0 : v = 0
      · refine lv_tableIn (off := 27) (tgt := 40) S.1 S.2.1 d_AR_told_13 (by rw [k13_0]; decide) (by rw [k13_0]; decide) (by rw [k13_0]; rfl) (by decide) ?_
        refine lv_aload_n S.1 S.2.1 d_AR_told_40 rfl (lv_at hl 0 rfl) ?_
        refine mm_get (C := R_LV) (T := T_LV) (N := 5) S hK.1 hw hlj rfl in_LV 4 (by decide) gw_144 rfl rfl d_AR_told_41 ?_
        exact mm_reti S.1 S.2.1 hr hlocks hA hQ hw (cs_same hC (show sp_told k v I F st = ((F 2 j), upd I 0 0, F, st) by simp only [sp_told, eq_true hc3, eq_true k13_0, not_true_eq_false, not_false_eq_true, and_true, true_and, and_false, false_and, and_self, or_true, true_or, or_false, false_or, or_self, ↓reduceIte, en])) (Nat.le_of_ble_eq_true rfl) (Nat.le_of_ble_eq_true rfl) d_AR_told_44
      by_cases k13_1 : v = 1
      · refine lv_tableIn (off := 32) (tgt := 45) S.1 S.2.1 d_AR_told_13 (by rw [k13_1]; decide) (by rw [k13_1]; decide) (by rw [k13_1]; rfl) (by decide) ?_
        refine lv_aload_n S.1 S.2.1 d_AR_told_45 rfl (lv_at hl 0 rfl) ?_
        refine mm_get (C := R_LV) (T := T_LV) (N := 5) S hK.1 hw hlj rfl in_LV 2 (by decide) gw_141 rfl rfl d_AR_told_46 ?_
        exact mm_reti S.1 S.2.1 hr hlocks hA hQ hw (cs_same hC (show sp_told k v I F st = ((F 1 j), upd I 0 0, F, st) by simp only [sp_told, eq_true hc3, eq_false k13_0, eq_true k13_1, not_true_eq_false, not_false_eq_true, and_true, true_and, and_false, false_and, and_self, or_true, true_or, or_false, false_or, or_self, ↓reduceIte, en])) (Nat.le_of_ble_eq_true rfl) (Nat.le_of_ble_eq_true rfl) d_AR_told_49
      by_cases k13_2 : v = 2
      · refine lv_tableIn (off := 37) (tgt := 50) S.1 S.2.1 d_AR_told_13 (by rw [k13_2]; decide) (by rw [k13_2]; decide) (by rw [k13_2]; rfl) (by decide) ?_
        refine lv_aload_n S.1 S.2.1 d_AR_told_50 rfl (lv_at hl 0 rfl) ?_
        refine mm_get (C := R_LV) (T := T_LV) (N := 5) S hK.1 hw hlj rfl in_LV 1 (by decide) gw_139 rfl rfl d_AR_told_51 ?_
        refine lv_ifnonnull (tgt := 61) S.1 S.2.1 d_AR_told_54 (by decide) ?_
        refine lv_aload_n S.1 S.2.1 d_AR_told_61 rfl (lv_at hl 0 rfl) ?_
        refine mm_get (C := R_LV) (T := T_LV) (N := 5) S hK.1 hw hlj rfl in_LV 1 (by decide) gw_139 rfl rfl d_AR_told_62 ?_
        refine mm_get (C := R_LV) (T := T_LV) (N := 5) S hK.1 hw hlp rfl in_LV 0 (by decide) gw_136 rfl rfl d_AR_told_65 ?_
        exact mm_reti S.1 S.2.1 hr hlocks hA hQ hw (cs_same hC (show sp_told k v I F st = ((nI pa), upd I 0 0, F, st) by simp only [sp_told, eq_true hc3, eq_false k13_0, eq_false k13_1, eq_true k13_2, not_true_eq_false, not_false_eq_true, and_true, true_and, and_false, false_and, and_self, or_true, true_or, or_false, false_or, or_self, ↓reduceIte, en, hpe])) (Nat.le_of_ble_eq_true rfl) (Nat.le_of_ble_eq_true rfl) d_AR_told_68
      refine lv_tableOut (tgt := 69) S.1 S.2.1 d_AR_told_13 (by have t0 : (v).toInt ≠ 0 := ts_ne k13_0; have t1 : (v).toInt ≠ 1 := ts_ne k13_1; have t2 : (v).toInt ≠ 2 := ts_ne k13_2; omega) (by decide) ?_
      refine lv_iconst (v := (-1)) S.1 S.2.1 d_AR_told_69 (by decide) ?_
      exact mm_reti S.1 S.2.1 hr hlocks hA hQ hw (cs_same hC (show sp_told k v I F st = ((-1), upd I 0 0, F, st) by simp only [sp_told, eq_true hc3, eq_false k13_0, eq_false k13_1, eq_false k13_2, not_true_eq_false, not_false_eq_true, and_true, true_and, and_false, false_and, and_self, or_true, true_or, or_false, false_or, or_self, ↓reduceIte, en])) (Nat.le_of_ble_eq_true rfl) (Nat.le_of_ble_eq_true rfl) d_AR_told_70
  · refine W.eq (g2 := F0 m 5 ls [.null]) rfl ?_
    refine lv_astore_nN (lv' := [(3, .null), (0, .ref x), (1, .int k), (2, .int v)]) S.1 S.2.1 d_AR_told_5 rfl hl (by decide) rfl (fun ls hl => ?_)
    refine lv_aload_nN S.1 S.2.1 d_AR_told_6 rfl (lv_at hl 0 rfl) ?_
    refine lv_ifnonnullN S.1 S.2.1 d_AR_told_7 ?_
    refine lv_iconst (v := (-1)) S.1 S.2.1 d_AR_told_10 (by decide) ?_
    exact mm_reti S.1 S.2.1 hr hlocks hA hQ hw (cs_same hC (show sp_told k v I F st = ((-1), upd I 0 0, F, st) by simp only [sp_told, eq_false hc3, not_true_eq_false, not_false_eq_true, and_true, true_and, and_false, false_and, and_self, or_true, true_or, or_false, false_or, or_self, ↓reduceIte])) (Nat.le_of_ble_eq_true rfl) (Nat.le_of_ble_eq_true rfl) d_AR_told_11
theorem d_AR_cancel_0 : decode b_AR_cancel 0 = .ok (.aload_n 0, 1) := by decide +kernel
theorem d_AR_cancel_1 : decode b_AR_cancel 1 = .ok (.iload_n 1, 1) := by decide +kernel
theorem d_AR_cancel_2 : decode b_AR_cancel 2 = .ok (.invokevirtual 57, 3) := by decide +kernel
theorem d_AR_cancel_5 : decode b_AR_cancel 5 = .ok (.astore_n 2, 1) := by decide +kernel
theorem d_AR_cancel_6 : decode b_AR_cancel 6 = .ok (.aload_n 2, 1) := by decide +kernel
theorem d_AR_cancel_7 : decode b_AR_cancel 7 = .ok (.ifnonnull 6, 3) := by decide +kernel
theorem d_AR_cancel_10 : decode b_AR_cancel 10 = .ok (.bipush (-2), 2) := by decide +kernel
theorem d_AR_cancel_12 : decode b_AR_cancel 12 = .ok (.ireturn, 1) := by decide +kernel
theorem d_AR_cancel_13 : decode b_AR_cancel 13 = .ok (.aload_n 2, 1) := by decide +kernel
theorem d_AR_cancel_14 : decode b_AR_cancel 14 = .ok (.getfield 82, 3) := by decide +kernel
theorem d_AR_cancel_17 : decode b_AR_cancel 17 = .ok (.astore_n 3, 1) := by decide +kernel
theorem d_AR_cancel_18 : decode b_AR_cancel 18 = .ok (.aload_n 3, 1) := by decide +kernel
theorem d_AR_cancel_19 : decode b_AR_cancel 19 = .ok (.ifnonnull 5, 3) := by decide +kernel
theorem d_AR_cancel_22 : decode b_AR_cancel 22 = .ok (.iconst (-1), 1) := by decide +kernel
theorem d_AR_cancel_23 : decode b_AR_cancel 23 = .ok (.ireturn, 1) := by decide +kernel
theorem d_AR_cancel_24 : decode b_AR_cancel 24 = .ok (.aload_n 2, 1) := by decide +kernel
theorem d_AR_cancel_25 : decode b_AR_cancel 25 = .ok (.aload_n 3, 1) := by decide +kernel
theorem d_AR_cancel_26 : decode b_AR_cancel 26 = .ok (.getfield 112, 3) := by decide +kernel
theorem d_AR_cancel_29 : decode b_AR_cancel 29 = .ok (.putfield 82, 3) := by decide +kernel
theorem d_AR_cancel_32 : decode b_AR_cancel 32 = .ok (.aload_n 2, 1) := by decide +kernel
theorem d_AR_cancel_33 : decode b_AR_cancel 33 = .ok (.dup, 1) := by decide +kernel
theorem d_AR_cancel_34 : decode b_AR_cancel 34 = .ok (.getfield 74, 3) := by decide +kernel
theorem d_AR_cancel_37 : decode b_AR_cancel 37 = .ok (.iconst 1, 1) := by decide +kernel
theorem d_AR_cancel_38 : decode b_AR_cancel 38 = .ok (.isub, 1) := by decide +kernel
theorem d_AR_cancel_39 : decode b_AR_cancel 39 = .ok (.putfield 74, 3) := by decide +kernel
theorem d_AR_cancel_42 : decode b_AR_cancel 42 = .ok (.aload_n 2, 1) := by decide +kernel
theorem d_AR_cancel_43 : decode b_AR_cancel 43 = .ok (.getfield 74, 3) := by decide +kernel
theorem d_AR_cancel_46 : decode b_AR_cancel 46 = .ok (.ireturn, 1) := by decide +kernel
set_option maxHeartbeats 4000000 in
set_option maxRecDepth 100000 in
theorem c_AR_cancel (l : Launch) (D : va_G) (dA : Nat → ClassId) (M : mm_M) (x nc : Nat) (I : sI) (F : sF) (st : sT) (hC : cP dA M x I F st nc) (hwf : wf I F st) (k : Int32) : mm_Ci l y_AR_cancel w_AR_cancel ({ frames := 1, cells := 0, slots := 0, locals := 21 }) 0 0 D vC (tyL dA) [.ref x, .int k] M (cs_post dA x nc (sp_cancel k I F st)) := by
  intro sz
  refine mm_start (by decide) (Nat.le_of_ble_eq_true rfl) ?_
  intro p e s m below meth c A Q ls hA hQ S hr hlocks hin hK hw hl
  have hl : lv_has ls 4 [(0, .ref x), (1, .int k)] := hl
  obtain ⟨lv, sr, gd, rs, ss, dr, cs, cg, hX, hL, hG, hS, hR, hT, hD, hCs, hE⟩ := id hC
  have hX : M x = some (.inr (0, [.ref lv, .int (I 1), .int (I 2), .ref sr, .ref gd, .int (I 3), .ref rs, .ref ss, .ref dr, .ref cs, .ref cg])) := hX
  obtain ⟨fL, la, ea, er, hlv, hfl, hla, hea, hch⟩ := id hL
  obtain ⟨n, hn, hN⟩ := hwf.1
  have hcn : cN (I 1) = n := cN_I hn (by omega)
  refine lv_aload_n S.1 S.2.1 d_AR_cancel_0 rfl (lv_at hl 0 rfl) ?_
  refine lv_iload_n S.1 S.2.1 d_AR_cancel_1 rfl (lv_at hl 1 rfl) ?_
  refine mm_callq hw (mm_runV (a := x) (As := [.int k]) (rest := []) S hK hw (c_AR_levelOf l D dA _ x lv sr gd rs ss dr cs cg I fL k n hn hN hX hlv _) bv_AR_levelOf gw_126 hX rfl (⟨rfl, rfl, by decide, by decide, by decide, by decide⟩) hl.1 rfl rfl (Nat.le_of_ble_eq_true rfl) d_AR_cancel_2) (fun r1 M2 H locs hp hw => ?_)
  rw [hp.1] at hw
  rcases hp.2 with ⟨hc3, er9⟩ | ⟨hc3, rfl⟩
  · obtain ⟨j, ek, hj1, hjn, en⟩ := is_of hn (by omega) hc3
    have er9 : r1 = some (la j) := by rw [er9, cN, en, hfl (j - 1) (by omega)]; congr 2; omega
    subst er9
    refine W.eq (g2 := F0 m 5 ls [.ref (la j)]) rfl ?_
    have hlj : M (la j) = some (oL la ea F j) := hla j hj1 (by omega)
    have en : cN k = j := en
    obtain ⟨z, hze, hz10, hzr⟩ := hwf.2.2.2.2.2.1.2.2 j hj1 (by omega)
    have hzc : cN (F 2 j) = z := cN_I hze (by omega)
    rcases Nat.eq_zero_or_pos z with hz0 | hz0
    · have htp : tpf ea F j = none := by rw [tpf, hzc, if_pos hz0]
      have hf0 : F 2 j = 0 := by rw [hze, hz0]; rfl
      have hlj0 := hlj
      have hlj : M (la j) = some (.inr (5, [.int (nI j), va_rf (lk la (F 0 j)), .int (F 1 j), .null, .int (F 2 j)])) := by rw [oL, htp] at hlj; exact hlj
      refine lv_astore_n (lv' := [(2, .ref (la j)), (0, .ref x), (1, .int k)]) S.1 S.2.1 d_AR_cancel_5 rfl hl (by decide) rfl (fun ls hl => ?_)
      refine lv_aload_n S.1 S.2.1 d_AR_cancel_6 rfl (lv_at hl 0 rfl) ?_
      refine lv_ifnonnull (tgt := 13) S.1 S.2.1 d_AR_cancel_7 (by decide) ?_
      refine lv_aload_n S.1 S.2.1 d_AR_cancel_13 rfl (lv_at hl 0 rfl) ?_
      refine mm_get (C := R_LV) (T := T_LV) (N := 5) S hK.1 hw hlj rfl in_LV 3 (by decide) gw_143 rfl rfl d_AR_cancel_14 ?_
      refine lv_astore_nN (lv' := [(3, .null), (2, .ref (la j)), (0, .ref x), (1, .int k)]) S.1 S.2.1 d_AR_cancel_17 rfl hl (by decide) rfl (fun ls hl => ?_)
      refine lv_aload_nN S.1 S.2.1 d_AR_cancel_18 rfl (lv_at hl 0 rfl) ?_
      refine lv_ifnonnullN S.1 S.2.1 d_AR_cancel_19 ?_
      refine lv_iconst (v := (-1)) S.1 S.2.1 d_AR_cancel_22 (by decide) ?_
      exact mm_reti S.1 S.2.1 hr hlocks hA hQ hw (cs_same hC (show sp_cancel k I F st = ((-1), upd I 0 0, F, st) by simp only [sp_cancel, eq_true hc3, not_true_eq_false, not_false_eq_true, and_true, true_and, and_false, false_and, and_self, or_true, true_or, or_false, false_or, or_self, ↓reduceIte, en, eq_true hf0])) (Nat.le_of_ble_eq_true rfl) (Nat.le_of_ble_eq_true rfl) d_AR_cancel_23
    · obtain ⟨u, hue, hu1, hun⟩ := hzr (z - 1) (by omega)
      have huc : cN (F 3 (10 * j + (z - 1))) = u := cN_I hue (by have := hwf.2.1; obtain ⟨ne, h1, h2⟩ := this; rw [cN_I h1 (by omega)] at hun; omega)
      have htp : tpf ea F j = some (ea u) := by rw [tpf, hzc, if_neg (by omega), huc]
      have hf0 : ¬ F 2 j = 0 := by rw [hze]; exact nI_ne0 hz0 (by omega)
      have heu : M (ea u) = some (oE er F u) := hea u hu1 hun
      have hlj0 := hlj
      have hlj : M (la j) = some (.inr (5, [.int (nI j), va_rf (lk la (F 0 j)), .int (F 1 j), .ref (ea u), .int (F 2 j)])) := by rw [oL, htp] at hlj; exact hlj
      refine lv_astore_n (lv' := [(2, .ref (la j)), (0, .ref x), (1, .int k)]) S.1 S.2.1 d_AR_cancel_5 rfl hl (by decide) rfl (fun ls hl => ?_)
      refine lv_aload_n S.1 S.2.1 d_AR_cancel_6 rfl (lv_at hl 0 rfl) ?_
      refine lv_ifnonnull (tgt := 13) S.1 S.2.1 d_AR_cancel_7 (by decide) ?_
      refine lv_aload_n S.1 S.2.1 d_AR_cancel_13 rfl (lv_at hl 0 rfl) ?_
      refine mm_get (C := R_LV) (T := T_LV) (N := 5) S hK.1 hw hlj rfl in_LV 3 (by decide) gw_143 rfl rfl d_AR_cancel_14 ?_
      refine lv_astore_n (lv' := [(3, .ref (ea u)), (2, .ref (la j)), (0, .ref x), (1, .int k)]) S.1 S.2.1 d_AR_cancel_17 rfl hl (by decide) rfl (fun ls hl => ?_)
      refine lv_aload_n S.1 S.2.1 d_AR_cancel_18 rfl (lv_at hl 0 rfl) ?_
      refine lv_ifnonnull (tgt := 24) S.1 S.2.1 d_AR_cancel_19 (by decide) ?_
      refine lv_aload_n S.1 S.2.1 d_AR_cancel_24 rfl (lv_at hl 1 rfl) ?_
      refine lv_aload_n S.1 S.2.1 d_AR_cancel_25 rfl (lv_at hl 0 rfl) ?_
      refine mm_get (C := R_EX) (T := T_EX) (N := 5) S hK.1 hw heu rfl in_EX 3 (by decide) gw_174 rfl rfl d_AR_cancel_26 ?_
      refine mm_put (C := R_LV) (T := T_LV) (N := 5) (ty := .object "AbendRows$Exit") (v := va_rf (er u)) S hK.1 hw hlj rfl in_LV t_LV k_LV n_LV 3 (by decide) gw_143 rfl rfl (by decide +kernel) (mq_nar _ _) (mq_fit _ _) (Nat.le_of_ble_eq_true rfl) d_AR_cancel_29 (fun H locs hw => ?_)
      obtain ⟨M4, eM4⟩ : ∃ zM : mm_M, zM = mm_up M (la j) (.inr (5, [.int (nI j), va_rf (lk la (F 0 j)), .int (F 1 j), va_rf (er u), .int (F 2 j)])) := ⟨_, rfl⟩
      have hw : mm_w D vC _ _ (mm_up M (la j) (.inr (5, [.int (nI j), va_rf (lk la (F 0 j)), .int (F 1 j), va_rf (er u), .int (F 2 j)]))) H _ := hw
      rw [← eM4] at hw
      have hX_4 : M4 x = some (.inr (0, [.ref lv, .int (I 1), .int (I 2), .ref sr, .ref gd, .int (I 3), .ref rs, .ref ss, .ref dr, .ref cs, .ref cg])) := by rw [eM4]; exact mm_uk hlj hX (by simp)
      have heu_4 : M4 (ea u) = some (.inr (6, [.int (nI u), .int (F 4 u), .int (F 6 u), va_rf (er u), .int (F 7 u)])) := by rw [eM4]; exact mm_uk hlj heu (by simp)
      have hlj_4 : M4 (la j) = some (.inr (5, [.int (nI j), va_rf (lk la (F 0 j)), .int (F 1 j), va_rf (er u), .int (F 2 j)])) := by rw [eM4]; exact mm_us
      refine lv_aload_n S.1 S.2.1 d_AR_cancel_32 rfl (lv_at hl 1 rfl) ?_
      refine lv_dup S.1 S.2.1 d_AR_cancel_33 rfl ?_
      refine mm_get (C := R_LV) (T := T_LV) (N := 5) S hK.1 hw hlj_4 rfl in_LV 4 (by decide) gw_144 rfl rfl d_AR_cancel_34 ?_
      refine lv_iconst (v := 1) S.1 S.2.1 d_AR_cancel_37 (by decide) ?_
      refine lv_isub S.1 S.2.1 d_AR_cancel_38 ?_
      refine mm_put (C := R_LV) (T := T_LV) (N := 5) (ty := .int) (v := .int ((F 2 j) - 1)) S hK.1 hw hlj_4 rfl in_LV t_LV k_LV n_LV 4 (by decide) gw_144 rfl rfl (by decide +kernel) (rfl) (rfl) (Nat.le_of_ble_eq_true rfl) d_AR_cancel_39 (fun H locs hw => ?_)
      obtain ⟨M5, eM5⟩ : ∃ zM : mm_M, zM = mm_up M4 (la j) (.inr (5, [.int (nI j), va_rf (lk la (F 0 j)), .int (F 1 j), va_rf (er u), .int ((F 2 j) - 1)])) := ⟨_, rfl⟩
      have hw : mm_w D vC _ _ (mm_up M4 (la j) (.inr (5, [.int (nI j), va_rf (lk la (F 0 j)), .int (F 1 j), va_rf (er u), .int ((F 2 j) - 1)]))) H _ := hw
      rw [← eM5] at hw
      have hX_5 : M5 x = some (.inr (0, [.ref lv, .int (I 1), .int (I 2), .ref sr, .ref gd, .int (I 3), .ref rs, .ref ss, .ref dr, .ref cs, .ref cg])) := by rw [eM5]; exact mm_uk hlj_4 hX_4 (by simp)
      have heu_5 : M5 (ea u) = some (.inr (6, [.int (nI u), .int (F 4 u), .int (F 6 u), va_rf (er u), .int (F 7 u)])) := by rw [eM5]; exact mm_uk hlj_4 heu_4 (by simp)
      have hlj_5 : M5 (la j) = some (.inr (5, [.int (nI j), va_rf (lk la (F 0 j)), .int (F 1 j), va_rf (er u), .int ((F 2 j) - 1)])) := by rw [eM5]; exact mm_us
      refine lv_aload_n S.1 S.2.1 d_AR_cancel_42 rfl (lv_at hl 1 rfl) ?_
      refine mm_get (C := R_LV) (T := T_LV) (N := 5) S hK.1 hw hlj_5 rfl in_LV 4 (by decide) gw_144 rfl rfl d_AR_cancel_43 ?_
      have hz9 : F 2 j - 1 = nI (z - 1) := by rw [hze, show (1 : Int32) = nI 1 from rfl, pk_sub (by omega)]
      have her : er u = tpf ea (va_up F 2 (upd (F 2) j (F 2 j - 1))) j := by
        have h9 := hch j hj1 (by omega) (z - 1) (by omega)
        rw [huc] at h9
        rw [h9]
        show _ = if cN (upd (F 2) j (F 2 j - 1) j) = 0 then none else some (ea (cN (F 3 (10 * j + (cN (upd (F 2) j (F 2 j - 1) j) - 1)))))
        rw [pk_us, hz9, cN_I rfl (by omega)]
      have eM9 : M5 = mm_up M (la j) (oL la ea (va_up F 2 (upd (F 2) j (F 2 j - 1))) j) := by
        rw [eM5, eM4, mm_uu, her]
        congr 1
        show _ = Sum.inr (5, [Value.int (nI j), va_rf (lk la (F 0 j)), .int (F 1 j), va_rf (tpf ea (va_up F 2 (upd (F 2) j (F 2 j - 1))) j), .int (upd (F 2) j (F 2 j - 1) j)])
        rw [pk_us]
      have hk9 : kt M M5 [5] := by rw [eM9]; exact kt_up hlj0 (by simp [tg])
      have hP9 : cP dA M5 x (upd I 0 0) (va_up F 2 (upd (F 2) j (F 2 j - 1))) st (nc + 1) := ⟨lv, sr, gd, rs, ss, dr, cs, cg, hk9 _ _ hX (by simp [tg]), by rw [eM9]; exact cL_set hcn hN hlv hfl hla hea hch hj1 hjn rfl rfl rfl rfl rfl rfl rfl rfl rfl (by rw [hz9, cN_I rfl (by omega), hzc]; omega), cG_k hk9 hG (by decide) rfl rfl rfl rfl, cS_k hk9 hS (by decide) rfl rfl, hk9 _ _ hR (by simp [tg]), hk9 _ _ hT (by simp [tg]), cD_k hk9 hD (by decide) rfl rfl, cC_k hk9 hCs (by decide) rfl, cE_k hk9 hE (by decide) (by omega) rfl⟩
      exact mm_reti S.1 S.2.1 hr hlocks hA hQ hw (cs_done hP9 (show sp_cancel k I F st = (F 2 j - 1, _, _, _) by simp only [sp_cancel, eq_true hc3, not_true_eq_false, not_false_eq_true, and_true, true_and, and_false, false_and, and_self, or_true, true_or, or_false, false_or, or_self, ↓reduceIte, en, eq_false hf0])) (Nat.le_of_ble_eq_true rfl) (Nat.le_of_ble_eq_true rfl) d_AR_cancel_46
  · refine W.eq (g2 := F0 m 5 ls [.null]) rfl ?_
    refine lv_astore_nN (lv' := [(2, .null), (0, .ref x), (1, .int k)]) S.1 S.2.1 d_AR_cancel_5 rfl hl (by decide) rfl (fun ls hl => ?_)
    refine lv_aload_nN S.1 S.2.1 d_AR_cancel_6 rfl (lv_at hl 0 rfl) ?_
    refine lv_ifnonnullN S.1 S.2.1 d_AR_cancel_7 ?_
    refine lv_bipush (v := (-2)) S.1 S.2.1 d_AR_cancel_10 (by decide) ?_
    exact mm_reti S.1 S.2.1 hr hlocks hA hQ hw (cs_same hC (show sp_cancel k I F st = ((-2), upd I 0 0, F, st) by simp only [sp_cancel, eq_false hc3, not_true_eq_false, not_false_eq_true, and_true, true_and, and_false, false_and, and_self, or_true, true_or, or_false, false_or, or_self, ↓reduceIte])) (Nat.le_of_ble_eq_true rfl) (Nat.le_of_ble_eq_true rfl) d_AR_cancel_12
end
section
theorem cN_pos {v : Int32} (h : 1 ≤ cN v) : v = nI (cN v) := by
  refine cl_nI (fun q => ?_)
  have h1 : v.toInt < 0 := by rw [Int32.lt_iff_toInt_lt, Int32.toInt_zero] at q; exact q
  have h2 : cN v = v.toInt.toNat := rfl
  omega
section LVN
variable {dA : Nat → ClassId} {M M' : mm_M} {I I' : sI} {F F' : sF} {lv : Nat} {fL : Nat → Option Nat} {la ea : Nat → Nat} {er : Nat → Option Nat} {n ne q : Nat} {k : Int32}
/-- a new level -/
theorem cL_new (hn : cN (I 1) = n) (hN : n < 100) (hne : cN (I 2) = ne) (hwf : lv_wf2 F n ne) (h0 : F 2 (n + 1) = 0) (a2 : ∀ i, i < cN (I 1) → fL i = some (la (i + 1))) (a3 : ∀ a, 1 ≤ a → a ≤ cN (I 1) → M (la a) = some (oL la ea F a)) (a4 : ∀ k, 1 ≤ k → k ≤ cN (I 2) → M (ea k) = some (oE er F k)) (a5 : ∀ a, 1 ≤ a → a ≤ cN (I 1) → chn ea er F a)
    (kk : kt M M' [0, 1100]) (hlv : M' lv = some (aQ (dA 3) 100 (va_up fL n (some q)))) (hq : M' q = some (.inr (5, [.int (nI (n + 1)), va_rf (lk la k), .int (F 1 (cN k) + 1), .null, .int 0]))) (hk : k = 0 ∨ ∃ j, k = nI j ∧ j ≤ n) (h1 : cN (I' 1) = n + 1) (h2 : I' 2 = I 2) (hF : F' = va_up (va_up F 0 (upd (F 0) (n + 1) k)) 1 (upd (F 1) (n + 1) (F 1 (cN k) + 1))) : cL dA M' lv I' F' := by
  subst hF
  refine ⟨va_up fL n (some q), va_up la (n + 1) q, ea, er, hlv, fun i hi => ?_, fun a p r => ?_, fun e p r => ?_, fun a p r => ?_⟩
  · rw [h1] at hi
    by_cases h : i = n
    · subst h; rw [va_up_self, va_up_self]
    · rw [va_up_ne _ _ h, va_up_ne _ _ (by omega)]
      exact a2 i (by omega)
  · rw [h1] at r
    by_cases h : a = n + 1
    · subst h
      rw [va_up_self, hq]
      have e2 : tpf ea (va_up (va_up F 0 (upd (F 0) (n + 1) k)) 1 (upd (F 1) (n + 1) (F 1 (cN k) + 1))) (n + 1) = none := by
        show (if cN (F 2 (n + 1)) = 0 then none else _) = none
        rw [h0]; rfl
      have e3 : lk (va_up la (n + 1) q) k = lk la k := by
        rcases hk with hk | ⟨j, hk, hj⟩
        · rw [hk]; rfl
        · unfold lk
          rw [hk, cN, nI_clamp (by omega), va_up_ne _ _ (by omega)]
      show _ = some (Sum.inr (5, [Value.int (nI (n + 1)), va_rf (lk (va_up la (n + 1) q) (upd (F 0) (n + 1) k (n + 1))), .int (upd (F 1) (n + 1) (F 1 (cN k) + 1) (n + 1)), va_rf (tpf ea (va_up (va_up F 0 (upd (F 0) (n + 1) k)) 1 (upd (F 1) (n + 1) (F 1 (cN k) + 1))) (n + 1)), .int (F 2 (n + 1))]))
      rw [pk_us, pk_us, e2, e3, h0]
      rfl
    · rw [va_up_ne _ _ h]
      have h9 := kk _ _ (a3 a p (by omega)) (by simp [tg])
      rw [h9]
      obtain ⟨w, hw1, hw2, -⟩ := hwf.2.1 a p (by omega)
      have e3 : lk (va_up la (n + 1) q) (F 0 a) = lk la (F 0 a) := by
        unfold lk
        rw [hw1, cN, nI_clamp (by omega), va_up_ne _ _ (by omega)]
      show some (Sum.inr (5, [Value.int (nI a), va_rf (lk la (F 0 a)), .int (F 1 a), va_rf (tpf ea F a), .int (F 2 a)])) = some (Sum.inr (5, [Value.int (nI a), va_rf (lk (va_up la (n + 1) q) (upd (F 0) (n + 1) k a)), .int (upd (F 1) (n + 1) (F 1 (cN k) + 1) a), va_rf (tpf ea F a), .int (F 2 a)]))
      rw [pk_un h, pk_un h, e3]
  · rw [h2] at r
    exact kk _ _ (a4 e p r) (by simp [tg])
  · rw [h1] at r
    by_cases h : a = n + 1
    · subst h
      intro t ht
      have : cN (F 2 (n + 1)) = 0 := by rw [h0]; rfl
      exact absurd ht (by show ¬ t < cN (F 2 (n + 1)); omega)
    · exact a5 a p (by omega)
/-- a new exit -/
theorem cL_ex {j zc : Nat} {d z : Int32} (hn : cN (I 1) = n) (hN : n ≤ 100) (hne : cN (I 2) = ne) (hNE : ne < 300) (hwf : lv_wf2 F n ne) (h7 : F 7 (ne + 1) = 0) (hlv : M lv = some (aQ (dA 3) 100 fL)) (a2 : ∀ i, i < cN (I 1) → fL i = some (la (i + 1))) (a3 : ∀ a, 1 ≤ a → a ≤ cN (I 1) → M (la a) = some (oL la ea F a)) (a4 : ∀ k, 1 ≤ k → k ≤ cN (I 2) → M (ea k) = some (oE er F k)) (a5 : ∀ a, 1 ≤ a → a ≤ cN (I 1) → chn ea er F a)
    (hj1 : 1 ≤ j) (hjn : j ≤ n) (hz : F 2 j = nI zc) (hz10 : zc < 10) (kk : kt M M' [0, 5]) (hq : M' q = some (.inr (6, [.int (nI (ne + 1)), .int d, .int z, va_rf (tpf ea F j), .int 0]))) (hj : M' (la j) = some (.inr (5, [.int (nI j), va_rf (lk la (F 0 j)), .int (F 1 j), .ref q, .int (F 2 j + 1)]))) (ho : ∀ a, 1 ≤ a → a ≤ n → a ≠ j → M' (la a) = some (oL la ea F a)) (h1 : I' 1 = I 1) (h2 : cN (I' 2) = ne + 1)
    (hF : F' = va_up (va_up (va_up (va_up F 4 (upd (F 4) (ne + 1) d)) 6 (upd (F 6) (ne + 1) z)) 3 (upd (F 3) (10 * j + zc) (nI (ne + 1)))) 2 (upd (F 2) j (F 2 j + 1))) : cL dA M' lv I' F' := by
  subst hF
  have hzj : cN (F 2 j) = zc := cN_I hz (by omega)
  have hz1 : cN (F 2 j + 1) = zc + 1 := by rw [hz, nI_1, cN, nI_clamp (by omega)]
  have rows : ∀ a, 1 ≤ a → a ≤ n → ∀ t, t < cN (F 2 a) → t < 10 ∧ 1 ≤ cN (F 3 (10 * a + t)) ∧ cN (F 3 (10 * a + t)) ≤ ne := by
    intro a p r t ht
    obtain ⟨y, h1, h2, h3⟩ := hwf.2.2 a p r
    rw [cN_I h1 (by omega)] at ht
    obtain ⟨e, h4, h5, h6⟩ := h3 t ht
    rw [cN_I h4 (by omega)]
    omega
  have f3 : ∀ a t, t < 10 → ¬ (a = j ∧ t = zc) → upd (F 3) (10 * j + zc) (nI (ne + 1)) (10 * a + t) = F 3 (10 * a + t) := fun a t ht h => pk_un (by omega)
  refine ⟨fL, la, va_up ea (ne + 1) q, va_up er (ne + 1) (tpf ea F j), kk _ _ hlv (by simp [tg]), by rw [h1]; exact a2, fun a p r => ?_, fun e p r => ?_, fun a p r => ?_⟩
  · rw [h1] at r
    by_cases h : a = j
    · subst h
      rw [hj]
      show _ = some (Sum.inr (5, [Value.int (nI a), va_rf (lk la (F 0 a)), .int (F 1 a), va_rf (if cN (upd (F 2) a (F 2 a + 1) a) = 0 then none else some (va_up ea (ne + 1) q (cN (upd (F 3) (10 * a + zc) (nI (ne + 1)) (10 * a + (cN (upd (F 2) a (F 2 a + 1) a) - 1)))))), .int (upd (F 2) a (F 2 a + 1) a)]))
      rw [pk_us, hz1, if_neg (by omega), Nat.add_sub_cancel, pk_us, cN_I rfl (by omega), va_up_self]
      rfl
    · rw [ho a p (by omega) h]
      have e2 : tpf (va_up ea (ne + 1) q) (va_up (va_up (va_up (va_up F 4 (upd (F 4) (ne + 1) d)) 6 (upd (F 6) (ne + 1) z)) 3 (upd (F 3) (10 * j + zc) (nI (ne + 1)))) 2 (upd (F 2) j (F 2 j + 1))) a = tpf ea F a := by
        show (if cN (upd (F 2) j (F 2 j + 1) a) = 0 then none else some (va_up ea (ne + 1) q (cN (upd (F 3) (10 * j + zc) (nI (ne + 1)) (10 * a + (cN (upd (F 2) j (F 2 j + 1) a) - 1)))))) = _
        rw [pk_un h]
        unfold tpf
        by_cases hz0 : cN (F 2 a) = 0
        · rw [if_pos hz0, if_pos hz0]
        · obtain ⟨r1, r2, r3⟩ := rows a p (by omega) (cN (F 2 a) - 1) (by omega)
          rw [if_neg hz0, if_neg hz0, f3 a _ r1 (by omega), va_up_ne _ _ (by omega)]
      show _ = some (Sum.inr (5, [Value.int (nI a), va_rf (lk la (F 0 a)), .int (F 1 a), va_rf (tpf (va_up ea (ne + 1) q) (va_up (va_up (va_up (va_up F 4 (upd (F 4) (ne + 1) d)) 6 (upd (F 6) (ne + 1) z)) 3 (upd (F 3) (10 * j + zc) (nI (ne + 1)))) 2 (upd (F 2) j (F 2 j + 1))) a), .int (upd (F 2) j (F 2 j + 1) a)]))
      rw [e2, pk_un h]
  · rw [h2] at r
    show M' (va_up ea (ne + 1) q e) = some (Sum.inr (6, [Value.int (nI e), .int (upd (F 4) (ne + 1) d e), .int (upd (F 6) (ne + 1) z e), va_rf (va_up er (ne + 1) (tpf ea F j) e), .int (F 7 e)]))
    by_cases h : e = ne + 1
    · subst h
      rw [va_up_self, pk_us, pk_us, va_up_self, h7]
      exact hq
    · rw [va_up_ne _ _ h, pk_un h, pk_un h, va_up_ne _ _ h]
      exact kk _ _ (a4 e p (by omega)) (by simp [tg])
  · rw [h1] at r
    intro t ht
    show va_up er (ne + 1) (tpf ea F j) (cN (upd (F 3) (10 * j + zc) (nI (ne + 1)) (10 * a + t))) = if t = 0 then none else some (va_up ea (ne + 1) q (cN (upd (F 3) (10 * j + zc) (nI (ne + 1)) (10 * a + (t - 1)))))
    have ht : t < cN (upd (F 2) j (F 2 j + 1) a) := ht
    have old : ∀ (hta : t < cN (F 2 a)), va_up er (ne + 1) (tpf ea F j) (cN (upd (F 3) (10 * j + zc) (nI (ne + 1)) (10 * a + t))) = if t = 0 then none else some (va_up ea (ne + 1) q (cN (upd (F 3) (10 * j + zc) (nI (ne + 1)) (10 * a + (t - 1))))) := by
      intro hta
      obtain ⟨r1, r2, r3⟩ := rows a p (by omega) t hta
      have hnot : ¬ (a = j ∧ t = zc) := fun hh => by rw [hh.1, hzj, hh.2] at hta; exact Nat.lt_irrefl _ hta
      rw [f3 a t r1 hnot, va_up_ne _ _ (by omega), a5 a p (by omega) t hta]
      by_cases h0 : t = 0
      · rw [if_pos h0, if_pos h0]
      · obtain ⟨s1, s2, s3⟩ := rows a p (by omega) (t - 1) (by omega)
        rw [if_neg h0, if_neg h0, f3 a (t - 1) s1 (fun hh => by rw [hh.1, hzj] at hta; omega), va_up_ne _ _ (by omega)]
    by_cases h : a = j
    · subst h
      rw [pk_us, hz1] at ht
      by_cases h9 : t = zc
      · subst h9
        rw [pk_us, cN_I rfl (by omega), va_up_self]
        unfold tpf
        rw [hzj]
        by_cases h0 : t = 0
        · rw [if_pos h0, if_pos h0]
        · obtain ⟨s1, s2, s3⟩ := rows a p (by omega) (t - 1) (by omega)
          rw [if_neg h0, if_neg h0, f3 a (t - 1) s1 (by omega), va_up_ne _ _ (by omega)]
      · exact old (by omega)
    · rw [pk_un h] at ht
      exact old ht
end LVN

theorem d_AR_level_0 : decode b_AR_level 0 = .ok (.aload_n 0, 1) := by decide +kernel
theorem d_AR_level_1 : decode b_AR_level 1 = .ok (.iload_n 1, 1) := by decide +kernel
theorem d_AR_level_2 : decode b_AR_level 2 = .ok (.invokevirtual 57, 3) := by decide +kernel
theorem d_AR_level_5 : decode b_AR_level 5 = .ok (.astore_n 2, 1) := by decide +kernel
theorem d_AR_level_6 : decode b_AR_level 6 = .ok (.iload_n 1, 1) := by decide +kernel
theorem d_AR_level_7 : decode b_AR_level 7 = .ok (.ifCond .eq 10, 3) := by decide +kernel
theorem d_AR_level_10 : decode b_AR_level 10 = .ok (.aload_n 2, 1) := by decide +kernel
theorem d_AR_level_11 : decode b_AR_level 11 = .ok (.ifnonnull 6, 3) := by decide +kernel
theorem d_AR_level_14 : decode b_AR_level 14 = .ok (.bipush (-2), 2) := by decide +kernel
theorem d_AR_level_16 : decode b_AR_level 16 = .ok (.ireturn, 1) := by decide +kernel
theorem d_AR_level_17 : decode b_AR_level 17 = .ok (.aload_n 2, 1) := by decide +kernel
theorem d_AR_level_18 : decode b_AR_level 18 = .ok (.ifnonnull 7, 3) := by decide +kernel
theorem d_AR_level_21 : decode b_AR_level 21 = .ok (.iconst 1, 1) := by decide +kernel
theorem d_AR_level_22 : decode b_AR_level 22 = .ok (.goto 9, 3) := by decide +kernel
theorem d_AR_level_25 : decode b_AR_level 25 = .ok (.aload_n 2, 1) := by decide +kernel
theorem d_AR_level_26 : decode b_AR_level 26 = .ok (.getfield 61, 3) := by decide +kernel
theorem d_AR_level_29 : decode b_AR_level 29 = .ok (.iconst 1, 1) := by decide +kernel
theorem d_AR_level_30 : decode b_AR_level 30 = .ok (.iadd, 1) := by decide +kernel
theorem d_AR_level_31 : decode b_AR_level 31 = .ok (.istore_n 3, 1) := by decide +kernel
theorem d_AR_level_32 : decode b_AR_level 32 = .ok (.aload_n 0, 1) := by decide +kernel
theorem d_AR_level_33 : decode b_AR_level 33 = .ok (.getfield 65, 3) := by decide +kernel
theorem d_AR_level_36 : decode b_AR_level 36 = .ok (.bipush 100, 2) := by decide +kernel
theorem d_AR_level_38 : decode b_AR_level 38 = .ok (.if_icmp .ge 9, 3) := by decide +kernel
theorem d_AR_level_41 : decode b_AR_level 41 = .ok (.iload_n 3, 1) := by decide +kernel
theorem d_AR_level_42 : decode b_AR_level 42 = .ok (.bipush 20, 2) := by decide +kernel
theorem d_AR_level_44 : decode b_AR_level 44 = .ok (.if_icmp .le 5, 3) := by decide +kernel
theorem d_AR_level_47 : decode b_AR_level 47 = .ok (.iconst (-1), 1) := by decide +kernel
theorem d_AR_level_48 : decode b_AR_level 48 = .ok (.ireturn, 1) := by decide +kernel
theorem d_AR_level_49 : decode b_AR_level 49 = .ok (.new 9, 3) := by decide +kernel
theorem d_AR_level_52 : decode b_AR_level 52 = .ok (.dup, 1) := by decide +kernel
theorem d_AR_level_53 : decode b_AR_level 53 = .ok (.aload_n 0, 1) := by decide +kernel
theorem d_AR_level_54 : decode b_AR_level 54 = .ok (.getfield 65, 3) := by decide +kernel
theorem d_AR_level_57 : decode b_AR_level 57 = .ok (.iconst 1, 1) := by decide +kernel
theorem d_AR_level_58 : decode b_AR_level 58 = .ok (.iadd, 1) := by decide +kernel
theorem d_AR_level_59 : decode b_AR_level 59 = .ok (.aload_n 2, 1) := by decide +kernel
theorem d_AR_level_60 : decode b_AR_level 60 = .ok (.iload_n 3, 1) := by decide +kernel
theorem d_AR_level_61 : decode b_AR_level 61 = .ok (.invokespecial 68, 3) := by decide +kernel
theorem d_AR_level_64 : decode b_AR_level 64 = .ok (.astore 4, 2) := by decide +kernel
theorem d_AR_level_66 : decode b_AR_level 66 = .ok (.aload_n 0, 1) := by decide +kernel
theorem d_AR_level_67 : decode b_AR_level 67 = .ok (.getfield 11, 3) := by decide +kernel
theorem d_AR_level_70 : decode b_AR_level 70 = .ok (.aload_n 0, 1) := by decide +kernel
theorem d_AR_level_71 : decode b_AR_level 71 = .ok (.getfield 65, 3) := by decide +kernel
theorem d_AR_level_74 : decode b_AR_level 74 = .ok (.aload 4, 2) := by decide +kernel
theorem d_AR_level_76 : decode b_AR_level 76 = .ok (.aastore, 1) := by decide +kernel
theorem d_AR_level_77 : decode b_AR_level 77 = .ok (.aload_n 0, 1) := by decide +kernel
theorem d_AR_level_78 : decode b_AR_level 78 = .ok (.dup, 1) := by decide +kernel
theorem d_AR_level_79 : decode b_AR_level 79 = .ok (.getfield 65, 3) := by decide +kernel
theorem d_AR_level_82 : decode b_AR_level 82 = .ok (.iconst 1, 1) := by decide +kernel
theorem d_AR_level_83 : decode b_AR_level 83 = .ok (.iadd, 1) := by decide +kernel
theorem d_AR_level_84 : decode b_AR_level 84 = .ok (.putfield 65, 3) := by decide +kernel
theorem d_AR_level_87 : decode b_AR_level 87 = .ok (.aload 4, 2) := by decide +kernel
theorem d_AR_level_89 : decode b_AR_level 89 = .ok (.getfield 71, 3) := by decide +kernel
theorem d_AR_level_92 : decode b_AR_level 92 = .ok (.ireturn, 1) := by decide +kernel
set_option maxHeartbeats 4000000 in
set_option maxRecDepth 100000 in
theorem c_AR_level (l : Launch) (D : va_G) (dA : Nat → ClassId) (M : mm_M) (x nc : Nat) (I : sI) (F : sF) (st : sT) (hC : cP dA M x I F st nc) (hwf : wf I F st) (k : Int32) : mm_Ci l y_AR_level w_AR_level ({ frames := 2, cells := 1, slots := 5, locals := 43 }) 1 5 D vC (tyL dA) [.ref x, .int k] M (cs_post dA x nc (sp_level k I F st)) := by
  intro sz
  refine mm_start (by decide) (Nat.le_of_ble_eq_true rfl) ?_
  intro p e s m below meth c A Q ls hA hQ S hr hlocks hin hK hw hl
  have hl : lv_has ls 5 [(0, .ref x), (1, .int k)] := hl
  obtain ⟨lv, sr, gd, rs, ss, dr, cs, cg, hX, hL, hG, hS, hR, hT, hD, hCs, hE⟩ := id hC
  have hX : M x = some (.inr (0, [.ref lv, .int (I 1), .int (I 2), .ref sr, .ref gd, .int (I 3), .ref rs, .ref ss, .ref dr, .ref cs, .ref cg])) := hX
  obtain ⟨fL, la, ea, er, hlv, hfl, hla, hea, hch⟩ := id hL
  obtain ⟨n, hn, hN⟩ := hwf.1
  have hcn : cN (I 1) = n := cN_I hn (by omega)
  refine lv_aload_n S.1 S.2.1 d_AR_level_0 rfl (lv_at hl 0 rfl) ?_
  refine lv_iload_n S.1 S.2.1 d_AR_level_1 rfl (lv_at hl 1 rfl) ?_
  refine mm_callq hw (mm_runV (a := x) (As := [.int k]) (rest := []) S hK hw (c_AR_levelOf l D dA _ x lv sr gd rs ss dr cs cg I fL k n hn hN hX hlv _) bv_AR_levelOf gw_126 hX rfl (⟨rfl, rfl, by decide, by decide, by decide, by decide⟩) hl.1 rfl rfl (Nat.le_of_ble_eq_true rfl) d_AR_level_2) (fun r1 M2 H locs hp hw => ?_)
  rw [hp.1] at hw
  rcases hp.2 with ⟨hc3, er9⟩ | ⟨hc3, rfl⟩
  · obtain ⟨j, ek, hj1, hjn, en⟩ := is_of hn (by omega) hc3
    have er9 : r1 = some (la j) := by rw [er9, cN, en, hfl (j - 1) (by omega)]; congr 2; omega
    subst er9
    refine W.eq (g2 := F0 m 5 ls [.ref (la j)]) rfl ?_
    have hlj : M (la j) = some (oL la ea F j) := hla j hj1 (by omega)
    have en : cN k = j := en
    have hk0 : ¬ k = 0 := by rw [ek]; exact nI_ne0 hj1 (by omega)
    obtain ⟨pa, -, -, hpd, hp20⟩ := hwf.2.2.2.2.2.1.2.1 j hj1 (by omega)
    obtain ⟨dj, hdj, hdj1, hdj2⟩ : ∃ dj, F 1 j = nI dj ∧ 1 ≤ dj ∧ dj ≤ 20 := ⟨cN (F 1 j), cN_pos (by omega), by omega, hp20⟩
    refine lv_astore_n (lv' := [(2, .ref (la j)), (0, .ref x), (1, .int k)]) S.1 S.2.1 d_AR_level_5 rfl hl (by decide) rfl (fun ls hl => ?_)
    refine lv_iload_n S.1 S.2.1 d_AR_level_6 rfl (lv_at hl 2 rfl) ?_
    refine lv_if_eq (tgt := 17) S.1 S.2.1 d_AR_level_7 (by decide) (fun c7 => absurd (by rw [c7]; decide) hc3.1) (fun c7 => ?_)
    refine lv_aload_n S.1 S.2.1 d_AR_level_10 rfl (lv_at hl 0 rfl) ?_
    refine lv_ifnonnull (tgt := 17) S.1 S.2.1 d_AR_level_11 (by decide) ?_
    refine lv_aload_n S.1 S.2.1 d_AR_level_17 rfl (lv_at hl 0 rfl) ?_
    refine lv_ifnonnull (tgt := 25) S.1 S.2.1 d_AR_level_18 (by decide) ?_
    refine lv_aload_n S.1 S.2.1 d_AR_level_25 rfl (lv_at hl 0 rfl) ?_
    refine mm_get (C := R_LV) (T := T_LV) (N := 5) S hK.1 hw hlj rfl in_LV 2 (by decide) gw_141 rfl rfl d_AR_level_26 ?_
    refine lv_iconst (v := 1) S.1 S.2.1 d_AR_level_29 (by decide) ?_
    refine lv_iadd S.1 S.2.1 d_AR_level_30 ?_
    refine lv_istore_n (lv' := [(3, .int ((F 1 j) + 1)), (2, .ref (la j)), (0, .ref x), (1, .int k)]) S.1 S.2.1 d_AR_level_31 rfl hl (by decide) rfl (fun ls hl => ?_)
    refine lv_aload_n S.1 S.2.1 d_AR_level_32 rfl (lv_at hl 2 rfl) ?_
    refine mm_get (C := R_AR) (T := T_AR) (N := 11) S hK.1 hw hX rfl in_AR 1 (by decide) gw_89 rfl rfl d_AR_level_33 ?_
    refine lv_bipush (v := 100) S.1 S.2.1 d_AR_level_36 (by decide) ?_
    refine lv_icmp_ge (tgt := 47) S.1 S.2.1 d_AR_level_38 (by decide) (fun c38 => ?_) (fun c38 => ?_)
    · refine lv_iconst (v := (-1)) S.1 S.2.1 d_AR_level_47 (by decide) ?_
      have h100 : I 1 = 100 := by
        rw [hn] at c38 ⊢
        have h9 := (nI_leI (a := 100) (by decide) (by omega)).mp c38
        rw [show n = 100 by omega]; rfl
      exact mm_reti S.1 S.2.1 hr hlocks hA hQ hw (cs_same hC (show sp_level k I F st = ((-1), upd I 0 0, F, st) by simp only [sp_level, eq_true hc3, eq_true h100, not_true_eq_false, not_false_eq_true, and_true, true_and, and_false, false_and, and_self, or_true, true_or, or_false, false_or, or_self, ↓reduceIte, eq_false hk0, en])) (Nat.le_of_ble_eq_true rfl) (Nat.le_of_ble_eq_true rfl) d_AR_level_48
    · refine lv_iload_n S.1 S.2.1 d_AR_level_41 rfl (lv_at hl 0 rfl) ?_
      refine lv_bipush (v := 20) S.1 S.2.1 d_AR_level_42 (by decide) ?_
      refine lv_icmp_le (tgt := 49) S.1 S.2.1 d_AR_level_44 (by decide) (fun c44 => ?_) (fun c44 => ?_)
      · have hn1 : n < 100 := by
          rcases Nat.lt_or_ge n 100 with q | q
          · exact q
          · exact absurd (by rw [hn]; exact nI_le (a := 100) q (by omega)) c38
        refine mm_new (C := R_LV) (T := T_LV) (N := 5) (ci := 5) (fs := [.int 0, .null, .int 0, .null, .int 0]) S hK.1 hw rfl in_LV t_LV k_LV gw_27 gw_130 gw_14 (fun j hj => by rcases (show j = 0 ∨ j = 1 ∨ j = 2 ∨ j = 3 ∨ j = 4 by omega) with rfl | rfl | rfl | rfl | rfl <;> rfl) (Nat.le_of_ble_eq_true rfl) (Nat.le_of_ble_eq_true rfl) d_AR_level_49 (fun q4 H hqq4 hw => ?_)
        obtain ⟨M5, eM5⟩ : ∃ zM : mm_M, zM = mm_up M q4 (.inr (5, [.int 0, .null, .int 0, .null, .int 0])) := ⟨_, rfl⟩
        have hw : mm_w D vC _ _ (mm_up M q4 (.inr (5, [.int 0, .null, .int 0, .null, .int 0]))) H _ := hw
        rw [← eM5] at hw
        have hX_5 : M5 x = some (.inr (0, [.ref lv, .int (I 1), .int (I 2), .ref sr, .ref gd, .int (I 3), .ref rs, .ref ss, .ref dr, .ref cs, .ref cg])) := by rw [eM5]; exact mm_fk hqq4 hX
        have hlv_5 : M5 lv = some (.inl (dA 3, 100, .inr (.inr (.inr (.inr (fL)))))) := by rw [eM5]; exact mm_fk hqq4 hlv
        have hlj_5 : M5 (la j) = some (.inr (5, [.int (nI j), va_rf (lk la (F 0 j)), .int (F 1 j), va_rf (tpf ea F j), .int (F 2 j)])) := by rw [eM5]; exact mm_fk hqq4 hlj
        have hq4_5 : M5 q4 = some (.inr (5, [.int 0, .null, .int 0, .null, .int 0])) := by rw [eM5]; exact mm_us
        have ne6 : (la j) ≠ q4 := fun h => by rw [h, hqq4] at hlj; cases hlj
        refine lv_dup S.1 S.2.1 d_AR_level_52 rfl ?_
        refine lv_aload_n S.1 S.2.1 d_AR_level_53 rfl (lv_at hl 2 rfl) ?_
        refine mm_get (C := R_AR) (T := T_AR) (N := 11) S hK.1 hw hX_5 rfl in_AR 1 (by decide) gw_89 rfl rfl d_AR_level_54 ?_
        refine lv_iconst (v := 1) S.1 S.2.1 d_AR_level_57 (by decide) ?_
        refine lv_iadd S.1 S.2.1 d_AR_level_58 ?_
        refine lv_aload_n S.1 S.2.1 d_AR_level_59 rfl (lv_at hl 1 rfl) ?_
        refine lv_iload_n S.1 S.2.1 d_AR_level_60 rfl (lv_at hl 0 rfl) ?_
        refine mm_callv hw (mm_runI (a := q4) (As := [.int ((I 1) + 1), .ref (la j), .int ((F 1 j) + 1)]) (rest := [.ref q4]) S hK hw (c_LV_init l D dA _ q4 (((I 1) + 1)) (((F 1 j) + 1)) (some (la j)) hq4_5 _) bi_LV_init gw_131 (⟨rfl, rfl, by decide, by decide, by decide, by decide⟩) hl.1 rfl rfl (Nat.le_of_ble_eq_true rfl) d_AR_level_61) (fun M8 H locs hp hw => ?_)
        have hX_9 : M8 x = some (.inr (0, [.ref lv, .int (I 1), .int (I 2), .ref sr, .ref gd, .int (I 3), .ref rs, .ref ss, .ref dr, .ref cs, .ref cg])) := by rw [hp]; exact mm_uk hq4_5 hX_5 (by simp)
        have hlv_10 : M8 lv = some (.inl (dA 3, 100, .inr (.inr (.inr (.inr (fL)))))) := by rw [hp]; exact mm_uk hq4_5 hlv_5 (by simp)
        have hlj_11 : M8 (la j) = some (.inr (5, [.int (nI j), va_rf (lk la (F 0 j)), .int (F 1 j), va_rf (tpf ea F j), .int (F 2 j)])) := by rw [hp]; exact (mm_un (ne6)).trans hlj_5
        have hq4_12 : M8 q4 = some (.inr (5, [.int ((I 1) + 1), .ref (la j), .int ((F 1 j) + 1), .null, .int 0])) := by rw [hp]; exact mm_us
        have eM8 := hp
        refine lv_astore (lv' := [(4, .ref q4), (3, .int ((F 1 j) + 1)), (2, .ref (la j)), (0, .ref x), (1, .int k)]) S.1 S.2.1 d_AR_level_64 hl (by decide) rfl (fun ls hl => ?_)
        refine lv_aload_n S.1 S.2.1 d_AR_level_66 rfl (lv_at hl 3 rfl) ?_
        refine mm_get (C := R_AR) (T := T_AR) (N := 11) S hK.1 hw hX_9 rfl in_AR 0 (by decide) gw_88 rfl rfl d_AR_level_67 ?_
        refine lv_aload_n S.1 S.2.1 d_AR_level_70 rfl (lv_at hl 3 rfl) ?_
        refine mm_get (C := R_AR) (T := T_AR) (N := 11) S hK.1 hw hX_9 rfl in_AR 1 (by decide) gw_89 rfl rfl d_AR_level_71 ?_
        refine lv_aload S.1 S.2.1 d_AR_level_74 (lv_at hl 0 rfl) ?_
        refine mn_astq (j := n) (r := (R_LV, T_LV, 5)) S hK.1 hw 3 5 hlv_10 rfl hq4_12 rfl (hn) (by omega) (by decide) d_AR_level_76 (fun H locs hw => ?_)
        obtain ⟨M13, eM13⟩ : ∃ zM : mm_M, zM = mm_up M8 lv (.inl (dA 3, 100, .inr (.inr (.inr (.inr (va_up (fL) (n) (some q4))))))) := ⟨_, rfl⟩
        have hw : mm_w D vC _ _ (mm_up M8 lv (.inl (dA 3, 100, .inr (.inr (.inr (.inr (va_up (fL) (n) (some q4)))))))) H _ := hw
        rw [← eM13] at hw
        have hX_13 : M13 x = some (.inr (0, [.ref lv, .int (I 1), .int (I 2), .ref sr, .ref gd, .int (I 3), .ref rs, .ref ss, .ref dr, .ref cs, .ref cg])) := by rw [eM13]; exact mm_uk hlv_10 hX_9 (by simp)
        have hlj_13 : M13 (la j) = some (.inr (5, [.int (nI j), va_rf (lk la (F 0 j)), .int (F 1 j), va_rf (tpf ea F j), .int (F 2 j)])) := by rw [eM13]; exact mm_uk hlv_10 hlj_11 (by simp)
        have hq4_13 : M13 q4 = some (.inr (5, [.int ((I 1) + 1), .ref (la j), .int ((F 1 j) + 1), .null, .int 0])) := by rw [eM13]; exact mm_uk hlv_10 hq4_12 (by simp)
        have hlv_13 : M13 lv = some (.inl (dA 3, 100, .inr (.inr (.inr (.inr (va_up (fL) (n) (some q4))))))) := by rw [eM13]; exact mm_us
        refine lv_aload_n S.1 S.2.1 d_AR_level_77 rfl (lv_at hl 3 rfl) ?_
        refine lv_dup S.1 S.2.1 d_AR_level_78 rfl ?_
        refine mm_get (C := R_AR) (T := T_AR) (N := 11) S hK.1 hw hX_13 rfl in_AR 1 (by decide) gw_89 rfl rfl d_AR_level_79 ?_
        refine lv_iconst (v := 1) S.1 S.2.1 d_AR_level_82 (by decide) ?_
        refine lv_iadd S.1 S.2.1 d_AR_level_83 ?_
        refine mm_put (C := R_AR) (T := T_AR) (N := 11) (ty := .int) (v := .int ((I 1) + 1)) S hK.1 hw hX_13 rfl in_AR t_AR k_AR n_AR 1 (by decide) gw_89 rfl rfl (by decide +kernel) (rfl) (rfl) (Nat.le_of_ble_eq_true rfl) d_AR_level_84 (fun H locs hw => ?_)
        obtain ⟨M14, eM14⟩ : ∃ zM : mm_M, zM = mm_up M13 x (.inr (0, [.ref lv, .int ((I 1) + 1), .int (I 2), .ref sr, .ref gd, .int (I 3), .ref rs, .ref ss, .ref dr, .ref cs, .ref cg])) := ⟨_, rfl⟩
        have hw : mm_w D vC _ _ (mm_up M13 x (.inr (0, [.ref lv, .int ((I 1) + 1), .int (I 2), .ref sr, .ref gd, .int (I 3), .ref rs, .ref ss, .ref dr, .ref cs, .ref cg]))) H _ := hw
        rw [← eM14] at hw
        have hlv_14 : M14 lv = some (.inl (dA 3, 100, .inr (.inr (.inr (.inr (va_up (fL) (n) (some q4))))))) := by rw [eM14]; exact mm_uk hX_13 hlv_13 (by simp)
        have hlj_14 : M14 (la j) = some (.inr (5, [.int (nI j), va_rf (lk la (F 0 j)), .int (F 1 j), va_rf (tpf ea F j), .int (F 2 j)])) := by rw [eM14]; exact mm_uk hX_13 hlj_13 (by simp)
        have hq4_14 : M14 q4 = some (.inr (5, [.int ((I 1) + 1), .ref (la j), .int ((F 1 j) + 1), .null, .int 0])) := by rw [eM14]; exact mm_uk hX_13 hq4_13 (by simp)
        have hX_14 : M14 x = some (.inr (0, [.ref lv, .int ((I 1) + 1), .int (I 2), .ref sr, .ref gd, .int (I 3), .ref rs, .ref ss, .ref dr, .ref cs, .ref cg])) := by rw [eM14]; exact mm_us
        refine lv_aload S.1 S.2.1 d_AR_level_87 (lv_at hl 0 rfl) ?_
        refine mm_get (C := R_LV) (T := T_LV) (N := 5) S hK.1 hw hq4_14 rfl in_LV 0 (by decide) gw_136 rfl rfl d_AR_level_89 ?_
        have hn100 : ¬ I 1 = 100 := fun h => c38 (by rw [h]; decide)
        have hd20 : ¬ F 1 (cN k) = 20 := by
          rw [en]
          intro h
          rw [h] at c44
          exact absurd c44 (by decide)
        have hi1 : I 1 + 1 = nI (n + 1) := by rw [hn, nI_1]
        have hci : cN (I 1 + 1) = n + 1 := cN_I hi1 (by omega)
        have hk9 : kt M M14 [0, 1100] := by
          have e9 : M8 = mm_up M q4 (.inr (5, [.int ((I 1) + 1), .ref (la j), .int ((F 1 j) + 1), .null, .int 0])) := by rw [eM8, eM5]; exact mm_uu
          rw [eM14, eM13, e9]
          exact kt_tr (kt_nw hqq4) (kt_tr (kt_up (e0 := aQ (dA 3) 100 fL) (mm_fk hqq4 hlv) (by simp [tg])) (kt_up (mm_uk (mm_fk hqq4 hlv) (mm_fk hqq4 hX) (by simp)) (by simp [tg])))
        have hlk : lk la k = some (la j) := by rw [lk, if_neg hk0, en]
        have hqf : M14 q4 = some (.inr (5, [.int (nI (n + 1)), va_rf (lk la k), .int (F 1 (cN k) + 1), .null, .int 0])) := by
          rw [hlk, ← hi1, en]
          exact hq4_14
        have hP9 : cP dA M14 x (upd (upd I 0 0) 1 (I 1 + 1)) (va_up (va_up F 0 (upd (F 0) (cN (I 1 + 1)) k)) 1 (upd (F 1) (cN (I 1 + 1)) (F 1 (cN k) + 1))) st (nc + 1) := ⟨lv, sr, gd, rs, ss, dr, cs, cg, hX_14, cL_new (n := n) (ne := cN (I 2)) (q := q4) (k := k) hcn (by omega) rfl (by rw [← hcn]; exact hwf.2.2.2.2.2.1) (hwf.2.2.2.2.2.2.1 (n + 1) (by omega)) hfl hla hea hch hk9 hlv_14 hqf (Or.inr ⟨j, ek, hjn⟩) hci rfl (by rw [hci]), cG_k hk9 hG (by decide) rfl rfl rfl rfl, cS_k hk9 hS (by decide) rfl rfl, hk9 _ _ hR (by simp [tg]), hk9 _ _ hT (by simp [tg]), cD_k hk9 hD (by decide) rfl rfl, cC_k hk9 hCs (by decide) rfl, cE_k hk9 hE (by decide) (by omega) rfl⟩
        exact mm_reti S.1 S.2.1 hr hlocks hA hQ hw (cs_done hP9 (show sp_level k I F st = (I 1 + 1, _, _, _) by simp only [sp_level, eq_true hc3, not_true_eq_false, not_false_eq_true, and_true, true_and, and_false, false_and, and_self, or_true, true_or, or_false, false_or, or_self, ↓reduceIte, eq_false hn100, eq_false hd20, eq_false hk0])) (Nat.le_of_ble_eq_true rfl) (Nat.le_of_ble_eq_true rfl) d_AR_level_92
      · refine lv_iconst (v := (-1)) S.1 S.2.1 d_AR_level_47 (by decide) ?_
        have h20 : F 1 j = 20 := by
          rw [hdj] at c44 ⊢
          rcases Nat.lt_or_ge dj 20 with q | q
          · exact absurd (by rw [nI_1]; exact nI_le (b := 20) (by omega) (by decide)) c44
          · rw [show dj = 20 by omega]; rfl
        exact mm_reti S.1 S.2.1 hr hlocks hA hQ hw (cs_same hC (show sp_level k I F st = ((-1), upd I 0 0, F, st) by simp only [sp_level, eq_true hc3, eq_true h20, not_true_eq_false, not_false_eq_true, and_true, true_and, and_false, false_and, and_self, or_true, true_or, or_false, false_or, or_self, ↓reduceIte, eq_false hk0, en])) (Nat.le_of_ble_eq_true rfl) (Nat.le_of_ble_eq_true rfl) d_AR_level_48
  · refine W.eq (g2 := F0 m 5 ls [.null]) rfl ?_
    refine lv_astore_nN (lv' := [(2, .null), (0, .ref x), (1, .int k)]) S.1 S.2.1 d_AR_level_5 rfl hl (by decide) rfl (fun ls hl => ?_)
    refine lv_iload_n S.1 S.2.1 d_AR_level_6 rfl (lv_at hl 2 rfl) ?_
    refine lv_if_eq (tgt := 17) S.1 S.2.1 d_AR_level_7 (by decide) (fun c7 => ?_) (fun c7 => ?_)
    · refine lv_aload_nN S.1 S.2.1 d_AR_level_17 rfl (lv_at hl 0 rfl) ?_
      refine lv_ifnonnullN S.1 S.2.1 d_AR_level_18 ?_
      refine lv_iconst (v := 1) S.1 S.2.1 d_AR_level_21 (by decide) ?_
      refine lv_goto (tgt := 31) S.1 S.2.1 d_AR_level_22 (by decide) ?_
      refine lv_istore_n (lv' := [(3, .int 1), (2, .null), (0, .ref x), (1, .int k)]) S.1 S.2.1 d_AR_level_31 rfl hl (by decide) rfl (fun ls hl => ?_)
      refine lv_aload_n S.1 S.2.1 d_AR_level_32 rfl (lv_at hl 2 rfl) ?_
      refine mm_get (C := R_AR) (T := T_AR) (N := 11) S hK.1 hw hX rfl in_AR 1 (by decide) gw_89 rfl rfl d_AR_level_33 ?_
      refine lv_bipush (v := 100) S.1 S.2.1 d_AR_level_36 (by decide) ?_
      refine lv_icmp_ge (tgt := 47) S.1 S.2.1 d_AR_level_38 (by decide) (fun c38 => ?_) (fun c38 => ?_)
      · refine lv_iconst (v := (-1)) S.1 S.2.1 d_AR_level_47 (by decide) ?_
        have h100 : I 1 = 100 := by
          rw [hn] at c38 ⊢
          have h9 := (nI_leI (a := 100) (by decide) (by omega)).mp c38
          rw [show n = 100 by omega]; rfl
        exact mm_reti S.1 S.2.1 hr hlocks hA hQ hw (cs_same hC (show sp_level k I F st = ((-1), upd I 0 0, F, st) by simp only [sp_level, eq_false hc3, eq_true h100, not_true_eq_false, not_false_eq_true, and_true, true_and, and_false, false_and, and_self, or_true, true_or, or_false, false_or, or_self, ↓reduceIte, eq_true c7])) (Nat.le_of_ble_eq_true rfl) (Nat.le_of_ble_eq_true rfl) d_AR_level_48
      · refine lv_iload_n S.1 S.2.1 d_AR_level_41 rfl (lv_at hl 0 rfl) ?_
        refine lv_bipush (v := 20) S.1 S.2.1 d_AR_level_42 (by decide) ?_
        refine lv_icmp_le (tgt := 49) S.1 S.2.1 d_AR_level_44 (by decide) (fun c44 => ?_) (fun c44 => absurd c44 (by decide))
        have hn1 : n < 100 := by
          rcases Nat.lt_or_ge n 100 with q | q
          · exact q
          · exact absurd (by rw [hn]; exact nI_le (a := 100) q (by omega)) c38
        refine mm_new (C := R_LV) (T := T_LV) (N := 5) (ci := 5) (fs := [.int 0, .null, .int 0, .null, .int 0]) S hK.1 hw rfl in_LV t_LV k_LV gw_27 gw_130 gw_14 (fun j hj => by rcases (show j = 0 ∨ j = 1 ∨ j = 2 ∨ j = 3 ∨ j = 4 by omega) with rfl | rfl | rfl | rfl | rfl <;> rfl) (Nat.le_of_ble_eq_true rfl) (Nat.le_of_ble_eq_true rfl) d_AR_level_49 (fun q15 H hqq15 hw => ?_)
        obtain ⟨M16, eM16⟩ : ∃ zM : mm_M, zM = mm_up M q15 (.inr (5, [.int 0, .null, .int 0, .null, .int 0])) := ⟨_, rfl⟩
        have hw : mm_w D vC _ _ (mm_up M q15 (.inr (5, [.int 0, .null, .int 0, .null, .int 0]))) H _ := hw
        rw [← eM16] at hw
        have hX_16 : M16 x = some (.inr (0, [.ref lv, .int (I 1), .int (I 2), .ref sr, .ref gd, .int (I 3), .ref rs, .ref ss, .ref dr, .ref cs, .ref cg])) := by rw [eM16]; exact mm_fk hqq15 hX
        have hlv_16 : M16 lv = some (.inl (dA 3, 100, .inr (.inr (.inr (.inr (fL)))))) := by rw [eM16]; exact mm_fk hqq15 hlv
        have hq15_16 : M16 q15 = some (.inr (5, [.int 0, .null, .int 0, .null, .int 0])) := by rw [eM16]; exact mm_us
        refine lv_dup S.1 S.2.1 d_AR_level_52 rfl ?_
        refine lv_aload_n S.1 S.2.1 d_AR_level_53 rfl (lv_at hl 2 rfl) ?_
        refine mm_get (C := R_AR) (T := T_AR) (N := 11) S hK.1 hw hX_16 rfl in_AR 1 (by decide) gw_89 rfl rfl d_AR_level_54 ?_
        refine lv_iconst (v := 1) S.1 S.2.1 d_AR_level_57 (by decide) ?_
        refine lv_iadd S.1 S.2.1 d_AR_level_58 ?_
        refine lv_aload_nN S.1 S.2.1 d_AR_level_59 rfl (lv_at hl 1 rfl) ?_
        refine lv_iload_n S.1 S.2.1 d_AR_level_60 rfl (lv_at hl 0 rfl) ?_
        refine mm_callv hw (mm_runI (a := q15) (As := [.int ((I 1) + 1), .null, .int 1]) (rest := [.ref q15]) S hK hw (c_LV_init l D dA _ q15 (((I 1) + 1)) (1) none hq15_16 _) bi_LV_init gw_131 (⟨rfl, rfl, by decide, by decide, by decide, by decide⟩) hl.1 rfl rfl (Nat.le_of_ble_eq_true rfl) d_AR_level_61) (fun M18 H locs hp hw => ?_)
        have hX_19 : M18 x = some (.inr (0, [.ref lv, .int (I 1), .int (I 2), .ref sr, .ref gd, .int (I 3), .ref rs, .ref ss, .ref dr, .ref cs, .ref cg])) := by rw [hp]; exact mm_uk hq15_16 hX_16 (by simp)
        have hlv_20 : M18 lv = some (.inl (dA 3, 100, .inr (.inr (.inr (.inr (fL)))))) := by rw [hp]; exact mm_uk hq15_16 hlv_16 (by simp)
        have hq15_21 : M18 q15 = some (.inr (5, [.int ((I 1) + 1), .null, .int 1, .null, .int 0])) := by rw [hp]; exact mm_us
        have eM18 := hp
        refine lv_astore (lv' := [(4, .ref q15), (3, .int 1), (2, .null), (0, .ref x), (1, .int k)]) S.1 S.2.1 d_AR_level_64 hl (by decide) rfl (fun ls hl => ?_)
        refine lv_aload_n S.1 S.2.1 d_AR_level_66 rfl (lv_at hl 3 rfl) ?_
        refine mm_get (C := R_AR) (T := T_AR) (N := 11) S hK.1 hw hX_19 rfl in_AR 0 (by decide) gw_88 rfl rfl d_AR_level_67 ?_
        refine lv_aload_n S.1 S.2.1 d_AR_level_70 rfl (lv_at hl 3 rfl) ?_
        refine mm_get (C := R_AR) (T := T_AR) (N := 11) S hK.1 hw hX_19 rfl in_AR 1 (by decide) gw_89 rfl rfl d_AR_level_71 ?_
        refine lv_aload S.1 S.2.1 d_AR_level_74 (lv_at hl 0 rfl) ?_
        refine mn_astq (j := n) (r := (R_LV, T_LV, 5)) S hK.1 hw 3 5 hlv_20 rfl hq15_21 rfl (hn) (by omega) (by decide) d_AR_level_76 (fun H locs hw => ?_)
        obtain ⟨M22, eM22⟩ : ∃ zM : mm_M, zM = mm_up M18 lv (.inl (dA 3, 100, .inr (.inr (.inr (.inr (va_up (fL) (n) (some q15))))))) := ⟨_, rfl⟩
        have hw : mm_w D vC _ _ (mm_up M18 lv (.inl (dA 3, 100, .inr (.inr (.inr (.inr (va_up (fL) (n) (some q15)))))))) H _ := hw
        rw [← eM22] at hw
        have hX_22 : M22 x = some (.inr (0, [.ref lv, .int (I 1), .int (I 2), .ref sr, .ref gd, .int (I 3), .ref rs, .ref ss, .ref dr, .ref cs, .ref cg])) := by rw [eM22]; exact mm_uk hlv_20 hX_19 (by simp)
        have hq15_22 : M22 q15 = some (.inr (5, [.int ((I 1) + 1), .null, .int 1, .null, .int 0])) := by rw [eM22]; exact mm_uk hlv_20 hq15_21 (by simp)
        have hlv_22 : M22 lv = some (.inl (dA 3, 100, .inr (.inr (.inr (.inr (va_up (fL) (n) (some q15))))))) := by rw [eM22]; exact mm_us
        refine lv_aload_n S.1 S.2.1 d_AR_level_77 rfl (lv_at hl 3 rfl) ?_
        refine lv_dup S.1 S.2.1 d_AR_level_78 rfl ?_
        refine mm_get (C := R_AR) (T := T_AR) (N := 11) S hK.1 hw hX_22 rfl in_AR 1 (by decide) gw_89 rfl rfl d_AR_level_79 ?_
        refine lv_iconst (v := 1) S.1 S.2.1 d_AR_level_82 (by decide) ?_
        refine lv_iadd S.1 S.2.1 d_AR_level_83 ?_
        refine mm_put (C := R_AR) (T := T_AR) (N := 11) (ty := .int) (v := .int ((I 1) + 1)) S hK.1 hw hX_22 rfl in_AR t_AR k_AR n_AR 1 (by decide) gw_89 rfl rfl (by decide +kernel) (rfl) (rfl) (Nat.le_of_ble_eq_true rfl) d_AR_level_84 (fun H locs hw => ?_)
        obtain ⟨M23, eM23⟩ : ∃ zM : mm_M, zM = mm_up M22 x (.inr (0, [.ref lv, .int ((I 1) + 1), .int (I 2), .ref sr, .ref gd, .int (I 3), .ref rs, .ref ss, .ref dr, .ref cs, .ref cg])) := ⟨_, rfl⟩
        have hw : mm_w D vC _ _ (mm_up M22 x (.inr (0, [.ref lv, .int ((I 1) + 1), .int (I 2), .ref sr, .ref gd, .int (I 3), .ref rs, .ref ss, .ref dr, .ref cs, .ref cg]))) H _ := hw
        rw [← eM23] at hw
        have hlv_23 : M23 lv = some (.inl (dA 3, 100, .inr (.inr (.inr (.inr (va_up (fL) (n) (some q15))))))) := by rw [eM23]; exact mm_uk hX_22 hlv_22 (by simp)
        have hq15_23 : M23 q15 = some (.inr (5, [.int ((I 1) + 1), .null, .int 1, .null, .int 0])) := by rw [eM23]; exact mm_uk hX_22 hq15_22 (by simp)
        have hX_23 : M23 x = some (.inr (0, [.ref lv, .int ((I 1) + 1), .int (I 2), .ref sr, .ref gd, .int (I 3), .ref rs, .ref ss, .ref dr, .ref cs, .ref cg])) := by rw [eM23]; exact mm_us
        refine lv_aload S.1 S.2.1 d_AR_level_87 (lv_at hl 0 rfl) ?_
        refine mm_get (C := R_LV) (T := T_LV) (N := 5) S hK.1 hw hq15_23 rfl in_LV 0 (by decide) gw_136 rfl rfl d_AR_level_89 ?_
        have hn100 : ¬ I 1 = 100 := fun h => c38 (by rw [h]; decide)
        have hd20 : ¬ F 1 (cN k) = 20 := by
          rw [c7, show cN 0 = 0 from rfl, hwf.2.2.2.2.2.1.1.2]
          decide
        have hi1 : I 1 + 1 = nI (n + 1) := by rw [hn, nI_1]
        have hci : cN (I 1 + 1) = n + 1 := cN_I hi1 (by omega)
        have hk9 : kt M M23 [0, 1100] := by
          have e9 : M18 = mm_up M q15 (.inr (5, [.int ((I 1) + 1), .null, .int 1, .null, .int 0])) := by rw [eM18, eM16]; exact mm_uu
          rw [eM23, eM22, e9]
          exact kt_tr (kt_nw hqq15) (kt_tr (kt_up (e0 := aQ (dA 3) 100 fL) (mm_fk hqq15 hlv) (by simp [tg])) (kt_up (mm_uk (mm_fk hqq15 hlv) (mm_fk hqq15 hX) (by simp)) (by simp [tg])))
        have hlk : lk la k = none := by rw [lk, if_pos c7]
        have hqf : M23 q15 = some (.inr (5, [.int (nI (n + 1)), va_rf (lk la k), .int (F 1 (cN k) + 1), .null, .int 0])) := by
          rw [hlk, ← hi1, c7, show cN 0 = 0 from rfl, hwf.2.2.2.2.2.1.1.2]
          exact hq15_23
        have hP9 : cP dA M23 x (upd (upd I 0 0) 1 (I 1 + 1)) (va_up (va_up F 0 (upd (F 0) (cN (I 1 + 1)) k)) 1 (upd (F 1) (cN (I 1 + 1)) (F 1 (cN k) + 1))) st (nc + 1) := ⟨lv, sr, gd, rs, ss, dr, cs, cg, hX_23, cL_new (n := n) (ne := cN (I 2)) (q := q15) (k := k) hcn (by omega) rfl (by rw [← hcn]; exact hwf.2.2.2.2.2.1) (hwf.2.2.2.2.2.2.1 (n + 1) (by omega)) hfl hla hea hch hk9 hlv_23 hqf (Or.inl c7) hci rfl (by rw [hci]), cG_k hk9 hG (by decide) rfl rfl rfl rfl, cS_k hk9 hS (by decide) rfl rfl, hk9 _ _ hR (by simp [tg]), hk9 _ _ hT (by simp [tg]), cD_k hk9 hD (by decide) rfl rfl, cC_k hk9 hCs (by decide) rfl, cE_k hk9 hE (by decide) (by omega) rfl⟩
        exact mm_reti S.1 S.2.1 hr hlocks hA hQ hw (cs_done hP9 (show sp_level k I F st = (I 1 + 1, _, _, _) by simp only [sp_level, eq_false hc3, not_true_eq_false, not_false_eq_true, and_true, true_and, and_false, false_and, and_self, or_true, true_or, or_false, false_or, or_self, ↓reduceIte, eq_false hn100, eq_false hd20, eq_true c7])) (Nat.le_of_ble_eq_true rfl) (Nat.le_of_ble_eq_true rfl) d_AR_level_92
    · refine lv_aload_nN S.1 S.2.1 d_AR_level_10 rfl (lv_at hl 0 rfl) ?_
      refine lv_ifnonnullN S.1 S.2.1 d_AR_level_11 ?_
      refine lv_bipush (v := (-2)) S.1 S.2.1 d_AR_level_14 (by decide) ?_
      exact mm_reti S.1 S.2.1 hr hlocks hA hQ hw (cs_same hC (show sp_level k I F st = ((-2), upd I 0 0, F, st) by simp only [sp_level, eq_false hc3, not_true_eq_false, not_false_eq_true, and_true, true_and, and_false, false_and, and_self, or_true, true_or, or_false, false_or, or_self, ↓reduceIte, eq_false c7])) (Nat.le_of_ble_eq_true rfl) (Nat.le_of_ble_eq_true rfl) d_AR_level_16
theorem d_AR_exit_0 : decode b_AR_exit 0 = .ok (.aload_n 0, 1) := by decide +kernel
theorem d_AR_exit_1 : decode b_AR_exit 1 = .ok (.iload_n 1, 1) := by decide +kernel
theorem d_AR_exit_2 : decode b_AR_exit 2 = .ok (.invokevirtual 57, 3) := by decide +kernel
theorem d_AR_exit_5 : decode b_AR_exit 5 = .ok (.astore 4, 2) := by decide +kernel
theorem d_AR_exit_7 : decode b_AR_exit 7 = .ok (.aload 4, 2) := by decide +kernel
theorem d_AR_exit_9 : decode b_AR_exit 9 = .ok (.ifnonnull 6, 3) := by decide +kernel
theorem d_AR_exit_12 : decode b_AR_exit 12 = .ok (.bipush (-2), 2) := by decide +kernel
theorem d_AR_exit_14 : decode b_AR_exit 14 = .ok (.ireturn, 1) := by decide +kernel
theorem d_AR_exit_15 : decode b_AR_exit 15 = .ok (.iload_n 2, 1) := by decide +kernel
theorem d_AR_exit_16 : decode b_AR_exit 16 = .ok (.ifCond .lt 8, 3) := by decide +kernel
theorem d_AR_exit_19 : decode b_AR_exit 19 = .ok (.iload_n 2, 1) := by decide +kernel
theorem d_AR_exit_20 : decode b_AR_exit 20 = .ok (.iconst 3, 1) := by decide +kernel
theorem d_AR_exit_21 : decode b_AR_exit 21 = .ok (.if_icmp .le 6, 3) := by decide +kernel
theorem d_AR_exit_24 : decode b_AR_exit 24 = .ok (.bipush (-4), 2) := by decide +kernel
theorem d_AR_exit_26 : decode b_AR_exit 26 = .ok (.ireturn, 1) := by decide +kernel
theorem d_AR_exit_27 : decode b_AR_exit 27 = .ok (.aload 4, 2) := by decide +kernel
theorem d_AR_exit_29 : decode b_AR_exit 29 = .ok (.getfield 74, 3) := by decide +kernel
theorem d_AR_exit_32 : decode b_AR_exit 32 = .ok (.bipush 10, 2) := by decide +kernel
theorem d_AR_exit_34 : decode b_AR_exit 34 = .ok (.if_icmp .ge 13, 3) := by decide +kernel
theorem d_AR_exit_37 : decode b_AR_exit 37 = .ok (.aload_n 0, 1) := by decide +kernel
theorem d_AR_exit_38 : decode b_AR_exit 38 = .ok (.getfield 77, 3) := by decide +kernel
theorem d_AR_exit_41 : decode b_AR_exit 41 = .ok (.sipush 300, 3) := by decide +kernel
theorem d_AR_exit_44 : decode b_AR_exit 44 = .ok (.if_icmp .lt 5, 3) := by decide +kernel
theorem d_AR_exit_47 : decode b_AR_exit 47 = .ok (.iconst (-1), 1) := by decide +kernel
theorem d_AR_exit_48 : decode b_AR_exit 48 = .ok (.ireturn, 1) := by decide +kernel
theorem d_AR_exit_49 : decode b_AR_exit 49 = .ok (.aload_n 0, 1) := by decide +kernel
theorem d_AR_exit_50 : decode b_AR_exit 50 = .ok (.dup, 1) := by decide +kernel
theorem d_AR_exit_51 : decode b_AR_exit 51 = .ok (.getfield 77, 3) := by decide +kernel
theorem d_AR_exit_54 : decode b_AR_exit 54 = .ok (.iconst 1, 1) := by decide +kernel
theorem d_AR_exit_55 : decode b_AR_exit 55 = .ok (.iadd, 1) := by decide +kernel
theorem d_AR_exit_56 : decode b_AR_exit 56 = .ok (.putfield 77, 3) := by decide +kernel
theorem d_AR_exit_59 : decode b_AR_exit 59 = .ok (.aload 4, 2) := by decide +kernel
theorem d_AR_exit_61 : decode b_AR_exit 61 = .ok (.new 80, 3) := by decide +kernel
theorem d_AR_exit_64 : decode b_AR_exit 64 = .ok (.dup, 1) := by decide +kernel
theorem d_AR_exit_65 : decode b_AR_exit 65 = .ok (.aload_n 0, 1) := by decide +kernel
theorem d_AR_exit_66 : decode b_AR_exit 66 = .ok (.getfield 77, 3) := by decide +kernel
theorem d_AR_exit_69 : decode b_AR_exit 69 = .ok (.iload_n 2, 1) := by decide +kernel
theorem d_AR_exit_70 : decode b_AR_exit 70 = .ok (.iload_n 3, 1) := by decide +kernel
theorem d_AR_exit_71 : decode b_AR_exit 71 = .ok (.aload 4, 2) := by decide +kernel
theorem d_AR_exit_73 : decode b_AR_exit 73 = .ok (.getfield 82, 3) := by decide +kernel
theorem d_AR_exit_76 : decode b_AR_exit 76 = .ok (.invokespecial 86, 3) := by decide +kernel
theorem d_AR_exit_79 : decode b_AR_exit 79 = .ok (.putfield 82, 3) := by decide +kernel
theorem d_AR_exit_82 : decode b_AR_exit 82 = .ok (.aload 4, 2) := by decide +kernel
theorem d_AR_exit_84 : decode b_AR_exit 84 = .ok (.dup, 1) := by decide +kernel
theorem d_AR_exit_85 : decode b_AR_exit 85 = .ok (.getfield 74, 3) := by decide +kernel
theorem d_AR_exit_88 : decode b_AR_exit 88 = .ok (.iconst 1, 1) := by decide +kernel
theorem d_AR_exit_89 : decode b_AR_exit 89 = .ok (.iadd, 1) := by decide +kernel
theorem d_AR_exit_90 : decode b_AR_exit 90 = .ok (.putfield 74, 3) := by decide +kernel
theorem d_AR_exit_93 : decode b_AR_exit 93 = .ok (.aload_n 0, 1) := by decide +kernel
theorem d_AR_exit_94 : decode b_AR_exit 94 = .ok (.getfield 77, 3) := by decide +kernel
theorem d_AR_exit_97 : decode b_AR_exit 97 = .ok (.ireturn, 1) := by decide +kernel
set_option maxHeartbeats 4000000 in
set_option maxRecDepth 100000 in
theorem c_AR_exit (l : Launch) (D : va_G) (dA : Nat → ClassId) (M : mm_M) (x nc : Nat) (I : sI) (F : sF) (st : sT) (hC : cP dA M x I F st nc) (hwf : wf I F st) (k d z : Int32) (hz : z = 0 ∨ z = 1) : mm_Ci l y_AR_exit w_AR_exit ({ frames := 2, cells := 1, slots := 5, locals := 44 }) 1 5 D vC (tyL dA) [.ref x, .int k, .int d, .int z] M (cs_post dA x nc (sp_exit k d z I F st)) := by
  intro sz
  refine mm_start (by decide) (Nat.le_of_ble_eq_true rfl) ?_
  intro p e s m below meth c A Q ls hA hQ S hr hlocks hin hK hw hl
  have hl : lv_has ls 5 [(0, .ref x), (1, .int k), (2, .int d), (3, .int z)] := hl
  obtain ⟨lv, sr, gd, rs, ss, dr, cs, cg, hX, hL, hG, hS, hR, hT, hD, hCs, hE⟩ := id hC
  have hX : M x = some (.inr (0, [.ref lv, .int (I 1), .int (I 2), .ref sr, .ref gd, .int (I 3), .ref rs, .ref ss, .ref dr, .ref cs, .ref cg])) := hX
  obtain ⟨fL, la, ea, er, hlv, hfl, hla, hea, hch⟩ := id hL
  obtain ⟨n, hn, hN⟩ := hwf.1
  have hcn : cN (I 1) = n := cN_I hn (by omega)
  refine lv_aload_n S.1 S.2.1 d_AR_exit_0 rfl (lv_at hl 0 rfl) ?_
  refine lv_iload_n S.1 S.2.1 d_AR_exit_1 rfl (lv_at hl 1 rfl) ?_
  refine mm_callq hw (mm_runV (a := x) (As := [.int k]) (rest := []) S hK hw (c_AR_levelOf l D dA _ x lv sr gd rs ss dr cs cg I fL k n hn hN hX hlv _) bv_AR_levelOf gw_126 hX rfl (⟨rfl, rfl, by decide, by decide, by decide, by decide⟩) hl.1 rfl rfl (Nat.le_of_ble_eq_true rfl) d_AR_exit_2) (fun r1 M2 H locs hp hw => ?_)
  rw [hp.1] at hw
  rcases hp.2 with ⟨hc3, er9⟩ | ⟨hc3, rfl⟩
  · obtain ⟨j, ek, hj1, hjn, en⟩ := is_of hn (by omega) hc3
    have er9 : r1 = some (la j) := by rw [er9, cN, en, hfl (j - 1) (by omega)]; congr 2; omega
    subst er9
    refine W.eq (g2 := F0 m 5 ls [.ref (la j)]) rfl ?_
    have hlj : M (la j) = some (oL la ea F j) := hla j hj1 (by omega)
    have en : cN k = j := en
    obtain ⟨zc, hze, hz10, hzr⟩ := hwf.2.2.2.2.2.1.2.2 j hj1 (by omega)
    obtain ⟨ne, hne, hNE⟩ := hwf.2.1
    have hcne : cN (I 2) = ne := cN_I hne (by omega)
    refine lv_astore (lv' := [(4, .ref (la j)), (0, .ref x), (1, .int k), (2, .int d), (3, .int z)]) S.1 S.2.1 d_AR_exit_5 hl (by decide) rfl (fun ls hl => ?_)
    refine lv_aload S.1 S.2.1 d_AR_exit_7 (lv_at hl 0 rfl) ?_
    refine lv_ifnonnull (tgt := 15) S.1 S.2.1 d_AR_exit_9 (by decide) ?_
    refine lv_iload_n S.1 S.2.1 d_AR_exit_15 rfl (lv_at hl 3 rfl) ?_
    refine lv_if_lt (tgt := 24) S.1 S.2.1 d_AR_exit_16 (by decide) (fun c16 => ?_) (fun c16 => ?_)
    · refine lv_bipush (v := (-4)) S.1 S.2.1 d_AR_exit_24 (by decide) ?_
      exact mm_reti S.1 S.2.1 hr hlocks hA hQ hw (cs_same hC (show sp_exit k d z I F st = ((-4), upd I 0 0, F, st) by simp only [sp_exit, eq_true hc3, eq_true c16, not_true_eq_false, not_false_eq_true, and_true, true_and, and_false, false_and, and_self, or_true, true_or, or_false, false_or, or_self, ↓reduceIte, en])) (Nat.le_of_ble_eq_true rfl) (Nat.le_of_ble_eq_true rfl) d_AR_exit_26
    · refine lv_iload_n S.1 S.2.1 d_AR_exit_19 rfl (lv_at hl 3 rfl) ?_
      refine lv_iconst (v := 3) S.1 S.2.1 d_AR_exit_20 (by decide) ?_
      refine lv_icmp_le (tgt := 27) S.1 S.2.1 d_AR_exit_21 (by decide) (fun c21 => ?_) (fun c21 => ?_)
      · refine lv_aload S.1 S.2.1 d_AR_exit_27 (lv_at hl 0 rfl) ?_
        refine mm_get (C := R_LV) (T := T_LV) (N := 5) S hK.1 hw hlj rfl in_LV 4 (by decide) gw_144 rfl rfl d_AR_exit_29 ?_
        refine lv_bipush (v := 10) S.1 S.2.1 d_AR_exit_32 (by decide) ?_
        refine lv_icmp_ge (tgt := 47) S.1 S.2.1 d_AR_exit_34 (by decide) (fun c34 => ?_) (fun c34 => ?_)
        · refine lv_iconst (v := (-1)) S.1 S.2.1 d_AR_exit_47 (by decide) ?_
          have h10 : F 2 j = 10 := by
            rw [hze] at c34 ⊢
            have h9 := (nI_leI (a := 10) (by decide) (by omega)).mp c34
            rw [show zc = 10 by omega]; rfl
          exact mm_reti S.1 S.2.1 hr hlocks hA hQ hw (cs_same hC (show sp_exit k d z I F st = ((-1), upd I 0 0, F, st) by simp only [sp_exit, eq_true hc3, eq_false c16, eq_true c21, eq_true h10, not_true_eq_false, not_false_eq_true, and_true, true_and, and_false, false_and, and_self, or_true, true_or, or_false, false_or, or_self, ↓reduceIte, en])) (Nat.le_of_ble_eq_true rfl) (Nat.le_of_ble_eq_true rfl) d_AR_exit_48
        · refine lv_aload_n S.1 S.2.1 d_AR_exit_37 rfl (lv_at hl 1 rfl) ?_
          refine mm_get (C := R_AR) (T := T_AR) (N := 11) S hK.1 hw hX rfl in_AR 2 (by decide) gw_90 rfl rfl d_AR_exit_38 ?_
          refine lv_sipush (v := 300) S.1 S.2.1 d_AR_exit_41 (by decide) ?_
          refine lv_icmp_lt (tgt := 49) S.1 S.2.1 d_AR_exit_44 (by decide) (fun c44 => ?_) (fun c44 => ?_)
          · refine lv_aload_n S.1 S.2.1 d_AR_exit_49 rfl (lv_at hl 1 rfl) ?_
            refine lv_dup S.1 S.2.1 d_AR_exit_50 rfl ?_
            refine mm_get (C := R_AR) (T := T_AR) (N := 11) S hK.1 hw hX rfl in_AR 2 (by decide) gw_90 rfl rfl d_AR_exit_51 ?_
            refine lv_iconst (v := 1) S.1 S.2.1 d_AR_exit_54 (by decide) ?_
            refine lv_iadd S.1 S.2.1 d_AR_exit_55 ?_
            refine mm_put (C := R_AR) (T := T_AR) (N := 11) (ty := .int) (v := .int ((I 2) + 1)) S hK.1 hw hX rfl in_AR t_AR k_AR n_AR 2 (by decide) gw_90 rfl rfl (by decide +kernel) (rfl) (rfl) (Nat.le_of_ble_eq_true rfl) d_AR_exit_56 (fun H locs hw => ?_)
            obtain ⟨M4, eM4⟩ : ∃ zM : mm_M, zM = mm_up M x (.inr (0, [.ref lv, .int (I 1), .int ((I 2) + 1), .ref sr, .ref gd, .int (I 3), .ref rs, .ref ss, .ref dr, .ref cs, .ref cg])) := ⟨_, rfl⟩
            have hw : mm_w D vC _ _ (mm_up M x (.inr (0, [.ref lv, .int (I 1), .int ((I 2) + 1), .ref sr, .ref gd, .int (I 3), .ref rs, .ref ss, .ref dr, .ref cs, .ref cg]))) H _ := hw
            rw [← eM4] at hw
            have hlj_4 : M4 (la j) = some (.inr (5, [.int (nI j), va_rf (lk la (F 0 j)), .int (F 1 j), va_rf (tpf ea F j), .int (F 2 j)])) := by rw [eM4]; exact mm_uk hX hlj (by simp)
            have hX_4 : M4 x = some (.inr (0, [.ref lv, .int (I 1), .int ((I 2) + 1), .ref sr, .ref gd, .int (I 3), .ref rs, .ref ss, .ref dr, .ref cs, .ref cg])) := by rw [eM4]; exact mm_us
            refine lv_aload S.1 S.2.1 d_AR_exit_59 (lv_at hl 0 rfl) ?_
            refine mm_new (C := R_EX) (T := T_EX) (N := 5) (ci := 6) (fs := [.int 0, .int 0, .int 0, .null, .int 0]) S hK.1 hw rfl in_EX t_EX k_EX gw_160 gw_161 gw_15 (fun j hj => by rcases (show j = 0 ∨ j = 1 ∨ j = 2 ∨ j = 3 ∨ j = 4 by omega) with rfl | rfl | rfl | rfl | rfl <;> rfl) (Nat.le_of_ble_eq_true rfl) (Nat.le_of_ble_eq_true rfl) d_AR_exit_61 (fun q5 H hqq5 hw => ?_)
            obtain ⟨M6, eM6⟩ : ∃ zM : mm_M, zM = mm_up M4 q5 (.inr (6, [.int 0, .int 0, .int 0, .null, .int 0])) := ⟨_, rfl⟩
            have hw : mm_w D vC _ _ (mm_up M4 q5 (.inr (6, [.int 0, .int 0, .int 0, .null, .int 0]))) H _ := hw
            rw [← eM6] at hw
            have hX_6 : M6 x = some (.inr (0, [.ref lv, .int (I 1), .int ((I 2) + 1), .ref sr, .ref gd, .int (I 3), .ref rs, .ref ss, .ref dr, .ref cs, .ref cg])) := by rw [eM6]; exact mm_fk hqq5 hX_4
            have hlj_6 : M6 (la j) = some (.inr (5, [.int (nI j), va_rf (lk la (F 0 j)), .int (F 1 j), va_rf (tpf ea F j), .int (F 2 j)])) := by rw [eM6]; exact mm_fk hqq5 hlj_4
            have hq5_6 : M6 q5 = some (.inr (6, [.int 0, .int 0, .int 0, .null, .int 0])) := by rw [eM6]; exact mm_us
            refine lv_dup S.1 S.2.1 d_AR_exit_64 rfl ?_
            refine lv_aload_n S.1 S.2.1 d_AR_exit_65 rfl (lv_at hl 1 rfl) ?_
            refine mm_get (C := R_AR) (T := T_AR) (N := 11) S hK.1 hw hX_6 rfl in_AR 2 (by decide) gw_90 rfl rfl d_AR_exit_66 ?_
            refine lv_iload_n S.1 S.2.1 d_AR_exit_69 rfl (lv_at hl 3 rfl) ?_
            refine lv_iload_n S.1 S.2.1 d_AR_exit_70 rfl (lv_at hl 4 rfl) ?_
            refine lv_aload S.1 S.2.1 d_AR_exit_71 (lv_at hl 0 rfl) ?_
            refine mm_get (C := R_LV) (T := T_LV) (N := 5) S hK.1 hw hlj_6 rfl in_LV 3 (by decide) gw_143 rfl rfl d_AR_exit_73 ?_
            refine mm_callv hw (mm_runI (a := q5) (As := [.int ((I 2) + 1), .int d, .int z, va_rf (tpf ea F j)]) (rest := [.ref q5, .ref (la j)]) S hK hw (c_EX_init l D dA _ q5 (((I 2) + 1)) (d) (z) (tpf ea F j) hz hq5_6 _) bi_EX_init gw_162 (⟨rfl, rfl, by decide, by decide, by decide, by decide⟩) hl.1 rfl rfl (Nat.le_of_ble_eq_true rfl) d_AR_exit_76) (fun M8 H locs hp hw => ?_)
            have hX_9 : M8 x = some (.inr (0, [.ref lv, .int (I 1), .int ((I 2) + 1), .ref sr, .ref gd, .int (I 3), .ref rs, .ref ss, .ref dr, .ref cs, .ref cg])) := by rw [hp]; exact mm_uk hq5_6 hX_6 (by simp)
            have hlj_10 : M8 (la j) = some (.inr (5, [.int (nI j), va_rf (lk la (F 0 j)), .int (F 1 j), va_rf (tpf ea F j), .int (F 2 j)])) := by rw [hp]; exact mm_uk hq5_6 hlj_6 (by simp)
            have hq5_11 : M8 q5 = some (.inr (6, [.int ((I 2) + 1), .int d, .int z, va_rf (tpf ea F j), .int 0])) := by rw [hp]; exact mm_us
            have eM8 := hp
            refine mm_put (C := R_LV) (T := T_LV) (N := 5) (ty := .object "AbendRows$Exit") (v := .ref q5) S hK.1 hw hlj_10 rfl in_LV t_LV k_LV n_LV 3 (by decide) gw_143 rfl rfl (by decide +kernel) (rfl) (rfl) (Nat.le_of_ble_eq_true rfl) d_AR_exit_79 (fun H locs hw => ?_)
            obtain ⟨M12, eM12⟩ : ∃ zM : mm_M, zM = mm_up M8 (la j) (.inr (5, [.int (nI j), va_rf (lk la (F 0 j)), .int (F 1 j), .ref q5, .int (F 2 j)])) := ⟨_, rfl⟩
            have hw : mm_w D vC _ _ (mm_up M8 (la j) (.inr (5, [.int (nI j), va_rf (lk la (F 0 j)), .int (F 1 j), .ref q5, .int (F 2 j)]))) H _ := hw
            rw [← eM12] at hw
            have hX_12 : M12 x = some (.inr (0, [.ref lv, .int (I 1), .int ((I 2) + 1), .ref sr, .ref gd, .int (I 3), .ref rs, .ref ss, .ref dr, .ref cs, .ref cg])) := by rw [eM12]; exact mm_uk hlj_10 hX_9 (by simp)
            have hq5_12 : M12 q5 = some (.inr (6, [.int ((I 2) + 1), .int d, .int z, va_rf (tpf ea F j), .int 0])) := by rw [eM12]; exact mm_uk hlj_10 hq5_11 (by simp)
            have hlj_12 : M12 (la j) = some (.inr (5, [.int (nI j), va_rf (lk la (F 0 j)), .int (F 1 j), .ref q5, .int (F 2 j)])) := by rw [eM12]; exact mm_us
            refine lv_aload S.1 S.2.1 d_AR_exit_82 (lv_at hl 0 rfl) ?_
            refine lv_dup S.1 S.2.1 d_AR_exit_84 rfl ?_
            refine mm_get (C := R_LV) (T := T_LV) (N := 5) S hK.1 hw hlj_12 rfl in_LV 4 (by decide) gw_144 rfl rfl d_AR_exit_85 ?_
            refine lv_iconst (v := 1) S.1 S.2.1 d_AR_exit_88 (by decide) ?_
            refine lv_iadd S.1 S.2.1 d_AR_exit_89 ?_
            refine mm_put (C := R_LV) (T := T_LV) (N := 5) (ty := .int) (v := .int ((F 2 j) + 1)) S hK.1 hw hlj_12 rfl in_LV t_LV k_LV n_LV 4 (by decide) gw_144 rfl rfl (by decide +kernel) (rfl) (rfl) (Nat.le_of_ble_eq_true rfl) d_AR_exit_90 (fun H locs hw => ?_)
            obtain ⟨M13, eM13⟩ : ∃ zM : mm_M, zM = mm_up M12 (la j) (.inr (5, [.int (nI j), va_rf (lk la (F 0 j)), .int (F 1 j), .ref q5, .int ((F 2 j) + 1)])) := ⟨_, rfl⟩
            have hw : mm_w D vC _ _ (mm_up M12 (la j) (.inr (5, [.int (nI j), va_rf (lk la (F 0 j)), .int (F 1 j), .ref q5, .int ((F 2 j) + 1)]))) H _ := hw
            rw [← eM13] at hw
            have hX_13 : M13 x = some (.inr (0, [.ref lv, .int (I 1), .int ((I 2) + 1), .ref sr, .ref gd, .int (I 3), .ref rs, .ref ss, .ref dr, .ref cs, .ref cg])) := by rw [eM13]; exact mm_uk hlj_12 hX_12 (by simp)
            have hq5_13 : M13 q5 = some (.inr (6, [.int ((I 2) + 1), .int d, .int z, va_rf (tpf ea F j), .int 0])) := by rw [eM13]; exact mm_uk hlj_12 hq5_12 (by simp)
            have hlj_13 : M13 (la j) = some (.inr (5, [.int (nI j), va_rf (lk la (F 0 j)), .int (F 1 j), .ref q5, .int ((F 2 j) + 1)])) := by rw [eM13]; exact mm_us
            refine lv_aload_n S.1 S.2.1 d_AR_exit_93 rfl (lv_at hl 1 rfl) ?_
            refine mm_get (C := R_AR) (T := T_AR) (N := 11) S hK.1 hw hX_13 rfl in_AR 2 (by decide) gw_90 rfl rfl d_AR_exit_94 ?_
            have hf10 : ¬ F 2 j = 10 := fun h => c34 (by rw [h]; decide)
            have hf300 : ¬ I 2 = 300 := fun h => by rw [h] at c44; exact absurd c44 (by decide)
            have hne1 : ne < 300 := by
              rcases Nat.lt_or_ge ne 300 with q | q
              · exact q
              · exact absurd (by rw [hne, show ne = 300 by omega]; rfl) hf300
            have hz1 : zc < 10 := by
              rcases Nat.lt_or_ge zc 10 with q | q
              · exact q
              · exact absurd (by rw [hze, show zc = 10 by omega]; rfl) hf10
            have hi2 : I 2 + 1 = nI (ne + 1) := by rw [hne, nI_1]
            have hci : cN (I 2 + 1) = ne + 1 := cN_I hi2 (by omega)
            have hzc : cN (F 2 j) = zc := cN_I hze (by omega)
            have hx1 : (mm_up M x (.inr (0, [.ref lv, .int (I 1), .int (I 2 + 1), .ref sr, .ref gd, .int (I 3), .ref rs, .ref ss, .ref dr, .ref cs, .ref cg]))) (la j) = some (oL la ea F j) := mm_uk hX hlj (by simp)
            have e3 : M8 = mm_up M4 q5 (.inr (6, [.int ((I 2) + 1), .int d, .int z, va_rf (tpf ea F j), .int 0])) := by rw [eM8, eM6]; exact mm_uu
            have e5 : M13 = mm_up M8 (la j) (.inr (5, [.int (nI j), va_rf (lk la (F 0 j)), .int (F 1 j), .ref q5, .int ((F 2 j) + 1)])) := by rw [eM13, eM12]; exact mm_uu
            have hlj3 : M8 (la j) = some (oL la ea F j) := by rw [e3]; exact mm_fk hqq5 (by rw [eM4]; exact hx1)
            have hk1 : kt M M4 [0] := by rw [eM4]; exact kt_up hX (by simp [tg])
            have hk3 : kt M M8 [0] := by rw [e3]; exact kt_tr hk1 (kt_nw hqq5)
            have hk9 : kt M M13 [0, 5] := by rw [e5]; exact kt_tr (kt_mo hk3 (by decide)) (kt_up hlj3 (by simp [tg]))
            have hoth : ∀ a, 1 ≤ a → a ≤ n → a ≠ j → M13 (la a) = some (oL la ea F a) := fun a p1 p2 p3 => by
              rw [e5]
              exact mm_uk hlj3 (hk3 _ _ (hla a p1 (by omega)) (by simp [tg])) (oL_ne (by omega) (by omega) p3)
            have hP9 : cP dA M13 x (upd (upd I 0 0) 2 (I 2 + 1)) (va_up (va_up (va_up (va_up F 4 (upd (F 4) (cN (I 2 + 1)) d)) 6 (upd (F 6) (cN (I 2 + 1)) z)) 3 (upd (F 3) (10 * cN k + cN (F 2 (cN k))) (I 2 + 1))) 2 (upd (F 2) (cN k) (F 2 (cN k) + 1))) st (nc + 1) := ⟨lv, sr, gd, rs, ss, dr, cs, cg, hX_13, cL_ex (n := n) (ne := ne) (q := q5) (j := j) (zc := zc) (d := d) (z := z) hcn hN hcne hne1 (by rw [← hcn, ← hcne]; exact hwf.2.2.2.2.2.1) (hwf.2.2.2.2.2.2.2.2.1 (ne + 1) (by omega)) hlv hfl hla hea hch hj1 hjn hze hz1 hk9 (by rw [← hi2]; exact hq5_13) hlj_13 hoth rfl hci (by rw [hci, en, hzc, ← hi2]), cG_k hk9 hG (by decide) rfl rfl rfl rfl, cS_k hk9 hS (by decide) rfl rfl, hk9 _ _ hR (by simp [tg]), hk9 _ _ hT (by simp [tg]), cD_k hk9 hD (by decide) rfl rfl, cC_k hk9 hCs (by decide) rfl, cE_k hk9 hE (by decide) (by omega) rfl⟩
            exact mm_reti S.1 S.2.1 hr hlocks hA hQ hw (cs_done hP9 (show sp_exit k d z I F st = (I 2 + 1, _, _, _) by simp only [sp_exit, eq_true hc3, eq_false c16, eq_true c21, not_true_eq_false, not_false_eq_true, and_true, true_and, and_false, false_and, and_self, or_true, true_or, or_false, false_or, or_self, ↓reduceIte, en, eq_false hf10, eq_false hf300])) (Nat.le_of_ble_eq_true rfl) (Nat.le_of_ble_eq_true rfl) d_AR_exit_97
          · refine lv_iconst (v := (-1)) S.1 S.2.1 d_AR_exit_47 (by decide) ?_
            have h300 : I 2 = 300 := by
              rw [hne] at c44 ⊢
              rcases Nat.lt_or_ge ne 300 with q | q
              · exact absurd (nI_lt (b := 300) q (by decide)) c44
              · rw [show ne = 300 by omega]; rfl
            exact mm_reti S.1 S.2.1 hr hlocks hA hQ hw (cs_same hC (show sp_exit k d z I F st = ((-1), upd I 0 0, F, st) by simp only [sp_exit, eq_true hc3, eq_false c16, eq_true c21, eq_true h300, not_true_eq_false, not_false_eq_true, and_true, true_and, and_false, false_and, and_self, or_true, true_or, or_false, false_or, or_self, ↓reduceIte, en])) (Nat.le_of_ble_eq_true rfl) (Nat.le_of_ble_eq_true rfl) d_AR_exit_48
      · refine lv_bipush (v := (-4)) S.1 S.2.1 d_AR_exit_24 (by decide) ?_
        exact mm_reti S.1 S.2.1 hr hlocks hA hQ hw (cs_same hC (show sp_exit k d z I F st = ((-4), upd I 0 0, F, st) by simp only [sp_exit, eq_true hc3, eq_false c16, eq_false c21, not_true_eq_false, not_false_eq_true, and_true, true_and, and_false, false_and, and_self, or_true, true_or, or_false, false_or, or_self, ↓reduceIte, en])) (Nat.le_of_ble_eq_true rfl) (Nat.le_of_ble_eq_true rfl) d_AR_exit_26
  · refine W.eq (g2 := F0 m 5 ls [.null]) rfl ?_
    refine lv_astoreN (lv' := [(4, .null), (0, .ref x), (1, .int k), (2, .int d), (3, .int z)]) S.1 S.2.1 d_AR_exit_5 hl (by decide) rfl (fun ls hl => ?_)
    refine lv_aloadN S.1 S.2.1 d_AR_exit_7 (lv_at hl 0 rfl) ?_
    refine lv_ifnonnullN S.1 S.2.1 d_AR_exit_9 ?_
    refine lv_bipush (v := (-2)) S.1 S.2.1 d_AR_exit_12 (by decide) ?_
    exact mm_reti S.1 S.2.1 hr hlocks hA hQ hw (cs_same hC (show sp_exit k d z I F st = ((-2), upd I 0 0, F, st) by simp only [sp_exit, eq_false hc3, not_true_eq_false, not_false_eq_true, and_true, true_and, and_false, false_and, and_self, or_true, true_or, or_false, false_or, or_self, ↓reduceIte])) (Nat.le_of_ble_eq_true rfl) (Nat.le_of_ble_eq_true rfl) d_AR_exit_14
end
section
theorem gst_f {v b f : Int32} (h : gst v b f) : (f = 0 ∨ f = 1) ∧ (b = 0 ∨ b = 1) := by
  rcases h with ⟨_, h1, h2⟩ | ⟨_, h1, h2⟩ | ⟨_, h1, h2⟩
  · exact ⟨Or.inr h1, h2⟩
  · exact ⟨Or.inl h1, Or.inl h2⟩
  · exact ⟨Or.inl h1, Or.inr h2⟩
theorem gst_0 {v b f : Int32} (h : gst v b f) : f = 0 ↔ ¬ v ≤ 0 := by
  rcases h with ⟨h0, h1, h2⟩ | ⟨h0, h1, h2⟩ | ⟨h0, h1, h2⟩
  · subst h0; subst h1; decide
  · subst h0; subst h1; decide
  · subst h0; subst h1; decide
theorem gst_2 {v b f : Int32} (h : gst v b f) (hf : f = 0) : b = 0 ↔ ¬ v = 2 := by
  rcases h with ⟨h0, h1, h2⟩ | ⟨h0, h1, h2⟩ | ⟨h0, h1, h2⟩
  · rw [hf] at h1; exact absurd h1 (by decide)
  · subst h0; subst h2; decide
  · subst h0; subst h2; decide
section GDS
variable {dA : Nat → ClassId} {M M' : mm_M} {I I' : sI} {F F' : sF} {gd : Nat} {fG : Nat → Option Nat} {ga : Nat → Nat} {b f : Nat → Int32} {n : Nat}
theorem cG_set (hn : cN (I 3) = n) (a1 : M gd = some (aQ (dA 4) 60 fG)) (a2 : ∀ i, i < 60 → fG i = if i < cN (I 3) then some (ga (i + 1)) else none) (a3 : ∀ i, 1 ≤ i → i ≤ cN (I 3) → M (ga i) = some (oG F b f i) ∧ gst (F 14 i) (b i) (f i)) (a4 : ∀ i j, 1 ≤ i → i ≤ cN (I 3) → 1 ≤ j → j ≤ cN (I 3) → ga i = ga j → i = j)
    {j : Nat} {v b9 f9 : Int32} (hj : 1 ≤ j) (hjn : j ≤ n) (h3 : I' 3 = I 3) (f2 : F' 12 = F 12) (f3 : F' 13 = F 13) (f4 : F' 14 = upd (F 14) j v) (hg : gst v b9 f9) : cG dA (mm_up M (ga j) (.inr (7, [.int (F 12 j), .int (F 13 j), .int b9, .int f9]))) gd I' F' := by
  have hgj := (a3 j hj (by omega)).1
  refine ⟨fG, ga, upd b j b9, upd f j f9, mm_uk hgj a1 (by simp), by rw [h3]; exact a2, fun i p q => ?_, by rw [h3]; exact a4⟩
  rw [h3] at q
  rw [f4]
  by_cases h : i = j
  · subst h
    simp only [oG, f2, f3, pk_us]
    exact ⟨mm_us, hg⟩
  · simp only [oG, f2, f3, pk_un h]
    rw [mm_un (fun e => h (a4 i j p q hj (by omega) e))]
    exact a3 i p q
theorem cG_new {q : Nat} {t z : Int32} (hn : cN (I 3) = n) (hN : n < 60) (a2 : ∀ i, i < 60 → fG i = if i < cN (I 3) then some (ga (i + 1)) else none) (a3 : ∀ i, 1 ≤ i → i ≤ cN (I 3) → M (ga i) = some (oG F b f i) ∧ gst (F 14 i) (b i) (f i)) (a4 : ∀ i j, 1 ≤ i → i ≤ cN (I 3) → 1 ≤ j → j ≤ cN (I 3) → ga i = ga j → i = j)
    (kk : kt M M' [0, 1060]) (hgd : M' gd = some (aQ (dA 4) 60 (va_up fG n (some q)))) (hq : M' q = some (.inr (7, [.int t, .int z, .int 0, .int 0]))) (hq0 : M q = none) (h3 : cN (I' 3) = n + 1) (f2 : F' 12 = upd (F 12) (n + 1) t) (f3 : F' 13 = upd (F 13) (n + 1) z) (f4 : F' 14 = upd (F 14) (n + 1) 1) : cG dA M' gd I' F' := by
  have old : ∀ i, 1 ≤ i → i ≤ n → ga i ≠ q := fun i p r e => by
    have := (a3 i p (by omega)).1
    rw [e, hq0] at this
    cases this
  refine ⟨va_up fG n (some q), va_up ga (n + 1) q, upd b (n + 1) 0, upd f (n + 1) 0, hgd, fun i hi => ?_, fun i p r => ?_, fun i j p1 p2 p3 p4 e => ?_⟩
  · rw [h3]
    by_cases h : i = n
    · subst h
      rw [va_up_self, if_pos (by omega), va_up_self]
    · rw [va_up_ne _ _ h, a2 i hi, hn]
      by_cases h2 : i < n
      · rw [if_pos h2, if_pos (by omega), va_up_ne _ _ (by omega)]
      · rw [if_neg h2, if_neg (by omega)]
  · rw [h3] at r
    simp only [oG, f2, f3, f4]
    by_cases h : i = n + 1
    · subst h
      rw [pk_us, pk_us, pk_us, pk_us, pk_us, va_up_self]
      exact ⟨hq, Or.inr (Or.inl ⟨rfl, rfl, rfl⟩)⟩
    · rw [pk_un h, pk_un h, pk_un h, pk_un h, pk_un h, va_up_ne _ _ h]
      have h9 := a3 i p (by omega)
      exact ⟨kk _ _ h9.1 (by simp [tg]), h9.2⟩
  · rw [h3] at p2 p4
    by_cases hi : i = n + 1 <;> by_cases hj : j = n + 1
    · omega
    · rw [hi, va_up_self, va_up_ne _ _ hj] at e
      exact absurd e.symm (old j p3 (by omega))
    · rw [hj, va_up_self, va_up_ne _ _ hi] at e
      exact absurd e (old i p1 (by omega))
    · rw [va_up_ne _ _ hi, va_up_ne _ _ hj] at e
      exact a4 i j p1 (by omega) p3 (by omega) e
end GDS

theorem d_AR_guardOf_0 : decode b_AR_guardOf 0 = .ok (.iload_n 1, 1) := by decide +kernel
theorem d_AR_guardOf_1 : decode b_AR_guardOf 1 = .ok (.iconst 1, 1) := by decide +kernel
theorem d_AR_guardOf_2 : decode b_AR_guardOf 2 = .ok (.if_icmp .lt 22, 3) := by decide +kernel
theorem d_AR_guardOf_5 : decode b_AR_guardOf 5 = .ok (.iload_n 1, 1) := by decide +kernel
theorem d_AR_guardOf_6 : decode b_AR_guardOf 6 = .ok (.aload_n 0, 1) := by decide +kernel
theorem d_AR_guardOf_7 : decode b_AR_guardOf 7 = .ok (.getfield 136, 3) := by decide +kernel
theorem d_AR_guardOf_10 : decode b_AR_guardOf 10 = .ok (.if_icmp .gt 14, 3) := by decide +kernel
theorem d_AR_guardOf_13 : decode b_AR_guardOf 13 = .ok (.aload_n 0, 1) := by decide +kernel
theorem d_AR_guardOf_14 : decode b_AR_guardOf 14 = .ok (.getfield 24, 3) := by decide +kernel
theorem d_AR_guardOf_17 : decode b_AR_guardOf 17 = .ok (.iload_n 1, 1) := by decide +kernel
theorem d_AR_guardOf_18 : decode b_AR_guardOf 18 = .ok (.iconst 1, 1) := by decide +kernel
theorem d_AR_guardOf_19 : decode b_AR_guardOf 19 = .ok (.isub, 1) := by decide +kernel
theorem d_AR_guardOf_20 : decode b_AR_guardOf 20 = .ok (.aaload, 1) := by decide +kernel
theorem d_AR_guardOf_21 : decode b_AR_guardOf 21 = .ok (.goto 4, 3) := by decide +kernel
theorem d_AR_guardOf_24 : decode b_AR_guardOf 24 = .ok (.aconst_null, 1) := by decide +kernel
theorem d_AR_guardOf_25 : decode b_AR_guardOf 25 = .ok (.astore_n 2, 1) := by decide +kernel
theorem d_AR_guardOf_26 : decode b_AR_guardOf 26 = .ok (.aload_n 2, 1) := by decide +kernel
theorem d_AR_guardOf_27 : decode b_AR_guardOf 27 = .ok (.ifnull 10, 3) := by decide +kernel
theorem d_AR_guardOf_30 : decode b_AR_guardOf 30 = .ok (.aload_n 2, 1) := by decide +kernel
theorem d_AR_guardOf_31 : decode b_AR_guardOf 31 = .ok (.getfield 153, 3) := by decide +kernel
theorem d_AR_guardOf_34 : decode b_AR_guardOf 34 = .ok (.ifCond .eq 7, 3) := by decide +kernel
theorem d_AR_guardOf_37 : decode b_AR_guardOf 37 = .ok (.aconst_null, 1) := by decide +kernel
theorem d_AR_guardOf_38 : decode b_AR_guardOf 38 = .ok (.goto 4, 3) := by decide +kernel
theorem d_AR_guardOf_41 : decode b_AR_guardOf 41 = .ok (.aload_n 2, 1) := by decide +kernel
theorem d_AR_guardOf_42 : decode b_AR_guardOf 42 = .ok (.areturn, 1) := by decide +kernel
set_option maxHeartbeats 4000000 in
set_option maxRecDepth 100000 in
theorem c_AR_guardOf (l : Launch) (D : va_G) (dA : Nat → ClassId) (M : mm_M) (x lv sr gd rs ss dr cs cg : Nat) (I : sI) (F : sF) (fG : Nat → Option Nat) (ga : Nat → Nat) (b f : Nat → Int32) (n : Nat) (hn : I 3 = nI n) (hN : n ≤ 60) (hX : M x = some (.inr (0, [.ref lv, .int (I 1), .int (I 2), .ref sr, .ref gd, .int (I 3), .ref rs, .ref ss, .ref dr, .ref cs, .ref cg]))) (hgd : M gd = some (aQ (dA 4) 60 fG)) (hfg : ∀ i, i < 60 → fG i = if i < cN (I 3) then some (ga (i + 1)) else none) (hga : ∀ i, 1 ≤ i → i ≤ cN (I 3) → M (ga i) = some (oG F b f i) ∧ gst (F 14 i) (b i) (f i)) (k : Int32) : mm_Cq l y_AR_guardOf w_AR_guardOf ({ frames := 0, cells := 0, slots := 0, locals := 0 }) 0 0 D vC (tyL dA) [.ref x, .int k] M (fun r M' => M' = M ∧ ((is_gd I F k ∧ r = some (ga (cN k))) ∨ (¬ is_gd I F k ∧ r = none))) := by
  intro sz
  refine mm_start (by decide) (Nat.le_of_ble_eq_true rfl) ?_
  intro p e s m below meth c A Q ls hA hQ S hr hlocks hin hK hw hl
  have hl : lv_has ls 3 [(0, .ref x), (1, .int k)] := hl
  refine lv_iload_n S.1 S.2.1 d_AR_guardOf_0 rfl (lv_at hl 1 rfl) ?_
  refine lv_iconst (v := 1) S.1 S.2.1 d_AR_guardOf_1 (by decide) ?_
  refine lv_icmp_lt (tgt := 24) S.1 S.2.1 d_AR_guardOf_2 (by decide) (fun c2 => ?_) (fun c2 => ?_)
  · refine lv_null S.1 S.2.1 d_AR_guardOf_24 ?_
    refine lv_astore_nN (lv' := [(2, .null), (0, .ref x), (1, .int k)]) S.1 S.2.1 d_AR_guardOf_25 rfl hl (by decide) rfl (fun ls hl => ?_)
    refine lv_aload_nN S.1 S.2.1 d_AR_guardOf_26 rfl (lv_at hl 0 rfl) ?_
    refine lv_ifnullN (tgt := 37) S.1 S.2.1 d_AR_guardOf_27 (by decide) ?_
    refine lv_null S.1 S.2.1 d_AR_guardOf_37 ?_
    refine lv_goto (tgt := 42) S.1 S.2.1 d_AR_guardOf_38 (by decide) ?_
    exact mm_retq (v := none) S.1 S.2.1 hr hlocks hA hQ hw (⟨rfl, Or.inr ⟨fun h => h.1.1 (is_lt1.mp c2), rfl⟩⟩) (Nat.le_of_ble_eq_true rfl) (Nat.le_of_ble_eq_true rfl) d_AR_guardOf_42
  · refine lv_iload_n S.1 S.2.1 d_AR_guardOf_5 rfl (lv_at hl 1 rfl) ?_
    refine lv_aload_n S.1 S.2.1 d_AR_guardOf_6 rfl (lv_at hl 0 rfl) ?_
    refine mm_get (C := R_AR) (T := T_AR) (N := 11) S hK.1 hw hX rfl in_AR 5 (by decide) gw_93 rfl rfl d_AR_guardOf_7 ?_
    refine lv_icmp_gt (tgt := 24) S.1 S.2.1 d_AR_guardOf_10 (by decide) (fun c10 => ?_) (fun c10 => ?_)
    · refine lv_null S.1 S.2.1 d_AR_guardOf_24 ?_
      refine lv_astore_nN (lv' := [(2, .null), (0, .ref x), (1, .int k)]) S.1 S.2.1 d_AR_guardOf_25 rfl hl (by decide) rfl (fun ls hl => ?_)
      refine lv_aload_nN S.1 S.2.1 d_AR_guardOf_26 rfl (lv_at hl 0 rfl) ?_
      refine lv_ifnullN (tgt := 37) S.1 S.2.1 d_AR_guardOf_27 (by decide) ?_
      refine lv_null S.1 S.2.1 d_AR_guardOf_37 ?_
      refine lv_goto (tgt := 42) S.1 S.2.1 d_AR_guardOf_38 (by decide) ?_
      exact mm_retq (v := none) S.1 S.2.1 hr hlocks hA hQ hw (⟨rfl, Or.inr ⟨fun h => h.1.2 c10, rfl⟩⟩) (Nat.le_of_ble_eq_true rfl) (Nat.le_of_ble_eq_true rfl) d_AR_guardOf_42
    · refine lv_aload_n S.1 S.2.1 d_AR_guardOf_13 rfl (lv_at hl 0 rfl) ?_
      refine mm_get (C := R_AR) (T := T_AR) (N := 11) S hK.1 hw hX rfl in_AR 4 (by decide) gw_92 rfl rfl d_AR_guardOf_14 ?_
      refine lv_iload_n S.1 S.2.1 d_AR_guardOf_17 rfl (lv_at hl 1 rfl) ?_
      refine lv_iconst (v := 1) S.1 S.2.1 d_AR_guardOf_18 (by decide) ?_
      refine lv_isub S.1 S.2.1 d_AR_guardOf_19 ?_
      have hok : is_ok (I 3) k := ⟨fun h => c2 (is_lt1.mpr h), c10⟩
      obtain ⟨j, ek, hj1, hjn, en⟩ := is_of hn (by omega) hok
      have hcn : cN (I 3) = n := cN_I hn (by omega)
      refine mn_aldq (j := cN k - 1) S hK.1 hw 4 hgd rfl (by rw [cN, en, ek, show (1 : Int32) = nI 1 from rfl, pk_sub (by omega)]) (by rw [cN, en]; omega) (by decide) d_AR_guardOf_20 ?_
      have hfj : fG (cN k - 1) = some (ga j) := by
        rw [cN, en, hfg (j - 1) (by omega), if_pos (by omega)]
        congr 2
        omega
      rw [hfj]
      refine W.eq (g2 := F0 m 21 ls [.ref (ga j)]) rfl ?_
      have hgj : M (ga j) = some (oG F b f j) := (hga j hj1 (by omega)).1
      refine lv_goto (tgt := 25) S.1 S.2.1 d_AR_guardOf_21 (by decide) ?_
      refine lv_astore_n (lv' := [(2, .ref (ga j)), (0, .ref x), (1, .int k)]) S.1 S.2.1 d_AR_guardOf_25 rfl hl (by decide) rfl (fun ls hl => ?_)
      refine lv_aload_n S.1 S.2.1 d_AR_guardOf_26 rfl (lv_at hl 0 rfl) ?_
      refine lv_ifnull S.1 S.2.1 d_AR_guardOf_27 ?_
      refine lv_aload_n S.1 S.2.1 d_AR_guardOf_30 rfl (lv_at hl 0 rfl) ?_
      refine mm_get (C := R_GU) (T := T_GU) (N := 4) S hK.1 hw hgj rfl in_GU 3 (by decide) gw_304 rfl rfl d_AR_guardOf_31 ?_
      refine lv_if_eq (tgt := 41) S.1 S.2.1 d_AR_guardOf_34 (by decide) (fun c34 => ?_) (fun c34 => ?_)
      · refine lv_aload_n S.1 S.2.1 d_AR_guardOf_41 rfl (lv_at hl 0 rfl) ?_
        exact mm_retq (v := some (ga j)) S.1 S.2.1 hr hlocks hA hQ hw (⟨rfl, Or.inl ⟨⟨hok, by rw [cN, en]; exact (gst_0 (hga j hj1 (by omega)).2).mp c34⟩, by rw [cN, en]⟩⟩) (Nat.le_of_ble_eq_true rfl) (Nat.le_of_ble_eq_true rfl) d_AR_guardOf_42
      · refine lv_null S.1 S.2.1 d_AR_guardOf_37 ?_
        refine lv_goto (tgt := 42) S.1 S.2.1 d_AR_guardOf_38 (by decide) ?_
        exact mm_retq (v := none) S.1 S.2.1 hr hlocks hA hQ hw (⟨rfl, Or.inr ⟨fun h => c34 ((gst_0 (hga j hj1 (by omega)).2).mpr (by have h9 := h.2; rw [cN, en] at h9; exact h9)), rfl⟩⟩) (Nat.le_of_ble_eq_true rfl) (Nat.le_of_ble_eq_true rfl) d_AR_guardOf_42
theorem d_AR_write_0 : decode b_AR_write 0 = .ok (.aload_n 0, 1) := by decide +kernel
theorem d_AR_write_1 : decode b_AR_write 1 = .ok (.iload_n 1, 1) := by decide +kernel
theorem d_AR_write_2 : decode b_AR_write 2 = .ok (.invokevirtual 142, 3) := by decide +kernel
theorem d_AR_write_5 : decode b_AR_write 5 = .ok (.astore_n 3, 1) := by decide +kernel
theorem d_AR_write_6 : decode b_AR_write 6 = .ok (.aload_n 3, 1) := by decide +kernel
theorem d_AR_write_7 : decode b_AR_write 7 = .ok (.ifnonnull 6, 3) := by decide +kernel
theorem d_AR_write_10 : decode b_AR_write 10 = .ok (.bipush (-2), 2) := by decide +kernel
theorem d_AR_write_12 : decode b_AR_write 12 = .ok (.ireturn, 1) := by decide +kernel
theorem d_AR_write_13 : decode b_AR_write 13 = .ok (.iload_n 2, 1) := by decide +kernel
theorem d_AR_write_14 : decode b_AR_write 14 = .ok (.iconst (-1), 1) := by decide +kernel
theorem d_AR_write_15 : decode b_AR_write 15 = .ok (.if_icmp .lt 11, 3) := by decide +kernel
theorem d_AR_write_18 : decode b_AR_write 18 = .ok (.iload_n 2, 1) := by decide +kernel
theorem d_AR_write_19 : decode b_AR_write 19 = .ok (.aload_n 3, 1) := by decide +kernel
theorem d_AR_write_20 : decode b_AR_write 20 = .ok (.getfield 146, 3) := by decide +kernel
theorem d_AR_write_23 : decode b_AR_write 23 = .ok (.if_icmp .le 6, 3) := by decide +kernel
theorem d_AR_write_26 : decode b_AR_write 26 = .ok (.bipush (-4), 2) := by decide +kernel
theorem d_AR_write_28 : decode b_AR_write 28 = .ok (.ireturn, 1) := by decide +kernel
theorem d_AR_write_29 : decode b_AR_write 29 = .ok (.iload_n 2, 1) := by decide +kernel
theorem d_AR_write_30 : decode b_AR_write 30 = .ok (.iconst (-1), 1) := by decide +kernel
theorem d_AR_write_31 : decode b_AR_write 31 = .ok (.if_icmp .eq 11, 3) := by decide +kernel
theorem d_AR_write_34 : decode b_AR_write 34 = .ok (.iload_n 2, 1) := by decide +kernel
theorem d_AR_write_35 : decode b_AR_write 35 = .ok (.aload_n 3, 1) := by decide +kernel
theorem d_AR_write_36 : decode b_AR_write 36 = .ok (.getfield 146, 3) := by decide +kernel
theorem d_AR_write_39 : decode b_AR_write 39 = .ok (.if_icmp .ne 8, 3) := by decide +kernel
theorem d_AR_write_42 : decode b_AR_write 42 = .ok (.aload_n 3, 1) := by decide +kernel
theorem d_AR_write_43 : decode b_AR_write 43 = .ok (.iconst 1, 1) := by decide +kernel
theorem d_AR_write_44 : decode b_AR_write 44 = .ok (.putfield 149, 3) := by decide +kernel
theorem d_AR_write_47 : decode b_AR_write 47 = .ok (.aload_n 3, 1) := by decide +kernel
theorem d_AR_write_48 : decode b_AR_write 48 = .ok (.getfield 149, 3) := by decide +kernel
theorem d_AR_write_51 : decode b_AR_write 51 = .ok (.ifCond .eq 7, 3) := by decide +kernel
theorem d_AR_write_54 : decode b_AR_write 54 = .ok (.iconst 0, 1) := by decide +kernel
theorem d_AR_write_55 : decode b_AR_write 55 = .ok (.goto 4, 3) := by decide +kernel
theorem d_AR_write_58 : decode b_AR_write 58 = .ok (.iconst 1, 1) := by decide +kernel
theorem d_AR_write_59 : decode b_AR_write 59 = .ok (.ireturn, 1) := by decide +kernel
set_option maxHeartbeats 4000000 in
set_option maxRecDepth 100000 in
theorem c_AR_write (l : Launch) (D : va_G) (dA : Nat → ClassId) (M : mm_M) (x nc : Nat) (I : sI) (F : sF) (st : sT) (hC : cP dA M x I F st nc) (hwf : wf I F st) (q i : Int32) : mm_Ci l y_AR_write w_AR_write ({ frames := 1, cells := 0, slots := 0, locals := 22 }) 0 0 D vC (tyL dA) [.ref x, .int q, .int i] M (cs_post dA x nc (sp_write q i I F st)) := by
  intro sz
  refine mm_start (by decide) (Nat.le_of_ble_eq_true rfl) ?_
  intro p e s m below meth c A Q ls hA hQ S hr hlocks hin hK hw hl
  have hl : lv_has ls 4 [(0, .ref x), (1, .int q), (2, .int i)] := hl
  obtain ⟨lv, sr, gd, rs, ss, dr, cs, cg, hX, hL, hG, hS, hR, hT, hD, hCs, hE⟩ := id hC
  have hX : M x = some (.inr (0, [.ref lv, .int (I 1), .int (I 2), .ref sr, .ref gd, .int (I 3), .ref rs, .ref ss, .ref dr, .ref cs, .ref cg])) := hX
  obtain ⟨fG, ga, b, f, hgd, hfg, hga, hgi⟩ := id hG
  obtain ⟨n, hn, hN⟩ := hwf.2.2.1
  have hcn : cN (I 3) = n := cN_I hn (by omega)
  refine lv_aload_n S.1 S.2.1 d_AR_write_0 rfl (lv_at hl 0 rfl) ?_
  refine lv_iload_n S.1 S.2.1 d_AR_write_1 rfl (lv_at hl 1 rfl) ?_
  refine mm_callq hw (mm_runV (a := x) (As := [.int q]) (rest := []) S hK hw (c_AR_guardOf l D dA _ x lv sr gd rs ss dr cs cg I F fG ga b f n hn hN hX hgd hfg hga q _) bv_AR_guardOf gw_318 hX rfl (⟨rfl, rfl, by decide, by decide, by decide, by decide⟩) hl.1 rfl rfl (Nat.le_of_ble_eq_true rfl) d_AR_write_2) (fun r1 M2 H locs hp hw => ?_)
  rw [hp.1] at hw
  rcases hp.2 with ⟨hc3, rfl⟩ | ⟨hc3, rfl⟩
  · obtain ⟨j, ek, hj1, hjn, en⟩ := is_of hn (by omega) hc3.1
    have en : cN q = j := en
    have hgj : M (ga (cN q)) = some (oG F b f j) := by rw [en]; exact (hga j hj1 (by omega)).1
    have hgs : gst (F 14 j) (b j) (f j) := (hga j hj1 (by omega)).2
    have hf0 : f j = 0 := (gst_0 hgs).mpr (by have h9 := hc3.2; rw [en] at h9; exact h9)
    refine W.eq (g2 := F0 m 5 ls [.ref (ga (cN q))]) rfl ?_
    refine lv_astore_n (lv' := [(3, .ref (ga (cN q))), (0, .ref x), (1, .int q), (2, .int i)]) S.1 S.2.1 d_AR_write_5 rfl hl (by decide) rfl (fun ls hl => ?_)
    refine lv_aload_n S.1 S.2.1 d_AR_write_6 rfl (lv_at hl 0 rfl) ?_
    refine lv_ifnonnull (tgt := 13) S.1 S.2.1 d_AR_write_7 (by decide) ?_
    refine lv_iload_n S.1 S.2.1 d_AR_write_13 rfl (lv_at hl 3 rfl) ?_
    refine lv_iconst (v := (-1)) S.1 S.2.1 d_AR_write_14 (by decide) ?_
    refine lv_icmp_lt (tgt := 26) S.1 S.2.1 d_AR_write_15 (by decide) (fun c15 => ?_) (fun c15 => ?_)
    · refine lv_bipush (v := (-4)) S.1 S.2.1 d_AR_write_26 (by decide) ?_
      exact mm_reti S.1 S.2.1 hr hlocks hA hQ hw (cs_same hC (show sp_write q i I F st = ((-4), upd I 0 0, F, st) by simp only [sp_write, eq_true hc3, eq_true c15, not_true_eq_false, not_false_eq_true, and_true, true_and, and_false, false_and, and_self, or_true, true_or, or_false, false_or, or_self, ↓reduceIte, en])) (Nat.le_of_ble_eq_true rfl) (Nat.le_of_ble_eq_true rfl) d_AR_write_28
    · refine lv_iload_n S.1 S.2.1 d_AR_write_18 rfl (lv_at hl 3 rfl) ?_
      refine lv_aload_n S.1 S.2.1 d_AR_write_19 rfl (lv_at hl 0 rfl) ?_
      refine mm_get (C := R_GU) (T := T_GU) (N := 4) S hK.1 hw hgj rfl in_GU 1 (by decide) gw_301 rfl rfl d_AR_write_20 ?_
      refine lv_icmp_le (tgt := 29) S.1 S.2.1 d_AR_write_23 (by decide) (fun c23 => ?_) (fun c23 => ?_)
      · refine lv_iload_n S.1 S.2.1 d_AR_write_29 rfl (lv_at hl 3 rfl) ?_
        refine lv_iconst (v := (-1)) S.1 S.2.1 d_AR_write_30 (by decide) ?_
        refine lv_icmp_eq (tgt := 42) S.1 S.2.1 d_AR_write_31 (by decide) (fun c31 => ?_) (fun c31 => ?_)
        · refine lv_aload_n S.1 S.2.1 d_AR_write_42 rfl (lv_at hl 0 rfl) ?_
          refine lv_iconst (v := 1) S.1 S.2.1 d_AR_write_43 (by decide) ?_
          refine mm_put (C := R_GU) (T := T_GU) (N := 4) (ty := .boolean) (v := .int 1) S hK.1 hw hgj rfl in_GU t_GU k_GU n_GU 2 (by decide) gw_302 rfl rfl (by decide +kernel) (rfl) (rfl) (Nat.le_of_ble_eq_true rfl) d_AR_write_44 (fun H locs hw => ?_)
          obtain ⟨M4, eM4⟩ : ∃ zM : mm_M, zM = mm_up M (ga (cN q)) (.inr (7, [.int (F 12 (j)), .int (F 13 (j)), .int 1, .int (f (j))])) := ⟨_, rfl⟩
          have hw : mm_w D vC _ _ (mm_up M (ga (cN q)) (.inr (7, [.int (F 12 (j)), .int (F 13 (j)), .int 1, .int (f (j))]))) H _ := hw
          rw [← eM4] at hw
          have hX_4 : M4 x = some (.inr (0, [.ref lv, .int (I 1), .int (I 2), .ref sr, .ref gd, .int (I 3), .ref rs, .ref ss, .ref dr, .ref cs, .ref cg])) := by rw [eM4]; exact mm_uk hgj hX (by simp)
          have hgj_4 : M4 (ga (cN q)) = some (.inr (7, [.int (F 12 (j)), .int (F 13 (j)), .int 1, .int (f (j))])) := by rw [eM4]; exact mm_us
          refine lv_aload_n S.1 S.2.1 d_AR_write_47 rfl (lv_at hl 0 rfl) ?_
          refine mm_get (C := R_GU) (T := T_GU) (N := 4) S hK.1 hw hgj_4 rfl in_GU 2 (by decide) gw_302 rfl rfl d_AR_write_48 ?_
          refine lv_if_eq (tgt := 58) S.1 S.2.1 d_AR_write_51 (by decide) (fun c51 => absurd c51 (by decide)) (fun c51 => ?_)
          refine lv_iconst (v := 0) S.1 S.2.1 d_AR_write_54 (by decide) ?_
          refine lv_goto (tgt := 59) S.1 S.2.1 d_AR_write_55 (by decide) ?_
          have hk9 : kt M M4 [7] := by rw [eM4]; exact kt_up hgj (by simp [tg])
          have hP9 : cP dA M4 x (upd I 0 0) (va_up F 14 (upd (F 14) (cN q) 2)) st (nc + 1) := ⟨lv, sr, gd, rs, ss, dr, cs, cg, hk9 _ _ hX (by simp [tg]), cL_k hk9 hL (by decide) rfl rfl rfl rfl rfl rfl rfl rfl rfl, by rw [eM4, hf0, en]; exact cG_set hcn hgd hfg hga hgi hj1 hjn rfl rfl rfl rfl (Or.inr (Or.inr ⟨rfl, rfl, rfl⟩)), cS_k hk9 hS (by decide) rfl rfl, hk9 _ _ hR (by simp [tg]), hk9 _ _ hT (by simp [tg]), cD_k hk9 hD (by decide) rfl rfl, cC_k hk9 hCs (by decide) rfl, cE_k hk9 hE (by decide) (by omega) rfl⟩
          exact mm_reti S.1 S.2.1 hr hlocks hA hQ hw (cs_done hP9 (show sp_write q i I F st = (0, _, _, _) by simp only [sp_write, eq_true hc3, eq_false c15, eq_true c23, eq_true c31, not_true_eq_false, not_false_eq_true, and_true, true_and, and_false, false_and, and_self, or_true, true_or, or_false, false_or, or_self, ↓reduceIte, en])) (Nat.le_of_ble_eq_true rfl) (Nat.le_of_ble_eq_true rfl) d_AR_write_59
        · refine lv_iload_n S.1 S.2.1 d_AR_write_34 rfl (lv_at hl 3 rfl) ?_
          refine lv_aload_n S.1 S.2.1 d_AR_write_35 rfl (lv_at hl 0 rfl) ?_
          refine mm_get (C := R_GU) (T := T_GU) (N := 4) S hK.1 hw hgj rfl in_GU 1 (by decide) gw_301 rfl rfl d_AR_write_36 ?_
          refine lv_icmp_ne (tgt := 47) S.1 S.2.1 d_AR_write_39 (by decide) (fun c39 => ?_) (fun c39 => ?_)
          · refine lv_aload_n S.1 S.2.1 d_AR_write_47 rfl (lv_at hl 0 rfl) ?_
            refine mm_get (C := R_GU) (T := T_GU) (N := 4) S hK.1 hw hgj rfl in_GU 2 (by decide) gw_302 rfl rfl d_AR_write_48 ?_
            refine lv_if_eq (tgt := 58) S.1 S.2.1 d_AR_write_51 (by decide) (fun c51 => ?_) (fun c51 => ?_)
            · refine lv_iconst (v := 1) S.1 S.2.1 d_AR_write_58 (by decide) ?_
              exact mm_reti S.1 S.2.1 hr hlocks hA hQ hw (cs_same hC (show sp_write q i I F st = (1, upd I 0 0, F, st) by simp only [sp_write, eq_true hc3, eq_false c15, eq_true c23, eq_false c31, eq_false c39, not_true_eq_false, not_false_eq_true, and_true, true_and, and_false, false_and, and_self, or_true, true_or, or_false, false_or, or_self, ↓reduceIte, en, eq_false ((gst_2 hgs hf0).mp c51)])) (Nat.le_of_ble_eq_true rfl) (Nat.le_of_ble_eq_true rfl) d_AR_write_59
            · refine lv_iconst (v := 0) S.1 S.2.1 d_AR_write_54 (by decide) ?_
              refine lv_goto (tgt := 59) S.1 S.2.1 d_AR_write_55 (by decide) ?_
              have h2 : F 14 j = 2 := Classical.not_not.mp (fun q => c51 ((gst_2 hgs hf0).mpr q))
              exact mm_reti S.1 S.2.1 hr hlocks hA hQ hw (cs_same hC (show sp_write q i I F st = (0, upd I 0 0, F, st) by simp only [sp_write, eq_true hc3, eq_false c15, eq_true c23, eq_false c31, eq_false c39, not_true_eq_false, not_false_eq_true, and_true, true_and, and_false, false_and, and_self, or_true, true_or, or_false, false_or, or_self, ↓reduceIte, en, eq_true h2])) (Nat.le_of_ble_eq_true rfl) (Nat.le_of_ble_eq_true rfl) d_AR_write_59
          · refine lv_aload_n S.1 S.2.1 d_AR_write_42 rfl (lv_at hl 0 rfl) ?_
            refine lv_iconst (v := 1) S.1 S.2.1 d_AR_write_43 (by decide) ?_
            refine mm_put (C := R_GU) (T := T_GU) (N := 4) (ty := .boolean) (v := .int 1) S hK.1 hw hgj rfl in_GU t_GU k_GU n_GU 2 (by decide) gw_302 rfl rfl (by decide +kernel) (rfl) (rfl) (Nat.le_of_ble_eq_true rfl) d_AR_write_44 (fun H locs hw => ?_)
            obtain ⟨M5, eM5⟩ : ∃ zM : mm_M, zM = mm_up M (ga (cN q)) (.inr (7, [.int (F 12 (j)), .int (F 13 (j)), .int 1, .int (f (j))])) := ⟨_, rfl⟩
            have hw : mm_w D vC _ _ (mm_up M (ga (cN q)) (.inr (7, [.int (F 12 (j)), .int (F 13 (j)), .int 1, .int (f (j))]))) H _ := hw
            rw [← eM5] at hw
            have hX_5 : M5 x = some (.inr (0, [.ref lv, .int (I 1), .int (I 2), .ref sr, .ref gd, .int (I 3), .ref rs, .ref ss, .ref dr, .ref cs, .ref cg])) := by rw [eM5]; exact mm_uk hgj hX (by simp)
            have hgj_5 : M5 (ga (cN q)) = some (.inr (7, [.int (F 12 (j)), .int (F 13 (j)), .int 1, .int (f (j))])) := by rw [eM5]; exact mm_us
            refine lv_aload_n S.1 S.2.1 d_AR_write_47 rfl (lv_at hl 0 rfl) ?_
            refine mm_get (C := R_GU) (T := T_GU) (N := 4) S hK.1 hw hgj_5 rfl in_GU 2 (by decide) gw_302 rfl rfl d_AR_write_48 ?_
            refine lv_if_eq (tgt := 58) S.1 S.2.1 d_AR_write_51 (by decide) (fun c51 => absurd c51 (by decide)) (fun c51 => ?_)
            refine lv_iconst (v := 0) S.1 S.2.1 d_AR_write_54 (by decide) ?_
            refine lv_goto (tgt := 59) S.1 S.2.1 d_AR_write_55 (by decide) ?_
            have hk9 : kt M M5 [7] := by rw [eM5]; exact kt_up hgj (by simp [tg])
            have hP9 : cP dA M5 x (upd I 0 0) (va_up F 14 (upd (F 14) (cN q) 2)) st (nc + 1) := ⟨lv, sr, gd, rs, ss, dr, cs, cg, hk9 _ _ hX (by simp [tg]), cL_k hk9 hL (by decide) rfl rfl rfl rfl rfl rfl rfl rfl rfl, by rw [eM5, hf0, en]; exact cG_set hcn hgd hfg hga hgi hj1 hjn rfl rfl rfl rfl (Or.inr (Or.inr ⟨rfl, rfl, rfl⟩)), cS_k hk9 hS (by decide) rfl rfl, hk9 _ _ hR (by simp [tg]), hk9 _ _ hT (by simp [tg]), cD_k hk9 hD (by decide) rfl rfl, cC_k hk9 hCs (by decide) rfl, cE_k hk9 hE (by decide) (by omega) rfl⟩
            exact mm_reti S.1 S.2.1 hr hlocks hA hQ hw (cs_done hP9 (show sp_write q i I F st = (0, _, _, _) by simp only [sp_write, eq_true hc3, eq_false c15, eq_true c23, eq_false c31, eq_true c39, not_true_eq_false, not_false_eq_true, and_true, true_and, and_false, false_and, and_self, or_true, true_or, or_false, false_or, or_self, ↓reduceIte, en])) (Nat.le_of_ble_eq_true rfl) (Nat.le_of_ble_eq_true rfl) d_AR_write_59
      · refine lv_bipush (v := (-4)) S.1 S.2.1 d_AR_write_26 (by decide) ?_
        exact mm_reti S.1 S.2.1 hr hlocks hA hQ hw (cs_same hC (show sp_write q i I F st = ((-4), upd I 0 0, F, st) by simp only [sp_write, eq_true hc3, eq_false c15, eq_false c23, not_true_eq_false, not_false_eq_true, and_true, true_and, and_false, false_and, and_self, or_true, true_or, or_false, false_or, or_self, ↓reduceIte, en])) (Nat.le_of_ble_eq_true rfl) (Nat.le_of_ble_eq_true rfl) d_AR_write_28
  · refine W.eq (g2 := F0 m 5 ls [.null]) rfl ?_
    refine lv_astore_nN (lv' := [(3, .null), (0, .ref x), (1, .int q), (2, .int i)]) S.1 S.2.1 d_AR_write_5 rfl hl (by decide) rfl (fun ls hl => ?_)
    refine lv_aload_nN S.1 S.2.1 d_AR_write_6 rfl (lv_at hl 0 rfl) ?_
    refine lv_ifnonnullN S.1 S.2.1 d_AR_write_7 ?_
    refine lv_bipush (v := (-2)) S.1 S.2.1 d_AR_write_10 (by decide) ?_
    exact mm_reti S.1 S.2.1 hr hlocks hA hQ hw (cs_same hC (show sp_write q i I F st = ((-2), upd I 0 0, F, st) by simp only [sp_write, eq_false hc3, not_true_eq_false, not_false_eq_true, and_true, true_and, and_false, false_and, and_self, or_true, true_or, or_false, false_or, or_self, ↓reduceIte])) (Nat.le_of_ble_eq_true rfl) (Nat.le_of_ble_eq_true rfl) d_AR_write_12
theorem d_AR_free_0 : decode b_AR_free 0 = .ok (.aload_n 0, 1) := by decide +kernel
theorem d_AR_free_1 : decode b_AR_free 1 = .ok (.iload_n 1, 1) := by decide +kernel
theorem d_AR_free_2 : decode b_AR_free 2 = .ok (.invokevirtual 142, 3) := by decide +kernel
theorem d_AR_free_5 : decode b_AR_free 5 = .ok (.astore_n 2, 1) := by decide +kernel
theorem d_AR_free_6 : decode b_AR_free 6 = .ok (.aload_n 2, 1) := by decide +kernel
theorem d_AR_free_7 : decode b_AR_free 7 = .ok (.ifnonnull 6, 3) := by decide +kernel
theorem d_AR_free_10 : decode b_AR_free 10 = .ok (.bipush (-2), 2) := by decide +kernel
theorem d_AR_free_12 : decode b_AR_free 12 = .ok (.ireturn, 1) := by decide +kernel
theorem d_AR_free_13 : decode b_AR_free 13 = .ok (.aload_n 2, 1) := by decide +kernel
theorem d_AR_free_14 : decode b_AR_free 14 = .ok (.iconst 1, 1) := by decide +kernel
theorem d_AR_free_15 : decode b_AR_free 15 = .ok (.putfield 153, 3) := by decide +kernel
theorem d_AR_free_18 : decode b_AR_free 18 = .ok (.aload_n 2, 1) := by decide +kernel
theorem d_AR_free_19 : decode b_AR_free 19 = .ok (.getfield 149, 3) := by decide +kernel
theorem d_AR_free_22 : decode b_AR_free 22 = .ok (.ifCond .eq 13, 3) := by decide +kernel
theorem d_AR_free_25 : decode b_AR_free 25 = .ok (.bipush (-10), 2) := by decide +kernel
theorem d_AR_free_27 : decode b_AR_free 27 = .ok (.aload_n 2, 1) := by decide +kernel
theorem d_AR_free_28 : decode b_AR_free 28 = .ok (.getfield 156, 3) := by decide +kernel
theorem d_AR_free_31 : decode b_AR_free 31 = .ok (.isub, 1) := by decide +kernel
theorem d_AR_free_32 : decode b_AR_free 32 = .ok (.goto 4, 3) := by decide +kernel
theorem d_AR_free_35 : decode b_AR_free 35 = .ok (.iconst 1, 1) := by decide +kernel
theorem d_AR_free_36 : decode b_AR_free 36 = .ok (.ireturn, 1) := by decide +kernel
set_option maxHeartbeats 4000000 in
set_option maxRecDepth 100000 in
theorem c_AR_free (l : Launch) (D : va_G) (dA : Nat → ClassId) (M : mm_M) (x nc : Nat) (I : sI) (F : sF) (st : sT) (hC : cP dA M x I F st nc) (hwf : wf I F st) (q : Int32) : mm_Ci l y_AR_free w_AR_free ({ frames := 1, cells := 0, slots := 0, locals := 22 }) 0 0 D vC (tyL dA) [.ref x, .int q] M (cs_post dA x nc (sp_free q I F st)) := by
  intro sz
  refine mm_start (by decide) (Nat.le_of_ble_eq_true rfl) ?_
  intro p e s m below meth c A Q ls hA hQ S hr hlocks hin hK hw hl
  have hl : lv_has ls 3 [(0, .ref x), (1, .int q)] := hl
  obtain ⟨lv, sr, gd, rs, ss, dr, cs, cg, hX, hL, hG, hS, hR, hT, hD, hCs, hE⟩ := id hC
  have hX : M x = some (.inr (0, [.ref lv, .int (I 1), .int (I 2), .ref sr, .ref gd, .int (I 3), .ref rs, .ref ss, .ref dr, .ref cs, .ref cg])) := hX
  obtain ⟨fG, ga, b, f, hgd, hfg, hga, hgi⟩ := id hG
  obtain ⟨n, hn, hN⟩ := hwf.2.2.1
  have hcn : cN (I 3) = n := cN_I hn (by omega)
  refine lv_aload_n S.1 S.2.1 d_AR_free_0 rfl (lv_at hl 0 rfl) ?_
  refine lv_iload_n S.1 S.2.1 d_AR_free_1 rfl (lv_at hl 1 rfl) ?_
  refine mm_callq hw (mm_runV (a := x) (As := [.int q]) (rest := []) S hK hw (c_AR_guardOf l D dA _ x lv sr gd rs ss dr cs cg I F fG ga b f n hn hN hX hgd hfg hga q _) bv_AR_guardOf gw_318 hX rfl (⟨rfl, rfl, by decide, by decide, by decide, by decide⟩) hl.1 rfl rfl (Nat.le_of_ble_eq_true rfl) d_AR_free_2) (fun r1 M2 H locs hp hw => ?_)
  rw [hp.1] at hw
  rcases hp.2 with ⟨hc3, rfl⟩ | ⟨hc3, rfl⟩
  · obtain ⟨j, ek, hj1, hjn, en⟩ := is_of hn (by omega) hc3.1
    have en : cN q = j := en
    have hgj : M (ga (cN q)) = some (oG F b f j) := by rw [en]; exact (hga j hj1 (by omega)).1
    have hgs : gst (F 14 j) (b j) (f j) := (hga j hj1 (by omega)).2
    have hf0 : f j = 0 := (gst_0 hgs).mpr (by have h9 := hc3.2; rw [en] at h9; exact h9)
    refine W.eq (g2 := F0 m 5 ls [.ref (ga (cN q))]) rfl ?_
    refine lv_astore_n (lv' := [(2, .ref (ga (cN q))), (0, .ref x), (1, .int q)]) S.1 S.2.1 d_AR_free_5 rfl hl (by decide) rfl (fun ls hl => ?_)
    refine lv_aload_n S.1 S.2.1 d_AR_free_6 rfl (lv_at hl 0 rfl) ?_
    refine lv_ifnonnull (tgt := 13) S.1 S.2.1 d_AR_free_7 (by decide) ?_
    refine lv_aload_n S.1 S.2.1 d_AR_free_13 rfl (lv_at hl 0 rfl) ?_
    refine lv_iconst (v := 1) S.1 S.2.1 d_AR_free_14 (by decide) ?_
    refine mm_put (C := R_GU) (T := T_GU) (N := 4) (ty := .boolean) (v := .int 1) S hK.1 hw hgj rfl in_GU t_GU k_GU n_GU 3 (by decide) gw_304 rfl rfl (by decide +kernel) (rfl) (rfl) (Nat.le_of_ble_eq_true rfl) d_AR_free_15 (fun H locs hw => ?_)
    obtain ⟨M4, eM4⟩ : ∃ zM : mm_M, zM = mm_up M (ga (cN q)) (.inr (7, [.int (F 12 (j)), .int (F 13 (j)), .int (b (j)), .int 1])) := ⟨_, rfl⟩
    have hw : mm_w D vC _ _ (mm_up M (ga (cN q)) (.inr (7, [.int (F 12 (j)), .int (F 13 (j)), .int (b (j)), .int 1]))) H _ := hw
    rw [← eM4] at hw
    have hX_4 : M4 x = some (.inr (0, [.ref lv, .int (I 1), .int (I 2), .ref sr, .ref gd, .int (I 3), .ref rs, .ref ss, .ref dr, .ref cs, .ref cg])) := by rw [eM4]; exact mm_uk hgj hX (by simp)
    have hgj_4 : M4 (ga (cN q)) = some (.inr (7, [.int (F 12 (j)), .int (F 13 (j)), .int (b (j)), .int 1])) := by rw [eM4]; exact mm_us
    refine lv_aload_n S.1 S.2.1 d_AR_free_18 rfl (lv_at hl 0 rfl) ?_
    refine mm_get (C := R_GU) (T := T_GU) (N := 4) S hK.1 hw hgj_4 rfl in_GU 2 (by decide) gw_302 rfl rfl d_AR_free_19 ?_
    refine lv_if_eq (tgt := 35) S.1 S.2.1 d_AR_free_22 (by decide) (fun c22 => ?_) (fun c22 => ?_)
    · refine lv_iconst (v := 1) S.1 S.2.1 d_AR_free_35 (by decide) ?_
      have hk9 : kt M M4 [7] := by rw [eM4]; exact kt_up hgj (by simp [tg])
      have hP9 : cP dA M4 x (upd I 0 0) (va_up F 14 (upd (F 14) (cN q) 0)) st (nc + 1) := ⟨lv, sr, gd, rs, ss, dr, cs, cg, hk9 _ _ hX (by simp [tg]), cL_k hk9 hL (by decide) rfl rfl rfl rfl rfl rfl rfl rfl rfl, by rw [eM4, en]; exact cG_set hcn hgd hfg hga hgi hj1 hjn rfl rfl rfl rfl (Or.inl ⟨rfl, rfl, (gst_f hgs).2⟩), cS_k hk9 hS (by decide) rfl rfl, hk9 _ _ hR (by simp [tg]), hk9 _ _ hT (by simp [tg]), cD_k hk9 hD (by decide) rfl rfl, cC_k hk9 hCs (by decide) rfl, cE_k hk9 hE (by decide) (by omega) rfl⟩
      exact mm_reti S.1 S.2.1 hr hlocks hA hQ hw (cs_done hP9 (show sp_free q I F st = (1, _, _, _) by simp only [sp_free, eq_true hc3, not_true_eq_false, not_false_eq_true, and_true, true_and, and_false, false_and, and_self, or_true, true_or, or_false, false_or, or_self, ↓reduceIte, en, eq_false ((gst_2 hgs hf0).mp c22)])) (Nat.le_of_ble_eq_true rfl) (Nat.le_of_ble_eq_true rfl) d_AR_free_36
    · refine lv_bipush (v := (-10)) S.1 S.2.1 d_AR_free_25 (by decide) ?_
      refine lv_aload_n S.1 S.2.1 d_AR_free_27 rfl (lv_at hl 0 rfl) ?_
      refine mm_get (C := R_GU) (T := T_GU) (N := 4) S hK.1 hw hgj_4 rfl in_GU 0 (by decide) gw_299 rfl rfl d_AR_free_28 ?_
      refine lv_isub S.1 S.2.1 d_AR_free_31 ?_
      refine lv_goto (tgt := 36) S.1 S.2.1 d_AR_free_32 (by decide) ?_
      have hk9 : kt M M4 [7] := by rw [eM4]; exact kt_up hgj (by simp [tg])
      have hP9 : cP dA M4 x (upd I 0 0) (va_up F 14 (upd (F 14) (cN q) 0)) st (nc + 1) := ⟨lv, sr, gd, rs, ss, dr, cs, cg, hk9 _ _ hX (by simp [tg]), cL_k hk9 hL (by decide) rfl rfl rfl rfl rfl rfl rfl rfl rfl, by rw [eM4, en]; exact cG_set hcn hgd hfg hga hgi hj1 hjn rfl rfl rfl rfl (Or.inl ⟨rfl, rfl, (gst_f hgs).2⟩), cS_k hk9 hS (by decide) rfl rfl, hk9 _ _ hR (by simp [tg]), hk9 _ _ hT (by simp [tg]), cD_k hk9 hD (by decide) rfl rfl, cC_k hk9 hCs (by decide) rfl, cE_k hk9 hE (by decide) (by omega) rfl⟩
      have h2 : F 14 j = 2 := Classical.not_not.mp (fun q => c22 ((gst_2 hgs hf0).mpr q))
      exact mm_reti S.1 S.2.1 hr hlocks hA hQ hw (cs_done hP9 (show sp_free q I F st = (((-10) - (F 12 (j))), _, _, _) by simp only [sp_free, eq_true hc3, not_true_eq_false, not_false_eq_true, and_true, true_and, and_false, false_and, and_self, or_true, true_or, or_false, false_or, or_self, ↓reduceIte, en, eq_true h2])) (Nat.le_of_ble_eq_true rfl) (Nat.le_of_ble_eq_true rfl) d_AR_free_36
  · refine W.eq (g2 := F0 m 5 ls [.null]) rfl ?_
    refine lv_astore_nN (lv' := [(2, .null), (0, .ref x), (1, .int q)]) S.1 S.2.1 d_AR_free_5 rfl hl (by decide) rfl (fun ls hl => ?_)
    refine lv_aload_nN S.1 S.2.1 d_AR_free_6 rfl (lv_at hl 0 rfl) ?_
    refine lv_ifnonnullN S.1 S.2.1 d_AR_free_7 ?_
    refine lv_bipush (v := (-2)) S.1 S.2.1 d_AR_free_10 (by decide) ?_
    exact mm_reti S.1 S.2.1 hr hlocks hA hQ hw (cs_same hC (show sp_free q I F st = ((-2), upd I 0 0, F, st) by simp only [sp_free, eq_false hc3, not_true_eq_false, not_false_eq_true, and_true, true_and, and_false, false_and, and_self, or_true, true_or, or_false, false_or, or_self, ↓reduceIte])) (Nat.le_of_ble_eq_true rfl) (Nat.le_of_ble_eq_true rfl) d_AR_free_12
theorem d_AR_guard_0 : decode b_AR_guard 0 = .ok (.iload_n 1, 1) := by decide +kernel
theorem d_AR_guard_1 : decode b_AR_guard 1 = .ok (.invokestatic 115, 3) := by decide +kernel
theorem d_AR_guard_4 : decode b_AR_guard 4 = .ok (.ifCond .eq 14, 3) := by decide +kernel
theorem d_AR_guard_7 : decode b_AR_guard 7 = .ok (.iload_n 2, 1) := by decide +kernel
theorem d_AR_guard_8 : decode b_AR_guard 8 = .ok (.iconst 1, 1) := by decide +kernel
theorem d_AR_guard_9 : decode b_AR_guard 9 = .ok (.if_icmp .lt 9, 3) := by decide +kernel
theorem d_AR_guard_12 : decode b_AR_guard 12 = .ok (.iload_n 2, 1) := by decide +kernel
theorem d_AR_guard_13 : decode b_AR_guard 13 = .ok (.bipush 64, 2) := by decide +kernel
theorem d_AR_guard_15 : decode b_AR_guard 15 = .ok (.if_icmp .le 6, 3) := by decide +kernel
theorem d_AR_guard_18 : decode b_AR_guard 18 = .ok (.bipush (-4), 2) := by decide +kernel
theorem d_AR_guard_20 : decode b_AR_guard 20 = .ok (.ireturn, 1) := by decide +kernel
theorem d_AR_guard_21 : decode b_AR_guard 21 = .ok (.aload_n 0, 1) := by decide +kernel
theorem d_AR_guard_22 : decode b_AR_guard 22 = .ok (.getfield 136, 3) := by decide +kernel
theorem d_AR_guard_25 : decode b_AR_guard 25 = .ok (.bipush 60, 2) := by decide +kernel
theorem d_AR_guard_27 : decode b_AR_guard 27 = .ok (.if_icmp .lt 5, 3) := by decide +kernel
theorem d_AR_guard_30 : decode b_AR_guard 30 = .ok (.iconst (-1), 1) := by decide +kernel
theorem d_AR_guard_31 : decode b_AR_guard 31 = .ok (.ireturn, 1) := by decide +kernel
theorem d_AR_guard_32 : decode b_AR_guard 32 = .ok (.aload_n 0, 1) := by decide +kernel
theorem d_AR_guard_33 : decode b_AR_guard 33 = .ok (.getfield 24, 3) := by decide +kernel
theorem d_AR_guard_36 : decode b_AR_guard 36 = .ok (.aload_n 0, 1) := by decide +kernel
theorem d_AR_guard_37 : decode b_AR_guard 37 = .ok (.getfield 136, 3) := by decide +kernel
theorem d_AR_guard_40 : decode b_AR_guard 40 = .ok (.new 22, 3) := by decide +kernel
theorem d_AR_guard_43 : decode b_AR_guard 43 = .ok (.dup, 1) := by decide +kernel
theorem d_AR_guard_44 : decode b_AR_guard 44 = .ok (.iload_n 1, 1) := by decide +kernel
theorem d_AR_guard_45 : decode b_AR_guard 45 = .ok (.iload_n 2, 1) := by decide +kernel
theorem d_AR_guard_46 : decode b_AR_guard 46 = .ok (.invokespecial 139, 3) := by decide +kernel
theorem d_AR_guard_49 : decode b_AR_guard 49 = .ok (.aastore, 1) := by decide +kernel
theorem d_AR_guard_50 : decode b_AR_guard 50 = .ok (.aload_n 0, 1) := by decide +kernel
theorem d_AR_guard_51 : decode b_AR_guard 51 = .ok (.dup, 1) := by decide +kernel
theorem d_AR_guard_52 : decode b_AR_guard 52 = .ok (.getfield 136, 3) := by decide +kernel
theorem d_AR_guard_55 : decode b_AR_guard 55 = .ok (.iconst 1, 1) := by decide +kernel
theorem d_AR_guard_56 : decode b_AR_guard 56 = .ok (.iadd, 1) := by decide +kernel
theorem d_AR_guard_57 : decode b_AR_guard 57 = .ok (.putfield 136, 3) := by decide +kernel
theorem d_AR_guard_60 : decode b_AR_guard 60 = .ok (.aload_n 0, 1) := by decide +kernel
theorem d_AR_guard_61 : decode b_AR_guard 61 = .ok (.getfield 136, 3) := by decide +kernel
theorem d_AR_guard_64 : decode b_AR_guard 64 = .ok (.ireturn, 1) := by decide +kernel
set_option maxHeartbeats 4000000 in
set_option maxRecDepth 100000 in
theorem c_AR_guard (l : Launch) (D : va_G) (dA : Nat → ClassId) (M : mm_M) (x nc : Nat) (I : sI) (F : sF) (st : sT) (hC : cP dA M x I F st nc) (hwf : wf I F st) (t z : Int32) : mm_Ci l y_AR_guard w_AR_guard ({ frames := 2, cells := 1, slots := 4, locals := 42 }) 1 4 D vC (tyL dA) [.ref x, .int t, .int z] M (cs_post dA x nc (sp_guard t z I F st)) := by
  intro sz
  refine mm_start (by decide) (Nat.le_of_ble_eq_true rfl) ?_
  intro p e s m below meth c A Q ls hA hQ S hr hlocks hin hK hw hl
  have hl : lv_has ls 3 [(0, .ref x), (1, .int t), (2, .int z)] := hl
  obtain ⟨lv, sr, gd, rs, ss, dr, cs, cg, hX, hL, hG, hS, hR, hT, hD, hCs, hE⟩ := id hC
  have hX : M x = some (.inr (0, [.ref lv, .int (I 1), .int (I 2), .ref sr, .ref gd, .int (I 3), .ref rs, .ref ss, .ref dr, .ref cs, .ref cg])) := hX
  obtain ⟨fG, ga, b, f, hgd, hfg, hga, hgi⟩ := id hG
  obtain ⟨n, hn, hN⟩ := hwf.2.2.1
  have hcn : cN (I 3) = n := cN_I hn (by omega)
  refine lv_iload_n S.1 S.2.1 d_AR_guard_0 rfl (lv_at hl 1 rfl) ?_
  refine mm_calli hw (mm_runS (As := [.int t]) (rest := []) S hK hw (c_AR_isTask l D dA _ t _) bs_AR_isTask gw_235 (⟨rfl, rfl, by decide, by decide, by decide, by decide⟩) hl.1 rfl rfl (Nat.le_of_ble_eq_true rfl) d_AR_guard_1) (fun r1 M2 H locs hp hw => ?_)
  rw [hp.1] at hw
  rcases hp.2 with ⟨rfl, hc3⟩ | ⟨rfl, hc3⟩
  · obtain ⟨j4, ekj4, hlj4, hhj4, enj4⟩ := is_of (N := 40) rfl (by omega) hc3
    refine lv_if_eq (tgt := 18) S.1 S.2.1 d_AR_guard_4 (by decide) (fun c4 => absurd c4 (by decide)) (fun c4 => ?_)
    refine lv_iload_n S.1 S.2.1 d_AR_guard_7 rfl (lv_at hl 2 rfl) ?_
    refine lv_iconst (v := 1) S.1 S.2.1 d_AR_guard_8 (by decide) ?_
    refine lv_icmp_lt (tgt := 18) S.1 S.2.1 d_AR_guard_9 (by decide) (fun c9 => ?_) (fun c9 => ?_)
    · refine lv_bipush (v := (-4)) S.1 S.2.1 d_AR_guard_18 (by decide) ?_
      exact mm_reti S.1 S.2.1 hr hlocks hA hQ hw (cs_same hC (show sp_guard t z I F st = ((-4), upd I 0 0, F, st) by simp only [sp_guard, eq_true hc3, eq_false c4, eq_true c9, not_true_eq_false, not_false_eq_true, and_true, true_and, and_false, false_and, and_self, or_true, true_or, or_false, false_or, or_self, ↓reduceIte])) (Nat.le_of_ble_eq_true rfl) (Nat.le_of_ble_eq_true rfl) d_AR_guard_20
    · refine lv_iload_n S.1 S.2.1 d_AR_guard_12 rfl (lv_at hl 2 rfl) ?_
      refine lv_bipush (v := 64) S.1 S.2.1 d_AR_guard_13 (by decide) ?_
      refine lv_icmp_le (tgt := 21) S.1 S.2.1 d_AR_guard_15 (by decide) (fun c15 => ?_) (fun c15 => ?_)
      · refine lv_aload_n S.1 S.2.1 d_AR_guard_21 rfl (lv_at hl 0 rfl) ?_
        refine mm_get (C := R_AR) (T := T_AR) (N := 11) S hK.1 hw hX rfl in_AR 5 (by decide) gw_93 rfl rfl d_AR_guard_22 ?_
        refine lv_bipush (v := 60) S.1 S.2.1 d_AR_guard_25 (by decide) ?_
        refine lv_icmp_lt (tgt := 32) S.1 S.2.1 d_AR_guard_27 (by decide) (fun c27 => ?_) (fun c27 => ?_)
        · have hn1 : n < 60 := by
            rcases Nat.lt_or_ge n 60 with q | q
            · exact q
            · exact absurd (by rw [hn, show n = 60 by omega] at c27; exact c27) (by decide)
          refine lv_aload_n S.1 S.2.1 d_AR_guard_32 rfl (lv_at hl 0 rfl) ?_
          refine mm_get (C := R_AR) (T := T_AR) (N := 11) S hK.1 hw hX rfl in_AR 4 (by decide) gw_92 rfl rfl d_AR_guard_33 ?_
          refine lv_aload_n S.1 S.2.1 d_AR_guard_36 rfl (lv_at hl 0 rfl) ?_
          refine mm_get (C := R_AR) (T := T_AR) (N := 11) S hK.1 hw hX rfl in_AR 5 (by decide) gw_93 rfl rfl d_AR_guard_37 ?_
          refine mm_new (C := R_GU) (T := T_GU) (N := 4) (ci := 7) (fs := [.int 0, .int 0, .int 0, .int 0]) S hK.1 hw rfl in_GU t_GU k_GU gw_47 gw_293 gw_18 (fun j hj => by rcases (show j = 0 ∨ j = 1 ∨ j = 2 ∨ j = 3 by omega) with rfl | rfl | rfl | rfl <;> rfl) (Nat.le_of_ble_eq_true rfl) (Nat.le_of_ble_eq_true rfl) d_AR_guard_40 (fun q5 H hqq5 hw => ?_)
          obtain ⟨M6, eM6⟩ : ∃ zM : mm_M, zM = mm_up M q5 (.inr (7, [.int 0, .int 0, .int 0, .int 0])) := ⟨_, rfl⟩
          have hw : mm_w D vC _ _ (mm_up M q5 (.inr (7, [.int 0, .int 0, .int 0, .int 0]))) H _ := hw
          rw [← eM6] at hw
          have hX_6 : M6 x = some (.inr (0, [.ref lv, .int (I 1), .int (I 2), .ref sr, .ref gd, .int (I 3), .ref rs, .ref ss, .ref dr, .ref cs, .ref cg])) := by rw [eM6]; exact mm_fk hqq5 hX
          have hgd_6 : M6 gd = some (.inl (dA 4, 60, .inr (.inr (.inr (.inr (fG)))))) := by rw [eM6]; exact mm_fk hqq5 hgd
          have hq5_6 : M6 q5 = some (.inr (7, [.int 0, .int 0, .int 0, .int 0])) := by rw [eM6]; exact mm_us
          refine lv_dup S.1 S.2.1 d_AR_guard_43 rfl ?_
          refine lv_iload_n S.1 S.2.1 d_AR_guard_44 rfl (lv_at hl 1 rfl) ?_
          refine lv_iload_n S.1 S.2.1 d_AR_guard_45 rfl (lv_at hl 2 rfl) ?_
          refine mm_callv hw (mm_runI (a := q5) (As := [.int t, .int z]) (rest := [.ref q5, .int (I 3), .ref gd]) S hK hw (c_GU_init l D dA _ q5 (t) (z) hq5_6 _) bi_GU_init gw_294 (⟨rfl, rfl, by decide, by decide, by decide, by decide⟩) hl.1 rfl rfl (Nat.le_of_ble_eq_true rfl) d_AR_guard_46) (fun M8 H locs hp hw => ?_)
          have hX_9 : M8 x = some (.inr (0, [.ref lv, .int (I 1), .int (I 2), .ref sr, .ref gd, .int (I 3), .ref rs, .ref ss, .ref dr, .ref cs, .ref cg])) := by rw [hp]; exact mm_uk hq5_6 hX_6 (by simp)
          have hgd_10 : M8 gd = some (.inl (dA 4, 60, .inr (.inr (.inr (.inr (fG)))))) := by rw [hp]; exact mm_uk hq5_6 hgd_6 (by simp)
          have hq5_11 : M8 q5 = some (.inr (7, [.int t, .int z, .int 0, .int 0])) := by rw [hp]; exact mm_us
          have eM8 := hp
          refine mn_astq (j := n) (r := (R_GU, T_GU, 4)) S hK.1 hw 4 7 hgd_10 rfl hq5_11 rfl (hn) (by omega) (by decide) d_AR_guard_49 (fun H locs hw => ?_)
          obtain ⟨M12, eM12⟩ : ∃ zM : mm_M, zM = mm_up M8 gd (.inl (dA 4, 60, .inr (.inr (.inr (.inr (va_up (fG) (n) (some q5))))))) := ⟨_, rfl⟩
          have hw : mm_w D vC _ _ (mm_up M8 gd (.inl (dA 4, 60, .inr (.inr (.inr (.inr (va_up (fG) (n) (some q5)))))))) H _ := hw
          rw [← eM12] at hw
          have hX_12 : M12 x = some (.inr (0, [.ref lv, .int (I 1), .int (I 2), .ref sr, .ref gd, .int (I 3), .ref rs, .ref ss, .ref dr, .ref cs, .ref cg])) := by rw [eM12]; exact mm_uk hgd_10 hX_9 (by simp)
          have hq5_12 : M12 q5 = some (.inr (7, [.int t, .int z, .int 0, .int 0])) := by rw [eM12]; exact mm_uk hgd_10 hq5_11 (by simp)
          have hgd_12 : M12 gd = some (.inl (dA 4, 60, .inr (.inr (.inr (.inr (va_up (fG) (n) (some q5))))))) := by rw [eM12]; exact mm_us
          refine lv_aload_n S.1 S.2.1 d_AR_guard_50 rfl (lv_at hl 0 rfl) ?_
          refine lv_dup S.1 S.2.1 d_AR_guard_51 rfl ?_
          refine mm_get (C := R_AR) (T := T_AR) (N := 11) S hK.1 hw hX_12 rfl in_AR 5 (by decide) gw_93 rfl rfl d_AR_guard_52 ?_
          refine lv_iconst (v := 1) S.1 S.2.1 d_AR_guard_55 (by decide) ?_
          refine lv_iadd S.1 S.2.1 d_AR_guard_56 ?_
          refine mm_put (C := R_AR) (T := T_AR) (N := 11) (ty := .int) (v := .int ((I 3) + 1)) S hK.1 hw hX_12 rfl in_AR t_AR k_AR n_AR 5 (by decide) gw_93 rfl rfl (by decide +kernel) (rfl) (rfl) (Nat.le_of_ble_eq_true rfl) d_AR_guard_57 (fun H locs hw => ?_)
          obtain ⟨M13, eM13⟩ : ∃ zM : mm_M, zM = mm_up M12 x (.inr (0, [.ref lv, .int (I 1), .int (I 2), .ref sr, .ref gd, .int ((I 3) + 1), .ref rs, .ref ss, .ref dr, .ref cs, .ref cg])) := ⟨_, rfl⟩
          have hw : mm_w D vC _ _ (mm_up M12 x (.inr (0, [.ref lv, .int (I 1), .int (I 2), .ref sr, .ref gd, .int ((I 3) + 1), .ref rs, .ref ss, .ref dr, .ref cs, .ref cg]))) H _ := hw
          rw [← eM13] at hw
          have hgd_13 : M13 gd = some (.inl (dA 4, 60, .inr (.inr (.inr (.inr (va_up (fG) (n) (some q5))))))) := by rw [eM13]; exact mm_uk hX_12 hgd_12 (by simp)
          have hq5_13 : M13 q5 = some (.inr (7, [.int t, .int z, .int 0, .int 0])) := by rw [eM13]; exact mm_uk hX_12 hq5_12 (by simp)
          have hX_13 : M13 x = some (.inr (0, [.ref lv, .int (I 1), .int (I 2), .ref sr, .ref gd, .int ((I 3) + 1), .ref rs, .ref ss, .ref dr, .ref cs, .ref cg])) := by rw [eM13]; exact mm_us
          refine lv_aload_n S.1 S.2.1 d_AR_guard_60 rfl (lv_at hl 0 rfl) ?_
          refine mm_get (C := R_AR) (T := T_AR) (N := 11) S hK.1 hw hX_13 rfl in_AR 5 (by decide) gw_93 rfl rfl d_AR_guard_61 ?_
          have h60 : ¬ I 3 = 60 := fun h => by rw [h] at c27; exact absurd c27 (by decide)
          have hi3 : I 3 + 1 = nI (n + 1) := by rw [hn, nI_1]
          have hci : cN (I 3 + 1) = n + 1 := cN_I hi3 (by omega)
          have hk9 : kt M M13 [0, 1060] := by
            have e9 : M8 = mm_up M q5 (.inr (7, [.int t, .int z, .int 0, .int 0])) := by rw [eM8, eM6]; exact mm_uu
            rw [eM13, eM12, e9]
            exact kt_tr (kt_nw hqq5) (kt_tr (kt_up (e0 := aQ (dA 4) 60 fG) (mm_fk hqq5 hgd) (by simp [tg])) (kt_up (mm_uk (mm_fk hqq5 hgd) (mm_fk hqq5 hX) (by simp)) (by simp [tg])))
          have hP9 : cP dA M13 x (upd (upd I 0 0) 3 (I 3 + 1)) (va_up (va_up (va_up F 12 (upd (F 12) (cN (I 3 + 1)) t)) 13 (upd (F 13) (cN (I 3 + 1)) z)) 14 (upd (F 14) (cN (I 3 + 1)) 1)) st (nc + 1) := ⟨lv, sr, gd, rs, ss, dr, cs, cg, hX_13, cL_k hk9 hL (by decide) rfl rfl rfl rfl rfl rfl rfl rfl rfl, cG_new (n := n) (q := q5) hcn hn1 hfg hga hgi hk9 hgd_13 hq5_13 hqq5 hci (by rw [hci]; rfl) (by rw [hci]; rfl) (by rw [hci]; rfl), cS_k hk9 hS (by decide) rfl rfl, hk9 _ _ hR (by simp [tg]), hk9 _ _ hT (by simp [tg]), cD_k hk9 hD (by decide) rfl rfl, cC_k hk9 hCs (by decide) rfl, cE_k hk9 hE (by decide) (by omega) rfl⟩
          exact mm_reti S.1 S.2.1 hr hlocks hA hQ hw (cs_done hP9 (show sp_guard t z I F st = (I 3 + 1, _, _, _) by simp only [sp_guard, eq_true hc3, eq_false c4, eq_false c9, eq_true c15, not_true_eq_false, not_false_eq_true, and_true, true_and, and_false, false_and, and_self, or_true, true_or, or_false, false_or, or_self, ↓reduceIte, eq_false h60])) (Nat.le_of_ble_eq_true rfl) (Nat.le_of_ble_eq_true rfl) d_AR_guard_64
        · refine lv_iconst (v := (-1)) S.1 S.2.1 d_AR_guard_30 (by decide) ?_
          have h60 : I 3 = 60 := by
            rw [hn] at c27 ⊢
            rcases Nat.lt_or_ge n 60 with q | q
            · exact absurd (nI_lt (b := 60) q (by decide)) c27
            · rw [show n = 60 by omega]; rfl
          exact mm_reti S.1 S.2.1 hr hlocks hA hQ hw (cs_same hC (show sp_guard t z I F st = ((-1), upd I 0 0, F, st) by simp only [sp_guard, eq_true hc3, eq_false c4, eq_false c9, eq_true c15, not_true_eq_false, not_false_eq_true, and_true, true_and, and_false, false_and, and_self, or_true, true_or, or_false, false_or, or_self, ↓reduceIte, eq_true h60])) (Nat.le_of_ble_eq_true rfl) (Nat.le_of_ble_eq_true rfl) d_AR_guard_31
      · refine lv_bipush (v := (-4)) S.1 S.2.1 d_AR_guard_18 (by decide) ?_
        exact mm_reti S.1 S.2.1 hr hlocks hA hQ hw (cs_same hC (show sp_guard t z I F st = ((-4), upd I 0 0, F, st) by simp only [sp_guard, eq_true hc3, eq_false c4, eq_false c9, eq_false c15, not_true_eq_false, not_false_eq_true, and_true, true_and, and_false, false_and, and_self, or_true, true_or, or_false, false_or, or_self, ↓reduceIte])) (Nat.le_of_ble_eq_true rfl) (Nat.le_of_ble_eq_true rfl) d_AR_guard_20
  · refine lv_if_eq (tgt := 18) S.1 S.2.1 d_AR_guard_4 (by decide) (fun c4 => ?_) (fun c4 => absurd c4 (by decide))
    refine lv_bipush (v := (-4)) S.1 S.2.1 d_AR_guard_18 (by decide) ?_
    exact mm_reti S.1 S.2.1 hr hlocks hA hQ hw (cs_same hC (show sp_guard t z I F st = ((-4), upd I 0 0, F, st) by simp only [sp_guard, eq_false hc3, eq_true c4, not_true_eq_false, not_false_eq_true, and_true, true_and, and_false, false_and, and_self, or_true, true_or, or_false, false_or, or_self, ↓reduceIte])) (Nat.le_of_ble_eq_true rfl) (Nat.le_of_ble_eq_true rfl) d_AR_guard_20
theorem d_AR_guardsOf_0 : decode b_AR_guardsOf 0 = .ok (.iconst 0, 1) := by decide +kernel
theorem d_AR_guardsOf_1 : decode b_AR_guardsOf 1 = .ok (.istore_n 2, 1) := by decide +kernel
theorem d_AR_guardsOf_2 : decode b_AR_guardsOf 2 = .ok (.aload_n 0, 1) := by decide +kernel
theorem d_AR_guardsOf_3 : decode b_AR_guardsOf 3 = .ok (.getfield 24, 3) := by decide +kernel
theorem d_AR_guardsOf_6 : decode b_AR_guardsOf 6 = .ok (.astore_n 3, 1) := by decide +kernel
theorem d_AR_guardsOf_7 : decode b_AR_guardsOf 7 = .ok (.aload_n 3, 1) := by decide +kernel
theorem d_AR_guardsOf_8 : decode b_AR_guardsOf 8 = .ok (.arraylength, 1) := by decide +kernel
theorem d_AR_guardsOf_9 : decode b_AR_guardsOf 9 = .ok (.istore 4, 2) := by decide +kernel
theorem d_AR_guardsOf_11 : decode b_AR_guardsOf 11 = .ok (.iconst 0, 1) := by decide +kernel
theorem d_AR_guardsOf_12 : decode b_AR_guardsOf 12 = .ok (.istore 5, 2) := by decide +kernel
theorem d_AR_guardsOf_14 : decode b_AR_guardsOf 14 = .ok (.iload 5, 2) := by decide +kernel
theorem d_AR_guardsOf_16 : decode b_AR_guardsOf 16 = .ok (.iload 4, 2) := by decide +kernel
theorem d_AR_guardsOf_18 : decode b_AR_guardsOf 18 = .ok (.if_icmp .ge 32, 3) := by decide +kernel
theorem d_AR_guardsOf_21 : decode b_AR_guardsOf 21 = .ok (.aload_n 3, 1) := by decide +kernel
theorem d_AR_guardsOf_22 : decode b_AR_guardsOf 22 = .ok (.iload 5, 2) := by decide +kernel
theorem d_AR_guardsOf_24 : decode b_AR_guardsOf 24 = .ok (.aaload, 1) := by decide +kernel
theorem d_AR_guardsOf_25 : decode b_AR_guardsOf 25 = .ok (.astore 6, 2) := by decide +kernel
theorem d_AR_guardsOf_27 : decode b_AR_guardsOf 27 = .ok (.aload 6, 2) := by decide +kernel
theorem d_AR_guardsOf_29 : decode b_AR_guardsOf 29 = .ok (.ifnull 15, 3) := by decide +kernel
theorem d_AR_guardsOf_32 : decode b_AR_guardsOf 32 = .ok (.aload 6, 2) := by decide +kernel
theorem d_AR_guardsOf_34 : decode b_AR_guardsOf 34 = .ok (.iload_n 1, 1) := by decide +kernel
theorem d_AR_guardsOf_35 : decode b_AR_guardsOf 35 = .ok (.invokevirtual 185, 3) := by decide +kernel
theorem d_AR_guardsOf_38 : decode b_AR_guardsOf 38 = .ok (.ifCond .eq 6, 3) := by decide +kernel
theorem d_AR_guardsOf_41 : decode b_AR_guardsOf 41 = .ok (.iinc 2 1, 3) := by decide +kernel
theorem d_AR_guardsOf_44 : decode b_AR_guardsOf 44 = .ok (.iinc 5 1, 3) := by decide +kernel
theorem d_AR_guardsOf_47 : decode b_AR_guardsOf 47 = .ok (.goto (-33), 3) := by decide +kernel
theorem d_AR_guardsOf_50 : decode b_AR_guardsOf 50 = .ok (.iload_n 2, 1) := by decide +kernel
theorem d_AR_guardsOf_51 : decode b_AR_guardsOf 51 = .ok (.ireturn, 1) := by decide +kernel
set_option maxHeartbeats 4000000 in
set_option maxRecDepth 100000 in
theorem c_AR_guardsOf (l : Launch) (D : va_G) (dA : Nat → ClassId) (M : mm_M) (x lv sr gd rs ss dr cs cg : Nat) (I : sI) (F : sF) (fG : Nat → Option Nat) (ga : Nat → Nat) (b f : Nat → Int32) (n : Nat) (hn : I 3 = nI n) (hN : n ≤ 60) (hX : M x = some (.inr (0, [.ref lv, .int (I 1), .int (I 2), .ref sr, .ref gd, .int (I 3), .ref rs, .ref ss, .ref dr, .ref cs, .ref cg]))) (hgd : M gd = some (aQ (dA 4) 60 fG)) (hfg : ∀ i, i < 60 → fG i = if i < cN (I 3) then some (ga (i + 1)) else none) (hga : ∀ i, 1 ≤ i → i ≤ cN (I 3) → M (ga i) = some (oG F b f i) ∧ gst (F 14 i) (b i) (f i)) (t : Int32) : mm_Ci l y_AR_guardsOf w_AR_guardsOf ({ frames := 1, cells := 0, slots := 0, locals := 21 }) 0 0 D vC (tyL dA) [.ref x, .int t] M (fun r M' => M' = M ∧ r = gc_a F t n) := by
  intro sz
  refine mm_start (by decide) (Nat.le_of_ble_eq_true rfl) ?_
  intro p e s m below meth c A Q ls hA hQ S hr hlocks hin hK hw hl
  have hl : lv_has ls 7 [(0, .ref x), (1, .int t)] := hl
  have hcn : cN (I 3) = n := cN_I hn (by omega)
  refine lv_iconst (v := 0) S.1 S.2.1 d_AR_guardsOf_0 (by decide) ?_
  refine lv_istore_n (lv' := [(2, .int 0), (0, .ref x), (1, .int t)]) S.1 S.2.1 d_AR_guardsOf_1 rfl hl (by decide) rfl (fun ls hl => ?_)
  refine lv_aload_n S.1 S.2.1 d_AR_guardsOf_2 rfl (lv_at hl 1 rfl) ?_
  refine mm_get (C := R_AR) (T := T_AR) (N := 11) S hK.1 hw hX rfl in_AR 4 (by decide) gw_92 rfl rfl d_AR_guardsOf_3 ?_
  refine lv_astore_n (lv' := [(3, .ref gd), (2, .int 0), (0, .ref x), (1, .int t)]) S.1 S.2.1 d_AR_guardsOf_6 rfl hl (by decide) rfl (fun ls hl => ?_)
  refine lv_aload_n S.1 S.2.1 d_AR_guardsOf_7 rfl (lv_at hl 0 rfl) ?_
  refine mm_alen (v := 60) S hK.1 hw 4 hgd rfl rfl d_AR_guardsOf_8 ?_
  refine lv_istore (lv' := [(4, .int 60), (3, .ref gd), (2, .int 0), (0, .ref x), (1, .int t)]) S.1 S.2.1 d_AR_guardsOf_9 hl (by decide) rfl (fun ls hl => ?_)
  refine lv_iconst (v := 0) S.1 S.2.1 d_AR_guardsOf_11 (by decide) ?_
  refine lv_istore (lv' := [(5, .int 0), (4, .int 60), (3, .ref gd), (2, .int 0), (0, .ref x), (1, .int t)]) S.1 S.2.1 d_AR_guardsOf_12 hl (by decide) rfl (fun ls hl => ?_)
  have L : ∀ (mm i : Nat) (H : Heap) (locs : List Loc) (ls : Array Slot), i + mm = 60 → mm_w D vC A s.heap M H locs → lv_has ls 7 [(2, .int (gc_a F t (min i n))), (3, .ref gd), (4, .int 60), (5, .int (nI i)), (0, .ref x), (1, .int t)] → W p l e ({ frames := 1, cells := 0, slots := 0, locals := 21 }) s m [.ref x, .int t].toArray below meth c H locs 0 0 Q (F0 m 14 ls []) := by
    intro mm
    induction mm with
    | zero =>
      intro i H locs ls hi hw hl
      refine lv_iload S.1 S.2.1 d_AR_guardsOf_14 (lv_at hl 3 rfl) ?_
      refine lv_iload S.1 S.2.1 d_AR_guardsOf_16 (lv_at hl 2 rfl) ?_
      refine lv_icmp_ge (tgt := 50) S.1 S.2.1 d_AR_guardsOf_18 (by decide) (fun c18 => ?_) (fun c18 => absurd (nI_le (a := 60) (by omega) (by omega)) c18)
      refine lv_iload_n S.1 S.2.1 d_AR_guardsOf_50 rfl (lv_at hl 0 rfl) ?_
      exact mm_reti S.1 S.2.1 hr hlocks hA hQ hw (⟨rfl, by rw [show min i n = n by omega]⟩) (Nat.le_of_ble_eq_true rfl) (Nat.le_of_ble_eq_true rfl) d_AR_guardsOf_51
    | succ mm ih =>
      intro i H locs ls hi hw hl
      refine lv_iload S.1 S.2.1 d_AR_guardsOf_14 (lv_at hl 3 rfl) ?_
      refine lv_iload S.1 S.2.1 d_AR_guardsOf_16 (lv_at hl 2 rfl) ?_
      refine lv_icmp_ge (tgt := 50) S.1 S.2.1 d_AR_guardsOf_18 (by decide) (fun c18 => absurd c18 (nI_ge (b := 60) (by omega) (by decide))) (fun c18 => ?_)
      refine lv_aload_n S.1 S.2.1 d_AR_guardsOf_21 rfl (lv_at hl 1 rfl) ?_
      refine lv_iload S.1 S.2.1 d_AR_guardsOf_22 (lv_at hl 3 rfl) ?_
      refine mn_aldq (j := i) S hK.1 hw 4 hgd rfl (rfl) (by omega) (by decide) d_AR_guardsOf_24 ?_
      rcases Nat.lt_or_ge i n with hin9 | hin9
      · rw [show fG i = some (ga (i + 1)) from by rw [hfg i (by omega), if_pos (by omega)]]
        refine W.eq (g2 := F0 m 25 ls [.ref (ga (i + 1))]) rfl ?_
        obtain ⟨hgj, hgs⟩ := hga (i + 1) (by omega) (by omega)
        refine lv_astore (lv' := [(6, .ref (ga (i + 1))), (2, .int (gc_a F t (min i n))), (3, .ref gd), (4, .int 60), (5, .int (nI i)), (0, .ref x), (1, .int t)]) S.1 S.2.1 d_AR_guardsOf_25 hl (by decide) rfl (fun ls hl => ?_)
        refine lv_aload S.1 S.2.1 d_AR_guardsOf_27 (lv_at hl 0 rfl) ?_
        refine lv_ifnull S.1 S.2.1 d_AR_guardsOf_29 ?_
        refine lv_aload S.1 S.2.1 d_AR_guardsOf_32 (lv_at hl 0 rfl) ?_
        refine lv_iload_n S.1 S.2.1 d_AR_guardsOf_34 rfl (lv_at hl 6 rfl) ?_
        refine mm_calli hw (mm_runV (a := (ga (i + 1))) (As := [.int t]) (rest := []) S hK hw (c_GU_isHeldBy l D dA _ (ga (i + 1)) (F 12 (i + 1)) (F 13 (i + 1)) (b (i + 1)) (f (i + 1)) t (gst_f hgs).1 hgj _) bv_GU_isHeldBy gw_252 hgj rfl (⟨rfl, rfl, by decide, by decide, by decide, by decide⟩) hl.1 rfl rfl (Nat.le_of_ble_eq_true rfl) d_AR_guardsOf_35) (fun r1 M2 H locs hp hw => ?_)
        rw [hp.1] at hw
        have hp2 := hp.2
        by_cases hcc : F 12 (i + 1) = t ∧ f (i + 1) = 0
        · rw [if_pos hcc] at hp2
          subst hp2
          refine lv_if_eq (tgt := 44) S.1 S.2.1 d_AR_guardsOf_38 (by decide) (fun c38 => absurd c38 (by decide)) (fun c38 => ?_)
          refine lv_iinc (v := ((gc_a F t (min i n)) + 1)) (lv' := [(2, .int ((gc_a F t (min i n)) + 1)), (6, .ref (ga (i + 1))), (3, .ref gd), (4, .int 60), (5, .int (nI i)), (0, .ref x), (1, .int t)]) S.1 S.2.1 d_AR_guardsOf_41 hl (k := 1) rfl (rfl) (by decide) rfl (fun ls hl => ?_)
          refine lv_iinc (v := (nI (i + 1))) (lv' := [(5, .int (nI (i + 1))), (2, .int ((gc_a F t (min i n)) + 1)), (6, .ref (ga (i + 1))), (3, .ref gd), (4, .int 60), (0, .ref x), (1, .int t)]) S.1 S.2.1 d_AR_guardsOf_44 hl (k := 4) rfl (nI_1 i) (by decide) rfl (fun ls hl => ?_)
          refine lv_goto (tgt := 14) S.1 S.2.1 d_AR_guardsOf_47 (by decide) ?_
          exact ih (i + 1) _ _ ls (by omega) hw (by rw [show min (i + 1) n = i + 1 by omega, show gc_a F t (i + 1) = ((gc_a F t (min i n)) + 1) from by rw [gc_a, show min i n = i by omega]; rw [if_pos ⟨hcc.1, (gst_0 hgs).mp hcc.2⟩]]; exact lv_sub hl [1, 3, 4, 0, 5, 6] rfl)
        · rw [if_neg hcc] at hp2
          subst hp2
          refine lv_if_eq (tgt := 44) S.1 S.2.1 d_AR_guardsOf_38 (by decide) (fun c38 => ?_) (fun c38 => absurd c38 (by decide))
          refine lv_iinc (v := (nI (i + 1))) (lv' := [(5, .int (nI (i + 1))), (6, .ref (ga (i + 1))), (2, .int (gc_a F t (min i n))), (3, .ref gd), (4, .int 60), (0, .ref x), (1, .int t)]) S.1 S.2.1 d_AR_guardsOf_44 hl (k := 4) rfl (nI_1 i) (by decide) rfl (fun ls hl => ?_)
          refine lv_goto (tgt := 14) S.1 S.2.1 d_AR_guardsOf_47 (by decide) ?_
          exact ih (i + 1) _ _ ls (by omega) hw (by rw [show min (i + 1) n = i + 1 by omega, show gc_a F t (i + 1) = (gc_a F t (min i n)) from by rw [gc_a, show min i n = i by omega]; rw [if_neg (fun h => hcc ⟨h.1, (gst_0 hgs).mpr h.2⟩), Int32.add_zero]]; exact lv_sub hl [2, 3, 4, 0, 5, 6] rfl)
      · rw [show fG i = none from by rw [hfg i (by omega), if_neg (by omega)]]
        refine W.eq (g2 := F0 m 25 ls [.null]) rfl ?_
        refine lv_astoreN (lv' := [(6, .null), (2, .int (gc_a F t (min i n))), (3, .ref gd), (4, .int 60), (5, .int (nI i)), (0, .ref x), (1, .int t)]) S.1 S.2.1 d_AR_guardsOf_25 hl (by decide) rfl (fun ls hl => ?_)
        refine lv_aloadN S.1 S.2.1 d_AR_guardsOf_27 (lv_at hl 0 rfl) ?_
        refine lv_ifnullN (tgt := 44) S.1 S.2.1 d_AR_guardsOf_29 (by decide) ?_
        refine lv_iinc (v := (nI (i + 1))) (lv' := [(5, .int (nI (i + 1))), (6, .null), (2, .int (gc_a F t (min i n))), (3, .ref gd), (4, .int 60), (0, .ref x), (1, .int t)]) S.1 S.2.1 d_AR_guardsOf_44 hl (k := 4) rfl (nI_1 i) (by decide) rfl (fun ls hl => ?_)
        refine lv_goto (tgt := 14) S.1 S.2.1 d_AR_guardsOf_47 (by decide) ?_
        exact ih (i + 1) _ _ ls (by omega) hw (by rw [show min (i + 1) n = min i n by omega]; exact lv_sub hl [2, 3, 4, 0, 5, 6] rfl)
  exact L 60 0 _ _ ls (by omega) hw (lv_sub hl [3, 2, 1, 0, 4, 5] rfl)
theorem d_AR_brokenGuardsOf_0 : decode b_AR_brokenGuardsOf 0 = .ok (.iconst 0, 1) := by decide +kernel
theorem d_AR_brokenGuardsOf_1 : decode b_AR_brokenGuardsOf 1 = .ok (.istore_n 2, 1) := by decide +kernel
theorem d_AR_brokenGuardsOf_2 : decode b_AR_brokenGuardsOf 2 = .ok (.aload_n 0, 1) := by decide +kernel
theorem d_AR_brokenGuardsOf_3 : decode b_AR_brokenGuardsOf 3 = .ok (.getfield 24, 3) := by decide +kernel
theorem d_AR_brokenGuardsOf_6 : decode b_AR_brokenGuardsOf 6 = .ok (.astore_n 3, 1) := by decide +kernel
theorem d_AR_brokenGuardsOf_7 : decode b_AR_brokenGuardsOf 7 = .ok (.aload_n 3, 1) := by decide +kernel
theorem d_AR_brokenGuardsOf_8 : decode b_AR_brokenGuardsOf 8 = .ok (.arraylength, 1) := by decide +kernel
theorem d_AR_brokenGuardsOf_9 : decode b_AR_brokenGuardsOf 9 = .ok (.istore 4, 2) := by decide +kernel
theorem d_AR_brokenGuardsOf_11 : decode b_AR_brokenGuardsOf 11 = .ok (.iconst 0, 1) := by decide +kernel
theorem d_AR_brokenGuardsOf_12 : decode b_AR_brokenGuardsOf 12 = .ok (.istore 5, 2) := by decide +kernel
theorem d_AR_brokenGuardsOf_14 : decode b_AR_brokenGuardsOf 14 = .ok (.iload 5, 2) := by decide +kernel
theorem d_AR_brokenGuardsOf_16 : decode b_AR_brokenGuardsOf 16 = .ok (.iload 4, 2) := by decide +kernel
theorem d_AR_brokenGuardsOf_18 : decode b_AR_brokenGuardsOf 18 = .ok (.if_icmp .ge 40, 3) := by decide +kernel
theorem d_AR_brokenGuardsOf_21 : decode b_AR_brokenGuardsOf 21 = .ok (.aload_n 3, 1) := by decide +kernel
theorem d_AR_brokenGuardsOf_22 : decode b_AR_brokenGuardsOf 22 = .ok (.iload 5, 2) := by decide +kernel
theorem d_AR_brokenGuardsOf_24 : decode b_AR_brokenGuardsOf 24 = .ok (.aaload, 1) := by decide +kernel
theorem d_AR_brokenGuardsOf_25 : decode b_AR_brokenGuardsOf 25 = .ok (.astore 6, 2) := by decide +kernel
theorem d_AR_brokenGuardsOf_27 : decode b_AR_brokenGuardsOf 27 = .ok (.aload 6, 2) := by decide +kernel
theorem d_AR_brokenGuardsOf_29 : decode b_AR_brokenGuardsOf 29 = .ok (.ifnull 23, 3) := by decide +kernel
theorem d_AR_brokenGuardsOf_32 : decode b_AR_brokenGuardsOf 32 = .ok (.aload 6, 2) := by decide +kernel
theorem d_AR_brokenGuardsOf_34 : decode b_AR_brokenGuardsOf 34 = .ok (.iload_n 1, 1) := by decide +kernel
theorem d_AR_brokenGuardsOf_35 : decode b_AR_brokenGuardsOf 35 = .ok (.invokevirtual 185, 3) := by decide +kernel
theorem d_AR_brokenGuardsOf_38 : decode b_AR_brokenGuardsOf 38 = .ok (.ifCond .eq 14, 3) := by decide +kernel
theorem d_AR_brokenGuardsOf_41 : decode b_AR_brokenGuardsOf 41 = .ok (.aload 6, 2) := by decide +kernel
theorem d_AR_brokenGuardsOf_43 : decode b_AR_brokenGuardsOf 43 = .ok (.getfield 149, 3) := by decide +kernel
theorem d_AR_brokenGuardsOf_46 : decode b_AR_brokenGuardsOf 46 = .ok (.ifCond .eq 6, 3) := by decide +kernel
theorem d_AR_brokenGuardsOf_49 : decode b_AR_brokenGuardsOf 49 = .ok (.iinc 2 1, 3) := by decide +kernel
theorem d_AR_brokenGuardsOf_52 : decode b_AR_brokenGuardsOf 52 = .ok (.iinc 5 1, 3) := by decide +kernel
theorem d_AR_brokenGuardsOf_55 : decode b_AR_brokenGuardsOf 55 = .ok (.goto (-41), 3) := by decide +kernel
theorem d_AR_brokenGuardsOf_58 : decode b_AR_brokenGuardsOf 58 = .ok (.iload_n 2, 1) := by decide +kernel
theorem d_AR_brokenGuardsOf_59 : decode b_AR_brokenGuardsOf 59 = .ok (.ireturn, 1) := by decide +kernel
set_option maxHeartbeats 4000000 in
set_option maxRecDepth 100000 in
theorem c_AR_brokenGuardsOf (l : Launch) (D : va_G) (dA : Nat → ClassId) (M : mm_M) (x lv sr gd rs ss dr cs cg : Nat) (I : sI) (F : sF) (fG : Nat → Option Nat) (ga : Nat → Nat) (b f : Nat → Int32) (n : Nat) (hn : I 3 = nI n) (hN : n ≤ 60) (hX : M x = some (.inr (0, [.ref lv, .int (I 1), .int (I 2), .ref sr, .ref gd, .int (I 3), .ref rs, .ref ss, .ref dr, .ref cs, .ref cg]))) (hgd : M gd = some (aQ (dA 4) 60 fG)) (hfg : ∀ i, i < 60 → fG i = if i < cN (I 3) then some (ga (i + 1)) else none) (hga : ∀ i, 1 ≤ i → i ≤ cN (I 3) → M (ga i) = some (oG F b f i) ∧ gst (F 14 i) (b i) (f i)) (t : Int32) : mm_Ci l y_AR_brokenGuardsOf w_AR_brokenGuardsOf ({ frames := 1, cells := 0, slots := 0, locals := 21 }) 0 0 D vC (tyL dA) [.ref x, .int t] M (fun r M' => M' = M ∧ r = gc_b F t n) := by
  intro sz
  refine mm_start (by decide) (Nat.le_of_ble_eq_true rfl) ?_
  intro p e s m below meth c A Q ls hA hQ S hr hlocks hin hK hw hl
  have hl : lv_has ls 7 [(0, .ref x), (1, .int t)] := hl
  have hcn : cN (I 3) = n := cN_I hn (by omega)
  refine lv_iconst (v := 0) S.1 S.2.1 d_AR_brokenGuardsOf_0 (by decide) ?_
  refine lv_istore_n (lv' := [(2, .int 0), (0, .ref x), (1, .int t)]) S.1 S.2.1 d_AR_brokenGuardsOf_1 rfl hl (by decide) rfl (fun ls hl => ?_)
  refine lv_aload_n S.1 S.2.1 d_AR_brokenGuardsOf_2 rfl (lv_at hl 1 rfl) ?_
  refine mm_get (C := R_AR) (T := T_AR) (N := 11) S hK.1 hw hX rfl in_AR 4 (by decide) gw_92 rfl rfl d_AR_brokenGuardsOf_3 ?_
  refine lv_astore_n (lv' := [(3, .ref gd), (2, .int 0), (0, .ref x), (1, .int t)]) S.1 S.2.1 d_AR_brokenGuardsOf_6 rfl hl (by decide) rfl (fun ls hl => ?_)
  refine lv_aload_n S.1 S.2.1 d_AR_brokenGuardsOf_7 rfl (lv_at hl 0 rfl) ?_
  refine mm_alen (v := 60) S hK.1 hw 4 hgd rfl rfl d_AR_brokenGuardsOf_8 ?_
  refine lv_istore (lv' := [(4, .int 60), (3, .ref gd), (2, .int 0), (0, .ref x), (1, .int t)]) S.1 S.2.1 d_AR_brokenGuardsOf_9 hl (by decide) rfl (fun ls hl => ?_)
  refine lv_iconst (v := 0) S.1 S.2.1 d_AR_brokenGuardsOf_11 (by decide) ?_
  refine lv_istore (lv' := [(5, .int 0), (4, .int 60), (3, .ref gd), (2, .int 0), (0, .ref x), (1, .int t)]) S.1 S.2.1 d_AR_brokenGuardsOf_12 hl (by decide) rfl (fun ls hl => ?_)
  have L : ∀ (mm i : Nat) (H : Heap) (locs : List Loc) (ls : Array Slot), i + mm = 60 → mm_w D vC A s.heap M H locs → lv_has ls 7 [(2, .int (gc_b F t (min i n))), (3, .ref gd), (4, .int 60), (5, .int (nI i)), (0, .ref x), (1, .int t)] → W p l e ({ frames := 1, cells := 0, slots := 0, locals := 21 }) s m [.ref x, .int t].toArray below meth c H locs 0 0 Q (F0 m 14 ls []) := by
    intro mm
    induction mm with
    | zero =>
      intro i H locs ls hi hw hl
      refine lv_iload S.1 S.2.1 d_AR_brokenGuardsOf_14 (lv_at hl 3 rfl) ?_
      refine lv_iload S.1 S.2.1 d_AR_brokenGuardsOf_16 (lv_at hl 2 rfl) ?_
      refine lv_icmp_ge (tgt := 58) S.1 S.2.1 d_AR_brokenGuardsOf_18 (by decide) (fun c18 => ?_) (fun c18 => absurd (nI_le (a := 60) (by omega) (by omega)) c18)
      refine lv_iload_n S.1 S.2.1 d_AR_brokenGuardsOf_58 rfl (lv_at hl 0 rfl) ?_
      exact mm_reti S.1 S.2.1 hr hlocks hA hQ hw (⟨rfl, by rw [show min i n = n by omega]⟩) (Nat.le_of_ble_eq_true rfl) (Nat.le_of_ble_eq_true rfl) d_AR_brokenGuardsOf_59
    | succ mm ih =>
      intro i H locs ls hi hw hl
      refine lv_iload S.1 S.2.1 d_AR_brokenGuardsOf_14 (lv_at hl 3 rfl) ?_
      refine lv_iload S.1 S.2.1 d_AR_brokenGuardsOf_16 (lv_at hl 2 rfl) ?_
      refine lv_icmp_ge (tgt := 58) S.1 S.2.1 d_AR_brokenGuardsOf_18 (by decide) (fun c18 => absurd c18 (nI_ge (b := 60) (by omega) (by decide))) (fun c18 => ?_)
      refine lv_aload_n S.1 S.2.1 d_AR_brokenGuardsOf_21 rfl (lv_at hl 1 rfl) ?_
      refine lv_iload S.1 S.2.1 d_AR_brokenGuardsOf_22 (lv_at hl 3 rfl) ?_
      refine mn_aldq (j := i) S hK.1 hw 4 hgd rfl (rfl) (by omega) (by decide) d_AR_brokenGuardsOf_24 ?_
      rcases Nat.lt_or_ge i n with hin9 | hin9
      · rw [show fG i = some (ga (i + 1)) from by rw [hfg i (by omega), if_pos (by omega)]]
        refine W.eq (g2 := F0 m 25 ls [.ref (ga (i + 1))]) rfl ?_
        obtain ⟨hgj, hgs⟩ := hga (i + 1) (by omega) (by omega)
        refine lv_astore (lv' := [(6, .ref (ga (i + 1))), (2, .int (gc_b F t (min i n))), (3, .ref gd), (4, .int 60), (5, .int (nI i)), (0, .ref x), (1, .int t)]) S.1 S.2.1 d_AR_brokenGuardsOf_25 hl (by decide) rfl (fun ls hl => ?_)
        refine lv_aload S.1 S.2.1 d_AR_brokenGuardsOf_27 (lv_at hl 0 rfl) ?_
        refine lv_ifnull S.1 S.2.1 d_AR_brokenGuardsOf_29 ?_
        refine lv_aload S.1 S.2.1 d_AR_brokenGuardsOf_32 (lv_at hl 0 rfl) ?_
        refine lv_iload_n S.1 S.2.1 d_AR_brokenGuardsOf_34 rfl (lv_at hl 6 rfl) ?_
        refine mm_calli hw (mm_runV (a := (ga (i + 1))) (As := [.int t]) (rest := []) S hK hw (c_GU_isHeldBy l D dA _ (ga (i + 1)) (F 12 (i + 1)) (F 13 (i + 1)) (b (i + 1)) (f (i + 1)) t (gst_f hgs).1 hgj _) bv_GU_isHeldBy gw_252 hgj rfl (⟨rfl, rfl, by decide, by decide, by decide, by decide⟩) hl.1 rfl rfl (Nat.le_of_ble_eq_true rfl) d_AR_brokenGuardsOf_35) (fun r1 M2 H locs hp hw => ?_)
        rw [hp.1] at hw
        have hp2 := hp.2
        by_cases hcc : F 12 (i + 1) = t ∧ f (i + 1) = 0
        · rw [if_pos hcc] at hp2
          subst hp2
          refine lv_if_eq (tgt := 52) S.1 S.2.1 d_AR_brokenGuardsOf_38 (by decide) (fun c38 => absurd c38 (by decide)) (fun c38 => ?_)
          refine lv_aload S.1 S.2.1 d_AR_brokenGuardsOf_41 (lv_at hl 0 rfl) ?_
          refine mm_get (C := R_GU) (T := T_GU) (N := 4) S hK.1 hw hgj rfl in_GU 2 (by decide) gw_302 rfl rfl d_AR_brokenGuardsOf_43 ?_
          refine lv_if_eq (tgt := 52) S.1 S.2.1 d_AR_brokenGuardsOf_46 (by decide) (fun c46 => ?_) (fun c46 => ?_)
          · refine lv_iinc (v := (nI (i + 1))) (lv' := [(5, .int (nI (i + 1))), (6, .ref (ga (i + 1))), (2, .int (gc_b F t (min i n))), (3, .ref gd), (4, .int 60), (0, .ref x), (1, .int t)]) S.1 S.2.1 d_AR_brokenGuardsOf_52 hl (k := 4) rfl (nI_1 i) (by decide) rfl (fun ls hl => ?_)
            refine lv_goto (tgt := 14) S.1 S.2.1 d_AR_brokenGuardsOf_55 (by decide) ?_
            exact ih (i + 1) _ _ ls (by omega) hw (by rw [show min (i + 1) n = i + 1 by omega, show gc_b F t (i + 1) = (gc_b F t (min i n)) from by rw [gc_b, show min i n = i by omega]; rw [if_neg (fun h => (gst_2 hgs hcc.2).mp c46 h.2), Int32.add_zero]]; exact lv_sub hl [2, 3, 4, 0, 5, 6] rfl)
          · refine lv_iinc (v := ((gc_b F t (min i n)) + 1)) (lv' := [(2, .int ((gc_b F t (min i n)) + 1)), (6, .ref (ga (i + 1))), (3, .ref gd), (4, .int 60), (5, .int (nI i)), (0, .ref x), (1, .int t)]) S.1 S.2.1 d_AR_brokenGuardsOf_49 hl (k := 1) rfl (rfl) (by decide) rfl (fun ls hl => ?_)
            refine lv_iinc (v := (nI (i + 1))) (lv' := [(5, .int (nI (i + 1))), (2, .int ((gc_b F t (min i n)) + 1)), (6, .ref (ga (i + 1))), (3, .ref gd), (4, .int 60), (0, .ref x), (1, .int t)]) S.1 S.2.1 d_AR_brokenGuardsOf_52 hl (k := 4) rfl (nI_1 i) (by decide) rfl (fun ls hl => ?_)
            refine lv_goto (tgt := 14) S.1 S.2.1 d_AR_brokenGuardsOf_55 (by decide) ?_
            exact ih (i + 1) _ _ ls (by omega) hw (by rw [show min (i + 1) n = i + 1 by omega, show gc_b F t (i + 1) = ((gc_b F t (min i n)) + 1) from by rw [gc_b, show min i n = i by omega]; rw [if_pos ⟨hcc.1, Classical.not_not.mp (fun q => c46 ((gst_2 hgs hcc.2).mpr q))⟩]]; exact lv_sub hl [1, 3, 4, 0, 5, 6] rfl)
        · rw [if_neg hcc] at hp2
          subst hp2
          refine lv_if_eq (tgt := 52) S.1 S.2.1 d_AR_brokenGuardsOf_38 (by decide) (fun c38 => ?_) (fun c38 => absurd c38 (by decide))
          refine lv_iinc (v := (nI (i + 1))) (lv' := [(5, .int (nI (i + 1))), (6, .ref (ga (i + 1))), (2, .int (gc_b F t (min i n))), (3, .ref gd), (4, .int 60), (0, .ref x), (1, .int t)]) S.1 S.2.1 d_AR_brokenGuardsOf_52 hl (k := 4) rfl (nI_1 i) (by decide) rfl (fun ls hl => ?_)
          refine lv_goto (tgt := 14) S.1 S.2.1 d_AR_brokenGuardsOf_55 (by decide) ?_
          exact ih (i + 1) _ _ ls (by omega) hw (by rw [show min (i + 1) n = i + 1 by omega, show gc_b F t (i + 1) = (gc_b F t (min i n)) from by rw [gc_b, show min i n = i by omega]; rw [if_neg (fun h => hcc ⟨h.1, (gst_0 hgs).mpr (by rw [h.2]; decide)⟩), Int32.add_zero]]; exact lv_sub hl [2, 3, 4, 0, 5, 6] rfl)
      · rw [show fG i = none from by rw [hfg i (by omega), if_neg (by omega)]]
        refine W.eq (g2 := F0 m 25 ls [.null]) rfl ?_
        refine lv_astoreN (lv' := [(6, .null), (2, .int (gc_b F t (min i n))), (3, .ref gd), (4, .int 60), (5, .int (nI i)), (0, .ref x), (1, .int t)]) S.1 S.2.1 d_AR_brokenGuardsOf_25 hl (by decide) rfl (fun ls hl => ?_)
        refine lv_aloadN S.1 S.2.1 d_AR_brokenGuardsOf_27 (lv_at hl 0 rfl) ?_
        refine lv_ifnullN (tgt := 52) S.1 S.2.1 d_AR_brokenGuardsOf_29 (by decide) ?_
        refine lv_iinc (v := (nI (i + 1))) (lv' := [(5, .int (nI (i + 1))), (6, .null), (2, .int (gc_b F t (min i n))), (3, .ref gd), (4, .int 60), (0, .ref x), (1, .int t)]) S.1 S.2.1 d_AR_brokenGuardsOf_52 hl (k := 4) rfl (nI_1 i) (by decide) rfl (fun ls hl => ?_)
        refine lv_goto (tgt := 14) S.1 S.2.1 d_AR_brokenGuardsOf_55 (by decide) ?_
        exact ih (i + 1) _ _ ls (by omega) hw (by rw [show min (i + 1) n = min i n by omega]; exact lv_sub hl [2, 3, 4, 0, 5, 6] rfl)
  exact L 60 0 _ _ ls (by omega) hw (lv_sub hl [3, 2, 1, 0, 4, 5] rfl)
end
section
theorem lgc_eq {x y : Int64} : lg_cmp x y = 0 ↔ x = y := by
  unfold lg_cmp
  have h0 : ¬ (1 : Int32) = 0 := by decide
  have h2 : ¬ (-1 : Int32) = 0 := by decide
  by_cases a : y < x
  · simp only [a, if_true, h0, false_iff]
    intro q
    subst q
    exact absurd a (by rw [Int64.lt_iff_toInt_lt]; omega)
  · by_cases b : x = y
    · subst b
      simp only [a, if_false, if_true]
    · simp only [a, b, if_false, h2]
/-- the steps: the difference, and the sum -/
theorem lp_eq {s w : Int64} {u : Nat} (hs : s = lN u) (hu : u ≤ 1000) (hw : ¬ w < 0) : 1000 - s < w ↔ (1000 < w ∨ 1000 < s + w) := by
  obtain ⟨v, hv, rfl⟩ := pk_lOf hw
  subst hs
  rw [show (1000 : Int64) = lN 1000 from rfl, lN_sub (by omega), lN_add, pk_lLT (by omega) hv, pk_lLT (by omega) hv]
  constructor
  · intro h
    by_cases h2 : 1000 < v
    · exact Or.inl h2
    · exact Or.inr ((pk_lLT (by omega) (by omega)).mpr (by omega))
  · rintro (h | h)
    · omega
    · by_cases h2 : 1000 < v
      · omega
      · have := (pk_lLT (a := 1000) (b := u + v) (by omega) (by omega)).mp h
        omega
theorem cnt_none {f : Nat → Int32} {k : Int32} : ∀ n : Nat, (∀ j, j < n → is_ok 9999 (f j)) → ¬ is_ok 9999 k → cnt f k n = 0
  | 0, _, _ => rfl
  | n + 1, h, hk => by
    have hne : ¬ f n = k := fun e => hk (by rw [← e]; exact h n (by omega))
    rw [cnt, if_neg hne]
    exact cnt_none n (fun j hj => h j (by omega)) hk
theorem cnt_up {f : Nat → Int32} {c d : Int32} {m : Nat} : ∀ n : Nat, n ≤ m → cnt (upd f m d) c n = cnt f c n
  | 0, _ => rfl
  | n + 1, h => by rw [cnt, cnt, cnt_up n (by omega), pk_un (by omega)]
theorem bw_1 : ∀ r, r < 64 → ((1 : Int64) <<< ((nI r).toInt64 &&& 63)).toBitVec = BitVec.twoPow 64 r := by decide +kernel
theorem bw_has {w m : Int64} {j : Nat} (hj : j < 64) (hm : m.toBitVec = BitVec.twoPow 64 j) : (w &&& m) = 0 ↔ w.toBitVec.getLsbD j = false := by
  constructor
  · intro h
    have h1 := congrArg (fun z : Int64 => z.toBitVec.getLsbD j) h
    simp only [Int64.toBitVec_and, BitVec.getLsbD_and, hm, BitVec.getLsbD_twoPow] at h1
    simpa [hj] using h1
  · intro h
    apply Int64.toBitVec_inj.mp
    rw [Int64.toBitVec_and, hm]
    apply BitVec.eq_of_getLsbD_eq
    intro i hi
    rw [BitVec.getLsbD_and, BitVec.getLsbD_twoPow]
    by_cases hij : j = i
    · subst hij
      simp [h]
    · simp [hij]
theorem bw_off {w m : Int64} {j i : Nat} (hi : i < 64) (hm : m.toBitVec = BitVec.twoPow 64 j) : (w &&& (m ^^^ (-1))).toBitVec.getLsbD i = (w.toBitVec.getLsbD i && !decide (i = j)) := by
  rw [Int64.toBitVec_and, Int64.toBitVec_xor, hm, show (-1 : Int64).toBitVec = BitVec.allOnes 64 from by decide, BitVec.getLsbD_and, BitVec.getLsbD_xor, BitVec.getLsbD_twoPow, BitVec.getLsbD_allOnes]
  by_cases h : j = i
  · subst h; simp [hi]
  · have h' : ¬ i = j := fun q => h q.symm
    simp [h, h', hi]
theorem bw_on {w m : Int64} {j i : Nat} (hi : i < 64) (hm : m.toBitVec = BitVec.twoPow 64 j) : (w ||| m).toBitVec.getLsbD i = (w.toBitVec.getLsbD i || decide (i = j)) := by
  rw [Int64.toBitVec_or, hm, BitVec.getLsbD_or, BitVec.getLsbD_twoPow]
  by_cases h : j = i
  · subst h; simp [hi]
  · have h' : ¬ i = j := fun q => h q.symm
    simp [h, h', hi]

theorem d_SE_askedAt_0 : decode b_SE_askedAt 0 = .ok (.iload_n 1, 1) := by decide +kernel
theorem d_SE_askedAt_1 : decode b_SE_askedAt 1 = .ok (.ifCond .lt 20, 3) := by decide +kernel
theorem d_SE_askedAt_4 : decode b_SE_askedAt 4 = .ok (.iload_n 1, 1) := by decide +kernel
theorem d_SE_askedAt_5 : decode b_SE_askedAt 5 = .ok (.aload_n 0, 1) := by decide +kernel
theorem d_SE_askedAt_6 : decode b_SE_askedAt 6 = .ok (.getfield 15, 3) := by decide +kernel
theorem d_SE_askedAt_9 : decode b_SE_askedAt 9 = .ok (.if_icmp .ge 12, 3) := by decide +kernel
theorem d_SE_askedAt_12 : decode b_SE_askedAt 12 = .ok (.aload_n 0, 1) := by decide +kernel
theorem d_SE_askedAt_13 : decode b_SE_askedAt 13 = .ok (.getfield 9, 3) := by decide +kernel
theorem d_SE_askedAt_16 : decode b_SE_askedAt 16 = .ok (.iload_n 1, 1) := by decide +kernel
theorem d_SE_askedAt_17 : decode b_SE_askedAt 17 = .ok (.iaload, 1) := by decide +kernel
theorem d_SE_askedAt_18 : decode b_SE_askedAt 18 = .ok (.goto 4, 3) := by decide +kernel
theorem d_SE_askedAt_21 : decode b_SE_askedAt 21 = .ok (.iconst 0, 1) := by decide +kernel
theorem d_SE_askedAt_22 : decode b_SE_askedAt 22 = .ok (.ireturn, 1) := by decide +kernel
set_option maxHeartbeats 4000000 in
set_option maxRecDepth 100000 in
theorem c_SE_askedAt (l : Launch) (D : va_G) (dA : Nat → ClassId) (M : mm_M) (sr ak na : Nat) (fA : Nat → Int32) (v sc i : Int32) (hv : v = nI na) (hna : na ≤ 200) (hsr : M sr = some (.inr (1, [.ref ak, .int v, .int sc]))) (hak : M ak = some (aI (dA 0) 200 fA)) : mm_Ci l y_SE_askedAt w_SE_askedAt ({ frames := 0, cells := 0, slots := 0, locals := 0 }) 0 0 D vC (tyL dA) [.ref sr, .int i] M (fun r M' => M' = M ∧ r = (if ¬ i < 0 ∧ ¬ v ≤ i then fA (cN i) else 0)) := by
  intro sz
  refine mm_start (by decide) (Nat.le_of_ble_eq_true rfl) ?_
  intro p e s m below meth c A Q ls hA hQ S hr hlocks hin hK hw hl
  have hl : lv_has ls 2 [(0, .ref sr), (1, .int i)] := hl
  refine lv_iload_n S.1 S.2.1 d_SE_askedAt_0 rfl (lv_at hl 1 rfl) ?_
  refine lv_if_lt (tgt := 21) S.1 S.2.1 d_SE_askedAt_1 (by decide) (fun c1 => ?_) (fun c1 => ?_)
  · refine lv_iconst (v := 0) S.1 S.2.1 d_SE_askedAt_21 (by decide) ?_
    exact mm_reti S.1 S.2.1 hr hlocks hA hQ hw (⟨rfl, by rw [if_neg (fun h => h.1 c1)]⟩) (Nat.le_of_ble_eq_true rfl) (Nat.le_of_ble_eq_true rfl) d_SE_askedAt_22
  · refine lv_iload_n S.1 S.2.1 d_SE_askedAt_4 rfl (lv_at hl 1 rfl) ?_
    refine lv_aload_n S.1 S.2.1 d_SE_askedAt_5 rfl (lv_at hl 0 rfl) ?_
    refine mm_get (C := R_SE) (T := T_SE) (N := 3) S hK.1 hw hsr rfl in_SE 1 (by decide) gw_36 rfl rfl d_SE_askedAt_6 ?_
    refine lv_icmp_ge (tgt := 21) S.1 S.2.1 d_SE_askedAt_9 (by decide) (fun c9 => ?_) (fun c9 => ?_)
    · refine lv_iconst (v := 0) S.1 S.2.1 d_SE_askedAt_21 (by decide) ?_
      exact mm_reti S.1 S.2.1 hr hlocks hA hQ hw (⟨rfl, by rw [if_neg (fun h => h.2 c9)]⟩) (Nat.le_of_ble_eq_true rfl) (Nat.le_of_ble_eq_true rfl) d_SE_askedAt_22
    · refine lv_aload_n S.1 S.2.1 d_SE_askedAt_12 rfl (lv_at hl 0 rfl) ?_
      refine mm_get (C := R_SE) (T := T_SE) (N := 3) S hK.1 hw hsr rfl in_SE 0 (by decide) gw_35 rfl rfl d_SE_askedAt_13 ?_
      refine lv_iload_n S.1 S.2.1 d_SE_askedAt_16 rfl (lv_at hl 1 rfl) ?_
      refine mn_iald (j := cN i) S hK.1 hw 0 hak rfl (cl_nI c1) (Nat.lt_of_lt_of_le (cN_lt (n := na) c1 (by rw [← hv]; exact c9) (by omega)) hna) (by decide) d_SE_askedAt_17 ?_
      refine lv_goto (tgt := 22) S.1 S.2.1 d_SE_askedAt_18 (by decide) ?_
      exact mm_reti S.1 S.2.1 hr hlocks hA hQ hw (⟨rfl, by rw [if_pos ⟨c1, c9⟩]⟩) (Nat.le_of_ble_eq_true rfl) (Nat.le_of_ble_eq_true rfl) d_SE_askedAt_22
theorem d_AR_order_0 : decode b_AR_order 0 = .ok (.aload_n 0, 1) := by decide +kernel
theorem d_AR_order_1 : decode b_AR_order 1 = .ok (.getfield 18, 3) := by decide +kernel
theorem d_AR_order_4 : decode b_AR_order 4 = .ok (.iload_n 1, 1) := by decide +kernel
theorem d_AR_order_5 : decode b_AR_order 5 = .ok (.invokevirtual 108, 3) := by decide +kernel
theorem d_AR_order_8 : decode b_AR_order 8 = .ok (.ireturn, 1) := by decide +kernel
set_option maxHeartbeats 4000000 in
set_option maxRecDepth 100000 in
theorem c_AR_order (l : Launch) (D : va_G) (dA : Nat → ClassId) (M : mm_M) (x nc : Nat) (I : sI) (F : sF) (st : sT) (hC : cP dA M x I F st nc) (hwf : wf I F st) (i : Int32) : mm_Ci l y_AR_order w_AR_order ({ frames := 1, cells := 0, slots := 0, locals := 21 }) 0 0 D vC (tyL dA) [.ref x, .int i] M (cs_post dA x nc (sp_order i I F st)) := by
  intro sz
  refine mm_start (by decide) (Nat.le_of_ble_eq_true rfl) ?_
  intro p e s m below meth c A Q ls hA hQ S hr hlocks hin hK hw hl
  have hl : lv_has ls 2 [(0, .ref x), (1, .int i)] := hl
  obtain ⟨lv, sr, gd, rs, ss, dr, cs, cg, hX, hL, hG, hS, hR, hT, hD, hCs, hE⟩ := id hC
  have hX : M x = some (.inr (0, [.ref lv, .int (I 1), .int (I 2), .ref sr, .ref gd, .int (I 3), .ref rs, .ref ss, .ref dr, .ref cs, .ref cg])) := hX
  obtain ⟨ak, fA, sc, hsr, hak, hak2⟩ := id hS
  obtain ⟨na, hna, hNA⟩ := hwf.2.2.2.2.1
  refine lv_aload_n S.1 S.2.1 d_AR_order_0 rfl (lv_at hl 0 rfl) ?_
  refine mm_get (C := R_AR) (T := T_AR) (N := 11) S hK.1 hw hX rfl in_AR 3 (by decide) gw_91 rfl rfl d_AR_order_1 ?_
  refine lv_iload_n S.1 S.2.1 d_AR_order_4 rfl (lv_at hl 1 rfl) ?_
  refine mm_calli hw (mm_runV (a := sr) (As := [.int i]) (rest := []) S hK hw (c_SE_askedAt l D dA _ sr ak na fA (I 5) sc i hna hNA hsr hak _) bv_SE_askedAt gw_223 hsr rfl (⟨rfl, rfl, by decide, by decide, by decide, by decide⟩) hl.1 rfl rfl (Nat.le_of_ble_eq_true rfl) d_AR_order_5) (fun r1 M2 H locs hp hw => ?_)
  rw [hp.1] at hw
  have hr3 := hp.2
  have hsp : sp_order i I F st = (r1, upd I 0 0, F, st) := by
    rw [hr3, sp_order]
    by_cases hcc : ¬ i < 0 ∧ ¬ I 5 ≤ i
    · rw [if_pos hcc, if_pos hcc, hak2 (cN i) (by rw [cN_I hna (by omega)]; exact cN_lt hcc.1 (by rw [← hna]; exact hcc.2) (by omega))]
    · rw [if_neg hcc, if_neg hcc]
  exact mm_reti S.1 S.2.1 hr hlocks hA hQ hw (cs_same hC hsp) (Nat.le_of_ble_eq_true rfl) (Nat.le_of_ble_eq_true rfl) d_AR_order_8
theorem d_AR_loop_0 : decode b_AR_loop 0 = .ok (.iload_n 1, 1) := by decide +kernel
theorem d_AR_loop_1 : decode b_AR_loop 1 = .ok (.invokestatic 115, 3) := by decide +kernel
theorem d_AR_loop_4 : decode b_AR_loop 4 = .ok (.ifCond .eq 9, 3) := by decide +kernel
theorem d_AR_loop_7 : decode b_AR_loop 7 = .ok (.lload_n 2, 1) := by decide +kernel
theorem d_AR_loop_8 : decode b_AR_loop 8 = .ok (.lconst 0, 1) := by decide +kernel
theorem d_AR_loop_9 : decode b_AR_loop 9 = .ok (.lcmp, 1) := by decide +kernel
theorem d_AR_loop_10 : decode b_AR_loop 10 = .ok (.ifCond .ge 6, 3) := by decide +kernel
theorem d_AR_loop_13 : decode b_AR_loop 13 = .ok (.bipush (-4), 2) := by decide +kernel
theorem d_AR_loop_15 : decode b_AR_loop 15 = .ok (.ireturn, 1) := by decide +kernel
theorem d_AR_loop_16 : decode b_AR_loop 16 = .ok (.lload_n 2, 1) := by decide +kernel
theorem d_AR_loop_17 : decode b_AR_loop 17 = .ok (.ldc2_w 172, 3) := by decide +kernel
theorem d_AR_loop_20 : decode b_AR_loop 20 = .ok (.aload_n 0, 1) := by decide +kernel
theorem d_AR_loop_21 : decode b_AR_loop 21 = .ok (.getfield 32, 3) := by decide +kernel
theorem d_AR_loop_24 : decode b_AR_loop 24 = .ok (.iload_n 1, 1) := by decide +kernel
theorem d_AR_loop_25 : decode b_AR_loop 25 = .ok (.laload, 1) := by decide +kernel
theorem d_AR_loop_26 : decode b_AR_loop 26 = .ok (.lsub, 1) := by decide +kernel
theorem d_AR_loop_27 : decode b_AR_loop 27 = .ok (.lcmp, 1) := by decide +kernel
theorem d_AR_loop_28 : decode b_AR_loop 28 = .ok (.ifCond .le 13, 3) := by decide +kernel
theorem d_AR_loop_31 : decode b_AR_loop 31 = .ok (.aload_n 0, 1) := by decide +kernel
theorem d_AR_loop_32 : decode b_AR_loop 32 = .ok (.getfield 32, 3) := by decide +kernel
theorem d_AR_loop_35 : decode b_AR_loop 35 = .ok (.iload_n 1, 1) := by decide +kernel
theorem d_AR_loop_36 : decode b_AR_loop 36 = .ok (.lconst 0, 1) := by decide +kernel
theorem d_AR_loop_37 : decode b_AR_loop 37 = .ok (.lastore, 1) := by decide +kernel
theorem d_AR_loop_38 : decode b_AR_loop 38 = .ok (.bipush 71, 2) := by decide +kernel
theorem d_AR_loop_40 : decode b_AR_loop 40 = .ok (.ireturn, 1) := by decide +kernel
theorem d_AR_loop_41 : decode b_AR_loop 41 = .ok (.aload_n 0, 1) := by decide +kernel
theorem d_AR_loop_42 : decode b_AR_loop 42 = .ok (.getfield 32, 3) := by decide +kernel
theorem d_AR_loop_45 : decode b_AR_loop 45 = .ok (.iload_n 1, 1) := by decide +kernel
theorem d_AR_loop_46 : decode b_AR_loop 46 = .ok (.dup2, 1) := by decide +kernel
theorem d_AR_loop_47 : decode b_AR_loop 47 = .ok (.laload, 1) := by decide +kernel
theorem d_AR_loop_48 : decode b_AR_loop 48 = .ok (.lload_n 2, 1) := by decide +kernel
theorem d_AR_loop_49 : decode b_AR_loop 49 = .ok (.ladd, 1) := by decide +kernel
theorem d_AR_loop_50 : decode b_AR_loop 50 = .ok (.lastore, 1) := by decide +kernel
theorem d_AR_loop_51 : decode b_AR_loop 51 = .ok (.iconst 0, 1) := by decide +kernel
theorem d_AR_loop_52 : decode b_AR_loop 52 = .ok (.ireturn, 1) := by decide +kernel
set_option maxHeartbeats 4000000 in
set_option maxRecDepth 100000 in
theorem c_AR_loop (l : Launch) (D : va_G) (dA : Nat → ClassId) (M : mm_M) (x nc : Nat) (I : sI) (F : sF) (st : sT) (hC : cP dA M x I F st nc) (hwf : wf I F st) (t : Int32) (w : Int64) : mm_Ci l y_AR_loop w_AR_loop ({ frames := 1, cells := 0, slots := 0, locals := 20 }) 0 0 D vC (tyL dA) [.ref x, .int t, .long w] M (cs_post dA x nc (sp_loop t w I F st)) := by
  intro sz
  refine mm_start (by decide) (Nat.le_of_ble_eq_true rfl) ?_
  intro p e s m below meth c A Q ls hA hQ S hr hlocks hin hK hw hl
  have hl : lv_has ls 4 [(0, .ref x), (1, .int t), (2, .long w)] := hl
  obtain ⟨lv, sr, gd, rs, ss, dr, cs, cg, hX, hL, hG, hS, hR, hT, hD, hCs, hE⟩ := id hC
  have hX : M x = some (.inr (0, [.ref lv, .int (I 1), .int (I 2), .ref sr, .ref gd, .int (I 3), .ref rs, .ref ss, .ref dr, .ref cs, .ref cg])) := hX
  refine lv_iload_n S.1 S.2.1 d_AR_loop_0 rfl (lv_at hl 1 rfl) ?_
  refine mm_calli hw (mm_runS (As := [.int t]) (rest := []) S hK hw (c_AR_isTask l D dA _ t _) bs_AR_isTask gw_235 (⟨rfl, rfl, by decide, by decide, by decide, by decide⟩) hl.1 rfl rfl (Nat.le_of_ble_eq_true rfl) d_AR_loop_1) (fun r1 M2 H locs hp hw => ?_)
  rw [hp.1] at hw
  rcases hp.2 with ⟨rfl, hc3⟩ | ⟨rfl, hc3⟩
  · obtain ⟨j4, ekj4, hlj4, hhj4, enj4⟩ := is_of (N := 40) rfl (by omega) hc3
    refine lv_if_eq (tgt := 13) S.1 S.2.1 d_AR_loop_4 (by decide) (fun c4 => absurd c4 (by decide)) (fun c4 => ?_)
    refine lv_lload_n S.1 S.2.1 d_AR_loop_7 rfl (lv_at hl 2 rfl) ?_
    refine lv_lconst (v := 0) S.1 S.2.1 d_AR_loop_8 (by decide) ?_
    refine W.lcmp S.1 S.2.1 d_AR_loop_9 ?_
    refine lv_if_ge (tgt := 16) S.1 S.2.1 d_AR_loop_10 (by decide) (fun c10 => ?_) (fun c10 => ?_)
    · have c10 : ¬ w < 0 := lgc_ge.mp c10
      refine lv_lload_n S.1 S.2.1 d_AR_loop_16 rfl (lv_at hl 2 rfl) ?_
      refine lv_ldc2 (v := 1000) S.1 S.2.1 S.2.2.2.1 (S.2.2.2.2 _ gw_338) d_AR_loop_17 ?_
      refine lv_aload_n S.1 S.2.1 d_AR_loop_20 rfl (lv_at hl 0 rfl) ?_
      refine mm_get (C := R_AR) (T := T_AR) (N := 11) S hK.1 hw hX rfl in_AR 7 (by decide) gw_95 rfl rfl d_AR_loop_21 ?_
      refine lv_iload_n S.1 S.2.1 d_AR_loop_24 rfl (lv_at hl 1 rfl) ?_
      refine mn_lald (j := cN t) S hK.1 hw 1 hT rfl (cl_nI (is_le0 hc3.1)) (by rw [cN, enj4]; omega) (by decide) d_AR_loop_25 ?_
      refine lv_lsub S.1 S.2.1 d_AR_loop_26 ?_
      refine W.lcmp S.1 S.2.1 d_AR_loop_27 ?_
      refine lv_if_le (tgt := 41) S.1 S.2.1 d_AR_loop_28 (by decide) (fun c28 => ?_) (fun c28 => ?_)
      · have c28 : ¬ (1000 - (st (cN t))) < w := lgc_le.mp c28
        refine lv_aload_n S.1 S.2.1 d_AR_loop_41 rfl (lv_at hl 0 rfl) ?_
        refine mm_get (C := R_AR) (T := T_AR) (N := 11) S hK.1 hw hX rfl in_AR 7 (by decide) gw_95 rfl rfl d_AR_loop_42 ?_
        refine lv_iload_n S.1 S.2.1 d_AR_loop_45 rfl (lv_at hl 1 rfl) ?_
        refine lv_dup2_11 S.1 S.2.1 d_AR_loop_46 rfl rfl ?_
        refine mn_lald (j := cN t) S hK.1 hw 1 hT rfl (cl_nI (is_le0 hc3.1)) (by rw [cN, enj4]; omega) (by decide) d_AR_loop_47 ?_
        refine lv_lload_n S.1 S.2.1 d_AR_loop_48 rfl (lv_at hl 2 rfl) ?_
        refine lv_ladd S.1 S.2.1 d_AR_loop_49 ?_
        refine mn_last (j := cN t) S hK.1 hw 1 hT rfl (cl_nI (is_le0 hc3.1)) (by rw [cN, enj4]; omega) (by decide) d_AR_loop_50 (fun H locs hw => ?_)
        obtain ⟨M5, eM5⟩ : ∃ zM : mm_M, zM = mm_up M ss (.inl (dA 1, 41, .inr (.inl (vp_updL (st) (cN t) (((st (cN t)) + w)))))) := ⟨_, rfl⟩
        have hw : mm_w D vC _ _ (mm_up M ss (.inl (dA 1, 41, .inr (.inl (vp_updL (st) (cN t) (((st (cN t)) + w))))))) H _ := hw
        rw [← eM5] at hw
        have hX_5 : M5 x = some (.inr (0, [.ref lv, .int (I 1), .int (I 2), .ref sr, .ref gd, .int (I 3), .ref rs, .ref ss, .ref dr, .ref cs, .ref cg])) := by rw [eM5]; exact mm_uk hT hX (by simp)
        have hT_5 : M5 ss = some (.inl (dA 1, 41, .inr (.inl (vp_updL (st) (cN t) (((st (cN t)) + w)))))) := by rw [eM5]; exact mm_us
        refine lv_iconst (v := 0) S.1 S.2.1 d_AR_loop_51 (by decide) ?_
        obtain ⟨u, hu1, hu2⟩ := hwf.2.2.2.2.2.2.2.2.2 j4 hlj4 hhj4
        have hlp := lp_eq (s := st (cN t)) (by rw [cN, enj4]; exact hu1) hu2 c10
        have hk9 : kt M M5 [2041] := by rw [eM5]; exact kt_up hT (by simp [tg])
        have hP9 : cP dA M5 x (upd I 0 0) F (vp_updL st (cN t) (st (cN t) + w)) (nc + 1) := ⟨lv, sr, gd, rs, ss, dr, cs, cg, hk9 _ _ hX (by simp [tg]), cL_k hk9 hL (by decide) rfl rfl rfl rfl rfl rfl rfl rfl rfl, cG_k hk9 hG (by decide) rfl rfl rfl rfl, cS_k hk9 hS (by decide) rfl rfl, hk9 _ _ hR (by simp [tg]), hT_5, cD_k hk9 hD (by decide) rfl rfl, cC_k hk9 hCs (by decide) rfl, cE_k hk9 hE (by decide) (by omega) rfl⟩
        exact mm_reti S.1 S.2.1 hr hlocks hA hQ hw (cs_done hP9 (show sp_loop t w I F st = (0, _, _, _) by simp only [sp_loop, eq_true hc3, eq_false c4, eq_false c10, not_true_eq_false, not_false_eq_true, and_true, true_and, and_false, false_and, and_self, or_true, true_or, or_false, false_or, or_self, ↓reduceIte, eq_false (fun h => c28 (hlp.mpr h))])) (Nat.le_of_ble_eq_true rfl) (Nat.le_of_ble_eq_true rfl) d_AR_loop_52
      · have c28 : (1000 - (st (cN t))) < w := Classical.not_not.mp (fun h => c28 (lgc_le.mpr h))
        refine lv_aload_n S.1 S.2.1 d_AR_loop_31 rfl (lv_at hl 0 rfl) ?_
        refine mm_get (C := R_AR) (T := T_AR) (N := 11) S hK.1 hw hX rfl in_AR 7 (by decide) gw_95 rfl rfl d_AR_loop_32 ?_
        refine lv_iload_n S.1 S.2.1 d_AR_loop_35 rfl (lv_at hl 1 rfl) ?_
        refine lv_lconst (v := 0) S.1 S.2.1 d_AR_loop_36 (by decide) ?_
        refine mn_last (j := cN t) S hK.1 hw 1 hT rfl (cl_nI (is_le0 hc3.1)) (by rw [cN, enj4]; omega) (by decide) d_AR_loop_37 (fun H locs hw => ?_)
        obtain ⟨M6, eM6⟩ : ∃ zM : mm_M, zM = mm_up M ss (.inl (dA 1, 41, .inr (.inl (vp_updL (st) (cN t) (0))))) := ⟨_, rfl⟩
        have hw : mm_w D vC _ _ (mm_up M ss (.inl (dA 1, 41, .inr (.inl (vp_updL (st) (cN t) (0)))))) H _ := hw
        rw [← eM6] at hw
        have hX_6 : M6 x = some (.inr (0, [.ref lv, .int (I 1), .int (I 2), .ref sr, .ref gd, .int (I 3), .ref rs, .ref ss, .ref dr, .ref cs, .ref cg])) := by rw [eM6]; exact mm_uk hT hX (by simp)
        have hT_6 : M6 ss = some (.inl (dA 1, 41, .inr (.inl (vp_updL (st) (cN t) (0))))) := by rw [eM6]; exact mm_us
        refine lv_bipush (v := 71) S.1 S.2.1 d_AR_loop_38 (by decide) ?_
        obtain ⟨u, hu1, hu2⟩ := hwf.2.2.2.2.2.2.2.2.2 j4 hlj4 hhj4
        have hlp := lp_eq (s := st (cN t)) (by rw [cN, enj4]; exact hu1) hu2 c10
        have hk9 : kt M M6 [2041] := by rw [eM6]; exact kt_up hT (by simp [tg])
        have hP9 : cP dA M6 x (upd I 0 0) F (vp_updL st (cN t) 0) (nc + 1) := ⟨lv, sr, gd, rs, ss, dr, cs, cg, hk9 _ _ hX (by simp [tg]), cL_k hk9 hL (by decide) rfl rfl rfl rfl rfl rfl rfl rfl rfl, cG_k hk9 hG (by decide) rfl rfl rfl rfl, cS_k hk9 hS (by decide) rfl rfl, hk9 _ _ hR (by simp [tg]), hT_6, cD_k hk9 hD (by decide) rfl rfl, cC_k hk9 hCs (by decide) rfl, cE_k hk9 hE (by decide) (by omega) rfl⟩
        exact mm_reti S.1 S.2.1 hr hlocks hA hQ hw (cs_done hP9 (show sp_loop t w I F st = (71, _, _, _) by simp only [sp_loop, eq_true hc3, eq_false c4, eq_false c10, not_true_eq_false, not_false_eq_true, and_true, true_and, and_false, false_and, and_self, or_true, true_or, or_false, false_or, or_self, ↓reduceIte, eq_true (hlp.mp c28)])) (Nat.le_of_ble_eq_true rfl) (Nat.le_of_ble_eq_true rfl) d_AR_loop_40
    · have c10 : w < 0 := Classical.not_not.mp (fun h => c10 (lgc_ge.mpr h))
      refine lv_bipush (v := (-4)) S.1 S.2.1 d_AR_loop_13 (by decide) ?_
      exact mm_reti S.1 S.2.1 hr hlocks hA hQ hw (cs_same hC (show sp_loop t w I F st = ((-4), upd I 0 0, F, st) by simp only [sp_loop, eq_true hc3, eq_false c4, eq_true c10, not_true_eq_false, not_false_eq_true, and_true, true_and, and_false, false_and, and_self, or_true, true_or, or_false, false_or, or_self, ↓reduceIte])) (Nat.le_of_ble_eq_true rfl) (Nat.le_of_ble_eq_true rfl) d_AR_loop_15
  · refine lv_if_eq (tgt := 13) S.1 S.2.1 d_AR_loop_4 (by decide) (fun c4 => ?_) (fun c4 => absurd c4 (by decide))
    refine lv_bipush (v := (-4)) S.1 S.2.1 d_AR_loop_13 (by decide) ?_
    exact mm_reti S.1 S.2.1 hr hlocks hA hQ hw (cs_same hC (show sp_loop t w I F st = ((-4), upd I 0 0, F, st) by simp only [sp_loop, eq_false hc3, eq_true c4, not_true_eq_false, not_false_eq_true, and_true, true_and, and_false, false_and, and_self, or_true, true_or, or_false, false_or, or_self, ↓reduceIte])) (Nat.le_of_ble_eq_true rfl) (Nat.le_of_ble_eq_true rfl) d_AR_loop_15
theorem d_CG_timesOf_0 : decode b_CG_timesOf 0 = .ok (.iconst 0, 1) := by decide +kernel
theorem d_CG_timesOf_1 : decode b_CG_timesOf 1 = .ok (.istore_n 2, 1) := by decide +kernel
theorem d_CG_timesOf_2 : decode b_CG_timesOf 2 = .ok (.iconst 0, 1) := by decide +kernel
theorem d_CG_timesOf_3 : decode b_CG_timesOf 3 = .ok (.istore_n 3, 1) := by decide +kernel
theorem d_CG_timesOf_4 : decode b_CG_timesOf 4 = .ok (.iload_n 3, 1) := by decide +kernel
theorem d_CG_timesOf_5 : decode b_CG_timesOf 5 = .ok (.aload_n 0, 1) := by decide +kernel
theorem d_CG_timesOf_6 : decode b_CG_timesOf 6 = .ok (.getfield 15, 3) := by decide +kernel
theorem d_CG_timesOf_9 : decode b_CG_timesOf 9 = .ok (.if_icmp .ge 22, 3) := by decide +kernel
theorem d_CG_timesOf_12 : decode b_CG_timesOf 12 = .ok (.aload_n 0, 1) := by decide +kernel
theorem d_CG_timesOf_13 : decode b_CG_timesOf 13 = .ok (.getfield 9, 3) := by decide +kernel
theorem d_CG_timesOf_16 : decode b_CG_timesOf 16 = .ok (.iload_n 3, 1) := by decide +kernel
theorem d_CG_timesOf_17 : decode b_CG_timesOf 17 = .ok (.iaload, 1) := by decide +kernel
theorem d_CG_timesOf_18 : decode b_CG_timesOf 18 = .ok (.iload_n 1, 1) := by decide +kernel
theorem d_CG_timesOf_19 : decode b_CG_timesOf 19 = .ok (.if_icmp .ne 6, 3) := by decide +kernel
theorem d_CG_timesOf_22 : decode b_CG_timesOf 22 = .ok (.iinc 2 1, 3) := by decide +kernel
theorem d_CG_timesOf_25 : decode b_CG_timesOf 25 = .ok (.iinc 3 1, 3) := by decide +kernel
theorem d_CG_timesOf_28 : decode b_CG_timesOf 28 = .ok (.goto (-24), 3) := by decide +kernel
theorem d_CG_timesOf_31 : decode b_CG_timesOf 31 = .ok (.iload_n 2, 1) := by decide +kernel
theorem d_CG_timesOf_32 : decode b_CG_timesOf 32 = .ok (.ireturn, 1) := by decide +kernel
set_option maxHeartbeats 4000000 in
set_option maxRecDepth 100000 in
theorem c_CG_timesOf (l : Launch) (D : va_G) (dA : Nat → ClassId) (M : mm_M) (cg cd n : Nat) (fC : Nat → Int32) (k : Int32) (hn : n ≤ 512) (hcg : M cg = some (.inr (4, [.ref cd, .int (nI n)]))) (hcd : M cd = some (aI (dA 0) 512 fC)) : mm_Ci l y_CG_timesOf w_CG_timesOf ({ frames := 0, cells := 0, slots := 0, locals := 0 }) 0 0 D vC (tyL dA) [.ref cg, .int k] M (fun r M' => M' = M ∧ r = cnt fC k n) := by
  intro sz
  refine mm_start (by decide) (Nat.le_of_ble_eq_true rfl) ?_
  intro p e s m below meth c A Q ls hA hQ S hr hlocks hin hK hw hl
  have hl : lv_has ls 4 [(0, .ref cg), (1, .int k)] := hl
  refine lv_iconst (v := 0) S.1 S.2.1 d_CG_timesOf_0 (by decide) ?_
  refine lv_istore_n (lv' := [(2, .int 0), (0, .ref cg), (1, .int k)]) S.1 S.2.1 d_CG_timesOf_1 rfl hl (by decide) rfl (fun ls hl => ?_)
  refine lv_iconst (v := 0) S.1 S.2.1 d_CG_timesOf_2 (by decide) ?_
  refine lv_istore_n (lv' := [(3, .int 0), (2, .int 0), (0, .ref cg), (1, .int k)]) S.1 S.2.1 d_CG_timesOf_3 rfl hl (by decide) rfl (fun ls hl => ?_)
  have L : ∀ (mm i : Nat) (ls : Array Slot), i + mm = n → lv_has ls 4 [(2, .int (cnt fC k i)), (3, .int (nI i)), (0, .ref cg), (1, .int k)] → W p l e ({ frames := 0, cells := 0, slots := 0, locals := 0 }) s m [.ref cg, .int k].toArray below meth c s.heap [] 0 0 Q (F0 m 4 ls []) := by
    intro mm
    induction mm with
    | zero =>
      intro i ls hi hl
      refine lv_iload_n S.1 S.2.1 d_CG_timesOf_4 rfl (lv_at hl 1 rfl) ?_
      refine lv_aload_n S.1 S.2.1 d_CG_timesOf_5 rfl (lv_at hl 2 rfl) ?_
      refine mm_get (C := R_CG) (T := T_CG) (N := 2) S hK.1 hw hcg rfl in_CG 1 (by decide) gw_82 rfl rfl d_CG_timesOf_6 ?_
      refine lv_icmp_ge (tgt := 31) S.1 S.2.1 d_CG_timesOf_9 (by decide) (fun c9 => ?_) (fun c9 => absurd (nI_le (by omega) (by omega)) c9)
      refine lv_iload_n S.1 S.2.1 d_CG_timesOf_31 rfl (lv_at hl 0 rfl) ?_
      exact mm_reti S.1 S.2.1 hr hlocks hA hQ hw (⟨rfl, by rw [show i = n by omega]⟩) (Nat.le_of_ble_eq_true rfl) (Nat.le_of_ble_eq_true rfl) d_CG_timesOf_32
    | succ mm ih =>
      intro i ls hi hl
      refine lv_iload_n S.1 S.2.1 d_CG_timesOf_4 rfl (lv_at hl 1 rfl) ?_
      refine lv_aload_n S.1 S.2.1 d_CG_timesOf_5 rfl (lv_at hl 2 rfl) ?_
      refine mm_get (C := R_CG) (T := T_CG) (N := 2) S hK.1 hw hcg rfl in_CG 1 (by decide) gw_82 rfl rfl d_CG_timesOf_6 ?_
      refine lv_icmp_ge (tgt := 31) S.1 S.2.1 d_CG_timesOf_9 (by decide) (fun c9 => absurd c9 (nI_ge (by omega) (by omega))) (fun c9 => ?_)
      refine lv_aload_n S.1 S.2.1 d_CG_timesOf_12 rfl (lv_at hl 2 rfl) ?_
      refine mm_get (C := R_CG) (T := T_CG) (N := 2) S hK.1 hw hcg rfl in_CG 0 (by decide) gw_81 rfl rfl d_CG_timesOf_13 ?_
      refine lv_iload_n S.1 S.2.1 d_CG_timesOf_16 rfl (lv_at hl 1 rfl) ?_
      refine mn_iald (j := i) S hK.1 hw 0 hcd rfl (rfl) (by omega) (by decide) d_CG_timesOf_17 ?_
      refine lv_iload_n S.1 S.2.1 d_CG_timesOf_18 rfl (lv_at hl 3 rfl) ?_
      refine lv_icmp_ne (tgt := 25) S.1 S.2.1 d_CG_timesOf_19 (by decide) (fun c19 => ?_) (fun c19 => ?_)
      · refine lv_iinc (v := (nI (i + 1))) (lv' := [(3, .int (nI (i + 1))), (2, .int (cnt fC k i)), (0, .ref cg), (1, .int k)]) S.1 S.2.1 d_CG_timesOf_25 hl (k := 1) rfl (nI_1 i) (by decide) rfl (fun ls hl => ?_)
        refine lv_goto (tgt := 4) S.1 S.2.1 d_CG_timesOf_28 (by decide) ?_
        exact ih (i + 1) ls (by omega) (by rw [show cnt fC k (i + 1) = (cnt fC k i) from by rw [cnt, if_neg c19]]; exact lv_sub hl [1, 0, 2, 3] rfl)
      · refine lv_iinc (v := ((cnt fC k i) + 1)) (lv' := [(2, .int ((cnt fC k i) + 1)), (3, .int (nI i)), (0, .ref cg), (1, .int k)]) S.1 S.2.1 d_CG_timesOf_22 hl (k := 0) rfl (rfl) (by decide) rfl (fun ls hl => ?_)
        refine lv_iinc (v := (nI (i + 1))) (lv' := [(3, .int (nI (i + 1))), (2, .int ((cnt fC k i) + 1)), (0, .ref cg), (1, .int k)]) S.1 S.2.1 d_CG_timesOf_25 hl (k := 1) rfl (nI_1 i) (by decide) rfl (fun ls hl => ?_)
        refine lv_goto (tgt := 4) S.1 S.2.1 d_CG_timesOf_28 (by decide) ?_
        exact ih (i + 1) ls (by omega) (by rw [show cnt fC k (i + 1) = ((cnt fC k i) + 1) from by rw [cnt, if_pos c19]]; exact lv_sub hl [1, 0, 2, 3] rfl)
  exact L n 0 ls (by omega) (lv_sub hl [1, 0, 2, 3] rfl)
theorem d_AR_count_0 : decode b_AR_count 0 = .ok (.aload_n 0, 1) := by decide +kernel
theorem d_AR_count_1 : decode b_AR_count 1 = .ok (.getfield 53, 3) := by decide +kernel
theorem d_AR_count_4 : decode b_AR_count 4 = .ok (.iload_n 1, 1) := by decide +kernel
theorem d_AR_count_5 : decode b_AR_count 5 = .ok (.invokevirtual 178, 3) := by decide +kernel
theorem d_AR_count_8 : decode b_AR_count 8 = .ok (.ireturn, 1) := by decide +kernel
set_option maxHeartbeats 4000000 in
set_option maxRecDepth 100000 in
theorem c_AR_count (l : Launch) (D : va_G) (dA : Nat → ClassId) (M : mm_M) (x nc : Nat) (I : sI) (F : sF) (st : sT) (hC : cP dA M x I F st nc) (hwf : wf I F st) (hnc : nc ≤ 512) (k : Int32) : mm_Ci l y_AR_count w_AR_count ({ frames := 1, cells := 0, slots := 0, locals := 23 }) 0 0 D vC (tyL dA) [.ref x, .int k] M (cs_post dA x nc (sp_count k I F st)) := by
  intro sz
  refine mm_start (by decide) (Nat.le_of_ble_eq_true rfl) ?_
  intro p e s m below meth c A Q ls hA hQ S hr hlocks hin hK hw hl
  have hl : lv_has ls 2 [(0, .ref x), (1, .int k)] := hl
  obtain ⟨lv, sr, gd, rs, ss, dr, cs, cg, hX, hL, hG, hS, hR, hT, hD, hCs, hE⟩ := id hC
  have hX : M x = some (.inr (0, [.ref lv, .int (I 1), .int (I 2), .ref sr, .ref gd, .int (I 3), .ref rs, .ref ss, .ref dr, .ref cs, .ref cg])) := hX
  obtain ⟨cd, n9, fC, hcg, hcd, hn9, hfc, hct⟩ := id hE
  refine lv_aload_n S.1 S.2.1 d_AR_count_0 rfl (lv_at hl 0 rfl) ?_
  refine mm_get (C := R_AR) (T := T_AR) (N := 11) S hK.1 hw hX rfl in_AR 10 (by decide) gw_98 rfl rfl d_AR_count_1 ?_
  refine lv_iload_n S.1 S.2.1 d_AR_count_4 rfl (lv_at hl 1 rfl) ?_
  refine mm_calli hw (mm_runV (a := cg) (As := [.int k]) (rest := []) S hK hw (c_CG_timesOf l D dA _ cg cd n9 fC k (by omega) hcg hcd _) bv_CG_timesOf gw_352 hcg rfl (⟨rfl, rfl, by decide, by decide, by decide, by decide⟩) hl.1 rfl rfl (Nat.le_of_ble_eq_true rfl) d_AR_count_5) (fun r1 M2 H locs hp hw => ?_)
  rw [hp.1] at hw
  have hr3 := hp.2
  have hsp : sp_count k I F st = (r1, upd I 0 0, F, st) := by
    rw [hr3, sp_count]
    by_cases hcc : is_ok 9999 k
    · obtain ⟨j, ek, hj1, hj2, en⟩ := is_of (N := 9999) rfl (by omega) hcc
      rw [if_pos hcc, show F 8 (cN k) = cnt fC k n9 from by rw [cN, en, hct j hj1 hj2, ek]]
    · rw [if_neg hcc, cnt_none n9 hfc hcc]
  exact mm_reti S.1 S.2.1 hr hlocks hA hQ hw (cs_same hC hsp) (Nat.le_of_ble_eq_true rfl) (Nat.le_of_ble_eq_true rfl) d_AR_count_8
theorem d_CG_add_0 : decode b_CG_add 0 = .ok (.aload_n 0, 1) := by decide +kernel
theorem d_CG_add_1 : decode b_CG_add 1 = .ok (.getfield 15, 3) := by decide +kernel
theorem d_CG_add_4 : decode b_CG_add 4 = .ok (.sipush 512, 3) := by decide +kernel
theorem d_CG_add_7 : decode b_CG_add 7 = .ok (.if_icmp .ge 23, 3) := by decide +kernel
theorem d_CG_add_10 : decode b_CG_add 10 = .ok (.aload_n 0, 1) := by decide +kernel
theorem d_CG_add_11 : decode b_CG_add 11 = .ok (.getfield 9, 3) := by decide +kernel
theorem d_CG_add_14 : decode b_CG_add 14 = .ok (.aload_n 0, 1) := by decide +kernel
theorem d_CG_add_15 : decode b_CG_add 15 = .ok (.getfield 15, 3) := by decide +kernel
theorem d_CG_add_18 : decode b_CG_add 18 = .ok (.iload_n 1, 1) := by decide +kernel
theorem d_CG_add_19 : decode b_CG_add 19 = .ok (.iastore, 1) := by decide +kernel
theorem d_CG_add_20 : decode b_CG_add 20 = .ok (.aload_n 0, 1) := by decide +kernel
theorem d_CG_add_21 : decode b_CG_add 21 = .ok (.dup, 1) := by decide +kernel
theorem d_CG_add_22 : decode b_CG_add 22 = .ok (.getfield 15, 3) := by decide +kernel
theorem d_CG_add_25 : decode b_CG_add 25 = .ok (.iconst 1, 1) := by decide +kernel
theorem d_CG_add_26 : decode b_CG_add 26 = .ok (.iadd, 1) := by decide +kernel
theorem d_CG_add_27 : decode b_CG_add 27 = .ok (.putfield 15, 3) := by decide +kernel
theorem d_CG_add_30 : decode b_CG_add 30 = .ok (.return_, 1) := by decide +kernel
set_option maxHeartbeats 4000000 in
set_option maxRecDepth 100000 in
theorem c_CG_add (l : Launch) (D : va_G) (dA : Nat → ClassId) (M : mm_M) (cg cd n : Nat) (fC : Nat → Int32) (k : Int32) (hn : n < 512) (hcg : M cg = some (.inr (4, [.ref cd, .int (nI n)]))) (hcd : M cd = some (aI (dA 0) 512 fC)) : mm_Cv l y_CG_add w_CG_add ({ frames := 0, cells := 0, slots := 0, locals := 0 }) 0 0 D vC (tyL dA) [.ref cg, .int k] M (fun M' => M' = mm_up (mm_up M cd (aI (dA 0) 512 (upd fC n k))) cg (.inr (4, [.ref cd, .int (nI (n + 1))]))) := by
  intro sz
  refine mm_start (by decide) (Nat.le_of_ble_eq_true rfl) ?_
  intro p e s m below meth c A Q ls hA hQ S hr hlocks hin hK hw hl
  have hl : lv_has ls 2 [(0, .ref cg), (1, .int k)] := hl
  refine lv_aload_n S.1 S.2.1 d_CG_add_0 rfl (lv_at hl 0 rfl) ?_
  refine mm_get (C := R_CG) (T := T_CG) (N := 2) S hK.1 hw hcg rfl in_CG 1 (by decide) gw_82 rfl rfl d_CG_add_1 ?_
  refine lv_sipush (v := 512) S.1 S.2.1 d_CG_add_4 (by decide) ?_
  refine lv_icmp_ge (tgt := 30) S.1 S.2.1 d_CG_add_7 (by decide) (fun c7 => absurd c7 (nI_ge (b := 512) hn (by decide))) (fun c7 => ?_)
  refine lv_aload_n S.1 S.2.1 d_CG_add_10 rfl (lv_at hl 0 rfl) ?_
  refine mm_get (C := R_CG) (T := T_CG) (N := 2) S hK.1 hw hcg rfl in_CG 0 (by decide) gw_81 rfl rfl d_CG_add_11 ?_
  refine lv_aload_n S.1 S.2.1 d_CG_add_14 rfl (lv_at hl 0 rfl) ?_
  refine mm_get (C := R_CG) (T := T_CG) (N := 2) S hK.1 hw hcg rfl in_CG 1 (by decide) gw_82 rfl rfl d_CG_add_15 ?_
  refine lv_iload_n S.1 S.2.1 d_CG_add_18 rfl (lv_at hl 1 rfl) ?_
  refine mn_iast (j := n) S hK.1 hw 0 hcd rfl (rfl) (by omega) (by decide) d_CG_add_19 (fun H locs hw => ?_)
  obtain ⟨M1, eM1⟩ : ∃ zM : mm_M, zM = mm_up M cd (.inl (dA 0, 512, .inl (upd (fC) (n) (k)))) := ⟨_, rfl⟩
  have hw : mm_w D vC _ _ (mm_up M cd (.inl (dA 0, 512, .inl (upd (fC) (n) (k))))) H _ := hw
  rw [← eM1] at hw
  have hcg_1 : M1 cg = some (.inr (4, [.ref cd, .int (nI n)])) := by rw [eM1]; exact mm_uk hcd hcg (by simp)
  have hcd_1 : M1 cd = some (.inl (dA 0, 512, .inl (upd (fC) (n) (k)))) := by rw [eM1]; exact mm_us
  refine lv_aload_n S.1 S.2.1 d_CG_add_20 rfl (lv_at hl 0 rfl) ?_
  refine lv_dup S.1 S.2.1 d_CG_add_21 rfl ?_
  refine mm_get (C := R_CG) (T := T_CG) (N := 2) S hK.1 hw hcg_1 rfl in_CG 1 (by decide) gw_82 rfl rfl d_CG_add_22 ?_
  refine lv_iconst (v := 1) S.1 S.2.1 d_CG_add_25 (by decide) ?_
  refine lv_iadd S.1 S.2.1 d_CG_add_26 ?_
  refine mm_put (C := R_CG) (T := T_CG) (N := 2) (ty := .int) (v := .int ((nI n) + 1)) S hK.1 hw hcg_1 rfl in_CG t_CG k_CG n_CG 1 (by decide) gw_82 rfl rfl (by decide +kernel) (rfl) (rfl) (Nat.le_of_ble_eq_true rfl) d_CG_add_27 (fun H locs hw => ?_)
  obtain ⟨M2, eM2⟩ : ∃ zM : mm_M, zM = mm_up M1 cg (.inr (4, [.ref cd, .int ((nI n) + 1)])) := ⟨_, rfl⟩
  have hw : mm_w D vC _ _ (mm_up M1 cg (.inr (4, [.ref cd, .int ((nI n) + 1)]))) H _ := hw
  rw [← eM2] at hw
  have hcd_2 : M2 cd = some (.inl (dA 0, 512, .inl (upd (fC) (n) (k)))) := by rw [eM2]; exact mm_uk hcg_1 hcd_1 (by simp)
  have hcg_2 : M2 cg = some (.inr (4, [.ref cd, .int ((nI n) + 1)])) := by rw [eM2]; exact mm_us
  exact mm_retv S.1 S.2.1 hr hlocks hA hQ hw (by rw [eM2, eM1, ← nI_1]) (Nat.le_of_ble_eq_true rfl) (Nat.le_of_ble_eq_true rfl) d_CG_add_30
theorem d_CS_bitOf_0 : decode b_CS_bitOf 0 = .ok (.lconst 1, 1) := by decide +kernel
theorem d_CS_bitOf_1 : decode b_CS_bitOf 1 = .ok (.iload_n 0, 1) := by decide +kernel
theorem d_CS_bitOf_2 : decode b_CS_bitOf 2 = .ok (.bipush 64, 2) := by decide +kernel
theorem d_CS_bitOf_4 : decode b_CS_bitOf 4 = .ok (.irem, 1) := by decide +kernel
theorem d_CS_bitOf_5 : decode b_CS_bitOf 5 = .ok (.lshl, 1) := by decide +kernel
theorem d_CS_bitOf_6 : decode b_CS_bitOf 6 = .ok (.lreturn, 1) := by decide +kernel
set_option maxHeartbeats 4000000 in
set_option maxRecDepth 100000 in
theorem c_CS_bitOf (l : Launch) (D : va_G) (dA : Nat → ClassId) (M : mm_M) (k : Int32) (j : Nat) (hk : k = nI j) (hj : j < 2 ^ 31) : mm_Cl l y_CS_bitOf w_CS_bitOf ({ frames := 0, cells := 0, slots := 0, locals := 0 }) 0 0 D vC (tyL dA) [.int k] M (fun r M' => M' = M ∧ r.toBitVec = BitVec.twoPow 64 (j % 64)) := by
  intro sz
  refine mm_start (by decide) (Nat.le_of_ble_eq_true rfl) ?_
  intro p e s m below meth c A Q ls hA hQ S hr hlocks hin hK hw hl
  have hl : lv_has ls 1 [(0, .int k)] := hl
  refine lv_lconst (v := 1) S.1 S.2.1 d_CS_bitOf_0 (by decide) ?_
  refine lv_iload_n S.1 S.2.1 d_CS_bitOf_1 rfl (lv_at hl 0 rfl) ?_
  refine lv_bipush (v := 64) S.1 S.2.1 d_CS_bitOf_2 (by decide) ?_
  refine lv_irem S.1 S.2.1 d_CS_bitOf_4 (by decide) ?_
  refine W.eq (g2 := F0 m 5 ls (.int (nI (j % 64)) :: [.long 1])) (by rw [show (k - k / 64 * 64) = (nI (j % 64)) from by rw [hk, show (64 : Int32) = nI 64 from rfl, pk_rem hj (by decide) (by decide)]]) ?_
  refine lv_lshl (v := (1 <<< (((nI (j % 64)) : Int32).toInt64 &&& 63))) S.1 S.2.1 d_CS_bitOf_5 rfl ?_
  exact mm_retl S.1 S.2.1 hr hlocks hA hQ hw (⟨rfl, bw_1 (j % 64) (by omega)⟩) (Nat.le_of_ble_eq_true rfl) (Nat.le_of_ble_eq_true rfl) d_CS_bitOf_6
theorem d_CS_has_0 : decode b_CS_has 0 = .ok (.iload_n 1, 1) := by decide +kernel
theorem d_CS_has_1 : decode b_CS_has 1 = .ok (.invokestatic 15, 3) := by decide +kernel
theorem d_CS_has_4 : decode b_CS_has 4 = .ok (.ifCond .eq 26, 3) := by decide +kernel
theorem d_CS_has_7 : decode b_CS_has 7 = .ok (.aload_n 0, 1) := by decide +kernel
theorem d_CS_has_8 : decode b_CS_has 8 = .ok (.getfield 11, 3) := by decide +kernel
theorem d_CS_has_11 : decode b_CS_has 11 = .ok (.iload_n 1, 1) := by decide +kernel
theorem d_CS_has_12 : decode b_CS_has 12 = .ok (.bipush 64, 2) := by decide +kernel
theorem d_CS_has_14 : decode b_CS_has 14 = .ok (.idiv, 1) := by decide +kernel
theorem d_CS_has_15 : decode b_CS_has 15 = .ok (.laload, 1) := by decide +kernel
theorem d_CS_has_16 : decode b_CS_has 16 = .ok (.iload_n 1, 1) := by decide +kernel
theorem d_CS_has_17 : decode b_CS_has 17 = .ok (.invokestatic 19, 3) := by decide +kernel
theorem d_CS_has_20 : decode b_CS_has 20 = .ok (.land, 1) := by decide +kernel
theorem d_CS_has_21 : decode b_CS_has 21 = .ok (.lconst 0, 1) := by decide +kernel
theorem d_CS_has_22 : decode b_CS_has 22 = .ok (.lcmp, 1) := by decide +kernel
theorem d_CS_has_23 : decode b_CS_has 23 = .ok (.ifCond .eq 7, 3) := by decide +kernel
theorem d_CS_has_26 : decode b_CS_has 26 = .ok (.iconst 1, 1) := by decide +kernel
theorem d_CS_has_27 : decode b_CS_has 27 = .ok (.goto 4, 3) := by decide +kernel
theorem d_CS_has_30 : decode b_CS_has 30 = .ok (.iconst 0, 1) := by decide +kernel
theorem d_CS_has_31 : decode b_CS_has 31 = .ok (.ireturn, 1) := by decide +kernel
set_option maxHeartbeats 4000000 in
set_option maxRecDepth 100000 in
theorem c_CS_has (l : Launch) (D : va_G) (dA : Nat → ClassId) (M : mm_M) (cs wd : Nat) (fW : Nat → Int64) (hcs : M cs = some (.inr (3, [.ref wd]))) (hwd : M wd = some (aJ (dA 1) 157 fW)) (k : Int32) : mm_Ci l y_CS_has w_CS_has ({ frames := 1, cells := 0, slots := 0, locals := 20 }) 0 0 D vC (tyL dA) [.ref cs, .int k] M (fun r M' => M' = M ∧ ((r = 1 ∧ is_ok 9999 k ∧ bw fW (cN k) = true) ∨ (r = 0 ∧ ¬ (is_ok 9999 k ∧ bw fW (cN k) = true)))) := by
  intro sz
  refine mm_start (by decide) (Nat.le_of_ble_eq_true rfl) ?_
  intro p e s m below meth c A Q ls hA hQ S hr hlocks hin hK hw hl
  have hl : lv_has ls 2 [(0, .ref cs), (1, .int k)] := hl
  refine lv_iload_n S.1 S.2.1 d_CS_has_0 rfl (lv_at hl 1 rfl) ?_
  refine mm_calli hw (mm_runSN (As := [.int k]) (rest := []) S hK hw (c_AR_isCode l D dA _ k _) bs_AR_isCode hK.2.2.2.2.2.2 (⟨rfl, rfl, by decide, by decide, by decide, by decide⟩) hl.1 rfl rfl (Nat.le_of_ble_eq_true rfl) d_CS_has_1) (fun r1 M2 H locs hp hw => ?_)
  rw [hp.1] at hw
  rcases hp.2 with ⟨rfl, hc3⟩ | ⟨rfl, hc3⟩
  · obtain ⟨j4, ekj4, hlj4, hhj4, enj4⟩ := is_of (N := 9999) rfl (by omega) hc3
    refine lv_if_eq (tgt := 30) S.1 S.2.1 d_CS_has_4 (by decide) (fun c4 => absurd c4 (by decide)) (fun c4 => ?_)
    refine lv_aload_n S.1 S.2.1 d_CS_has_7 rfl (lv_at hl 0 rfl) ?_
    refine mm_get (C := R_CS) (T := T_CS) (N := 1) S hK.1 hw hcs rfl in_CS 0 (by decide) gw_71 rfl rfl d_CS_has_8 ?_
    refine lv_iload_n S.1 S.2.1 d_CS_has_11 rfl (lv_at hl 1 rfl) ?_
    refine lv_bipush (v := 64) S.1 S.2.1 d_CS_has_12 (by decide) ?_
    refine lv_idiv S.1 S.2.1 d_CS_has_14 (by decide) ?_
    refine mn_lald (j := cN k / 64) S hK.1 hw 1 hwd rfl (by rw [cN, enj4, ekj4, show (64 : Int32) = nI 64 from rfl, pk_div (by omega) (by decide) (by decide)]) (by rw [cN, enj4]; omega) (by decide) d_CS_has_15 ?_
    refine lv_iload_n S.1 S.2.1 d_CS_has_16 rfl (lv_at hl 1 rfl) ?_
    refine mm_calll hw (mm_runS (As := [.int k]) (rest := [.long (fW (cN k / 64))]) S hK hw (c_CS_bitOf l D dA _ k j4 ekj4 (by omega) _) bs_CS_bitOf gw_243 (⟨rfl, rfl, by decide, by decide, by decide, by decide⟩) hl.1 rfl rfl (Nat.le_of_ble_eq_true rfl) d_CS_has_17) (fun r5 M6 H locs hp hw => ?_)
    rw [hp.1] at hw
    have hr7 := hp.2
    refine lv_land S.1 S.2.1 d_CS_has_20 ?_
    refine lv_lconst (v := 0) S.1 S.2.1 d_CS_has_21 (by decide) ?_
    refine W.lcmp S.1 S.2.1 d_CS_has_22 ?_
    refine lv_if_eq (tgt := 30) S.1 S.2.1 d_CS_has_23 (by decide) (fun c23 => ?_) (fun c23 => ?_)
    · have c23 : ((fW (cN k / 64)) &&& r5) = 0 := lgc_eq.mp c23
      refine lv_iconst (v := 0) S.1 S.2.1 d_CS_has_30 (by decide) ?_
      exact mm_retz S.1 S.2.1 hr hlocks hA hQ hw (rfl) (⟨rfl, Or.inr ⟨rfl, fun q => by have h9 := (bw_has (j := cN k % 64) (by omega) (by rw [cN, enj4]; exact hr7)).mp c23; exact absurd (q.2.symm.trans h9) (by decide)⟩⟩) (Nat.le_of_ble_eq_true rfl) (Nat.le_of_ble_eq_true rfl) d_CS_has_31
    · have c23 : ¬ ((fW (cN k / 64)) &&& r5) = 0 := fun h => c23 (lgc_eq.mpr h)
      refine lv_iconst (v := 1) S.1 S.2.1 d_CS_has_26 (by decide) ?_
      refine lv_goto (tgt := 31) S.1 S.2.1 d_CS_has_27 (by decide) ?_
      exact mm_retz S.1 S.2.1 hr hlocks hA hQ hw (rfl) (⟨rfl, Or.inl ⟨rfl, hc3, by
            cases hb9 : bw fW (cN k) with
            | true => rfl
            | false => exact absurd ((bw_has (j := cN k % 64) (by omega) (by rw [cN, enj4]; exact hr7)).mpr hb9) c23⟩⟩) (Nat.le_of_ble_eq_true rfl) (Nat.le_of_ble_eq_true rfl) d_CS_has_31
  · refine lv_if_eq (tgt := 30) S.1 S.2.1 d_CS_has_4 (by decide) (fun c4 => ?_) (fun c4 => absurd c4 (by decide))
    refine lv_iconst (v := 0) S.1 S.2.1 d_CS_has_30 (by decide) ?_
    exact mm_retz S.1 S.2.1 hr hlocks hA hQ hw (rfl) (⟨rfl, Or.inr ⟨rfl, fun q => hc3 q.1⟩⟩) (Nat.le_of_ble_eq_true rfl) (Nat.le_of_ble_eq_true rfl) d_CS_has_31
theorem d_CS_put_0 : decode b_CS_put 0 = .ok (.iload_n 1, 1) := by decide +kernel
theorem d_CS_put_1 : decode b_CS_put 1 = .ok (.invokestatic 15, 3) := by decide +kernel
theorem d_CS_put_4 : decode b_CS_put 4 = .ok (.ifCond .ne 4, 3) := by decide +kernel
theorem d_CS_put_7 : decode b_CS_put 7 = .ok (.return_, 1) := by decide +kernel
theorem d_CS_put_8 : decode b_CS_put 8 = .ok (.aload_n 0, 1) := by decide +kernel
theorem d_CS_put_9 : decode b_CS_put 9 = .ok (.getfield 11, 3) := by decide +kernel
theorem d_CS_put_12 : decode b_CS_put 12 = .ok (.iload_n 1, 1) := by decide +kernel
theorem d_CS_put_13 : decode b_CS_put 13 = .ok (.bipush 64, 2) := by decide +kernel
theorem d_CS_put_15 : decode b_CS_put 15 = .ok (.idiv, 1) := by decide +kernel
theorem d_CS_put_16 : decode b_CS_put 16 = .ok (.laload, 1) := by decide +kernel
theorem d_CS_put_17 : decode b_CS_put 17 = .ok (.iload_n 1, 1) := by decide +kernel
theorem d_CS_put_18 : decode b_CS_put 18 = .ok (.invokestatic 19, 3) := by decide +kernel
theorem d_CS_put_21 : decode b_CS_put 21 = .ok (.ldc2_w 23, 3) := by decide +kernel
theorem d_CS_put_24 : decode b_CS_put 24 = .ok (.lxor, 1) := by decide +kernel
theorem d_CS_put_25 : decode b_CS_put 25 = .ok (.land, 1) := by decide +kernel
theorem d_CS_put_26 : decode b_CS_put 26 = .ok (.lstore_n 3, 1) := by decide +kernel
theorem d_CS_put_27 : decode b_CS_put 27 = .ok (.aload_n 0, 1) := by decide +kernel
theorem d_CS_put_28 : decode b_CS_put 28 = .ok (.getfield 11, 3) := by decide +kernel
theorem d_CS_put_31 : decode b_CS_put 31 = .ok (.iload_n 1, 1) := by decide +kernel
theorem d_CS_put_32 : decode b_CS_put 32 = .ok (.bipush 64, 2) := by decide +kernel
theorem d_CS_put_34 : decode b_CS_put 34 = .ok (.idiv, 1) := by decide +kernel
theorem d_CS_put_35 : decode b_CS_put 35 = .ok (.iload_n 2, 1) := by decide +kernel
theorem d_CS_put_36 : decode b_CS_put 36 = .ok (.ifCond .eq 12, 3) := by decide +kernel
theorem d_CS_put_39 : decode b_CS_put 39 = .ok (.lload_n 3, 1) := by decide +kernel
theorem d_CS_put_40 : decode b_CS_put 40 = .ok (.iload_n 1, 1) := by decide +kernel
theorem d_CS_put_41 : decode b_CS_put 41 = .ok (.invokestatic 19, 3) := by decide +kernel
theorem d_CS_put_44 : decode b_CS_put 44 = .ok (.lor, 1) := by decide +kernel
theorem d_CS_put_45 : decode b_CS_put 45 = .ok (.goto 4, 3) := by decide +kernel
theorem d_CS_put_48 : decode b_CS_put 48 = .ok (.lload_n 3, 1) := by decide +kernel
theorem d_CS_put_49 : decode b_CS_put 49 = .ok (.lastore, 1) := by decide +kernel
theorem d_CS_put_50 : decode b_CS_put 50 = .ok (.return_, 1) := by decide +kernel
set_option maxHeartbeats 4000000 in
set_option maxRecDepth 100000 in
theorem c_CS_put (l : Launch) (D : va_G) (dA : Nat → ClassId) (M : mm_M) (cs wd : Nat) (fW : Nat → Int64) (hcs : M cs = some (.inr (3, [.ref wd]))) (hwd : M wd = some (aJ (dA 1) 157 fW)) (k z : Int32) (hz : z = 0 ∨ z = 1) (hok : is_ok 9999 k) : mm_Cv l y_CS_put w_CS_put ({ frames := 1, cells := 0, slots := 0, locals := 20 }) 0 0 D vC (tyL dA) [.ref cs, .int k, .int z] M (fun M' => ∃ fW' : Nat → Int64, M' = mm_up M wd (aJ (dA 1) 157 fW') ∧ ∀ i, bw fW' i = if i = cN k then decide (¬ z = 0) else bw fW i) := by
  intro sz
  refine mm_start (by decide) (Nat.le_of_ble_eq_true rfl) ?_
  intro p e s m below meth c A Q ls hA hQ S hr hlocks hin hK hw hl
  have hl : lv_has ls 5 [(0, .ref cs), (1, .int k), (2, .int z)] := hl
  refine lv_iload_n S.1 S.2.1 d_CS_put_0 rfl (lv_at hl 1 rfl) ?_
  refine mm_calli hw (mm_runSN (As := [.int k]) (rest := []) S hK hw (c_AR_isCode l D dA _ k _) bs_AR_isCode hK.2.2.2.2.2.2 (⟨rfl, rfl, by decide, by decide, by decide, by decide⟩) hl.1 rfl rfl (Nat.le_of_ble_eq_true rfl) d_CS_put_1) (fun r1 M2 H locs hp hw => ?_)
  rw [hp.1] at hw
  have hp2 := hp.2.resolve_right (fun q => q.2 hok)
  obtain ⟨rfl, hok2⟩ := hp2
  obtain ⟨j, ekj, hlj, hhj, enj⟩ := is_of (N := 9999) rfl (by omega) hok
  refine lv_if_ne (tgt := 8) S.1 S.2.1 d_CS_put_4 (by decide) (fun c4 => ?_) (fun c4 => absurd c4 (by decide))
  refine lv_aload_n S.1 S.2.1 d_CS_put_8 rfl (lv_at hl 0 rfl) ?_
  refine mm_get (C := R_CS) (T := T_CS) (N := 1) S hK.1 hw hcs rfl in_CS 0 (by decide) gw_71 rfl rfl d_CS_put_9 ?_
  refine lv_iload_n S.1 S.2.1 d_CS_put_12 rfl (lv_at hl 1 rfl) ?_
  refine lv_bipush (v := 64) S.1 S.2.1 d_CS_put_13 (by decide) ?_
  refine lv_idiv S.1 S.2.1 d_CS_put_15 (by decide) ?_
  refine mn_lald (j := cN k / 64) S hK.1 hw 1 hwd rfl (by rw [cN, enj, ekj, show (64 : Int32) = nI 64 from rfl, pk_div (by omega) (by decide) (by decide)]) (by rw [cN, enj]; omega) (by decide) d_CS_put_16 ?_
  refine lv_iload_n S.1 S.2.1 d_CS_put_17 rfl (lv_at hl 1 rfl) ?_
  refine mm_calll hw (mm_runS (As := [.int k]) (rest := [.long (fW (cN k / 64))]) S hK hw (c_CS_bitOf l D dA _ k j ekj (by omega) _) bs_CS_bitOf gw_243 (⟨rfl, rfl, by decide, by decide, by decide, by decide⟩) hl.1 rfl rfl (Nat.le_of_ble_eq_true rfl) d_CS_put_18) (fun r3 M4 H locs hp hw => ?_)
  rw [hp.1] at hw
  have hr5 := hp.2
  refine lv_ldc2 (v := -1) S.1 S.2.1 S.2.2.2.1 (S.2.2.2.2 _ gw_347) d_CS_put_21 ?_
  refine lv_lxor S.1 S.2.1 d_CS_put_24 ?_
  refine lv_land S.1 S.2.1 d_CS_put_25 ?_
  refine lv_lstore_n (lv' := [(3, .long ((fW (cN k / 64)) &&& (r3 ^^^ -1))), (0, .ref cs), (1, .int k), (2, .int z)]) S.1 S.2.1 d_CS_put_26 rfl hl (by decide) rfl (fun ls hl => ?_)
  refine lv_aload_n S.1 S.2.1 d_CS_put_27 rfl (lv_at hl 1 rfl) ?_
  refine mm_get (C := R_CS) (T := T_CS) (N := 1) S hK.1 hw hcs rfl in_CS 0 (by decide) gw_71 rfl rfl d_CS_put_28 ?_
  refine lv_iload_n S.1 S.2.1 d_CS_put_31 rfl (lv_at hl 2 rfl) ?_
  refine lv_bipush (v := 64) S.1 S.2.1 d_CS_put_32 (by decide) ?_
  refine lv_idiv S.1 S.2.1 d_CS_put_34 (by decide) ?_
  refine lv_iload_n S.1 S.2.1 d_CS_put_35 rfl (lv_at hl 3 rfl) ?_
  refine lv_if_eq (tgt := 48) S.1 S.2.1 d_CS_put_36 (by decide) (fun c36 => ?_) (fun c36 => ?_)
  · refine lv_lload_n S.1 S.2.1 d_CS_put_48 rfl (lv_at hl 0 rfl) ?_
    refine mn_last (j := cN k / 64) S hK.1 hw 1 hwd rfl (by rw [cN, enj, ekj, show (64 : Int32) = nI 64 from rfl, pk_div (by omega) (by decide) (by decide)]) (by rw [cN, enj]; omega) (by decide) d_CS_put_49 (fun H locs hw => ?_)
    obtain ⟨M6, eM6⟩ : ∃ zM : mm_M, zM = mm_up M wd (.inl (dA 1, 157, .inr (.inl (vp_updL (fW) (cN k / 64) (((fW (cN k / 64)) &&& (r3 ^^^ -1))))))) := ⟨_, rfl⟩
    have hw : mm_w D vC _ _ (mm_up M wd (.inl (dA 1, 157, .inr (.inl (vp_updL (fW) (cN k / 64) (((fW (cN k / 64)) &&& (r3 ^^^ -1)))))))) H _ := hw
    rw [← eM6] at hw
    have hcs_6 : M6 cs = some (.inr (3, [.ref wd])) := by rw [eM6]; exact mm_uk hwd hcs (by simp)
    have hwd_6 : M6 wd = some (.inl (dA 1, 157, .inr (.inl (vp_updL (fW) (cN k / 64) (((fW (cN k / 64)) &&& (r3 ^^^ -1))))))) := by rw [eM6]; exact mm_us
    refine mm_retv S.1 S.2.1 hr hlocks hA hQ hw (post := fun M' => ∃ fW' : Nat → Int64, M' = mm_up M wd (aJ (dA 1) 157 fW') ∧ ∀ i, bw fW' i = if i = cN k then decide (¬ z = 0) else bw fW i) ⟨_, eM6, fun i => ?_⟩ (Nat.le_of_ble_eq_true rfl) (Nat.le_of_ble_eq_true rfl) d_CS_put_50
    have hb1 : r3.toBitVec = BitVec.twoPow 64 (cN k % 64) := by rw [cN, enj]; exact hr5
    show (vp_updL fW (cN k / 64) _ (i / 64)).toBitVec.getLsbD (i % 64) = _
    by_cases hw9 : i / 64 = cN k / 64
    · rw [hw9, pk_uLs]
      rw [bw_off (by omega) hb1]
      by_cases hi9 : i = cN k
      · subst hi9; rw [if_pos rfl]; simp [c36]
      · have h9 : ¬ i % 64 = cN k % 64 := by omega
        rw [if_neg hi9]; simp only [h9, decide_false, Bool.not_false, Bool.and_true]; rw [← hw9]; rfl
    · rw [pk_uLn hw9, if_neg (fun q => hw9 (by rw [q]))]; rfl
  · refine lv_lload_n S.1 S.2.1 d_CS_put_39 rfl (lv_at hl 0 rfl) ?_
    refine lv_iload_n S.1 S.2.1 d_CS_put_40 rfl (lv_at hl 2 rfl) ?_
    refine mm_calll hw (mm_runS (As := [.int k]) (rest := [.long ((fW (cN k / 64)) &&& (r3 ^^^ -1)), .int (k / 64), .ref wd]) S hK hw (c_CS_bitOf l D dA _ k j ekj (by omega) _) bs_CS_bitOf gw_243 (⟨rfl, rfl, by decide, by decide, by decide, by decide⟩) hl.1 rfl rfl (Nat.le_of_ble_eq_true rfl) d_CS_put_41) (fun r7 M8 H locs hp hw => ?_)
    rw [hp.1] at hw
    have hr9 := hp.2
    refine lv_lor S.1 S.2.1 d_CS_put_44 ?_
    refine lv_goto (tgt := 49) S.1 S.2.1 d_CS_put_45 (by decide) ?_
    refine mn_last (j := cN k / 64) S hK.1 hw 1 hwd rfl (by rw [cN, enj, ekj, show (64 : Int32) = nI 64 from rfl, pk_div (by omega) (by decide) (by decide)]) (by rw [cN, enj]; omega) (by decide) d_CS_put_49 (fun H locs hw => ?_)
    obtain ⟨M10, eM10⟩ : ∃ zM : mm_M, zM = mm_up M wd (.inl (dA 1, 157, .inr (.inl (vp_updL (fW) (cN k / 64) ((((fW (cN k / 64)) &&& (r3 ^^^ -1)) ||| r7)))))) := ⟨_, rfl⟩
    have hw : mm_w D vC _ _ (mm_up M wd (.inl (dA 1, 157, .inr (.inl (vp_updL (fW) (cN k / 64) ((((fW (cN k / 64)) &&& (r3 ^^^ -1)) ||| r7))))))) H _ := hw
    rw [← eM10] at hw
    have hcs_10 : M10 cs = some (.inr (3, [.ref wd])) := by rw [eM10]; exact mm_uk hwd hcs (by simp)
    have hwd_10 : M10 wd = some (.inl (dA 1, 157, .inr (.inl (vp_updL (fW) (cN k / 64) ((((fW (cN k / 64)) &&& (r3 ^^^ -1)) ||| r7)))))) := by rw [eM10]; exact mm_us
    refine mm_retv S.1 S.2.1 hr hlocks hA hQ hw (post := fun M' => ∃ fW' : Nat → Int64, M' = mm_up M wd (aJ (dA 1) 157 fW') ∧ ∀ i, bw fW' i = if i = cN k then decide (¬ z = 0) else bw fW i) ⟨_, eM10, fun i => ?_⟩ (Nat.le_of_ble_eq_true rfl) (Nat.le_of_ble_eq_true rfl) d_CS_put_50
    have hb1 : r3.toBitVec = BitVec.twoPow 64 (cN k % 64) := by rw [cN, enj]; exact hr5
    have hb2 : r7.toBitVec = BitVec.twoPow 64 (cN k % 64) := by rw [cN, enj]; exact hr9
    show (vp_updL fW (cN k / 64) _ (i / 64)).toBitVec.getLsbD (i % 64) = _
    by_cases hw9 : i / 64 = cN k / 64
    · rw [hw9, pk_uLs]
      rw [bw_on (by omega) hb2, bw_off (by omega) hb1]
      by_cases hi9 : i = cN k
      · subst hi9; rw [if_pos rfl]; simp [c36]
      · have h9 : ¬ i % 64 = cN k % 64 := by omega
        rw [if_neg hi9]; simp only [h9, decide_false, Bool.not_false, Bool.and_true, Bool.or_false]; rw [← hw9]; rfl
    · rw [pk_uLn hw9, if_neg (fun q => hw9 (by rw [q]))]; rfl
theorem d_AR_suppress_0 : decode b_AR_suppress 0 = .ok (.iload_n 1, 1) := by decide +kernel
theorem d_AR_suppress_1 : decode b_AR_suppress 1 = .ok (.invokestatic 89, 3) := by decide +kernel
theorem d_AR_suppress_4 : decode b_AR_suppress 4 = .ok (.ifCond .ne 6, 3) := by decide +kernel
theorem d_AR_suppress_7 : decode b_AR_suppress 7 = .ok (.bipush (-4), 2) := by decide +kernel
theorem d_AR_suppress_9 : decode b_AR_suppress 9 = .ok (.ireturn, 1) := by decide +kernel
theorem d_AR_suppress_10 : decode b_AR_suppress 10 = .ok (.aload_n 0, 1) := by decide +kernel
theorem d_AR_suppress_11 : decode b_AR_suppress 11 = .ok (.getfield 46, 3) := by decide +kernel
theorem d_AR_suppress_14 : decode b_AR_suppress 14 = .ok (.iload_n 1, 1) := by decide +kernel
theorem d_AR_suppress_15 : decode b_AR_suppress 15 = .ok (.invokevirtual 118, 3) := by decide +kernel
theorem d_AR_suppress_18 : decode b_AR_suppress 18 = .ok (.istore_n 3, 1) := by decide +kernel
theorem d_AR_suppress_19 : decode b_AR_suppress 19 = .ok (.aload_n 0, 1) := by decide +kernel
theorem d_AR_suppress_20 : decode b_AR_suppress 20 = .ok (.getfield 46, 3) := by decide +kernel
theorem d_AR_suppress_23 : decode b_AR_suppress 23 = .ok (.iload_n 1, 1) := by decide +kernel
theorem d_AR_suppress_24 : decode b_AR_suppress 24 = .ok (.iload_n 2, 1) := by decide +kernel
theorem d_AR_suppress_25 : decode b_AR_suppress 25 = .ok (.invokevirtual 174, 3) := by decide +kernel
theorem d_AR_suppress_28 : decode b_AR_suppress 28 = .ok (.iload_n 3, 1) := by decide +kernel
theorem d_AR_suppress_29 : decode b_AR_suppress 29 = .ok (.ifCond .eq 7, 3) := by decide +kernel
theorem d_AR_suppress_32 : decode b_AR_suppress 32 = .ok (.iconst 1, 1) := by decide +kernel
theorem d_AR_suppress_33 : decode b_AR_suppress 33 = .ok (.goto 4, 3) := by decide +kernel
theorem d_AR_suppress_36 : decode b_AR_suppress 36 = .ok (.iconst 0, 1) := by decide +kernel
theorem d_AR_suppress_37 : decode b_AR_suppress 37 = .ok (.ireturn, 1) := by decide +kernel
set_option maxHeartbeats 4000000 in
set_option maxRecDepth 100000 in
theorem c_AR_suppress (l : Launch) (D : va_G) (dA : Nat → ClassId) (M : mm_M) (x nc : Nat) (I : sI) (F : sF) (st : sT) (hC : cP dA M x I F st nc) (hwf : wf I F st) (k z : Int32) (hz : z = 0 ∨ z = 1) : mm_Ci l y_AR_suppress w_AR_suppress ({ frames := 2, cells := 0, slots := 0, locals := 44 }) 0 0 D vC (tyL dA) [.ref x, .int k, .int z] M (cs_post dA x nc (sp_suppress k z I F st)) := by
  intro sz
  refine mm_start (by decide) (Nat.le_of_ble_eq_true rfl) ?_
  intro p e s m below meth c A Q ls hA hQ S hr hlocks hin hK hw hl
  have hl : lv_has ls 4 [(0, .ref x), (1, .int k), (2, .int z)] := hl
  obtain ⟨lv, sr, gd, rs, ss, dr, cs, cg, hX, hL, hG, hS, hR, hT, hD, hCs, hE⟩ := id hC
  have hX : M x = some (.inr (0, [.ref lv, .int (I 1), .int (I 2), .ref sr, .ref gd, .int (I 3), .ref rs, .ref ss, .ref dr, .ref cs, .ref cg])) := hX
  obtain ⟨wd, fW, hcs, hwd, hsp9⟩ := id hCs
  refine lv_iload_n S.1 S.2.1 d_AR_suppress_0 rfl (lv_at hl 1 rfl) ?_
  refine mm_calli hw (mm_runS (As := [.int k]) (rest := []) S hK hw (c_AR_isCode l D dA _ k _) bs_AR_isCode gw_191 (⟨rfl, rfl, by decide, by decide, by decide, by decide⟩) hl.1 rfl rfl (Nat.le_of_ble_eq_true rfl) d_AR_suppress_1) (fun r1 M2 H locs hp hw => ?_)
  rw [hp.1] at hw
  rcases hp.2 with ⟨rfl, hc3⟩ | ⟨rfl, hc3⟩
  · obtain ⟨j4, ekj4, hlj4, hhj4, enj4⟩ := is_of (N := 9999) rfl (by omega) hc3
    refine lv_if_ne (tgt := 10) S.1 S.2.1 d_AR_suppress_4 (by decide) (fun c4 => ?_) (fun c4 => absurd c4 (by decide))
    refine lv_aload_n S.1 S.2.1 d_AR_suppress_10 rfl (lv_at hl 0 rfl) ?_
    refine mm_get (C := R_AR) (T := T_AR) (N := 11) S hK.1 hw hX rfl in_AR 9 (by decide) gw_97 rfl rfl d_AR_suppress_11 ?_
    refine lv_iload_n S.1 S.2.1 d_AR_suppress_14 rfl (lv_at hl 1 rfl) ?_
    refine mm_calli hw (mm_runV (a := cs) (As := [.int k]) (rest := []) S hK hw (c_CS_has l D dA _ cs wd fW hcs hwd k _) bv_CS_has gw_238 hcs rfl (⟨rfl, rfl, by decide, by decide, by decide, by decide⟩) hl.1 rfl rfl (Nat.le_of_ble_eq_true rfl) d_AR_suppress_15) (fun r5 M6 H locs hp hw => ?_)
    rw [hp.1] at hw
    rcases hp.2 with ⟨rfl, hh7⟩ | ⟨rfl, hh7⟩
    · refine lv_istore_n (lv' := [(3, .int 1), (0, .ref x), (1, .int k), (2, .int z)]) S.1 S.2.1 d_AR_suppress_18 rfl hl (by decide) rfl (fun ls hl => ?_)
      refine lv_aload_n S.1 S.2.1 d_AR_suppress_19 rfl (lv_at hl 1 rfl) ?_
      refine mm_get (C := R_AR) (T := T_AR) (N := 11) S hK.1 hw hX rfl in_AR 9 (by decide) gw_97 rfl rfl d_AR_suppress_20 ?_
      refine lv_iload_n S.1 S.2.1 d_AR_suppress_23 rfl (lv_at hl 2 rfl) ?_
      refine lv_iload_n S.1 S.2.1 d_AR_suppress_24 rfl (lv_at hl 3 rfl) ?_
      refine mm_callv hw (mm_runV (a := cs) (As := [.int k, .int z]) (rest := []) S hK hw (c_CS_put l D dA _ cs wd fW hcs hwd k z hz hc3 _) bv_CS_put gw_343 hcs rfl (⟨rfl, rfl, by decide, by decide, by decide, by decide⟩) hl.1 rfl rfl (Nat.le_of_ble_eq_true rfl) d_AR_suppress_25) (fun M9 H locs hp hw => ?_)
      obtain ⟨fW', rfl, hbw⟩ := hp
      refine lv_iload_n S.1 S.2.1 d_AR_suppress_28 rfl (lv_at hl 0 rfl) ?_
      refine lv_if_eq (tgt := 36) S.1 S.2.1 d_AR_suppress_29 (by decide) (fun c29 => absurd c29 (by decide)) (fun c29 => ?_)
      refine lv_iconst (v := 1) S.1 S.2.1 d_AR_suppress_32 (by decide) ?_
      refine lv_goto (tgt := 37) S.1 S.2.1 d_AR_suppress_33 (by decide) ?_
      have hk9 : kt M (mm_up M wd (aJ (dA 1) 157 fW')) [2157] := kt_up hwd (by simp [tg])
      have hf10 : F 10 (cN k) = if bw fW (cN k) then 1 else 0 := by rw [cN, enj4]; exact hsp9 j4 hlj4 hhj4
      have hv : ¬ F 10 (cN k) = 0 := by rw [hf10, hh7.2]; decide
      have hcc9 : cC dA (mm_up M wd (aJ (dA 1) 157 fW')) cs (va_up F 10 (upd (F 10) (cN k) z)) := ⟨wd, fW', mm_uk hwd hcs (by simp), mm_us, fun i h1 h2 => by
        show upd (F 10) (cN k) z i = _
        rw [hbw i]
        by_cases hi : i = cN k
        · subst hi; rw [pk_us, if_pos rfl]; rcases hz with rfl | rfl <;> rfl
        · rw [pk_un hi, if_neg hi]; exact hsp9 i h1 h2⟩
      have hP9 : cP dA (mm_up M wd (aJ (dA 1) 157 fW')) x (upd I 0 0) (va_up F 10 (upd (F 10) (cN k) z)) st (nc + 1) := ⟨lv, sr, gd, rs, ss, dr, cs, cg, hk9 _ _ hX (by simp [tg]), cL_k hk9 hL (by decide) rfl rfl rfl rfl rfl rfl rfl rfl rfl, cG_k hk9 hG (by decide) rfl rfl rfl rfl, cS_k hk9 hS (by decide) rfl rfl, hk9 _ _ hR (by simp [tg]), hk9 _ _ hT (by simp [tg]), cD_k hk9 hD (by decide) rfl rfl, hcc9, cE_k hk9 hE (by decide) (by omega) rfl⟩
      exact mm_reti S.1 S.2.1 hr hlocks hA hQ hw (cs_done hP9 (show sp_suppress k z I F st = (1, _, _, _) by simp only [sp_suppress, eq_true hc3, eq_false c4, eq_false c29, not_true_eq_false, not_false_eq_true, and_true, true_and, and_false, false_and, and_self, or_true, true_or, or_false, false_or, or_self, ↓reduceIte, eq_false hv])) (Nat.le_of_ble_eq_true rfl) (Nat.le_of_ble_eq_true rfl) d_AR_suppress_37
    · refine lv_istore_n (lv' := [(3, .int 0), (0, .ref x), (1, .int k), (2, .int z)]) S.1 S.2.1 d_AR_suppress_18 rfl hl (by decide) rfl (fun ls hl => ?_)
      refine lv_aload_n S.1 S.2.1 d_AR_suppress_19 rfl (lv_at hl 1 rfl) ?_
      refine mm_get (C := R_AR) (T := T_AR) (N := 11) S hK.1 hw hX rfl in_AR 9 (by decide) gw_97 rfl rfl d_AR_suppress_20 ?_
      refine lv_iload_n S.1 S.2.1 d_AR_suppress_23 rfl (lv_at hl 2 rfl) ?_
      refine lv_iload_n S.1 S.2.1 d_AR_suppress_24 rfl (lv_at hl 3 rfl) ?_
      refine mm_callv hw (mm_runV (a := cs) (As := [.int k, .int z]) (rest := []) S hK hw (c_CS_put l D dA _ cs wd fW hcs hwd k z hz hc3 _) bv_CS_put gw_343 hcs rfl (⟨rfl, rfl, by decide, by decide, by decide, by decide⟩) hl.1 rfl rfl (Nat.le_of_ble_eq_true rfl) d_AR_suppress_25) (fun M11 H locs hp hw => ?_)
      obtain ⟨fW', rfl, hbw⟩ := hp
      refine lv_iload_n S.1 S.2.1 d_AR_suppress_28 rfl (lv_at hl 0 rfl) ?_
      refine lv_if_eq (tgt := 36) S.1 S.2.1 d_AR_suppress_29 (by decide) (fun c29 => ?_) (fun c29 => absurd c29 (by decide))
      refine lv_iconst (v := 0) S.1 S.2.1 d_AR_suppress_36 (by decide) ?_
      have hk9 : kt M (mm_up M wd (aJ (dA 1) 157 fW')) [2157] := kt_up hwd (by simp [tg])
      have hf10 : F 10 (cN k) = if bw fW (cN k) then 1 else 0 := by rw [cN, enj4]; exact hsp9 j4 hlj4 hhj4
      have hv : F 10 (cN k) = 0 := by
        rw [hf10]
        cases hb9 : bw fW (cN k) with
        | true => exact absurd ⟨hc3, hb9⟩ hh7
        | false => rfl
      have hcc9 : cC dA (mm_up M wd (aJ (dA 1) 157 fW')) cs (va_up F 10 (upd (F 10) (cN k) z)) := ⟨wd, fW', mm_uk hwd hcs (by simp), mm_us, fun i h1 h2 => by
        show upd (F 10) (cN k) z i = _
        rw [hbw i]
        by_cases hi : i = cN k
        · subst hi; rw [pk_us, if_pos rfl]; rcases hz with rfl | rfl <;> rfl
        · rw [pk_un hi, if_neg hi]; exact hsp9 i h1 h2⟩
      have hP9 : cP dA (mm_up M wd (aJ (dA 1) 157 fW')) x (upd I 0 0) (va_up F 10 (upd (F 10) (cN k) z)) st (nc + 1) := ⟨lv, sr, gd, rs, ss, dr, cs, cg, hk9 _ _ hX (by simp [tg]), cL_k hk9 hL (by decide) rfl rfl rfl rfl rfl rfl rfl rfl rfl, cG_k hk9 hG (by decide) rfl rfl rfl rfl, cS_k hk9 hS (by decide) rfl rfl, hk9 _ _ hR (by simp [tg]), hk9 _ _ hT (by simp [tg]), cD_k hk9 hD (by decide) rfl rfl, hcc9, cE_k hk9 hE (by decide) (by omega) rfl⟩
      exact mm_reti S.1 S.2.1 hr hlocks hA hQ hw (cs_done hP9 (show sp_suppress k z I F st = (0, _, _, _) by simp only [sp_suppress, eq_true hc3, eq_false c4, eq_true c29, not_true_eq_false, not_false_eq_true, and_true, true_and, and_false, false_and, and_self, or_true, true_or, or_false, false_or, or_self, ↓reduceIte, eq_true hv])) (Nat.le_of_ble_eq_true rfl) (Nat.le_of_ble_eq_true rfl) d_AR_suppress_37
  · refine lv_if_ne (tgt := 10) S.1 S.2.1 d_AR_suppress_4 (by decide) (fun c4 => absurd c4 (by decide)) (fun c4 => ?_)
    refine lv_bipush (v := (-4)) S.1 S.2.1 d_AR_suppress_7 (by decide) ?_
    exact mm_reti S.1 S.2.1 hr hlocks hA hQ hw (cs_same hC (show sp_suppress k z I F st = ((-4), upd I 0 0, F, st) by simp only [sp_suppress, eq_false hc3, eq_true c4, not_true_eq_false, not_false_eq_true, and_true, true_and, and_false, false_and, and_self, or_true, true_or, or_false, false_or, or_self, ↓reduceIte])) (Nat.le_of_ble_eq_true rfl) (Nat.le_of_ble_eq_true rfl) d_AR_suppress_9
end
section
def du_i (F : sF) (t i : Int32) : Nat → Nat → Int32 → Option Nat
  | 0, _, _ => none
  | m + 1, d, n => if F 15 (5 * d) = t then (if n = i then some d else du_i F t i m (d + 1) (n + 1)) else du_i F t i m (d + 1) n
theorem du_fi {F : sF} {t i w : Int32} : ∀ (m d : Nat) (n : Int32), du_f F t i w m d n = match du_i F t i m d n with | none => -1 | some y => F 15 (5 * y + 1 + cN w)
  | 0, _, _ => rfl
  | m + 1, d, n => by
    rw [du_f, du_i]
    by_cases h : F 15 (5 * d) = t
    · rw [if_pos h, if_pos h]
      by_cases h2 : n = i
      · rw [if_pos h2, if_pos h2]
      · rw [if_neg h2, if_neg h2]
        exact du_fi m (d + 1) (n + 1)
    · rw [if_neg h, if_neg h]
      exact du_fi m (d + 1) n
theorem du_lt {F : sF} {t i : Int32} {y : Nat} : ∀ (m d : Nat) (n : Int32), du_i F t i m d n = some y → y < d + m
  | 0, _, _, h => by cases h
  | m + 1, d, n, h => by
    rw [du_i] at h
    by_cases h1 : F 15 (5 * d) = t
    · rw [if_pos h1] at h
      by_cases h2 : n = i
      · rw [if_pos h2] at h; cases h; omega
      · rw [if_neg h2] at h
        have := du_lt m (d + 1) (n + 1) h
        omega
    · rw [if_neg h1] at h
      have := du_lt m (d + 1) n h
      omega
theorem upd_id {f : Nat → Int32} {j : Nat} : upd f j (f j + 0) = f := by
  funext i
  by_cases h : i = j
  · subst h; rw [pk_us, Int32.add_zero]
  · rw [pk_un h]
theorem rs_01 {t k : Int32} {F : sF} : rs_ag t k F = 0 ∨ rs_ag t k F = 1 := by
  unfold rs_ag
  split
  · exact Or.inr rfl
  · exact Or.inl rfl
section CEA
variable {dA : Nat → ClassId} {M M' : mm_M} {I I' : sI} {F F' : sF}
/-- one more code in the log -/
theorem cE_add {cg cd n nc j : Nat} {fC : Nat → Int32} (a3 : n ≤ nc) (a4 : ∀ j, j < n → is_ok 9999 (fC j)) (a5 : ∀ k, 1 ≤ k → k ≤ 9999 → F 8 k = cnt fC (nI k) n) (hj1 : 1 ≤ j) (hj2 : j ≤ 9999) (h1 : M' cg = some (.inr (4, [.ref cd, .int (nI (n + 1))]))) (h2 : M' cd = some (aI (dA 0) 512 (upd fC n (nI j)))) (f8 : F' 8 = upd (F 8) j (F 8 j + 1)) : cE dA M' cg F' (nc + 1) := by
  refine ⟨cd, n + 1, upd fC n (nI j), h1, h2, by omega, fun i hi => ?_, fun k p q => ?_⟩
  · by_cases h : i = n
    · subst h
      rw [pk_us]
      exact ⟨fun q => absurd ((nI_leI (a := j) (b := 0) (by omega) (by decide)).mp q) (by omega), fun q => absurd ((nI_ltI (a := 9999) (by decide) (by omega)).mp q) (by omega)⟩
    · rw [pk_un h]
      exact a4 i (by omega)
  · rw [f8, cnt, pk_us, cnt_up n (Nat.le_refl n)]
    by_cases h : k = j
    · subst h
      rw [pk_us, if_pos rfl, a5 k p q]
    · rw [pk_un h, if_neg (fun e => h ((nI_eq (by omega) (by omega)).mp e.symm)), a5 k p q]
/-- one more dump in the ring -/
theorem cD_add {dr rg nx q nd : Nat} {fD : Nat → Option Nat} {da : Nat → Nat} {t_1 k g b z : Int32} (hnd : I 4 = nI nd) (hND : nd ≤ 50) (hnx : nx < 50) (a4 : ∀ t, t < 50 → fD ((nx + t) % 50) = if t < 50 - cN (I 4) then none else some (da (t - (50 - cN (I 4))))) (a5 : ∀ t, t < cN (I 4) → M (da t) = some (.inr (8, [.int (F 15 (5 * t)), .int (F 15 (5 * t + 1)), .int (F 15 (5 * t + 2)), .int (F 15 (5 * t + 3)), .int (F 15 (5 * t + 4))])) ∧ (F 15 (5 * t + 4) = 0 ∨ F 15 (5 * t + 4) = 1))
    {T : List Nat} (kk : kt M M' T) (hT : 8 ∉ T) (h1 : M' dr = some (.inr (2, [.ref rg, .int (nI ((nx + 1) % 50))]))) (h2 : M' rg = some (aQ (dA 5) 50 (va_up fD nx (some q)))) (h3 : M' q = some (.inr (8, [.int t_1, .int k, .int g, .int b, .int z]))) (hz : z = 0 ∨ z = 1) (h4 : I' 4 = nI (rs_n I + 1)) (f5 : F' 15 = upd (upd (upd (upd (upd (rs_k I F) (5 * rs_n I) t_1) (5 * rs_n I + 1) k) (5 * rs_n I + 2) g) (5 * rs_n I + 3) b) (5 * rs_n I + 4) z) : cD dA M' dr I' F' := by
  have hc4 : cN (I 4) = nd := cN_I hnd (by omega)
  rw [hc4] at a4 a5
  -- the old ones, in the new numbering
  obtain ⟨db, hn0, b4, b5⟩ : ∃ db : Nat → Nat, rs_n I ≤ 49 ∧ (∀ t, t < 49 → fD ((nx + 1 + t) % 50) = if t < 49 - rs_n I then none else some (db (t - (49 - rs_n I)))) ∧ ∀ t, t < rs_n I → M (db t) = some (.inr (8, [.int (rs_k I F (5 * t)), .int (rs_k I F (5 * t + 1)), .int (rs_k I F (5 * t + 2)), .int (rs_k I F (5 * t + 3)), .int (rs_k I F (5 * t + 4))])) ∧ (rs_k I F (5 * t + 4) = 0 ∨ rs_k I F (5 * t + 4) = 1) := by
    by_cases h50 : nd = 50
    · have e4 : I 4 = 50 := by rw [hnd, h50]; rfl
      have en : rs_n I = 49 := by rw [rs_n, if_pos e4]
      have ek : rs_k I F = sh5 (F 15) 245 := by rw [rs_k, if_pos e4]
      rw [en, ek]
      refine ⟨fun t => da (t + 1), Nat.le_refl _, fun t ht => ?_, fun t ht => ?_⟩
      · have h9 := a4 (t + 1) (by omega)
        rw [show nx + 1 + t = nx + (t + 1) by omega, h9, if_neg (by omega), if_neg (by omega)]
        congr 2
        omega
      · have sh : ∀ c, c < 5 → sh5 (F 15) 245 (5 * t + c) = F 15 (5 * (t + 1) + c) := fun c hc => by
          unfold sh5
          rw [if_pos (by omega)]
          congr 1
          omega
        have s0 := sh 0 (by omega)
        rw [Nat.add_zero, Nat.add_zero] at s0
        rw [s0, sh 1 (by omega), sh 2 (by omega), sh 3 (by omega), sh 4 (by omega)]
        exact a5 (t + 1) (by omega)
    · have e4 : ¬ I 4 = 50 := by
        rw [hnd]
        exact fun q => h50 ((nI_eq (b := 50) (by omega) (by decide)).mp q)
      have en : rs_n I = nd := by rw [rs_n, if_neg e4, hc4]
      have ek : rs_k I F = F 15 := by rw [rs_k, if_neg e4]
      rw [en, ek]
      refine ⟨da, by omega, fun t ht => ?_, a5⟩
      have h9 := a4 (t + 1) (by omega)
      rw [show nx + 1 + t = nx + (t + 1) by omega, h9]
      by_cases h : t < 49 - nd
      · rw [if_pos (by omega), if_pos h]
      · rw [if_neg (by omega), if_neg h]
        congr 2
        omega
  have hc9 : cN (I' 4) = rs_n I + 1 := cN_I h4 (by omega)
  generalize rs_n I = n0 at *
  generalize rs_k I F = kp at *
  refine ⟨rg, (nx + 1) % 50, va_up fD nx (some q), va_up db n0 q, h1, Nat.mod_lt _ (by omega), h2, fun t ht => ?_, fun t ht => ?_⟩
  · rw [hc9]
    have e1 : ((nx + 1) % 50 + t) % 50 = (nx + 1 + t) % 50 := by omega
    rw [e1]
    by_cases h49 : t = 49
    · subst h49
      rw [show (nx + 1 + 49) % 50 = nx by omega, va_up_self, if_neg (by omega), show 49 - (50 - (n0 + 1)) = n0 by omega, va_up_self]
    · rw [va_up_ne _ _ (by omega), b4 t (by omega)]
      by_cases h : t < 49 - n0
      · rw [if_pos h, if_pos (by omega)]
      · rw [if_neg h, if_neg (by omega), va_up_ne _ _ (by omega)]
        congr 2
        omega
  · rw [hc9] at ht
    rw [f5]
    by_cases h : t = n0
    · subst h
      rw [va_up_self, pk_us]
      have p0 : ∀ c, c < 4 → upd (upd (upd (upd (upd kp (5 * t) t_1) (5 * t + 1) k) (5 * t + 2) g) (5 * t + 3) b) (5 * t + 4) z (5 * t + c) = upd (upd (upd (upd kp (5 * t) t_1) (5 * t + 1) k) (5 * t + 2) g) (5 * t + 3) b (5 * t + c) := fun c hc => pk_un (by omega)
      rw [p0 1 (by omega), p0 2 (by omega), p0 3 (by omega), pk_us]
      have q0 : upd (upd (upd (upd (upd kp (5 * t) t_1) (5 * t + 1) k) (5 * t + 2) g) (5 * t + 3) b) (5 * t + 4) z (5 * t) = upd (upd (upd (upd kp (5 * t) t_1) (5 * t + 1) k) (5 * t + 2) g) (5 * t + 3) b (5 * t) := p0 0 (by omega)
      rw [q0]
      rw [pk_un (show 5 * t ≠ 5 * t + 3 by omega), pk_un (show 5 * t ≠ 5 * t + 2 by omega), pk_un (show 5 * t ≠ 5 * t + 1 by omega), pk_us]
      rw [pk_un (show 5 * t + 1 ≠ 5 * t + 3 by omega), pk_un (show 5 * t + 1 ≠ 5 * t + 2 by omega), pk_us]
      rw [pk_un (show 5 * t + 2 ≠ 5 * t + 3 by omega), pk_us]
      exact ⟨h3, hz⟩
    · rw [va_up_ne _ _ h]
      have old : ∀ c, c < 5 → upd (upd (upd (upd (upd kp (5 * n0) t_1) (5 * n0 + 1) k) (5 * n0 + 2) g) (5 * n0 + 3) b) (5 * n0 + 4) z (5 * t + c) = kp (5 * t + c) := fun c hc => by
        rw [pk_un (by omega), pk_un (by omega), pk_un (by omega), pk_un (by omega), pk_un (by omega)]
      have o0 : upd (upd (upd (upd (upd kp (5 * n0) t_1) (5 * n0 + 1) k) (5 * n0 + 2) g) (5 * n0 + 3) b) (5 * n0 + 4) z (5 * t) = kp (5 * t) := old 0 (by omega)
      rw [o0, old 1 (by omega), old 2 (by omega), old 3 (by omega), old 4 (by omega)]
      have h9 := b5 t (by omega)
      exact ⟨kk _ _ h9.1 hT, h9.2⟩
end CEA

theorem d_DR_keep_0 : decode b_DR_keep 0 = .ok (.aload_n 0, 1) := by decide +kernel
theorem d_DR_keep_1 : decode b_DR_keep 1 = .ok (.getfield 11, 3) := by decide +kernel
theorem d_DR_keep_4 : decode b_DR_keep 4 = .ok (.aload_n 0, 1) := by decide +kernel
theorem d_DR_keep_5 : decode b_DR_keep 5 = .ok (.getfield 17, 3) := by decide +kernel
theorem d_DR_keep_8 : decode b_DR_keep 8 = .ok (.aload_n 1, 1) := by decide +kernel
theorem d_DR_keep_9 : decode b_DR_keep 9 = .ok (.aastore, 1) := by decide +kernel
theorem d_DR_keep_10 : decode b_DR_keep 10 = .ok (.aload_n 0, 1) := by decide +kernel
theorem d_DR_keep_11 : decode b_DR_keep 11 = .ok (.aload_n 0, 1) := by decide +kernel
theorem d_DR_keep_12 : decode b_DR_keep 12 = .ok (.getfield 17, 3) := by decide +kernel
theorem d_DR_keep_15 : decode b_DR_keep 15 = .ok (.iconst 1, 1) := by decide +kernel
theorem d_DR_keep_16 : decode b_DR_keep 16 = .ok (.iadd, 1) := by decide +kernel
theorem d_DR_keep_17 : decode b_DR_keep 17 = .ok (.bipush 50, 2) := by decide +kernel
theorem d_DR_keep_19 : decode b_DR_keep 19 = .ok (.irem, 1) := by decide +kernel
theorem d_DR_keep_20 : decode b_DR_keep 20 = .ok (.putfield 17, 3) := by decide +kernel
theorem d_DR_keep_23 : decode b_DR_keep 23 = .ok (.return_, 1) := by decide +kernel
set_option maxHeartbeats 4000000 in
set_option maxRecDepth 100000 in
theorem c_DR_keep (l : Launch) (D : va_G) (dA : Nat → ClassId) (M : mm_M) (dr rg nx q : Nat) (fD : Nat → Option Nat) (a0 a1 a2 a3 a4 : Int32) (hnx : nx < 50) (hdr : M dr = some (.inr (2, [.ref rg, .int (nI nx)]))) (hrg : M rg = some (aQ (dA 5) 50 fD)) (hq : M q = some (.inr (8, [.int a0, .int a1, .int a2, .int a3, .int a4]))) : mm_Cv l y_DR_keep w_DR_keep ({ frames := 0, cells := 0, slots := 0, locals := 0 }) 0 0 D vC (tyL dA) [.ref dr, .ref q] M (fun M' => M' = mm_up (mm_up M rg (aQ (dA 5) 50 (va_up fD nx (some q)))) dr (.inr (2, [.ref rg, .int (nI ((nx + 1) % 50))]))) := by
  intro sz
  refine mm_start (by decide) (Nat.le_of_ble_eq_true rfl) ?_
  intro p e s m below meth c A Q ls hA hQ S hr hlocks hin hK hw hl
  have hl : lv_has ls 2 [(0, .ref dr), (1, .ref q)] := hl
  refine lv_aload_n S.1 S.2.1 d_DR_keep_0 rfl (lv_at hl 0 rfl) ?_
  refine mm_get (C := R_DR) (T := T_DR) (N := 2) S hK.1 hw hdr rfl in_DR 0 (by decide) gw_57 rfl rfl d_DR_keep_1 ?_
  refine lv_aload_n S.1 S.2.1 d_DR_keep_4 rfl (lv_at hl 0 rfl) ?_
  refine mm_get (C := R_DR) (T := T_DR) (N := 2) S hK.1 hw hdr rfl in_DR 1 (by decide) gw_58 rfl rfl d_DR_keep_5 ?_
  refine lv_aload_n S.1 S.2.1 d_DR_keep_8 rfl (lv_at hl 1 rfl) ?_
  refine mn_astq (j := nx) (r := (R_DU, T_DU, 5)) S hK.1 hw 5 8 hrg rfl hq rfl (rfl) (by omega) (by decide) d_DR_keep_9 (fun H locs hw => ?_)
  obtain ⟨M1, eM1⟩ : ∃ zM : mm_M, zM = mm_up M rg (.inl (dA 5, 50, .inr (.inr (.inr (.inr (va_up (fD) (nx) (some q))))))) := ⟨_, rfl⟩
  have hw : mm_w D vC _ _ (mm_up M rg (.inl (dA 5, 50, .inr (.inr (.inr (.inr (va_up (fD) (nx) (some q)))))))) H _ := hw
  rw [← eM1] at hw
  have hdr_1 : M1 dr = some (.inr (2, [.ref rg, .int (nI nx)])) := by rw [eM1]; exact mm_uk hrg hdr (by simp)
  have hq_1 : M1 q = some (.inr (8, [.int a0, .int a1, .int a2, .int a3, .int a4])) := by rw [eM1]; exact mm_uk hrg hq (by simp)
  have hrg_1 : M1 rg = some (.inl (dA 5, 50, .inr (.inr (.inr (.inr (va_up (fD) (nx) (some q))))))) := by rw [eM1]; exact mm_us
  refine lv_aload_n S.1 S.2.1 d_DR_keep_10 rfl (lv_at hl 0 rfl) ?_
  refine lv_aload_n S.1 S.2.1 d_DR_keep_11 rfl (lv_at hl 0 rfl) ?_
  refine mm_get (C := R_DR) (T := T_DR) (N := 2) S hK.1 hw hdr_1 rfl in_DR 1 (by decide) gw_58 rfl rfl d_DR_keep_12 ?_
  refine lv_iconst (v := 1) S.1 S.2.1 d_DR_keep_15 (by decide) ?_
  refine lv_iadd S.1 S.2.1 d_DR_keep_16 ?_
  refine lv_bipush (v := 50) S.1 S.2.1 d_DR_keep_17 (by decide) ?_
  refine lv_irem S.1 S.2.1 d_DR_keep_19 (by decide) ?_
  refine W.eq (g2 := F0 m 20 ls (.int (nI ((nx + 1) % 50)) :: [.ref dr])) (by rw [show (((nI nx) + 1) - ((nI nx) + 1) / 50 * 50) = (nI ((nx + 1) % 50)) from by rw [nI_1, show (50 : Int32) = nI 50 from rfl, pk_rem (by omega) (by decide) (by decide)]]) ?_
  refine mm_put (C := R_DR) (T := T_DR) (N := 2) (ty := .int) (v := .int (nI ((nx + 1) % 50))) S hK.1 hw hdr_1 rfl in_DR t_DR k_DR n_DR 1 (by decide) gw_58 rfl rfl (by decide +kernel) (rfl) (rfl) (Nat.le_of_ble_eq_true rfl) d_DR_keep_20 (fun H locs hw => ?_)
  obtain ⟨M2, eM2⟩ : ∃ zM : mm_M, zM = mm_up M1 dr (.inr (2, [.ref rg, .int (nI ((nx + 1) % 50))])) := ⟨_, rfl⟩
  have hw : mm_w D vC _ _ (mm_up M1 dr (.inr (2, [.ref rg, .int (nI ((nx + 1) % 50))]))) H _ := hw
  rw [← eM2] at hw
  have hrg_2 : M2 rg = some (.inl (dA 5, 50, .inr (.inr (.inr (.inr (va_up (fD) (nx) (some q))))))) := by rw [eM2]; exact mm_uk hdr_1 hrg_1 (by simp)
  have hq_2 : M2 q = some (.inr (8, [.int a0, .int a1, .int a2, .int a3, .int a4])) := by rw [eM2]; exact mm_uk hdr_1 hq_1 (by simp)
  have hdr_2 : M2 dr = some (.inr (2, [.ref rg, .int (nI ((nx + 1) % 50))])) := by rw [eM2]; exact mm_us
  exact mm_retv S.1 S.2.1 hr hlocks hA hQ hw (by rw [eM2, eM1]) (Nat.le_of_ble_eq_true rfl) (Nat.le_of_ble_eq_true rfl) d_DR_keep_23
theorem d_DR_find_0 : decode b_DR_find 0 = .ok (.iconst 0, 1) := by decide +kernel
theorem d_DR_find_1 : decode b_DR_find 1 = .ok (.istore_n 3, 1) := by decide +kernel
theorem d_DR_find_2 : decode b_DR_find 2 = .ok (.iconst 0, 1) := by decide +kernel
theorem d_DR_find_3 : decode b_DR_find 3 = .ok (.istore 4, 2) := by decide +kernel
theorem d_DR_find_5 : decode b_DR_find 5 = .ok (.iload 4, 2) := by decide +kernel
theorem d_DR_find_7 : decode b_DR_find 7 = .ok (.bipush 50, 2) := by decide +kernel
theorem d_DR_find_9 : decode b_DR_find 9 = .ok (.if_icmp .ge 51, 3) := by decide +kernel
theorem d_DR_find_12 : decode b_DR_find 12 = .ok (.aload_n 0, 1) := by decide +kernel
theorem d_DR_find_13 : decode b_DR_find 13 = .ok (.getfield 11, 3) := by decide +kernel
theorem d_DR_find_16 : decode b_DR_find 16 = .ok (.aload_n 0, 1) := by decide +kernel
theorem d_DR_find_17 : decode b_DR_find 17 = .ok (.getfield 17, 3) := by decide +kernel
theorem d_DR_find_20 : decode b_DR_find 20 = .ok (.iload 4, 2) := by decide +kernel
theorem d_DR_find_22 : decode b_DR_find 22 = .ok (.iadd, 1) := by decide +kernel
theorem d_DR_find_23 : decode b_DR_find 23 = .ok (.bipush 50, 2) := by decide +kernel
theorem d_DR_find_25 : decode b_DR_find 25 = .ok (.irem, 1) := by decide +kernel
theorem d_DR_find_26 : decode b_DR_find 26 = .ok (.aaload, 1) := by decide +kernel
theorem d_DR_find_27 : decode b_DR_find 27 = .ok (.astore 5, 2) := by decide +kernel
theorem d_DR_find_29 : decode b_DR_find 29 = .ok (.aload 5, 2) := by decide +kernel
theorem d_DR_find_31 : decode b_DR_find 31 = .ok (.ifnull 23, 3) := by decide +kernel
theorem d_DR_find_34 : decode b_DR_find 34 = .ok (.aload 5, 2) := by decide +kernel
theorem d_DR_find_36 : decode b_DR_find 36 = .ok (.getfield 21, 3) := by decide +kernel
theorem d_DR_find_39 : decode b_DR_find 39 = .ok (.iload_n 1, 1) := by decide +kernel
theorem d_DR_find_40 : decode b_DR_find 40 = .ok (.if_icmp .ne 14, 3) := by decide +kernel
theorem d_DR_find_43 : decode b_DR_find 43 = .ok (.iload_n 3, 1) := by decide +kernel
theorem d_DR_find_44 : decode b_DR_find 44 = .ok (.iload_n 2, 1) := by decide +kernel
theorem d_DR_find_45 : decode b_DR_find 45 = .ok (.if_icmp .ne 6, 3) := by decide +kernel
theorem d_DR_find_48 : decode b_DR_find 48 = .ok (.aload 5, 2) := by decide +kernel
theorem d_DR_find_50 : decode b_DR_find 50 = .ok (.areturn, 1) := by decide +kernel
theorem d_DR_find_51 : decode b_DR_find 51 = .ok (.iinc 3 1, 3) := by decide +kernel
theorem d_DR_find_54 : decode b_DR_find 54 = .ok (.iinc 4 1, 3) := by decide +kernel
theorem d_DR_find_57 : decode b_DR_find 57 = .ok (.goto (-52), 3) := by decide +kernel
theorem d_DR_find_60 : decode b_DR_find 60 = .ok (.aconst_null, 1) := by decide +kernel
theorem d_DR_find_61 : decode b_DR_find 61 = .ok (.areturn, 1) := by decide +kernel
set_option maxHeartbeats 4000000 in
set_option maxRecDepth 100000 in
theorem c_DR_find (l : Launch) (D : va_G) (dA : Nat → ClassId) (M : mm_M) (dr rg nx nd : Nat) (fD : Nat → Option Nat) (da : Nat → Nat) (F : sF) (t i : Int32) (hnx : nx < 50) (hnd : nd ≤ 50) (hdr : M dr = some (.inr (2, [.ref rg, .int (nI nx)]))) (hrg : M rg = some (aQ (dA 5) 50 fD)) (hfd : ∀ t, t < 50 → fD ((nx + t) % 50) = if t < 50 - nd then none else some (da (t - (50 - nd)))) (hda : ∀ t, t < nd → M (da t) = some (.inr (8, [.int (F 15 (5 * t)), .int (F 15 (5 * t + 1)), .int (F 15 (5 * t + 2)), .int (F 15 (5 * t + 3)), .int (F 15 (5 * t + 4))])) ∧ (F 15 (5 * t + 4) = 0 ∨ F 15 (5 * t + 4) = 1)) : mm_Cq l y_DR_find w_DR_find ({ frames := 0, cells := 0, slots := 0, locals := 0 }) 0 0 D vC (tyL dA) [.ref dr, .int t, .int i] M (fun r M' => M' = M ∧ r = (du_i F t i nd 0 0).map da) := by
  intro sz
  refine mm_start (by decide) (Nat.le_of_ble_eq_true rfl) ?_
  intro p e s m below meth c A Q ls hA hQ S hr hlocks hin hK hw hl
  have hl : lv_has ls 6 [(0, .ref dr), (1, .int t), (2, .int i)] := hl
  refine lv_iconst (v := 0) S.1 S.2.1 d_DR_find_0 (by decide) ?_
  refine lv_istore_n (lv' := [(3, .int 0), (0, .ref dr), (1, .int t), (2, .int i)]) S.1 S.2.1 d_DR_find_1 rfl hl (by decide) rfl (fun ls hl => ?_)
  refine lv_iconst (v := 0) S.1 S.2.1 d_DR_find_2 (by decide) ?_
  refine lv_istore (lv' := [(4, .int 0), (3, .int 0), (0, .ref dr), (1, .int t), (2, .int i)]) S.1 S.2.1 d_DR_find_3 hl (by decide) rfl (fun ls hl => ?_)
  have L : ∀ (mm k : Nat) (n : Int32) (ls : Array Slot), k + mm = 50 → du_i F t i nd 0 0 = du_i F t i (nd - (k - (50 - nd))) (k - (50 - nd)) n → lv_has ls 6 [(3, .int n), (4, .int (nI k)), (0, .ref dr), (1, .int t), (2, .int i)] → W p l e ({ frames := 0, cells := 0, slots := 0, locals := 0 }) s m [.ref dr, .int t, .int i].toArray below meth c s.heap [] 0 0 Q (F0 m 5 ls []) := by
    intro mm
    induction mm with
    | zero =>
      intro k n ls hk hs hl
      refine lv_iload S.1 S.2.1 d_DR_find_5 (lv_at hl 1 rfl) ?_
      refine lv_bipush (v := 50) S.1 S.2.1 d_DR_find_7 (by decide) ?_
      refine lv_icmp_ge (tgt := 60) S.1 S.2.1 d_DR_find_9 (by decide) (fun c9 => ?_) (fun c9 => absurd (nI_le (a := 50) (by omega) (by omega)) c9)
      refine lv_null S.1 S.2.1 d_DR_find_60 ?_
      exact mm_retq (v := none) S.1 S.2.1 hr hlocks hA hQ hw (⟨rfl, by rw [hs, show nd - (k - (50 - nd)) = 0 by omega]; rfl⟩) (Nat.le_of_ble_eq_true rfl) (Nat.le_of_ble_eq_true rfl) d_DR_find_61
    | succ mm ih =>
      intro k n ls hk hs hl
      refine lv_iload S.1 S.2.1 d_DR_find_5 (lv_at hl 1 rfl) ?_
      refine lv_bipush (v := 50) S.1 S.2.1 d_DR_find_7 (by decide) ?_
      refine lv_icmp_ge (tgt := 60) S.1 S.2.1 d_DR_find_9 (by decide) (fun c9 => absurd c9 (nI_ge (b := 50) (by omega) (by decide))) (fun c9 => ?_)
      refine lv_aload_n S.1 S.2.1 d_DR_find_12 rfl (lv_at hl 2 rfl) ?_
      refine mm_get (C := R_DR) (T := T_DR) (N := 2) S hK.1 hw hdr rfl in_DR 0 (by decide) gw_57 rfl rfl d_DR_find_13 ?_
      refine lv_aload_n S.1 S.2.1 d_DR_find_16 rfl (lv_at hl 2 rfl) ?_
      refine mm_get (C := R_DR) (T := T_DR) (N := 2) S hK.1 hw hdr rfl in_DR 1 (by decide) gw_58 rfl rfl d_DR_find_17 ?_
      refine lv_iload S.1 S.2.1 d_DR_find_20 (lv_at hl 1 rfl) ?_
      refine lv_iadd S.1 S.2.1 d_DR_find_22 ?_
      refine lv_bipush (v := 50) S.1 S.2.1 d_DR_find_23 (by decide) ?_
      refine lv_irem S.1 S.2.1 d_DR_find_25 (by decide) ?_
      refine W.eq (g2 := F0 m 26 ls (.int (nI ((nx + k) % 50)) :: [.ref rg])) (by rw [show (((nI nx) + (nI k)) - ((nI nx) + (nI k)) / 50 * 50) = (nI ((nx + k) % 50)) from by rw [nI_add, show (50 : Int32) = nI 50 from rfl, pk_rem (by omega) (by decide) (by decide)]]) ?_
      refine mn_aldq (j := (nx + k) % 50) S hK.1 hw 5 hrg rfl (rfl) (Nat.mod_lt _ (by decide)) (by decide) d_DR_find_26 ?_
      have hfk := hfd k (by omega)
      rcases Nat.lt_or_ge k (50 - nd) with hk9 | hk9
      · rw [hfk, if_pos hk9]
        refine W.eq (g2 := F0 m 27 ls [.null]) rfl ?_
        refine lv_astoreN (lv' := [(5, .null), (3, .int n), (4, .int (nI k)), (0, .ref dr), (1, .int t), (2, .int i)]) S.1 S.2.1 d_DR_find_27 hl (by decide) rfl (fun ls hl => ?_)
        refine lv_aloadN S.1 S.2.1 d_DR_find_29 (lv_at hl 0 rfl) ?_
        refine lv_ifnullN (tgt := 54) S.1 S.2.1 d_DR_find_31 (by decide) ?_
        refine lv_iinc (v := (nI (k + 1))) (lv' := [(4, .int (nI (k + 1))), (5, .null), (3, .int n), (0, .ref dr), (1, .int t), (2, .int i)]) S.1 S.2.1 d_DR_find_54 hl (k := 2) rfl (nI_1 k) (by decide) rfl (fun ls hl => ?_)
        refine lv_goto (tgt := 5) S.1 S.2.1 d_DR_find_57 (by decide) ?_
        exact ih (k + 1) (n) ls (by omega) (hs.trans (by rw [show k + 1 - (50 - nd) = k - (50 - nd) by omega])) (lv_sub hl [2, 0, 3, 4, 5] rfl)
      · rw [hfk, if_neg (by omega)]
        refine W.eq (g2 := F0 m 27 ls [.ref (da (k - (50 - nd)))]) rfl ?_
        have hdk := (hda (k - (50 - nd)) (by omega)).1
        refine lv_astore (lv' := [(5, .ref (da (k - (50 - nd)))), (3, .int n), (4, .int (nI k)), (0, .ref dr), (1, .int t), (2, .int i)]) S.1 S.2.1 d_DR_find_27 hl (by decide) rfl (fun ls hl => ?_)
        refine lv_aload S.1 S.2.1 d_DR_find_29 (lv_at hl 0 rfl) ?_
        refine lv_ifnull S.1 S.2.1 d_DR_find_31 ?_
        refine lv_aload S.1 S.2.1 d_DR_find_34 (lv_at hl 0 rfl) ?_
        refine mm_get (C := R_DU) (T := T_DU) (N := 5) S hK.1 hw hdk rfl in_DU 0 (by decide) gw_265 rfl rfl d_DR_find_36 ?_
        refine lv_iload_n S.1 S.2.1 d_DR_find_39 rfl (lv_at hl 4 rfl) ?_
        refine lv_icmp_ne (tgt := 54) S.1 S.2.1 d_DR_find_40 (by decide) (fun c40 => ?_) (fun c40 => ?_)
        · refine lv_iinc (v := (nI (k + 1))) (lv' := [(4, .int (nI (k + 1))), (5, .ref (da (k - (50 - nd)))), (3, .int n), (0, .ref dr), (1, .int t), (2, .int i)]) S.1 S.2.1 d_DR_find_54 hl (k := 2) rfl (nI_1 k) (by decide) rfl (fun ls hl => ?_)
          refine lv_goto (tgt := 5) S.1 S.2.1 d_DR_find_57 (by decide) ?_
          exact ih (k + 1) (n) ls (by omega) (hs.trans (by rw [show nd - (k - (50 - nd)) = (nd - (k + 1 - (50 - nd))) + 1 by omega, du_i, if_neg c40, show k - (50 - nd) + 1 = k + 1 - (50 - nd) by omega])) (lv_sub hl [2, 0, 3, 4, 5] rfl)
        · refine lv_iload_n S.1 S.2.1 d_DR_find_43 rfl (lv_at hl 1 rfl) ?_
          refine lv_iload_n S.1 S.2.1 d_DR_find_44 rfl (lv_at hl 5 rfl) ?_
          refine lv_icmp_ne (tgt := 51) S.1 S.2.1 d_DR_find_45 (by decide) (fun c45 => ?_) (fun c45 => ?_)
          · refine lv_iinc (v := (n + 1)) (lv' := [(3, .int (n + 1)), (5, .ref (da (k - (50 - nd)))), (4, .int (nI k)), (0, .ref dr), (1, .int t), (2, .int i)]) S.1 S.2.1 d_DR_find_51 hl (k := 1) rfl (rfl) (by decide) rfl (fun ls hl => ?_)
            refine lv_iinc (v := (nI (k + 1))) (lv' := [(4, .int (nI (k + 1))), (3, .int (n + 1)), (5, .ref (da (k - (50 - nd)))), (0, .ref dr), (1, .int t), (2, .int i)]) S.1 S.2.1 d_DR_find_54 hl (k := 2) rfl (nI_1 k) (by decide) rfl (fun ls hl => ?_)
            refine lv_goto (tgt := 5) S.1 S.2.1 d_DR_find_57 (by decide) ?_
            exact ih (k + 1) ((n + 1)) ls (by omega) (hs.trans (by rw [show nd - (k - (50 - nd)) = (nd - (k + 1 - (50 - nd))) + 1 by omega, du_i, if_pos c40, if_neg c45, show k - (50 - nd) + 1 = k + 1 - (50 - nd) by omega])) (lv_sub hl [1, 0, 3, 4, 5] rfl)
          · refine lv_aload S.1 S.2.1 d_DR_find_48 (lv_at hl 0 rfl) ?_
            exact mm_retq (v := some (da (k - (50 - nd)))) S.1 S.2.1 hr hlocks hA hQ hw (⟨rfl, by rw [hs, show nd - (k - (50 - nd)) = (nd - (k + 1 - (50 - nd))) + 1 by omega, du_i, if_pos c40, if_pos c45]; rfl⟩) (Nat.le_of_ble_eq_true rfl) (Nat.le_of_ble_eq_true rfl) d_DR_find_50
  exact L 50 0 0 ls (by omega) (by rw [show 0 - (50 - nd) = 0 by omega, Nat.sub_zero]) (lv_sub hl [1, 0, 2, 3, 4] rfl)
theorem d_AR_dump_0 : decode b_AR_dump 0 = .ok (.aload_n 0, 1) := by decide +kernel
theorem d_AR_dump_1 : decode b_AR_dump 1 = .ok (.getfield 39, 3) := by decide +kernel
theorem d_AR_dump_4 : decode b_AR_dump 4 = .ok (.iload_n 1, 1) := by decide +kernel
theorem d_AR_dump_5 : decode b_AR_dump 5 = .ok (.iload_n 2, 1) := by decide +kernel
theorem d_AR_dump_6 : decode b_AR_dump 6 = .ok (.invokevirtual 159, 3) := by decide +kernel
theorem d_AR_dump_9 : decode b_AR_dump 9 = .ok (.astore 4, 2) := by decide +kernel
theorem d_AR_dump_11 : decode b_AR_dump 11 = .ok (.aload 4, 2) := by decide +kernel
theorem d_AR_dump_13 : decode b_AR_dump 13 = .ok (.ifnonnull 5, 3) := by decide +kernel
theorem d_AR_dump_16 : decode b_AR_dump 16 = .ok (.iconst (-1), 1) := by decide +kernel
theorem d_AR_dump_17 : decode b_AR_dump 17 = .ok (.ireturn, 1) := by decide +kernel
theorem d_AR_dump_18 : decode b_AR_dump 18 = .ok (.iload_n 3, 1) := by decide +kernel
theorem d_AR_dump_19 : decode b_AR_dump 19 = .ok (.tableswitch 61 0 3 #[29, 35, 41, 47], 29) := by decide +kernel
theorem d_AR_dump_48 : decode b_AR_dump 48 = .ok (.aload 4, 2) := by decide +kernel
theorem d_AR_dump_50 : decode b_AR_dump 50 = .ok (.getfield 163, 3) := by decide +kernel
theorem d_AR_dump_53 : decode b_AR_dump 53 = .ok (.ireturn, 1) := by decide +kernel
theorem d_AR_dump_54 : decode b_AR_dump 54 = .ok (.aload 4, 2) := by decide +kernel
theorem d_AR_dump_56 : decode b_AR_dump 56 = .ok (.getfield 164, 3) := by decide +kernel
theorem d_AR_dump_59 : decode b_AR_dump 59 = .ok (.ireturn, 1) := by decide +kernel
theorem d_AR_dump_60 : decode b_AR_dump 60 = .ok (.aload 4, 2) := by decide +kernel
theorem d_AR_dump_62 : decode b_AR_dump 62 = .ok (.getfield 166, 3) := by decide +kernel
theorem d_AR_dump_65 : decode b_AR_dump 65 = .ok (.ireturn, 1) := by decide +kernel
theorem d_AR_dump_66 : decode b_AR_dump 66 = .ok (.aload 4, 2) := by decide +kernel
theorem d_AR_dump_68 : decode b_AR_dump 68 = .ok (.getfield 169, 3) := by decide +kernel
theorem d_AR_dump_71 : decode b_AR_dump 71 = .ok (.ifCond .eq 7, 3) := by decide +kernel
theorem d_AR_dump_74 : decode b_AR_dump 74 = .ok (.iconst 1, 1) := by decide +kernel
theorem d_AR_dump_75 : decode b_AR_dump 75 = .ok (.goto 4, 3) := by decide +kernel
theorem d_AR_dump_78 : decode b_AR_dump 78 = .ok (.iconst 0, 1) := by decide +kernel
theorem d_AR_dump_79 : decode b_AR_dump 79 = .ok (.ireturn, 1) := by decide +kernel
theorem d_AR_dump_80 : decode b_AR_dump 80 = .ok (.iconst (-1), 1) := by decide +kernel
theorem d_AR_dump_81 : decode b_AR_dump 81 = .ok (.ireturn, 1) := by decide +kernel
set_option maxHeartbeats 4000000 in
set_option maxRecDepth 100000 in
theorem c_AR_dump (l : Launch) (D : va_G) (dA : Nat → ClassId) (M : mm_M) (x nc : Nat) (I : sI) (F : sF) (st : sT) (hC : cP dA M x I F st nc) (hwf : wf I F st) (t i v : Int32) : mm_Ci l y_AR_dump w_AR_dump ({ frames := 1, cells := 0, slots := 0, locals := 25 }) 0 0 D vC (tyL dA) [.ref x, .int t, .int i, .int v] M (cs_post dA x nc (sp_dump t i v I F st)) := by
  intro sz
  refine mm_start (by decide) (Nat.le_of_ble_eq_true rfl) ?_
  intro p e s m below meth c A Q ls hA hQ S hr hlocks hin hK hw hl
  have hl : lv_has ls 5 [(0, .ref x), (1, .int t), (2, .int i), (3, .int v)] := hl
  obtain ⟨lv, sr, gd, rs, ss, dr, cs, cg, hX, hL, hG, hS, hR, hT, hD, hCs, hE⟩ := id hC
  have hX : M x = some (.inr (0, [.ref lv, .int (I 1), .int (I 2), .ref sr, .ref gd, .int (I 3), .ref rs, .ref ss, .ref dr, .ref cs, .ref cg])) := hX
  obtain ⟨rg, nx, fD, da, hdr, hnx, hrg, hfd, hda⟩ := id hD
  obtain ⟨nd, hnd, hND⟩ := hwf.2.2.2.1
  have hcd : cN (I 4) = nd := cN_I hnd (by omega)
  rw [hcd] at hfd hda
  refine lv_aload_n S.1 S.2.1 d_AR_dump_0 rfl (lv_at hl 0 rfl) ?_
  refine mm_get (C := R_AR) (T := T_AR) (N := 11) S hK.1 hw hX rfl in_AR 8 (by decide) gw_96 rfl rfl d_AR_dump_1 ?_
  refine lv_iload_n S.1 S.2.1 d_AR_dump_4 rfl (lv_at hl 1 rfl) ?_
  refine lv_iload_n S.1 S.2.1 d_AR_dump_5 rfl (lv_at hl 2 rfl) ?_
  refine mm_callq hw (mm_runV (a := dr) (As := [.int t, .int i]) (rest := []) S hK hw (c_DR_find l D dA _ dr rg nx nd fD da F t i hnx hND hdr hrg hfd hda _) bv_DR_find gw_330 hdr rfl (⟨rfl, rfl, by decide, by decide, by decide, by decide⟩) hl.1 rfl rfl (Nat.le_of_ble_eq_true rfl) d_AR_dump_6) (fun r1 M2 H locs hp hw => ?_)
  rw [hp.1] at hw
  have hp2 := hp.2
  have hsp : sp_dump t i v I F st = (if v < 0 ∨ ¬ v ≤ 3 then -1 else match du_i F t i nd 0 0 with | none => -1 | some y => F 15 (5 * y + 1 + cN v), upd I 0 0, F, st) := by rw [sp_dump, hcd, du_fi]
  cases hdu : du_i F t i nd 0 0 with
  | none =>
    rw [hdu] at hp2 hsp
    subst hp2
    refine W.eq (g2 := F0 m 9 ls [.null]) rfl ?_
    refine lv_astoreN (lv' := [(4, .null), (0, .ref x), (1, .int t), (2, .int i), (3, .int v)]) S.1 S.2.1 d_AR_dump_9 hl (by decide) rfl (fun ls hl => ?_)
    refine lv_aloadN S.1 S.2.1 d_AR_dump_11 (lv_at hl 0 rfl) ?_
    refine lv_ifnonnullN S.1 S.2.1 d_AR_dump_13 ?_
    refine lv_iconst (v := (-1)) S.1 S.2.1 d_AR_dump_16 (by decide) ?_
    exact mm_reti S.1 S.2.1 hr hlocks hA hQ hw (cs_same hC (hsp.trans (by simp only [ite_self]))) (Nat.le_of_ble_eq_true rfl) (Nat.le_of_ble_eq_true rfl) d_AR_dump_17
  | some y =>
    rw [hdu] at hp2 hsp
    subst hp2
    refine W.eq (g2 := F0 m 9 ls [.ref (da y)]) rfl ?_
    have hyn : y < nd := by have := du_lt _ _ _ hdu; omega
    obtain ⟨hdy, hy01⟩ := hda y hyn
    refine lv_astore (lv' := [(4, .ref (da y)), (0, .ref x), (1, .int t), (2, .int i), (3, .int v)]) S.1 S.2.1 d_AR_dump_9 hl (by decide) rfl (fun ls hl => ?_)
    refine lv_aload S.1 S.2.1 d_AR_dump_11 (lv_at hl 0 rfl) ?_
    refine lv_ifnonnull (tgt := 18) S.1 S.2.1 d_AR_dump_13 (by decide) ?_
    refine lv_iload_n S.1 S.2.1 d_AR_dump_18 rfl (lv_at hl 4 rfl) ?_
    by_cases k19_0 : v = 0
    · refine lv_tableIn (off := 29) (tgt := 48) S.1 S.2.1 d_AR_dump_19 (by rw [k19_0]; decide) (by rw [k19_0]; decide) (by rw [k19_0]; rfl) (by decide) ?_
      refine lv_aload S.1 S.2.1 d_AR_dump_48 (lv_at hl 0 rfl) ?_
      refine mm_get (C := R_DU) (T := T_DU) (N := 5) S hK.1 hw hdy rfl in_DU 1 (by decide) gw_267 rfl rfl d_AR_dump_50 ?_
      exact mm_reti S.1 S.2.1 hr hlocks hA hQ hw (cs_same hC (hsp.trans (by rw [k19_0, if_neg (by decide)]; rfl))) (Nat.le_of_ble_eq_true rfl) (Nat.le_of_ble_eq_true rfl) d_AR_dump_53
    by_cases k19_1 : v = 1
    · refine lv_tableIn (off := 35) (tgt := 54) S.1 S.2.1 d_AR_dump_19 (by rw [k19_1]; decide) (by rw [k19_1]; decide) (by rw [k19_1]; rfl) (by decide) ?_
      refine lv_aload S.1 S.2.1 d_AR_dump_54 (lv_at hl 0 rfl) ?_
      refine mm_get (C := R_DU) (T := T_DU) (N := 5) S hK.1 hw hdy rfl in_DU 2 (by decide) gw_269 rfl rfl d_AR_dump_56 ?_
      exact mm_reti S.1 S.2.1 hr hlocks hA hQ hw (cs_same hC (hsp.trans (by rw [k19_1, if_neg (by decide)]; rfl))) (Nat.le_of_ble_eq_true rfl) (Nat.le_of_ble_eq_true rfl) d_AR_dump_59
    by_cases k19_2 : v = 2
    · refine lv_tableIn (off := 41) (tgt := 60) S.1 S.2.1 d_AR_dump_19 (by rw [k19_2]; decide) (by rw [k19_2]; decide) (by rw [k19_2]; rfl) (by decide) ?_
      refine lv_aload S.1 S.2.1 d_AR_dump_60 (lv_at hl 0 rfl) ?_
      refine mm_get (C := R_DU) (T := T_DU) (N := 5) S hK.1 hw hdy rfl in_DU 3 (by decide) gw_271 rfl rfl d_AR_dump_62 ?_
      exact mm_reti S.1 S.2.1 hr hlocks hA hQ hw (cs_same hC (hsp.trans (by rw [k19_2, if_neg (by decide)]; rfl))) (Nat.le_of_ble_eq_true rfl) (Nat.le_of_ble_eq_true rfl) d_AR_dump_65
    by_cases k19_3 : v = 3
    · refine lv_tableIn (off := 47) (tgt := 66) S.1 S.2.1 d_AR_dump_19 (by rw [k19_3]; decide) (by rw [k19_3]; decide) (by rw [k19_3]; rfl) (by decide) ?_
      refine lv_aload S.1 S.2.1 d_AR_dump_66 (lv_at hl 0 rfl) ?_
      refine mm_get (C := R_DU) (T := T_DU) (N := 5) S hK.1 hw hdy rfl in_DU 4 (by decide) gw_273 rfl rfl d_AR_dump_68 ?_
      refine lv_if_eq (tgt := 78) S.1 S.2.1 d_AR_dump_71 (by decide) (fun c71 => ?_) (fun c71 => ?_)
      · refine lv_iconst (v := 0) S.1 S.2.1 d_AR_dump_78 (by decide) ?_
        exact mm_reti S.1 S.2.1 hr hlocks hA hQ hw (cs_same hC (hsp.trans (by rw [k19_3, if_neg (by decide)]; show (F 15 (5 * y + 4), _, _, _) = _; rw [c71]))) (Nat.le_of_ble_eq_true rfl) (Nat.le_of_ble_eq_true rfl) d_AR_dump_79
      · refine lv_iconst (v := 1) S.1 S.2.1 d_AR_dump_74 (by decide) ?_
        refine lv_goto (tgt := 79) S.1 S.2.1 d_AR_dump_75 (by decide) ?_
        exact mm_reti S.1 S.2.1 hr hlocks hA hQ hw (cs_same hC (hsp.trans (by rw [k19_3, if_neg (by decide)]; show (F 15 (5 * y + 4), _, _, _) = _; rw [hy01.resolve_left c71]))) (Nat.le_of_ble_eq_true rfl) (Nat.le_of_ble_eq_true rfl) d_AR_dump_79
    refine lv_tableOut (tgt := 80) S.1 S.2.1 d_AR_dump_19 (by have t0 : (v).toInt ≠ 0 := ts_ne k19_0; have t1 : (v).toInt ≠ 1 := ts_ne k19_1; have t2 : (v).toInt ≠ 2 := ts_ne k19_2; have t3 : (v).toInt ≠ 3 := ts_ne k19_3; omega) (by decide) ?_
    refine lv_iconst (v := (-1)) S.1 S.2.1 d_AR_dump_80 (by decide) ?_
    exact mm_reti S.1 S.2.1 hr hlocks hA hQ hw (cs_same hC (hsp.trans (by rw [if_pos (by
          by_cases h0 : v < 0
          · exact Or.inl h0
          · refine Or.inr (fun h3 => ?_)
            have a0 : v.toInt ≠ 0 := ts_ne k19_0
            have a1 : v.toInt ≠ 1 := ts_ne k19_1
            have a2 : v.toInt ≠ 2 := ts_ne k19_2
            have a3 : v.toInt ≠ 3 := ts_ne k19_3
            rw [Int32.le_iff_toInt_le, show (3 : Int32).toInt = 3 from rfl] at h3
            rw [Int32.lt_iff_toInt_lt, Int32.toInt_zero] at h0
            omega)]))) (Nat.le_of_ble_eq_true rfl) (Nat.le_of_ble_eq_true rfl) d_AR_dump_81
end
section
theorem d_AR_restart_0 : decode b_AR_restart 0 = .ok (.iload_n 1, 1) := by decide +kernel
theorem d_AR_restart_1 : decode b_AR_restart 1 = .ok (.invokestatic 115, 3) := by decide +kernel
theorem d_AR_restart_4 : decode b_AR_restart 4 = .ok (.ifCond .eq 10, 3) := by decide +kernel
theorem d_AR_restart_7 : decode b_AR_restart 7 = .ok (.iload_n 2, 1) := by decide +kernel
theorem d_AR_restart_8 : decode b_AR_restart 8 = .ok (.invokestatic 89, 3) := by decide +kernel
theorem d_AR_restart_11 : decode b_AR_restart 11 = .ok (.ifCond .ne 6, 3) := by decide +kernel
theorem d_AR_restart_14 : decode b_AR_restart 14 = .ok (.bipush (-4), 2) := by decide +kernel
theorem d_AR_restart_16 : decode b_AR_restart 16 = .ok (.ireturn, 1) := by decide +kernel
theorem d_AR_restart_17 : decode b_AR_restart 17 = .ok (.iload_n 2, 1) := by decide +kernel
theorem d_AR_restart_18 : decode b_AR_restart 18 = .ok (.sipush 1000, 3) := by decide +kernel
theorem d_AR_restart_21 : decode b_AR_restart 21 = .ok (.if_icmp .ge 17, 3) := by decide +kernel
theorem d_AR_restart_24 : decode b_AR_restart 24 = .ok (.aload_n 0, 1) := by decide +kernel
theorem d_AR_restart_25 : decode b_AR_restart 25 = .ok (.getfield 28, 3) := by decide +kernel
theorem d_AR_restart_28 : decode b_AR_restart 28 = .ok (.iload_n 1, 1) := by decide +kernel
theorem d_AR_restart_29 : decode b_AR_restart 29 = .ok (.iaload, 1) := by decide +kernel
theorem d_AR_restart_30 : decode b_AR_restart 30 = .ok (.iconst 3, 1) := by decide +kernel
theorem d_AR_restart_31 : decode b_AR_restart 31 = .ok (.if_icmp .ge 7, 3) := by decide +kernel
theorem d_AR_restart_34 : decode b_AR_restart 34 = .ok (.iconst 1, 1) := by decide +kernel
theorem d_AR_restart_35 : decode b_AR_restart 35 = .ok (.goto 4, 3) := by decide +kernel
theorem d_AR_restart_38 : decode b_AR_restart 38 = .ok (.iconst 0, 1) := by decide +kernel
theorem d_AR_restart_39 : decode b_AR_restart 39 = .ok (.istore_n 3, 1) := by decide +kernel
theorem d_AR_restart_40 : decode b_AR_restart 40 = .ok (.iload_n 3, 1) := by decide +kernel
theorem d_AR_restart_41 : decode b_AR_restart 41 = .ok (.ifCond .eq 13, 3) := by decide +kernel
theorem d_AR_restart_44 : decode b_AR_restart 44 = .ok (.aload_n 0, 1) := by decide +kernel
theorem d_AR_restart_45 : decode b_AR_restart 45 = .ok (.getfield 28, 3) := by decide +kernel
theorem d_AR_restart_48 : decode b_AR_restart 48 = .ok (.iload_n 1, 1) := by decide +kernel
theorem d_AR_restart_49 : decode b_AR_restart 49 = .ok (.dup2, 1) := by decide +kernel
theorem d_AR_restart_50 : decode b_AR_restart 50 = .ok (.iaload, 1) := by decide +kernel
theorem d_AR_restart_51 : decode b_AR_restart 51 = .ok (.iconst 1, 1) := by decide +kernel
theorem d_AR_restart_52 : decode b_AR_restart 52 = .ok (.iadd, 1) := by decide +kernel
theorem d_AR_restart_53 : decode b_AR_restart 53 = .ok (.iastore, 1) := by decide +kernel
theorem d_AR_restart_54 : decode b_AR_restart 54 = .ok (.aload_n 0, 1) := by decide +kernel
theorem d_AR_restart_55 : decode b_AR_restart 55 = .ok (.getfield 46, 3) := by decide +kernel
theorem d_AR_restart_58 : decode b_AR_restart 58 = .ok (.iload_n 2, 1) := by decide +kernel
theorem d_AR_restart_59 : decode b_AR_restart 59 = .ok (.invokevirtual 118, 3) := by decide +kernel
theorem d_AR_restart_62 : decode b_AR_restart 62 = .ok (.ifCond .ne 30, 3) := by decide +kernel
theorem d_AR_restart_65 : decode b_AR_restart 65 = .ok (.aload_n 0, 1) := by decide +kernel
theorem d_AR_restart_66 : decode b_AR_restart 66 = .ok (.getfield 39, 3) := by decide +kernel
theorem d_AR_restart_69 : decode b_AR_restart 69 = .ok (.new 121, 3) := by decide +kernel
theorem d_AR_restart_72 : decode b_AR_restart 72 = .ok (.dup, 1) := by decide +kernel
theorem d_AR_restart_73 : decode b_AR_restart 73 = .ok (.iload_n 1, 1) := by decide +kernel
theorem d_AR_restart_74 : decode b_AR_restart 74 = .ok (.iload_n 2, 1) := by decide +kernel
theorem d_AR_restart_75 : decode b_AR_restart 75 = .ok (.aload_n 0, 1) := by decide +kernel
theorem d_AR_restart_76 : decode b_AR_restart 76 = .ok (.iload_n 1, 1) := by decide +kernel
theorem d_AR_restart_77 : decode b_AR_restart 77 = .ok (.invokevirtual 123, 3) := by decide +kernel
theorem d_AR_restart_80 : decode b_AR_restart 80 = .ok (.aload_n 0, 1) := by decide +kernel
theorem d_AR_restart_81 : decode b_AR_restart 81 = .ok (.iload_n 1, 1) := by decide +kernel
theorem d_AR_restart_82 : decode b_AR_restart 82 = .ok (.invokevirtual 126, 3) := by decide +kernel
theorem d_AR_restart_85 : decode b_AR_restart 85 = .ok (.iload_n 3, 1) := by decide +kernel
theorem d_AR_restart_86 : decode b_AR_restart 86 = .ok (.invokespecial 129, 3) := by decide +kernel
theorem d_AR_restart_89 : decode b_AR_restart 89 = .ok (.invokevirtual 132, 3) := by decide +kernel
theorem d_AR_restart_92 : decode b_AR_restart 92 = .ok (.aload_n 0, 1) := by decide +kernel
theorem d_AR_restart_93 : decode b_AR_restart 93 = .ok (.getfield 53, 3) := by decide +kernel
theorem d_AR_restart_96 : decode b_AR_restart 96 = .ok (.iload_n 2, 1) := by decide +kernel
theorem d_AR_restart_97 : decode b_AR_restart 97 = .ok (.invokevirtual 104, 3) := by decide +kernel
theorem d_AR_restart_100 : decode b_AR_restart 100 = .ok (.iload_n 3, 1) := by decide +kernel
theorem d_AR_restart_101 : decode b_AR_restart 101 = .ok (.ifCond .eq 7, 3) := by decide +kernel
theorem d_AR_restart_104 : decode b_AR_restart 104 = .ok (.iconst 1, 1) := by decide +kernel
theorem d_AR_restart_105 : decode b_AR_restart 105 = .ok (.goto 4, 3) := by decide +kernel
theorem d_AR_restart_108 : decode b_AR_restart 108 = .ok (.iconst 0, 1) := by decide +kernel
theorem d_AR_restart_109 : decode b_AR_restart 109 = .ok (.ireturn, 1) := by decide +kernel
set_option maxHeartbeats 4000000 in
set_option maxRecDepth 100000 in
theorem c_AR_restart (l : Launch) (D : va_G) (dA : Nat → ClassId) (M : mm_M) (x nc : Nat) (I : sI) (F : sF) (st : sT) (hC : cP dA M x I F st nc) (hwf : wf I F st) (hnc : nc < 512) (t k : Int32) : mm_Ci l y_AR_restart w_AR_restart ({ frames := 2, cells := 1, slots := 5, locals := 47 }) 1 5 D vC (tyL dA) [.ref x, .int t, .int k] M (cs_post dA x nc (sp_restart t k I F st)) := by
  intro sz
  refine mm_start (by decide) (Nat.le_of_ble_eq_true rfl) ?_
  intro p e s m below meth c A Q ls hA hQ S hr hlocks hin hK hw hl
  have hl : lv_has ls 4 [(0, .ref x), (1, .int t), (2, .int k)] := hl
  obtain ⟨lv, sr, gd, rs, ss, dr, cs, cg, hX, hL, hG, hS, hR, hT, hD, hCs, hE⟩ := id hC
  have hX : M x = some (.inr (0, [.ref lv, .int (I 1), .int (I 2), .ref sr, .ref gd, .int (I 3), .ref rs, .ref ss, .ref dr, .ref cs, .ref cg])) := hX
  obtain ⟨fG, ga, b, f, hgd, hfg, hga, hgi⟩ := id hG
  obtain ⟨ng, hng, hNG⟩ := hwf.2.2.1
  have hng3 : cN (I 3) = ng := cN_I hng (by omega)
  obtain ⟨rg, nx, fD, da, hdr, hnx, hrg, hfd, hda⟩ := id hD
  obtain ⟨nd, hnd, hND⟩ := hwf.2.2.2.1
  obtain ⟨wd, fW, hcs, hwd, hsp9⟩ := id hCs
  obtain ⟨cd, n9, fC, hcg, hcd, hn9, hfc, hct⟩ := id hE
  refine lv_iload_n S.1 S.2.1 d_AR_restart_0 rfl (lv_at hl 1 rfl) ?_
  refine mm_calli hw (mm_runS (As := [.int t]) (rest := []) S hK hw (c_AR_isTask l D dA _ t _) bs_AR_isTask gw_235 (⟨rfl, rfl, by decide, by decide, by decide, by decide⟩) hl.1 rfl rfl (Nat.le_of_ble_eq_true rfl) d_AR_restart_1) (fun r1 M2 H locs hp hw => ?_)
  rw [hp.1] at hw
  rcases hp.2 with ⟨rfl, hc3⟩ | ⟨rfl, hc3⟩
  · obtain ⟨j4, ekj4, hlj4, hhj4, enj4⟩ := is_of (N := 40) rfl (by omega) hc3
    refine lv_if_eq (tgt := 14) S.1 S.2.1 d_AR_restart_4 (by decide) (fun c4 => absurd c4 (by decide)) (fun c4 => ?_)
    refine lv_iload_n S.1 S.2.1 d_AR_restart_7 rfl (lv_at hl 2 rfl) ?_
    refine mm_calli hw (mm_runS (As := [.int k]) (rest := []) S hK hw (c_AR_isCode l D dA _ k _) bs_AR_isCode gw_191 (⟨rfl, rfl, by decide, by decide, by decide, by decide⟩) hl.1 rfl rfl (Nat.le_of_ble_eq_true rfl) d_AR_restart_8) (fun r5 M6 H locs hp hw => ?_)
    rw [hp.1] at hw
    rcases hp.2 with ⟨rfl, hc7⟩ | ⟨rfl, hc7⟩
    · obtain ⟨j8, ekj8, hlj8, hhj8, enj8⟩ := is_of (N := 9999) rfl (by omega) hc7
      refine lv_if_ne (tgt := 17) S.1 S.2.1 d_AR_restart_11 (by decide) (fun c11 => ?_) (fun c11 => absurd c11 (by decide))
      have J : ∀ (M1 : mm_M) (H : Heap) (locs : List Loc) (ls : Array Slot), mm_w D vC A s.heap M1 H locs → kt M M1 [1041] → M1 rs = some (aI (dA 0) 41 (upd (F 9) (cN t) (F 9 (cN t) + rs_ag t k F))) → lv_has ls 4 [(3, .int (rs_ag t k F)), (0, .ref x), (1, .int t), (2, .int k)] → W p l e ({ frames := 2, cells := 1, slots := 5, locals := 47 }) s m [.ref x, .int t, .int k].toArray below meth c H locs 0 0 Q (F0 m 54 ls []) := by
        intro M1 H locs ls hw hk1 hR1 hl
        have hX1 : M1 x = some (.inr (0, [.ref lv, .int (I 1), .int (I 2), .ref sr, .ref gd, .int (I 3), .ref rs, .ref ss, .ref dr, .ref cs, .ref cg])) := hk1 _ _ hX (by simp [tg])
        have hcs1 : M1 cs = some (.inr (3, [.ref wd])) := hk1 _ _ hcs (by simp [tg])
        have hdr1 : M1 dr = some (.inr (2, [.ref rg, .int (nI nx)])) := hk1 _ _ hdr (by simp [tg])
        have hrg1 : M1 rg = some (.inl (dA 5, 50, .inr (.inr (.inr (.inr (fD)))))) := hk1 _ _ hrg (by simp [tg])
        have hgd1 : M1 gd = some (.inl (dA 4, 60, .inr (.inr (.inr (.inr (fG)))))) := hk1 _ _ hgd (by simp [tg])
        have hcg1 : M1 cg = some (.inr (4, [.ref cd, .int (nI n9)])) := hk1 _ _ hcg (by simp [tg])
        have hcd1 : M1 cd = some (.inl (dA 0, 512, .inl (fC))) := hk1 _ _ hcd (by simp [tg])
        have hwd1 : M1 wd = some (aJ (dA 1) 157 fW) := hk1 _ _ hwd (by simp [tg])
        refine lv_aload_n S.1 S.2.1 d_AR_restart_54 rfl (lv_at hl 1 rfl) ?_
        refine mm_get (C := R_AR) (T := T_AR) (N := 11) S hK.1 hw hX1 rfl in_AR 9 (by decide) gw_97 rfl rfl d_AR_restart_55 ?_
        refine lv_iload_n S.1 S.2.1 d_AR_restart_58 rfl (lv_at hl 3 rfl) ?_
        refine mm_calli hw (mm_runV (a := cs) (As := [.int k]) (rest := []) S hK hw (c_CS_has l D dA _ cs wd fW hcs1 hwd1 k _) bv_CS_has gw_238 hcs1 rfl (⟨rfl, rfl, by decide, by decide, by decide, by decide⟩) hl.1 rfl rfl (Nat.le_of_ble_eq_true rfl) d_AR_restart_59) (fun r9 M10 H locs hp hw => ?_)
        rw [hp.1] at hw
        rcases hp.2 with ⟨rfl, hh11⟩ | ⟨rfl, hh11⟩
        · refine lv_if_ne (tgt := 92) S.1 S.2.1 d_AR_restart_62 (by decide) (fun c62 => ?_) (fun c62 => absurd c62 (by decide))
          refine lv_aload_n S.1 S.2.1 d_AR_restart_92 rfl (lv_at hl 1 rfl) ?_
          refine mm_get (C := R_AR) (T := T_AR) (N := 11) S hK.1 hw hX1 rfl in_AR 10 (by decide) gw_98 rfl rfl d_AR_restart_93 ?_
          refine lv_iload_n S.1 S.2.1 d_AR_restart_96 rfl (lv_at hl 3 rfl) ?_
          refine mm_callv hw (mm_runV (a := cg) (As := [.int k]) (rest := []) S hK hw (c_CG_add l D dA _ cg cd n9 fC k (by omega) hcg1 hcd1 _) bv_CG_add gw_215 hcg1 rfl (⟨rfl, rfl, by decide, by decide, by decide, by decide⟩) hl.1 rfl rfl (Nat.le_of_ble_eq_true rfl) d_AR_restart_97) (fun M13 H locs hp hw => ?_)
          have hX1_14 : M13 x = some (.inr (0, [.ref lv, .int (I 1), .int (I 2), .ref sr, .ref gd, .int (I 3), .ref rs, .ref ss, .ref dr, .ref cs, .ref cg])) := by rw [hp]; exact mm_uk (mm_uk hcd1 hcg1 (by simp)) (mm_uk hcd1 hX1 (by simp)) (by simp)
          have hcs1_14 : M13 cs = some (.inr (3, [.ref wd])) := by rw [hp]; exact mm_uk (mm_uk hcd1 hcg1 (by simp)) (mm_uk hcd1 hcs1 (by simp)) (by simp)
          have hdr1_14 : M13 dr = some (.inr (2, [.ref rg, .int (nI nx)])) := by rw [hp]; exact mm_uk (mm_uk hcd1 hcg1 (by simp)) (mm_uk hcd1 hdr1 (by simp)) (by simp)
          have hrg1_14 : M13 rg = some (.inl (dA 5, 50, .inr (.inr (.inr (.inr (fD)))))) := by rw [hp]; exact mm_uk (mm_uk hcd1 hcg1 (by simp)) (mm_uk hcd1 hrg1 (by simp)) (by simp)
          have hgd1_14 : M13 gd = some (.inl (dA 4, 60, .inr (.inr (.inr (.inr (fG)))))) := by rw [hp]; exact mm_uk (mm_uk hcd1 hcg1 (by simp)) (mm_uk hcd1 hgd1 (by simp)) (by simp)
          have hcg1_14 : M13 cg = some (.inr (4, [.ref cd, .int (nI (n9 + 1))])) := by rw [hp]; exact mm_us
          have hcd1_14 : M13 cd = some (.inl (dA 0, 512, .inl (upd (fC) (n9) (k)))) := by rw [hp]; exact mm_uk (mm_uk hcd1 hcg1 (by simp)) mm_us (by simp)
          have hR1_14 : M13 rs = some (.inl (dA 0, 41, .inl (upd (F 9) (cN t) (F 9 (cN t) + rs_ag t k F)))) := by rw [hp]; exact mm_uk (mm_uk hcd1 hcg1 (by simp)) (mm_uk hcd1 hR1 (by simp)) (by simp)
          have kM13 : kt M1 M13 [1512, 4] := by rw [hp]; exact kt_tr (kt_up hcd1 (by simp [tg])) (kt_up (mm_uk hcd1 hcg1 (by simp)) (by simp [tg]))
          refine lv_iload_n S.1 S.2.1 d_AR_restart_100 rfl (lv_at hl 0 rfl) ?_
          refine lv_if_eq (tgt := 108) S.1 S.2.1 d_AR_restart_101 (by decide) (fun c101 => ?_) (fun c101 => ?_)
          · refine lv_iconst (v := 0) S.1 S.2.1 d_AR_restart_108 (by decide) ?_
            have hf10 : F 10 (cN k) = if bw fW (cN k) then 1 else 0 := by rw [cN, enj8]; exact hsp9 j8 hlj8 hhj8
            have hv : ¬ F 10 (cN k) = 0 := by rw [hf10, hh11.2]; decide
            have hag : rs_ag t k F = 0 := c101
            have hk9 : kt M M13 [1041, 1512, 4] := (kt_tr (kt_mo hk1 (by decide)) (kt_mo kM13 (by decide)))
            have hP9 : cP dA M13 x (upd I 0 0) (rs_F t k F) st (nc + 1) := ⟨lv, sr, gd, rs, ss, dr, cs, cg, hX1_14, cL_k hk9 hL (by decide) rfl rfl rfl rfl rfl rfl rfl rfl rfl, cG_k hk9 hG (by decide) rfl rfl rfl rfl, cS_k hk9 hS (by decide) rfl rfl, hR1_14, hk9 _ _ hT (by simp [tg]), cD_k hk9 hD (by decide) rfl rfl, cC_k hk9 hCs (by decide) rfl, cE_add hn9 hfc hct hlj8 hhj8 hcg1_14 (by rw [← ekj8]; exact hcd1_14) (show upd (F 8) (cN k) (F 8 (cN k) + 1) = upd (F 8) j8 (F 8 j8 + 1) from by rw [cN, enj8])⟩
            exact mm_reti S.1 S.2.1 hr hlocks hA hQ hw (cs_done hP9 (show sp_restart t k I F st = (0, _, _, _) by simp only [sp_restart, eq_true hc3, eq_true hc7, not_true_eq_false, not_false_eq_true, and_true, true_and, and_false, false_and, and_self, or_true, true_or, or_false, false_or, or_self, ↓reduceIte, eq_false hv]; rw [hag])) (Nat.le_of_ble_eq_true rfl) (Nat.le_of_ble_eq_true rfl) d_AR_restart_109
          · refine lv_iconst (v := 1) S.1 S.2.1 d_AR_restart_104 (by decide) ?_
            refine lv_goto (tgt := 109) S.1 S.2.1 d_AR_restart_105 (by decide) ?_
            have hf10 : F 10 (cN k) = if bw fW (cN k) then 1 else 0 := by rw [cN, enj8]; exact hsp9 j8 hlj8 hhj8
            have hv : ¬ F 10 (cN k) = 0 := by rw [hf10, hh11.2]; decide
            have hag : rs_ag t k F = 1 := rs_01.resolve_left c101
            have hk9 : kt M M13 [1041, 1512, 4] := (kt_tr (kt_mo hk1 (by decide)) (kt_mo kM13 (by decide)))
            have hP9 : cP dA M13 x (upd I 0 0) (rs_F t k F) st (nc + 1) := ⟨lv, sr, gd, rs, ss, dr, cs, cg, hX1_14, cL_k hk9 hL (by decide) rfl rfl rfl rfl rfl rfl rfl rfl rfl, cG_k hk9 hG (by decide) rfl rfl rfl rfl, cS_k hk9 hS (by decide) rfl rfl, hR1_14, hk9 _ _ hT (by simp [tg]), cD_k hk9 hD (by decide) rfl rfl, cC_k hk9 hCs (by decide) rfl, cE_add hn9 hfc hct hlj8 hhj8 hcg1_14 (by rw [← ekj8]; exact hcd1_14) (show upd (F 8) (cN k) (F 8 (cN k) + 1) = upd (F 8) j8 (F 8 j8 + 1) from by rw [cN, enj8])⟩
            exact mm_reti S.1 S.2.1 hr hlocks hA hQ hw (cs_done hP9 (show sp_restart t k I F st = (1, _, _, _) by simp only [sp_restart, eq_true hc3, eq_true hc7, not_true_eq_false, not_false_eq_true, and_true, true_and, and_false, false_and, and_self, or_true, true_or, or_false, false_or, or_self, ↓reduceIte, eq_false hv]; rw [hag])) (Nat.le_of_ble_eq_true rfl) (Nat.le_of_ble_eq_true rfl) d_AR_restart_109
        · refine lv_if_ne (tgt := 92) S.1 S.2.1 d_AR_restart_62 (by decide) (fun c62 => absurd c62 (by decide)) (fun c62 => ?_)
          refine lv_aload_n S.1 S.2.1 d_AR_restart_65 rfl (lv_at hl 1 rfl) ?_
          refine mm_get (C := R_AR) (T := T_AR) (N := 11) S hK.1 hw hX1 rfl in_AR 8 (by decide) gw_96 rfl rfl d_AR_restart_66 ?_
          refine mm_new (C := R_DU) (T := T_DU) (N := 5) (ci := 8) (fs := [.int 0, .int 0, .int 0, .int 0, .int 0]) S hK.1 hw rfl in_DU t_DU k_DU gw_246 gw_247 gw_17 (fun j hj => by rcases (show j = 0 ∨ j = 1 ∨ j = 2 ∨ j = 3 ∨ j = 4 by omega) with rfl | rfl | rfl | rfl | rfl <;> rfl) (Nat.le_of_ble_eq_true rfl) (Nat.le_of_ble_eq_true rfl) d_AR_restart_69 (fun qd H hqqd hw => ?_)
          obtain ⟨M15, eM15⟩ : ∃ zM : mm_M, zM = mm_up M1 qd (.inr (8, [.int 0, .int 0, .int 0, .int 0, .int 0])) := ⟨_, rfl⟩
          have hw : mm_w D vC _ _ (mm_up M1 qd (.inr (8, [.int 0, .int 0, .int 0, .int 0, .int 0]))) H _ := hw
          rw [← eM15] at hw
          have hX1_15 : M15 x = some (.inr (0, [.ref lv, .int (I 1), .int (I 2), .ref sr, .ref gd, .int (I 3), .ref rs, .ref ss, .ref dr, .ref cs, .ref cg])) := by rw [eM15]; exact mm_fk hqqd hX1
          have hcs1_15 : M15 cs = some (.inr (3, [.ref wd])) := by rw [eM15]; exact mm_fk hqqd hcs1
          have hdr1_15 : M15 dr = some (.inr (2, [.ref rg, .int (nI nx)])) := by rw [eM15]; exact mm_fk hqqd hdr1
          have hrg1_15 : M15 rg = some (.inl (dA 5, 50, .inr (.inr (.inr (.inr (fD)))))) := by rw [eM15]; exact mm_fk hqqd hrg1
          have hgd1_15 : M15 gd = some (.inl (dA 4, 60, .inr (.inr (.inr (.inr (fG)))))) := by rw [eM15]; exact mm_fk hqqd hgd1
          have hcg1_15 : M15 cg = some (.inr (4, [.ref cd, .int (nI n9)])) := by rw [eM15]; exact mm_fk hqqd hcg1
          have hcd1_15 : M15 cd = some (.inl (dA 0, 512, .inl (fC))) := by rw [eM15]; exact mm_fk hqqd hcd1
          have hR1_15 : M15 rs = some (.inl (dA 0, 41, .inl (upd (F 9) (cN t) (F 9 (cN t) + rs_ag t k F)))) := by rw [eM15]; exact mm_fk hqqd hR1
          have hqd_15 : M15 qd = some (.inr (8, [.int 0, .int 0, .int 0, .int 0, .int 0])) := by rw [eM15]; exact mm_us
          refine lv_dup S.1 S.2.1 d_AR_restart_72 rfl ?_
          refine lv_iload_n S.1 S.2.1 d_AR_restart_73 rfl (lv_at hl 2 rfl) ?_
          refine lv_iload_n S.1 S.2.1 d_AR_restart_74 rfl (lv_at hl 3 rfl) ?_
          have hk2 : kt M M15 [1041] := by rw [eM15]; exact kt_tr hk1 (kt_nw hqqd)
          have hga2 : ∀ i, 1 ≤ i → i ≤ cN (I 3) → M15 (ga i) = some (oG F b f i) ∧ gst (F 14 i) (b i) (f i) := fun i p q => ⟨hk2 _ _ (hga i p q).1 (by simp [tg]), (hga i p q).2⟩
          refine lv_aload_n S.1 S.2.1 d_AR_restart_75 rfl (lv_at hl 1 rfl) ?_
          refine lv_iload_n S.1 S.2.1 d_AR_restart_76 rfl (lv_at hl 2 rfl) ?_
          refine mm_calli hw (mm_runV (a := x) (As := [.int t]) (rest := [.int k, .int t, .ref qd, .ref qd, .ref dr]) S hK hw (c_AR_guardsOf l D dA _ x lv sr gd rs ss dr cs cg I F fG ga b f ng hng hNG hX1_15 hgd1_15 hfg hga2 t _) bv_AR_guardsOf gw_248 hX1_15 rfl (⟨rfl, rfl, by decide, by decide, by decide, by decide⟩) hl.1 rfl rfl (Nat.le_of_ble_eq_true rfl) d_AR_restart_77) (fun r16 M17 H locs hp hw => ?_)
          obtain ⟨e9, rfl⟩ := hp
          rw [e9] at hw
          refine lv_aload_n S.1 S.2.1 d_AR_restart_80 rfl (lv_at hl 1 rfl) ?_
          refine lv_iload_n S.1 S.2.1 d_AR_restart_81 rfl (lv_at hl 2 rfl) ?_
          refine mm_calli hw (mm_runV (a := x) (As := [.int t]) (rest := [.int (gc_a F t ng), .int k, .int t, .ref qd, .ref qd, .ref dr]) S hK hw (c_AR_brokenGuardsOf l D dA _ x lv sr gd rs ss dr cs cg I F fG ga b f ng hng hNG hX1_15 hgd1_15 hfg hga2 t _) bv_AR_brokenGuardsOf gw_256 hX1_15 rfl (⟨rfl, rfl, by decide, by decide, by decide, by decide⟩) hl.1 rfl rfl (Nat.le_of_ble_eq_true rfl) d_AR_restart_82) (fun r18 M19 H locs hp hw => ?_)
          obtain ⟨e9, rfl⟩ := hp
          rw [e9] at hw
          refine lv_iload_n S.1 S.2.1 d_AR_restart_85 rfl (lv_at hl 0 rfl) ?_
          refine mm_callv hw (mm_runI (a := qd) (As := [.int t, .int k, .int (gc_a F t ng), .int (gc_b F t ng), .int (rs_ag t k F)]) (rest := [.ref qd, .ref dr]) S hK hw (c_DU_init l D dA _ qd t k (gc_a F t ng) (gc_b F t ng) (rs_ag t k F) rs_01 hqd_15 _) bi_DU_init gw_260 (⟨rfl, rfl, by decide, by decide, by decide, by decide⟩) hl.1 rfl rfl (Nat.le_of_ble_eq_true rfl) d_AR_restart_86) (fun M21 H locs hp hw => ?_)
          have hX1_22 : M21 x = some (.inr (0, [.ref lv, .int (I 1), .int (I 2), .ref sr, .ref gd, .int (I 3), .ref rs, .ref ss, .ref dr, .ref cs, .ref cg])) := by rw [hp]; exact mm_uk hqd_15 hX1_15 (by simp)
          have hcs1_23 : M21 cs = some (.inr (3, [.ref wd])) := by rw [hp]; exact mm_uk hqd_15 hcs1_15 (by simp)
          have hdr1_24 : M21 dr = some (.inr (2, [.ref rg, .int (nI nx)])) := by rw [hp]; exact mm_uk hqd_15 hdr1_15 (by simp)
          have hrg1_25 : M21 rg = some (.inl (dA 5, 50, .inr (.inr (.inr (.inr (fD)))))) := by rw [hp]; exact mm_uk hqd_15 hrg1_15 (by simp)
          have hgd1_26 : M21 gd = some (.inl (dA 4, 60, .inr (.inr (.inr (.inr (fG)))))) := by rw [hp]; exact mm_uk hqd_15 hgd1_15 (by simp)
          have hcg1_27 : M21 cg = some (.inr (4, [.ref cd, .int (nI n9)])) := by rw [hp]; exact mm_uk hqd_15 hcg1_15 (by simp)
          have hcd1_28 : M21 cd = some (.inl (dA 0, 512, .inl (fC))) := by rw [hp]; exact mm_uk hqd_15 hcd1_15 (by simp)
          have hR1_29 : M21 rs = some (.inl (dA 0, 41, .inl (upd (F 9) (cN t) (F 9 (cN t) + rs_ag t k F)))) := by rw [hp]; exact mm_uk hqd_15 hR1_15 (by simp)
          have hqd_30 : M21 qd = some (.inr (8, [.int t, .int k, .int (gc_a F t ng), .int (gc_b F t ng), .int (rs_ag t k F)])) := by rw [hp]; exact mm_us
          have eM21 := hp
          have hk3 : kt M M21 [1041] := by rw [hp, eM15, show mm_up (mm_up M1 qd _) qd _ = mm_up M1 qd _ from mm_uu]; exact kt_tr hk1 (kt_nw hqqd)
          refine mm_callv hw (mm_runV (a := dr) (As := [.ref qd]) (rest := []) S hK hw (c_DR_keep l D dA _ dr rg nx qd fD t k (gc_a F t ng) (gc_b F t ng) (rs_ag t k F) hnx hdr1_24 hrg1_25 hqd_30 _) bv_DR_keep gw_285 hdr1_24 rfl (⟨rfl, rfl, by decide, by decide, by decide, by decide⟩) hl.1 rfl rfl (Nat.le_of_ble_eq_true rfl) d_AR_restart_89) (fun M32 H locs hp hw => ?_)
          have hX1_33 : M32 x = some (.inr (0, [.ref lv, .int (I 1), .int (I 2), .ref sr, .ref gd, .int (I 3), .ref rs, .ref ss, .ref dr, .ref cs, .ref cg])) := by rw [hp]; exact mm_uk (mm_uk hrg1_25 hdr1_24 (by simp)) (mm_uk hrg1_25 hX1_22 (by simp)) (by simp)
          have hcs1_33 : M32 cs = some (.inr (3, [.ref wd])) := by rw [hp]; exact mm_uk (mm_uk hrg1_25 hdr1_24 (by simp)) (mm_uk hrg1_25 hcs1_23 (by simp)) (by simp)
          have hdr1_33 : M32 dr = some (.inr (2, [.ref rg, .int (nI ((nx + 1) % 50))])) := by rw [hp]; exact mm_us
          have hrg1_33 : M32 rg = some (.inl (dA 5, 50, .inr (.inr (.inr (.inr (va_up (fD) (nx) (some qd))))))) := by rw [hp]; exact mm_uk (mm_uk hrg1_25 hdr1_24 (by simp)) mm_us (by simp)
          have hgd1_33 : M32 gd = some (.inl (dA 4, 60, .inr (.inr (.inr (.inr (fG)))))) := by rw [hp]; exact mm_uk (mm_uk hrg1_25 hdr1_24 (by simp)) (mm_uk hrg1_25 hgd1_26 (by simp)) (by simp)
          have hcg1_33 : M32 cg = some (.inr (4, [.ref cd, .int (nI n9)])) := by rw [hp]; exact mm_uk (mm_uk hrg1_25 hdr1_24 (by simp)) (mm_uk hrg1_25 hcg1_27 (by simp)) (by simp)
          have hcd1_33 : M32 cd = some (.inl (dA 0, 512, .inl (fC))) := by rw [hp]; exact mm_uk (mm_uk hrg1_25 hdr1_24 (by simp)) (mm_uk hrg1_25 hcd1_28 (by simp)) (by simp)
          have hR1_33 : M32 rs = some (.inl (dA 0, 41, .inl (upd (F 9) (cN t) (F 9 (cN t) + rs_ag t k F)))) := by rw [hp]; exact mm_uk (mm_uk hrg1_25 hdr1_24 (by simp)) (mm_uk hrg1_25 hR1_29 (by simp)) (by simp)
          have hqd_33 : M32 qd = some (.inr (8, [.int t, .int k, .int (gc_a F t ng), .int (gc_b F t ng), .int (rs_ag t k F)])) := by rw [hp]; exact mm_uk (mm_uk hrg1_25 hdr1_24 (by simp)) (mm_uk hrg1_25 hqd_30 (by simp)) (by simp)
          have kM32 : kt M21 M32 [1050, 2] := by rw [hp]; exact kt_tr (kt_up hrg1_25 (by simp [tg])) (kt_up (mm_uk hrg1_25 hdr1_24 (by simp)) (by simp [tg]))
          refine lv_aload_n S.1 S.2.1 d_AR_restart_92 rfl (lv_at hl 1 rfl) ?_
          refine mm_get (C := R_AR) (T := T_AR) (N := 11) S hK.1 hw hX1_33 rfl in_AR 10 (by decide) gw_98 rfl rfl d_AR_restart_93 ?_
          refine lv_iload_n S.1 S.2.1 d_AR_restart_96 rfl (lv_at hl 3 rfl) ?_
          refine mm_callv hw (mm_runV (a := cg) (As := [.int k]) (rest := []) S hK hw (c_CG_add l D dA _ cg cd n9 fC k (by omega) hcg1_33 hcd1_33 _) bv_CG_add gw_215 hcg1_33 rfl (⟨rfl, rfl, by decide, by decide, by decide, by decide⟩) hl.1 rfl rfl (Nat.le_of_ble_eq_true rfl) d_AR_restart_97) (fun M35 H locs hp hw => ?_)
          have hX1_36 : M35 x = some (.inr (0, [.ref lv, .int (I 1), .int (I 2), .ref sr, .ref gd, .int (I 3), .ref rs, .ref ss, .ref dr, .ref cs, .ref cg])) := by rw [hp]; exact mm_uk (mm_uk hcd1_33 hcg1_33 (by simp)) (mm_uk hcd1_33 hX1_33 (by simp)) (by simp)
          have hcs1_36 : M35 cs = some (.inr (3, [.ref wd])) := by rw [hp]; exact mm_uk (mm_uk hcd1_33 hcg1_33 (by simp)) (mm_uk hcd1_33 hcs1_33 (by simp)) (by simp)
          have hdr1_36 : M35 dr = some (.inr (2, [.ref rg, .int (nI ((nx + 1) % 50))])) := by rw [hp]; exact mm_uk (mm_uk hcd1_33 hcg1_33 (by simp)) (mm_uk hcd1_33 hdr1_33 (by simp)) (by simp)
          have hrg1_36 : M35 rg = some (.inl (dA 5, 50, .inr (.inr (.inr (.inr (va_up (fD) (nx) (some qd))))))) := by rw [hp]; exact mm_uk (mm_uk hcd1_33 hcg1_33 (by simp)) (mm_uk hcd1_33 hrg1_33 (by simp)) (by simp)
          have hgd1_36 : M35 gd = some (.inl (dA 4, 60, .inr (.inr (.inr (.inr (fG)))))) := by rw [hp]; exact mm_uk (mm_uk hcd1_33 hcg1_33 (by simp)) (mm_uk hcd1_33 hgd1_33 (by simp)) (by simp)
          have hcg1_36 : M35 cg = some (.inr (4, [.ref cd, .int (nI (n9 + 1))])) := by rw [hp]; exact mm_us
          have hcd1_36 : M35 cd = some (.inl (dA 0, 512, .inl (upd (fC) (n9) (k)))) := by rw [hp]; exact mm_uk (mm_uk hcd1_33 hcg1_33 (by simp)) mm_us (by simp)
          have hR1_36 : M35 rs = some (.inl (dA 0, 41, .inl (upd (F 9) (cN t) (F 9 (cN t) + rs_ag t k F)))) := by rw [hp]; exact mm_uk (mm_uk hcd1_33 hcg1_33 (by simp)) (mm_uk hcd1_33 hR1_33 (by simp)) (by simp)
          have hqd_36 : M35 qd = some (.inr (8, [.int t, .int k, .int (gc_a F t ng), .int (gc_b F t ng), .int (rs_ag t k F)])) := by rw [hp]; exact mm_uk (mm_uk hcd1_33 hcg1_33 (by simp)) (mm_uk hcd1_33 hqd_33 (by simp)) (by simp)
          have kM35 : kt M32 M35 [1512, 4] := by rw [hp]; exact kt_tr (kt_up hcd1_33 (by simp [tg])) (kt_up (mm_uk hcd1_33 hcg1_33 (by simp)) (by simp [tg]))
          refine lv_iload_n S.1 S.2.1 d_AR_restart_100 rfl (lv_at hl 0 rfl) ?_
          refine lv_if_eq (tgt := 108) S.1 S.2.1 d_AR_restart_101 (by decide) (fun c101 => ?_) (fun c101 => ?_)
          · refine lv_iconst (v := 0) S.1 S.2.1 d_AR_restart_108 (by decide) ?_
            have hf10 : F 10 (cN k) = if bw fW (cN k) then 1 else 0 := by rw [cN, enj8]; exact hsp9 j8 hlj8 hhj8
            have hv : F 10 (cN k) = 0 := by
              rw [hf10]
              cases hb9 : bw fW (cN k) with
              | true => exact absurd ⟨hc7, hb9⟩ hh11
              | false => rfl
            have hag : rs_ag t k F = 0 := c101
            have hk9 : kt M M35 [1041, 1050, 2, 1512, 4] := (kt_tr (kt_tr (kt_mo hk3 (by decide)) (kt_mo kM32 (by decide))) (kt_mo kM35 (by decide)))
            have hP9 : cP dA M35 x (upd (upd I 0 0) 4 (nI (rs_n I + 1))) (va_up (rs_F t k F) 15 (upd (upd (upd (upd (upd (rs_k I F) (5 * rs_n I) t) (5 * rs_n I + 1) k) (5 * rs_n I + 2) (gc_a F t (cN (I 3)))) (5 * rs_n I + 3) (gc_b F t (cN (I 3)))) (5 * rs_n I + 4) (rs_ag t k F))) st (nc + 1) := ⟨lv, sr, gd, rs, ss, dr, cs, cg, hX1_36, cL_k hk9 hL (by decide) rfl rfl rfl rfl rfl rfl rfl rfl rfl, cG_k hk9 hG (by decide) rfl rfl rfl rfl, cS_k hk9 hS (by decide) rfl rfl, hR1_36, hk9 _ _ hT (by simp [tg]), cD_add (q := qd) hnd hND hnx hfd hda hk9 (by decide) hdr1_36 hrg1_36 (by rw [hng3]; exact hqd_36) rs_01 rfl rfl, cC_k hk9 hCs (by decide) rfl, cE_add hn9 hfc hct hlj8 hhj8 hcg1_36 (by rw [← ekj8]; exact hcd1_36) (show upd (F 8) (cN k) (F 8 (cN k) + 1) = upd (F 8) j8 (F 8 j8 + 1) from by rw [cN, enj8])⟩
            exact mm_reti S.1 S.2.1 hr hlocks hA hQ hw (cs_done hP9 (show sp_restart t k I F st = (0, _, _, _) by simp only [sp_restart, eq_true hc3, eq_true hc7, not_true_eq_false, not_false_eq_true, and_true, true_and, and_false, false_and, and_self, or_true, true_or, or_false, false_or, or_self, ↓reduceIte, eq_true hv]; rw [hag])) (Nat.le_of_ble_eq_true rfl) (Nat.le_of_ble_eq_true rfl) d_AR_restart_109
          · refine lv_iconst (v := 1) S.1 S.2.1 d_AR_restart_104 (by decide) ?_
            refine lv_goto (tgt := 109) S.1 S.2.1 d_AR_restart_105 (by decide) ?_
            have hf10 : F 10 (cN k) = if bw fW (cN k) then 1 else 0 := by rw [cN, enj8]; exact hsp9 j8 hlj8 hhj8
            have hv : F 10 (cN k) = 0 := by
              rw [hf10]
              cases hb9 : bw fW (cN k) with
              | true => exact absurd ⟨hc7, hb9⟩ hh11
              | false => rfl
            have hag : rs_ag t k F = 1 := rs_01.resolve_left c101
            have hk9 : kt M M35 [1041, 1050, 2, 1512, 4] := (kt_tr (kt_tr (kt_mo hk3 (by decide)) (kt_mo kM32 (by decide))) (kt_mo kM35 (by decide)))
            have hP9 : cP dA M35 x (upd (upd I 0 0) 4 (nI (rs_n I + 1))) (va_up (rs_F t k F) 15 (upd (upd (upd (upd (upd (rs_k I F) (5 * rs_n I) t) (5 * rs_n I + 1) k) (5 * rs_n I + 2) (gc_a F t (cN (I 3)))) (5 * rs_n I + 3) (gc_b F t (cN (I 3)))) (5 * rs_n I + 4) (rs_ag t k F))) st (nc + 1) := ⟨lv, sr, gd, rs, ss, dr, cs, cg, hX1_36, cL_k hk9 hL (by decide) rfl rfl rfl rfl rfl rfl rfl rfl rfl, cG_k hk9 hG (by decide) rfl rfl rfl rfl, cS_k hk9 hS (by decide) rfl rfl, hR1_36, hk9 _ _ hT (by simp [tg]), cD_add (q := qd) hnd hND hnx hfd hda hk9 (by decide) hdr1_36 hrg1_36 (by rw [hng3]; exact hqd_36) rs_01 rfl rfl, cC_k hk9 hCs (by decide) rfl, cE_add hn9 hfc hct hlj8 hhj8 hcg1_36 (by rw [← ekj8]; exact hcd1_36) (show upd (F 8) (cN k) (F 8 (cN k) + 1) = upd (F 8) j8 (F 8 j8 + 1) from by rw [cN, enj8])⟩
            exact mm_reti S.1 S.2.1 hr hlocks hA hQ hw (cs_done hP9 (show sp_restart t k I F st = (1, _, _, _) by simp only [sp_restart, eq_true hc3, eq_true hc7, not_true_eq_false, not_false_eq_true, and_true, true_and, and_false, false_and, and_self, or_true, true_or, or_false, false_or, or_self, ↓reduceIte, eq_true hv]; rw [hag])) (Nat.le_of_ble_eq_true rfl) (Nat.le_of_ble_eq_true rfl) d_AR_restart_109
      refine lv_iload_n S.1 S.2.1 d_AR_restart_17 rfl (lv_at hl 2 rfl) ?_
      refine lv_sipush (v := 1000) S.1 S.2.1 d_AR_restart_18 (by decide) ?_
      refine lv_icmp_ge (tgt := 38) S.1 S.2.1 d_AR_restart_21 (by decide) (fun c21 => ?_) (fun c21 => ?_)
      · refine lv_iconst (v := 0) S.1 S.2.1 d_AR_restart_38 (by decide) ?_
        refine lv_istore_n (lv' := [(3, .int 0), (0, .ref x), (1, .int t), (2, .int k)]) S.1 S.2.1 d_AR_restart_39 rfl hl (by decide) rfl (fun ls hl => ?_)
        refine lv_iload_n S.1 S.2.1 d_AR_restart_40 rfl (lv_at hl 0 rfl) ?_
        refine lv_if_eq (tgt := 54) S.1 S.2.1 d_AR_restart_41 (by decide) (fun c41 => ?_) (fun c41 => absurd c41 (by decide))
        have ea : (0 : Int32) = rs_ag t k F := by simp only [rs_ag, eq_true hc3, eq_false c4, eq_true hc7, eq_false c11, eq_true c21, eq_true c41, not_true_eq_false, not_false_eq_true, and_true, true_and, and_false, false_and, and_self, or_true, true_or, or_false, false_or, or_self, ↓reduceIte]
        exact J M _ _ ls hw kt_rf (by rw [← ea, upd_id]; exact hR) (by rw [← ea]; exact lv_sub hl [0, 1, 2, 3] rfl)
      · refine lv_aload_n S.1 S.2.1 d_AR_restart_24 rfl (lv_at hl 0 rfl) ?_
        refine mm_get (C := R_AR) (T := T_AR) (N := 11) S hK.1 hw hX rfl in_AR 6 (by decide) gw_94 rfl rfl d_AR_restart_25 ?_
        refine lv_iload_n S.1 S.2.1 d_AR_restart_28 rfl (lv_at hl 1 rfl) ?_
        refine mn_iald (j := cN t) S hK.1 hw 0 hR rfl (cl_nI (is_le0 hc3.1)) (by rw [cN, enj4]; omega) (by decide) d_AR_restart_29 ?_
        refine lv_iconst (v := 3) S.1 S.2.1 d_AR_restart_30 (by decide) ?_
        refine lv_icmp_ge (tgt := 38) S.1 S.2.1 d_AR_restart_31 (by decide) (fun c31 => ?_) (fun c31 => ?_)
        · refine lv_iconst (v := 0) S.1 S.2.1 d_AR_restart_38 (by decide) ?_
          refine lv_istore_n (lv' := [(3, .int 0), (0, .ref x), (1, .int t), (2, .int k)]) S.1 S.2.1 d_AR_restart_39 rfl hl (by decide) rfl (fun ls hl => ?_)
          refine lv_iload_n S.1 S.2.1 d_AR_restart_40 rfl (lv_at hl 0 rfl) ?_
          refine lv_if_eq (tgt := 54) S.1 S.2.1 d_AR_restart_41 (by decide) (fun c41 => ?_) (fun c41 => absurd c41 (by decide))
          have ea : (0 : Int32) = rs_ag t k F := by simp only [rs_ag, eq_true hc3, eq_false c4, eq_true hc7, eq_false c11, eq_false c21, eq_true c31, eq_true c41, not_true_eq_false, not_false_eq_true, and_true, true_and, and_false, false_and, and_self, or_true, true_or, or_false, false_or, or_self, ↓reduceIte]
          exact J M _ _ ls hw kt_rf (by rw [← ea, upd_id]; exact hR) (by rw [← ea]; exact lv_sub hl [0, 1, 2, 3] rfl)
        · refine lv_iconst (v := 1) S.1 S.2.1 d_AR_restart_34 (by decide) ?_
          refine lv_goto (tgt := 39) S.1 S.2.1 d_AR_restart_35 (by decide) ?_
          refine lv_istore_n (lv' := [(3, .int 1), (0, .ref x), (1, .int t), (2, .int k)]) S.1 S.2.1 d_AR_restart_39 rfl hl (by decide) rfl (fun ls hl => ?_)
          refine lv_iload_n S.1 S.2.1 d_AR_restart_40 rfl (lv_at hl 0 rfl) ?_
          refine lv_if_eq (tgt := 54) S.1 S.2.1 d_AR_restart_41 (by decide) (fun c41 => absurd c41 (by decide)) (fun c41 => ?_)
          refine lv_aload_n S.1 S.2.1 d_AR_restart_44 rfl (lv_at hl 1 rfl) ?_
          refine mm_get (C := R_AR) (T := T_AR) (N := 11) S hK.1 hw hX rfl in_AR 6 (by decide) gw_94 rfl rfl d_AR_restart_45 ?_
          refine lv_iload_n S.1 S.2.1 d_AR_restart_48 rfl (lv_at hl 2 rfl) ?_
          refine lv_dup2_11 S.1 S.2.1 d_AR_restart_49 rfl rfl ?_
          refine mn_iald (j := cN t) S hK.1 hw 0 hR rfl (cl_nI (is_le0 hc3.1)) (by rw [cN, enj4]; omega) (by decide) d_AR_restart_50 ?_
          refine lv_iconst (v := 1) S.1 S.2.1 d_AR_restart_51 (by decide) ?_
          refine lv_iadd S.1 S.2.1 d_AR_restart_52 ?_
          refine mn_iast (j := cN t) S hK.1 hw 0 hR rfl (cl_nI (is_le0 hc3.1)) (by rw [cN, enj4]; omega) (by decide) d_AR_restart_53 (fun H locs hw => ?_)
          obtain ⟨M37, eM37⟩ : ∃ zM : mm_M, zM = mm_up M rs (.inl (dA 0, 41, .inl (upd (F 9) (cN t) ((((F 9) (cN t)) + 1))))) := ⟨_, rfl⟩
          have hw : mm_w D vC _ _ (mm_up M rs (.inl (dA 0, 41, .inl (upd (F 9) (cN t) ((((F 9) (cN t)) + 1)))))) H _ := hw
          rw [← eM37] at hw
          have hX_37 : M37 x = some (.inr (0, [.ref lv, .int (I 1), .int (I 2), .ref sr, .ref gd, .int (I 3), .ref rs, .ref ss, .ref dr, .ref cs, .ref cg])) := by rw [eM37]; exact mm_uk hR hX (by simp)
          have hR_37 : M37 rs = some (.inl (dA 0, 41, .inl (upd (F 9) (cN t) ((((F 9) (cN t)) + 1))))) := by rw [eM37]; exact mm_us
          have ea : (1 : Int32) = rs_ag t k F := by simp only [rs_ag, eq_true hc3, eq_false c4, eq_true hc7, eq_false c11, eq_false c21, eq_false c31, eq_false c41, not_true_eq_false, not_false_eq_true, and_true, true_and, and_false, false_and, and_self, or_true, true_or, or_false, false_or, or_self, ↓reduceIte]
          exact J M37 _ _ ls hw (by rw [eM37]; exact kt_up hR (by simp [tg])) (by rw [← ea]; exact hR_37) (by rw [← ea]; exact lv_sub hl [0, 1, 2, 3] rfl)
    · refine lv_if_ne (tgt := 17) S.1 S.2.1 d_AR_restart_11 (by decide) (fun c11 => absurd c11 (by decide)) (fun c11 => ?_)
      refine lv_bipush (v := (-4)) S.1 S.2.1 d_AR_restart_14 (by decide) ?_
      exact mm_reti S.1 S.2.1 hr hlocks hA hQ hw (cs_same hC (show sp_restart t k I F st = ((-4), upd I 0 0, F, st) by simp only [sp_restart, eq_true hc3, eq_false c4, eq_false hc7, eq_true c11, not_true_eq_false, not_false_eq_true, and_true, true_and, and_false, false_and, and_self, or_true, true_or, or_false, false_or, or_self, ↓reduceIte])) (Nat.le_of_ble_eq_true rfl) (Nat.le_of_ble_eq_true rfl) d_AR_restart_16
  · refine lv_if_eq (tgt := 14) S.1 S.2.1 d_AR_restart_4 (by decide) (fun c4 => ?_) (fun c4 => absurd c4 (by decide))
    refine lv_bipush (v := (-4)) S.1 S.2.1 d_AR_restart_14 (by decide) ?_
    exact mm_reti S.1 S.2.1 hr hlocks hA hQ hw (cs_same hC (show sp_restart t k I F st = ((-4), upd I 0 0, F, st) by simp only [sp_restart, eq_false hc3, eq_true c4, not_true_eq_false, not_false_eq_true, and_true, true_and, and_false, false_and, and_self, or_true, true_or, or_false, false_or, or_self, ↓reduceIte])) (Nat.le_of_ble_eq_true rfl) (Nat.le_of_ble_eq_true rfl) d_AR_restart_16
end
section
/-! the search, its pure part -/
def ab_J (F F' : sF) : Prop := ∀ k, k ≠ 5 → k ≠ 7 → F' k = F k
theorem ab_Js {F F' : sF} {na e a l : Nat} (h : ab_J F F') : ab_J F (ab_F2 F' na e a l) := fun k h5 h7 => by
  show va_up (va_up F' 5 _) 7 _ k = _
  rw [va_up_ne _ _ h7, va_up_ne _ _ h5]
  exact h k h5 h7
theorem ab_JI {F F' : sF} (h : ab_J F F') : ab_I F F' := ⟨h 0 (by decide) (by decide), h 1 (by decide) (by decide), h 2 (by decide) (by decide), h 3 (by decide) (by decide), h 4 (by decide) (by decide), h 6 (by decide) (by decide), h 8 (by decide) (by decide)⟩
/-- which exits have retried: as before, or some more -/
def ab_7 (F F' : sF) (ne : Nat) : Prop := ∀ k, F' 7 k = F 7 k ∨ (F' 7 k = 1 ∧ 1 ≤ k ∧ k ≤ ne)
theorem en_7 {F : sF} {x a l : Nat} : (en_of F x a l).2 = F 7 ∨ (en_of F x a l).2 = upd (F 7) x 1 := by
  unfold en_of
  repeat' split
  all_goals first | exact Or.inl rfl | exact Or.inr rfl
theorem ab_7s {F F' : sF} {na e a l ne : Nat} (h : ab_7 F F' ne) (h1 : 1 ≤ e) (h2 : e ≤ ne) : ab_7 F (ab_F2 F' na e a l) ne := fun k => by
  show va_up (ab_F1 F' na e) 7 (en_of (ab_F1 F' na e) e a l).2 7 k = F 7 k ∨ _
  rw [show ab_F2 F' na e a l 7 = (en_of (ab_F1 F' na e) e a l).2 from rfl, va_up_self]
  rcases en_7 (F := ab_F1 F' na e) (x := e) (a := a) (l := l) with q | q
  · rw [q]; exact h k
  · rw [q]
    by_cases hk : k = e
    · subst hk; rw [pk_us]; exact Or.inr ⟨rfl, h1, h2⟩
    · rw [pk_un hk]; exact h k
section ABP
variable {F : sF} {n ne l : Nat}
theorem ab_rG (hwf : lv_wf2 F n ne) (hn : n ≤ 100) (hne : ne ≤ 300) (hl : l ≤ n) {a j : Nat} (ha1 : 1 ≤ a) (han : a ≤ n) (haj : a = ab_n F l j) (hj : j + a ≤ l) : ∀ (k na : Nat) (F' : sF) (cc : Nat), k ≤ cN (F 2 a) → ab_J F F' → ab_7 F F' ne → 1 ≤ cc → cc ≤ 9999 → ab_J F (ab_r l a k na F' cc).2.2.1 ∧ ab_7 F (ab_r l a k na F' cc).2.2.1 ne ∧ 1 ≤ (ab_r l a k na F' cc).2.2.2 ∧ (ab_r l a k na F' cc).2.2.2 ≤ 9999 ∧ (ab_r l a k na F' cc).2.1 ≤ na + k ∧ ((ab_r l a k na F' cc).1 = 0 ∨ ∃ jj, jj ≤ 100 ∧ (ab_r l a k na F' cc).1 = nI (ab_n F l jj)) := by
  intro k
  induction k with
  | zero =>
    intro na F' cc _ hJ h7 h1 h2
    exact ⟨hJ, h7, h1, h2, Nat.le_refl _, Or.inl rfl⟩
  | succ k ih =>
    intro na F' cc hk hJ h7 h1 h2
    obtain ⟨z, hz, hz10, hr⟩ := hwf.2.2 a ha1 han
    rw [cN_I hz (by omega)] at hk
    obtain ⟨e, he, he1, he2⟩ := hr k (by omega)
    obtain ⟨pa, hpe, hpa, -⟩ := hwf.2.1 a ha1 han
    have he' : F' 3 (10 * a + k) = nI e := by rw [hJ 3 (by decide) (by decide)]; exact he
    rw [ab_r_s he' (by omega)]
    have hc := ab_cr (F := F') (e := e) ⟨h1, h2⟩
    by_cases h0 : (en_of (ab_F1 F' na e) e a l).1 = 0
    · rw [if_pos h0]
      obtain ⟨a1, a2, a3, a4, a5, a6⟩ := ih (na + 1) (ab_F2 F' na e a l) (ab_c F' e cc) (by rw [cN_I hz (by omega)]; omega) (ab_Js hJ) (ab_7s h7 he1 he2) hc.1 hc.2
      exact ⟨a1, a2, a3, a4, by omega, a6⟩
    · rw [if_neg h0]
      refine ⟨ab_Js hJ, ab_7s h7 he1 he2, hc.1, hc.2, by show na + 1 ≤ _; omega, Or.inr ?_⟩
      show ∃ jj, jj ≤ 100 ∧ (en_of (ab_F1 F' na e) e a l).1 = nI (ab_n F l jj)
      rcases en_at h0 with q | q | q
      · exact ⟨j, by omega, by rw [q, haj]⟩
      · exact ⟨0, by omega, q⟩
      · refine ⟨j + 1, by omega, ?_⟩
        rw [q, ab_n, ← haj, show (ab_F1 F' na e) 0 a = F 0 a from congrFun (hJ 0 (by decide) (by decide)) a, hpe, cN_I rfl (by omega)]
theorem ab_uG (hwf : lv_wf2 F n ne) (hn : n ≤ 100) (hne : ne ≤ 300) (hl : l ≤ n) : ∀ (f a na : Nat) (F' : sF) (cc j : Nat), a < f → a ≤ n → a = ab_n F l j → j + a ≤ l → na + 10 * cN (F 1 a) ≤ 200 → ab_J F F' → ab_7 F F' ne → 1 ≤ cc → cc ≤ 9999 → ab_J F (ab_u l f a na F' cc).2.2.1 ∧ ab_7 F (ab_u l f a na F' cc).2.2.1 ne ∧ 1 ≤ (ab_u l f a na F' cc).2.2.2 ∧ (ab_u l f a na F' cc).2.2.2 ≤ 9999 ∧ (ab_u l f a na F' cc).2.1 ≤ 200 ∧ ∃ jj, jj ≤ 100 ∧ (ab_u l f a na F' cc).1 = nI (ab_n F l jj) := by
  intro f
  induction f with
  | zero => intro a na F' cc j h; omega
  | succ f ih =>
    intro a na F' cc j haf han haj hja hna hJ h7 h1 h2
    by_cases ha0 : a = 0
    · rw [ab_u, if_pos ha0]
      exact ⟨hJ, h7, h1, h2, by show na ≤ 200; omega, j, by omega, by rw [← haj, ha0]; rfl⟩
    · rw [ab_u_s ha0, hJ 0 (by decide) (by decide), hJ 2 (by decide) (by decide)]
      obtain ⟨pa, hpe, hpa, hpd, hp20⟩ := hwf.2.1 a (by omega) han
      obtain ⟨z, hz, hz10, -⟩ := hwf.2.2 a (by omega) han
      have hpc : cN (F 0 a) = pa := cN_I hpe (by omega)
      have hzc : cN (F 2 a) = z := cN_I hz (by omega)
      obtain ⟨a1, a2, a3, a4, a5, a6⟩ := ab_rG hwf hn hne hl (by omega) han haj hja (cN (F 2 a)) na F' cc (Nat.le_refl _) hJ h7 h1 h2
      unfold ab_k
      by_cases h0 : (ab_r l a (cN (F 2 a)) na F' cc).1 = 0
      · rw [if_pos h0, hpc]
        exact ih pa _ _ _ (j + 1) (by omega) (by omega) (by rw [ab_n, ← haj, hpc]) (by omega) (by omega) a1 a2 a3 a4
      · rw [if_neg h0]
        exact ⟨a1, a2, a3, a4, by omega, a6.resolve_left h0⟩
/-- the whole search, from its start -/
theorem ab_ok (hwf : lv_wf2 F n ne) (hn : n ≤ 100) (hne : ne ≤ 300) (hl1 : 1 ≤ l) (hl : l ≤ n) {cc : Nat} (h1 : 1 ≤ cc) (h2 : cc ≤ 9999) : ab_J F (ab_u l 101 l 0 F cc).2.2.1 ∧ ab_7 F (ab_u l 101 l 0 F cc).2.2.1 ne ∧ 1 ≤ (ab_u l 101 l 0 F cc).2.2.2 ∧ (ab_u l 101 l 0 F cc).2.2.2 ≤ 9999 ∧ (ab_u l 101 l 0 F cc).2.1 ≤ 200 ∧ ∃ jj, jj ≤ 100 ∧ (ab_u l 101 l 0 F cc).1 = nI (ab_n F l jj) := by
  obtain ⟨_, _, _, _, h20⟩ := hwf.2.1 l hl1 hl
  exact ab_uG hwf hn hne hl 101 l 0 F cc 0 (by omega) hl rfl (by omega) (by omega) (fun _ _ _ => rfl) (fun _ => Or.inl rfl) h1 h2
end ABP
theorem ab_zv {en : Int32} {F : sF} : ∀ (f a : Nat) (z : Nat → Int32) (i : Nat), ab_z en F f a z i = z i ∨ ab_z en F f a z i = 0
  | 0, _, _, _ => Or.inl rfl
  | f + 1, a, z, i => by
    rw [ab_z]
    by_cases h : nI a = en
    · rw [if_pos h]; exact Or.inl rfl
    · rw [if_neg h]
      rcases ab_zv f (cN (F 0 a)) (upd z a 0) i with q | q
      · rw [q]
        by_cases hi : i = a
        · subst hi; rw [pk_us]; exact Or.inr rfl
        · rw [pk_un hi]; exact Or.inl rfl
      · exact Or.inr q
/-- the memory within a search -/
def sQm (dA : Nat → ClassId) (M : mm_M) (sr ak : Nat) (la ea : Nat → Nat) (er : Nat → Option Nat) (n ne : Nat) (na cc : Nat) (F : sF) : Prop := (∃ fA : Nat → Int32, M ak = some (aI (dA 0) 200 fA) ∧ ∀ j, j < na → fA j = F 5 j) ∧ M sr = some (.inr (1, [.ref ak, .int (nI na), .int (nI cc)])) ∧ (∀ a, 1 ≤ a → a ≤ n → M (la a) = some (oL la ea F a)) ∧ ∀ k, 1 ≤ k → k ≤ ne → M (ea k) = some (oE er F k)
theorem mi_c : Cond.code Lib.Math.min.name Lib.Math.min.code 2 (some .int) ∈ gt_l := gt_in (i := 208) rfl rfl
/-- a row's exit by its place from the bottom -/
def chp (ea : Nat → Nat) (F : sF) (a k : Nat) : Option Nat := if k = 0 then none else some (ea (cN (F 3 (10 * a + (k - 1)))))
theorem oE_ne {er : Nat → Option Nat} {F F' : sF} {a b : Nat} (ha : a < 2 ^ 31) (hb : b < 2 ^ 31) (h : a ≠ b) : oE er F a ≠ oE er F' b := fun q => by
  have h1 := congrArg (fun z : va_E => match z with | .inr (_, .int v :: _) => v | _ => 0) q
  exact h ((nI_eq ha hb).mp h1)
theorem mn_min {a : Nat} (h : a < 2 ^ 30) : (if (9999 : Int32) < nI a then 9999 else nI a) = nI (if a ≤ 9999 then a else 9999) := by
  have e9 : (9999 : Int32) = nI 9999 := rfl
  rw [e9]
  by_cases q : a ≤ 9999
  · rw [if_pos q, if_neg (nI_nlt (b := 9999) (a := 9999) (Nat.le_refl _) (by decide) |> fun _ => fun r => absurd ((nI_ltI (a := 9999) (b := a) (by decide) (by omega)).mp r) (by omega))]
  · rw [if_neg q, if_pos ((nI_ltI (a := 9999) (b := a) (by decide) (by omega)).mpr (by omega))]
theorem en_F1 {F : sF} {na e x a l : Nat} : en_of (ab_F1 F na e) x a l = en_of F x a l := rfl
/-- a step of the search in the memory: the exit's own mark is set, or not -/
theorem sQ_step {dA : Nat → ClassId} {M M' : mm_M} {sr ak : Nat} {la ea : Nat → Nat} {er : Nat → Option Nat} {n ne na cc cc' e a l : Nat} {F : sF} {fA : Nat → Int32} (hne : ne ≤ 300) (he1 : 1 ≤ e) (hen : e ≤ ne) (h3 : ∀ a, 1 ≤ a → a ≤ n → M (la a) = some (oL la ea F a)) (h4 : ∀ k, 1 ≤ k → k ≤ ne → M (ea k) = some (oE er F k)) (h2 : ∀ j, j < na → fA j = F 5 j)
    (k9 : kt M M' [1, 1200, 6]) (hak : M' ak = some (aI (dA 0) 200 (upd fA na (nI e)))) (hsr : M' sr = some (.inr (1, [.ref ak, .int (nI (na + 1)), .int (nI cc')]))) (hoth : ∀ k, 1 ≤ k → k ≤ ne → k ≠ e → M' (ea k) = some (oE er F k)) (hme : M' (ea e) = some (.inr (6, [.int (nI e), .int (F 4 e), .int (F 6 e), va_rf (er e), .int ((en_of (ab_F1 F na e) e a l).2 e)]))) (hcc : cc' = ab_c F e cc) : sQm dA M' sr ak la ea er n ne (na + 1) (ab_c F e cc) (ab_F2 F na e a l) := by
  subst hcc
  have f5 : ab_F2 F na e a l 5 = upd (F 5) na (nI e) := rfl
  have f7 : ab_F2 F na e a l 7 = (en_of (ab_F1 F na e) e a l).2 := rfl
  refine ⟨⟨_, hak, fun j hj => ?_⟩, hsr, fun b p q => k9 _ _ (h3 b p q) (by simp [tg]), fun k p q => ?_⟩
  · rw [f5]
    by_cases h : j = na
    · subst h; rw [pk_us, pk_us]
    · rw [pk_un h, pk_un h]; exact h2 j (by omega)
  · show M' (ea k) = some (Sum.inr (6, [Value.int (nI k), .int (F 4 k), .int (F 6 k), va_rf (er k), .int (ab_F2 F na e a l 7 k)]))
    rw [f7]
    by_cases h : k = e
    · subst h; exact hme
    · rw [hoth k p q h]
      have e7 : (en_of (ab_F1 F na e) e a l).2 k = F 7 k := by
        rcases en_7 (F := ab_F1 F na e) (x := e) (a := a) (l := l) with r | r
        · rw [r]; rfl
        · rw [r, pk_un h]; rfl
      rw [e7]
theorem lk_p {la : Nat → Nat} {a : Nat} (h1 : 1 ≤ a) (h2 : a < 2 ^ 31) : lk la (nI a) = some (la a) := by rw [lk, if_neg (nI_ne0 h1 h2), cN_I rfl h2]
theorem lk_0 {la : Nat → Nat} : lk la 0 = none := rfl
theorem ab_n0 {F : sF} {l i : Nat} (h0 : F 0 0 = 0) (h : ab_n F l i = 0) : ∀ m, ab_n F l (i + m) = 0
  | 0 => h
  | m + 1 => by
    show cN (F 0 (ab_n F l (i + m))) = 0
    rw [ab_n0 h0 h m, h0]
    rfl

theorem d_SE_note_0 : decode b_SE_note 0 = .ok (.aload_n 0, 1) := by decide +kernel
theorem d_SE_note_1 : decode b_SE_note 1 = .ok (.getfield 15, 3) := by decide +kernel
theorem d_SE_note_4 : decode b_SE_note 4 = .ok (.aload_n 0, 1) := by decide +kernel
theorem d_SE_note_5 : decode b_SE_note 5 = .ok (.getfield 9, 3) := by decide +kernel
theorem d_SE_note_8 : decode b_SE_note 8 = .ok (.arraylength, 1) := by decide +kernel
theorem d_SE_note_9 : decode b_SE_note 9 = .ok (.if_icmp .ge 23, 3) := by decide +kernel
theorem d_SE_note_12 : decode b_SE_note 12 = .ok (.aload_n 0, 1) := by decide +kernel
theorem d_SE_note_13 : decode b_SE_note 13 = .ok (.getfield 9, 3) := by decide +kernel
theorem d_SE_note_16 : decode b_SE_note 16 = .ok (.aload_n 0, 1) := by decide +kernel
theorem d_SE_note_17 : decode b_SE_note 17 = .ok (.getfield 15, 3) := by decide +kernel
theorem d_SE_note_20 : decode b_SE_note 20 = .ok (.iload_n 1, 1) := by decide +kernel
theorem d_SE_note_21 : decode b_SE_note 21 = .ok (.iastore, 1) := by decide +kernel
theorem d_SE_note_22 : decode b_SE_note 22 = .ok (.aload_n 0, 1) := by decide +kernel
theorem d_SE_note_23 : decode b_SE_note 23 = .ok (.dup, 1) := by decide +kernel
theorem d_SE_note_24 : decode b_SE_note 24 = .ok (.getfield 15, 3) := by decide +kernel
theorem d_SE_note_27 : decode b_SE_note 27 = .ok (.iconst 1, 1) := by decide +kernel
theorem d_SE_note_28 : decode b_SE_note 28 = .ok (.iadd, 1) := by decide +kernel
theorem d_SE_note_29 : decode b_SE_note 29 = .ok (.putfield 15, 3) := by decide +kernel
theorem d_SE_note_32 : decode b_SE_note 32 = .ok (.return_, 1) := by decide +kernel
set_option maxHeartbeats 4000000 in
set_option maxRecDepth 100000 in
theorem c_SE_note (l : Launch) (D : va_G) (dA : Nat → ClassId) (M : mm_M) (sr ak na : Nat) (fA : Nat → Int32) (sc v : Int32) (hna : na < 200) (hsr : M sr = some (.inr (1, [.ref ak, .int (nI na), .int sc]))) (hak : M ak = some (aI (dA 0) 200 fA)) : mm_Cv l y_SE_note w_SE_note ({ frames := 0, cells := 0, slots := 0, locals := 0 }) 0 0 D vC (tyL dA) [.ref sr, .int v] M (fun M' => M' = mm_up (mm_up M ak (aI (dA 0) 200 (upd fA na v))) sr (.inr (1, [.ref ak, .int (nI (na + 1)), .int sc]))) := by
  intro sz
  refine mm_start (by decide) (Nat.le_of_ble_eq_true rfl) ?_
  intro p e s m below meth c A Q ls hA hQ S hr hlocks hin hK hw hl
  have hl : lv_has ls 2 [(0, .ref sr), (1, .int v)] := hl
  refine lv_aload_n S.1 S.2.1 d_SE_note_0 rfl (lv_at hl 0 rfl) ?_
  refine mm_get (C := R_SE) (T := T_SE) (N := 3) S hK.1 hw hsr rfl in_SE 1 (by decide) gw_36 rfl rfl d_SE_note_1 ?_
  refine lv_aload_n S.1 S.2.1 d_SE_note_4 rfl (lv_at hl 0 rfl) ?_
  refine mm_get (C := R_SE) (T := T_SE) (N := 3) S hK.1 hw hsr rfl in_SE 0 (by decide) gw_35 rfl rfl d_SE_note_5 ?_
  refine mm_alen (v := 200) S hK.1 hw 0 hak rfl rfl d_SE_note_8 ?_
  refine lv_icmp_ge (tgt := 32) S.1 S.2.1 d_SE_note_9 (by decide) (fun c9 => absurd c9 (nI_ge (b := 200) hna (by decide))) (fun c9 => ?_)
  refine lv_aload_n S.1 S.2.1 d_SE_note_12 rfl (lv_at hl 0 rfl) ?_
  refine mm_get (C := R_SE) (T := T_SE) (N := 3) S hK.1 hw hsr rfl in_SE 0 (by decide) gw_35 rfl rfl d_SE_note_13 ?_
  refine lv_aload_n S.1 S.2.1 d_SE_note_16 rfl (lv_at hl 0 rfl) ?_
  refine mm_get (C := R_SE) (T := T_SE) (N := 3) S hK.1 hw hsr rfl in_SE 1 (by decide) gw_36 rfl rfl d_SE_note_17 ?_
  refine lv_iload_n S.1 S.2.1 d_SE_note_20 rfl (lv_at hl 1 rfl) ?_
  refine mn_iast (j := na) S hK.1 hw 0 hak rfl (rfl) (by omega) (by decide) d_SE_note_21 (fun H locs hw => ?_)
  obtain ⟨M1, eM1⟩ : ∃ zM : mm_M, zM = mm_up M ak (.inl (dA 0, 200, .inl (upd (fA) (na) (v)))) := ⟨_, rfl⟩
  have hw : mm_w D vC _ _ (mm_up M ak (.inl (dA 0, 200, .inl (upd (fA) (na) (v))))) H _ := hw
  rw [← eM1] at hw
  have hsr_1 : M1 sr = some (.inr (1, [.ref ak, .int (nI na), .int sc])) := by rw [eM1]; exact mm_uk hak hsr (by simp)
  have hak_1 : M1 ak = some (.inl (dA 0, 200, .inl (upd (fA) (na) (v)))) := by rw [eM1]; exact mm_us
  refine lv_aload_n S.1 S.2.1 d_SE_note_22 rfl (lv_at hl 0 rfl) ?_
  refine lv_dup S.1 S.2.1 d_SE_note_23 rfl ?_
  refine mm_get (C := R_SE) (T := T_SE) (N := 3) S hK.1 hw hsr_1 rfl in_SE 1 (by decide) gw_36 rfl rfl d_SE_note_24 ?_
  refine lv_iconst (v := 1) S.1 S.2.1 d_SE_note_27 (by decide) ?_
  refine lv_iadd S.1 S.2.1 d_SE_note_28 ?_
  refine mm_put (C := R_SE) (T := T_SE) (N := 3) (ty := .int) (v := .int ((nI na) + 1)) S hK.1 hw hsr_1 rfl in_SE t_SE k_SE n_SE 1 (by decide) gw_36 rfl rfl (by decide +kernel) (rfl) (rfl) (Nat.le_of_ble_eq_true rfl) d_SE_note_29 (fun H locs hw => ?_)
  obtain ⟨M2, eM2⟩ : ∃ zM : mm_M, zM = mm_up M1 sr (.inr (1, [.ref ak, .int ((nI na) + 1), .int sc])) := ⟨_, rfl⟩
  have hw : mm_w D vC _ _ (mm_up M1 sr (.inr (1, [.ref ak, .int ((nI na) + 1), .int sc]))) H _ := hw
  rw [← eM2] at hw
  have hak_2 : M2 ak = some (.inl (dA 0, 200, .inl (upd (fA) (na) (v)))) := by rw [eM2]; exact mm_uk hsr_1 hak_1 (by simp)
  have hsr_2 : M2 sr = some (.inr (1, [.ref ak, .int ((nI na) + 1), .int sc])) := by rw [eM2]; exact mm_us
  exact mm_retv S.1 S.2.1 hr hlocks hA hQ hw (by rw [eM2, eM1, ← nI_1]) (Nat.le_of_ble_eq_true rfl) (Nat.le_of_ble_eq_true rfl) d_SE_note_32
theorem d_SE_ask_0 : decode b_SE_ask 0 = .ok (.aload_n 0, 1) := by decide +kernel
theorem d_SE_ask_1 : decode b_SE_ask 1 = .ok (.aload_n 1, 1) := by decide +kernel
theorem d_SE_ask_2 : decode b_SE_ask 2 = .ok (.getfield 41, 3) := by decide +kernel
theorem d_SE_ask_5 : decode b_SE_ask 5 = .ok (.invokevirtual 44, 3) := by decide +kernel
theorem d_SE_ask_8 : decode b_SE_ask 8 = .ok (.aload_n 1, 1) := by decide +kernel
theorem d_SE_ask_9 : decode b_SE_ask 9 = .ok (.getfield 48, 3) := by decide +kernel
theorem d_SE_ask_12 : decode b_SE_ask 12 = .ok (.ifCond .eq 22, 3) := by decide +kernel
theorem d_SE_ask_15 : decode b_SE_ask 15 = .ok (.aload_n 0, 1) := by decide +kernel
theorem d_SE_ask_16 : decode b_SE_ask 16 = .ok (.aload_n 0, 1) := by decide +kernel
theorem d_SE_ask_17 : decode b_SE_ask 17 = .ok (.getfield 19, 3) := by decide +kernel
theorem d_SE_ask_20 : decode b_SE_ask 20 = .ok (.bipush 100, 2) := by decide +kernel
theorem d_SE_ask_22 : decode b_SE_ask 22 = .ok (.iadd, 1) := by decide +kernel
theorem d_SE_ask_23 : decode b_SE_ask 23 = .ok (.sipush 9999, 3) := by decide +kernel
theorem d_SE_ask_26 : decode b_SE_ask 26 = .ok (.invokestatic 52, 3) := by decide +kernel
theorem d_SE_ask_29 : decode b_SE_ask 29 = .ok (.putfield 19, 3) := by decide +kernel
theorem d_SE_ask_32 : decode b_SE_ask 32 = .ok (.aconst_null, 1) := by decide +kernel
theorem d_SE_ask_33 : decode b_SE_ask 33 = .ok (.areturn, 1) := by decide +kernel
theorem d_SE_ask_34 : decode b_SE_ask 34 = .ok (.aload_n 1, 1) := by decide +kernel
theorem d_SE_ask_35 : decode b_SE_ask 35 = .ok (.getfield 58, 3) := by decide +kernel
theorem d_SE_ask_38 : decode b_SE_ask 38 = .ok (.tableswitch 46 1 3 #[26, 28, 41], 26) := by decide +kernel
theorem d_SE_ask_64 : decode b_SE_ask 64 = .ok (.aload_n 2, 1) := by decide +kernel
theorem d_SE_ask_65 : decode b_SE_ask 65 = .ok (.areturn, 1) := by decide +kernel
theorem d_SE_ask_66 : decode b_SE_ask 66 = .ok (.aload_n 1, 1) := by decide +kernel
theorem d_SE_ask_67 : decode b_SE_ask 67 = .ok (.invokestatic 61, 3) := by decide +kernel
theorem d_SE_ask_70 : decode b_SE_ask 70 = .ok (.ifCond .eq 7, 3) := by decide +kernel
theorem d_SE_ask_73 : decode b_SE_ask 73 = .ok (.aload_n 3, 1) := by decide +kernel
theorem d_SE_ask_74 : decode b_SE_ask 74 = .ok (.goto 4, 3) := by decide +kernel
theorem d_SE_ask_77 : decode b_SE_ask 77 = .ok (.aconst_null, 1) := by decide +kernel
theorem d_SE_ask_78 : decode b_SE_ask 78 = .ok (.areturn, 1) := by decide +kernel
theorem d_SE_ask_79 : decode b_SE_ask 79 = .ok (.aload_n 2, 1) := by decide +kernel
theorem d_SE_ask_80 : decode b_SE_ask 80 = .ok (.getfield 37, 3) := by decide +kernel
theorem d_SE_ask_83 : decode b_SE_ask 83 = .ok (.areturn, 1) := by decide +kernel
theorem d_SE_ask_84 : decode b_SE_ask 84 = .ok (.aconst_null, 1) := by decide +kernel
theorem d_SE_ask_85 : decode b_SE_ask 85 = .ok (.areturn, 1) := by decide +kernel
set_option maxHeartbeats 4000000 in
set_option maxRecDepth 100000 in
theorem c_SE_ask (l : Launch) (D : va_G) (dA : Nat → ClassId) (M : mm_M) (sr ak : Nat) (la ea : Nat → Nat) (er : Nat → Option Nat) (n ne na cc e0 a lv0 : Nat) (F : sF) (hN : n ≤ 100) (hNE : ne ≤ 300) (hna : na < 200) (hcc : cc ≤ 9999) (he1 : 1 ≤ e0) (hen : e0 ≤ ne) (ha1 : 1 ≤ a) (han : a ≤ n) (hv1 : 1 ≤ lv0) (hvn : lv0 ≤ n) (hf7 : F 7 e0 = 0 ∨ F 7 e0 = 1) (hq : sQm dA M sr ak la ea er n ne na cc F) : mm_Cq l y_SE_ask w_SE_ask ({ frames := 1, cells := 0, slots := 0, locals := 21 }) 0 0 D vC (tyL dA) [.ref sr, .ref (ea e0), .ref (la a), .ref (la lv0)] M (fun r M' => r = lk la (en_of (ab_F1 F na e0) e0 a lv0).1 ∧ sQm dA M' sr ak la ea er n ne (na + 1) (ab_c F e0 cc) (ab_F2 F na e0 a lv0) ∧ kt M M' [1, 1200, 6]) := by
  intro sz
  refine mm_start (by decide) (Nat.le_of_ble_eq_true rfl) ?_
  intro p e s m below meth c A Q ls hA hQ S hr hlocks hin hK hw hl
  have hl : lv_has ls 4 [(0, .ref sr), (1, .ref (ea e0)), (2, .ref (la a)), (3, .ref (la lv0))] := hl
  obtain ⟨⟨fA, hak, hfa⟩, hsr, hla, hea⟩ := hq
  have hee : M (ea e0) = some (oE er F e0) := hea e0 he1 hen
  have hlla : M (la a) = some (oL la ea F a) := hla a ha1 han
  refine lv_aload_n S.1 S.2.1 d_SE_ask_0 rfl (lv_at hl 0 rfl) ?_
  refine lv_aload_n S.1 S.2.1 d_SE_ask_1 rfl (lv_at hl 1 rfl) ?_
  refine mm_get (C := R_EX) (T := T_EX) (N := 5) S hK.1 hw hee rfl in_EX 0 (by decide) gw_167 rfl rfl d_SE_ask_2 ?_
  refine mm_callv hw (mm_runV (a := sr) (As := [.int (nI e0)]) (rest := []) S hK hw (c_SE_note l D dA _ sr ak na fA (nI cc) (nI e0) hna hsr hak _) bv_SE_note gw_202 hsr rfl (⟨rfl, rfl, by decide, by decide, by decide, by decide⟩) hl.1 rfl rfl (Nat.le_of_ble_eq_true rfl) d_SE_ask_5) (fun M2 H locs hp hw => ?_)
  have hsr_3 : M2 sr = some (.inr (1, [.ref ak, .int (nI (na + 1)), .int (nI cc)])) := by rw [hp]; exact mm_us
  have hak_3 : M2 ak = some (.inl (dA 0, 200, .inl (upd (fA) (na) (nI e0)))) := by rw [hp]; exact mm_uk (mm_uk hak hsr (by simp)) mm_us (by simp)
  have hee_3 : M2 (ea e0) = some (.inr (6, [.int (nI e0), .int (F 4 e0), .int (F 6 e0), va_rf (er e0), .int (F 7 e0)])) := by rw [hp]; exact mm_uk (mm_uk hak hsr (by simp)) (mm_uk hak hee (by simp)) (by simp)
  have hlla_3 : M2 (la a) = some (.inr (5, [.int (nI a), va_rf (lk la (F 0 a)), .int (F 1 a), va_rf (tpf ea F a), .int (F 2 a)])) := by rw [hp]; exact mm_uk (mm_uk hak hsr (by simp)) (mm_uk hak hlla (by simp)) (by simp)
  have kM2 : kt M M2 [1200, 1] := by rw [hp]; exact kt_tr (kt_up hak (by simp [tg])) (kt_up (mm_uk hak hsr (by simp)) (by simp [tg]))
  refine lv_aload_n S.1 S.2.1 d_SE_ask_8 rfl (lv_at hl 1 rfl) ?_
  refine mm_get (C := R_EX) (T := T_EX) (N := 5) S hK.1 hw hee_3 rfl in_EX 2 (by decide) gw_171 rfl rfl d_SE_ask_9 ?_
  refine lv_if_eq (tgt := 34) S.1 S.2.1 d_SE_ask_12 (by decide) (fun c12 => ?_) (fun c12 => ?_)
  · refine lv_aload_n S.1 S.2.1 d_SE_ask_34 rfl (lv_at hl 1 rfl) ?_
    refine mm_get (C := R_EX) (T := T_EX) (N := 5) S hK.1 hw hee_3 rfl in_EX 1 (by decide) gw_169 rfl rfl d_SE_ask_35 ?_
    by_cases k38_1 : (F 4 e0) = 1
    · refine lv_tableIn (off := 26) (tgt := 64) S.1 S.2.1 d_SE_ask_38 (by rw [k38_1]; decide) (by rw [k38_1]; decide) (by rw [k38_1]; rfl) (by decide) ?_
      refine lv_aload_n S.1 S.2.1 d_SE_ask_64 rfl (lv_at hl 2 rfl) ?_
      have h9 : en_of F e0 a lv0 = (nI a, F 7) := by simp only [en_of, eq_true c12, eq_true k38_1, not_true_eq_false, not_false_eq_true, and_true, true_and, and_false, false_and, and_self, or_true, true_or, or_false, false_or, or_self, ↓reduceIte]
      have hk9 : kt M M2 [1, 1200, 6] := (kt_tr kt_rf (kt_mo kM2 (by decide)))
      have hk8 : kt M M2 [1, 1200] := (kt_tr kt_rf (kt_mo kM2 (by decide)))
      have hoth : ∀ k, 1 ≤ k → k ≤ ne → k ≠ e0 → M2 (ea k) = some (oE er F k) := fun k p q _ => hk8 _ _ (hea k p q) (by simp [tg])
      have hq9 := sQ_step (cc := cc) (a := a) (l := lv0) hNE he1 hen hla hea hfa hk9 hak_3 hsr_3 hoth (by rw [en_F1, h9]; exact hee_3) (by rw [ab_c, if_pos c12])
      exact mm_retq (v := some (la a)) S.1 S.2.1 hr hlocks hA hQ hw (⟨by rw [en_F1, h9]; exact (lk_p ha1 (by omega)).symm, hq9, hk9⟩) (Nat.le_of_ble_eq_true rfl) (Nat.le_of_ble_eq_true rfl) d_SE_ask_65
    by_cases k38_2 : (F 4 e0) = 2
    · refine lv_tableIn (off := 28) (tgt := 66) S.1 S.2.1 d_SE_ask_38 (by rw [k38_2]; decide) (by rw [k38_2]; decide) (by rw [k38_2]; rfl) (by decide) ?_
      refine lv_aload_n S.1 S.2.1 d_SE_ask_66 rfl (lv_at hl 1 rfl) ?_
      refine mm_calli hw (mm_runS (As := [.ref (ea e0)]) (rest := []) S hK hw (c_SE_retriesNow l D dA _ (ea e0) (nI e0) (F 4 e0) (F 6 e0) (F 7 e0) (er e0) hf7 hee_3 _) bs_SE_retriesNow gw_209 (⟨rfl, rfl, by decide, by decide, by decide, by decide⟩) hl.1 rfl rfl (Nat.le_of_ble_eq_true rfl) d_SE_ask_67) (fun r4 M5 H locs hp hw => ?_)
      have hmp : M2 (ea e0) = some (oE er F e0) := hee_3
      have hk7 : kt M2 M5 [6] := by rw [hp.1]; exact kt_up hmp (by simp [tg])
      have hsr_6 : M5 sr = some (.inr (1, [.ref ak, .int (nI (na + 1)), .int (nI cc)])) := hk7 _ _ hsr_3 (by simp [tg])
      have hak_6 : M5 ak = some (.inl (dA 0, 200, .inl (upd (fA) (na) (nI e0)))) := hk7 _ _ hak_3 (by simp [tg])
      have hee_6 : M5 (ea e0) = some (.inr (6, [.int (nI e0), .int (F 4 e0), .int (F 6 e0), va_rf (er e0), .int 1])) := by rw [hp.1]; exact mm_us
      have hlla_6 : M5 (la a) = some (.inr (5, [.int (nI a), va_rf (lk la (F 0 a)), .int (F 1 a), va_rf (tpf ea F a), .int (F 2 a)])) := hk7 _ _ hlla_3 (by simp [tg])
      have hoth : ∀ k, 1 ≤ k → k ≤ ne → k ≠ e0 → M5 (ea k) = some (oE er F k) := fun k p q r => by
        rw [hp.1]
        exact mm_uk hmp (kM2 _ _ (hea k p q) (by simp [tg])) (oE_ne (by omega) (by omega) r)
      by_cases h7 : F 7 e0 = 0
      · have hr9 : r4 = 1 := by rw [hp.2, if_pos h7]
        subst hr9
        refine lv_if_eq (tgt := 77) S.1 S.2.1 d_SE_ask_70 (by decide) (fun c70 => absurd c70 (by decide)) (fun c70 => ?_)
        refine lv_aload_n S.1 S.2.1 d_SE_ask_73 rfl (lv_at hl 3 rfl) ?_
        refine lv_goto (tgt := 78) S.1 S.2.1 d_SE_ask_74 (by decide) ?_
        have h9 : en_of F e0 a lv0 = (nI lv0, upd (F 7) e0 1) := by simp only [en_of, eq_true c12, eq_false k38_1, eq_true k38_2, eq_true h7, eq_false c70, not_true_eq_false, not_false_eq_true, and_true, true_and, and_false, false_and, and_self, or_true, true_or, or_false, false_or, or_self, ↓reduceIte]
        have hk9 : kt M M5 [1, 1200, 6] := (kt_tr (kt_tr kt_rf (kt_mo kM2 (by decide))) (kt_mo hk7 (by decide)))
        have hq9 := sQ_step (cc := cc) (a := a) (l := lv0) hNE he1 hen hla hea hfa hk9 hak_6 hsr_6 hoth (by rw [en_F1, h9]; show _ = some (Sum.inr (6, [Value.int (nI e0), .int (F 4 e0), .int (F 6 e0), va_rf (er e0), .int (upd (F 7) e0 1 e0)])); rw [pk_us]; exact hee_6) (by rw [ab_c, if_pos c12])
        exact mm_retq (v := some (la lv0)) S.1 S.2.1 hr hlocks hA hQ hw (⟨by rw [en_F1, h9]; exact (lk_p hv1 (by omega)).symm, hq9, hk9⟩) (Nat.le_of_ble_eq_true rfl) (Nat.le_of_ble_eq_true rfl) d_SE_ask_78
      · have hr9 : r4 = 0 := by rw [hp.2, if_neg h7]
        subst hr9
        refine lv_if_eq (tgt := 77) S.1 S.2.1 d_SE_ask_70 (by decide) (fun c70 => ?_) (fun c70 => absurd c70 (by decide))
        refine lv_null S.1 S.2.1 d_SE_ask_77 ?_
        have h9 : en_of F e0 a lv0 = (0, F 7) := by simp only [en_of, eq_true c12, eq_false k38_1, eq_true k38_2, eq_false h7, eq_true c70, not_true_eq_false, not_false_eq_true, and_true, true_and, and_false, false_and, and_self, or_true, true_or, or_false, false_or, or_self, ↓reduceIte]
        have hk9 : kt M M5 [1, 1200, 6] := (kt_tr (kt_tr kt_rf (kt_mo kM2 (by decide))) (kt_mo hk7 (by decide)))
        have hq9 := sQ_step (cc := cc) (a := a) (l := lv0) hNE he1 hen hla hea hfa hk9 hak_6 hsr_6 hoth (by rw [en_F1, h9]; show _ = some (Sum.inr (6, [Value.int (nI e0), .int (F 4 e0), .int (F 6 e0), va_rf (er e0), .int (F 7 e0)])); rw [hf7.resolve_left h7]; exact hee_6) (by rw [ab_c, if_pos c12])
        exact mm_retq (v := none) S.1 S.2.1 hr hlocks hA hQ hw (⟨by rw [en_F1, h9]; exact lk_0.symm, hq9, hk9⟩) (Nat.le_of_ble_eq_true rfl) (Nat.le_of_ble_eq_true rfl) d_SE_ask_78
    by_cases k38_3 : (F 4 e0) = 3
    · refine lv_tableIn (off := 41) (tgt := 79) S.1 S.2.1 d_SE_ask_38 (by rw [k38_3]; decide) (by rw [k38_3]; decide) (by rw [k38_3]; rfl) (by decide) ?_
      refine lv_aload_n S.1 S.2.1 d_SE_ask_79 rfl (lv_at hl 2 rfl) ?_
      refine mm_get (C := R_LV) (T := T_LV) (N := 5) S hK.1 hw hlla_3 rfl in_LV 1 (by decide) gw_138 rfl rfl d_SE_ask_80 ?_
      have h9 : en_of F e0 a lv0 = (F 0 a, F 7) := by simp only [en_of, eq_true c12, eq_false k38_1, eq_false k38_2, eq_true k38_3, not_true_eq_false, not_false_eq_true, and_true, true_and, and_false, false_and, and_self, or_true, true_or, or_false, false_or, or_self, ↓reduceIte]
      have hk9 : kt M M2 [1, 1200, 6] := (kt_tr kt_rf (kt_mo kM2 (by decide)))
      have hk8 : kt M M2 [1, 1200] := (kt_tr kt_rf (kt_mo kM2 (by decide)))
      have hoth : ∀ k, 1 ≤ k → k ≤ ne → k ≠ e0 → M2 (ea k) = some (oE er F k) := fun k p q _ => hk8 _ _ (hea k p q) (by simp [tg])
      have hq9 := sQ_step (cc := cc) (a := a) (l := lv0) hNE he1 hen hla hea hfa hk9 hak_3 hsr_3 hoth (by rw [en_F1, h9]; exact hee_3) (by rw [ab_c, if_pos c12])
      exact mm_retq (v := (lk la (F 0 a))) S.1 S.2.1 hr hlocks hA hQ hw (⟨by rw [en_F1, h9], hq9, hk9⟩) (Nat.le_of_ble_eq_true rfl) (Nat.le_of_ble_eq_true rfl) d_SE_ask_83
    refine lv_tableOut (tgt := 84) S.1 S.2.1 d_SE_ask_38 (by have t1 : ((F 4 e0)).toInt ≠ 1 := ts_ne k38_1; have t2 : ((F 4 e0)).toInt ≠ 2 := ts_ne k38_2; have t3 : ((F 4 e0)).toInt ≠ 3 := ts_ne k38_3; omega) (by decide) ?_
    refine lv_null S.1 S.2.1 d_SE_ask_84 ?_
    have h9 : en_of F e0 a lv0 = (0, F 7) := by simp only [en_of, eq_true c12, eq_false k38_1, eq_false k38_2, eq_false k38_3, not_true_eq_false, not_false_eq_true, and_true, true_and, and_false, false_and, and_self, or_true, true_or, or_false, false_or, or_self, ↓reduceIte]
    have hk9 : kt M M2 [1, 1200, 6] := (kt_tr kt_rf (kt_mo kM2 (by decide)))
    have hk8 : kt M M2 [1, 1200] := (kt_tr kt_rf (kt_mo kM2 (by decide)))
    have hoth : ∀ k, 1 ≤ k → k ≤ ne → k ≠ e0 → M2 (ea k) = some (oE er F k) := fun k p q _ => hk8 _ _ (hea k p q) (by simp [tg])
    have hq9 := sQ_step (cc := cc) (a := a) (l := lv0) hNE he1 hen hla hea hfa hk9 hak_3 hsr_3 hoth (by rw [en_F1, h9]; exact hee_3) (by rw [ab_c, if_pos c12])
    exact mm_retq (v := none) S.1 S.2.1 hr hlocks hA hQ hw (⟨by rw [en_F1, h9]; exact lk_0.symm, hq9, hk9⟩) (Nat.le_of_ble_eq_true rfl) (Nat.le_of_ble_eq_true rfl) d_SE_ask_85
  · refine lv_aload_n S.1 S.2.1 d_SE_ask_15 rfl (lv_at hl 0 rfl) ?_
    refine lv_aload_n S.1 S.2.1 d_SE_ask_16 rfl (lv_at hl 0 rfl) ?_
    refine mm_get (C := R_SE) (T := T_SE) (N := 3) S hK.1 hw hsr_3 rfl in_SE 2 (by decide) gw_37 rfl rfl d_SE_ask_17 ?_
    refine lv_bipush (v := 100) S.1 S.2.1 d_SE_ask_20 (by decide) ?_
    refine lv_iadd S.1 S.2.1 d_SE_ask_22 ?_
    refine W.eq (g2 := F0 m 23 ls (.int (nI (cc + 100)) :: [.ref sr])) (by rw [show ((nI cc) + 100) = (nI (cc + 100)) from nI_add cc 100]) ?_
    refine lv_sipush (v := 9999) S.1 S.2.1 d_SE_ask_23 (by decide) ?_
    refine va_mmin S.1 S.2.1 (S.2.2.1.trans hl.1.symm) S.2.2.2.1 (S.2.2.2.2 _ gw_206) (S.2.2.2.2 _ gw_207) (S.2.2.2.2 _ gw_16) (S.2.2.2.2 _ mi_c) (Nat.le_of_ble_eq_true rfl) (Nat.le_of_ble_eq_true rfl) (Nat.zero_le _) (Nat.zero_le _) d_SE_ask_26 ?_
    rw [mn_min (a := cc + 100) (by omega)]
    refine mm_put (C := R_SE) (T := T_SE) (N := 3) (ty := .int) (v := .int (nI (if cc + 100 ≤ 9999 then cc + 100 else 9999))) S hK.1 hw hsr_3 rfl in_SE t_SE k_SE n_SE 2 (by decide) gw_37 rfl rfl (by decide +kernel) (rfl) (rfl) (Nat.le_of_ble_eq_true rfl) d_SE_ask_29 (fun H locs hw => ?_)
    obtain ⟨M7, eM7⟩ : ∃ zM : mm_M, zM = mm_up M2 sr (.inr (1, [.ref ak, .int (nI (na + 1)), .int (nI (if cc + 100 ≤ 9999 then cc + 100 else 9999))])) := ⟨_, rfl⟩
    have hw : mm_w D vC _ _ (mm_up M2 sr (.inr (1, [.ref ak, .int (nI (na + 1)), .int (nI (if cc + 100 ≤ 9999 then cc + 100 else 9999))]))) H _ := hw
    rw [← eM7] at hw
    have hak_7 : M7 ak = some (.inl (dA 0, 200, .inl (upd (fA) (na) (nI e0)))) := by rw [eM7]; exact mm_uk hsr_3 hak_3 (by simp)
    have hee_7 : M7 (ea e0) = some (.inr (6, [.int (nI e0), .int (F 4 e0), .int (F 6 e0), va_rf (er e0), .int (F 7 e0)])) := by rw [eM7]; exact mm_uk hsr_3 hee_3 (by simp)
    have hlla_7 : M7 (la a) = some (.inr (5, [.int (nI a), va_rf (lk la (F 0 a)), .int (F 1 a), va_rf (tpf ea F a), .int (F 2 a)])) := by rw [eM7]; exact mm_uk hsr_3 hlla_3 (by simp)
    have hsr_7 : M7 sr = some (.inr (1, [.ref ak, .int (nI (na + 1)), .int (nI (if cc + 100 ≤ 9999 then cc + 100 else 9999))])) := by rw [eM7]; exact mm_us
    have hk6 : kt M2 M7 [1] := by rw [eM7]; exact kt_up hsr_3 (by simp [tg])
    refine lv_null S.1 S.2.1 d_SE_ask_32 ?_
    have h9 : en_of F e0 a lv0 = (0, F 7) := by simp only [en_of, eq_false c12, not_true_eq_false, not_false_eq_true, and_true, true_and, and_false, false_and, and_self, or_true, true_or, or_false, false_or, or_self, ↓reduceIte]
    have hk9 : kt M M7 [1, 1200, 6] := (kt_tr (kt_tr kt_rf (kt_mo kM2 (by decide))) (kt_mo hk6 (by decide)))
    have hk8 : kt M M7 [1, 1200] := (kt_tr (kt_tr kt_rf (kt_mo kM2 (by decide))) (kt_mo hk6 (by decide)))
    have hoth : ∀ k, 1 ≤ k → k ≤ ne → k ≠ e0 → M7 (ea k) = some (oE er F k) := fun k p q _ => hk8 _ _ (hea k p q) (by simp [tg])
    have hq9 := sQ_step (cc := cc) (a := a) (l := lv0) hNE he1 hen hla hea hfa hk9 hak_7 hsr_7 hoth (by rw [en_F1, h9]; exact hee_7) (by rw [ab_c, if_neg c12])
    exact mm_retq (v := none) S.1 S.2.1 hr hlocks hA hQ hw (⟨by rw [en_F1, h9]; exact lk_0.symm, hq9, hk9⟩) (Nat.le_of_ble_eq_true rfl) (Nat.le_of_ble_eq_true rfl) d_SE_ask_33
end
section
theorem lv_null0 {ls : Array Slot} {nL i : Nat} {la : Nat → Nat} {t : List (Nat × Value)} (h : lv_has ls nL ((i, va_rf (lk la (nI 0))) :: t)) : lv_has ls nL ((i, .null) :: t) := h
theorem d_SE_findEnd_0 : decode b_SE_findEnd 0 = .ok (.aload_n 0, 1) := by decide +kernel
theorem d_SE_findEnd_1 : decode b_SE_findEnd 1 = .ok (.iconst 0, 1) := by decide +kernel
theorem d_SE_findEnd_2 : decode b_SE_findEnd 2 = .ok (.putfield 15, 3) := by decide +kernel
theorem d_SE_findEnd_5 : decode b_SE_findEnd 5 = .ok (.aload_n 0, 1) := by decide +kernel
theorem d_SE_findEnd_6 : decode b_SE_findEnd 6 = .ok (.iload_n 2, 1) := by decide +kernel
theorem d_SE_findEnd_7 : decode b_SE_findEnd 7 = .ok (.putfield 19, 3) := by decide +kernel
theorem d_SE_findEnd_10 : decode b_SE_findEnd 10 = .ok (.aload_n 1, 1) := by decide +kernel
theorem d_SE_findEnd_11 : decode b_SE_findEnd 11 = .ok (.astore_n 3, 1) := by decide +kernel
theorem d_SE_findEnd_12 : decode b_SE_findEnd 12 = .ok (.aload_n 3, 1) := by decide +kernel
theorem d_SE_findEnd_13 : decode b_SE_findEnd 13 = .ok (.ifnull 50, 3) := by decide +kernel
theorem d_SE_findEnd_16 : decode b_SE_findEnd 16 = .ok (.aload_n 3, 1) := by decide +kernel
theorem d_SE_findEnd_17 : decode b_SE_findEnd 17 = .ok (.getfield 22, 3) := by decide +kernel
theorem d_SE_findEnd_20 : decode b_SE_findEnd 20 = .ok (.astore 4, 2) := by decide +kernel
theorem d_SE_findEnd_22 : decode b_SE_findEnd 22 = .ok (.aload 4, 2) := by decide +kernel
theorem d_SE_findEnd_24 : decode b_SE_findEnd 24 = .ok (.ifnull 31, 3) := by decide +kernel
theorem d_SE_findEnd_27 : decode b_SE_findEnd 27 = .ok (.aload_n 0, 1) := by decide +kernel
theorem d_SE_findEnd_28 : decode b_SE_findEnd 28 = .ok (.aload 4, 2) := by decide +kernel
theorem d_SE_findEnd_30 : decode b_SE_findEnd 30 = .ok (.aload_n 3, 1) := by decide +kernel
theorem d_SE_findEnd_31 : decode b_SE_findEnd 31 = .ok (.aload_n 1, 1) := by decide +kernel
theorem d_SE_findEnd_32 : decode b_SE_findEnd 32 = .ok (.invokevirtual 28, 3) := by decide +kernel
theorem d_SE_findEnd_35 : decode b_SE_findEnd 35 = .ok (.astore 5, 2) := by decide +kernel
theorem d_SE_findEnd_37 : decode b_SE_findEnd 37 = .ok (.aload 5, 2) := by decide +kernel
theorem d_SE_findEnd_39 : decode b_SE_findEnd 39 = .ok (.ifnull 6, 3) := by decide +kernel
theorem d_SE_findEnd_42 : decode b_SE_findEnd 42 = .ok (.aload 5, 2) := by decide +kernel
theorem d_SE_findEnd_44 : decode b_SE_findEnd 44 = .ok (.areturn, 1) := by decide +kernel
theorem d_SE_findEnd_45 : decode b_SE_findEnd 45 = .ok (.aload 4, 2) := by decide +kernel
theorem d_SE_findEnd_47 : decode b_SE_findEnd 47 = .ok (.getfield 32, 3) := by decide +kernel
theorem d_SE_findEnd_50 : decode b_SE_findEnd 50 = .ok (.astore 4, 2) := by decide +kernel
theorem d_SE_findEnd_52 : decode b_SE_findEnd 52 = .ok (.goto (-30), 3) := by decide +kernel
theorem d_SE_findEnd_55 : decode b_SE_findEnd 55 = .ok (.aload_n 3, 1) := by decide +kernel
theorem d_SE_findEnd_56 : decode b_SE_findEnd 56 = .ok (.getfield 37, 3) := by decide +kernel
theorem d_SE_findEnd_59 : decode b_SE_findEnd 59 = .ok (.astore_n 3, 1) := by decide +kernel
theorem d_SE_findEnd_60 : decode b_SE_findEnd 60 = .ok (.goto (-48), 3) := by decide +kernel
theorem d_SE_findEnd_63 : decode b_SE_findEnd 63 = .ok (.aconst_null, 1) := by decide +kernel
theorem d_SE_findEnd_64 : decode b_SE_findEnd 64 = .ok (.areturn, 1) := by decide +kernel
set_option maxHeartbeats 4000000 in
set_option maxRecDepth 100000 in
theorem c_SE_findEnd (l : Launch) (D : va_G) (dA : Nat → ClassId) (M : mm_M) (sr ak : Nat) (la ea : Nat → Nat) (er : Nat → Option Nat) (n ne lv0 cc0 : Nat) (v sc : Int32) (fA : Nat → Int32) (F : sF) (hN : n ≤ 100) (hNE : ne ≤ 300) (hv1 : 1 ≤ lv0) (hvn : lv0 ≤ n) (hc1 : 1 ≤ cc0) (hc2 : cc0 ≤ 9999) (hwf : lv_wf2 F n ne) (hf7 : ∀ k, 1 ≤ k → k ≤ ne → F 7 k = 0 ∨ F 7 k = 1) (hsr : M sr = some (.inr (1, [.ref ak, .int v, .int sc]))) (hak : M ak = some (aI (dA 0) 200 fA)) (hla : ∀ a, 1 ≤ a → a ≤ n → M (la a) = some (oL la ea F a)) (hea : ∀ k, 1 ≤ k → k ≤ ne → M (ea k) = some (oE er F k)) (hch : ∀ a, 1 ≤ a → a ≤ n → chn ea er F a) : mm_Cq l y_SE_findEnd w_SE_findEnd ({ frames := 2, cells := 0, slots := 0, locals := 44 }) 0 0 D vC (tyL dA) [.ref sr, .ref (la lv0), .int (nI cc0)] M (fun r M' => r = lk la (ab_u lv0 101 lv0 0 F cc0).1 ∧ sQm dA M' sr ak la ea er n ne (ab_u lv0 101 lv0 0 F cc0).2.1 (ab_u lv0 101 lv0 0 F cc0).2.2.2 (ab_u lv0 101 lv0 0 F cc0).2.2.1 ∧ kt M M' [1, 1200, 6]) := by
  intro sz
  refine mm_start (by decide) (Nat.le_of_ble_eq_true rfl) ?_
  intro p e s m below meth c A Q ls hA hQ S hr hlocks hin hK hw hl
  have hl : lv_has ls 6 [(0, .ref sr), (1, .ref (la lv0)), (2, .int (nI cc0))] := hl
  refine lv_aload_n S.1 S.2.1 d_SE_findEnd_0 rfl (lv_at hl 0 rfl) ?_
  refine lv_iconst (v := 0) S.1 S.2.1 d_SE_findEnd_1 (by decide) ?_
  refine mm_put (C := R_SE) (T := T_SE) (N := 3) (ty := .int) (v := .int 0) S hK.1 hw hsr rfl in_SE t_SE k_SE n_SE 1 (by decide) gw_36 rfl rfl (by decide +kernel) (rfl) (rfl) (Nat.le_of_ble_eq_true rfl) d_SE_findEnd_2 (fun H locs hw => ?_)
  obtain ⟨M1, eM1⟩ : ∃ zM : mm_M, zM = mm_up M sr (.inr (1, [.ref ak, .int 0, .int sc])) := ⟨_, rfl⟩
  have hw : mm_w D vC _ _ (mm_up M sr (.inr (1, [.ref ak, .int 0, .int sc]))) H _ := hw
  rw [← eM1] at hw
  have hak_1 : M1 ak = some (.inl (dA 0, 200, .inl (fA))) := by rw [eM1]; exact mm_uk hsr hak (by simp)
  have hsr_1 : M1 sr = some (.inr (1, [.ref ak, .int 0, .int sc])) := by rw [eM1]; exact mm_us
  refine lv_aload_n S.1 S.2.1 d_SE_findEnd_5 rfl (lv_at hl 0 rfl) ?_
  refine lv_iload_n S.1 S.2.1 d_SE_findEnd_6 rfl (lv_at hl 2 rfl) ?_
  refine mm_put (C := R_SE) (T := T_SE) (N := 3) (ty := .int) (v := .int (nI cc0)) S hK.1 hw hsr_1 rfl in_SE t_SE k_SE n_SE 2 (by decide) gw_37 rfl rfl (by decide +kernel) (rfl) (rfl) (Nat.le_of_ble_eq_true rfl) d_SE_findEnd_7 (fun H locs hw => ?_)
  obtain ⟨M2, eM2⟩ : ∃ zM : mm_M, zM = mm_up M1 sr (.inr (1, [.ref ak, .int 0, .int (nI cc0)])) := ⟨_, rfl⟩
  have hw : mm_w D vC _ _ (mm_up M1 sr (.inr (1, [.ref ak, .int 0, .int (nI cc0)]))) H _ := hw
  rw [← eM2] at hw
  have hak_2 : M2 ak = some (.inl (dA 0, 200, .inl (fA))) := by rw [eM2]; exact mm_uk hsr_1 hak_1 (by simp)
  have hsr_2 : M2 sr = some (.inr (1, [.ref ak, .int 0, .int (nI cc0)])) := by rw [eM2]; exact mm_us
  have hk0 : kt M M2 [1] := by rw [eM2, eM1, mm_uu]; exact kt_up hsr (by simp [tg])
  refine lv_aload_n S.1 S.2.1 d_SE_findEnd_10 rfl (lv_at hl 1 rfl) ?_
  refine lv_astore_n (lv' := [(3, .ref (la lv0)), (0, .ref sr), (1, .ref (la lv0)), (2, .int (nI cc0))]) S.1 S.2.1 d_SE_findEnd_11 rfl hl (by decide) rfl (fun ls hl => ?_)
  have hq0 : sQm dA M2 sr ak la ea er n ne 0 cc0 F := ⟨⟨fA, hak_2, fun j hj => absurd hj (Nat.not_lt_zero _)⟩, hsr_2, fun a p q => hk0 _ _ (hla a p q) (by simp [tg]), fun k p q => hk0 _ _ (hea k p q) (by simp [tg])⟩
  have LO : ∀ (f a na cc : Nat) (F' : sF) (j : Nat) (M1 : mm_M) (H : Heap) (locs : List Loc) (ls : Array Slot), a < f → a ≤ n → a = ab_n F lv0 j → j + a ≤ lv0 → na + 10 * cN (F 1 a) ≤ 200 → ab_J F F' → ab_7 F F' ne → 1 ≤ cc → cc ≤ 9999 → mm_w D vC A s.heap M1 H locs → sQm dA M1 sr ak la ea er n ne na cc F' → kt M M1 [1, 1200, 6] → ab_u lv0 101 lv0 0 F cc0 = ab_u lv0 f a na F' cc → lv_has ls 6 [(3, va_rf (lk la (nI a))), (0, .ref sr), (1, .ref (la lv0)), (2, .int (nI cc0))] → W p l e ({ frames := 2, cells := 0, slots := 0, locals := 44 }) s m [.ref sr, .ref (la lv0), .int (nI cc0)].toArray below meth c H locs 0 0 Q (F0 m 12 ls []) := by
    intro f
    induction f with
    | zero => exact fun a na cc F' j M1 H locs ls h => absurd h (Nat.not_lt_zero _)
    | succ f ihO =>
      intro a na cc F' j M1 H locs ls haf han haj hja hna hJ h7 hc3 hc4 hw hq hkk hs hl
      rcases Nat.eq_zero_or_pos a with ha0 | ha1
      · subst ha0
        have hl : lv_has ls 6 [(3, .null), (0, .ref sr), (1, .ref (la lv0)), (2, .int (nI cc0))] := lv_null0 hl
        have hs : ab_u lv0 101 lv0 0 F cc0 = (0, na, F', cc) := hs.trans (by rw [ab_u, if_pos rfl])
        refine lv_aload_nN S.1 S.2.1 d_SE_findEnd_12 rfl (lv_at hl 0 rfl) ?_
        refine lv_ifnullN (tgt := 63) S.1 S.2.1 d_SE_findEnd_13 (by decide) ?_
        refine lv_null S.1 S.2.1 d_SE_findEnd_63 ?_
        exact mm_retq (v := none) S.1 S.2.1 hr hlocks hA hQ hw (⟨by rw [hs]; exact lk_0.symm, by rw [hs]; exact hq, hkk⟩) (Nat.le_of_ble_eq_true rfl) (Nat.le_of_ble_eq_true rfl) d_SE_findEnd_64
      · rw [lk_p ha1 (by omega)] at hl
        have hl : lv_has ls 6 [(3, .ref (la a)), (0, .ref sr), (1, .ref (la lv0)), (2, .int (nI cc0))] := hl
        obtain ⟨pa, hpe, hpa, hpd, hp20⟩ := hwf.2.1 a ha1 han
        obtain ⟨z, hze, hz10, hzr⟩ := hwf.2.2 a ha1 han
        have hpc : cN (F 0 a) = pa := cN_I hpe (by omega)
        have hzc : cN (F 2 a) = z := cN_I hze (by omega)
        have hs : ab_u lv0 101 lv0 0 F cc0 = ab_k lv0 f (cN (F 0 a)) (ab_r lv0 a z na F' cc) := hs.trans (by rw [ab_u_s (by omega), hJ 0 (by decide) (by decide), hJ 2 (by decide) (by decide), hzc])
        have hlc : M1 (la a) = some (oL la ea F' a) := hq.2.2.1 a ha1 han
        refine lv_aload_n S.1 S.2.1 d_SE_findEnd_12 rfl (lv_at hl 0 rfl) ?_
        refine lv_ifnull S.1 S.2.1 d_SE_findEnd_13 ?_
        refine lv_aload_n S.1 S.2.1 d_SE_findEnd_16 rfl (lv_at hl 0 rfl) ?_
        refine mm_get (C := R_LV) (T := T_LV) (N := 5) S hK.1 hw hlc rfl in_LV 3 (by decide) gw_142 rfl rfl d_SE_findEnd_17 ?_
        refine mq_astore (lv' := [(4, va_rf (tpf ea F' a)), (3, .ref (la a)), (0, .ref sr), (1, .ref (la lv0)), (2, .int (nI cc0))]) S.1 S.2.1 d_SE_findEnd_20 hl (by decide) rfl (fun ls hl => ?_)
        have htp : tpf ea F' a = chp ea F a z := by
          rw [tpf, hJ 2 (by decide) (by decide), hJ 3 (by decide) (by decide), hzc]; rfl
        have LI : ∀ (kk na cc : Nat) (F' : sF) (M1 : mm_M) (H : Heap) (locs : List Loc) (ls : Array Slot), kk ≤ z → na + kk + 10 * cN (F 1 pa) ≤ 200 → ab_J F F' → ab_7 F F' ne → 1 ≤ cc → cc ≤ 9999 → mm_w D vC A s.heap M1 H locs → sQm dA M1 sr ak la ea er n ne na cc F' → kt M M1 [1, 1200, 6] → ab_u lv0 101 lv0 0 F cc0 = ab_k lv0 f (cN (F 0 a)) (ab_r lv0 a kk na F' cc) → lv_has ls 6 [(4, va_rf (chp ea F a kk)), (3, .ref (la a)), (0, .ref sr), (1, .ref (la lv0)), (2, .int (nI cc0))] → W p l e ({ frames := 2, cells := 0, slots := 0, locals := 44 }) s m [.ref sr, .ref (la lv0), .int (nI cc0)].toArray below meth c H locs 0 0 Q (F0 m 22 ls []) := by
          clear hs hna hJ h7 hc3 hc4 hw hq hkk hl hlc htp
          intro kk
          induction kk with
          | zero =>
            intro na cc F' M1 H locs ls hkz hna hJ h7 hc3 hc4 hw hq hkk hs hl
            have hlc : M1 (la a) = some (oL la ea F' a) := hq.2.2.1 a ha1 han
            have hsr := hq.2.1
            have hl : lv_has ls 6 [(4, .null), (3, .ref (la a)), (0, .ref sr), (1, .ref (la lv0)), (2, .int (nI cc0))] := hl
            refine lv_aloadN S.1 S.2.1 d_SE_findEnd_22 (lv_at hl 0 rfl) ?_
            refine lv_ifnullN (tgt := 55) S.1 S.2.1 d_SE_findEnd_24 (by decide) ?_
            refine lv_aload_n S.1 S.2.1 d_SE_findEnd_55 rfl (lv_at hl 1 rfl) ?_
            refine mm_get (C := R_LV) (T := T_LV) (N := 5) S hK.1 hw hlc rfl in_LV 1 (by decide) gw_138 rfl rfl d_SE_findEnd_56 ?_
            refine mq_astore_n (lv' := [(3, va_rf (lk la (F' 0 a))), (4, .null), (0, .ref sr), (1, .ref (la lv0)), (2, .int (nI cc0))]) S.1 S.2.1 d_SE_findEnd_59 rfl hl (by decide) rfl (fun ls hl => ?_)
            refine lv_goto (tgt := 12) S.1 S.2.1 d_SE_findEnd_60 (by decide) ?_
            exact ihO pa na cc F' (j + 1) _ _ _ ls (by omega) (by omega) (by rw [ab_n, ← haj, hpc]) (by omega) (by omega) hJ h7 hc3 hc4 hw hq hkk (hs.trans (by rw [ab_r, hpc]; rfl)) (by rw [← hpe, ← show F' 0 a = F 0 a from congrFun (hJ 0 (by decide) (by decide)) a]; exact lv_sub hl [0, 2, 3, 4] rfl)
          | succ kk ihI =>
            intro na cc F' M1 H locs ls hkz hna hJ h7 hc3 hc4 hw hq hkk hs hl
            have hlc : M1 (la a) = some (oL la ea F' a) := hq.2.2.1 a ha1 han
            have hsr := hq.2.1
            obtain ⟨x0, hx0F, hx01, hx0n⟩ := hzr kk (by omega)
            have hx0 : F' 3 (10 * a + kk) = nI x0 := by rw [hJ 3 (by decide) (by decide)]; exact hx0F
            have hxc : cN (F 3 (10 * a + kk)) = x0 := cN_I hx0F (by omega)
            have hcp : chp ea F a (kk + 1) = some (ea x0) := by rw [chp, if_neg (by omega), Nat.add_sub_cancel, hxc]
            have hchx : er x0 = chp ea F a kk := by
              have h9 := hch a ha1 han kk (by rw [hzc]; omega)
              rw [hxc] at h9
              exact h9
            rw [hcp] at hl
            have hl : lv_has ls 6 [(4, .ref (ea x0)), (3, .ref (la a)), (0, .ref sr), (1, .ref (la lv0)), (2, .int (nI cc0))] := hl
            refine lv_aload S.1 S.2.1 d_SE_findEnd_22 (lv_at hl 0 rfl) ?_
            refine lv_ifnull S.1 S.2.1 d_SE_findEnd_24 ?_
            refine lv_aload_n S.1 S.2.1 d_SE_findEnd_27 rfl (lv_at hl 2 rfl) ?_
            refine lv_aload S.1 S.2.1 d_SE_findEnd_28 (lv_at hl 0 rfl) ?_
            refine lv_aload_n S.1 S.2.1 d_SE_findEnd_30 rfl (lv_at hl 1 rfl) ?_
            refine lv_aload_n S.1 S.2.1 d_SE_findEnd_31 rfl (lv_at hl 3 rfl) ?_
            refine mm_callq hw (mm_runV (a := sr) (As := [.ref (ea x0), .ref (la a), .ref (la lv0)]) (rest := []) S hK hw (c_SE_ask l D dA _ sr ak la ea er n ne na cc x0 a lv0 F' hN hNE (by omega) hc4 hx01 hx0n ha1 han hv1 hvn ((h7 x0).elim (fun q => by rw [q]; exact hf7 x0 hx01 hx0n) (fun q => Or.inr q.1)) hq _) bv_SE_ask gw_198 hsr rfl (⟨rfl, rfl, by decide, by decide, by decide, by decide⟩) hl.1 rfl rfl (Nat.le_of_ble_eq_true rfl) d_SE_findEnd_32) (fun r3 M4 H locs hp hw => ?_)
            obtain ⟨hr9, hq9, hk9⟩ := hp
            by_cases h0 : (en_of (ab_F1 F' na x0) x0 a lv0).1 = 0
            · rw [h0, lk_0] at hr9
              subst hr9
              refine W.eq (g2 := F0 m 35 ls [.null]) rfl ?_
              have hxe : M4 (ea x0) = some (oE er (ab_F2 F' na x0 a lv0) x0) := hq9.2.2.2 x0 hx01 hx0n
              refine lv_astoreN (lv' := [(5, .null), (4, .ref (ea x0)), (3, .ref (la a)), (0, .ref sr), (1, .ref (la lv0)), (2, .int (nI cc0))]) S.1 S.2.1 d_SE_findEnd_35 hl (by decide) rfl (fun ls hl => ?_)
              refine lv_aloadN S.1 S.2.1 d_SE_findEnd_37 (lv_at hl 0 rfl) ?_
              refine lv_ifnullN (tgt := 45) S.1 S.2.1 d_SE_findEnd_39 (by decide) ?_
              refine lv_aload S.1 S.2.1 d_SE_findEnd_45 (lv_at hl 1 rfl) ?_
              refine mm_get (C := R_EX) (T := T_EX) (N := 5) S hK.1 hw hxe rfl in_EX 3 (by decide) gw_173 rfl rfl d_SE_findEnd_47 ?_
              refine mq_astore (lv' := [(4, va_rf (er x0)), (5, .null), (3, .ref (la a)), (0, .ref sr), (1, .ref (la lv0)), (2, .int (nI cc0))]) S.1 S.2.1 d_SE_findEnd_50 hl (by decide) rfl (fun ls hl => ?_)
              refine lv_goto (tgt := 22) S.1 S.2.1 d_SE_findEnd_52 (by decide) ?_
              exact ihI (na + 1) (ab_c F' x0 cc) (ab_F2 F' na x0 a lv0) _ _ _ ls (by omega) (by omega) (ab_Js hJ) (ab_7s h7 hx01 hx0n) (ab_cr ⟨hc3, hc4⟩).1 (ab_cr ⟨hc3, hc4⟩).2 hw hq9 (kt_tr hkk hk9) (hs.trans (by rw [ab_r_s hx0 (by omega), if_pos h0])) (by rw [show chp ea F a kk = er x0 from hchx.symm]; exact lv_sub hl [0, 2, 3, 4, 5] rfl)
            · have hr8 : r3 = some (la (cN (en_of (ab_F1 F' na x0) x0 a lv0).1)) := by rw [hr9, lk, if_neg h0]
              rw [hr8]
              refine W.eq (g2 := F0 m 35 ls [.ref (la (cN (en_of (ab_F1 F' na x0) x0 a lv0).1))]) rfl ?_
              refine lv_astore (lv' := [(5, .ref (la (cN (en_of (ab_F1 F' na x0) x0 a lv0).1))), (4, .ref (ea x0)), (3, .ref (la a)), (0, .ref sr), (1, .ref (la lv0)), (2, .int (nI cc0))]) S.1 S.2.1 d_SE_findEnd_35 hl (by decide) rfl (fun ls hl => ?_)
              refine lv_aload S.1 S.2.1 d_SE_findEnd_37 (lv_at hl 0 rfl) ?_
              refine lv_ifnull S.1 S.2.1 d_SE_findEnd_39 ?_
              refine lv_aload S.1 S.2.1 d_SE_findEnd_42 (lv_at hl 0 rfl) ?_
              exact mm_retq (v := some (la (cN (en_of (ab_F1 F' na x0) x0 a lv0).1))) S.1 S.2.1 hr hlocks hA hQ hw (⟨by rw [hs, ab_r_s hx0 (by omega), if_neg h0]; unfold ab_k; rw [if_neg h0, lk, if_neg h0], by rw [hs, ab_r_s hx0 (by omega), if_neg h0]; unfold ab_k; rw [if_neg h0]; exact hq9, kt_tr hkk hk9⟩) (Nat.le_of_ble_eq_true rfl) (Nat.le_of_ble_eq_true rfl) d_SE_findEnd_44
        exact LI z na cc F' M1 _ _ ls (Nat.le_refl _) (by omega) hJ h7 hc3 hc4 hw hq hkk hs (by rw [← htp]; exact lv_sub hl [0, 1, 2, 3, 4] rfl)
  exact LO 101 lv0 0 cc0 F 0 M2 _ _ ls (by omega) hvn rfl (by omega) (by obtain ⟨_, _, _, _, h9⟩ := hwf.2.1 lv0 hv1 hvn; omega) (fun _ _ _ => rfl) (fun _ => Or.inl rfl) hc1 hc2 hw hq0 (kt_mo hk0 (by decide)) rfl (by rw [lk_p hv1 (by omega)]; exact lv_sub hl [0, 1, 2, 3] rfl)
end
