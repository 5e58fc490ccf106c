/-! THE SYSTEM'S TABLES, a method's start, calls -/
abbrev tyL (dA : Nat → ClassId) : List (ClassId × FieldType) := [(dA 0, .int), (dA 1, .long), (dA 2, .boolean), (dA 3, .object "AbendRows$Level"), (dA 4, .object "AbendRows$Guard"), (dA 5, .object "AbendRows$Dump")]
theorem mm_start {l : Launch} {y : MethodName} {b : ByteArray} {maxL mc ms : Nat} {ret : Option FieldType} {rm : Room} {D : va_G} {tys : List (ClassId × FieldType)} {av : List Value} {M : mm_M} {sz : Nat} {Qc : Array Value → State → Outcome → State → Prop} {free : Addr → Prop} (hy : plainName y.cls = true) (hlen : (lg_sl av).length ≤ maxL)
    (body : ∀ (p : Program) (e : Env) (s : State) (m : MethodId) (below : List Frame) (meth : Method) (c : Code) (ls : Array Slot), CallFix p m c b maxL s av.toArray gt_l y.cls → meth.sig.returnType = ret → meth.locks = false → meth.name = y.name → mm_K D vC tys s → mm_w D vC (mm_A M sz) s.heap M s.heap [] → lv_has ls maxL (lv_args 0 av) → W p l e rm s m av.toArray below meth c s.heap [] 0 0 (MQ below Qc av.toArray s mc ms free) (F0 m 0 ls [])) : Met l y (.code y b maxL ret :: gt_l) rm (va_Pc av (mm_pre D vC tys M sz)) Qc mc ms free := by
  refine Met.ofW (cc := b) (maxL := maxL) (ret := ret) hy rfl ?_
  intro p e s m args below meth c s₁ B hml hv
  obtain ⟨rfl, hpre⟩ := hv
  have hts := atoms_spec (ws := (.code y b maxL ret :: gt_l)) B.pre
  have hl := lv_entry av (n := maxL) hlen
  rw [lg_entry_eq]
  exact body p e s m below meth c _ ⟨B.exec, B.bytes, hml, findClass_of_methodNamed B.named, fun w h => hts w (List.mem_cons_of_mem _ h)⟩ B.returns B.notSynchronized (name_of_methodNamed B.named B.method).1 hpre.2.1 (mm_in hpre) hl
def mm_nm (y : MethodName) (n : Nat) : Prop := y.cls ≠ "java/lang/invoke/MethodHandle" ∧ y.cls ≠ "java/lang/invoke/VarHandle" ∧ (parseMethodDescriptor y.desc).map (fun d => d.parameters.length) = some n
def mm_V (C : String) (y : MethodName) (b : ByteArray) (maxL : Nat) (ret : Option FieldType) (n : Nat) : Prop := (Cond.code y b maxL ret ∈ gt_l ∧ Cond.instanceMethod y ∈ gt_l ∧ Cond.selects C y y ∈ gt_l ∧ Cond.initialized y.cls ∈ gt_l) ∧ mm_nm y n
def mm_S (y : MethodName) (b : ByteArray) (maxL : Nat) (ret : Option FieldType) (n : Nat) : Prop := (Cond.code y b maxL ret ∈ gt_l ∧ Cond.static y ∈ gt_l ∧ Cond.initialized y.cls ∈ gt_l) ∧ mm_nm y n
def mm_I (y : MethodName) (b : ByteArray) (maxL : Nat) (n : Nat) : Prop := (Cond.code y b maxL none ∈ gt_l ∧ Cond.instanceMethod y ∈ gt_l ∧ Cond.initialized y.cls ∈ gt_l ∧ y.name = "<init>") ∧ mm_nm y n
def mm_rm (rm R : Room) (maxL mc ms cells slots : Nat) : Prop := rm.cells = mc ∧ rm.slots = ms ∧ rm.frames + 1 ≤ R.frames ∧ 8 + (maxL + 11) + rm.locals ≤ R.locals ∧ cells + mc ≤ R.cells ∧ slots + ms ≤ R.slots
section MRUN
variable {p : Program} {l : Launch} {e : Env} {R : Room} {s : State} {m : MethodId} {args : Array Value} {below : List Frame} {meth : Method} {c : Code} {H : Heap} {locs : List Loc} {cells slots : Nat} {Q : State → Prop}
variable {cc : ByteArray} {pc nL : Nat} {ls : Array Slot} {rest st0 : List Value} {D : va_G} {cl : List vw_C} {A : Nat → Prop} {tys : List (ClassId × FieldType)} {M : mm_M} {H0 : Heap} {own : String}
variable {y : MethodName} {b : ByteArray} {maxL mc ms n index : Nat} {ret : Option FieldType} {rm : Room} {Qc : Array Value → State → Outcome → State → Prop} {free : Addr → Prop} {As : List Value} {a : Nat}
theorem mm_runV {ci N : Nat} {C : String} {T : u_T} {fs : List Value} (S : CallFix p m c cc nL s args gt_l own) (hK : mm_K D cl tys s) (hw : mm_w D cl A H0 M H locs) (hM : Met l y (.code y b maxL ret :: gt_l) rm (va_Pc (.ref a :: As) (mm_pre D cl tys M H.size)) Qc mc ms free) (hB : mm_V C y b maxL ret n) (hl : Cond.methodLink own index y ∈ gt_l) (hc : M a = some (.inr (ci, fs))) (hcl : cl[ci]? = some (C, T, N)) (hrm : mm_rm rm R maxL mc ms cells slots) (hsz : ls.size = nL) (hst : st0 = As.reverse ++ .ref a :: rest) (hn : As.length = n) (hcat : (rest.map fun v => v.category).sum ≤ 8) (hdg : decode cc pc = .ok (.invokevirtual index, 3)) :
    va_Run p l e R s m args below meth c H locs cells slots mc ms (F0 m pc ls st0) rest (Qc (Value.ref a :: As).toArray) free :=
  va_runV (C := C) (As := As) (rest := rest) S hM ⟨callB_of (Ts := gt_l) n S.2.2.2.2 (gt_gd hB.1.1) rfl hrm.1 hrm.2.1 (S.2.2.2.2 _ hB.1.2.2.2) (S.2.2.2.2 _ hl) hB.2 ⟨hrm.2.2.1, hrm.2.2.2.1⟩, S.2.2.2.2 _ hB.1.2.1, S.2.2.2.2 _ hB.1.2.2.1⟩ (mm_preV hK hw hc hcl) rfl hn hsz hst (lv_room hcat) hdg hrm.2.2.2.2
theorem mm_runS (S : CallFix p m c cc nL s args gt_l own) (hK : mm_K D cl tys s) (hw : mm_w D cl A H0 M H locs) (hM : Met l y (.code y b maxL ret :: gt_l) rm (va_Pc As (mm_pre D cl tys M H.size)) Qc mc ms free) (hB : mm_S y b maxL ret n) (hl : Cond.methodLink own index y ∈ gt_l) (hrm : mm_rm rm R maxL mc ms cells slots) (hsz : ls.size = nL) (hst : st0 = As.reverse ++ rest) (hn : As.length = n) (hcat : (rest.map fun v => v.category).sum ≤ 8) (hdg : decode cc pc = .ok (.invokestatic index, 3)) :
    va_Run p l e R s m args below meth c H locs cells slots mc ms (F0 m pc ls st0) rest (Qc As.toArray) free :=
  va_runS (As := As) (rest := rest) S hM ⟨callB_of (Ts := gt_l) n S.2.2.2.2 (gt_gd hB.1.1) rfl hrm.1 hrm.2.1 (S.2.2.2.2 _ hB.1.2.2) (S.2.2.2.2 _ hl) hB.2 ⟨hrm.2.2.1, hrm.2.2.2.1⟩, S.2.2.2.2 _ hB.1.2.1⟩ (mm_preS hK hw) rfl hn hsz hst (lv_room hcat) hdg hrm.2.2.2.2
theorem mm_runI (S : CallFix p m c cc nL s args gt_l own) (hK : mm_K D cl tys s) (hw : mm_w D cl A H0 M H locs) (hM : Met l y (.code y b maxL none :: gt_l) rm (va_Pc (.ref a :: As) (mm_pre D cl tys M H.size)) Qc mc ms free) (hB : mm_I y b maxL n) (hl : Cond.methodLink own index y ∈ gt_l) (hrm : mm_rm rm R maxL mc ms cells slots) (hsz : ls.size = nL) (hst : st0 = As.reverse ++ .ref a :: rest) (hn : As.length = n) (hcat : (rest.map fun v => v.category).sum ≤ 8) (hdg : decode cc pc = .ok (.invokespecial index, 3)) :
    va_Run p l e R s m args below meth c H locs cells slots mc ms (F0 m pc ls st0) rest (Qc (Value.ref a :: As).toArray) free :=
  va_runI (As := As) (rest := rest) S hM ⟨callB_of (Ts := gt_l) n S.2.2.2.2 (gt_gd hB.1.1) rfl hrm.1 hrm.2.1 (S.2.2.2.2 _ hB.1.2.2.1) (S.2.2.2.2 _ hl) hB.2 ⟨hrm.2.2.1, hrm.2.2.2.1⟩, hB.1.2.2.2, S.2.2.2.2 _ hB.1.2.1⟩ (mm_preS hK hw) rfl hn hsz hst (lv_room hcat) hdg hrm.2.2.2.2
theorem mm_runIN {host : String} (S : CallFix p m c cc nL s args gt_l own) (hK : mm_K D cl tys s) (hw : mm_w D cl A H0 M H locs) (hM : Met l y (.code y b maxL none :: gt_l) rm (va_Pc (.ref a :: As) (mm_pre D cl tys M H.size)) Qc mc ms free) (hB : mm_I y b maxL n) (hl : va_Nw (.methodLinkNest own index y host) s) (hrm : mm_rm rm R maxL mc ms cells slots) (hsz : ls.size = nL) (hst : st0 = As.reverse ++ .ref a :: rest) (hn : As.length = n) (hcat : (rest.map fun v => v.category).sum ≤ 8) (hdg : decode cc pc = .ok (.invokespecial index, 3)) :
    va_Run p l e R s m args below meth c H locs cells slots mc ms (F0 m pc ls st0) rest (Qc (Value.ref a :: As).toArray) free :=
  va_runIN (As := As) (rest := rest) S hM ⟨va_cnB (Ts := gt_l) n S.2.2.2.2 (gt_gd hB.1.1) rfl hrm.1 hrm.2.1 hl (S.2.2.2.2 _ hB.1.2.2.1) hB.2 ⟨hrm.2.2.1, hrm.2.2.2.1⟩, hB.1.2.2.2, S.2.2.2.2 _ hB.1.2.1⟩ (mm_preS hK hw) rfl hn hsz hst (lv_room hcat) hdg hrm.2.2.2.2
theorem mm_runSN {host : String} (S : CallFix p m c cc nL s args gt_l own) (hK : mm_K D cl tys s) (hw : mm_w D cl A H0 M H locs) (hM : Met l y (.code y b maxL ret :: gt_l) rm (va_Pc As (mm_pre D cl tys M H.size)) Qc mc ms free) (hB : mm_S y b maxL ret n) (hl : va_Nw (.methodLinkNest own index y host) s) (hrm : mm_rm rm R maxL mc ms cells slots) (hsz : ls.size = nL) (hst : st0 = As.reverse ++ rest) (hn : As.length = n) (hcat : (rest.map fun v => v.category).sum ≤ 8) (hdg : decode cc pc = .ok (.invokestatic index, 3)) :
    va_Run p l e R s m args below meth c H locs cells slots mc ms (F0 m pc ls st0) rest (Qc As.toArray) free :=
  va_runSN (As := As) (rest := rest) S hM ⟨va_cnB (Ts := gt_l) n S.2.2.2.2 (gt_gd hB.1.1) rfl hrm.1 hrm.2.1 hl (S.2.2.2.2 _ hB.1.2.2) hB.2 ⟨hrm.2.2.1, hrm.2.2.2.1⟩, S.2.2.2.2 _ hB.1.2.1, trivial⟩ (mm_preS hK hw) rfl hn hsz hst (lv_room hcat) hdg hrm.2.2.2.2
theorem mm_obj (S : CallFix p m c cc nL s args gt_l own) (hl : Cond.methodLink own index objectInit ∈ gt_l) (hi : Cond.instanceMethod objectInit ∈ gt_l) (hc : Cond.code objectInit ⟨#[0xb1]⟩ 1 none ∈ gt_l) (hsz : ls.size = nL) (hd : decode cc pc = .ok (.invokespecial index, 3)) (hf : 1 ≤ R.frames) (hlo : (rest.map fun v => v.category).sum + 12 ≤ R.locals)
    (kk : W p l e R s m args below meth c H locs cells slots Q (F0 m (pc + 3) ls rest)) : W p l e R s m args below meth c H locs cells slots Q (F0 m pc ls (.ref a :: rest)) :=
  W.objInit S.1 S.2.1 S.2.2.2.1 (S.2.2.2.2 _ hl) (S.2.2.2.2 _ hi) (S.2.2.2.2 _ hc) rfl (by rw [S.2.2.1]; exact hsz) rfl hd hf (by show 2 * 0 + _ + 12 ≤ _; omega) kk
/-! references that may be null -/
theorem mq_aload_n (hx : p.tables.exec = Jvm.exec) (hb : c.code = cc) {k : Fin 4} {i : Nat} {r : Option Nat} (hdg : decode cc pc = .ok (.aload_n k, 1)) (hi : (k : Nat) = i) (hl : ls[i]? = some (.val (va_rf r)))
    (kk : W p l e R s m args below meth c H locs cells slots Q (F0 m (pc + 1) ls (va_rf r :: rest))) : W p l e R s m args below meth c H locs cells slots Q (F0 m pc ls rest) := by
  cases r with
  | none => exact lv_aload_nN hx hb hdg hi hl kk
  | some x => exact lv_aload_n hx hb hdg hi hl kk
theorem mq_aload (hx : p.tables.exec = Jvm.exec) (hb : c.code = cc) {i : Nat} {r : Option Nat} (hdg : decode cc pc = .ok (.aload i, 2)) (hl : ls[i]? = some (.val (va_rf r)))
    (kk : W p l e R s m args below meth c H locs cells slots Q (F0 m (pc + 2) ls (va_rf r :: rest))) : W p l e R s m args below meth c H locs cells slots Q (F0 m pc ls rest) := by
  cases r with
  | none => exact lv_aloadN hx hb hdg hl kk
  | some x => exact lv_aload hx hb hdg hl kk
theorem mq_filter (i : Nat) (r : Option Nat) (lv : List (Nat × Value)) : ∀ v : Value, v = va_rf r → ((i, v) :: lv.filter (fun q => !(q.1 == i) && !(q.1 + 1 == i && q.2.category == 2))) = ((i, va_rf r) :: lv.filter (fun q => !(q.1 == i) && !(q.1 + 1 == i && q.2.category == 2))) := fun v h => by rw [h]
theorem mq_astore_n (hx : p.tables.exec = Jvm.exec) (hb : c.code = cc) {k : Fin 4} {i nL : Nat} {r : Option Nat} {lv lv' : List (Nat × Value)} (hdg : decode cc pc = .ok (.astore_n k, 1)) (hi : (k : Nat) = i) (h : lv_has ls nL lv) (hn : i < nL) (hl : (i, va_rf r) :: lv.filter (fun q => !(q.1 == i) && !(q.1 + 1 == i && q.2.category == 2)) = lv')
    (kk : ∀ ls' : Array Slot, lv_has ls' nL lv' → W p l e R s m args below meth c H locs cells slots Q (F0 m (pc + 1) ls' rest)) : W p l e R s m args below meth c H locs cells slots Q (F0 m pc ls (va_rf r :: rest)) := by
  cases r with
  | none => exact lv_astore_nN hx hb hdg hi h hn hl kk
  | some x => exact lv_astore_n hx hb hdg hi h hn hl kk
theorem mq_astore (hx : p.tables.exec = Jvm.exec) (hb : c.code = cc) {i nL : Nat} {r : Option Nat} {lv lv' : List (Nat × Value)} (hdg : decode cc pc = .ok (.astore i, 2)) (h : lv_has ls nL lv) (hn : i < nL) (hl : (i, va_rf r) :: lv.filter (fun q => !(q.1 == i) && !(q.1 + 1 == i && q.2.category == 2)) = lv')
    (kk : ∀ ls' : Array Slot, lv_has ls' nL lv' → W p l e R s m args below meth c H locs cells slots Q (F0 m (pc + 2) ls' rest)) : W p l e R s m args below meth c H locs cells slots Q (F0 m pc ls (va_rf r :: rest)) := by
  cases r with
  | none => exact lv_astoreN hx hb hdg h hn hl kk
  | some x => exact lv_astore hx hb hdg h hn hl kk
theorem mq_ifnull (hx : p.tables.exec = Jvm.exec) (hb : c.code = cc) {r : Option Nat} {off : Int} {tgt : Nat} (hdg : decode cc pc = .ok (.ifnull off, 3)) (ht : (pc : Int) + off = (tgt : Int))
    (kn : r = none → W p l e R s m args below meth c H locs cells slots Q (F0 m tgt ls rest)) (ks : ∀ x : Nat, r = some x → W p l e R s m args below meth c H locs cells slots Q (F0 m (pc + 3) ls rest)) : W p l e R s m args below meth c H locs cells slots Q (F0 m pc ls (va_rf r :: rest)) := by
  cases r with
  | none => exact lv_ifnullN hx hb hdg ht (kn rfl)
  | some x => exact lv_ifnull hx hb hdg (ks x rfl)
theorem mq_ifnonnull (hx : p.tables.exec = Jvm.exec) (hb : c.code = cc) {r : Option Nat} {off : Int} {tgt : Nat} (hdg : decode cc pc = .ok (.ifnonnull off, 3)) (ht : (pc : Int) + off = (tgt : Int))
    (ks : ∀ x : Nat, r = some x → W p l e R s m args below meth c H locs cells slots Q (F0 m tgt ls rest)) (kn : r = none → W p l e R s m args below meth c H locs cells slots Q (F0 m (pc + 3) ls rest)) : W p l e R s m args below meth c H locs cells slots Q (F0 m pc ls (va_rf r :: rest)) := by
  cases r with
  | none => exact lv_ifnonnullN hx hb hdg (kn rfl)
  | some x => exact lv_ifnonnull hx hb hdg ht (ks x rfl)
end MRUN
theorem mq_nar (C : String) (r : Option Nat) : narrow (.object C) (va_rf r) = va_rf r := by cases r <;> rfl
theorem mq_fit (C : String) (r : Option Nat) : fits (.object C) (va_rf r) = true := by cases r <;> rfl
theorem mz_nar {v : Int32} (h : v = 0 ∨ v = 1) : narrow .boolean (.int v) = .int v := by rcases h with rfl | rfl <;> rfl
theorem mz_fit {v : Int32} (h : v = 0 ∨ v = 1) : fits .boolean (.int v) = true := by rcases h with rfl | rfl <;> rfl
theorem mz_nar2 {v : Int32} (h : v = 0 ∨ v = 1) : vp_nar .boolean v = v := by rcases h with rfl | rfl <;> rfl
