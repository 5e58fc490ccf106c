/-! THE SYSTEM'S TABLES, a method's start, calls -/
abbrev tyL (dA : Nat → ClassId) : List (ClassId × FieldType) := [(dA 0, .int), (dA 1, .long), (dA 2, .boolean), (dA 3, .object "AbendRows$Level"), (dA 4, .object "AbendRows$Guard"), (dA 5, .object "AbendRows$Dump")]
theorem mm_start {l : Launch} {y : MethodName} {b : ByteArray} {maxL mc ms : Nat} {ret : Option FieldType} {rm : Room} {D : va_G} {tys : List (ClassId × FieldType)} {av : List Value} {M : mm_M} {sz : Nat} {Qc : Array Value → State → Outcome → State → Prop} {free : Addr → Prop} (hy : plainName y.cls = true) (hlen : (lg_sl av).length ≤ maxL)
    (body : ∀ (p : Program) (e : Env) (s : State) (m : MethodId) (below : List Frame) (meth : Method) (c : Code) (A : Nat → Prop) (Q : State → Prop) (ls : Array Slot), A = mm_A M sz → Q = MQ below Qc av.toArray s mc ms free → CallFix p m c b maxL s av.toArray gt_l y.cls → meth.sig.returnType = ret → meth.locks = false → meth.name = y.name → mm_K D vC tys s → mm_w D vC A s.heap M s.heap [] → lv_has ls maxL (lv_args 0 av) → W p l e rm s m av.toArray below meth c s.heap [] 0 0 Q (F0 m 0 ls [])) : Met l y (.code y b maxL ret :: gt_l) rm (va_Pc av (mm_pre D vC tys M sz)) Qc mc ms free := by
  refine Met.ofW (cc := b) (maxL := maxL) (ret := ret) hy rfl ?_
  intro p e s m args below meth c s₁ B hml hv
  obtain ⟨rfl, hpre⟩ := hv
  have hts := atoms_spec (ws := (.code y b maxL ret :: gt_l)) B.pre
  have hl := lv_entry av (n := maxL) hlen
  rw [lg_entry_eq]
  exact body p e s m below meth c _ _ _ rfl rfl ⟨B.exec, B.bytes, hml, findClass_of_methodNamed B.named, fun w h => hts w (List.mem_cons_of_mem _ h)⟩ B.returns B.notSynchronized (name_of_methodNamed B.named B.method).1 hpre.2.1 (mm_in hpre) hl
def mm_nm (y : MethodName) (n : Nat) : Prop := y.cls ≠ "java/lang/invoke/MethodHandle" ∧ y.cls ≠ "java/lang/invoke/VarHandle" ∧ (parseMethodDescriptor y.desc).map (fun d => d.parameters.length) = some n
def mm_V (C : String) (y : MethodName) (b : ByteArray) (maxL : Nat) (ret : Option FieldType) (n : Nat) : Prop := (Cond.code y b maxL ret ∈ gt_l ∧ Cond.instanceMethod y ∈ gt_l ∧ Cond.selects C y y ∈ gt_l ∧ Cond.initialized y.cls ∈ gt_l) ∧ mm_nm y n
def mm_S (y : MethodName) (b : ByteArray) (maxL : Nat) (ret : Option FieldType) (n : Nat) : Prop := (Cond.code y b maxL ret ∈ gt_l ∧ Cond.static y ∈ gt_l ∧ Cond.initialized y.cls ∈ gt_l) ∧ mm_nm y n
def mm_I (y : MethodName) (b : ByteArray) (maxL : Nat) (n : Nat) : Prop := (Cond.code y b maxL none ∈ gt_l ∧ Cond.instanceMethod y ∈ gt_l ∧ Cond.initialized y.cls ∈ gt_l ∧ y.name = "<init>") ∧ mm_nm y n
def mm_rm (rm R : Room) (maxL mc ms cells slots : Nat) : Prop := rm.cells = mc ∧ rm.slots = ms ∧ rm.frames + 1 ≤ R.frames ∧ 8 + (maxL + 11) + rm.locals ≤ R.locals ∧ cells + mc ≤ R.cells ∧ slots + ms ≤ R.slots
section MRUN
variable {p : Program} {l : Launch} {e : Env} {R : Room} {s : State} {m : MethodId} {args : Array Value} {below : List Frame} {meth : Method} {c : Code} {H : Heap} {locs : List Loc} {cells slots : Nat} {Q : State → Prop}
variable {cc : ByteArray} {pc nL : Nat} {ls : Array Slot} {rest st0 : List Value} {D : va_G} {cl : List vw_C} {A : Nat → Prop} {tys : List (ClassId × FieldType)} {M : mm_M} {H0 : Heap} {own : String}
variable {y : MethodName} {b : ByteArray} {maxL mc ms n index : Nat} {ret : Option FieldType} {rm : Room} {Qc : Array Value → State → Outcome → State → Prop} {free : Addr → Prop} {As : List Value} {a : Nat}
theorem mm_runV {ci N : Nat} {C : String} {T : u_T} {fs : List Value} (S : CallFix p m c cc nL s args gt_l own) (hK : mm_K D cl tys s) (hw : mm_w D cl A H0 M H locs) (hM : Met l y (.code y b maxL ret :: gt_l) rm (va_Pc (.ref a :: As) (mm_pre D cl tys M H.size)) Qc mc ms free) (hB : mm_V C y b maxL ret n) (hl : Cond.methodLink own index y ∈ gt_l) (hc : M a = some (.inr (ci, fs))) (hcl : cl[ci]? = some (C, T, N)) (hrm : mm_rm rm R maxL mc ms cells slots) (hsz : ls.size = nL) (hst : st0 = As.reverse ++ .ref a :: rest) (hn : As.length = n) (hcat : (rest.map fun v => v.category).sum ≤ 8) (hdg : decode cc pc = .ok (.invokevirtual index, 3)) :
    va_Run p l e R s m args below meth c H locs cells slots mc ms (F0 m pc ls st0) rest (Qc (Value.ref a :: As).toArray) free :=
  va_runV (C := C) (As := As) (rest := rest) S hM ⟨callB_of (Ts := gt_l) n S.2.2.2.2 (gt_gd hB.1.1) rfl hrm.1 hrm.2.1 (S.2.2.2.2 _ hB.1.2.2.2) (S.2.2.2.2 _ hl) hB.2 ⟨hrm.2.2.1, hrm.2.2.2.1⟩, S.2.2.2.2 _ hB.1.2.1, S.2.2.2.2 _ hB.1.2.2.1⟩ (mm_preV hK hw hc hcl) rfl hn hsz hst (lv_room hcat) hdg hrm.2.2.2.2
theorem mm_runS (S : CallFix p m c cc nL s args gt_l own) (hK : mm_K D cl tys s) (hw : mm_w D cl A H0 M H locs) (hM : Met l y (.code y b maxL ret :: gt_l) rm (va_Pc As (mm_pre D cl tys M H.size)) Qc mc ms free) (hB : mm_S y b maxL ret n) (hl : Cond.methodLink own index y ∈ gt_l) (hrm : mm_rm rm R maxL mc ms cells slots) (hsz : ls.size = nL) (hst : st0 = As.reverse ++ rest) (hn : As.length = n) (hcat : (rest.map fun v => v.category).sum ≤ 8) (hdg : decode cc pc = .ok (.invokestatic index, 3)) :
    va_Run p l e R s m args below meth c H locs cells slots mc ms (F0 m pc ls st0) rest (Qc As.toArray) free :=
  va_runS (As := As) (rest := rest) S hM ⟨callB_of (Ts := gt_l) n S.2.2.2.2 (gt_gd hB.1.1) rfl hrm.1 hrm.2.1 (S.2.2.2.2 _ hB.1.2.2) (S.2.2.2.2 _ hl) hB.2 ⟨hrm.2.2.1, hrm.2.2.2.1⟩, S.2.2.2.2 _ hB.1.2.1⟩ (mm_preS hK hw) rfl hn hsz hst (lv_room hcat) hdg hrm.2.2.2.2
theorem mm_runI (S : CallFix p m c cc nL s args gt_l own) (hK : mm_K D cl tys s) (hw : mm_w D cl A H0 M H locs) (hM : Met l y (.code y b maxL none :: gt_l) rm (va_Pc (.ref a :: As) (mm_pre D cl tys M H.size)) Qc mc ms free) (hB : mm_I y b maxL n) (hl : Cond.methodLink own index y ∈ gt_l) (hrm : mm_rm rm R maxL mc ms cells slots) (hsz : ls.size = nL) (hst : st0 = As.reverse ++ .ref a :: rest) (hn : As.length = n) (hcat : (rest.map fun v => v.category).sum ≤ 8) (hdg : decode cc pc = .ok (.invokespecial index, 3)) :
    va_Run p l e R s m args below meth c H locs cells slots mc ms (F0 m pc ls st0) rest (Qc (Value.ref a :: As).toArray) free :=
  va_runI (As := As) (rest := rest) S hM ⟨callB_of (Ts := gt_l) n S.2.2.2.2 (gt_gd hB.1.1) rfl hrm.1 hrm.2.1 (S.2.2.2.2 _ hB.1.2.2.1) (S.2.2.2.2 _ hl) hB.2 ⟨hrm.2.2.1, hrm.2.2.2.1⟩, hB.1.2.2.2, S.2.2.2.2 _ hB.1.2.1⟩ (mm_preS hK hw) rfl hn hsz hst (lv_room hcat) hdg hrm.2.2.2.2
theorem mm_runIN {host : String} (S : CallFix p m c cc nL s args gt_l own) (hK : mm_K D cl tys s) (hw : mm_w D cl A H0 M H locs) (hM : Met l y (.code y b maxL none :: gt_l) rm (va_Pc (.ref a :: As) (mm_pre D cl tys M H.size)) Qc mc ms free) (hB : mm_I y b maxL n) (hl : va_Nw (.methodLinkNest own index y host) s) (hrm : mm_rm rm R maxL mc ms cells slots) (hsz : ls.size = nL) (hst : st0 = As.reverse ++ .ref a :: rest) (hn : As.length = n) (hcat : (rest.map fun v => v.category).sum ≤ 8) (hdg : decode cc pc = .ok (.invokespecial index, 3)) :
    va_Run p l e R s m args below meth c H locs cells slots mc ms (F0 m pc ls st0) rest (Qc (Value.ref a :: As).toArray) free :=
  va_runIN (As := As) (rest := rest) S hM ⟨va_cnB (Ts := gt_l) n S.2.2.2.2 (gt_gd hB.1.1) rfl hrm.1 hrm.2.1 hl (S.2.2.2.2 _ hB.1.2.2.1) hB.2 ⟨hrm.2.2.1, hrm.2.2.2.1⟩, hB.1.2.2.2, S.2.2.2.2 _ hB.1.2.1⟩ (mm_preS hK hw) rfl hn hsz hst (lv_room hcat) hdg hrm.2.2.2.2
theorem mm_runSN {host : String} (S : CallFix p m c cc nL s args gt_l own) (hK : mm_K D cl tys s) (hw : mm_w D cl A H0 M H locs) (hM : Met l y (.code y b maxL ret :: gt_l) rm (va_Pc As (mm_pre D cl tys M H.size)) Qc mc ms free) (hB : mm_S y b maxL ret n) (hl : va_Nw (.methodLinkNest own index y host) s) (hrm : mm_rm rm R maxL mc ms cells slots) (hsz : ls.size = nL) (hst : st0 = As.reverse ++ rest) (hn : As.length = n) (hcat : (rest.map fun v => v.category).sum ≤ 8) (hdg : decode cc pc = .ok (.invokestatic index, 3)) :
    va_Run p l e R s m args below meth c H locs cells slots mc ms (F0 m pc ls st0) rest (Qc As.toArray) free :=
  va_runSN (As := As) (rest := rest) S hM ⟨va_cnB (Ts := gt_l) n S.2.2.2.2 (gt_gd hB.1.1) rfl hrm.1 hrm.2.1 hl (S.2.2.2.2 _ hB.1.2.2) hB.2 ⟨hrm.2.2.1, hrm.2.2.2.1⟩, S.2.2.2.2 _ hB.1.2.1, trivial⟩ (mm_preS hK hw) rfl hn hsz hst (lv_room hcat) hdg hrm.2.2.2.2
theorem mm_obj (S : CallFix p m c cc nL s args gt_l own) (hl : Cond.methodLink own index objectInit ∈ gt_l) (hi : Cond.instanceMethod objectInit ∈ gt_l) (hc : Cond.code objectInit ⟨#[0xb1]⟩ 1 none ∈ gt_l) (hsz : ls.size = nL) (hd : decode cc pc = .ok (.invokespecial index, 3)) (hf : 1 ≤ R.frames) (hlo : (rest.map fun v => v.category).sum + 12 ≤ R.locals)
    (kk : W p l e R s m args below meth c H locs cells slots Q (F0 m (pc + 3) ls rest)) : W p l e R s m args below meth c H locs cells slots Q (F0 m pc ls (.ref a :: rest)) :=
  W.objInit S.1 S.2.1 S.2.2.2.1 (S.2.2.2.2 _ hl) (S.2.2.2.2 _ hi) (S.2.2.2.2 _ hc) rfl (by rw [S.2.2.1]; exact hsz) rfl hd hf (by show 2 * 0 + _ + 12 ≤ _; omega) kk
/-! references that may be null -/
theorem mq_aload_n (hx : p.tables.exec = Jvm.exec) (hb : c.code = cc) {k : Fin 4} {i : Nat} {r : Option Nat} (hdg : decode cc pc = .ok (.aload_n k, 1)) (hi : (k : Nat) = i) (hl : ls[i]? = some (.val (va_rf r)))
    (kk : W p l e R s m args below meth c H locs cells slots Q (F0 m (pc + 1) ls (va_rf r :: rest))) : W p l e R s m args below meth c H locs cells slots Q (F0 m pc ls rest) := by
  cases r with
  | none => exact lv_aload_nN hx hb hdg hi hl kk
  | some x => exact lv_aload_n hx hb hdg hi hl kk
theorem mq_aload (hx : p.tables.exec = Jvm.exec) (hb : c.code = cc) {i : Nat} {r : Option Nat} (hdg : decode cc pc = .ok (.aload i, 2)) (hl : ls[i]? = some (.val (va_rf r)))
    (kk : W p l e R s m args below meth c H locs cells slots Q (F0 m (pc + 2) ls (va_rf r :: rest))) : W p l e R s m args below meth c H locs cells slots Q (F0 m pc ls rest) := by
  cases r with
  | none => exact lv_aloadN hx hb hdg hl kk
  | some x => exact lv_aload hx hb hdg hl kk
theorem mq_filter (i : Nat) (r : Option Nat) (lv : List (Nat × Value)) : ∀ v : Value, v = va_rf r → ((i, v) :: lv.filter (fun q => !(q.1 == i) && !(q.1 + 1 == i && q.2.category == 2))) = ((i, va_rf r) :: lv.filter (fun q => !(q.1 == i) && !(q.1 + 1 == i && q.2.category == 2))) := fun v h => by rw [h]
theorem mq_astore_n (hx : p.tables.exec = Jvm.exec) (hb : c.code = cc) {k : Fin 4} {i nL : Nat} {r : Option Nat} {lv lv' : List (Nat × Value)} (hdg : decode cc pc = .ok (.astore_n k, 1)) (hi : (k : Nat) = i) (h : lv_has ls nL lv) (hn : i < nL) (hl : (i, va_rf r) :: lv.filter (fun q => !(q.1 == i) && !(q.1 + 1 == i && q.2.category == 2)) = lv')
    (kk : ∀ ls' : Array Slot, lv_has ls' nL lv' → W p l e R s m args below meth c H locs cells slots Q (F0 m (pc + 1) ls' rest)) : W p l e R s m args below meth c H locs cells slots Q (F0 m pc ls (va_rf r :: rest)) := by
  cases r with
  | none => exact lv_astore_nN hx hb hdg hi h hn hl kk
  | some x => exact lv_astore_n hx hb hdg hi h hn hl kk
theorem mq_astore (hx : p.tables.exec = Jvm.exec) (hb : c.code = cc) {i nL : Nat} {r : Option Nat} {lv lv' : List (Nat × Value)} (hdg : decode cc pc = .ok (.astore i, 2)) (h : lv_has ls nL lv) (hn : i < nL) (hl : (i, va_rf r) :: lv.filter (fun q => !(q.1 == i) && !(q.1 + 1 == i && q.2.category == 2)) = lv')
    (kk : ∀ ls' : Array Slot, lv_has ls' nL lv' → W p l e R s m args below meth c H locs cells slots Q (F0 m (pc + 2) ls' rest)) : W p l e R s m args below meth c H locs cells slots Q (F0 m pc ls (va_rf r :: rest)) := by
  cases r with
  | none => exact lv_astoreN hx hb hdg h hn hl kk
  | some x => exact lv_astore hx hb hdg h hn hl kk
theorem mq_ifnull (hx : p.tables.exec = Jvm.exec) (hb : c.code = cc) {r : Option Nat} {off : Int} {tgt : Nat} (hdg : decode cc pc = .ok (.ifnull off, 3)) (ht : (pc : Int) + off = (tgt : Int))
    (kn : r = none → W p l e R s m args below meth c H locs cells slots Q (F0 m tgt ls rest)) (ks : ∀ x : Nat, r = some x → W p l e R s m args below meth c H locs cells slots Q (F0 m (pc + 3) ls rest)) : W p l e R s m args below meth c H locs cells slots Q (F0 m pc ls (va_rf r :: rest)) := by
  cases r with
  | none => exact lv_ifnullN hx hb hdg ht (kn rfl)
  | some x => exact lv_ifnull hx hb hdg (ks x rfl)
theorem mq_ifnonnull (hx : p.tables.exec = Jvm.exec) (hb : c.code = cc) {r : Option Nat} {off : Int} {tgt : Nat} (hdg : decode cc pc = .ok (.ifnonnull off, 3)) (ht : (pc : Int) + off = (tgt : Int))
    (ks : ∀ x : Nat, r = some x → W p l e R s m args below meth c H locs cells slots Q (F0 m tgt ls rest)) (kn : r = none → W p l e R s m args below meth c H locs cells slots Q (F0 m (pc + 3) ls rest)) : W p l e R s m args below meth c H locs cells slots Q (F0 m pc ls (va_rf r :: rest)) := by
  cases r with
  | none => exact lv_ifnonnullN hx hb hdg (kn rfl)
  | some x => exact lv_ifnonnull hx hb hdg ht (ks x rfl)
end MRUN
theorem mq_nar (C : String) (r : Option Nat) : narrow (.object C) (va_rf r) = va_rf r := by cases r <;> rfl
theorem mq_fit (C : String) (r : Option Nat) : fits (.object C) (va_rf r) = true := by cases r <;> rfl
theorem mz_nar {v : Int32} (h : v = 0 ∨ v = 1) : narrow .boolean (.int v) = .int v := by rcases h with rfl | rfl <;> rfl
theorem mz_fit {v : Int32} (h : v = 0 ∨ v = 1) : fits .boolean (.int v) = true := by rcases h with rfl | rfl <;> rfl
theorem mz_nar2 {v : Int32} (h : v = 0 ∨ v = 1) : vp_nar .boolean v = v := by rcases h with rfl | rfl <;> rfl

theorem mn_ix {i : Int32} {j n : Nat} (hi : i = nI j) (hj : j < n) (hn : n < 2 ^ 31) : vp_in i n ∧ i.toNatClampNeg = j := by
  subst hi
  exact ⟨vp_in_nI hj hn, nI_clamp (by omega)⟩
section MNI
variable {p : Program} {l : Launch} {e : Env} {R : Room} {s : State} {m : MethodId} {args : Array Value} {below : List Frame} {meth : Method} {c : Code} {H : Heap} {locs : List Loc} {cells slots : Nat} {Q : State → Prop}
variable {cc : ByteArray} {pc nL : Nat} {ls : Array Slot} {rest : List Value} {D : va_G} {cl : List vw_C} {A : Nat → Prop} {a : Nat} {tys : List (ClassId × FieldType)} {M : mm_M} {H0 : Heap} {Ts : List Cond} {own : String} {i : Int32} {j n : Nat} {cA : ClassId}
theorem mn_iald (S : CallFix p m c cc nL s args Ts own) (hK : va_K D cl tys s) (hw : mm_w D cl A H0 M H locs) (t0 : Nat) {f : Nat → Int32} (ha : M a = some (.inl (cA, n, .inl f))) (ht : tys[t0]? = some (cA, .int)) (hi : i = nI j) (hj : j < n) (hn : n < 2 ^ 31) (hdg : decode cc pc = .ok (.iaload, 1))
    (kk : W p l e R s m args below meth c H locs cells slots Q (F0 m (pc + 1) ls (.int (f j) :: rest))) : W p l e R s m args below meth c H locs cells slots Q (F0 m pc ls (.int i :: .ref a :: rest)) :=
  mm_iald S hK hw t0 ha ht (mn_ix hi hj hn).1 hdg (by rw [(mn_ix hi hj hn).2]; exact kk)
theorem mn_zald (S : CallFix p m c cc nL s args Ts own) (hK : va_K D cl tys s) (hw : mm_w D cl A H0 M H locs) (t0 : Nat) {f : Nat → Int32} (ha : M a = some (.inl (cA, n, .inl f))) (ht : tys[t0]? = some (cA, .boolean)) (hi : i = nI j) (hj : j < n) (hn : n < 2 ^ 31) (hdg : decode cc pc = .ok (.baload, 1))
    (kk : W p l e R s m args below meth c H locs cells slots Q (F0 m (pc + 1) ls (.int (f j) :: rest))) : W p l e R s m args below meth c H locs cells slots Q (F0 m pc ls (.int i :: .ref a :: rest)) :=
  mm_zald S hK hw t0 ha ht (mn_ix hi hj hn).1 hdg (by rw [(mn_ix hi hj hn).2]; exact kk)
theorem mn_lald (S : CallFix p m c cc nL s args Ts own) (hK : va_K D cl tys s) (hw : mm_w D cl A H0 M H locs) (t0 : Nat) {f : Nat → Int64} (ha : M a = some (.inl (cA, n, .inr (.inl f)))) (ht : tys[t0]? = some (cA, .long)) (hi : i = nI j) (hj : j < n) (hn : n < 2 ^ 31) (hdg : decode cc pc = .ok (.laload, 1))
    (kk : W p l e R s m args below meth c H locs cells slots Q (F0 m (pc + 1) ls (.long (f j) :: rest))) : W p l e R s m args below meth c H locs cells slots Q (F0 m pc ls (.int i :: .ref a :: rest)) :=
  mm_lald S hK hw t0 ha ht (mn_ix hi hj hn).1 hdg (by rw [(mn_ix hi hj hn).2]; exact kk)
theorem mn_aldq (S : CallFix p m c cc nL s args Ts own) (hK : va_K D cl tys s) (hw : mm_w D cl A H0 M H locs) (t0 : Nat) {C : String} {f : Nat → Option Nat} (ha : M a = some (.inl (cA, n, .inr (.inr (.inr (.inr f)))))) (ht : tys[t0]? = some (cA, .object C)) (hi : i = nI j) (hj : j < n) (hn : n < 2 ^ 31) (hdg : decode cc pc = .ok (.aaload, 1))
    (kk : W p l e R s m args below meth c H locs cells slots Q (F0 m (pc + 1) ls (va_rf (f j) :: rest))) : W p l e R s m args below meth c H locs cells slots Q (F0 m pc ls (.int i :: .ref a :: rest)) :=
  mm_aldq S hK hw t0 ha ht (mn_ix hi hj hn).1 hdg (by rw [(mn_ix hi hj hn).2]; exact kk)
theorem mn_iast (S : CallFix p m c cc nL s args Ts own) (hK : va_K D cl tys s) (hw : mm_w D cl A H0 M H locs) (t0 : Nat) {f : Nat → Int32} (ha : M a = some (.inl (cA, n, .inl f))) (ht : tys[t0]? = some (cA, .int)) {x : Int32} (hi : i = nI j) (hj : j < n) (hn : n < 2 ^ 31) (hdg : decode cc pc = .ok (.iastore, 1))
    (kk : ∀ (H1 : Heap) (locs1 : List Loc), mm_w D cl A H0 (mm_up M a (.inl (cA, n, .inl (upd f j x)))) H1 locs1 → W p l e R s m args below meth c H1 locs1 cells slots Q (F0 m (pc + 1) ls rest)) : W p l e R s m args below meth c H locs cells slots Q (F0 m pc ls (.int x :: .int i :: .ref a :: rest)) :=
  mm_iast S hK hw t0 ha ht (mn_ix hi hj hn).1 hdg (by rw [(mn_ix hi hj hn).2]; exact kk)
theorem mn_zast (S : CallFix p m c cc nL s args Ts own) (hK : va_K D cl tys s) (hw : mm_w D cl A H0 M H locs) (t0 : Nat) {f : Nat → Int32} (ha : M a = some (.inl (cA, n, .inl f))) (ht : tys[t0]? = some (cA, .boolean)) {x : Int32} (hi : i = nI j) (hj : j < n) (hn : n < 2 ^ 31) (hz : vp_nar .boolean x = x) (hdg : decode cc pc = .ok (.bastore, 1))
    (kk : ∀ (H1 : Heap) (locs1 : List Loc), mm_w D cl A H0 (mm_up M a (.inl (cA, n, .inl (upd f j x)))) H1 locs1 → W p l e R s m args below meth c H1 locs1 cells slots Q (F0 m (pc + 1) ls rest)) : W p l e R s m args below meth c H locs cells slots Q (F0 m pc ls (.int x :: .int i :: .ref a :: rest)) :=
  mm_zast S hK hw t0 ha ht (mn_ix hi hj hn).1 hz hdg (by rw [(mn_ix hi hj hn).2]; exact kk)
theorem mn_last (S : CallFix p m c cc nL s args Ts own) (hK : va_K D cl tys s) (hw : mm_w D cl A H0 M H locs) (t0 : Nat) {f : Nat → Int64} (ha : M a = some (.inl (cA, n, .inr (.inl f)))) (ht : tys[t0]? = some (cA, .long)) {x : Int64} (hi : i = nI j) (hj : j < n) (hn : n < 2 ^ 31) (hdg : decode cc pc = .ok (.lastore, 1))
    (kk : ∀ (H1 : Heap) (locs1 : List Loc), mm_w D cl A H0 (mm_up M a (.inl (cA, n, .inr (.inl (vp_updL f j x))))) H1 locs1 → W p l e R s m args below meth c H1 locs1 cells slots Q (F0 m (pc + 1) ls rest)) : W p l e R s m args below meth c H locs cells slots Q (F0 m pc ls (.long x :: .int i :: .ref a :: rest)) :=
  mm_last S hK hw t0 ha ht (mn_ix hi hj hn).1 hdg (by rw [(mn_ix hi hj hn).2]; exact kk)
theorem mn_astq (S : CallFix p m c cc nL s args Ts own) (hK : va_K D cl tys s) (hw : mm_w D cl A H0 M H locs) (t0 ci : Nat) {r : vw_C} {v : Nat} {vs : List Value} {f : Nat → Option Nat} (ha : M a = some (.inl (cA, n, .inr (.inr (.inr (.inr f)))))) (ht : tys[t0]? = some (cA, .object r.1)) (hv : M v = some (.inr (ci, vs))) (hc : cl[ci]? = some r) (hi : i = nI j) (hj : j < n) (hn : n < 2 ^ 31) (hdg : decode cc pc = .ok (.aastore, 1))
    (kk : ∀ (H1 : Heap) (locs1 : List Loc), mm_w D cl A H0 (mm_up M a (.inl (cA, n, .inr (.inr (.inr (.inr (va_up f j (some v)))))))) H1 locs1 → W p l e R s m args below meth c H1 locs1 cells slots Q (F0 m (pc + 1) ls rest)) : W p l e R s m args below meth c H locs cells slots Q (F0 m pc ls (.ref v :: .int i :: .ref a :: rest)) :=
  mm_astq S hK hw t0 ci ha ht hv hc (mn_ix hi hj hn).1 hdg (by rw [(mn_ix hi hj hn).2]; exact kk)
end MNI

theorem oi_c : Cond.code objectInit ⟨#[0xb1]⟩ 1 none ∈ gt_l := gt_in (i := 26) rfl rfl
theorem bi_AR_init : mm_I y_AR_init b_AR_init 1 0 := ⟨⟨gw_23, gw_22, gw_8, rfl⟩, ⟨by decide, by decide, by decide +kernel⟩⟩
theorem bi_SE_init : mm_I y_SE_init b_SE_init 1 0 := ⟨⟨gw_33, gw_32, gw_9, rfl⟩, ⟨by decide, by decide, by decide +kernel⟩⟩
theorem bi_DR_init : mm_I y_DR_init b_DR_init 1 0 := ⟨⟨gw_53, gw_52, gw_10, rfl⟩, ⟨by decide, by decide, by decide +kernel⟩⟩
theorem bi_CS_init : mm_I y_CS_init b_CS_init 1 0 := ⟨⟨gw_69, gw_68, gw_11, rfl⟩, ⟨by decide, by decide, by decide +kernel⟩⟩
theorem bi_CG_init : mm_I y_CG_init b_CG_init 1 0 := ⟨⟨gw_79, gw_78, gw_12, rfl⟩, ⟨by decide, by decide, by decide +kernel⟩⟩
theorem bv_AR_level : mm_V "AbendRows" y_AR_level b_AR_level 5 (some (Jvm.ClassFile.FieldType.int)) 1 := ⟨⟨gw_125, gw_123, gw_124, gw_8⟩, ⟨by decide, by decide, by decide +kernel⟩⟩
theorem bv_AR_levelOf : mm_V "AbendRows" y_AR_levelOf b_AR_levelOf 2 (some ((Jvm.ClassFile.FieldType.object "AbendRows$Level"))) 1 := ⟨⟨gw_129, gw_128, gw_0, gw_8⟩, ⟨by decide, by decide, by decide +kernel⟩⟩
theorem bi_LV_init : mm_I y_LV_init b_LV_init 4 3 := ⟨⟨gw_133, gw_132, gw_14, rfl⟩, ⟨by decide, by decide, by decide +kernel⟩⟩
theorem bv_AR_exit : mm_V "AbendRows" y_AR_exit b_AR_exit 5 (some (Jvm.ClassFile.FieldType.int)) 3 := ⟨⟨gw_159, gw_157, gw_158, gw_8⟩, ⟨by decide, by decide, by decide +kernel⟩⟩
theorem bi_EX_init : mm_I y_EX_init b_EX_init 5 4 := ⟨⟨gw_164, gw_163, gw_15, rfl⟩, ⟨by decide, by decide, by decide +kernel⟩⟩
theorem bv_AR_abend : mm_V "AbendRows" y_AR_abend b_AR_abend 5 (some (Jvm.ClassFile.FieldType.int)) 2 := ⟨⟨gw_190, gw_188, gw_189, gw_8⟩, ⟨by decide, by decide, by decide +kernel⟩⟩
theorem bs_AR_isCode : mm_S y_AR_isCode b_AR_isCode 1 (some (Jvm.ClassFile.FieldType.boolean)) 1 := ⟨⟨gw_193, gw_192, gw_8⟩, ⟨by decide, by decide, by decide +kernel⟩⟩
theorem bv_SE_findEnd : mm_V "AbendRows$Search" y_SE_findEnd b_SE_findEnd 6 (some ((Jvm.ClassFile.FieldType.object "AbendRows$Level"))) 2 := ⟨⟨gw_197, gw_195, gw_196, gw_9⟩, ⟨by decide, by decide, by decide +kernel⟩⟩
theorem bv_SE_ask : mm_V "AbendRows$Search" y_SE_ask b_SE_ask 4 (some ((Jvm.ClassFile.FieldType.object "AbendRows$Level"))) 3 := ⟨⟨gw_201, gw_199, gw_200, gw_9⟩, ⟨by decide, by decide, by decide +kernel⟩⟩
theorem bv_SE_note : mm_V "AbendRows$Search" y_SE_note b_SE_note 2 none 1 := ⟨⟨gw_205, gw_203, gw_204, gw_9⟩, ⟨by decide, by decide, by decide +kernel⟩⟩
theorem bs_MA_min : mm_S y_MA_min b_MA_min 2 (some (Jvm.ClassFile.FieldType.int)) 2 := ⟨⟨gw_208, gw_207, gw_16⟩, ⟨by decide, by decide, by decide +kernel⟩⟩
theorem bs_SE_retriesNow : mm_S y_SE_retriesNow b_SE_retriesNow 2 (some (Jvm.ClassFile.FieldType.boolean)) 1 := ⟨⟨gw_211, gw_210, gw_9⟩, ⟨by decide, by decide, by decide +kernel⟩⟩
theorem bs_AR_loseExits : mm_S y_AR_loseExits b_AR_loseExits 3 none 2 := ⟨⟨gw_214, gw_213, gw_8⟩, ⟨by decide, by decide, by decide +kernel⟩⟩
theorem bv_CG_add : mm_V "AbendRows$CodeLog" y_CG_add b_CG_add 2 none 1 := ⟨⟨gw_218, gw_216, gw_217, gw_12⟩, ⟨by decide, by decide, by decide +kernel⟩⟩
theorem bv_AR_order : mm_V "AbendRows" y_AR_order b_AR_order 2 (some (Jvm.ClassFile.FieldType.int)) 1 := ⟨⟨gw_222, gw_220, gw_221, gw_8⟩, ⟨by decide, by decide, by decide +kernel⟩⟩
theorem bv_SE_askedAt : mm_V "AbendRows$Search" y_SE_askedAt b_SE_askedAt 2 (some (Jvm.ClassFile.FieldType.int)) 1 := ⟨⟨gw_226, gw_224, gw_225, gw_9⟩, ⟨by decide, by decide, by decide +kernel⟩⟩
theorem bv_AR_cancel : mm_V "AbendRows" y_AR_cancel b_AR_cancel 4 (some (Jvm.ClassFile.FieldType.int)) 1 := ⟨⟨gw_230, gw_228, gw_229, gw_8⟩, ⟨by decide, by decide, by decide +kernel⟩⟩
theorem bv_AR_restart : mm_V "AbendRows" y_AR_restart b_AR_restart 4 (some (Jvm.ClassFile.FieldType.int)) 2 := ⟨⟨gw_234, gw_232, gw_233, gw_8⟩, ⟨by decide, by decide, by decide +kernel⟩⟩
theorem bs_AR_isTask : mm_S y_AR_isTask b_AR_isTask 1 (some (Jvm.ClassFile.FieldType.boolean)) 1 := ⟨⟨gw_237, gw_236, gw_8⟩, ⟨by decide, by decide, by decide +kernel⟩⟩
theorem bv_CS_has : mm_V "AbendRows$CodeSet" y_CS_has b_CS_has 2 (some (Jvm.ClassFile.FieldType.boolean)) 1 := ⟨⟨gw_241, gw_239, gw_240, gw_11⟩, ⟨by decide, by decide, by decide +kernel⟩⟩
theorem bs_CS_bitOf : mm_S y_CS_bitOf b_CS_bitOf 1 (some (Jvm.ClassFile.FieldType.long)) 1 := ⟨⟨gw_245, gw_244, gw_11⟩, ⟨by decide, by decide, by decide +kernel⟩⟩
theorem bv_AR_guardsOf : mm_V "AbendRows" y_AR_guardsOf b_AR_guardsOf 7 (some (Jvm.ClassFile.FieldType.int)) 1 := ⟨⟨gw_251, gw_250, gw_1, gw_8⟩, ⟨by decide, by decide, by decide +kernel⟩⟩
theorem bv_GU_isHeldBy : mm_V "AbendRows$Guard" y_GU_isHeldBy b_GU_isHeldBy 2 (some (Jvm.ClassFile.FieldType.boolean)) 1 := ⟨⟨gw_255, gw_253, gw_254, gw_18⟩, ⟨by decide, by decide, by decide +kernel⟩⟩
theorem bv_AR_brokenGuardsOf : mm_V "AbendRows" y_AR_brokenGuardsOf b_AR_brokenGuardsOf 7 (some (Jvm.ClassFile.FieldType.int)) 1 := ⟨⟨gw_259, gw_258, gw_2, gw_8⟩, ⟨by decide, by decide, by decide +kernel⟩⟩
theorem bi_DU_init : mm_I y_DU_init b_DU_init 6 5 := ⟨⟨gw_262, gw_261, gw_17, rfl⟩, ⟨by decide, by decide, by decide +kernel⟩⟩
theorem bv_DR_keep : mm_V "AbendRows$DumpRow" y_DR_keep b_DR_keep 2 none 1 := ⟨⟨gw_288, gw_286, gw_287, gw_10⟩, ⟨by decide, by decide, by decide +kernel⟩⟩
theorem bv_AR_guard : mm_V "AbendRows" y_AR_guard b_AR_guard 3 (some (Jvm.ClassFile.FieldType.int)) 2 := ⟨⟨gw_292, gw_290, gw_291, gw_8⟩, ⟨by decide, by decide, by decide +kernel⟩⟩
theorem bi_GU_init : mm_I y_GU_init b_GU_init 3 2 := ⟨⟨gw_296, gw_295, gw_18, rfl⟩, ⟨by decide, by decide, by decide +kernel⟩⟩
theorem bv_AR_write : mm_V "AbendRows" y_AR_write b_AR_write 4 (some (Jvm.ClassFile.FieldType.int)) 2 := ⟨⟨gw_317, gw_315, gw_316, gw_8⟩, ⟨by decide, by decide, by decide +kernel⟩⟩
theorem bv_AR_guardOf : mm_V "AbendRows" y_AR_guardOf b_AR_guardOf 3 (some ((Jvm.ClassFile.FieldType.object "AbendRows$Guard"))) 1 := ⟨⟨gw_321, gw_320, gw_3, gw_8⟩, ⟨by decide, by decide, by decide +kernel⟩⟩
theorem bv_AR_free : mm_V "AbendRows" y_AR_free b_AR_free 3 (some (Jvm.ClassFile.FieldType.int)) 1 := ⟨⟨gw_325, gw_323, gw_324, gw_8⟩, ⟨by decide, by decide, by decide +kernel⟩⟩
theorem bv_AR_dump : mm_V "AbendRows" y_AR_dump b_AR_dump 5 (some (Jvm.ClassFile.FieldType.int)) 3 := ⟨⟨gw_329, gw_327, gw_328, gw_8⟩, ⟨by decide, by decide, by decide +kernel⟩⟩
theorem bv_DR_find : mm_V "AbendRows$DumpRow" y_DR_find b_DR_find 6 (some ((Jvm.ClassFile.FieldType.object "AbendRows$Dump"))) 2 := ⟨⟨gw_333, gw_331, gw_332, gw_10⟩, ⟨by decide, by decide, by decide +kernel⟩⟩
theorem bv_AR_loop : mm_V "AbendRows" y_AR_loop b_AR_loop 4 (some (Jvm.ClassFile.FieldType.int)) 2 := ⟨⟨gw_337, gw_335, gw_336, gw_8⟩, ⟨by decide, by decide, by decide +kernel⟩⟩
theorem bv_AR_suppress : mm_V "AbendRows" y_AR_suppress b_AR_suppress 4 (some (Jvm.ClassFile.FieldType.int)) 2 := ⟨⟨gw_342, gw_340, gw_341, gw_8⟩, ⟨by decide, by decide, by decide +kernel⟩⟩
theorem bv_CS_put : mm_V "AbendRows$CodeSet" y_CS_put b_CS_put 5 none 2 := ⟨⟨gw_346, gw_344, gw_345, gw_11⟩, ⟨by decide, by decide, by decide +kernel⟩⟩
theorem bv_AR_count : mm_V "AbendRows" y_AR_count b_AR_count 2 (some (Jvm.ClassFile.FieldType.int)) 1 := ⟨⟨gw_351, gw_349, gw_350, gw_8⟩, ⟨by decide, by decide, by decide +kernel⟩⟩
theorem bv_CG_timesOf : mm_V "AbendRows$CodeLog" y_CG_timesOf b_CG_timesOf 4 (some (Jvm.ClassFile.FieldType.int)) 1 := ⟨⟨gw_355, gw_353, gw_354, gw_12⟩, ⟨by decide, by decide, by decide +kernel⟩⟩
theorem bv_AR_region : mm_V "AbendRows" y_AR_region b_AR_region 2 (some (Jvm.ClassFile.FieldType.int)) 1 := ⟨⟨gw_359, gw_357, gw_358, gw_8⟩, ⟨by decide, by decide, by decide +kernel⟩⟩
theorem bv_AR_told : mm_V "AbendRows" y_AR_told b_AR_told 4 (some (Jvm.ClassFile.FieldType.int)) 2 := ⟨⟨gw_363, gw_361, gw_362, gw_8⟩, ⟨by decide, by decide, by decide +kernel⟩⟩
theorem bi_MO_init : mm_I y_MO_init b_MO_init 1 0 := ⟨⟨gw_368, gw_367, gw_13, rfl⟩, ⟨by decide, by decide, by decide +kernel⟩⟩
theorem bv_MO_level : mm_V "AbendRowsModel" y_MO_level b_MO_level 2 (some (Jvm.ClassFile.FieldType.int)) 1 := ⟨⟨gw_441, gw_439, gw_440, gw_13⟩, ⟨by decide, by decide, by decide +kernel⟩⟩
theorem bv_MO_isLevel : mm_V "AbendRowsModel" y_MO_isLevel b_MO_isLevel 2 (some (Jvm.ClassFile.FieldType.boolean)) 1 := ⟨⟨gw_445, gw_444, gw_4, gw_13⟩, ⟨by decide, by decide, by decide +kernel⟩⟩
theorem bv_MO_exit : mm_V "AbendRowsModel" y_MO_exit b_MO_exit 4 (some (Jvm.ClassFile.FieldType.int)) 3 := ⟨⟨gw_449, gw_447, gw_448, gw_13⟩, ⟨by decide, by decide, by decide +kernel⟩⟩
theorem bv_MO_cancel : mm_V "AbendRowsModel" y_MO_cancel b_MO_cancel 2 (some (Jvm.ClassFile.FieldType.int)) 1 := ⟨⟨gw_453, gw_451, gw_452, gw_13⟩, ⟨by decide, by decide, by decide +kernel⟩⟩
theorem bv_MO_abend : mm_V "AbendRowsModel" y_MO_abend b_MO_abend 9 (some (Jvm.ClassFile.FieldType.int)) 2 := ⟨⟨gw_457, gw_455, gw_456, gw_13⟩, ⟨by decide, by decide, by decide +kernel⟩⟩
theorem bs_MO_isCode : mm_S y_MO_isCode b_MO_isCode 1 (some (Jvm.ClassFile.FieldType.boolean)) 1 := ⟨⟨gw_460, gw_459, gw_13⟩, ⟨by decide, by decide, by decide +kernel⟩⟩
theorem bv_MO_endOf : mm_V "AbendRowsModel" y_MO_endOf b_MO_endOf 4 (some (Jvm.ClassFile.FieldType.int)) 3 := ⟨⟨gw_464, gw_463, gw_5, gw_13⟩, ⟨by decide, by decide, by decide +kernel⟩⟩
theorem bv_MO_order : mm_V "AbendRowsModel" y_MO_order b_MO_order 2 (some (Jvm.ClassFile.FieldType.int)) 1 := ⟨⟨gw_468, gw_466, gw_467, gw_13⟩, ⟨by decide, by decide, by decide +kernel⟩⟩
theorem bv_MO_count : mm_V "AbendRowsModel" y_MO_count b_MO_count 2 (some (Jvm.ClassFile.FieldType.int)) 1 := ⟨⟨gw_472, gw_470, gw_471, gw_13⟩, ⟨by decide, by decide, by decide +kernel⟩⟩
theorem bv_MO_region : mm_V "AbendRowsModel" y_MO_region b_MO_region 2 (some (Jvm.ClassFile.FieldType.int)) 1 := ⟨⟨gw_476, gw_474, gw_475, gw_13⟩, ⟨by decide, by decide, by decide +kernel⟩⟩
theorem bv_MO_restart : mm_V "AbendRowsModel" y_MO_restart b_MO_restart 7 (some (Jvm.ClassFile.FieldType.int)) 2 := ⟨⟨gw_480, gw_478, gw_479, gw_13⟩, ⟨by decide, by decide, by decide +kernel⟩⟩
theorem bs_MO_isTask : mm_S y_MO_isTask b_MO_isTask 1 (some (Jvm.ClassFile.FieldType.boolean)) 1 := ⟨⟨gw_483, gw_482, gw_13⟩, ⟨by decide, by decide, by decide +kernel⟩⟩
theorem bv_MO_dump : mm_V "AbendRowsModel" y_MO_dump b_MO_dump 6 (some (Jvm.ClassFile.FieldType.int)) 3 := ⟨⟨gw_487, gw_485, gw_486, gw_13⟩, ⟨by decide, by decide, by decide +kernel⟩⟩
theorem bv_MO_suppress : mm_V "AbendRowsModel" y_MO_suppress b_MO_suppress 4 (some (Jvm.ClassFile.FieldType.int)) 2 := ⟨⟨gw_491, gw_489, gw_490, gw_13⟩, ⟨by decide, by decide, by decide +kernel⟩⟩
theorem bv_MO_loop : mm_V "AbendRowsModel" y_MO_loop b_MO_loop 5 (some (Jvm.ClassFile.FieldType.int)) 2 := ⟨⟨gw_495, gw_493, gw_494, gw_13⟩, ⟨by decide, by decide, by decide +kernel⟩⟩
theorem bv_MO_guard : mm_V "AbendRowsModel" y_MO_guard b_MO_guard 3 (some (Jvm.ClassFile.FieldType.int)) 2 := ⟨⟨gw_500, gw_498, gw_499, gw_13⟩, ⟨by decide, by decide, by decide +kernel⟩⟩
theorem bv_MO_write : mm_V "AbendRowsModel" y_MO_write b_MO_write 3 (some (Jvm.ClassFile.FieldType.int)) 2 := ⟨⟨gw_504, gw_502, gw_503, gw_13⟩, ⟨by decide, by decide, by decide +kernel⟩⟩
theorem bv_MO_isGuard : mm_V "AbendRowsModel" y_MO_isGuard b_MO_isGuard 2 (some (Jvm.ClassFile.FieldType.boolean)) 1 := ⟨⟨gw_508, gw_507, gw_6, gw_13⟩, ⟨by decide, by decide, by decide +kernel⟩⟩
theorem bv_MO_free : mm_V "AbendRowsModel" y_MO_free b_MO_free 3 (some (Jvm.ClassFile.FieldType.int)) 1 := ⟨⟨gw_512, gw_510, gw_511, gw_13⟩, ⟨by decide, by decide, by decide +kernel⟩⟩
theorem bv_MO_told : mm_V "AbendRowsModel" y_MO_told b_MO_told 3 (some (Jvm.ClassFile.FieldType.int)) 2 := ⟨⟨gw_516, gw_514, gw_515, gw_13⟩, ⟨by decide, by decide, by decide +kernel⟩⟩
