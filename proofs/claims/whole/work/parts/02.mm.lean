/-! THE MEMORY: all cells that a system has, as one partial map from addresses; a method's contract speaks of the whole map -/
abbrev mm_M : Type := Nat → Option va_E
def mm_up (M : mm_M) (a : Nat) (e : va_E) : mm_M := fun q => if q = a then some e else M q
theorem mm_us {M : mm_M} {a : Nat} {e : va_E} : mm_up M a e a = some e := by simp [mm_up]
theorem mm_un {M : mm_M} {a q : Nat} {e : va_E} (h : q ≠ a) : mm_up M a e q = M q := by simp [mm_up, h]
theorem mm_ne {M : mm_M} {a b : Nat} {x y : va_E} (ha : M a = some x) (hb : M b = some y) (h : x ≠ y) : a ≠ b := fun q => h (by rw [q] at ha; exact Option.some.inj (ha.symm.trans hb))
/-- a cell that is another one, by what it holds, stays -/
theorem mm_uk {M : mm_M} {a b : Nat} {x y e : va_E} (ha : M a = some x) (hb : M b = some y) (h : y ≠ x) : mm_up M a e b = some y := by
  rw [mm_un (fun q => mm_ne hb ha h q)]; exact hb
/-- a new cell is none of the old ones -/
theorem mm_fk {M : mm_M} {a b : Nat} {y e : va_E} (ha : M a = none) (hb : M b = some y) : mm_up M a e b = some y := by
  rw [mm_un (fun q => by rw [q, ha] at hb; cases hb)]; exact hb
def mm_has (D : va_G) (cl : List vw_C) (M : mm_M) (H : Heap) : Prop := ∀ (a : Nat) (e : va_E), M a = some e → va_at D cl (a, e) H
/-- the walk's world: the heap holds M; M lies in A; nothing outside A has changed since H0 -/
def mm_w (D : va_G) (cl : List vw_C) (A : Nat → Prop) (H0 : Heap) (M : mm_M) (H : Heap) (locs : List Loc) : Prop := mm_has D cl M H ∧ (∀ (a : Nat) (e : va_E), M a = some e → A a) ∧ va_S A H0 H locs ∧ ∀ q : Nat, H0.size ≤ q → A q
def mm_ls (M : mm_M) (n : Nat) : va_W := (List.range n).filterMap (fun a => (M a).map (fun e => (a, e)))
theorem mm_ls_in {M : mm_M} {n a : Nat} {e : va_E} : (a, e) ∈ mm_ls M n ↔ a < n ∧ M a = some e := by
  unfold mm_ls
  rw [List.mem_filterMap]
  constructor
  · rintro ⟨b, hb, h⟩
    cases hM : M b with
    | none => rw [hM] at h; cases h
    | some x =>
      rw [hM] at h
      have h2 := Option.some.inj h
      have h3 : b = a := congrArg Prod.fst h2
      have h4 : x = e := congrArg Prod.snd h2
      subst h3; subst h4
      exact ⟨List.mem_range.mp hb, hM⟩
  · rintro ⟨h1, h2⟩
    exact ⟨a, List.mem_range.mpr h1, by rw [h2]; rfl⟩
theorem mm_ls_lt (M : mm_M) (n : Nat) : (mm_ls M n).Pairwise (fun x y => x.1 < y.1) := by
  unfold mm_ls
  rw [List.pairwise_filterMap]
  refine List.Pairwise.imp ?_ List.pairwise_lt_range
  intro a b hab x hx y hy
  cases hA : M a with
  | none => rw [hA] at hx; cases hx
  | some e1 =>
    cases hB : M b with
    | none => rw [hB] at hy; cases hy
    | some e2 =>
      rw [hA] at hx
      rw [hB] at hy
      cases hx; cases hy
      exact hab
theorem mm_P {D : va_G} {cl : List vw_C} {M : mm_M} {H : Heap} (h : mm_has D cl M H) : va_P D cl (mm_ls M H.size) H := fun k q hk => by
  obtain ⟨a, e⟩ := q
  exact h a e (mm_ls_in.mp (List.mem_of_getElem? hk)).2
theorem mm_D {A : Nat → Prop} {M : mm_M} {n : Nat} (h : ∀ (a : Nat) (e : va_E), M a = some e → A a) : va_D A (mm_ls M n) := by
  refine ⟨fun i j x y hi hj hxy => ?_, fun k q hk => ?_⟩
  · have hp := List.pairwise_iff_getElem.mp (mm_ls_lt M n)
    obtain ⟨hi1, hi2⟩ := List.getElem?_eq_some_iff.mp hi
    obtain ⟨hj1, hj2⟩ := List.getElem?_eq_some_iff.mp hj
    rcases Nat.lt_trichotomy i j with g | g | g
    · have := hp i j hi1 hj1 g
      rw [hi2, hj2, hxy] at this
      exact absurd this (Nat.lt_irrefl _)
    · exact g
    · have := hp j i hj1 hi1 g
      rw [hi2, hj2, hxy] at this
      exact absurd this (Nat.lt_irrefl _)
  · obtain ⟨a, e⟩ := q
    exact h a e (mm_ls_in.mp (List.mem_of_getElem? hk)).2
theorem mm_ix {D : va_G} {cl : List vw_C} {M : mm_M} {H : Heap} {a : Nat} {e : va_E} (h : mm_has D cl M H) (ha : M a = some e) : ∃ k : Nat, (mm_ls M H.size)[k]? = some (a, e) :=
  List.getElem?_of_mem (mm_ls_in.mpr ⟨(h a e ha).lt, ha⟩)
theorem mm_set {D : va_G} {cl : List vw_C} {A : Nat → Prop} {H0 H H1 : Heap} {M : mm_M} {locs locs1 : List Loc} {k a : Nat} {e0 e : va_E} (hw : mm_w D cl A H0 M H locs) (hk : (mm_ls M H.size)[k]? = some (a, e0)) (hP1 : va_P D cl ((mm_ls M H.size).set k (a, e)) H1) (hS1 : va_S A H0 H1 locs1) : mm_w D cl A H0 (mm_up M a e) H1 locs1 := by
  have hl := (List.getElem?_eq_some_iff.mp hk).1
  have haM := (mm_ls_in.mp (List.mem_of_getElem? hk)).2
  refine ⟨fun b x hb => ?_, fun b x hb => ?_, hS1, hw.2.2.2⟩
  · by_cases hba : b = a
    · subst hba
      rw [mm_us] at hb
      cases hb
      exact hP1 k _ (List.getElem?_set_self hl)
    · rw [mm_un hba] at hb
      obtain ⟨j, hj⟩ := mm_ix hw.1 hb
      have hjk : k ≠ j := fun q => by
        rw [q, hj] at hk
        exact hba (congrArg Prod.fst (Option.some.inj hk))
      exact hP1 j _ (by rw [List.getElem?_set_ne hjk]; exact hj)
  · by_cases hba : b = a
    · rw [hba]; exact hw.2.1 a e0 haM
    · rw [mm_un hba] at hb
      exact hw.2.1 b x hb
theorem mm_push {D : va_G} {cl : List vw_C} {A : Nat → Prop} {H0 H H1 : Heap} {M : mm_M} {locs locs1 : List Loc} {q : Nat} {e : va_E} (hw : mm_w D cl A H0 M H locs) (hP1 : va_P D cl (mm_ls M H.size ++ [(q, e)]) H1) (hD1 : va_D A (mm_ls M H.size ++ [(q, e)])) (hS1 : va_S A H0 H1 locs1) : M q = none ∧ mm_w D cl A H0 (mm_up M q e) H1 locs1 := by
  have hend : (mm_ls M H.size ++ [(q, e)])[(mm_ls M H.size).length]? = some (q, e) := by rw [List.getElem?_append_right (Nat.le_refl _), Nat.sub_self]; rfl
  have hbef : ∀ (k : Nat) (x : Nat × va_E), (mm_ls M H.size)[k]? = some x → (mm_ls M H.size ++ [(q, e)])[k]? = some x := fun k x hx => by
    rw [List.getElem?_append_left (List.getElem?_eq_some_iff.mp hx).1]; exact hx
  have hq : M q = none := by
    cases hM : M q with
    | none => rfl
    | some x =>
      obtain ⟨k, hk⟩ := mm_ix hw.1 hM
      have h1 := hD1.1 _ _ _ _ (hbef k _ hk) hend rfl
      have h2 := (List.getElem?_eq_some_iff.mp hk).1
      omega
  refine ⟨hq, fun b x hb => ?_, fun b x hb => ?_, hS1, hw.2.2.2⟩
  · by_cases hba : b = q
    · subst hba
      rw [mm_us] at hb
      cases hb
      exact hP1 _ _ hend
    · rw [mm_un hba] at hb
      obtain ⟨j, hj⟩ := mm_ix hw.1 hb
      exact hP1 j _ (hbef j _ hj)
  · by_cases hba : b = q
    · rw [hba]; exact hD1.2 _ _ hend
    · rw [mm_un hba] at hb
      exact hw.2.1 b x hb
section MMR
variable {p : Program} {l : Launch} {e : Env} {R : Room} {s : State} {m : MethodId} {args : Array Value} {below : List Frame} {meth : Method} {c : Code} {H : Heap} {locs : List Loc} {cells slots : Nat} {Q : State → Prop}
variable {cc : ByteArray} {pc nL : Nat} {ls : Array Slot} {rest : List Value} {D : va_G} {cl : List vw_C} {A : Nat → Prop} {a : Nat} {tys : List (ClassId × FieldType)} {M : mm_M} {H0 : Heap} {Ts : List Cond} {own : String}
theorem mm_get (S : CallFix p m c cc nL s args Ts own) (hK : va_K D cl tys s) (hw : mm_w D cl A H0 M H locs) {C ref : String} {T : u_T} {N ci index : Nat} {fs : List Value} (hc : M a = some (.inr (ci, fs))) (hcl : cl[ci]? = some (C, T, N)) (hin : ∀ w ∈ u_ws C T N, w ∈ Ts) (k : Nat) (hk : k < N) (hlink : Cond.fieldLink own index ref (T k).2.1 (T k).2.2.1 ∈ Ts) (hsame : ref = (T k).1) {v : Value} (hv : fs[k]? = some v) (hdg : decode cc pc = .ok (.getfield index, 3))
    (kk : W p l e R s m args below meth c H locs cells slots Q (F0 m (pc + 3) ls (v :: rest))) : W p l e R s m args below meth c H locs cells slots Q (F0 m pc ls (.ref a :: rest)) := by
  obtain ⟨i, hi⟩ := mm_ix hw.1 hc
  exact va_get S.1 S.2.1 S.2.2.2.2 hin S.2.2.2.1 hK (mm_P hw.1) i hi hcl k hk (S.2.2.2.2 _ hlink) (fun x h => by rw [hsame]; exact h) hv hdg kk
theorem mm_put (S : CallFix p m c cc nL s args Ts own) (hK : va_K D cl tys s) (hw : mm_w D cl A H0 M H locs) {C ref : String} {T : u_T} {N ci index : Nat} {fs : List Value} (hc : M a = some (.inr (ci, fs))) (hcl : cl[ci]? = some (C, T, N)) (hin : ∀ w ∈ u_ws C T N, w ∈ Ts) (ty0 : Nat → FieldType) (hty : ∀ k, k < N → parseFieldDescriptor (T k).2.2.1 = some (ty0 k)) (hnm : ∀ a, a < N → ∀ b, b < N → a ≠ b → (T a).2.1 ≠ (T b).2.1) (k : Nat) (hk : k < N) (hlink : Cond.fieldLink own index ref (T k).2.1 (T k).2.2.1 ∈ Ts) (hsame : ref = (T k).1) (hfin : (T k).2.2.2 = false) {ty : FieldType} {v : Value} (hd : parseFieldDescriptor (T k).2.2.1 = some ty) (hn : narrow ty v = v) (hfit : fits ty v = true) (hl : k < fs.length) (hdg : decode cc pc = .ok (.putfield index, 3))
    (kk : ∀ (H1 : Heap) (locs1 : List Loc), mm_w D cl A H0 (mm_up M a (.inr (ci, fs.set k v))) H1 locs1 → W p l e R s m args below meth c H1 locs1 cells slots Q (F0 m (pc + 3) ls rest)) : W p l e R s m args below meth c H locs cells slots Q (F0 m pc ls (v :: .ref a :: rest)) := by
  obtain ⟨i, hi⟩ := mm_ix hw.1 hc
  exact va_put S.1 S.2.1 S.2.2.2.2 hin ty0 hty hnm S.2.2.2.1 hK (mm_P hw.1) (mm_D hw.2.1) hw.2.2.1 i hi hcl k hk (S.2.2.2.2 _ hlink) (fun x h => by rw [hsame]; exact h) hfin hd hn hfit hl hdg (fun H1 locs1 hP1 _ hS1 => kk H1 locs1 (mm_set hw hi hP1 hS1))
theorem mm_putF (S : CallFix p m c cc nL s args Ts own) (hK : va_K D cl tys s) (hw : mm_w D cl A H0 M H locs) {C ref : String} {T : u_T} {N ci index : Nat} {fs : List Value} (hc : M a = some (.inr (ci, fs))) (hcl : cl[ci]? = some (C, T, N)) (hin : ∀ w ∈ u_ws C T N, w ∈ Ts) (ty0 : Nat → FieldType) (hty : ∀ k, k < N → parseFieldDescriptor (T k).2.2.1 = some (ty0 k)) (hnm : ∀ a, a < N → ∀ b, b < N → a ≠ b → (T a).2.1 ≠ (T b).2.1) (k : Nat) (hk : k < N) (hlink : Cond.fieldLink own index ref (T k).2.1 (T k).2.2.1 ∈ Ts) (hsame : ref = (T k).1) (hfin : (T k).2.2.2 = true) (hin2 : meth.name = "<init>") (hdecl : (T k).1 = own) {ty : FieldType} {v : Value} (hd : parseFieldDescriptor (T k).2.2.1 = some ty) (hn : narrow ty v = v) (hfit : fits ty v = true) (hl : k < fs.length) (hdg : decode cc pc = .ok (.putfield index, 3))
    (kk : ∀ (H1 : Heap) (locs1 : List Loc), mm_w D cl A H0 (mm_up M a (.inr (ci, fs.set k v))) H1 locs1 → W p l e R s m args below meth c H1 locs1 cells slots Q (F0 m (pc + 3) ls rest)) : W p l e R s m args below meth c H locs cells slots Q (F0 m pc ls (v :: .ref a :: rest)) := by
  obtain ⟨i, hi⟩ := mm_ix hw.1 hc
  exact va_putF S.1 S.2.1 S.2.2.2.2 hin ty0 hty hnm S.2.2.2.1 hK (mm_P hw.1) (mm_D hw.2.1) hw.2.2.1 i hi hcl k hk (S.2.2.2.2 _ hlink) (fun x h => by rw [hsame]; exact h) hfin hin2 hdecl hd hn hfit hl hdg (fun H1 locs1 hP1 _ hS1 => kk H1 locs1 (mm_set hw hi hP1 hS1))
theorem mm_iald (S : CallFix p m c cc nL s args Ts own) (hK : va_K D cl tys s) (hw : mm_w D cl A H0 M H locs) (t0 : Nat) {cA : ClassId} {n : Nat} {f : Nat → Int32} (ha : M a = some (.inl (cA, n, .inl f))) (ht : tys[t0]? = some (cA, .int)) {i : Int32} (hin : vp_in i n) (hdg : decode cc pc = .ok (.iaload, 1))
    (kk : W p l e R s m args below meth c H locs cells slots Q (F0 m (pc + 1) ls (.int (f i.toNatClampNeg) :: rest))) : W p l e R s m args below meth c H locs cells slots Q (F0 m pc ls (.int i :: .ref a :: rest)) := by
  obtain ⟨j, hj⟩ := mm_ix hw.1 ha
  exact va_iald S.1 S.2.1 hK (mm_P hw.1) j t0 hj ht hin hdg kk
theorem mm_zald (S : CallFix p m c cc nL s args Ts own) (hK : va_K D cl tys s) (hw : mm_w D cl A H0 M H locs) (t0 : Nat) {cA : ClassId} {n : Nat} {f : Nat → Int32} (ha : M a = some (.inl (cA, n, .inl f))) (ht : tys[t0]? = some (cA, .boolean)) {i : Int32} (hin : vp_in i n) (hdg : decode cc pc = .ok (.baload, 1))
    (kk : W p l e R s m args below meth c H locs cells slots Q (F0 m (pc + 1) ls (.int (f i.toNatClampNeg) :: rest))) : W p l e R s m args below meth c H locs cells slots Q (F0 m pc ls (.int i :: .ref a :: rest)) := by
  obtain ⟨j, hj⟩ := mm_ix hw.1 ha
  exact va_zald S.1 S.2.1 hK (mm_P hw.1) j t0 hj ht hin hdg kk
theorem mm_lald (S : CallFix p m c cc nL s args Ts own) (hK : va_K D cl tys s) (hw : mm_w D cl A H0 M H locs) (t0 : Nat) {cA : ClassId} {n : Nat} {f : Nat → Int64} (ha : M a = some (.inl (cA, n, .inr (.inl f)))) (ht : tys[t0]? = some (cA, .long)) {i : Int32} (hin : vp_in i n) (hdg : decode cc pc = .ok (.laload, 1))
    (kk : W p l e R s m args below meth c H locs cells slots Q (F0 m (pc + 1) ls (.long (f i.toNatClampNeg) :: rest))) : W p l e R s m args below meth c H locs cells slots Q (F0 m pc ls (.int i :: .ref a :: rest)) := by
  obtain ⟨j, hj⟩ := mm_ix hw.1 ha
  exact va_lald S.1 S.2.1 hK (mm_P hw.1) j t0 hj ht hin hdg kk
theorem mm_aldq (S : CallFix p m c cc nL s args Ts own) (hK : va_K D cl tys s) (hw : mm_w D cl A H0 M H locs) (t0 : Nat) {cA : ClassId} {C : String} {n : Nat} {f : Nat → Option Nat} (ha : M a = some (.inl (cA, n, .inr (.inr (.inr (.inr f)))))) (ht : tys[t0]? = some (cA, .object C)) {i : Int32} (hin : vp_in i n) (hdg : decode cc pc = .ok (.aaload, 1))
    (kk : W p l e R s m args below meth c H locs cells slots Q (F0 m (pc + 1) ls (va_rf (f i.toNatClampNeg) :: rest))) : W p l e R s m args below meth c H locs cells slots Q (F0 m pc ls (.int i :: .ref a :: rest)) := by
  obtain ⟨j, hj⟩ := mm_ix hw.1 ha
  exact va_aldq S.1 S.2.1 hK (mm_P hw.1) j t0 hj ht hin hdg kk
theorem mm_alen (S : CallFix p m c cc nL s args Ts own) (hK : va_K D cl tys s) (hw : mm_w D cl A H0 M H locs) (t0 : Nat) {cA : ClassId} {x : vp_A} (ha : M a = some (.inl (cA, x))) {ty : FieldType} (ht : tys[t0]? = some (cA, ty)) {v : Int32} (hv : Int32.ofNat x.1 = v) (hdg : decode cc pc = .ok (.arraylength, 1))
    (kk : W p l e R s m args below meth c H locs cells slots Q (F0 m (pc + 1) ls (.int v :: rest))) : W p l e R s m args below meth c H locs cells slots Q (F0 m pc ls (.ref a :: rest)) := by
  obtain ⟨j, hj⟩ := mm_ix hw.1 ha
  exact va_alen S.1 S.2.1 hK (mm_P hw.1) j t0 hj ht hv hdg kk
theorem mm_iast (S : CallFix p m c cc nL s args Ts own) (hK : va_K D cl tys s) (hw : mm_w D cl A H0 M H locs) (t0 : Nat) {cA : ClassId} {n : Nat} {f : Nat → Int32} (ha : M a = some (.inl (cA, n, .inl f))) (ht : tys[t0]? = some (cA, .int)) {i x : Int32} (hin : vp_in i n) (hdg : decode cc pc = .ok (.iastore, 1))
    (kk : ∀ (H1 : Heap) (locs1 : List Loc), mm_w D cl A H0 (mm_up M a (.inl (cA, n, .inl (upd f i.toNatClampNeg x)))) H1 locs1 → W p l e R s m args below meth c H1 locs1 cells slots Q (F0 m (pc + 1) ls rest)) : W p l e R s m args below meth c H locs cells slots Q (F0 m pc ls (.int x :: .int i :: .ref a :: rest)) := by
  obtain ⟨j, hj⟩ := mm_ix hw.1 ha
  exact va_iast S.1 S.2.1 hK (mm_P hw.1) (mm_D hw.2.1) hw.2.2.1 j t0 hj ht hin hdg (fun H1 locs1 hP1 _ hS1 => kk H1 locs1 (mm_set hw hj hP1 hS1))
theorem mm_last (S : CallFix p m c cc nL s args Ts own) (hK : va_K D cl tys s) (hw : mm_w D cl A H0 M H locs) (t0 : Nat) {cA : ClassId} {n : Nat} {f : Nat → Int64} (ha : M a = some (.inl (cA, n, .inr (.inl f)))) (ht : tys[t0]? = some (cA, .long)) {i : Int32} {x : Int64} (hin : vp_in i n) (hdg : decode cc pc = .ok (.lastore, 1))
    (kk : ∀ (H1 : Heap) (locs1 : List Loc), mm_w D cl A H0 (mm_up M a (.inl (cA, n, .inr (.inl (vp_updL f i.toNatClampNeg x))))) H1 locs1 → W p l e R s m args below meth c H1 locs1 cells slots Q (F0 m (pc + 1) ls rest)) : W p l e R s m args below meth c H locs cells slots Q (F0 m pc ls (.long x :: .int i :: .ref a :: rest)) := by
  obtain ⟨j, hj⟩ := mm_ix hw.1 ha
  exact va_last S.1 S.2.1 hK (mm_P hw.1) (mm_D hw.2.1) hw.2.2.1 j t0 hj ht hin hdg (fun H1 locs1 hP1 _ hS1 => kk H1 locs1 (mm_set hw hj hP1 hS1))
theorem mm_zast (S : CallFix p m c cc nL s args Ts own) (hK : va_K D cl tys s) (hw : mm_w D cl A H0 M H locs) (t0 : Nat) {cA : ClassId} {n : Nat} {f : Nat → Int32} (ha : M a = some (.inl (cA, n, .inl f))) (ht : tys[t0]? = some (cA, .boolean)) {i x : Int32} (hin : vp_in i n) (hx : vp_nar .boolean x = x) (hdg : decode cc pc = .ok (.bastore, 1))
    (kk : ∀ (H1 : Heap) (locs1 : List Loc), mm_w D cl A H0 (mm_up M a (.inl (cA, n, .inl (upd f i.toNatClampNeg x)))) H1 locs1 → W p l e R s m args below meth c H1 locs1 cells slots Q (F0 m (pc + 1) ls rest)) : W p l e R s m args below meth c H locs cells slots Q (F0 m pc ls (.int x :: .int i :: .ref a :: rest)) := by
  obtain ⟨j, hj⟩ := mm_ix hw.1 ha
  exact va_zast S.1 S.2.1 hK (mm_P hw.1) (mm_D hw.2.1) hw.2.2.1 j t0 hj ht hin hdg (fun H1 locs1 hP1 _ hS1 => kk H1 locs1 (mm_set hw hj (by rw [hx] at hP1; exact hP1) hS1))
theorem mm_astq (S : CallFix p m c cc nL s args Ts own) (hK : va_K D cl tys s) (hw : mm_w D cl A H0 M H locs) (t0 ci : Nat) {cA : ClassId} {r : vw_C} {n v : Nat} {vs : List Value} {f : Nat → Option Nat} (ha : M a = some (.inl (cA, n, .inr (.inr (.inr (.inr f)))))) (ht : tys[t0]? = some (cA, .object r.1)) (hv : M v = some (.inr (ci, vs))) (hc : cl[ci]? = some r) {i : Int32} (hin : vp_in i n) (hdg : decode cc pc = .ok (.aastore, 1))
    (kk : ∀ (H1 : Heap) (locs1 : List Loc), mm_w D cl A H0 (mm_up M a (.inl (cA, n, .inr (.inr (.inr (.inr (va_up f i.toNatClampNeg (some v)))))))) H1 locs1 → W p l e R s m args below meth c H1 locs1 cells slots Q (F0 m (pc + 1) ls rest)) : W p l e R s m args below meth c H locs cells slots Q (F0 m pc ls (.ref v :: .int i :: .ref a :: rest)) := by
  obtain ⟨j, hj⟩ := mm_ix hw.1 ha
  obtain ⟨jv, hjv⟩ := mm_ix hw.1 hv
  exact va_astq S.1 S.2.1 hK (mm_P hw.1) (mm_D hw.2.1) hw.2.2.1 j t0 jv ci hj ht hjv hc hin hdg (fun H1 locs1 hP1 _ hS1 => kk H1 locs1 (mm_set hw hj hP1 hS1))
theorem mm_new (S : CallFix p m c cc nL s args Ts own) (hK : va_K D cl tys s) (hw : mm_w D cl A H0 M H locs) {C : String} {T : u_T} {N ci index : Nat} (hcl : cl[ci]? = some (C, T, N)) (hin : ∀ w ∈ u_ws C T N, w ∈ Ts) (ty : Nat → FieldType) (hty : ∀ k, k < N → parseFieldDescriptor (T k).2.2.1 = some (ty k)) (hli : Cond.classLink own index C ∈ Ts) (hinst : Cond.instantiable C N ∈ Ts) (hini : Cond.initialized C ∈ Ts) {fs : List Value} (hfs : ∀ j, j < N → defaultValue (ty j) = vp_V fs j) (hcells : cells + 1 ≤ R.cells) (hslots : slots + N ≤ R.slots) (hdg : decode cc pc = .ok (.new index, 3))
    (kk : ∀ (q : Nat) (H1 : Heap), M q = none → mm_w D cl A H0 (mm_up M q (.inr (ci, fs))) H1 locs → W p l e R s m args below meth c H1 locs (cells + 1) (slots + N) Q (F0 m (pc + 3) ls (.ref q :: rest))) : W p l e R s m args below meth c H locs cells slots Q (F0 m pc ls rest) :=
  va_new S.1 S.2.1 S.2.2.2.2 hin ty hty S.2.2.2.1 (S.2.2.2.2 _ hli) (S.2.2.2.2 _ hinst) (S.2.2.2.2 _ hini) hK (mm_P hw.1) (mm_D hw.2.1) hw.2.2.1 hw.2.2.2 hcl hfs hcells hslots hdg (fun q H1 hP1 hD1 hS1 => by
    obtain ⟨h1, h2⟩ := mm_push hw hP1 hD1 hS1
    exact kk q H1 h1 h2)
/-- a new array of numbers: its class is the one that the tables name -/
theorem mm_newa (S : CallFix p m c cc nL s args Ts own) (hK : va_K D cl tys s) (hw : mm_w D cl A H0 M H locs) (t0 : Nat) {cA : ClassId} {atype : ArrayType} {ty : FieldType} (harr : Cond.arrayClass (newarray.typeOf atype) ∈ Ts) (hty : newarray.typeOf atype = ty) (ht : tys[t0]? = some (cA, ty)) (hfc : s.vm.findClass ("[" ++ ty.toString) = some cA)
    {n : Int32} {N' : Nat} {a0 : vp_A} (ha : ∀ cA : ClassId, vp_cell cA a0 = arrV cA N' (fun _ => defaultValue ty)) (hn : ¬ n < 0) (hN : n.toNatClampNeg = N') (hbytes : N' * componentBytes ty ≤ 536870912) (hcells : cells + 1 ≤ R.cells) (hslots : slots + N' ≤ R.slots) (hprim : ∀ C : String, ty ≠ .object C) (hdg : decode cc pc = .ok (.newarray atype, 2))
    (kk : ∀ (q : Nat) (H1 : Heap), M q = none → mm_w D cl A H0 (mm_up M q (.inl (cA, a0))) H1 locs → W p l e R s m args below meth c H1 locs (cells + 1) (slots + N') Q (F0 m (pc + 2) ls (.ref q :: rest))) : W p l e R s m args below meth c H locs cells slots Q (F0 m pc ls (.int n :: rest)) :=
  va_newa S.1 S.2.1 (S.2.2.2.2 _ harr) hty hK (mm_P hw.1) (mm_D hw.2.1) hw.2.2.1 hw.2.2.2 ha hn hN hbytes hcells hslots hdg (fun q cA' H1 hK1 hP1 hD1 hS1 => by
    have h9 := (hK1.2 tys.length (cA', ty) (by rw [List.getElem?_append_right (Nat.le_refl _), Nat.sub_self]; rfl)).2
    have hcc : cA' = cA := by
      have h10 : s.vm.findClass ("[" ++ ty.toString) = some cA' := by
        cases ty with
        | object C => exact absurd rfl (hprim C)
        | _ => exact h9
      exact Option.some.inj (h10.symm.trans hfc)
    subst hcc
    obtain ⟨h1, h2⟩ := mm_push hw hP1 hD1 hS1
    exact kk q H1 h1 h2)
theorem mm_newq (S : CallFix p m c cc nL s args Ts own) (hK : va_K D cl tys s) (hw : mm_w D cl A H0 M H locs) (t0 : Nat) {cA : ClassId} {C : String} {index : Nat} (hli : Cond.classLink own index C ∈ Ts) (hover : va_AO C s) (ht : tys[t0]? = some (cA, .object C))
    {n : Int32} {N' : Nat} (hn : ¬ n < 0) (hN : n.toNatClampNeg = N') (hbytes : N' * 4 ≤ 536870912) (hcells : cells + 1 ≤ R.cells) (hslots : slots + N' ≤ R.slots) (hdg : decode cc pc = .ok (.anewarray index, 3))
    (kk : ∀ (q : Nat) (H1 : Heap), M q = none → mm_w D cl A H0 (mm_up M q (.inl (cA, N', .inr (.inr (.inr (.inr (fun _ => none))))))) H1 locs → W p l e R s m args below meth c H1 locs (cells + 1) (slots + N') Q (F0 m (pc + 3) ls (.ref q :: rest))) : W p l e R s m args below meth c H locs cells slots Q (F0 m pc ls (.int n :: rest)) :=
  va_newq S.1 S.2.1 S.2.2.2.1 (S.2.2.2.2 _ hli) hover hK (mm_P hw.1) (mm_D hw.2.1) hw.2.2.1 hw.2.2.2 hn hN hbytes hcells hslots hdg (fun q cA' H1 hK1 hP1 hD1 hS1 => by
    obtain ⟨_, _, _, _, _, h9⟩ := (hK1.2 tys.length (cA', .object C) (by rw [List.getElem?_append_right (Nat.le_refl _), Nat.sub_self]; rfl)).2
    obtain ⟨_, _, _, _, _, h10⟩ := (hK.2 t0 _ ht).2
    have hcc : cA' = cA := Option.some.inj (h9.symm.trans h10)
    subst hcc
    obtain ⟨h1, h2⟩ := mm_push hw hP1 hD1 hS1
    exact kk q H1 h1 h2)
end MMR
/-! contracts: a method is given the whole memory M, and leaves the whole memory M' -/
def mm_A (M : mm_M) (sz : Nat) : Nat → Prop := fun q => (∃ e, M q = some e) ∨ sz ≤ q
/-- what the tables say beside the good words: arrays over own classes, links to nest mates -/
def nw_ok (U : State) : Prop := (va_AO "AbendRows$Level" U ∧ va_AO "AbendRows$Guard" U ∧ va_AO "AbendRows$Dump" U) ∧ va_Nw (.methodLinkNest "AbendRows" 17 ⟨"AbendRows$Search", "<init>", "()V"⟩ "AbendRows") U ∧ va_Nw (.methodLinkNest "AbendRows" 38 ⟨"AbendRows$DumpRow", "<init>", "()V"⟩ "AbendRows") U ∧ va_Nw (.methodLinkNest "AbendRows" 45 ⟨"AbendRows$CodeSet", "<init>", "()V"⟩ "AbendRows") U ∧ va_Nw (.methodLinkNest "AbendRows" 52 ⟨"AbendRows$CodeLog", "<init>", "()V"⟩ "AbendRows") U ∧ va_Nw (.methodLinkNest "AbendRows$CodeSet" 15 ⟨"AbendRows", "isCode", "(I)Z"⟩ "AbendRows") U
theorem nw_call {U : State} {g : JFrame} {mk : MethodId} {a : Array Value} (h : nw_ok U) : nw_ok (U.calling g mk a) := ⟨⟨va_AO.moved (u := U) (Vm.Alike.refl U.vm) h.1.1, va_AO.moved (u := U) (Vm.Alike.refl U.vm) h.1.2.1, va_AO.moved (u := U) (Vm.Alike.refl U.vm) h.1.2.2⟩, va_Nw.same rfl rfl h.2.1, va_Nw.same rfl rfl h.2.2.1, va_Nw.same rfl rfl h.2.2.2.1, va_Nw.same rfl rfl h.2.2.2.2.1, va_Nw.same rfl rfl h.2.2.2.2.2⟩
theorem nw_warm {s U : State} (hW : s.WarmedH U.vm) (h : nw_ok s) : nw_ok U := ⟨⟨va_AO.moved hW.alike h.1.1, va_AO.moved hW.alike h.1.2.1, va_AO.moved hW.alike h.1.2.2⟩, va_Nw.warmM hW h.2.1, va_Nw.warmM hW h.2.2.1, va_Nw.warmM hW h.2.2.2.1, va_Nw.warmM hW h.2.2.2.2.1, va_Nw.warmM hW h.2.2.2.2.2⟩
def mm_K (D : va_G) (cl : List vw_C) (tys : List (ClassId × FieldType)) (U : State) : Prop := va_K D cl tys U ∧ nw_ok U
def mm_pre (D : va_G) (cl : List vw_C) (tys : List (ClassId × FieldType)) (M : mm_M) (sz : Nat) (U : State) : Prop := U.heap.size = sz ∧ mm_K D cl tys U ∧ mm_has D cl M U.heap
def mm_pos (D : va_G) (cl : List vw_C) (M : mm_M) (sz : Nat) (M' : mm_M) (t : State) : Prop := mm_has D cl M' t.heap ∧ ∀ (q : Nat) (e : va_E), M' q = some e → mm_A M sz q
def mm_Ci (l : Launch) (y : MethodName) (ws : List Cond) (rm : Room) (mc ms : Nat) (D : va_G) (cl : List vw_C) (tys : List (ClassId × FieldType)) (av : List Value) (M : mm_M) (post : Int32 → mm_M → Prop) : Prop := ∀ sz : Nat, Met l y ws rm (va_Pc av (mm_pre D cl tys M sz)) (va_Qi post (mm_pos D cl M sz) (mm_A M sz)) mc ms (mm_A M sz)
def mm_Cq (l : Launch) (y : MethodName) (ws : List Cond) (rm : Room) (mc ms : Nat) (D : va_G) (cl : List vw_C) (tys : List (ClassId × FieldType)) (av : List Value) (M : mm_M) (post : Option Nat → mm_M → Prop) : Prop := ∀ sz : Nat, Met l y ws rm (va_Pc av (mm_pre D cl tys M sz)) (va_Qq post (mm_pos D cl M sz) (mm_A M sz)) mc ms (mm_A M sz)
def mm_Cl (l : Launch) (y : MethodName) (ws : List Cond) (rm : Room) (mc ms : Nat) (D : va_G) (cl : List vw_C) (tys : List (ClassId × FieldType)) (av : List Value) (M : mm_M) (post : Int64 → mm_M → Prop) : Prop := ∀ sz : Nat, Met l y ws rm (va_Pc av (mm_pre D cl tys M sz)) (va_Ql post (mm_pos D cl M sz) (mm_A M sz)) mc ms (mm_A M sz)
def mm_Cv (l : Launch) (y : MethodName) (ws : List Cond) (rm : Room) (mc ms : Nat) (D : va_G) (cl : List vw_C) (tys : List (ClassId × FieldType)) (av : List Value) (M : mm_M) (post : mm_M → Prop) : Prop := ∀ sz : Nat, Met l y ws rm (va_Pc av (mm_pre D cl tys M sz)) (va_Qv post (mm_pos D cl M sz) (mm_A M sz)) mc ms (mm_A M sz)
theorem mm_blind {D : va_G} {cl : List vw_C} {tys : List (ClassId × FieldType)} {av : List Value} {M : mm_M} {sz : Nat} : FrameBlind (va_Pc av (mm_pre D cl tys M sz)) := fun a U g mk q => ⟨q.1, q.2.1, ⟨va_K.moved (u := U) (U := U.calling g mk a) (Vm.Alike.refl U.vm) q.2.2.1.1, nw_call q.2.2.1.2⟩, q.2.2.2⟩
section MMC
variable {p : Program} {l : Launch} {e : Env} {R : Room} {s : State} {m : MethodId} {args : Array Value} {below : List Frame} {meth : Method} {c : Code} {H : Heap} {locs : List Loc} {cells slots : Nat} {Q : State → Prop}
variable {pc : Nat} {ls : Array Slot} {rest st0 : List Value} {D : va_G} {cl : List vw_C} {A : Nat → Prop} {tys : List (ClassId × FieldType)} {M : mm_M} {H0 : Heap} {mc ms : Nat} {av : Array Value}
theorem mm_preS {As : List Value} (hK : mm_K D cl tys s) (hw : mm_w D cl A H0 M H locs) : PreS s H (va_Pc As (mm_pre D cl tys M H.size)) As := ⟨mm_blind, fun U hU hW => ⟨rfl, by rw [hU], ⟨va_K.moved hW.alike hK.1, nw_warm hW hK.2⟩, by rw [hU]; exact hw.1⟩⟩
theorem mm_preV {As : List Value} {b ci : Nat} {C : String} {T : u_T} {N : Nat} {fs : List Value} (hK : mm_K D cl tys s) (hw : mm_w D cl A H0 M H locs) (hc : M b = some (.inr (ci, fs))) (hcl : cl[ci]? = some (C, T, N)) : PreV s H C b (va_Pc (.ref b :: As) (mm_pre D cl tys M H.size)) As := by
  obtain ⟨k, hk⟩ := mm_ix hw.1 hc
  exact ⟨mm_blind, va_recv (q := (C, T, N)) hK.1 (mm_P hw.1) hcl hk, fun U hU hW => ⟨rfl, by rw [hU], ⟨va_K.moved hW.alike hK.1, nw_warm hW hK.2⟩, by rw [hU]; exact hw.1⟩⟩
theorem mm_sub (hw : mm_w D cl A H0 M H locs) : ∀ q, mm_A M H.size q → A q := fun q h => by
  rcases h with ⟨e, h⟩ | h
  · exact hw.2.1 q e h
  · exact hw.2.2.2 q (Nat.le_trans hw.2.2.1.1 h)
theorem mm_aft {M' : mm_M} {H1 : Heap} {locs1 : List Loc} {t : State} (hw : mm_w D cl A H0 M H locs) (ht : t.heap = H1) (hB : mm_pos D cl M H.size M' t) (hS : va_S A H0 H1 locs1) : mm_w D cl A H0 M' H1 locs1 := ⟨by rw [← ht]; exact hB.1, fun q e h => mm_sub hw q (hB.2 q e h), hS, hw.2.2.2⟩
theorem mm_calli {post : Int32 → mm_M → Prop} (hw : mm_w D cl A H0 M H locs) (hr : va_Run p l e R s m args below meth c H locs cells slots mc ms (F0 m pc ls st0) rest (va_Qi post (mm_pos D cl M H.size) (mm_A M H.size) av) (mm_A M H.size))
    (kk : ∀ (r : Int32) (M' : mm_M) (H1 : Heap) (locs1 : List Loc), post r M' → mm_w D cl A H0 M' H1 locs1 → W p l e R s m args below meth c H1 locs1 (cells + mc) (slots + ms) Q (F0 m (pc + 3) ls (.int r :: rest))) : W p l e R s m args below meth c H locs cells slots Q (F0 m pc ls st0) :=
  va_calli hr hw.2.2.1 (fun q _ h => mm_sub hw q h) (mm_sub hw) (fun r M' t H1 locs1 ht _ hp hB _ _ hS => kk r M' H1 locs1 hp (mm_aft hw ht hB hS))
theorem mm_calll {post : Int64 → mm_M → Prop} (hw : mm_w D cl A H0 M H locs) (hr : va_Run p l e R s m args below meth c H locs cells slots mc ms (F0 m pc ls st0) rest (va_Ql post (mm_pos D cl M H.size) (mm_A M H.size) av) (mm_A M H.size))
    (kk : ∀ (r : Int64) (M' : mm_M) (H1 : Heap) (locs1 : List Loc), post r M' → mm_w D cl A H0 M' H1 locs1 → W p l e R s m args below meth c H1 locs1 (cells + mc) (slots + ms) Q (F0 m (pc + 3) ls (.long r :: rest))) : W p l e R s m args below meth c H locs cells slots Q (F0 m pc ls st0) :=
  va_calll hr hw.2.2.1 (fun q _ h => mm_sub hw q h) (mm_sub hw) (fun r M' t H1 locs1 ht _ hp hB _ _ hS => kk r M' H1 locs1 hp (mm_aft hw ht hB hS))
theorem mm_callq {post : Option Nat → mm_M → Prop} (hw : mm_w D cl A H0 M H locs) (hr : va_Run p l e R s m args below meth c H locs cells slots mc ms (F0 m pc ls st0) rest (va_Qq post (mm_pos D cl M H.size) (mm_A M H.size) av) (mm_A M H.size))
    (kk : ∀ (r : Option Nat) (M' : mm_M) (H1 : Heap) (locs1 : List Loc), post r M' → mm_w D cl A H0 M' H1 locs1 → W p l e R s m args below meth c H1 locs1 (cells + mc) (slots + ms) Q (F0 m (pc + 3) ls (va_rf r :: rest))) : W p l e R s m args below meth c H locs cells slots Q (F0 m pc ls st0) :=
  va_callq hr hw.2.2.1 (fun q _ h => mm_sub hw q h) (mm_sub hw) (fun r M' t H1 locs1 ht _ hp hB _ _ hS => kk r M' H1 locs1 hp (mm_aft hw ht hB hS))
theorem mm_callv {post : mm_M → Prop} (hw : mm_w D cl A H0 M H locs) (hr : va_Run p l e R s m args below meth c H locs cells slots mc ms (F0 m pc ls st0) rest (va_Qv post (mm_pos D cl M H.size) (mm_A M H.size) av) (mm_A M H.size))
    (kk : ∀ (M' : mm_M) (H1 : Heap) (locs1 : List Loc), post M' → mm_w D cl A H0 M' H1 locs1 → W p l e R s m args below meth c H1 locs1 (cells + mc) (slots + ms) Q (F0 m (pc + 3) ls rest)) : W p l e R s m args below meth c H locs cells slots Q (F0 m pc ls st0) :=
  va_callv hr hw.2.2.1 (fun q _ h => mm_sub hw q h) (mm_sub hw) (fun M' t H1 locs1 ht _ hp hB _ _ hS => kk M' H1 locs1 hp (mm_aft hw ht hB hS))
/-- a method's entry -/
theorem mm_in {U : State} {sz : Nat} (h : mm_pre D cl tys M sz U) : mm_w D cl (mm_A M sz) U.heap M U.heap [] := ⟨h.2.2, fun a e h => Or.inl ⟨e, h⟩, va_S.rf, fun q h2 => Or.inr (by rw [← h.1]; exact h2)⟩
variable {cc : ByteArray} {sz : Nat} {M' : mm_M}
theorem mm_reti {post : Int32 → mm_M → Prop} {v : Int32} (hx : p.tables.exec = Jvm.exec) (hb : c.code = cc) (hr : meth.sig.returnType = some .int) (hlocks : meth.locks = false) {mc ms : Nat} {A : Nat → Prop} {Q : State → Prop} (hA : A = mm_A M sz) (hQ : Q = MQ below (va_Qi post (mm_pos D cl M sz) (mm_A M sz)) args s mc ms (mm_A M sz)) (hw : mm_w D cl A s.heap M' H locs) (hp : post v M') (h1 : cells ≤ mc) (h2 : slots ≤ ms) (hdg : decode cc pc = .ok (.ireturn, 1)) : W p l e R s m args below meth c H locs cells slots Q (F0 m pc ls [.int v]) := by
  subst hA; subst hQ
  exact W.widen h1 h2 (W.iret hx hb hr (fun t ht _ => ⟨⟨v, M', rfl, hp, by rw [ht]; exact hw.1, hw.2.1⟩, hw.2.2.1.F ht⟩) hw.2.2.1.2.2 hdg hlocks)
theorem mm_retz {post : Int32 → mm_M → Prop} {v : Int32} (hx : p.tables.exec = Jvm.exec) (hb : c.code = cc) (hr : meth.sig.returnType = some .boolean) (hlocks : meth.locks = false) {mc ms : Nat} {A : Nat → Prop} {Q : State → Prop} (hA : A = mm_A M sz) (hQ : Q = MQ below (va_Qi post (mm_pos D cl M sz) (mm_A M sz)) args s mc ms (mm_A M sz)) (hw : mm_w D cl A s.heap M' H locs) (hn : narrow .boolean (.int v) = .int v) (hp : post v M') (h1 : cells ≤ mc) (h2 : slots ≤ ms) (hdg : decode cc pc = .ok (.ireturn, 1)) : W p l e R s m args below meth c H locs cells slots Q (F0 m pc ls [.int v]) := by
  subst hA; subst hQ
  exact W.widen h1 h2 (W.zret hx hb hr hn (fun t ht _ => ⟨⟨v, M', rfl, hp, by rw [ht]; exact hw.1, hw.2.1⟩, hw.2.2.1.F ht⟩) hw.2.2.1.2.2 hdg hlocks)
theorem mm_retl {post : Int64 → mm_M → Prop} {v : Int64} (hx : p.tables.exec = Jvm.exec) (hb : c.code = cc) (hr : meth.sig.returnType = some .long) (hlocks : meth.locks = false) {mc ms : Nat} {A : Nat → Prop} {Q : State → Prop} (hA : A = mm_A M sz) (hQ : Q = MQ below (va_Ql post (mm_pos D cl M sz) (mm_A M sz)) args s mc ms (mm_A M sz)) (hw : mm_w D cl A s.heap M' H locs) (hp : post v M') (h1 : cells ≤ mc) (h2 : slots ≤ ms) (hdg : decode cc pc = .ok (.lreturn, 1)) : W p l e R s m args below meth c H locs cells slots Q (F0 m pc ls [.long v]) := by
  subst hA; subst hQ
  exact W.widen h1 h2 (W.lret hx hb hr (fun t ht _ => ⟨⟨v, M', rfl, hp, by rw [ht]; exact hw.1, hw.2.1⟩, hw.2.2.1.F ht⟩) hw.2.2.1.2.2 hdg hlocks)
theorem mm_retq {post : Option Nat → mm_M → Prop} {v : Option Nat} {n : String} (hx : p.tables.exec = Jvm.exec) (hb : c.code = cc) (hr : meth.sig.returnType = some (.object n)) (hlocks : meth.locks = false) {mc ms : Nat} {A : Nat → Prop} {Q : State → Prop} (hA : A = mm_A M sz) (hQ : Q = MQ below (va_Qq post (mm_pos D cl M sz) (mm_A M sz)) args s mc ms (mm_A M sz)) (hw : mm_w D cl A s.heap M' H locs) (hp : post v M') (h1 : cells ≤ mc) (h2 : slots ≤ ms) (hdg : decode cc pc = .ok (.areturn, 1)) : W p l e R s m args below meth c H locs cells slots Q (F0 m pc ls [va_rf v]) := by
  subst hA; subst hQ
  exact W.widen h1 h2 (W.aret hx hb hr (Or.inl ⟨n, rfl⟩) (va_rf_or v) (fun t ht _ => ⟨⟨v, M', rfl, hp, by rw [ht]; exact hw.1, hw.2.1⟩, hw.2.2.1.F ht⟩) hw.2.2.1.2.2 hdg hlocks)
theorem mm_retv {post : mm_M → Prop} (hx : p.tables.exec = Jvm.exec) (hb : c.code = cc) (hr : meth.sig.returnType = none) (hlocks : meth.locks = false) {mc ms : Nat} {A : Nat → Prop} {Q : State → Prop} (hA : A = mm_A M sz) (hQ : Q = MQ below (va_Qv post (mm_pos D cl M sz) (mm_A M sz)) args s mc ms (mm_A M sz)) (hw : mm_w D cl A s.heap M' H locs) (hp : post M') (h1 : cells ≤ mc) (h2 : slots ≤ ms) (hdg : decode cc pc = .ok (.return_, 1)) : W p l e R s m args below meth c H locs cells slots Q (F0 m pc ls []) := by
  subst hA; subst hQ
  exact W.widen h1 h2 (W.vret hx hb hr (fun t ht _ => ⟨⟨M', rfl, hp, by rw [ht]; exact hw.1, hw.2.1⟩, hw.2.2.1.F ht⟩) hw.2.2.1.2.2 hdg hlocks)
end MMC
section MM2
variable {p : Program} {l : Launch} {e : Env} {R : Room} {s : State} {m : MethodId} {args : Array Value} {below : List Frame} {meth : Method} {c : Code} {H : Heap} {locs : List Loc} {cells slots : Nat} {Q : State → Prop}
variable {pc : Nat} {ls : Array Slot} {rest st0 : List Value} {D : va_G} {cl : List vw_C} {A : Nat → Prop} {tys : List (ClassId × FieldType)} {M N : mm_M} {H0 : Heap} {mc ms : Nat} {av : Array Value}
/-- beside a call's memory another one, of other cells: it stays -/
theorem mm_side {M' : mm_M} {H1 : Heap} {locs1 : List Loc} {t : State} (hw : mm_w D cl A H0 M H locs) (hn : mm_w D cl A H0 N H locs) (hd : ∀ (q : Nat) (e : va_E), N q = some e → M q = none) (ht : t.heap = H1) (hB : mm_pos D cl M H.size M' t) (hk : ∀ q : Nat, q < H.size → ¬ mm_A M H.size q → H1[q]? = H[q]?) (hS : va_S A H0 H1 locs1) : mm_w D cl A H0 N H1 locs1 ∧ ∀ (q : Nat) (e : va_E), N q = some e → M' q = none := by
  have hlt : ∀ (q : Nat) (e : va_E), N q = some e → q < H.size ∧ ¬ mm_A M H.size q := fun q e h => by
    have h1 : q < H.size := (hn.1 q e h).lt
    refine ⟨h1, fun h2 => ?_⟩
    rcases h2 with ⟨x, h2⟩ | h2
    · rw [hd q e h] at h2; cases h2
    · omega
  refine ⟨⟨fun q e h => (hn.1 q e h).kept (hk q (hlt q e h).1 (hlt q e h).2), hn.2.1, hS, hn.2.2.2⟩, fun q e h => ?_⟩
  cases hM : M' q with
  | none => rfl
  | some x => exact absurd (hB.2 q x hM) (hlt q e h).2
theorem mm_calli2 {post : Int32 → mm_M → Prop} (hw : mm_w D cl A H0 M H locs) (hn : mm_w D cl A H0 N H locs) (hd : ∀ (q : Nat) (e : va_E), N q = some e → M q = none) (hr : va_Run p l e R s m args below meth c H locs cells slots mc ms (F0 m pc ls st0) rest (va_Qi post (mm_pos D cl M H.size) (mm_A M H.size) av) (mm_A M H.size))
    (kk : ∀ (r : Int32) (M' : mm_M) (H1 : Heap) (locs1 : List Loc), post r M' → mm_w D cl A H0 M' H1 locs1 → mm_w D cl A H0 N H1 locs1 → (∀ (q : Nat) (e : va_E), N q = some e → M' q = none) → W p l e R s m args below meth c H1 locs1 (cells + mc) (slots + ms) Q (F0 m (pc + 3) ls (.int r :: rest))) : W p l e R s m args below meth c H locs cells slots Q (F0 m pc ls st0) :=
  va_calli hr hw.2.2.1 (fun q _ h => mm_sub hw q h) (mm_sub hw) (fun r M' t H1 locs1 ht _ hp hB _ hk hS => by
    obtain ⟨h1, h2⟩ := mm_side hw hn hd ht hB hk hS
    exact kk r M' H1 locs1 hp (mm_aft hw ht hB hS) h1 h2)
theorem mm_callv2 {post : mm_M → Prop} (hw : mm_w D cl A H0 M H locs) (hn : mm_w D cl A H0 N H locs) (hd : ∀ (q : Nat) (e : va_E), N q = some e → M q = none) (hr : va_Run p l e R s m args below meth c H locs cells slots mc ms (F0 m pc ls st0) rest (va_Qv post (mm_pos D cl M H.size) (mm_A M H.size) av) (mm_A M H.size))
    (kk : ∀ (M' : mm_M) (H1 : Heap) (locs1 : List Loc), post M' → mm_w D cl A H0 M' H1 locs1 → mm_w D cl A H0 N H1 locs1 → (∀ (q : Nat) (e : va_E), N q = some e → M' q = none) → W p l e R s m args below meth c H1 locs1 (cells + mc) (slots + ms) Q (F0 m (pc + 3) ls rest)) : W p l e R s m args below meth c H locs cells slots Q (F0 m pc ls st0) :=
  va_callv hr hw.2.2.1 (fun q _ h => mm_sub hw q h) (mm_sub hw) (fun M' t H1 locs1 ht _ hp hB _ hk hS => by
    obtain ⟨h1, h2⟩ := mm_side hw hn hd ht hB hk hS
    exact kk M' H1 locs1 hp (mm_aft hw ht hB hS) h1 h2)
end MM2
