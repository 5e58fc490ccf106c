theorem mm_sw {D : va_G} {cl : List vw_C} {A : Nat → Prop} {H0 H : Heap} {M N : mm_M} {locs : List Loc} (h : ∀ (a : Nat) (e : va_E), N a = some e → M a = some e) (hw : mm_w D cl A H0 M H locs) : mm_w D cl A H0 N H locs := ⟨fun a e he => hw.1 a e (h a e he), fun a e he => hw.2.1 a e (h a e he), hw.2.2.1, hw.2.2.2⟩
theorem ar_prim {s : State} {args : Array Value} {ty : FieldType} (h : (Cond.arrayClass ty).before args s = true) (hp : ∀ C : String, ty ≠ .object C) : ∃ cA : ClassId, ArrOfT s cA ty ∧ va_RA s cA ty := by
  obtain ⟨cA, kA, comp, h1, h2, h3⟩ := Cond.arrayClass_spec h
  refine ⟨cA, fun n z => ⟨fun k h => (by cases h), kA, h2, comp, h3⟩, ?_⟩
  cases ty with
  | object C => exact absurd rfl (hp C)
  | _ => exact h1
theorem ar_obj {s : State} {args : Array Value} {C : String} (h : (Cond.arrayOver (.object C)).before args s = true) : ∃ cA : ClassId, ArrOfT s cA (.object C) ∧ va_RA s cA (.object C) := by
  obtain ⟨comp, cA, kA, h1, h2, h3, h4, h5⟩ := Cond.arrayOver_spec h
  exact ⟨cA, fun n z => ⟨fun k h => (by cases h), kA, h3, comp, h4⟩, kA, comp, h3, h4, h1, h5⟩
set_option maxHeartbeats 8000000 in
set_option maxRecDepth 100000 in
/-- what the tables give at the start -/
theorem law_K {s : State} {b : Nat} (hts : ∀ w ∈ lw_tbl, w.before #[Value.ref b] s = true) : ∃ (D : va_G) (dA : Nat → ClassId), mm_K D vC (tyL dA) s := by
  have ht9 : ∀ w ∈ gt_l, w.before #[Value.ref b] s = true := fun w h => hts w (List.mem_filter.mp h).1
  obtain ⟨c0, i0, hk0⟩ := u_known (C := R_AR) (T := T_AR) (N := 11) (n := 11) ht9 in_AR (ht9 _ gw_20)
  obtain ⟨c1, i1, hk1⟩ := u_known (C := R_SE) (T := T_SE) (N := 3) (n := 3) ht9 in_SE (ht9 _ gw_30)
  obtain ⟨c2, i2, hk2⟩ := u_known (C := R_DR) (T := T_DR) (N := 2) (n := 2) ht9 in_DR (ht9 _ gw_50)
  obtain ⟨c3, i3, hk3⟩ := u_known (C := R_CS) (T := T_CS) (N := 1) (n := 1) ht9 in_CS (ht9 _ gw_66)
  obtain ⟨c4, i4, hk4⟩ := u_known (C := R_CG) (T := T_CG) (N := 2) (n := 2) ht9 in_CG (ht9 _ gw_76)
  obtain ⟨c5, i5, hk5⟩ := u_known (C := R_LV) (T := T_LV) (N := 5) (n := 5) ht9 in_LV (ht9 _ gw_130)
  obtain ⟨c6, i6, hk6⟩ := u_known (C := R_EX) (T := T_EX) (N := 5) (n := 5) ht9 in_EX (ht9 _ gw_161)
  obtain ⟨c7, i7, hk7⟩ := u_known (C := R_GU) (T := T_GU) (N := 4) (n := 4) ht9 in_GU (ht9 _ gw_293)
  obtain ⟨c8, i8, hk8⟩ := u_known (C := R_DU) (T := T_DU) (N := 5) (n := 5) ht9 in_DU (ht9 _ gw_247)
  obtain ⟨c9, i9, hk9⟩ := u_known (C := R_MO) (T := T_MO) (N := 22) (n := 22) ht9 in_MO (ht9 _ gw_365)
  obtain ⟨a0, ha0, hr0⟩ := ar_prim (ht9 _ gw_46) (fun _ h => by cases h)
  obtain ⟨a1, ha1, hr1⟩ := ar_prim (ht9 _ gw_64) (fun _ h => by cases h)
  obtain ⟨a2, ha2, hr2⟩ := ar_prim (ht9 _ gw_437) (fun _ h => by cases h)
  have ho3 : (Cond.arrayOver (.object "AbendRows$Level")).before #[Value.ref b] s = true := hts _ (List.mem_of_getElem? (i := 28) (by decide +kernel))
  obtain ⟨a3, ha3, hr3⟩ := ar_obj ho3
  have ho4 : (Cond.arrayOver (.object "AbendRows$Guard")).before #[Value.ref b] s = true := hts _ (List.mem_of_getElem? (i := 48) (by decide +kernel))
  obtain ⟨a4, ha4, hr4⟩ := ar_obj ho4
  have ho5 : (Cond.arrayOver (.object "AbendRows$Dump")).before #[Value.ref b] s = true := hts _ (List.mem_of_getElem? (i := 56) (by decide +kernel))
  obtain ⟨a5, ha5, hr5⟩ := ar_obj ho5
  refine ⟨(fun k => [c0, c1, c2, c3, c4, c5, c6, c7, c8, c9].getD k c0, fun k => [i0, i1, i2, i3, i4, i5, i6, i7, i8, i9].getD k i0), fun k => [a0, a1, a2, a3, a4, a5].getD k a0, ⟨?_, ?_⟩, ⟨va_AO.of ho3, va_AO.of ho4, va_AO.of ho5⟩, va_Nw.of rfl (hts _ (List.mem_of_getElem? (i := 31) (by decide +kernel))), va_Nw.of rfl (hts _ (List.mem_of_getElem? (i := 51) (by decide +kernel))), va_Nw.of rfl (hts _ (List.mem_of_getElem? (i := 67) (by decide +kernel))), va_Nw.of rfl (hts _ (List.mem_of_getElem? (i := 77) (by decide +kernel))), va_Nw.of rfl (hts _ (List.mem_of_getElem? (i := 242) (by decide +kernel)))⟩
  · intro k q hq
    match k, hq with
    | 0, hq => cases hq; exact hk0
    | 1, hq => cases hq; exact hk1
    | 2, hq => cases hq; exact hk2
    | 3, hq => cases hq; exact hk3
    | 4, hq => cases hq; exact hk4
    | 5, hq => cases hq; exact hk5
    | 6, hq => cases hq; exact hk6
    | 7, hq => cases hq; exact hk7
    | 8, hq => cases hq; exact hk8
    | 9, hq => cases hq; exact hk9
    | k + 10, hq => simp [vC] at hq
  · intro k q hq
    match k, hq with
    | 0, hq => cases hq; exact ⟨ha0, hr0⟩
    | 1, hq => cases hq; exact ⟨ha1, hr1⟩
    | 2, hq => cases hq; exact ⟨ha2, hr2⟩
    | 3, hq => cases hq; exact ⟨ha3, hr3⟩
    | 4, hq => cases hq; exact ⟨ha4, hr4⟩
    | 5, hq => cases hq; exact ⟨ha5, hr5⟩
    | k + 6, hq => simp [tyL] at hq
set_option maxHeartbeats 8000000 in
set_option maxRecDepth 100000 in
/-- THE LAW, from its entry -/
theorem whole_start {p : Program} {e : Env} {s : State} {m : MethodId} {below : List Frame} {meth : Method} {c : Code} (l : Launch) {b L : Nat} {xs : Nat → Int32} (hL : L ≤ 2048) (C0 : lw_At p s m meth c b L xs) : W p l e room_1 s m #[Value.ref b] below meth c s.heap [] 0 0 (lw_Z below #[Value.ref b] s) (entryFrame m ([Value.ref b] : List Value).toArray 4) := by
  obtain ⟨hx, hb, hr, hml, hown, hts, hXs, hbl, hlocks, hgv⟩ := id C0
  obtain ⟨D, dA, hK⟩ := law_K hts
  have S : CallFix p m c code 4 s #[Value.ref b] gt_l "AbendRowsLaw" := ⟨hx, hb, hml, hown, fun w h => hts w (List.mem_filter.mp h).1⟩
  have hw : mm_w D vC (fun q : Nat => s.heap.size ≤ q) s.heap (fun _ => none) s.heap [] := ⟨fun a e h => (by cases h), fun a e h => (by cases h), va_S.rf, fun _ h => h⟩
  have hl := lv_entry ([.ref b]) (n := 4) (Nat.le_of_ble_eq_true rfl)
  rw [lg_entry_eq]
  generalize (lg_sl ([.ref b]) ++ List.replicate (4 - (lg_sl ([.ref b])).length) Slot.unset).toArray = ls at hl ⊢
  have hl : lv_has ls 4 [(0, .ref b)] := hl
  refine mm_new (C := R_AR) (T := T_AR) (N := 11) (ci := 0) (fs := [.null, .int 0, .int 0, .null, .null, .int 0, .null, .null, .null, .null, .null]) S hK.1 hw rfl in_AR t_AR k_AR gw_19 gw_20 gw_8 (fun j hj => by rcases (show j = 0 ∨ j = 1 ∨ j = 2 ∨ j = 3 ∨ j = 4 ∨ j = 5 ∨ j = 6 ∨ j = 7 ∨ j = 8 ∨ j = 9 ∨ j = 10 by omega) with rfl | rfl | rfl | rfl | rfl | rfl | rfl | rfl | rfl | rfl | rfl <;> rfl) (Nat.le_of_ble_eq_true rfl) (Nat.le_of_ble_eq_true rfl) d_LW_law_0 (fun x H hqx hw => ?_)
  refine lv_dup S.1 S.2.1 d_LW_law_3 rfl ?_
  refine mm_callv hw (mm_runI (a := x) (As := []) (rest := [.ref x]) S hK hw (c_AR_init l D dA _ x mm_us _) bi_AR_init gw_21 ⟨rfl, rfl, by decide, by decide, by decide, by decide⟩ hl.1 rfl rfl (Nat.le_of_ble_eq_true rfl) d_LW_law_4) (fun M H locs hC hw => ?_)
  refine lv_astore_n (lv' := [(1, .ref x), (0, .ref b)]) S.1 S.2.1 d_LW_law_7 rfl hl (by decide) rfl (fun ls hl => ?_)
  refine mm_new (C := R_MO) (T := T_MO) (N := 22) (ci := 9) (fs := [.int 0, .int 0, .int 0, .int 0, .int 0, .int 0, .null, .null, .null, .null, .null, .null, .null, .null, .null, .null, .null, .null, .null, .null, .null, .null]) S hK.1 hw rfl in_MO t_MO k_MO gw_364 gw_365 gw_13 (fun j hj => by rcases (show j = 0 ∨ j = 1 ∨ j = 2 ∨ j = 3 ∨ j = 4 ∨ j = 5 ∨ j = 6 ∨ j = 7 ∨ j = 8 ∨ j = 9 ∨ j = 10 ∨ j = 11 ∨ j = 12 ∨ j = 13 ∨ j = 14 ∨ j = 15 ∨ j = 16 ∨ j = 17 ∨ j = 18 ∨ j = 19 ∨ j = 20 ∨ j = 21 by omega) with rfl | rfl | rfl | rfl | rfl | rfl | rfl | rfl | rfl | rfl | rfl | rfl | rfl | rfl | rfl | rfl | rfl | rfl | rfl | rfl | rfl | rfl <;> rfl) (Nat.le_of_ble_eq_true rfl) (Nat.le_of_ble_eq_true rfl) d_LW_law_8 (fun y H hqy hw => ?_)
  obtain ⟨N, eN⟩ : ∃ N : mm_M, N = mm_up (fun _ => none) y (.inr (9, [.int 0, .int 0, .int 0, .int 0, .int 0, .int 0, .null, .null, .null, .null, .null, .null, .null, .null, .null, .null, .null, .null, .null, .null, .null, .null])) := ⟨_, rfl⟩
  have hNy : N y = some (.inr (9, [.int 0, .int 0, .int 0, .int 0, .int 0, .int 0, .null, .null, .null, .null, .null, .null, .null, .null, .null, .null, .null, .null, .null, .null, .null, .null])) := by rw [eN]; exact mm_us
  have hNo : ∀ (a : Nat) (e : va_E), N a = some e → a = y ∧ e = .inr (9, [.int 0, .int 0, .int 0, .int 0, .int 0, .int 0, .null, .null, .null, .null, .null, .null, .null, .null, .null, .null, .null, .null, .null, .null, .null, .null]) := fun a e h => by
    rw [eN] at h
    by_cases q : a = y
    · subst q; rw [mm_us] at h; exact ⟨rfl, (Option.some.inj h).symm⟩
    · rw [mm_un q] at h; cases h
  have hn := mm_sw (N := N) (fun a e h => by obtain ⟨rfl, rfl⟩ := hNo a e h; exact mm_us) hw
  have hd : ∀ (q : Nat) (e : va_E), M q = some e → N q = none := fun q e h => by
    cases hN : N q with
    | none => rfl
    | some z => obtain ⟨rfl, -⟩ := hNo q z hN; rw [hqy] at h; cases h
  have hw := mm_sw (N := M) (fun a e h => mm_fk hqy h) hw
  refine lv_dup S.1 S.2.1 d_LW_law_11 rfl ?_
  refine mm_callv2 hn hw hd (mm_runI (a := y) (As := []) (rest := [.ref y]) S hK hn (c_MO_init l D dA _ y hNy _) bi_MO_init gw_366 ⟨rfl, rfl, by decide, by decide, by decide, by decide⟩ hl.1 rfl rfl (Nat.le_of_ble_eq_true rfl) d_LW_law_12) (fun N H locs hP hn hw hd => ?_)
  obtain ⟨g, hP⟩ := hP
  refine lv_astore_n (lv' := [(2, .ref y), (1, .ref x), (0, .ref b)]) S.1 S.2.1 d_LW_law_15 rfl hl (by decide) rfl (fun ls hl => ?_)
  refine lv_iconst (v := 0) S.1 S.2.1 d_LW_law_16 (by decide) ?_
  refine lv_istore_n (lv' := [(3, .int 0), (2, .ref y), (1, .ref x), (0, .ref b)]) S.1 S.2.1 d_LW_law_17 rfl hl (by decide) rfl (fun ls hl => ?_)
  refine W.widen (k := 30 + 0) (n := 24234 + 5 * 0) (by omega) (by omega) ?_
  exact law_loop hL C0 hK 513 0 _ _ _ M N H locs ls (by omega) hC hP wf_0 hw hn (mm_dis hd) (lv_sub hl [3, 2, 1, 0] rfl)
