/-! THE REFERENCE'S PICTURE: six numbers I, fifteen arrays F of ints or booleans, one array of longs -/
abbrev sI : Type := Nat → Int32
abbrev sF : Type := Nat → Nat → Int32
abbrev sT : Type := Nat → Int64
abbrev sR : Type := Int32 × sI × sF × sT
def mL (k : Nat) : Nat := match k with
  | 0 => 101 | 1 => 101 | 2 => 101 | 3 => 1010 | 4 => 301 | 5 => 301 | 6 => 301 | 7 => 301 | 8 => 10000 | 9 => 41 | 10 => 10000 | 11 => 41 | 12 => 61 | 13 => 61 | 14 => 61 | _ => 250
def mT (k : Nat) : Nat := match k with
  | 6 => 2 | 7 => 2 | 10 => 2 | 11 => 1 | _ => 0
abbrev mO (g : Nat → Nat) (I : sI) : List Value := [.int (I 0), .int (I 1), .int (I 2), .int (I 3), .int (I 4), .int (I 5), .ref (g 0), .ref (g 1), .ref (g 2), .ref (g 3), .ref (g 4), .ref (g 5), .ref (g 6), .ref (g 7), .ref (g 8), .ref (g 9), .ref (g 10), .ref (g 11), .ref (g 12), .ref (g 13), .ref (g 14), .ref (g 15)]
def mP (dA : Nat → ClassId) (M : mm_M) (x : Nat) (g : Nat → Nat) (I : sI) (F : sF) (st : sT) : Prop :=
  (∀ i j, i < 16 → j < 16 → g i = g j → i = j) ∧ M x = some (.inr (9, mO g I)) ∧ (∀ k, k < 16 → k ≠ 11 → M (g k) = some (.inl (dA (mT k), mL k, .inl (F k)))) ∧ M (g 11) = some (.inl (dA 1, 41, .inr (.inl st)))
theorem mP_a {dA : Nat → ClassId} {M : mm_M} {x k : Nat} {g : Nat → Nat} {I : sI} {F : sF} {st : sT} (h : mP dA M x g I F st) (hk : k < 16) (h11 : k ≠ 11) : M (g k) = some (.inl (dA (mT k), mL k, .inl (F k))) := h.2.2.1 k hk h11
section MDR
variable {dA : Nat → ClassId} {M : mm_M} {x : Nat} {g : Nat → Nat} {I : sI} {F : sF} {st : sT} {D : va_G} {A : Nat → Prop} {H0 H : Heap} {locs : List Loc}
theorem md_puti {k : Nat} {v : Int32} (hk : k < 6) (hw : mm_w D vC A H0 (mm_up M x (.inr (9, (mO g I).set k (.int v)))) H locs) (h : mP dA M x g I F st) : ∃ M' : mm_M, mm_w D vC A H0 M' H locs ∧ mP dA M' x g (upd I k v) F st := by
  refine ⟨_, hw, h.1, ?_, fun i hi h11 => ?_, ?_⟩
  · rw [mm_us]
    match k, hk with
    | 0, _ => rfl
    | 1, _ => rfl
    | 2, _ => rfl
    | 3, _ => rfl
    | 4, _ => rfl
    | 5, _ => rfl
  · exact mm_uk h.2.1 (h.2.2.1 i hi h11) (by simp)
  · exact mm_uk h.2.1 h.2.2.2 (by simp)
theorem md_ast {k j : Nat} {v : Int32} (hk : k < 16) (h11 : k ≠ 11) (hw : mm_w D vC A H0 (mm_up M (g k) (.inl (dA (mT k), mL k, .inl (upd (F k) j v)))) H locs) (h : mP dA M x g I F st) : ∃ M' : mm_M, mm_w D vC A H0 M' H locs ∧ mP dA M' x g I (va_up F k (upd (F k) j v)) st := by
  refine ⟨_, hw, h.1, ?_, fun i hi hi11 => ?_, ?_⟩
  · exact mm_uk (h.2.2.1 k hk h11) h.2.1 (by simp)
  · by_cases hik : i = k
    · subst hik
      rw [mm_us, va_up_self]
    · rw [mm_un (fun q => hik (h.1 i k hi hk q)), va_up_ne _ _ hik]
      exact h.2.2.1 i hi hi11
  · exact mm_uk (h.2.2.1 k hk h11) h.2.2.2 (by simp)
theorem md_last {j : Nat} {v : Int64} (hw : mm_w D vC A H0 (mm_up M (g 11) (.inl (dA 1, 41, .inr (.inl (vp_updL st j v))))) H locs) (h : mP dA M x g I F st) : ∃ M' : mm_M, mm_w D vC A H0 M' H locs ∧ mP dA M' x g I F (vp_updL st j v) := by
  refine ⟨_, hw, h.1, ?_, fun i hi hi11 => ?_, mm_us⟩
  · exact mm_uk h.2.2.2 h.2.1 (by simp)
  · exact mm_uk h.2.2.2 (h.2.2.1 i hi hi11) (by simp)
end MDR
abbrev cN (k : Int32) : Nat := k.toNatClampNeg
/-! WHAT EACH CALL DOES, as a function of the state -/
def sp_level (k : Int32) (I : sI) (F : sF) (st : sT) : sR :=
  if ¬ k = 0 ∧ ¬ is_ok (I 1) k then (-2, upd I 0 0, F, st)
  else if I 1 = 100 ∨ F 1 (cN k) = 20 then (-1, upd I 0 0, F, st)
  else (I 1 + 1, upd (upd I 0 0) 1 (I 1 + 1), va_up (va_up F 0 (upd (F 0) (cN (I 1 + 1)) k)) 1 (upd (F 1) (cN (I 1 + 1)) (F 1 (cN k) + 1)), st)
def sp_exit (k d z : Int32) (I : sI) (F : sF) (st : sT) : sR :=
  if ¬ is_ok (I 1) k then (-2, upd I 0 0, F, st)
  else if d < 0 ∨ ¬ d ≤ 3 then (-4, upd I 0 0, F, st)
  else if F 2 (cN k) = 10 ∨ I 2 = 300 then (-1, upd I 0 0, F, st)
  else (I 2 + 1, upd (upd I 0 0) 2 (I 2 + 1), va_up (va_up (va_up (va_up F 4 (upd (F 4) (cN (I 2 + 1)) d)) 6 (upd (F 6) (cN (I 2 + 1)) z)) 3 (upd (F 3) (10 * cN k + cN (F 2 (cN k))) (I 2 + 1))) 2 (upd (F 2) (cN k) (F 2 (cN k) + 1)), st)
def sp_cancel (k : Int32) (I : sI) (F : sF) (st : sT) : sR :=
  if ¬ is_ok (I 1) k then (-2, upd I 0 0, F, st)
  else if F 2 (cN k) = 0 then (-1, upd I 0 0, F, st)
  else (F 2 (cN k) - 1, upd I 0 0, va_up F 2 (upd (F 2) (cN k) (F 2 (cN k) - 1)), st)
def sp_order (i : Int32) (I : sI) (F : sF) (st : sT) : sR := (if ¬ i < 0 ∧ ¬ I 5 ≤ i then F 5 (cN i) else 0, upd I 0 0, F, st)
def sp_count (k : Int32) (I : sI) (F : sF) (st : sT) : sR := (if is_ok 9999 k then F 8 (cN k) else 0, upd I 0 0, F, st)
def sp_region (k : Int32) (I : sI) (F : sF) (st : sT) : sR := (if ¬ is_ok 9999 k then -4 else if 1000 ≤ k then (if 4000 ≤ k then 3 else 2) else 1, upd I 0 0, F, st)
def sp_suppress (k z : Int32) (I : sI) (F : sF) (st : sT) : sR :=
  if ¬ is_ok 9999 k then (-4, upd I 0 0, F, st)
  else (if F 10 (cN k) = 0 then 0 else 1, upd I 0 0, va_up F 10 (upd (F 10) (cN k) z), st)
def sp_loop (t : Int32) (w : Int64) (I : sI) (F : sF) (st : sT) : sR :=
  if ¬ is_ok 40 t ∨ w < 0 then (-4, upd I 0 0, F, st)
  else if 1000 < w ∨ 1000 < st (cN t) + w then (71, upd I 0 0, F, vp_updL st (cN t) 0)
  else (0, upd I 0 0, F, vp_updL st (cN t) (st (cN t) + w))
def sp_guard (t z : Int32) (I : sI) (F : sF) (st : sT) : sR :=
  if ¬ is_ok 40 t ∨ z < 1 ∨ ¬ z ≤ 64 then (-4, upd I 0 0, F, st)
  else if I 3 = 60 then (-1, upd I 0 0, F, st)
  else (I 3 + 1, upd (upd I 0 0) 3 (I 3 + 1), va_up (va_up (va_up F 12 (upd (F 12) (cN (I 3 + 1)) t)) 13 (upd (F 13) (cN (I 3 + 1)) z)) 14 (upd (F 14) (cN (I 3 + 1)) 1), st)
abbrev is_gd (I : sI) (F : sF) (g : Int32) : Prop := is_ok (I 3) g ∧ ¬ F 14 (cN g) ≤ 0
def sp_write (g i : Int32) (I : sI) (F : sF) (st : sT) : sR :=
  if ¬ is_gd I F g then (-2, upd I 0 0, F, st)
  else if i < -1 ∨ ¬ i ≤ F 13 (cN g) then (-4, upd I 0 0, F, st)
  else if i = -1 ∨ i = F 13 (cN g) then (0, upd I 0 0, va_up F 14 (upd (F 14) (cN g) 2), st)
  else (if F 14 (cN g) = 2 then 0 else 1, upd I 0 0, F, st)
def sp_free (g : Int32) (I : sI) (F : sF) (st : sT) : sR :=
  if ¬ is_gd I F g then (-2, upd I 0 0, F, st)
  else (if F 14 (cN g) = 2 then -10 - F 12 (cN g) else 1, upd I 0 0, va_up F 14 (upd (F 14) (cN g) 0), st)
def sp_told (k w : Int32) (I : sI) (F : sF) (st : sT) : sR :=
  (if ¬ is_ok (I 1) k then -1 else if w = 0 then F 2 (cN k) else if w = 1 then F 1 (cN k) else if w = 2 then F 0 (cN k) else -1, upd I 0 0, F, st)
/-- a reference's contract: the answer and the new picture are what the function says -/
abbrev md_post (dA : Nat → ClassId) (x : Nat) (g : Nat → Nat) (R : sR) : Int32 → mm_M → Prop := fun r M' => r = R.1 ∧ mP dA M' x g R.2.1 R.2.2.1 R.2.2.2
theorem md_done {dA : Nat → ClassId} {x : Nat} {g : Nat → Nat} {R : sR} {v : Int32} {M : mm_M} {I : sI} {F : sF} {st : sT} (hP : mP dA M x g I F st) (h : R = (v, I, F, st)) : md_post dA x g R v M := by
  subst h
  exact ⟨rfl, hP⟩
theorem cN_s {n : Nat} (h : n + 1 < 2 ^ 31) : cN (nI n + 1) = n + 1 := by rw [nI_1, cN, nI_clamp h]

theorem d_MO_isLevel_0 : decode b_MO_isLevel 0 = .ok (.iload_n 1, 1) := by decide +kernel
theorem d_MO_isLevel_1 : decode b_MO_isLevel 1 = .ok (.ifCond .le 15, 3) := by decide +kernel
theorem d_MO_isLevel_4 : decode b_MO_isLevel 4 = .ok (.iload_n 1, 1) := by decide +kernel
theorem d_MO_isLevel_5 : decode b_MO_isLevel 5 = .ok (.aload_n 0, 1) := by decide +kernel
theorem d_MO_isLevel_6 : decode b_MO_isLevel 6 = .ok (.getfield 64, 3) := by decide +kernel
theorem d_MO_isLevel_9 : decode b_MO_isLevel 9 = .ok (.if_icmp .gt 7, 3) := by decide +kernel
theorem d_MO_isLevel_12 : decode b_MO_isLevel 12 = .ok (.iconst 1, 1) := by decide +kernel
theorem d_MO_isLevel_13 : decode b_MO_isLevel 13 = .ok (.goto 4, 3) := by decide +kernel
theorem d_MO_isLevel_16 : decode b_MO_isLevel 16 = .ok (.iconst 0, 1) := by decide +kernel
theorem d_MO_isLevel_17 : decode b_MO_isLevel 17 = .ok (.ireturn, 1) := by decide +kernel
set_option maxHeartbeats 4000000 in
set_option maxRecDepth 100000 in
theorem c_MO_isLevel (l : Launch) (D : va_G) (dA : Nat → ClassId) (M : mm_M) (x : Nat) (g : Nat → Nat) (I : sI) (F : sF) (st : sT) (k : Int32) (hP : mP dA M x g I F st) : mm_Ci l y_MO_isLevel w_MO_isLevel ({ frames := 0, cells := 0, slots := 0, locals := 0 }) 0 0 D vC (tyL dA) [.ref x, .int k] M (fun r M' => M' = M ∧ ((r = 1 ∧ is_ok (I 1) k) ∨ (r = 0 ∧ ¬ is_ok (I 1) k))) := by
  intro sz
  refine mm_start (by decide) (Nat.le_of_ble_eq_true rfl) ?_
  intro p e s m below meth c A Q ls hA hQ S hr hlocks hin hK hw hl
  have hl : lv_has ls 2 [(0, .ref x), (1, .int k)] := hl
  refine lv_iload_n S.1 S.2.1 d_MO_isLevel_0 rfl (lv_at hl 1 rfl) ?_
  refine lv_if_le (tgt := 16) S.1 S.2.1 d_MO_isLevel_1 (by decide) (fun c1 => ?_) (fun c1 => ?_)
  · refine lv_iconst (v := 0) S.1 S.2.1 d_MO_isLevel_16 (by decide) ?_
    exact mm_retz S.1 S.2.1 hr hlocks hA hQ hw (rfl) (⟨rfl, Or.inr ⟨rfl, fun h => h.1 c1⟩⟩) (Nat.le_of_ble_eq_true rfl) (Nat.le_of_ble_eq_true rfl) d_MO_isLevel_17
  · refine lv_iload_n S.1 S.2.1 d_MO_isLevel_4 rfl (lv_at hl 1 rfl) ?_
    refine lv_aload_n S.1 S.2.1 d_MO_isLevel_5 rfl (lv_at hl 0 rfl) ?_
    refine mm_get (C := R_MO) (T := T_MO) (N := 22) (v := .int (I 1)) S hK.1 hw hP.2.1 rfl in_MO 1 (by decide) gw_371 rfl rfl d_MO_isLevel_6 ?_
    refine lv_icmp_gt (tgt := 16) S.1 S.2.1 d_MO_isLevel_9 (by decide) (fun c9 => ?_) (fun c9 => ?_)
    · refine lv_iconst (v := 0) S.1 S.2.1 d_MO_isLevel_16 (by decide) ?_
      exact mm_retz S.1 S.2.1 hr hlocks hA hQ hw (rfl) (⟨rfl, Or.inr ⟨rfl, fun h => h.2 c9⟩⟩) (Nat.le_of_ble_eq_true rfl) (Nat.le_of_ble_eq_true rfl) d_MO_isLevel_17
    · refine lv_iconst (v := 1) S.1 S.2.1 d_MO_isLevel_12 (by decide) ?_
      refine lv_goto (tgt := 17) S.1 S.2.1 d_MO_isLevel_13 (by decide) ?_
      exact mm_retz S.1 S.2.1 hr hlocks hA hQ hw (rfl) (⟨rfl, Or.inl ⟨rfl, c1, c9⟩⟩) (Nat.le_of_ble_eq_true rfl) (Nat.le_of_ble_eq_true rfl) d_MO_isLevel_17
theorem d_MO_isGuard_0 : decode b_MO_isGuard 0 = .ok (.iload_n 1, 1) := by decide +kernel
theorem d_MO_isGuard_1 : decode b_MO_isGuard 1 = .ok (.ifCond .le 24, 3) := by decide +kernel
theorem d_MO_isGuard_4 : decode b_MO_isGuard 4 = .ok (.iload_n 1, 1) := by decide +kernel
theorem d_MO_isGuard_5 : decode b_MO_isGuard 5 = .ok (.aload_n 0, 1) := by decide +kernel
theorem d_MO_isGuard_6 : decode b_MO_isGuard 6 = .ok (.getfield 90, 3) := by decide +kernel
theorem d_MO_isGuard_9 : decode b_MO_isGuard 9 = .ok (.if_icmp .gt 16, 3) := by decide +kernel
theorem d_MO_isGuard_12 : decode b_MO_isGuard 12 = .ok (.aload_n 0, 1) := by decide +kernel
theorem d_MO_isGuard_13 : decode b_MO_isGuard 13 = .ok (.getfield 54, 3) := by decide +kernel
theorem d_MO_isGuard_16 : decode b_MO_isGuard 16 = .ok (.iload_n 1, 1) := by decide +kernel
theorem d_MO_isGuard_17 : decode b_MO_isGuard 17 = .ok (.iaload, 1) := by decide +kernel
theorem d_MO_isGuard_18 : decode b_MO_isGuard 18 = .ok (.ifCond .le 7, 3) := by decide +kernel
theorem d_MO_isGuard_21 : decode b_MO_isGuard 21 = .ok (.iconst 1, 1) := by decide +kernel
theorem d_MO_isGuard_22 : decode b_MO_isGuard 22 = .ok (.goto 4, 3) := by decide +kernel
theorem d_MO_isGuard_25 : decode b_MO_isGuard 25 = .ok (.iconst 0, 1) := by decide +kernel
theorem d_MO_isGuard_26 : decode b_MO_isGuard 26 = .ok (.ireturn, 1) := by decide +kernel
set_option maxHeartbeats 4000000 in
set_option maxRecDepth 100000 in
theorem c_MO_isGuard (l : Launch) (D : va_G) (dA : Nat → ClassId) (M : mm_M) (x : Nat) (g : Nat → Nat) (I : sI) (F : sF) (st : sT) (k : Int32) (n : Nat) (hn : I 3 = nI n) (hN : n ≤ 60) (hP : mP dA M x g I F st) : mm_Ci l y_MO_isGuard w_MO_isGuard ({ frames := 0, cells := 0, slots := 0, locals := 0 }) 0 0 D vC (tyL dA) [.ref x, .int k] M (fun r M' => M' = M ∧ ((r = 1 ∧ is_gd I F k) ∨ (r = 0 ∧ ¬ is_gd I F k))) := by
  intro sz
  refine mm_start (by decide) (Nat.le_of_ble_eq_true rfl) ?_
  intro p e s m below meth c A Q ls hA hQ S hr hlocks hin hK hw hl
  have hl : lv_has ls 2 [(0, .ref x), (1, .int k)] := hl
  refine lv_iload_n S.1 S.2.1 d_MO_isGuard_0 rfl (lv_at hl 1 rfl) ?_
  refine lv_if_le (tgt := 25) S.1 S.2.1 d_MO_isGuard_1 (by decide) (fun c1 => ?_) (fun c1 => ?_)
  · refine lv_iconst (v := 0) S.1 S.2.1 d_MO_isGuard_25 (by decide) ?_
    exact mm_retz S.1 S.2.1 hr hlocks hA hQ hw (rfl) (⟨rfl, Or.inr ⟨rfl, fun h => h.1.1 c1⟩⟩) (Nat.le_of_ble_eq_true rfl) (Nat.le_of_ble_eq_true rfl) d_MO_isGuard_26
  · refine lv_iload_n S.1 S.2.1 d_MO_isGuard_4 rfl (lv_at hl 1 rfl) ?_
    refine lv_aload_n S.1 S.2.1 d_MO_isGuard_5 rfl (lv_at hl 0 rfl) ?_
    refine mm_get (C := R_MO) (T := T_MO) (N := 22) (v := .int (I 3)) S hK.1 hw hP.2.1 rfl in_MO 3 (by decide) gw_373 rfl rfl d_MO_isGuard_6 ?_
    refine lv_icmp_gt (tgt := 25) S.1 S.2.1 d_MO_isGuard_9 (by decide) (fun c9 => ?_) (fun c9 => ?_)
    · refine lv_iconst (v := 0) S.1 S.2.1 d_MO_isGuard_25 (by decide) ?_
      exact mm_retz S.1 S.2.1 hr hlocks hA hQ hw (rfl) (⟨rfl, Or.inr ⟨rfl, fun h => h.1.2 c9⟩⟩) (Nat.le_of_ble_eq_true rfl) (Nat.le_of_ble_eq_true rfl) d_MO_isGuard_26
    · refine lv_aload_n S.1 S.2.1 d_MO_isGuard_12 rfl (lv_at hl 0 rfl) ?_
      refine mm_get (C := R_MO) (T := T_MO) (N := 22) (v := .ref (g 14)) S hK.1 hw hP.2.1 rfl in_MO 20 (by decide) gw_390 rfl rfl d_MO_isGuard_13 ?_
      refine lv_iload_n S.1 S.2.1 d_MO_isGuard_16 rfl (lv_at hl 1 rfl) ?_
      obtain ⟨j, ekj, hlj, hhj, enj⟩ := is_of (N := n) hn (by omega) ⟨c1, c9⟩
      refine mn_iald (j := cN k) (n := 61) (f := F 14) S hK.1 hw 0 (mP_a (k := 14) (F := F) hP (by decide) (by decide)) rfl (cl_nI (is_le0 c1)) (by rw [cN, enj]; omega) (by decide) d_MO_isGuard_17 ?_
      refine lv_if_le (tgt := 25) S.1 S.2.1 d_MO_isGuard_18 (by decide) (fun c18 => ?_) (fun c18 => ?_)
      · refine lv_iconst (v := 0) S.1 S.2.1 d_MO_isGuard_25 (by decide) ?_
        exact mm_retz S.1 S.2.1 hr hlocks hA hQ hw (rfl) (⟨rfl, Or.inr ⟨rfl, fun h => h.2 c18⟩⟩) (Nat.le_of_ble_eq_true rfl) (Nat.le_of_ble_eq_true rfl) d_MO_isGuard_26
      · refine lv_iconst (v := 1) S.1 S.2.1 d_MO_isGuard_21 (by decide) ?_
        refine lv_goto (tgt := 26) S.1 S.2.1 d_MO_isGuard_22 (by decide) ?_
        exact mm_retz S.1 S.2.1 hr hlocks hA hQ hw (rfl) (⟨rfl, Or.inl ⟨rfl, ⟨c1, c9⟩, c18⟩⟩) (Nat.le_of_ble_eq_true rfl) (Nat.le_of_ble_eq_true rfl) d_MO_isGuard_26
theorem d_MO_level_0 : decode b_MO_level 0 = .ok (.aload_n 0, 1) := by decide +kernel
theorem d_MO_level_1 : decode b_MO_level 1 = .ok (.iconst 0, 1) := by decide +kernel
theorem d_MO_level_2 : decode b_MO_level 2 = .ok (.putfield 60, 3) := by decide +kernel
theorem d_MO_level_5 : decode b_MO_level 5 = .ok (.iload_n 1, 1) := by decide +kernel
theorem d_MO_level_6 : decode b_MO_level 6 = .ok (.ifCond .eq 14, 3) := by decide +kernel
theorem d_MO_level_9 : decode b_MO_level 9 = .ok (.aload_n 0, 1) := by decide +kernel
theorem d_MO_level_10 : decode b_MO_level 10 = .ok (.iload_n 1, 1) := by decide +kernel
theorem d_MO_level_11 : decode b_MO_level 11 = .ok (.invokevirtual 67, 3) := by decide +kernel
theorem d_MO_level_14 : decode b_MO_level 14 = .ok (.ifCond .ne 6, 3) := by decide +kernel
theorem d_MO_level_17 : decode b_MO_level 17 = .ok (.bipush (-2), 2) := by decide +kernel
theorem d_MO_level_19 : decode b_MO_level 19 = .ok (.ireturn, 1) := by decide +kernel
theorem d_MO_level_20 : decode b_MO_level 20 = .ok (.aload_n 0, 1) := by decide +kernel
theorem d_MO_level_21 : decode b_MO_level 21 = .ok (.getfield 64, 3) := by decide +kernel
theorem d_MO_level_24 : decode b_MO_level 24 = .ok (.bipush 100, 2) := by decide +kernel
theorem d_MO_level_26 : decode b_MO_level 26 = .ok (.if_icmp .eq 14, 3) := by decide +kernel
theorem d_MO_level_29 : decode b_MO_level 29 = .ok (.aload_n 0, 1) := by decide +kernel
theorem d_MO_level_30 : decode b_MO_level 30 = .ok (.getfield 13, 3) := by decide +kernel
theorem d_MO_level_33 : decode b_MO_level 33 = .ok (.iload_n 1, 1) := by decide +kernel
theorem d_MO_level_34 : decode b_MO_level 34 = .ok (.iaload, 1) := by decide +kernel
theorem d_MO_level_35 : decode b_MO_level 35 = .ok (.bipush 20, 2) := by decide +kernel
theorem d_MO_level_37 : decode b_MO_level 37 = .ok (.if_icmp .ne 5, 3) := by decide +kernel
theorem d_MO_level_40 : decode b_MO_level 40 = .ok (.iconst (-1), 1) := by decide +kernel
theorem d_MO_level_41 : decode b_MO_level 41 = .ok (.ireturn, 1) := by decide +kernel
theorem d_MO_level_42 : decode b_MO_level 42 = .ok (.aload_n 0, 1) := by decide +kernel
theorem d_MO_level_43 : decode b_MO_level 43 = .ok (.dup, 1) := by decide +kernel
theorem d_MO_level_44 : decode b_MO_level 44 = .ok (.getfield 64, 3) := by decide +kernel
theorem d_MO_level_47 : decode b_MO_level 47 = .ok (.iconst 1, 1) := by decide +kernel
theorem d_MO_level_48 : decode b_MO_level 48 = .ok (.iadd, 1) := by decide +kernel
theorem d_MO_level_49 : decode b_MO_level 49 = .ok (.putfield 64, 3) := by decide +kernel
theorem d_MO_level_52 : decode b_MO_level 52 = .ok (.aload_n 0, 1) := by decide +kernel
theorem d_MO_level_53 : decode b_MO_level 53 = .ok (.getfield 7, 3) := by decide +kernel
theorem d_MO_level_56 : decode b_MO_level 56 = .ok (.aload_n 0, 1) := by decide +kernel
theorem d_MO_level_57 : decode b_MO_level 57 = .ok (.getfield 64, 3) := by decide +kernel
theorem d_MO_level_60 : decode b_MO_level 60 = .ok (.iload_n 1, 1) := by decide +kernel
theorem d_MO_level_61 : decode b_MO_level 61 = .ok (.iastore, 1) := by decide +kernel
theorem d_MO_level_62 : decode b_MO_level 62 = .ok (.aload_n 0, 1) := by decide +kernel
theorem d_MO_level_63 : decode b_MO_level 63 = .ok (.getfield 13, 3) := by decide +kernel
theorem d_MO_level_66 : decode b_MO_level 66 = .ok (.aload_n 0, 1) := by decide +kernel
theorem d_MO_level_67 : decode b_MO_level 67 = .ok (.getfield 64, 3) := by decide +kernel
theorem d_MO_level_70 : decode b_MO_level 70 = .ok (.aload_n 0, 1) := by decide +kernel
theorem d_MO_level_71 : decode b_MO_level 71 = .ok (.getfield 13, 3) := by decide +kernel
theorem d_MO_level_74 : decode b_MO_level 74 = .ok (.iload_n 1, 1) := by decide +kernel
theorem d_MO_level_75 : decode b_MO_level 75 = .ok (.iaload, 1) := by decide +kernel
theorem d_MO_level_76 : decode b_MO_level 76 = .ok (.iconst 1, 1) := by decide +kernel
theorem d_MO_level_77 : decode b_MO_level 77 = .ok (.iadd, 1) := by decide +kernel
theorem d_MO_level_78 : decode b_MO_level 78 = .ok (.iastore, 1) := by decide +kernel
theorem d_MO_level_79 : decode b_MO_level 79 = .ok (.aload_n 0, 1) := by decide +kernel
theorem d_MO_level_80 : decode b_MO_level 80 = .ok (.getfield 64, 3) := by decide +kernel
theorem d_MO_level_83 : decode b_MO_level 83 = .ok (.ireturn, 1) := by decide +kernel
set_option maxHeartbeats 4000000 in
set_option maxRecDepth 100000 in
theorem c_MO_level (l : Launch) (D : va_G) (dA : Nat → ClassId) (M : mm_M) (x : Nat) (g : Nat → Nat) (I : sI) (F : sF) (st : sT) (k : Int32) (n : Nat) (hn : I 1 = nI n) (hN : n ≤ 100) (hP : mP dA M x g I F st) : mm_Ci l y_MO_level w_MO_level ({ frames := 1, cells := 0, slots := 0, locals := 21 }) 0 0 D vC (tyL dA) [.ref x, .int k] M (md_post dA x g (sp_level k I F st)) := by
  intro sz
  refine mm_start (by decide) (Nat.le_of_ble_eq_true rfl) ?_
  intro p e s m below meth c A Q ls hA hQ S hr hlocks hin hK hw hl
  have hl : lv_has ls 2 [(0, .ref x), (1, .int k)] := hl
  refine lv_aload_n S.1 S.2.1 d_MO_level_0 rfl (lv_at hl 0 rfl) ?_
  refine lv_iconst (v := 0) S.1 S.2.1 d_MO_level_1 (by decide) ?_
  refine mm_put (C := R_MO) (T := T_MO) (N := 22) (ty := .int) (v := .int 0) S hK.1 hw hP.2.1 rfl in_MO t_MO k_MO n_MO 0 (by decide) gw_370 rfl rfl (by decide +kernel) rfl rfl (Nat.le_of_ble_eq_true rfl) d_MO_level_2 (fun H locs hw => ?_)
  obtain ⟨M, hw, hP⟩ := md_puti (k := 0) (v := 0) (by decide) hw hP
  refine lv_iload_n S.1 S.2.1 d_MO_level_5 rfl (lv_at hl 1 rfl) ?_
  refine lv_if_eq (tgt := 20) S.1 S.2.1 d_MO_level_6 (by decide) (fun c6 => ?_) (fun c6 => ?_)
  · refine lv_aload_n S.1 S.2.1 d_MO_level_20 rfl (lv_at hl 0 rfl) ?_
    refine mm_get (C := R_MO) (T := T_MO) (N := 22) (v := .int (I 1)) S hK.1 hw hP.2.1 rfl in_MO 1 (by decide) gw_371 rfl rfl d_MO_level_21 ?_
    refine lv_bipush (v := 100) S.1 S.2.1 d_MO_level_24 (by decide) ?_
    refine lv_icmp_eq (tgt := 40) S.1 S.2.1 d_MO_level_26 (by decide) (fun c26 => ?_) (fun c26 => ?_)
    · refine lv_iconst (v := (-1)) S.1 S.2.1 d_MO_level_40 (by decide) ?_
      exact mm_reti S.1 S.2.1 hr hlocks hA hQ hw (md_done hP (show sp_level k I F st = ((-1), (upd I 0 (0)), F, st) by simp only [sp_level, eq_true c6, eq_true c26, not_true_eq_false, not_false_eq_true, and_true, true_and, and_false, false_and, and_self, or_true, true_or, or_false, false_or, or_self, ↓reduceIte])) (Nat.le_of_ble_eq_true rfl) (Nat.le_of_ble_eq_true rfl) d_MO_level_41
    · refine lv_aload_n S.1 S.2.1 d_MO_level_29 rfl (lv_at hl 0 rfl) ?_
      refine mm_get (C := R_MO) (T := T_MO) (N := 22) (v := .ref (g 1)) S hK.1 hw hP.2.1 rfl in_MO 7 (by decide) gw_377 rfl rfl d_MO_level_30 ?_
      refine lv_iload_n S.1 S.2.1 d_MO_level_33 rfl (lv_at hl 1 rfl) ?_
      refine mn_iald (j := cN k) (n := 101) (f := F 1) S hK.1 hw 0 (mP_a (k := 1) (F := F) hP (by decide) (by decide)) rfl (by rw [c6]; rfl) (by rw [c6]; decide) (by decide) d_MO_level_34 ?_
      refine lv_bipush (v := 20) S.1 S.2.1 d_MO_level_35 (by decide) ?_
      refine lv_icmp_ne (tgt := 42) S.1 S.2.1 d_MO_level_37 (by decide) (fun c37 => ?_) (fun c37 => ?_)
      · have hn1 : n + 1 < 101 := by
          rcases Nat.lt_or_ge n 100 with q | q
          · omega
          · exact absurd (by rw [hn, show n = 100 by omega]; rfl) c26
        refine lv_aload_n S.1 S.2.1 d_MO_level_42 rfl (lv_at hl 0 rfl) ?_
        refine lv_dup S.1 S.2.1 d_MO_level_43 rfl ?_
        refine mm_get (C := R_MO) (T := T_MO) (N := 22) (v := .int (I 1)) S hK.1 hw hP.2.1 rfl in_MO 1 (by decide) gw_371 rfl rfl d_MO_level_44 ?_
        refine lv_iconst (v := 1) S.1 S.2.1 d_MO_level_47 (by decide) ?_
        refine lv_iadd S.1 S.2.1 d_MO_level_48 ?_
        refine mm_put (C := R_MO) (T := T_MO) (N := 22) (ty := .int) (v := .int ((I 1) + 1)) S hK.1 hw hP.2.1 rfl in_MO t_MO k_MO n_MO 1 (by decide) gw_371 rfl rfl (by decide +kernel) rfl rfl (Nat.le_of_ble_eq_true rfl) d_MO_level_49 (fun H locs hw => ?_)
        obtain ⟨M, hw, hP⟩ := md_puti (k := 1) (v := ((I 1) + 1)) (by decide) hw hP
        refine lv_aload_n S.1 S.2.1 d_MO_level_52 rfl (lv_at hl 0 rfl) ?_
        refine mm_get (C := R_MO) (T := T_MO) (N := 22) (v := .ref (g 0)) S hK.1 hw hP.2.1 rfl in_MO 6 (by decide) gw_376 rfl rfl d_MO_level_53 ?_
        refine lv_aload_n S.1 S.2.1 d_MO_level_56 rfl (lv_at hl 0 rfl) ?_
        refine mm_get (C := R_MO) (T := T_MO) (N := 22) (v := .int (((I 1) + 1))) S hK.1 hw hP.2.1 rfl in_MO 1 (by decide) gw_371 rfl rfl d_MO_level_57 ?_
        refine lv_iload_n S.1 S.2.1 d_MO_level_60 rfl (lv_at hl 1 rfl) ?_
        refine mn_iast (j := cN (I 1 + 1)) (n := 101) (f := F 0) S hK.1 hw 0 (mP_a (k := 0) (F := F) hP (by decide) (by decide)) rfl (by rw [hn, cN_s (by omega)]; exact nI_1 n) (by rw [hn, cN_s (by omega)]; omega) (by decide) d_MO_level_61 (fun H locs hw => ?_)
        obtain ⟨M, hw, hP⟩ := md_ast (k := 0) (j := cN (I 1 + 1)) (v := k) (F := F) (by decide) (by decide) hw hP
        refine lv_aload_n S.1 S.2.1 d_MO_level_62 rfl (lv_at hl 0 rfl) ?_
        refine mm_get (C := R_MO) (T := T_MO) (N := 22) (v := .ref (g 1)) S hK.1 hw hP.2.1 rfl in_MO 7 (by decide) gw_377 rfl rfl d_MO_level_63 ?_
        refine lv_aload_n S.1 S.2.1 d_MO_level_66 rfl (lv_at hl 0 rfl) ?_
        refine mm_get (C := R_MO) (T := T_MO) (N := 22) (v := .int (((I 1) + 1))) S hK.1 hw hP.2.1 rfl in_MO 1 (by decide) gw_371 rfl rfl d_MO_level_67 ?_
        refine lv_aload_n S.1 S.2.1 d_MO_level_70 rfl (lv_at hl 0 rfl) ?_
        refine mm_get (C := R_MO) (T := T_MO) (N := 22) (v := .ref (g 1)) S hK.1 hw hP.2.1 rfl in_MO 7 (by decide) gw_377 rfl rfl d_MO_level_71 ?_
        refine lv_iload_n S.1 S.2.1 d_MO_level_74 rfl (lv_at hl 1 rfl) ?_
        refine mn_iald (j := cN k) (n := 101) (f := F 1) S hK.1 hw 0 (mP_a (k := 1) (F := (va_up F 0 (upd (F 0) (cN (I 1 + 1)) (k)))) hP (by decide) (by decide)) rfl (by rw [c6]; rfl) (by rw [c6]; decide) (by decide) d_MO_level_75 ?_
        refine lv_iconst (v := 1) S.1 S.2.1 d_MO_level_76 (by decide) ?_
        refine lv_iadd S.1 S.2.1 d_MO_level_77 ?_
        refine mn_iast (j := cN (I 1 + 1)) (n := 101) (f := F 1) S hK.1 hw 0 (mP_a (k := 1) (F := (va_up F 0 (upd (F 0) (cN (I 1 + 1)) (k)))) hP (by decide) (by decide)) rfl (by rw [hn, cN_s (by omega)]; exact nI_1 n) (by rw [hn, cN_s (by omega)]; omega) (by decide) d_MO_level_78 (fun H locs hw => ?_)
        obtain ⟨M, hw, hP⟩ := md_ast (k := 1) (j := cN (I 1 + 1)) (v := ((F 1 (cN k)) + 1)) (F := (va_up F 0 (upd (F 0) (cN (I 1 + 1)) (k)))) (by decide) (by decide) hw hP
        refine lv_aload_n S.1 S.2.1 d_MO_level_79 rfl (lv_at hl 0 rfl) ?_
        refine mm_get (C := R_MO) (T := T_MO) (N := 22) (v := .int (((I 1) + 1))) S hK.1 hw hP.2.1 rfl in_MO 1 (by decide) gw_371 rfl rfl d_MO_level_80 ?_
        exact mm_reti S.1 S.2.1 hr hlocks hA hQ hw (md_done hP (show sp_level k I F st = ((((I 1) + 1)), (upd (upd I 0 (0)) 1 (((I 1) + 1))), (va_up (va_up F 0 (upd (F 0) (cN (I 1 + 1)) (k))) 1 (upd (F 1) (cN (I 1 + 1)) (((F 1 (cN k)) + 1)))), st) by simp only [sp_level, eq_true c6, eq_false c26, eq_false c37, not_true_eq_false, not_false_eq_true, and_true, true_and, and_false, false_and, and_self, or_true, true_or, or_false, false_or, or_self, ↓reduceIte])) (Nat.le_of_ble_eq_true rfl) (Nat.le_of_ble_eq_true rfl) d_MO_level_83
      · refine lv_iconst (v := (-1)) S.1 S.2.1 d_MO_level_40 (by decide) ?_
        exact mm_reti S.1 S.2.1 hr hlocks hA hQ hw (md_done hP (show sp_level k I F st = ((-1), (upd I 0 (0)), F, st) by simp only [sp_level, eq_true c6, eq_false c26, eq_true c37, not_true_eq_false, not_false_eq_true, and_true, true_and, and_false, false_and, and_self, or_true, true_or, or_false, false_or, or_self, ↓reduceIte])) (Nat.le_of_ble_eq_true rfl) (Nat.le_of_ble_eq_true rfl) d_MO_level_41
  · refine lv_aload_n S.1 S.2.1 d_MO_level_9 rfl (lv_at hl 0 rfl) ?_
    refine lv_iload_n S.1 S.2.1 d_MO_level_10 rfl (lv_at hl 1 rfl) ?_
    refine mm_calli hw (mm_runV (a := x) (As := [.int k]) (rest := []) S hK hw (c_MO_isLevel l D dA _ x g (upd I 0 (0)) F st k hP _) bv_MO_isLevel gw_442 hP.2.1 rfl (⟨rfl, rfl, by decide, by decide, by decide, by decide⟩) hl.1 rfl rfl (Nat.le_of_ble_eq_true rfl) d_MO_level_11) (fun r1 M2 H locs hp hw => ?_)
    rw [hp.1] at hw
    rcases hp.2 with ⟨rfl, hc3⟩ | ⟨rfl, hc3⟩
    · have hc3 : is_ok (I 1) (k) := hc3
      obtain ⟨j4, ekj4, hlj4, hhj4, enj4⟩ := is_of (N := n) hn (by omega) hc3
      refine lv_if_ne (tgt := 20) S.1 S.2.1 d_MO_level_14 (by decide) (fun c14 => ?_) (fun c14 => absurd c14 (by decide))
      refine lv_aload_n S.1 S.2.1 d_MO_level_20 rfl (lv_at hl 0 rfl) ?_
      refine mm_get (C := R_MO) (T := T_MO) (N := 22) (v := .int (I 1)) S hK.1 hw hP.2.1 rfl in_MO 1 (by decide) gw_371 rfl rfl d_MO_level_21 ?_
      refine lv_bipush (v := 100) S.1 S.2.1 d_MO_level_24 (by decide) ?_
      refine lv_icmp_eq (tgt := 40) S.1 S.2.1 d_MO_level_26 (by decide) (fun c26 => ?_) (fun c26 => ?_)
      · refine lv_iconst (v := (-1)) S.1 S.2.1 d_MO_level_40 (by decide) ?_
        exact mm_reti S.1 S.2.1 hr hlocks hA hQ hw (md_done hP (show sp_level k I F st = ((-1), (upd I 0 (0)), F, st) by simp only [sp_level, eq_false c6, eq_false c14, eq_true c26, eq_true hc3, not_true_eq_false, not_false_eq_true, and_true, true_and, and_false, false_and, and_self, or_true, true_or, or_false, false_or, or_self, ↓reduceIte])) (Nat.le_of_ble_eq_true rfl) (Nat.le_of_ble_eq_true rfl) d_MO_level_41
      · refine lv_aload_n S.1 S.2.1 d_MO_level_29 rfl (lv_at hl 0 rfl) ?_
        refine mm_get (C := R_MO) (T := T_MO) (N := 22) (v := .ref (g 1)) S hK.1 hw hP.2.1 rfl in_MO 7 (by decide) gw_377 rfl rfl d_MO_level_30 ?_
        refine lv_iload_n S.1 S.2.1 d_MO_level_33 rfl (lv_at hl 1 rfl) ?_
        refine mn_iald (j := cN k) (n := 101) (f := F 1) S hK.1 hw 0 (mP_a (k := 1) (F := F) hP (by decide) (by decide)) rfl (cl_nI (is_le0 hc3.1)) (by rw [cN, enj4]; omega) (by decide) d_MO_level_34 ?_
        refine lv_bipush (v := 20) S.1 S.2.1 d_MO_level_35 (by decide) ?_
        refine lv_icmp_ne (tgt := 42) S.1 S.2.1 d_MO_level_37 (by decide) (fun c37 => ?_) (fun c37 => ?_)
        · have hn1 : n + 1 < 101 := by
            rcases Nat.lt_or_ge n 100 with q | q
            · omega
            · exact absurd (by rw [hn, show n = 100 by omega]; rfl) c26
          refine lv_aload_n S.1 S.2.1 d_MO_level_42 rfl (lv_at hl 0 rfl) ?_
          refine lv_dup S.1 S.2.1 d_MO_level_43 rfl ?_
          refine mm_get (C := R_MO) (T := T_MO) (N := 22) (v := .int (I 1)) S hK.1 hw hP.2.1 rfl in_MO 1 (by decide) gw_371 rfl rfl d_MO_level_44 ?_
          refine lv_iconst (v := 1) S.1 S.2.1 d_MO_level_47 (by decide) ?_
          refine lv_iadd S.1 S.2.1 d_MO_level_48 ?_
          refine mm_put (C := R_MO) (T := T_MO) (N := 22) (ty := .int) (v := .int ((I 1) + 1)) S hK.1 hw hP.2.1 rfl in_MO t_MO k_MO n_MO 1 (by decide) gw_371 rfl rfl (by decide +kernel) rfl rfl (Nat.le_of_ble_eq_true rfl) d_MO_level_49 (fun H locs hw => ?_)
          obtain ⟨M, hw, hP⟩ := md_puti (k := 1) (v := ((I 1) + 1)) (by decide) hw hP
          refine lv_aload_n S.1 S.2.1 d_MO_level_52 rfl (lv_at hl 0 rfl) ?_
          refine mm_get (C := R_MO) (T := T_MO) (N := 22) (v := .ref (g 0)) S hK.1 hw hP.2.1 rfl in_MO 6 (by decide) gw_376 rfl rfl d_MO_level_53 ?_
          refine lv_aload_n S.1 S.2.1 d_MO_level_56 rfl (lv_at hl 0 rfl) ?_
          refine mm_get (C := R_MO) (T := T_MO) (N := 22) (v := .int (((I 1) + 1))) S hK.1 hw hP.2.1 rfl in_MO 1 (by decide) gw_371 rfl rfl d_MO_level_57 ?_
          refine lv_iload_n S.1 S.2.1 d_MO_level_60 rfl (lv_at hl 1 rfl) ?_
          refine mn_iast (j := cN (I 1 + 1)) (n := 101) (f := F 0) S hK.1 hw 0 (mP_a (k := 0) (F := F) hP (by decide) (by decide)) rfl (by rw [hn, cN_s (by omega)]; exact nI_1 n) (by rw [hn, cN_s (by omega)]; omega) (by decide) d_MO_level_61 (fun H locs hw => ?_)
          obtain ⟨M, hw, hP⟩ := md_ast (k := 0) (j := cN (I 1 + 1)) (v := k) (F := F) (by decide) (by decide) hw hP
          refine lv_aload_n S.1 S.2.1 d_MO_level_62 rfl (lv_at hl 0 rfl) ?_
          refine mm_get (C := R_MO) (T := T_MO) (N := 22) (v := .ref (g 1)) S hK.1 hw hP.2.1 rfl in_MO 7 (by decide) gw_377 rfl rfl d_MO_level_63 ?_
          refine lv_aload_n S.1 S.2.1 d_MO_level_66 rfl (lv_at hl 0 rfl) ?_
          refine mm_get (C := R_MO) (T := T_MO) (N := 22) (v := .int (((I 1) + 1))) S hK.1 hw hP.2.1 rfl in_MO 1 (by decide) gw_371 rfl rfl d_MO_level_67 ?_
          refine lv_aload_n S.1 S.2.1 d_MO_level_70 rfl (lv_at hl 0 rfl) ?_
          refine mm_get (C := R_MO) (T := T_MO) (N := 22) (v := .ref (g 1)) S hK.1 hw hP.2.1 rfl in_MO 7 (by decide) gw_377 rfl rfl d_MO_level_71 ?_
          refine lv_iload_n S.1 S.2.1 d_MO_level_74 rfl (lv_at hl 1 rfl) ?_
          refine mn_iald (j := cN k) (n := 101) (f := F 1) S hK.1 hw 0 (mP_a (k := 1) (F := (va_up F 0 (upd (F 0) (cN (I 1 + 1)) (k)))) hP (by decide) (by decide)) rfl (cl_nI (is_le0 hc3.1)) (by rw [cN, enj4]; omega) (by decide) d_MO_level_75 ?_
          refine lv_iconst (v := 1) S.1 S.2.1 d_MO_level_76 (by decide) ?_
          refine lv_iadd S.1 S.2.1 d_MO_level_77 ?_
          refine mn_iast (j := cN (I 1 + 1)) (n := 101) (f := F 1) S hK.1 hw 0 (mP_a (k := 1) (F := (va_up F 0 (upd (F 0) (cN (I 1 + 1)) (k)))) hP (by decide) (by decide)) rfl (by rw [hn, cN_s (by omega)]; exact nI_1 n) (by rw [hn, cN_s (by omega)]; omega) (by decide) d_MO_level_78 (fun H locs hw => ?_)
          obtain ⟨M, hw, hP⟩ := md_ast (k := 1) (j := cN (I 1 + 1)) (v := ((F 1 (cN k)) + 1)) (F := (va_up F 0 (upd (F 0) (cN (I 1 + 1)) (k)))) (by decide) (by decide) hw hP
          refine lv_aload_n S.1 S.2.1 d_MO_level_79 rfl (lv_at hl 0 rfl) ?_
          refine mm_get (C := R_MO) (T := T_MO) (N := 22) (v := .int (((I 1) + 1))) S hK.1 hw hP.2.1 rfl in_MO 1 (by decide) gw_371 rfl rfl d_MO_level_80 ?_
          exact mm_reti S.1 S.2.1 hr hlocks hA hQ hw (md_done hP (show sp_level k I F st = ((((I 1) + 1)), (upd (upd I 0 (0)) 1 (((I 1) + 1))), (va_up (va_up F 0 (upd (F 0) (cN (I 1 + 1)) (k))) 1 (upd (F 1) (cN (I 1 + 1)) (((F 1 (cN k)) + 1)))), st) by simp only [sp_level, eq_false c6, eq_false c14, eq_false c26, eq_false c37, eq_true hc3, not_true_eq_false, not_false_eq_true, and_true, true_and, and_false, false_and, and_self, or_true, true_or, or_false, false_or, or_self, ↓reduceIte])) (Nat.le_of_ble_eq_true rfl) (Nat.le_of_ble_eq_true rfl) d_MO_level_83
        · refine lv_iconst (v := (-1)) S.1 S.2.1 d_MO_level_40 (by decide) ?_
          exact mm_reti S.1 S.2.1 hr hlocks hA hQ hw (md_done hP (show sp_level k I F st = ((-1), (upd I 0 (0)), F, st) by simp only [sp_level, eq_false c6, eq_false c14, eq_false c26, eq_true c37, eq_true hc3, not_true_eq_false, not_false_eq_true, and_true, true_and, and_false, false_and, and_self, or_true, true_or, or_false, false_or, or_self, ↓reduceIte])) (Nat.le_of_ble_eq_true rfl) (Nat.le_of_ble_eq_true rfl) d_MO_level_41
    · have hc3 : ¬ is_ok (I 1) (k) := hc3
      refine lv_if_ne (tgt := 20) S.1 S.2.1 d_MO_level_14 (by decide) (fun c14 => absurd c14 (by decide)) (fun c14 => ?_)
      refine lv_bipush (v := (-2)) S.1 S.2.1 d_MO_level_17 (by decide) ?_
      exact mm_reti S.1 S.2.1 hr hlocks hA hQ hw (md_done hP (show sp_level k I F st = ((-2), (upd I 0 (0)), F, st) by simp only [sp_level, eq_false c6, eq_true c14, eq_false hc3, not_true_eq_false, not_false_eq_true, and_true, true_and, and_false, false_and, and_self, or_true, true_or, or_false, false_or, or_self, ↓reduceIte])) (Nat.le_of_ble_eq_true rfl) (Nat.le_of_ble_eq_true rfl) d_MO_level_19
