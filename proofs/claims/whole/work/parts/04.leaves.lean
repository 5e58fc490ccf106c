/-! small pure rows -/
theorem mm_uu {M : mm_M} {a : Nat} {x y : va_E} : mm_up (mm_up M a x) a y = mm_up M a y := by
  funext q
  by_cases h : q = a <;> simp [mm_up, h]
/-- a number from 1 to n -/
abbrev is_ok (n k : Int32) : Prop := ¬ k ≤ 0 ∧ ¬ n < k
theorem is_lt1 {k : Int32} : k < 1 ↔ k ≤ 0 := by
  rw [Int32.lt_iff_toInt_lt, Int32.le_iff_toInt_le, Int32.toInt_zero, show (1 : Int32).toInt = 1 from rfl]
  omega
theorem is_le0 {k : Int32} : ¬ k ≤ 0 → ¬ k < 0 := by
  rw [Int32.lt_iff_toInt_lt, Int32.le_iff_toInt_le, Int32.toInt_zero]
  omega
theorem cl_nI {k : Int32} (h : ¬ k < 0) : k = nI k.toNatClampNeg := by
  obtain ⟨j, hj, rfl⟩ := nI_of h
  rw [nI_clamp hj]
/-- the number itself -/
theorem is_of {n k : Int32} {N : Nat} (hn : n = nI N) (hN : N < 2 ^ 31) (h : is_ok n k) : ∃ j : Nat, k = nI j ∧ 1 ≤ j ∧ j ≤ N ∧ k.toNatClampNeg = j := by
  subst hn
  obtain ⟨h1, h2⟩ := h
  obtain ⟨j, hj, rfl⟩ := nI_of (is_le0 h1)
  refine ⟨j, rfl, ?_, Nat.not_lt.mp (fun q => h2 ((nI_ltI hN hj).mpr q)), nI_clamp hj⟩
  rcases Nat.eq_zero_or_pos j with h | h
  · subst h
    exact absurd (by rw [nI_0, Int32.le_iff_toInt_le]; exact Int.le_refl _) h1
  · exact h

theorem d_AR_isCode_0 : decode b_AR_isCode 0 = .ok (.iload_n 0, 1) := by decide +kernel
theorem d_AR_isCode_1 : decode b_AR_isCode 1 = .ok (.iconst 1, 1) := by decide +kernel
theorem d_AR_isCode_2 : decode b_AR_isCode 2 = .ok (.if_icmp .lt 14, 3) := by decide +kernel
theorem d_AR_isCode_5 : decode b_AR_isCode 5 = .ok (.iload_n 0, 1) := by decide +kernel
theorem d_AR_isCode_6 : decode b_AR_isCode 6 = .ok (.sipush 9999, 3) := by decide +kernel
theorem d_AR_isCode_9 : decode b_AR_isCode 9 = .ok (.if_icmp .gt 7, 3) := by decide +kernel
theorem d_AR_isCode_12 : decode b_AR_isCode 12 = .ok (.iconst 1, 1) := by decide +kernel
theorem d_AR_isCode_13 : decode b_AR_isCode 13 = .ok (.goto 4, 3) := by decide +kernel
theorem d_AR_isCode_16 : decode b_AR_isCode 16 = .ok (.iconst 0, 1) := by decide +kernel
theorem d_AR_isCode_17 : decode b_AR_isCode 17 = .ok (.ireturn, 1) := by decide +kernel
set_option maxHeartbeats 4000000 in
set_option maxRecDepth 100000 in
theorem c_AR_isCode (l : Launch) (D : va_G) (dA : Nat → ClassId) (M : mm_M) (k : Int32) : mm_Ci l y_AR_isCode w_AR_isCode ({ frames := 0, cells := 0, slots := 0, locals := 0 }) 0 0 D vC (tyL dA) [.int k] M (fun r M' => M' = M ∧ ((r = 1 ∧ is_ok 9999 k) ∨ (r = 0 ∧ ¬ is_ok 9999 k))) := by
  intro sz
  refine mm_start (by decide) (Nat.le_of_ble_eq_true rfl) ?_
  intro p e s m below meth c A Q ls hA hQ S hr hlocks hin hK hw hl
  have hl : lv_has ls 1 [(0, .int k)] := hl
  refine lv_iload_n S.1 S.2.1 d_AR_isCode_0 rfl (lv_at hl 0 rfl) ?_
  refine lv_iconst (v := 1) S.1 S.2.1 d_AR_isCode_1 (by decide) ?_
  refine lv_icmp_lt (tgt := 16) S.1 S.2.1 d_AR_isCode_2 (by decide) (fun c2 => ?_) (fun c2 => ?_)
  · refine lv_iconst (v := 0) S.1 S.2.1 d_AR_isCode_16 (by decide) ?_
    exact mm_retz S.1 S.2.1 hr hlocks hA hQ hw (rfl) (⟨rfl, Or.inr ⟨rfl, fun h => h.1 (is_lt1.mp c2)⟩⟩) (Nat.le_of_ble_eq_true rfl) (Nat.le_of_ble_eq_true rfl) d_AR_isCode_17
  · refine lv_iload_n S.1 S.2.1 d_AR_isCode_5 rfl (lv_at hl 0 rfl) ?_
    refine lv_sipush (v := 9999) S.1 S.2.1 d_AR_isCode_6 (by decide) ?_
    refine lv_icmp_gt (tgt := 16) S.1 S.2.1 d_AR_isCode_9 (by decide) (fun c9 => ?_) (fun c9 => ?_)
    · refine lv_iconst (v := 0) S.1 S.2.1 d_AR_isCode_16 (by decide) ?_
      exact mm_retz S.1 S.2.1 hr hlocks hA hQ hw (rfl) (⟨rfl, Or.inr ⟨rfl, fun h => h.2 c9⟩⟩) (Nat.le_of_ble_eq_true rfl) (Nat.le_of_ble_eq_true rfl) d_AR_isCode_17
    · refine lv_iconst (v := 1) S.1 S.2.1 d_AR_isCode_12 (by decide) ?_
      refine lv_goto (tgt := 17) S.1 S.2.1 d_AR_isCode_13 (by decide) ?_
      exact mm_retz S.1 S.2.1 hr hlocks hA hQ hw (rfl) (⟨rfl, Or.inl ⟨rfl, fun h => c2 (is_lt1.mpr h), c9⟩⟩) (Nat.le_of_ble_eq_true rfl) (Nat.le_of_ble_eq_true rfl) d_AR_isCode_17
theorem d_AR_isTask_0 : decode b_AR_isTask 0 = .ok (.iload_n 0, 1) := by decide +kernel
theorem d_AR_isTask_1 : decode b_AR_isTask 1 = .ok (.iconst 1, 1) := by decide +kernel
theorem d_AR_isTask_2 : decode b_AR_isTask 2 = .ok (.if_icmp .lt 13, 3) := by decide +kernel
theorem d_AR_isTask_5 : decode b_AR_isTask 5 = .ok (.iload_n 0, 1) := by decide +kernel
theorem d_AR_isTask_6 : decode b_AR_isTask 6 = .ok (.bipush 40, 2) := by decide +kernel
theorem d_AR_isTask_8 : decode b_AR_isTask 8 = .ok (.if_icmp .gt 7, 3) := by decide +kernel
theorem d_AR_isTask_11 : decode b_AR_isTask 11 = .ok (.iconst 1, 1) := by decide +kernel
theorem d_AR_isTask_12 : decode b_AR_isTask 12 = .ok (.goto 4, 3) := by decide +kernel
theorem d_AR_isTask_15 : decode b_AR_isTask 15 = .ok (.iconst 0, 1) := by decide +kernel
theorem d_AR_isTask_16 : decode b_AR_isTask 16 = .ok (.ireturn, 1) := by decide +kernel
set_option maxHeartbeats 4000000 in
set_option maxRecDepth 100000 in
theorem c_AR_isTask (l : Launch) (D : va_G) (dA : Nat → ClassId) (M : mm_M) (k : Int32) : mm_Ci l y_AR_isTask w_AR_isTask ({ frames := 0, cells := 0, slots := 0, locals := 0 }) 0 0 D vC (tyL dA) [.int k] M (fun r M' => M' = M ∧ ((r = 1 ∧ is_ok 40 k) ∨ (r = 0 ∧ ¬ is_ok 40 k))) := by
  intro sz
  refine mm_start (by decide) (Nat.le_of_ble_eq_true rfl) ?_
  intro p e s m below meth c A Q ls hA hQ S hr hlocks hin hK hw hl
  have hl : lv_has ls 1 [(0, .int k)] := hl
  refine lv_iload_n S.1 S.2.1 d_AR_isTask_0 rfl (lv_at hl 0 rfl) ?_
  refine lv_iconst (v := 1) S.1 S.2.1 d_AR_isTask_1 (by decide) ?_
  refine lv_icmp_lt (tgt := 15) S.1 S.2.1 d_AR_isTask_2 (by decide) (fun c2 => ?_) (fun c2 => ?_)
  · refine lv_iconst (v := 0) S.1 S.2.1 d_AR_isTask_15 (by decide) ?_
    exact mm_retz S.1 S.2.1 hr hlocks hA hQ hw (rfl) (⟨rfl, Or.inr ⟨rfl, fun h => h.1 (is_lt1.mp c2)⟩⟩) (Nat.le_of_ble_eq_true rfl) (Nat.le_of_ble_eq_true rfl) d_AR_isTask_16
  · refine lv_iload_n S.1 S.2.1 d_AR_isTask_5 rfl (lv_at hl 0 rfl) ?_
    refine lv_bipush (v := 40) S.1 S.2.1 d_AR_isTask_6 (by decide) ?_
    refine lv_icmp_gt (tgt := 15) S.1 S.2.1 d_AR_isTask_8 (by decide) (fun c8 => ?_) (fun c8 => ?_)
    · refine lv_iconst (v := 0) S.1 S.2.1 d_AR_isTask_15 (by decide) ?_
      exact mm_retz S.1 S.2.1 hr hlocks hA hQ hw (rfl) (⟨rfl, Or.inr ⟨rfl, fun h => h.2 c8⟩⟩) (Nat.le_of_ble_eq_true rfl) (Nat.le_of_ble_eq_true rfl) d_AR_isTask_16
    · refine lv_iconst (v := 1) S.1 S.2.1 d_AR_isTask_11 (by decide) ?_
      refine lv_goto (tgt := 16) S.1 S.2.1 d_AR_isTask_12 (by decide) ?_
      exact mm_retz S.1 S.2.1 hr hlocks hA hQ hw (rfl) (⟨rfl, Or.inl ⟨rfl, fun h => c2 (is_lt1.mpr h), c8⟩⟩) (Nat.le_of_ble_eq_true rfl) (Nat.le_of_ble_eq_true rfl) d_AR_isTask_16
theorem d_MO_isCode_0 : decode b_MO_isCode 0 = .ok (.iload_n 0, 1) := by decide +kernel
theorem d_MO_isCode_1 : decode b_MO_isCode 1 = .ok (.ifCond .le 14, 3) := by decide +kernel
theorem d_MO_isCode_4 : decode b_MO_isCode 4 = .ok (.iload_n 0, 1) := by decide +kernel
theorem d_MO_isCode_5 : decode b_MO_isCode 5 = .ok (.sipush 9999, 3) := by decide +kernel
theorem d_MO_isCode_8 : decode b_MO_isCode 8 = .ok (.if_icmp .gt 7, 3) := by decide +kernel
theorem d_MO_isCode_11 : decode b_MO_isCode 11 = .ok (.iconst 1, 1) := by decide +kernel
theorem d_MO_isCode_12 : decode b_MO_isCode 12 = .ok (.goto 4, 3) := by decide +kernel
theorem d_MO_isCode_15 : decode b_MO_isCode 15 = .ok (.iconst 0, 1) := by decide +kernel
theorem d_MO_isCode_16 : decode b_MO_isCode 16 = .ok (.ireturn, 1) := by decide +kernel
set_option maxHeartbeats 4000000 in
set_option maxRecDepth 100000 in
theorem c_MO_isCode (l : Launch) (D : va_G) (dA : Nat → ClassId) (M : mm_M) (k : Int32) : mm_Ci l y_MO_isCode w_MO_isCode ({ frames := 0, cells := 0, slots := 0, locals := 0 }) 0 0 D vC (tyL dA) [.int k] M (fun r M' => M' = M ∧ ((r = 1 ∧ is_ok 9999 k) ∨ (r = 0 ∧ ¬ is_ok 9999 k))) := by
  intro sz
  refine mm_start (by decide) (Nat.le_of_ble_eq_true rfl) ?_
  intro p e s m below meth c A Q ls hA hQ S hr hlocks hin hK hw hl
  have hl : lv_has ls 1 [(0, .int k)] := hl
  refine lv_iload_n S.1 S.2.1 d_MO_isCode_0 rfl (lv_at hl 0 rfl) ?_
  refine lv_if_le (tgt := 15) S.1 S.2.1 d_MO_isCode_1 (by decide) (fun c1 => ?_) (fun c1 => ?_)
  · refine lv_iconst (v := 0) S.1 S.2.1 d_MO_isCode_15 (by decide) ?_
    exact mm_retz S.1 S.2.1 hr hlocks hA hQ hw (rfl) (⟨rfl, Or.inr ⟨rfl, fun h => h.1 (c1)⟩⟩) (Nat.le_of_ble_eq_true rfl) (Nat.le_of_ble_eq_true rfl) d_MO_isCode_16
  · refine lv_iload_n S.1 S.2.1 d_MO_isCode_4 rfl (lv_at hl 0 rfl) ?_
    refine lv_sipush (v := 9999) S.1 S.2.1 d_MO_isCode_5 (by decide) ?_
    refine lv_icmp_gt (tgt := 15) S.1 S.2.1 d_MO_isCode_8 (by decide) (fun c8 => ?_) (fun c8 => ?_)
    · refine lv_iconst (v := 0) S.1 S.2.1 d_MO_isCode_15 (by decide) ?_
      exact mm_retz S.1 S.2.1 hr hlocks hA hQ hw (rfl) (⟨rfl, Or.inr ⟨rfl, fun h => h.2 c8⟩⟩) (Nat.le_of_ble_eq_true rfl) (Nat.le_of_ble_eq_true rfl) d_MO_isCode_16
    · refine lv_iconst (v := 1) S.1 S.2.1 d_MO_isCode_11 (by decide) ?_
      refine lv_goto (tgt := 16) S.1 S.2.1 d_MO_isCode_12 (by decide) ?_
      exact mm_retz S.1 S.2.1 hr hlocks hA hQ hw (rfl) (⟨rfl, Or.inl ⟨rfl, c1, c8⟩⟩) (Nat.le_of_ble_eq_true rfl) (Nat.le_of_ble_eq_true rfl) d_MO_isCode_16
theorem d_MO_isTask_0 : decode b_MO_isTask 0 = .ok (.iload_n 0, 1) := by decide +kernel
theorem d_MO_isTask_1 : decode b_MO_isTask 1 = .ok (.ifCond .le 13, 3) := by decide +kernel
theorem d_MO_isTask_4 : decode b_MO_isTask 4 = .ok (.iload_n 0, 1) := by decide +kernel
theorem d_MO_isTask_5 : decode b_MO_isTask 5 = .ok (.bipush 40, 2) := by decide +kernel
theorem d_MO_isTask_7 : decode b_MO_isTask 7 = .ok (.if_icmp .gt 7, 3) := by decide +kernel
theorem d_MO_isTask_10 : decode b_MO_isTask 10 = .ok (.iconst 1, 1) := by decide +kernel
theorem d_MO_isTask_11 : decode b_MO_isTask 11 = .ok (.goto 4, 3) := by decide +kernel
theorem d_MO_isTask_14 : decode b_MO_isTask 14 = .ok (.iconst 0, 1) := by decide +kernel
theorem d_MO_isTask_15 : decode b_MO_isTask 15 = .ok (.ireturn, 1) := by decide +kernel
set_option maxHeartbeats 4000000 in
set_option maxRecDepth 100000 in
theorem c_MO_isTask (l : Launch) (D : va_G) (dA : Nat → ClassId) (M : mm_M) (k : Int32) : mm_Ci l y_MO_isTask w_MO_isTask ({ frames := 0, cells := 0, slots := 0, locals := 0 }) 0 0 D vC (tyL dA) [.int k] M (fun r M' => M' = M ∧ ((r = 1 ∧ is_ok 40 k) ∨ (r = 0 ∧ ¬ is_ok 40 k))) := by
  intro sz
  refine mm_start (by decide) (Nat.le_of_ble_eq_true rfl) ?_
  intro p e s m below meth c A Q ls hA hQ S hr hlocks hin hK hw hl
  have hl : lv_has ls 1 [(0, .int k)] := hl
  refine lv_iload_n S.1 S.2.1 d_MO_isTask_0 rfl (lv_at hl 0 rfl) ?_
  refine lv_if_le (tgt := 14) S.1 S.2.1 d_MO_isTask_1 (by decide) (fun c1 => ?_) (fun c1 => ?_)
  · refine lv_iconst (v := 0) S.1 S.2.1 d_MO_isTask_14 (by decide) ?_
    exact mm_retz S.1 S.2.1 hr hlocks hA hQ hw (rfl) (⟨rfl, Or.inr ⟨rfl, fun h => h.1 (c1)⟩⟩) (Nat.le_of_ble_eq_true rfl) (Nat.le_of_ble_eq_true rfl) d_MO_isTask_15
  · refine lv_iload_n S.1 S.2.1 d_MO_isTask_4 rfl (lv_at hl 0 rfl) ?_
    refine lv_bipush (v := 40) S.1 S.2.1 d_MO_isTask_5 (by decide) ?_
    refine lv_icmp_gt (tgt := 14) S.1 S.2.1 d_MO_isTask_7 (by decide) (fun c7 => ?_) (fun c7 => ?_)
    · refine lv_iconst (v := 0) S.1 S.2.1 d_MO_isTask_14 (by decide) ?_
      exact mm_retz S.1 S.2.1 hr hlocks hA hQ hw (rfl) (⟨rfl, Or.inr ⟨rfl, fun h => h.2 c7⟩⟩) (Nat.le_of_ble_eq_true rfl) (Nat.le_of_ble_eq_true rfl) d_MO_isTask_15
    · refine lv_iconst (v := 1) S.1 S.2.1 d_MO_isTask_10 (by decide) ?_
      refine lv_goto (tgt := 15) S.1 S.2.1 d_MO_isTask_11 (by decide) ?_
      exact mm_retz S.1 S.2.1 hr hlocks hA hQ hw (rfl) (⟨rfl, Or.inl ⟨rfl, c1, c7⟩⟩) (Nat.le_of_ble_eq_true rfl) (Nat.le_of_ble_eq_true rfl) d_MO_isTask_15
theorem d_LV_init_0 : decode b_LV_init 0 = .ok (.aload_n 0, 1) := by decide +kernel
theorem d_LV_init_1 : decode b_LV_init 1 = .ok (.invokespecial 1, 3) := by decide +kernel
theorem d_LV_init_4 : decode b_LV_init 4 = .ok (.aload_n 0, 1) := by decide +kernel
theorem d_LV_init_5 : decode b_LV_init 5 = .ok (.iload_n 1, 1) := by decide +kernel
theorem d_LV_init_6 : decode b_LV_init 6 = .ok (.putfield 7, 3) := by decide +kernel
theorem d_LV_init_9 : decode b_LV_init 9 = .ok (.aload_n 0, 1) := by decide +kernel
theorem d_LV_init_10 : decode b_LV_init 10 = .ok (.aload_n 2, 1) := by decide +kernel
theorem d_LV_init_11 : decode b_LV_init 11 = .ok (.putfield 13, 3) := by decide +kernel
theorem d_LV_init_14 : decode b_LV_init 14 = .ok (.aload_n 0, 1) := by decide +kernel
theorem d_LV_init_15 : decode b_LV_init 15 = .ok (.iload_n 3, 1) := by decide +kernel
theorem d_LV_init_16 : decode b_LV_init 16 = .ok (.putfield 17, 3) := by decide +kernel
theorem d_LV_init_19 : decode b_LV_init 19 = .ok (.return_, 1) := by decide +kernel
set_option maxHeartbeats 4000000 in
set_option maxRecDepth 100000 in
theorem c_LV_init (l : Launch) (D : va_G) (dA : Nat → ClassId) (M : mm_M) (q : Nat) (n d : Int32) (ab : Option Nat) (hq : M q = some (.inr (5, [.int 0, .null, .int 0, .null, .int 0]))) : mm_Cv l y_LV_init w_LV_init ({ frames := 1, cells := 0, slots := 0, locals := 20 }) 0 0 D vC (tyL dA) [.ref q, .int n, va_rf ab, .int d] M (fun M' => M' = mm_up M q (.inr (5, [.int n, va_rf ab, .int d, .null, .int 0]))) := by
  intro sz
  refine mm_start (by decide) (by rcases ab with _ | _ <;> exact Nat.le_of_ble_eq_true rfl) ?_
  intro p e s m below meth c A Q ls hA hQ S hr hlocks hin hK hw hl
  have hl : lv_has ls 4 [(0, .ref q), (1, .int n), (2, va_rf ab), (3, .int d)] := by rcases ab with _ | _ <;> exact hl
  refine lv_aload_n S.1 S.2.1 d_LV_init_0 rfl (lv_at hl 0 rfl) ?_
  refine mm_obj S gw_134 gw_25 oi_c hl.1 d_LV_init_1 (by decide) (by decide) ?_
  refine lv_aload_n S.1 S.2.1 d_LV_init_4 rfl (lv_at hl 0 rfl) ?_
  refine lv_iload_n S.1 S.2.1 d_LV_init_5 rfl (lv_at hl 1 rfl) ?_
  refine mm_putF (C := R_LV) (T := T_LV) (N := 5) (ty := .int) (v := .int n) S hK.1 hw hq rfl in_LV t_LV k_LV n_LV 0 (by decide) gw_135 rfl rfl hin rfl (by decide +kernel) (rfl) (rfl) (Nat.le_of_ble_eq_true rfl) d_LV_init_6 (fun H locs hw => ?_)
  obtain ⟨M1, eM1⟩ : ∃ zM : mm_M, zM = mm_up M q (.inr (5, [.int n, .null, .int 0, .null, .int 0])) := ⟨_, rfl⟩
  have hw : mm_w D vC _ _ (mm_up M q (.inr (5, [.int n, .null, .int 0, .null, .int 0]))) H _ := hw
  rw [← eM1] at hw
  have hq_1 : M1 q = some (.inr (5, [.int n, .null, .int 0, .null, .int 0])) := by rw [eM1]; exact mm_us
  refine lv_aload_n S.1 S.2.1 d_LV_init_9 rfl (lv_at hl 0 rfl) ?_
  refine mq_aload_n S.1 S.2.1 d_LV_init_10 rfl (lv_at hl 2 rfl) ?_
  refine mm_putF (C := R_LV) (T := T_LV) (N := 5) (ty := .object "AbendRows$Level") (v := va_rf ab) S hK.1 hw hq_1 rfl in_LV t_LV k_LV n_LV 1 (by decide) gw_137 rfl rfl hin rfl (by decide +kernel) (mq_nar _ _) (mq_fit _ _) (Nat.le_of_ble_eq_true rfl) d_LV_init_11 (fun H locs hw => ?_)
  obtain ⟨M2, eM2⟩ : ∃ zM : mm_M, zM = mm_up M1 q (.inr (5, [.int n, va_rf ab, .int 0, .null, .int 0])) := ⟨_, rfl⟩
  have hw : mm_w D vC _ _ (mm_up M1 q (.inr (5, [.int n, va_rf ab, .int 0, .null, .int 0]))) H _ := hw
  rw [← eM2] at hw
  have hq_2 : M2 q = some (.inr (5, [.int n, va_rf ab, .int 0, .null, .int 0])) := by rw [eM2]; exact mm_us
  refine lv_aload_n S.1 S.2.1 d_LV_init_14 rfl (lv_at hl 0 rfl) ?_
  refine lv_iload_n S.1 S.2.1 d_LV_init_15 rfl (lv_at hl 3 rfl) ?_
  refine mm_putF (C := R_LV) (T := T_LV) (N := 5) (ty := .int) (v := .int d) S hK.1 hw hq_2 rfl in_LV t_LV k_LV n_LV 2 (by decide) gw_140 rfl rfl hin rfl (by decide +kernel) (rfl) (rfl) (Nat.le_of_ble_eq_true rfl) d_LV_init_16 (fun H locs hw => ?_)
  obtain ⟨M3, eM3⟩ : ∃ zM : mm_M, zM = mm_up M2 q (.inr (5, [.int n, va_rf ab, .int d, .null, .int 0])) := ⟨_, rfl⟩
  have hw : mm_w D vC _ _ (mm_up M2 q (.inr (5, [.int n, va_rf ab, .int d, .null, .int 0]))) H _ := hw
  rw [← eM3] at hw
  have hq_3 : M3 q = some (.inr (5, [.int n, va_rf ab, .int d, .null, .int 0])) := by rw [eM3]; exact mm_us
  exact mm_retv S.1 S.2.1 hr hlocks hA hQ hw (by rw [eM3, eM2, eM1, mm_uu, mm_uu]) (Nat.le_of_ble_eq_true rfl) (Nat.le_of_ble_eq_true rfl) d_LV_init_19
theorem d_EX_init_0 : decode b_EX_init 0 = .ok (.aload_n 0, 1) := by decide +kernel
theorem d_EX_init_1 : decode b_EX_init 1 = .ok (.invokespecial 1, 3) := by decide +kernel
theorem d_EX_init_4 : decode b_EX_init 4 = .ok (.aload_n 0, 1) := by decide +kernel
theorem d_EX_init_5 : decode b_EX_init 5 = .ok (.iload_n 1, 1) := by decide +kernel
theorem d_EX_init_6 : decode b_EX_init 6 = .ok (.putfield 7, 3) := by decide +kernel
theorem d_EX_init_9 : decode b_EX_init 9 = .ok (.aload_n 0, 1) := by decide +kernel
theorem d_EX_init_10 : decode b_EX_init 10 = .ok (.iload_n 2, 1) := by decide +kernel
theorem d_EX_init_11 : decode b_EX_init 11 = .ok (.putfield 13, 3) := by decide +kernel
theorem d_EX_init_14 : decode b_EX_init 14 = .ok (.aload_n 0, 1) := by decide +kernel
theorem d_EX_init_15 : decode b_EX_init 15 = .ok (.iload_n 3, 1) := by decide +kernel
theorem d_EX_init_16 : decode b_EX_init 16 = .ok (.putfield 16, 3) := by decide +kernel
theorem d_EX_init_19 : decode b_EX_init 19 = .ok (.aload_n 0, 1) := by decide +kernel
theorem d_EX_init_20 : decode b_EX_init 20 = .ok (.aload 4, 2) := by decide +kernel
theorem d_EX_init_22 : decode b_EX_init 22 = .ok (.putfield 20, 3) := by decide +kernel
theorem d_EX_init_25 : decode b_EX_init 25 = .ok (.return_, 1) := by decide +kernel
set_option maxHeartbeats 4000000 in
set_option maxRecDepth 100000 in
theorem c_EX_init (l : Launch) (D : va_G) (dA : Nat → ClassId) (M : mm_M) (q : Nat) (n d z : Int32) (ea : Option Nat) (hz : z = 0 ∨ z = 1) (hq : M q = some (.inr (6, [.int 0, .int 0, .int 0, .null, .int 0]))) : mm_Cv l y_EX_init w_EX_init ({ frames := 1, cells := 0, slots := 0, locals := 20 }) 0 0 D vC (tyL dA) [.ref q, .int n, .int d, .int z, va_rf ea] M (fun M' => M' = mm_up M q (.inr (6, [.int n, .int d, .int z, va_rf ea, .int 0]))) := by
  intro sz
  refine mm_start (by decide) (by rcases ea with _ | _ <;> exact Nat.le_of_ble_eq_true rfl) ?_
  intro p e s m below meth c A Q ls hA hQ S hr hlocks hin hK hw hl
  have hl : lv_has ls 5 [(0, .ref q), (1, .int n), (2, .int d), (3, .int z), (4, va_rf ea)] := by rcases ea with _ | _ <;> exact hl
  refine lv_aload_n S.1 S.2.1 d_EX_init_0 rfl (lv_at hl 0 rfl) ?_
  refine mm_obj S gw_165 gw_25 oi_c hl.1 d_EX_init_1 (by decide) (by decide) ?_
  refine lv_aload_n S.1 S.2.1 d_EX_init_4 rfl (lv_at hl 0 rfl) ?_
  refine lv_iload_n S.1 S.2.1 d_EX_init_5 rfl (lv_at hl 1 rfl) ?_
  refine mm_putF (C := R_EX) (T := T_EX) (N := 5) (ty := .int) (v := .int n) S hK.1 hw hq rfl in_EX t_EX k_EX n_EX 0 (by decide) gw_166 rfl rfl hin rfl (by decide +kernel) (rfl) (rfl) (Nat.le_of_ble_eq_true rfl) d_EX_init_6 (fun H locs hw => ?_)
  obtain ⟨M1, eM1⟩ : ∃ zM : mm_M, zM = mm_up M q (.inr (6, [.int n, .int 0, .int 0, .null, .int 0])) := ⟨_, rfl⟩
  have hw : mm_w D vC _ _ (mm_up M q (.inr (6, [.int n, .int 0, .int 0, .null, .int 0]))) H _ := hw
  rw [← eM1] at hw
  have hq_1 : M1 q = some (.inr (6, [.int n, .int 0, .int 0, .null, .int 0])) := by rw [eM1]; exact mm_us
  refine lv_aload_n S.1 S.2.1 d_EX_init_9 rfl (lv_at hl 0 rfl) ?_
  refine lv_iload_n S.1 S.2.1 d_EX_init_10 rfl (lv_at hl 2 rfl) ?_
  refine mm_putF (C := R_EX) (T := T_EX) (N := 5) (ty := .int) (v := .int d) S hK.1 hw hq_1 rfl in_EX t_EX k_EX n_EX 1 (by decide) gw_168 rfl rfl hin rfl (by decide +kernel) (rfl) (rfl) (Nat.le_of_ble_eq_true rfl) d_EX_init_11 (fun H locs hw => ?_)
  obtain ⟨M2, eM2⟩ : ∃ zM : mm_M, zM = mm_up M1 q (.inr (6, [.int n, .int d, .int 0, .null, .int 0])) := ⟨_, rfl⟩
  have hw : mm_w D vC _ _ (mm_up M1 q (.inr (6, [.int n, .int d, .int 0, .null, .int 0]))) H _ := hw
  rw [← eM2] at hw
  have hq_2 : M2 q = some (.inr (6, [.int n, .int d, .int 0, .null, .int 0])) := by rw [eM2]; exact mm_us
  refine lv_aload_n S.1 S.2.1 d_EX_init_14 rfl (lv_at hl 0 rfl) ?_
  refine lv_iload_n S.1 S.2.1 d_EX_init_15 rfl (lv_at hl 3 rfl) ?_
  refine mm_putF (C := R_EX) (T := T_EX) (N := 5) (ty := .boolean) (v := .int z) S hK.1 hw hq_2 rfl in_EX t_EX k_EX n_EX 2 (by decide) gw_170 rfl rfl hin rfl (by decide +kernel) (mz_nar (hz)) (mz_fit (hz)) (Nat.le_of_ble_eq_true rfl) d_EX_init_16 (fun H locs hw => ?_)
  obtain ⟨M3, eM3⟩ : ∃ zM : mm_M, zM = mm_up M2 q (.inr (6, [.int n, .int d, .int z, .null, .int 0])) := ⟨_, rfl⟩
  have hw : mm_w D vC _ _ (mm_up M2 q (.inr (6, [.int n, .int d, .int z, .null, .int 0]))) H _ := hw
  rw [← eM3] at hw
  have hq_3 : M3 q = some (.inr (6, [.int n, .int d, .int z, .null, .int 0])) := by rw [eM3]; exact mm_us
  refine lv_aload_n S.1 S.2.1 d_EX_init_19 rfl (lv_at hl 0 rfl) ?_
  refine mq_aload S.1 S.2.1 d_EX_init_20 (lv_at hl 4 rfl) ?_
  refine mm_putF (C := R_EX) (T := T_EX) (N := 5) (ty := .object "AbendRows$Exit") (v := va_rf ea) S hK.1 hw hq_3 rfl in_EX t_EX k_EX n_EX 3 (by decide) gw_172 rfl rfl hin rfl (by decide +kernel) (mq_nar _ _) (mq_fit _ _) (Nat.le_of_ble_eq_true rfl) d_EX_init_22 (fun H locs hw => ?_)
  obtain ⟨M4, eM4⟩ : ∃ zM : mm_M, zM = mm_up M3 q (.inr (6, [.int n, .int d, .int z, va_rf ea, .int 0])) := ⟨_, rfl⟩
  have hw : mm_w D vC _ _ (mm_up M3 q (.inr (6, [.int n, .int d, .int z, va_rf ea, .int 0]))) H _ := hw
  rw [← eM4] at hw
  have hq_4 : M4 q = some (.inr (6, [.int n, .int d, .int z, va_rf ea, .int 0])) := by rw [eM4]; exact mm_us
  exact mm_retv S.1 S.2.1 hr hlocks hA hQ hw (by rw [eM4, eM3, eM2, eM1, mm_uu, mm_uu, mm_uu]) (Nat.le_of_ble_eq_true rfl) (Nat.le_of_ble_eq_true rfl) d_EX_init_25
theorem d_GU_init_0 : decode b_GU_init 0 = .ok (.aload_n 0, 1) := by decide +kernel
theorem d_GU_init_1 : decode b_GU_init 1 = .ok (.invokespecial 1, 3) := by decide +kernel
theorem d_GU_init_4 : decode b_GU_init 4 = .ok (.aload_n 0, 1) := by decide +kernel
theorem d_GU_init_5 : decode b_GU_init 5 = .ok (.iload_n 1, 1) := by decide +kernel
theorem d_GU_init_6 : decode b_GU_init 6 = .ok (.putfield 7, 3) := by decide +kernel
theorem d_GU_init_9 : decode b_GU_init 9 = .ok (.aload_n 0, 1) := by decide +kernel
theorem d_GU_init_10 : decode b_GU_init 10 = .ok (.iload_n 2, 1) := by decide +kernel
theorem d_GU_init_11 : decode b_GU_init 11 = .ok (.putfield 13, 3) := by decide +kernel
theorem d_GU_init_14 : decode b_GU_init 14 = .ok (.return_, 1) := by decide +kernel
set_option maxHeartbeats 4000000 in
set_option maxRecDepth 100000 in
theorem c_GU_init (l : Launch) (D : va_G) (dA : Nat → ClassId) (M : mm_M) (q : Nat) (t z : Int32) (hq : M q = some (.inr (7, [.int 0, .int 0, .int 0, .int 0]))) : mm_Cv l y_GU_init w_GU_init ({ frames := 1, cells := 0, slots := 0, locals := 20 }) 0 0 D vC (tyL dA) [.ref q, .int t, .int z] M (fun M' => M' = mm_up M q (.inr (7, [.int t, .int z, .int 0, .int 0]))) := by
  intro sz
  refine mm_start (by decide) (Nat.le_of_ble_eq_true rfl) ?_
  intro p e s m below meth c A Q ls hA hQ S hr hlocks hin hK hw hl
  have hl : lv_has ls 3 [(0, .ref q), (1, .int t), (2, .int z)] := hl
  refine lv_aload_n S.1 S.2.1 d_GU_init_0 rfl (lv_at hl 0 rfl) ?_
  refine mm_obj S gw_297 gw_25 oi_c hl.1 d_GU_init_1 (by decide) (by decide) ?_
  refine lv_aload_n S.1 S.2.1 d_GU_init_4 rfl (lv_at hl 0 rfl) ?_
  refine lv_iload_n S.1 S.2.1 d_GU_init_5 rfl (lv_at hl 1 rfl) ?_
  refine mm_putF (C := R_GU) (T := T_GU) (N := 4) (ty := .int) (v := .int t) S hK.1 hw hq rfl in_GU t_GU k_GU n_GU 0 (by decide) gw_298 rfl rfl hin rfl (by decide +kernel) (rfl) (rfl) (Nat.le_of_ble_eq_true rfl) d_GU_init_6 (fun H locs hw => ?_)
  obtain ⟨M1, eM1⟩ : ∃ zM : mm_M, zM = mm_up M q (.inr (7, [.int t, .int 0, .int 0, .int 0])) := ⟨_, rfl⟩
  have hw : mm_w D vC _ _ (mm_up M q (.inr (7, [.int t, .int 0, .int 0, .int 0]))) H _ := hw
  rw [← eM1] at hw
  have hq_1 : M1 q = some (.inr (7, [.int t, .int 0, .int 0, .int 0])) := by rw [eM1]; exact mm_us
  refine lv_aload_n S.1 S.2.1 d_GU_init_9 rfl (lv_at hl 0 rfl) ?_
  refine lv_iload_n S.1 S.2.1 d_GU_init_10 rfl (lv_at hl 2 rfl) ?_
  refine mm_putF (C := R_GU) (T := T_GU) (N := 4) (ty := .int) (v := .int z) S hK.1 hw hq_1 rfl in_GU t_GU k_GU n_GU 1 (by decide) gw_300 rfl rfl hin rfl (by decide +kernel) (rfl) (rfl) (Nat.le_of_ble_eq_true rfl) d_GU_init_11 (fun H locs hw => ?_)
  obtain ⟨M2, eM2⟩ : ∃ zM : mm_M, zM = mm_up M1 q (.inr (7, [.int t, .int z, .int 0, .int 0])) := ⟨_, rfl⟩
  have hw : mm_w D vC _ _ (mm_up M1 q (.inr (7, [.int t, .int z, .int 0, .int 0]))) H _ := hw
  rw [← eM2] at hw
  have hq_2 : M2 q = some (.inr (7, [.int t, .int z, .int 0, .int 0])) := by rw [eM2]; exact mm_us
  exact mm_retv S.1 S.2.1 hr hlocks hA hQ hw (by rw [eM2, eM1, mm_uu]) (Nat.le_of_ble_eq_true rfl) (Nat.le_of_ble_eq_true rfl) d_GU_init_14
theorem d_DU_init_0 : decode b_DU_init 0 = .ok (.aload_n 0, 1) := by decide +kernel
theorem d_DU_init_1 : decode b_DU_init 1 = .ok (.invokespecial 1, 3) := by decide +kernel
theorem d_DU_init_4 : decode b_DU_init 4 = .ok (.aload_n 0, 1) := by decide +kernel
theorem d_DU_init_5 : decode b_DU_init 5 = .ok (.iload_n 1, 1) := by decide +kernel
theorem d_DU_init_6 : decode b_DU_init 6 = .ok (.putfield 7, 3) := by decide +kernel
theorem d_DU_init_9 : decode b_DU_init 9 = .ok (.aload_n 0, 1) := by decide +kernel
theorem d_DU_init_10 : decode b_DU_init 10 = .ok (.iload_n 2, 1) := by decide +kernel
theorem d_DU_init_11 : decode b_DU_init 11 = .ok (.putfield 13, 3) := by decide +kernel
theorem d_DU_init_14 : decode b_DU_init 14 = .ok (.aload_n 0, 1) := by decide +kernel
theorem d_DU_init_15 : decode b_DU_init 15 = .ok (.iload_n 3, 1) := by decide +kernel
theorem d_DU_init_16 : decode b_DU_init 16 = .ok (.putfield 16, 3) := by decide +kernel
theorem d_DU_init_19 : decode b_DU_init 19 = .ok (.aload_n 0, 1) := by decide +kernel
theorem d_DU_init_20 : decode b_DU_init 20 = .ok (.iload 4, 2) := by decide +kernel
theorem d_DU_init_22 : decode b_DU_init 22 = .ok (.putfield 19, 3) := by decide +kernel
theorem d_DU_init_25 : decode b_DU_init 25 = .ok (.aload_n 0, 1) := by decide +kernel
theorem d_DU_init_26 : decode b_DU_init 26 = .ok (.iload 5, 2) := by decide +kernel
theorem d_DU_init_28 : decode b_DU_init 28 = .ok (.putfield 22, 3) := by decide +kernel
theorem d_DU_init_31 : decode b_DU_init 31 = .ok (.return_, 1) := by decide +kernel
set_option maxHeartbeats 4000000 in
set_option maxRecDepth 100000 in
theorem c_DU_init (l : Launch) (D : va_G) (dA : Nat → ClassId) (M : mm_M) (q : Nat) (t k g b z : Int32) (hz : z = 0 ∨ z = 1) (hq : M q = some (.inr (8, [.int 0, .int 0, .int 0, .int 0, .int 0]))) : mm_Cv l y_DU_init w_DU_init ({ frames := 1, cells := 0, slots := 0, locals := 20 }) 0 0 D vC (tyL dA) [.ref q, .int t, .int k, .int g, .int b, .int z] M (fun M' => M' = mm_up M q (.inr (8, [.int t, .int k, .int g, .int b, .int z]))) := by
  intro sz
  refine mm_start (by decide) (Nat.le_of_ble_eq_true rfl) ?_
  intro p e s m below meth c A Q ls hA hQ S hr hlocks hin hK hw hl
  have hl : lv_has ls 6 [(0, .ref q), (1, .int t), (2, .int k), (3, .int g), (4, .int b), (5, .int z)] := hl
  refine lv_aload_n S.1 S.2.1 d_DU_init_0 rfl (lv_at hl 0 rfl) ?_
  refine mm_obj S gw_263 gw_25 oi_c hl.1 d_DU_init_1 (by decide) (by decide) ?_
  refine lv_aload_n S.1 S.2.1 d_DU_init_4 rfl (lv_at hl 0 rfl) ?_
  refine lv_iload_n S.1 S.2.1 d_DU_init_5 rfl (lv_at hl 1 rfl) ?_
  refine mm_putF (C := R_DU) (T := T_DU) (N := 5) (ty := .int) (v := .int t) S hK.1 hw hq rfl in_DU t_DU k_DU n_DU 0 (by decide) gw_264 rfl rfl hin rfl (by decide +kernel) (rfl) (rfl) (Nat.le_of_ble_eq_true rfl) d_DU_init_6 (fun H locs hw => ?_)
  obtain ⟨M1, eM1⟩ : ∃ zM : mm_M, zM = mm_up M q (.inr (8, [.int t, .int 0, .int 0, .int 0, .int 0])) := ⟨_, rfl⟩
  have hw : mm_w D vC _ _ (mm_up M q (.inr (8, [.int t, .int 0, .int 0, .int 0, .int 0]))) H _ := hw
  rw [← eM1] at hw
  have hq_1 : M1 q = some (.inr (8, [.int t, .int 0, .int 0, .int 0, .int 0])) := by rw [eM1]; exact mm_us
  refine lv_aload_n S.1 S.2.1 d_DU_init_9 rfl (lv_at hl 0 rfl) ?_
  refine lv_iload_n S.1 S.2.1 d_DU_init_10 rfl (lv_at hl 2 rfl) ?_
  refine mm_putF (C := R_DU) (T := T_DU) (N := 5) (ty := .int) (v := .int k) S hK.1 hw hq_1 rfl in_DU t_DU k_DU n_DU 1 (by decide) gw_266 rfl rfl hin rfl (by decide +kernel) (rfl) (rfl) (Nat.le_of_ble_eq_true rfl) d_DU_init_11 (fun H locs hw => ?_)
  obtain ⟨M2, eM2⟩ : ∃ zM : mm_M, zM = mm_up M1 q (.inr (8, [.int t, .int k, .int 0, .int 0, .int 0])) := ⟨_, rfl⟩
  have hw : mm_w D vC _ _ (mm_up M1 q (.inr (8, [.int t, .int k, .int 0, .int 0, .int 0]))) H _ := hw
  rw [← eM2] at hw
  have hq_2 : M2 q = some (.inr (8, [.int t, .int k, .int 0, .int 0, .int 0])) := by rw [eM2]; exact mm_us
  refine lv_aload_n S.1 S.2.1 d_DU_init_14 rfl (lv_at hl 0 rfl) ?_
  refine lv_iload_n S.1 S.2.1 d_DU_init_15 rfl (lv_at hl 3 rfl) ?_
  refine mm_putF (C := R_DU) (T := T_DU) (N := 5) (ty := .int) (v := .int g) S hK.1 hw hq_2 rfl in_DU t_DU k_DU n_DU 2 (by decide) gw_268 rfl rfl hin rfl (by decide +kernel) (rfl) (rfl) (Nat.le_of_ble_eq_true rfl) d_DU_init_16 (fun H locs hw => ?_)
  obtain ⟨M3, eM3⟩ : ∃ zM : mm_M, zM = mm_up M2 q (.inr (8, [.int t, .int k, .int g, .int 0, .int 0])) := ⟨_, rfl⟩
  have hw : mm_w D vC _ _ (mm_up M2 q (.inr (8, [.int t, .int k, .int g, .int 0, .int 0]))) H _ := hw
  rw [← eM3] at hw
  have hq_3 : M3 q = some (.inr (8, [.int t, .int k, .int g, .int 0, .int 0])) := by rw [eM3]; exact mm_us
  refine lv_aload_n S.1 S.2.1 d_DU_init_19 rfl (lv_at hl 0 rfl) ?_
  refine lv_iload S.1 S.2.1 d_DU_init_20 (lv_at hl 4 rfl) ?_
  refine mm_putF (C := R_DU) (T := T_DU) (N := 5) (ty := .int) (v := .int b) S hK.1 hw hq_3 rfl in_DU t_DU k_DU n_DU 3 (by decide) gw_270 rfl rfl hin rfl (by decide +kernel) (rfl) (rfl) (Nat.le_of_ble_eq_true rfl) d_DU_init_22 (fun H locs hw => ?_)
  obtain ⟨M4, eM4⟩ : ∃ zM : mm_M, zM = mm_up M3 q (.inr (8, [.int t, .int k, .int g, .int b, .int 0])) := ⟨_, rfl⟩
  have hw : mm_w D vC _ _ (mm_up M3 q (.inr (8, [.int t, .int k, .int g, .int b, .int 0]))) H _ := hw
  rw [← eM4] at hw
  have hq_4 : M4 q = some (.inr (8, [.int t, .int k, .int g, .int b, .int 0])) := by rw [eM4]; exact mm_us
  refine lv_aload_n S.1 S.2.1 d_DU_init_25 rfl (lv_at hl 0 rfl) ?_
  refine lv_iload S.1 S.2.1 d_DU_init_26 (lv_at hl 5 rfl) ?_
  refine mm_putF (C := R_DU) (T := T_DU) (N := 5) (ty := .boolean) (v := .int z) S hK.1 hw hq_4 rfl in_DU t_DU k_DU n_DU 4 (by decide) gw_272 rfl rfl hin rfl (by decide +kernel) (mz_nar (hz)) (mz_fit (hz)) (Nat.le_of_ble_eq_true rfl) d_DU_init_28 (fun H locs hw => ?_)
  obtain ⟨M5, eM5⟩ : ∃ zM : mm_M, zM = mm_up M4 q (.inr (8, [.int t, .int k, .int g, .int b, .int z])) := ⟨_, rfl⟩
  have hw : mm_w D vC _ _ (mm_up M4 q (.inr (8, [.int t, .int k, .int g, .int b, .int z]))) H _ := hw
  rw [← eM5] at hw
  have hq_5 : M5 q = some (.inr (8, [.int t, .int k, .int g, .int b, .int z])) := by rw [eM5]; exact mm_us
  exact mm_retv S.1 S.2.1 hr hlocks hA hQ hw (by rw [eM5, eM4, eM3, eM2, eM1, mm_uu, mm_uu, mm_uu, mm_uu]) (Nat.le_of_ble_eq_true rfl) (Nat.le_of_ble_eq_true rfl) d_DU_init_31
theorem d_SE_init_0 : decode b_SE_init 0 = .ok (.aload_n 0, 1) := by decide +kernel
theorem d_SE_init_1 : decode b_SE_init 1 = .ok (.invokespecial 3, 3) := by decide +kernel
theorem d_SE_init_4 : decode b_SE_init 4 = .ok (.aload_n 0, 1) := by decide +kernel
theorem d_SE_init_5 : decode b_SE_init 5 = .ok (.sipush 200, 3) := by decide +kernel
theorem d_SE_init_8 : decode b_SE_init 8 = .ok (.newarray .int, 2) := by decide +kernel
theorem d_SE_init_10 : decode b_SE_init 10 = .ok (.putfield 9, 3) := by decide +kernel
theorem d_SE_init_13 : decode b_SE_init 13 = .ok (.return_, 1) := by decide +kernel
set_option maxHeartbeats 4000000 in
set_option maxRecDepth 100000 in
theorem c_SE_init (l : Launch) (D : va_G) (dA : Nat → ClassId) (M : mm_M) (q : Nat) (hq : M q = some (.inr (1, [.null, .int 0, .int 0]))) : mm_Cv l y_SE_init w_SE_init ({ frames := 1, cells := 1, slots := 200, locals := 20 }) 1 200 D vC (tyL dA) [.ref q] M (fun M' => ∃ qa : Nat, M qa = none ∧ M' = mm_up (mm_up M qa (.inl (dA 0, 200, .inl (fun _ => 0)))) q (.inr (1, [.ref qa, .int 0, .int 0]))) := by
  intro sz
  refine mm_start (by decide) (Nat.le_of_ble_eq_true rfl) ?_
  intro p e s m below meth c A Q ls hA hQ S hr hlocks hin hK hw hl
  have hl : lv_has ls 1 [(0, .ref q)] := hl
  refine lv_aload_n S.1 S.2.1 d_SE_init_0 rfl (lv_at hl 0 rfl) ?_
  refine mm_obj S gw_34 gw_25 oi_c hl.1 d_SE_init_1 (by decide) (by decide) ?_
  refine lv_aload_n S.1 S.2.1 d_SE_init_4 rfl (lv_at hl 0 rfl) ?_
  refine lv_sipush (v := 200) S.1 S.2.1 d_SE_init_5 (by decide) ?_
  refine mm_newa (atype := .int) (ty := .int) (N' := 200) (a0 := (200, .inl (fun _ => 0))) S hK.1 hw 0 gw_46 rfl rfl ((hK.1.2 0 _ rfl).2) (fun _ => rfl) (by decide) (by decide) (by decide) (Nat.le_of_ble_eq_true rfl) (Nat.le_of_ble_eq_true rfl) (fun _ h => by cases h) d_SE_init_8 (fun qa H hqqa hw => ?_)
  obtain ⟨M1, eM1⟩ : ∃ zM : mm_M, zM = mm_up M qa (.inl (dA 0, 200, .inl (fun _ => 0))) := ⟨_, rfl⟩
  have hw : mm_w D vC _ _ (mm_up M qa (.inl (dA 0, 200, .inl (fun _ => 0)))) H _ := hw
  rw [← eM1] at hw
  have hq_1 : M1 q = some (.inr (1, [.null, .int 0, .int 0])) := by rw [eM1]; exact mm_fk hqqa hq
  have hqa_1 : M1 qa = some (.inl (dA 0, 200, .inl (fun _ => 0))) := by rw [eM1]; exact mm_us
  refine mm_putF (C := R_SE) (T := T_SE) (N := 3) (ty := .array .int) (v := .ref qa) S hK.1 hw hq_1 rfl in_SE t_SE k_SE n_SE 0 (by decide) gw_35 rfl rfl hin rfl (by decide +kernel) (rfl) (rfl) (Nat.le_of_ble_eq_true rfl) d_SE_init_10 (fun H locs hw => ?_)
  obtain ⟨M2, eM2⟩ : ∃ zM : mm_M, zM = mm_up M1 q (.inr (1, [.ref qa, .int 0, .int 0])) := ⟨_, rfl⟩
  have hw : mm_w D vC _ _ (mm_up M1 q (.inr (1, [.ref qa, .int 0, .int 0]))) H _ := hw
  rw [← eM2] at hw
  have hqa_2 : M2 qa = some (.inl (dA 0, 200, .inl (fun _ => 0))) := by rw [eM2]; exact mm_uk hq_1 hqa_1 (by simp)
  have hq_2 : M2 q = some (.inr (1, [.ref qa, .int 0, .int 0])) := by rw [eM2]; exact mm_us
  exact mm_retv S.1 S.2.1 hr hlocks hA hQ hw (⟨qa, hqqa, by rw [eM2, eM1]⟩) (Nat.le_of_ble_eq_true rfl) (Nat.le_of_ble_eq_true rfl) d_SE_init_13
theorem d_CG_init_0 : decode b_CG_init 0 = .ok (.aload_n 0, 1) := by decide +kernel
theorem d_CG_init_1 : decode b_CG_init 1 = .ok (.invokespecial 3, 3) := by decide +kernel
theorem d_CG_init_4 : decode b_CG_init 4 = .ok (.aload_n 0, 1) := by decide +kernel
theorem d_CG_init_5 : decode b_CG_init 5 = .ok (.sipush 512, 3) := by decide +kernel
theorem d_CG_init_8 : decode b_CG_init 8 = .ok (.newarray .int, 2) := by decide +kernel
theorem d_CG_init_10 : decode b_CG_init 10 = .ok (.putfield 9, 3) := by decide +kernel
theorem d_CG_init_13 : decode b_CG_init 13 = .ok (.return_, 1) := by decide +kernel
set_option maxHeartbeats 4000000 in
set_option maxRecDepth 100000 in
theorem c_CG_init (l : Launch) (D : va_G) (dA : Nat → ClassId) (M : mm_M) (q : Nat) (hq : M q = some (.inr (4, [.null, .int 0]))) : mm_Cv l y_CG_init w_CG_init ({ frames := 1, cells := 1, slots := 512, locals := 20 }) 1 512 D vC (tyL dA) [.ref q] M (fun M' => ∃ qa : Nat, M qa = none ∧ M' = mm_up (mm_up M qa (.inl (dA 0, 512, .inl (fun _ => 0)))) q (.inr (4, [.ref qa, .int 0]))) := by
  intro sz
  refine mm_start (by decide) (Nat.le_of_ble_eq_true rfl) ?_
  intro p e s m below meth c A Q ls hA hQ S hr hlocks hin hK hw hl
  have hl : lv_has ls 1 [(0, .ref q)] := hl
  refine lv_aload_n S.1 S.2.1 d_CG_init_0 rfl (lv_at hl 0 rfl) ?_
  refine mm_obj S gw_80 gw_25 oi_c hl.1 d_CG_init_1 (by decide) (by decide) ?_
  refine lv_aload_n S.1 S.2.1 d_CG_init_4 rfl (lv_at hl 0 rfl) ?_
  refine lv_sipush (v := 512) S.1 S.2.1 d_CG_init_5 (by decide) ?_
  refine mm_newa (atype := .int) (ty := .int) (N' := 512) (a0 := (512, .inl (fun _ => 0))) S hK.1 hw 0 gw_46 rfl rfl ((hK.1.2 0 _ rfl).2) (fun _ => rfl) (by decide) (by decide) (by decide) (Nat.le_of_ble_eq_true rfl) (Nat.le_of_ble_eq_true rfl) (fun _ h => by cases h) d_CG_init_8 (fun qa H hqqa hw => ?_)
  obtain ⟨M1, eM1⟩ : ∃ zM : mm_M, zM = mm_up M qa (.inl (dA 0, 512, .inl (fun _ => 0))) := ⟨_, rfl⟩
  have hw : mm_w D vC _ _ (mm_up M qa (.inl (dA 0, 512, .inl (fun _ => 0)))) H _ := hw
  rw [← eM1] at hw
  have hq_1 : M1 q = some (.inr (4, [.null, .int 0])) := by rw [eM1]; exact mm_fk hqqa hq
  have hqa_1 : M1 qa = some (.inl (dA 0, 512, .inl (fun _ => 0))) := by rw [eM1]; exact mm_us
  refine mm_putF (C := R_CG) (T := T_CG) (N := 2) (ty := .array .int) (v := .ref qa) S hK.1 hw hq_1 rfl in_CG t_CG k_CG n_CG 0 (by decide) gw_81 rfl rfl hin rfl (by decide +kernel) (rfl) (rfl) (Nat.le_of_ble_eq_true rfl) d_CG_init_10 (fun H locs hw => ?_)
  obtain ⟨M2, eM2⟩ : ∃ zM : mm_M, zM = mm_up M1 q (.inr (4, [.ref qa, .int 0])) := ⟨_, rfl⟩
  have hw : mm_w D vC _ _ (mm_up M1 q (.inr (4, [.ref qa, .int 0]))) H _ := hw
  rw [← eM2] at hw
  have hqa_2 : M2 qa = some (.inl (dA 0, 512, .inl (fun _ => 0))) := by rw [eM2]; exact mm_uk hq_1 hqa_1 (by simp)
  have hq_2 : M2 q = some (.inr (4, [.ref qa, .int 0])) := by rw [eM2]; exact mm_us
  exact mm_retv S.1 S.2.1 hr hlocks hA hQ hw (⟨qa, hqqa, by rw [eM2, eM1]⟩) (Nat.le_of_ble_eq_true rfl) (Nat.le_of_ble_eq_true rfl) d_CG_init_13
theorem d_CS_init_0 : decode b_CS_init 0 = .ok (.aload_n 0, 1) := by decide +kernel
theorem d_CS_init_1 : decode b_CS_init 1 = .ok (.invokespecial 3, 3) := by decide +kernel
theorem d_CS_init_4 : decode b_CS_init 4 = .ok (.aload_n 0, 1) := by decide +kernel
theorem d_CS_init_5 : decode b_CS_init 5 = .ok (.sipush 157, 3) := by decide +kernel
theorem d_CS_init_8 : decode b_CS_init 8 = .ok (.newarray .long, 2) := by decide +kernel
theorem d_CS_init_10 : decode b_CS_init 10 = .ok (.putfield 11, 3) := by decide +kernel
theorem d_CS_init_13 : decode b_CS_init 13 = .ok (.return_, 1) := by decide +kernel
set_option maxHeartbeats 4000000 in
set_option maxRecDepth 100000 in
theorem c_CS_init (l : Launch) (D : va_G) (dA : Nat → ClassId) (M : mm_M) (q : Nat) (hq : M q = some (.inr (3, [.null]))) : mm_Cv l y_CS_init w_CS_init ({ frames := 1, cells := 1, slots := 157, locals := 20 }) 1 157 D vC (tyL dA) [.ref q] M (fun M' => ∃ qa : Nat, M qa = none ∧ M' = mm_up (mm_up M qa (.inl (dA 1, 157, .inr (.inl (fun _ => 0))))) q (.inr (3, [.ref qa]))) := by
  intro sz
  refine mm_start (by decide) (Nat.le_of_ble_eq_true rfl) ?_
  intro p e s m below meth c A Q ls hA hQ S hr hlocks hin hK hw hl
  have hl : lv_has ls 1 [(0, .ref q)] := hl
  refine lv_aload_n S.1 S.2.1 d_CS_init_0 rfl (lv_at hl 0 rfl) ?_
  refine mm_obj S gw_70 gw_25 oi_c hl.1 d_CS_init_1 (by decide) (by decide) ?_
  refine lv_aload_n S.1 S.2.1 d_CS_init_4 rfl (lv_at hl 0 rfl) ?_
  refine lv_sipush (v := 157) S.1 S.2.1 d_CS_init_5 (by decide) ?_
  refine mm_newa (atype := .long) (ty := .long) (N' := 157) (a0 := (157, .inr (.inl (fun _ => 0)))) S hK.1 hw 1 gw_64 rfl rfl ((hK.1.2 1 _ rfl).2) (fun _ => rfl) (by decide) (by decide) (by decide) (Nat.le_of_ble_eq_true rfl) (Nat.le_of_ble_eq_true rfl) (fun _ h => by cases h) d_CS_init_8 (fun qa H hqqa hw => ?_)
  obtain ⟨M1, eM1⟩ : ∃ zM : mm_M, zM = mm_up M qa (.inl (dA 1, 157, .inr (.inl (fun _ => 0)))) := ⟨_, rfl⟩
  have hw : mm_w D vC _ _ (mm_up M qa (.inl (dA 1, 157, .inr (.inl (fun _ => 0))))) H _ := hw
  rw [← eM1] at hw
  have hq_1 : M1 q = some (.inr (3, [.null])) := by rw [eM1]; exact mm_fk hqqa hq
  have hqa_1 : M1 qa = some (.inl (dA 1, 157, .inr (.inl (fun _ => 0)))) := by rw [eM1]; exact mm_us
  refine mm_putF (C := R_CS) (T := T_CS) (N := 1) (ty := .array .long) (v := .ref qa) S hK.1 hw hq_1 rfl in_CS t_CS k_CS n_CS 0 (by decide) gw_71 rfl rfl hin rfl (by decide +kernel) (rfl) (rfl) (Nat.le_of_ble_eq_true rfl) d_CS_init_10 (fun H locs hw => ?_)
  obtain ⟨M2, eM2⟩ : ∃ zM : mm_M, zM = mm_up M1 q (.inr (3, [.ref qa])) := ⟨_, rfl⟩
  have hw : mm_w D vC _ _ (mm_up M1 q (.inr (3, [.ref qa]))) H _ := hw
  rw [← eM2] at hw
  have hqa_2 : M2 qa = some (.inl (dA 1, 157, .inr (.inl (fun _ => 0)))) := by rw [eM2]; exact mm_uk hq_1 hqa_1 (by simp)
  have hq_2 : M2 q = some (.inr (3, [.ref qa])) := by rw [eM2]; exact mm_us
  exact mm_retv S.1 S.2.1 hr hlocks hA hQ hw (⟨qa, hqqa, by rw [eM2, eM1]⟩) (Nat.le_of_ble_eq_true rfl) (Nat.le_of_ble_eq_true rfl) d_CS_init_13
theorem d_DR_init_0 : decode b_DR_init 0 = .ok (.aload_n 0, 1) := by decide +kernel
theorem d_DR_init_1 : decode b_DR_init 1 = .ok (.invokespecial 3, 3) := by decide +kernel
theorem d_DR_init_4 : decode b_DR_init 4 = .ok (.aload_n 0, 1) := by decide +kernel
theorem d_DR_init_5 : decode b_DR_init 5 = .ok (.bipush 50, 2) := by decide +kernel
theorem d_DR_init_7 : decode b_DR_init 7 = .ok (.anewarray 9, 3) := by decide +kernel
theorem d_DR_init_10 : decode b_DR_init 10 = .ok (.putfield 11, 3) := by decide +kernel
theorem d_DR_init_13 : decode b_DR_init 13 = .ok (.return_, 1) := by decide +kernel
set_option maxHeartbeats 4000000 in
set_option maxRecDepth 100000 in
theorem c_DR_init (l : Launch) (D : va_G) (dA : Nat → ClassId) (M : mm_M) (q : Nat) (hq : M q = some (.inr (2, [.null, .int 0]))) : mm_Cv l y_DR_init w_DR_init ({ frames := 1, cells := 1, slots := 50, locals := 20 }) 1 50 D vC (tyL dA) [.ref q] M (fun M' => ∃ qa : Nat, M qa = none ∧ M' = mm_up (mm_up M qa (.inl (dA 5, 50, .inr (.inr (.inr (.inr (fun _ => none))))))) q (.inr (2, [.ref qa, .int 0]))) := by
  intro sz
  refine mm_start (by decide) (Nat.le_of_ble_eq_true rfl) ?_
  intro p e s m below meth c A Q ls hA hQ S hr hlocks hin hK hw hl
  have hl : lv_has ls 1 [(0, .ref q)] := hl
  refine lv_aload_n S.1 S.2.1 d_DR_init_0 rfl (lv_at hl 0 rfl) ?_
  refine mm_obj S gw_54 gw_25 oi_c hl.1 d_DR_init_1 (by decide) (by decide) ?_
  refine lv_aload_n S.1 S.2.1 d_DR_init_4 rfl (lv_at hl 0 rfl) ?_
  refine lv_bipush (v := 50) S.1 S.2.1 d_DR_init_5 (by decide) ?_
  refine mm_newq (C := "AbendRows$Dump") (N' := 50) S hK.1 hw 5 gw_55 hK.2.1.2.2 rfl (by decide) (by decide) (by decide) (Nat.le_of_ble_eq_true rfl) (Nat.le_of_ble_eq_true rfl) d_DR_init_7 (fun qa H hqqa hw => ?_)
  obtain ⟨M1, eM1⟩ : ∃ zM : mm_M, zM = mm_up M qa (.inl (dA 5, 50, .inr (.inr (.inr (.inr (fun _ => none)))))) := ⟨_, rfl⟩
  have hw : mm_w D vC _ _ (mm_up M qa (.inl (dA 5, 50, .inr (.inr (.inr (.inr (fun _ => none))))))) H _ := hw
  rw [← eM1] at hw
  have hq_1 : M1 q = some (.inr (2, [.null, .int 0])) := by rw [eM1]; exact mm_fk hqqa hq
  have hqa_1 : M1 qa = some (.inl (dA 5, 50, .inr (.inr (.inr (.inr (fun _ => none)))))) := by rw [eM1]; exact mm_us
  refine mm_putF (C := R_DR) (T := T_DR) (N := 2) (ty := .array (.object "AbendRows$Dump")) (v := .ref qa) S hK.1 hw hq_1 rfl in_DR t_DR k_DR n_DR 0 (by decide) gw_57 rfl rfl hin rfl (by decide +kernel) (rfl) (rfl) (Nat.le_of_ble_eq_true rfl) d_DR_init_10 (fun H locs hw => ?_)
  obtain ⟨M2, eM2⟩ : ∃ zM : mm_M, zM = mm_up M1 q (.inr (2, [.ref qa, .int 0])) := ⟨_, rfl⟩
  have hw : mm_w D vC _ _ (mm_up M1 q (.inr (2, [.ref qa, .int 0]))) H _ := hw
  rw [← eM2] at hw
  have hqa_2 : M2 qa = some (.inl (dA 5, 50, .inr (.inr (.inr (.inr (fun _ => none)))))) := by rw [eM2]; exact mm_uk hq_1 hqa_1 (by simp)
  have hq_2 : M2 q = some (.inr (2, [.ref qa, .int 0])) := by rw [eM2]; exact mm_us
  exact mm_retv S.1 S.2.1 hr hlocks hA hQ hw (⟨qa, hqqa, by rw [eM2, eM1]⟩) (Nat.le_of_ble_eq_true rfl) (Nat.le_of_ble_eq_true rfl) d_DR_init_13
theorem d_GU_isHeldBy_0 : decode b_GU_isHeldBy 0 = .ok (.aload_n 0, 1) := by decide +kernel
theorem d_GU_isHeldBy_1 : decode b_GU_isHeldBy 1 = .ok (.getfield 7, 3) := by decide +kernel
theorem d_GU_isHeldBy_4 : decode b_GU_isHeldBy 4 = .ok (.iload_n 1, 1) := by decide +kernel
theorem d_GU_isHeldBy_5 : decode b_GU_isHeldBy 5 = .ok (.if_icmp .ne 14, 3) := by decide +kernel
theorem d_GU_isHeldBy_8 : decode b_GU_isHeldBy 8 = .ok (.aload_n 0, 1) := by decide +kernel
theorem d_GU_isHeldBy_9 : decode b_GU_isHeldBy 9 = .ok (.getfield 16, 3) := by decide +kernel
theorem d_GU_isHeldBy_12 : decode b_GU_isHeldBy 12 = .ok (.ifCond .ne 7, 3) := by decide +kernel
theorem d_GU_isHeldBy_15 : decode b_GU_isHeldBy 15 = .ok (.iconst 1, 1) := by decide +kernel
theorem d_GU_isHeldBy_16 : decode b_GU_isHeldBy 16 = .ok (.goto 4, 3) := by decide +kernel
theorem d_GU_isHeldBy_19 : decode b_GU_isHeldBy 19 = .ok (.iconst 0, 1) := by decide +kernel
theorem d_GU_isHeldBy_20 : decode b_GU_isHeldBy 20 = .ok (.ireturn, 1) := by decide +kernel
set_option maxHeartbeats 4000000 in
set_option maxRecDepth 100000 in
theorem c_GU_isHeldBy (l : Launch) (D : va_G) (dA : Nat → ClassId) (M : mm_M) (g : Nat) (t z b f k : Int32) (hf : f = 0 ∨ f = 1) (hg : M g = some (.inr (7, [.int t, .int z, .int b, .int f]))) : mm_Ci l y_GU_isHeldBy w_GU_isHeldBy ({ frames := 0, cells := 0, slots := 0, locals := 0 }) 0 0 D vC (tyL dA) [.ref g, .int k] M (fun r M' => M' = M ∧ r = (if t = k ∧ f = 0 then 1 else 0)) := by
  intro sz
  refine mm_start (by decide) (Nat.le_of_ble_eq_true rfl) ?_
  intro p e s m below meth c A Q ls hA hQ S hr hlocks hin hK hw hl
  have hl : lv_has ls 2 [(0, .ref g), (1, .int k)] := hl
  refine lv_aload_n S.1 S.2.1 d_GU_isHeldBy_0 rfl (lv_at hl 0 rfl) ?_
  refine mm_get (C := R_GU) (T := T_GU) (N := 4) S hK.1 hw hg rfl in_GU 0 (by decide) gw_298 rfl rfl d_GU_isHeldBy_1 ?_
  refine lv_iload_n S.1 S.2.1 d_GU_isHeldBy_4 rfl (lv_at hl 1 rfl) ?_
  refine lv_icmp_ne (tgt := 19) S.1 S.2.1 d_GU_isHeldBy_5 (by decide) (fun c5 => ?_) (fun c5 => ?_)
  · refine lv_iconst (v := 0) S.1 S.2.1 d_GU_isHeldBy_19 (by decide) ?_
    exact mm_retz S.1 S.2.1 hr hlocks hA hQ hw (rfl) (⟨rfl, by simp_all⟩) (Nat.le_of_ble_eq_true rfl) (Nat.le_of_ble_eq_true rfl) d_GU_isHeldBy_20
  · refine lv_aload_n S.1 S.2.1 d_GU_isHeldBy_8 rfl (lv_at hl 0 rfl) ?_
    refine mm_get (C := R_GU) (T := T_GU) (N := 4) S hK.1 hw hg rfl in_GU 3 (by decide) gw_303 rfl rfl d_GU_isHeldBy_9 ?_
    refine lv_if_ne (tgt := 19) S.1 S.2.1 d_GU_isHeldBy_12 (by decide) (fun c12 => ?_) (fun c12 => ?_)
    · refine lv_iconst (v := 0) S.1 S.2.1 d_GU_isHeldBy_19 (by decide) ?_
      exact mm_retz S.1 S.2.1 hr hlocks hA hQ hw (rfl) (⟨rfl, by simp_all⟩) (Nat.le_of_ble_eq_true rfl) (Nat.le_of_ble_eq_true rfl) d_GU_isHeldBy_20
    · refine lv_iconst (v := 1) S.1 S.2.1 d_GU_isHeldBy_15 (by decide) ?_
      refine lv_goto (tgt := 20) S.1 S.2.1 d_GU_isHeldBy_16 (by decide) ?_
      exact mm_retz S.1 S.2.1 hr hlocks hA hQ hw (rfl) (⟨rfl, by simp_all⟩) (Nat.le_of_ble_eq_true rfl) (Nat.le_of_ble_eq_true rfl) d_GU_isHeldBy_20
theorem d_SE_retriesNow_0 : decode b_SE_retriesNow 0 = .ok (.aload_n 0, 1) := by decide +kernel
theorem d_SE_retriesNow_1 : decode b_SE_retriesNow 1 = .ok (.getfield 65, 3) := by decide +kernel
theorem d_SE_retriesNow_4 : decode b_SE_retriesNow 4 = .ok (.ifCond .ne 7, 3) := by decide +kernel
theorem d_SE_retriesNow_7 : decode b_SE_retriesNow 7 = .ok (.iconst 1, 1) := by decide +kernel
theorem d_SE_retriesNow_8 : decode b_SE_retriesNow 8 = .ok (.goto 4, 3) := by decide +kernel
theorem d_SE_retriesNow_11 : decode b_SE_retriesNow 11 = .ok (.iconst 0, 1) := by decide +kernel
theorem d_SE_retriesNow_12 : decode b_SE_retriesNow 12 = .ok (.istore_n 1, 1) := by decide +kernel
theorem d_SE_retriesNow_13 : decode b_SE_retriesNow 13 = .ok (.aload_n 0, 1) := by decide +kernel
theorem d_SE_retriesNow_14 : decode b_SE_retriesNow 14 = .ok (.iconst 1, 1) := by decide +kernel
theorem d_SE_retriesNow_15 : decode b_SE_retriesNow 15 = .ok (.putfield 65, 3) := by decide +kernel
theorem d_SE_retriesNow_18 : decode b_SE_retriesNow 18 = .ok (.iload_n 1, 1) := by decide +kernel
theorem d_SE_retriesNow_19 : decode b_SE_retriesNow 19 = .ok (.ireturn, 1) := by decide +kernel
set_option maxHeartbeats 4000000 in
set_option maxRecDepth 100000 in
theorem c_SE_retriesNow (l : Launch) (D : va_G) (dA : Nat → ClassId) (M : mm_M) (x : Nat) (n d z t : Int32) (ea : Option Nat) (ht : t = 0 ∨ t = 1) (hx : M x = some (.inr (6, [.int n, .int d, .int z, va_rf ea, .int t]))) : mm_Ci l y_SE_retriesNow w_SE_retriesNow ({ frames := 0, cells := 0, slots := 0, locals := 0 }) 0 0 D vC (tyL dA) [.ref x] M (fun r M' => M' = mm_up M x (.inr (6, [.int n, .int d, .int z, va_rf ea, .int 1])) ∧ r = (if t = 0 then 1 else 0)) := by
  intro sz
  refine mm_start (by decide) (Nat.le_of_ble_eq_true rfl) ?_
  intro p e s m below meth c A Q ls hA hQ S hr hlocks hin hK hw hl
  have hl : lv_has ls 2 [(0, .ref x)] := hl
  refine lv_aload_n S.1 S.2.1 d_SE_retriesNow_0 rfl (lv_at hl 0 rfl) ?_
  refine mm_get (C := R_EX) (T := T_EX) (N := 5) S hK.1 hw hx rfl in_EX 4 (by decide) gw_175 rfl rfl d_SE_retriesNow_1 ?_
  refine lv_if_ne (tgt := 11) S.1 S.2.1 d_SE_retriesNow_4 (by decide) (fun c4 => ?_) (fun c4 => ?_)
  · refine lv_iconst (v := 0) S.1 S.2.1 d_SE_retriesNow_11 (by decide) ?_
    refine lv_istore_n (lv' := [(1, .int 0), (0, .ref x)]) S.1 S.2.1 d_SE_retriesNow_12 rfl hl (by decide) rfl (fun ls hl => ?_)
    refine lv_aload_n S.1 S.2.1 d_SE_retriesNow_13 rfl (lv_at hl 1 rfl) ?_
    refine lv_iconst (v := 1) S.1 S.2.1 d_SE_retriesNow_14 (by decide) ?_
    refine mm_put (C := R_EX) (T := T_EX) (N := 5) (ty := .boolean) (v := .int 1) S hK.1 hw hx rfl in_EX t_EX k_EX n_EX 4 (by decide) gw_175 rfl rfl (by decide +kernel) (rfl) (rfl) (Nat.le_of_ble_eq_true rfl) d_SE_retriesNow_15 (fun H locs hw => ?_)
    obtain ⟨M1, eM1⟩ : ∃ zM : mm_M, zM = mm_up M x (.inr (6, [.int n, .int d, .int z, va_rf ea, .int 1])) := ⟨_, rfl⟩
    have hw : mm_w D vC _ _ (mm_up M x (.inr (6, [.int n, .int d, .int z, va_rf ea, .int 1]))) H _ := hw
    rw [← eM1] at hw
    have hx_1 : M1 x = some (.inr (6, [.int n, .int d, .int z, va_rf ea, .int 1])) := by rw [eM1]; exact mm_us
    refine lv_iload_n S.1 S.2.1 d_SE_retriesNow_18 rfl (lv_at hl 0 rfl) ?_
    exact mm_retz S.1 S.2.1 hr hlocks hA hQ hw (rfl) (⟨eM1, by simp_all⟩) (Nat.le_of_ble_eq_true rfl) (Nat.le_of_ble_eq_true rfl) d_SE_retriesNow_19
  · refine lv_iconst (v := 1) S.1 S.2.1 d_SE_retriesNow_7 (by decide) ?_
    refine lv_goto (tgt := 12) S.1 S.2.1 d_SE_retriesNow_8 (by decide) ?_
    refine lv_istore_n (lv' := [(1, .int 1), (0, .ref x)]) S.1 S.2.1 d_SE_retriesNow_12 rfl hl (by decide) rfl (fun ls hl => ?_)
    refine lv_aload_n S.1 S.2.1 d_SE_retriesNow_13 rfl (lv_at hl 1 rfl) ?_
    refine lv_iconst (v := 1) S.1 S.2.1 d_SE_retriesNow_14 (by decide) ?_
    refine mm_put (C := R_EX) (T := T_EX) (N := 5) (ty := .boolean) (v := .int 1) S hK.1 hw hx rfl in_EX t_EX k_EX n_EX 4 (by decide) gw_175 rfl rfl (by decide +kernel) (rfl) (rfl) (Nat.le_of_ble_eq_true rfl) d_SE_retriesNow_15 (fun H locs hw => ?_)
    obtain ⟨M2, eM2⟩ : ∃ zM : mm_M, zM = mm_up M x (.inr (6, [.int n, .int d, .int z, va_rf ea, .int 1])) := ⟨_, rfl⟩
    have hw : mm_w D vC _ _ (mm_up M x (.inr (6, [.int n, .int d, .int z, va_rf ea, .int 1]))) H _ := hw
    rw [← eM2] at hw
    have hx_2 : M2 x = some (.inr (6, [.int n, .int d, .int z, va_rf ea, .int 1])) := by rw [eM2]; exact mm_us
    refine lv_iload_n S.1 S.2.1 d_SE_retriesNow_18 rfl (lv_at hl 0 rfl) ?_
    exact mm_retz S.1 S.2.1 hr hlocks hA hQ hw (rfl) (⟨eM2, by simp_all⟩) (Nat.le_of_ble_eq_true rfl) (Nat.le_of_ble_eq_true rfl) d_SE_retriesNow_19
