theorem ts_ne {x a : Int32} (h : ¬ x = a) : x.toInt ≠ a.toInt := fun q => h (Int32.toInt_inj.mp q)
theorem up_uu {f : Nat → Int32} {k : Nat} {a b : Int32} : upd (upd f k a) k b = upd f k b := by
  funext j
  by_cases h : j = k <;> simp [upd, h]
def du_f (F : sF) (t i w : Int32) : Nat → Nat → Int32 → Int32
  | 0, _, _ => -1
  | m + 1, d, n => if F 15 (5 * d) = t then (if n = i then F 15 (5 * d + 1 + cN w) else du_f F t i w m (d + 1) (n + 1)) else du_f F t i w m (d + 1) n
def sp_dump (t i w : Int32) (I : sI) (F : sF) (st : sT) : sR := (if w < 0 ∨ ¬ w ≤ 3 then -1 else du_f F t i w (cN (I 4)) 0 0, upd I 0 0, F, st)
/-- what an exit does: the level at which it ends the abend (0: none), and which exits have retried -/
def en_of (F : sF) (x a l : Nat) : Int32 × (Nat → Int32) :=
  if ¬ F 6 x = 0 then (0, F 7)
  else if F 4 x = 1 then (nI a, F 7)
  else if F 4 x = 2 then (if ¬ F 7 x = 0 then (0, F 7) else (nI l, upd (F 7) x 1))
  else if F 4 x = 3 then (F 0 a, F 7)
  else (0, F 7)

/-- the picture behind endOf -/
theorem va_up_same {α : Type} {f : Nat → α} {k : Nat} : va_up f k (f k) = f := by
  funext j
  by_cases h : j = k
  · subst h; exact va_up_self _ _ _
  · exact va_up_ne _ _ h
theorem en_done {dA : Nat → ClassId} {x : Nat} {g : Nat → Nat} {R : Int32 × (Nat → Int32)} {v : Int32} {f : Nat → Int32} {M : mm_M} {I : sI} {F F' : sF} {st : sT} (hP : mP dA M x g I F' st) (h : R = (v, f)) (hF : F' = va_up F 7 f := by first | rfl | exact (va_up_same).symm) : v = R.1 ∧ mP dA M x g I (va_up F 7 R.2) st := by
  subst h; subst hF
  exact ⟨rfl, hP⟩
theorem d_MO_endOf_0 : decode b_MO_endOf 0 = .ok (.aload_n 0, 1) := by decide +kernel
theorem d_MO_endOf_1 : decode b_MO_endOf 1 = .ok (.getfield 28, 3) := by decide +kernel
theorem d_MO_endOf_4 : decode b_MO_endOf 4 = .ok (.iload_n 1, 1) := by decide +kernel
theorem d_MO_endOf_5 : decode b_MO_endOf 5 = .ok (.baload, 1) := by decide +kernel
theorem d_MO_endOf_6 : decode b_MO_endOf 6 = .ok (.ifCond .eq 5, 3) := by decide +kernel
theorem d_MO_endOf_9 : decode b_MO_endOf 9 = .ok (.iconst 0, 1) := by decide +kernel
theorem d_MO_endOf_10 : decode b_MO_endOf 10 = .ok (.ireturn, 1) := by decide +kernel
theorem d_MO_endOf_11 : decode b_MO_endOf 11 = .ok (.aload_n 0, 1) := by decide +kernel
theorem d_MO_endOf_12 : decode b_MO_endOf 12 = .ok (.getfield 22, 3) := by decide +kernel
theorem d_MO_endOf_15 : decode b_MO_endOf 15 = .ok (.iload_n 1, 1) := by decide +kernel
theorem d_MO_endOf_16 : decode b_MO_endOf 16 = .ok (.iaload, 1) := by decide +kernel
theorem d_MO_endOf_17 : decode b_MO_endOf 17 = .ok (.tableswitch 56 1 3 #[27, 29, 49], 27) := by decide +kernel
theorem d_MO_endOf_44 : decode b_MO_endOf 44 = .ok (.iload_n 2, 1) := by decide +kernel
theorem d_MO_endOf_45 : decode b_MO_endOf 45 = .ok (.ireturn, 1) := by decide +kernel
theorem d_MO_endOf_46 : decode b_MO_endOf 46 = .ok (.aload_n 0, 1) := by decide +kernel
theorem d_MO_endOf_47 : decode b_MO_endOf 47 = .ok (.getfield 32, 3) := by decide +kernel
theorem d_MO_endOf_50 : decode b_MO_endOf 50 = .ok (.iload_n 1, 1) := by decide +kernel
theorem d_MO_endOf_51 : decode b_MO_endOf 51 = .ok (.baload, 1) := by decide +kernel
theorem d_MO_endOf_52 : decode b_MO_endOf 52 = .ok (.ifCond .eq 5, 3) := by decide +kernel
theorem d_MO_endOf_55 : decode b_MO_endOf 55 = .ok (.iconst 0, 1) := by decide +kernel
theorem d_MO_endOf_56 : decode b_MO_endOf 56 = .ok (.ireturn, 1) := by decide +kernel
theorem d_MO_endOf_57 : decode b_MO_endOf 57 = .ok (.aload_n 0, 1) := by decide +kernel
theorem d_MO_endOf_58 : decode b_MO_endOf 58 = .ok (.getfield 32, 3) := by decide +kernel
theorem d_MO_endOf_61 : decode b_MO_endOf 61 = .ok (.iload_n 1, 1) := by decide +kernel
theorem d_MO_endOf_62 : decode b_MO_endOf 62 = .ok (.iconst 1, 1) := by decide +kernel
theorem d_MO_endOf_63 : decode b_MO_endOf 63 = .ok (.bastore, 1) := by decide +kernel
theorem d_MO_endOf_64 : decode b_MO_endOf 64 = .ok (.iload_n 3, 1) := by decide +kernel
theorem d_MO_endOf_65 : decode b_MO_endOf 65 = .ok (.ireturn, 1) := by decide +kernel
theorem d_MO_endOf_66 : decode b_MO_endOf 66 = .ok (.aload_n 0, 1) := by decide +kernel
theorem d_MO_endOf_67 : decode b_MO_endOf 67 = .ok (.getfield 7, 3) := by decide +kernel
theorem d_MO_endOf_70 : decode b_MO_endOf 70 = .ok (.iload_n 2, 1) := by decide +kernel
theorem d_MO_endOf_71 : decode b_MO_endOf 71 = .ok (.iaload, 1) := by decide +kernel
theorem d_MO_endOf_72 : decode b_MO_endOf 72 = .ok (.ireturn, 1) := by decide +kernel
theorem d_MO_endOf_73 : decode b_MO_endOf 73 = .ok (.iconst 0, 1) := by decide +kernel
theorem d_MO_endOf_74 : decode b_MO_endOf 74 = .ok (.ireturn, 1) := by decide +kernel
set_option maxHeartbeats 4000000 in
set_option maxRecDepth 100000 in
theorem c_MO_endOf (l : Launch) (D : va_G) (dA : Nat → ClassId) (M : mm_M) (x : Nat) (g : Nat → Nat) (I : sI) (F : sF) (st : sT) (x0 a lv : Nat) (hx0 : x0 ≤ 300) (ha : a ≤ 100) (hP : mP dA M x g I F st) : mm_Ci l y_MO_endOf w_MO_endOf ({ frames := 0, cells := 0, slots := 0, locals := 0 }) 0 0 D vC (tyL dA) [.ref x, .int (nI x0), .int (nI a), .int (nI lv)] M (fun r M' => r = (en_of F x0 a lv).1 ∧ mP dA M' x g I (va_up F 7 (en_of F x0 a lv).2) st) := by
  intro sz
  refine mm_start (by decide) (Nat.le_of_ble_eq_true rfl) ?_
  intro p e s m below meth c A Q ls hA hQ S hr hlocks hin hK hw hl
  have hl : lv_has ls 4 [(0, .ref x), (1, .int (nI x0)), (2, .int (nI a)), (3, .int (nI lv))] := hl
  refine lv_aload_n S.1 S.2.1 d_MO_endOf_0 rfl (lv_at hl 0 rfl) ?_
  refine mm_get (C := R_MO) (T := T_MO) (N := 22) (v := .ref (g 6)) S hK.1 hw hP.2.1 rfl in_MO 12 (by decide) gw_382 rfl rfl d_MO_endOf_1 ?_
  refine lv_iload_n S.1 S.2.1 d_MO_endOf_4 rfl (lv_at hl 1 rfl) ?_
  refine mn_zald (j := x0) (n := 301) (f := F 6) S hK.1 hw 2 (mP_a (k := 6) (F := F) hP (by decide) (by decide)) rfl (rfl) (by omega) (by decide) d_MO_endOf_5 ?_
  refine lv_if_eq (tgt := 11) S.1 S.2.1 d_MO_endOf_6 (by decide) (fun c6 => ?_) (fun c6 => ?_)
  · refine lv_aload_n S.1 S.2.1 d_MO_endOf_11 rfl (lv_at hl 0 rfl) ?_
    refine mm_get (C := R_MO) (T := T_MO) (N := 22) (v := .ref (g 4)) S hK.1 hw hP.2.1 rfl in_MO 10 (by decide) gw_380 rfl rfl d_MO_endOf_12 ?_
    refine lv_iload_n S.1 S.2.1 d_MO_endOf_15 rfl (lv_at hl 1 rfl) ?_
    refine mn_iald (j := x0) (n := 301) (f := F 4) S hK.1 hw 0 (mP_a (k := 4) (F := F) hP (by decide) (by decide)) rfl (rfl) (by omega) (by decide) d_MO_endOf_16 ?_
    by_cases k17_1 : (F 4 (x0)) = 1
    · refine lv_tableIn (off := 27) (tgt := 44) S.1 S.2.1 d_MO_endOf_17 (by rw [k17_1]; decide) (by rw [k17_1]; decide) (by rw [k17_1]; rfl) (by decide) ?_
      refine lv_iload_n S.1 S.2.1 d_MO_endOf_44 rfl (lv_at hl 2 rfl) ?_
      exact mm_reti S.1 S.2.1 hr hlocks hA hQ hw (en_done hP (show en_of F x0 a lv = ((nI a), F 7) by simp only [en_of, eq_true c6, eq_true k17_1, not_true_eq_false, not_false_eq_true, and_true, true_and, and_false, false_and, and_self, or_true, true_or, or_false, false_or, or_self, ↓reduceIte])) (Nat.le_of_ble_eq_true rfl) (Nat.le_of_ble_eq_true rfl) d_MO_endOf_45
    by_cases k17_2 : (F 4 (x0)) = 2
    · refine lv_tableIn (off := 29) (tgt := 46) S.1 S.2.1 d_MO_endOf_17 (by rw [k17_2]; decide) (by rw [k17_2]; decide) (by rw [k17_2]; rfl) (by decide) ?_
      refine lv_aload_n S.1 S.2.1 d_MO_endOf_46 rfl (lv_at hl 0 rfl) ?_
      refine mm_get (C := R_MO) (T := T_MO) (N := 22) (v := .ref (g 7)) S hK.1 hw hP.2.1 rfl in_MO 13 (by decide) gw_383 rfl rfl d_MO_endOf_47 ?_
      refine lv_iload_n S.1 S.2.1 d_MO_endOf_50 rfl (lv_at hl 1 rfl) ?_
      refine mn_zald (j := x0) (n := 301) (f := F 7) S hK.1 hw 2 (mP_a (k := 7) (F := F) hP (by decide) (by decide)) rfl (rfl) (by omega) (by decide) d_MO_endOf_51 ?_
      refine lv_if_eq (tgt := 57) S.1 S.2.1 d_MO_endOf_52 (by decide) (fun c52 => ?_) (fun c52 => ?_)
      · refine lv_aload_n S.1 S.2.1 d_MO_endOf_57 rfl (lv_at hl 0 rfl) ?_
        refine mm_get (C := R_MO) (T := T_MO) (N := 22) (v := .ref (g 7)) S hK.1 hw hP.2.1 rfl in_MO 13 (by decide) gw_383 rfl rfl d_MO_endOf_58 ?_
        refine lv_iload_n S.1 S.2.1 d_MO_endOf_61 rfl (lv_at hl 1 rfl) ?_
        refine lv_iconst (v := 1) S.1 S.2.1 d_MO_endOf_62 (by decide) ?_
        refine mn_zast (j := x0) (n := 301) (f := F 7) S hK.1 hw 2 (mP_a (k := 7) (F := F) hP (by decide) (by decide)) rfl (rfl) (by omega) (by decide) (mz_nar2 (Or.inr rfl)) d_MO_endOf_63 (fun H locs hw => ?_)
        obtain ⟨M, hw, hP⟩ := md_ast (k := 7) (j := x0) (v := 1) (F := F) (by decide) (by decide) hw hP
        refine lv_iload_n S.1 S.2.1 d_MO_endOf_64 rfl (lv_at hl 3 rfl) ?_
        exact mm_reti S.1 S.2.1 hr hlocks hA hQ hw (en_done hP (show en_of F x0 a lv = ((nI lv), upd (F 7) (x0) (1)) by simp only [en_of, eq_true c6, eq_false k17_1, eq_true k17_2, eq_true c52, not_true_eq_false, not_false_eq_true, and_true, true_and, and_false, false_and, and_self, or_true, true_or, or_false, false_or, or_self, ↓reduceIte])) (Nat.le_of_ble_eq_true rfl) (Nat.le_of_ble_eq_true rfl) d_MO_endOf_65
      · refine lv_iconst (v := 0) S.1 S.2.1 d_MO_endOf_55 (by decide) ?_
        exact mm_reti S.1 S.2.1 hr hlocks hA hQ hw (en_done hP (show en_of F x0 a lv = (0, F 7) by simp only [en_of, eq_true c6, eq_false k17_1, eq_true k17_2, eq_false c52, not_true_eq_false, not_false_eq_true, and_true, true_and, and_false, false_and, and_self, or_true, true_or, or_false, false_or, or_self, ↓reduceIte])) (Nat.le_of_ble_eq_true rfl) (Nat.le_of_ble_eq_true rfl) d_MO_endOf_56
    by_cases k17_3 : (F 4 (x0)) = 3
    · refine lv_tableIn (off := 49) (tgt := 66) S.1 S.2.1 d_MO_endOf_17 (by rw [k17_3]; decide) (by rw [k17_3]; decide) (by rw [k17_3]; rfl) (by decide) ?_
      refine lv_aload_n S.1 S.2.1 d_MO_endOf_66 rfl (lv_at hl 0 rfl) ?_
      refine mm_get (C := R_MO) (T := T_MO) (N := 22) (v := .ref (g 0)) S hK.1 hw hP.2.1 rfl in_MO 6 (by decide) gw_376 rfl rfl d_MO_endOf_67 ?_
      refine lv_iload_n S.1 S.2.1 d_MO_endOf_70 rfl (lv_at hl 2 rfl) ?_
      refine mn_iald (j := a) (n := 101) (f := F 0) S hK.1 hw 0 (mP_a (k := 0) (F := F) hP (by decide) (by decide)) rfl (rfl) (by omega) (by decide) d_MO_endOf_71 ?_
      exact mm_reti S.1 S.2.1 hr hlocks hA hQ hw (en_done hP (show en_of F x0 a lv = ((F 0 (a)), F 7) by simp only [en_of, eq_true c6, eq_false k17_1, eq_false k17_2, eq_true k17_3, not_true_eq_false, not_false_eq_true, and_true, true_and, and_false, false_and, and_self, or_true, true_or, or_false, false_or, or_self, ↓reduceIte])) (Nat.le_of_ble_eq_true rfl) (Nat.le_of_ble_eq_true rfl) d_MO_endOf_72
    refine lv_tableOut (tgt := 73) S.1 S.2.1 d_MO_endOf_17 (by have t1 : ((F 4 (x0))).toInt ≠ 1 := ts_ne k17_1; have t2 : ((F 4 (x0))).toInt ≠ 2 := ts_ne k17_2; have t3 : ((F 4 (x0))).toInt ≠ 3 := ts_ne k17_3; omega) (by decide) ?_
    refine lv_iconst (v := 0) S.1 S.2.1 d_MO_endOf_73 (by decide) ?_
    exact mm_reti S.1 S.2.1 hr hlocks hA hQ hw (en_done hP (show en_of F x0 a lv = (0, F 7) by simp only [en_of, eq_true c6, eq_false k17_1, eq_false k17_2, eq_false k17_3, not_true_eq_false, not_false_eq_true, and_true, true_and, and_false, false_and, and_self, or_true, true_or, or_false, false_or, or_self, ↓reduceIte])) (Nat.le_of_ble_eq_true rfl) (Nat.le_of_ble_eq_true rfl) d_MO_endOf_74
  · refine lv_iconst (v := 0) S.1 S.2.1 d_MO_endOf_9 (by decide) ?_
    exact mm_reti S.1 S.2.1 hr hlocks hA hQ hw (en_done hP (show en_of F x0 a lv = (0, F 7) by simp only [en_of, eq_false c6, not_true_eq_false, not_false_eq_true, and_true, true_and, and_false, false_and, and_self, or_true, true_or, or_false, false_or, or_self, ↓reduceIte])) (Nat.le_of_ble_eq_true rfl) (Nat.le_of_ble_eq_true rfl) d_MO_endOf_10
theorem cN_le3 {w : Int32} (h0 : ¬ w < 0) (h3 : w ≤ 3) : cN w ≤ 3 := by
  obtain ⟨j, hj, rfl⟩ := nI_of h0
  rw [cN, nI_clamp hj]
  exact (nI_leI hj (by decide)).mp (show nI j ≤ nI 3 from h3)
theorem d_MO_dump_0 : decode b_MO_dump 0 = .ok (.aload_n 0, 1) := by decide +kernel
theorem d_MO_dump_1 : decode b_MO_dump 1 = .ok (.iconst 0, 1) := by decide +kernel
theorem d_MO_dump_2 : decode b_MO_dump 2 = .ok (.putfield 60, 3) := by decide +kernel
theorem d_MO_dump_5 : decode b_MO_dump 5 = .ok (.iload_n 3, 1) := by decide +kernel
theorem d_MO_dump_6 : decode b_MO_dump 6 = .ok (.ifCond .lt 8, 3) := by decide +kernel
theorem d_MO_dump_9 : decode b_MO_dump 9 = .ok (.iload_n 3, 1) := by decide +kernel
theorem d_MO_dump_10 : decode b_MO_dump 10 = .ok (.iconst 3, 1) := by decide +kernel
theorem d_MO_dump_11 : decode b_MO_dump 11 = .ok (.if_icmp .le 5, 3) := by decide +kernel
theorem d_MO_dump_14 : decode b_MO_dump 14 = .ok (.iconst (-1), 1) := by decide +kernel
theorem d_MO_dump_15 : decode b_MO_dump 15 = .ok (.ireturn, 1) := by decide +kernel
theorem d_MO_dump_16 : decode b_MO_dump 16 = .ok (.iconst 0, 1) := by decide +kernel
theorem d_MO_dump_17 : decode b_MO_dump 17 = .ok (.istore 4, 2) := by decide +kernel
theorem d_MO_dump_19 : decode b_MO_dump 19 = .ok (.iconst 0, 1) := by decide +kernel
theorem d_MO_dump_20 : decode b_MO_dump 20 = .ok (.istore 5, 2) := by decide +kernel
theorem d_MO_dump_22 : decode b_MO_dump 22 = .ok (.iload 5, 2) := by decide +kernel
theorem d_MO_dump_24 : decode b_MO_dump 24 = .ok (.aload_n 0, 1) := by decide +kernel
theorem d_MO_dump_25 : decode b_MO_dump 25 = .ok (.getfield 87, 3) := by decide +kernel
theorem d_MO_dump_28 : decode b_MO_dump 28 = .ok (.if_icmp .ge 48, 3) := by decide +kernel
theorem d_MO_dump_31 : decode b_MO_dump 31 = .ok (.aload_n 0, 1) := by decide +kernel
theorem d_MO_dump_32 : decode b_MO_dump 32 = .ok (.getfield 57, 3) := by decide +kernel
theorem d_MO_dump_35 : decode b_MO_dump 35 = .ok (.iconst 5, 1) := by decide +kernel
theorem d_MO_dump_36 : decode b_MO_dump 36 = .ok (.iload 5, 2) := by decide +kernel
theorem d_MO_dump_38 : decode b_MO_dump 38 = .ok (.imul, 1) := by decide +kernel
theorem d_MO_dump_39 : decode b_MO_dump 39 = .ok (.iaload, 1) := by decide +kernel
theorem d_MO_dump_40 : decode b_MO_dump 40 = .ok (.iload_n 1, 1) := by decide +kernel
theorem d_MO_dump_41 : decode b_MO_dump 41 = .ok (.if_icmp .eq 6, 3) := by decide +kernel
theorem d_MO_dump_44 : decode b_MO_dump 44 = .ok (.goto 26, 3) := by decide +kernel
theorem d_MO_dump_47 : decode b_MO_dump 47 = .ok (.iload 4, 2) := by decide +kernel
theorem d_MO_dump_49 : decode b_MO_dump 49 = .ok (.iload_n 2, 1) := by decide +kernel
theorem d_MO_dump_50 : decode b_MO_dump 50 = .ok (.if_icmp .ne 17, 3) := by decide +kernel
theorem d_MO_dump_53 : decode b_MO_dump 53 = .ok (.aload_n 0, 1) := by decide +kernel
theorem d_MO_dump_54 : decode b_MO_dump 54 = .ok (.getfield 57, 3) := by decide +kernel
theorem d_MO_dump_57 : decode b_MO_dump 57 = .ok (.iconst 5, 1) := by decide +kernel
theorem d_MO_dump_58 : decode b_MO_dump 58 = .ok (.iload 5, 2) := by decide +kernel
theorem d_MO_dump_60 : decode b_MO_dump 60 = .ok (.imul, 1) := by decide +kernel
theorem d_MO_dump_61 : decode b_MO_dump 61 = .ok (.iconst 1, 1) := by decide +kernel
theorem d_MO_dump_62 : decode b_MO_dump 62 = .ok (.iadd, 1) := by decide +kernel
theorem d_MO_dump_63 : decode b_MO_dump 63 = .ok (.iload_n 3, 1) := by decide +kernel
theorem d_MO_dump_64 : decode b_MO_dump 64 = .ok (.iadd, 1) := by decide +kernel
theorem d_MO_dump_65 : decode b_MO_dump 65 = .ok (.iaload, 1) := by decide +kernel
theorem d_MO_dump_66 : decode b_MO_dump 66 = .ok (.ireturn, 1) := by decide +kernel
theorem d_MO_dump_67 : decode b_MO_dump 67 = .ok (.iinc 4 1, 3) := by decide +kernel
theorem d_MO_dump_70 : decode b_MO_dump 70 = .ok (.iinc 5 1, 3) := by decide +kernel
theorem d_MO_dump_73 : decode b_MO_dump 73 = .ok (.goto (-51), 3) := by decide +kernel
theorem d_MO_dump_76 : decode b_MO_dump 76 = .ok (.iconst (-1), 1) := by decide +kernel
theorem d_MO_dump_77 : decode b_MO_dump 77 = .ok (.ireturn, 1) := by decide +kernel
set_option maxHeartbeats 4000000 in
set_option maxRecDepth 100000 in
theorem c_MO_dump (l : Launch) (D : va_G) (dA : Nat → ClassId) (M : mm_M) (x : Nat) (g : Nat → Nat) (I : sI) (F : sF) (st : sT) (t i w : Int32) (nd : Nat) (hnd : I 4 = nI nd) (hND : nd ≤ 50) (hP : mP dA M x g I F st) : mm_Ci l y_MO_dump w_MO_dump ({ frames := 0, cells := 0, slots := 0, locals := 0 }) 0 0 D vC (tyL dA) [.ref x, .int t, .int i, .int w] M (md_post dA x g (sp_dump t i w I F st)) := by
  intro sz
  refine mm_start (by decide) (Nat.le_of_ble_eq_true rfl) ?_
  intro p e s m below meth c A Q ls hA hQ S hr hlocks hin hK hw hl
  have hl : lv_has ls 6 [(0, .ref x), (1, .int t), (2, .int i), (3, .int w)] := hl
  refine lv_aload_n S.1 S.2.1 d_MO_dump_0 rfl (lv_at hl 0 rfl) ?_
  refine lv_iconst (v := 0) S.1 S.2.1 d_MO_dump_1 (by decide) ?_
  refine mm_put (C := R_MO) (T := T_MO) (N := 22) (ty := .int) (v := .int 0) S hK.1 hw hP.2.1 rfl in_MO t_MO k_MO n_MO 0 (by decide) gw_370 rfl rfl (by decide +kernel) rfl rfl (Nat.le_of_ble_eq_true rfl) d_MO_dump_2 (fun H locs hw => ?_)
  obtain ⟨M, hw, hP⟩ := md_puti (k := 0) (v := 0) (by decide) hw hP
  refine lv_iload_n S.1 S.2.1 d_MO_dump_5 rfl (lv_at hl 3 rfl) ?_
  refine lv_if_lt (tgt := 14) S.1 S.2.1 d_MO_dump_6 (by decide) (fun c6 => ?_) (fun c6 => ?_)
  · refine lv_iconst (v := (-1)) S.1 S.2.1 d_MO_dump_14 (by decide) ?_
    exact mm_reti S.1 S.2.1 hr hlocks hA hQ hw (md_done hP (show sp_dump t i w I F st = ((-1), (upd I 0 (0)), F, st) by simp only [sp_dump, eq_true c6, not_true_eq_false, not_false_eq_true, and_true, true_and, and_false, false_and, and_self, or_true, true_or, or_false, false_or, or_self, ↓reduceIte])) (Nat.le_of_ble_eq_true rfl) (Nat.le_of_ble_eq_true rfl) d_MO_dump_15
  · refine lv_iload_n S.1 S.2.1 d_MO_dump_9 rfl (lv_at hl 3 rfl) ?_
    refine lv_iconst (v := 3) S.1 S.2.1 d_MO_dump_10 (by decide) ?_
    refine lv_icmp_le (tgt := 16) S.1 S.2.1 d_MO_dump_11 (by decide) (fun c11 => ?_) (fun c11 => ?_)
    · refine lv_iconst (v := 0) S.1 S.2.1 d_MO_dump_16 (by decide) ?_
      refine lv_istore (lv' := [(4, .int 0), (0, .ref x), (1, .int t), (2, .int i), (3, .int w)]) S.1 S.2.1 d_MO_dump_17 hl (by decide) rfl (fun ls hl => ?_)
      refine lv_iconst (v := 0) S.1 S.2.1 d_MO_dump_19 (by decide) ?_
      refine lv_istore (lv' := [(5, .int 0), (4, .int 0), (0, .ref x), (1, .int t), (2, .int i), (3, .int w)]) S.1 S.2.1 d_MO_dump_20 hl (by decide) rfl (fun ls hl => ?_)
      have hS : sp_dump t i w I F st = (du_f F t i w nd 0 0, upd I 0 0, F, st) := by
        have e9 : cN (I 4) = nd := by rw [hnd, cN, nI_clamp (by omega)]
        simp only [sp_dump, eq_false c6, eq_true c11, not_true_eq_false, not_false_eq_true, and_true, true_and, and_false, false_and, and_self, or_true, true_or, or_false, false_or, or_self, ↓reduceIte, e9]
      have L : ∀ (mm d : Nat) (n : Int32) (ls : Array Slot), d + mm = nd → du_f F t i w nd 0 0 = du_f F t i w mm d n → lv_has ls 6 [(0, .ref x), (1, .int t), (2, .int i), (3, .int w), (4, .int n), (5, .int (nI d))] → W p l e ({ frames := 0, cells := 0, slots := 0, locals := 0 }) s m [.ref x, .int t, .int i, .int w].toArray below meth c H locs 0 0 Q (F0 m 22 ls []) := by
        intro mm
        induction mm with
        | zero =>
          intro d n ls hd hs hl
          refine lv_iload S.1 S.2.1 d_MO_dump_22 (lv_at hl 5 rfl) ?_
          refine lv_aload_n S.1 S.2.1 d_MO_dump_24 rfl (lv_at hl 0 rfl) ?_
          refine mm_get (C := R_MO) (T := T_MO) (N := 22) (v := .int (I 4)) S hK.1 hw hP.2.1 rfl in_MO 4 (by decide) gw_374 rfl rfl d_MO_dump_25 ?_
          refine lv_icmp_ge (tgt := 76) S.1 S.2.1 d_MO_dump_28 (by decide) (fun c28 => ?_) (fun c28 => absurd (by rw [hnd]; exact nI_le (by omega) (by omega)) c28)
          refine lv_iconst (v := (-1)) S.1 S.2.1 d_MO_dump_76 (by decide) ?_
          exact mm_reti S.1 S.2.1 hr hlocks hA hQ hw (md_done hP (hS.trans (by rw [hs]; rfl))) (Nat.le_of_ble_eq_true rfl) (Nat.le_of_ble_eq_true rfl) d_MO_dump_77
        | succ mm ih =>
          intro d n ls hd hs hl
          refine lv_iload S.1 S.2.1 d_MO_dump_22 (lv_at hl 5 rfl) ?_
          refine lv_aload_n S.1 S.2.1 d_MO_dump_24 rfl (lv_at hl 0 rfl) ?_
          refine mm_get (C := R_MO) (T := T_MO) (N := 22) (v := .int (I 4)) S hK.1 hw hP.2.1 rfl in_MO 4 (by decide) gw_374 rfl rfl d_MO_dump_25 ?_
          refine lv_icmp_ge (tgt := 76) S.1 S.2.1 d_MO_dump_28 (by decide) (fun c28 => absurd (by rw [hnd] at c28; exact c28) (nI_ge (by omega) (by omega))) (fun c28 => ?_)
          refine lv_aload_n S.1 S.2.1 d_MO_dump_31 rfl (lv_at hl 0 rfl) ?_
          refine mm_get (C := R_MO) (T := T_MO) (N := 22) (v := .ref (g 15)) S hK.1 hw hP.2.1 rfl in_MO 21 (by decide) gw_391 rfl rfl d_MO_dump_32 ?_
          refine lv_iconst (v := 5) S.1 S.2.1 d_MO_dump_35 (by decide) ?_
          refine lv_iload S.1 S.2.1 d_MO_dump_36 (lv_at hl 5 rfl) ?_
          refine lv_imul S.1 S.2.1 d_MO_dump_38 ?_
          refine mn_iald (j := 5 * d) (n := 250) (f := F 15) S hK.1 hw 0 (mP_a (k := 15) (F := F) hP (by decide) (by decide)) rfl (by rw [show (5 : Int32) = nI 5 from rfl, pk_mul]) (by omega) (by decide) d_MO_dump_39 ?_
          refine lv_iload_n S.1 S.2.1 d_MO_dump_40 rfl (lv_at hl 1 rfl) ?_
          refine lv_icmp_eq (tgt := 47) S.1 S.2.1 d_MO_dump_41 (by decide) (fun c41 => ?_) (fun c41 => ?_)
          · refine lv_iload S.1 S.2.1 d_MO_dump_47 (lv_at hl 4 rfl) ?_
            refine lv_iload_n S.1 S.2.1 d_MO_dump_49 rfl (lv_at hl 2 rfl) ?_
            refine lv_icmp_ne (tgt := 67) S.1 S.2.1 d_MO_dump_50 (by decide) (fun c50 => ?_) (fun c50 => ?_)
            · refine lv_iinc (v := (n + 1)) (lv' := [(4, .int (n + 1)), (0, .ref x), (1, .int t), (2, .int i), (3, .int w), (5, .int (nI d))]) S.1 S.2.1 d_MO_dump_67 hl (k := 4) rfl (rfl) (by decide) rfl (fun ls hl => ?_)
              refine lv_iinc (v := (nI (d + 1))) (lv' := [(5, .int (nI (d + 1))), (4, .int (n + 1)), (0, .ref x), (1, .int t), (2, .int i), (3, .int w)]) S.1 S.2.1 d_MO_dump_70 hl (k := 5) rfl (nI_1 d) (by decide) rfl (fun ls hl => ?_)
              refine lv_goto (tgt := 22) S.1 S.2.1 d_MO_dump_73 (by decide) ?_
              exact ih (d + 1) ((n + 1)) ls (by omega) (hs.trans (by simp only [du_f, eq_true c41, eq_false c50, ↓reduceIte])) (lv_sub hl [2, 3, 4, 5, 1, 0] rfl)
            · refine lv_aload_n S.1 S.2.1 d_MO_dump_53 rfl (lv_at hl 0 rfl) ?_
              refine mm_get (C := R_MO) (T := T_MO) (N := 22) (v := .ref (g 15)) S hK.1 hw hP.2.1 rfl in_MO 21 (by decide) gw_391 rfl rfl d_MO_dump_54 ?_
              refine lv_iconst (v := 5) S.1 S.2.1 d_MO_dump_57 (by decide) ?_
              refine lv_iload S.1 S.2.1 d_MO_dump_58 (lv_at hl 5 rfl) ?_
              refine lv_imul S.1 S.2.1 d_MO_dump_60 ?_
              refine lv_iconst (v := 1) S.1 S.2.1 d_MO_dump_61 (by decide) ?_
              refine lv_iadd S.1 S.2.1 d_MO_dump_62 ?_
              refine lv_iload_n S.1 S.2.1 d_MO_dump_63 rfl (lv_at hl 3 rfl) ?_
              refine lv_iadd S.1 S.2.1 d_MO_dump_64 ?_
              refine mn_iald (j := 5 * d + 1 + cN w) (n := 250) (f := F 15) S hK.1 hw 0 (mP_a (k := 15) (F := F) hP (by decide) (by decide)) rfl (by rw [show (5 : Int32) = nI 5 from rfl, pk_mul, nI_1]; exact (congrArg (fun q => nI (5 * d + 1) + q) (cl_nI c6)).trans (nI_add _ _)) (by have := cN_le3 c6 c11; omega) (by decide) d_MO_dump_65 ?_
              exact mm_reti S.1 S.2.1 hr hlocks hA hQ hw (md_done hP (hS.trans (by rw [hs]; simp only [du_f, eq_true c41, eq_true c50, ↓reduceIte]))) (Nat.le_of_ble_eq_true rfl) (Nat.le_of_ble_eq_true rfl) d_MO_dump_66
          · refine lv_goto (tgt := 70) S.1 S.2.1 d_MO_dump_44 (by decide) ?_
            refine lv_iinc (v := (nI (d + 1))) (lv' := [(5, .int (nI (d + 1))), (0, .ref x), (1, .int t), (2, .int i), (3, .int w), (4, .int n)]) S.1 S.2.1 d_MO_dump_70 hl (k := 5) rfl (nI_1 d) (by decide) rfl (fun ls hl => ?_)
            refine lv_goto (tgt := 22) S.1 S.2.1 d_MO_dump_73 (by decide) ?_
            exact ih (d + 1) (n) ls (by omega) (hs.trans (by simp only [du_f, eq_false c41, ↓reduceIte])) (lv_sub hl [1, 2, 3, 4, 5, 0] rfl)
      exact L nd 0 0 ls (by omega) rfl (lv_sub hl [2, 3, 4, 5, 1, 0] rfl)
    · refine lv_iconst (v := (-1)) S.1 S.2.1 d_MO_dump_14 (by decide) ?_
      exact mm_reti S.1 S.2.1 hr hlocks hA hQ hw (md_done hP (show sp_dump t i w I F st = ((-1), (upd I 0 (0)), F, st) by simp only [sp_dump, eq_false c6, eq_false c11, not_true_eq_false, not_false_eq_true, and_true, true_and, and_false, false_and, and_self, or_true, true_or, or_false, false_or, or_self, ↓reduceIte])) (Nat.le_of_ble_eq_true rfl) (Nat.le_of_ble_eq_true rfl) d_MO_dump_15
