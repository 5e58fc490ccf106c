theorem lgc_ge {x y : Int64} : 0 ≤ lg_cmp x y ↔ ¬ x < y := by
  unfold lg_cmp
  have h0 : (0 : Int32) ≤ 1 := by decide
  have h1 : (0 : Int32) ≤ 0 := by decide
  have h2 : ¬ (0 : Int32) ≤ -1 := by decide
  by_cases a : y < x
  · simp only [a, if_true, h0, true_iff]
    rw [Int64.lt_iff_toInt_lt] at a ⊢
    omega
  · by_cases b : x = y
    · subst b
      simp only [a, if_false, if_true, h1, not_false_eq_true]
    · simp only [a, b, if_false, h2, false_iff, Classical.not_not]
      rw [Int64.lt_iff_toInt_lt] at a ⊢
      have : x.toInt ≠ y.toInt := fun q => b (Int64.toInt_inj.mp q)
      omega
theorem lgc_gt {x y : Int64} : 0 < lg_cmp x y ↔ y < x := by
  unfold lg_cmp
  have h0 : (0 : Int32) < 1 := by decide
  have h1 : ¬ (0 : Int32) < 0 := by decide
  have h2 : ¬ (0 : Int32) < -1 := by decide
  by_cases a : y < x
  · simp only [a, if_true, h0]
  · by_cases b : x = y
    · subst b
      simp only [a, if_false, if_true, h1]
    · simp only [a, b, if_false, h2]
theorem lgc_le {x y : Int64} : lg_cmp x y ≤ 0 ↔ ¬ y < x := by
  unfold lg_cmp
  have h0 : ¬ (1 : Int32) ≤ 0 := by decide
  have h1 : (0 : Int32) ≤ 0 := by decide
  have h2 : (-1 : Int32) ≤ 0 := by decide
  by_cases a : y < x
  · simp only [a, if_true, h0, not_true_eq_false]
  · by_cases b : x = y
    · subst b
      simp only [a, if_false, if_true, h1, not_false_eq_true]
    · simp only [a, b, if_false, h2, not_false_eq_true]
theorem cN_lt {i : Int32} {n : Nat} (h0 : ¬ i < 0) (h : ¬ nI n ≤ i) (hn : n < 2 ^ 31) : cN i < n := by
  obtain ⟨j, hj, rfl⟩ := nI_of h0
  rw [cN, nI_clamp hj]
  exact Nat.not_le.mp (fun q => h ((nI_leI hn hj).mpr q))

theorem d_MO_exit_0 : decode b_MO_exit 0 = .ok (.aload_n 0, 1) := by decide +kernel
theorem d_MO_exit_1 : decode b_MO_exit 1 = .ok (.iconst 0, 1) := by decide +kernel
theorem d_MO_exit_2 : decode b_MO_exit 2 = .ok (.putfield 60, 3) := by decide +kernel
theorem d_MO_exit_5 : decode b_MO_exit 5 = .ok (.aload_n 0, 1) := by decide +kernel
theorem d_MO_exit_6 : decode b_MO_exit 6 = .ok (.iload_n 1, 1) := by decide +kernel
theorem d_MO_exit_7 : decode b_MO_exit 7 = .ok (.invokevirtual 67, 3) := by decide +kernel
theorem d_MO_exit_10 : decode b_MO_exit 10 = .ok (.ifCond .ne 6, 3) := by decide +kernel
theorem d_MO_exit_13 : decode b_MO_exit 13 = .ok (.bipush (-2), 2) := by decide +kernel
theorem d_MO_exit_15 : decode b_MO_exit 15 = .ok (.ireturn, 1) := by decide +kernel
theorem d_MO_exit_16 : decode b_MO_exit 16 = .ok (.iload_n 2, 1) := by decide +kernel
theorem d_MO_exit_17 : decode b_MO_exit 17 = .ok (.ifCond .lt 8, 3) := by decide +kernel
theorem d_MO_exit_20 : decode b_MO_exit 20 = .ok (.iload_n 2, 1) := by decide +kernel
theorem d_MO_exit_21 : decode b_MO_exit 21 = .ok (.iconst 3, 1) := by decide +kernel
theorem d_MO_exit_22 : decode b_MO_exit 22 = .ok (.if_icmp .le 6, 3) := by decide +kernel
theorem d_MO_exit_25 : decode b_MO_exit 25 = .ok (.bipush (-4), 2) := by decide +kernel
theorem d_MO_exit_27 : decode b_MO_exit 27 = .ok (.ireturn, 1) := by decide +kernel
theorem d_MO_exit_28 : decode b_MO_exit 28 = .ok (.aload_n 0, 1) := by decide +kernel
theorem d_MO_exit_29 : decode b_MO_exit 29 = .ok (.getfield 16, 3) := by decide +kernel
theorem d_MO_exit_32 : decode b_MO_exit 32 = .ok (.iload_n 1, 1) := by decide +kernel
theorem d_MO_exit_33 : decode b_MO_exit 33 = .ok (.iaload, 1) := by decide +kernel
theorem d_MO_exit_34 : decode b_MO_exit 34 = .ok (.bipush 10, 2) := by decide +kernel
theorem d_MO_exit_36 : decode b_MO_exit 36 = .ok (.if_icmp .eq 13, 3) := by decide +kernel
theorem d_MO_exit_39 : decode b_MO_exit 39 = .ok (.aload_n 0, 1) := by decide +kernel
theorem d_MO_exit_40 : decode b_MO_exit 40 = .ok (.getfield 71, 3) := by decide +kernel
theorem d_MO_exit_43 : decode b_MO_exit 43 = .ok (.sipush 300, 3) := by decide +kernel
theorem d_MO_exit_46 : decode b_MO_exit 46 = .ok (.if_icmp .ne 5, 3) := by decide +kernel
theorem d_MO_exit_49 : decode b_MO_exit 49 = .ok (.iconst (-1), 1) := by decide +kernel
theorem d_MO_exit_50 : decode b_MO_exit 50 = .ok (.ireturn, 1) := by decide +kernel
theorem d_MO_exit_51 : decode b_MO_exit 51 = .ok (.aload_n 0, 1) := by decide +kernel
theorem d_MO_exit_52 : decode b_MO_exit 52 = .ok (.dup, 1) := by decide +kernel
theorem d_MO_exit_53 : decode b_MO_exit 53 = .ok (.getfield 71, 3) := by decide +kernel
theorem d_MO_exit_56 : decode b_MO_exit 56 = .ok (.iconst 1, 1) := by decide +kernel
theorem d_MO_exit_57 : decode b_MO_exit 57 = .ok (.iadd, 1) := by decide +kernel
theorem d_MO_exit_58 : decode b_MO_exit 58 = .ok (.putfield 71, 3) := by decide +kernel
theorem d_MO_exit_61 : decode b_MO_exit 61 = .ok (.aload_n 0, 1) := by decide +kernel
theorem d_MO_exit_62 : decode b_MO_exit 62 = .ok (.getfield 22, 3) := by decide +kernel
theorem d_MO_exit_65 : decode b_MO_exit 65 = .ok (.aload_n 0, 1) := by decide +kernel
theorem d_MO_exit_66 : decode b_MO_exit 66 = .ok (.getfield 71, 3) := by decide +kernel
theorem d_MO_exit_69 : decode b_MO_exit 69 = .ok (.iload_n 2, 1) := by decide +kernel
theorem d_MO_exit_70 : decode b_MO_exit 70 = .ok (.iastore, 1) := by decide +kernel
theorem d_MO_exit_71 : decode b_MO_exit 71 = .ok (.aload_n 0, 1) := by decide +kernel
theorem d_MO_exit_72 : decode b_MO_exit 72 = .ok (.getfield 28, 3) := by decide +kernel
theorem d_MO_exit_75 : decode b_MO_exit 75 = .ok (.aload_n 0, 1) := by decide +kernel
theorem d_MO_exit_76 : decode b_MO_exit 76 = .ok (.getfield 71, 3) := by decide +kernel
theorem d_MO_exit_79 : decode b_MO_exit 79 = .ok (.iload_n 3, 1) := by decide +kernel
theorem d_MO_exit_80 : decode b_MO_exit 80 = .ok (.bastore, 1) := by decide +kernel
theorem d_MO_exit_81 : decode b_MO_exit 81 = .ok (.aload_n 0, 1) := by decide +kernel
theorem d_MO_exit_82 : decode b_MO_exit 82 = .ok (.getfield 19, 3) := by decide +kernel
theorem d_MO_exit_85 : decode b_MO_exit 85 = .ok (.bipush 10, 2) := by decide +kernel
theorem d_MO_exit_87 : decode b_MO_exit 87 = .ok (.iload_n 1, 1) := by decide +kernel
theorem d_MO_exit_88 : decode b_MO_exit 88 = .ok (.imul, 1) := by decide +kernel
theorem d_MO_exit_89 : decode b_MO_exit 89 = .ok (.aload_n 0, 1) := by decide +kernel
theorem d_MO_exit_90 : decode b_MO_exit 90 = .ok (.getfield 16, 3) := by decide +kernel
theorem d_MO_exit_93 : decode b_MO_exit 93 = .ok (.iload_n 1, 1) := by decide +kernel
theorem d_MO_exit_94 : decode b_MO_exit 94 = .ok (.iaload, 1) := by decide +kernel
theorem d_MO_exit_95 : decode b_MO_exit 95 = .ok (.iadd, 1) := by decide +kernel
theorem d_MO_exit_96 : decode b_MO_exit 96 = .ok (.aload_n 0, 1) := by decide +kernel
theorem d_MO_exit_97 : decode b_MO_exit 97 = .ok (.getfield 71, 3) := by decide +kernel
theorem d_MO_exit_100 : decode b_MO_exit 100 = .ok (.iastore, 1) := by decide +kernel
theorem d_MO_exit_101 : decode b_MO_exit 101 = .ok (.aload_n 0, 1) := by decide +kernel
theorem d_MO_exit_102 : decode b_MO_exit 102 = .ok (.getfield 16, 3) := by decide +kernel
theorem d_MO_exit_105 : decode b_MO_exit 105 = .ok (.iload_n 1, 1) := by decide +kernel
theorem d_MO_exit_106 : decode b_MO_exit 106 = .ok (.dup2, 1) := by decide +kernel
theorem d_MO_exit_107 : decode b_MO_exit 107 = .ok (.iaload, 1) := by decide +kernel
theorem d_MO_exit_108 : decode b_MO_exit 108 = .ok (.iconst 1, 1) := by decide +kernel
theorem d_MO_exit_109 : decode b_MO_exit 109 = .ok (.iadd, 1) := by decide +kernel
theorem d_MO_exit_110 : decode b_MO_exit 110 = .ok (.iastore, 1) := by decide +kernel
theorem d_MO_exit_111 : decode b_MO_exit 111 = .ok (.aload_n 0, 1) := by decide +kernel
theorem d_MO_exit_112 : decode b_MO_exit 112 = .ok (.getfield 71, 3) := by decide +kernel
theorem d_MO_exit_115 : decode b_MO_exit 115 = .ok (.ireturn, 1) := by decide +kernel
set_option maxHeartbeats 4000000 in
set_option maxRecDepth 100000 in
theorem c_MO_exit (l : Launch) (D : va_G) (dA : Nat → ClassId) (M : mm_M) (x : Nat) (g : Nat → Nat) (I : sI) (F : sF) (st : sT) (k d z : Int32) (n ne : Nat) (hn : I 1 = nI n) (hN : n ≤ 100) (hne : I 2 = nI ne) (hNE : ne ≤ 300) (hz : ∀ j, 1 ≤ j → j ≤ n → ∃ z, F 2 j = nI z ∧ z ≤ 10) (hb : z = 0 ∨ z = 1) (hP : mP dA M x g I F st) : mm_Ci l y_MO_exit w_MO_exit ({ frames := 1, cells := 0, slots := 0, locals := 21 }) 0 0 D vC (tyL dA) [.ref x, .int k, .int d, .int z] M (md_post dA x g (sp_exit k d z I F st)) := by
  intro sz
  refine mm_start (by decide) (Nat.le_of_ble_eq_true rfl) ?_
  intro p e s m below meth c A Q ls hA hQ S hr hlocks hin hK hw hl
  have hl : lv_has ls 4 [(0, .ref x), (1, .int k), (2, .int d), (3, .int z)] := hl
  refine lv_aload_n S.1 S.2.1 d_MO_exit_0 rfl (lv_at hl 0 rfl) ?_
  refine lv_iconst (v := 0) S.1 S.2.1 d_MO_exit_1 (by decide) ?_
  refine mm_put (C := R_MO) (T := T_MO) (N := 22) (ty := .int) (v := .int 0) S hK.1 hw hP.2.1 rfl in_MO t_MO k_MO n_MO 0 (by decide) gw_370 rfl rfl (by decide +kernel) rfl rfl (Nat.le_of_ble_eq_true rfl) d_MO_exit_2 (fun H locs hw => ?_)
  obtain ⟨M, hw, hP⟩ := md_puti (k := 0) (v := 0) (by decide) hw hP
  refine lv_aload_n S.1 S.2.1 d_MO_exit_5 rfl (lv_at hl 0 rfl) ?_
  refine lv_iload_n S.1 S.2.1 d_MO_exit_6 rfl (lv_at hl 1 rfl) ?_
  refine mm_calli hw (mm_runV (a := x) (As := [.int k]) (rest := []) S hK hw (c_MO_isLevel l D dA _ x g (upd I 0 (0)) F st k hP _) bv_MO_isLevel gw_442 hP.2.1 rfl (⟨rfl, rfl, by decide, by decide, by decide, by decide⟩) hl.1 rfl rfl (Nat.le_of_ble_eq_true rfl) d_MO_exit_7) (fun r1 M2 H locs hp hw => ?_)
  rw [hp.1] at hw
  rcases hp.2 with ⟨rfl, hc3⟩ | ⟨rfl, hc3⟩
  · have hc3 : is_ok (I 1) (k) := hc3
    obtain ⟨j4, ekj4, hlj4, hhj4, enj4⟩ := is_of (N := n) hn (by omega) hc3
    refine lv_if_ne (tgt := 16) S.1 S.2.1 d_MO_exit_10 (by decide) (fun c10 => ?_) (fun c10 => absurd c10 (by decide))
    refine lv_iload_n S.1 S.2.1 d_MO_exit_16 rfl (lv_at hl 2 rfl) ?_
    refine lv_if_lt (tgt := 25) S.1 S.2.1 d_MO_exit_17 (by decide) (fun c17 => ?_) (fun c17 => ?_)
    · refine lv_bipush (v := (-4)) S.1 S.2.1 d_MO_exit_25 (by decide) ?_
      exact mm_reti S.1 S.2.1 hr hlocks hA hQ hw (md_done hP (show sp_exit k d z I F st = ((-4), (upd I 0 (0)), F, st) by simp only [sp_exit, eq_false c10, eq_true c17, eq_true hc3, not_true_eq_false, not_false_eq_true, and_true, true_and, and_false, false_and, and_self, or_true, true_or, or_false, false_or, or_self, ↓reduceIte])) (Nat.le_of_ble_eq_true rfl) (Nat.le_of_ble_eq_true rfl) d_MO_exit_27
    · refine lv_iload_n S.1 S.2.1 d_MO_exit_20 rfl (lv_at hl 2 rfl) ?_
      refine lv_iconst (v := 3) S.1 S.2.1 d_MO_exit_21 (by decide) ?_
      refine lv_icmp_le (tgt := 28) S.1 S.2.1 d_MO_exit_22 (by decide) (fun c22 => ?_) (fun c22 => ?_)
      · refine lv_aload_n S.1 S.2.1 d_MO_exit_28 rfl (lv_at hl 0 rfl) ?_
        refine mm_get (C := R_MO) (T := T_MO) (N := 22) (v := .ref (g 2)) S hK.1 hw hP.2.1 rfl in_MO 8 (by decide) gw_378 rfl rfl d_MO_exit_29 ?_
        refine lv_iload_n S.1 S.2.1 d_MO_exit_32 rfl (lv_at hl 1 rfl) ?_
        obtain ⟨z0, ez0, hz0⟩ := hz (cN k) (by rw [cN, enj4]; exact hlj4) (by rw [cN, enj4]; exact hhj4)
        refine mn_iald (j := cN k) (n := 101) (f := F 2) S hK.1 hw 0 (mP_a (k := 2) (F := F) hP (by decide) (by decide)) rfl (cl_nI (is_le0 hc3.1)) (by rw [cN, enj4]; omega) (by decide) d_MO_exit_33 ?_
        refine lv_bipush (v := 10) S.1 S.2.1 d_MO_exit_34 (by decide) ?_
        refine lv_icmp_eq (tgt := 49) S.1 S.2.1 d_MO_exit_36 (by decide) (fun c36 => ?_) (fun c36 => ?_)
        · refine lv_iconst (v := (-1)) S.1 S.2.1 d_MO_exit_49 (by decide) ?_
          exact mm_reti S.1 S.2.1 hr hlocks hA hQ hw (md_done hP (show sp_exit k d z I F st = ((-1), (upd I 0 (0)), F, st) by simp only [sp_exit, eq_false c10, eq_false c17, eq_true c22, eq_true c36, eq_true hc3, not_true_eq_false, not_false_eq_true, and_true, true_and, and_false, false_and, and_self, or_true, true_or, or_false, false_or, or_self, ↓reduceIte])) (Nat.le_of_ble_eq_true rfl) (Nat.le_of_ble_eq_true rfl) d_MO_exit_50
        · refine lv_aload_n S.1 S.2.1 d_MO_exit_39 rfl (lv_at hl 0 rfl) ?_
          refine mm_get (C := R_MO) (T := T_MO) (N := 22) (v := .int (I 2)) S hK.1 hw hP.2.1 rfl in_MO 2 (by decide) gw_372 rfl rfl d_MO_exit_40 ?_
          refine lv_sipush (v := 300) S.1 S.2.1 d_MO_exit_43 (by decide) ?_
          refine lv_icmp_ne (tgt := 51) S.1 S.2.1 d_MO_exit_46 (by decide) (fun c46 => ?_) (fun c46 => ?_)
          · refine lv_aload_n S.1 S.2.1 d_MO_exit_51 rfl (lv_at hl 0 rfl) ?_
            refine lv_dup S.1 S.2.1 d_MO_exit_52 rfl ?_
            refine mm_get (C := R_MO) (T := T_MO) (N := 22) (v := .int (I 2)) S hK.1 hw hP.2.1 rfl in_MO 2 (by decide) gw_372 rfl rfl d_MO_exit_53 ?_
            refine lv_iconst (v := 1) S.1 S.2.1 d_MO_exit_56 (by decide) ?_
            refine lv_iadd S.1 S.2.1 d_MO_exit_57 ?_
            have hz1 : z0 < 10 := by
              rcases Nat.lt_or_ge z0 10 with q | q
              · exact q
              · exact absurd (by rw [ez0, show z0 = 10 by omega]; rfl) c36
            have hn1 : ne + 1 < 301 := by
              rcases Nat.lt_or_ge ne 300 with q | q
              · omega
              · exact absurd (by rw [hne, show ne = 300 by omega]; rfl) c46
            refine mm_put (C := R_MO) (T := T_MO) (N := 22) (ty := .int) (v := .int ((I 2) + 1)) S hK.1 hw hP.2.1 rfl in_MO t_MO k_MO n_MO 2 (by decide) gw_372 rfl rfl (by decide +kernel) rfl rfl (Nat.le_of_ble_eq_true rfl) d_MO_exit_58 (fun H locs hw => ?_)
            obtain ⟨M, hw, hP⟩ := md_puti (k := 2) (v := ((I 2) + 1)) (by decide) hw hP
            refine lv_aload_n S.1 S.2.1 d_MO_exit_61 rfl (lv_at hl 0 rfl) ?_
            refine mm_get (C := R_MO) (T := T_MO) (N := 22) (v := .ref (g 4)) S hK.1 hw hP.2.1 rfl in_MO 10 (by decide) gw_380 rfl rfl d_MO_exit_62 ?_
            refine lv_aload_n S.1 S.2.1 d_MO_exit_65 rfl (lv_at hl 0 rfl) ?_
            refine mm_get (C := R_MO) (T := T_MO) (N := 22) (v := .int (((I 2) + 1))) S hK.1 hw hP.2.1 rfl in_MO 2 (by decide) gw_372 rfl rfl d_MO_exit_66 ?_
            refine lv_iload_n S.1 S.2.1 d_MO_exit_69 rfl (lv_at hl 2 rfl) ?_
            refine mn_iast (j := cN (I 2 + 1)) (n := 301) (f := F 4) S hK.1 hw 0 (mP_a (k := 4) (F := F) hP (by decide) (by decide)) rfl (by rw [hne, cN_s (by omega)]; exact nI_1 ne) (by rw [hne, cN_s (by omega)]; omega) (by decide) d_MO_exit_70 (fun H locs hw => ?_)
            obtain ⟨M, hw, hP⟩ := md_ast (k := 4) (j := cN (I 2 + 1)) (v := d) (F := F) (by decide) (by decide) hw hP
            refine lv_aload_n S.1 S.2.1 d_MO_exit_71 rfl (lv_at hl 0 rfl) ?_
            refine mm_get (C := R_MO) (T := T_MO) (N := 22) (v := .ref (g 6)) S hK.1 hw hP.2.1 rfl in_MO 12 (by decide) gw_382 rfl rfl d_MO_exit_72 ?_
            refine lv_aload_n S.1 S.2.1 d_MO_exit_75 rfl (lv_at hl 0 rfl) ?_
            refine mm_get (C := R_MO) (T := T_MO) (N := 22) (v := .int (((I 2) + 1))) S hK.1 hw hP.2.1 rfl in_MO 2 (by decide) gw_372 rfl rfl d_MO_exit_76 ?_
            refine lv_iload_n S.1 S.2.1 d_MO_exit_79 rfl (lv_at hl 3 rfl) ?_
            refine mn_zast (j := cN (I 2 + 1)) (n := 301) (f := F 6) S hK.1 hw 2 (mP_a (k := 6) (F := (va_up F 4 (upd (F 4) (cN (I 2 + 1)) (d)))) hP (by decide) (by decide)) rfl (by rw [hne, cN_s (by omega)]; exact nI_1 ne) (by rw [hne, cN_s (by omega)]; omega) (by decide) (mz_nar2 (hb)) d_MO_exit_80 (fun H locs hw => ?_)
            obtain ⟨M, hw, hP⟩ := md_ast (k := 6) (j := cN (I 2 + 1)) (v := z) (F := (va_up F 4 (upd (F 4) (cN (I 2 + 1)) (d)))) (by decide) (by decide) hw hP
            refine lv_aload_n S.1 S.2.1 d_MO_exit_81 rfl (lv_at hl 0 rfl) ?_
            refine mm_get (C := R_MO) (T := T_MO) (N := 22) (v := .ref (g 3)) S hK.1 hw hP.2.1 rfl in_MO 9 (by decide) gw_379 rfl rfl d_MO_exit_82 ?_
            refine lv_bipush (v := 10) S.1 S.2.1 d_MO_exit_85 (by decide) ?_
            refine lv_iload_n S.1 S.2.1 d_MO_exit_87 rfl (lv_at hl 1 rfl) ?_
            refine lv_imul S.1 S.2.1 d_MO_exit_88 ?_
            refine lv_aload_n S.1 S.2.1 d_MO_exit_89 rfl (lv_at hl 0 rfl) ?_
            refine mm_get (C := R_MO) (T := T_MO) (N := 22) (v := .ref (g 2)) S hK.1 hw hP.2.1 rfl in_MO 8 (by decide) gw_378 rfl rfl d_MO_exit_90 ?_
            refine lv_iload_n S.1 S.2.1 d_MO_exit_93 rfl (lv_at hl 1 rfl) ?_
            refine mn_iald (j := cN k) (n := 101) (f := F 2) S hK.1 hw 0 (mP_a (k := 2) (F := (va_up (va_up F 4 (upd (F 4) (cN (I 2 + 1)) (d))) 6 (upd (F 6) (cN (I 2 + 1)) (z)))) hP (by decide) (by decide)) rfl (cl_nI (is_le0 hc3.1)) (by rw [cN, enj4]; omega) (by decide) d_MO_exit_94 ?_
            refine lv_iadd S.1 S.2.1 d_MO_exit_95 ?_
            refine lv_aload_n S.1 S.2.1 d_MO_exit_96 rfl (lv_at hl 0 rfl) ?_
            refine mm_get (C := R_MO) (T := T_MO) (N := 22) (v := .int (((I 2) + 1))) S hK.1 hw hP.2.1 rfl in_MO 2 (by decide) gw_372 rfl rfl d_MO_exit_97 ?_
            refine mn_iast (j := 10 * cN k + cN (F 2 (cN k))) (n := 1010) (f := F 3) S hK.1 hw 0 (mP_a (k := 3) (F := (va_up (va_up F 4 (upd (F 4) (cN (I 2 + 1)) (d))) 6 (upd (F 6) (cN (I 2 + 1)) (z)))) hP (by decide) (by decide)) rfl (by rw [ez0, cN, cN, enj4, ekj4, nI_clamp (by omega), show (10 : Int32) = nI 10 from rfl, pk_mul, nI_add]) (by rw [ez0, cN, cN, enj4, nI_clamp (by omega)]; omega) (by decide) d_MO_exit_100 (fun H locs hw => ?_)
            obtain ⟨M, hw, hP⟩ := md_ast (k := 3) (j := 10 * cN k + cN (F 2 (cN k))) (v := (((I 2) + 1))) (F := (va_up (va_up F 4 (upd (F 4) (cN (I 2 + 1)) (d))) 6 (upd (F 6) (cN (I 2 + 1)) (z)))) (by decide) (by decide) hw hP
            refine lv_aload_n S.1 S.2.1 d_MO_exit_101 rfl (lv_at hl 0 rfl) ?_
            refine mm_get (C := R_MO) (T := T_MO) (N := 22) (v := .ref (g 2)) S hK.1 hw hP.2.1 rfl in_MO 8 (by decide) gw_378 rfl rfl d_MO_exit_102 ?_
            refine lv_iload_n S.1 S.2.1 d_MO_exit_105 rfl (lv_at hl 1 rfl) ?_
            refine lv_dup2_11 S.1 S.2.1 d_MO_exit_106 rfl rfl ?_
            refine mn_iald (j := cN k) (n := 101) (f := F 2) S hK.1 hw 0 (mP_a (k := 2) (F := (va_up (va_up (va_up F 4 (upd (F 4) (cN (I 2 + 1)) (d))) 6 (upd (F 6) (cN (I 2 + 1)) (z))) 3 (upd (F 3) (10 * cN k + cN (F 2 (cN k))) ((((I 2) + 1)))))) hP (by decide) (by decide)) rfl (cl_nI (is_le0 hc3.1)) (by rw [cN, enj4]; omega) (by decide) d_MO_exit_107 ?_
            refine lv_iconst (v := 1) S.1 S.2.1 d_MO_exit_108 (by decide) ?_
            refine lv_iadd S.1 S.2.1 d_MO_exit_109 ?_
            refine mn_iast (j := cN k) (n := 101) (f := F 2) S hK.1 hw 0 (mP_a (k := 2) (F := (va_up (va_up (va_up F 4 (upd (F 4) (cN (I 2 + 1)) (d))) 6 (upd (F 6) (cN (I 2 + 1)) (z))) 3 (upd (F 3) (10 * cN k + cN (F 2 (cN k))) ((((I 2) + 1)))))) hP (by decide) (by decide)) rfl (cl_nI (is_le0 hc3.1)) (by rw [cN, enj4]; omega) (by decide) d_MO_exit_110 (fun H locs hw => ?_)
            obtain ⟨M, hw, hP⟩ := md_ast (k := 2) (j := cN k) (v := ((F 2 (cN k)) + 1)) (F := (va_up (va_up (va_up F 4 (upd (F 4) (cN (I 2 + 1)) (d))) 6 (upd (F 6) (cN (I 2 + 1)) (z))) 3 (upd (F 3) (10 * cN k + cN (F 2 (cN k))) ((((I 2) + 1)))))) (by decide) (by decide) hw hP
            refine lv_aload_n S.1 S.2.1 d_MO_exit_111 rfl (lv_at hl 0 rfl) ?_
            refine mm_get (C := R_MO) (T := T_MO) (N := 22) (v := .int (((I 2) + 1))) S hK.1 hw hP.2.1 rfl in_MO 2 (by decide) gw_372 rfl rfl d_MO_exit_112 ?_
            exact mm_reti S.1 S.2.1 hr hlocks hA hQ hw (md_done hP (show sp_exit k d z I F st = ((((I 2) + 1)), (upd (upd I 0 (0)) 2 (((I 2) + 1))), (va_up (va_up (va_up (va_up F 4 (upd (F 4) (cN (I 2 + 1)) (d))) 6 (upd (F 6) (cN (I 2 + 1)) (z))) 3 (upd (F 3) (10 * cN k + cN (F 2 (cN k))) ((((I 2) + 1))))) 2 (upd (F 2) (cN k) (((F 2 (cN k)) + 1)))), st) by simp only [sp_exit, eq_false c10, eq_false c17, eq_true c22, eq_false c36, eq_false c46, eq_true hc3, not_true_eq_false, not_false_eq_true, and_true, true_and, and_false, false_and, and_self, or_true, true_or, or_false, false_or, or_self, ↓reduceIte])) (Nat.le_of_ble_eq_true rfl) (Nat.le_of_ble_eq_true rfl) d_MO_exit_115
          · refine lv_iconst (v := (-1)) S.1 S.2.1 d_MO_exit_49 (by decide) ?_
            exact mm_reti S.1 S.2.1 hr hlocks hA hQ hw (md_done hP (show sp_exit k d z I F st = ((-1), (upd I 0 (0)), F, st) by simp only [sp_exit, eq_false c10, eq_false c17, eq_true c22, eq_false c36, eq_true c46, eq_true hc3, not_true_eq_false, not_false_eq_true, and_true, true_and, and_false, false_and, and_self, or_true, true_or, or_false, false_or, or_self, ↓reduceIte])) (Nat.le_of_ble_eq_true rfl) (Nat.le_of_ble_eq_true rfl) d_MO_exit_50
      · refine lv_bipush (v := (-4)) S.1 S.2.1 d_MO_exit_25 (by decide) ?_
        exact mm_reti S.1 S.2.1 hr hlocks hA hQ hw (md_done hP (show sp_exit k d z I F st = ((-4), (upd I 0 (0)), F, st) by simp only [sp_exit, eq_false c10, eq_false c17, eq_false c22, eq_true hc3, not_true_eq_false, not_false_eq_true, and_true, true_and, and_false, false_and, and_self, or_true, true_or, or_false, false_or, or_self, ↓reduceIte])) (Nat.le_of_ble_eq_true rfl) (Nat.le_of_ble_eq_true rfl) d_MO_exit_27
  · have hc3 : ¬ is_ok (I 1) (k) := hc3
    refine lv_if_ne (tgt := 16) S.1 S.2.1 d_MO_exit_10 (by decide) (fun c10 => absurd c10 (by decide)) (fun c10 => ?_)
    refine lv_bipush (v := (-2)) S.1 S.2.1 d_MO_exit_13 (by decide) ?_
    exact mm_reti S.1 S.2.1 hr hlocks hA hQ hw (md_done hP (show sp_exit k d z I F st = ((-2), (upd I 0 (0)), F, st) by simp only [sp_exit, eq_true c10, eq_false hc3, not_true_eq_false, not_false_eq_true, and_true, true_and, and_false, false_and, and_self, or_true, true_or, or_false, false_or, or_self, ↓reduceIte])) (Nat.le_of_ble_eq_true rfl) (Nat.le_of_ble_eq_true rfl) d_MO_exit_15
theorem d_MO_cancel_0 : decode b_MO_cancel 0 = .ok (.aload_n 0, 1) := by decide +kernel
theorem d_MO_cancel_1 : decode b_MO_cancel 1 = .ok (.iconst 0, 1) := by decide +kernel
theorem d_MO_cancel_2 : decode b_MO_cancel 2 = .ok (.putfield 60, 3) := by decide +kernel
theorem d_MO_cancel_5 : decode b_MO_cancel 5 = .ok (.aload_n 0, 1) := by decide +kernel
theorem d_MO_cancel_6 : decode b_MO_cancel 6 = .ok (.iload_n 1, 1) := by decide +kernel
theorem d_MO_cancel_7 : decode b_MO_cancel 7 = .ok (.invokevirtual 67, 3) := by decide +kernel
theorem d_MO_cancel_10 : decode b_MO_cancel 10 = .ok (.ifCond .ne 6, 3) := by decide +kernel
theorem d_MO_cancel_13 : decode b_MO_cancel 13 = .ok (.bipush (-2), 2) := by decide +kernel
theorem d_MO_cancel_15 : decode b_MO_cancel 15 = .ok (.ireturn, 1) := by decide +kernel
theorem d_MO_cancel_16 : decode b_MO_cancel 16 = .ok (.aload_n 0, 1) := by decide +kernel
theorem d_MO_cancel_17 : decode b_MO_cancel 17 = .ok (.getfield 16, 3) := by decide +kernel
theorem d_MO_cancel_20 : decode b_MO_cancel 20 = .ok (.iload_n 1, 1) := by decide +kernel
theorem d_MO_cancel_21 : decode b_MO_cancel 21 = .ok (.iaload, 1) := by decide +kernel
theorem d_MO_cancel_22 : decode b_MO_cancel 22 = .ok (.ifCond .ne 5, 3) := by decide +kernel
theorem d_MO_cancel_25 : decode b_MO_cancel 25 = .ok (.iconst (-1), 1) := by decide +kernel
theorem d_MO_cancel_26 : decode b_MO_cancel 26 = .ok (.ireturn, 1) := by decide +kernel
theorem d_MO_cancel_27 : decode b_MO_cancel 27 = .ok (.aload_n 0, 1) := by decide +kernel
theorem d_MO_cancel_28 : decode b_MO_cancel 28 = .ok (.getfield 16, 3) := by decide +kernel
theorem d_MO_cancel_31 : decode b_MO_cancel 31 = .ok (.iload_n 1, 1) := by decide +kernel
theorem d_MO_cancel_32 : decode b_MO_cancel 32 = .ok (.dup2, 1) := by decide +kernel
theorem d_MO_cancel_33 : decode b_MO_cancel 33 = .ok (.iaload, 1) := by decide +kernel
theorem d_MO_cancel_34 : decode b_MO_cancel 34 = .ok (.iconst 1, 1) := by decide +kernel
theorem d_MO_cancel_35 : decode b_MO_cancel 35 = .ok (.isub, 1) := by decide +kernel
theorem d_MO_cancel_36 : decode b_MO_cancel 36 = .ok (.iastore, 1) := by decide +kernel
theorem d_MO_cancel_37 : decode b_MO_cancel 37 = .ok (.aload_n 0, 1) := by decide +kernel
theorem d_MO_cancel_38 : decode b_MO_cancel 38 = .ok (.getfield 16, 3) := by decide +kernel
theorem d_MO_cancel_41 : decode b_MO_cancel 41 = .ok (.iload_n 1, 1) := by decide +kernel
theorem d_MO_cancel_42 : decode b_MO_cancel 42 = .ok (.iaload, 1) := by decide +kernel
theorem d_MO_cancel_43 : decode b_MO_cancel 43 = .ok (.ireturn, 1) := by decide +kernel
set_option maxHeartbeats 4000000 in
set_option maxRecDepth 100000 in
theorem c_MO_cancel (l : Launch) (D : va_G) (dA : Nat → ClassId) (M : mm_M) (x : Nat) (g : Nat → Nat) (I : sI) (F : sF) (st : sT) (k : Int32) (n : Nat) (hn : I 1 = nI n) (hN : n ≤ 100) (hP : mP dA M x g I F st) : mm_Ci l y_MO_cancel w_MO_cancel ({ frames := 1, cells := 0, slots := 0, locals := 21 }) 0 0 D vC (tyL dA) [.ref x, .int k] M (md_post dA x g (sp_cancel k I F st)) := by
  intro sz
  refine mm_start (by decide) (Nat.le_of_ble_eq_true rfl) ?_
  intro p e s m below meth c A Q ls hA hQ S hr hlocks hin hK hw hl
  have hl : lv_has ls 2 [(0, .ref x), (1, .int k)] := hl
  refine lv_aload_n S.1 S.2.1 d_MO_cancel_0 rfl (lv_at hl 0 rfl) ?_
  refine lv_iconst (v := 0) S.1 S.2.1 d_MO_cancel_1 (by decide) ?_
  refine mm_put (C := R_MO) (T := T_MO) (N := 22) (ty := .int) (v := .int 0) S hK.1 hw hP.2.1 rfl in_MO t_MO k_MO n_MO 0 (by decide) gw_370 rfl rfl (by decide +kernel) rfl rfl (Nat.le_of_ble_eq_true rfl) d_MO_cancel_2 (fun H locs hw => ?_)
  obtain ⟨M, hw, hP⟩ := md_puti (k := 0) (v := 0) (by decide) hw hP
  refine lv_aload_n S.1 S.2.1 d_MO_cancel_5 rfl (lv_at hl 0 rfl) ?_
  refine lv_iload_n S.1 S.2.1 d_MO_cancel_6 rfl (lv_at hl 1 rfl) ?_
  refine mm_calli hw (mm_runV (a := x) (As := [.int k]) (rest := []) S hK hw (c_MO_isLevel l D dA _ x g (upd I 0 (0)) F st k hP _) bv_MO_isLevel gw_442 hP.2.1 rfl (⟨rfl, rfl, by decide, by decide, by decide, by decide⟩) hl.1 rfl rfl (Nat.le_of_ble_eq_true rfl) d_MO_cancel_7) (fun r1 M2 H locs hp hw => ?_)
  rw [hp.1] at hw
  rcases hp.2 with ⟨rfl, hc3⟩ | ⟨rfl, hc3⟩
  · have hc3 : is_ok (I 1) (k) := hc3
    obtain ⟨j4, ekj4, hlj4, hhj4, enj4⟩ := is_of (N := n) hn (by omega) hc3
    refine lv_if_ne (tgt := 16) S.1 S.2.1 d_MO_cancel_10 (by decide) (fun c10 => ?_) (fun c10 => absurd c10 (by decide))
    refine lv_aload_n S.1 S.2.1 d_MO_cancel_16 rfl (lv_at hl 0 rfl) ?_
    refine mm_get (C := R_MO) (T := T_MO) (N := 22) (v := .ref (g 2)) S hK.1 hw hP.2.1 rfl in_MO 8 (by decide) gw_378 rfl rfl d_MO_cancel_17 ?_
    refine lv_iload_n S.1 S.2.1 d_MO_cancel_20 rfl (lv_at hl 1 rfl) ?_
    refine mn_iald (j := cN k) (n := 101) (f := F 2) S hK.1 hw 0 (mP_a (k := 2) (F := F) hP (by decide) (by decide)) rfl (cl_nI (is_le0 hc3.1)) (by rw [cN, enj4]; omega) (by decide) d_MO_cancel_21 ?_
    refine lv_if_ne (tgt := 27) S.1 S.2.1 d_MO_cancel_22 (by decide) (fun c22 => ?_) (fun c22 => ?_)
    · refine lv_aload_n S.1 S.2.1 d_MO_cancel_27 rfl (lv_at hl 0 rfl) ?_
      refine mm_get (C := R_MO) (T := T_MO) (N := 22) (v := .ref (g 2)) S hK.1 hw hP.2.1 rfl in_MO 8 (by decide) gw_378 rfl rfl d_MO_cancel_28 ?_
      refine lv_iload_n S.1 S.2.1 d_MO_cancel_31 rfl (lv_at hl 1 rfl) ?_
      refine lv_dup2_11 S.1 S.2.1 d_MO_cancel_32 rfl rfl ?_
      refine mn_iald (j := cN k) (n := 101) (f := F 2) S hK.1 hw 0 (mP_a (k := 2) (F := F) hP (by decide) (by decide)) rfl (cl_nI (is_le0 hc3.1)) (by rw [cN, enj4]; omega) (by decide) d_MO_cancel_33 ?_
      refine lv_iconst (v := 1) S.1 S.2.1 d_MO_cancel_34 (by decide) ?_
      refine lv_isub S.1 S.2.1 d_MO_cancel_35 ?_
      refine mn_iast (j := cN k) (n := 101) (f := F 2) S hK.1 hw 0 (mP_a (k := 2) (F := F) hP (by decide) (by decide)) rfl (cl_nI (is_le0 hc3.1)) (by rw [cN, enj4]; omega) (by decide) d_MO_cancel_36 (fun H locs hw => ?_)
      obtain ⟨M, hw, hP⟩ := md_ast (k := 2) (j := cN k) (v := ((F 2 (cN k)) - 1)) (F := F) (by decide) (by decide) hw hP
      refine lv_aload_n S.1 S.2.1 d_MO_cancel_37 rfl (lv_at hl 0 rfl) ?_
      refine mm_get (C := R_MO) (T := T_MO) (N := 22) (v := .ref (g 2)) S hK.1 hw hP.2.1 rfl in_MO 8 (by decide) gw_378 rfl rfl d_MO_cancel_38 ?_
      refine lv_iload_n S.1 S.2.1 d_MO_cancel_41 rfl (lv_at hl 1 rfl) ?_
      refine mn_iald (j := cN k) (n := 101) (f := upd (F 2) (cN k) (((F 2 (cN k)) - 1))) S hK.1 hw 0 (mP_a (k := 2) (F := (va_up F 2 (upd (F 2) (cN k) (((F 2 (cN k)) - 1))))) hP (by decide) (by decide)) rfl (cl_nI (is_le0 hc3.1)) (by rw [cN, enj4]; omega) (by decide) d_MO_cancel_42 ?_
      rw [pk_us]
      exact mm_reti S.1 S.2.1 hr hlocks hA hQ hw (md_done hP (show sp_cancel k I F st = ((F 2 (cN k) - 1), (upd I 0 (0)), (va_up F 2 (upd (F 2) (cN k) (((F 2 (cN k)) - 1)))), st) by simp only [sp_cancel, eq_false c10, eq_false c22, eq_true hc3, not_true_eq_false, not_false_eq_true, and_true, true_and, and_false, false_and, and_self, or_true, true_or, or_false, false_or, or_self, ↓reduceIte])) (Nat.le_of_ble_eq_true rfl) (Nat.le_of_ble_eq_true rfl) d_MO_cancel_43
    · refine lv_iconst (v := (-1)) S.1 S.2.1 d_MO_cancel_25 (by decide) ?_
      exact mm_reti S.1 S.2.1 hr hlocks hA hQ hw (md_done hP (show sp_cancel k I F st = ((-1), (upd I 0 (0)), F, st) by simp only [sp_cancel, eq_false c10, eq_true c22, eq_true hc3, not_true_eq_false, not_false_eq_true, and_true, true_and, and_false, false_and, and_self, or_true, true_or, or_false, false_or, or_self, ↓reduceIte])) (Nat.le_of_ble_eq_true rfl) (Nat.le_of_ble_eq_true rfl) d_MO_cancel_26
  · have hc3 : ¬ is_ok (I 1) (k) := hc3
    refine lv_if_ne (tgt := 16) S.1 S.2.1 d_MO_cancel_10 (by decide) (fun c10 => absurd c10 (by decide)) (fun c10 => ?_)
    refine lv_bipush (v := (-2)) S.1 S.2.1 d_MO_cancel_13 (by decide) ?_
    exact mm_reti S.1 S.2.1 hr hlocks hA hQ hw (md_done hP (show sp_cancel k I F st = ((-2), (upd I 0 (0)), F, st) by simp only [sp_cancel, eq_true c10, eq_false hc3, not_true_eq_false, not_false_eq_true, and_true, true_and, and_false, false_and, and_self, or_true, true_or, or_false, false_or, or_self, ↓reduceIte])) (Nat.le_of_ble_eq_true rfl) (Nat.le_of_ble_eq_true rfl) d_MO_cancel_15
theorem d_MO_order_0 : decode b_MO_order 0 = .ok (.aload_n 0, 1) := by decide +kernel
theorem d_MO_order_1 : decode b_MO_order 1 = .ok (.iconst 0, 1) := by decide +kernel
theorem d_MO_order_2 : decode b_MO_order 2 = .ok (.putfield 60, 3) := by decide +kernel
theorem d_MO_order_5 : decode b_MO_order 5 = .ok (.iload_n 1, 1) := by decide +kernel
theorem d_MO_order_6 : decode b_MO_order 6 = .ok (.ifCond .lt 20, 3) := by decide +kernel
theorem d_MO_order_9 : decode b_MO_order 9 = .ok (.iload_n 1, 1) := by decide +kernel
theorem d_MO_order_10 : decode b_MO_order 10 = .ok (.aload_n 0, 1) := by decide +kernel
theorem d_MO_order_11 : decode b_MO_order 11 = .ok (.getfield 77, 3) := by decide +kernel
theorem d_MO_order_14 : decode b_MO_order 14 = .ok (.if_icmp .ge 12, 3) := by decide +kernel
theorem d_MO_order_17 : decode b_MO_order 17 = .ok (.aload_n 0, 1) := by decide +kernel
theorem d_MO_order_18 : decode b_MO_order 18 = .ok (.getfield 25, 3) := by decide +kernel
theorem d_MO_order_21 : decode b_MO_order 21 = .ok (.iload_n 1, 1) := by decide +kernel
theorem d_MO_order_22 : decode b_MO_order 22 = .ok (.iaload, 1) := by decide +kernel
theorem d_MO_order_23 : decode b_MO_order 23 = .ok (.goto 4, 3) := by decide +kernel
theorem d_MO_order_26 : decode b_MO_order 26 = .ok (.iconst 0, 1) := by decide +kernel
theorem d_MO_order_27 : decode b_MO_order 27 = .ok (.ireturn, 1) := by decide +kernel
set_option maxHeartbeats 4000000 in
set_option maxRecDepth 100000 in
theorem c_MO_order (l : Launch) (D : va_G) (dA : Nat → ClassId) (M : mm_M) (x : Nat) (g : Nat → Nat) (I : sI) (F : sF) (st : sT) (i : Int32) (na : Nat) (hna : I 5 = nI na) (hNA : na ≤ 300) (hP : mP dA M x g I F st) : mm_Ci l y_MO_order w_MO_order ({ frames := 0, cells := 0, slots := 0, locals := 0 }) 0 0 D vC (tyL dA) [.ref x, .int i] M (md_post dA x g (sp_order i I F st)) := by
  intro sz
  refine mm_start (by decide) (Nat.le_of_ble_eq_true rfl) ?_
  intro p e s m below meth c A Q ls hA hQ S hr hlocks hin hK hw hl
  have hl : lv_has ls 2 [(0, .ref x), (1, .int i)] := hl
  refine lv_aload_n S.1 S.2.1 d_MO_order_0 rfl (lv_at hl 0 rfl) ?_
  refine lv_iconst (v := 0) S.1 S.2.1 d_MO_order_1 (by decide) ?_
  refine mm_put (C := R_MO) (T := T_MO) (N := 22) (ty := .int) (v := .int 0) S hK.1 hw hP.2.1 rfl in_MO t_MO k_MO n_MO 0 (by decide) gw_370 rfl rfl (by decide +kernel) rfl rfl (Nat.le_of_ble_eq_true rfl) d_MO_order_2 (fun H locs hw => ?_)
  obtain ⟨M, hw, hP⟩ := md_puti (k := 0) (v := 0) (by decide) hw hP
  refine lv_iload_n S.1 S.2.1 d_MO_order_5 rfl (lv_at hl 1 rfl) ?_
  refine lv_if_lt (tgt := 26) S.1 S.2.1 d_MO_order_6 (by decide) (fun c6 => ?_) (fun c6 => ?_)
  · refine lv_iconst (v := 0) S.1 S.2.1 d_MO_order_26 (by decide) ?_
    exact mm_reti S.1 S.2.1 hr hlocks hA hQ hw (md_done hP (show sp_order i I F st = (0, (upd I 0 (0)), F, st) by simp only [sp_order, eq_true c6, not_true_eq_false, not_false_eq_true, and_true, true_and, and_false, false_and, and_self, or_true, true_or, or_false, false_or, or_self, ↓reduceIte])) (Nat.le_of_ble_eq_true rfl) (Nat.le_of_ble_eq_true rfl) d_MO_order_27
  · refine lv_iload_n S.1 S.2.1 d_MO_order_9 rfl (lv_at hl 1 rfl) ?_
    refine lv_aload_n S.1 S.2.1 d_MO_order_10 rfl (lv_at hl 0 rfl) ?_
    refine mm_get (C := R_MO) (T := T_MO) (N := 22) (v := .int (I 5)) S hK.1 hw hP.2.1 rfl in_MO 5 (by decide) gw_375 rfl rfl d_MO_order_11 ?_
    refine lv_icmp_ge (tgt := 26) S.1 S.2.1 d_MO_order_14 (by decide) (fun c14 => ?_) (fun c14 => ?_)
    · refine lv_iconst (v := 0) S.1 S.2.1 d_MO_order_26 (by decide) ?_
      exact mm_reti S.1 S.2.1 hr hlocks hA hQ hw (md_done hP (show sp_order i I F st = (0, (upd I 0 (0)), F, st) by simp only [sp_order, eq_false c6, eq_true c14, not_true_eq_false, not_false_eq_true, and_true, true_and, and_false, false_and, and_self, or_true, true_or, or_false, false_or, or_self, ↓reduceIte])) (Nat.le_of_ble_eq_true rfl) (Nat.le_of_ble_eq_true rfl) d_MO_order_27
    · refine lv_aload_n S.1 S.2.1 d_MO_order_17 rfl (lv_at hl 0 rfl) ?_
      refine mm_get (C := R_MO) (T := T_MO) (N := 22) (v := .ref (g 5)) S hK.1 hw hP.2.1 rfl in_MO 11 (by decide) gw_381 rfl rfl d_MO_order_18 ?_
      refine lv_iload_n S.1 S.2.1 d_MO_order_21 rfl (lv_at hl 1 rfl) ?_
      refine mn_iald (j := cN i) (n := 301) (f := F 5) S hK.1 hw 0 (mP_a (k := 5) (F := F) hP (by decide) (by decide)) rfl (cl_nI c6) (Nat.lt_of_lt_of_le (cN_lt (n := na) c6 (by rw [← hna]; exact c14) (by omega)) (by omega)) (by decide) d_MO_order_22 ?_
      refine lv_goto (tgt := 27) S.1 S.2.1 d_MO_order_23 (by decide) ?_
      exact mm_reti S.1 S.2.1 hr hlocks hA hQ hw (md_done hP (show sp_order i I F st = ((F 5 (cN i)), (upd I 0 (0)), F, st) by simp only [sp_order, eq_false c6, eq_false c14, not_true_eq_false, not_false_eq_true, and_true, true_and, and_false, false_and, and_self, or_true, true_or, or_false, false_or, or_self, ↓reduceIte])) (Nat.le_of_ble_eq_true rfl) (Nat.le_of_ble_eq_true rfl) d_MO_order_27
theorem d_MO_count_0 : decode b_MO_count 0 = .ok (.aload_n 0, 1) := by decide +kernel
theorem d_MO_count_1 : decode b_MO_count 1 = .ok (.iconst 0, 1) := by decide +kernel
theorem d_MO_count_2 : decode b_MO_count 2 = .ok (.putfield 60, 3) := by decide +kernel
theorem d_MO_count_5 : decode b_MO_count 5 = .ok (.iload_n 1, 1) := by decide +kernel
theorem d_MO_count_6 : decode b_MO_count 6 = .ok (.invokestatic 74, 3) := by decide +kernel
theorem d_MO_count_9 : decode b_MO_count 9 = .ok (.ifCond .eq 12, 3) := by decide +kernel
theorem d_MO_count_12 : decode b_MO_count 12 = .ok (.aload_n 0, 1) := by decide +kernel
theorem d_MO_count_13 : decode b_MO_count 13 = .ok (.getfield 35, 3) := by decide +kernel
theorem d_MO_count_16 : decode b_MO_count 16 = .ok (.iload_n 1, 1) := by decide +kernel
theorem d_MO_count_17 : decode b_MO_count 17 = .ok (.iaload, 1) := by decide +kernel
theorem d_MO_count_18 : decode b_MO_count 18 = .ok (.goto 4, 3) := by decide +kernel
theorem d_MO_count_21 : decode b_MO_count 21 = .ok (.iconst 0, 1) := by decide +kernel
theorem d_MO_count_22 : decode b_MO_count 22 = .ok (.ireturn, 1) := by decide +kernel
set_option maxHeartbeats 4000000 in
set_option maxRecDepth 100000 in
theorem c_MO_count (l : Launch) (D : va_G) (dA : Nat → ClassId) (M : mm_M) (x : Nat) (g : Nat → Nat) (I : sI) (F : sF) (st : sT) (k : Int32) (hP : mP dA M x g I F st) : mm_Ci l y_MO_count w_MO_count ({ frames := 1, cells := 0, slots := 0, locals := 20 }) 0 0 D vC (tyL dA) [.ref x, .int k] M (md_post dA x g (sp_count k I F st)) := by
  intro sz
  refine mm_start (by decide) (Nat.le_of_ble_eq_true rfl) ?_
  intro p e s m below meth c A Q ls hA hQ S hr hlocks hin hK hw hl
  have hl : lv_has ls 2 [(0, .ref x), (1, .int k)] := hl
  refine lv_aload_n S.1 S.2.1 d_MO_count_0 rfl (lv_at hl 0 rfl) ?_
  refine lv_iconst (v := 0) S.1 S.2.1 d_MO_count_1 (by decide) ?_
  refine mm_put (C := R_MO) (T := T_MO) (N := 22) (ty := .int) (v := .int 0) S hK.1 hw hP.2.1 rfl in_MO t_MO k_MO n_MO 0 (by decide) gw_370 rfl rfl (by decide +kernel) rfl rfl (Nat.le_of_ble_eq_true rfl) d_MO_count_2 (fun H locs hw => ?_)
  obtain ⟨M, hw, hP⟩ := md_puti (k := 0) (v := 0) (by decide) hw hP
  refine lv_iload_n S.1 S.2.1 d_MO_count_5 rfl (lv_at hl 1 rfl) ?_
  refine mm_calli hw (mm_runS (As := [.int k]) (rest := []) S hK hw (c_MO_isCode l D dA _ k _) bs_MO_isCode gw_458 (⟨rfl, rfl, by decide, by decide, by decide, by decide⟩) hl.1 rfl rfl (Nat.le_of_ble_eq_true rfl) d_MO_count_6) (fun r1 M2 H locs hp hw => ?_)
  rw [hp.1] at hw
  rcases hp.2 with ⟨rfl, hc3⟩ | ⟨rfl, hc3⟩
  · obtain ⟨j4, ekj4, hlj4, hhj4, enj4⟩ := is_of (N := 9999) rfl (by omega) hc3
    refine lv_if_eq (tgt := 21) S.1 S.2.1 d_MO_count_9 (by decide) (fun c9 => absurd c9 (by decide)) (fun c9 => ?_)
    refine lv_aload_n S.1 S.2.1 d_MO_count_12 rfl (lv_at hl 0 rfl) ?_
    refine mm_get (C := R_MO) (T := T_MO) (N := 22) (v := .ref (g 8)) S hK.1 hw hP.2.1 rfl in_MO 14 (by decide) gw_384 rfl rfl d_MO_count_13 ?_
    refine lv_iload_n S.1 S.2.1 d_MO_count_16 rfl (lv_at hl 1 rfl) ?_
    refine mn_iald (j := cN k) (n := 10000) (f := F 8) S hK.1 hw 0 (mP_a (k := 8) (F := F) hP (by decide) (by decide)) rfl (cl_nI (is_le0 hc3.1)) (by rw [cN, enj4]; omega) (by decide) d_MO_count_17 ?_
    refine lv_goto (tgt := 22) S.1 S.2.1 d_MO_count_18 (by decide) ?_
    exact mm_reti S.1 S.2.1 hr hlocks hA hQ hw (md_done hP (show sp_count k I F st = ((F 8 (cN k)), (upd I 0 (0)), F, st) by simp only [sp_count, eq_false c9, eq_true hc3, not_true_eq_false, not_false_eq_true, and_true, true_and, and_false, false_and, and_self, or_true, true_or, or_false, false_or, or_self, ↓reduceIte])) (Nat.le_of_ble_eq_true rfl) (Nat.le_of_ble_eq_true rfl) d_MO_count_22
  · refine lv_if_eq (tgt := 21) S.1 S.2.1 d_MO_count_9 (by decide) (fun c9 => ?_) (fun c9 => absurd c9 (by decide))
    refine lv_iconst (v := 0) S.1 S.2.1 d_MO_count_21 (by decide) ?_
    exact mm_reti S.1 S.2.1 hr hlocks hA hQ hw (md_done hP (show sp_count k I F st = (0, (upd I 0 (0)), F, st) by simp only [sp_count, eq_true c9, eq_false hc3, not_true_eq_false, not_false_eq_true, and_true, true_and, and_false, false_and, and_self, or_true, true_or, or_false, false_or, or_self, ↓reduceIte])) (Nat.le_of_ble_eq_true rfl) (Nat.le_of_ble_eq_true rfl) d_MO_count_22
theorem d_MO_region_0 : decode b_MO_region 0 = .ok (.aload_n 0, 1) := by decide +kernel
theorem d_MO_region_1 : decode b_MO_region 1 = .ok (.iconst 0, 1) := by decide +kernel
theorem d_MO_region_2 : decode b_MO_region 2 = .ok (.putfield 60, 3) := by decide +kernel
theorem d_MO_region_5 : decode b_MO_region 5 = .ok (.iload_n 1, 1) := by decide +kernel
theorem d_MO_region_6 : decode b_MO_region 6 = .ok (.invokestatic 74, 3) := by decide +kernel
theorem d_MO_region_9 : decode b_MO_region 9 = .ok (.ifCond .ne 8, 3) := by decide +kernel
theorem d_MO_region_12 : decode b_MO_region 12 = .ok (.bipush (-4), 2) := by decide +kernel
theorem d_MO_region_14 : decode b_MO_region 14 = .ok (.goto 26, 3) := by decide +kernel
theorem d_MO_region_17 : decode b_MO_region 17 = .ok (.iload_n 1, 1) := by decide +kernel
theorem d_MO_region_18 : decode b_MO_region 18 = .ok (.sipush 1000, 3) := by decide +kernel
theorem d_MO_region_21 : decode b_MO_region 21 = .ok (.if_icmp .ge 7, 3) := by decide +kernel
theorem d_MO_region_24 : decode b_MO_region 24 = .ok (.iconst 1, 1) := by decide +kernel
theorem d_MO_region_25 : decode b_MO_region 25 = .ok (.goto 15, 3) := by decide +kernel
theorem d_MO_region_28 : decode b_MO_region 28 = .ok (.iload_n 1, 1) := by decide +kernel
theorem d_MO_region_29 : decode b_MO_region 29 = .ok (.sipush 4000, 3) := by decide +kernel
theorem d_MO_region_32 : decode b_MO_region 32 = .ok (.if_icmp .ge 7, 3) := by decide +kernel
theorem d_MO_region_35 : decode b_MO_region 35 = .ok (.iconst 2, 1) := by decide +kernel
theorem d_MO_region_36 : decode b_MO_region 36 = .ok (.goto 4, 3) := by decide +kernel
theorem d_MO_region_39 : decode b_MO_region 39 = .ok (.iconst 3, 1) := by decide +kernel
theorem d_MO_region_40 : decode b_MO_region 40 = .ok (.ireturn, 1) := by decide +kernel
set_option maxHeartbeats 4000000 in
set_option maxRecDepth 100000 in
theorem c_MO_region (l : Launch) (D : va_G) (dA : Nat → ClassId) (M : mm_M) (x : Nat) (g : Nat → Nat) (I : sI) (F : sF) (st : sT) (k : Int32) (hP : mP dA M x g I F st) : mm_Ci l y_MO_region w_MO_region ({ frames := 1, cells := 0, slots := 0, locals := 20 }) 0 0 D vC (tyL dA) [.ref x, .int k] M (md_post dA x g (sp_region k I F st)) := by
  intro sz
  refine mm_start (by decide) (Nat.le_of_ble_eq_true rfl) ?_
  intro p e s m below meth c A Q ls hA hQ S hr hlocks hin hK hw hl
  have hl : lv_has ls 2 [(0, .ref x), (1, .int k)] := hl
  refine lv_aload_n S.1 S.2.1 d_MO_region_0 rfl (lv_at hl 0 rfl) ?_
  refine lv_iconst (v := 0) S.1 S.2.1 d_MO_region_1 (by decide) ?_
  refine mm_put (C := R_MO) (T := T_MO) (N := 22) (ty := .int) (v := .int 0) S hK.1 hw hP.2.1 rfl in_MO t_MO k_MO n_MO 0 (by decide) gw_370 rfl rfl (by decide +kernel) rfl rfl (Nat.le_of_ble_eq_true rfl) d_MO_region_2 (fun H locs hw => ?_)
  obtain ⟨M, hw, hP⟩ := md_puti (k := 0) (v := 0) (by decide) hw hP
  refine lv_iload_n S.1 S.2.1 d_MO_region_5 rfl (lv_at hl 1 rfl) ?_
  refine mm_calli hw (mm_runS (As := [.int k]) (rest := []) S hK hw (c_MO_isCode l D dA _ k _) bs_MO_isCode gw_458 (⟨rfl, rfl, by decide, by decide, by decide, by decide⟩) hl.1 rfl rfl (Nat.le_of_ble_eq_true rfl) d_MO_region_6) (fun r1 M2 H locs hp hw => ?_)
  rw [hp.1] at hw
  rcases hp.2 with ⟨rfl, hc3⟩ | ⟨rfl, hc3⟩
  · obtain ⟨j4, ekj4, hlj4, hhj4, enj4⟩ := is_of (N := 9999) rfl (by omega) hc3
    refine lv_if_ne (tgt := 17) S.1 S.2.1 d_MO_region_9 (by decide) (fun c9 => ?_) (fun c9 => absurd c9 (by decide))
    refine lv_iload_n S.1 S.2.1 d_MO_region_17 rfl (lv_at hl 1 rfl) ?_
    refine lv_sipush (v := 1000) S.1 S.2.1 d_MO_region_18 (by decide) ?_
    refine lv_icmp_ge (tgt := 28) S.1 S.2.1 d_MO_region_21 (by decide) (fun c21 => ?_) (fun c21 => ?_)
    · refine lv_iload_n S.1 S.2.1 d_MO_region_28 rfl (lv_at hl 1 rfl) ?_
      refine lv_sipush (v := 4000) S.1 S.2.1 d_MO_region_29 (by decide) ?_
      refine lv_icmp_ge (tgt := 39) S.1 S.2.1 d_MO_region_32 (by decide) (fun c32 => ?_) (fun c32 => ?_)
      · refine lv_iconst (v := 3) S.1 S.2.1 d_MO_region_39 (by decide) ?_
        exact mm_reti S.1 S.2.1 hr hlocks hA hQ hw (md_done hP (show sp_region k I F st = (3, (upd I 0 (0)), F, st) by simp only [sp_region, eq_false c9, eq_true c21, eq_true c32, eq_true hc3, not_true_eq_false, not_false_eq_true, and_true, true_and, and_false, false_and, and_self, or_true, true_or, or_false, false_or, or_self, ↓reduceIte])) (Nat.le_of_ble_eq_true rfl) (Nat.le_of_ble_eq_true rfl) d_MO_region_40
      · refine lv_iconst (v := 2) S.1 S.2.1 d_MO_region_35 (by decide) ?_
        refine lv_goto (tgt := 40) S.1 S.2.1 d_MO_region_36 (by decide) ?_
        exact mm_reti S.1 S.2.1 hr hlocks hA hQ hw (md_done hP (show sp_region k I F st = (2, (upd I 0 (0)), F, st) by simp only [sp_region, eq_false c9, eq_true c21, eq_false c32, eq_true hc3, not_true_eq_false, not_false_eq_true, and_true, true_and, and_false, false_and, and_self, or_true, true_or, or_false, false_or, or_self, ↓reduceIte])) (Nat.le_of_ble_eq_true rfl) (Nat.le_of_ble_eq_true rfl) d_MO_region_40
    · refine lv_iconst (v := 1) S.1 S.2.1 d_MO_region_24 (by decide) ?_
      refine lv_goto (tgt := 40) S.1 S.2.1 d_MO_region_25 (by decide) ?_
      exact mm_reti S.1 S.2.1 hr hlocks hA hQ hw (md_done hP (show sp_region k I F st = (1, (upd I 0 (0)), F, st) by simp only [sp_region, eq_false c9, eq_false c21, eq_true hc3, not_true_eq_false, not_false_eq_true, and_true, true_and, and_false, false_and, and_self, or_true, true_or, or_false, false_or, or_self, ↓reduceIte])) (Nat.le_of_ble_eq_true rfl) (Nat.le_of_ble_eq_true rfl) d_MO_region_40
  · refine lv_if_ne (tgt := 17) S.1 S.2.1 d_MO_region_9 (by decide) (fun c9 => absurd c9 (by decide)) (fun c9 => ?_)
    refine lv_bipush (v := (-4)) S.1 S.2.1 d_MO_region_12 (by decide) ?_
    refine lv_goto (tgt := 40) S.1 S.2.1 d_MO_region_14 (by decide) ?_
    exact mm_reti S.1 S.2.1 hr hlocks hA hQ hw (md_done hP (show sp_region k I F st = ((-4), (upd I 0 (0)), F, st) by simp only [sp_region, eq_true c9, eq_false hc3, not_true_eq_false, not_false_eq_true, and_true, true_and, and_false, false_and, and_self, or_true, true_or, or_false, false_or, or_self, ↓reduceIte])) (Nat.le_of_ble_eq_true rfl) (Nat.le_of_ble_eq_true rfl) d_MO_region_40
theorem d_MO_suppress_0 : decode b_MO_suppress 0 = .ok (.aload_n 0, 1) := by decide +kernel
theorem d_MO_suppress_1 : decode b_MO_suppress 1 = .ok (.iconst 0, 1) := by decide +kernel
theorem d_MO_suppress_2 : decode b_MO_suppress 2 = .ok (.putfield 60, 3) := by decide +kernel
theorem d_MO_suppress_5 : decode b_MO_suppress 5 = .ok (.iload_n 1, 1) := by decide +kernel
theorem d_MO_suppress_6 : decode b_MO_suppress 6 = .ok (.invokestatic 74, 3) := by decide +kernel
theorem d_MO_suppress_9 : decode b_MO_suppress 9 = .ok (.ifCond .ne 6, 3) := by decide +kernel
theorem d_MO_suppress_12 : decode b_MO_suppress 12 = .ok (.bipush (-4), 2) := by decide +kernel
theorem d_MO_suppress_14 : decode b_MO_suppress 14 = .ok (.ireturn, 1) := by decide +kernel
theorem d_MO_suppress_15 : decode b_MO_suppress 15 = .ok (.aload_n 0, 1) := by decide +kernel
theorem d_MO_suppress_16 : decode b_MO_suppress 16 = .ok (.getfield 41, 3) := by decide +kernel
theorem d_MO_suppress_19 : decode b_MO_suppress 19 = .ok (.iload_n 1, 1) := by decide +kernel
theorem d_MO_suppress_20 : decode b_MO_suppress 20 = .ok (.baload, 1) := by decide +kernel
theorem d_MO_suppress_21 : decode b_MO_suppress 21 = .ok (.ifCond .eq 7, 3) := by decide +kernel
theorem d_MO_suppress_24 : decode b_MO_suppress 24 = .ok (.iconst 1, 1) := by decide +kernel
theorem d_MO_suppress_25 : decode b_MO_suppress 25 = .ok (.goto 4, 3) := by decide +kernel
theorem d_MO_suppress_28 : decode b_MO_suppress 28 = .ok (.iconst 0, 1) := by decide +kernel
theorem d_MO_suppress_29 : decode b_MO_suppress 29 = .ok (.istore_n 3, 1) := by decide +kernel
theorem d_MO_suppress_30 : decode b_MO_suppress 30 = .ok (.aload_n 0, 1) := by decide +kernel
theorem d_MO_suppress_31 : decode b_MO_suppress 31 = .ok (.getfield 41, 3) := by decide +kernel
theorem d_MO_suppress_34 : decode b_MO_suppress 34 = .ok (.iload_n 1, 1) := by decide +kernel
theorem d_MO_suppress_35 : decode b_MO_suppress 35 = .ok (.iload_n 2, 1) := by decide +kernel
theorem d_MO_suppress_36 : decode b_MO_suppress 36 = .ok (.bastore, 1) := by decide +kernel
theorem d_MO_suppress_37 : decode b_MO_suppress 37 = .ok (.iload_n 3, 1) := by decide +kernel
theorem d_MO_suppress_38 : decode b_MO_suppress 38 = .ok (.ireturn, 1) := by decide +kernel
set_option maxHeartbeats 4000000 in
set_option maxRecDepth 100000 in
theorem c_MO_suppress (l : Launch) (D : va_G) (dA : Nat → ClassId) (M : mm_M) (x : Nat) (g : Nat → Nat) (I : sI) (F : sF) (st : sT) (k z : Int32) (hb : z = 0 ∨ z = 1) (hP : mP dA M x g I F st) : mm_Ci l y_MO_suppress w_MO_suppress ({ frames := 1, cells := 0, slots := 0, locals := 20 }) 0 0 D vC (tyL dA) [.ref x, .int k, .int z] M (md_post dA x g (sp_suppress k z I F st)) := by
  intro sz
  refine mm_start (by decide) (Nat.le_of_ble_eq_true rfl) ?_
  intro p e s m below meth c A Q ls hA hQ S hr hlocks hin hK hw hl
  have hl : lv_has ls 4 [(0, .ref x), (1, .int k), (2, .int z)] := hl
  refine lv_aload_n S.1 S.2.1 d_MO_suppress_0 rfl (lv_at hl 0 rfl) ?_
  refine lv_iconst (v := 0) S.1 S.2.1 d_MO_suppress_1 (by decide) ?_
  refine mm_put (C := R_MO) (T := T_MO) (N := 22) (ty := .int) (v := .int 0) S hK.1 hw hP.2.1 rfl in_MO t_MO k_MO n_MO 0 (by decide) gw_370 rfl rfl (by decide +kernel) rfl rfl (Nat.le_of_ble_eq_true rfl) d_MO_suppress_2 (fun H locs hw => ?_)
  obtain ⟨M, hw, hP⟩ := md_puti (k := 0) (v := 0) (by decide) hw hP
  refine lv_iload_n S.1 S.2.1 d_MO_suppress_5 rfl (lv_at hl 1 rfl) ?_
  refine mm_calli hw (mm_runS (As := [.int k]) (rest := []) S hK hw (c_MO_isCode l D dA _ k _) bs_MO_isCode gw_458 (⟨rfl, rfl, by decide, by decide, by decide, by decide⟩) hl.1 rfl rfl (Nat.le_of_ble_eq_true rfl) d_MO_suppress_6) (fun r1 M2 H locs hp hw => ?_)
  rw [hp.1] at hw
  rcases hp.2 with ⟨rfl, hc3⟩ | ⟨rfl, hc3⟩
  · obtain ⟨j4, ekj4, hlj4, hhj4, enj4⟩ := is_of (N := 9999) rfl (by omega) hc3
    refine lv_if_ne (tgt := 15) S.1 S.2.1 d_MO_suppress_9 (by decide) (fun c9 => ?_) (fun c9 => absurd c9 (by decide))
    refine lv_aload_n S.1 S.2.1 d_MO_suppress_15 rfl (lv_at hl 0 rfl) ?_
    refine mm_get (C := R_MO) (T := T_MO) (N := 22) (v := .ref (g 10)) S hK.1 hw hP.2.1 rfl in_MO 16 (by decide) gw_386 rfl rfl d_MO_suppress_16 ?_
    refine lv_iload_n S.1 S.2.1 d_MO_suppress_19 rfl (lv_at hl 1 rfl) ?_
    refine mn_zald (j := cN k) (n := 10000) (f := F 10) S hK.1 hw 2 (mP_a (k := 10) (F := F) hP (by decide) (by decide)) rfl (cl_nI (is_le0 hc3.1)) (by rw [cN, enj4]; omega) (by decide) d_MO_suppress_20 ?_
    refine lv_if_eq (tgt := 28) S.1 S.2.1 d_MO_suppress_21 (by decide) (fun c21 => ?_) (fun c21 => ?_)
    · refine lv_iconst (v := 0) S.1 S.2.1 d_MO_suppress_28 (by decide) ?_
      refine lv_istore_n (lv' := [(3, .int 0), (0, .ref x), (1, .int k), (2, .int z)]) S.1 S.2.1 d_MO_suppress_29 rfl hl (by decide) rfl (fun ls hl => ?_)
      refine lv_aload_n S.1 S.2.1 d_MO_suppress_30 rfl (lv_at hl 1 rfl) ?_
      refine mm_get (C := R_MO) (T := T_MO) (N := 22) (v := .ref (g 10)) S hK.1 hw hP.2.1 rfl in_MO 16 (by decide) gw_386 rfl rfl d_MO_suppress_31 ?_
      refine lv_iload_n S.1 S.2.1 d_MO_suppress_34 rfl (lv_at hl 2 rfl) ?_
      refine lv_iload_n S.1 S.2.1 d_MO_suppress_35 rfl (lv_at hl 3 rfl) ?_
      refine mn_zast (j := cN k) (n := 10000) (f := F 10) S hK.1 hw 2 (mP_a (k := 10) (F := F) hP (by decide) (by decide)) rfl (cl_nI (is_le0 hc3.1)) (by rw [cN, enj4]; omega) (by decide) (mz_nar2 (hb)) d_MO_suppress_36 (fun H locs hw => ?_)
      obtain ⟨M, hw, hP⟩ := md_ast (k := 10) (j := cN k) (v := z) (F := F) (by decide) (by decide) hw hP
      refine lv_iload_n S.1 S.2.1 d_MO_suppress_37 rfl (lv_at hl 0 rfl) ?_
      exact mm_reti S.1 S.2.1 hr hlocks hA hQ hw (md_done hP (show sp_suppress k z I F st = (0, (upd I 0 (0)), (va_up F 10 (upd (F 10) (cN k) (z))), st) by simp only [sp_suppress, eq_false c9, eq_true c21, eq_true hc3, not_true_eq_false, not_false_eq_true, and_true, true_and, and_false, false_and, and_self, or_true, true_or, or_false, false_or, or_self, ↓reduceIte])) (Nat.le_of_ble_eq_true rfl) (Nat.le_of_ble_eq_true rfl) d_MO_suppress_38
    · refine lv_iconst (v := 1) S.1 S.2.1 d_MO_suppress_24 (by decide) ?_
      refine lv_goto (tgt := 29) S.1 S.2.1 d_MO_suppress_25 (by decide) ?_
      refine lv_istore_n (lv' := [(3, .int 1), (0, .ref x), (1, .int k), (2, .int z)]) S.1 S.2.1 d_MO_suppress_29 rfl hl (by decide) rfl (fun ls hl => ?_)
      refine lv_aload_n S.1 S.2.1 d_MO_suppress_30 rfl (lv_at hl 1 rfl) ?_
      refine mm_get (C := R_MO) (T := T_MO) (N := 22) (v := .ref (g 10)) S hK.1 hw hP.2.1 rfl in_MO 16 (by decide) gw_386 rfl rfl d_MO_suppress_31 ?_
      refine lv_iload_n S.1 S.2.1 d_MO_suppress_34 rfl (lv_at hl 2 rfl) ?_
      refine lv_iload_n S.1 S.2.1 d_MO_suppress_35 rfl (lv_at hl 3 rfl) ?_
      refine mn_zast (j := cN k) (n := 10000) (f := F 10) S hK.1 hw 2 (mP_a (k := 10) (F := F) hP (by decide) (by decide)) rfl (cl_nI (is_le0 hc3.1)) (by rw [cN, enj4]; omega) (by decide) (mz_nar2 (hb)) d_MO_suppress_36 (fun H locs hw => ?_)
      obtain ⟨M, hw, hP⟩ := md_ast (k := 10) (j := cN k) (v := z) (F := F) (by decide) (by decide) hw hP
      refine lv_iload_n S.1 S.2.1 d_MO_suppress_37 rfl (lv_at hl 0 rfl) ?_
      exact mm_reti S.1 S.2.1 hr hlocks hA hQ hw (md_done hP (show sp_suppress k z I F st = (1, (upd I 0 (0)), (va_up F 10 (upd (F 10) (cN k) (z))), st) by simp only [sp_suppress, eq_false c9, eq_false c21, eq_true hc3, not_true_eq_false, not_false_eq_true, and_true, true_and, and_false, false_and, and_self, or_true, true_or, or_false, false_or, or_self, ↓reduceIte])) (Nat.le_of_ble_eq_true rfl) (Nat.le_of_ble_eq_true rfl) d_MO_suppress_38
  · refine lv_if_ne (tgt := 15) S.1 S.2.1 d_MO_suppress_9 (by decide) (fun c9 => absurd c9 (by decide)) (fun c9 => ?_)
    refine lv_bipush (v := (-4)) S.1 S.2.1 d_MO_suppress_12 (by decide) ?_
    exact mm_reti S.1 S.2.1 hr hlocks hA hQ hw (md_done hP (show sp_suppress k z I F st = ((-4), (upd I 0 (0)), F, st) by simp only [sp_suppress, eq_true c9, eq_false hc3, not_true_eq_false, not_false_eq_true, and_true, true_and, and_false, false_and, and_self, or_true, true_or, or_false, false_or, or_self, ↓reduceIte])) (Nat.le_of_ble_eq_true rfl) (Nat.le_of_ble_eq_true rfl) d_MO_suppress_14
theorem d_MO_loop_0 : decode b_MO_loop 0 = .ok (.aload_n 0, 1) := by decide +kernel
theorem d_MO_loop_1 : decode b_MO_loop 1 = .ok (.iconst 0, 1) := by decide +kernel
theorem d_MO_loop_2 : decode b_MO_loop 2 = .ok (.putfield 60, 3) := by decide +kernel
theorem d_MO_loop_5 : decode b_MO_loop 5 = .ok (.iload_n 1, 1) := by decide +kernel
theorem d_MO_loop_6 : decode b_MO_loop 6 = .ok (.invokestatic 84, 3) := by decide +kernel
theorem d_MO_loop_9 : decode b_MO_loop 9 = .ok (.ifCond .eq 9, 3) := by decide +kernel
theorem d_MO_loop_12 : decode b_MO_loop 12 = .ok (.lload_n 2, 1) := by decide +kernel
theorem d_MO_loop_13 : decode b_MO_loop 13 = .ok (.lconst 0, 1) := by decide +kernel
theorem d_MO_loop_14 : decode b_MO_loop 14 = .ok (.lcmp, 1) := by decide +kernel
theorem d_MO_loop_15 : decode b_MO_loop 15 = .ok (.ifCond .ge 6, 3) := by decide +kernel
theorem d_MO_loop_18 : decode b_MO_loop 18 = .ok (.bipush (-4), 2) := by decide +kernel
theorem d_MO_loop_20 : decode b_MO_loop 20 = .ok (.ireturn, 1) := by decide +kernel
theorem d_MO_loop_21 : decode b_MO_loop 21 = .ok (.lload_n 2, 1) := by decide +kernel
theorem d_MO_loop_22 : decode b_MO_loop 22 = .ok (.ldc2_w 93, 3) := by decide +kernel
theorem d_MO_loop_25 : decode b_MO_loop 25 = .ok (.lcmp, 1) := by decide +kernel
theorem d_MO_loop_26 : decode b_MO_loop 26 = .ok (.ifCond .gt 18, 3) := by decide +kernel
theorem d_MO_loop_29 : decode b_MO_loop 29 = .ok (.aload_n 0, 1) := by decide +kernel
theorem d_MO_loop_30 : decode b_MO_loop 30 = .ok (.getfield 44, 3) := by decide +kernel
theorem d_MO_loop_33 : decode b_MO_loop 33 = .ok (.iload_n 1, 1) := by decide +kernel
theorem d_MO_loop_34 : decode b_MO_loop 34 = .ok (.laload, 1) := by decide +kernel
theorem d_MO_loop_35 : decode b_MO_loop 35 = .ok (.lload_n 2, 1) := by decide +kernel
theorem d_MO_loop_36 : decode b_MO_loop 36 = .ok (.ladd, 1) := by decide +kernel
theorem d_MO_loop_37 : decode b_MO_loop 37 = .ok (.ldc2_w 93, 3) := by decide +kernel
theorem d_MO_loop_40 : decode b_MO_loop 40 = .ok (.lcmp, 1) := by decide +kernel
theorem d_MO_loop_41 : decode b_MO_loop 41 = .ok (.ifCond .le 7, 3) := by decide +kernel
theorem d_MO_loop_44 : decode b_MO_loop 44 = .ok (.iconst 1, 1) := by decide +kernel
theorem d_MO_loop_45 : decode b_MO_loop 45 = .ok (.goto 4, 3) := by decide +kernel
theorem d_MO_loop_48 : decode b_MO_loop 48 = .ok (.iconst 0, 1) := by decide +kernel
theorem d_MO_loop_49 : decode b_MO_loop 49 = .ok (.istore 4, 2) := by decide +kernel
theorem d_MO_loop_51 : decode b_MO_loop 51 = .ok (.aload_n 0, 1) := by decide +kernel
theorem d_MO_loop_52 : decode b_MO_loop 52 = .ok (.getfield 44, 3) := by decide +kernel
theorem d_MO_loop_55 : decode b_MO_loop 55 = .ok (.iload_n 1, 1) := by decide +kernel
theorem d_MO_loop_56 : decode b_MO_loop 56 = .ok (.iload 4, 2) := by decide +kernel
theorem d_MO_loop_58 : decode b_MO_loop 58 = .ok (.ifCond .eq 7, 3) := by decide +kernel
theorem d_MO_loop_61 : decode b_MO_loop 61 = .ok (.lconst 0, 1) := by decide +kernel
theorem d_MO_loop_62 : decode b_MO_loop 62 = .ok (.goto 11, 3) := by decide +kernel
theorem d_MO_loop_65 : decode b_MO_loop 65 = .ok (.aload_n 0, 1) := by decide +kernel
theorem d_MO_loop_66 : decode b_MO_loop 66 = .ok (.getfield 44, 3) := by decide +kernel
theorem d_MO_loop_69 : decode b_MO_loop 69 = .ok (.iload_n 1, 1) := by decide +kernel
theorem d_MO_loop_70 : decode b_MO_loop 70 = .ok (.laload, 1) := by decide +kernel
theorem d_MO_loop_71 : decode b_MO_loop 71 = .ok (.lload_n 2, 1) := by decide +kernel
theorem d_MO_loop_72 : decode b_MO_loop 72 = .ok (.ladd, 1) := by decide +kernel
theorem d_MO_loop_73 : decode b_MO_loop 73 = .ok (.lastore, 1) := by decide +kernel
theorem d_MO_loop_74 : decode b_MO_loop 74 = .ok (.iload 4, 2) := by decide +kernel
theorem d_MO_loop_76 : decode b_MO_loop 76 = .ok (.ifCond .eq 8, 3) := by decide +kernel
theorem d_MO_loop_79 : decode b_MO_loop 79 = .ok (.bipush 71, 2) := by decide +kernel
theorem d_MO_loop_81 : decode b_MO_loop 81 = .ok (.goto 4, 3) := by decide +kernel
theorem d_MO_loop_84 : decode b_MO_loop 84 = .ok (.iconst 0, 1) := by decide +kernel
theorem d_MO_loop_85 : decode b_MO_loop 85 = .ok (.ireturn, 1) := by decide +kernel
set_option maxHeartbeats 4000000 in
set_option maxRecDepth 100000 in
theorem c_MO_loop (l : Launch) (D : va_G) (dA : Nat → ClassId) (M : mm_M) (x : Nat) (g : Nat → Nat) (I : sI) (F : sF) (st : sT) (t : Int32) (w : Int64) (hP : mP dA M x g I F st) : mm_Ci l y_MO_loop w_MO_loop ({ frames := 1, cells := 0, slots := 0, locals := 20 }) 0 0 D vC (tyL dA) [.ref x, .int t, .long w] M (md_post dA x g (sp_loop t w I F st)) := by
  intro sz
  refine mm_start (by decide) (Nat.le_of_ble_eq_true rfl) ?_
  intro p e s m below meth c A Q ls hA hQ S hr hlocks hin hK hw hl
  have hl : lv_has ls 5 [(0, .ref x), (1, .int t), (2, .long w)] := hl
  refine lv_aload_n S.1 S.2.1 d_MO_loop_0 rfl (lv_at hl 0 rfl) ?_
  refine lv_iconst (v := 0) S.1 S.2.1 d_MO_loop_1 (by decide) ?_
  refine mm_put (C := R_MO) (T := T_MO) (N := 22) (ty := .int) (v := .int 0) S hK.1 hw hP.2.1 rfl in_MO t_MO k_MO n_MO 0 (by decide) gw_370 rfl rfl (by decide +kernel) rfl rfl (Nat.le_of_ble_eq_true rfl) d_MO_loop_2 (fun H locs hw => ?_)
  obtain ⟨M, hw, hP⟩ := md_puti (k := 0) (v := 0) (by decide) hw hP
  refine lv_iload_n S.1 S.2.1 d_MO_loop_5 rfl (lv_at hl 1 rfl) ?_
  refine mm_calli hw (mm_runS (As := [.int t]) (rest := []) S hK hw (c_MO_isTask l D dA _ t _) bs_MO_isTask gw_481 (⟨rfl, rfl, by decide, by decide, by decide, by decide⟩) hl.1 rfl rfl (Nat.le_of_ble_eq_true rfl) d_MO_loop_6) (fun r1 M2 H locs hp hw => ?_)
  rw [hp.1] at hw
  rcases hp.2 with ⟨rfl, hc3⟩ | ⟨rfl, hc3⟩
  · obtain ⟨j4, ekj4, hlj4, hhj4, enj4⟩ := is_of (N := 40) rfl (by omega) hc3
    refine lv_if_eq (tgt := 18) S.1 S.2.1 d_MO_loop_9 (by decide) (fun c9 => absurd c9 (by decide)) (fun c9 => ?_)
    refine lv_lload_n S.1 S.2.1 d_MO_loop_12 rfl (lv_at hl 2 rfl) ?_
    refine lv_lconst (v := 0) S.1 S.2.1 d_MO_loop_13 (by decide) ?_
    refine W.lcmp S.1 S.2.1 d_MO_loop_14 ?_
    refine lv_if_ge (tgt := 21) S.1 S.2.1 d_MO_loop_15 (by decide) (fun c15 => ?_) (fun c15 => ?_)
    · have c15 : ¬ w < 0 := lgc_ge.mp c15
      refine lv_lload_n S.1 S.2.1 d_MO_loop_21 rfl (lv_at hl 2 rfl) ?_
      refine lv_ldc2 (v := 1000) S.1 S.2.1 S.2.2.2.1 (S.2.2.2.2 _ gw_496) d_MO_loop_22 ?_
      refine W.lcmp S.1 S.2.1 d_MO_loop_25 ?_
      refine lv_if_gt (tgt := 44) S.1 S.2.1 d_MO_loop_26 (by decide) (fun c26 => ?_) (fun c26 => ?_)
      · have c26 : 1000 < w := lgc_gt.mp c26
        refine lv_iconst (v := 1) S.1 S.2.1 d_MO_loop_44 (by decide) ?_
        refine lv_goto (tgt := 49) S.1 S.2.1 d_MO_loop_45 (by decide) ?_
        refine lv_istore (lv' := [(4, .int 1), (0, .ref x), (1, .int t), (2, .long w)]) S.1 S.2.1 d_MO_loop_49 hl (by decide) rfl (fun ls hl => ?_)
        refine lv_aload_n S.1 S.2.1 d_MO_loop_51 rfl (lv_at hl 1 rfl) ?_
        refine mm_get (C := R_MO) (T := T_MO) (N := 22) (v := .ref (g 11)) S hK.1 hw hP.2.1 rfl in_MO 17 (by decide) gw_387 rfl rfl d_MO_loop_52 ?_
        refine lv_iload_n S.1 S.2.1 d_MO_loop_55 rfl (lv_at hl 2 rfl) ?_
        refine lv_iload S.1 S.2.1 d_MO_loop_56 (lv_at hl 0 rfl) ?_
        refine lv_if_eq (tgt := 65) S.1 S.2.1 d_MO_loop_58 (by decide) (fun c58 => absurd c58 (by decide)) (fun c58 => ?_)
        refine lv_lconst (v := 0) S.1 S.2.1 d_MO_loop_61 (by decide) ?_
        refine lv_goto (tgt := 73) S.1 S.2.1 d_MO_loop_62 (by decide) ?_
        refine mn_last (j := cN t) (n := 41) (f := st) S hK.1 hw 1 hP.2.2.2 rfl (cl_nI (is_le0 hc3.1)) (by rw [cN, enj4]; omega) (by decide) d_MO_loop_73 (fun H locs hw => ?_)
        obtain ⟨M, hw, hP⟩ := md_last (j := cN t) (v := 0) hw hP
        refine lv_iload S.1 S.2.1 d_MO_loop_74 (lv_at hl 0 rfl) ?_
        refine lv_if_eq (tgt := 84) S.1 S.2.1 d_MO_loop_76 (by decide) (fun c76 => absurd c76 (by decide)) (fun c76 => ?_)
        refine lv_bipush (v := 71) S.1 S.2.1 d_MO_loop_79 (by decide) ?_
        refine lv_goto (tgt := 85) S.1 S.2.1 d_MO_loop_81 (by decide) ?_
        exact mm_reti S.1 S.2.1 hr hlocks hA hQ hw (md_done hP (show sp_loop t w I F st = (71, (upd I 0 (0)), F, (vp_updL st (cN t) (0))) by simp only [sp_loop, eq_false c9, eq_false c15, eq_true c26, eq_false c58, eq_false c76, eq_true hc3, not_true_eq_false, not_false_eq_true, and_true, true_and, and_false, false_and, and_self, or_true, true_or, or_false, false_or, or_self, ↓reduceIte])) (Nat.le_of_ble_eq_true rfl) (Nat.le_of_ble_eq_true rfl) d_MO_loop_85
      · have c26 : ¬ 1000 < w := fun h => c26 (lgc_gt.mpr h)
        refine lv_aload_n S.1 S.2.1 d_MO_loop_29 rfl (lv_at hl 0 rfl) ?_
        refine mm_get (C := R_MO) (T := T_MO) (N := 22) (v := .ref (g 11)) S hK.1 hw hP.2.1 rfl in_MO 17 (by decide) gw_387 rfl rfl d_MO_loop_30 ?_
        refine lv_iload_n S.1 S.2.1 d_MO_loop_33 rfl (lv_at hl 1 rfl) ?_
        refine mn_lald (j := cN t) (n := 41) (f := st) S hK.1 hw 1 hP.2.2.2 rfl (cl_nI (is_le0 hc3.1)) (by rw [cN, enj4]; omega) (by decide) d_MO_loop_34 ?_
        refine lv_lload_n S.1 S.2.1 d_MO_loop_35 rfl (lv_at hl 2 rfl) ?_
        refine lv_ladd S.1 S.2.1 d_MO_loop_36 ?_
        refine lv_ldc2 (v := 1000) S.1 S.2.1 S.2.2.2.1 (S.2.2.2.2 _ gw_496) d_MO_loop_37 ?_
        refine W.lcmp S.1 S.2.1 d_MO_loop_40 ?_
        refine lv_if_le (tgt := 48) S.1 S.2.1 d_MO_loop_41 (by decide) (fun c41 => ?_) (fun c41 => ?_)
        · have c41 : ¬ 1000 < ((st (cN t)) + w) := lgc_le.mp c41
          refine lv_iconst (v := 0) S.1 S.2.1 d_MO_loop_48 (by decide) ?_
          refine lv_istore (lv' := [(4, .int 0), (0, .ref x), (1, .int t), (2, .long w)]) S.1 S.2.1 d_MO_loop_49 hl (by decide) rfl (fun ls hl => ?_)
          refine lv_aload_n S.1 S.2.1 d_MO_loop_51 rfl (lv_at hl 1 rfl) ?_
          refine mm_get (C := R_MO) (T := T_MO) (N := 22) (v := .ref (g 11)) S hK.1 hw hP.2.1 rfl in_MO 17 (by decide) gw_387 rfl rfl d_MO_loop_52 ?_
          refine lv_iload_n S.1 S.2.1 d_MO_loop_55 rfl (lv_at hl 2 rfl) ?_
          refine lv_iload S.1 S.2.1 d_MO_loop_56 (lv_at hl 0 rfl) ?_
          refine lv_if_eq (tgt := 65) S.1 S.2.1 d_MO_loop_58 (by decide) (fun c58 => ?_) (fun c58 => absurd c58 (by decide))
          refine lv_aload_n S.1 S.2.1 d_MO_loop_65 rfl (lv_at hl 1 rfl) ?_
          refine mm_get (C := R_MO) (T := T_MO) (N := 22) (v := .ref (g 11)) S hK.1 hw hP.2.1 rfl in_MO 17 (by decide) gw_387 rfl rfl d_MO_loop_66 ?_
          refine lv_iload_n S.1 S.2.1 d_MO_loop_69 rfl (lv_at hl 2 rfl) ?_
          refine mn_lald (j := cN t) (n := 41) (f := st) S hK.1 hw 1 hP.2.2.2 rfl (cl_nI (is_le0 hc3.1)) (by rw [cN, enj4]; omega) (by decide) d_MO_loop_70 ?_
          refine lv_lload_n S.1 S.2.1 d_MO_loop_71 rfl (lv_at hl 3 rfl) ?_
          refine lv_ladd S.1 S.2.1 d_MO_loop_72 ?_
          refine mn_last (j := cN t) (n := 41) (f := st) S hK.1 hw 1 hP.2.2.2 rfl (cl_nI (is_le0 hc3.1)) (by rw [cN, enj4]; omega) (by decide) d_MO_loop_73 (fun H locs hw => ?_)
          obtain ⟨M, hw, hP⟩ := md_last (j := cN t) (v := ((st (cN t)) + w)) hw hP
          refine lv_iload S.1 S.2.1 d_MO_loop_74 (lv_at hl 0 rfl) ?_
          refine lv_if_eq (tgt := 84) S.1 S.2.1 d_MO_loop_76 (by decide) (fun c76 => ?_) (fun c76 => absurd c76 (by decide))
          refine lv_iconst (v := 0) S.1 S.2.1 d_MO_loop_84 (by decide) ?_
          exact mm_reti S.1 S.2.1 hr hlocks hA hQ hw (md_done hP (show sp_loop t w I F st = (0, (upd I 0 (0)), F, (vp_updL st (cN t) (((st (cN t)) + w)))) by simp only [sp_loop, eq_false c9, eq_false c15, eq_false c26, eq_false c41, eq_true c58, eq_true c76, eq_true hc3, not_true_eq_false, not_false_eq_true, and_true, true_and, and_false, false_and, and_self, or_true, true_or, or_false, false_or, or_self, ↓reduceIte])) (Nat.le_of_ble_eq_true rfl) (Nat.le_of_ble_eq_true rfl) d_MO_loop_85
        · have c41 : 1000 < ((st (cN t)) + w) := Classical.not_not.mp (fun h => c41 (lgc_le.mpr h))
          refine lv_iconst (v := 1) S.1 S.2.1 d_MO_loop_44 (by decide) ?_
          refine lv_goto (tgt := 49) S.1 S.2.1 d_MO_loop_45 (by decide) ?_
          refine lv_istore (lv' := [(4, .int 1), (0, .ref x), (1, .int t), (2, .long w)]) S.1 S.2.1 d_MO_loop_49 hl (by decide) rfl (fun ls hl => ?_)
          refine lv_aload_n S.1 S.2.1 d_MO_loop_51 rfl (lv_at hl 1 rfl) ?_
          refine mm_get (C := R_MO) (T := T_MO) (N := 22) (v := .ref (g 11)) S hK.1 hw hP.2.1 rfl in_MO 17 (by decide) gw_387 rfl rfl d_MO_loop_52 ?_
          refine lv_iload_n S.1 S.2.1 d_MO_loop_55 rfl (lv_at hl 2 rfl) ?_
          refine lv_iload S.1 S.2.1 d_MO_loop_56 (lv_at hl 0 rfl) ?_
          refine lv_if_eq (tgt := 65) S.1 S.2.1 d_MO_loop_58 (by decide) (fun c58 => absurd c58 (by decide)) (fun c58 => ?_)
          refine lv_lconst (v := 0) S.1 S.2.1 d_MO_loop_61 (by decide) ?_
          refine lv_goto (tgt := 73) S.1 S.2.1 d_MO_loop_62 (by decide) ?_
          refine mn_last (j := cN t) (n := 41) (f := st) S hK.1 hw 1 hP.2.2.2 rfl (cl_nI (is_le0 hc3.1)) (by rw [cN, enj4]; omega) (by decide) d_MO_loop_73 (fun H locs hw => ?_)
          obtain ⟨M, hw, hP⟩ := md_last (j := cN t) (v := 0) hw hP
          refine lv_iload S.1 S.2.1 d_MO_loop_74 (lv_at hl 0 rfl) ?_
          refine lv_if_eq (tgt := 84) S.1 S.2.1 d_MO_loop_76 (by decide) (fun c76 => absurd c76 (by decide)) (fun c76 => ?_)
          refine lv_bipush (v := 71) S.1 S.2.1 d_MO_loop_79 (by decide) ?_
          refine lv_goto (tgt := 85) S.1 S.2.1 d_MO_loop_81 (by decide) ?_
          exact mm_reti S.1 S.2.1 hr hlocks hA hQ hw (md_done hP (show sp_loop t w I F st = (71, (upd I 0 (0)), F, (vp_updL st (cN t) (0))) by simp only [sp_loop, eq_false c9, eq_false c15, eq_false c26, eq_true c41, eq_false c58, eq_false c76, eq_true hc3, not_true_eq_false, not_false_eq_true, and_true, true_and, and_false, false_and, and_self, or_true, true_or, or_false, false_or, or_self, ↓reduceIte])) (Nat.le_of_ble_eq_true rfl) (Nat.le_of_ble_eq_true rfl) d_MO_loop_85
    · have c15 : w < 0 := Classical.not_not.mp (fun h => c15 (lgc_ge.mpr h))
      refine lv_bipush (v := (-4)) S.1 S.2.1 d_MO_loop_18 (by decide) ?_
      exact mm_reti S.1 S.2.1 hr hlocks hA hQ hw (md_done hP (show sp_loop t w I F st = ((-4), (upd I 0 (0)), F, st) by simp only [sp_loop, eq_false c9, eq_true c15, eq_true hc3, not_true_eq_false, not_false_eq_true, and_true, true_and, and_false, false_and, and_self, or_true, true_or, or_false, false_or, or_self, ↓reduceIte])) (Nat.le_of_ble_eq_true rfl) (Nat.le_of_ble_eq_true rfl) d_MO_loop_20
  · refine lv_if_eq (tgt := 18) S.1 S.2.1 d_MO_loop_9 (by decide) (fun c9 => ?_) (fun c9 => absurd c9 (by decide))
    refine lv_bipush (v := (-4)) S.1 S.2.1 d_MO_loop_18 (by decide) ?_
    exact mm_reti S.1 S.2.1 hr hlocks hA hQ hw (md_done hP (show sp_loop t w I F st = ((-4), (upd I 0 (0)), F, st) by simp only [sp_loop, eq_true c9, eq_false hc3, not_true_eq_false, not_false_eq_true, and_true, true_and, and_false, false_and, and_self, or_true, true_or, or_false, false_or, or_self, ↓reduceIte])) (Nat.le_of_ble_eq_true rfl) (Nat.le_of_ble_eq_true rfl) d_MO_loop_20
theorem d_MO_guard_0 : decode b_MO_guard 0 = .ok (.aload_n 0, 1) := by decide +kernel
theorem d_MO_guard_1 : decode b_MO_guard 1 = .ok (.iconst 0, 1) := by decide +kernel
theorem d_MO_guard_2 : decode b_MO_guard 2 = .ok (.putfield 60, 3) := by decide +kernel
theorem d_MO_guard_5 : decode b_MO_guard 5 = .ok (.iload_n 1, 1) := by decide +kernel
theorem d_MO_guard_6 : decode b_MO_guard 6 = .ok (.invokestatic 84, 3) := by decide +kernel
theorem d_MO_guard_9 : decode b_MO_guard 9 = .ok (.ifCond .eq 14, 3) := by decide +kernel
theorem d_MO_guard_12 : decode b_MO_guard 12 = .ok (.iload_n 2, 1) := by decide +kernel
theorem d_MO_guard_13 : decode b_MO_guard 13 = .ok (.iconst 1, 1) := by decide +kernel
theorem d_MO_guard_14 : decode b_MO_guard 14 = .ok (.if_icmp .lt 9, 3) := by decide +kernel
theorem d_MO_guard_17 : decode b_MO_guard 17 = .ok (.iload_n 2, 1) := by decide +kernel
theorem d_MO_guard_18 : decode b_MO_guard 18 = .ok (.bipush 64, 2) := by decide +kernel
theorem d_MO_guard_20 : decode b_MO_guard 20 = .ok (.if_icmp .le 6, 3) := by decide +kernel
theorem d_MO_guard_23 : decode b_MO_guard 23 = .ok (.bipush (-4), 2) := by decide +kernel
theorem d_MO_guard_25 : decode b_MO_guard 25 = .ok (.ireturn, 1) := by decide +kernel
theorem d_MO_guard_26 : decode b_MO_guard 26 = .ok (.aload_n 0, 1) := by decide +kernel
theorem d_MO_guard_27 : decode b_MO_guard 27 = .ok (.getfield 90, 3) := by decide +kernel
theorem d_MO_guard_30 : decode b_MO_guard 30 = .ok (.bipush 60, 2) := by decide +kernel
theorem d_MO_guard_32 : decode b_MO_guard 32 = .ok (.if_icmp .ne 5, 3) := by decide +kernel
theorem d_MO_guard_35 : decode b_MO_guard 35 = .ok (.iconst (-1), 1) := by decide +kernel
theorem d_MO_guard_36 : decode b_MO_guard 36 = .ok (.ireturn, 1) := by decide +kernel
theorem d_MO_guard_37 : decode b_MO_guard 37 = .ok (.aload_n 0, 1) := by decide +kernel
theorem d_MO_guard_38 : decode b_MO_guard 38 = .ok (.dup, 1) := by decide +kernel
theorem d_MO_guard_39 : decode b_MO_guard 39 = .ok (.getfield 90, 3) := by decide +kernel
theorem d_MO_guard_42 : decode b_MO_guard 42 = .ok (.iconst 1, 1) := by decide +kernel
theorem d_MO_guard_43 : decode b_MO_guard 43 = .ok (.iadd, 1) := by decide +kernel
theorem d_MO_guard_44 : decode b_MO_guard 44 = .ok (.putfield 90, 3) := by decide +kernel
theorem d_MO_guard_47 : decode b_MO_guard 47 = .ok (.aload_n 0, 1) := by decide +kernel
theorem d_MO_guard_48 : decode b_MO_guard 48 = .ok (.getfield 48, 3) := by decide +kernel
theorem d_MO_guard_51 : decode b_MO_guard 51 = .ok (.aload_n 0, 1) := by decide +kernel
theorem d_MO_guard_52 : decode b_MO_guard 52 = .ok (.getfield 90, 3) := by decide +kernel
theorem d_MO_guard_55 : decode b_MO_guard 55 = .ok (.iload_n 1, 1) := by decide +kernel
theorem d_MO_guard_56 : decode b_MO_guard 56 = .ok (.iastore, 1) := by decide +kernel
theorem d_MO_guard_57 : decode b_MO_guard 57 = .ok (.aload_n 0, 1) := by decide +kernel
theorem d_MO_guard_58 : decode b_MO_guard 58 = .ok (.getfield 51, 3) := by decide +kernel
theorem d_MO_guard_61 : decode b_MO_guard 61 = .ok (.aload_n 0, 1) := by decide +kernel
theorem d_MO_guard_62 : decode b_MO_guard 62 = .ok (.getfield 90, 3) := by decide +kernel
theorem d_MO_guard_65 : decode b_MO_guard 65 = .ok (.iload_n 2, 1) := by decide +kernel
theorem d_MO_guard_66 : decode b_MO_guard 66 = .ok (.iastore, 1) := by decide +kernel
theorem d_MO_guard_67 : decode b_MO_guard 67 = .ok (.aload_n 0, 1) := by decide +kernel
theorem d_MO_guard_68 : decode b_MO_guard 68 = .ok (.getfield 54, 3) := by decide +kernel
theorem d_MO_guard_71 : decode b_MO_guard 71 = .ok (.aload_n 0, 1) := by decide +kernel
theorem d_MO_guard_72 : decode b_MO_guard 72 = .ok (.getfield 90, 3) := by decide +kernel
theorem d_MO_guard_75 : decode b_MO_guard 75 = .ok (.iconst 1, 1) := by decide +kernel
theorem d_MO_guard_76 : decode b_MO_guard 76 = .ok (.iastore, 1) := by decide +kernel
theorem d_MO_guard_77 : decode b_MO_guard 77 = .ok (.aload_n 0, 1) := by decide +kernel
theorem d_MO_guard_78 : decode b_MO_guard 78 = .ok (.getfield 90, 3) := by decide +kernel
theorem d_MO_guard_81 : decode b_MO_guard 81 = .ok (.ireturn, 1) := by decide +kernel
set_option maxHeartbeats 4000000 in
set_option maxRecDepth 100000 in
theorem c_MO_guard (l : Launch) (D : va_G) (dA : Nat → ClassId) (M : mm_M) (x : Nat) (g : Nat → Nat) (I : sI) (F : sF) (st : sT) (t z : Int32) (n : Nat) (hn : I 3 = nI n) (hN : n ≤ 60) (hP : mP dA M x g I F st) : mm_Ci l y_MO_guard w_MO_guard ({ frames := 1, cells := 0, slots := 0, locals := 20 }) 0 0 D vC (tyL dA) [.ref x, .int t, .int z] M (md_post dA x g (sp_guard t z I F st)) := by
  intro sz
  refine mm_start (by decide) (Nat.le_of_ble_eq_true rfl) ?_
  intro p e s m below meth c A Q ls hA hQ S hr hlocks hin hK hw hl
  have hl : lv_has ls 3 [(0, .ref x), (1, .int t), (2, .int z)] := hl
  refine lv_aload_n S.1 S.2.1 d_MO_guard_0 rfl (lv_at hl 0 rfl) ?_
  refine lv_iconst (v := 0) S.1 S.2.1 d_MO_guard_1 (by decide) ?_
  refine mm_put (C := R_MO) (T := T_MO) (N := 22) (ty := .int) (v := .int 0) S hK.1 hw hP.2.1 rfl in_MO t_MO k_MO n_MO 0 (by decide) gw_370 rfl rfl (by decide +kernel) rfl rfl (Nat.le_of_ble_eq_true rfl) d_MO_guard_2 (fun H locs hw => ?_)
  obtain ⟨M, hw, hP⟩ := md_puti (k := 0) (v := 0) (by decide) hw hP
  refine lv_iload_n S.1 S.2.1 d_MO_guard_5 rfl (lv_at hl 1 rfl) ?_
  refine mm_calli hw (mm_runS (As := [.int t]) (rest := []) S hK hw (c_MO_isTask l D dA _ t _) bs_MO_isTask gw_481 (⟨rfl, rfl, by decide, by decide, by decide, by decide⟩) hl.1 rfl rfl (Nat.le_of_ble_eq_true rfl) d_MO_guard_6) (fun r1 M2 H locs hp hw => ?_)
  rw [hp.1] at hw
  rcases hp.2 with ⟨rfl, hc3⟩ | ⟨rfl, hc3⟩
  · obtain ⟨j4, ekj4, hlj4, hhj4, enj4⟩ := is_of (N := 40) rfl (by omega) hc3
    refine lv_if_eq (tgt := 23) S.1 S.2.1 d_MO_guard_9 (by decide) (fun c9 => absurd c9 (by decide)) (fun c9 => ?_)
    refine lv_iload_n S.1 S.2.1 d_MO_guard_12 rfl (lv_at hl 2 rfl) ?_
    refine lv_iconst (v := 1) S.1 S.2.1 d_MO_guard_13 (by decide) ?_
    refine lv_icmp_lt (tgt := 23) S.1 S.2.1 d_MO_guard_14 (by decide) (fun c14 => ?_) (fun c14 => ?_)
    · refine lv_bipush (v := (-4)) S.1 S.2.1 d_MO_guard_23 (by decide) ?_
      exact mm_reti S.1 S.2.1 hr hlocks hA hQ hw (md_done hP (show sp_guard t z I F st = ((-4), (upd I 0 (0)), F, st) by simp only [sp_guard, eq_false c9, eq_true c14, eq_true hc3, not_true_eq_false, not_false_eq_true, and_true, true_and, and_false, false_and, and_self, or_true, true_or, or_false, false_or, or_self, ↓reduceIte])) (Nat.le_of_ble_eq_true rfl) (Nat.le_of_ble_eq_true rfl) d_MO_guard_25
    · refine lv_iload_n S.1 S.2.1 d_MO_guard_17 rfl (lv_at hl 2 rfl) ?_
      refine lv_bipush (v := 64) S.1 S.2.1 d_MO_guard_18 (by decide) ?_
      refine lv_icmp_le (tgt := 26) S.1 S.2.1 d_MO_guard_20 (by decide) (fun c20 => ?_) (fun c20 => ?_)
      · refine lv_aload_n S.1 S.2.1 d_MO_guard_26 rfl (lv_at hl 0 rfl) ?_
        refine mm_get (C := R_MO) (T := T_MO) (N := 22) (v := .int (I 3)) S hK.1 hw hP.2.1 rfl in_MO 3 (by decide) gw_373 rfl rfl d_MO_guard_27 ?_
        refine lv_bipush (v := 60) S.1 S.2.1 d_MO_guard_30 (by decide) ?_
        refine lv_icmp_ne (tgt := 37) S.1 S.2.1 d_MO_guard_32 (by decide) (fun c32 => ?_) (fun c32 => ?_)
        · refine lv_aload_n S.1 S.2.1 d_MO_guard_37 rfl (lv_at hl 0 rfl) ?_
          refine lv_dup S.1 S.2.1 d_MO_guard_38 rfl ?_
          refine mm_get (C := R_MO) (T := T_MO) (N := 22) (v := .int (I 3)) S hK.1 hw hP.2.1 rfl in_MO 3 (by decide) gw_373 rfl rfl d_MO_guard_39 ?_
          refine lv_iconst (v := 1) S.1 S.2.1 d_MO_guard_42 (by decide) ?_
          refine lv_iadd S.1 S.2.1 d_MO_guard_43 ?_
          have hn1 : n + 1 < 61 := by
            rcases Nat.lt_or_ge n 60 with q | q
            · omega
            · exact absurd (by rw [hn, show n = 60 by omega]; rfl) c32
          refine mm_put (C := R_MO) (T := T_MO) (N := 22) (ty := .int) (v := .int ((I 3) + 1)) S hK.1 hw hP.2.1 rfl in_MO t_MO k_MO n_MO 3 (by decide) gw_373 rfl rfl (by decide +kernel) rfl rfl (Nat.le_of_ble_eq_true rfl) d_MO_guard_44 (fun H locs hw => ?_)
          obtain ⟨M, hw, hP⟩ := md_puti (k := 3) (v := ((I 3) + 1)) (by decide) hw hP
          refine lv_aload_n S.1 S.2.1 d_MO_guard_47 rfl (lv_at hl 0 rfl) ?_
          refine mm_get (C := R_MO) (T := T_MO) (N := 22) (v := .ref (g 12)) S hK.1 hw hP.2.1 rfl in_MO 18 (by decide) gw_388 rfl rfl d_MO_guard_48 ?_
          refine lv_aload_n S.1 S.2.1 d_MO_guard_51 rfl (lv_at hl 0 rfl) ?_
          refine mm_get (C := R_MO) (T := T_MO) (N := 22) (v := .int (((I 3) + 1))) S hK.1 hw hP.2.1 rfl in_MO 3 (by decide) gw_373 rfl rfl d_MO_guard_52 ?_
          refine lv_iload_n S.1 S.2.1 d_MO_guard_55 rfl (lv_at hl 1 rfl) ?_
          refine mn_iast (j := cN (I 3 + 1)) (n := 61) (f := F 12) S hK.1 hw 0 (mP_a (k := 12) (F := F) hP (by decide) (by decide)) rfl (by rw [hn, cN_s (by omega)]; exact nI_1 n) (by rw [hn, cN_s (by omega)]; omega) (by decide) d_MO_guard_56 (fun H locs hw => ?_)
          obtain ⟨M, hw, hP⟩ := md_ast (k := 12) (j := cN (I 3 + 1)) (v := t) (F := F) (by decide) (by decide) hw hP
          refine lv_aload_n S.1 S.2.1 d_MO_guard_57 rfl (lv_at hl 0 rfl) ?_
          refine mm_get (C := R_MO) (T := T_MO) (N := 22) (v := .ref (g 13)) S hK.1 hw hP.2.1 rfl in_MO 19 (by decide) gw_389 rfl rfl d_MO_guard_58 ?_
          refine lv_aload_n S.1 S.2.1 d_MO_guard_61 rfl (lv_at hl 0 rfl) ?_
          refine mm_get (C := R_MO) (T := T_MO) (N := 22) (v := .int (((I 3) + 1))) S hK.1 hw hP.2.1 rfl in_MO 3 (by decide) gw_373 rfl rfl d_MO_guard_62 ?_
          refine lv_iload_n S.1 S.2.1 d_MO_guard_65 rfl (lv_at hl 2 rfl) ?_
          refine mn_iast (j := cN (I 3 + 1)) (n := 61) (f := F 13) S hK.1 hw 0 (mP_a (k := 13) (F := (va_up F 12 (upd (F 12) (cN (I 3 + 1)) (t)))) hP (by decide) (by decide)) rfl (by rw [hn, cN_s (by omega)]; exact nI_1 n) (by rw [hn, cN_s (by omega)]; omega) (by decide) d_MO_guard_66 (fun H locs hw => ?_)
          obtain ⟨M, hw, hP⟩ := md_ast (k := 13) (j := cN (I 3 + 1)) (v := z) (F := (va_up F 12 (upd (F 12) (cN (I 3 + 1)) (t)))) (by decide) (by decide) hw hP
          refine lv_aload_n S.1 S.2.1 d_MO_guard_67 rfl (lv_at hl 0 rfl) ?_
          refine mm_get (C := R_MO) (T := T_MO) (N := 22) (v := .ref (g 14)) S hK.1 hw hP.2.1 rfl in_MO 20 (by decide) gw_390 rfl rfl d_MO_guard_68 ?_
          refine lv_aload_n S.1 S.2.1 d_MO_guard_71 rfl (lv_at hl 0 rfl) ?_
          refine mm_get (C := R_MO) (T := T_MO) (N := 22) (v := .int (((I 3) + 1))) S hK.1 hw hP.2.1 rfl in_MO 3 (by decide) gw_373 rfl rfl d_MO_guard_72 ?_
          refine lv_iconst (v := 1) S.1 S.2.1 d_MO_guard_75 (by decide) ?_
          refine mn_iast (j := cN (I 3 + 1)) (n := 61) (f := F 14) S hK.1 hw 0 (mP_a (k := 14) (F := (va_up (va_up F 12 (upd (F 12) (cN (I 3 + 1)) (t))) 13 (upd (F 13) (cN (I 3 + 1)) (z)))) hP (by decide) (by decide)) rfl (by rw [hn, cN_s (by omega)]; exact nI_1 n) (by rw [hn, cN_s (by omega)]; omega) (by decide) d_MO_guard_76 (fun H locs hw => ?_)
          obtain ⟨M, hw, hP⟩ := md_ast (k := 14) (j := cN (I 3 + 1)) (v := 1) (F := (va_up (va_up F 12 (upd (F 12) (cN (I 3 + 1)) (t))) 13 (upd (F 13) (cN (I 3 + 1)) (z)))) (by decide) (by decide) hw hP
          refine lv_aload_n S.1 S.2.1 d_MO_guard_77 rfl (lv_at hl 0 rfl) ?_
          refine mm_get (C := R_MO) (T := T_MO) (N := 22) (v := .int (((I 3) + 1))) S hK.1 hw hP.2.1 rfl in_MO 3 (by decide) gw_373 rfl rfl d_MO_guard_78 ?_
          exact mm_reti S.1 S.2.1 hr hlocks hA hQ hw (md_done hP (show sp_guard t z I F st = ((((I 3) + 1)), (upd (upd I 0 (0)) 3 (((I 3) + 1))), (va_up (va_up (va_up F 12 (upd (F 12) (cN (I 3 + 1)) (t))) 13 (upd (F 13) (cN (I 3 + 1)) (z))) 14 (upd (F 14) (cN (I 3 + 1)) (1))), st) by simp only [sp_guard, eq_false c9, eq_false c14, eq_true c20, eq_false c32, eq_true hc3, not_true_eq_false, not_false_eq_true, and_true, true_and, and_false, false_and, and_self, or_true, true_or, or_false, false_or, or_self, ↓reduceIte])) (Nat.le_of_ble_eq_true rfl) (Nat.le_of_ble_eq_true rfl) d_MO_guard_81
        · refine lv_iconst (v := (-1)) S.1 S.2.1 d_MO_guard_35 (by decide) ?_
          exact mm_reti S.1 S.2.1 hr hlocks hA hQ hw (md_done hP (show sp_guard t z I F st = ((-1), (upd I 0 (0)), F, st) by simp only [sp_guard, eq_false c9, eq_false c14, eq_true c20, eq_true c32, eq_true hc3, not_true_eq_false, not_false_eq_true, and_true, true_and, and_false, false_and, and_self, or_true, true_or, or_false, false_or, or_self, ↓reduceIte])) (Nat.le_of_ble_eq_true rfl) (Nat.le_of_ble_eq_true rfl) d_MO_guard_36
      · refine lv_bipush (v := (-4)) S.1 S.2.1 d_MO_guard_23 (by decide) ?_
        exact mm_reti S.1 S.2.1 hr hlocks hA hQ hw (md_done hP (show sp_guard t z I F st = ((-4), (upd I 0 (0)), F, st) by simp only [sp_guard, eq_false c9, eq_false c14, eq_false c20, eq_true hc3, not_true_eq_false, not_false_eq_true, and_true, true_and, and_false, false_and, and_self, or_true, true_or, or_false, false_or, or_self, ↓reduceIte])) (Nat.le_of_ble_eq_true rfl) (Nat.le_of_ble_eq_true rfl) d_MO_guard_25
  · refine lv_if_eq (tgt := 23) S.1 S.2.1 d_MO_guard_9 (by decide) (fun c9 => ?_) (fun c9 => absurd c9 (by decide))
    refine lv_bipush (v := (-4)) S.1 S.2.1 d_MO_guard_23 (by decide) ?_
    exact mm_reti S.1 S.2.1 hr hlocks hA hQ hw (md_done hP (show sp_guard t z I F st = ((-4), (upd I 0 (0)), F, st) by simp only [sp_guard, eq_true c9, eq_false hc3, not_true_eq_false, not_false_eq_true, and_true, true_and, and_false, false_and, and_self, or_true, true_or, or_false, false_or, or_self, ↓reduceIte])) (Nat.le_of_ble_eq_true rfl) (Nat.le_of_ble_eq_true rfl) d_MO_guard_25
theorem d_MO_write_0 : decode b_MO_write 0 = .ok (.aload_n 0, 1) := by decide +kernel
theorem d_MO_write_1 : decode b_MO_write 1 = .ok (.iconst 0, 1) := by decide +kernel
theorem d_MO_write_2 : decode b_MO_write 2 = .ok (.putfield 60, 3) := by decide +kernel
theorem d_MO_write_5 : decode b_MO_write 5 = .ok (.aload_n 0, 1) := by decide +kernel
theorem d_MO_write_6 : decode b_MO_write 6 = .ok (.iload_n 1, 1) := by decide +kernel
theorem d_MO_write_7 : decode b_MO_write 7 = .ok (.invokevirtual 95, 3) := by decide +kernel
theorem d_MO_write_10 : decode b_MO_write 10 = .ok (.ifCond .ne 6, 3) := by decide +kernel
theorem d_MO_write_13 : decode b_MO_write 13 = .ok (.bipush (-2), 2) := by decide +kernel
theorem d_MO_write_15 : decode b_MO_write 15 = .ok (.ireturn, 1) := by decide +kernel
theorem d_MO_write_16 : decode b_MO_write 16 = .ok (.iload_n 2, 1) := by decide +kernel
theorem d_MO_write_17 : decode b_MO_write 17 = .ok (.iconst (-1), 1) := by decide +kernel
theorem d_MO_write_18 : decode b_MO_write 18 = .ok (.if_icmp .lt 13, 3) := by decide +kernel
theorem d_MO_write_21 : decode b_MO_write 21 = .ok (.iload_n 2, 1) := by decide +kernel
theorem d_MO_write_22 : decode b_MO_write 22 = .ok (.aload_n 0, 1) := by decide +kernel
theorem d_MO_write_23 : decode b_MO_write 23 = .ok (.getfield 51, 3) := by decide +kernel
theorem d_MO_write_26 : decode b_MO_write 26 = .ok (.iload_n 1, 1) := by decide +kernel
theorem d_MO_write_27 : decode b_MO_write 27 = .ok (.iaload, 1) := by decide +kernel
theorem d_MO_write_28 : decode b_MO_write 28 = .ok (.if_icmp .le 6, 3) := by decide +kernel
theorem d_MO_write_31 : decode b_MO_write 31 = .ok (.bipush (-4), 2) := by decide +kernel
theorem d_MO_write_33 : decode b_MO_write 33 = .ok (.ireturn, 1) := by decide +kernel
theorem d_MO_write_34 : decode b_MO_write 34 = .ok (.iload_n 2, 1) := by decide +kernel
theorem d_MO_write_35 : decode b_MO_write 35 = .ok (.iconst (-1), 1) := by decide +kernel
theorem d_MO_write_36 : decode b_MO_write 36 = .ok (.if_icmp .eq 13, 3) := by decide +kernel
theorem d_MO_write_39 : decode b_MO_write 39 = .ok (.iload_n 2, 1) := by decide +kernel
theorem d_MO_write_40 : decode b_MO_write 40 = .ok (.aload_n 0, 1) := by decide +kernel
theorem d_MO_write_41 : decode b_MO_write 41 = .ok (.getfield 51, 3) := by decide +kernel
theorem d_MO_write_44 : decode b_MO_write 44 = .ok (.iload_n 1, 1) := by decide +kernel
theorem d_MO_write_45 : decode b_MO_write 45 = .ok (.iaload, 1) := by decide +kernel
theorem d_MO_write_46 : decode b_MO_write 46 = .ok (.if_icmp .ne 10, 3) := by decide +kernel
theorem d_MO_write_49 : decode b_MO_write 49 = .ok (.aload_n 0, 1) := by decide +kernel
theorem d_MO_write_50 : decode b_MO_write 50 = .ok (.getfield 54, 3) := by decide +kernel
theorem d_MO_write_53 : decode b_MO_write 53 = .ok (.iload_n 1, 1) := by decide +kernel
theorem d_MO_write_54 : decode b_MO_write 54 = .ok (.iconst 2, 1) := by decide +kernel
theorem d_MO_write_55 : decode b_MO_write 55 = .ok (.iastore, 1) := by decide +kernel
theorem d_MO_write_56 : decode b_MO_write 56 = .ok (.aload_n 0, 1) := by decide +kernel
theorem d_MO_write_57 : decode b_MO_write 57 = .ok (.getfield 54, 3) := by decide +kernel
theorem d_MO_write_60 : decode b_MO_write 60 = .ok (.iload_n 1, 1) := by decide +kernel
theorem d_MO_write_61 : decode b_MO_write 61 = .ok (.iaload, 1) := by decide +kernel
theorem d_MO_write_62 : decode b_MO_write 62 = .ok (.iconst 2, 1) := by decide +kernel
theorem d_MO_write_63 : decode b_MO_write 63 = .ok (.if_icmp .ne 7, 3) := by decide +kernel
theorem d_MO_write_66 : decode b_MO_write 66 = .ok (.iconst 0, 1) := by decide +kernel
theorem d_MO_write_67 : decode b_MO_write 67 = .ok (.goto 4, 3) := by decide +kernel
theorem d_MO_write_70 : decode b_MO_write 70 = .ok (.iconst 1, 1) := by decide +kernel
theorem d_MO_write_71 : decode b_MO_write 71 = .ok (.ireturn, 1) := by decide +kernel
set_option maxHeartbeats 4000000 in
set_option maxRecDepth 100000 in
theorem c_MO_write (l : Launch) (D : va_G) (dA : Nat → ClassId) (M : mm_M) (x : Nat) (g : Nat → Nat) (I : sI) (F : sF) (st : sT) (q i : Int32) (n : Nat) (hn : I 3 = nI n) (hN : n ≤ 60) (hP : mP dA M x g I F st) : mm_Ci l y_MO_write w_MO_write ({ frames := 1, cells := 0, slots := 0, locals := 21 }) 0 0 D vC (tyL dA) [.ref x, .int q, .int i] M (md_post dA x g (sp_write q i I F st)) := by
  intro sz
  refine mm_start (by decide) (Nat.le_of_ble_eq_true rfl) ?_
  intro p e s m below meth c A Q ls hA hQ S hr hlocks hin hK hw hl
  have hl : lv_has ls 3 [(0, .ref x), (1, .int q), (2, .int i)] := hl
  refine lv_aload_n S.1 S.2.1 d_MO_write_0 rfl (lv_at hl 0 rfl) ?_
  refine lv_iconst (v := 0) S.1 S.2.1 d_MO_write_1 (by decide) ?_
  refine mm_put (C := R_MO) (T := T_MO) (N := 22) (ty := .int) (v := .int 0) S hK.1 hw hP.2.1 rfl in_MO t_MO k_MO n_MO 0 (by decide) gw_370 rfl rfl (by decide +kernel) rfl rfl (Nat.le_of_ble_eq_true rfl) d_MO_write_2 (fun H locs hw => ?_)
  obtain ⟨M, hw, hP⟩ := md_puti (k := 0) (v := 0) (by decide) hw hP
  refine lv_aload_n S.1 S.2.1 d_MO_write_5 rfl (lv_at hl 0 rfl) ?_
  refine lv_iload_n S.1 S.2.1 d_MO_write_6 rfl (lv_at hl 1 rfl) ?_
  refine mm_calli hw (mm_runV (a := x) (As := [.int q]) (rest := []) S hK hw (c_MO_isGuard l D dA _ x g (upd I 0 (0)) F st q n hn hN hP _) bv_MO_isGuard gw_505 hP.2.1 rfl (⟨rfl, rfl, by decide, by decide, by decide, by decide⟩) hl.1 rfl rfl (Nat.le_of_ble_eq_true rfl) d_MO_write_7) (fun r1 M2 H locs hp hw => ?_)
  rw [hp.1] at hw
  rcases hp.2 with ⟨rfl, hc3⟩ | ⟨rfl, hc3⟩
  · have hc3 : is_gd I F (q) := hc3
    obtain ⟨j4, ekj4, hlj4, hhj4, enj4⟩ := is_of (N := n) hn (by omega) hc3.1
    refine lv_if_ne (tgt := 16) S.1 S.2.1 d_MO_write_10 (by decide) (fun c10 => ?_) (fun c10 => absurd c10 (by decide))
    refine lv_iload_n S.1 S.2.1 d_MO_write_16 rfl (lv_at hl 2 rfl) ?_
    refine lv_iconst (v := (-1)) S.1 S.2.1 d_MO_write_17 (by decide) ?_
    refine lv_icmp_lt (tgt := 31) S.1 S.2.1 d_MO_write_18 (by decide) (fun c18 => ?_) (fun c18 => ?_)
    · refine lv_bipush (v := (-4)) S.1 S.2.1 d_MO_write_31 (by decide) ?_
      exact mm_reti S.1 S.2.1 hr hlocks hA hQ hw (md_done hP (show sp_write q i I F st = ((-4), (upd I 0 (0)), F, st) by simp only [sp_write, eq_false c10, eq_true c18, eq_true hc3, not_true_eq_false, not_false_eq_true, and_true, true_and, and_false, false_and, and_self, or_true, true_or, or_false, false_or, or_self, ↓reduceIte])) (Nat.le_of_ble_eq_true rfl) (Nat.le_of_ble_eq_true rfl) d_MO_write_33
    · refine lv_iload_n S.1 S.2.1 d_MO_write_21 rfl (lv_at hl 2 rfl) ?_
      refine lv_aload_n S.1 S.2.1 d_MO_write_22 rfl (lv_at hl 0 rfl) ?_
      refine mm_get (C := R_MO) (T := T_MO) (N := 22) (v := .ref (g 13)) S hK.1 hw hP.2.1 rfl in_MO 19 (by decide) gw_389 rfl rfl d_MO_write_23 ?_
      refine lv_iload_n S.1 S.2.1 d_MO_write_26 rfl (lv_at hl 1 rfl) ?_
      refine mn_iald (j := cN q) (n := 61) (f := F 13) S hK.1 hw 0 (mP_a (k := 13) (F := F) hP (by decide) (by decide)) rfl (cl_nI (is_le0 hc3.1.1)) (by rw [cN, enj4]; omega) (by decide) d_MO_write_27 ?_
      refine lv_icmp_le (tgt := 34) S.1 S.2.1 d_MO_write_28 (by decide) (fun c28 => ?_) (fun c28 => ?_)
      · refine lv_iload_n S.1 S.2.1 d_MO_write_34 rfl (lv_at hl 2 rfl) ?_
        refine lv_iconst (v := (-1)) S.1 S.2.1 d_MO_write_35 (by decide) ?_
        refine lv_icmp_eq (tgt := 49) S.1 S.2.1 d_MO_write_36 (by decide) (fun c36 => ?_) (fun c36 => ?_)
        · refine lv_aload_n S.1 S.2.1 d_MO_write_49 rfl (lv_at hl 0 rfl) ?_
          refine mm_get (C := R_MO) (T := T_MO) (N := 22) (v := .ref (g 14)) S hK.1 hw hP.2.1 rfl in_MO 20 (by decide) gw_390 rfl rfl d_MO_write_50 ?_
          refine lv_iload_n S.1 S.2.1 d_MO_write_53 rfl (lv_at hl 1 rfl) ?_
          refine lv_iconst (v := 2) S.1 S.2.1 d_MO_write_54 (by decide) ?_
          refine mn_iast (j := cN q) (n := 61) (f := F 14) S hK.1 hw 0 (mP_a (k := 14) (F := F) hP (by decide) (by decide)) rfl (cl_nI (is_le0 hc3.1.1)) (by rw [cN, enj4]; omega) (by decide) d_MO_write_55 (fun H locs hw => ?_)
          obtain ⟨M, hw, hP⟩ := md_ast (k := 14) (j := cN q) (v := 2) (F := F) (by decide) (by decide) hw hP
          refine lv_aload_n S.1 S.2.1 d_MO_write_56 rfl (lv_at hl 0 rfl) ?_
          refine mm_get (C := R_MO) (T := T_MO) (N := 22) (v := .ref (g 14)) S hK.1 hw hP.2.1 rfl in_MO 20 (by decide) gw_390 rfl rfl d_MO_write_57 ?_
          refine lv_iload_n S.1 S.2.1 d_MO_write_60 rfl (lv_at hl 1 rfl) ?_
          refine mn_iald (j := cN q) (n := 61) (f := upd (F 14) (cN q) (2)) S hK.1 hw 0 (mP_a (k := 14) (F := (va_up F 14 (upd (F 14) (cN q) (2)))) hP (by decide) (by decide)) rfl (cl_nI (is_le0 hc3.1.1)) (by rw [cN, enj4]; omega) (by decide) d_MO_write_61 ?_
          rw [pk_us]
          refine lv_iconst (v := 2) S.1 S.2.1 d_MO_write_62 (by decide) ?_
          refine lv_icmp_ne (tgt := 70) S.1 S.2.1 d_MO_write_63 (by decide) (fun c63 => absurd c63 (by decide)) (fun c63 => ?_)
          refine lv_iconst (v := 0) S.1 S.2.1 d_MO_write_66 (by decide) ?_
          refine lv_goto (tgt := 71) S.1 S.2.1 d_MO_write_67 (by decide) ?_
          exact mm_reti S.1 S.2.1 hr hlocks hA hQ hw (md_done hP (show sp_write q i I F st = (0, (upd I 0 (0)), (va_up F 14 (upd (F 14) (cN q) (2))), st) by simp only [sp_write, eq_false c10, eq_false c18, eq_true c28, eq_true c36, eq_true c63, eq_true hc3, not_true_eq_false, not_false_eq_true, and_true, true_and, and_false, false_and, and_self, or_true, true_or, or_false, false_or, or_self, ↓reduceIte])) (Nat.le_of_ble_eq_true rfl) (Nat.le_of_ble_eq_true rfl) d_MO_write_71
        · refine lv_iload_n S.1 S.2.1 d_MO_write_39 rfl (lv_at hl 2 rfl) ?_
          refine lv_aload_n S.1 S.2.1 d_MO_write_40 rfl (lv_at hl 0 rfl) ?_
          refine mm_get (C := R_MO) (T := T_MO) (N := 22) (v := .ref (g 13)) S hK.1 hw hP.2.1 rfl in_MO 19 (by decide) gw_389 rfl rfl d_MO_write_41 ?_
          refine lv_iload_n S.1 S.2.1 d_MO_write_44 rfl (lv_at hl 1 rfl) ?_
          refine mn_iald (j := cN q) (n := 61) (f := F 13) S hK.1 hw 0 (mP_a (k := 13) (F := F) hP (by decide) (by decide)) rfl (cl_nI (is_le0 hc3.1.1)) (by rw [cN, enj4]; omega) (by decide) d_MO_write_45 ?_
          refine lv_icmp_ne (tgt := 56) S.1 S.2.1 d_MO_write_46 (by decide) (fun c46 => ?_) (fun c46 => ?_)
          · refine lv_aload_n S.1 S.2.1 d_MO_write_56 rfl (lv_at hl 0 rfl) ?_
            refine mm_get (C := R_MO) (T := T_MO) (N := 22) (v := .ref (g 14)) S hK.1 hw hP.2.1 rfl in_MO 20 (by decide) gw_390 rfl rfl d_MO_write_57 ?_
            refine lv_iload_n S.1 S.2.1 d_MO_write_60 rfl (lv_at hl 1 rfl) ?_
            refine mn_iald (j := cN q) (n := 61) (f := F 14) S hK.1 hw 0 (mP_a (k := 14) (F := F) hP (by decide) (by decide)) rfl (cl_nI (is_le0 hc3.1.1)) (by rw [cN, enj4]; omega) (by decide) d_MO_write_61 ?_
            refine lv_iconst (v := 2) S.1 S.2.1 d_MO_write_62 (by decide) ?_
            refine lv_icmp_ne (tgt := 70) S.1 S.2.1 d_MO_write_63 (by decide) (fun c63 => ?_) (fun c63 => ?_)
            · refine lv_iconst (v := 1) S.1 S.2.1 d_MO_write_70 (by decide) ?_
              exact mm_reti S.1 S.2.1 hr hlocks hA hQ hw (md_done hP (show sp_write q i I F st = (1, (upd I 0 (0)), F, st) by simp only [sp_write, eq_false c10, eq_false c18, eq_true c28, eq_false c36, eq_false c46, eq_false c63, eq_true hc3, not_true_eq_false, not_false_eq_true, and_true, true_and, and_false, false_and, and_self, or_true, true_or, or_false, false_or, or_self, ↓reduceIte])) (Nat.le_of_ble_eq_true rfl) (Nat.le_of_ble_eq_true rfl) d_MO_write_71
            · refine lv_iconst (v := 0) S.1 S.2.1 d_MO_write_66 (by decide) ?_
              refine lv_goto (tgt := 71) S.1 S.2.1 d_MO_write_67 (by decide) ?_
              exact mm_reti S.1 S.2.1 hr hlocks hA hQ hw (md_done hP (show sp_write q i I F st = (0, (upd I 0 (0)), F, st) by simp only [sp_write, eq_false c10, eq_false c18, eq_true c28, eq_false c36, eq_false c46, eq_true c63, eq_true hc3, not_true_eq_false, not_false_eq_true, and_true, true_and, and_false, false_and, and_self, or_true, true_or, or_false, false_or, or_self, ↓reduceIte])) (Nat.le_of_ble_eq_true rfl) (Nat.le_of_ble_eq_true rfl) d_MO_write_71
          · refine lv_aload_n S.1 S.2.1 d_MO_write_49 rfl (lv_at hl 0 rfl) ?_
            refine mm_get (C := R_MO) (T := T_MO) (N := 22) (v := .ref (g 14)) S hK.1 hw hP.2.1 rfl in_MO 20 (by decide) gw_390 rfl rfl d_MO_write_50 ?_
            refine lv_iload_n S.1 S.2.1 d_MO_write_53 rfl (lv_at hl 1 rfl) ?_
            refine lv_iconst (v := 2) S.1 S.2.1 d_MO_write_54 (by decide) ?_
            refine mn_iast (j := cN q) (n := 61) (f := F 14) S hK.1 hw 0 (mP_a (k := 14) (F := F) hP (by decide) (by decide)) rfl (cl_nI (is_le0 hc3.1.1)) (by rw [cN, enj4]; omega) (by decide) d_MO_write_55 (fun H locs hw => ?_)
            obtain ⟨M, hw, hP⟩ := md_ast (k := 14) (j := cN q) (v := 2) (F := F) (by decide) (by decide) hw hP
            refine lv_aload_n S.1 S.2.1 d_MO_write_56 rfl (lv_at hl 0 rfl) ?_
            refine mm_get (C := R_MO) (T := T_MO) (N := 22) (v := .ref (g 14)) S hK.1 hw hP.2.1 rfl in_MO 20 (by decide) gw_390 rfl rfl d_MO_write_57 ?_
            refine lv_iload_n S.1 S.2.1 d_MO_write_60 rfl (lv_at hl 1 rfl) ?_
            refine mn_iald (j := cN q) (n := 61) (f := upd (F 14) (cN q) (2)) S hK.1 hw 0 (mP_a (k := 14) (F := (va_up F 14 (upd (F 14) (cN q) (2)))) hP (by decide) (by decide)) rfl (cl_nI (is_le0 hc3.1.1)) (by rw [cN, enj4]; omega) (by decide) d_MO_write_61 ?_
            rw [pk_us]
            refine lv_iconst (v := 2) S.1 S.2.1 d_MO_write_62 (by decide) ?_
            refine lv_icmp_ne (tgt := 70) S.1 S.2.1 d_MO_write_63 (by decide) (fun c63 => absurd c63 (by decide)) (fun c63 => ?_)
            refine lv_iconst (v := 0) S.1 S.2.1 d_MO_write_66 (by decide) ?_
            refine lv_goto (tgt := 71) S.1 S.2.1 d_MO_write_67 (by decide) ?_
            exact mm_reti S.1 S.2.1 hr hlocks hA hQ hw (md_done hP (show sp_write q i I F st = (0, (upd I 0 (0)), (va_up F 14 (upd (F 14) (cN q) (2))), st) by simp only [sp_write, eq_false c10, eq_false c18, eq_true c28, eq_false c36, eq_true c46, eq_true c63, eq_true hc3, not_true_eq_false, not_false_eq_true, and_true, true_and, and_false, false_and, and_self, or_true, true_or, or_false, false_or, or_self, ↓reduceIte])) (Nat.le_of_ble_eq_true rfl) (Nat.le_of_ble_eq_true rfl) d_MO_write_71
      · refine lv_bipush (v := (-4)) S.1 S.2.1 d_MO_write_31 (by decide) ?_
        exact mm_reti S.1 S.2.1 hr hlocks hA hQ hw (md_done hP (show sp_write q i I F st = ((-4), (upd I 0 (0)), F, st) by simp only [sp_write, eq_false c10, eq_false c18, eq_false c28, eq_true hc3, not_true_eq_false, not_false_eq_true, and_true, true_and, and_false, false_and, and_self, or_true, true_or, or_false, false_or, or_self, ↓reduceIte])) (Nat.le_of_ble_eq_true rfl) (Nat.le_of_ble_eq_true rfl) d_MO_write_33
  · have hc3 : ¬ is_gd I F (q) := hc3
    refine lv_if_ne (tgt := 16) S.1 S.2.1 d_MO_write_10 (by decide) (fun c10 => absurd c10 (by decide)) (fun c10 => ?_)
    refine lv_bipush (v := (-2)) S.1 S.2.1 d_MO_write_13 (by decide) ?_
    exact mm_reti S.1 S.2.1 hr hlocks hA hQ hw (md_done hP (show sp_write q i I F st = ((-2), (upd I 0 (0)), F, st) by simp only [sp_write, eq_true c10, eq_false hc3, not_true_eq_false, not_false_eq_true, and_true, true_and, and_false, false_and, and_self, or_true, true_or, or_false, false_or, or_self, ↓reduceIte])) (Nat.le_of_ble_eq_true rfl) (Nat.le_of_ble_eq_true rfl) d_MO_write_15
theorem d_MO_free_0 : decode b_MO_free 0 = .ok (.aload_n 0, 1) := by decide +kernel
theorem d_MO_free_1 : decode b_MO_free 1 = .ok (.iconst 0, 1) := by decide +kernel
theorem d_MO_free_2 : decode b_MO_free 2 = .ok (.putfield 60, 3) := by decide +kernel
theorem d_MO_free_5 : decode b_MO_free 5 = .ok (.aload_n 0, 1) := by decide +kernel
theorem d_MO_free_6 : decode b_MO_free 6 = .ok (.iload_n 1, 1) := by decide +kernel
theorem d_MO_free_7 : decode b_MO_free 7 = .ok (.invokevirtual 95, 3) := by decide +kernel
theorem d_MO_free_10 : decode b_MO_free 10 = .ok (.ifCond .ne 6, 3) := by decide +kernel
theorem d_MO_free_13 : decode b_MO_free 13 = .ok (.bipush (-2), 2) := by decide +kernel
theorem d_MO_free_15 : decode b_MO_free 15 = .ok (.ireturn, 1) := by decide +kernel
theorem d_MO_free_16 : decode b_MO_free 16 = .ok (.aload_n 0, 1) := by decide +kernel
theorem d_MO_free_17 : decode b_MO_free 17 = .ok (.getfield 54, 3) := by decide +kernel
theorem d_MO_free_20 : decode b_MO_free 20 = .ok (.iload_n 1, 1) := by decide +kernel
theorem d_MO_free_21 : decode b_MO_free 21 = .ok (.iaload, 1) := by decide +kernel
theorem d_MO_free_22 : decode b_MO_free 22 = .ok (.iconst 2, 1) := by decide +kernel
theorem d_MO_free_23 : decode b_MO_free 23 = .ok (.if_icmp .ne 15, 3) := by decide +kernel
theorem d_MO_free_26 : decode b_MO_free 26 = .ok (.bipush (-10), 2) := by decide +kernel
theorem d_MO_free_28 : decode b_MO_free 28 = .ok (.aload_n 0, 1) := by decide +kernel
theorem d_MO_free_29 : decode b_MO_free 29 = .ok (.getfield 48, 3) := by decide +kernel
theorem d_MO_free_32 : decode b_MO_free 32 = .ok (.iload_n 1, 1) := by decide +kernel
theorem d_MO_free_33 : decode b_MO_free 33 = .ok (.iaload, 1) := by decide +kernel
theorem d_MO_free_34 : decode b_MO_free 34 = .ok (.isub, 1) := by decide +kernel
theorem d_MO_free_35 : decode b_MO_free 35 = .ok (.goto 4, 3) := by decide +kernel
theorem d_MO_free_38 : decode b_MO_free 38 = .ok (.iconst 1, 1) := by decide +kernel
theorem d_MO_free_39 : decode b_MO_free 39 = .ok (.istore_n 2, 1) := by decide +kernel
theorem d_MO_free_40 : decode b_MO_free 40 = .ok (.aload_n 0, 1) := by decide +kernel
theorem d_MO_free_41 : decode b_MO_free 41 = .ok (.getfield 54, 3) := by decide +kernel
theorem d_MO_free_44 : decode b_MO_free 44 = .ok (.iload_n 1, 1) := by decide +kernel
theorem d_MO_free_45 : decode b_MO_free 45 = .ok (.iconst 0, 1) := by decide +kernel
theorem d_MO_free_46 : decode b_MO_free 46 = .ok (.iastore, 1) := by decide +kernel
theorem d_MO_free_47 : decode b_MO_free 47 = .ok (.iload_n 2, 1) := by decide +kernel
theorem d_MO_free_48 : decode b_MO_free 48 = .ok (.ireturn, 1) := by decide +kernel
set_option maxHeartbeats 4000000 in
set_option maxRecDepth 100000 in
theorem c_MO_free (l : Launch) (D : va_G) (dA : Nat → ClassId) (M : mm_M) (x : Nat) (g : Nat → Nat) (I : sI) (F : sF) (st : sT) (q : Int32) (n : Nat) (hn : I 3 = nI n) (hN : n ≤ 60) (hP : mP dA M x g I F st) : mm_Ci l y_MO_free w_MO_free ({ frames := 1, cells := 0, slots := 0, locals := 21 }) 0 0 D vC (tyL dA) [.ref x, .int q] M (md_post dA x g (sp_free q I F st)) := by
  intro sz
  refine mm_start (by decide) (Nat.le_of_ble_eq_true rfl) ?_
  intro p e s m below meth c A Q ls hA hQ S hr hlocks hin hK hw hl
  have hl : lv_has ls 3 [(0, .ref x), (1, .int q)] := hl
  refine lv_aload_n S.1 S.2.1 d_MO_free_0 rfl (lv_at hl 0 rfl) ?_
  refine lv_iconst (v := 0) S.1 S.2.1 d_MO_free_1 (by decide) ?_
  refine mm_put (C := R_MO) (T := T_MO) (N := 22) (ty := .int) (v := .int 0) S hK.1 hw hP.2.1 rfl in_MO t_MO k_MO n_MO 0 (by decide) gw_370 rfl rfl (by decide +kernel) rfl rfl (Nat.le_of_ble_eq_true rfl) d_MO_free_2 (fun H locs hw => ?_)
  obtain ⟨M, hw, hP⟩ := md_puti (k := 0) (v := 0) (by decide) hw hP
  refine lv_aload_n S.1 S.2.1 d_MO_free_5 rfl (lv_at hl 0 rfl) ?_
  refine lv_iload_n S.1 S.2.1 d_MO_free_6 rfl (lv_at hl 1 rfl) ?_
  refine mm_calli hw (mm_runV (a := x) (As := [.int q]) (rest := []) S hK hw (c_MO_isGuard l D dA _ x g (upd I 0 (0)) F st q n hn hN hP _) bv_MO_isGuard gw_505 hP.2.1 rfl (⟨rfl, rfl, by decide, by decide, by decide, by decide⟩) hl.1 rfl rfl (Nat.le_of_ble_eq_true rfl) d_MO_free_7) (fun r1 M2 H locs hp hw => ?_)
  rw [hp.1] at hw
  rcases hp.2 with ⟨rfl, hc3⟩ | ⟨rfl, hc3⟩
  · have hc3 : is_gd I F (q) := hc3
    obtain ⟨j4, ekj4, hlj4, hhj4, enj4⟩ := is_of (N := n) hn (by omega) hc3.1
    refine lv_if_ne (tgt := 16) S.1 S.2.1 d_MO_free_10 (by decide) (fun c10 => ?_) (fun c10 => absurd c10 (by decide))
    refine lv_aload_n S.1 S.2.1 d_MO_free_16 rfl (lv_at hl 0 rfl) ?_
    refine mm_get (C := R_MO) (T := T_MO) (N := 22) (v := .ref (g 14)) S hK.1 hw hP.2.1 rfl in_MO 20 (by decide) gw_390 rfl rfl d_MO_free_17 ?_
    refine lv_iload_n S.1 S.2.1 d_MO_free_20 rfl (lv_at hl 1 rfl) ?_
    refine mn_iald (j := cN q) (n := 61) (f := F 14) S hK.1 hw 0 (mP_a (k := 14) (F := F) hP (by decide) (by decide)) rfl (cl_nI (is_le0 hc3.1.1)) (by rw [cN, enj4]; omega) (by decide) d_MO_free_21 ?_
    refine lv_iconst (v := 2) S.1 S.2.1 d_MO_free_22 (by decide) ?_
    refine lv_icmp_ne (tgt := 38) S.1 S.2.1 d_MO_free_23 (by decide) (fun c23 => ?_) (fun c23 => ?_)
    · refine lv_iconst (v := 1) S.1 S.2.1 d_MO_free_38 (by decide) ?_
      refine lv_istore_n (lv' := [(2, .int 1), (0, .ref x), (1, .int q)]) S.1 S.2.1 d_MO_free_39 rfl hl (by decide) rfl (fun ls hl => ?_)
      refine lv_aload_n S.1 S.2.1 d_MO_free_40 rfl (lv_at hl 1 rfl) ?_
      refine mm_get (C := R_MO) (T := T_MO) (N := 22) (v := .ref (g 14)) S hK.1 hw hP.2.1 rfl in_MO 20 (by decide) gw_390 rfl rfl d_MO_free_41 ?_
      refine lv_iload_n S.1 S.2.1 d_MO_free_44 rfl (lv_at hl 2 rfl) ?_
      refine lv_iconst (v := 0) S.1 S.2.1 d_MO_free_45 (by decide) ?_
      refine mn_iast (j := cN q) (n := 61) (f := F 14) S hK.1 hw 0 (mP_a (k := 14) (F := F) hP (by decide) (by decide)) rfl (cl_nI (is_le0 hc3.1.1)) (by rw [cN, enj4]; omega) (by decide) d_MO_free_46 (fun H locs hw => ?_)
      obtain ⟨M, hw, hP⟩ := md_ast (k := 14) (j := cN q) (v := 0) (F := F) (by decide) (by decide) hw hP
      refine lv_iload_n S.1 S.2.1 d_MO_free_47 rfl (lv_at hl 0 rfl) ?_
      exact mm_reti S.1 S.2.1 hr hlocks hA hQ hw (md_done hP (show sp_free q I F st = (1, (upd I 0 (0)), (va_up F 14 (upd (F 14) (cN q) (0))), st) by simp only [sp_free, eq_false c10, eq_false c23, eq_true hc3, not_true_eq_false, not_false_eq_true, and_true, true_and, and_false, false_and, and_self, or_true, true_or, or_false, false_or, or_self, ↓reduceIte])) (Nat.le_of_ble_eq_true rfl) (Nat.le_of_ble_eq_true rfl) d_MO_free_48
    · refine lv_bipush (v := (-10)) S.1 S.2.1 d_MO_free_26 (by decide) ?_
      refine lv_aload_n S.1 S.2.1 d_MO_free_28 rfl (lv_at hl 0 rfl) ?_
      refine mm_get (C := R_MO) (T := T_MO) (N := 22) (v := .ref (g 12)) S hK.1 hw hP.2.1 rfl in_MO 18 (by decide) gw_388 rfl rfl d_MO_free_29 ?_
      refine lv_iload_n S.1 S.2.1 d_MO_free_32 rfl (lv_at hl 1 rfl) ?_
      refine mn_iald (j := cN q) (n := 61) (f := F 12) S hK.1 hw 0 (mP_a (k := 12) (F := F) hP (by decide) (by decide)) rfl (cl_nI (is_le0 hc3.1.1)) (by rw [cN, enj4]; omega) (by decide) d_MO_free_33 ?_
      refine lv_isub S.1 S.2.1 d_MO_free_34 ?_
      refine lv_goto (tgt := 39) S.1 S.2.1 d_MO_free_35 (by decide) ?_
      refine lv_istore_n (lv' := [(2, .int ((-10) - (F 12 (cN q)))), (0, .ref x), (1, .int q)]) S.1 S.2.1 d_MO_free_39 rfl hl (by decide) rfl (fun ls hl => ?_)
      refine lv_aload_n S.1 S.2.1 d_MO_free_40 rfl (lv_at hl 1 rfl) ?_
      refine mm_get (C := R_MO) (T := T_MO) (N := 22) (v := .ref (g 14)) S hK.1 hw hP.2.1 rfl in_MO 20 (by decide) gw_390 rfl rfl d_MO_free_41 ?_
      refine lv_iload_n S.1 S.2.1 d_MO_free_44 rfl (lv_at hl 2 rfl) ?_
      refine lv_iconst (v := 0) S.1 S.2.1 d_MO_free_45 (by decide) ?_
      refine mn_iast (j := cN q) (n := 61) (f := F 14) S hK.1 hw 0 (mP_a (k := 14) (F := F) hP (by decide) (by decide)) rfl (cl_nI (is_le0 hc3.1.1)) (by rw [cN, enj4]; omega) (by decide) d_MO_free_46 (fun H locs hw => ?_)
      obtain ⟨M, hw, hP⟩ := md_ast (k := 14) (j := cN q) (v := 0) (F := F) (by decide) (by decide) hw hP
      refine lv_iload_n S.1 S.2.1 d_MO_free_47 rfl (lv_at hl 0 rfl) ?_
      exact mm_reti S.1 S.2.1 hr hlocks hA hQ hw (md_done hP (show sp_free q I F st = (((-10) - (F 12 (cN q))), (upd I 0 (0)), (va_up F 14 (upd (F 14) (cN q) (0))), st) by simp only [sp_free, eq_false c10, eq_true c23, eq_true hc3, not_true_eq_false, not_false_eq_true, and_true, true_and, and_false, false_and, and_self, or_true, true_or, or_false, false_or, or_self, ↓reduceIte])) (Nat.le_of_ble_eq_true rfl) (Nat.le_of_ble_eq_true rfl) d_MO_free_48
  · have hc3 : ¬ is_gd I F (q) := hc3
    refine lv_if_ne (tgt := 16) S.1 S.2.1 d_MO_free_10 (by decide) (fun c10 => absurd c10 (by decide)) (fun c10 => ?_)
    refine lv_bipush (v := (-2)) S.1 S.2.1 d_MO_free_13 (by decide) ?_
    exact mm_reti S.1 S.2.1 hr hlocks hA hQ hw (md_done hP (show sp_free q I F st = ((-2), (upd I 0 (0)), F, st) by simp only [sp_free, eq_true c10, eq_false hc3, not_true_eq_false, not_false_eq_true, and_true, true_and, and_false, false_and, and_self, or_true, true_or, or_false, false_or, or_self, ↓reduceIte])) (Nat.le_of_ble_eq_true rfl) (Nat.le_of_ble_eq_true rfl) d_MO_free_15
theorem d_MO_told_0 : decode b_MO_told 0 = .ok (.aload_n 0, 1) := by decide +kernel
theorem d_MO_told_1 : decode b_MO_told 1 = .ok (.iconst 0, 1) := by decide +kernel
theorem d_MO_told_2 : decode b_MO_told 2 = .ok (.putfield 60, 3) := by decide +kernel
theorem d_MO_told_5 : decode b_MO_told 5 = .ok (.aload_n 0, 1) := by decide +kernel
theorem d_MO_told_6 : decode b_MO_told 6 = .ok (.iload_n 1, 1) := by decide +kernel
theorem d_MO_told_7 : decode b_MO_told 7 = .ok (.invokevirtual 67, 3) := by decide +kernel
theorem d_MO_told_10 : decode b_MO_told 10 = .ok (.ifCond .ne 5, 3) := by decide +kernel
theorem d_MO_told_13 : decode b_MO_told 13 = .ok (.iconst (-1), 1) := by decide +kernel
theorem d_MO_told_14 : decode b_MO_told 14 = .ok (.ireturn, 1) := by decide +kernel
theorem d_MO_told_15 : decode b_MO_told 15 = .ok (.iload_n 2, 1) := by decide +kernel
theorem d_MO_told_16 : decode b_MO_told 16 = .ok (.ifCond .ne 12, 3) := by decide +kernel
theorem d_MO_told_19 : decode b_MO_told 19 = .ok (.aload_n 0, 1) := by decide +kernel
theorem d_MO_told_20 : decode b_MO_told 20 = .ok (.getfield 16, 3) := by decide +kernel
theorem d_MO_told_23 : decode b_MO_told 23 = .ok (.iload_n 1, 1) := by decide +kernel
theorem d_MO_told_24 : decode b_MO_told 24 = .ok (.iaload, 1) := by decide +kernel
theorem d_MO_told_25 : decode b_MO_told 25 = .ok (.goto 32, 3) := by decide +kernel
theorem d_MO_told_28 : decode b_MO_told 28 = .ok (.iload_n 2, 1) := by decide +kernel
theorem d_MO_told_29 : decode b_MO_told 29 = .ok (.iconst 1, 1) := by decide +kernel
theorem d_MO_told_30 : decode b_MO_told 30 = .ok (.if_icmp .ne 12, 3) := by decide +kernel
theorem d_MO_told_33 : decode b_MO_told 33 = .ok (.aload_n 0, 1) := by decide +kernel
theorem d_MO_told_34 : decode b_MO_told 34 = .ok (.getfield 13, 3) := by decide +kernel
theorem d_MO_told_37 : decode b_MO_told 37 = .ok (.iload_n 1, 1) := by decide +kernel
theorem d_MO_told_38 : decode b_MO_told 38 = .ok (.iaload, 1) := by decide +kernel
theorem d_MO_told_39 : decode b_MO_told 39 = .ok (.goto 18, 3) := by decide +kernel
theorem d_MO_told_42 : decode b_MO_told 42 = .ok (.iload_n 2, 1) := by decide +kernel
theorem d_MO_told_43 : decode b_MO_told 43 = .ok (.iconst 2, 1) := by decide +kernel
theorem d_MO_told_44 : decode b_MO_told 44 = .ok (.if_icmp .ne 12, 3) := by decide +kernel
theorem d_MO_told_47 : decode b_MO_told 47 = .ok (.aload_n 0, 1) := by decide +kernel
theorem d_MO_told_48 : decode b_MO_told 48 = .ok (.getfield 7, 3) := by decide +kernel
theorem d_MO_told_51 : decode b_MO_told 51 = .ok (.iload_n 1, 1) := by decide +kernel
theorem d_MO_told_52 : decode b_MO_told 52 = .ok (.iaload, 1) := by decide +kernel
theorem d_MO_told_53 : decode b_MO_told 53 = .ok (.goto 4, 3) := by decide +kernel
theorem d_MO_told_56 : decode b_MO_told 56 = .ok (.iconst (-1), 1) := by decide +kernel
theorem d_MO_told_57 : decode b_MO_told 57 = .ok (.ireturn, 1) := by decide +kernel
set_option maxHeartbeats 4000000 in
set_option maxRecDepth 100000 in
theorem c_MO_told (l : Launch) (D : va_G) (dA : Nat → ClassId) (M : mm_M) (x : Nat) (g : Nat → Nat) (I : sI) (F : sF) (st : sT) (k v : Int32) (n : Nat) (hn : I 1 = nI n) (hN : n ≤ 100) (hP : mP dA M x g I F st) : mm_Ci l y_MO_told w_MO_told ({ frames := 1, cells := 0, slots := 0, locals := 21 }) 0 0 D vC (tyL dA) [.ref x, .int k, .int v] M (md_post dA x g (sp_told k v I F st)) := by
  intro sz
  refine mm_start (by decide) (Nat.le_of_ble_eq_true rfl) ?_
  intro p e s m below meth c A Q ls hA hQ S hr hlocks hin hK hw hl
  have hl : lv_has ls 3 [(0, .ref x), (1, .int k), (2, .int v)] := hl
  refine lv_aload_n S.1 S.2.1 d_MO_told_0 rfl (lv_at hl 0 rfl) ?_
  refine lv_iconst (v := 0) S.1 S.2.1 d_MO_told_1 (by decide) ?_
  refine mm_put (C := R_MO) (T := T_MO) (N := 22) (ty := .int) (v := .int 0) S hK.1 hw hP.2.1 rfl in_MO t_MO k_MO n_MO 0 (by decide) gw_370 rfl rfl (by decide +kernel) rfl rfl (Nat.le_of_ble_eq_true rfl) d_MO_told_2 (fun H locs hw => ?_)
  obtain ⟨M, hw, hP⟩ := md_puti (k := 0) (v := 0) (by decide) hw hP
  refine lv_aload_n S.1 S.2.1 d_MO_told_5 rfl (lv_at hl 0 rfl) ?_
  refine lv_iload_n S.1 S.2.1 d_MO_told_6 rfl (lv_at hl 1 rfl) ?_
  refine mm_calli hw (mm_runV (a := x) (As := [.int k]) (rest := []) S hK hw (c_MO_isLevel l D dA _ x g (upd I 0 (0)) F st k hP _) bv_MO_isLevel gw_442 hP.2.1 rfl (⟨rfl, rfl, by decide, by decide, by decide, by decide⟩) hl.1 rfl rfl (Nat.le_of_ble_eq_true rfl) d_MO_told_7) (fun r1 M2 H locs hp hw => ?_)
  rw [hp.1] at hw
  rcases hp.2 with ⟨rfl, hc3⟩ | ⟨rfl, hc3⟩
  · have hc3 : is_ok (I 1) (k) := hc3
    obtain ⟨j4, ekj4, hlj4, hhj4, enj4⟩ := is_of (N := n) hn (by omega) hc3
    refine lv_if_ne (tgt := 15) S.1 S.2.1 d_MO_told_10 (by decide) (fun c10 => ?_) (fun c10 => absurd c10 (by decide))
    refine lv_iload_n S.1 S.2.1 d_MO_told_15 rfl (lv_at hl 2 rfl) ?_
    refine lv_if_ne (tgt := 28) S.1 S.2.1 d_MO_told_16 (by decide) (fun c16 => ?_) (fun c16 => ?_)
    · refine lv_iload_n S.1 S.2.1 d_MO_told_28 rfl (lv_at hl 2 rfl) ?_
      refine lv_iconst (v := 1) S.1 S.2.1 d_MO_told_29 (by decide) ?_
      refine lv_icmp_ne (tgt := 42) S.1 S.2.1 d_MO_told_30 (by decide) (fun c30 => ?_) (fun c30 => ?_)
      · refine lv_iload_n S.1 S.2.1 d_MO_told_42 rfl (lv_at hl 2 rfl) ?_
        refine lv_iconst (v := 2) S.1 S.2.1 d_MO_told_43 (by decide) ?_
        refine lv_icmp_ne (tgt := 56) S.1 S.2.1 d_MO_told_44 (by decide) (fun c44 => ?_) (fun c44 => ?_)
        · refine lv_iconst (v := (-1)) S.1 S.2.1 d_MO_told_56 (by decide) ?_
          exact mm_reti S.1 S.2.1 hr hlocks hA hQ hw (md_done hP (show sp_told k v I F st = ((-1), (upd I 0 (0)), F, st) by simp only [sp_told, eq_false c10, eq_false c16, eq_false c30, eq_false c44, eq_true hc3, not_true_eq_false, not_false_eq_true, and_true, true_and, and_false, false_and, and_self, or_true, true_or, or_false, false_or, or_self, ↓reduceIte])) (Nat.le_of_ble_eq_true rfl) (Nat.le_of_ble_eq_true rfl) d_MO_told_57
        · refine lv_aload_n S.1 S.2.1 d_MO_told_47 rfl (lv_at hl 0 rfl) ?_
          refine mm_get (C := R_MO) (T := T_MO) (N := 22) (v := .ref (g 0)) S hK.1 hw hP.2.1 rfl in_MO 6 (by decide) gw_376 rfl rfl d_MO_told_48 ?_
          refine lv_iload_n S.1 S.2.1 d_MO_told_51 rfl (lv_at hl 1 rfl) ?_
          refine mn_iald (j := cN k) (n := 101) (f := F 0) S hK.1 hw 0 (mP_a (k := 0) (F := F) hP (by decide) (by decide)) rfl (cl_nI (is_le0 hc3.1)) (by rw [cN, enj4]; omega) (by decide) d_MO_told_52 ?_
          refine lv_goto (tgt := 57) S.1 S.2.1 d_MO_told_53 (by decide) ?_
          exact mm_reti S.1 S.2.1 hr hlocks hA hQ hw (md_done hP (show sp_told k v I F st = ((F 0 (cN k)), (upd I 0 (0)), F, st) by simp only [sp_told, eq_false c10, eq_false c16, eq_false c30, eq_true c44, eq_true hc3, not_true_eq_false, not_false_eq_true, and_true, true_and, and_false, false_and, and_self, or_true, true_or, or_false, false_or, or_self, ↓reduceIte])) (Nat.le_of_ble_eq_true rfl) (Nat.le_of_ble_eq_true rfl) d_MO_told_57
      · refine lv_aload_n S.1 S.2.1 d_MO_told_33 rfl (lv_at hl 0 rfl) ?_
        refine mm_get (C := R_MO) (T := T_MO) (N := 22) (v := .ref (g 1)) S hK.1 hw hP.2.1 rfl in_MO 7 (by decide) gw_377 rfl rfl d_MO_told_34 ?_
        refine lv_iload_n S.1 S.2.1 d_MO_told_37 rfl (lv_at hl 1 rfl) ?_
        refine mn_iald (j := cN k) (n := 101) (f := F 1) S hK.1 hw 0 (mP_a (k := 1) (F := F) hP (by decide) (by decide)) rfl (cl_nI (is_le0 hc3.1)) (by rw [cN, enj4]; omega) (by decide) d_MO_told_38 ?_
        refine lv_goto (tgt := 57) S.1 S.2.1 d_MO_told_39 (by decide) ?_
        exact mm_reti S.1 S.2.1 hr hlocks hA hQ hw (md_done hP (show sp_told k v I F st = ((F 1 (cN k)), (upd I 0 (0)), F, st) by simp only [sp_told, eq_false c10, eq_false c16, eq_true c30, eq_true hc3, not_true_eq_false, not_false_eq_true, and_true, true_and, and_false, false_and, and_self, or_true, true_or, or_false, false_or, or_self, ↓reduceIte])) (Nat.le_of_ble_eq_true rfl) (Nat.le_of_ble_eq_true rfl) d_MO_told_57
    · refine lv_aload_n S.1 S.2.1 d_MO_told_19 rfl (lv_at hl 0 rfl) ?_
      refine mm_get (C := R_MO) (T := T_MO) (N := 22) (v := .ref (g 2)) S hK.1 hw hP.2.1 rfl in_MO 8 (by decide) gw_378 rfl rfl d_MO_told_20 ?_
      refine lv_iload_n S.1 S.2.1 d_MO_told_23 rfl (lv_at hl 1 rfl) ?_
      refine mn_iald (j := cN k) (n := 101) (f := F 2) S hK.1 hw 0 (mP_a (k := 2) (F := F) hP (by decide) (by decide)) rfl (cl_nI (is_le0 hc3.1)) (by rw [cN, enj4]; omega) (by decide) d_MO_told_24 ?_
      refine lv_goto (tgt := 57) S.1 S.2.1 d_MO_told_25 (by decide) ?_
      exact mm_reti S.1 S.2.1 hr hlocks hA hQ hw (md_done hP (show sp_told k v I F st = ((F 2 (cN k)), (upd I 0 (0)), F, st) by simp only [sp_told, eq_false c10, eq_true c16, eq_true hc3, not_true_eq_false, not_false_eq_true, and_true, true_and, and_false, false_and, and_self, or_true, true_or, or_false, false_or, or_self, ↓reduceIte])) (Nat.le_of_ble_eq_true rfl) (Nat.le_of_ble_eq_true rfl) d_MO_told_57
  · have hc3 : ¬ is_ok (I 1) (k) := hc3
    refine lv_if_ne (tgt := 15) S.1 S.2.1 d_MO_told_10 (by decide) (fun c10 => absurd c10 (by decide)) (fun c10 => ?_)
    refine lv_iconst (v := (-1)) S.1 S.2.1 d_MO_told_13 (by decide) ?_
    exact mm_reti S.1 S.2.1 hr hlocks hA hQ hw (md_done hP (show sp_told k v I F st = ((-1), (upd I 0 (0)), F, st) by simp only [sp_told, eq_true c10, eq_false hc3, not_true_eq_false, not_false_eq_true, and_true, true_and, and_false, false_and, and_self, or_true, true_or, or_false, false_or, or_self, ↓reduceIte])) (Nat.le_of_ble_eq_true rfl) (Nat.le_of_ble_eq_true rfl) d_MO_told_14
