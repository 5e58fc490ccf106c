theorem cN_I {v : Int32} {n : Nat} (h : v = nI n) (hn : n < 2 ^ 31) : cN v = n := by rw [h, cN, nI_clamp hn]
theorem oL_ne {la ea : Nat → Nat} {F F' : sF} {a b : Nat} (ha : a < 2 ^ 31) (hb : b < 2 ^ 31) (h : a ≠ b) : oL la ea F a ≠ oL la ea F' b := fun q => by
  have h1 := congrArg (fun z : va_E => match z with | .inr (_, .int v :: _) => v | _ => 0) q
  exact h ((nI_eq ha hb).mp h1)
section LVS
variable {dA : Nat → ClassId} {M : mm_M} {I I' : sI} {F F' : sF} {lv : Nat} {fL : Nat → Option Nat} {la ea : Nat → Nat} {er : Nat → Option Nat} {n : Nat}
/-- one level's row gets shorter -/
theorem cL_set (hn : cN (I 1) = n) (hN : n ≤ 100) (a1 : M lv = some (aQ (dA 3) 100 fL)) (a2 : ∀ i, i < cN (I 1) → fL i = some (la (i + 1))) (a3 : ∀ a, 1 ≤ a → a ≤ cN (I 1) → M (la a) = some (oL la ea F a)) (a4 : ∀ k, 1 ≤ k → k ≤ cN (I 2) → M (ea k) = some (oE er F k)) (a5 : ∀ a, 1 ≤ a → a ≤ cN (I 1) → chn ea er F a)
    {j : Nat} {z : Int32} (hj : 1 ≤ j) (hjn : j ≤ n) (h1 : I' 1 = I 1) (h2 : I' 2 = I 2) (f0 : F' 0 = F 0) (f1 : F' 1 = F 1) (f2 : F' 2 = upd (F 2) j z) (f3 : F' 3 = F 3) (f4 : F' 4 = F 4) (f6 : F' 6 = F 6) (f7 : F' 7 = F 7) (hz : cN z ≤ cN (F 2 j)) :
    cL dA (mm_up M (la j) (oL la ea F' j)) lv I' F' := by
  have hlj := a3 j hj (by omega)
  refine ⟨fL, la, ea, er, mm_uk hlj a1 (by simp), by rw [h1]; exact a2, fun a p q => ?_, fun k p q => ?_, fun a p q => ?_⟩
  · rw [h1] at q
    by_cases h : a = j
    · subst h; exact mm_us
    · have e1 : oL la ea F' a = oL la ea F a := by simp only [oL, tpf, f0, f1, f2, f3, pk_un h]
      rw [e1]
      exact mm_uk hlj (a3 a p q) (oL_ne (by omega) (by omega) h)
  · rw [h2] at q
    have e1 : oE er F' k = oE er F k := by simp only [oE, f4, f6, f7]
    rw [e1]
    exact mm_uk hlj (a4 k p q) (by simp)
  · rw [h1] at q
    unfold chn
    rw [f2, f3]
    by_cases h : a = j
    · subst h
      rw [pk_us]
      exact fun t ht => a5 a p q t (by omega)
    · rw [pk_un h]
      exact a5 a p q
end LVS

theorem d_AR_levelOf_0 : decode b_AR_levelOf 0 = .ok (.iload_n 1, 1) := by decide +kernel
theorem d_AR_levelOf_1 : decode b_AR_levelOf 1 = .ok (.iconst 1, 1) := by decide +kernel
theorem d_AR_levelOf_2 : decode b_AR_levelOf 2 = .ok (.if_icmp .lt 22, 3) := by decide +kernel
theorem d_AR_levelOf_5 : decode b_AR_levelOf 5 = .ok (.iload_n 1, 1) := by decide +kernel
theorem d_AR_levelOf_6 : decode b_AR_levelOf 6 = .ok (.aload_n 0, 1) := by decide +kernel
theorem d_AR_levelOf_7 : decode b_AR_levelOf 7 = .ok (.getfield 65, 3) := by decide +kernel
theorem d_AR_levelOf_10 : decode b_AR_levelOf 10 = .ok (.if_icmp .gt 14, 3) := by decide +kernel
theorem d_AR_levelOf_13 : decode b_AR_levelOf 13 = .ok (.aload_n 0, 1) := by decide +kernel
theorem d_AR_levelOf_14 : decode b_AR_levelOf 14 = .ok (.getfield 11, 3) := by decide +kernel
theorem d_AR_levelOf_17 : decode b_AR_levelOf 17 = .ok (.iload_n 1, 1) := by decide +kernel
theorem d_AR_levelOf_18 : decode b_AR_levelOf 18 = .ok (.iconst 1, 1) := by decide +kernel
theorem d_AR_levelOf_19 : decode b_AR_levelOf 19 = .ok (.isub, 1) := by decide +kernel
theorem d_AR_levelOf_20 : decode b_AR_levelOf 20 = .ok (.aaload, 1) := by decide +kernel
theorem d_AR_levelOf_21 : decode b_AR_levelOf 21 = .ok (.goto 4, 3) := by decide +kernel
theorem d_AR_levelOf_24 : decode b_AR_levelOf 24 = .ok (.aconst_null, 1) := by decide +kernel
theorem d_AR_levelOf_25 : decode b_AR_levelOf 25 = .ok (.areturn, 1) := by decide +kernel
set_option maxHeartbeats 4000000 in
set_option maxRecDepth 100000 in
theorem c_AR_levelOf (l : Launch) (D : va_G) (dA : Nat → ClassId) (M : mm_M) (x lv sr gd rs ss dr cs cg : Nat) (I : sI) (fL : Nat → Option Nat) (k : Int32) (n : Nat) (hn : I 1 = nI n) (hN : n ≤ 100) (hX : M x = some (.inr (0, [.ref lv, .int (I 1), .int (I 2), .ref sr, .ref gd, .int (I 3), .ref rs, .ref ss, .ref dr, .ref cs, .ref cg]))) (hlv : M lv = some (aQ (dA 3) 100 fL)) : mm_Cq l y_AR_levelOf w_AR_levelOf ({ frames := 0, cells := 0, slots := 0, locals := 0 }) 0 0 D vC (tyL dA) [.ref x, .int k] M (fun r M' => M' = M ∧ ((is_ok (I 1) k ∧ r = fL (cN k - 1)) ∨ (¬ is_ok (I 1) k ∧ r = none))) := by
  intro sz
  refine mm_start (by decide) (Nat.le_of_ble_eq_true rfl) ?_
  intro p e s m below meth c A Q ls hA hQ S hr hlocks hin hK hw hl
  have hl : lv_has ls 2 [(0, .ref x), (1, .int k)] := hl
  refine lv_iload_n S.1 S.2.1 d_AR_levelOf_0 rfl (lv_at hl 1 rfl) ?_
  refine lv_iconst (v := 1) S.1 S.2.1 d_AR_levelOf_1 (by decide) ?_
  refine lv_icmp_lt (tgt := 24) S.1 S.2.1 d_AR_levelOf_2 (by decide) (fun c2 => ?_) (fun c2 => ?_)
  · refine lv_null S.1 S.2.1 d_AR_levelOf_24 ?_
    exact mm_retq (v := none) S.1 S.2.1 hr hlocks hA hQ hw (⟨rfl, Or.inr ⟨fun h => h.1 (is_lt1.mp c2), rfl⟩⟩) (Nat.le_of_ble_eq_true rfl) (Nat.le_of_ble_eq_true rfl) d_AR_levelOf_25
  · refine lv_iload_n S.1 S.2.1 d_AR_levelOf_5 rfl (lv_at hl 1 rfl) ?_
    refine lv_aload_n S.1 S.2.1 d_AR_levelOf_6 rfl (lv_at hl 0 rfl) ?_
    refine mm_get (C := R_AR) (T := T_AR) (N := 11) S hK.1 hw hX rfl in_AR 1 (by decide) gw_89 rfl rfl d_AR_levelOf_7 ?_
    refine lv_icmp_gt (tgt := 24) S.1 S.2.1 d_AR_levelOf_10 (by decide) (fun c10 => ?_) (fun c10 => ?_)
    · refine lv_null S.1 S.2.1 d_AR_levelOf_24 ?_
      exact mm_retq (v := none) S.1 S.2.1 hr hlocks hA hQ hw (⟨rfl, Or.inr ⟨fun h => h.2 c10, rfl⟩⟩) (Nat.le_of_ble_eq_true rfl) (Nat.le_of_ble_eq_true rfl) d_AR_levelOf_25
    · refine lv_aload_n S.1 S.2.1 d_AR_levelOf_13 rfl (lv_at hl 0 rfl) ?_
      refine mm_get (C := R_AR) (T := T_AR) (N := 11) S hK.1 hw hX rfl in_AR 0 (by decide) gw_88 rfl rfl d_AR_levelOf_14 ?_
      refine lv_iload_n S.1 S.2.1 d_AR_levelOf_17 rfl (lv_at hl 1 rfl) ?_
      refine lv_iconst (v := 1) S.1 S.2.1 d_AR_levelOf_18 (by decide) ?_
      refine lv_isub S.1 S.2.1 d_AR_levelOf_19 ?_
      have hok : is_ok (I 1) k := ⟨fun h => c2 (is_lt1.mpr h), c10⟩
      obtain ⟨j, ek, hj1, hjn, en⟩ := is_of hn (by omega) hok
      refine mn_aldq (j := cN k - 1) S hK.1 hw 3 hlv rfl (by rw [cN, en, ek, show (1 : Int32) = nI 1 from rfl, pk_sub (by omega)]) (by rw [cN, en]; omega) (by decide) d_AR_levelOf_20 ?_
      refine lv_goto (tgt := 25) S.1 S.2.1 d_AR_levelOf_21 (by decide) ?_
      exact mm_retq (v := (fL (cN k - 1))) S.1 S.2.1 hr hlocks hA hQ hw (⟨rfl, Or.inl ⟨hok, rfl⟩⟩) (Nat.le_of_ble_eq_true rfl) (Nat.le_of_ble_eq_true rfl) d_AR_levelOf_25
theorem d_AR_region_0 : decode b_AR_region 0 = .ok (.iload_n 1, 1) := by decide +kernel
theorem d_AR_region_1 : decode b_AR_region 1 = .ok (.invokestatic 89, 3) := by decide +kernel
theorem d_AR_region_4 : decode b_AR_region 4 = .ok (.ifCond .ne 6, 3) := by decide +kernel
theorem d_AR_region_7 : decode b_AR_region 7 = .ok (.bipush (-4), 2) := by decide +kernel
theorem d_AR_region_9 : decode b_AR_region 9 = .ok (.ireturn, 1) := by decide +kernel
theorem d_AR_region_10 : decode b_AR_region 10 = .ok (.iload_n 1, 1) := by decide +kernel
theorem d_AR_region_11 : decode b_AR_region 11 = .ok (.sipush 1000, 3) := by decide +kernel
theorem d_AR_region_14 : decode b_AR_region 14 = .ok (.if_icmp .ge 5, 3) := by decide +kernel
theorem d_AR_region_17 : decode b_AR_region 17 = .ok (.iconst 1, 1) := by decide +kernel
theorem d_AR_region_18 : decode b_AR_region 18 = .ok (.ireturn, 1) := by decide +kernel
theorem d_AR_region_19 : decode b_AR_region 19 = .ok (.iload_n 1, 1) := by decide +kernel
theorem d_AR_region_20 : decode b_AR_region 20 = .ok (.sipush 4000, 3) := by decide +kernel
theorem d_AR_region_23 : decode b_AR_region 23 = .ok (.if_icmp .ge 7, 3) := by decide +kernel
theorem d_AR_region_26 : decode b_AR_region 26 = .ok (.iconst 2, 1) := by decide +kernel
theorem d_AR_region_27 : decode b_AR_region 27 = .ok (.goto 4, 3) := by decide +kernel
theorem d_AR_region_30 : decode b_AR_region 30 = .ok (.iconst 3, 1) := by decide +kernel
theorem d_AR_region_31 : decode b_AR_region 31 = .ok (.ireturn, 1) := by decide +kernel
set_option maxHeartbeats 4000000 in
set_option maxRecDepth 100000 in
theorem c_AR_region (l : Launch) (D : va_G) (dA : Nat → ClassId) (M : mm_M) (x nc : Nat) (I : sI) (F : sF) (st : sT) (hC : cP dA M x I F st nc) (hwf : wf I F st) (k : Int32) : mm_Ci l y_AR_region w_AR_region ({ frames := 1, cells := 0, slots := 0, locals := 20 }) 0 0 D vC (tyL dA) [.ref x, .int k] M (cs_post dA x nc (sp_region k I F st)) := by
  intro sz
  refine mm_start (by decide) (Nat.le_of_ble_eq_true rfl) ?_
  intro p e s m below meth c A Q ls hA hQ S hr hlocks hin hK hw hl
  have hl : lv_has ls 2 [(0, .ref x), (1, .int k)] := hl
  refine lv_iload_n S.1 S.2.1 d_AR_region_0 rfl (lv_at hl 1 rfl) ?_
  refine mm_calli hw (mm_runS (As := [.int k]) (rest := []) S hK hw (c_AR_isCode l D dA _ k _) bs_AR_isCode gw_191 (⟨rfl, rfl, by decide, by decide, by decide, by decide⟩) hl.1 rfl rfl (Nat.le_of_ble_eq_true rfl) d_AR_region_1) (fun r1 M2 H locs hp hw => ?_)
  rw [hp.1] at hw
  rcases hp.2 with ⟨rfl, hc3⟩ | ⟨rfl, hc3⟩
  · obtain ⟨j4, ekj4, hlj4, hhj4, enj4⟩ := is_of (N := 9999) rfl (by omega) hc3
    refine lv_if_ne (tgt := 10) S.1 S.2.1 d_AR_region_4 (by decide) (fun c4 => ?_) (fun c4 => absurd c4 (by decide))
    refine lv_iload_n S.1 S.2.1 d_AR_region_10 rfl (lv_at hl 1 rfl) ?_
    refine lv_sipush (v := 1000) S.1 S.2.1 d_AR_region_11 (by decide) ?_
    refine lv_icmp_ge (tgt := 19) S.1 S.2.1 d_AR_region_14 (by decide) (fun c14 => ?_) (fun c14 => ?_)
    · refine lv_iload_n S.1 S.2.1 d_AR_region_19 rfl (lv_at hl 1 rfl) ?_
      refine lv_sipush (v := 4000) S.1 S.2.1 d_AR_region_20 (by decide) ?_
      refine lv_icmp_ge (tgt := 30) S.1 S.2.1 d_AR_region_23 (by decide) (fun c23 => ?_) (fun c23 => ?_)
      · refine lv_iconst (v := 3) S.1 S.2.1 d_AR_region_30 (by decide) ?_
        exact mm_reti S.1 S.2.1 hr hlocks hA hQ hw (cs_same hC (show sp_region k I F st = (3, upd I 0 0, F, st) by simp only [sp_region, eq_true hc3, eq_false c4, eq_true c14, eq_true c23, not_true_eq_false, not_false_eq_true, and_true, true_and, and_false, false_and, and_self, or_true, true_or, or_false, false_or, or_self, ↓reduceIte])) (Nat.le_of_ble_eq_true rfl) (Nat.le_of_ble_eq_true rfl) d_AR_region_31
      · refine lv_iconst (v := 2) S.1 S.2.1 d_AR_region_26 (by decide) ?_
        refine lv_goto (tgt := 31) S.1 S.2.1 d_AR_region_27 (by decide) ?_
        exact mm_reti S.1 S.2.1 hr hlocks hA hQ hw (cs_same hC (show sp_region k I F st = (2, upd I 0 0, F, st) by simp only [sp_region, eq_true hc3, eq_false c4, eq_true c14, eq_false c23, not_true_eq_false, not_false_eq_true, and_true, true_and, and_false, false_and, and_self, or_true, true_or, or_false, false_or, or_self, ↓reduceIte])) (Nat.le_of_ble_eq_true rfl) (Nat.le_of_ble_eq_true rfl) d_AR_region_31
    · refine lv_iconst (v := 1) S.1 S.2.1 d_AR_region_17 (by decide) ?_
      exact mm_reti S.1 S.2.1 hr hlocks hA hQ hw (cs_same hC (show sp_region k I F st = (1, upd I 0 0, F, st) by simp only [sp_region, eq_true hc3, eq_false c4, eq_false c14, not_true_eq_false, not_false_eq_true, and_true, true_and, and_false, false_and, and_self, or_true, true_or, or_false, false_or, or_self, ↓reduceIte])) (Nat.le_of_ble_eq_true rfl) (Nat.le_of_ble_eq_true rfl) d_AR_region_18
  · refine lv_if_ne (tgt := 10) S.1 S.2.1 d_AR_region_4 (by decide) (fun c4 => absurd c4 (by decide)) (fun c4 => ?_)
    refine lv_bipush (v := (-4)) S.1 S.2.1 d_AR_region_7 (by decide) ?_
    exact mm_reti S.1 S.2.1 hr hlocks hA hQ hw (cs_same hC (show sp_region k I F st = ((-4), upd I 0 0, F, st) by simp only [sp_region, eq_false hc3, eq_true c4, not_true_eq_false, not_false_eq_true, and_true, true_and, and_false, false_and, and_self, or_true, true_or, or_false, false_or, or_self, ↓reduceIte])) (Nat.le_of_ble_eq_true rfl) (Nat.le_of_ble_eq_true rfl) d_AR_region_9
theorem d_AR_told_0 : decode b_AR_told 0 = .ok (.aload_n 0, 1) := by decide +kernel
theorem d_AR_told_1 : decode b_AR_told 1 = .ok (.iload_n 1, 1) := by decide +kernel
theorem d_AR_told_2 : decode b_AR_told 2 = .ok (.invokevirtual 57, 3) := by decide +kernel
theorem d_AR_told_5 : decode b_AR_told 5 = .ok (.astore_n 3, 1) := by decide +kernel
theorem d_AR_told_6 : decode b_AR_told 6 = .ok (.aload_n 3, 1) := by decide +kernel
theorem d_AR_told_7 : decode b_AR_told 7 = .ok (.ifnonnull 5, 3) := by decide +kernel
theorem d_AR_told_10 : decode b_AR_told 10 = .ok (.iconst (-1), 1) := by decide +kernel
theorem d_AR_told_11 : decode b_AR_told 11 = .ok (.ireturn, 1) := by decide +kernel
theorem d_AR_told_12 : decode b_AR_told 12 = .ok (.iload_n 2, 1) := by decide +kernel
theorem d_AR_told_13 : decode b_AR_told 13 = .ok (.tableswitch 56 0 2 #[27, 32, 37], 27) := by decide +kernel
theorem d_AR_told_40 : decode b_AR_told 40 = .ok (.aload_n 3, 1) := by decide +kernel
theorem d_AR_told_41 : decode b_AR_told 41 = .ok (.getfield 74, 3) := by decide +kernel
theorem d_AR_told_44 : decode b_AR_told 44 = .ok (.ireturn, 1) := by decide +kernel
theorem d_AR_told_45 : decode b_AR_told 45 = .ok (.aload_n 3, 1) := by decide +kernel
theorem d_AR_told_46 : decode b_AR_told 46 = .ok (.getfield 61, 3) := by decide +kernel
theorem d_AR_told_49 : decode b_AR_told 49 = .ok (.ireturn, 1) := by decide +kernel
theorem d_AR_told_50 : decode b_AR_told 50 = .ok (.aload_n 3, 1) := by decide +kernel
theorem d_AR_told_51 : decode b_AR_told 51 = .ok (.getfield 181, 3) := by decide +kernel
theorem d_AR_told_54 : decode b_AR_told 54 = .ok (.ifnonnull 7, 3) := by decide +kernel
theorem d_AR_told_57 : decode b_AR_told 57 = .ok (.iconst 0, 1) := by decide +kernel
theorem d_AR_told_58 : decode b_AR_told 58 = .ok (.goto 10, 3) := by decide +kernel
theorem d_AR_told_61 : decode b_AR_told 61 = .ok (.aload_n 3, 1) := by decide +kernel
theorem d_AR_told_62 : decode b_AR_told 62 = .ok (.getfield 181, 3) := by decide +kernel
theorem d_AR_told_65 : decode b_AR_told 65 = .ok (.getfield 71, 3) := by decide +kernel
theorem d_AR_told_68 : decode b_AR_told 68 = .ok (.ireturn, 1) := by decide +kernel
theorem d_AR_told_69 : decode b_AR_told 69 = .ok (.iconst (-1), 1) := by decide +kernel
theorem d_AR_told_70 : decode b_AR_told 70 = .ok (.ireturn, 1) := by decide +kernel
set_option maxHeartbeats 4000000 in
set_option maxRecDepth 100000 in
theorem c_AR_told (l : Launch) (D : va_G) (dA : Nat → ClassId) (M : mm_M) (x nc : Nat) (I : sI) (F : sF) (st : sT) (hC : cP dA M x I F st nc) (hwf : wf I F st) (k v : Int32) : mm_Ci l y_AR_told w_AR_told ({ frames := 1, cells := 0, slots := 0, locals := 21 }) 0 0 D vC (tyL dA) [.ref x, .int k, .int v] M (cs_post dA x nc (sp_told k v I F st)) := by
  intro sz
  refine mm_start (by decide) (Nat.le_of_ble_eq_true rfl) ?_
  intro p e s m below meth c A Q ls hA hQ S hr hlocks hin hK hw hl
  have hl : lv_has ls 4 [(0, .ref x), (1, .int k), (2, .int v)] := hl
  obtain ⟨lv, sr, gd, rs, ss, dr, cs, cg, hX, hL, hG, hS, hR, hT, hD, hCs, hE⟩ := id hC
  have hX : M x = some (.inr (0, [.ref lv, .int (I 1), .int (I 2), .ref sr, .ref gd, .int (I 3), .ref rs, .ref ss, .ref dr, .ref cs, .ref cg])) := hX
  obtain ⟨fL, la, ea, er, hlv, hfl, hla, hea, hch⟩ := id hL
  obtain ⟨n, hn, hN⟩ := hwf.1
  have hcn : cN (I 1) = n := cN_I hn (by omega)
  refine lv_aload_n S.1 S.2.1 d_AR_told_0 rfl (lv_at hl 0 rfl) ?_
  refine lv_iload_n S.1 S.2.1 d_AR_told_1 rfl (lv_at hl 1 rfl) ?_
  refine mm_callq hw (mm_runV (a := x) (As := [.int k]) (rest := []) S hK hw (c_AR_levelOf l D dA _ x lv sr gd rs ss dr cs cg I fL k n hn hN hX hlv _) bv_AR_levelOf gw_126 hX rfl (⟨rfl, rfl, by decide, by decide, by decide, by decide⟩) hl.1 rfl rfl (Nat.le_of_ble_eq_true rfl) d_AR_told_2) (fun r1 M2 H locs hp hw => ?_)
  rw [hp.1] at hw
  rcases hp.2 with ⟨hc3, er9⟩ | ⟨hc3, rfl⟩
  · obtain ⟨j, ek, hj1, hjn, en⟩ := is_of hn (by omega) hc3
    have er9 : r1 = some (la j) := by rw [er9, cN, en, hfl (j - 1) (by omega)]; congr 2; omega
    subst er9
    refine W.eq (g2 := F0 m 5 ls [.ref (la j)]) rfl ?_
    have hlj : M (la j) = some (oL la ea F j) := hla j hj1 (by omega)
    have en : cN k = j := en
    obtain ⟨pa, hpe, hpa, -⟩ := hwf.2.2.2.2.2.1.2.1 j hj1 (by omega)
    rcases Nat.eq_zero_or_pos pa with hp0 | hp0
    · have hlk : lk la (F 0 j) = none := by rw [lk, hpe, hp0]; rfl
      have h00 : F 0 j = 0 := by rw [hpe, hp0]; rfl
      have hlj : M (la j) = some (.inr (5, [.int (nI j), .null, .int (F 1 j), va_rf (tpf ea F j), .int (F 2 j)])) := by rw [oL, hlk] at hlj; exact hlj
      refine lv_astore_n (lv' := [(3, .ref (la j)), (0, .ref x), (1, .int k), (2, .int v)]) S.1 S.2.1 d_AR_told_5 rfl hl (by decide) rfl (fun ls hl => ?_)
      refine lv_aload_n S.1 S.2.1 d_AR_told_6 rfl (lv_at hl 0 rfl) ?_
      refine lv_ifnonnull (tgt := 12) S.1 S.2.1 d_AR_told_7 (by decide) ?_
      refine lv_iload_n S.1 S.2.1 d_AR_told_12 rfl (lv_at hl 3 rfl) ?_
      by_cases k13_0 : v = 0
      · refine lv_tableIn (off := 27) (tgt := 40) S.1 S.2.1 d_AR_told_13 (by rw [k13_0]; decide) (by rw [k13_0]; decide) (by rw [k13_0]; rfl) (by decide) ?_
        refine lv_aload_n S.1 S.2.1 d_AR_told_40 rfl (lv_at hl 0 rfl) ?_
        refine mm_get (C := R_LV) (T := T_LV) (N := 5) S hK.1 hw hlj rfl in_LV 4 (by decide) gw_144 rfl rfl d_AR_told_41 ?_
        exact mm_reti S.1 S.2.1 hr hlocks hA hQ hw (cs_same hC (show sp_told k v I F st = ((F 2 j), upd I 0 0, F, st) by simp only [sp_told, eq_true hc3, eq_true k13_0, not_true_eq_false, not_false_eq_true, and_true, true_and, and_false, false_and, and_self, or_true, true_or, or_false, false_or, or_self, ↓reduceIte, en])) (Nat.le_of_ble_eq_true rfl) (Nat.le_of_ble_eq_true rfl) d_AR_told_44
      by_cases k13_1 : v = 1
      · refine lv_tableIn (off := 32) (tgt := 45) S.1 S.2.1 d_AR_told_13 (by rw [k13_1]; decide) (by rw [k13_1]; decide) (by rw [k13_1]; rfl) (by decide) ?_
        refine lv_aload_n S.1 S.2.1 d_AR_told_45 rfl (lv_at hl 0 rfl) ?_
        refine mm_get (C := R_LV) (T := T_LV) (N := 5) S hK.1 hw hlj rfl in_LV 2 (by decide) gw_141 rfl rfl d_AR_told_46 ?_
        exact mm_reti S.1 S.2.1 hr hlocks hA hQ hw (cs_same hC (show sp_told k v I F st = ((F 1 j), upd I 0 0, F, st) by simp only [sp_told, eq_true hc3, eq_false k13_0, eq_true k13_1, not_true_eq_false, not_false_eq_true, and_true, true_and, and_false, false_and, and_self, or_true, true_or, or_false, false_or, or_self, ↓reduceIte, en])) (Nat.le_of_ble_eq_true rfl) (Nat.le_of_ble_eq_true rfl) d_AR_told_49
      by_cases k13_2 : v = 2
      · refine lv_tableIn (off := 37) (tgt := 50) S.1 S.2.1 d_AR_told_13 (by rw [k13_2]; decide) (by rw [k13_2]; decide) (by rw [k13_2]; rfl) (by decide) ?_
        refine lv_aload_n S.1 S.2.1 d_AR_told_50 rfl (lv_at hl 0 rfl) ?_
        refine mm_get (C := R_LV) (T := T_LV) (N := 5) S hK.1 hw hlj rfl in_LV 1 (by decide) gw_139 rfl rfl d_AR_told_51 ?_
        refine lv_ifnonnullN S.1 S.2.1 d_AR_told_54 ?_
        refine lv_iconst (v := 0) S.1 S.2.1 d_AR_told_57 (by decide) ?_
        refine lv_goto (tgt := 68) S.1 S.2.1 d_AR_told_58 (by decide) ?_
        exact mm_reti S.1 S.2.1 hr hlocks hA hQ hw (cs_same hC (show sp_told k v I F st = (0, upd I 0 0, F, st) by simp only [sp_told, eq_true hc3, eq_false k13_0, eq_false k13_1, eq_true k13_2, not_true_eq_false, not_false_eq_true, and_true, true_and, and_false, false_and, and_self, or_true, true_or, or_false, false_or, or_self, ↓reduceIte, en, h00])) (Nat.le_of_ble_eq_true rfl) (Nat.le_of_ble_eq_true rfl) d_AR_told_68
      refine lv_tableOut (tgt := 69) S.1 S.2.1 d_AR_told_13 (by have t0 : (v).toInt ≠ 0 := ts_ne k13_0; have t1 : (v).toInt ≠ 1 := ts_ne k13_1; have t2 : (v).toInt ≠ 2 := ts_ne k13_2; omega) (by decide) ?_
      refine lv_iconst (v := (-1)) S.1 S.2.1 d_AR_told_69 (by decide) ?_
      exact mm_reti S.1 S.2.1 hr hlocks hA hQ hw (cs_same hC (show sp_told k v I F st = ((-1), upd I 0 0, F, st) by simp only [sp_told, eq_true hc3, eq_false k13_0, eq_false k13_1, eq_false k13_2, not_true_eq_false, not_false_eq_true, and_true, true_and, and_false, false_and, and_self, or_true, true_or, or_false, false_or, or_self, ↓reduceIte, en])) (Nat.le_of_ble_eq_true rfl) (Nat.le_of_ble_eq_true rfl) d_AR_told_70
    · have hlk : lk la (F 0 j) = some (la pa) := by rw [lk, hpe, if_neg (nI_ne0 hp0 (by omega)), cN, nI_clamp (by omega)]
      have hlp : M (la pa) = some (oL la ea F pa) := hla pa hp0 (by omega)
      have hlj : M (la j) = some (.inr (5, [.int (nI j), .ref (la pa), .int (F 1 j), va_rf (tpf ea F j), .int (F 2 j)])) := by rw [oL, hlk] at hlj; exact hlj
      refine lv_astore_n (lv' := [(3, .ref (la j)), (0, .ref x), (1, .int k), (2, .int v)]) S.1 S.2.1 d_AR_told_5 rfl hl (by decide) rfl (fun ls hl => ?_)
      refine lv_aload_n S.1 S.2.1 d_AR_told_6 rfl (lv_at hl 0 rfl) ?_
      refine lv_ifnonnull (tgt := 12) S.1 S.2.1 d_AR_told_7 (by decide) ?_
      refine lv_iload_n S.1 S.2.1 d_AR_told_12 rfl (lv_at hl 3 rfl) ?_
      by_cases k13_0 : v = 0
      · refine lv_tableIn (off := 27) (tgt := 40) S.1 S.2.1 d_AR_told_13 (by rw [k13_0]; decide) (by rw [k13_0]; decide) (by rw [k13_0]; rfl) (by decide) ?_
        refine lv_aload_n S.1 S.2.1 d_AR_told_40 rfl (lv_at hl 0 rfl) ?_
        refine mm_get (C := R_LV) (T := T_LV) (N := 5) S hK.1 hw hlj rfl in_LV 4 (by decide) gw_144 rfl rfl d_AR_told_41 ?_
        exact mm_reti S.1 S.2.1 hr hlocks hA hQ hw (cs_same hC (show sp_told k v I F st = ((F 2 j), upd I 0 0, F, st) by simp only [sp_told, eq_true hc3, eq_true k13_0, not_true_eq_false, not_false_eq_true, and_true, true_and, and_false, false_and, and_self, or_true, true_or, or_false, false_or, or_self, ↓reduceIte, en])) (Nat.le_of_ble_eq_true rfl) (Nat.le_of_ble_eq_true rfl) d_AR_told_44
      by_cases k13_1 : v = 1
      · refine lv_tableIn (off := 32) (tgt := 45) S.1 S.2.1 d_AR_told_13 (by rw [k13_1]; decide) (by rw [k13_1]; decide) (by rw [k13_1]; rfl) (by decide) ?_
        refine lv_aload_n S.1 S.2.1 d_AR_told_45 rfl (lv_at hl 0 rfl) ?_
        refine mm_get (C := R_LV) (T := T_LV) (N := 5) S hK.1 hw hlj rfl in_LV 2 (by decide) gw_141 rfl rfl d_AR_told_46 ?_
        exact mm_reti S.1 S.2.1 hr hlocks hA hQ hw (cs_same hC (show sp_told k v I F st = ((F 1 j), upd I 0 0, F, st) by simp only [sp_told, eq_true hc3, eq_false k13_0, eq_true k13_1, not_true_eq_false, not_false_eq_true, and_true, true_and, and_false, false_and, and_self, or_true, true_or, or_false, false_or, or_self, ↓reduceIte, en])) (Nat.le_of_ble_eq_true rfl) (Nat.le_of_ble_eq_true rfl) d_AR_told_49
      by_cases k13_2 : v = 2
      · refine lv_tableIn (off := 37) (tgt := 50) S.1 S.2.1 d_AR_told_13 (by rw [k13_2]; decide) (by rw [k13_2]; decide) (by rw [k13_2]; rfl) (by decide) ?_
        refine lv_aload_n S.1 S.2.1 d_AR_told_50 rfl (lv_at hl 0 rfl) ?_
        refine mm_get (C := R_LV) (T := T_LV) (N := 5) S hK.1 hw hlj rfl in_LV 1 (by decide) gw_139 rfl rfl d_AR_told_51 ?_
        refine lv_ifnonnull (tgt := 61) S.1 S.2.1 d_AR_told_54 (by decide) ?_
        refine lv_aload_n S.1 S.2.1 d_AR_told_61 rfl (lv_at hl 0 rfl) ?_
        refine mm_get (C := R_LV) (T := T_LV) (N := 5) S hK.1 hw hlj rfl in_LV 1 (by decide) gw_139 rfl rfl d_AR_told_62 ?_
        refine mm_get (C := R_LV) (T := T_LV) (N := 5) S hK.1 hw hlp rfl in_LV 0 (by decide) gw_136 rfl rfl d_AR_told_65 ?_
        exact mm_reti S.1 S.2.1 hr hlocks hA hQ hw (cs_same hC (show sp_told k v I F st = ((nI pa), upd I 0 0, F, st) by simp only [sp_told, eq_true hc3, eq_false k13_0, eq_false k13_1, eq_true k13_2, not_true_eq_false, not_false_eq_true, and_true, true_and, and_false, false_and, and_self, or_true, true_or, or_false, false_or, or_self, ↓reduceIte, en, hpe])) (Nat.le_of_ble_eq_true rfl) (Nat.le_of_ble_eq_true rfl) d_AR_told_68
      refine lv_tableOut (tgt := 69) S.1 S.2.1 d_AR_told_13 (by have t0 : (v).toInt ≠ 0 := ts_ne k13_0; have t1 : (v).toInt ≠ 1 := ts_ne k13_1; have t2 : (v).toInt ≠ 2 := ts_ne k13_2; omega) (by decide) ?_
      refine lv_iconst (v := (-1)) S.1 S.2.1 d_AR_told_69 (by decide) ?_
      exact mm_reti S.1 S.2.1 hr hlocks hA hQ hw (cs_same hC (show sp_told k v I F st = ((-1), upd I 0 0, F, st) by simp only [sp_told, eq_true hc3, eq_false k13_0, eq_false k13_1, eq_false k13_2, not_true_eq_false, not_false_eq_true, and_true, true_and, and_false, false_and, and_self, or_true, true_or, or_false, false_or, or_self, ↓reduceIte, en])) (Nat.le_of_ble_eq_true rfl) (Nat.le_of_ble_eq_true rfl) d_AR_told_70
  · refine W.eq (g2 := F0 m 5 ls [.null]) rfl ?_
    refine lv_astore_nN (lv' := [(3, .null), (0, .ref x), (1, .int k), (2, .int v)]) S.1 S.2.1 d_AR_told_5 rfl hl (by decide) rfl (fun ls hl => ?_)
    refine lv_aload_nN S.1 S.2.1 d_AR_told_6 rfl (lv_at hl 0 rfl) ?_
    refine lv_ifnonnullN S.1 S.2.1 d_AR_told_7 ?_
    refine lv_iconst (v := (-1)) S.1 S.2.1 d_AR_told_10 (by decide) ?_
    exact mm_reti S.1 S.2.1 hr hlocks hA hQ hw (cs_same hC (show sp_told k v I F st = ((-1), upd I 0 0, F, st) by simp only [sp_told, eq_false hc3, not_true_eq_false, not_false_eq_true, and_true, true_and, and_false, false_and, and_self, or_true, true_or, or_false, false_or, or_self, ↓reduceIte])) (Nat.le_of_ble_eq_true rfl) (Nat.le_of_ble_eq_true rfl) d_AR_told_11
theorem d_AR_cancel_0 : decode b_AR_cancel 0 = .ok (.aload_n 0, 1) := by decide +kernel
theorem d_AR_cancel_1 : decode b_AR_cancel 1 = .ok (.iload_n 1, 1) := by decide +kernel
theorem d_AR_cancel_2 : decode b_AR_cancel 2 = .ok (.invokevirtual 57, 3) := by decide +kernel
theorem d_AR_cancel_5 : decode b_AR_cancel 5 = .ok (.astore_n 2, 1) := by decide +kernel
theorem d_AR_cancel_6 : decode b_AR_cancel 6 = .ok (.aload_n 2, 1) := by decide +kernel
theorem d_AR_cancel_7 : decode b_AR_cancel 7 = .ok (.ifnonnull 6, 3) := by decide +kernel
theorem d_AR_cancel_10 : decode b_AR_cancel 10 = .ok (.bipush (-2), 2) := by decide +kernel
theorem d_AR_cancel_12 : decode b_AR_cancel 12 = .ok (.ireturn, 1) := by decide +kernel
theorem d_AR_cancel_13 : decode b_AR_cancel 13 = .ok (.aload_n 2, 1) := by decide +kernel
theorem d_AR_cancel_14 : decode b_AR_cancel 14 = .ok (.getfield 82, 3) := by decide +kernel
theorem d_AR_cancel_17 : decode b_AR_cancel 17 = .ok (.astore_n 3, 1) := by decide +kernel
theorem d_AR_cancel_18 : decode b_AR_cancel 18 = .ok (.aload_n 3, 1) := by decide +kernel
theorem d_AR_cancel_19 : decode b_AR_cancel 19 = .ok (.ifnonnull 5, 3) := by decide +kernel
theorem d_AR_cancel_22 : decode b_AR_cancel 22 = .ok (.iconst (-1), 1) := by decide +kernel
theorem d_AR_cancel_23 : decode b_AR_cancel 23 = .ok (.ireturn, 1) := by decide +kernel
theorem d_AR_cancel_24 : decode b_AR_cancel 24 = .ok (.aload_n 2, 1) := by decide +kernel
theorem d_AR_cancel_25 : decode b_AR_cancel 25 = .ok (.aload_n 3, 1) := by decide +kernel
theorem d_AR_cancel_26 : decode b_AR_cancel 26 = .ok (.getfield 112, 3) := by decide +kernel
theorem d_AR_cancel_29 : decode b_AR_cancel 29 = .ok (.putfield 82, 3) := by decide +kernel
theorem d_AR_cancel_32 : decode b_AR_cancel 32 = .ok (.aload_n 2, 1) := by decide +kernel
theorem d_AR_cancel_33 : decode b_AR_cancel 33 = .ok (.dup, 1) := by decide +kernel
theorem d_AR_cancel_34 : decode b_AR_cancel 34 = .ok (.getfield 74, 3) := by decide +kernel
theorem d_AR_cancel_37 : decode b_AR_cancel 37 = .ok (.iconst 1, 1) := by decide +kernel
theorem d_AR_cancel_38 : decode b_AR_cancel 38 = .ok (.isub, 1) := by decide +kernel
theorem d_AR_cancel_39 : decode b_AR_cancel 39 = .ok (.putfield 74, 3) := by decide +kernel
theorem d_AR_cancel_42 : decode b_AR_cancel 42 = .ok (.aload_n 2, 1) := by decide +kernel
theorem d_AR_cancel_43 : decode b_AR_cancel 43 = .ok (.getfield 74, 3) := by decide +kernel
theorem d_AR_cancel_46 : decode b_AR_cancel 46 = .ok (.ireturn, 1) := by decide +kernel
set_option maxHeartbeats 4000000 in
set_option maxRecDepth 100000 in
theorem c_AR_cancel (l : Launch) (D : va_G) (dA : Nat → ClassId) (M : mm_M) (x nc : Nat) (I : sI) (F : sF) (st : sT) (hC : cP dA M x I F st nc) (hwf : wf I F st) (k : Int32) : mm_Ci l y_AR_cancel w_AR_cancel ({ frames := 1, cells := 0, slots := 0, locals := 21 }) 0 0 D vC (tyL dA) [.ref x, .int k] M (cs_post dA x nc (sp_cancel k I F st)) := by
  intro sz
  refine mm_start (by decide) (Nat.le_of_ble_eq_true rfl) ?_
  intro p e s m below meth c A Q ls hA hQ S hr hlocks hin hK hw hl
  have hl : lv_has ls 4 [(0, .ref x), (1, .int k)] := hl
  obtain ⟨lv, sr, gd, rs, ss, dr, cs, cg, hX, hL, hG, hS, hR, hT, hD, hCs, hE⟩ := id hC
  have hX : M x = some (.inr (0, [.ref lv, .int (I 1), .int (I 2), .ref sr, .ref gd, .int (I 3), .ref rs, .ref ss, .ref dr, .ref cs, .ref cg])) := hX
  obtain ⟨fL, la, ea, er, hlv, hfl, hla, hea, hch⟩ := id hL
  obtain ⟨n, hn, hN⟩ := hwf.1
  have hcn : cN (I 1) = n := cN_I hn (by omega)
  refine lv_aload_n S.1 S.2.1 d_AR_cancel_0 rfl (lv_at hl 0 rfl) ?_
  refine lv_iload_n S.1 S.2.1 d_AR_cancel_1 rfl (lv_at hl 1 rfl) ?_
  refine mm_callq hw (mm_runV (a := x) (As := [.int k]) (rest := []) S hK hw (c_AR_levelOf l D dA _ x lv sr gd rs ss dr cs cg I fL k n hn hN hX hlv _) bv_AR_levelOf gw_126 hX rfl (⟨rfl, rfl, by decide, by decide, by decide, by decide⟩) hl.1 rfl rfl (Nat.le_of_ble_eq_true rfl) d_AR_cancel_2) (fun r1 M2 H locs hp hw => ?_)
  rw [hp.1] at hw
  rcases hp.2 with ⟨hc3, er9⟩ | ⟨hc3, rfl⟩
  · obtain ⟨j, ek, hj1, hjn, en⟩ := is_of hn (by omega) hc3
    have er9 : r1 = some (la j) := by rw [er9, cN, en, hfl (j - 1) (by omega)]; congr 2; omega
    subst er9
    refine W.eq (g2 := F0 m 5 ls [.ref (la j)]) rfl ?_
    have hlj : M (la j) = some (oL la ea F j) := hla j hj1 (by omega)
    have en : cN k = j := en
    obtain ⟨z, hze, hz10, hzr⟩ := hwf.2.2.2.2.2.1.2.2 j hj1 (by omega)
    have hzc : cN (F 2 j) = z := cN_I hze (by omega)
    rcases Nat.eq_zero_or_pos z with hz0 | hz0
    · have htp : tpf ea F j = none := by rw [tpf, hzc, if_pos hz0]
      have hf0 : F 2 j = 0 := by rw [hze, hz0]; rfl
      have hlj0 := hlj
      have hlj : M (la j) = some (.inr (5, [.int (nI j), va_rf (lk la (F 0 j)), .int (F 1 j), .null, .int (F 2 j)])) := by rw [oL, htp] at hlj; exact hlj
      refine lv_astore_n (lv' := [(2, .ref (la j)), (0, .ref x), (1, .int k)]) S.1 S.2.1 d_AR_cancel_5 rfl hl (by decide) rfl (fun ls hl => ?_)
      refine lv_aload_n S.1 S.2.1 d_AR_cancel_6 rfl (lv_at hl 0 rfl) ?_
      refine lv_ifnonnull (tgt := 13) S.1 S.2.1 d_AR_cancel_7 (by decide) ?_
      refine lv_aload_n S.1 S.2.1 d_AR_cancel_13 rfl (lv_at hl 0 rfl) ?_
      refine mm_get (C := R_LV) (T := T_LV) (N := 5) S hK.1 hw hlj rfl in_LV 3 (by decide) gw_143 rfl rfl d_AR_cancel_14 ?_
      refine lv_astore_nN (lv' := [(3, .null), (2, .ref (la j)), (0, .ref x), (1, .int k)]) S.1 S.2.1 d_AR_cancel_17 rfl hl (by decide) rfl (fun ls hl => ?_)
      refine lv_aload_nN S.1 S.2.1 d_AR_cancel_18 rfl (lv_at hl 0 rfl) ?_
      refine lv_ifnonnullN S.1 S.2.1 d_AR_cancel_19 ?_
      refine lv_iconst (v := (-1)) S.1 S.2.1 d_AR_cancel_22 (by decide) ?_
      exact mm_reti S.1 S.2.1 hr hlocks hA hQ hw (cs_same hC (show sp_cancel k I F st = ((-1), upd I 0 0, F, st) by simp only [sp_cancel, eq_true hc3, not_true_eq_false, not_false_eq_true, and_true, true_and, and_false, false_and, and_self, or_true, true_or, or_false, false_or, or_self, ↓reduceIte, en, eq_true hf0])) (Nat.le_of_ble_eq_true rfl) (Nat.le_of_ble_eq_true rfl) d_AR_cancel_23
    · obtain ⟨u, hue, hu1, hun⟩ := hzr (z - 1) (by omega)
      have huc : cN (F 3 (10 * j + (z - 1))) = u := cN_I hue (by have := hwf.2.1; obtain ⟨ne, h1, h2⟩ := this; rw [cN_I h1 (by omega)] at hun; omega)
      have htp : tpf ea F j = some (ea u) := by rw [tpf, hzc, if_neg (by omega), huc]
      have hf0 : ¬ F 2 j = 0 := by rw [hze]; exact nI_ne0 hz0 (by omega)
      have heu : M (ea u) = some (oE er F u) := hea u hu1 hun
      have hlj0 := hlj
      have hlj : M (la j) = some (.inr (5, [.int (nI j), va_rf (lk la (F 0 j)), .int (F 1 j), .ref (ea u), .int (F 2 j)])) := by rw [oL, htp] at hlj; exact hlj
      refine lv_astore_n (lv' := [(2, .ref (la j)), (0, .ref x), (1, .int k)]) S.1 S.2.1 d_AR_cancel_5 rfl hl (by decide) rfl (fun ls hl => ?_)
      refine lv_aload_n S.1 S.2.1 d_AR_cancel_6 rfl (lv_at hl 0 rfl) ?_
      refine lv_ifnonnull (tgt := 13) S.1 S.2.1 d_AR_cancel_7 (by decide) ?_
      refine lv_aload_n S.1 S.2.1 d_AR_cancel_13 rfl (lv_at hl 0 rfl) ?_
      refine mm_get (C := R_LV) (T := T_LV) (N := 5) S hK.1 hw hlj rfl in_LV 3 (by decide) gw_143 rfl rfl d_AR_cancel_14 ?_
      refine lv_astore_n (lv' := [(3, .ref (ea u)), (2, .ref (la j)), (0, .ref x), (1, .int k)]) S.1 S.2.1 d_AR_cancel_17 rfl hl (by decide) rfl (fun ls hl => ?_)
      refine lv_aload_n S.1 S.2.1 d_AR_cancel_18 rfl (lv_at hl 0 rfl) ?_
      refine lv_ifnonnull (tgt := 24) S.1 S.2.1 d_AR_cancel_19 (by decide) ?_
      refine lv_aload_n S.1 S.2.1 d_AR_cancel_24 rfl (lv_at hl 1 rfl) ?_
      refine lv_aload_n S.1 S.2.1 d_AR_cancel_25 rfl (lv_at hl 0 rfl) ?_
      refine mm_get (C := R_EX) (T := T_EX) (N := 5) S hK.1 hw heu rfl in_EX 3 (by decide) gw_174 rfl rfl d_AR_cancel_26 ?_
      refine mm_put (C := R_LV) (T := T_LV) (N := 5) (ty := .object "AbendRows$Exit") (v := va_rf (er u)) S hK.1 hw hlj rfl in_LV t_LV k_LV n_LV 3 (by decide) gw_143 rfl rfl (by decide +kernel) (mq_nar _ _) (mq_fit _ _) (Nat.le_of_ble_eq_true rfl) d_AR_cancel_29 (fun H locs hw => ?_)
      obtain ⟨M4, eM4⟩ : ∃ zM : mm_M, zM = mm_up M (la j) (.inr (5, [.int (nI j), va_rf (lk la (F 0 j)), .int (F 1 j), va_rf (er u), .int (F 2 j)])) := ⟨_, rfl⟩
      have hw : mm_w D vC _ _ (mm_up M (la j) (.inr (5, [.int (nI j), va_rf (lk la (F 0 j)), .int (F 1 j), va_rf (er u), .int (F 2 j)]))) H _ := hw
      rw [← eM4] at hw
      have hX_4 : M4 x = some (.inr (0, [.ref lv, .int (I 1), .int (I 2), .ref sr, .ref gd, .int (I 3), .ref rs, .ref ss, .ref dr, .ref cs, .ref cg])) := by rw [eM4]; exact mm_uk hlj hX (by simp)
      have heu_4 : M4 (ea u) = some (.inr (6, [.int (nI u), .int (F 4 u), .int (F 6 u), va_rf (er u), .int (F 7 u)])) := by rw [eM4]; exact mm_uk hlj heu (by simp)
      have hlj_4 : M4 (la j) = some (.inr (5, [.int (nI j), va_rf (lk la (F 0 j)), .int (F 1 j), va_rf (er u), .int (F 2 j)])) := by rw [eM4]; exact mm_us
      refine lv_aload_n S.1 S.2.1 d_AR_cancel_32 rfl (lv_at hl 1 rfl) ?_
      refine lv_dup S.1 S.2.1 d_AR_cancel_33 rfl ?_
      refine mm_get (C := R_LV) (T := T_LV) (N := 5) S hK.1 hw hlj_4 rfl in_LV 4 (by decide) gw_144 rfl rfl d_AR_cancel_34 ?_
      refine lv_iconst (v := 1) S.1 S.2.1 d_AR_cancel_37 (by decide) ?_
      refine lv_isub S.1 S.2.1 d_AR_cancel_38 ?_
      refine mm_put (C := R_LV) (T := T_LV) (N := 5) (ty := .int) (v := .int ((F 2 j) - 1)) S hK.1 hw hlj_4 rfl in_LV t_LV k_LV n_LV 4 (by decide) gw_144 rfl rfl (by decide +kernel) (rfl) (rfl) (Nat.le_of_ble_eq_true rfl) d_AR_cancel_39 (fun H locs hw => ?_)
      obtain ⟨M5, eM5⟩ : ∃ zM : mm_M, zM = mm_up M4 (la j) (.inr (5, [.int (nI j), va_rf (lk la (F 0 j)), .int (F 1 j), va_rf (er u), .int ((F 2 j) - 1)])) := ⟨_, rfl⟩
      have hw : mm_w D vC _ _ (mm_up M4 (la j) (.inr (5, [.int (nI j), va_rf (lk la (F 0 j)), .int (F 1 j), va_rf (er u), .int ((F 2 j) - 1)]))) H _ := hw
      rw [← eM5] at hw
      have hX_5 : M5 x = some (.inr (0, [.ref lv, .int (I 1), .int (I 2), .ref sr, .ref gd, .int (I 3), .ref rs, .ref ss, .ref dr, .ref cs, .ref cg])) := by rw [eM5]; exact mm_uk hlj_4 hX_4 (by simp)
      have heu_5 : M5 (ea u) = some (.inr (6, [.int (nI u), .int (F 4 u), .int (F 6 u), va_rf (er u), .int (F 7 u)])) := by rw [eM5]; exact mm_uk hlj_4 heu_4 (by simp)
      have hlj_5 : M5 (la j) = some (.inr (5, [.int (nI j), va_rf (lk la (F 0 j)), .int (F 1 j), va_rf (er u), .int ((F 2 j) - 1)])) := by rw [eM5]; exact mm_us
      refine lv_aload_n S.1 S.2.1 d_AR_cancel_42 rfl (lv_at hl 1 rfl) ?_
      refine mm_get (C := R_LV) (T := T_LV) (N := 5) S hK.1 hw hlj_5 rfl in_LV 4 (by decide) gw_144 rfl rfl d_AR_cancel_43 ?_
      have hz9 : F 2 j - 1 = nI (z - 1) := by rw [hze, show (1 : Int32) = nI 1 from rfl, pk_sub (by omega)]
      have her : er u = tpf ea (va_up F 2 (upd (F 2) j (F 2 j - 1))) j := by
        have h9 := hch j hj1 (by omega) (z - 1) (by omega)
        rw [huc] at h9
        rw [h9]
        show _ = if cN (upd (F 2) j (F 2 j - 1) j) = 0 then none else some (ea (cN (F 3 (10 * j + (cN (upd (F 2) j (F 2 j - 1) j) - 1)))))
        rw [pk_us, hz9, cN_I rfl (by omega)]
      have eM9 : M5 = mm_up M (la j) (oL la ea (va_up F 2 (upd (F 2) j (F 2 j - 1))) j) := by
        rw [eM5, eM4, mm_uu, her]
        congr 1
        show _ = Sum.inr (5, [Value.int (nI j), va_rf (lk la (F 0 j)), .int (F 1 j), va_rf (tpf ea (va_up F 2 (upd (F 2) j (F 2 j - 1))) j), .int (upd (F 2) j (F 2 j - 1) j)])
        rw [pk_us]
      have hk9 : kt M M5 [5] := by rw [eM9]; exact kt_up hlj0 (by simp [tg])
      have hP9 : cP dA M5 x (upd I 0 0) (va_up F 2 (upd (F 2) j (F 2 j - 1))) st (nc + 1) := ⟨lv, sr, gd, rs, ss, dr, cs, cg, hk9 _ _ hX (by simp [tg]), by rw [eM9]; exact cL_set hcn hN hlv hfl hla hea hch hj1 hjn rfl rfl rfl rfl rfl rfl rfl rfl rfl (by rw [hz9, cN_I rfl (by omega), hzc]; omega), cG_k hk9 hG (by decide) rfl rfl rfl rfl, cS_k hk9 hS (by decide) rfl rfl, hk9 _ _ hR (by simp [tg]), hk9 _ _ hT (by simp [tg]), cD_k hk9 hD (by decide) rfl rfl, cC_k hk9 hCs (by decide) rfl, cE_k hk9 hE (by decide) (by omega) rfl⟩
      exact mm_reti S.1 S.2.1 hr hlocks hA hQ hw (cs_done hP9 (show sp_cancel k I F st = (F 2 j - 1, _, _, _) by simp only [sp_cancel, eq_true hc3, not_true_eq_false, not_false_eq_true, and_true, true_and, and_false, false_and, and_self, or_true, true_or, or_false, false_or, or_self, ↓reduceIte, en, eq_false hf0])) (Nat.le_of_ble_eq_true rfl) (Nat.le_of_ble_eq_true rfl) d_AR_cancel_46
  · refine W.eq (g2 := F0 m 5 ls [.null]) rfl ?_
    refine lv_astore_nN (lv' := [(2, .null), (0, .ref x), (1, .int k)]) S.1 S.2.1 d_AR_cancel_5 rfl hl (by decide) rfl (fun ls hl => ?_)
    refine lv_aload_nN S.1 S.2.1 d_AR_cancel_6 rfl (lv_at hl 0 rfl) ?_
    refine lv_ifnonnullN S.1 S.2.1 d_AR_cancel_7 ?_
    refine lv_bipush (v := (-2)) S.1 S.2.1 d_AR_cancel_10 (by decide) ?_
    exact mm_reti S.1 S.2.1 hr hlocks hA hQ hw (cs_same hC (show sp_cancel k I F st = ((-2), upd I 0 0, F, st) by simp only [sp_cancel, eq_false hc3, not_true_eq_false, not_false_eq_true, and_true, true_and, and_false, false_and, and_self, or_true, true_or, or_false, false_or, or_self, ↓reduceIte])) (Nat.le_of_ble_eq_true rfl) (Nat.le_of_ble_eq_true rfl) d_AR_cancel_12
