theorem d_AR_restart_0 : decode b_AR_restart 0 = .ok (.iload_n 1, 1) := by decide +kernel
theorem d_AR_restart_1 : decode b_AR_restart 1 = .ok (.invokestatic 115, 3) := by decide +kernel
theorem d_AR_restart_4 : decode b_AR_restart 4 = .ok (.ifCond .eq 10, 3) := by decide +kernel
theorem d_AR_restart_7 : decode b_AR_restart 7 = .ok (.iload_n 2, 1) := by decide +kernel
theorem d_AR_restart_8 : decode b_AR_restart 8 = .ok (.invokestatic 89, 3) := by decide +kernel
theorem d_AR_restart_11 : decode b_AR_restart 11 = .ok (.ifCond .ne 6, 3) := by decide +kernel
theorem d_AR_restart_14 : decode b_AR_restart 14 = .ok (.bipush (-4), 2) := by decide +kernel
theorem d_AR_restart_16 : decode b_AR_restart 16 = .ok (.ireturn, 1) := by decide +kernel
theorem d_AR_restart_17 : decode b_AR_restart 17 = .ok (.iload_n 2, 1) := by decide +kernel
theorem d_AR_restart_18 : decode b_AR_restart 18 = .ok (.sipush 1000, 3) := by decide +kernel
theorem d_AR_restart_21 : decode b_AR_restart 21 = .ok (.if_icmp .ge 17, 3) := by decide +kernel
theorem d_AR_restart_24 : decode b_AR_restart 24 = .ok (.aload_n 0, 1) := by decide +kernel
theorem d_AR_restart_25 : decode b_AR_restart 25 = .ok (.getfield 28, 3) := by decide +kernel
theorem d_AR_restart_28 : decode b_AR_restart 28 = .ok (.iload_n 1, 1) := by decide +kernel
theorem d_AR_restart_29 : decode b_AR_restart 29 = .ok (.iaload, 1) := by decide +kernel
theorem d_AR_restart_30 : decode b_AR_restart 30 = .ok (.iconst 3, 1) := by decide +kernel
theorem d_AR_restart_31 : decode b_AR_restart 31 = .ok (.if_icmp .ge 7, 3) := by decide +kernel
theorem d_AR_restart_34 : decode b_AR_restart 34 = .ok (.iconst 1, 1) := by decide +kernel
theorem d_AR_restart_35 : decode b_AR_restart 35 = .ok (.goto 4, 3) := by decide +kernel
theorem d_AR_restart_38 : decode b_AR_restart 38 = .ok (.iconst 0, 1) := by decide +kernel
theorem d_AR_restart_39 : decode b_AR_restart 39 = .ok (.istore_n 3, 1) := by decide +kernel
theorem d_AR_restart_40 : decode b_AR_restart 40 = .ok (.iload_n 3, 1) := by decide +kernel
theorem d_AR_restart_41 : decode b_AR_restart 41 = .ok (.ifCond .eq 13, 3) := by decide +kernel
theorem d_AR_restart_44 : decode b_AR_restart 44 = .ok (.aload_n 0, 1) := by decide +kernel
theorem d_AR_restart_45 : decode b_AR_restart 45 = .ok (.getfield 28, 3) := by decide +kernel
theorem d_AR_restart_48 : decode b_AR_restart 48 = .ok (.iload_n 1, 1) := by decide +kernel
theorem d_AR_restart_49 : decode b_AR_restart 49 = .ok (.dup2, 1) := by decide +kernel
theorem d_AR_restart_50 : decode b_AR_restart 50 = .ok (.iaload, 1) := by decide +kernel
theorem d_AR_restart_51 : decode b_AR_restart 51 = .ok (.iconst 1, 1) := by decide +kernel
theorem d_AR_restart_52 : decode b_AR_restart 52 = .ok (.iadd, 1) := by decide +kernel
theorem d_AR_restart_53 : decode b_AR_restart 53 = .ok (.iastore, 1) := by decide +kernel
theorem d_AR_restart_54 : decode b_AR_restart 54 = .ok (.aload_n 0, 1) := by decide +kernel
theorem d_AR_restart_55 : decode b_AR_restart 55 = .ok (.getfield 46, 3) := by decide +kernel
theorem d_AR_restart_58 : decode b_AR_restart 58 = .ok (.iload_n 2, 1) := by decide +kernel
theorem d_AR_restart_59 : decode b_AR_restart 59 = .ok (.invokevirtual 118, 3) := by decide +kernel
theorem d_AR_restart_62 : decode b_AR_restart 62 = .ok (.ifCond .ne 30, 3) := by decide +kernel
theorem d_AR_restart_65 : decode b_AR_restart 65 = .ok (.aload_n 0, 1) := by decide +kernel
theorem d_AR_restart_66 : decode b_AR_restart 66 = .ok (.getfield 39, 3) := by decide +kernel
theorem d_AR_restart_69 : decode b_AR_restart 69 = .ok (.new 121, 3) := by decide +kernel
theorem d_AR_restart_72 : decode b_AR_restart 72 = .ok (.dup, 1) := by decide +kernel
theorem d_AR_restart_73 : decode b_AR_restart 73 = .ok (.iload_n 1, 1) := by decide +kernel
theorem d_AR_restart_74 : decode b_AR_restart 74 = .ok (.iload_n 2, 1) := by decide +kernel
theorem d_AR_restart_75 : decode b_AR_restart 75 = .ok (.aload_n 0, 1) := by decide +kernel
theorem d_AR_restart_76 : decode b_AR_restart 76 = .ok (.iload_n 1, 1) := by decide +kernel
theorem d_AR_restart_77 : decode b_AR_restart 77 = .ok (.invokevirtual 123, 3) := by decide +kernel
theorem d_AR_restart_80 : decode b_AR_restart 80 = .ok (.aload_n 0, 1) := by decide +kernel
theorem d_AR_restart_81 : decode b_AR_restart 81 = .ok (.iload_n 1, 1) := by decide +kernel
theorem d_AR_restart_82 : decode b_AR_restart 82 = .ok (.invokevirtual 126, 3) := by decide +kernel
theorem d_AR_restart_85 : decode b_AR_restart 85 = .ok (.iload_n 3, 1) := by decide +kernel
theorem d_AR_restart_86 : decode b_AR_restart 86 = .ok (.invokespecial 129, 3) := by decide +kernel
theorem d_AR_restart_89 : decode b_AR_restart 89 = .ok (.invokevirtual 132, 3) := by decide +kernel
theorem d_AR_restart_92 : decode b_AR_restart 92 = .ok (.aload_n 0, 1) := by decide +kernel
theorem d_AR_restart_93 : decode b_AR_restart 93 = .ok (.getfield 53, 3) := by decide +kernel
theorem d_AR_restart_96 : decode b_AR_restart 96 = .ok (.iload_n 2, 1) := by decide +kernel
theorem d_AR_restart_97 : decode b_AR_restart 97 = .ok (.invokevirtual 104, 3) := by decide +kernel
theorem d_AR_restart_100 : decode b_AR_restart 100 = .ok (.iload_n 3, 1) := by decide +kernel
theorem d_AR_restart_101 : decode b_AR_restart 101 = .ok (.ifCond .eq 7, 3) := by decide +kernel
theorem d_AR_restart_104 : decode b_AR_restart 104 = .ok (.iconst 1, 1) := by decide +kernel
theorem d_AR_restart_105 : decode b_AR_restart 105 = .ok (.goto 4, 3) := by decide +kernel
theorem d_AR_restart_108 : decode b_AR_restart 108 = .ok (.iconst 0, 1) := by decide +kernel
theorem d_AR_restart_109 : decode b_AR_restart 109 = .ok (.ireturn, 1) := by decide +kernel
set_option maxHeartbeats 4000000 in
set_option maxRecDepth 100000 in
theorem c_AR_restart (l : Launch) (D : va_G) (dA : Nat → ClassId) (M : mm_M) (x nc : Nat) (I : sI) (F : sF) (st : sT) (hC : cP dA M x I F st nc) (hwf : wf I F st) (hnc : nc < 512) (t k : Int32) : mm_Ci l y_AR_restart w_AR_restart ({ frames := 2, cells := 1, slots := 5, locals := 47 }) 1 5 D vC (tyL dA) [.ref x, .int t, .int k] M (cs_post dA x nc (sp_restart t k I F st)) := by
  intro sz
  refine mm_start (by decide) (Nat.le_of_ble_eq_true rfl) ?_
  intro p e s m below meth c A Q ls hA hQ S hr hlocks hin hK hw hl
  have hl : lv_has ls 4 [(0, .ref x), (1, .int t), (2, .int k)] := hl
  obtain ⟨lv, sr, gd, rs, ss, dr, cs, cg, hX, hL, hG, hS, hR, hT, hD, hCs, hE⟩ := id hC
  have hX : M x = some (.inr (0, [.ref lv, .int (I 1), .int (I 2), .ref sr, .ref gd, .int (I 3), .ref rs, .ref ss, .ref dr, .ref cs, .ref cg])) := hX
  obtain ⟨fG, ga, b, f, hgd, hfg, hga, hgi⟩ := id hG
  obtain ⟨ng, hng, hNG⟩ := hwf.2.2.1
  have hng3 : cN (I 3) = ng := cN_I hng (by omega)
  obtain ⟨rg, nx, fD, da, hdr, hnx, hrg, hfd, hda⟩ := id hD
  obtain ⟨nd, hnd, hND⟩ := hwf.2.2.2.1
  obtain ⟨wd, fW, hcs, hwd, hsp9⟩ := id hCs
  obtain ⟨cd, n9, fC, hcg, hcd, hn9, hfc, hct⟩ := id hE
  refine lv_iload_n S.1 S.2.1 d_AR_restart_0 rfl (lv_at hl 1 rfl) ?_
  refine mm_calli hw (mm_runS (As := [.int t]) (rest := []) S hK hw (c_AR_isTask l D dA _ t _) bs_AR_isTask gw_235 (⟨rfl, rfl, by decide, by decide, by decide, by decide⟩) hl.1 rfl rfl (Nat.le_of_ble_eq_true rfl) d_AR_restart_1) (fun r1 M2 H locs hp hw => ?_)
  rw [hp.1] at hw
  rcases hp.2 with ⟨rfl, hc3⟩ | ⟨rfl, hc3⟩
  · obtain ⟨j4, ekj4, hlj4, hhj4, enj4⟩ := is_of (N := 40) rfl (by omega) hc3
    refine lv_if_eq (tgt := 14) S.1 S.2.1 d_AR_restart_4 (by decide) (fun c4 => absurd c4 (by decide)) (fun c4 => ?_)
    refine lv_iload_n S.1 S.2.1 d_AR_restart_7 rfl (lv_at hl 2 rfl) ?_
    refine mm_calli hw (mm_runS (As := [.int k]) (rest := []) S hK hw (c_AR_isCode l D dA _ k _) bs_AR_isCode gw_191 (⟨rfl, rfl, by decide, by decide, by decide, by decide⟩) hl.1 rfl rfl (Nat.le_of_ble_eq_true rfl) d_AR_restart_8) (fun r5 M6 H locs hp hw => ?_)
    rw [hp.1] at hw
    rcases hp.2 with ⟨rfl, hc7⟩ | ⟨rfl, hc7⟩
    · obtain ⟨j8, ekj8, hlj8, hhj8, enj8⟩ := is_of (N := 9999) rfl (by omega) hc7
      refine lv_if_ne (tgt := 17) S.1 S.2.1 d_AR_restart_11 (by decide) (fun c11 => ?_) (fun c11 => absurd c11 (by decide))
      have J : ∀ (M1 : mm_M) (H : Heap) (locs : List Loc) (ls : Array Slot), mm_w D vC A s.heap M1 H locs → kt M M1 [1041] → M1 rs = some (aI (dA 0) 41 (upd (F 9) (cN t) (F 9 (cN t) + rs_ag t k F))) → lv_has ls 4 [(3, .int (rs_ag t k F)), (0, .ref x), (1, .int t), (2, .int k)] → W p l e ({ frames := 2, cells := 1, slots := 5, locals := 47 }) s m [.ref x, .int t, .int k].toArray below meth c H locs 0 0 Q (F0 m 54 ls []) := by
        intro M1 H locs ls hw hk1 hR1 hl
        have hX1 : M1 x = some (.inr (0, [.ref lv, .int (I 1), .int (I 2), .ref sr, .ref gd, .int (I 3), .ref rs, .ref ss, .ref dr, .ref cs, .ref cg])) := hk1 _ _ hX (by simp [tg])
        have hcs1 : M1 cs = some (.inr (3, [.ref wd])) := hk1 _ _ hcs (by simp [tg])
        have hdr1 : M1 dr = some (.inr (2, [.ref rg, .int (nI nx)])) := hk1 _ _ hdr (by simp [tg])
        have hrg1 : M1 rg = some (.inl (dA 5, 50, .inr (.inr (.inr (.inr (fD)))))) := hk1 _ _ hrg (by simp [tg])
        have hgd1 : M1 gd = some (.inl (dA 4, 60, .inr (.inr (.inr (.inr (fG)))))) := hk1 _ _ hgd (by simp [tg])
        have hcg1 : M1 cg = some (.inr (4, [.ref cd, .int (nI n9)])) := hk1 _ _ hcg (by simp [tg])
        have hcd1 : M1 cd = some (.inl (dA 0, 512, .inl (fC))) := hk1 _ _ hcd (by simp [tg])
        have hwd1 : M1 wd = some (aJ (dA 1) 157 fW) := hk1 _ _ hwd (by simp [tg])
        refine lv_aload_n S.1 S.2.1 d_AR_restart_54 rfl (lv_at hl 1 rfl) ?_
        refine mm_get (C := R_AR) (T := T_AR) (N := 11) S hK.1 hw hX1 rfl in_AR 9 (by decide) gw_97 rfl rfl d_AR_restart_55 ?_
        refine lv_iload_n S.1 S.2.1 d_AR_restart_58 rfl (lv_at hl 3 rfl) ?_
        refine mm_calli hw (mm_runV (a := cs) (As := [.int k]) (rest := []) S hK hw (c_CS_has l D dA _ cs wd fW hcs1 hwd1 k _) bv_CS_has gw_238 hcs1 rfl (⟨rfl, rfl, by decide, by decide, by decide, by decide⟩) hl.1 rfl rfl (Nat.le_of_ble_eq_true rfl) d_AR_restart_59) (fun r9 M10 H locs hp hw => ?_)
        rw [hp.1] at hw
        rcases hp.2 with ⟨rfl, hh11⟩ | ⟨rfl, hh11⟩
        · refine lv_if_ne (tgt := 92) S.1 S.2.1 d_AR_restart_62 (by decide) (fun c62 => ?_) (fun c62 => absurd c62 (by decide))
          refine lv_aload_n S.1 S.2.1 d_AR_restart_92 rfl (lv_at hl 1 rfl) ?_
          refine mm_get (C := R_AR) (T := T_AR) (N := 11) S hK.1 hw hX1 rfl in_AR 10 (by decide) gw_98 rfl rfl d_AR_restart_93 ?_
          refine lv_iload_n S.1 S.2.1 d_AR_restart_96 rfl (lv_at hl 3 rfl) ?_
          refine mm_callv hw (mm_runV (a := cg) (As := [.int k]) (rest := []) S hK hw (c_CG_add l D dA _ cg cd n9 fC k (by omega) hcg1 hcd1 _) bv_CG_add gw_215 hcg1 rfl (⟨rfl, rfl, by decide, by decide, by decide, by decide⟩) hl.1 rfl rfl (Nat.le_of_ble_eq_true rfl) d_AR_restart_97) (fun M13 H locs hp hw => ?_)
          have hX1_14 : M13 x = some (.inr (0, [.ref lv, .int (I 1), .int (I 2), .ref sr, .ref gd, .int (I 3), .ref rs, .ref ss, .ref dr, .ref cs, .ref cg])) := by rw [hp]; exact mm_uk (mm_uk hcd1 hcg1 (by simp)) (mm_uk hcd1 hX1 (by simp)) (by simp)
          have hcs1_14 : M13 cs = some (.inr (3, [.ref wd])) := by rw [hp]; exact mm_uk (mm_uk hcd1 hcg1 (by simp)) (mm_uk hcd1 hcs1 (by simp)) (by simp)
          have hdr1_14 : M13 dr = some (.inr (2, [.ref rg, .int (nI nx)])) := by rw [hp]; exact mm_uk (mm_uk hcd1 hcg1 (by simp)) (mm_uk hcd1 hdr1 (by simp)) (by simp)
          have hrg1_14 : M13 rg = some (.inl (dA 5, 50, .inr (.inr (.inr (.inr (fD)))))) := by rw [hp]; exact mm_uk (mm_uk hcd1 hcg1 (by simp)) (mm_uk hcd1 hrg1 (by simp)) (by simp)
          have hgd1_14 : M13 gd = some (.inl (dA 4, 60, .inr (.inr (.inr (.inr (fG)))))) := by rw [hp]; exact mm_uk (mm_uk hcd1 hcg1 (by simp)) (mm_uk hcd1 hgd1 (by simp)) (by simp)
          have hcg1_14 : M13 cg = some (.inr (4, [.ref cd, .int (nI (n9 + 1))])) := by rw [hp]; exact mm_us
          have hcd1_14 : M13 cd = some (.inl (dA 0, 512, .inl (upd (fC) (n9) (k)))) := by rw [hp]; exact mm_uk (mm_uk hcd1 hcg1 (by simp)) mm_us (by simp)
          have hR1_14 : M13 rs = some (.inl (dA 0, 41, .inl (upd (F 9) (cN t) (F 9 (cN t) + rs_ag t k F)))) := by rw [hp]; exact mm_uk (mm_uk hcd1 hcg1 (by simp)) (mm_uk hcd1 hR1 (by simp)) (by simp)
          have kM13 : kt M1 M13 [1512, 4] := by rw [hp]; exact kt_tr (kt_up hcd1 (by simp [tg])) (kt_up (mm_uk hcd1 hcg1 (by simp)) (by simp [tg]))
          refine lv_iload_n S.1 S.2.1 d_AR_restart_100 rfl (lv_at hl 0 rfl) ?_
          refine lv_if_eq (tgt := 108) S.1 S.2.1 d_AR_restart_101 (by decide) (fun c101 => ?_) (fun c101 => ?_)
          · refine lv_iconst (v := 0) S.1 S.2.1 d_AR_restart_108 (by decide) ?_
            have hf10 : F 10 (cN k) = if bw fW (cN k) then 1 else 0 := by rw [cN, enj8]; exact hsp9 j8 hlj8 hhj8
            have hv : ¬ F 10 (cN k) = 0 := by rw [hf10, hh11.2]; decide
            have hag : rs_ag t k F = 0 := c101
            have hk9 : kt M M13 [1041, 1512, 4] := (kt_tr (kt_mo hk1 (by decide)) (kt_mo kM13 (by decide)))
            have hP9 : cP dA M13 x (upd I 0 0) (rs_F t k F) st (nc + 1) := ⟨lv, sr, gd, rs, ss, dr, cs, cg, hX1_14, cL_k hk9 hL (by decide) rfl rfl rfl rfl rfl rfl rfl rfl rfl, cG_k hk9 hG (by decide) rfl rfl rfl rfl, cS_k hk9 hS (by decide) rfl rfl, hR1_14, hk9 _ _ hT (by simp [tg]), cD_k hk9 hD (by decide) rfl rfl, cC_k hk9 hCs (by decide) rfl, cE_add hn9 hfc hct hlj8 hhj8 hcg1_14 (by rw [← ekj8]; exact hcd1_14) (show upd (F 8) (cN k) (F 8 (cN k) + 1) = upd (F 8) j8 (F 8 j8 + 1) from by rw [cN, enj8])⟩
            exact mm_reti S.1 S.2.1 hr hlocks hA hQ hw (cs_done hP9 (show sp_restart t k I F st = (0, _, _, _) by simp only [sp_restart, eq_true hc3, eq_true hc7, not_true_eq_false, not_false_eq_true, and_true, true_and, and_false, false_and, and_self, or_true, true_or, or_false, false_or, or_self, ↓reduceIte, eq_false hv]; rw [hag])) (Nat.le_of_ble_eq_true rfl) (Nat.le_of_ble_eq_true rfl) d_AR_restart_109
          · refine lv_iconst (v := 1) S.1 S.2.1 d_AR_restart_104 (by decide) ?_
            refine lv_goto (tgt := 109) S.1 S.2.1 d_AR_restart_105 (by decide) ?_
            have hf10 : F 10 (cN k) = if bw fW (cN k) then 1 else 0 := by rw [cN, enj8]; exact hsp9 j8 hlj8 hhj8
            have hv : ¬ F 10 (cN k) = 0 := by rw [hf10, hh11.2]; decide
            have hag : rs_ag t k F = 1 := rs_01.resolve_left c101
            have hk9 : kt M M13 [1041, 1512, 4] := (kt_tr (kt_mo hk1 (by decide)) (kt_mo kM13 (by decide)))
            have hP9 : cP dA M13 x (upd I 0 0) (rs_F t k F) st (nc + 1) := ⟨lv, sr, gd, rs, ss, dr, cs, cg, hX1_14, cL_k hk9 hL (by decide) rfl rfl rfl rfl rfl rfl rfl rfl rfl, cG_k hk9 hG (by decide) rfl rfl rfl rfl, cS_k hk9 hS (by decide) rfl rfl, hR1_14, hk9 _ _ hT (by simp [tg]), cD_k hk9 hD (by decide) rfl rfl, cC_k hk9 hCs (by decide) rfl, cE_add hn9 hfc hct hlj8 hhj8 hcg1_14 (by rw [← ekj8]; exact hcd1_14) (show upd (F 8) (cN k) (F 8 (cN k) + 1) = upd (F 8) j8 (F 8 j8 + 1) from by rw [cN, enj8])⟩
            exact mm_reti S.1 S.2.1 hr hlocks hA hQ hw (cs_done hP9 (show sp_restart t k I F st = (1, _, _, _) by simp only [sp_restart, eq_true hc3, eq_true hc7, not_true_eq_false, not_false_eq_true, and_true, true_and, and_false, false_and, and_self, or_true, true_or, or_false, false_or, or_self, ↓reduceIte, eq_false hv]; rw [hag])) (Nat.le_of_ble_eq_true rfl) (Nat.le_of_ble_eq_true rfl) d_AR_restart_109
        · refine lv_if_ne (tgt := 92) S.1 S.2.1 d_AR_restart_62 (by decide) (fun c62 => absurd c62 (by decide)) (fun c62 => ?_)
          refine lv_aload_n S.1 S.2.1 d_AR_restart_65 rfl (lv_at hl 1 rfl) ?_
          refine mm_get (C := R_AR) (T := T_AR) (N := 11) S hK.1 hw hX1 rfl in_AR 8 (by decide) gw_96 rfl rfl d_AR_restart_66 ?_
          refine mm_new (C := R_DU) (T := T_DU) (N := 5) (ci := 8) (fs := [.int 0, .int 0, .int 0, .int 0, .int 0]) S hK.1 hw rfl in_DU t_DU k_DU gw_246 gw_247 gw_17 (fun j hj => by rcases (show j = 0 ∨ j = 1 ∨ j = 2 ∨ j = 3 ∨ j = 4 by omega) with rfl | rfl | rfl | rfl | rfl <;> rfl) (Nat.le_of_ble_eq_true rfl) (Nat.le_of_ble_eq_true rfl) d_AR_restart_69 (fun qd H hqqd hw => ?_)
          obtain ⟨M15, eM15⟩ : ∃ zM : mm_M, zM = mm_up M1 qd (.inr (8, [.int 0, .int 0, .int 0, .int 0, .int 0])) := ⟨_, rfl⟩
          have hw : mm_w D vC _ _ (mm_up M1 qd (.inr (8, [.int 0, .int 0, .int 0, .int 0, .int 0]))) H _ := hw
          rw [← eM15] at hw
          have hX1_15 : M15 x = some (.inr (0, [.ref lv, .int (I 1), .int (I 2), .ref sr, .ref gd, .int (I 3), .ref rs, .ref ss, .ref dr, .ref cs, .ref cg])) := by rw [eM15]; exact mm_fk hqqd hX1
          have hcs1_15 : M15 cs = some (.inr (3, [.ref wd])) := by rw [eM15]; exact mm_fk hqqd hcs1
          have hdr1_15 : M15 dr = some (.inr (2, [.ref rg, .int (nI nx)])) := by rw [eM15]; exact mm_fk hqqd hdr1
          have hrg1_15 : M15 rg = some (.inl (dA 5, 50, .inr (.inr (.inr (.inr (fD)))))) := by rw [eM15]; exact mm_fk hqqd hrg1
          have hgd1_15 : M15 gd = some (.inl (dA 4, 60, .inr (.inr (.inr (.inr (fG)))))) := by rw [eM15]; exact mm_fk hqqd hgd1
          have hcg1_15 : M15 cg = some (.inr (4, [.ref cd, .int (nI n9)])) := by rw [eM15]; exact mm_fk hqqd hcg1
          have hcd1_15 : M15 cd = some (.inl (dA 0, 512, .inl (fC))) := by rw [eM15]; exact mm_fk hqqd hcd1
          have hR1_15 : M15 rs = some (.inl (dA 0, 41, .inl (upd (F 9) (cN t) (F 9 (cN t) + rs_ag t k F)))) := by rw [eM15]; exact mm_fk hqqd hR1
          have hqd_15 : M15 qd = some (.inr (8, [.int 0, .int 0, .int 0, .int 0, .int 0])) := by rw [eM15]; exact mm_us
          refine lv_dup S.1 S.2.1 d_AR_restart_72 rfl ?_
          refine lv_iload_n S.1 S.2.1 d_AR_restart_73 rfl (lv_at hl 2 rfl) ?_
          refine lv_iload_n S.1 S.2.1 d_AR_restart_74 rfl (lv_at hl 3 rfl) ?_
          have hk2 : kt M M15 [1041] := by rw [eM15]; exact kt_tr hk1 (kt_nw hqqd)
          have hga2 : ∀ i, 1 ≤ i → i ≤ cN (I 3) → M15 (ga i) = some (oG F b f i) ∧ gst (F 14 i) (b i) (f i) := fun i p q => ⟨hk2 _ _ (hga i p q).1 (by simp [tg]), (hga i p q).2⟩
          refine lv_aload_n S.1 S.2.1 d_AR_restart_75 rfl (lv_at hl 1 rfl) ?_
          refine lv_iload_n S.1 S.2.1 d_AR_restart_76 rfl (lv_at hl 2 rfl) ?_
          refine mm_calli hw (mm_runV (a := x) (As := [.int t]) (rest := [.int k, .int t, .ref qd, .ref qd, .ref dr]) S hK hw (c_AR_guardsOf l D dA _ x lv sr gd rs ss dr cs cg I F fG ga b f ng hng hNG hX1_15 hgd1_15 hfg hga2 t _) bv_AR_guardsOf gw_248 hX1_15 rfl (⟨rfl, rfl, by decide, by decide, by decide, by decide⟩) hl.1 rfl rfl (Nat.le_of_ble_eq_true rfl) d_AR_restart_77) (fun r16 M17 H locs hp hw => ?_)
          obtain ⟨e9, rfl⟩ := hp
          rw [e9] at hw
          refine lv_aload_n S.1 S.2.1 d_AR_restart_80 rfl (lv_at hl 1 rfl) ?_
          refine lv_iload_n S.1 S.2.1 d_AR_restart_81 rfl (lv_at hl 2 rfl) ?_
          refine mm_calli hw (mm_runV (a := x) (As := [.int t]) (rest := [.int (gc_a F t ng), .int k, .int t, .ref qd, .ref qd, .ref dr]) S hK hw (c_AR_brokenGuardsOf l D dA _ x lv sr gd rs ss dr cs cg I F fG ga b f ng hng hNG hX1_15 hgd1_15 hfg hga2 t _) bv_AR_brokenGuardsOf gw_256 hX1_15 rfl (⟨rfl, rfl, by decide, by decide, by decide, by decide⟩) hl.1 rfl rfl (Nat.le_of_ble_eq_true rfl) d_AR_restart_82) (fun r18 M19 H locs hp hw => ?_)
          obtain ⟨e9, rfl⟩ := hp
          rw [e9] at hw
          refine lv_iload_n S.1 S.2.1 d_AR_restart_85 rfl (lv_at hl 0 rfl) ?_
          refine mm_callv hw (mm_runI (a := qd) (As := [.int t, .int k, .int (gc_a F t ng), .int (gc_b F t ng), .int (rs_ag t k F)]) (rest := [.ref qd, .ref dr]) S hK hw (c_DU_init l D dA _ qd t k (gc_a F t ng) (gc_b F t ng) (rs_ag t k F) rs_01 hqd_15 _) bi_DU_init gw_260 (⟨rfl, rfl, by decide, by decide, by decide, by decide⟩) hl.1 rfl rfl (Nat.le_of_ble_eq_true rfl) d_AR_restart_86) (fun M21 H locs hp hw => ?_)
          have hX1_22 : M21 x = some (.inr (0, [.ref lv, .int (I 1), .int (I 2), .ref sr, .ref gd, .int (I 3), .ref rs, .ref ss, .ref dr, .ref cs, .ref cg])) := by rw [hp]; exact mm_uk hqd_15 hX1_15 (by simp)
          have hcs1_23 : M21 cs = some (.inr (3, [.ref wd])) := by rw [hp]; exact mm_uk hqd_15 hcs1_15 (by simp)
          have hdr1_24 : M21 dr = some (.inr (2, [.ref rg, .int (nI nx)])) := by rw [hp]; exact mm_uk hqd_15 hdr1_15 (by simp)
          have hrg1_25 : M21 rg = some (.inl (dA 5, 50, .inr (.inr (.inr (.inr (fD)))))) := by rw [hp]; exact mm_uk hqd_15 hrg1_15 (by simp)
          have hgd1_26 : M21 gd = some (.inl (dA 4, 60, .inr (.inr (.inr (.inr (fG)))))) := by rw [hp]; exact mm_uk hqd_15 hgd1_15 (by simp)
          have hcg1_27 : M21 cg = some (.inr (4, [.ref cd, .int (nI n9)])) := by rw [hp]; exact mm_uk hqd_15 hcg1_15 (by simp)
          have hcd1_28 : M21 cd = some (.inl (dA 0, 512, .inl (fC))) := by rw [hp]; exact mm_uk hqd_15 hcd1_15 (by simp)
          have hR1_29 : M21 rs = some (.inl (dA 0, 41, .inl (upd (F 9) (cN t) (F 9 (cN t) + rs_ag t k F)))) := by rw [hp]; exact mm_uk hqd_15 hR1_15 (by simp)
          have hqd_30 : M21 qd = some (.inr (8, [.int t, .int k, .int (gc_a F t ng), .int (gc_b F t ng), .int (rs_ag t k F)])) := by rw [hp]; exact mm_us
          have eM21 := hp
          have hk3 : kt M M21 [1041] := by rw [hp, eM15, show mm_up (mm_up M1 qd _) qd _ = mm_up M1 qd _ from mm_uu]; exact kt_tr hk1 (kt_nw hqqd)
          refine mm_callv hw (mm_runV (a := dr) (As := [.ref qd]) (rest := []) S hK hw (c_DR_keep l D dA _ dr rg nx qd fD t k (gc_a F t ng) (gc_b F t ng) (rs_ag t k F) hnx hdr1_24 hrg1_25 hqd_30 _) bv_DR_keep gw_285 hdr1_24 rfl (⟨rfl, rfl, by decide, by decide, by decide, by decide⟩) hl.1 rfl rfl (Nat.le_of_ble_eq_true rfl) d_AR_restart_89) (fun M32 H locs hp hw => ?_)
          have hX1_33 : M32 x = some (.inr (0, [.ref lv, .int (I 1), .int (I 2), .ref sr, .ref gd, .int (I 3), .ref rs, .ref ss, .ref dr, .ref cs, .ref cg])) := by rw [hp]; exact mm_uk (mm_uk hrg1_25 hdr1_24 (by simp)) (mm_uk hrg1_25 hX1_22 (by simp)) (by simp)
          have hcs1_33 : M32 cs = some (.inr (3, [.ref wd])) := by rw [hp]; exact mm_uk (mm_uk hrg1_25 hdr1_24 (by simp)) (mm_uk hrg1_25 hcs1_23 (by simp)) (by simp)
          have hdr1_33 : M32 dr = some (.inr (2, [.ref rg, .int (nI ((nx + 1) % 50))])) := by rw [hp]; exact mm_us
          have hrg1_33 : M32 rg = some (.inl (dA 5, 50, .inr (.inr (.inr (.inr (va_up (fD) (nx) (some qd))))))) := by rw [hp]; exact mm_uk (mm_uk hrg1_25 hdr1_24 (by simp)) mm_us (by simp)
          have hgd1_33 : M32 gd = some (.inl (dA 4, 60, .inr (.inr (.inr (.inr (fG)))))) := by rw [hp]; exact mm_uk (mm_uk hrg1_25 hdr1_24 (by simp)) (mm_uk hrg1_25 hgd1_26 (by simp)) (by simp)
          have hcg1_33 : M32 cg = some (.inr (4, [.ref cd, .int (nI n9)])) := by rw [hp]; exact mm_uk (mm_uk hrg1_25 hdr1_24 (by simp)) (mm_uk hrg1_25 hcg1_27 (by simp)) (by simp)
          have hcd1_33 : M32 cd = some (.inl (dA 0, 512, .inl (fC))) := by rw [hp]; exact mm_uk (mm_uk hrg1_25 hdr1_24 (by simp)) (mm_uk hrg1_25 hcd1_28 (by simp)) (by simp)
          have hR1_33 : M32 rs = some (.inl (dA 0, 41, .inl (upd (F 9) (cN t) (F 9 (cN t) + rs_ag t k F)))) := by rw [hp]; exact mm_uk (mm_uk hrg1_25 hdr1_24 (by simp)) (mm_uk hrg1_25 hR1_29 (by simp)) (by simp)
          have hqd_33 : M32 qd = some (.inr (8, [.int t, .int k, .int (gc_a F t ng), .int (gc_b F t ng), .int (rs_ag t k F)])) := by rw [hp]; exact mm_uk (mm_uk hrg1_25 hdr1_24 (by simp)) (mm_uk hrg1_25 hqd_30 (by simp)) (by simp)
          have kM32 : kt M21 M32 [1050, 2] := by rw [hp]; exact kt_tr (kt_up hrg1_25 (by simp [tg])) (kt_up (mm_uk hrg1_25 hdr1_24 (by simp)) (by simp [tg]))
          refine lv_aload_n S.1 S.2.1 d_AR_restart_92 rfl (lv_at hl 1 rfl) ?_
          refine mm_get (C := R_AR) (T := T_AR) (N := 11) S hK.1 hw hX1_33 rfl in_AR 10 (by decide) gw_98 rfl rfl d_AR_restart_93 ?_
          refine lv_iload_n S.1 S.2.1 d_AR_restart_96 rfl (lv_at hl 3 rfl) ?_
          refine mm_callv hw (mm_runV (a := cg) (As := [.int k]) (rest := []) S hK hw (c_CG_add l D dA _ cg cd n9 fC k (by omega) hcg1_33 hcd1_33 _) bv_CG_add gw_215 hcg1_33 rfl (⟨rfl, rfl, by decide, by decide, by decide, by decide⟩) hl.1 rfl rfl (Nat.le_of_ble_eq_true rfl) d_AR_restart_97) (fun M35 H locs hp hw => ?_)
          have hX1_36 : M35 x = some (.inr (0, [.ref lv, .int (I 1), .int (I 2), .ref sr, .ref gd, .int (I 3), .ref rs, .ref ss, .ref dr, .ref cs, .ref cg])) := by rw [hp]; exact mm_uk (mm_uk hcd1_33 hcg1_33 (by simp)) (mm_uk hcd1_33 hX1_33 (by simp)) (by simp)
          have hcs1_36 : M35 cs = some (.inr (3, [.ref wd])) := by rw [hp]; exact mm_uk (mm_uk hcd1_33 hcg1_33 (by simp)) (mm_uk hcd1_33 hcs1_33 (by simp)) (by simp)
          have hdr1_36 : M35 dr = some (.inr (2, [.ref rg, .int (nI ((nx + 1) % 50))])) := by rw [hp]; exact mm_uk (mm_uk hcd1_33 hcg1_33 (by simp)) (mm_uk hcd1_33 hdr1_33 (by simp)) (by simp)
          have hrg1_36 : M35 rg = some (.inl (dA 5, 50, .inr (.inr (.inr (.inr (va_up (fD) (nx) (some qd))))))) := by rw [hp]; exact mm_uk (mm_uk hcd1_33 hcg1_33 (by simp)) (mm_uk hcd1_33 hrg1_33 (by simp)) (by simp)
          have hgd1_36 : M35 gd = some (.inl (dA 4, 60, .inr (.inr (.inr (.inr (fG)))))) := by rw [hp]; exact mm_uk (mm_uk hcd1_33 hcg1_33 (by simp)) (mm_uk hcd1_33 hgd1_33 (by simp)) (by simp)
          have hcg1_36 : M35 cg = some (.inr (4, [.ref cd, .int (nI (n9 + 1))])) := by rw [hp]; exact mm_us
          have hcd1_36 : M35 cd = some (.inl (dA 0, 512, .inl (upd (fC) (n9) (k)))) := by rw [hp]; exact mm_uk (mm_uk hcd1_33 hcg1_33 (by simp)) mm_us (by simp)
          have hR1_36 : M35 rs = some (.inl (dA 0, 41, .inl (upd (F 9) (cN t) (F 9 (cN t) + rs_ag t k F)))) := by rw [hp]; exact mm_uk (mm_uk hcd1_33 hcg1_33 (by simp)) (mm_uk hcd1_33 hR1_33 (by simp)) (by simp)
          have hqd_36 : M35 qd = some (.inr (8, [.int t, .int k, .int (gc_a F t ng), .int (gc_b F t ng), .int (rs_ag t k F)])) := by rw [hp]; exact mm_uk (mm_uk hcd1_33 hcg1_33 (by simp)) (mm_uk hcd1_33 hqd_33 (by simp)) (by simp)
          have kM35 : kt M32 M35 [1512, 4] := by rw [hp]; exact kt_tr (kt_up hcd1_33 (by simp [tg])) (kt_up (mm_uk hcd1_33 hcg1_33 (by simp)) (by simp [tg]))
          refine lv_iload_n S.1 S.2.1 d_AR_restart_100 rfl (lv_at hl 0 rfl) ?_
          refine lv_if_eq (tgt := 108) S.1 S.2.1 d_AR_restart_101 (by decide) (fun c101 => ?_) (fun c101 => ?_)
          · refine lv_iconst (v := 0) S.1 S.2.1 d_AR_restart_108 (by decide) ?_
            have hf10 : F 10 (cN k) = if bw fW (cN k) then 1 else 0 := by rw [cN, enj8]; exact hsp9 j8 hlj8 hhj8
            have hv : F 10 (cN k) = 0 := by
              rw [hf10]
              cases hb9 : bw fW (cN k) with
              | true => exact absurd ⟨hc7, hb9⟩ hh11
              | false => rfl
            have hag : rs_ag t k F = 0 := c101
            have hk9 : kt M M35 [1041, 1050, 2, 1512, 4] := (kt_tr (kt_tr (kt_mo hk3 (by decide)) (kt_mo kM32 (by decide))) (kt_mo kM35 (by decide)))
            have hP9 : cP dA M35 x (upd (upd I 0 0) 4 (nI (rs_n I + 1))) (va_up (rs_F t k F) 15 (upd (upd (upd (upd (upd (rs_k I F) (5 * rs_n I) t) (5 * rs_n I + 1) k) (5 * rs_n I + 2) (gc_a F t (cN (I 3)))) (5 * rs_n I + 3) (gc_b F t (cN (I 3)))) (5 * rs_n I + 4) (rs_ag t k F))) st (nc + 1) := ⟨lv, sr, gd, rs, ss, dr, cs, cg, hX1_36, cL_k hk9 hL (by decide) rfl rfl rfl rfl rfl rfl rfl rfl rfl, cG_k hk9 hG (by decide) rfl rfl rfl rfl, cS_k hk9 hS (by decide) rfl rfl, hR1_36, hk9 _ _ hT (by simp [tg]), cD_add (q := qd) hnd hND hnx hfd hda hk9 (by decide) hdr1_36 hrg1_36 (by rw [hng3]; exact hqd_36) rs_01 rfl rfl, cC_k hk9 hCs (by decide) rfl, cE_add hn9 hfc hct hlj8 hhj8 hcg1_36 (by rw [← ekj8]; exact hcd1_36) (show upd (F 8) (cN k) (F 8 (cN k) + 1) = upd (F 8) j8 (F 8 j8 + 1) from by rw [cN, enj8])⟩
            exact mm_reti S.1 S.2.1 hr hlocks hA hQ hw (cs_done hP9 (show sp_restart t k I F st = (0, _, _, _) by simp only [sp_restart, eq_true hc3, eq_true hc7, not_true_eq_false, not_false_eq_true, and_true, true_and, and_false, false_and, and_self, or_true, true_or, or_false, false_or, or_self, ↓reduceIte, eq_true hv]; rw [hag])) (Nat.le_of_ble_eq_true rfl) (Nat.le_of_ble_eq_true rfl) d_AR_restart_109
          · refine lv_iconst (v := 1) S.1 S.2.1 d_AR_restart_104 (by decide) ?_
            refine lv_goto (tgt := 109) S.1 S.2.1 d_AR_restart_105 (by decide) ?_
            have hf10 : F 10 (cN k) = if bw fW (cN k) then 1 else 0 := by rw [cN, enj8]; exact hsp9 j8 hlj8 hhj8
            have hv : F 10 (cN k) = 0 := by
              rw [hf10]
              cases hb9 : bw fW (cN k) with
              | true => exact absurd ⟨hc7, hb9⟩ hh11
              | false => rfl
            have hag : rs_ag t k F = 1 := rs_01.resolve_left c101
            have hk9 : kt M M35 [1041, 1050, 2, 1512, 4] := (kt_tr (kt_tr (kt_mo hk3 (by decide)) (kt_mo kM32 (by decide))) (kt_mo kM35 (by decide)))
            have hP9 : cP dA M35 x (upd (upd I 0 0) 4 (nI (rs_n I + 1))) (va_up (rs_F t k F) 15 (upd (upd (upd (upd (upd (rs_k I F) (5 * rs_n I) t) (5 * rs_n I + 1) k) (5 * rs_n I + 2) (gc_a F t (cN (I 3)))) (5 * rs_n I + 3) (gc_b F t (cN (I 3)))) (5 * rs_n I + 4) (rs_ag t k F))) st (nc + 1) := ⟨lv, sr, gd, rs, ss, dr, cs, cg, hX1_36, cL_k hk9 hL (by decide) rfl rfl rfl rfl rfl rfl rfl rfl rfl, cG_k hk9 hG (by decide) rfl rfl rfl rfl, cS_k hk9 hS (by decide) rfl rfl, hR1_36, hk9 _ _ hT (by simp [tg]), cD_add (q := qd) hnd hND hnx hfd hda hk9 (by decide) hdr1_36 hrg1_36 (by rw [hng3]; exact hqd_36) rs_01 rfl rfl, cC_k hk9 hCs (by decide) rfl, cE_add hn9 hfc hct hlj8 hhj8 hcg1_36 (by rw [← ekj8]; exact hcd1_36) (show upd (F 8) (cN k) (F 8 (cN k) + 1) = upd (F 8) j8 (F 8 j8 + 1) from by rw [cN, enj8])⟩
            exact mm_reti S.1 S.2.1 hr hlocks hA hQ hw (cs_done hP9 (show sp_restart t k I F st = (1, _, _, _) by simp only [sp_restart, eq_true hc3, eq_true hc7, not_true_eq_false, not_false_eq_true, and_true, true_and, and_false, false_and, and_self, or_true, true_or, or_false, false_or, or_self, ↓reduceIte, eq_true hv]; rw [hag])) (Nat.le_of_ble_eq_true rfl) (Nat.le_of_ble_eq_true rfl) d_AR_restart_109
      refine lv_iload_n S.1 S.2.1 d_AR_restart_17 rfl (lv_at hl 2 rfl) ?_
      refine lv_sipush (v := 1000) S.1 S.2.1 d_AR_restart_18 (by decide) ?_
      refine lv_icmp_ge (tgt := 38) S.1 S.2.1 d_AR_restart_21 (by decide) (fun c21 => ?_) (fun c21 => ?_)
      · refine lv_iconst (v := 0) S.1 S.2.1 d_AR_restart_38 (by decide) ?_
        refine lv_istore_n (lv' := [(3, .int 0), (0, .ref x), (1, .int t), (2, .int k)]) S.1 S.2.1 d_AR_restart_39 rfl hl (by decide) rfl (fun ls hl => ?_)
        refine lv_iload_n S.1 S.2.1 d_AR_restart_40 rfl (lv_at hl 0 rfl) ?_
        refine lv_if_eq (tgt := 54) S.1 S.2.1 d_AR_restart_41 (by decide) (fun c41 => ?_) (fun c41 => absurd c41 (by decide))
        have ea : (0 : Int32) = rs_ag t k F := by simp only [rs_ag, eq_true hc3, eq_false c4, eq_true hc7, eq_false c11, eq_true c21, eq_true c41, not_true_eq_false, not_false_eq_true, and_true, true_and, and_false, false_and, and_self, or_true, true_or, or_false, false_or, or_self, ↓reduceIte]
        exact J M _ _ ls hw kt_rf (by rw [← ea, upd_id]; exact hR) (by rw [← ea]; exact lv_sub hl [0, 1, 2, 3] rfl)
      · refine lv_aload_n S.1 S.2.1 d_AR_restart_24 rfl (lv_at hl 0 rfl) ?_
        refine mm_get (C := R_AR) (T := T_AR) (N := 11) S hK.1 hw hX rfl in_AR 6 (by decide) gw_94 rfl rfl d_AR_restart_25 ?_
        refine lv_iload_n S.1 S.2.1 d_AR_restart_28 rfl (lv_at hl 1 rfl) ?_
        refine mn_iald (j := cN t) S hK.1 hw 0 hR rfl (cl_nI (is_le0 hc3.1)) (by rw [cN, enj4]; omega) (by decide) d_AR_restart_29 ?_
        refine lv_iconst (v := 3) S.1 S.2.1 d_AR_restart_30 (by decide) ?_
        refine lv_icmp_ge (tgt := 38) S.1 S.2.1 d_AR_restart_31 (by decide) (fun c31 => ?_) (fun c31 => ?_)
        · refine lv_iconst (v := 0) S.1 S.2.1 d_AR_restart_38 (by decide) ?_
          refine lv_istore_n (lv' := [(3, .int 0), (0, .ref x), (1, .int t), (2, .int k)]) S.1 S.2.1 d_AR_restart_39 rfl hl (by decide) rfl (fun ls hl => ?_)
          refine lv_iload_n S.1 S.2.1 d_AR_restart_40 rfl (lv_at hl 0 rfl) ?_
          refine lv_if_eq (tgt := 54) S.1 S.2.1 d_AR_restart_41 (by decide) (fun c41 => ?_) (fun c41 => absurd c41 (by decide))
          have ea : (0 : Int32) = rs_ag t k F := by simp only [rs_ag, eq_true hc3, eq_false c4, eq_true hc7, eq_false c11, eq_false c21, eq_true c31, eq_true c41, not_true_eq_false, not_false_eq_true, and_true, true_and, and_false, false_and, and_self, or_true, true_or, or_false, false_or, or_self, ↓reduceIte]
          exact J M _ _ ls hw kt_rf (by rw [← ea, upd_id]; exact hR) (by rw [← ea]; exact lv_sub hl [0, 1, 2, 3] rfl)
        · refine lv_iconst (v := 1) S.1 S.2.1 d_AR_restart_34 (by decide) ?_
          refine lv_goto (tgt := 39) S.1 S.2.1 d_AR_restart_35 (by decide) ?_
          refine lv_istore_n (lv' := [(3, .int 1), (0, .ref x), (1, .int t), (2, .int k)]) S.1 S.2.1 d_AR_restart_39 rfl hl (by decide) rfl (fun ls hl => ?_)
          refine lv_iload_n S.1 S.2.1 d_AR_restart_40 rfl (lv_at hl 0 rfl) ?_
          refine lv_if_eq (tgt := 54) S.1 S.2.1 d_AR_restart_41 (by decide) (fun c41 => absurd c41 (by decide)) (fun c41 => ?_)
          refine lv_aload_n S.1 S.2.1 d_AR_restart_44 rfl (lv_at hl 1 rfl) ?_
          refine mm_get (C := R_AR) (T := T_AR) (N := 11) S hK.1 hw hX rfl in_AR 6 (by decide) gw_94 rfl rfl d_AR_restart_45 ?_
          refine lv_iload_n S.1 S.2.1 d_AR_restart_48 rfl (lv_at hl 2 rfl) ?_
          refine lv_dup2_11 S.1 S.2.1 d_AR_restart_49 rfl rfl ?_
          refine mn_iald (j := cN t) S hK.1 hw 0 hR rfl (cl_nI (is_le0 hc3.1)) (by rw [cN, enj4]; omega) (by decide) d_AR_restart_50 ?_
          refine lv_iconst (v := 1) S.1 S.2.1 d_AR_restart_51 (by decide) ?_
          refine lv_iadd S.1 S.2.1 d_AR_restart_52 ?_
          refine mn_iast (j := cN t) S hK.1 hw 0 hR rfl (cl_nI (is_le0 hc3.1)) (by rw [cN, enj4]; omega) (by decide) d_AR_restart_53 (fun H locs hw => ?_)
          obtain ⟨M37, eM37⟩ : ∃ zM : mm_M, zM = mm_up M rs (.inl (dA 0, 41, .inl (upd (F 9) (cN t) ((((F 9) (cN t)) + 1))))) := ⟨_, rfl⟩
          have hw : mm_w D vC _ _ (mm_up M rs (.inl (dA 0, 41, .inl (upd (F 9) (cN t) ((((F 9) (cN t)) + 1)))))) H _ := hw
          rw [← eM37] at hw
          have hX_37 : M37 x = some (.inr (0, [.ref lv, .int (I 1), .int (I 2), .ref sr, .ref gd, .int (I 3), .ref rs, .ref ss, .ref dr, .ref cs, .ref cg])) := by rw [eM37]; exact mm_uk hR hX (by simp)
          have hR_37 : M37 rs = some (.inl (dA 0, 41, .inl (upd (F 9) (cN t) ((((F 9) (cN t)) + 1))))) := by rw [eM37]; exact mm_us
          have ea : (1 : Int32) = rs_ag t k F := by simp only [rs_ag, eq_true hc3, eq_false c4, eq_true hc7, eq_false c11, eq_false c21, eq_false c31, eq_false c41, not_true_eq_false, not_false_eq_true, and_true, true_and, and_false, false_and, and_self, or_true, true_or, or_false, false_or, or_self, ↓reduceIte]
          exact J M37 _ _ ls hw (by rw [eM37]; exact kt_up hR (by simp [tg])) (by rw [← ea]; exact hR_37) (by rw [← ea]; exact lv_sub hl [0, 1, 2, 3] rfl)
    · refine lv_if_ne (tgt := 17) S.1 S.2.1 d_AR_restart_11 (by decide) (fun c11 => absurd c11 (by decide)) (fun c11 => ?_)
      refine lv_bipush (v := (-4)) S.1 S.2.1 d_AR_restart_14 (by decide) ?_
      exact mm_reti S.1 S.2.1 hr hlocks hA hQ hw (cs_same hC (show sp_restart t k I F st = ((-4), upd I 0 0, F, st) by simp only [sp_restart, eq_true hc3, eq_false c4, eq_false hc7, eq_true c11, not_true_eq_false, not_false_eq_true, and_true, true_and, and_false, false_and, and_self, or_true, true_or, or_false, false_or, or_self, ↓reduceIte])) (Nat.le_of_ble_eq_true rfl) (Nat.le_of_ble_eq_true rfl) d_AR_restart_16
  · refine lv_if_eq (tgt := 14) S.1 S.2.1 d_AR_restart_4 (by decide) (fun c4 => ?_) (fun c4 => absurd c4 (by decide))
    refine lv_bipush (v := (-4)) S.1 S.2.1 d_AR_restart_14 (by decide) ?_
    exact mm_reti S.1 S.2.1 hr hlocks hA hQ hw (cs_same hC (show sp_restart t k I F st = ((-4), upd I 0 0, F, st) by simp only [sp_restart, eq_false hc3, eq_true c4, not_true_eq_false, not_false_eq_true, and_true, true_and, and_false, false_and, and_self, or_true, true_or, or_false, false_or, or_self, ↓reduceIte])) (Nat.le_of_ble_eq_true rfl) (Nat.le_of_ble_eq_true rfl) d_AR_restart_16
