theorem d_AR_abend_0 : decode b_AR_abend 0 = .ok (.aload_n 0, 1) := by decide +kernel
theorem d_AR_abend_1 : decode b_AR_abend 1 = .ok (.iload_n 1, 1) := by decide +kernel
theorem d_AR_abend_2 : decode b_AR_abend 2 = .ok (.invokevirtual 57, 3) := by decide +kernel
theorem d_AR_abend_5 : decode b_AR_abend 5 = .ok (.astore_n 3, 1) := by decide +kernel
theorem d_AR_abend_6 : decode b_AR_abend 6 = .ok (.aload_n 3, 1) := by decide +kernel
theorem d_AR_abend_7 : decode b_AR_abend 7 = .ok (.ifnonnull 6, 3) := by decide +kernel
theorem d_AR_abend_10 : decode b_AR_abend 10 = .ok (.bipush (-2), 2) := by decide +kernel
theorem d_AR_abend_12 : decode b_AR_abend 12 = .ok (.ireturn, 1) := by decide +kernel
theorem d_AR_abend_13 : decode b_AR_abend 13 = .ok (.iload_n 2, 1) := by decide +kernel
theorem d_AR_abend_14 : decode b_AR_abend 14 = .ok (.invokestatic 89, 3) := by decide +kernel
theorem d_AR_abend_17 : decode b_AR_abend 17 = .ok (.ifCond .ne 6, 3) := by decide +kernel
theorem d_AR_abend_20 : decode b_AR_abend 20 = .ok (.bipush (-4), 2) := by decide +kernel
theorem d_AR_abend_22 : decode b_AR_abend 22 = .ok (.ireturn, 1) := by decide +kernel
theorem d_AR_abend_23 : decode b_AR_abend 23 = .ok (.aload_n 0, 1) := by decide +kernel
theorem d_AR_abend_24 : decode b_AR_abend 24 = .ok (.getfield 18, 3) := by decide +kernel
theorem d_AR_abend_27 : decode b_AR_abend 27 = .ok (.aload_n 3, 1) := by decide +kernel
theorem d_AR_abend_28 : decode b_AR_abend 28 = .ok (.iload_n 2, 1) := by decide +kernel
theorem d_AR_abend_29 : decode b_AR_abend 29 = .ok (.invokevirtual 93, 3) := by decide +kernel
theorem d_AR_abend_32 : decode b_AR_abend 32 = .ok (.astore 4, 2) := by decide +kernel
theorem d_AR_abend_34 : decode b_AR_abend 34 = .ok (.aload_n 3, 1) := by decide +kernel
theorem d_AR_abend_35 : decode b_AR_abend 35 = .ok (.aload 4, 2) := by decide +kernel
theorem d_AR_abend_37 : decode b_AR_abend 37 = .ok (.invokestatic 97, 3) := by decide +kernel
theorem d_AR_abend_40 : decode b_AR_abend 40 = .ok (.aload_n 0, 1) := by decide +kernel
theorem d_AR_abend_41 : decode b_AR_abend 41 = .ok (.getfield 53, 3) := by decide +kernel
theorem d_AR_abend_44 : decode b_AR_abend 44 = .ok (.aload_n 0, 1) := by decide +kernel
theorem d_AR_abend_45 : decode b_AR_abend 45 = .ok (.getfield 18, 3) := by decide +kernel
theorem d_AR_abend_48 : decode b_AR_abend 48 = .ok (.getfield 101, 3) := by decide +kernel
theorem d_AR_abend_51 : decode b_AR_abend 51 = .ok (.invokevirtual 104, 3) := by decide +kernel
theorem d_AR_abend_54 : decode b_AR_abend 54 = .ok (.aload 4, 2) := by decide +kernel
theorem d_AR_abend_56 : decode b_AR_abend 56 = .ok (.ifnonnull 7, 3) := by decide +kernel
theorem d_AR_abend_59 : decode b_AR_abend 59 = .ok (.iconst (-1), 1) := by decide +kernel
theorem d_AR_abend_60 : decode b_AR_abend 60 = .ok (.goto 8, 3) := by decide +kernel
theorem d_AR_abend_63 : decode b_AR_abend 63 = .ok (.aload 4, 2) := by decide +kernel
theorem d_AR_abend_65 : decode b_AR_abend 65 = .ok (.getfield 71, 3) := by decide +kernel
theorem d_AR_abend_68 : decode b_AR_abend 68 = .ok (.ireturn, 1) := by decide +kernel
set_option maxHeartbeats 4000000 in
set_option maxRecDepth 100000 in
theorem c_AR_abend (l : Launch) (D : va_G) (dA : Nat → ClassId) (M : mm_M) (x nc : Nat) (I : sI) (F : sF) (st : sT) (hC : cP dA M x I F st nc) (hwf : wf I F st) (hnc : nc < 512) (k c0 : Int32) : mm_Ci l y_AR_abend w_AR_abend ({ frames := 3, cells := 0, slots := 0, locals := 69 }) 0 0 D vC (tyL dA) [.ref x, .int k, .int c0] M (cs_post dA x nc (sp_abend k c0 I F st)) := by
  intro sz
  refine mm_start (by decide) (Nat.le_of_ble_eq_true rfl) ?_
  intro p e s m below meth c A Q ls hA hQ S hr hlocks hin hK hw hl
  have hl : lv_has ls 5 [(0, .ref x), (1, .int k), (2, .int c0)] := hl
  obtain ⟨lv, sr, gd, rs, ss, dr, cs, cg, hX, hL, hG, hS, hR, hT, hD, hCs, hE⟩ := id hC
  have hX : M x = some (.inr (0, [.ref lv, .int (I 1), .int (I 2), .ref sr, .ref gd, .int (I 3), .ref rs, .ref ss, .ref dr, .ref cs, .ref cg])) := hX
  obtain ⟨fL, la, ea, er, hlv, hfl, hla, hea, hch⟩ := id hL
  obtain ⟨n, hn, hN⟩ := hwf.1
  have hcn : cN (I 1) = n := cN_I hn (by omega)
  obtain ⟨ne, hne, hNE⟩ := hwf.2.1
  have hcne : cN (I 2) = ne := cN_I hne (by omega)
  have hwl : lv_wf2 F n ne := by rw [← hcn, ← hcne]; exact hwf.2.2.2.2.2.1
  obtain ⟨ak, fA, sc, hsr, hak, hak2⟩ := id hS
  obtain ⟨cd, n9, fC, hcg, hcd, hn9, hfc, hct⟩ := id hE
  refine lv_aload_n S.1 S.2.1 d_AR_abend_0 rfl (lv_at hl 0 rfl) ?_
  refine lv_iload_n S.1 S.2.1 d_AR_abend_1 rfl (lv_at hl 1 rfl) ?_
  refine mm_callq hw (mm_runV (a := x) (As := [.int k]) (rest := []) S hK hw (c_AR_levelOf l D dA _ x lv sr gd rs ss dr cs cg I fL k n hn hN hX hlv _) bv_AR_levelOf gw_126 hX rfl (⟨rfl, rfl, by decide, by decide, by decide, by decide⟩) hl.1 rfl rfl (Nat.le_of_ble_eq_true rfl) d_AR_abend_2) (fun r1 M2 H locs hp hw => ?_)
  rw [hp.1] at hw
  rcases hp.2 with ⟨hc3, er9⟩ | ⟨hc3, rfl⟩
  · obtain ⟨j, ek, hj1, hjn, en⟩ := is_of hn (by omega) hc3
    have er9 : r1 = some (la j) := by rw [er9, cN, en, hfl (j - 1) (by omega)]; congr 2; omega
    subst er9
    refine W.eq (g2 := F0 m 5 ls [.ref (la j)]) rfl ?_
    have hlj : M (la j) = some (oL la ea F j) := hla j hj1 (by omega)
    have en9 : cN k = j := en
    refine lv_astore_n (lv' := [(3, .ref (la j)), (0, .ref x), (1, .int k), (2, .int c0)]) S.1 S.2.1 d_AR_abend_5 rfl hl (by decide) rfl (fun ls hl => ?_)
    refine lv_aload_n S.1 S.2.1 d_AR_abend_6 rfl (lv_at hl 0 rfl) ?_
    refine lv_ifnonnull (tgt := 13) S.1 S.2.1 d_AR_abend_7 (by decide) ?_
    refine lv_iload_n S.1 S.2.1 d_AR_abend_13 rfl (lv_at hl 3 rfl) ?_
    refine mm_calli hw (mm_runS (As := [.int c0]) (rest := []) S hK hw (c_AR_isCode l D dA _ c0 _) bs_AR_isCode gw_191 (⟨rfl, rfl, by decide, by decide, by decide, by decide⟩) hl.1 rfl rfl (Nat.le_of_ble_eq_true rfl) d_AR_abend_14) (fun r4 M5 H locs hp hw => ?_)
    rw [hp.1] at hw
    rcases hp.2 with ⟨rfl, hc6⟩ | ⟨rfl, hc6⟩
    · obtain ⟨jc, ekc, hjc1, hjc2, enc⟩ := is_of (N := 9999) rfl (by omega) hc6
      subst ekc
      refine lv_if_ne (tgt := 23) S.1 S.2.1 d_AR_abend_17 (by decide) (fun c17 => ?_) (fun c17 => absurd c17 (by decide))
      refine lv_aload_n S.1 S.2.1 d_AR_abend_23 rfl (lv_at hl 1 rfl) ?_
      refine mm_get (C := R_AR) (T := T_AR) (N := 11) S hK.1 hw hX rfl in_AR 3 (by decide) gw_91 rfl rfl d_AR_abend_24 ?_
      refine lv_aload_n S.1 S.2.1 d_AR_abend_27 rfl (lv_at hl 0 rfl) ?_
      refine lv_iload_n S.1 S.2.1 d_AR_abend_28 rfl (lv_at hl 3 rfl) ?_
      refine mm_callq hw (mm_runV (a := sr) (As := [.ref (la j), .int (nI jc)]) (rest := []) S hK hw (c_SE_findEnd l D dA _ sr ak la ea er n ne j jc (I 5) sc fA F hN (by omega) hj1 hjn hjc1 hjc2 hwl (fun k p q => (hwf.2.2.2.2.2.2.2.1 k p (by rw [hcne]; exact q)).2) hsr hak (fun a p q => hla a p (by rw [hcn]; exact q)) (fun a p q => hea a p (by rw [hcne]; exact q)) (fun a p q => hch a p (by rw [hcn]; exact q)) _) bv_SE_findEnd gw_194 hsr rfl (⟨rfl, rfl, by decide, by decide, by decide, by decide⟩) hl.1 rfl rfl (Nat.le_of_ble_eq_true rfl) d_AR_abend_29) (fun r7 M8 H locs hp hw => ?_)
      have hok := ab_ok (l := j) (cc := jc) hwl hN (by omega) hj1 hjn hjc1 hjc2
      obtain ⟨en, na, F', cc, hq⟩ : ∃ (en : Int32) (na : Nat) (F' : sF) (cc : Nat), ab_u j 101 j 0 F jc = (en, na, F', cc) := ⟨_, _, _, _, rfl⟩
      rw [hq] at hp hok
      obtain ⟨rfl, hQm, hkA⟩ := hp
      obtain ⟨hJ, h7, hcc1, hcc2, hna, jj, hjj, hen⟩ := hok
      have hJ : ab_J F F' := hJ
      have hcc1 : 1 ≤ cc := hcc1
      have hcc2 : cc ≤ 9999 := hcc2
      have hen : en = nI (ab_n F j jj) := hen
      have hna : na ≤ 200 := hna
      have hQm : sQm dA M8 sr ak la ea er n ne na cc F' := hQm
      obtain ⟨⟨fA2, hak3, hfa3⟩, hsr3, hla3, hea3⟩ := id hQm
      refine W.eq (g2 := F0 m 32 ls [va_rf (lk la en)]) rfl ?_
      refine mq_astore (lv' := [(4, va_rf (lk la en)), (3, .ref (la j)), (0, .ref x), (1, .int k), (2, .int (nI jc))]) S.1 S.2.1 d_AR_abend_32 hl (by decide) rfl (fun ls hl => ?_)
      refine lv_aload_n S.1 S.2.1 d_AR_abend_34 rfl (lv_at hl 1 rfl) ?_
      refine mq_aload S.1 S.2.1 d_AR_abend_35 (lv_at hl 0 rfl) ?_
      refine mm_callv hw (mm_runS (As := [.ref (la j), va_rf (lk la en)]) (rest := []) S hK hw (c_AR_loseExits l D dA _ la ea n ne j jj en F' hN hj1 hjn hjj (lv_wfJ hJ hwl) (by rw [ab_nJ (hJ 0 (by decide) (by decide))]; exact hen) hla3 _) bs_AR_loseExits gw_212 (⟨rfl, rfl, by decide, by decide, by decide, by decide⟩) hl.1 rfl rfl (Nat.le_of_ble_eq_true rfl) d_AR_abend_37) (fun M10 H locs hp hw => ?_)
      obtain ⟨hla4, hkB⟩ := hp
      have hkAB : kt M M10 [1, 1200, 6, 5] := kt_tr (kt_mo hkA (by decide)) (kt_mo hkB (by decide))
      have hX4 : M10 x = some (.inr (0, [.ref lv, .int (I 1), .int (I 2), .ref sr, .ref gd, .int (I 3), .ref rs, .ref ss, .ref dr, .ref cs, .ref cg])) := hkAB _ _ hX (by simp [tg])
      have hcg4 : M10 cg = some (.inr (4, [.ref cd, .int (nI n9)])) := hkAB _ _ hcg (by simp [tg])
      have hcd4 : M10 cd = some (.inl (dA 0, 512, .inl (fC))) := hkAB _ _ hcd (by simp [tg])
      have hsr4 : M10 sr = some (.inr (1, [.ref ak, .int (nI na), .int (nI cc)])) := hkB _ _ hsr3 (by simp [tg])
      have hak4 : M10 ak = some (.inl (dA 0, 200, .inl (fA2))) := hkB _ _ hak3 (by simp [tg])
      refine lv_aload_n S.1 S.2.1 d_AR_abend_40 rfl (lv_at hl 2 rfl) ?_
      refine mm_get (C := R_AR) (T := T_AR) (N := 11) S hK.1 hw hX4 rfl in_AR 10 (by decide) gw_98 rfl rfl d_AR_abend_41 ?_
      refine lv_aload_n S.1 S.2.1 d_AR_abend_44 rfl (lv_at hl 2 rfl) ?_
      refine mm_get (C := R_AR) (T := T_AR) (N := 11) S hK.1 hw hX4 rfl in_AR 3 (by decide) gw_91 rfl rfl d_AR_abend_45 ?_
      refine mm_get (C := R_SE) (T := T_SE) (N := 3) S hK.1 hw hsr4 rfl in_SE 2 (by decide) gw_38 rfl rfl d_AR_abend_48 ?_
      refine mm_callv hw (mm_runV (a := cg) (As := [.int (nI cc)]) (rest := []) S hK hw (c_CG_add l D dA _ cg cd n9 fC (nI cc) (by omega) hcg4 hcd4 _) bv_CG_add gw_215 hcg4 rfl (⟨rfl, rfl, by decide, by decide, by decide, by decide⟩) hl.1 rfl rfl (Nat.le_of_ble_eq_true rfl) d_AR_abend_51) (fun M12 H locs hp hw => ?_)
      have hX4_13 : M12 x = some (.inr (0, [.ref lv, .int (I 1), .int (I 2), .ref sr, .ref gd, .int (I 3), .ref rs, .ref ss, .ref dr, .ref cs, .ref cg])) := by rw [hp]; exact mm_uk (mm_uk hcd4 hcg4 (by simp)) (mm_uk hcd4 hX4 (by simp)) (by simp)
      have hsr4_13 : M12 sr = some (.inr (1, [.ref ak, .int (nI na), .int (nI cc)])) := by rw [hp]; exact mm_uk (mm_uk hcd4 hcg4 (by simp)) (mm_uk hcd4 hsr4 (by simp)) (by simp)
      have hcg4_13 : M12 cg = some (.inr (4, [.ref cd, .int (nI (n9 + 1))])) := by rw [hp]; exact mm_us
      have hcd4_13 : M12 cd = some (.inl (dA 0, 512, .inl (upd (fC) (n9) (nI cc)))) := by rw [hp]; exact mm_uk (mm_uk hcd4 hcg4 (by simp)) mm_us (by simp)
      have hak4_13 : M12 ak = some (.inl (dA 0, 200, .inl (fA2))) := by rw [hp]; exact mm_uk (mm_uk hcd4 hcg4 (by simp)) (mm_uk hcd4 hak4 (by simp)) (by simp)
      have kM12 : kt M10 M12 [1512, 4] := by rw [hp]; exact kt_tr (kt_up hcd4 (by simp [tg])) (kt_up (mm_uk hcd4 hcg4 (by simp)) (by simp [tg]))
      refine mq_aload S.1 S.2.1 d_AR_abend_54 (lv_at hl 0 rfl) ?_
      refine mq_ifnonnull (tgt := 63) S.1 S.2.1 d_AR_abend_56 (by decide) (fun q14 c56 => ?_) (fun c56 => ?_)
      · rw [c56] at hl
        try rw [c56] at hl
        try rw [c56]
        have hl : lv_has ls 5 [(4, .ref q14), (3, .ref (la j)), (0, .ref x), (1, .int k), (2, .int (nI jc))] := hl
        have hm0 : ab_n F j jj ≤ j := ab_nle2 hwl hjn hN jj
        obtain ⟨hm1, hyq⟩ : 1 ≤ ab_n F j jj ∧ la (ab_n F j jj) = q14 := by
          rcases Nat.eq_zero_or_pos (ab_n F j jj) with q0 | q0
          · rw [hen, q0] at c56; cases c56
          · rw [hen, lk_p q0 (by omega)] at c56; exact ⟨q0, Option.some.inj c56⟩
        have hly : M12 q14 = some (oL la ea (va_up F' 2 (ab_z en F' 101 j (F' 2))) (ab_n F j jj)) := by
          rw [← hyq]
          exact kM12 _ _ (hla4 _ hm1 (by omega)) (by simp [tg])
        refine lv_aload S.1 S.2.1 d_AR_abend_63 (lv_at hl 0 rfl) ?_
        refine mm_get (C := R_LV) (T := T_LV) (N := 5) S hK.1 hw hly rfl in_LV 0 (by decide) gw_136 rfl rfl d_AR_abend_65 ?_
        have hz9 : ab_z en F 101 (cN k) (F 2) = ab_z en F' 101 j (F' 2) := by rw [en9, hJ 2 (by decide) (by decide), ab_zJ (hJ 0 (by decide) (by decide))]
        have hk9 : kt M M12 [1, 1200, 6, 5, 1512, 4] := kt_tr (kt_mo hkAB (by decide)) (kt_mo kM12 (by decide))
        have hL9 : cL dA M12 lv (upd (upd I 0 0) 5 (nI na)) (va_up (va_up F' 8 (upd (F' 8) cc (F' 8 cc + 1))) 2 (ab_z en F 101 (cN k) (F 2))) := ⟨fL, la, ea, er, hk9 _ _ hlv (by simp [tg]), hfl, fun a p q => by
            rw [hz9]
            exact kM12 _ _ (hla4 a p (show a ≤ n from hcn ▸ q)) (by simp [tg]), fun e p q => kM12 _ _ (hkB _ _ (hea3 e p (show e ≤ ne from hcne ▸ q)) (by simp [tg])) (by simp [tg]), fun a p q t ht => by
            have ht : t < cN (ab_z en F 101 (cN k) (F 2) a) := ht
            show er (cN (F' 3 (10 * a + t))) = if t = 0 then none else some (ea (cN (F' 3 (10 * a + (t - 1)))))
            rw [hJ 3 (by decide) (by decide)]
            rcases ab_zv (en := en) (F := F) 101 (cN k) (F 2) a with r | r
            · rw [r] at ht; exact hch a p q t ht
            · rw [r] at ht; exact absurd ht (Nat.not_lt_zero _)⟩
        have hS9 : cS dA M12 sr (upd (upd I 0 0) 5 (nI na)) (va_up (va_up F' 8 (upd (F' 8) cc (F' 8 cc + 1))) 2 (ab_z en F 101 (cN k) (F 2))) := ⟨ak, fA2, nI cc, hsr4_13, hak4_13, fun i hi => hfa3 i (by have hi : i < cN (nI na) := hi; rw [cN_I rfl (by omega)] at hi; exact hi)⟩
        have hP9 : cP dA M12 x (upd (upd I 0 0) 5 (nI na)) (va_up (va_up F' 8 (upd (F' 8) cc (F' 8 cc + 1))) 2 (ab_z en F 101 (cN k) (F 2))) st (nc + 1) := ⟨lv, sr, gd, rs, ss, dr, cs, cg, hk9 _ _ hX (by simp [tg]), hL9, cG_k hk9 hG (by decide) rfl (hJ 12 (by decide) (by decide)) (hJ 13 (by decide) (by decide)) (hJ 14 (by decide) (by decide)), hS9, by rw [show (va_up (va_up F' 8 (upd (F' 8) cc (F' 8 cc + 1))) 2 (ab_z en F 101 (cN k) (F 2))) 9 = F 9 from hJ 9 (by decide) (by decide)]; exact hk9 _ _ hR (by simp [tg]), hk9 _ _ hT (by simp [tg]), cD_k hk9 hD (by decide) rfl (hJ 15 (by decide) (by decide)), cC_k hk9 hCs (by decide) (hJ 10 (by decide) (by decide)), cE_add hn9 hfc hct hcc1 hcc2 hcg4_13 hcd4_13 (show upd (F' 8) cc (F' 8 cc + 1) = upd (F 8) cc (F 8 cc + 1) from by rw [hJ 8 (by decide) (by decide)])⟩
        have hsp : sp_abend k (nI jc) I F st = (if en = 0 then -1 else en, upd (upd I 0 0) 5 (nI na), (va_up (va_up F' 8 (upd (F' 8) cc (F' 8 cc + 1))) 2 (ab_z en F 101 (cN k) (F 2))), st) := by
          simp only [sp_abend, eq_true hc3, eq_true hc6, not_true_eq_false, not_false_eq_true, and_true, true_and, and_false, false_and, and_self, or_true, true_or, or_false, false_or, or_self, ↓reduceIte, en9, cN_I (v := nI jc) rfl (show jc < 2 ^ 31 by omega), hq]
        exact mm_reti S.1 S.2.1 hr hlocks hA hQ hw (cs_done hP9 (hsp.trans (by rw [if_neg (by rw [hen]; exact nI_ne0 hm1 (by omega)), ← hen]))) (Nat.le_of_ble_eq_true rfl) (Nat.le_of_ble_eq_true rfl) d_AR_abend_68
      · rw [c56] at hl
        try rw [c56] at hl
        try rw [c56]
        have hl : lv_has ls 5 [(4, .null), (3, .ref (la j)), (0, .ref x), (1, .int k), (2, .int (nI jc))] := hl
        have hm0 : en = 0 := by
          rcases Nat.eq_zero_or_pos (ab_n F j jj) with q0 | q0
          · rw [hen, q0]; rfl
          · rw [hen, lk_p q0 (by have := ab_nle2 hwl hjn hN jj; omega)] at c56; cases c56
        refine lv_iconst (v := (-1)) S.1 S.2.1 d_AR_abend_59 (by decide) ?_
        refine lv_goto (tgt := 68) S.1 S.2.1 d_AR_abend_60 (by decide) ?_
        have hz9 : ab_z en F 101 (cN k) (F 2) = ab_z en F' 101 j (F' 2) := by rw [en9, hJ 2 (by decide) (by decide), ab_zJ (hJ 0 (by decide) (by decide))]
        have hk9 : kt M M12 [1, 1200, 6, 5, 1512, 4] := kt_tr (kt_mo hkAB (by decide)) (kt_mo kM12 (by decide))
        have hL9 : cL dA M12 lv (upd (upd I 0 0) 5 (nI na)) (va_up (va_up F' 8 (upd (F' 8) cc (F' 8 cc + 1))) 2 (ab_z en F 101 (cN k) (F 2))) := ⟨fL, la, ea, er, hk9 _ _ hlv (by simp [tg]), hfl, fun a p q => by
            rw [hz9]
            exact kM12 _ _ (hla4 a p (show a ≤ n from hcn ▸ q)) (by simp [tg]), fun e p q => kM12 _ _ (hkB _ _ (hea3 e p (show e ≤ ne from hcne ▸ q)) (by simp [tg])) (by simp [tg]), fun a p q t ht => by
            have ht : t < cN (ab_z en F 101 (cN k) (F 2) a) := ht
            show er (cN (F' 3 (10 * a + t))) = if t = 0 then none else some (ea (cN (F' 3 (10 * a + (t - 1)))))
            rw [hJ 3 (by decide) (by decide)]
            rcases ab_zv (en := en) (F := F) 101 (cN k) (F 2) a with r | r
            · rw [r] at ht; exact hch a p q t ht
            · rw [r] at ht; exact absurd ht (Nat.not_lt_zero _)⟩
        have hS9 : cS dA M12 sr (upd (upd I 0 0) 5 (nI na)) (va_up (va_up F' 8 (upd (F' 8) cc (F' 8 cc + 1))) 2 (ab_z en F 101 (cN k) (F 2))) := ⟨ak, fA2, nI cc, hsr4_13, hak4_13, fun i hi => hfa3 i (by have hi : i < cN (nI na) := hi; rw [cN_I rfl (by omega)] at hi; exact hi)⟩
        have hP9 : cP dA M12 x (upd (upd I 0 0) 5 (nI na)) (va_up (va_up F' 8 (upd (F' 8) cc (F' 8 cc + 1))) 2 (ab_z en F 101 (cN k) (F 2))) st (nc + 1) := ⟨lv, sr, gd, rs, ss, dr, cs, cg, hk9 _ _ hX (by simp [tg]), hL9, cG_k hk9 hG (by decide) rfl (hJ 12 (by decide) (by decide)) (hJ 13 (by decide) (by decide)) (hJ 14 (by decide) (by decide)), hS9, by rw [show (va_up (va_up F' 8 (upd (F' 8) cc (F' 8 cc + 1))) 2 (ab_z en F 101 (cN k) (F 2))) 9 = F 9 from hJ 9 (by decide) (by decide)]; exact hk9 _ _ hR (by simp [tg]), hk9 _ _ hT (by simp [tg]), cD_k hk9 hD (by decide) rfl (hJ 15 (by decide) (by decide)), cC_k hk9 hCs (by decide) (hJ 10 (by decide) (by decide)), cE_add hn9 hfc hct hcc1 hcc2 hcg4_13 hcd4_13 (show upd (F' 8) cc (F' 8 cc + 1) = upd (F 8) cc (F 8 cc + 1) from by rw [hJ 8 (by decide) (by decide)])⟩
        have hsp : sp_abend k (nI jc) I F st = (if en = 0 then -1 else en, upd (upd I 0 0) 5 (nI na), (va_up (va_up F' 8 (upd (F' 8) cc (F' 8 cc + 1))) 2 (ab_z en F 101 (cN k) (F 2))), st) := by
          simp only [sp_abend, eq_true hc3, eq_true hc6, not_true_eq_false, not_false_eq_true, and_true, true_and, and_false, false_and, and_self, or_true, true_or, or_false, false_or, or_self, ↓reduceIte, en9, cN_I (v := nI jc) rfl (show jc < 2 ^ 31 by omega), hq]
        exact mm_reti S.1 S.2.1 hr hlocks hA hQ hw (cs_done hP9 (hsp.trans (by rw [if_pos hm0]))) (Nat.le_of_ble_eq_true rfl) (Nat.le_of_ble_eq_true rfl) d_AR_abend_68
    · refine lv_if_ne (tgt := 23) S.1 S.2.1 d_AR_abend_17 (by decide) (fun c17 => absurd c17 (by decide)) (fun c17 => ?_)
      refine lv_bipush (v := (-4)) S.1 S.2.1 d_AR_abend_20 (by decide) ?_
      exact mm_reti S.1 S.2.1 hr hlocks hA hQ hw (cs_same hC (show sp_abend k c0 I F st = ((-4), upd I 0 0, F, st) by simp only [sp_abend, eq_true hc3, eq_false hc6, eq_true c17, not_true_eq_false, not_false_eq_true, and_true, true_and, and_false, false_and, and_self, or_true, true_or, or_false, false_or, or_self, ↓reduceIte])) (Nat.le_of_ble_eq_true rfl) (Nat.le_of_ble_eq_true rfl) d_AR_abend_22
  · refine W.eq (g2 := F0 m 5 ls [.null]) rfl ?_
    refine lv_astore_nN (lv' := [(3, .null), (0, .ref x), (1, .int k), (2, .int c0)]) S.1 S.2.1 d_AR_abend_5 rfl hl (by decide) rfl (fun ls hl => ?_)
    refine lv_aload_nN S.1 S.2.1 d_AR_abend_6 rfl (lv_at hl 0 rfl) ?_
    refine lv_ifnonnullN S.1 S.2.1 d_AR_abend_7 ?_
    refine lv_bipush (v := (-2)) S.1 S.2.1 d_AR_abend_10 (by decide) ?_
    exact mm_reti S.1 S.2.1 hr hlocks hA hQ hw (cs_same hC (show sp_abend k c0 I F st = ((-2), upd I 0 0, F, st) by simp only [sp_abend, eq_false hc3, not_true_eq_false, not_false_eq_true, and_true, true_and, and_false, false_and, and_self, or_true, true_or, or_false, false_or, or_self, ↓reduceIte])) (Nat.le_of_ble_eq_true rfl) (Nat.le_of_ble_eq_true rfl) d_AR_abend_12
