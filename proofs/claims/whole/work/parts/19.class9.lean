theorem lv_null0 {ls : Array Slot} {nL i : Nat} {la : Nat → Nat} {t : List (Nat × Value)} (h : lv_has ls nL ((i, va_rf (lk la (nI 0))) :: t)) : lv_has ls nL ((i, .null) :: t) := h
theorem d_SE_findEnd_0 : decode b_SE_findEnd 0 = .ok (.aload_n 0, 1) := by decide +kernel
theorem d_SE_findEnd_1 : decode b_SE_findEnd 1 = .ok (.iconst 0, 1) := by decide +kernel
theorem d_SE_findEnd_2 : decode b_SE_findEnd 2 = .ok (.putfield 15, 3) := by decide +kernel
theorem d_SE_findEnd_5 : decode b_SE_findEnd 5 = .ok (.aload_n 0, 1) := by decide +kernel
theorem d_SE_findEnd_6 : decode b_SE_findEnd 6 = .ok (.iload_n 2, 1) := by decide +kernel
theorem d_SE_findEnd_7 : decode b_SE_findEnd 7 = .ok (.putfield 19, 3) := by decide +kernel
theorem d_SE_findEnd_10 : decode b_SE_findEnd 10 = .ok (.aload_n 1, 1) := by decide +kernel
theorem d_SE_findEnd_11 : decode b_SE_findEnd 11 = .ok (.astore_n 3, 1) := by decide +kernel
theorem d_SE_findEnd_12 : decode b_SE_findEnd 12 = .ok (.aload_n 3, 1) := by decide +kernel
theorem d_SE_findEnd_13 : decode b_SE_findEnd 13 = .ok (.ifnull 50, 3) := by decide +kernel
theorem d_SE_findEnd_16 : decode b_SE_findEnd 16 = .ok (.aload_n 3, 1) := by decide +kernel
theorem d_SE_findEnd_17 : decode b_SE_findEnd 17 = .ok (.getfield 22, 3) := by decide +kernel
theorem d_SE_findEnd_20 : decode b_SE_findEnd 20 = .ok (.astore 4, 2) := by decide +kernel
theorem d_SE_findEnd_22 : decode b_SE_findEnd 22 = .ok (.aload 4, 2) := by decide +kernel
theorem d_SE_findEnd_24 : decode b_SE_findEnd 24 = .ok (.ifnull 31, 3) := by decide +kernel
theorem d_SE_findEnd_27 : decode b_SE_findEnd 27 = .ok (.aload_n 0, 1) := by decide +kernel
theorem d_SE_findEnd_28 : decode b_SE_findEnd 28 = .ok (.aload 4, 2) := by decide +kernel
theorem d_SE_findEnd_30 : decode b_SE_findEnd 30 = .ok (.aload_n 3, 1) := by decide +kernel
theorem d_SE_findEnd_31 : decode b_SE_findEnd 31 = .ok (.aload_n 1, 1) := by decide +kernel
theorem d_SE_findEnd_32 : decode b_SE_findEnd 32 = .ok (.invokevirtual 28, 3) := by decide +kernel
theorem d_SE_findEnd_35 : decode b_SE_findEnd 35 = .ok (.astore 5, 2) := by decide +kernel
theorem d_SE_findEnd_37 : decode b_SE_findEnd 37 = .ok (.aload 5, 2) := by decide +kernel
theorem d_SE_findEnd_39 : decode b_SE_findEnd 39 = .ok (.ifnull 6, 3) := by decide +kernel
theorem d_SE_findEnd_42 : decode b_SE_findEnd 42 = .ok (.aload 5, 2) := by decide +kernel
theorem d_SE_findEnd_44 : decode b_SE_findEnd 44 = .ok (.areturn, 1) := by decide +kernel
theorem d_SE_findEnd_45 : decode b_SE_findEnd 45 = .ok (.aload 4, 2) := by decide +kernel
theorem d_SE_findEnd_47 : decode b_SE_findEnd 47 = .ok (.getfield 32, 3) := by decide +kernel
theorem d_SE_findEnd_50 : decode b_SE_findEnd 50 = .ok (.astore 4, 2) := by decide +kernel
theorem d_SE_findEnd_52 : decode b_SE_findEnd 52 = .ok (.goto (-30), 3) := by decide +kernel
theorem d_SE_findEnd_55 : decode b_SE_findEnd 55 = .ok (.aload_n 3, 1) := by decide +kernel
theorem d_SE_findEnd_56 : decode b_SE_findEnd 56 = .ok (.getfield 37, 3) := by decide +kernel
theorem d_SE_findEnd_59 : decode b_SE_findEnd 59 = .ok (.astore_n 3, 1) := by decide +kernel
theorem d_SE_findEnd_60 : decode b_SE_findEnd 60 = .ok (.goto (-48), 3) := by decide +kernel
theorem d_SE_findEnd_63 : decode b_SE_findEnd 63 = .ok (.aconst_null, 1) := by decide +kernel
theorem d_SE_findEnd_64 : decode b_SE_findEnd 64 = .ok (.areturn, 1) := by decide +kernel
set_option maxHeartbeats 4000000 in
set_option maxRecDepth 100000 in
theorem c_SE_findEnd (l : Launch) (D : va_G) (dA : Nat → ClassId) (M : mm_M) (sr ak : Nat) (la ea : Nat → Nat) (er : Nat → Option Nat) (n ne lv0 cc0 : Nat) (v sc : Int32) (fA : Nat → Int32) (F : sF) (hN : n ≤ 100) (hNE : ne ≤ 300) (hv1 : 1 ≤ lv0) (hvn : lv0 ≤ n) (hc1 : 1 ≤ cc0) (hc2 : cc0 ≤ 9999) (hwf : lv_wf2 F n ne) (hf7 : ∀ k, 1 ≤ k → k ≤ ne → F 7 k = 0 ∨ F 7 k = 1) (hsr : M sr = some (.inr (1, [.ref ak, .int v, .int sc]))) (hak : M ak = some (aI (dA 0) 200 fA)) (hla : ∀ a, 1 ≤ a → a ≤ n → M (la a) = some (oL la ea F a)) (hea : ∀ k, 1 ≤ k → k ≤ ne → M (ea k) = some (oE er F k)) (hch : ∀ a, 1 ≤ a → a ≤ n → chn ea er F a) : mm_Cq l y_SE_findEnd w_SE_findEnd ({ frames := 2, cells := 0, slots := 0, locals := 44 }) 0 0 D vC (tyL dA) [.ref sr, .ref (la lv0), .int (nI cc0)] M (fun r M' => r = lk la (ab_u lv0 101 lv0 0 F cc0).1 ∧ sQm dA M' sr ak la ea er n ne (ab_u lv0 101 lv0 0 F cc0).2.1 (ab_u lv0 101 lv0 0 F cc0).2.2.2 (ab_u lv0 101 lv0 0 F cc0).2.2.1 ∧ kt M M' [1, 1200, 6]) := by
  intro sz
  refine mm_start (by decide) (Nat.le_of_ble_eq_true rfl) ?_
  intro p e s m below meth c A Q ls hA hQ S hr hlocks hin hK hw hl
  have hl : lv_has ls 6 [(0, .ref sr), (1, .ref (la lv0)), (2, .int (nI cc0))] := hl
  refine lv_aload_n S.1 S.2.1 d_SE_findEnd_0 rfl (lv_at hl 0 rfl) ?_
  refine lv_iconst (v := 0) S.1 S.2.1 d_SE_findEnd_1 (by decide) ?_
  refine mm_put (C := R_SE) (T := T_SE) (N := 3) (ty := .int) (v := .int 0) S hK.1 hw hsr rfl in_SE t_SE k_SE n_SE 1 (by decide) gw_36 rfl rfl (by decide +kernel) (rfl) (rfl) (Nat.le_of_ble_eq_true rfl) d_SE_findEnd_2 (fun H locs hw => ?_)
  obtain ⟨M1, eM1⟩ : ∃ zM : mm_M, zM = mm_up M sr (.inr (1, [.ref ak, .int 0, .int sc])) := ⟨_, rfl⟩
  have hw : mm_w D vC _ _ (mm_up M sr (.inr (1, [.ref ak, .int 0, .int sc]))) H _ := hw
  rw [← eM1] at hw
  have hak_1 : M1 ak = some (.inl (dA 0, 200, .inl (fA))) := by rw [eM1]; exact mm_uk hsr hak (by simp)
  have hsr_1 : M1 sr = some (.inr (1, [.ref ak, .int 0, .int sc])) := by rw [eM1]; exact mm_us
  refine lv_aload_n S.1 S.2.1 d_SE_findEnd_5 rfl (lv_at hl 0 rfl) ?_
  refine lv_iload_n S.1 S.2.1 d_SE_findEnd_6 rfl (lv_at hl 2 rfl) ?_
  refine mm_put (C := R_SE) (T := T_SE) (N := 3) (ty := .int) (v := .int (nI cc0)) S hK.1 hw hsr_1 rfl in_SE t_SE k_SE n_SE 2 (by decide) gw_37 rfl rfl (by decide +kernel) (rfl) (rfl) (Nat.le_of_ble_eq_true rfl) d_SE_findEnd_7 (fun H locs hw => ?_)
  obtain ⟨M2, eM2⟩ : ∃ zM : mm_M, zM = mm_up M1 sr (.inr (1, [.ref ak, .int 0, .int (nI cc0)])) := ⟨_, rfl⟩
  have hw : mm_w D vC _ _ (mm_up M1 sr (.inr (1, [.ref ak, .int 0, .int (nI cc0)]))) H _ := hw
  rw [← eM2] at hw
  have hak_2 : M2 ak = some (.inl (dA 0, 200, .inl (fA))) := by rw [eM2]; exact mm_uk hsr_1 hak_1 (by simp)
  have hsr_2 : M2 sr = some (.inr (1, [.ref ak, .int 0, .int (nI cc0)])) := by rw [eM2]; exact mm_us
  have hk0 : kt M M2 [1] := by rw [eM2, eM1, mm_uu]; exact kt_up hsr (by simp [tg])
  refine lv_aload_n S.1 S.2.1 d_SE_findEnd_10 rfl (lv_at hl 1 rfl) ?_
  refine lv_astore_n (lv' := [(3, .ref (la lv0)), (0, .ref sr), (1, .ref (la lv0)), (2, .int (nI cc0))]) S.1 S.2.1 d_SE_findEnd_11 rfl hl (by decide) rfl (fun ls hl => ?_)
  have hq0 : sQm dA M2 sr ak la ea er n ne 0 cc0 F := ⟨⟨fA, hak_2, fun j hj => absurd hj (Nat.not_lt_zero _)⟩, hsr_2, fun a p q => hk0 _ _ (hla a p q) (by simp [tg]), fun k p q => hk0 _ _ (hea k p q) (by simp [tg])⟩
  have LO : ∀ (f a na cc : Nat) (F' : sF) (j : Nat) (M1 : mm_M) (H : Heap) (locs : List Loc) (ls : Array Slot), a < f → a ≤ n → a = ab_n F lv0 j → j + a ≤ lv0 → na + 10 * cN (F 1 a) ≤ 200 → ab_J F F' → ab_7 F F' ne → 1 ≤ cc → cc ≤ 9999 → mm_w D vC A s.heap M1 H locs → sQm dA M1 sr ak la ea er n ne na cc F' → kt M M1 [1, 1200, 6] → ab_u lv0 101 lv0 0 F cc0 = ab_u lv0 f a na F' cc → lv_has ls 6 [(3, va_rf (lk la (nI a))), (0, .ref sr), (1, .ref (la lv0)), (2, .int (nI cc0))] → W p l e ({ frames := 2, cells := 0, slots := 0, locals := 44 }) s m [.ref sr, .ref (la lv0), .int (nI cc0)].toArray below meth c H locs 0 0 Q (F0 m 12 ls []) := by
    intro f
    induction f with
    | zero => exact fun a na cc F' j M1 H locs ls h => absurd h (Nat.not_lt_zero _)
    | succ f ihO =>
      intro a na cc F' j M1 H locs ls haf han haj hja hna hJ h7 hc3 hc4 hw hq hkk hs hl
      rcases Nat.eq_zero_or_pos a with ha0 | ha1
      · subst ha0
        have hl : lv_has ls 6 [(3, .null), (0, .ref sr), (1, .ref (la lv0)), (2, .int (nI cc0))] := lv_null0 hl
        have hs : ab_u lv0 101 lv0 0 F cc0 = (0, na, F', cc) := hs.trans (by rw [ab_u, if_pos rfl])
        refine lv_aload_nN S.1 S.2.1 d_SE_findEnd_12 rfl (lv_at hl 0 rfl) ?_
        refine lv_ifnullN (tgt := 63) S.1 S.2.1 d_SE_findEnd_13 (by decide) ?_
        refine lv_null S.1 S.2.1 d_SE_findEnd_63 ?_
        exact mm_retq (v := none) S.1 S.2.1 hr hlocks hA hQ hw (⟨by rw [hs]; exact lk_0.symm, by rw [hs]; exact hq, hkk⟩) (Nat.le_of_ble_eq_true rfl) (Nat.le_of_ble_eq_true rfl) d_SE_findEnd_64
      · rw [lk_p ha1 (by omega)] at hl
        have hl : lv_has ls 6 [(3, .ref (la a)), (0, .ref sr), (1, .ref (la lv0)), (2, .int (nI cc0))] := hl
        obtain ⟨pa, hpe, hpa, hpd, hp20⟩ := hwf.2.1 a ha1 han
        obtain ⟨z, hze, hz10, hzr⟩ := hwf.2.2 a ha1 han
        have hpc : cN (F 0 a) = pa := cN_I hpe (by omega)
        have hzc : cN (F 2 a) = z := cN_I hze (by omega)
        have hs : ab_u lv0 101 lv0 0 F cc0 = ab_k lv0 f (cN (F 0 a)) (ab_r lv0 a z na F' cc) := hs.trans (by rw [ab_u_s (by omega), hJ 0 (by decide) (by decide), hJ 2 (by decide) (by decide), hzc])
        have hlc : M1 (la a) = some (oL la ea F' a) := hq.2.2.1 a ha1 han
        refine lv_aload_n S.1 S.2.1 d_SE_findEnd_12 rfl (lv_at hl 0 rfl) ?_
        refine lv_ifnull S.1 S.2.1 d_SE_findEnd_13 ?_
        refine lv_aload_n S.1 S.2.1 d_SE_findEnd_16 rfl (lv_at hl 0 rfl) ?_
        refine mm_get (C := R_LV) (T := T_LV) (N := 5) S hK.1 hw hlc rfl in_LV 3 (by decide) gw_142 rfl rfl d_SE_findEnd_17 ?_
        refine mq_astore (lv' := [(4, va_rf (tpf ea F' a)), (3, .ref (la a)), (0, .ref sr), (1, .ref (la lv0)), (2, .int (nI cc0))]) S.1 S.2.1 d_SE_findEnd_20 hl (by decide) rfl (fun ls hl => ?_)
        have htp : tpf ea F' a = chp ea F a z := by
          rw [tpf, hJ 2 (by decide) (by decide), hJ 3 (by decide) (by decide), hzc]; rfl
        have LI : ∀ (kk na cc : Nat) (F' : sF) (M1 : mm_M) (H : Heap) (locs : List Loc) (ls : Array Slot), kk ≤ z → na + kk + 10 * cN (F 1 pa) ≤ 200 → ab_J F F' → ab_7 F F' ne → 1 ≤ cc → cc ≤ 9999 → mm_w D vC A s.heap M1 H locs → sQm dA M1 sr ak la ea er n ne na cc F' → kt M M1 [1, 1200, 6] → ab_u lv0 101 lv0 0 F cc0 = ab_k lv0 f (cN (F 0 a)) (ab_r lv0 a kk na F' cc) → lv_has ls 6 [(4, va_rf (chp ea F a kk)), (3, .ref (la a)), (0, .ref sr), (1, .ref (la lv0)), (2, .int (nI cc0))] → W p l e ({ frames := 2, cells := 0, slots := 0, locals := 44 }) s m [.ref sr, .ref (la lv0), .int (nI cc0)].toArray below meth c H locs 0 0 Q (F0 m 22 ls []) := by
          clear hs hna hJ h7 hc3 hc4 hw hq hkk hl hlc htp
          intro kk
          induction kk with
          | zero =>
            intro na cc F' M1 H locs ls hkz hna hJ h7 hc3 hc4 hw hq hkk hs hl
            have hlc : M1 (la a) = some (oL la ea F' a) := hq.2.2.1 a ha1 han
            have hsr := hq.2.1
            have hl : lv_has ls 6 [(4, .null), (3, .ref (la a)), (0, .ref sr), (1, .ref (la lv0)), (2, .int (nI cc0))] := hl
            refine lv_aloadN S.1 S.2.1 d_SE_findEnd_22 (lv_at hl 0 rfl) ?_
            refine lv_ifnullN (tgt := 55) S.1 S.2.1 d_SE_findEnd_24 (by decide) ?_
            refine lv_aload_n S.1 S.2.1 d_SE_findEnd_55 rfl (lv_at hl 1 rfl) ?_
            refine mm_get (C := R_LV) (T := T_LV) (N := 5) S hK.1 hw hlc rfl in_LV 1 (by decide) gw_138 rfl rfl d_SE_findEnd_56 ?_
            refine mq_astore_n (lv' := [(3, va_rf (lk la (F' 0 a))), (4, .null), (0, .ref sr), (1, .ref (la lv0)), (2, .int (nI cc0))]) S.1 S.2.1 d_SE_findEnd_59 rfl hl (by decide) rfl (fun ls hl => ?_)
            refine lv_goto (tgt := 12) S.1 S.2.1 d_SE_findEnd_60 (by decide) ?_
            exact ihO pa na cc F' (j + 1) _ _ _ ls (by omega) (by omega) (by rw [ab_n, ← haj, hpc]) (by omega) (by omega) hJ h7 hc3 hc4 hw hq hkk (hs.trans (by rw [ab_r, hpc]; rfl)) (by rw [← hpe, ← show F' 0 a = F 0 a from congrFun (hJ 0 (by decide) (by decide)) a]; exact lv_sub hl [0, 2, 3, 4] rfl)
          | succ kk ihI =>
            intro na cc F' M1 H locs ls hkz hna hJ h7 hc3 hc4 hw hq hkk hs hl
            have hlc : M1 (la a) = some (oL la ea F' a) := hq.2.2.1 a ha1 han
            have hsr := hq.2.1
            obtain ⟨x0, hx0F, hx01, hx0n⟩ := hzr kk (by omega)
            have hx0 : F' 3 (10 * a + kk) = nI x0 := by rw [hJ 3 (by decide) (by decide)]; exact hx0F
            have hxc : cN (F 3 (10 * a + kk)) = x0 := cN_I hx0F (by omega)
            have hcp : chp ea F a (kk + 1) = some (ea x0) := by rw [chp, if_neg (by omega), Nat.add_sub_cancel, hxc]
            have hchx : er x0 = chp ea F a kk := by
              have h9 := hch a ha1 han kk (by rw [hzc]; omega)
              rw [hxc] at h9
              exact h9
            rw [hcp] at hl
            have hl : lv_has ls 6 [(4, .ref (ea x0)), (3, .ref (la a)), (0, .ref sr), (1, .ref (la lv0)), (2, .int (nI cc0))] := hl
            refine lv_aload S.1 S.2.1 d_SE_findEnd_22 (lv_at hl 0 rfl) ?_
            refine lv_ifnull S.1 S.2.1 d_SE_findEnd_24 ?_
            refine lv_aload_n S.1 S.2.1 d_SE_findEnd_27 rfl (lv_at hl 2 rfl) ?_
            refine lv_aload S.1 S.2.1 d_SE_findEnd_28 (lv_at hl 0 rfl) ?_
            refine lv_aload_n S.1 S.2.1 d_SE_findEnd_30 rfl (lv_at hl 1 rfl) ?_
            refine lv_aload_n S.1 S.2.1 d_SE_findEnd_31 rfl (lv_at hl 3 rfl) ?_
            refine mm_callq hw (mm_runV (a := sr) (As := [.ref (ea x0), .ref (la a), .ref (la lv0)]) (rest := []) S hK hw (c_SE_ask l D dA _ sr ak la ea er n ne na cc x0 a lv0 F' hN hNE (by omega) hc4 hx01 hx0n ha1 han hv1 hvn ((h7 x0).elim (fun q => by rw [q]; exact hf7 x0 hx01 hx0n) (fun q => Or.inr q.1)) hq _) bv_SE_ask gw_198 hsr rfl (⟨rfl, rfl, by decide, by decide, by decide, by decide⟩) hl.1 rfl rfl (Nat.le_of_ble_eq_true rfl) d_SE_findEnd_32) (fun r3 M4 H locs hp hw => ?_)
            obtain ⟨hr9, hq9, hk9⟩ := hp
            by_cases h0 : (en_of (ab_F1 F' na x0) x0 a lv0).1 = 0
            · rw [h0, lk_0] at hr9
              subst hr9
              refine W.eq (g2 := F0 m 35 ls [.null]) rfl ?_
              have hxe : M4 (ea x0) = some (oE er (ab_F2 F' na x0 a lv0) x0) := hq9.2.2.2 x0 hx01 hx0n
              refine lv_astoreN (lv' := [(5, .null), (4, .ref (ea x0)), (3, .ref (la a)), (0, .ref sr), (1, .ref (la lv0)), (2, .int (nI cc0))]) S.1 S.2.1 d_SE_findEnd_35 hl (by decide) rfl (fun ls hl => ?_)
              refine lv_aloadN S.1 S.2.1 d_SE_findEnd_37 (lv_at hl 0 rfl) ?_
              refine lv_ifnullN (tgt := 45) S.1 S.2.1 d_SE_findEnd_39 (by decide) ?_
              refine lv_aload S.1 S.2.1 d_SE_findEnd_45 (lv_at hl 1 rfl) ?_
              refine mm_get (C := R_EX) (T := T_EX) (N := 5) S hK.1 hw hxe rfl in_EX 3 (by decide) gw_173 rfl rfl d_SE_findEnd_47 ?_
              refine mq_astore (lv' := [(4, va_rf (er x0)), (5, .null), (3, .ref (la a)), (0, .ref sr), (1, .ref (la lv0)), (2, .int (nI cc0))]) S.1 S.2.1 d_SE_findEnd_50 hl (by decide) rfl (fun ls hl => ?_)
              refine lv_goto (tgt := 22) S.1 S.2.1 d_SE_findEnd_52 (by decide) ?_
              exact ihI (na + 1) (ab_c F' x0 cc) (ab_F2 F' na x0 a lv0) _ _ _ ls (by omega) (by omega) (ab_Js hJ) (ab_7s h7 hx01 hx0n) (ab_cr ⟨hc3, hc4⟩).1 (ab_cr ⟨hc3, hc4⟩).2 hw hq9 (kt_tr hkk hk9) (hs.trans (by rw [ab_r_s hx0 (by omega), if_pos h0])) (by rw [show chp ea F a kk = er x0 from hchx.symm]; exact lv_sub hl [0, 2, 3, 4, 5] rfl)
            · have hr8 : r3 = some (la (cN (en_of (ab_F1 F' na x0) x0 a lv0).1)) := by rw [hr9, lk, if_neg h0]
              rw [hr8]
              refine W.eq (g2 := F0 m 35 ls [.ref (la (cN (en_of (ab_F1 F' na x0) x0 a lv0).1))]) rfl ?_
              refine lv_astore (lv' := [(5, .ref (la (cN (en_of (ab_F1 F' na x0) x0 a lv0).1))), (4, .ref (ea x0)), (3, .ref (la a)), (0, .ref sr), (1, .ref (la lv0)), (2, .int (nI cc0))]) S.1 S.2.1 d_SE_findEnd_35 hl (by decide) rfl (fun ls hl => ?_)
              refine lv_aload S.1 S.2.1 d_SE_findEnd_37 (lv_at hl 0 rfl) ?_
              refine lv_ifnull S.1 S.2.1 d_SE_findEnd_39 ?_
              refine lv_aload S.1 S.2.1 d_SE_findEnd_42 (lv_at hl 0 rfl) ?_
              exact mm_retq (v := some (la (cN (en_of (ab_F1 F' na x0) x0 a lv0).1))) S.1 S.2.1 hr hlocks hA hQ hw (⟨by rw [hs, ab_r_s hx0 (by omega), if_neg h0]; unfold ab_k; rw [if_neg h0, lk, if_neg h0], by rw [hs, ab_r_s hx0 (by omega), if_neg h0]; unfold ab_k; rw [if_neg h0]; exact hq9, kt_tr hkk hk9⟩) (Nat.le_of_ble_eq_true rfl) (Nat.le_of_ble_eq_true rfl) d_SE_findEnd_44
        exact LI z na cc F' M1 _ _ ls (Nat.le_refl _) (by omega) hJ h7 hc3 hc4 hw hq hkk hs (by rw [← htp]; exact lv_sub hl [0, 1, 2, 3, 4] rfl)
  exact LO 101 lv0 0 cc0 F 0 M2 _ _ ls (by omega) hvn rfl (by omega) (by obtain ⟨_, _, _, _, h9⟩ := hwf.2.1 lv0 hv1 hvn; omega) (fun _ _ _ => rfl) (fun _ => Or.inl rfl) hc1 hc2 hw hq0 (kt_mo hk0 (by decide)) rfl (by rw [lk_p hv1 (by omega)]; exact lv_sub hl [0, 1, 2, 3] rfl)
