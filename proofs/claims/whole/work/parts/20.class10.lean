theorem ab_nJ {F F' : sF} {l : Nat} (h : F' 0 = F 0) : ∀ j, ab_n F' l j = ab_n F l j
  | 0 => rfl
  | j + 1 => by rw [ab_n, ab_n, h, ab_nJ h j]
theorem ab_zJ {F F' : sF} {en : Int32} (h : F' 0 = F 0) : ∀ (f a : Nat) (z : Nat → Int32), ab_z en F' f a z = ab_z en F f a z
  | 0, _, _ => rfl
  | f + 1, a, z => by rw [ab_z, ab_z, h, ab_zJ h f]
theorem lv_wfJ {F F' : sF} {n ne : Nat} (h : ab_J F F') (hw : lv_wf2 F n ne) : lv_wf2 F' n ne := by
  unfold lv_wf2
  rw [h 0 (by decide) (by decide), h 1 (by decide) (by decide), h 2 (by decide) (by decide), h 3 (by decide) (by decide)]
  exact hw
theorem la_in {M : mm_M} {la ea : Nat → Nat} {F : sF} {n a b : Nat} (hN : n ≤ 100) (h : ∀ a, 1 ≤ a → a ≤ n → M (la a) = some (oL la ea F a)) (ha1 : 1 ≤ a) (han : a ≤ n) (hb1 : 1 ≤ b) (hbn : b ≤ n) (e : la a = la b) : a = b := by
  rcases Nat.decEq a b with q | q
  · exact absurd (Option.some.inj ((h a ha1 han).symm.trans (by rw [e]; exact h b hb1 hbn))) (oL_ne (by omega) (by omega) q)
  · exact q
theorem ab_nle2 {F : sF} {n ne l : Nat} (h : lv_wf2 F n ne) (hl : l ≤ n) (hn : n ≤ 100) (i : Nat) : ab_n F l i ≤ l := (ab_nle h hl hn i).1
theorem d_AR_loseExits_0 : decode b_AR_loseExits 0 = .ok (.aload_n 0, 1) := by decide +kernel
theorem d_AR_loseExits_1 : decode b_AR_loseExits 1 = .ok (.astore_n 2, 1) := by decide +kernel
theorem d_AR_loseExits_2 : decode b_AR_loseExits 2 = .ok (.aload_n 2, 1) := by decide +kernel
theorem d_AR_loseExits_3 : decode b_AR_loseExits 3 = .ok (.ifnull 26, 3) := by decide +kernel
theorem d_AR_loseExits_6 : decode b_AR_loseExits 6 = .ok (.aload_n 2, 1) := by decide +kernel
theorem d_AR_loseExits_7 : decode b_AR_loseExits 7 = .ok (.aload_n 1, 1) := by decide +kernel
theorem d_AR_loseExits_8 : decode b_AR_loseExits 8 = .ok (.if_acmp .eq 21, 3) := by decide +kernel
theorem d_AR_loseExits_11 : decode b_AR_loseExits 11 = .ok (.aload_n 2, 1) := by decide +kernel
theorem d_AR_loseExits_12 : decode b_AR_loseExits 12 = .ok (.aconst_null, 1) := by decide +kernel
theorem d_AR_loseExits_13 : decode b_AR_loseExits 13 = .ok (.putfield 82, 3) := by decide +kernel
theorem d_AR_loseExits_16 : decode b_AR_loseExits 16 = .ok (.aload_n 2, 1) := by decide +kernel
theorem d_AR_loseExits_17 : decode b_AR_loseExits 17 = .ok (.iconst 0, 1) := by decide +kernel
theorem d_AR_loseExits_18 : decode b_AR_loseExits 18 = .ok (.putfield 74, 3) := by decide +kernel
theorem d_AR_loseExits_21 : decode b_AR_loseExits 21 = .ok (.aload_n 2, 1) := by decide +kernel
theorem d_AR_loseExits_22 : decode b_AR_loseExits 22 = .ok (.getfield 181, 3) := by decide +kernel
theorem d_AR_loseExits_25 : decode b_AR_loseExits 25 = .ok (.astore_n 2, 1) := by decide +kernel
theorem d_AR_loseExits_26 : decode b_AR_loseExits 26 = .ok (.goto (-24), 3) := by decide +kernel
theorem d_AR_loseExits_29 : decode b_AR_loseExits 29 = .ok (.return_, 1) := by decide +kernel
set_option maxHeartbeats 4000000 in
set_option maxRecDepth 100000 in
theorem c_AR_loseExits (l : Launch) (D : va_G) (dA : Nat → ClassId) (M : mm_M) (la ea : Nat → Nat) (n ne lv0 jj : Nat) (en : Int32) (F : sF) (hN : n ≤ 100) (hv1 : 1 ≤ lv0) (hvn : lv0 ≤ n) (hjj : jj ≤ 100) (hwf : lv_wf2 F n ne) (hen : en = nI (ab_n F lv0 jj)) (hla : ∀ a, 1 ≤ a → a ≤ n → M (la a) = some (oL la ea F a)) : mm_Cv l y_AR_loseExits w_AR_loseExits ({ frames := 0, cells := 0, slots := 0, locals := 0 }) 0 0 D vC (tyL dA) [.ref (la lv0), va_rf (lk la en)] M (fun M' => (∀ a, 1 ≤ a → a ≤ n → M' (la a) = some (oL la ea (va_up F 2 (ab_z en F 101 lv0 (F 2))) a)) ∧ kt M M' [5]) := by
  intro sz
  refine mm_start (by decide) (by rcases h9 : (lk la en) with _ | _ <;> exact Nat.le_of_ble_eq_true rfl) ?_
  intro p e s m below meth c A Q ls hA hQ S hr hlocks hin hK hw hl
  have hl : lv_has ls 3 [(0, .ref (la lv0)), (1, va_rf (lk la en))] := by (generalize (lk la en) = z9 at hl ⊢); cases z9 <;> exact hl
  have hab := ab_nle hwf hvn hN
  refine lv_aload_n S.1 S.2.1 d_AR_loseExits_0 rfl (lv_at hl 0 rfl) ?_
  refine lv_astore_n (lv' := [(2, .ref (la lv0)), (0, .ref (la lv0)), (1, va_rf (lk la en))]) S.1 S.2.1 d_AR_loseExits_1 rfl hl (by decide) (by generalize (lk la en) = z9; cases z9 <;> rfl) (fun ls hl => ?_)
  have L : ∀ (mm i f : Nat) (z : Nat → Int32) (Mz : mm_M) (H : Heap) (locs : List Loc) (ls : Array Slot), i + mm = jj → mm < f → mm_w D vC A s.heap Mz H locs → (∀ a, 1 ≤ a → a ≤ n → Mz (la a) = some (oL la ea (va_up F 2 z) a)) → kt M Mz [5] → ab_z en F 101 lv0 (F 2) = ab_z en F f (ab_n F lv0 i) z → lv_has ls 3 [(2, va_rf (lk la (nI (ab_n F lv0 i)))), (0, .ref (la lv0)), (1, va_rf (lk la en))] → W p l e ({ frames := 0, cells := 0, slots := 0, locals := 0 }) s m [.ref (la lv0), va_rf (lk la en)].toArray below meth c H locs 0 0 Q (F0 m 2 ls []) := by
    intro mm
    induction mm with
    | zero =>
      intro i f z Mz H locs ls hi hf hw hla1 hkk hz hl
      obtain ⟨f, rfl⟩ : ∃ f0, f = f0 + 1 := ⟨f - 1, by omega⟩
      obtain ⟨a, hae⟩ : ∃ a, a = ab_n F lv0 i := ⟨_, rfl⟩
      have hal : a ≤ lv0 := by rw [hae]; exact (hab i).1
      rw [← hae] at hz hl
      rcases Nat.eq_zero_or_pos a with ha0 | ha1
      · subst ha0
        have hen0 : nI 0 = en := by rw [hen, ← hi, ab_n0 hwf.1.1 hae.symm]
        have hl : lv_has ls 3 [(2, .null), (0, .ref (la lv0)), (1, va_rf (lk la en))] := lv_null0 hl
        refine lv_aload_nN S.1 S.2.1 d_AR_loseExits_2 rfl (lv_at hl 0 rfl) ?_
        refine lv_ifnullN (tgt := 29) S.1 S.2.1 d_AR_loseExits_3 (by decide) ?_
        exact mm_retv S.1 S.2.1 hr hlocks hA hQ hw (⟨by rw [hz, ab_z, if_pos hen0]; exact hla1, hkk⟩) (Nat.le_of_ble_eq_true rfl) (Nat.le_of_ble_eq_true rfl) d_AR_loseExits_29
      · rw [lk_p ha1 (by omega)] at hl
        have hl : lv_has ls 3 [(2, .ref (la a)), (0, .ref (la lv0)), (1, va_rf (lk la en))] := hl
        have hlc0 := hla1 a ha1 (by omega)
        have hlc : Mz (la a) = some (.inr (5, [.int (nI a), va_rf (lk la (F 0 a)), .int (F 1 a), va_rf (tpf ea (va_up F 2 z) a), .int (z a)])) := hlc0
        refine lv_aload_n S.1 S.2.1 d_AR_loseExits_2 rfl (lv_at hl 0 rfl) ?_
        refine lv_ifnull S.1 S.2.1 d_AR_loseExits_3 ?_
        refine lv_aload_n S.1 S.2.1 d_AR_loseExits_6 rfl (lv_at hl 0 rfl) ?_
        refine mq_aload_n S.1 S.2.1 d_AR_loseExits_7 rfl (lv_at hl 2 rfl) ?_
        refine W.eq (g2 := F0 m 8 ls [va_rf (lk la en), va_rf (some (la a))]) rfl ?_
        refine lv_acmp_eq (tgt := 29) S.1 S.2.1 d_AR_loseExits_8 (by decide) (fun c8 => ?_) (fun c8 => ?_)
        · have heq : nI a = en := by
            have hm : ab_n F lv0 jj ≤ lv0 := (hab jj).1
            rcases Nat.eq_zero_or_pos (ab_n F lv0 jj) with q0 | q0
            · rw [hen, q0] at c8; cases c8
            · rw [hen, lk_p q0 (by omega)] at c8
              rw [hen, la_in hN hla1 ha1 (by omega) q0 (by omega) (Option.some.inj c8)]
          exact mm_retv S.1 S.2.1 hr hlocks hA hQ hw (⟨by rw [hz, ab_z, if_pos heq]; exact hla1, hkk⟩) (Nat.le_of_ble_eq_true rfl) (Nat.le_of_ble_eq_true rfl) d_AR_loseExits_29
        · have hne : ¬ nI a = en := fun h => c8 (by rw [← h, lk_p ha1 (by omega)])
          exact absurd (by rw [hae, show i = jj by omega, hen]) hne
    | succ mm ih =>
      intro i f z Mz H locs ls hi hf hw hla1 hkk hz hl
      obtain ⟨f, rfl⟩ : ∃ f0, f = f0 + 1 := ⟨f - 1, by omega⟩
      obtain ⟨a, hae⟩ : ∃ a, a = ab_n F lv0 i := ⟨_, rfl⟩
      have hal : a ≤ lv0 := by rw [hae]; exact (hab i).1
      rw [← hae] at hz hl
      rcases Nat.eq_zero_or_pos a with ha0 | ha1
      · subst ha0
        have hen0 : nI 0 = en := by rw [hen, ← hi, ab_n0 hwf.1.1 hae.symm]
        have hl : lv_has ls 3 [(2, .null), (0, .ref (la lv0)), (1, va_rf (lk la en))] := lv_null0 hl
        refine lv_aload_nN S.1 S.2.1 d_AR_loseExits_2 rfl (lv_at hl 0 rfl) ?_
        refine lv_ifnullN (tgt := 29) S.1 S.2.1 d_AR_loseExits_3 (by decide) ?_
        exact mm_retv S.1 S.2.1 hr hlocks hA hQ hw (⟨by rw [hz, ab_z, if_pos hen0]; exact hla1, hkk⟩) (Nat.le_of_ble_eq_true rfl) (Nat.le_of_ble_eq_true rfl) d_AR_loseExits_29
      · rw [lk_p ha1 (by omega)] at hl
        have hl : lv_has ls 3 [(2, .ref (la a)), (0, .ref (la lv0)), (1, va_rf (lk la en))] := hl
        have hlc0 := hla1 a ha1 (by omega)
        have hlc : Mz (la a) = some (.inr (5, [.int (nI a), va_rf (lk la (F 0 a)), .int (F 1 a), va_rf (tpf ea (va_up F 2 z) a), .int (z a)])) := hlc0
        refine lv_aload_n S.1 S.2.1 d_AR_loseExits_2 rfl (lv_at hl 0 rfl) ?_
        refine lv_ifnull S.1 S.2.1 d_AR_loseExits_3 ?_
        refine lv_aload_n S.1 S.2.1 d_AR_loseExits_6 rfl (lv_at hl 0 rfl) ?_
        refine mq_aload_n S.1 S.2.1 d_AR_loseExits_7 rfl (lv_at hl 2 rfl) ?_
        refine W.eq (g2 := F0 m 8 ls [va_rf (lk la en), va_rf (some (la a))]) rfl ?_
        refine lv_acmp_eq (tgt := 29) S.1 S.2.1 d_AR_loseExits_8 (by decide) (fun c8 => ?_) (fun c8 => ?_)
        · have heq : nI a = en := by
            have hm : ab_n F lv0 jj ≤ lv0 := (hab jj).1
            rcases Nat.eq_zero_or_pos (ab_n F lv0 jj) with q0 | q0
            · rw [hen, q0] at c8; cases c8
            · rw [hen, lk_p q0 (by omega)] at c8
              rw [hen, la_in hN hla1 ha1 (by omega) q0 (by omega) (Option.some.inj c8)]
          exact mm_retv S.1 S.2.1 hr hlocks hA hQ hw (⟨by rw [hz, ab_z, if_pos heq]; exact hla1, hkk⟩) (Nat.le_of_ble_eq_true rfl) (Nat.le_of_ble_eq_true rfl) d_AR_loseExits_29
        · have hne : ¬ nI a = en := fun h => c8 (by rw [← h, lk_p ha1 (by omega)])
          refine lv_aload_n S.1 S.2.1 d_AR_loseExits_11 rfl (lv_at hl 0 rfl) ?_
          refine lv_null S.1 S.2.1 d_AR_loseExits_12 ?_
          refine mm_put (C := R_LV) (T := T_LV) (N := 5) (ty := .object "AbendRows$Exit") (v := .null) S hK.1 hw hlc rfl in_LV t_LV k_LV n_LV 3 (by decide) gw_143 rfl rfl (by decide +kernel) (rfl) (rfl) (Nat.le_of_ble_eq_true rfl) d_AR_loseExits_13 (fun H locs hw => ?_)
          obtain ⟨M1, eM1⟩ : ∃ zM : mm_M, zM = mm_up Mz (la a) (.inr (5, [.int (nI a), va_rf (lk la (F 0 a)), .int (F 1 a), .null, .int (z a)])) := ⟨_, rfl⟩
          have hw : mm_w D vC _ _ (mm_up Mz (la a) (.inr (5, [.int (nI a), va_rf (lk la (F 0 a)), .int (F 1 a), .null, .int (z a)]))) H _ := hw
          rw [← eM1] at hw
          have hlc_1 : M1 (la a) = some (.inr (5, [.int (nI a), va_rf (lk la (F 0 a)), .int (F 1 a), .null, .int (z a)])) := by rw [eM1]; exact mm_us
          refine lv_aload_n S.1 S.2.1 d_AR_loseExits_16 rfl (lv_at hl 0 rfl) ?_
          refine lv_iconst (v := 0) S.1 S.2.1 d_AR_loseExits_17 (by decide) ?_
          refine mm_put (C := R_LV) (T := T_LV) (N := 5) (ty := .int) (v := .int 0) S hK.1 hw hlc_1 rfl in_LV t_LV k_LV n_LV 4 (by decide) gw_144 rfl rfl (by decide +kernel) (rfl) (rfl) (Nat.le_of_ble_eq_true rfl) d_AR_loseExits_18 (fun H locs hw => ?_)
          obtain ⟨M2, eM2⟩ : ∃ zM : mm_M, zM = mm_up M1 (la a) (.inr (5, [.int (nI a), va_rf (lk la (F 0 a)), .int (F 1 a), .null, .int 0])) := ⟨_, rfl⟩
          have hw : mm_w D vC _ _ (mm_up M1 (la a) (.inr (5, [.int (nI a), va_rf (lk la (F 0 a)), .int (F 1 a), .null, .int 0]))) H _ := hw
          rw [← eM2] at hw
          have hlc_2 : M2 (la a) = some (.inr (5, [.int (nI a), va_rf (lk la (F 0 a)), .int (F 1 a), .null, .int 0])) := by rw [eM2]; exact mm_us
          refine lv_aload_n S.1 S.2.1 d_AR_loseExits_21 rfl (lv_at hl 0 rfl) ?_
          refine mm_get (C := R_LV) (T := T_LV) (N := 5) S hK.1 hw hlc_2 rfl in_LV 1 (by decide) gw_139 rfl rfl d_AR_loseExits_22 ?_
          refine mq_astore_n (lv' := [(2, va_rf (lk la (F 0 a))), (0, .ref (la lv0)), (1, va_rf (lk la en))]) S.1 S.2.1 d_AR_loseExits_25 rfl hl (by decide) (by generalize (lk la en) = z9; cases z9 <;> rfl) (fun ls hl => ?_)
          refine lv_goto (tgt := 2) S.1 S.2.1 d_AR_loseExits_26 (by decide) ?_
          have e9 : M2 = mm_up Mz (la a) (oL la ea (va_up F 2 (upd z a 0)) a) := by
            rw [eM2, eM1, mm_uu]
            show _ = mm_up Mz (la a) (Sum.inr (5, [Value.int (nI a), va_rf (lk la (F 0 a)), .int (F 1 a), va_rf (if cN (upd z a 0 a) = 0 then none else some (ea (cN (F 3 (10 * a + (cN (upd z a 0 a) - 1)))))), .int (upd z a 0 a)]))
            rw [pk_us]
            rfl
          have hla9 : ∀ b, 1 ≤ b → b ≤ n → M2 (la b) = some (oL la ea (va_up F 2 (upd z a 0)) b) := fun b p q => by
            rw [e9]
            by_cases h : b = a
            · subst h; exact mm_us
            · have e8 : oL la ea (va_up F 2 (upd z a 0)) b = oL la ea (va_up F 2 z) b := by
                show (Sum.inr (5, [Value.int (nI b), va_rf (lk la (F 0 b)), .int (F 1 b), va_rf (if cN (upd z a 0 b) = 0 then none else some (ea (cN (F 3 (10 * b + (cN (upd z a 0 b) - 1)))))), .int (upd z a 0 b)]) : va_E) = _
                rw [pk_un h]
                rfl
              rw [e8]
              exact mm_uk hlc0 (hla1 b p q) (oL_ne (by omega) (by omega) h)
          have hk9 : kt M M2 [5] := by rw [e9]; exact kt_tr hkk (kt_up hlc0 (by simp [tg]))
          exact ih (i + 1) f (upd z a 0) _ _ _ ls (by omega) (by omega) hw hla9 hk9 (hz.trans (by rw [ab_z, if_neg hne, ab_n, ← hae])) (by rw [← (hab i).2, ← hae]; exact lv_sub hl [0, 1, 2] rfl)
  exact L jj 0 101 (F 2) M _ _ ls (by omega) (by omega) hw (by rw [va_up_same]; exact hla) kt_rf rfl (by rw [show ab_n F lv0 0 = lv0 from rfl, lk_p hv1 (by omega)]; exact lv_sub hl [0, 1, 2] rfl)
