theorem gst_f {v b f : Int32} (h : gst v b f) : (f = 0 ∨ f = 1) ∧ (b = 0 ∨ b = 1) := by
  rcases h with ⟨_, h1, h2⟩ | ⟨_, h1, h2⟩ | ⟨_, h1, h2⟩
  · exact ⟨Or.inr h1, h2⟩
  · exact ⟨Or.inl h1, Or.inl h2⟩
  · exact ⟨Or.inl h1, Or.inr h2⟩
theorem gst_0 {v b f : Int32} (h : gst v b f) : f = 0 ↔ ¬ v ≤ 0 := by
  rcases h with ⟨h0, h1, h2⟩ | ⟨h0, h1, h2⟩ | ⟨h0, h1, h2⟩
  · subst h0; subst h1; decide
  · subst h0; subst h1; decide
  · subst h0; subst h1; decide
theorem gst_2 {v b f : Int32} (h : gst v b f) (hf : f = 0) : b = 0 ↔ ¬ v = 2 := by
  rcases h with ⟨h0, h1, h2⟩ | ⟨h0, h1, h2⟩ | ⟨h0, h1, h2⟩
  · rw [hf] at h1; exact absurd h1 (by decide)
  · subst h0; subst h2; decide
  · subst h0; subst h2; decide
section GDS
variable {dA : Nat → ClassId} {M M' : mm_M} {I I' : sI} {F F' : sF} {gd : Nat} {fG : Nat → Option Nat} {ga : Nat → Nat} {b f : Nat → Int32} {n : Nat}
theorem cG_set (hn : cN (I 3) = n) (a1 : M gd = some (aQ (dA 4) 60 fG)) (a2 : ∀ i, i < 60 → fG i = if i < cN (I 3) then some (ga (i + 1)) else none) (a3 : ∀ i, 1 ≤ i → i ≤ cN (I 3) → M (ga i) = some (oG F b f i) ∧ gst (F 14 i) (b i) (f i)) (a4 : ∀ i j, 1 ≤ i → i ≤ cN (I 3) → 1 ≤ j → j ≤ cN (I 3) → ga i = ga j → i = j)
    {j : Nat} {v b9 f9 : Int32} (hj : 1 ≤ j) (hjn : j ≤ n) (h3 : I' 3 = I 3) (f2 : F' 12 = F 12) (f3 : F' 13 = F 13) (f4 : F' 14 = upd (F 14) j v) (hg : gst v b9 f9) : cG dA (mm_up M (ga j) (.inr (7, [.int (F 12 j), .int (F 13 j), .int b9, .int f9]))) gd I' F' := by
  have hgj := (a3 j hj (by omega)).1
  refine ⟨fG, ga, upd b j b9, upd f j f9, mm_uk hgj a1 (by simp), by rw [h3]; exact a2, fun i p q => ?_, by rw [h3]; exact a4⟩
  rw [h3] at q
  rw [f4]
  by_cases h : i = j
  · subst h
    simp only [oG, f2, f3, pk_us]
    exact ⟨mm_us, hg⟩
  · simp only [oG, f2, f3, pk_un h]
    rw [mm_un (fun e => h (a4 i j p q hj (by omega) e))]
    exact a3 i p q
theorem cG_new {q : Nat} {t z : Int32} (hn : cN (I 3) = n) (hN : n < 60) (a2 : ∀ i, i < 60 → fG i = if i < cN (I 3) then some (ga (i + 1)) else none) (a3 : ∀ i, 1 ≤ i → i ≤ cN (I 3) → M (ga i) = some (oG F b f i) ∧ gst (F 14 i) (b i) (f i)) (a4 : ∀ i j, 1 ≤ i → i ≤ cN (I 3) → 1 ≤ j → j ≤ cN (I 3) → ga i = ga j → i = j)
    (kk : kt M M' [0, 1060]) (hgd : M' gd = some (aQ (dA 4) 60 (va_up fG n (some q)))) (hq : M' q = some (.inr (7, [.int t, .int z, .int 0, .int 0]))) (hq0 : M q = none) (h3 : cN (I' 3) = n + 1) (f2 : F' 12 = upd (F 12) (n + 1) t) (f3 : F' 13 = upd (F 13) (n + 1) z) (f4 : F' 14 = upd (F 14) (n + 1) 1) : cG dA M' gd I' F' := by
  have old : ∀ i, 1 ≤ i → i ≤ n → ga i ≠ q := fun i p r e => by
    have := (a3 i p (by omega)).1
    rw [e, hq0] at this
    cases this
  refine ⟨va_up fG n (some q), va_up ga (n + 1) q, upd b (n + 1) 0, upd f (n + 1) 0, hgd, fun i hi => ?_, fun i p r => ?_, fun i j p1 p2 p3 p4 e => ?_⟩
  · rw [h3]
    by_cases h : i = n
    · subst h
      rw [va_up_self, if_pos (by omega), va_up_self]
    · rw [va_up_ne _ _ h, a2 i hi, hn]
      by_cases h2 : i < n
      · rw [if_pos h2, if_pos (by omega), va_up_ne _ _ (by omega)]
      · rw [if_neg h2, if_neg (by omega)]
  · rw [h3] at r
    simp only [oG, f2, f3, f4]
    by_cases h : i = n + 1
    · subst h
      rw [pk_us, pk_us, pk_us, pk_us, pk_us, va_up_self]
      exact ⟨hq, Or.inr (Or.inl ⟨rfl, rfl, rfl⟩)⟩
    · rw [pk_un h, pk_un h, pk_un h, pk_un h, pk_un h, va_up_ne _ _ h]
      have h9 := a3 i p (by omega)
      exact ⟨kk _ _ h9.1 (by simp [tg]), h9.2⟩
  · rw [h3] at p2 p4
    by_cases hi : i = n + 1 <;> by_cases hj : j = n + 1
    · omega
    · rw [hi, va_up_self, va_up_ne _ _ hj] at e
      exact absurd e.symm (old j p3 (by omega))
    · rw [hj, va_up_self, va_up_ne _ _ hi] at e
      exact absurd e (old i p1 (by omega))
    · rw [va_up_ne _ _ hi, va_up_ne _ _ hj] at e
      exact a4 i j p1 (by omega) p3 (by omega) e
end GDS

theorem d_AR_guardOf_0 : decode b_AR_guardOf 0 = .ok (.iload_n 1, 1) := by decide +kernel
theorem d_AR_guardOf_1 : decode b_AR_guardOf 1 = .ok (.iconst 1, 1) := by decide +kernel
theorem d_AR_guardOf_2 : decode b_AR_guardOf 2 = .ok (.if_icmp .lt 22, 3) := by decide +kernel
theorem d_AR_guardOf_5 : decode b_AR_guardOf 5 = .ok (.iload_n 1, 1) := by decide +kernel
theorem d_AR_guardOf_6 : decode b_AR_guardOf 6 = .ok (.aload_n 0, 1) := by decide +kernel
theorem d_AR_guardOf_7 : decode b_AR_guardOf 7 = .ok (.getfield 136, 3) := by decide +kernel
theorem d_AR_guardOf_10 : decode b_AR_guardOf 10 = .ok (.if_icmp .gt 14, 3) := by decide +kernel
theorem d_AR_guardOf_13 : decode b_AR_guardOf 13 = .ok (.aload_n 0, 1) := by decide +kernel
theorem d_AR_guardOf_14 : decode b_AR_guardOf 14 = .ok (.getfield 24, 3) := by decide +kernel
theorem d_AR_guardOf_17 : decode b_AR_guardOf 17 = .ok (.iload_n 1, 1) := by decide +kernel
theorem d_AR_guardOf_18 : decode b_AR_guardOf 18 = .ok (.iconst 1, 1) := by decide +kernel
theorem d_AR_guardOf_19 : decode b_AR_guardOf 19 = .ok (.isub, 1) := by decide +kernel
theorem d_AR_guardOf_20 : decode b_AR_guardOf 20 = .ok (.aaload, 1) := by decide +kernel
theorem d_AR_guardOf_21 : decode b_AR_guardOf 21 = .ok (.goto 4, 3) := by decide +kernel
theorem d_AR_guardOf_24 : decode b_AR_guardOf 24 = .ok (.aconst_null, 1) := by decide +kernel
theorem d_AR_guardOf_25 : decode b_AR_guardOf 25 = .ok (.astore_n 2, 1) := by decide +kernel
theorem d_AR_guardOf_26 : decode b_AR_guardOf 26 = .ok (.aload_n 2, 1) := by decide +kernel
theorem d_AR_guardOf_27 : decode b_AR_guardOf 27 = .ok (.ifnull 10, 3) := by decide +kernel
theorem d_AR_guardOf_30 : decode b_AR_guardOf 30 = .ok (.aload_n 2, 1) := by decide +kernel
theorem d_AR_guardOf_31 : decode b_AR_guardOf 31 = .ok (.getfield 153, 3) := by decide +kernel
theorem d_AR_guardOf_34 : decode b_AR_guardOf 34 = .ok (.ifCond .eq 7, 3) := by decide +kernel
theorem d_AR_guardOf_37 : decode b_AR_guardOf 37 = .ok (.aconst_null, 1) := by decide +kernel
theorem d_AR_guardOf_38 : decode b_AR_guardOf 38 = .ok (.goto 4, 3) := by decide +kernel
theorem d_AR_guardOf_41 : decode b_AR_guardOf 41 = .ok (.aload_n 2, 1) := by decide +kernel
theorem d_AR_guardOf_42 : decode b_AR_guardOf 42 = .ok (.areturn, 1) := by decide +kernel
set_option maxHeartbeats 4000000 in
set_option maxRecDepth 100000 in
theorem c_AR_guardOf (l : Launch) (D : va_G) (dA : Nat → ClassId) (M : mm_M) (x lv sr gd rs ss dr cs cg : Nat) (I : sI) (F : sF) (fG : Nat → Option Nat) (ga : Nat → Nat) (b f : Nat → Int32) (n : Nat) (hn : I 3 = nI n) (hN : n ≤ 60) (hX : M x = some (.inr (0, [.ref lv, .int (I 1), .int (I 2), .ref sr, .ref gd, .int (I 3), .ref rs, .ref ss, .ref dr, .ref cs, .ref cg]))) (hgd : M gd = some (aQ (dA 4) 60 fG)) (hfg : ∀ i, i < 60 → fG i = if i < cN (I 3) then some (ga (i + 1)) else none) (hga : ∀ i, 1 ≤ i → i ≤ cN (I 3) → M (ga i) = some (oG F b f i) ∧ gst (F 14 i) (b i) (f i)) (k : Int32) : mm_Cq l y_AR_guardOf w_AR_guardOf ({ frames := 0, cells := 0, slots := 0, locals := 0 }) 0 0 D vC (tyL dA) [.ref x, .int k] M (fun r M' => M' = M ∧ ((is_gd I F k ∧ r = some (ga (cN k))) ∨ (¬ is_gd I F k ∧ r = none))) := by
  intro sz
  refine mm_start (by decide) (Nat.le_of_ble_eq_true rfl) ?_
  intro p e s m below meth c A Q ls hA hQ S hr hlocks hin hK hw hl
  have hl : lv_has ls 3 [(0, .ref x), (1, .int k)] := hl
  refine lv_iload_n S.1 S.2.1 d_AR_guardOf_0 rfl (lv_at hl 1 rfl) ?_
  refine lv_iconst (v := 1) S.1 S.2.1 d_AR_guardOf_1 (by decide) ?_
  refine lv_icmp_lt (tgt := 24) S.1 S.2.1 d_AR_guardOf_2 (by decide) (fun c2 => ?_) (fun c2 => ?_)
  · refine lv_null S.1 S.2.1 d_AR_guardOf_24 ?_
    refine lv_astore_nN (lv' := [(2, .null), (0, .ref x), (1, .int k)]) S.1 S.2.1 d_AR_guardOf_25 rfl hl (by decide) rfl (fun ls hl => ?_)
    refine lv_aload_nN S.1 S.2.1 d_AR_guardOf_26 rfl (lv_at hl 0 rfl) ?_
    refine lv_ifnullN (tgt := 37) S.1 S.2.1 d_AR_guardOf_27 (by decide) ?_
    refine lv_null S.1 S.2.1 d_AR_guardOf_37 ?_
    refine lv_goto (tgt := 42) S.1 S.2.1 d_AR_guardOf_38 (by decide) ?_
    exact mm_retq (v := none) S.1 S.2.1 hr hlocks hA hQ hw (⟨rfl, Or.inr ⟨fun h => h.1.1 (is_lt1.mp c2), rfl⟩⟩) (Nat.le_of_ble_eq_true rfl) (Nat.le_of_ble_eq_true rfl) d_AR_guardOf_42
  · refine lv_iload_n S.1 S.2.1 d_AR_guardOf_5 rfl (lv_at hl 1 rfl) ?_
    refine lv_aload_n S.1 S.2.1 d_AR_guardOf_6 rfl (lv_at hl 0 rfl) ?_
    refine mm_get (C := R_AR) (T := T_AR) (N := 11) S hK.1 hw hX rfl in_AR 5 (by decide) gw_93 rfl rfl d_AR_guardOf_7 ?_
    refine lv_icmp_gt (tgt := 24) S.1 S.2.1 d_AR_guardOf_10 (by decide) (fun c10 => ?_) (fun c10 => ?_)
    · refine lv_null S.1 S.2.1 d_AR_guardOf_24 ?_
      refine lv_astore_nN (lv' := [(2, .null), (0, .ref x), (1, .int k)]) S.1 S.2.1 d_AR_guardOf_25 rfl hl (by decide) rfl (fun ls hl => ?_)
      refine lv_aload_nN S.1 S.2.1 d_AR_guardOf_26 rfl (lv_at hl 0 rfl) ?_
      refine lv_ifnullN (tgt := 37) S.1 S.2.1 d_AR_guardOf_27 (by decide) ?_
      refine lv_null S.1 S.2.1 d_AR_guardOf_37 ?_
      refine lv_goto (tgt := 42) S.1 S.2.1 d_AR_guardOf_38 (by decide) ?_
      exact mm_retq (v := none) S.1 S.2.1 hr hlocks hA hQ hw (⟨rfl, Or.inr ⟨fun h => h.1.2 c10, rfl⟩⟩) (Nat.le_of_ble_eq_true rfl) (Nat.le_of_ble_eq_true rfl) d_AR_guardOf_42
    · refine lv_aload_n S.1 S.2.1 d_AR_guardOf_13 rfl (lv_at hl 0 rfl) ?_
      refine mm_get (C := R_AR) (T := T_AR) (N := 11) S hK.1 hw hX rfl in_AR 4 (by decide) gw_92 rfl rfl d_AR_guardOf_14 ?_
      refine lv_iload_n S.1 S.2.1 d_AR_guardOf_17 rfl (lv_at hl 1 rfl) ?_
      refine lv_iconst (v := 1) S.1 S.2.1 d_AR_guardOf_18 (by decide) ?_
      refine lv_isub S.1 S.2.1 d_AR_guardOf_19 ?_
      have hok : is_ok (I 3) k := ⟨fun h => c2 (is_lt1.mpr h), c10⟩
      obtain ⟨j, ek, hj1, hjn, en⟩ := is_of hn (by omega) hok
      have hcn : cN (I 3) = n := cN_I hn (by omega)
      refine mn_aldq (j := cN k - 1) S hK.1 hw 4 hgd rfl (by rw [cN, en, ek, show (1 : Int32) = nI 1 from rfl, pk_sub (by omega)]) (by rw [cN, en]; omega) (by decide) d_AR_guardOf_20 ?_
      have hfj : fG (cN k - 1) = some (ga j) := by
        rw [cN, en, hfg (j - 1) (by omega), if_pos (by omega)]
        congr 2
        omega
      rw [hfj]
      refine W.eq (g2 := F0 m 21 ls [.ref (ga j)]) rfl ?_
      have hgj : M (ga j) = some (oG F b f j) := (hga j hj1 (by omega)).1
      refine lv_goto (tgt := 25) S.1 S.2.1 d_AR_guardOf_21 (by decide) ?_
      refine lv_astore_n (lv' := [(2, .ref (ga j)), (0, .ref x), (1, .int k)]) S.1 S.2.1 d_AR_guardOf_25 rfl hl (by decide) rfl (fun ls hl => ?_)
      refine lv_aload_n S.1 S.2.1 d_AR_guardOf_26 rfl (lv_at hl 0 rfl) ?_
      refine lv_ifnull S.1 S.2.1 d_AR_guardOf_27 ?_
      refine lv_aload_n S.1 S.2.1 d_AR_guardOf_30 rfl (lv_at hl 0 rfl) ?_
      refine mm_get (C := R_GU) (T := T_GU) (N := 4) S hK.1 hw hgj rfl in_GU 3 (by decide) gw_304 rfl rfl d_AR_guardOf_31 ?_
      refine lv_if_eq (tgt := 41) S.1 S.2.1 d_AR_guardOf_34 (by decide) (fun c34 => ?_) (fun c34 => ?_)
      · refine lv_aload_n S.1 S.2.1 d_AR_guardOf_41 rfl (lv_at hl 0 rfl) ?_
        exact mm_retq (v := some (ga j)) S.1 S.2.1 hr hlocks hA hQ hw (⟨rfl, Or.inl ⟨⟨hok, by rw [cN, en]; exact (gst_0 (hga j hj1 (by omega)).2).mp c34⟩, by rw [cN, en]⟩⟩) (Nat.le_of_ble_eq_true rfl) (Nat.le_of_ble_eq_true rfl) d_AR_guardOf_42
      · refine lv_null S.1 S.2.1 d_AR_guardOf_37 ?_
        refine lv_goto (tgt := 42) S.1 S.2.1 d_AR_guardOf_38 (by decide) ?_
        exact mm_retq (v := none) S.1 S.2.1 hr hlocks hA hQ hw (⟨rfl, Or.inr ⟨fun h => c34 ((gst_0 (hga j hj1 (by omega)).2).mpr (by have h9 := h.2; rw [cN, en] at h9; exact h9)), rfl⟩⟩) (Nat.le_of_ble_eq_true rfl) (Nat.le_of_ble_eq_true rfl) d_AR_guardOf_42
theorem d_AR_write_0 : decode b_AR_write 0 = .ok (.aload_n 0, 1) := by decide +kernel
theorem d_AR_write_1 : decode b_AR_write 1 = .ok (.iload_n 1, 1) := by decide +kernel
theorem d_AR_write_2 : decode b_AR_write 2 = .ok (.invokevirtual 142, 3) := by decide +kernel
theorem d_AR_write_5 : decode b_AR_write 5 = .ok (.astore_n 3, 1) := by decide +kernel
theorem d_AR_write_6 : decode b_AR_write 6 = .ok (.aload_n 3, 1) := by decide +kernel
theorem d_AR_write_7 : decode b_AR_write 7 = .ok (.ifnonnull 6, 3) := by decide +kernel
theorem d_AR_write_10 : decode b_AR_write 10 = .ok (.bipush (-2), 2) := by decide +kernel
theorem d_AR_write_12 : decode b_AR_write 12 = .ok (.ireturn, 1) := by decide +kernel
theorem d_AR_write_13 : decode b_AR_write 13 = .ok (.iload_n 2, 1) := by decide +kernel
theorem d_AR_write_14 : decode b_AR_write 14 = .ok (.iconst (-1), 1) := by decide +kernel
theorem d_AR_write_15 : decode b_AR_write 15 = .ok (.if_icmp .lt 11, 3) := by decide +kernel
theorem d_AR_write_18 : decode b_AR_write 18 = .ok (.iload_n 2, 1) := by decide +kernel
theorem d_AR_write_19 : decode b_AR_write 19 = .ok (.aload_n 3, 1) := by decide +kernel
theorem d_AR_write_20 : decode b_AR_write 20 = .ok (.getfield 146, 3) := by decide +kernel
theorem d_AR_write_23 : decode b_AR_write 23 = .ok (.if_icmp .le 6, 3) := by decide +kernel
theorem d_AR_write_26 : decode b_AR_write 26 = .ok (.bipush (-4), 2) := by decide +kernel
theorem d_AR_write_28 : decode b_AR_write 28 = .ok (.ireturn, 1) := by decide +kernel
theorem d_AR_write_29 : decode b_AR_write 29 = .ok (.iload_n 2, 1) := by decide +kernel
theorem d_AR_write_30 : decode b_AR_write 30 = .ok (.iconst (-1), 1) := by decide +kernel
theorem d_AR_write_31 : decode b_AR_write 31 = .ok (.if_icmp .eq 11, 3) := by decide +kernel
theorem d_AR_write_34 : decode b_AR_write 34 = .ok (.iload_n 2, 1) := by decide +kernel
theorem d_AR_write_35 : decode b_AR_write 35 = .ok (.aload_n 3, 1) := by decide +kernel
theorem d_AR_write_36 : decode b_AR_write 36 = .ok (.getfield 146, 3) := by decide +kernel
theorem d_AR_write_39 : decode b_AR_write 39 = .ok (.if_icmp .ne 8, 3) := by decide +kernel
theorem d_AR_write_42 : decode b_AR_write 42 = .ok (.aload_n 3, 1) := by decide +kernel
theorem d_AR_write_43 : decode b_AR_write 43 = .ok (.iconst 1, 1) := by decide +kernel
theorem d_AR_write_44 : decode b_AR_write 44 = .ok (.putfield 149, 3) := by decide +kernel
theorem d_AR_write_47 : decode b_AR_write 47 = .ok (.aload_n 3, 1) := by decide +kernel
theorem d_AR_write_48 : decode b_AR_write 48 = .ok (.getfield 149, 3) := by decide +kernel
theorem d_AR_write_51 : decode b_AR_write 51 = .ok (.ifCond .eq 7, 3) := by decide +kernel
theorem d_AR_write_54 : decode b_AR_write 54 = .ok (.iconst 0, 1) := by decide +kernel
theorem d_AR_write_55 : decode b_AR_write 55 = .ok (.goto 4, 3) := by decide +kernel
theorem d_AR_write_58 : decode b_AR_write 58 = .ok (.iconst 1, 1) := by decide +kernel
theorem d_AR_write_59 : decode b_AR_write 59 = .ok (.ireturn, 1) := by decide +kernel
set_option maxHeartbeats 4000000 in
set_option maxRecDepth 100000 in
theorem c_AR_write (l : Launch) (D : va_G) (dA : Nat → ClassId) (M : mm_M) (x nc : Nat) (I : sI) (F : sF) (st : sT) (hC : cP dA M x I F st nc) (hwf : wf I F st) (q i : Int32) : mm_Ci l y_AR_write w_AR_write ({ frames := 1, cells := 0, slots := 0, locals := 22 }) 0 0 D vC (tyL dA) [.ref x, .int q, .int i] M (cs_post dA x nc (sp_write q i I F st)) := by
  intro sz
  refine mm_start (by decide) (Nat.le_of_ble_eq_true rfl) ?_
  intro p e s m below meth c A Q ls hA hQ S hr hlocks hin hK hw hl
  have hl : lv_has ls 4 [(0, .ref x), (1, .int q), (2, .int i)] := hl
  obtain ⟨lv, sr, gd, rs, ss, dr, cs, cg, hX, hL, hG, hS, hR, hT, hD, hCs, hE⟩ := id hC
  have hX : M x = some (.inr (0, [.ref lv, .int (I 1), .int (I 2), .ref sr, .ref gd, .int (I 3), .ref rs, .ref ss, .ref dr, .ref cs, .ref cg])) := hX
  obtain ⟨fG, ga, b, f, hgd, hfg, hga, hgi⟩ := id hG
  obtain ⟨n, hn, hN⟩ := hwf.2.2.1
  have hcn : cN (I 3) = n := cN_I hn (by omega)
  refine lv_aload_n S.1 S.2.1 d_AR_write_0 rfl (lv_at hl 0 rfl) ?_
  refine lv_iload_n S.1 S.2.1 d_AR_write_1 rfl (lv_at hl 1 rfl) ?_
  refine mm_callq hw (mm_runV (a := x) (As := [.int q]) (rest := []) S hK hw (c_AR_guardOf l D dA _ x lv sr gd rs ss dr cs cg I F fG ga b f n hn hN hX hgd hfg hga q _) bv_AR_guardOf gw_318 hX rfl (⟨rfl, rfl, by decide, by decide, by decide, by decide⟩) hl.1 rfl rfl (Nat.le_of_ble_eq_true rfl) d_AR_write_2) (fun r1 M2 H locs hp hw => ?_)
  rw [hp.1] at hw
  rcases hp.2 with ⟨hc3, rfl⟩ | ⟨hc3, rfl⟩
  · obtain ⟨j, ek, hj1, hjn, en⟩ := is_of hn (by omega) hc3.1
    have en : cN q = j := en
    have hgj : M (ga (cN q)) = some (oG F b f j) := by rw [en]; exact (hga j hj1 (by omega)).1
    have hgs : gst (F 14 j) (b j) (f j) := (hga j hj1 (by omega)).2
    have hf0 : f j = 0 := (gst_0 hgs).mpr (by have h9 := hc3.2; rw [en] at h9; exact h9)
    refine W.eq (g2 := F0 m 5 ls [.ref (ga (cN q))]) rfl ?_
    refine lv_astore_n (lv' := [(3, .ref (ga (cN q))), (0, .ref x), (1, .int q), (2, .int i)]) S.1 S.2.1 d_AR_write_5 rfl hl (by decide) rfl (fun ls hl => ?_)
    refine lv_aload_n S.1 S.2.1 d_AR_write_6 rfl (lv_at hl 0 rfl) ?_
    refine lv_ifnonnull (tgt := 13) S.1 S.2.1 d_AR_write_7 (by decide) ?_
    refine lv_iload_n S.1 S.2.1 d_AR_write_13 rfl (lv_at hl 3 rfl) ?_
    refine lv_iconst (v := (-1)) S.1 S.2.1 d_AR_write_14 (by decide) ?_
    refine lv_icmp_lt (tgt := 26) S.1 S.2.1 d_AR_write_15 (by decide) (fun c15 => ?_) (fun c15 => ?_)
    · refine lv_bipush (v := (-4)) S.1 S.2.1 d_AR_write_26 (by decide) ?_
      exact mm_reti S.1 S.2.1 hr hlocks hA hQ hw (cs_same hC (show sp_write q i I F st = ((-4), upd I 0 0, F, st) by simp only [sp_write, eq_true hc3, eq_true c15, not_true_eq_false, not_false_eq_true, and_true, true_and, and_false, false_and, and_self, or_true, true_or, or_false, false_or, or_self, ↓reduceIte, en])) (Nat.le_of_ble_eq_true rfl) (Nat.le_of_ble_eq_true rfl) d_AR_write_28
    · refine lv_iload_n S.1 S.2.1 d_AR_write_18 rfl (lv_at hl 3 rfl) ?_
      refine lv_aload_n S.1 S.2.1 d_AR_write_19 rfl (lv_at hl 0 rfl) ?_
      refine mm_get (C := R_GU) (T := T_GU) (N := 4) S hK.1 hw hgj rfl in_GU 1 (by decide) gw_301 rfl rfl d_AR_write_20 ?_
      refine lv_icmp_le (tgt := 29) S.1 S.2.1 d_AR_write_23 (by decide) (fun c23 => ?_) (fun c23 => ?_)
      · refine lv_iload_n S.1 S.2.1 d_AR_write_29 rfl (lv_at hl 3 rfl) ?_
        refine lv_iconst (v := (-1)) S.1 S.2.1 d_AR_write_30 (by decide) ?_
        refine lv_icmp_eq (tgt := 42) S.1 S.2.1 d_AR_write_31 (by decide) (fun c31 => ?_) (fun c31 => ?_)
        · refine lv_aload_n S.1 S.2.1 d_AR_write_42 rfl (lv_at hl 0 rfl) ?_
          refine lv_iconst (v := 1) S.1 S.2.1 d_AR_write_43 (by decide) ?_
          refine mm_put (C := R_GU) (T := T_GU) (N := 4) (ty := .boolean) (v := .int 1) S hK.1 hw hgj rfl in_GU t_GU k_GU n_GU 2 (by decide) gw_302 rfl rfl (by decide +kernel) (rfl) (rfl) (Nat.le_of_ble_eq_true rfl) d_AR_write_44 (fun H locs hw => ?_)
          obtain ⟨M4, eM4⟩ : ∃ zM : mm_M, zM = mm_up M (ga (cN q)) (.inr (7, [.int (F 12 (j)), .int (F 13 (j)), .int 1, .int (f (j))])) := ⟨_, rfl⟩
          have hw : mm_w D vC _ _ (mm_up M (ga (cN q)) (.inr (7, [.int (F 12 (j)), .int (F 13 (j)), .int 1, .int (f (j))]))) H _ := hw
          rw [← eM4] at hw
          have hX_4 : M4 x = some (.inr (0, [.ref lv, .int (I 1), .int (I 2), .ref sr, .ref gd, .int (I 3), .ref rs, .ref ss, .ref dr, .ref cs, .ref cg])) := by rw [eM4]; exact mm_uk hgj hX (by simp)
          have hgj_4 : M4 (ga (cN q)) = some (.inr (7, [.int (F 12 (j)), .int (F 13 (j)), .int 1, .int (f (j))])) := by rw [eM4]; exact mm_us
          refine lv_aload_n S.1 S.2.1 d_AR_write_47 rfl (lv_at hl 0 rfl) ?_
          refine mm_get (C := R_GU) (T := T_GU) (N := 4) S hK.1 hw hgj_4 rfl in_GU 2 (by decide) gw_302 rfl rfl d_AR_write_48 ?_
          refine lv_if_eq (tgt := 58) S.1 S.2.1 d_AR_write_51 (by decide) (fun c51 => absurd c51 (by decide)) (fun c51 => ?_)
          refine lv_iconst (v := 0) S.1 S.2.1 d_AR_write_54 (by decide) ?_
          refine lv_goto (tgt := 59) S.1 S.2.1 d_AR_write_55 (by decide) ?_
          have hk9 : kt M M4 [7] := by rw [eM4]; exact kt_up hgj (by simp [tg])
          have hP9 : cP dA M4 x (upd I 0 0) (va_up F 14 (upd (F 14) (cN q) 2)) st (nc + 1) := ⟨lv, sr, gd, rs, ss, dr, cs, cg, hk9 _ _ hX (by simp [tg]), cL_k hk9 hL (by decide) rfl rfl rfl rfl rfl rfl rfl rfl rfl, by rw [eM4, hf0, en]; exact cG_set hcn hgd hfg hga hgi hj1 hjn rfl rfl rfl rfl (Or.inr (Or.inr ⟨rfl, rfl, rfl⟩)), cS_k hk9 hS (by decide) rfl rfl, hk9 _ _ hR (by simp [tg]), hk9 _ _ hT (by simp [tg]), cD_k hk9 hD (by decide) rfl rfl, cC_k hk9 hCs (by decide) rfl, cE_k hk9 hE (by decide) (by omega) rfl⟩
          exact mm_reti S.1 S.2.1 hr hlocks hA hQ hw (cs_done hP9 (show sp_write q i I F st = (0, _, _, _) by simp only [sp_write, eq_true hc3, eq_false c15, eq_true c23, eq_true c31, not_true_eq_false, not_false_eq_true, and_true, true_and, and_false, false_and, and_self, or_true, true_or, or_false, false_or, or_self, ↓reduceIte, en])) (Nat.le_of_ble_eq_true rfl) (Nat.le_of_ble_eq_true rfl) d_AR_write_59
        · refine lv_iload_n S.1 S.2.1 d_AR_write_34 rfl (lv_at hl 3 rfl) ?_
          refine lv_aload_n S.1 S.2.1 d_AR_write_35 rfl (lv_at hl 0 rfl) ?_
          refine mm_get (C := R_GU) (T := T_GU) (N := 4) S hK.1 hw hgj rfl in_GU 1 (by decide) gw_301 rfl rfl d_AR_write_36 ?_
          refine lv_icmp_ne (tgt := 47) S.1 S.2.1 d_AR_write_39 (by decide) (fun c39 => ?_) (fun c39 => ?_)
          · refine lv_aload_n S.1 S.2.1 d_AR_write_47 rfl (lv_at hl 0 rfl) ?_
            refine mm_get (C := R_GU) (T := T_GU) (N := 4) S hK.1 hw hgj rfl in_GU 2 (by decide) gw_302 rfl rfl d_AR_write_48 ?_
            refine lv_if_eq (tgt := 58) S.1 S.2.1 d_AR_write_51 (by decide) (fun c51 => ?_) (fun c51 => ?_)
            · refine lv_iconst (v := 1) S.1 S.2.1 d_AR_write_58 (by decide) ?_
              exact mm_reti S.1 S.2.1 hr hlocks hA hQ hw (cs_same hC (show sp_write q i I F st = (1, upd I 0 0, F, st) by simp only [sp_write, eq_true hc3, eq_false c15, eq_true c23, eq_false c31, eq_false c39, not_true_eq_false, not_false_eq_true, and_true, true_and, and_false, false_and, and_self, or_true, true_or, or_false, false_or, or_self, ↓reduceIte, en, eq_false ((gst_2 hgs hf0).mp c51)])) (Nat.le_of_ble_eq_true rfl) (Nat.le_of_ble_eq_true rfl) d_AR_write_59
            · refine lv_iconst (v := 0) S.1 S.2.1 d_AR_write_54 (by decide) ?_
              refine lv_goto (tgt := 59) S.1 S.2.1 d_AR_write_55 (by decide) ?_
              have h2 : F 14 j = 2 := Classical.not_not.mp (fun q => c51 ((gst_2 hgs hf0).mpr q))
              exact mm_reti S.1 S.2.1 hr hlocks hA hQ hw (cs_same hC (show sp_write q i I F st = (0, upd I 0 0, F, st) by simp only [sp_write, eq_true hc3, eq_false c15, eq_true c23, eq_false c31, eq_false c39, not_true_eq_false, not_false_eq_true, and_true, true_and, and_false, false_and, and_self, or_true, true_or, or_false, false_or, or_self, ↓reduceIte, en, eq_true h2])) (Nat.le_of_ble_eq_true rfl) (Nat.le_of_ble_eq_true rfl) d_AR_write_59
          · refine lv_aload_n S.1 S.2.1 d_AR_write_42 rfl (lv_at hl 0 rfl) ?_
            refine lv_iconst (v := 1) S.1 S.2.1 d_AR_write_43 (by decide) ?_
            refine mm_put (C := R_GU) (T := T_GU) (N := 4) (ty := .boolean) (v := .int 1) S hK.1 hw hgj rfl in_GU t_GU k_GU n_GU 2 (by decide) gw_302 rfl rfl (by decide +kernel) (rfl) (rfl) (Nat.le_of_ble_eq_true rfl) d_AR_write_44 (fun H locs hw => ?_)
            obtain ⟨M5, eM5⟩ : ∃ zM : mm_M, zM = mm_up M (ga (cN q)) (.inr (7, [.int (F 12 (j)), .int (F 13 (j)), .int 1, .int (f (j))])) := ⟨_, rfl⟩
            have hw : mm_w D vC _ _ (mm_up M (ga (cN q)) (.inr (7, [.int (F 12 (j)), .int (F 13 (j)), .int 1, .int (f (j))]))) H _ := hw
            rw [← eM5] at hw
            have hX_5 : M5 x = some (.inr (0, [.ref lv, .int (I 1), .int (I 2), .ref sr, .ref gd, .int (I 3), .ref rs, .ref ss, .ref dr, .ref cs, .ref cg])) := by rw [eM5]; exact mm_uk hgj hX (by simp)
            have hgj_5 : M5 (ga (cN q)) = some (.inr (7, [.int (F 12 (j)), .int (F 13 (j)), .int 1, .int (f (j))])) := by rw [eM5]; exact mm_us
            refine lv_aload_n S.1 S.2.1 d_AR_write_47 rfl (lv_at hl 0 rfl) ?_
            refine mm_get (C := R_GU) (T := T_GU) (N := 4) S hK.1 hw hgj_5 rfl in_GU 2 (by decide) gw_302 rfl rfl d_AR_write_48 ?_
            refine lv_if_eq (tgt := 58) S.1 S.2.1 d_AR_write_51 (by decide) (fun c51 => absurd c51 (by decide)) (fun c51 => ?_)
            refine lv_iconst (v := 0) S.1 S.2.1 d_AR_write_54 (by decide) ?_
            refine lv_goto (tgt := 59) S.1 S.2.1 d_AR_write_55 (by decide) ?_
            have hk9 : kt M M5 [7] := by rw [eM5]; exact kt_up hgj (by simp [tg])
            have hP9 : cP dA M5 x (upd I 0 0) (va_up F 14 (upd (F 14) (cN q) 2)) st (nc + 1) := ⟨lv, sr, gd, rs, ss, dr, cs, cg, hk9 _ _ hX (by simp [tg]), cL_k hk9 hL (by decide) rfl rfl rfl rfl rfl rfl rfl rfl rfl, by rw [eM5, hf0, en]; exact cG_set hcn hgd hfg hga hgi hj1 hjn rfl rfl rfl rfl (Or.inr (Or.inr ⟨rfl, rfl, rfl⟩)), cS_k hk9 hS (by decide) rfl rfl, hk9 _ _ hR (by simp [tg]), hk9 _ _ hT (by simp [tg]), cD_k hk9 hD (by decide) rfl rfl, cC_k hk9 hCs (by decide) rfl, cE_k hk9 hE (by decide) (by omega) rfl⟩
            exact mm_reti S.1 S.2.1 hr hlocks hA hQ hw (cs_done hP9 (show sp_write q i I F st = (0, _, _, _) by simp only [sp_write, eq_true hc3, eq_false c15, eq_true c23, eq_false c31, eq_true c39, not_true_eq_false, not_false_eq_true, and_true, true_and, and_false, false_and, and_self, or_true, true_or, or_false, false_or, or_self, ↓reduceIte, en])) (Nat.le_of_ble_eq_true rfl) (Nat.le_of_ble_eq_true rfl) d_AR_write_59
      · refine lv_bipush (v := (-4)) S.1 S.2.1 d_AR_write_26 (by decide) ?_
        exact mm_reti S.1 S.2.1 hr hlocks hA hQ hw (cs_same hC (show sp_write q i I F st = ((-4), upd I 0 0, F, st) by simp only [sp_write, eq_true hc3, eq_false c15, eq_false c23, not_true_eq_false, not_false_eq_true, and_true, true_and, and_false, false_and, and_self, or_true, true_or, or_false, false_or, or_self, ↓reduceIte, en])) (Nat.le_of_ble_eq_true rfl) (Nat.le_of_ble_eq_true rfl) d_AR_write_28
  · refine W.eq (g2 := F0 m 5 ls [.null]) rfl ?_
    refine lv_astore_nN (lv' := [(3, .null), (0, .ref x), (1, .int q), (2, .int i)]) S.1 S.2.1 d_AR_write_5 rfl hl (by decide) rfl (fun ls hl => ?_)
    refine lv_aload_nN S.1 S.2.1 d_AR_write_6 rfl (lv_at hl 0 rfl) ?_
    refine lv_ifnonnullN S.1 S.2.1 d_AR_write_7 ?_
    refine lv_bipush (v := (-2)) S.1 S.2.1 d_AR_write_10 (by decide) ?_
    exact mm_reti S.1 S.2.1 hr hlocks hA hQ hw (cs_same hC (show sp_write q i I F st = ((-2), upd I 0 0, F, st) by simp only [sp_write, eq_false hc3, not_true_eq_false, not_false_eq_true, and_true, true_and, and_false, false_and, and_self, or_true, true_or, or_false, false_or, or_self, ↓reduceIte])) (Nat.le_of_ble_eq_true rfl) (Nat.le_of_ble_eq_true rfl) d_AR_write_12
theorem d_AR_free_0 : decode b_AR_free 0 = .ok (.aload_n 0, 1) := by decide +kernel
theorem d_AR_free_1 : decode b_AR_free 1 = .ok (.iload_n 1, 1) := by decide +kernel
theorem d_AR_free_2 : decode b_AR_free 2 = .ok (.invokevirtual 142, 3) := by decide +kernel
theorem d_AR_free_5 : decode b_AR_free 5 = .ok (.astore_n 2, 1) := by decide +kernel
theorem d_AR_free_6 : decode b_AR_free 6 = .ok (.aload_n 2, 1) := by decide +kernel
theorem d_AR_free_7 : decode b_AR_free 7 = .ok (.ifnonnull 6, 3) := by decide +kernel
theorem d_AR_free_10 : decode b_AR_free 10 = .ok (.bipush (-2), 2) := by decide +kernel
theorem d_AR_free_12 : decode b_AR_free 12 = .ok (.ireturn, 1) := by decide +kernel
theorem d_AR_free_13 : decode b_AR_free 13 = .ok (.aload_n 2, 1) := by decide +kernel
theorem d_AR_free_14 : decode b_AR_free 14 = .ok (.iconst 1, 1) := by decide +kernel
theorem d_AR_free_15 : decode b_AR_free 15 = .ok (.putfield 153, 3) := by decide +kernel
theorem d_AR_free_18 : decode b_AR_free 18 = .ok (.aload_n 2, 1) := by decide +kernel
theorem d_AR_free_19 : decode b_AR_free 19 = .ok (.getfield 149, 3) := by decide +kernel
theorem d_AR_free_22 : decode b_AR_free 22 = .ok (.ifCond .eq 13, 3) := by decide +kernel
theorem d_AR_free_25 : decode b_AR_free 25 = .ok (.bipush (-10), 2) := by decide +kernel
theorem d_AR_free_27 : decode b_AR_free 27 = .ok (.aload_n 2, 1) := by decide +kernel
theorem d_AR_free_28 : decode b_AR_free 28 = .ok (.getfield 156, 3) := by decide +kernel
theorem d_AR_free_31 : decode b_AR_free 31 = .ok (.isub, 1) := by decide +kernel
theorem d_AR_free_32 : decode b_AR_free 32 = .ok (.goto 4, 3) := by decide +kernel
theorem d_AR_free_35 : decode b_AR_free 35 = .ok (.iconst 1, 1) := by decide +kernel
theorem d_AR_free_36 : decode b_AR_free 36 = .ok (.ireturn, 1) := by decide +kernel
set_option maxHeartbeats 4000000 in
set_option maxRecDepth 100000 in
theorem c_AR_free (l : Launch) (D : va_G) (dA : Nat → ClassId) (M : mm_M) (x nc : Nat) (I : sI) (F : sF) (st : sT) (hC : cP dA M x I F st nc) (hwf : wf I F st) (q : Int32) : mm_Ci l y_AR_free w_AR_free ({ frames := 1, cells := 0, slots := 0, locals := 22 }) 0 0 D vC (tyL dA) [.ref x, .int q] M (cs_post dA x nc (sp_free q I F st)) := by
  intro sz
  refine mm_start (by decide) (Nat.le_of_ble_eq_true rfl) ?_
  intro p e s m below meth c A Q ls hA hQ S hr hlocks hin hK hw hl
  have hl : lv_has ls 3 [(0, .ref x), (1, .int q)] := hl
  obtain ⟨lv, sr, gd, rs, ss, dr, cs, cg, hX, hL, hG, hS, hR, hT, hD, hCs, hE⟩ := id hC
  have hX : M x = some (.inr (0, [.ref lv, .int (I 1), .int (I 2), .ref sr, .ref gd, .int (I 3), .ref rs, .ref ss, .ref dr, .ref cs, .ref cg])) := hX
  obtain ⟨fG, ga, b, f, hgd, hfg, hga, hgi⟩ := id hG
  obtain ⟨n, hn, hN⟩ := hwf.2.2.1
  have hcn : cN (I 3) = n := cN_I hn (by omega)
  refine lv_aload_n S.1 S.2.1 d_AR_free_0 rfl (lv_at hl 0 rfl) ?_
  refine lv_iload_n S.1 S.2.1 d_AR_free_1 rfl (lv_at hl 1 rfl) ?_
  refine mm_callq hw (mm_runV (a := x) (As := [.int q]) (rest := []) S hK hw (c_AR_guardOf l D dA _ x lv sr gd rs ss dr cs cg I F fG ga b f n hn hN hX hgd hfg hga q _) bv_AR_guardOf gw_318 hX rfl (⟨rfl, rfl, by decide, by decide, by decide, by decide⟩) hl.1 rfl rfl (Nat.le_of_ble_eq_true rfl) d_AR_free_2) (fun r1 M2 H locs hp hw => ?_)
  rw [hp.1] at hw
  rcases hp.2 with ⟨hc3, rfl⟩ | ⟨hc3, rfl⟩
  · obtain ⟨j, ek, hj1, hjn, en⟩ := is_of hn (by omega) hc3.1
    have en : cN q = j := en
    have hgj : M (ga (cN q)) = some (oG F b f j) := by rw [en]; exact (hga j hj1 (by omega)).1
    have hgs : gst (F 14 j) (b j) (f j) := (hga j hj1 (by omega)).2
    have hf0 : f j = 0 := (gst_0 hgs).mpr (by have h9 := hc3.2; rw [en] at h9; exact h9)
    refine W.eq (g2 := F0 m 5 ls [.ref (ga (cN q))]) rfl ?_
    refine lv_astore_n (lv' := [(2, .ref (ga (cN q))), (0, .ref x), (1, .int q)]) S.1 S.2.1 d_AR_free_5 rfl hl (by decide) rfl (fun ls hl => ?_)
    refine lv_aload_n S.1 S.2.1 d_AR_free_6 rfl (lv_at hl 0 rfl) ?_
    refine lv_ifnonnull (tgt := 13) S.1 S.2.1 d_AR_free_7 (by decide) ?_
    refine lv_aload_n S.1 S.2.1 d_AR_free_13 rfl (lv_at hl 0 rfl) ?_
    refine lv_iconst (v := 1) S.1 S.2.1 d_AR_free_14 (by decide) ?_
    refine mm_put (C := R_GU) (T := T_GU) (N := 4) (ty := .boolean) (v := .int 1) S hK.1 hw hgj rfl in_GU t_GU k_GU n_GU 3 (by decide) gw_304 rfl rfl (by decide +kernel) (rfl) (rfl) (Nat.le_of_ble_eq_true rfl) d_AR_free_15 (fun H locs hw => ?_)
    obtain ⟨M4, eM4⟩ : ∃ zM : mm_M, zM = mm_up M (ga (cN q)) (.inr (7, [.int (F 12 (j)), .int (F 13 (j)), .int (b (j)), .int 1])) := ⟨_, rfl⟩
    have hw : mm_w D vC _ _ (mm_up M (ga (cN q)) (.inr (7, [.int (F 12 (j)), .int (F 13 (j)), .int (b (j)), .int 1]))) H _ := hw
    rw [← eM4] at hw
    have hX_4 : M4 x = some (.inr (0, [.ref lv, .int (I 1), .int (I 2), .ref sr, .ref gd, .int (I 3), .ref rs, .ref ss, .ref dr, .ref cs, .ref cg])) := by rw [eM4]; exact mm_uk hgj hX (by simp)
    have hgj_4 : M4 (ga (cN q)) = some (.inr (7, [.int (F 12 (j)), .int (F 13 (j)), .int (b (j)), .int 1])) := by rw [eM4]; exact mm_us
    refine lv_aload_n S.1 S.2.1 d_AR_free_18 rfl (lv_at hl 0 rfl) ?_
    refine mm_get (C := R_GU) (T := T_GU) (N := 4) S hK.1 hw hgj_4 rfl in_GU 2 (by decide) gw_302 rfl rfl d_AR_free_19 ?_
    refine lv_if_eq (tgt := 35) S.1 S.2.1 d_AR_free_22 (by decide) (fun c22 => ?_) (fun c22 => ?_)
    · refine lv_iconst (v := 1) S.1 S.2.1 d_AR_free_35 (by decide) ?_
      have hk9 : kt M M4 [7] := by rw [eM4]; exact kt_up hgj (by simp [tg])
      have hP9 : cP dA M4 x (upd I 0 0) (va_up F 14 (upd (F 14) (cN q) 0)) st (nc + 1) := ⟨lv, sr, gd, rs, ss, dr, cs, cg, hk9 _ _ hX (by simp [tg]), cL_k hk9 hL (by decide) rfl rfl rfl rfl rfl rfl rfl rfl rfl, by rw [eM4, en]; exact cG_set hcn hgd hfg hga hgi hj1 hjn rfl rfl rfl rfl (Or.inl ⟨rfl, rfl, (gst_f hgs).2⟩), cS_k hk9 hS (by decide) rfl rfl, hk9 _ _ hR (by simp [tg]), hk9 _ _ hT (by simp [tg]), cD_k hk9 hD (by decide) rfl rfl, cC_k hk9 hCs (by decide) rfl, cE_k hk9 hE (by decide) (by omega) rfl⟩
      exact mm_reti S.1 S.2.1 hr hlocks hA hQ hw (cs_done hP9 (show sp_free q I F st = (1, _, _, _) by simp only [sp_free, eq_true hc3, not_true_eq_false, not_false_eq_true, and_true, true_and, and_false, false_and, and_self, or_true, true_or, or_false, false_or, or_self, ↓reduceIte, en, eq_false ((gst_2 hgs hf0).mp c22)])) (Nat.le_of_ble_eq_true rfl) (Nat.le_of_ble_eq_true rfl) d_AR_free_36
    · refine lv_bipush (v := (-10)) S.1 S.2.1 d_AR_free_25 (by decide) ?_
      refine lv_aload_n S.1 S.2.1 d_AR_free_27 rfl (lv_at hl 0 rfl) ?_
      refine mm_get (C := R_GU) (T := T_GU) (N := 4) S hK.1 hw hgj_4 rfl in_GU 0 (by decide) gw_299 rfl rfl d_AR_free_28 ?_
      refine lv_isub S.1 S.2.1 d_AR_free_31 ?_
      refine lv_goto (tgt := 36) S.1 S.2.1 d_AR_free_32 (by decide) ?_
      have hk9 : kt M M4 [7] := by rw [eM4]; exact kt_up hgj (by simp [tg])
      have hP9 : cP dA M4 x (upd I 0 0) (va_up F 14 (upd (F 14) (cN q) 0)) st (nc + 1) := ⟨lv, sr, gd, rs, ss, dr, cs, cg, hk9 _ _ hX (by simp [tg]), cL_k hk9 hL (by decide) rfl rfl rfl rfl rfl rfl rfl rfl rfl, by rw [eM4, en]; exact cG_set hcn hgd hfg hga hgi hj1 hjn rfl rfl rfl rfl (Or.inl ⟨rfl, rfl, (gst_f hgs).2⟩), cS_k hk9 hS (by decide) rfl rfl, hk9 _ _ hR (by simp [tg]), hk9 _ _ hT (by simp [tg]), cD_k hk9 hD (by decide) rfl rfl, cC_k hk9 hCs (by decide) rfl, cE_k hk9 hE (by decide) (by omega) rfl⟩
      have h2 : F 14 j = 2 := Classical.not_not.mp (fun q => c22 ((gst_2 hgs hf0).mpr q))
      exact mm_reti S.1 S.2.1 hr hlocks hA hQ hw (cs_done hP9 (show sp_free q I F st = (((-10) - (F 12 (j))), _, _, _) by simp only [sp_free, eq_true hc3, not_true_eq_false, not_false_eq_true, and_true, true_and, and_false, false_and, and_self, or_true, true_or, or_false, false_or, or_self, ↓reduceIte, en, eq_true h2])) (Nat.le_of_ble_eq_true rfl) (Nat.le_of_ble_eq_true rfl) d_AR_free_36
  · refine W.eq (g2 := F0 m 5 ls [.null]) rfl ?_
    refine lv_astore_nN (lv' := [(2, .null), (0, .ref x), (1, .int q)]) S.1 S.2.1 d_AR_free_5 rfl hl (by decide) rfl (fun ls hl => ?_)
    refine lv_aload_nN S.1 S.2.1 d_AR_free_6 rfl (lv_at hl 0 rfl) ?_
    refine lv_ifnonnullN S.1 S.2.1 d_AR_free_7 ?_
    refine lv_bipush (v := (-2)) S.1 S.2.1 d_AR_free_10 (by decide) ?_
    exact mm_reti S.1 S.2.1 hr hlocks hA hQ hw (cs_same hC (show sp_free q I F st = ((-2), upd I 0 0, F, st) by simp only [sp_free, eq_false hc3, not_true_eq_false, not_false_eq_true, and_true, true_and, and_false, false_and, and_self, or_true, true_or, or_false, false_or, or_self, ↓reduceIte])) (Nat.le_of_ble_eq_true rfl) (Nat.le_of_ble_eq_true rfl) d_AR_free_12
theorem d_AR_guard_0 : decode b_AR_guard 0 = .ok (.iload_n 1, 1) := by decide +kernel
theorem d_AR_guard_1 : decode b_AR_guard 1 = .ok (.invokestatic 115, 3) := by decide +kernel
theorem d_AR_guard_4 : decode b_AR_guard 4 = .ok (.ifCond .eq 14, 3) := by decide +kernel
theorem d_AR_guard_7 : decode b_AR_guard 7 = .ok (.iload_n 2, 1) := by decide +kernel
theorem d_AR_guard_8 : decode b_AR_guard 8 = .ok (.iconst 1, 1) := by decide +kernel
theorem d_AR_guard_9 : decode b_AR_guard 9 = .ok (.if_icmp .lt 9, 3) := by decide +kernel
theorem d_AR_guard_12 : decode b_AR_guard 12 = .ok (.iload_n 2, 1) := by decide +kernel
theorem d_AR_guard_13 : decode b_AR_guard 13 = .ok (.bipush 64, 2) := by decide +kernel
theorem d_AR_guard_15 : decode b_AR_guard 15 = .ok (.if_icmp .le 6, 3) := by decide +kernel
theorem d_AR_guard_18 : decode b_AR_guard 18 = .ok (.bipush (-4), 2) := by decide +kernel
theorem d_AR_guard_20 : decode b_AR_guard 20 = .ok (.ireturn, 1) := by decide +kernel
theorem d_AR_guard_21 : decode b_AR_guard 21 = .ok (.aload_n 0, 1) := by decide +kernel
theorem d_AR_guard_22 : decode b_AR_guard 22 = .ok (.getfield 136, 3) := by decide +kernel
theorem d_AR_guard_25 : decode b_AR_guard 25 = .ok (.bipush 60, 2) := by decide +kernel
theorem d_AR_guard_27 : decode b_AR_guard 27 = .ok (.if_icmp .lt 5, 3) := by decide +kernel
theorem d_AR_guard_30 : decode b_AR_guard 30 = .ok (.iconst (-1), 1) := by decide +kernel
theorem d_AR_guard_31 : decode b_AR_guard 31 = .ok (.ireturn, 1) := by decide +kernel
theorem d_AR_guard_32 : decode b_AR_guard 32 = .ok (.aload_n 0, 1) := by decide +kernel
theorem d_AR_guard_33 : decode b_AR_guard 33 = .ok (.getfield 24, 3) := by decide +kernel
theorem d_AR_guard_36 : decode b_AR_guard 36 = .ok (.aload_n 0, 1) := by decide +kernel
theorem d_AR_guard_37 : decode b_AR_guard 37 = .ok (.getfield 136, 3) := by decide +kernel
theorem d_AR_guard_40 : decode b_AR_guard 40 = .ok (.new 22, 3) := by decide +kernel
theorem d_AR_guard_43 : decode b_AR_guard 43 = .ok (.dup, 1) := by decide +kernel
theorem d_AR_guard_44 : decode b_AR_guard 44 = .ok (.iload_n 1, 1) := by decide +kernel
theorem d_AR_guard_45 : decode b_AR_guard 45 = .ok (.iload_n 2, 1) := by decide +kernel
theorem d_AR_guard_46 : decode b_AR_guard 46 = .ok (.invokespecial 139, 3) := by decide +kernel
theorem d_AR_guard_49 : decode b_AR_guard 49 = .ok (.aastore, 1) := by decide +kernel
theorem d_AR_guard_50 : decode b_AR_guard 50 = .ok (.aload_n 0, 1) := by decide +kernel
theorem d_AR_guard_51 : decode b_AR_guard 51 = .ok (.dup, 1) := by decide +kernel
theorem d_AR_guard_52 : decode b_AR_guard 52 = .ok (.getfield 136, 3) := by decide +kernel
theorem d_AR_guard_55 : decode b_AR_guard 55 = .ok (.iconst 1, 1) := by decide +kernel
theorem d_AR_guard_56 : decode b_AR_guard 56 = .ok (.iadd, 1) := by decide +kernel
theorem d_AR_guard_57 : decode b_AR_guard 57 = .ok (.putfield 136, 3) := by decide +kernel
theorem d_AR_guard_60 : decode b_AR_guard 60 = .ok (.aload_n 0, 1) := by decide +kernel
theorem d_AR_guard_61 : decode b_AR_guard 61 = .ok (.getfield 136, 3) := by decide +kernel
theorem d_AR_guard_64 : decode b_AR_guard 64 = .ok (.ireturn, 1) := by decide +kernel
set_option maxHeartbeats 4000000 in
set_option maxRecDepth 100000 in
theorem c_AR_guard (l : Launch) (D : va_G) (dA : Nat → ClassId) (M : mm_M) (x nc : Nat) (I : sI) (F : sF) (st : sT) (hC : cP dA M x I F st nc) (hwf : wf I F st) (t z : Int32) : mm_Ci l y_AR_guard w_AR_guard ({ frames := 2, cells := 1, slots := 4, locals := 42 }) 1 4 D vC (tyL dA) [.ref x, .int t, .int z] M (cs_post dA x nc (sp_guard t z I F st)) := by
  intro sz
  refine mm_start (by decide) (Nat.le_of_ble_eq_true rfl) ?_
  intro p e s m below meth c A Q ls hA hQ S hr hlocks hin hK hw hl
  have hl : lv_has ls 3 [(0, .ref x), (1, .int t), (2, .int z)] := hl
  obtain ⟨lv, sr, gd, rs, ss, dr, cs, cg, hX, hL, hG, hS, hR, hT, hD, hCs, hE⟩ := id hC
  have hX : M x = some (.inr (0, [.ref lv, .int (I 1), .int (I 2), .ref sr, .ref gd, .int (I 3), .ref rs, .ref ss, .ref dr, .ref cs, .ref cg])) := hX
  obtain ⟨fG, ga, b, f, hgd, hfg, hga, hgi⟩ := id hG
  obtain ⟨n, hn, hN⟩ := hwf.2.2.1
  have hcn : cN (I 3) = n := cN_I hn (by omega)
  refine lv_iload_n S.1 S.2.1 d_AR_guard_0 rfl (lv_at hl 1 rfl) ?_
  refine mm_calli hw (mm_runS (As := [.int t]) (rest := []) S hK hw (c_AR_isTask l D dA _ t _) bs_AR_isTask gw_235 (⟨rfl, rfl, by decide, by decide, by decide, by decide⟩) hl.1 rfl rfl (Nat.le_of_ble_eq_true rfl) d_AR_guard_1) (fun r1 M2 H locs hp hw => ?_)
  rw [hp.1] at hw
  rcases hp.2 with ⟨rfl, hc3⟩ | ⟨rfl, hc3⟩
  · obtain ⟨j4, ekj4, hlj4, hhj4, enj4⟩ := is_of (N := 40) rfl (by omega) hc3
    refine lv_if_eq (tgt := 18) S.1 S.2.1 d_AR_guard_4 (by decide) (fun c4 => absurd c4 (by decide)) (fun c4 => ?_)
    refine lv_iload_n S.1 S.2.1 d_AR_guard_7 rfl (lv_at hl 2 rfl) ?_
    refine lv_iconst (v := 1) S.1 S.2.1 d_AR_guard_8 (by decide) ?_
    refine lv_icmp_lt (tgt := 18) S.1 S.2.1 d_AR_guard_9 (by decide) (fun c9 => ?_) (fun c9 => ?_)
    · refine lv_bipush (v := (-4)) S.1 S.2.1 d_AR_guard_18 (by decide) ?_
      exact mm_reti S.1 S.2.1 hr hlocks hA hQ hw (cs_same hC (show sp_guard t z I F st = ((-4), upd I 0 0, F, st) by simp only [sp_guard, eq_true hc3, eq_false c4, eq_true c9, not_true_eq_false, not_false_eq_true, and_true, true_and, and_false, false_and, and_self, or_true, true_or, or_false, false_or, or_self, ↓reduceIte])) (Nat.le_of_ble_eq_true rfl) (Nat.le_of_ble_eq_true rfl) d_AR_guard_20
    · refine lv_iload_n S.1 S.2.1 d_AR_guard_12 rfl (lv_at hl 2 rfl) ?_
      refine lv_bipush (v := 64) S.1 S.2.1 d_AR_guard_13 (by decide) ?_
      refine lv_icmp_le (tgt := 21) S.1 S.2.1 d_AR_guard_15 (by decide) (fun c15 => ?_) (fun c15 => ?_)
      · refine lv_aload_n S.1 S.2.1 d_AR_guard_21 rfl (lv_at hl 0 rfl) ?_
        refine mm_get (C := R_AR) (T := T_AR) (N := 11) S hK.1 hw hX rfl in_AR 5 (by decide) gw_93 rfl rfl d_AR_guard_22 ?_
        refine lv_bipush (v := 60) S.1 S.2.1 d_AR_guard_25 (by decide) ?_
        refine lv_icmp_lt (tgt := 32) S.1 S.2.1 d_AR_guard_27 (by decide) (fun c27 => ?_) (fun c27 => ?_)
        · have hn1 : n < 60 := by
            rcases Nat.lt_or_ge n 60 with q | q
            · exact q
            · exact absurd (by rw [hn, show n = 60 by omega] at c27; exact c27) (by decide)
          refine lv_aload_n S.1 S.2.1 d_AR_guard_32 rfl (lv_at hl 0 rfl) ?_
          refine mm_get (C := R_AR) (T := T_AR) (N := 11) S hK.1 hw hX rfl in_AR 4 (by decide) gw_92 rfl rfl d_AR_guard_33 ?_
          refine lv_aload_n S.1 S.2.1 d_AR_guard_36 rfl (lv_at hl 0 rfl) ?_
          refine mm_get (C := R_AR) (T := T_AR) (N := 11) S hK.1 hw hX rfl in_AR 5 (by decide) gw_93 rfl rfl d_AR_guard_37 ?_
          refine mm_new (C := R_GU) (T := T_GU) (N := 4) (ci := 7) (fs := [.int 0, .int 0, .int 0, .int 0]) S hK.1 hw rfl in_GU t_GU k_GU gw_47 gw_293 gw_18 (fun j hj => by rcases (show j = 0 ∨ j = 1 ∨ j = 2 ∨ j = 3 by omega) with rfl | rfl | rfl | rfl <;> rfl) (Nat.le_of_ble_eq_true rfl) (Nat.le_of_ble_eq_true rfl) d_AR_guard_40 (fun q5 H hqq5 hw => ?_)
          obtain ⟨M6, eM6⟩ : ∃ zM : mm_M, zM = mm_up M q5 (.inr (7, [.int 0, .int 0, .int 0, .int 0])) := ⟨_, rfl⟩
          have hw : mm_w D vC _ _ (mm_up M q5 (.inr (7, [.int 0, .int 0, .int 0, .int 0]))) H _ := hw
          rw [← eM6] at hw
          have hX_6 : M6 x = some (.inr (0, [.ref lv, .int (I 1), .int (I 2), .ref sr, .ref gd, .int (I 3), .ref rs, .ref ss, .ref dr, .ref cs, .ref cg])) := by rw [eM6]; exact mm_fk hqq5 hX
          have hgd_6 : M6 gd = some (.inl (dA 4, 60, .inr (.inr (.inr (.inr (fG)))))) := by rw [eM6]; exact mm_fk hqq5 hgd
          have hq5_6 : M6 q5 = some (.inr (7, [.int 0, .int 0, .int 0, .int 0])) := by rw [eM6]; exact mm_us
          refine lv_dup S.1 S.2.1 d_AR_guard_43 rfl ?_
          refine lv_iload_n S.1 S.2.1 d_AR_guard_44 rfl (lv_at hl 1 rfl) ?_
          refine lv_iload_n S.1 S.2.1 d_AR_guard_45 rfl (lv_at hl 2 rfl) ?_
          refine mm_callv hw (mm_runI (a := q5) (As := [.int t, .int z]) (rest := [.ref q5, .int (I 3), .ref gd]) S hK hw (c_GU_init l D dA _ q5 (t) (z) hq5_6 _) bi_GU_init gw_294 (⟨rfl, rfl, by decide, by decide, by decide, by decide⟩) hl.1 rfl rfl (Nat.le_of_ble_eq_true rfl) d_AR_guard_46) (fun M8 H locs hp hw => ?_)
          have hX_9 : M8 x = some (.inr (0, [.ref lv, .int (I 1), .int (I 2), .ref sr, .ref gd, .int (I 3), .ref rs, .ref ss, .ref dr, .ref cs, .ref cg])) := by rw [hp]; exact mm_uk hq5_6 hX_6 (by simp)
          have hgd_10 : M8 gd = some (.inl (dA 4, 60, .inr (.inr (.inr (.inr (fG)))))) := by rw [hp]; exact mm_uk hq5_6 hgd_6 (by simp)
          have hq5_11 : M8 q5 = some (.inr (7, [.int t, .int z, .int 0, .int 0])) := by rw [hp]; exact mm_us
          have eM8 := hp
          refine mn_astq (j := n) (r := (R_GU, T_GU, 4)) S hK.1 hw 4 7 hgd_10 rfl hq5_11 rfl (hn) (by omega) (by decide) d_AR_guard_49 (fun H locs hw => ?_)
          obtain ⟨M12, eM12⟩ : ∃ zM : mm_M, zM = mm_up M8 gd (.inl (dA 4, 60, .inr (.inr (.inr (.inr (va_up (fG) (n) (some q5))))))) := ⟨_, rfl⟩
          have hw : mm_w D vC _ _ (mm_up M8 gd (.inl (dA 4, 60, .inr (.inr (.inr (.inr (va_up (fG) (n) (some q5)))))))) H _ := hw
          rw [← eM12] at hw
          have hX_12 : M12 x = some (.inr (0, [.ref lv, .int (I 1), .int (I 2), .ref sr, .ref gd, .int (I 3), .ref rs, .ref ss, .ref dr, .ref cs, .ref cg])) := by rw [eM12]; exact mm_uk hgd_10 hX_9 (by simp)
          have hq5_12 : M12 q5 = some (.inr (7, [.int t, .int z, .int 0, .int 0])) := by rw [eM12]; exact mm_uk hgd_10 hq5_11 (by simp)
          have hgd_12 : M12 gd = some (.inl (dA 4, 60, .inr (.inr (.inr (.inr (va_up (fG) (n) (some q5))))))) := by rw [eM12]; exact mm_us
          refine lv_aload_n S.1 S.2.1 d_AR_guard_50 rfl (lv_at hl 0 rfl) ?_
          refine lv_dup S.1 S.2.1 d_AR_guard_51 rfl ?_
          refine mm_get (C := R_AR) (T := T_AR) (N := 11) S hK.1 hw hX_12 rfl in_AR 5 (by decide) gw_93 rfl rfl d_AR_guard_52 ?_
          refine lv_iconst (v := 1) S.1 S.2.1 d_AR_guard_55 (by decide) ?_
          refine lv_iadd S.1 S.2.1 d_AR_guard_56 ?_
          refine mm_put (C := R_AR) (T := T_AR) (N := 11) (ty := .int) (v := .int ((I 3) + 1)) S hK.1 hw hX_12 rfl in_AR t_AR k_AR n_AR 5 (by decide) gw_93 rfl rfl (by decide +kernel) (rfl) (rfl) (Nat.le_of_ble_eq_true rfl) d_AR_guard_57 (fun H locs hw => ?_)
          obtain ⟨M13, eM13⟩ : ∃ zM : mm_M, zM = mm_up M12 x (.inr (0, [.ref lv, .int (I 1), .int (I 2), .ref sr, .ref gd, .int ((I 3) + 1), .ref rs, .ref ss, .ref dr, .ref cs, .ref cg])) := ⟨_, rfl⟩
          have hw : mm_w D vC _ _ (mm_up M12 x (.inr (0, [.ref lv, .int (I 1), .int (I 2), .ref sr, .ref gd, .int ((I 3) + 1), .ref rs, .ref ss, .ref dr, .ref cs, .ref cg]))) H _ := hw
          rw [← eM13] at hw
          have hgd_13 : M13 gd = some (.inl (dA 4, 60, .inr (.inr (.inr (.inr (va_up (fG) (n) (some q5))))))) := by rw [eM13]; exact mm_uk hX_12 hgd_12 (by simp)
          have hq5_13 : M13 q5 = some (.inr (7, [.int t, .int z, .int 0, .int 0])) := by rw [eM13]; exact mm_uk hX_12 hq5_12 (by simp)
          have hX_13 : M13 x = some (.inr (0, [.ref lv, .int (I 1), .int (I 2), .ref sr, .ref gd, .int ((I 3) + 1), .ref rs, .ref ss, .ref dr, .ref cs, .ref cg])) := by rw [eM13]; exact mm_us
          refine lv_aload_n S.1 S.2.1 d_AR_guard_60 rfl (lv_at hl 0 rfl) ?_
          refine mm_get (C := R_AR) (T := T_AR) (N := 11) S hK.1 hw hX_13 rfl in_AR 5 (by decide) gw_93 rfl rfl d_AR_guard_61 ?_
          have h60 : ¬ I 3 = 60 := fun h => by rw [h] at c27; exact absurd c27 (by decide)
          have hi3 : I 3 + 1 = nI (n + 1) := by rw [hn, nI_1]
          have hci : cN (I 3 + 1) = n + 1 := cN_I hi3 (by omega)
          have hk9 : kt M M13 [0, 1060] := by
            have e9 : M8 = mm_up M q5 (.inr (7, [.int t, .int z, .int 0, .int 0])) := by rw [eM8, eM6]; exact mm_uu
            rw [eM13, eM12, e9]
            exact kt_tr (kt_nw hqq5) (kt_tr (kt_up (e0 := aQ (dA 4) 60 fG) (mm_fk hqq5 hgd) (by simp [tg])) (kt_up (mm_uk (mm_fk hqq5 hgd) (mm_fk hqq5 hX) (by simp)) (by simp [tg])))
          have hP9 : cP dA M13 x (upd (upd I 0 0) 3 (I 3 + 1)) (va_up (va_up (va_up F 12 (upd (F 12) (cN (I 3 + 1)) t)) 13 (upd (F 13) (cN (I 3 + 1)) z)) 14 (upd (F 14) (cN (I 3 + 1)) 1)) st (nc + 1) := ⟨lv, sr, gd, rs, ss, dr, cs, cg, hX_13, cL_k hk9 hL (by decide) rfl rfl rfl rfl rfl rfl rfl rfl rfl, cG_new (n := n) (q := q5) hcn hn1 hfg hga hgi hk9 hgd_13 hq5_13 hqq5 hci (by rw [hci]; rfl) (by rw [hci]; rfl) (by rw [hci]; rfl), cS_k hk9 hS (by decide) rfl rfl, hk9 _ _ hR (by simp [tg]), hk9 _ _ hT (by simp [tg]), cD_k hk9 hD (by decide) rfl rfl, cC_k hk9 hCs (by decide) rfl, cE_k hk9 hE (by decide) (by omega) rfl⟩
          exact mm_reti S.1 S.2.1 hr hlocks hA hQ hw (cs_done hP9 (show sp_guard t z I F st = (I 3 + 1, _, _, _) by simp only [sp_guard, eq_true hc3, eq_false c4, eq_false c9, eq_true c15, not_true_eq_false, not_false_eq_true, and_true, true_and, and_false, false_and, and_self, or_true, true_or, or_false, false_or, or_self, ↓reduceIte, eq_false h60])) (Nat.le_of_ble_eq_true rfl) (Nat.le_of_ble_eq_true rfl) d_AR_guard_64
        · refine lv_iconst (v := (-1)) S.1 S.2.1 d_AR_guard_30 (by decide) ?_
          have h60 : I 3 = 60 := by
            rw [hn] at c27 ⊢
            rcases Nat.lt_or_ge n 60 with q | q
            · exact absurd (nI_lt (b := 60) q (by decide)) c27
            · rw [show n = 60 by omega]; rfl
          exact mm_reti S.1 S.2.1 hr hlocks hA hQ hw (cs_same hC (show sp_guard t z I F st = ((-1), upd I 0 0, F, st) by simp only [sp_guard, eq_true hc3, eq_false c4, eq_false c9, eq_true c15, not_true_eq_false, not_false_eq_true, and_true, true_and, and_false, false_and, and_self, or_true, true_or, or_false, false_or, or_self, ↓reduceIte, eq_true h60])) (Nat.le_of_ble_eq_true rfl) (Nat.le_of_ble_eq_true rfl) d_AR_guard_31
      · refine lv_bipush (v := (-4)) S.1 S.2.1 d_AR_guard_18 (by decide) ?_
        exact mm_reti S.1 S.2.1 hr hlocks hA hQ hw (cs_same hC (show sp_guard t z I F st = ((-4), upd I 0 0, F, st) by simp only [sp_guard, eq_true hc3, eq_false c4, eq_false c9, eq_false c15, not_true_eq_false, not_false_eq_true, and_true, true_and, and_false, false_and, and_self, or_true, true_or, or_false, false_or, or_self, ↓reduceIte])) (Nat.le_of_ble_eq_true rfl) (Nat.le_of_ble_eq_true rfl) d_AR_guard_20
  · refine lv_if_eq (tgt := 18) S.1 S.2.1 d_AR_guard_4 (by decide) (fun c4 => ?_) (fun c4 => absurd c4 (by decide))
    refine lv_bipush (v := (-4)) S.1 S.2.1 d_AR_guard_18 (by decide) ?_
    exact mm_reti S.1 S.2.1 hr hlocks hA hQ hw (cs_same hC (show sp_guard t z I F st = ((-4), upd I 0 0, F, st) by simp only [sp_guard, eq_false hc3, eq_true c4, not_true_eq_false, not_false_eq_true, and_true, true_and, and_false, false_and, and_self, or_true, true_or, or_false, false_or, or_self, ↓reduceIte])) (Nat.le_of_ble_eq_true rfl) (Nat.le_of_ble_eq_true rfl) d_AR_guard_20
theorem d_AR_guardsOf_0 : decode b_AR_guardsOf 0 = .ok (.iconst 0, 1) := by decide +kernel
theorem d_AR_guardsOf_1 : decode b_AR_guardsOf 1 = .ok (.istore_n 2, 1) := by decide +kernel
theorem d_AR_guardsOf_2 : decode b_AR_guardsOf 2 = .ok (.aload_n 0, 1) := by decide +kernel
theorem d_AR_guardsOf_3 : decode b_AR_guardsOf 3 = .ok (.getfield 24, 3) := by decide +kernel
theorem d_AR_guardsOf_6 : decode b_AR_guardsOf 6 = .ok (.astore_n 3, 1) := by decide +kernel
theorem d_AR_guardsOf_7 : decode b_AR_guardsOf 7 = .ok (.aload_n 3, 1) := by decide +kernel
theorem d_AR_guardsOf_8 : decode b_AR_guardsOf 8 = .ok (.arraylength, 1) := by decide +kernel
theorem d_AR_guardsOf_9 : decode b_AR_guardsOf 9 = .ok (.istore 4, 2) := by decide +kernel
theorem d_AR_guardsOf_11 : decode b_AR_guardsOf 11 = .ok (.iconst 0, 1) := by decide +kernel
theorem d_AR_guardsOf_12 : decode b_AR_guardsOf 12 = .ok (.istore 5, 2) := by decide +kernel
theorem d_AR_guardsOf_14 : decode b_AR_guardsOf 14 = .ok (.iload 5, 2) := by decide +kernel
theorem d_AR_guardsOf_16 : decode b_AR_guardsOf 16 = .ok (.iload 4, 2) := by decide +kernel
theorem d_AR_guardsOf_18 : decode b_AR_guardsOf 18 = .ok (.if_icmp .ge 32, 3) := by decide +kernel
theorem d_AR_guardsOf_21 : decode b_AR_guardsOf 21 = .ok (.aload_n 3, 1) := by decide +kernel
theorem d_AR_guardsOf_22 : decode b_AR_guardsOf 22 = .ok (.iload 5, 2) := by decide +kernel
theorem d_AR_guardsOf_24 : decode b_AR_guardsOf 24 = .ok (.aaload, 1) := by decide +kernel
theorem d_AR_guardsOf_25 : decode b_AR_guardsOf 25 = .ok (.astore 6, 2) := by decide +kernel
theorem d_AR_guardsOf_27 : decode b_AR_guardsOf 27 = .ok (.aload 6, 2) := by decide +kernel
theorem d_AR_guardsOf_29 : decode b_AR_guardsOf 29 = .ok (.ifnull 15, 3) := by decide +kernel
theorem d_AR_guardsOf_32 : decode b_AR_guardsOf 32 = .ok (.aload 6, 2) := by decide +kernel
theorem d_AR_guardsOf_34 : decode b_AR_guardsOf 34 = .ok (.iload_n 1, 1) := by decide +kernel
theorem d_AR_guardsOf_35 : decode b_AR_guardsOf 35 = .ok (.invokevirtual 185, 3) := by decide +kernel
theorem d_AR_guardsOf_38 : decode b_AR_guardsOf 38 = .ok (.ifCond .eq 6, 3) := by decide +kernel
theorem d_AR_guardsOf_41 : decode b_AR_guardsOf 41 = .ok (.iinc 2 1, 3) := by decide +kernel
theorem d_AR_guardsOf_44 : decode b_AR_guardsOf 44 = .ok (.iinc 5 1, 3) := by decide +kernel
theorem d_AR_guardsOf_47 : decode b_AR_guardsOf 47 = .ok (.goto (-33), 3) := by decide +kernel
theorem d_AR_guardsOf_50 : decode b_AR_guardsOf 50 = .ok (.iload_n 2, 1) := by decide +kernel
theorem d_AR_guardsOf_51 : decode b_AR_guardsOf 51 = .ok (.ireturn, 1) := by decide +kernel
set_option maxHeartbeats 4000000 in
set_option maxRecDepth 100000 in
theorem c_AR_guardsOf (l : Launch) (D : va_G) (dA : Nat → ClassId) (M : mm_M) (x lv sr gd rs ss dr cs cg : Nat) (I : sI) (F : sF) (fG : Nat → Option Nat) (ga : Nat → Nat) (b f : Nat → Int32) (n : Nat) (hn : I 3 = nI n) (hN : n ≤ 60) (hX : M x = some (.inr (0, [.ref lv, .int (I 1), .int (I 2), .ref sr, .ref gd, .int (I 3), .ref rs, .ref ss, .ref dr, .ref cs, .ref cg]))) (hgd : M gd = some (aQ (dA 4) 60 fG)) (hfg : ∀ i, i < 60 → fG i = if i < cN (I 3) then some (ga (i + 1)) else none) (hga : ∀ i, 1 ≤ i → i ≤ cN (I 3) → M (ga i) = some (oG F b f i) ∧ gst (F 14 i) (b i) (f i)) (t : Int32) : mm_Ci l y_AR_guardsOf w_AR_guardsOf ({ frames := 1, cells := 0, slots := 0, locals := 21 }) 0 0 D vC (tyL dA) [.ref x, .int t] M (fun r M' => M' = M ∧ r = gc_a F t n) := by
  intro sz
  refine mm_start (by decide) (Nat.le_of_ble_eq_true rfl) ?_
  intro p e s m below meth c A Q ls hA hQ S hr hlocks hin hK hw hl
  have hl : lv_has ls 7 [(0, .ref x), (1, .int t)] := hl
  have hcn : cN (I 3) = n := cN_I hn (by omega)
  refine lv_iconst (v := 0) S.1 S.2.1 d_AR_guardsOf_0 (by decide) ?_
  refine lv_istore_n (lv' := [(2, .int 0), (0, .ref x), (1, .int t)]) S.1 S.2.1 d_AR_guardsOf_1 rfl hl (by decide) rfl (fun ls hl => ?_)
  refine lv_aload_n S.1 S.2.1 d_AR_guardsOf_2 rfl (lv_at hl 1 rfl) ?_
  refine mm_get (C := R_AR) (T := T_AR) (N := 11) S hK.1 hw hX rfl in_AR 4 (by decide) gw_92 rfl rfl d_AR_guardsOf_3 ?_
  refine lv_astore_n (lv' := [(3, .ref gd), (2, .int 0), (0, .ref x), (1, .int t)]) S.1 S.2.1 d_AR_guardsOf_6 rfl hl (by decide) rfl (fun ls hl => ?_)
  refine lv_aload_n S.1 S.2.1 d_AR_guardsOf_7 rfl (lv_at hl 0 rfl) ?_
  refine mm_alen (v := 60) S hK.1 hw 4 hgd rfl rfl d_AR_guardsOf_8 ?_
  refine lv_istore (lv' := [(4, .int 60), (3, .ref gd), (2, .int 0), (0, .ref x), (1, .int t)]) S.1 S.2.1 d_AR_guardsOf_9 hl (by decide) rfl (fun ls hl => ?_)
  refine lv_iconst (v := 0) S.1 S.2.1 d_AR_guardsOf_11 (by decide) ?_
  refine lv_istore (lv' := [(5, .int 0), (4, .int 60), (3, .ref gd), (2, .int 0), (0, .ref x), (1, .int t)]) S.1 S.2.1 d_AR_guardsOf_12 hl (by decide) rfl (fun ls hl => ?_)
  have L : ∀ (mm i : Nat) (H : Heap) (locs : List Loc) (ls : Array Slot), i + mm = 60 → mm_w D vC A s.heap M H locs → lv_has ls 7 [(2, .int (gc_a F t (min i n))), (3, .ref gd), (4, .int 60), (5, .int (nI i)), (0, .ref x), (1, .int t)] → W p l e ({ frames := 1, cells := 0, slots := 0, locals := 21 }) s m [.ref x, .int t].toArray below meth c H locs 0 0 Q (F0 m 14 ls []) := by
    intro mm
    induction mm with
    | zero =>
      intro i H locs ls hi hw hl
      refine lv_iload S.1 S.2.1 d_AR_guardsOf_14 (lv_at hl 3 rfl) ?_
      refine lv_iload S.1 S.2.1 d_AR_guardsOf_16 (lv_at hl 2 rfl) ?_
      refine lv_icmp_ge (tgt := 50) S.1 S.2.1 d_AR_guardsOf_18 (by decide) (fun c18 => ?_) (fun c18 => absurd (nI_le (a := 60) (by omega) (by omega)) c18)
      refine lv_iload_n S.1 S.2.1 d_AR_guardsOf_50 rfl (lv_at hl 0 rfl) ?_
      exact mm_reti S.1 S.2.1 hr hlocks hA hQ hw (⟨rfl, by rw [show min i n = n by omega]⟩) (Nat.le_of_ble_eq_true rfl) (Nat.le_of_ble_eq_true rfl) d_AR_guardsOf_51
    | succ mm ih =>
      intro i H locs ls hi hw hl
      refine lv_iload S.1 S.2.1 d_AR_guardsOf_14 (lv_at hl 3 rfl) ?_
      refine lv_iload S.1 S.2.1 d_AR_guardsOf_16 (lv_at hl 2 rfl) ?_
      refine lv_icmp_ge (tgt := 50) S.1 S.2.1 d_AR_guardsOf_18 (by decide) (fun c18 => absurd c18 (nI_ge (b := 60) (by omega) (by decide))) (fun c18 => ?_)
      refine lv_aload_n S.1 S.2.1 d_AR_guardsOf_21 rfl (lv_at hl 1 rfl) ?_
      refine lv_iload S.1 S.2.1 d_AR_guardsOf_22 (lv_at hl 3 rfl) ?_
      refine mn_aldq (j := i) S hK.1 hw 4 hgd rfl (rfl) (by omega) (by decide) d_AR_guardsOf_24 ?_
      rcases Nat.lt_or_ge i n with hin9 | hin9
      · rw [show fG i = some (ga (i + 1)) from by rw [hfg i (by omega), if_pos (by omega)]]
        refine W.eq (g2 := F0 m 25 ls [.ref (ga (i + 1))]) rfl ?_
        obtain ⟨hgj, hgs⟩ := hga (i + 1) (by omega) (by omega)
        refine lv_astore (lv' := [(6, .ref (ga (i + 1))), (2, .int (gc_a F t (min i n))), (3, .ref gd), (4, .int 60), (5, .int (nI i)), (0, .ref x), (1, .int t)]) S.1 S.2.1 d_AR_guardsOf_25 hl (by decide) rfl (fun ls hl => ?_)
        refine lv_aload S.1 S.2.1 d_AR_guardsOf_27 (lv_at hl 0 rfl) ?_
        refine lv_ifnull S.1 S.2.1 d_AR_guardsOf_29 ?_
        refine lv_aload S.1 S.2.1 d_AR_guardsOf_32 (lv_at hl 0 rfl) ?_
        refine lv_iload_n S.1 S.2.1 d_AR_guardsOf_34 rfl (lv_at hl 6 rfl) ?_
        refine mm_calli hw (mm_runV (a := (ga (i + 1))) (As := [.int t]) (rest := []) S hK hw (c_GU_isHeldBy l D dA _ (ga (i + 1)) (F 12 (i + 1)) (F 13 (i + 1)) (b (i + 1)) (f (i + 1)) t (gst_f hgs).1 hgj _) bv_GU_isHeldBy gw_252 hgj rfl (⟨rfl, rfl, by decide, by decide, by decide, by decide⟩) hl.1 rfl rfl (Nat.le_of_ble_eq_true rfl) d_AR_guardsOf_35) (fun r1 M2 H locs hp hw => ?_)
        rw [hp.1] at hw
        have hp2 := hp.2
        by_cases hcc : F 12 (i + 1) = t ∧ f (i + 1) = 0
        · rw [if_pos hcc] at hp2
          subst hp2
          refine lv_if_eq (tgt := 44) S.1 S.2.1 d_AR_guardsOf_38 (by decide) (fun c38 => absurd c38 (by decide)) (fun c38 => ?_)
          refine lv_iinc (v := ((gc_a F t (min i n)) + 1)) (lv' := [(2, .int ((gc_a F t (min i n)) + 1)), (6, .ref (ga (i + 1))), (3, .ref gd), (4, .int 60), (5, .int (nI i)), (0, .ref x), (1, .int t)]) S.1 S.2.1 d_AR_guardsOf_41 hl (k := 1) rfl (rfl) (by decide) rfl (fun ls hl => ?_)
          refine lv_iinc (v := (nI (i + 1))) (lv' := [(5, .int (nI (i + 1))), (2, .int ((gc_a F t (min i n)) + 1)), (6, .ref (ga (i + 1))), (3, .ref gd), (4, .int 60), (0, .ref x), (1, .int t)]) S.1 S.2.1 d_AR_guardsOf_44 hl (k := 4) rfl (nI_1 i) (by decide) rfl (fun ls hl => ?_)
          refine lv_goto (tgt := 14) S.1 S.2.1 d_AR_guardsOf_47 (by decide) ?_
          exact ih (i + 1) _ _ ls (by omega) hw (by rw [show min (i + 1) n = i + 1 by omega, show gc_a F t (i + 1) = ((gc_a F t (min i n)) + 1) from by rw [gc_a, show min i n = i by omega]; rw [if_pos ⟨hcc.1, (gst_0 hgs).mp hcc.2⟩]]; exact lv_sub hl [1, 3, 4, 0, 5, 6] rfl)
        · rw [if_neg hcc] at hp2
          subst hp2
          refine lv_if_eq (tgt := 44) S.1 S.2.1 d_AR_guardsOf_38 (by decide) (fun c38 => ?_) (fun c38 => absurd c38 (by decide))
          refine lv_iinc (v := (nI (i + 1))) (lv' := [(5, .int (nI (i + 1))), (6, .ref (ga (i + 1))), (2, .int (gc_a F t (min i n))), (3, .ref gd), (4, .int 60), (0, .ref x), (1, .int t)]) S.1 S.2.1 d_AR_guardsOf_44 hl (k := 4) rfl (nI_1 i) (by decide) rfl (fun ls hl => ?_)
          refine lv_goto (tgt := 14) S.1 S.2.1 d_AR_guardsOf_47 (by decide) ?_
          exact ih (i + 1) _ _ ls (by omega) hw (by rw [show min (i + 1) n = i + 1 by omega, show gc_a F t (i + 1) = (gc_a F t (min i n)) from by rw [gc_a, show min i n = i by omega]; rw [if_neg (fun h => hcc ⟨h.1, (gst_0 hgs).mpr h.2⟩), Int32.add_zero]]; exact lv_sub hl [2, 3, 4, 0, 5, 6] rfl)
      · rw [show fG i = none from by rw [hfg i (by omega), if_neg (by omega)]]
        refine W.eq (g2 := F0 m 25 ls [.null]) rfl ?_
        refine lv_astoreN (lv' := [(6, .null), (2, .int (gc_a F t (min i n))), (3, .ref gd), (4, .int 60), (5, .int (nI i)), (0, .ref x), (1, .int t)]) S.1 S.2.1 d_AR_guardsOf_25 hl (by decide) rfl (fun ls hl => ?_)
        refine lv_aloadN S.1 S.2.1 d_AR_guardsOf_27 (lv_at hl 0 rfl) ?_
        refine lv_ifnullN (tgt := 44) S.1 S.2.1 d_AR_guardsOf_29 (by decide) ?_
        refine lv_iinc (v := (nI (i + 1))) (lv' := [(5, .int (nI (i + 1))), (6, .null), (2, .int (gc_a F t (min i n))), (3, .ref gd), (4, .int 60), (0, .ref x), (1, .int t)]) S.1 S.2.1 d_AR_guardsOf_44 hl (k := 4) rfl (nI_1 i) (by decide) rfl (fun ls hl => ?_)
        refine lv_goto (tgt := 14) S.1 S.2.1 d_AR_guardsOf_47 (by decide) ?_
        exact ih (i + 1) _ _ ls (by omega) hw (by rw [show min (i + 1) n = min i n by omega]; exact lv_sub hl [2, 3, 4, 0, 5, 6] rfl)
  exact L 60 0 _ _ ls (by omega) hw (lv_sub hl [3, 2, 1, 0, 4, 5] rfl)
theorem d_AR_brokenGuardsOf_0 : decode b_AR_brokenGuardsOf 0 = .ok (.iconst 0, 1) := by decide +kernel
theorem d_AR_brokenGuardsOf_1 : decode b_AR_brokenGuardsOf 1 = .ok (.istore_n 2, 1) := by decide +kernel
theorem d_AR_brokenGuardsOf_2 : decode b_AR_brokenGuardsOf 2 = .ok (.aload_n 0, 1) := by decide +kernel
theorem d_AR_brokenGuardsOf_3 : decode b_AR_brokenGuardsOf 3 = .ok (.getfield 24, 3) := by decide +kernel
theorem d_AR_brokenGuardsOf_6 : decode b_AR_brokenGuardsOf 6 = .ok (.astore_n 3, 1) := by decide +kernel
theorem d_AR_brokenGuardsOf_7 : decode b_AR_brokenGuardsOf 7 = .ok (.aload_n 3, 1) := by decide +kernel
theorem d_AR_brokenGuardsOf_8 : decode b_AR_brokenGuardsOf 8 = .ok (.arraylength, 1) := by decide +kernel
theorem d_AR_brokenGuardsOf_9 : decode b_AR_brokenGuardsOf 9 = .ok (.istore 4, 2) := by decide +kernel
theorem d_AR_brokenGuardsOf_11 : decode b_AR_brokenGuardsOf 11 = .ok (.iconst 0, 1) := by decide +kernel
theorem d_AR_brokenGuardsOf_12 : decode b_AR_brokenGuardsOf 12 = .ok (.istore 5, 2) := by decide +kernel
theorem d_AR_brokenGuardsOf_14 : decode b_AR_brokenGuardsOf 14 = .ok (.iload 5, 2) := by decide +kernel
theorem d_AR_brokenGuardsOf_16 : decode b_AR_brokenGuardsOf 16 = .ok (.iload 4, 2) := by decide +kernel
theorem d_AR_brokenGuardsOf_18 : decode b_AR_brokenGuardsOf 18 = .ok (.if_icmp .ge 40, 3) := by decide +kernel
theorem d_AR_brokenGuardsOf_21 : decode b_AR_brokenGuardsOf 21 = .ok (.aload_n 3, 1) := by decide +kernel
theorem d_AR_brokenGuardsOf_22 : decode b_AR_brokenGuardsOf 22 = .ok (.iload 5, 2) := by decide +kernel
theorem d_AR_brokenGuardsOf_24 : decode b_AR_brokenGuardsOf 24 = .ok (.aaload, 1) := by decide +kernel
theorem d_AR_brokenGuardsOf_25 : decode b_AR_brokenGuardsOf 25 = .ok (.astore 6, 2) := by decide +kernel
theorem d_AR_brokenGuardsOf_27 : decode b_AR_brokenGuardsOf 27 = .ok (.aload 6, 2) := by decide +kernel
theorem d_AR_brokenGuardsOf_29 : decode b_AR_brokenGuardsOf 29 = .ok (.ifnull 23, 3) := by decide +kernel
theorem d_AR_brokenGuardsOf_32 : decode b_AR_brokenGuardsOf 32 = .ok (.aload 6, 2) := by decide +kernel
theorem d_AR_brokenGuardsOf_34 : decode b_AR_brokenGuardsOf 34 = .ok (.iload_n 1, 1) := by decide +kernel
theorem d_AR_brokenGuardsOf_35 : decode b_AR_brokenGuardsOf 35 = .ok (.invokevirtual 185, 3) := by decide +kernel
theorem d_AR_brokenGuardsOf_38 : decode b_AR_brokenGuardsOf 38 = .ok (.ifCond .eq 14, 3) := by decide +kernel
theorem d_AR_brokenGuardsOf_41 : decode b_AR_brokenGuardsOf 41 = .ok (.aload 6, 2) := by decide +kernel
theorem d_AR_brokenGuardsOf_43 : decode b_AR_brokenGuardsOf 43 = .ok (.getfield 149, 3) := by decide +kernel
theorem d_AR_brokenGuardsOf_46 : decode b_AR_brokenGuardsOf 46 = .ok (.ifCond .eq 6, 3) := by decide +kernel
theorem d_AR_brokenGuardsOf_49 : decode b_AR_brokenGuardsOf 49 = .ok (.iinc 2 1, 3) := by decide +kernel
theorem d_AR_brokenGuardsOf_52 : decode b_AR_brokenGuardsOf 52 = .ok (.iinc 5 1, 3) := by decide +kernel
theorem d_AR_brokenGuardsOf_55 : decode b_AR_brokenGuardsOf 55 = .ok (.goto (-41), 3) := by decide +kernel
theorem d_AR_brokenGuardsOf_58 : decode b_AR_brokenGuardsOf 58 = .ok (.iload_n 2, 1) := by decide +kernel
theorem d_AR_brokenGuardsOf_59 : decode b_AR_brokenGuardsOf 59 = .ok (.ireturn, 1) := by decide +kernel
set_option maxHeartbeats 4000000 in
set_option maxRecDepth 100000 in
theorem c_AR_brokenGuardsOf (l : Launch) (D : va_G) (dA : Nat → ClassId) (M : mm_M) (x lv sr gd rs ss dr cs cg : Nat) (I : sI) (F : sF) (fG : Nat → Option Nat) (ga : Nat → Nat) (b f : Nat → Int32) (n : Nat) (hn : I 3 = nI n) (hN : n ≤ 60) (hX : M x = some (.inr (0, [.ref lv, .int (I 1), .int (I 2), .ref sr, .ref gd, .int (I 3), .ref rs, .ref ss, .ref dr, .ref cs, .ref cg]))) (hgd : M gd = some (aQ (dA 4) 60 fG)) (hfg : ∀ i, i < 60 → fG i = if i < cN (I 3) then some (ga (i + 1)) else none) (hga : ∀ i, 1 ≤ i → i ≤ cN (I 3) → M (ga i) = some (oG F b f i) ∧ gst (F 14 i) (b i) (f i)) (t : Int32) : mm_Ci l y_AR_brokenGuardsOf w_AR_brokenGuardsOf ({ frames := 1, cells := 0, slots := 0, locals := 21 }) 0 0 D vC (tyL dA) [.ref x, .int t] M (fun r M' => M' = M ∧ r = gc_b F t n) := by
  intro sz
  refine mm_start (by decide) (Nat.le_of_ble_eq_true rfl) ?_
  intro p e s m below meth c A Q ls hA hQ S hr hlocks hin hK hw hl
  have hl : lv_has ls 7 [(0, .ref x), (1, .int t)] := hl
  have hcn : cN (I 3) = n := cN_I hn (by omega)
  refine lv_iconst (v := 0) S.1 S.2.1 d_AR_brokenGuardsOf_0 (by decide) ?_
  refine lv_istore_n (lv' := [(2, .int 0), (0, .ref x), (1, .int t)]) S.1 S.2.1 d_AR_brokenGuardsOf_1 rfl hl (by decide) rfl (fun ls hl => ?_)
  refine lv_aload_n S.1 S.2.1 d_AR_brokenGuardsOf_2 rfl (lv_at hl 1 rfl) ?_
  refine mm_get (C := R_AR) (T := T_AR) (N := 11) S hK.1 hw hX rfl in_AR 4 (by decide) gw_92 rfl rfl d_AR_brokenGuardsOf_3 ?_
  refine lv_astore_n (lv' := [(3, .ref gd), (2, .int 0), (0, .ref x), (1, .int t)]) S.1 S.2.1 d_AR_brokenGuardsOf_6 rfl hl (by decide) rfl (fun ls hl => ?_)
  refine lv_aload_n S.1 S.2.1 d_AR_brokenGuardsOf_7 rfl (lv_at hl 0 rfl) ?_
  refine mm_alen (v := 60) S hK.1 hw 4 hgd rfl rfl d_AR_brokenGuardsOf_8 ?_
  refine lv_istore (lv' := [(4, .int 60), (3, .ref gd), (2, .int 0), (0, .ref x), (1, .int t)]) S.1 S.2.1 d_AR_brokenGuardsOf_9 hl (by decide) rfl (fun ls hl => ?_)
  refine lv_iconst (v := 0) S.1 S.2.1 d_AR_brokenGuardsOf_11 (by decide) ?_
  refine lv_istore (lv' := [(5, .int 0), (4, .int 60), (3, .ref gd), (2, .int 0), (0, .ref x), (1, .int t)]) S.1 S.2.1 d_AR_brokenGuardsOf_12 hl (by decide) rfl (fun ls hl => ?_)
  have L : ∀ (mm i : Nat) (H : Heap) (locs : List Loc) (ls : Array Slot), i + mm = 60 → mm_w D vC A s.heap M H locs → lv_has ls 7 [(2, .int (gc_b F t (min i n))), (3, .ref gd), (4, .int 60), (5, .int (nI i)), (0, .ref x), (1, .int t)] → W p l e ({ frames := 1, cells := 0, slots := 0, locals := 21 }) s m [.ref x, .int t].toArray below meth c H locs 0 0 Q (F0 m 14 ls []) := by
    intro mm
    induction mm with
    | zero =>
      intro i H locs ls hi hw hl
      refine lv_iload S.1 S.2.1 d_AR_brokenGuardsOf_14 (lv_at hl 3 rfl) ?_
      refine lv_iload S.1 S.2.1 d_AR_brokenGuardsOf_16 (lv_at hl 2 rfl) ?_
      refine lv_icmp_ge (tgt := 58) S.1 S.2.1 d_AR_brokenGuardsOf_18 (by decide) (fun c18 => ?_) (fun c18 => absurd (nI_le (a := 60) (by omega) (by omega)) c18)
      refine lv_iload_n S.1 S.2.1 d_AR_brokenGuardsOf_58 rfl (lv_at hl 0 rfl) ?_
      exact mm_reti S.1 S.2.1 hr hlocks hA hQ hw (⟨rfl, by rw [show min i n = n by omega]⟩) (Nat.le_of_ble_eq_true rfl) (Nat.le_of_ble_eq_true rfl) d_AR_brokenGuardsOf_59
    | succ mm ih =>
      intro i H locs ls hi hw hl
      refine lv_iload S.1 S.2.1 d_AR_brokenGuardsOf_14 (lv_at hl 3 rfl) ?_
      refine lv_iload S.1 S.2.1 d_AR_brokenGuardsOf_16 (lv_at hl 2 rfl) ?_
      refine lv_icmp_ge (tgt := 58) S.1 S.2.1 d_AR_brokenGuardsOf_18 (by decide) (fun c18 => absurd c18 (nI_ge (b := 60) (by omega) (by decide))) (fun c18 => ?_)
      refine lv_aload_n S.1 S.2.1 d_AR_brokenGuardsOf_21 rfl (lv_at hl 1 rfl) ?_
      refine lv_iload S.1 S.2.1 d_AR_brokenGuardsOf_22 (lv_at hl 3 rfl) ?_
      refine mn_aldq (j := i) S hK.1 hw 4 hgd rfl (rfl) (by omega) (by decide) d_AR_brokenGuardsOf_24 ?_
      rcases Nat.lt_or_ge i n with hin9 | hin9
      · rw [show fG i = some (ga (i + 1)) from by rw [hfg i (by omega), if_pos (by omega)]]
        refine W.eq (g2 := F0 m 25 ls [.ref (ga (i + 1))]) rfl ?_
        obtain ⟨hgj, hgs⟩ := hga (i + 1) (by omega) (by omega)
        refine lv_astore (lv' := [(6, .ref (ga (i + 1))), (2, .int (gc_b F t (min i n))), (3, .ref gd), (4, .int 60), (5, .int (nI i)), (0, .ref x), (1, .int t)]) S.1 S.2.1 d_AR_brokenGuardsOf_25 hl (by decide) rfl (fun ls hl => ?_)
        refine lv_aload S.1 S.2.1 d_AR_brokenGuardsOf_27 (lv_at hl 0 rfl) ?_
        refine lv_ifnull S.1 S.2.1 d_AR_brokenGuardsOf_29 ?_
        refine lv_aload S.1 S.2.1 d_AR_brokenGuardsOf_32 (lv_at hl 0 rfl) ?_
        refine lv_iload_n S.1 S.2.1 d_AR_brokenGuardsOf_34 rfl (lv_at hl 6 rfl) ?_
        refine mm_calli hw (mm_runV (a := (ga (i + 1))) (As := [.int t]) (rest := []) S hK hw (c_GU_isHeldBy l D dA _ (ga (i + 1)) (F 12 (i + 1)) (F 13 (i + 1)) (b (i + 1)) (f (i + 1)) t (gst_f hgs).1 hgj _) bv_GU_isHeldBy gw_252 hgj rfl (⟨rfl, rfl, by decide, by decide, by decide, by decide⟩) hl.1 rfl rfl (Nat.le_of_ble_eq_true rfl) d_AR_brokenGuardsOf_35) (fun r1 M2 H locs hp hw => ?_)
        rw [hp.1] at hw
        have hp2 := hp.2
        by_cases hcc : F 12 (i + 1) = t ∧ f (i + 1) = 0
        · rw [if_pos hcc] at hp2
          subst hp2
          refine lv_if_eq (tgt := 52) S.1 S.2.1 d_AR_brokenGuardsOf_38 (by decide) (fun c38 => absurd c38 (by decide)) (fun c38 => ?_)
          refine lv_aload S.1 S.2.1 d_AR_brokenGuardsOf_41 (lv_at hl 0 rfl) ?_
          refine mm_get (C := R_GU) (T := T_GU) (N := 4) S hK.1 hw hgj rfl in_GU 2 (by decide) gw_302 rfl rfl d_AR_brokenGuardsOf_43 ?_
          refine lv_if_eq (tgt := 52) S.1 S.2.1 d_AR_brokenGuardsOf_46 (by decide) (fun c46 => ?_) (fun c46 => ?_)
          · refine lv_iinc (v := (nI (i + 1))) (lv' := [(5, .int (nI (i + 1))), (6, .ref (ga (i + 1))), (2, .int (gc_b F t (min i n))), (3, .ref gd), (4, .int 60), (0, .ref x), (1, .int t)]) S.1 S.2.1 d_AR_brokenGuardsOf_52 hl (k := 4) rfl (nI_1 i) (by decide) rfl (fun ls hl => ?_)
            refine lv_goto (tgt := 14) S.1 S.2.1 d_AR_brokenGuardsOf_55 (by decide) ?_
            exact ih (i + 1) _ _ ls (by omega) hw (by rw [show min (i + 1) n = i + 1 by omega, show gc_b F t (i + 1) = (gc_b F t (min i n)) from by rw [gc_b, show min i n = i by omega]; rw [if_neg (fun h => (gst_2 hgs hcc.2).mp c46 h.2), Int32.add_zero]]; exact lv_sub hl [2, 3, 4, 0, 5, 6] rfl)
          · refine lv_iinc (v := ((gc_b F t (min i n)) + 1)) (lv' := [(2, .int ((gc_b F t (min i n)) + 1)), (6, .ref (ga (i + 1))), (3, .ref gd), (4, .int 60), (5, .int (nI i)), (0, .ref x), (1, .int t)]) S.1 S.2.1 d_AR_brokenGuardsOf_49 hl (k := 1) rfl (rfl) (by decide) rfl (fun ls hl => ?_)
            refine lv_iinc (v := (nI (i + 1))) (lv' := [(5, .int (nI (i + 1))), (2, .int ((gc_b F t (min i n)) + 1)), (6, .ref (ga (i + 1))), (3, .ref gd), (4, .int 60), (0, .ref x), (1, .int t)]) S.1 S.2.1 d_AR_brokenGuardsOf_52 hl (k := 4) rfl (nI_1 i) (by decide) rfl (fun ls hl => ?_)
            refine lv_goto (tgt := 14) S.1 S.2.1 d_AR_brokenGuardsOf_55 (by decide) ?_
            exact ih (i + 1) _ _ ls (by omega) hw (by rw [show min (i + 1) n = i + 1 by omega, show gc_b F t (i + 1) = ((gc_b F t (min i n)) + 1) from by rw [gc_b, show min i n = i by omega]; rw [if_pos ⟨hcc.1, Classical.not_not.mp (fun q => c46 ((gst_2 hgs hcc.2).mpr q))⟩]]; exact lv_sub hl [1, 3, 4, 0, 5, 6] rfl)
        · rw [if_neg hcc] at hp2
          subst hp2
          refine lv_if_eq (tgt := 52) S.1 S.2.1 d_AR_brokenGuardsOf_38 (by decide) (fun c38 => ?_) (fun c38 => absurd c38 (by decide))
          refine lv_iinc (v := (nI (i + 1))) (lv' := [(5, .int (nI (i + 1))), (6, .ref (ga (i + 1))), (2, .int (gc_b F t (min i n))), (3, .ref gd), (4, .int 60), (0, .ref x), (1, .int t)]) S.1 S.2.1 d_AR_brokenGuardsOf_52 hl (k := 4) rfl (nI_1 i) (by decide) rfl (fun ls hl => ?_)
          refine lv_goto (tgt := 14) S.1 S.2.1 d_AR_brokenGuardsOf_55 (by decide) ?_
          exact ih (i + 1) _ _ ls (by omega) hw (by rw [show min (i + 1) n = i + 1 by omega, show gc_b F t (i + 1) = (gc_b F t (min i n)) from by rw [gc_b, show min i n = i by omega]; rw [if_neg (fun h => hcc ⟨h.1, (gst_0 hgs).mpr (by rw [h.2]; decide)⟩), Int32.add_zero]]; exact lv_sub hl [2, 3, 4, 0, 5, 6] rfl)
      · rw [show fG i = none from by rw [hfg i (by omega), if_neg (by omega)]]
        refine W.eq (g2 := F0 m 25 ls [.null]) rfl ?_
        refine lv_astoreN (lv' := [(6, .null), (2, .int (gc_b F t (min i n))), (3, .ref gd), (4, .int 60), (5, .int (nI i)), (0, .ref x), (1, .int t)]) S.1 S.2.1 d_AR_brokenGuardsOf_25 hl (by decide) rfl (fun ls hl => ?_)
        refine lv_aloadN S.1 S.2.1 d_AR_brokenGuardsOf_27 (lv_at hl 0 rfl) ?_
        refine lv_ifnullN (tgt := 52) S.1 S.2.1 d_AR_brokenGuardsOf_29 (by decide) ?_
        refine lv_iinc (v := (nI (i + 1))) (lv' := [(5, .int (nI (i + 1))), (6, .null), (2, .int (gc_b F t (min i n))), (3, .ref gd), (4, .int 60), (0, .ref x), (1, .int t)]) S.1 S.2.1 d_AR_brokenGuardsOf_52 hl (k := 4) rfl (nI_1 i) (by decide) rfl (fun ls hl => ?_)
        refine lv_goto (tgt := 14) S.1 S.2.1 d_AR_brokenGuardsOf_55 (by decide) ?_
        exact ih (i + 1) _ _ ls (by omega) hw (by rw [show min (i + 1) n = min i n by omega]; exact lv_sub hl [2, 3, 4, 0, 5, 6] rfl)
  exact L 60 0 _ _ ls (by omega) hw (lv_sub hl [3, 2, 1, 0, 4, 5] rfl)
