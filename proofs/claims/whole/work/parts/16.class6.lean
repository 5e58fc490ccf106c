def du_i (F : sF) (t i : Int32) : Nat → Nat → Int32 → Option Nat
  | 0, _, _ => none
  | m + 1, d, n => if F 15 (5 * d) = t then (if n = i then some d else du_i F t i m (d + 1) (n + 1)) else du_i F t i m (d + 1) n
theorem du_fi {F : sF} {t i w : Int32} : ∀ (m d : Nat) (n : Int32), du_f F t i w m d n = match du_i F t i m d n with | none => -1 | some y => F 15 (5 * y + 1 + cN w)
  | 0, _, _ => rfl
  | m + 1, d, n => by
    rw [du_f, du_i]
    by_cases h : F 15 (5 * d) = t
    · rw [if_pos h, if_pos h]
      by_cases h2 : n = i
      · rw [if_pos h2, if_pos h2]
      · rw [if_neg h2, if_neg h2]
        exact du_fi m (d + 1) (n + 1)
    · rw [if_neg h, if_neg h]
      exact du_fi m (d + 1) n
theorem du_lt {F : sF} {t i : Int32} {y : Nat} : ∀ (m d : Nat) (n : Int32), du_i F t i m d n = some y → y < d + m
  | 0, _, _, h => by cases h
  | m + 1, d, n, h => by
    rw [du_i] at h
    by_cases h1 : F 15 (5 * d) = t
    · rw [if_pos h1] at h
      by_cases h2 : n = i
      · rw [if_pos h2] at h; cases h; omega
      · rw [if_neg h2] at h
        have := du_lt m (d + 1) (n + 1) h
        omega
    · rw [if_neg h1] at h
      have := du_lt m (d + 1) n h
      omega
theorem upd_id {f : Nat → Int32} {j : Nat} : upd f j (f j + 0) = f := by
  funext i
  by_cases h : i = j
  · subst h; rw [pk_us, Int32.add_zero]
  · rw [pk_un h]
theorem rs_01 {t k : Int32} {F : sF} : rs_ag t k F = 0 ∨ rs_ag t k F = 1 := by
  unfold rs_ag
  split
  · exact Or.inr rfl
  · exact Or.inl rfl
section CEA
variable {dA : Nat → ClassId} {M M' : mm_M} {I I' : sI} {F F' : sF}
/-- one more code in the log -/
theorem cE_add {cg cd n nc j : Nat} {fC : Nat → Int32} (a3 : n ≤ nc) (a4 : ∀ j, j < n → is_ok 9999 (fC j)) (a5 : ∀ k, 1 ≤ k → k ≤ 9999 → F 8 k = cnt fC (nI k) n) (hj1 : 1 ≤ j) (hj2 : j ≤ 9999) (h1 : M' cg = some (.inr (4, [.ref cd, .int (nI (n + 1))]))) (h2 : M' cd = some (aI (dA 0) 512 (upd fC n (nI j)))) (f8 : F' 8 = upd (F 8) j (F 8 j + 1)) : cE dA M' cg F' (nc + 1) := by
  refine ⟨cd, n + 1, upd fC n (nI j), h1, h2, by omega, fun i hi => ?_, fun k p q => ?_⟩
  · by_cases h : i = n
    · subst h
      rw [pk_us]
      exact ⟨fun q => absurd ((nI_leI (a := j) (b := 0) (by omega) (by decide)).mp q) (by omega), fun q => absurd ((nI_ltI (a := 9999) (by decide) (by omega)).mp q) (by omega)⟩
    · rw [pk_un h]
      exact a4 i (by omega)
  · rw [f8, cnt, pk_us, cnt_up n (Nat.le_refl n)]
    by_cases h : k = j
    · subst h
      rw [pk_us, if_pos rfl, a5 k p q]
    · rw [pk_un h, if_neg (fun e => h ((nI_eq (by omega) (by omega)).mp e.symm)), a5 k p q]
/-- one more dump in the ring -/
theorem cD_add {dr rg nx q nd : Nat} {fD : Nat → Option Nat} {da : Nat → Nat} {t_1 k g b z : Int32} (hnd : I 4 = nI nd) (hND : nd ≤ 50) (hnx : nx < 50) (a4 : ∀ t, t < 50 → fD ((nx + t) % 50) = if t < 50 - cN (I 4) then none else some (da (t - (50 - cN (I 4))))) (a5 : ∀ t, t < cN (I 4) → M (da t) = some (.inr (8, [.int (F 15 (5 * t)), .int (F 15 (5 * t + 1)), .int (F 15 (5 * t + 2)), .int (F 15 (5 * t + 3)), .int (F 15 (5 * t + 4))])) ∧ (F 15 (5 * t + 4) = 0 ∨ F 15 (5 * t + 4) = 1))
    {T : List Nat} (kk : kt M M' T) (hT : 8 ∉ T) (h1 : M' dr = some (.inr (2, [.ref rg, .int (nI ((nx + 1) % 50))]))) (h2 : M' rg = some (aQ (dA 5) 50 (va_up fD nx (some q)))) (h3 : M' q = some (.inr (8, [.int t_1, .int k, .int g, .int b, .int z]))) (hz : z = 0 ∨ z = 1) (h4 : I' 4 = nI (rs_n I + 1)) (f5 : F' 15 = upd (upd (upd (upd (upd (rs_k I F) (5 * rs_n I) t_1) (5 * rs_n I + 1) k) (5 * rs_n I + 2) g) (5 * rs_n I + 3) b) (5 * rs_n I + 4) z) : cD dA M' dr I' F' := by
  have hc4 : cN (I 4) = nd := cN_I hnd (by omega)
  rw [hc4] at a4 a5
  -- the old ones, in the new numbering
  obtain ⟨db, hn0, b4, b5⟩ : ∃ db : Nat → Nat, rs_n I ≤ 49 ∧ (∀ t, t < 49 → fD ((nx + 1 + t) % 50) = if t < 49 - rs_n I then none else some (db (t - (49 - rs_n I)))) ∧ ∀ t, t < rs_n I → M (db t) = some (.inr (8, [.int (rs_k I F (5 * t)), .int (rs_k I F (5 * t + 1)), .int (rs_k I F (5 * t + 2)), .int (rs_k I F (5 * t + 3)), .int (rs_k I F (5 * t + 4))])) ∧ (rs_k I F (5 * t + 4) = 0 ∨ rs_k I F (5 * t + 4) = 1) := by
    by_cases h50 : nd = 50
    · have e4 : I 4 = 50 := by rw [hnd, h50]; rfl
      have en : rs_n I = 49 := by rw [rs_n, if_pos e4]
      have ek : rs_k I F = sh5 (F 15) 245 := by rw [rs_k, if_pos e4]
      rw [en, ek]
      refine ⟨fun t => da (t + 1), Nat.le_refl _, fun t ht => ?_, fun t ht => ?_⟩
      · have h9 := a4 (t + 1) (by omega)
        rw [show nx + 1 + t = nx + (t + 1) by omega, h9, if_neg (by omega), if_neg (by omega)]
        congr 2
        omega
      · have sh : ∀ c, c < 5 → sh5 (F 15) 245 (5 * t + c) = F 15 (5 * (t + 1) + c) := fun c hc => by
          unfold sh5
          rw [if_pos (by omega)]
          congr 1
          omega
        have s0 := sh 0 (by omega)
        rw [Nat.add_zero, Nat.add_zero] at s0
        rw [s0, sh 1 (by omega), sh 2 (by omega), sh 3 (by omega), sh 4 (by omega)]
        exact a5 (t + 1) (by omega)
    · have e4 : ¬ I 4 = 50 := by
        rw [hnd]
        exact fun q => h50 ((nI_eq (b := 50) (by omega) (by decide)).mp q)
      have en : rs_n I = nd := by rw [rs_n, if_neg e4, hc4]
      have ek : rs_k I F = F 15 := by rw [rs_k, if_neg e4]
      rw [en, ek]
      refine ⟨da, by omega, fun t ht => ?_, a5⟩
      have h9 := a4 (t + 1) (by omega)
      rw [show nx + 1 + t = nx + (t + 1) by omega, h9]
      by_cases h : t < 49 - nd
      · rw [if_pos (by omega), if_pos h]
      · rw [if_neg (by omega), if_neg h]
        congr 2
        omega
  have hc9 : cN (I' 4) = rs_n I + 1 := cN_I h4 (by omega)
  generalize rs_n I = n0 at *
  generalize rs_k I F = kp at *
  refine ⟨rg, (nx + 1) % 50, va_up fD nx (some q), va_up db n0 q, h1, Nat.mod_lt _ (by omega), h2, fun t ht => ?_, fun t ht => ?_⟩
  · rw [hc9]
    have e1 : ((nx + 1) % 50 + t) % 50 = (nx + 1 + t) % 50 := by omega
    rw [e1]
    by_cases h49 : t = 49
    · subst h49
      rw [show (nx + 1 + 49) % 50 = nx by omega, va_up_self, if_neg (by omega), show 49 - (50 - (n0 + 1)) = n0 by omega, va_up_self]
    · rw [va_up_ne _ _ (by omega), b4 t (by omega)]
      by_cases h : t < 49 - n0
      · rw [if_pos h, if_pos (by omega)]
      · rw [if_neg h, if_neg (by omega), va_up_ne _ _ (by omega)]
        congr 2
        omega
  · rw [hc9] at ht
    rw [f5]
    by_cases h : t = n0
    · subst h
      rw [va_up_self, pk_us]
      have p0 : ∀ c, c < 4 → upd (upd (upd (upd (upd kp (5 * t) t_1) (5 * t + 1) k) (5 * t + 2) g) (5 * t + 3) b) (5 * t + 4) z (5 * t + c) = upd (upd (upd (upd kp (5 * t) t_1) (5 * t + 1) k) (5 * t + 2) g) (5 * t + 3) b (5 * t + c) := fun c hc => pk_un (by omega)
      rw [p0 1 (by omega), p0 2 (by omega), p0 3 (by omega), pk_us]
      have q0 : upd (upd (upd (upd (upd kp (5 * t) t_1) (5 * t + 1) k) (5 * t + 2) g) (5 * t + 3) b) (5 * t + 4) z (5 * t) = upd (upd (upd (upd kp (5 * t) t_1) (5 * t + 1) k) (5 * t + 2) g) (5 * t + 3) b (5 * t) := p0 0 (by omega)
      rw [q0]
      rw [pk_un (show 5 * t ≠ 5 * t + 3 by omega), pk_un (show 5 * t ≠ 5 * t + 2 by omega), pk_un (show 5 * t ≠ 5 * t + 1 by omega), pk_us]
      rw [pk_un (show 5 * t + 1 ≠ 5 * t + 3 by omega), pk_un (show 5 * t + 1 ≠ 5 * t + 2 by omega), pk_us]
      rw [pk_un (show 5 * t + 2 ≠ 5 * t + 3 by omega), pk_us]
      exact ⟨h3, hz⟩
    · rw [va_up_ne _ _ h]
      have old : ∀ c, c < 5 → upd (upd (upd (upd (upd kp (5 * n0) t_1) (5 * n0 + 1) k) (5 * n0 + 2) g) (5 * n0 + 3) b) (5 * n0 + 4) z (5 * t + c) = kp (5 * t + c) := fun c hc => by
        rw [pk_un (by omega), pk_un (by omega), pk_un (by omega), pk_un (by omega), pk_un (by omega)]
      have o0 : upd (upd (upd (upd (upd kp (5 * n0) t_1) (5 * n0 + 1) k) (5 * n0 + 2) g) (5 * n0 + 3) b) (5 * n0 + 4) z (5 * t) = kp (5 * t) := old 0 (by omega)
      rw [o0, old 1 (by omega), old 2 (by omega), old 3 (by omega), old 4 (by omega)]
      have h9 := b5 t (by omega)
      exact ⟨kk _ _ h9.1 hT, h9.2⟩
end CEA

theorem d_DR_keep_0 : decode b_DR_keep 0 = .ok (.aload_n 0, 1) := by decide +kernel
theorem d_DR_keep_1 : decode b_DR_keep 1 = .ok (.getfield 11, 3) := by decide +kernel
theorem d_DR_keep_4 : decode b_DR_keep 4 = .ok (.aload_n 0, 1) := by decide +kernel
theorem d_DR_keep_5 : decode b_DR_keep 5 = .ok (.getfield 17, 3) := by decide +kernel
theorem d_DR_keep_8 : decode b_DR_keep 8 = .ok (.aload_n 1, 1) := by decide +kernel
theorem d_DR_keep_9 : decode b_DR_keep 9 = .ok (.aastore, 1) := by decide +kernel
theorem d_DR_keep_10 : decode b_DR_keep 10 = .ok (.aload_n 0, 1) := by decide +kernel
theorem d_DR_keep_11 : decode b_DR_keep 11 = .ok (.aload_n 0, 1) := by decide +kernel
theorem d_DR_keep_12 : decode b_DR_keep 12 = .ok (.getfield 17, 3) := by decide +kernel
theorem d_DR_keep_15 : decode b_DR_keep 15 = .ok (.iconst 1, 1) := by decide +kernel
theorem d_DR_keep_16 : decode b_DR_keep 16 = .ok (.iadd, 1) := by decide +kernel
theorem d_DR_keep_17 : decode b_DR_keep 17 = .ok (.bipush 50, 2) := by decide +kernel
theorem d_DR_keep_19 : decode b_DR_keep 19 = .ok (.irem, 1) := by decide +kernel
theorem d_DR_keep_20 : decode b_DR_keep 20 = .ok (.putfield 17, 3) := by decide +kernel
theorem d_DR_keep_23 : decode b_DR_keep 23 = .ok (.return_, 1) := by decide +kernel
set_option maxHeartbeats 4000000 in
set_option maxRecDepth 100000 in
theorem c_DR_keep (l : Launch) (D : va_G) (dA : Nat → ClassId) (M : mm_M) (dr rg nx q : Nat) (fD : Nat → Option Nat) (a0 a1 a2 a3 a4 : Int32) (hnx : nx < 50) (hdr : M dr = some (.inr (2, [.ref rg, .int (nI nx)]))) (hrg : M rg = some (aQ (dA 5) 50 fD)) (hq : M q = some (.inr (8, [.int a0, .int a1, .int a2, .int a3, .int a4]))) : mm_Cv l y_DR_keep w_DR_keep ({ frames := 0, cells := 0, slots := 0, locals := 0 }) 0 0 D vC (tyL dA) [.ref dr, .ref q] M (fun M' => M' = mm_up (mm_up M rg (aQ (dA 5) 50 (va_up fD nx (some q)))) dr (.inr (2, [.ref rg, .int (nI ((nx + 1) % 50))]))) := by
  intro sz
  refine mm_start (by decide) (Nat.le_of_ble_eq_true rfl) ?_
  intro p e s m below meth c A Q ls hA hQ S hr hlocks hin hK hw hl
  have hl : lv_has ls 2 [(0, .ref dr), (1, .ref q)] := hl
  refine lv_aload_n S.1 S.2.1 d_DR_keep_0 rfl (lv_at hl 0 rfl) ?_
  refine mm_get (C := R_DR) (T := T_DR) (N := 2) S hK.1 hw hdr rfl in_DR 0 (by decide) gw_57 rfl rfl d_DR_keep_1 ?_
  refine lv_aload_n S.1 S.2.1 d_DR_keep_4 rfl (lv_at hl 0 rfl) ?_
  refine mm_get (C := R_DR) (T := T_DR) (N := 2) S hK.1 hw hdr rfl in_DR 1 (by decide) gw_58 rfl rfl d_DR_keep_5 ?_
  refine lv_aload_n S.1 S.2.1 d_DR_keep_8 rfl (lv_at hl 1 rfl) ?_
  refine mn_astq (j := nx) (r := (R_DU, T_DU, 5)) S hK.1 hw 5 8 hrg rfl hq rfl (rfl) (by omega) (by decide) d_DR_keep_9 (fun H locs hw => ?_)
  obtain ⟨M1, eM1⟩ : ∃ zM : mm_M, zM = mm_up M rg (.inl (dA 5, 50, .inr (.inr (.inr (.inr (va_up (fD) (nx) (some q))))))) := ⟨_, rfl⟩
  have hw : mm_w D vC _ _ (mm_up M rg (.inl (dA 5, 50, .inr (.inr (.inr (.inr (va_up (fD) (nx) (some q)))))))) H _ := hw
  rw [← eM1] at hw
  have hdr_1 : M1 dr = some (.inr (2, [.ref rg, .int (nI nx)])) := by rw [eM1]; exact mm_uk hrg hdr (by simp)
  have hq_1 : M1 q = some (.inr (8, [.int a0, .int a1, .int a2, .int a3, .int a4])) := by rw [eM1]; exact mm_uk hrg hq (by simp)
  have hrg_1 : M1 rg = some (.inl (dA 5, 50, .inr (.inr (.inr (.inr (va_up (fD) (nx) (some q))))))) := by rw [eM1]; exact mm_us
  refine lv_aload_n S.1 S.2.1 d_DR_keep_10 rfl (lv_at hl 0 rfl) ?_
  refine lv_aload_n S.1 S.2.1 d_DR_keep_11 rfl (lv_at hl 0 rfl) ?_
  refine mm_get (C := R_DR) (T := T_DR) (N := 2) S hK.1 hw hdr_1 rfl in_DR 1 (by decide) gw_58 rfl rfl d_DR_keep_12 ?_
  refine lv_iconst (v := 1) S.1 S.2.1 d_DR_keep_15 (by decide) ?_
  refine lv_iadd S.1 S.2.1 d_DR_keep_16 ?_
  refine lv_bipush (v := 50) S.1 S.2.1 d_DR_keep_17 (by decide) ?_
  refine lv_irem S.1 S.2.1 d_DR_keep_19 (by decide) ?_
  refine W.eq (g2 := F0 m 20 ls (.int (nI ((nx + 1) % 50)) :: [.ref dr])) (by rw [show (((nI nx) + 1) - ((nI nx) + 1) / 50 * 50) = (nI ((nx + 1) % 50)) from by rw [nI_1, show (50 : Int32) = nI 50 from rfl, pk_rem (by omega) (by decide) (by decide)]]) ?_
  refine mm_put (C := R_DR) (T := T_DR) (N := 2) (ty := .int) (v := .int (nI ((nx + 1) % 50))) S hK.1 hw hdr_1 rfl in_DR t_DR k_DR n_DR 1 (by decide) gw_58 rfl rfl (by decide +kernel) (rfl) (rfl) (Nat.le_of_ble_eq_true rfl) d_DR_keep_20 (fun H locs hw => ?_)
  obtain ⟨M2, eM2⟩ : ∃ zM : mm_M, zM = mm_up M1 dr (.inr (2, [.ref rg, .int (nI ((nx + 1) % 50))])) := ⟨_, rfl⟩
  have hw : mm_w D vC _ _ (mm_up M1 dr (.inr (2, [.ref rg, .int (nI ((nx + 1) % 50))]))) H _ := hw
  rw [← eM2] at hw
  have hrg_2 : M2 rg = some (.inl (dA 5, 50, .inr (.inr (.inr (.inr (va_up (fD) (nx) (some q))))))) := by rw [eM2]; exact mm_uk hdr_1 hrg_1 (by simp)
  have hq_2 : M2 q = some (.inr (8, [.int a0, .int a1, .int a2, .int a3, .int a4])) := by rw [eM2]; exact mm_uk hdr_1 hq_1 (by simp)
  have hdr_2 : M2 dr = some (.inr (2, [.ref rg, .int (nI ((nx + 1) % 50))])) := by rw [eM2]; exact mm_us
  exact mm_retv S.1 S.2.1 hr hlocks hA hQ hw (by rw [eM2, eM1]) (Nat.le_of_ble_eq_true rfl) (Nat.le_of_ble_eq_true rfl) d_DR_keep_23
theorem d_DR_find_0 : decode b_DR_find 0 = .ok (.iconst 0, 1) := by decide +kernel
theorem d_DR_find_1 : decode b_DR_find 1 = .ok (.istore_n 3, 1) := by decide +kernel
theorem d_DR_find_2 : decode b_DR_find 2 = .ok (.iconst 0, 1) := by decide +kernel
theorem d_DR_find_3 : decode b_DR_find 3 = .ok (.istore 4, 2) := by decide +kernel
theorem d_DR_find_5 : decode b_DR_find 5 = .ok (.iload 4, 2) := by decide +kernel
theorem d_DR_find_7 : decode b_DR_find 7 = .ok (.bipush 50, 2) := by decide +kernel
theorem d_DR_find_9 : decode b_DR_find 9 = .ok (.if_icmp .ge 51, 3) := by decide +kernel
theorem d_DR_find_12 : decode b_DR_find 12 = .ok (.aload_n 0, 1) := by decide +kernel
theorem d_DR_find_13 : decode b_DR_find 13 = .ok (.getfield 11, 3) := by decide +kernel
theorem d_DR_find_16 : decode b_DR_find 16 = .ok (.aload_n 0, 1) := by decide +kernel
theorem d_DR_find_17 : decode b_DR_find 17 = .ok (.getfield 17, 3) := by decide +kernel
theorem d_DR_find_20 : decode b_DR_find 20 = .ok (.iload 4, 2) := by decide +kernel
theorem d_DR_find_22 : decode b_DR_find 22 = .ok (.iadd, 1) := by decide +kernel
theorem d_DR_find_23 : decode b_DR_find 23 = .ok (.bipush 50, 2) := by decide +kernel
theorem d_DR_find_25 : decode b_DR_find 25 = .ok (.irem, 1) := by decide +kernel
theorem d_DR_find_26 : decode b_DR_find 26 = .ok (.aaload, 1) := by decide +kernel
theorem d_DR_find_27 : decode b_DR_find 27 = .ok (.astore 5, 2) := by decide +kernel
theorem d_DR_find_29 : decode b_DR_find 29 = .ok (.aload 5, 2) := by decide +kernel
theorem d_DR_find_31 : decode b_DR_find 31 = .ok (.ifnull 23, 3) := by decide +kernel
theorem d_DR_find_34 : decode b_DR_find 34 = .ok (.aload 5, 2) := by decide +kernel
theorem d_DR_find_36 : decode b_DR_find 36 = .ok (.getfield 21, 3) := by decide +kernel
theorem d_DR_find_39 : decode b_DR_find 39 = .ok (.iload_n 1, 1) := by decide +kernel
theorem d_DR_find_40 : decode b_DR_find 40 = .ok (.if_icmp .ne 14, 3) := by decide +kernel
theorem d_DR_find_43 : decode b_DR_find 43 = .ok (.iload_n 3, 1) := by decide +kernel
theorem d_DR_find_44 : decode b_DR_find 44 = .ok (.iload_n 2, 1) := by decide +kernel
theorem d_DR_find_45 : decode b_DR_find 45 = .ok (.if_icmp .ne 6, 3) := by decide +kernel
theorem d_DR_find_48 : decode b_DR_find 48 = .ok (.aload 5, 2) := by decide +kernel
theorem d_DR_find_50 : decode b_DR_find 50 = .ok (.areturn, 1) := by decide +kernel
theorem d_DR_find_51 : decode b_DR_find 51 = .ok (.iinc 3 1, 3) := by decide +kernel
theorem d_DR_find_54 : decode b_DR_find 54 = .ok (.iinc 4 1, 3) := by decide +kernel
theorem d_DR_find_57 : decode b_DR_find 57 = .ok (.goto (-52), 3) := by decide +kernel
theorem d_DR_find_60 : decode b_DR_find 60 = .ok (.aconst_null, 1) := by decide +kernel
theorem d_DR_find_61 : decode b_DR_find 61 = .ok (.areturn, 1) := by decide +kernel
set_option maxHeartbeats 4000000 in
set_option maxRecDepth 100000 in
theorem c_DR_find (l : Launch) (D : va_G) (dA : Nat → ClassId) (M : mm_M) (dr rg nx nd : Nat) (fD : Nat → Option Nat) (da : Nat → Nat) (F : sF) (t i : Int32) (hnx : nx < 50) (hnd : nd ≤ 50) (hdr : M dr = some (.inr (2, [.ref rg, .int (nI nx)]))) (hrg : M rg = some (aQ (dA 5) 50 fD)) (hfd : ∀ t, t < 50 → fD ((nx + t) % 50) = if t < 50 - nd then none else some (da (t - (50 - nd)))) (hda : ∀ t, t < nd → M (da t) = some (.inr (8, [.int (F 15 (5 * t)), .int (F 15 (5 * t + 1)), .int (F 15 (5 * t + 2)), .int (F 15 (5 * t + 3)), .int (F 15 (5 * t + 4))])) ∧ (F 15 (5 * t + 4) = 0 ∨ F 15 (5 * t + 4) = 1)) : mm_Cq l y_DR_find w_DR_find ({ frames := 0, cells := 0, slots := 0, locals := 0 }) 0 0 D vC (tyL dA) [.ref dr, .int t, .int i] M (fun r M' => M' = M ∧ r = (du_i F t i nd 0 0).map da) := by
  intro sz
  refine mm_start (by decide) (Nat.le_of_ble_eq_true rfl) ?_
  intro p e s m below meth c A Q ls hA hQ S hr hlocks hin hK hw hl
  have hl : lv_has ls 6 [(0, .ref dr), (1, .int t), (2, .int i)] := hl
  refine lv_iconst (v := 0) S.1 S.2.1 d_DR_find_0 (by decide) ?_
  refine lv_istore_n (lv' := [(3, .int 0), (0, .ref dr), (1, .int t), (2, .int i)]) S.1 S.2.1 d_DR_find_1 rfl hl (by decide) rfl (fun ls hl => ?_)
  refine lv_iconst (v := 0) S.1 S.2.1 d_DR_find_2 (by decide) ?_
  refine lv_istore (lv' := [(4, .int 0), (3, .int 0), (0, .ref dr), (1, .int t), (2, .int i)]) S.1 S.2.1 d_DR_find_3 hl (by decide) rfl (fun ls hl => ?_)
  have L : ∀ (mm k : Nat) (n : Int32) (ls : Array Slot), k + mm = 50 → du_i F t i nd 0 0 = du_i F t i (nd - (k - (50 - nd))) (k - (50 - nd)) n → lv_has ls 6 [(3, .int n), (4, .int (nI k)), (0, .ref dr), (1, .int t), (2, .int i)] → W p l e ({ frames := 0, cells := 0, slots := 0, locals := 0 }) s m [.ref dr, .int t, .int i].toArray below meth c s.heap [] 0 0 Q (F0 m 5 ls []) := by
    intro mm
    induction mm with
    | zero =>
      intro k n ls hk hs hl
      refine lv_iload S.1 S.2.1 d_DR_find_5 (lv_at hl 1 rfl) ?_
      refine lv_bipush (v := 50) S.1 S.2.1 d_DR_find_7 (by decide) ?_
      refine lv_icmp_ge (tgt := 60) S.1 S.2.1 d_DR_find_9 (by decide) (fun c9 => ?_) (fun c9 => absurd (nI_le (a := 50) (by omega) (by omega)) c9)
      refine lv_null S.1 S.2.1 d_DR_find_60 ?_
      exact mm_retq (v := none) S.1 S.2.1 hr hlocks hA hQ hw (⟨rfl, by rw [hs, show nd - (k - (50 - nd)) = 0 by omega]; rfl⟩) (Nat.le_of_ble_eq_true rfl) (Nat.le_of_ble_eq_true rfl) d_DR_find_61
    | succ mm ih =>
      intro k n ls hk hs hl
      refine lv_iload S.1 S.2.1 d_DR_find_5 (lv_at hl 1 rfl) ?_
      refine lv_bipush (v := 50) S.1 S.2.1 d_DR_find_7 (by decide) ?_
      refine lv_icmp_ge (tgt := 60) S.1 S.2.1 d_DR_find_9 (by decide) (fun c9 => absurd c9 (nI_ge (b := 50) (by omega) (by decide))) (fun c9 => ?_)
      refine lv_aload_n S.1 S.2.1 d_DR_find_12 rfl (lv_at hl 2 rfl) ?_
      refine mm_get (C := R_DR) (T := T_DR) (N := 2) S hK.1 hw hdr rfl in_DR 0 (by decide) gw_57 rfl rfl d_DR_find_13 ?_
      refine lv_aload_n S.1 S.2.1 d_DR_find_16 rfl (lv_at hl 2 rfl) ?_
      refine mm_get (C := R_DR) (T := T_DR) (N := 2) S hK.1 hw hdr rfl in_DR 1 (by decide) gw_58 rfl rfl d_DR_find_17 ?_
      refine lv_iload S.1 S.2.1 d_DR_find_20 (lv_at hl 1 rfl) ?_
      refine lv_iadd S.1 S.2.1 d_DR_find_22 ?_
      refine lv_bipush (v := 50) S.1 S.2.1 d_DR_find_23 (by decide) ?_
      refine lv_irem S.1 S.2.1 d_DR_find_25 (by decide) ?_
      refine W.eq (g2 := F0 m 26 ls (.int (nI ((nx + k) % 50)) :: [.ref rg])) (by rw [show (((nI nx) + (nI k)) - ((nI nx) + (nI k)) / 50 * 50) = (nI ((nx + k) % 50)) from by rw [nI_add, show (50 : Int32) = nI 50 from rfl, pk_rem (by omega) (by decide) (by decide)]]) ?_
      refine mn_aldq (j := (nx + k) % 50) S hK.1 hw 5 hrg rfl (rfl) (Nat.mod_lt _ (by decide)) (by decide) d_DR_find_26 ?_
      have hfk := hfd k (by omega)
      rcases Nat.lt_or_ge k (50 - nd) with hk9 | hk9
      · rw [hfk, if_pos hk9]
        refine W.eq (g2 := F0 m 27 ls [.null]) rfl ?_
        refine lv_astoreN (lv' := [(5, .null), (3, .int n), (4, .int (nI k)), (0, .ref dr), (1, .int t), (2, .int i)]) S.1 S.2.1 d_DR_find_27 hl (by decide) rfl (fun ls hl => ?_)
        refine lv_aloadN S.1 S.2.1 d_DR_find_29 (lv_at hl 0 rfl) ?_
        refine lv_ifnullN (tgt := 54) S.1 S.2.1 d_DR_find_31 (by decide) ?_
        refine lv_iinc (v := (nI (k + 1))) (lv' := [(4, .int (nI (k + 1))), (5, .null), (3, .int n), (0, .ref dr), (1, .int t), (2, .int i)]) S.1 S.2.1 d_DR_find_54 hl (k := 2) rfl (nI_1 k) (by decide) rfl (fun ls hl => ?_)
        refine lv_goto (tgt := 5) S.1 S.2.1 d_DR_find_57 (by decide) ?_
        exact ih (k + 1) (n) ls (by omega) (hs.trans (by rw [show k + 1 - (50 - nd) = k - (50 - nd) by omega])) (lv_sub hl [2, 0, 3, 4, 5] rfl)
      · rw [hfk, if_neg (by omega)]
        refine W.eq (g2 := F0 m 27 ls [.ref (da (k - (50 - nd)))]) rfl ?_
        have hdk := (hda (k - (50 - nd)) (by omega)).1
        refine lv_astore (lv' := [(5, .ref (da (k - (50 - nd)))), (3, .int n), (4, .int (nI k)), (0, .ref dr), (1, .int t), (2, .int i)]) S.1 S.2.1 d_DR_find_27 hl (by decide) rfl (fun ls hl => ?_)
        refine lv_aload S.1 S.2.1 d_DR_find_29 (lv_at hl 0 rfl) ?_
        refine lv_ifnull S.1 S.2.1 d_DR_find_31 ?_
        refine lv_aload S.1 S.2.1 d_DR_find_34 (lv_at hl 0 rfl) ?_
        refine mm_get (C := R_DU) (T := T_DU) (N := 5) S hK.1 hw hdk rfl in_DU 0 (by decide) gw_265 rfl rfl d_DR_find_36 ?_
        refine lv_iload_n S.1 S.2.1 d_DR_find_39 rfl (lv_at hl 4 rfl) ?_
        refine lv_icmp_ne (tgt := 54) S.1 S.2.1 d_DR_find_40 (by decide) (fun c40 => ?_) (fun c40 => ?_)
        · refine lv_iinc (v := (nI (k + 1))) (lv' := [(4, .int (nI (k + 1))), (5, .ref (da (k - (50 - nd)))), (3, .int n), (0, .ref dr), (1, .int t), (2, .int i)]) S.1 S.2.1 d_DR_find_54 hl (k := 2) rfl (nI_1 k) (by decide) rfl (fun ls hl => ?_)
          refine lv_goto (tgt := 5) S.1 S.2.1 d_DR_find_57 (by decide) ?_
          exact ih (k + 1) (n) ls (by omega) (hs.trans (by rw [show nd - (k - (50 - nd)) = (nd - (k + 1 - (50 - nd))) + 1 by omega, du_i, if_neg c40, show k - (50 - nd) + 1 = k + 1 - (50 - nd) by omega])) (lv_sub hl [2, 0, 3, 4, 5] rfl)
        · refine lv_iload_n S.1 S.2.1 d_DR_find_43 rfl (lv_at hl 1 rfl) ?_
          refine lv_iload_n S.1 S.2.1 d_DR_find_44 rfl (lv_at hl 5 rfl) ?_
          refine lv_icmp_ne (tgt := 51) S.1 S.2.1 d_DR_find_45 (by decide) (fun c45 => ?_) (fun c45 => ?_)
          · refine lv_iinc (v := (n + 1)) (lv' := [(3, .int (n + 1)), (5, .ref (da (k - (50 - nd)))), (4, .int (nI k)), (0, .ref dr), (1, .int t), (2, .int i)]) S.1 S.2.1 d_DR_find_51 hl (k := 1) rfl (rfl) (by decide) rfl (fun ls hl => ?_)
            refine lv_iinc (v := (nI (k + 1))) (lv' := [(4, .int (nI (k + 1))), (3, .int (n + 1)), (5, .ref (da (k - (50 - nd)))), (0, .ref dr), (1, .int t), (2, .int i)]) S.1 S.2.1 d_DR_find_54 hl (k := 2) rfl (nI_1 k) (by decide) rfl (fun ls hl => ?_)
            refine lv_goto (tgt := 5) S.1 S.2.1 d_DR_find_57 (by decide) ?_
            exact ih (k + 1) ((n + 1)) ls (by omega) (hs.trans (by rw [show nd - (k - (50 - nd)) = (nd - (k + 1 - (50 - nd))) + 1 by omega, du_i, if_pos c40, if_neg c45, show k - (50 - nd) + 1 = k + 1 - (50 - nd) by omega])) (lv_sub hl [1, 0, 3, 4, 5] rfl)
          · refine lv_aload S.1 S.2.1 d_DR_find_48 (lv_at hl 0 rfl) ?_
            exact mm_retq (v := some (da (k - (50 - nd)))) S.1 S.2.1 hr hlocks hA hQ hw (⟨rfl, by rw [hs, show nd - (k - (50 - nd)) = (nd - (k + 1 - (50 - nd))) + 1 by omega, du_i, if_pos c40, if_pos c45]; rfl⟩) (Nat.le_of_ble_eq_true rfl) (Nat.le_of_ble_eq_true rfl) d_DR_find_50
  exact L 50 0 0 ls (by omega) (by rw [show 0 - (50 - nd) = 0 by omega, Nat.sub_zero]) (lv_sub hl [1, 0, 2, 3, 4] rfl)
theorem d_AR_dump_0 : decode b_AR_dump 0 = .ok (.aload_n 0, 1) := by decide +kernel
theorem d_AR_dump_1 : decode b_AR_dump 1 = .ok (.getfield 39, 3) := by decide +kernel
theorem d_AR_dump_4 : decode b_AR_dump 4 = .ok (.iload_n 1, 1) := by decide +kernel
theorem d_AR_dump_5 : decode b_AR_dump 5 = .ok (.iload_n 2, 1) := by decide +kernel
theorem d_AR_dump_6 : decode b_AR_dump 6 = .ok (.invokevirtual 159, 3) := by decide +kernel
theorem d_AR_dump_9 : decode b_AR_dump 9 = .ok (.astore 4, 2) := by decide +kernel
theorem d_AR_dump_11 : decode b_AR_dump 11 = .ok (.aload 4, 2) := by decide +kernel
theorem d_AR_dump_13 : decode b_AR_dump 13 = .ok (.ifnonnull 5, 3) := by decide +kernel
theorem d_AR_dump_16 : decode b_AR_dump 16 = .ok (.iconst (-1), 1) := by decide +kernel
theorem d_AR_dump_17 : decode b_AR_dump 17 = .ok (.ireturn, 1) := by decide +kernel
theorem d_AR_dump_18 : decode b_AR_dump 18 = .ok (.iload_n 3, 1) := by decide +kernel
theorem d_AR_dump_19 : decode b_AR_dump 19 = .ok (.tableswitch 61 0 3 #[29, 35, 41, 47], 29) := by decide +kernel
theorem d_AR_dump_48 : decode b_AR_dump 48 = .ok (.aload 4, 2) := by decide +kernel
theorem d_AR_dump_50 : decode b_AR_dump 50 = .ok (.getfield 163, 3) := by decide +kernel
theorem d_AR_dump_53 : decode b_AR_dump 53 = .ok (.ireturn, 1) := by decide +kernel
theorem d_AR_dump_54 : decode b_AR_dump 54 = .ok (.aload 4, 2) := by decide +kernel
theorem d_AR_dump_56 : decode b_AR_dump 56 = .ok (.getfield 164, 3) := by decide +kernel
theorem d_AR_dump_59 : decode b_AR_dump 59 = .ok (.ireturn, 1) := by decide +kernel
theorem d_AR_dump_60 : decode b_AR_dump 60 = .ok (.aload 4, 2) := by decide +kernel
theorem d_AR_dump_62 : decode b_AR_dump 62 = .ok (.getfield 166, 3) := by decide +kernel
theorem d_AR_dump_65 : decode b_AR_dump 65 = .ok (.ireturn, 1) := by decide +kernel
theorem d_AR_dump_66 : decode b_AR_dump 66 = .ok (.aload 4, 2) := by decide +kernel
theorem d_AR_dump_68 : decode b_AR_dump 68 = .ok (.getfield 169, 3) := by decide +kernel
theorem d_AR_dump_71 : decode b_AR_dump 71 = .ok (.ifCond .eq 7, 3) := by decide +kernel
theorem d_AR_dump_74 : decode b_AR_dump 74 = .ok (.iconst 1, 1) := by decide +kernel
theorem d_AR_dump_75 : decode b_AR_dump 75 = .ok (.goto 4, 3) := by decide +kernel
theorem d_AR_dump_78 : decode b_AR_dump 78 = .ok (.iconst 0, 1) := by decide +kernel
theorem d_AR_dump_79 : decode b_AR_dump 79 = .ok (.ireturn, 1) := by decide +kernel
theorem d_AR_dump_80 : decode b_AR_dump 80 = .ok (.iconst (-1), 1) := by decide +kernel
theorem d_AR_dump_81 : decode b_AR_dump 81 = .ok (.ireturn, 1) := by decide +kernel
set_option maxHeartbeats 4000000 in
set_option maxRecDepth 100000 in
theorem c_AR_dump (l : Launch) (D : va_G) (dA : Nat → ClassId) (M : mm_M) (x nc : Nat) (I : sI) (F : sF) (st : sT) (hC : cP dA M x I F st nc) (hwf : wf I F st) (t i v : Int32) : mm_Ci l y_AR_dump w_AR_dump ({ frames := 1, cells := 0, slots := 0, locals := 25 }) 0 0 D vC (tyL dA) [.ref x, .int t, .int i, .int v] M (cs_post dA x nc (sp_dump t i v I F st)) := by
  intro sz
  refine mm_start (by decide) (Nat.le_of_ble_eq_true rfl) ?_
  intro p e s m below meth c A Q ls hA hQ S hr hlocks hin hK hw hl
  have hl : lv_has ls 5 [(0, .ref x), (1, .int t), (2, .int i), (3, .int v)] := hl
  obtain ⟨lv, sr, gd, rs, ss, dr, cs, cg, hX, hL, hG, hS, hR, hT, hD, hCs, hE⟩ := id hC
  have hX : M x = some (.inr (0, [.ref lv, .int (I 1), .int (I 2), .ref sr, .ref gd, .int (I 3), .ref rs, .ref ss, .ref dr, .ref cs, .ref cg])) := hX
  obtain ⟨rg, nx, fD, da, hdr, hnx, hrg, hfd, hda⟩ := id hD
  obtain ⟨nd, hnd, hND⟩ := hwf.2.2.2.1
  have hcd : cN (I 4) = nd := cN_I hnd (by omega)
  rw [hcd] at hfd hda
  refine lv_aload_n S.1 S.2.1 d_AR_dump_0 rfl (lv_at hl 0 rfl) ?_
  refine mm_get (C := R_AR) (T := T_AR) (N := 11) S hK.1 hw hX rfl in_AR 8 (by decide) gw_96 rfl rfl d_AR_dump_1 ?_
  refine lv_iload_n S.1 S.2.1 d_AR_dump_4 rfl (lv_at hl 1 rfl) ?_
  refine lv_iload_n S.1 S.2.1 d_AR_dump_5 rfl (lv_at hl 2 rfl) ?_
  refine mm_callq hw (mm_runV (a := dr) (As := [.int t, .int i]) (rest := []) S hK hw (c_DR_find l D dA _ dr rg nx nd fD da F t i hnx hND hdr hrg hfd hda _) bv_DR_find gw_330 hdr rfl (⟨rfl, rfl, by decide, by decide, by decide, by decide⟩) hl.1 rfl rfl (Nat.le_of_ble_eq_true rfl) d_AR_dump_6) (fun r1 M2 H locs hp hw => ?_)
  rw [hp.1] at hw
  have hp2 := hp.2
  have hsp : sp_dump t i v I F st = (if v < 0 ∨ ¬ v ≤ 3 then -1 else match du_i F t i nd 0 0 with | none => -1 | some y => F 15 (5 * y + 1 + cN v), upd I 0 0, F, st) := by rw [sp_dump, hcd, du_fi]
  cases hdu : du_i F t i nd 0 0 with
  | none =>
    rw [hdu] at hp2 hsp
    subst hp2
    refine W.eq (g2 := F0 m 9 ls [.null]) rfl ?_
    refine lv_astoreN (lv' := [(4, .null), (0, .ref x), (1, .int t), (2, .int i), (3, .int v)]) S.1 S.2.1 d_AR_dump_9 hl (by decide) rfl (fun ls hl => ?_)
    refine lv_aloadN S.1 S.2.1 d_AR_dump_11 (lv_at hl 0 rfl) ?_
    refine lv_ifnonnullN S.1 S.2.1 d_AR_dump_13 ?_
    refine lv_iconst (v := (-1)) S.1 S.2.1 d_AR_dump_16 (by decide) ?_
    exact mm_reti S.1 S.2.1 hr hlocks hA hQ hw (cs_same hC (hsp.trans (by simp only [ite_self]))) (Nat.le_of_ble_eq_true rfl) (Nat.le_of_ble_eq_true rfl) d_AR_dump_17
  | some y =>
    rw [hdu] at hp2 hsp
    subst hp2
    refine W.eq (g2 := F0 m 9 ls [.ref (da y)]) rfl ?_
    have hyn : y < nd := by have := du_lt _ _ _ hdu; omega
    obtain ⟨hdy, hy01⟩ := hda y hyn
    refine lv_astore (lv' := [(4, .ref (da y)), (0, .ref x), (1, .int t), (2, .int i), (3, .int v)]) S.1 S.2.1 d_AR_dump_9 hl (by decide) rfl (fun ls hl => ?_)
    refine lv_aload S.1 S.2.1 d_AR_dump_11 (lv_at hl 0 rfl) ?_
    refine lv_ifnonnull (tgt := 18) S.1 S.2.1 d_AR_dump_13 (by decide) ?_
    refine lv_iload_n S.1 S.2.1 d_AR_dump_18 rfl (lv_at hl 4 rfl) ?_
    by_cases k19_0 : v = 0
    · refine lv_tableIn (off := 29) (tgt := 48) S.1 S.2.1 d_AR_dump_19 (by rw [k19_0]; decide) (by rw [k19_0]; decide) (by rw [k19_0]; rfl) (by decide) ?_
      refine lv_aload S.1 S.2.1 d_AR_dump_48 (lv_at hl 0 rfl) ?_
      refine mm_get (C := R_DU) (T := T_DU) (N := 5) S hK.1 hw hdy rfl in_DU 1 (by decide) gw_267 rfl rfl d_AR_dump_50 ?_
      exact mm_reti S.1 S.2.1 hr hlocks hA hQ hw (cs_same hC (hsp.trans (by rw [k19_0, if_neg (by decide)]; rfl))) (Nat.le_of_ble_eq_true rfl) (Nat.le_of_ble_eq_true rfl) d_AR_dump_53
    by_cases k19_1 : v = 1
    · refine lv_tableIn (off := 35) (tgt := 54) S.1 S.2.1 d_AR_dump_19 (by rw [k19_1]; decide) (by rw [k19_1]; decide) (by rw [k19_1]; rfl) (by decide) ?_
      refine lv_aload S.1 S.2.1 d_AR_dump_54 (lv_at hl 0 rfl) ?_
      refine mm_get (C := R_DU) (T := T_DU) (N := 5) S hK.1 hw hdy rfl in_DU 2 (by decide) gw_269 rfl rfl d_AR_dump_56 ?_
      exact mm_reti S.1 S.2.1 hr hlocks hA hQ hw (cs_same hC (hsp.trans (by rw [k19_1, if_neg (by decide)]; rfl))) (Nat.le_of_ble_eq_true rfl) (Nat.le_of_ble_eq_true rfl) d_AR_dump_59
    by_cases k19_2 : v = 2
    · refine lv_tableIn (off := 41) (tgt := 60) S.1 S.2.1 d_AR_dump_19 (by rw [k19_2]; decide) (by rw [k19_2]; decide) (by rw [k19_2]; rfl) (by decide) ?_
      refine lv_aload S.1 S.2.1 d_AR_dump_60 (lv_at hl 0 rfl) ?_
      refine mm_get (C := R_DU) (T := T_DU) (N := 5) S hK.1 hw hdy rfl in_DU 3 (by decide) gw_271 rfl rfl d_AR_dump_62 ?_
      exact mm_reti S.1 S.2.1 hr hlocks hA hQ hw (cs_same hC (hsp.trans (by rw [k19_2, if_neg (by decide)]; rfl))) (Nat.le_of_ble_eq_true rfl) (Nat.le_of_ble_eq_true rfl) d_AR_dump_65
    by_cases k19_3 : v = 3
    · refine lv_tableIn (off := 47) (tgt := 66) S.1 S.2.1 d_AR_dump_19 (by rw [k19_3]; decide) (by rw [k19_3]; decide) (by rw [k19_3]; rfl) (by decide) ?_
      refine lv_aload S.1 S.2.1 d_AR_dump_66 (lv_at hl 0 rfl) ?_
      refine mm_get (C := R_DU) (T := T_DU) (N := 5) S hK.1 hw hdy rfl in_DU 4 (by decide) gw_273 rfl rfl d_AR_dump_68 ?_
      refine lv_if_eq (tgt := 78) S.1 S.2.1 d_AR_dump_71 (by decide) (fun c71 => ?_) (fun c71 => ?_)
      · refine lv_iconst (v := 0) S.1 S.2.1 d_AR_dump_78 (by decide) ?_
        exact mm_reti S.1 S.2.1 hr hlocks hA hQ hw (cs_same hC (hsp.trans (by rw [k19_3, if_neg (by decide)]; show (F 15 (5 * y + 4), _, _, _) = _; rw [c71]))) (Nat.le_of_ble_eq_true rfl) (Nat.le_of_ble_eq_true rfl) d_AR_dump_79
      · refine lv_iconst (v := 1) S.1 S.2.1 d_AR_dump_74 (by decide) ?_
        refine lv_goto (tgt := 79) S.1 S.2.1 d_AR_dump_75 (by decide) ?_
        exact mm_reti S.1 S.2.1 hr hlocks hA hQ hw (cs_same hC (hsp.trans (by rw [k19_3, if_neg (by decide)]; show (F 15 (5 * y + 4), _, _, _) = _; rw [hy01.resolve_left c71]))) (Nat.le_of_ble_eq_true rfl) (Nat.le_of_ble_eq_true rfl) d_AR_dump_79
    refine lv_tableOut (tgt := 80) S.1 S.2.1 d_AR_dump_19 (by have t0 : (v).toInt ≠ 0 := ts_ne k19_0; have t1 : (v).toInt ≠ 1 := ts_ne k19_1; have t2 : (v).toInt ≠ 2 := ts_ne k19_2; have t3 : (v).toInt ≠ 3 := ts_ne k19_3; omega) (by decide) ?_
    refine lv_iconst (v := (-1)) S.1 S.2.1 d_AR_dump_80 (by decide) ?_
    exact mm_reti S.1 S.2.1 hr hlocks hA hQ hw (cs_same hC (hsp.trans (by rw [if_pos (by
          by_cases h0 : v < 0
          · exact Or.inl h0
          · refine Or.inr (fun h3 => ?_)
            have a0 : v.toInt ≠ 0 := ts_ne k19_0
            have a1 : v.toInt ≠ 1 := ts_ne k19_1
            have a2 : v.toInt ≠ 2 := ts_ne k19_2
            have a3 : v.toInt ≠ 3 := ts_ne k19_3
            rw [Int32.le_iff_toInt_le, show (3 : Int32).toInt = 3 from rfl] at h3
            rw [Int32.lt_iff_toInt_lt, Int32.toInt_zero] at h0
            omega)]))) (Nat.le_of_ble_eq_true rfl) (Nat.le_of_ble_eq_true rfl) d_AR_dump_81
