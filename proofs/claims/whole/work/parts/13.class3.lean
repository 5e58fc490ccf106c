theorem cN_pos {v : Int32} (h : 1 ≤ cN v) : v = nI (cN v) := by
  refine cl_nI (fun q => ?_)
  have h1 : v.toInt < 0 := by rw [Int32.lt_iff_toInt_lt, Int32.toInt_zero] at q; exact q
  have h2 : cN v = v.toInt.toNat := rfl
  omega
section LVN
variable {dA : Nat → ClassId} {M M' : mm_M} {I I' : sI} {F F' : sF} {lv : Nat} {fL : Nat → Option Nat} {la ea : Nat → Nat} {er : Nat → Option Nat} {n ne q : Nat} {k : Int32}
/-- a new level -/
theorem cL_new (hn : cN (I 1) = n) (hN : n < 100) (hne : cN (I 2) = ne) (hwf : lv_wf2 F n ne) (h0 : F 2 (n + 1) = 0) (a2 : ∀ i, i < cN (I 1) → fL i = some (la (i + 1))) (a3 : ∀ a, 1 ≤ a → a ≤ cN (I 1) → M (la a) = some (oL la ea F a)) (a4 : ∀ k, 1 ≤ k → k ≤ cN (I 2) → M (ea k) = some (oE er F k)) (a5 : ∀ a, 1 ≤ a → a ≤ cN (I 1) → chn ea er F a)
    (kk : kt M M' [0, 1100]) (hlv : M' lv = some (aQ (dA 3) 100 (va_up fL n (some q)))) (hq : M' q = some (.inr (5, [.int (nI (n + 1)), va_rf (lk la k), .int (F 1 (cN k) + 1), .null, .int 0]))) (hk : k = 0 ∨ ∃ j, k = nI j ∧ j ≤ n) (h1 : cN (I' 1) = n + 1) (h2 : I' 2 = I 2) (hF : F' = va_up (va_up F 0 (upd (F 0) (n + 1) k)) 1 (upd (F 1) (n + 1) (F 1 (cN k) + 1))) : cL dA M' lv I' F' := by
  subst hF
  refine ⟨va_up fL n (some q), va_up la (n + 1) q, ea, er, hlv, fun i hi => ?_, fun a p r => ?_, fun e p r => ?_, fun a p r => ?_⟩
  · rw [h1] at hi
    by_cases h : i = n
    · subst h; rw [va_up_self, va_up_self]
    · rw [va_up_ne _ _ h, va_up_ne _ _ (by omega)]
      exact a2 i (by omega)
  · rw [h1] at r
    by_cases h : a = n + 1
    · subst h
      rw [va_up_self, hq]
      have e2 : tpf ea (va_up (va_up F 0 (upd (F 0) (n + 1) k)) 1 (upd (F 1) (n + 1) (F 1 (cN k) + 1))) (n + 1) = none := by
        show (if cN (F 2 (n + 1)) = 0 then none else _) = none
        rw [h0]; rfl
      have e3 : lk (va_up la (n + 1) q) k = lk la k := by
        rcases hk with hk | ⟨j, hk, hj⟩
        · rw [hk]; rfl
        · unfold lk
          rw [hk, cN, nI_clamp (by omega), va_up_ne _ _ (by omega)]
      show _ = some (Sum.inr (5, [Value.int (nI (n + 1)), va_rf (lk (va_up la (n + 1) q) (upd (F 0) (n + 1) k (n + 1))), .int (upd (F 1) (n + 1) (F 1 (cN k) + 1) (n + 1)), va_rf (tpf ea (va_up (va_up F 0 (upd (F 0) (n + 1) k)) 1 (upd (F 1) (n + 1) (F 1 (cN k) + 1))) (n + 1)), .int (F 2 (n + 1))]))
      rw [pk_us, pk_us, e2, e3, h0]
      rfl
    · rw [va_up_ne _ _ h]
      have h9 := kk _ _ (a3 a p (by omega)) (by simp [tg])
      rw [h9]
      obtain ⟨w, hw1, hw2, -⟩ := hwf.2.1 a p (by omega)
      have e3 : lk (va_up la (n + 1) q) (F 0 a) = lk la (F 0 a) := by
        unfold lk
        rw [hw1, cN, nI_clamp (by omega), va_up_ne _ _ (by omega)]
      show some (Sum.inr (5, [Value.int (nI a), va_rf (lk la (F 0 a)), .int (F 1 a), va_rf (tpf ea F a), .int (F 2 a)])) = some (Sum.inr (5, [Value.int (nI a), va_rf (lk (va_up la (n + 1) q) (upd (F 0) (n + 1) k a)), .int (upd (F 1) (n + 1) (F 1 (cN k) + 1) a), va_rf (tpf ea F a), .int (F 2 a)]))
      rw [pk_un h, pk_un h, e3]
  · rw [h2] at r
    exact kk _ _ (a4 e p r) (by simp [tg])
  · rw [h1] at r
    by_cases h : a = n + 1
    · subst h
      intro t ht
      have : cN (F 2 (n + 1)) = 0 := by rw [h0]; rfl
      exact absurd ht (by show ¬ t < cN (F 2 (n + 1)); omega)
    · exact a5 a p (by omega)
/-- a new exit -/
theorem cL_ex {j zc : Nat} {d z : Int32} (hn : cN (I 1) = n) (hN : n ≤ 100) (hne : cN (I 2) = ne) (hNE : ne < 300) (hwf : lv_wf2 F n ne) (h7 : F 7 (ne + 1) = 0) (hlv : M lv = some (aQ (dA 3) 100 fL)) (a2 : ∀ i, i < cN (I 1) → fL i = some (la (i + 1))) (a3 : ∀ a, 1 ≤ a → a ≤ cN (I 1) → M (la a) = some (oL la ea F a)) (a4 : ∀ k, 1 ≤ k → k ≤ cN (I 2) → M (ea k) = some (oE er F k)) (a5 : ∀ a, 1 ≤ a → a ≤ cN (I 1) → chn ea er F a)
    (hj1 : 1 ≤ j) (hjn : j ≤ n) (hz : F 2 j = nI zc) (hz10 : zc < 10) (kk : kt M M' [0, 5]) (hq : M' q = some (.inr (6, [.int (nI (ne + 1)), .int d, .int z, va_rf (tpf ea F j), .int 0]))) (hj : M' (la j) = some (.inr (5, [.int (nI j), va_rf (lk la (F 0 j)), .int (F 1 j), .ref q, .int (F 2 j + 1)]))) (ho : ∀ a, 1 ≤ a → a ≤ n → a ≠ j → M' (la a) = some (oL la ea F a)) (h1 : I' 1 = I 1) (h2 : cN (I' 2) = ne + 1)
    (hF : F' = va_up (va_up (va_up (va_up F 4 (upd (F 4) (ne + 1) d)) 6 (upd (F 6) (ne + 1) z)) 3 (upd (F 3) (10 * j + zc) (nI (ne + 1)))) 2 (upd (F 2) j (F 2 j + 1))) : cL dA M' lv I' F' := by
  subst hF
  have hzj : cN (F 2 j) = zc := cN_I hz (by omega)
  have hz1 : cN (F 2 j + 1) = zc + 1 := by rw [hz, nI_1, cN, nI_clamp (by omega)]
  have rows : ∀ a, 1 ≤ a → a ≤ n → ∀ t, t < cN (F 2 a) → t < 10 ∧ 1 ≤ cN (F 3 (10 * a + t)) ∧ cN (F 3 (10 * a + t)) ≤ ne := by
    intro a p r t ht
    obtain ⟨y, h1, h2, h3⟩ := hwf.2.2 a p r
    rw [cN_I h1 (by omega)] at ht
    obtain ⟨e, h4, h5, h6⟩ := h3 t ht
    rw [cN_I h4 (by omega)]
    omega
  have f3 : ∀ a t, t < 10 → ¬ (a = j ∧ t = zc) → upd (F 3) (10 * j + zc) (nI (ne + 1)) (10 * a + t) = F 3 (10 * a + t) := fun a t ht h => pk_un (by omega)
  refine ⟨fL, la, va_up ea (ne + 1) q, va_up er (ne + 1) (tpf ea F j), kk _ _ hlv (by simp [tg]), by rw [h1]; exact a2, fun a p r => ?_, fun e p r => ?_, fun a p r => ?_⟩
  · rw [h1] at r
    by_cases h : a = j
    · subst h
      rw [hj]
      show _ = some (Sum.inr (5, [Value.int (nI a), va_rf (lk la (F 0 a)), .int (F 1 a), va_rf (if cN (upd (F 2) a (F 2 a + 1) a) = 0 then none else some (va_up ea (ne + 1) q (cN (upd (F 3) (10 * a + zc) (nI (ne + 1)) (10 * a + (cN (upd (F 2) a (F 2 a + 1) a) - 1)))))), .int (upd (F 2) a (F 2 a + 1) a)]))
      rw [pk_us, hz1, if_neg (by omega), Nat.add_sub_cancel, pk_us, cN_I rfl (by omega), va_up_self]
      rfl
    · rw [ho a p (by omega) h]
      have e2 : tpf (va_up ea (ne + 1) q) (va_up (va_up (va_up (va_up F 4 (upd (F 4) (ne + 1) d)) 6 (upd (F 6) (ne + 1) z)) 3 (upd (F 3) (10 * j + zc) (nI (ne + 1)))) 2 (upd (F 2) j (F 2 j + 1))) a = tpf ea F a := by
        show (if cN (upd (F 2) j (F 2 j + 1) a) = 0 then none else some (va_up ea (ne + 1) q (cN (upd (F 3) (10 * j + zc) (nI (ne + 1)) (10 * a + (cN (upd (F 2) j (F 2 j + 1) a) - 1)))))) = _
        rw [pk_un h]
        unfold tpf
        by_cases hz0 : cN (F 2 a) = 0
        · rw [if_pos hz0, if_pos hz0]
        · obtain ⟨r1, r2, r3⟩ := rows a p (by omega) (cN (F 2 a) - 1) (by omega)
          rw [if_neg hz0, if_neg hz0, f3 a _ r1 (by omega), va_up_ne _ _ (by omega)]
      show _ = some (Sum.inr (5, [Value.int (nI a), va_rf (lk la (F 0 a)), .int (F 1 a), va_rf (tpf (va_up ea (ne + 1) q) (va_up (va_up (va_up (va_up F 4 (upd (F 4) (ne + 1) d)) 6 (upd (F 6) (ne + 1) z)) 3 (upd (F 3) (10 * j + zc) (nI (ne + 1)))) 2 (upd (F 2) j (F 2 j + 1))) a), .int (upd (F 2) j (F 2 j + 1) a)]))
      rw [e2, pk_un h]
  · rw [h2] at r
    show M' (va_up ea (ne + 1) q e) = some (Sum.inr (6, [Value.int (nI e), .int (upd (F 4) (ne + 1) d e), .int (upd (F 6) (ne + 1) z e), va_rf (va_up er (ne + 1) (tpf ea F j) e), .int (F 7 e)]))
    by_cases h : e = ne + 1
    · subst h
      rw [va_up_self, pk_us, pk_us, va_up_self, h7]
      exact hq
    · rw [va_up_ne _ _ h, pk_un h, pk_un h, va_up_ne _ _ h]
      exact kk _ _ (a4 e p (by omega)) (by simp [tg])
  · rw [h1] at r
    intro t ht
    show va_up er (ne + 1) (tpf ea F j) (cN (upd (F 3) (10 * j + zc) (nI (ne + 1)) (10 * a + t))) = if t = 0 then none else some (va_up ea (ne + 1) q (cN (upd (F 3) (10 * j + zc) (nI (ne + 1)) (10 * a + (t - 1)))))
    have ht : t < cN (upd (F 2) j (F 2 j + 1) a) := ht
    have old : ∀ (hta : t < cN (F 2 a)), va_up er (ne + 1) (tpf ea F j) (cN (upd (F 3) (10 * j + zc) (nI (ne + 1)) (10 * a + t))) = if t = 0 then none else some (va_up ea (ne + 1) q (cN (upd (F 3) (10 * j + zc) (nI (ne + 1)) (10 * a + (t - 1))))) := by
      intro hta
      obtain ⟨r1, r2, r3⟩ := rows a p (by omega) t hta
      have hnot : ¬ (a = j ∧ t = zc) := fun hh => by rw [hh.1, hzj, hh.2] at hta; exact Nat.lt_irrefl _ hta
      rw [f3 a t r1 hnot, va_up_ne _ _ (by omega), a5 a p (by omega) t hta]
      by_cases h0 : t = 0
      · rw [if_pos h0, if_pos h0]
      · obtain ⟨s1, s2, s3⟩ := rows a p (by omega) (t - 1) (by omega)
        rw [if_neg h0, if_neg h0, f3 a (t - 1) s1 (fun hh => by rw [hh.1, hzj] at hta; omega), va_up_ne _ _ (by omega)]
    by_cases h : a = j
    · subst h
      rw [pk_us, hz1] at ht
      by_cases h9 : t = zc
      · subst h9
        rw [pk_us, cN_I rfl (by omega), va_up_self]
        unfold tpf
        rw [hzj]
        by_cases h0 : t = 0
        · rw [if_pos h0, if_pos h0]
        · obtain ⟨s1, s2, s3⟩ := rows a p (by omega) (t - 1) (by omega)
          rw [if_neg h0, if_neg h0, f3 a (t - 1) s1 (by omega), va_up_ne _ _ (by omega)]
      · exact old (by omega)
    · rw [pk_un h] at ht
      exact old ht
end LVN

theorem d_AR_level_0 : decode b_AR_level 0 = .ok (.aload_n 0, 1) := by decide +kernel
theorem d_AR_level_1 : decode b_AR_level 1 = .ok (.iload_n 1, 1) := by decide +kernel
theorem d_AR_level_2 : decode b_AR_level 2 = .ok (.invokevirtual 57, 3) := by decide +kernel
theorem d_AR_level_5 : decode b_AR_level 5 = .ok (.astore_n 2, 1) := by decide +kernel
theorem d_AR_level_6 : decode b_AR_level 6 = .ok (.iload_n 1, 1) := by decide +kernel
theorem d_AR_level_7 : decode b_AR_level 7 = .ok (.ifCond .eq 10, 3) := by decide +kernel
theorem d_AR_level_10 : decode b_AR_level 10 = .ok (.aload_n 2, 1) := by decide +kernel
theorem d_AR_level_11 : decode b_AR_level 11 = .ok (.ifnonnull 6, 3) := by decide +kernel
theorem d_AR_level_14 : decode b_AR_level 14 = .ok (.bipush (-2), 2) := by decide +kernel
theorem d_AR_level_16 : decode b_AR_level 16 = .ok (.ireturn, 1) := by decide +kernel
theorem d_AR_level_17 : decode b_AR_level 17 = .ok (.aload_n 2, 1) := by decide +kernel
theorem d_AR_level_18 : decode b_AR_level 18 = .ok (.ifnonnull 7, 3) := by decide +kernel
theorem d_AR_level_21 : decode b_AR_level 21 = .ok (.iconst 1, 1) := by decide +kernel
theorem d_AR_level_22 : decode b_AR_level 22 = .ok (.goto 9, 3) := by decide +kernel
theorem d_AR_level_25 : decode b_AR_level 25 = .ok (.aload_n 2, 1) := by decide +kernel
theorem d_AR_level_26 : decode b_AR_level 26 = .ok (.getfield 61, 3) := by decide +kernel
theorem d_AR_level_29 : decode b_AR_level 29 = .ok (.iconst 1, 1) := by decide +kernel
theorem d_AR_level_30 : decode b_AR_level 30 = .ok (.iadd, 1) := by decide +kernel
theorem d_AR_level_31 : decode b_AR_level 31 = .ok (.istore_n 3, 1) := by decide +kernel
theorem d_AR_level_32 : decode b_AR_level 32 = .ok (.aload_n 0, 1) := by decide +kernel
theorem d_AR_level_33 : decode b_AR_level 33 = .ok (.getfield 65, 3) := by decide +kernel
theorem d_AR_level_36 : decode b_AR_level 36 = .ok (.bipush 100, 2) := by decide +kernel
theorem d_AR_level_38 : decode b_AR_level 38 = .ok (.if_icmp .ge 9, 3) := by decide +kernel
theorem d_AR_level_41 : decode b_AR_level 41 = .ok (.iload_n 3, 1) := by decide +kernel
theorem d_AR_level_42 : decode b_AR_level 42 = .ok (.bipush 20, 2) := by decide +kernel
theorem d_AR_level_44 : decode b_AR_level 44 = .ok (.if_icmp .le 5, 3) := by decide +kernel
theorem d_AR_level_47 : decode b_AR_level 47 = .ok (.iconst (-1), 1) := by decide +kernel
theorem d_AR_level_48 : decode b_AR_level 48 = .ok (.ireturn, 1) := by decide +kernel
theorem d_AR_level_49 : decode b_AR_level 49 = .ok (.new 9, 3) := by decide +kernel
theorem d_AR_level_52 : decode b_AR_level 52 = .ok (.dup, 1) := by decide +kernel
theorem d_AR_level_53 : decode b_AR_level 53 = .ok (.aload_n 0, 1) := by decide +kernel
theorem d_AR_level_54 : decode b_AR_level 54 = .ok (.getfield 65, 3) := by decide +kernel
theorem d_AR_level_57 : decode b_AR_level 57 = .ok (.iconst 1, 1) := by decide +kernel
theorem d_AR_level_58 : decode b_AR_level 58 = .ok (.iadd, 1) := by decide +kernel
theorem d_AR_level_59 : decode b_AR_level 59 = .ok (.aload_n 2, 1) := by decide +kernel
theorem d_AR_level_60 : decode b_AR_level 60 = .ok (.iload_n 3, 1) := by decide +kernel
theorem d_AR_level_61 : decode b_AR_level 61 = .ok (.invokespecial 68, 3) := by decide +kernel
theorem d_AR_level_64 : decode b_AR_level 64 = .ok (.astore 4, 2) := by decide +kernel
theorem d_AR_level_66 : decode b_AR_level 66 = .ok (.aload_n 0, 1) := by decide +kernel
theorem d_AR_level_67 : decode b_AR_level 67 = .ok (.getfield 11, 3) := by decide +kernel
theorem d_AR_level_70 : decode b_AR_level 70 = .ok (.aload_n 0, 1) := by decide +kernel
theorem d_AR_level_71 : decode b_AR_level 71 = .ok (.getfield 65, 3) := by decide +kernel
theorem d_AR_level_74 : decode b_AR_level 74 = .ok (.aload 4, 2) := by decide +kernel
theorem d_AR_level_76 : decode b_AR_level 76 = .ok (.aastore, 1) := by decide +kernel
theorem d_AR_level_77 : decode b_AR_level 77 = .ok (.aload_n 0, 1) := by decide +kernel
theorem d_AR_level_78 : decode b_AR_level 78 = .ok (.dup, 1) := by decide +kernel
theorem d_AR_level_79 : decode b_AR_level 79 = .ok (.getfield 65, 3) := by decide +kernel
theorem d_AR_level_82 : decode b_AR_level 82 = .ok (.iconst 1, 1) := by decide +kernel
theorem d_AR_level_83 : decode b_AR_level 83 = .ok (.iadd, 1) := by decide +kernel
theorem d_AR_level_84 : decode b_AR_level 84 = .ok (.putfield 65, 3) := by decide +kernel
theorem d_AR_level_87 : decode b_AR_level 87 = .ok (.aload 4, 2) := by decide +kernel
theorem d_AR_level_89 : decode b_AR_level 89 = .ok (.getfield 71, 3) := by decide +kernel
theorem d_AR_level_92 : decode b_AR_level 92 = .ok (.ireturn, 1) := by decide +kernel
set_option maxHeartbeats 4000000 in
set_option maxRecDepth 100000 in
theorem c_AR_level (l : Launch) (D : va_G) (dA : Nat → ClassId) (M : mm_M) (x nc : Nat) (I : sI) (F : sF) (st : sT) (hC : cP dA M x I F st nc) (hwf : wf I F st) (k : Int32) : mm_Ci l y_AR_level w_AR_level ({ frames := 2, cells := 1, slots := 5, locals := 43 }) 1 5 D vC (tyL dA) [.ref x, .int k] M (cs_post dA x nc (sp_level k I F st)) := by
  intro sz
  refine mm_start (by decide) (Nat.le_of_ble_eq_true rfl) ?_
  intro p e s m below meth c A Q ls hA hQ S hr hlocks hin hK hw hl
  have hl : lv_has ls 5 [(0, .ref x), (1, .int k)] := hl
  obtain ⟨lv, sr, gd, rs, ss, dr, cs, cg, hX, hL, hG, hS, hR, hT, hD, hCs, hE⟩ := id hC
  have hX : M x = some (.inr (0, [.ref lv, .int (I 1), .int (I 2), .ref sr, .ref gd, .int (I 3), .ref rs, .ref ss, .ref dr, .ref cs, .ref cg])) := hX
  obtain ⟨fL, la, ea, er, hlv, hfl, hla, hea, hch⟩ := id hL
  obtain ⟨n, hn, hN⟩ := hwf.1
  have hcn : cN (I 1) = n := cN_I hn (by omega)
  refine lv_aload_n S.1 S.2.1 d_AR_level_0 rfl (lv_at hl 0 rfl) ?_
  refine lv_iload_n S.1 S.2.1 d_AR_level_1 rfl (lv_at hl 1 rfl) ?_
  refine mm_callq hw (mm_runV (a := x) (As := [.int k]) (rest := []) S hK hw (c_AR_levelOf l D dA _ x lv sr gd rs ss dr cs cg I fL k n hn hN hX hlv _) bv_AR_levelOf gw_126 hX rfl (⟨rfl, rfl, by decide, by decide, by decide, by decide⟩) hl.1 rfl rfl (Nat.le_of_ble_eq_true rfl) d_AR_level_2) (fun r1 M2 H locs hp hw => ?_)
  rw [hp.1] at hw
  rcases hp.2 with ⟨hc3, er9⟩ | ⟨hc3, rfl⟩
  · obtain ⟨j, ek, hj1, hjn, en⟩ := is_of hn (by omega) hc3
    have er9 : r1 = some (la j) := by rw [er9, cN, en, hfl (j - 1) (by omega)]; congr 2; omega
    subst er9
    refine W.eq (g2 := F0 m 5 ls [.ref (la j)]) rfl ?_
    have hlj : M (la j) = some (oL la ea F j) := hla j hj1 (by omega)
    have en : cN k = j := en
    have hk0 : ¬ k = 0 := by rw [ek]; exact nI_ne0 hj1 (by omega)
    obtain ⟨pa, -, -, hpd, hp20⟩ := hwf.2.2.2.2.2.1.2.1 j hj1 (by omega)
    obtain ⟨dj, hdj, hdj1, hdj2⟩ : ∃ dj, F 1 j = nI dj ∧ 1 ≤ dj ∧ dj ≤ 20 := ⟨cN (F 1 j), cN_pos (by omega), by omega, hp20⟩
    refine lv_astore_n (lv' := [(2, .ref (la j)), (0, .ref x), (1, .int k)]) S.1 S.2.1 d_AR_level_5 rfl hl (by decide) rfl (fun ls hl => ?_)
    refine lv_iload_n S.1 S.2.1 d_AR_level_6 rfl (lv_at hl 2 rfl) ?_
    refine lv_if_eq (tgt := 17) S.1 S.2.1 d_AR_level_7 (by decide) (fun c7 => absurd (by rw [c7]; decide) hc3.1) (fun c7 => ?_)
    refine lv_aload_n S.1 S.2.1 d_AR_level_10 rfl (lv_at hl 0 rfl) ?_
    refine lv_ifnonnull (tgt := 17) S.1 S.2.1 d_AR_level_11 (by decide) ?_
    refine lv_aload_n S.1 S.2.1 d_AR_level_17 rfl (lv_at hl 0 rfl) ?_
    refine lv_ifnonnull (tgt := 25) S.1 S.2.1 d_AR_level_18 (by decide) ?_
    refine lv_aload_n S.1 S.2.1 d_AR_level_25 rfl (lv_at hl 0 rfl) ?_
    refine mm_get (C := R_LV) (T := T_LV) (N := 5) S hK.1 hw hlj rfl in_LV 2 (by decide) gw_141 rfl rfl d_AR_level_26 ?_
    refine lv_iconst (v := 1) S.1 S.2.1 d_AR_level_29 (by decide) ?_
    refine lv_iadd S.1 S.2.1 d_AR_level_30 ?_
    refine lv_istore_n (lv' := [(3, .int ((F 1 j) + 1)), (2, .ref (la j)), (0, .ref x), (1, .int k)]) S.1 S.2.1 d_AR_level_31 rfl hl (by decide) rfl (fun ls hl => ?_)
    refine lv_aload_n S.1 S.2.1 d_AR_level_32 rfl (lv_at hl 2 rfl) ?_
    refine mm_get (C := R_AR) (T := T_AR) (N := 11) S hK.1 hw hX rfl in_AR 1 (by decide) gw_89 rfl rfl d_AR_level_33 ?_
    refine lv_bipush (v := 100) S.1 S.2.1 d_AR_level_36 (by decide) ?_
    refine lv_icmp_ge (tgt := 47) S.1 S.2.1 d_AR_level_38 (by decide) (fun c38 => ?_) (fun c38 => ?_)
    · refine lv_iconst (v := (-1)) S.1 S.2.1 d_AR_level_47 (by decide) ?_
      have h100 : I 1 = 100 := by
        rw [hn] at c38 ⊢
        have h9 := (nI_leI (a := 100) (by decide) (by omega)).mp c38
        rw [show n = 100 by omega]; rfl
      exact mm_reti S.1 S.2.1 hr hlocks hA hQ hw (cs_same hC (show sp_level k I F st = ((-1), upd I 0 0, F, st) by simp only [sp_level, eq_true hc3, eq_true h100, not_true_eq_false, not_false_eq_true, and_true, true_and, and_false, false_and, and_self, or_true, true_or, or_false, false_or, or_self, ↓reduceIte, eq_false hk0, en])) (Nat.le_of_ble_eq_true rfl) (Nat.le_of_ble_eq_true rfl) d_AR_level_48
    · refine lv_iload_n S.1 S.2.1 d_AR_level_41 rfl (lv_at hl 0 rfl) ?_
      refine lv_bipush (v := 20) S.1 S.2.1 d_AR_level_42 (by decide) ?_
      refine lv_icmp_le (tgt := 49) S.1 S.2.1 d_AR_level_44 (by decide) (fun c44 => ?_) (fun c44 => ?_)
      · have hn1 : n < 100 := by
          rcases Nat.lt_or_ge n 100 with q | q
          · exact q
          · exact absurd (by rw [hn]; exact nI_le (a := 100) q (by omega)) c38
        refine mm_new (C := R_LV) (T := T_LV) (N := 5) (ci := 5) (fs := [.int 0, .null, .int 0, .null, .int 0]) S hK.1 hw rfl in_LV t_LV k_LV gw_27 gw_130 gw_14 (fun j hj => by rcases (show j = 0 ∨ j = 1 ∨ j = 2 ∨ j = 3 ∨ j = 4 by omega) with rfl | rfl | rfl | rfl | rfl <;> rfl) (Nat.le_of_ble_eq_true rfl) (Nat.le_of_ble_eq_true rfl) d_AR_level_49 (fun q4 H hqq4 hw => ?_)
        obtain ⟨M5, eM5⟩ : ∃ zM : mm_M, zM = mm_up M q4 (.inr (5, [.int 0, .null, .int 0, .null, .int 0])) := ⟨_, rfl⟩
        have hw : mm_w D vC _ _ (mm_up M q4 (.inr (5, [.int 0, .null, .int 0, .null, .int 0]))) H _ := hw
        rw [← eM5] at hw
        have hX_5 : M5 x = some (.inr (0, [.ref lv, .int (I 1), .int (I 2), .ref sr, .ref gd, .int (I 3), .ref rs, .ref ss, .ref dr, .ref cs, .ref cg])) := by rw [eM5]; exact mm_fk hqq4 hX
        have hlv_5 : M5 lv = some (.inl (dA 3, 100, .inr (.inr (.inr (.inr (fL)))))) := by rw [eM5]; exact mm_fk hqq4 hlv
        have hlj_5 : M5 (la j) = some (.inr (5, [.int (nI j), va_rf (lk la (F 0 j)), .int (F 1 j), va_rf (tpf ea F j), .int (F 2 j)])) := by rw [eM5]; exact mm_fk hqq4 hlj
        have hq4_5 : M5 q4 = some (.inr (5, [.int 0, .null, .int 0, .null, .int 0])) := by rw [eM5]; exact mm_us
        have ne6 : (la j) ≠ q4 := fun h => by rw [h, hqq4] at hlj; cases hlj
        refine lv_dup S.1 S.2.1 d_AR_level_52 rfl ?_
        refine lv_aload_n S.1 S.2.1 d_AR_level_53 rfl (lv_at hl 2 rfl) ?_
        refine mm_get (C := R_AR) (T := T_AR) (N := 11) S hK.1 hw hX_5 rfl in_AR 1 (by decide) gw_89 rfl rfl d_AR_level_54 ?_
        refine lv_iconst (v := 1) S.1 S.2.1 d_AR_level_57 (by decide) ?_
        refine lv_iadd S.1 S.2.1 d_AR_level_58 ?_
        refine lv_aload_n S.1 S.2.1 d_AR_level_59 rfl (lv_at hl 1 rfl) ?_
        refine lv_iload_n S.1 S.2.1 d_AR_level_60 rfl (lv_at hl 0 rfl) ?_
        refine mm_callv hw (mm_runI (a := q4) (As := [.int ((I 1) + 1), .ref (la j), .int ((F 1 j) + 1)]) (rest := [.ref q4]) S hK hw (c_LV_init l D dA _ q4 (((I 1) + 1)) (((F 1 j) + 1)) (some (la j)) hq4_5 _) bi_LV_init gw_131 (⟨rfl, rfl, by decide, by decide, by decide, by decide⟩) hl.1 rfl rfl (Nat.le_of_ble_eq_true rfl) d_AR_level_61) (fun M8 H locs hp hw => ?_)
        have hX_9 : M8 x = some (.inr (0, [.ref lv, .int (I 1), .int (I 2), .ref sr, .ref gd, .int (I 3), .ref rs, .ref ss, .ref dr, .ref cs, .ref cg])) := by rw [hp]; exact mm_uk hq4_5 hX_5 (by simp)
        have hlv_10 : M8 lv = some (.inl (dA 3, 100, .inr (.inr (.inr (.inr (fL)))))) := by rw [hp]; exact mm_uk hq4_5 hlv_5 (by simp)
        have hlj_11 : M8 (la j) = some (.inr (5, [.int (nI j), va_rf (lk la (F 0 j)), .int (F 1 j), va_rf (tpf ea F j), .int (F 2 j)])) := by rw [hp]; exact (mm_un (ne6)).trans hlj_5
        have hq4_12 : M8 q4 = some (.inr (5, [.int ((I 1) + 1), .ref (la j), .int ((F 1 j) + 1), .null, .int 0])) := by rw [hp]; exact mm_us
        have eM8 := hp
        refine lv_astore (lv' := [(4, .ref q4), (3, .int ((F 1 j) + 1)), (2, .ref (la j)), (0, .ref x), (1, .int k)]) S.1 S.2.1 d_AR_level_64 hl (by decide) rfl (fun ls hl => ?_)
        refine lv_aload_n S.1 S.2.1 d_AR_level_66 rfl (lv_at hl 3 rfl) ?_
        refine mm_get (C := R_AR) (T := T_AR) (N := 11) S hK.1 hw hX_9 rfl in_AR 0 (by decide) gw_88 rfl rfl d_AR_level_67 ?_
        refine lv_aload_n S.1 S.2.1 d_AR_level_70 rfl (lv_at hl 3 rfl) ?_
        refine mm_get (C := R_AR) (T := T_AR) (N := 11) S hK.1 hw hX_9 rfl in_AR 1 (by decide) gw_89 rfl rfl d_AR_level_71 ?_
        refine lv_aload S.1 S.2.1 d_AR_level_74 (lv_at hl 0 rfl) ?_
        refine mn_astq (j := n) (r := (R_LV, T_LV, 5)) S hK.1 hw 3 5 hlv_10 rfl hq4_12 rfl (hn) (by omega) (by decide) d_AR_level_76 (fun H locs hw => ?_)
        obtain ⟨M13, eM13⟩ : ∃ zM : mm_M, zM = mm_up M8 lv (.inl (dA 3, 100, .inr (.inr (.inr (.inr (va_up (fL) (n) (some q4))))))) := ⟨_, rfl⟩
        have hw : mm_w D vC _ _ (mm_up M8 lv (.inl (dA 3, 100, .inr (.inr (.inr (.inr (va_up (fL) (n) (some q4)))))))) H _ := hw
        rw [← eM13] at hw
        have hX_13 : M13 x = some (.inr (0, [.ref lv, .int (I 1), .int (I 2), .ref sr, .ref gd, .int (I 3), .ref rs, .ref ss, .ref dr, .ref cs, .ref cg])) := by rw [eM13]; exact mm_uk hlv_10 hX_9 (by simp)
        have hlj_13 : M13 (la j) = some (.inr (5, [.int (nI j), va_rf (lk la (F 0 j)), .int (F 1 j), va_rf (tpf ea F j), .int (F 2 j)])) := by rw [eM13]; exact mm_uk hlv_10 hlj_11 (by simp)
        have hq4_13 : M13 q4 = some (.inr (5, [.int ((I 1) + 1), .ref (la j), .int ((F 1 j) + 1), .null, .int 0])) := by rw [eM13]; exact mm_uk hlv_10 hq4_12 (by simp)
        have hlv_13 : M13 lv = some (.inl (dA 3, 100, .inr (.inr (.inr (.inr (va_up (fL) (n) (some q4))))))) := by rw [eM13]; exact mm_us
        refine lv_aload_n S.1 S.2.1 d_AR_level_77 rfl (lv_at hl 3 rfl) ?_
        refine lv_dup S.1 S.2.1 d_AR_level_78 rfl ?_
        refine mm_get (C := R_AR) (T := T_AR) (N := 11) S hK.1 hw hX_13 rfl in_AR 1 (by decide) gw_89 rfl rfl d_AR_level_79 ?_
        refine lv_iconst (v := 1) S.1 S.2.1 d_AR_level_82 (by decide) ?_
        refine lv_iadd S.1 S.2.1 d_AR_level_83 ?_
        refine mm_put (C := R_AR) (T := T_AR) (N := 11) (ty := .int) (v := .int ((I 1) + 1)) S hK.1 hw hX_13 rfl in_AR t_AR k_AR n_AR 1 (by decide) gw_89 rfl rfl (by decide +kernel) (rfl) (rfl) (Nat.le_of_ble_eq_true rfl) d_AR_level_84 (fun H locs hw => ?_)
        obtain ⟨M14, eM14⟩ : ∃ zM : mm_M, zM = mm_up M13 x (.inr (0, [.ref lv, .int ((I 1) + 1), .int (I 2), .ref sr, .ref gd, .int (I 3), .ref rs, .ref ss, .ref dr, .ref cs, .ref cg])) := ⟨_, rfl⟩
        have hw : mm_w D vC _ _ (mm_up M13 x (.inr (0, [.ref lv, .int ((I 1) + 1), .int (I 2), .ref sr, .ref gd, .int (I 3), .ref rs, .ref ss, .ref dr, .ref cs, .ref cg]))) H _ := hw
        rw [← eM14] at hw
        have hlv_14 : M14 lv = some (.inl (dA 3, 100, .inr (.inr (.inr (.inr (va_up (fL) (n) (some q4))))))) := by rw [eM14]; exact mm_uk hX_13 hlv_13 (by simp)
        have hlj_14 : M14 (la j) = some (.inr (5, [.int (nI j), va_rf (lk la (F 0 j)), .int (F 1 j), va_rf (tpf ea F j), .int (F 2 j)])) := by rw [eM14]; exact mm_uk hX_13 hlj_13 (by simp)
        have hq4_14 : M14 q4 = some (.inr (5, [.int ((I 1) + 1), .ref (la j), .int ((F 1 j) + 1), .null, .int 0])) := by rw [eM14]; exact mm_uk hX_13 hq4_13 (by simp)
        have hX_14 : M14 x = some (.inr (0, [.ref lv, .int ((I 1) + 1), .int (I 2), .ref sr, .ref gd, .int (I 3), .ref rs, .ref ss, .ref dr, .ref cs, .ref cg])) := by rw [eM14]; exact mm_us
        refine lv_aload S.1 S.2.1 d_AR_level_87 (lv_at hl 0 rfl) ?_
        refine mm_get (C := R_LV) (T := T_LV) (N := 5) S hK.1 hw hq4_14 rfl in_LV 0 (by decide) gw_136 rfl rfl d_AR_level_89 ?_
        have hn100 : ¬ I 1 = 100 := fun h => c38 (by rw [h]; decide)
        have hd20 : ¬ F 1 (cN k) = 20 := by
          rw [en]
          intro h
          rw [h] at c44
          exact absurd c44 (by decide)
        have hi1 : I 1 + 1 = nI (n + 1) := by rw [hn, nI_1]
        have hci : cN (I 1 + 1) = n + 1 := cN_I hi1 (by omega)
        have hk9 : kt M M14 [0, 1100] := by
          have e9 : M8 = mm_up M q4 (.inr (5, [.int ((I 1) + 1), .ref (la j), .int ((F 1 j) + 1), .null, .int 0])) := by rw [eM8, eM5]; exact mm_uu
          rw [eM14, eM13, e9]
          exact kt_tr (kt_nw hqq4) (kt_tr (kt_up (e0 := aQ (dA 3) 100 fL) (mm_fk hqq4 hlv) (by simp [tg])) (kt_up (mm_uk (mm_fk hqq4 hlv) (mm_fk hqq4 hX) (by simp)) (by simp [tg])))
        have hlk : lk la k = some (la j) := by rw [lk, if_neg hk0, en]
        have hqf : M14 q4 = some (.inr (5, [.int (nI (n + 1)), va_rf (lk la k), .int (F 1 (cN k) + 1), .null, .int 0])) := by
          rw [hlk, ← hi1, en]
          exact hq4_14
        have hP9 : cP dA M14 x (upd (upd I 0 0) 1 (I 1 + 1)) (va_up (va_up F 0 (upd (F 0) (cN (I 1 + 1)) k)) 1 (upd (F 1) (cN (I 1 + 1)) (F 1 (cN k) + 1))) st (nc + 1) := ⟨lv, sr, gd, rs, ss, dr, cs, cg, hX_14, cL_new (n := n) (ne := cN (I 2)) (q := q4) (k := k) hcn (by omega) rfl (by rw [← hcn]; exact hwf.2.2.2.2.2.1) (hwf.2.2.2.2.2.2.1 (n + 1) (by omega)) hfl hla hea hch hk9 hlv_14 hqf (Or.inr ⟨j, ek, hjn⟩) hci rfl (by rw [hci]), cG_k hk9 hG (by decide) rfl rfl rfl rfl, cS_k hk9 hS (by decide) rfl rfl, hk9 _ _ hR (by simp [tg]), hk9 _ _ hT (by simp [tg]), cD_k hk9 hD (by decide) rfl rfl, cC_k hk9 hCs (by decide) rfl, cE_k hk9 hE (by decide) (by omega) rfl⟩
        exact mm_reti S.1 S.2.1 hr hlocks hA hQ hw (cs_done hP9 (show sp_level k I F st = (I 1 + 1, _, _, _) by simp only [sp_level, eq_true hc3, not_true_eq_false, not_false_eq_true, and_true, true_and, and_false, false_and, and_self, or_true, true_or, or_false, false_or, or_self, ↓reduceIte, eq_false hn100, eq_false hd20, eq_false hk0])) (Nat.le_of_ble_eq_true rfl) (Nat.le_of_ble_eq_true rfl) d_AR_level_92
      · refine lv_iconst (v := (-1)) S.1 S.2.1 d_AR_level_47 (by decide) ?_
        have h20 : F 1 j = 20 := by
          rw [hdj] at c44 ⊢
          rcases Nat.lt_or_ge dj 20 with q | q
          · exact absurd (by rw [nI_1]; exact nI_le (b := 20) (by omega) (by decide)) c44
          · rw [show dj = 20 by omega]; rfl
        exact mm_reti S.1 S.2.1 hr hlocks hA hQ hw (cs_same hC (show sp_level k I F st = ((-1), upd I 0 0, F, st) by simp only [sp_level, eq_true hc3, eq_true h20, not_true_eq_false, not_false_eq_true, and_true, true_and, and_false, false_and, and_self, or_true, true_or, or_false, false_or, or_self, ↓reduceIte, eq_false hk0, en])) (Nat.le_of_ble_eq_true rfl) (Nat.le_of_ble_eq_true rfl) d_AR_level_48
  · refine W.eq (g2 := F0 m 5 ls [.null]) rfl ?_
    refine lv_astore_nN (lv' := [(2, .null), (0, .ref x), (1, .int k)]) S.1 S.2.1 d_AR_level_5 rfl hl (by decide) rfl (fun ls hl => ?_)
    refine lv_iload_n S.1 S.2.1 d_AR_level_6 rfl (lv_at hl 2 rfl) ?_
    refine lv_if_eq (tgt := 17) S.1 S.2.1 d_AR_level_7 (by decide) (fun c7 => ?_) (fun c7 => ?_)
    · refine lv_aload_nN S.1 S.2.1 d_AR_level_17 rfl (lv_at hl 0 rfl) ?_
      refine lv_ifnonnullN S.1 S.2.1 d_AR_level_18 ?_
      refine lv_iconst (v := 1) S.1 S.2.1 d_AR_level_21 (by decide) ?_
      refine lv_goto (tgt := 31) S.1 S.2.1 d_AR_level_22 (by decide) ?_
      refine lv_istore_n (lv' := [(3, .int 1), (2, .null), (0, .ref x), (1, .int k)]) S.1 S.2.1 d_AR_level_31 rfl hl (by decide) rfl (fun ls hl => ?_)
      refine lv_aload_n S.1 S.2.1 d_AR_level_32 rfl (lv_at hl 2 rfl) ?_
      refine mm_get (C := R_AR) (T := T_AR) (N := 11) S hK.1 hw hX rfl in_AR 1 (by decide) gw_89 rfl rfl d_AR_level_33 ?_
      refine lv_bipush (v := 100) S.1 S.2.1 d_AR_level_36 (by decide) ?_
      refine lv_icmp_ge (tgt := 47) S.1 S.2.1 d_AR_level_38 (by decide) (fun c38 => ?_) (fun c38 => ?_)
      · refine lv_iconst (v := (-1)) S.1 S.2.1 d_AR_level_47 (by decide) ?_
        have h100 : I 1 = 100 := by
          rw [hn] at c38 ⊢
          have h9 := (nI_leI (a := 100) (by decide) (by omega)).mp c38
          rw [show n = 100 by omega]; rfl
        exact mm_reti S.1 S.2.1 hr hlocks hA hQ hw (cs_same hC (show sp_level k I F st = ((-1), upd I 0 0, F, st) by simp only [sp_level, eq_false hc3, eq_true h100, not_true_eq_false, not_false_eq_true, and_true, true_and, and_false, false_and, and_self, or_true, true_or, or_false, false_or, or_self, ↓reduceIte, eq_true c7])) (Nat.le_of_ble_eq_true rfl) (Nat.le_of_ble_eq_true rfl) d_AR_level_48
      · refine lv_iload_n S.1 S.2.1 d_AR_level_41 rfl (lv_at hl 0 rfl) ?_
        refine lv_bipush (v := 20) S.1 S.2.1 d_AR_level_42 (by decide) ?_
        refine lv_icmp_le (tgt := 49) S.1 S.2.1 d_AR_level_44 (by decide) (fun c44 => ?_) (fun c44 => absurd c44 (by decide))
        have hn1 : n < 100 := by
          rcases Nat.lt_or_ge n 100 with q | q
          · exact q
          · exact absurd (by rw [hn]; exact nI_le (a := 100) q (by omega)) c38
        refine mm_new (C := R_LV) (T := T_LV) (N := 5) (ci := 5) (fs := [.int 0, .null, .int 0, .null, .int 0]) S hK.1 hw rfl in_LV t_LV k_LV gw_27 gw_130 gw_14 (fun j hj => by rcases (show j = 0 ∨ j = 1 ∨ j = 2 ∨ j = 3 ∨ j = 4 by omega) with rfl | rfl | rfl | rfl | rfl <;> rfl) (Nat.le_of_ble_eq_true rfl) (Nat.le_of_ble_eq_true rfl) d_AR_level_49 (fun q15 H hqq15 hw => ?_)
        obtain ⟨M16, eM16⟩ : ∃ zM : mm_M, zM = mm_up M q15 (.inr (5, [.int 0, .null, .int 0, .null, .int 0])) := ⟨_, rfl⟩
        have hw : mm_w D vC _ _ (mm_up M q15 (.inr (5, [.int 0, .null, .int 0, .null, .int 0]))) H _ := hw
        rw [← eM16] at hw
        have hX_16 : M16 x = some (.inr (0, [.ref lv, .int (I 1), .int (I 2), .ref sr, .ref gd, .int (I 3), .ref rs, .ref ss, .ref dr, .ref cs, .ref cg])) := by rw [eM16]; exact mm_fk hqq15 hX
        have hlv_16 : M16 lv = some (.inl (dA 3, 100, .inr (.inr (.inr (.inr (fL)))))) := by rw [eM16]; exact mm_fk hqq15 hlv
        have hq15_16 : M16 q15 = some (.inr (5, [.int 0, .null, .int 0, .null, .int 0])) := by rw [eM16]; exact mm_us
        refine lv_dup S.1 S.2.1 d_AR_level_52 rfl ?_
        refine lv_aload_n S.1 S.2.1 d_AR_level_53 rfl (lv_at hl 2 rfl) ?_
        refine mm_get (C := R_AR) (T := T_AR) (N := 11) S hK.1 hw hX_16 rfl in_AR 1 (by decide) gw_89 rfl rfl d_AR_level_54 ?_
        refine lv_iconst (v := 1) S.1 S.2.1 d_AR_level_57 (by decide) ?_
        refine lv_iadd S.1 S.2.1 d_AR_level_58 ?_
        refine lv_aload_nN S.1 S.2.1 d_AR_level_59 rfl (lv_at hl 1 rfl) ?_
        refine lv_iload_n S.1 S.2.1 d_AR_level_60 rfl (lv_at hl 0 rfl) ?_
        refine mm_callv hw (mm_runI (a := q15) (As := [.int ((I 1) + 1), .null, .int 1]) (rest := [.ref q15]) S hK hw (c_LV_init l D dA _ q15 (((I 1) + 1)) (1) none hq15_16 _) bi_LV_init gw_131 (⟨rfl, rfl, by decide, by decide, by decide, by decide⟩) hl.1 rfl rfl (Nat.le_of_ble_eq_true rfl) d_AR_level_61) (fun M18 H locs hp hw => ?_)
        have hX_19 : M18 x = some (.inr (0, [.ref lv, .int (I 1), .int (I 2), .ref sr, .ref gd, .int (I 3), .ref rs, .ref ss, .ref dr, .ref cs, .ref cg])) := by rw [hp]; exact mm_uk hq15_16 hX_16 (by simp)
        have hlv_20 : M18 lv = some (.inl (dA 3, 100, .inr (.inr (.inr (.inr (fL)))))) := by rw [hp]; exact mm_uk hq15_16 hlv_16 (by simp)
        have hq15_21 : M18 q15 = some (.inr (5, [.int ((I 1) + 1), .null, .int 1, .null, .int 0])) := by rw [hp]; exact mm_us
        have eM18 := hp
        refine lv_astore (lv' := [(4, .ref q15), (3, .int 1), (2, .null), (0, .ref x), (1, .int k)]) S.1 S.2.1 d_AR_level_64 hl (by decide) rfl (fun ls hl => ?_)
        refine lv_aload_n S.1 S.2.1 d_AR_level_66 rfl (lv_at hl 3 rfl) ?_
        refine mm_get (C := R_AR) (T := T_AR) (N := 11) S hK.1 hw hX_19 rfl in_AR 0 (by decide) gw_88 rfl rfl d_AR_level_67 ?_
        refine lv_aload_n S.1 S.2.1 d_AR_level_70 rfl (lv_at hl 3 rfl) ?_
        refine mm_get (C := R_AR) (T := T_AR) (N := 11) S hK.1 hw hX_19 rfl in_AR 1 (by decide) gw_89 rfl rfl d_AR_level_71 ?_
        refine lv_aload S.1 S.2.1 d_AR_level_74 (lv_at hl 0 rfl) ?_
        refine mn_astq (j := n) (r := (R_LV, T_LV, 5)) S hK.1 hw 3 5 hlv_20 rfl hq15_21 rfl (hn) (by omega) (by decide) d_AR_level_76 (fun H locs hw => ?_)
        obtain ⟨M22, eM22⟩ : ∃ zM : mm_M, zM = mm_up M18 lv (.inl (dA 3, 100, .inr (.inr (.inr (.inr (va_up (fL) (n) (some q15))))))) := ⟨_, rfl⟩
        have hw : mm_w D vC _ _ (mm_up M18 lv (.inl (dA 3, 100, .inr (.inr (.inr (.inr (va_up (fL) (n) (some q15)))))))) H _ := hw
        rw [← eM22] at hw
        have hX_22 : M22 x = some (.inr (0, [.ref lv, .int (I 1), .int (I 2), .ref sr, .ref gd, .int (I 3), .ref rs, .ref ss, .ref dr, .ref cs, .ref cg])) := by rw [eM22]; exact mm_uk hlv_20 hX_19 (by simp)
        have hq15_22 : M22 q15 = some (.inr (5, [.int ((I 1) + 1), .null, .int 1, .null, .int 0])) := by rw [eM22]; exact mm_uk hlv_20 hq15_21 (by simp)
        have hlv_22 : M22 lv = some (.inl (dA 3, 100, .inr (.inr (.inr (.inr (va_up (fL) (n) (some q15))))))) := by rw [eM22]; exact mm_us
        refine lv_aload_n S.1 S.2.1 d_AR_level_77 rfl (lv_at hl 3 rfl) ?_
        refine lv_dup S.1 S.2.1 d_AR_level_78 rfl ?_
        refine mm_get (C := R_AR) (T := T_AR) (N := 11) S hK.1 hw hX_22 rfl in_AR 1 (by decide) gw_89 rfl rfl d_AR_level_79 ?_
        refine lv_iconst (v := 1) S.1 S.2.1 d_AR_level_82 (by decide) ?_
        refine lv_iadd S.1 S.2.1 d_AR_level_83 ?_
        refine mm_put (C := R_AR) (T := T_AR) (N := 11) (ty := .int) (v := .int ((I 1) + 1)) S hK.1 hw hX_22 rfl in_AR t_AR k_AR n_AR 1 (by decide) gw_89 rfl rfl (by decide +kernel) (rfl) (rfl) (Nat.le_of_ble_eq_true rfl) d_AR_level_84 (fun H locs hw => ?_)
        obtain ⟨M23, eM23⟩ : ∃ zM : mm_M, zM = mm_up M22 x (.inr (0, [.ref lv, .int ((I 1) + 1), .int (I 2), .ref sr, .ref gd, .int (I 3), .ref rs, .ref ss, .ref dr, .ref cs, .ref cg])) := ⟨_, rfl⟩
        have hw : mm_w D vC _ _ (mm_up M22 x (.inr (0, [.ref lv, .int ((I 1) + 1), .int (I 2), .ref sr, .ref gd, .int (I 3), .ref rs, .ref ss, .ref dr, .ref cs, .ref cg]))) H _ := hw
        rw [← eM23] at hw
        have hlv_23 : M23 lv = some (.inl (dA 3, 100, .inr (.inr (.inr (.inr (va_up (fL) (n) (some q15))))))) := by rw [eM23]; exact mm_uk hX_22 hlv_22 (by simp)
        have hq15_23 : M23 q15 = some (.inr (5, [.int ((I 1) + 1), .null, .int 1, .null, .int 0])) := by rw [eM23]; exact mm_uk hX_22 hq15_22 (by simp)
        have hX_23 : M23 x = some (.inr (0, [.ref lv, .int ((I 1) + 1), .int (I 2), .ref sr, .ref gd, .int (I 3), .ref rs, .ref ss, .ref dr, .ref cs, .ref cg])) := by rw [eM23]; exact mm_us
        refine lv_aload S.1 S.2.1 d_AR_level_87 (lv_at hl 0 rfl) ?_
        refine mm_get (C := R_LV) (T := T_LV) (N := 5) S hK.1 hw hq15_23 rfl in_LV 0 (by decide) gw_136 rfl rfl d_AR_level_89 ?_
        have hn100 : ¬ I 1 = 100 := fun h => c38 (by rw [h]; decide)
        have hd20 : ¬ F 1 (cN k) = 20 := by
          rw [c7, show cN 0 = 0 from rfl, hwf.2.2.2.2.2.1.1.2]
          decide
        have hi1 : I 1 + 1 = nI (n + 1) := by rw [hn, nI_1]
        have hci : cN (I 1 + 1) = n + 1 := cN_I hi1 (by omega)
        have hk9 : kt M M23 [0, 1100] := by
          have e9 : M18 = mm_up M q15 (.inr (5, [.int ((I 1) + 1), .null, .int 1, .null, .int 0])) := by rw [eM18, eM16]; exact mm_uu
          rw [eM23, eM22, e9]
          exact kt_tr (kt_nw hqq15) (kt_tr (kt_up (e0 := aQ (dA 3) 100 fL) (mm_fk hqq15 hlv) (by simp [tg])) (kt_up (mm_uk (mm_fk hqq15 hlv) (mm_fk hqq15 hX) (by simp)) (by simp [tg])))
        have hlk : lk la k = none := by rw [lk, if_pos c7]
        have hqf : M23 q15 = some (.inr (5, [.int (nI (n + 1)), va_rf (lk la k), .int (F 1 (cN k) + 1), .null, .int 0])) := by
          rw [hlk, ← hi1, c7, show cN 0 = 0 from rfl, hwf.2.2.2.2.2.1.1.2]
          exact hq15_23
        have hP9 : cP dA M23 x (upd (upd I 0 0) 1 (I 1 + 1)) (va_up (va_up F 0 (upd (F 0) (cN (I 1 + 1)) k)) 1 (upd (F 1) (cN (I 1 + 1)) (F 1 (cN k) + 1))) st (nc + 1) := ⟨lv, sr, gd, rs, ss, dr, cs, cg, hX_23, cL_new (n := n) (ne := cN (I 2)) (q := q15) (k := k) hcn (by omega) rfl (by rw [← hcn]; exact hwf.2.2.2.2.2.1) (hwf.2.2.2.2.2.2.1 (n + 1) (by omega)) hfl hla hea hch hk9 hlv_23 hqf (Or.inl c7) hci rfl (by rw [hci]), cG_k hk9 hG (by decide) rfl rfl rfl rfl, cS_k hk9 hS (by decide) rfl rfl, hk9 _ _ hR (by simp [tg]), hk9 _ _ hT (by simp [tg]), cD_k hk9 hD (by decide) rfl rfl, cC_k hk9 hCs (by decide) rfl, cE_k hk9 hE (by decide) (by omega) rfl⟩
        exact mm_reti S.1 S.2.1 hr hlocks hA hQ hw (cs_done hP9 (show sp_level k I F st = (I 1 + 1, _, _, _) by simp only [sp_level, eq_false hc3, not_true_eq_false, not_false_eq_true, and_true, true_and, and_false, false_and, and_self, or_true, true_or, or_false, false_or, or_self, ↓reduceIte, eq_false hn100, eq_false hd20, eq_true c7])) (Nat.le_of_ble_eq_true rfl) (Nat.le_of_ble_eq_true rfl) d_AR_level_92
    · refine lv_aload_nN S.1 S.2.1 d_AR_level_10 rfl (lv_at hl 0 rfl) ?_
      refine lv_ifnonnullN S.1 S.2.1 d_AR_level_11 ?_
      refine lv_bipush (v := (-2)) S.1 S.2.1 d_AR_level_14 (by decide) ?_
      exact mm_reti S.1 S.2.1 hr hlocks hA hQ hw (cs_same hC (show sp_level k I F st = ((-2), upd I 0 0, F, st) by simp only [sp_level, eq_false hc3, not_true_eq_false, not_false_eq_true, and_true, true_and, and_false, false_and, and_self, or_true, true_or, or_false, false_or, or_self, ↓reduceIte, eq_false c7])) (Nat.le_of_ble_eq_true rfl) (Nat.le_of_ble_eq_true rfl) d_AR_level_16
theorem d_AR_exit_0 : decode b_AR_exit 0 = .ok (.aload_n 0, 1) := by decide +kernel
theorem d_AR_exit_1 : decode b_AR_exit 1 = .ok (.iload_n 1, 1) := by decide +kernel
theorem d_AR_exit_2 : decode b_AR_exit 2 = .ok (.invokevirtual 57, 3) := by decide +kernel
theorem d_AR_exit_5 : decode b_AR_exit 5 = .ok (.astore 4, 2) := by decide +kernel
theorem d_AR_exit_7 : decode b_AR_exit 7 = .ok (.aload 4, 2) := by decide +kernel
theorem d_AR_exit_9 : decode b_AR_exit 9 = .ok (.ifnonnull 6, 3) := by decide +kernel
theorem d_AR_exit_12 : decode b_AR_exit 12 = .ok (.bipush (-2), 2) := by decide +kernel
theorem d_AR_exit_14 : decode b_AR_exit 14 = .ok (.ireturn, 1) := by decide +kernel
theorem d_AR_exit_15 : decode b_AR_exit 15 = .ok (.iload_n 2, 1) := by decide +kernel
theorem d_AR_exit_16 : decode b_AR_exit 16 = .ok (.ifCond .lt 8, 3) := by decide +kernel
theorem d_AR_exit_19 : decode b_AR_exit 19 = .ok (.iload_n 2, 1) := by decide +kernel
theorem d_AR_exit_20 : decode b_AR_exit 20 = .ok (.iconst 3, 1) := by decide +kernel
theorem d_AR_exit_21 : decode b_AR_exit 21 = .ok (.if_icmp .le 6, 3) := by decide +kernel
theorem d_AR_exit_24 : decode b_AR_exit 24 = .ok (.bipush (-4), 2) := by decide +kernel
theorem d_AR_exit_26 : decode b_AR_exit 26 = .ok (.ireturn, 1) := by decide +kernel
theorem d_AR_exit_27 : decode b_AR_exit 27 = .ok (.aload 4, 2) := by decide +kernel
theorem d_AR_exit_29 : decode b_AR_exit 29 = .ok (.getfield 74, 3) := by decide +kernel
theorem d_AR_exit_32 : decode b_AR_exit 32 = .ok (.bipush 10, 2) := by decide +kernel
theorem d_AR_exit_34 : decode b_AR_exit 34 = .ok (.if_icmp .ge 13, 3) := by decide +kernel
theorem d_AR_exit_37 : decode b_AR_exit 37 = .ok (.aload_n 0, 1) := by decide +kernel
theorem d_AR_exit_38 : decode b_AR_exit 38 = .ok (.getfield 77, 3) := by decide +kernel
theorem d_AR_exit_41 : decode b_AR_exit 41 = .ok (.sipush 300, 3) := by decide +kernel
theorem d_AR_exit_44 : decode b_AR_exit 44 = .ok (.if_icmp .lt 5, 3) := by decide +kernel
theorem d_AR_exit_47 : decode b_AR_exit 47 = .ok (.iconst (-1), 1) := by decide +kernel
theorem d_AR_exit_48 : decode b_AR_exit 48 = .ok (.ireturn, 1) := by decide +kernel
theorem d_AR_exit_49 : decode b_AR_exit 49 = .ok (.aload_n 0, 1) := by decide +kernel
theorem d_AR_exit_50 : decode b_AR_exit 50 = .ok (.dup, 1) := by decide +kernel
theorem d_AR_exit_51 : decode b_AR_exit 51 = .ok (.getfield 77, 3) := by decide +kernel
theorem d_AR_exit_54 : decode b_AR_exit 54 = .ok (.iconst 1, 1) := by decide +kernel
theorem d_AR_exit_55 : decode b_AR_exit 55 = .ok (.iadd, 1) := by decide +kernel
theorem d_AR_exit_56 : decode b_AR_exit 56 = .ok (.putfield 77, 3) := by decide +kernel
theorem d_AR_exit_59 : decode b_AR_exit 59 = .ok (.aload 4, 2) := by decide +kernel
theorem d_AR_exit_61 : decode b_AR_exit 61 = .ok (.new 80, 3) := by decide +kernel
theorem d_AR_exit_64 : decode b_AR_exit 64 = .ok (.dup, 1) := by decide +kernel
theorem d_AR_exit_65 : decode b_AR_exit 65 = .ok (.aload_n 0, 1) := by decide +kernel
theorem d_AR_exit_66 : decode b_AR_exit 66 = .ok (.getfield 77, 3) := by decide +kernel
theorem d_AR_exit_69 : decode b_AR_exit 69 = .ok (.iload_n 2, 1) := by decide +kernel
theorem d_AR_exit_70 : decode b_AR_exit 70 = .ok (.iload_n 3, 1) := by decide +kernel
theorem d_AR_exit_71 : decode b_AR_exit 71 = .ok (.aload 4, 2) := by decide +kernel
theorem d_AR_exit_73 : decode b_AR_exit 73 = .ok (.getfield 82, 3) := by decide +kernel
theorem d_AR_exit_76 : decode b_AR_exit 76 = .ok (.invokespecial 86, 3) := by decide +kernel
theorem d_AR_exit_79 : decode b_AR_exit 79 = .ok (.putfield 82, 3) := by decide +kernel
theorem d_AR_exit_82 : decode b_AR_exit 82 = .ok (.aload 4, 2) := by decide +kernel
theorem d_AR_exit_84 : decode b_AR_exit 84 = .ok (.dup, 1) := by decide +kernel
theorem d_AR_exit_85 : decode b_AR_exit 85 = .ok (.getfield 74, 3) := by decide +kernel
theorem d_AR_exit_88 : decode b_AR_exit 88 = .ok (.iconst 1, 1) := by decide +kernel
theorem d_AR_exit_89 : decode b_AR_exit 89 = .ok (.iadd, 1) := by decide +kernel
theorem d_AR_exit_90 : decode b_AR_exit 90 = .ok (.putfield 74, 3) := by decide +kernel
theorem d_AR_exit_93 : decode b_AR_exit 93 = .ok (.aload_n 0, 1) := by decide +kernel
theorem d_AR_exit_94 : decode b_AR_exit 94 = .ok (.getfield 77, 3) := by decide +kernel
theorem d_AR_exit_97 : decode b_AR_exit 97 = .ok (.ireturn, 1) := by decide +kernel
set_option maxHeartbeats 4000000 in
set_option maxRecDepth 100000 in
theorem c_AR_exit (l : Launch) (D : va_G) (dA : Nat → ClassId) (M : mm_M) (x nc : Nat) (I : sI) (F : sF) (st : sT) (hC : cP dA M x I F st nc) (hwf : wf I F st) (k d z : Int32) (hz : z = 0 ∨ z = 1) : mm_Ci l y_AR_exit w_AR_exit ({ frames := 2, cells := 1, slots := 5, locals := 44 }) 1 5 D vC (tyL dA) [.ref x, .int k, .int d, .int z] M (cs_post dA x nc (sp_exit k d z I F st)) := by
  intro sz
  refine mm_start (by decide) (Nat.le_of_ble_eq_true rfl) ?_
  intro p e s m below meth c A Q ls hA hQ S hr hlocks hin hK hw hl
  have hl : lv_has ls 5 [(0, .ref x), (1, .int k), (2, .int d), (3, .int z)] := hl
  obtain ⟨lv, sr, gd, rs, ss, dr, cs, cg, hX, hL, hG, hS, hR, hT, hD, hCs, hE⟩ := id hC
  have hX : M x = some (.inr (0, [.ref lv, .int (I 1), .int (I 2), .ref sr, .ref gd, .int (I 3), .ref rs, .ref ss, .ref dr, .ref cs, .ref cg])) := hX
  obtain ⟨fL, la, ea, er, hlv, hfl, hla, hea, hch⟩ := id hL
  obtain ⟨n, hn, hN⟩ := hwf.1
  have hcn : cN (I 1) = n := cN_I hn (by omega)
  refine lv_aload_n S.1 S.2.1 d_AR_exit_0 rfl (lv_at hl 0 rfl) ?_
  refine lv_iload_n S.1 S.2.1 d_AR_exit_1 rfl (lv_at hl 1 rfl) ?_
  refine mm_callq hw (mm_runV (a := x) (As := [.int k]) (rest := []) S hK hw (c_AR_levelOf l D dA _ x lv sr gd rs ss dr cs cg I fL k n hn hN hX hlv _) bv_AR_levelOf gw_126 hX rfl (⟨rfl, rfl, by decide, by decide, by decide, by decide⟩) hl.1 rfl rfl (Nat.le_of_ble_eq_true rfl) d_AR_exit_2) (fun r1 M2 H locs hp hw => ?_)
  rw [hp.1] at hw
  rcases hp.2 with ⟨hc3, er9⟩ | ⟨hc3, rfl⟩
  · obtain ⟨j, ek, hj1, hjn, en⟩ := is_of hn (by omega) hc3
    have er9 : r1 = some (la j) := by rw [er9, cN, en, hfl (j - 1) (by omega)]; congr 2; omega
    subst er9
    refine W.eq (g2 := F0 m 5 ls [.ref (la j)]) rfl ?_
    have hlj : M (la j) = some (oL la ea F j) := hla j hj1 (by omega)
    have en : cN k = j := en
    obtain ⟨zc, hze, hz10, hzr⟩ := hwf.2.2.2.2.2.1.2.2 j hj1 (by omega)
    obtain ⟨ne, hne, hNE⟩ := hwf.2.1
    have hcne : cN (I 2) = ne := cN_I hne (by omega)
    refine lv_astore (lv' := [(4, .ref (la j)), (0, .ref x), (1, .int k), (2, .int d), (3, .int z)]) S.1 S.2.1 d_AR_exit_5 hl (by decide) rfl (fun ls hl => ?_)
    refine lv_aload S.1 S.2.1 d_AR_exit_7 (lv_at hl 0 rfl) ?_
    refine lv_ifnonnull (tgt := 15) S.1 S.2.1 d_AR_exit_9 (by decide) ?_
    refine lv_iload_n S.1 S.2.1 d_AR_exit_15 rfl (lv_at hl 3 rfl) ?_
    refine lv_if_lt (tgt := 24) S.1 S.2.1 d_AR_exit_16 (by decide) (fun c16 => ?_) (fun c16 => ?_)
    · refine lv_bipush (v := (-4)) S.1 S.2.1 d_AR_exit_24 (by decide) ?_
      exact mm_reti S.1 S.2.1 hr hlocks hA hQ hw (cs_same hC (show sp_exit k d z I F st = ((-4), upd I 0 0, F, st) by simp only [sp_exit, eq_true hc3, eq_true c16, not_true_eq_false, not_false_eq_true, and_true, true_and, and_false, false_and, and_self, or_true, true_or, or_false, false_or, or_self, ↓reduceIte, en])) (Nat.le_of_ble_eq_true rfl) (Nat.le_of_ble_eq_true rfl) d_AR_exit_26
    · refine lv_iload_n S.1 S.2.1 d_AR_exit_19 rfl (lv_at hl 3 rfl) ?_
      refine lv_iconst (v := 3) S.1 S.2.1 d_AR_exit_20 (by decide) ?_
      refine lv_icmp_le (tgt := 27) S.1 S.2.1 d_AR_exit_21 (by decide) (fun c21 => ?_) (fun c21 => ?_)
      · refine lv_aload S.1 S.2.1 d_AR_exit_27 (lv_at hl 0 rfl) ?_
        refine mm_get (C := R_LV) (T := T_LV) (N := 5) S hK.1 hw hlj rfl in_LV 4 (by decide) gw_144 rfl rfl d_AR_exit_29 ?_
        refine lv_bipush (v := 10) S.1 S.2.1 d_AR_exit_32 (by decide) ?_
        refine lv_icmp_ge (tgt := 47) S.1 S.2.1 d_AR_exit_34 (by decide) (fun c34 => ?_) (fun c34 => ?_)
        · refine lv_iconst (v := (-1)) S.1 S.2.1 d_AR_exit_47 (by decide) ?_
          have h10 : F 2 j = 10 := by
            rw [hze] at c34 ⊢
            have h9 := (nI_leI (a := 10) (by decide) (by omega)).mp c34
            rw [show zc = 10 by omega]; rfl
          exact mm_reti S.1 S.2.1 hr hlocks hA hQ hw (cs_same hC (show sp_exit k d z I F st = ((-1), upd I 0 0, F, st) by simp only [sp_exit, eq_true hc3, eq_false c16, eq_true c21, eq_true h10, not_true_eq_false, not_false_eq_true, and_true, true_and, and_false, false_and, and_self, or_true, true_or, or_false, false_or, or_self, ↓reduceIte, en])) (Nat.le_of_ble_eq_true rfl) (Nat.le_of_ble_eq_true rfl) d_AR_exit_48
        · refine lv_aload_n S.1 S.2.1 d_AR_exit_37 rfl (lv_at hl 1 rfl) ?_
          refine mm_get (C := R_AR) (T := T_AR) (N := 11) S hK.1 hw hX rfl in_AR 2 (by decide) gw_90 rfl rfl d_AR_exit_38 ?_
          refine lv_sipush (v := 300) S.1 S.2.1 d_AR_exit_41 (by decide) ?_
          refine lv_icmp_lt (tgt := 49) S.1 S.2.1 d_AR_exit_44 (by decide) (fun c44 => ?_) (fun c44 => ?_)
          · refine lv_aload_n S.1 S.2.1 d_AR_exit_49 rfl (lv_at hl 1 rfl) ?_
            refine lv_dup S.1 S.2.1 d_AR_exit_50 rfl ?_
            refine mm_get (C := R_AR) (T := T_AR) (N := 11) S hK.1 hw hX rfl in_AR 2 (by decide) gw_90 rfl rfl d_AR_exit_51 ?_
            refine lv_iconst (v := 1) S.1 S.2.1 d_AR_exit_54 (by decide) ?_
            refine lv_iadd S.1 S.2.1 d_AR_exit_55 ?_
            refine mm_put (C := R_AR) (T := T_AR) (N := 11) (ty := .int) (v := .int ((I 2) + 1)) S hK.1 hw hX rfl in_AR t_AR k_AR n_AR 2 (by decide) gw_90 rfl rfl (by decide +kernel) (rfl) (rfl) (Nat.le_of_ble_eq_true rfl) d_AR_exit_56 (fun H locs hw => ?_)
            obtain ⟨M4, eM4⟩ : ∃ zM : mm_M, zM = mm_up M x (.inr (0, [.ref lv, .int (I 1), .int ((I 2) + 1), .ref sr, .ref gd, .int (I 3), .ref rs, .ref ss, .ref dr, .ref cs, .ref cg])) := ⟨_, rfl⟩
            have hw : mm_w D vC _ _ (mm_up M x (.inr (0, [.ref lv, .int (I 1), .int ((I 2) + 1), .ref sr, .ref gd, .int (I 3), .ref rs, .ref ss, .ref dr, .ref cs, .ref cg]))) H _ := hw
            rw [← eM4] at hw
            have hlj_4 : M4 (la j) = some (.inr (5, [.int (nI j), va_rf (lk la (F 0 j)), .int (F 1 j), va_rf (tpf ea F j), .int (F 2 j)])) := by rw [eM4]; exact mm_uk hX hlj (by simp)
            have hX_4 : M4 x = some (.inr (0, [.ref lv, .int (I 1), .int ((I 2) + 1), .ref sr, .ref gd, .int (I 3), .ref rs, .ref ss, .ref dr, .ref cs, .ref cg])) := by rw [eM4]; exact mm_us
            refine lv_aload S.1 S.2.1 d_AR_exit_59 (lv_at hl 0 rfl) ?_
            refine mm_new (C := R_EX) (T := T_EX) (N := 5) (ci := 6) (fs := [.int 0, .int 0, .int 0, .null, .int 0]) S hK.1 hw rfl in_EX t_EX k_EX gw_160 gw_161 gw_15 (fun j hj => by rcases (show j = 0 ∨ j = 1 ∨ j = 2 ∨ j = 3 ∨ j = 4 by omega) with rfl | rfl | rfl | rfl | rfl <;> rfl) (Nat.le_of_ble_eq_true rfl) (Nat.le_of_ble_eq_true rfl) d_AR_exit_61 (fun q5 H hqq5 hw => ?_)
            obtain ⟨M6, eM6⟩ : ∃ zM : mm_M, zM = mm_up M4 q5 (.inr (6, [.int 0, .int 0, .int 0, .null, .int 0])) := ⟨_, rfl⟩
            have hw : mm_w D vC _ _ (mm_up M4 q5 (.inr (6, [.int 0, .int 0, .int 0, .null, .int 0]))) H _ := hw
            rw [← eM6] at hw
            have hX_6 : M6 x = some (.inr (0, [.ref lv, .int (I 1), .int ((I 2) + 1), .ref sr, .ref gd, .int (I 3), .ref rs, .ref ss, .ref dr, .ref cs, .ref cg])) := by rw [eM6]; exact mm_fk hqq5 hX_4
            have hlj_6 : M6 (la j) = some (.inr (5, [.int (nI j), va_rf (lk la (F 0 j)), .int (F 1 j), va_rf (tpf ea F j), .int (F 2 j)])) := by rw [eM6]; exact mm_fk hqq5 hlj_4
            have hq5_6 : M6 q5 = some (.inr (6, [.int 0, .int 0, .int 0, .null, .int 0])) := by rw [eM6]; exact mm_us
            refine lv_dup S.1 S.2.1 d_AR_exit_64 rfl ?_
            refine lv_aload_n S.1 S.2.1 d_AR_exit_65 rfl (lv_at hl 1 rfl) ?_
            refine mm_get (C := R_AR) (T := T_AR) (N := 11) S hK.1 hw hX_6 rfl in_AR 2 (by decide) gw_90 rfl rfl d_AR_exit_66 ?_
            refine lv_iload_n S.1 S.2.1 d_AR_exit_69 rfl (lv_at hl 3 rfl) ?_
            refine lv_iload_n S.1 S.2.1 d_AR_exit_70 rfl (lv_at hl 4 rfl) ?_
            refine lv_aload S.1 S.2.1 d_AR_exit_71 (lv_at hl 0 rfl) ?_
            refine mm_get (C := R_LV) (T := T_LV) (N := 5) S hK.1 hw hlj_6 rfl in_LV 3 (by decide) gw_143 rfl rfl d_AR_exit_73 ?_
            refine mm_callv hw (mm_runI (a := q5) (As := [.int ((I 2) + 1), .int d, .int z, va_rf (tpf ea F j)]) (rest := [.ref q5, .ref (la j)]) S hK hw (c_EX_init l D dA _ q5 (((I 2) + 1)) (d) (z) (tpf ea F j) hz hq5_6 _) bi_EX_init gw_162 (⟨rfl, rfl, by decide, by decide, by decide, by decide⟩) hl.1 rfl rfl (Nat.le_of_ble_eq_true rfl) d_AR_exit_76) (fun M8 H locs hp hw => ?_)
            have hX_9 : M8 x = some (.inr (0, [.ref lv, .int (I 1), .int ((I 2) + 1), .ref sr, .ref gd, .int (I 3), .ref rs, .ref ss, .ref dr, .ref cs, .ref cg])) := by rw [hp]; exact mm_uk hq5_6 hX_6 (by simp)
            have hlj_10 : M8 (la j) = some (.inr (5, [.int (nI j), va_rf (lk la (F 0 j)), .int (F 1 j), va_rf (tpf ea F j), .int (F 2 j)])) := by rw [hp]; exact mm_uk hq5_6 hlj_6 (by simp)
            have hq5_11 : M8 q5 = some (.inr (6, [.int ((I 2) + 1), .int d, .int z, va_rf (tpf ea F j), .int 0])) := by rw [hp]; exact mm_us
            have eM8 := hp
            refine mm_put (C := R_LV) (T := T_LV) (N := 5) (ty := .object "AbendRows$Exit") (v := .ref q5) S hK.1 hw hlj_10 rfl in_LV t_LV k_LV n_LV 3 (by decide) gw_143 rfl rfl (by decide +kernel) (rfl) (rfl) (Nat.le_of_ble_eq_true rfl) d_AR_exit_79 (fun H locs hw => ?_)
            obtain ⟨M12, eM12⟩ : ∃ zM : mm_M, zM = mm_up M8 (la j) (.inr (5, [.int (nI j), va_rf (lk la (F 0 j)), .int (F 1 j), .ref q5, .int (F 2 j)])) := ⟨_, rfl⟩
            have hw : mm_w D vC _ _ (mm_up M8 (la j) (.inr (5, [.int (nI j), va_rf (lk la (F 0 j)), .int (F 1 j), .ref q5, .int (F 2 j)]))) H _ := hw
            rw [← eM12] at hw
            have hX_12 : M12 x = some (.inr (0, [.ref lv, .int (I 1), .int ((I 2) + 1), .ref sr, .ref gd, .int (I 3), .ref rs, .ref ss, .ref dr, .ref cs, .ref cg])) := by rw [eM12]; exact mm_uk hlj_10 hX_9 (by simp)
            have hq5_12 : M12 q5 = some (.inr (6, [.int ((I 2) + 1), .int d, .int z, va_rf (tpf ea F j), .int 0])) := by rw [eM12]; exact mm_uk hlj_10 hq5_11 (by simp)
            have hlj_12 : M12 (la j) = some (.inr (5, [.int (nI j), va_rf (lk la (F 0 j)), .int (F 1 j), .ref q5, .int (F 2 j)])) := by rw [eM12]; exact mm_us
            refine lv_aload S.1 S.2.1 d_AR_exit_82 (lv_at hl 0 rfl) ?_
            refine lv_dup S.1 S.2.1 d_AR_exit_84 rfl ?_
            refine mm_get (C := R_LV) (T := T_LV) (N := 5) S hK.1 hw hlj_12 rfl in_LV 4 (by decide) gw_144 rfl rfl d_AR_exit_85 ?_
            refine lv_iconst (v := 1) S.1 S.2.1 d_AR_exit_88 (by decide) ?_
            refine lv_iadd S.1 S.2.1 d_AR_exit_89 ?_
            refine mm_put (C := R_LV) (T := T_LV) (N := 5) (ty := .int) (v := .int ((F 2 j) + 1)) S hK.1 hw hlj_12 rfl in_LV t_LV k_LV n_LV 4 (by decide) gw_144 rfl rfl (by decide +kernel) (rfl) (rfl) (Nat.le_of_ble_eq_true rfl) d_AR_exit_90 (fun H locs hw => ?_)
            obtain ⟨M13, eM13⟩ : ∃ zM : mm_M, zM = mm_up M12 (la j) (.inr (5, [.int (nI j), va_rf (lk la (F 0 j)), .int (F 1 j), .ref q5, .int ((F 2 j) + 1)])) := ⟨_, rfl⟩
            have hw : mm_w D vC _ _ (mm_up M12 (la j) (.inr (5, [.int (nI j), va_rf (lk la (F 0 j)), .int (F 1 j), .ref q5, .int ((F 2 j) + 1)]))) H _ := hw
            rw [← eM13] at hw
            have hX_13 : M13 x = some (.inr (0, [.ref lv, .int (I 1), .int ((I 2) + 1), .ref sr, .ref gd, .int (I 3), .ref rs, .ref ss, .ref dr, .ref cs, .ref cg])) := by rw [eM13]; exact mm_uk hlj_12 hX_12 (by simp)
            have hq5_13 : M13 q5 = some (.inr (6, [.int ((I 2) + 1), .int d, .int z, va_rf (tpf ea F j), .int 0])) := by rw [eM13]; exact mm_uk hlj_12 hq5_12 (by simp)
            have hlj_13 : M13 (la j) = some (.inr (5, [.int (nI j), va_rf (lk la (F 0 j)), .int (F 1 j), .ref q5, .int ((F 2 j) + 1)])) := by rw [eM13]; exact mm_us
            refine lv_aload_n S.1 S.2.1 d_AR_exit_93 rfl (lv_at hl 1 rfl) ?_
            refine mm_get (C := R_AR) (T := T_AR) (N := 11) S hK.1 hw hX_13 rfl in_AR 2 (by decide) gw_90 rfl rfl d_AR_exit_94 ?_
            have hf10 : ¬ F 2 j = 10 := fun h => c34 (by rw [h]; decide)
            have hf300 : ¬ I 2 = 300 := fun h => by rw [h] at c44; exact absurd c44 (by decide)
            have hne1 : ne < 300 := by
              rcases Nat.lt_or_ge ne 300 with q | q
              · exact q
              · exact absurd (by rw [hne, show ne = 300 by omega]; rfl) hf300
            have hz1 : zc < 10 := by
              rcases Nat.lt_or_ge zc 10 with q | q
              · exact q
              · exact absurd (by rw [hze, show zc = 10 by omega]; rfl) hf10
            have hi2 : I 2 + 1 = nI (ne + 1) := by rw [hne, nI_1]
            have hci : cN (I 2 + 1) = ne + 1 := cN_I hi2 (by omega)
            have hzc : cN (F 2 j) = zc := cN_I hze (by omega)
            have hx1 : (mm_up M x (.inr (0, [.ref lv, .int (I 1), .int (I 2 + 1), .ref sr, .ref gd, .int (I 3), .ref rs, .ref ss, .ref dr, .ref cs, .ref cg]))) (la j) = some (oL la ea F j) := mm_uk hX hlj (by simp)
            have e3 : M8 = mm_up M4 q5 (.inr (6, [.int ((I 2) + 1), .int d, .int z, va_rf (tpf ea F j), .int 0])) := by rw [eM8, eM6]; exact mm_uu
            have e5 : M13 = mm_up M8 (la j) (.inr (5, [.int (nI j), va_rf (lk la (F 0 j)), .int (F 1 j), .ref q5, .int ((F 2 j) + 1)])) := by rw [eM13, eM12]; exact mm_uu
            have hlj3 : M8 (la j) = some (oL la ea F j) := by rw [e3]; exact mm_fk hqq5 (by rw [eM4]; exact hx1)
            have hk1 : kt M M4 [0] := by rw [eM4]; exact kt_up hX (by simp [tg])
            have hk3 : kt M M8 [0] := by rw [e3]; exact kt_tr hk1 (kt_nw hqq5)
            have hk9 : kt M M13 [0, 5] := by rw [e5]; exact kt_tr (kt_mo hk3 (by decide)) (kt_up hlj3 (by simp [tg]))
            have hoth : ∀ a, 1 ≤ a → a ≤ n → a ≠ j → M13 (la a) = some (oL la ea F a) := fun a p1 p2 p3 => by
              rw [e5]
              exact mm_uk hlj3 (hk3 _ _ (hla a p1 (by omega)) (by simp [tg])) (oL_ne (by omega) (by omega) p3)
            have hP9 : cP dA M13 x (upd (upd I 0 0) 2 (I 2 + 1)) (va_up (va_up (va_up (va_up F 4 (upd (F 4) (cN (I 2 + 1)) d)) 6 (upd (F 6) (cN (I 2 + 1)) z)) 3 (upd (F 3) (10 * cN k + cN (F 2 (cN k))) (I 2 + 1))) 2 (upd (F 2) (cN k) (F 2 (cN k) + 1))) st (nc + 1) := ⟨lv, sr, gd, rs, ss, dr, cs, cg, hX_13, cL_ex (n := n) (ne := ne) (q := q5) (j := j) (zc := zc) (d := d) (z := z) hcn hN hcne hne1 (by rw [← hcn, ← hcne]; exact hwf.2.2.2.2.2.1) (hwf.2.2.2.2.2.2.2.2.1 (ne + 1) (by omega)) hlv hfl hla hea hch hj1 hjn hze hz1 hk9 (by rw [← hi2]; exact hq5_13) hlj_13 hoth rfl hci (by rw [hci, en, hzc, ← hi2]), cG_k hk9 hG (by decide) rfl rfl rfl rfl, cS_k hk9 hS (by decide) rfl rfl, hk9 _ _ hR (by simp [tg]), hk9 _ _ hT (by simp [tg]), cD_k hk9 hD (by decide) rfl rfl, cC_k hk9 hCs (by decide) rfl, cE_k hk9 hE (by decide) (by omega) rfl⟩
            exact mm_reti S.1 S.2.1 hr hlocks hA hQ hw (cs_done hP9 (show sp_exit k d z I F st = (I 2 + 1, _, _, _) by simp only [sp_exit, eq_true hc3, eq_false c16, eq_true c21, not_true_eq_false, not_false_eq_true, and_true, true_and, and_false, false_and, and_self, or_true, true_or, or_false, false_or, or_self, ↓reduceIte, en, eq_false hf10, eq_false hf300])) (Nat.le_of_ble_eq_true rfl) (Nat.le_of_ble_eq_true rfl) d_AR_exit_97
          · refine lv_iconst (v := (-1)) S.1 S.2.1 d_AR_exit_47 (by decide) ?_
            have h300 : I 2 = 300 := by
              rw [hne] at c44 ⊢
              rcases Nat.lt_or_ge ne 300 with q | q
              · exact absurd (nI_lt (b := 300) q (by decide)) c44
              · rw [show ne = 300 by omega]; rfl
            exact mm_reti S.1 S.2.1 hr hlocks hA hQ hw (cs_same hC (show sp_exit k d z I F st = ((-1), upd I 0 0, F, st) by simp only [sp_exit, eq_true hc3, eq_false c16, eq_true c21, eq_true h300, not_true_eq_false, not_false_eq_true, and_true, true_and, and_false, false_and, and_self, or_true, true_or, or_false, false_or, or_self, ↓reduceIte, en])) (Nat.le_of_ble_eq_true rfl) (Nat.le_of_ble_eq_true rfl) d_AR_exit_48
      · refine lv_bipush (v := (-4)) S.1 S.2.1 d_AR_exit_24 (by decide) ?_
        exact mm_reti S.1 S.2.1 hr hlocks hA hQ hw (cs_same hC (show sp_exit k d z I F st = ((-4), upd I 0 0, F, st) by simp only [sp_exit, eq_true hc3, eq_false c16, eq_false c21, not_true_eq_false, not_false_eq_true, and_true, true_and, and_false, false_and, and_self, or_true, true_or, or_false, false_or, or_self, ↓reduceIte, en])) (Nat.le_of_ble_eq_true rfl) (Nat.le_of_ble_eq_true rfl) d_AR_exit_26
  · refine W.eq (g2 := F0 m 5 ls [.null]) rfl ?_
    refine lv_astoreN (lv' := [(4, .null), (0, .ref x), (1, .int k), (2, .int d), (3, .int z)]) S.1 S.2.1 d_AR_exit_5 hl (by decide) rfl (fun ls hl => ?_)
    refine lv_aloadN S.1 S.2.1 d_AR_exit_7 (lv_at hl 0 rfl) ?_
    refine lv_ifnonnullN S.1 S.2.1 d_AR_exit_9 ?_
    refine lv_bipush (v := (-2)) S.1 S.2.1 d_AR_exit_12 (by decide) ?_
    exact mm_reti S.1 S.2.1 hr hlocks hA hQ hw (cs_same hC (show sp_exit k d z I F st = ((-2), upd I 0 0, F, st) by simp only [sp_exit, eq_false hc3, not_true_eq_false, not_false_eq_true, and_true, true_and, and_false, false_and, and_self, or_true, true_or, or_false, false_or, or_self, ↓reduceIte])) (Nat.le_of_ble_eq_true rfl) (Nat.le_of_ble_eq_true rfl) d_AR_exit_14
