theorem lgc_eq {x y : Int64} : lg_cmp x y = 0 ↔ x = y := by
  unfold lg_cmp
  have h0 : ¬ (1 : Int32) = 0 := by decide
  have h2 : ¬ (-1 : Int32) = 0 := by decide
  by_cases a : y < x
  · simp only [a, if_true, h0, false_iff]
    intro q
    subst q
    exact absurd a (by rw [Int64.lt_iff_toInt_lt]; omega)
  · by_cases b : x = y
    · subst b
      simp only [a, if_false, if_true]
    · simp only [a, b, if_false, h2]
/-- the steps: the difference, and the sum -/
theorem lp_eq {s w : Int64} {u : Nat} (hs : s = lN u) (hu : u ≤ 1000) (hw : ¬ w < 0) : 1000 - s < w ↔ (1000 < w ∨ 1000 < s + w) := by
  obtain ⟨v, hv, rfl⟩ := pk_lOf hw
  subst hs
  rw [show (1000 : Int64) = lN 1000 from rfl, lN_sub (by omega), lN_add, pk_lLT (by omega) hv, pk_lLT (by omega) hv]
  constructor
  · intro h
    by_cases h2 : 1000 < v
    · exact Or.inl h2
    · exact Or.inr ((pk_lLT (by omega) (by omega)).mpr (by omega))
  · rintro (h | h)
    · omega
    · by_cases h2 : 1000 < v
      · omega
      · have := (pk_lLT (a := 1000) (b := u + v) (by omega) (by omega)).mp h
        omega
theorem cnt_none {f : Nat → Int32} {k : Int32} : ∀ n : Nat, (∀ j, j < n → is_ok 9999 (f j)) → ¬ is_ok 9999 k → cnt f k n = 0
  | 0, _, _ => rfl
  | n + 1, h, hk => by
    have hne : ¬ f n = k := fun e => hk (by rw [← e]; exact h n (by omega))
    rw [cnt, if_neg hne]
    exact cnt_none n (fun j hj => h j (by omega)) hk
theorem cnt_up {f : Nat → Int32} {c d : Int32} {m : Nat} : ∀ n : Nat, n ≤ m → cnt (upd f m d) c n = cnt f c n
  | 0, _ => rfl
  | n + 1, h => by rw [cnt, cnt, cnt_up n (by omega), pk_un (by omega)]
theorem bw_1 : ∀ r, r < 64 → ((1 : Int64) <<< ((nI r).toInt64 &&& 63)).toBitVec = BitVec.twoPow 64 r := by decide +kernel
theorem bw_has {w m : Int64} {j : Nat} (hj : j < 64) (hm : m.toBitVec = BitVec.twoPow 64 j) : (w &&& m) = 0 ↔ w.toBitVec.getLsbD j = false := by
  constructor
  · intro h
    have h1 := congrArg (fun z : Int64 => z.toBitVec.getLsbD j) h
    simp only [Int64.toBitVec_and, BitVec.getLsbD_and, hm, BitVec.getLsbD_twoPow] at h1
    simpa [hj] using h1
  · intro h
    apply Int64.toBitVec_inj.mp
    rw [Int64.toBitVec_and, hm]
    apply BitVec.eq_of_getLsbD_eq
    intro i hi
    rw [BitVec.getLsbD_and, BitVec.getLsbD_twoPow]
    by_cases hij : j = i
    · subst hij
      simp [h]
    · simp [hij]
theorem bw_off {w m : Int64} {j i : Nat} (hi : i < 64) (hm : m.toBitVec = BitVec.twoPow 64 j) : (w &&& (m ^^^ (-1))).toBitVec.getLsbD i = (w.toBitVec.getLsbD i && !decide (i = j)) := by
  rw [Int64.toBitVec_and, Int64.toBitVec_xor, hm, show (-1 : Int64).toBitVec = BitVec.allOnes 64 from by decide, BitVec.getLsbD_and, BitVec.getLsbD_xor, BitVec.getLsbD_twoPow, BitVec.getLsbD_allOnes]
  by_cases h : j = i
  · subst h; simp [hi]
  · have h' : ¬ i = j := fun q => h q.symm
    simp [h, h', hi]
theorem bw_on {w m : Int64} {j i : Nat} (hi : i < 64) (hm : m.toBitVec = BitVec.twoPow 64 j) : (w ||| m).toBitVec.getLsbD i = (w.toBitVec.getLsbD i || decide (i = j)) := by
  rw [Int64.toBitVec_or, hm, BitVec.getLsbD_or, BitVec.getLsbD_twoPow]
  by_cases h : j = i
  · subst h; simp [hi]
  · have h' : ¬ i = j := fun q => h q.symm
    simp [h, h', hi]

theorem d_SE_askedAt_0 : decode b_SE_askedAt 0 = .ok (.iload_n 1, 1) := by decide +kernel
theorem d_SE_askedAt_1 : decode b_SE_askedAt 1 = .ok (.ifCond .lt 20, 3) := by decide +kernel
theorem d_SE_askedAt_4 : decode b_SE_askedAt 4 = .ok (.iload_n 1, 1) := by decide +kernel
theorem d_SE_askedAt_5 : decode b_SE_askedAt 5 = .ok (.aload_n 0, 1) := by decide +kernel
theorem d_SE_askedAt_6 : decode b_SE_askedAt 6 = .ok (.getfield 15, 3) := by decide +kernel
theorem d_SE_askedAt_9 : decode b_SE_askedAt 9 = .ok (.if_icmp .ge 12, 3) := by decide +kernel
theorem d_SE_askedAt_12 : decode b_SE_askedAt 12 = .ok (.aload_n 0, 1) := by decide +kernel
theorem d_SE_askedAt_13 : decode b_SE_askedAt 13 = .ok (.getfield 9, 3) := by decide +kernel
theorem d_SE_askedAt_16 : decode b_SE_askedAt 16 = .ok (.iload_n 1, 1) := by decide +kernel
theorem d_SE_askedAt_17 : decode b_SE_askedAt 17 = .ok (.iaload, 1) := by decide +kernel
theorem d_SE_askedAt_18 : decode b_SE_askedAt 18 = .ok (.goto 4, 3) := by decide +kernel
theorem d_SE_askedAt_21 : decode b_SE_askedAt 21 = .ok (.iconst 0, 1) := by decide +kernel
theorem d_SE_askedAt_22 : decode b_SE_askedAt 22 = .ok (.ireturn, 1) := by decide +kernel
set_option maxHeartbeats 4000000 in
set_option maxRecDepth 100000 in
theorem c_SE_askedAt (l : Launch) (D : va_G) (dA : Nat → ClassId) (M : mm_M) (sr ak na : Nat) (fA : Nat → Int32) (v sc i : Int32) (hv : v = nI na) (hna : na ≤ 200) (hsr : M sr = some (.inr (1, [.ref ak, .int v, .int sc]))) (hak : M ak = some (aI (dA 0) 200 fA)) : mm_Ci l y_SE_askedAt w_SE_askedAt ({ frames := 0, cells := 0, slots := 0, locals := 0 }) 0 0 D vC (tyL dA) [.ref sr, .int i] M (fun r M' => M' = M ∧ r = (if ¬ i < 0 ∧ ¬ v ≤ i then fA (cN i) else 0)) := by
  intro sz
  refine mm_start (by decide) (Nat.le_of_ble_eq_true rfl) ?_
  intro p e s m below meth c A Q ls hA hQ S hr hlocks hin hK hw hl
  have hl : lv_has ls 2 [(0, .ref sr), (1, .int i)] := hl
  refine lv_iload_n S.1 S.2.1 d_SE_askedAt_0 rfl (lv_at hl 1 rfl) ?_
  refine lv_if_lt (tgt := 21) S.1 S.2.1 d_SE_askedAt_1 (by decide) (fun c1 => ?_) (fun c1 => ?_)
  · refine lv_iconst (v := 0) S.1 S.2.1 d_SE_askedAt_21 (by decide) ?_
    exact mm_reti S.1 S.2.1 hr hlocks hA hQ hw (⟨rfl, by rw [if_neg (fun h => h.1 c1)]⟩) (Nat.le_of_ble_eq_true rfl) (Nat.le_of_ble_eq_true rfl) d_SE_askedAt_22
  · refine lv_iload_n S.1 S.2.1 d_SE_askedAt_4 rfl (lv_at hl 1 rfl) ?_
    refine lv_aload_n S.1 S.2.1 d_SE_askedAt_5 rfl (lv_at hl 0 rfl) ?_
    refine mm_get (C := R_SE) (T := T_SE) (N := 3) S hK.1 hw hsr rfl in_SE 1 (by decide) gw_36 rfl rfl d_SE_askedAt_6 ?_
    refine lv_icmp_ge (tgt := 21) S.1 S.2.1 d_SE_askedAt_9 (by decide) (fun c9 => ?_) (fun c9 => ?_)
    · refine lv_iconst (v := 0) S.1 S.2.1 d_SE_askedAt_21 (by decide) ?_
      exact mm_reti S.1 S.2.1 hr hlocks hA hQ hw (⟨rfl, by rw [if_neg (fun h => h.2 c9)]⟩) (Nat.le_of_ble_eq_true rfl) (Nat.le_of_ble_eq_true rfl) d_SE_askedAt_22
    · refine lv_aload_n S.1 S.2.1 d_SE_askedAt_12 rfl (lv_at hl 0 rfl) ?_
      refine mm_get (C := R_SE) (T := T_SE) (N := 3) S hK.1 hw hsr rfl in_SE 0 (by decide) gw_35 rfl rfl d_SE_askedAt_13 ?_
      refine lv_iload_n S.1 S.2.1 d_SE_askedAt_16 rfl (lv_at hl 1 rfl) ?_
      refine mn_iald (j := cN i) S hK.1 hw 0 hak rfl (cl_nI c1) (Nat.lt_of_lt_of_le (cN_lt (n := na) c1 (by rw [← hv]; exact c9) (by omega)) hna) (by decide) d_SE_askedAt_17 ?_
      refine lv_goto (tgt := 22) S.1 S.2.1 d_SE_askedAt_18 (by decide) ?_
      exact mm_reti S.1 S.2.1 hr hlocks hA hQ hw (⟨rfl, by rw [if_pos ⟨c1, c9⟩]⟩) (Nat.le_of_ble_eq_true rfl) (Nat.le_of_ble_eq_true rfl) d_SE_askedAt_22
theorem d_AR_order_0 : decode b_AR_order 0 = .ok (.aload_n 0, 1) := by decide +kernel
theorem d_AR_order_1 : decode b_AR_order 1 = .ok (.getfield 18, 3) := by decide +kernel
theorem d_AR_order_4 : decode b_AR_order 4 = .ok (.iload_n 1, 1) := by decide +kernel
theorem d_AR_order_5 : decode b_AR_order 5 = .ok (.invokevirtual 108, 3) := by decide +kernel
theorem d_AR_order_8 : decode b_AR_order 8 = .ok (.ireturn, 1) := by decide +kernel
set_option maxHeartbeats 4000000 in
set_option maxRecDepth 100000 in
theorem c_AR_order (l : Launch) (D : va_G) (dA : Nat → ClassId) (M : mm_M) (x nc : Nat) (I : sI) (F : sF) (st : sT) (hC : cP dA M x I F st nc) (hwf : wf I F st) (i : Int32) : mm_Ci l y_AR_order w_AR_order ({ frames := 1, cells := 0, slots := 0, locals := 21 }) 0 0 D vC (tyL dA) [.ref x, .int i] M (cs_post dA x nc (sp_order i I F st)) := by
  intro sz
  refine mm_start (by decide) (Nat.le_of_ble_eq_true rfl) ?_
  intro p e s m below meth c A Q ls hA hQ S hr hlocks hin hK hw hl
  have hl : lv_has ls 2 [(0, .ref x), (1, .int i)] := hl
  obtain ⟨lv, sr, gd, rs, ss, dr, cs, cg, hX, hL, hG, hS, hR, hT, hD, hCs, hE⟩ := id hC
  have hX : M x = some (.inr (0, [.ref lv, .int (I 1), .int (I 2), .ref sr, .ref gd, .int (I 3), .ref rs, .ref ss, .ref dr, .ref cs, .ref cg])) := hX
  obtain ⟨ak, fA, sc, hsr, hak, hak2⟩ := id hS
  obtain ⟨na, hna, hNA⟩ := hwf.2.2.2.2.1
  refine lv_aload_n S.1 S.2.1 d_AR_order_0 rfl (lv_at hl 0 rfl) ?_
  refine mm_get (C := R_AR) (T := T_AR) (N := 11) S hK.1 hw hX rfl in_AR 3 (by decide) gw_91 rfl rfl d_AR_order_1 ?_
  refine lv_iload_n S.1 S.2.1 d_AR_order_4 rfl (lv_at hl 1 rfl) ?_
  refine mm_calli hw (mm_runV (a := sr) (As := [.int i]) (rest := []) S hK hw (c_SE_askedAt l D dA _ sr ak na fA (I 5) sc i hna hNA hsr hak _) bv_SE_askedAt gw_223 hsr rfl (⟨rfl, rfl, by decide, by decide, by decide, by decide⟩) hl.1 rfl rfl (Nat.le_of_ble_eq_true rfl) d_AR_order_5) (fun r1 M2 H locs hp hw => ?_)
  rw [hp.1] at hw
  have hr3 := hp.2
  have hsp : sp_order i I F st = (r1, upd I 0 0, F, st) := by
    rw [hr3, sp_order]
    by_cases hcc : ¬ i < 0 ∧ ¬ I 5 ≤ i
    · rw [if_pos hcc, if_pos hcc, hak2 (cN i) (by rw [cN_I hna (by omega)]; exact cN_lt hcc.1 (by rw [← hna]; exact hcc.2) (by omega))]
    · rw [if_neg hcc, if_neg hcc]
  exact mm_reti S.1 S.2.1 hr hlocks hA hQ hw (cs_same hC hsp) (Nat.le_of_ble_eq_true rfl) (Nat.le_of_ble_eq_true rfl) d_AR_order_8
theorem d_AR_loop_0 : decode b_AR_loop 0 = .ok (.iload_n 1, 1) := by decide +kernel
theorem d_AR_loop_1 : decode b_AR_loop 1 = .ok (.invokestatic 115, 3) := by decide +kernel
theorem d_AR_loop_4 : decode b_AR_loop 4 = .ok (.ifCond .eq 9, 3) := by decide +kernel
theorem d_AR_loop_7 : decode b_AR_loop 7 = .ok (.lload_n 2, 1) := by decide +kernel
theorem d_AR_loop_8 : decode b_AR_loop 8 = .ok (.lconst 0, 1) := by decide +kernel
theorem d_AR_loop_9 : decode b_AR_loop 9 = .ok (.lcmp, 1) := by decide +kernel
theorem d_AR_loop_10 : decode b_AR_loop 10 = .ok (.ifCond .ge 6, 3) := by decide +kernel
theorem d_AR_loop_13 : decode b_AR_loop 13 = .ok (.bipush (-4), 2) := by decide +kernel
theorem d_AR_loop_15 : decode b_AR_loop 15 = .ok (.ireturn, 1) := by decide +kernel
theorem d_AR_loop_16 : decode b_AR_loop 16 = .ok (.lload_n 2, 1) := by decide +kernel
theorem d_AR_loop_17 : decode b_AR_loop 17 = .ok (.ldc2_w 172, 3) := by decide +kernel
theorem d_AR_loop_20 : decode b_AR_loop 20 = .ok (.aload_n 0, 1) := by decide +kernel
theorem d_AR_loop_21 : decode b_AR_loop 21 = .ok (.getfield 32, 3) := by decide +kernel
theorem d_AR_loop_24 : decode b_AR_loop 24 = .ok (.iload_n 1, 1) := by decide +kernel
theorem d_AR_loop_25 : decode b_AR_loop 25 = .ok (.laload, 1) := by decide +kernel
theorem d_AR_loop_26 : decode b_AR_loop 26 = .ok (.lsub, 1) := by decide +kernel
theorem d_AR_loop_27 : decode b_AR_loop 27 = .ok (.lcmp, 1) := by decide +kernel
theorem d_AR_loop_28 : decode b_AR_loop 28 = .ok (.ifCond .le 13, 3) := by decide +kernel
theorem d_AR_loop_31 : decode b_AR_loop 31 = .ok (.aload_n 0, 1) := by decide +kernel
theorem d_AR_loop_32 : decode b_AR_loop 32 = .ok (.getfield 32, 3) := by decide +kernel
theorem d_AR_loop_35 : decode b_AR_loop 35 = .ok (.iload_n 1, 1) := by decide +kernel
theorem d_AR_loop_36 : decode b_AR_loop 36 = .ok (.lconst 0, 1) := by decide +kernel
theorem d_AR_loop_37 : decode b_AR_loop 37 = .ok (.lastore, 1) := by decide +kernel
theorem d_AR_loop_38 : decode b_AR_loop 38 = .ok (.bipush 71, 2) := by decide +kernel
theorem d_AR_loop_40 : decode b_AR_loop 40 = .ok (.ireturn, 1) := by decide +kernel
theorem d_AR_loop_41 : decode b_AR_loop 41 = .ok (.aload_n 0, 1) := by decide +kernel
theorem d_AR_loop_42 : decode b_AR_loop 42 = .ok (.getfield 32, 3) := by decide +kernel
theorem d_AR_loop_45 : decode b_AR_loop 45 = .ok (.iload_n 1, 1) := by decide +kernel
theorem d_AR_loop_46 : decode b_AR_loop 46 = .ok (.dup2, 1) := by decide +kernel
theorem d_AR_loop_47 : decode b_AR_loop 47 = .ok (.laload, 1) := by decide +kernel
theorem d_AR_loop_48 : decode b_AR_loop 48 = .ok (.lload_n 2, 1) := by decide +kernel
theorem d_AR_loop_49 : decode b_AR_loop 49 = .ok (.ladd, 1) := by decide +kernel
theorem d_AR_loop_50 : decode b_AR_loop 50 = .ok (.lastore, 1) := by decide +kernel
theorem d_AR_loop_51 : decode b_AR_loop 51 = .ok (.iconst 0, 1) := by decide +kernel
theorem d_AR_loop_52 : decode b_AR_loop 52 = .ok (.ireturn, 1) := by decide +kernel
set_option maxHeartbeats 4000000 in
set_option maxRecDepth 100000 in
theorem c_AR_loop (l : Launch) (D : va_G) (dA : Nat → ClassId) (M : mm_M) (x nc : Nat) (I : sI) (F : sF) (st : sT) (hC : cP dA M x I F st nc) (hwf : wf I F st) (t : Int32) (w : Int64) : mm_Ci l y_AR_loop w_AR_loop ({ frames := 1, cells := 0, slots := 0, locals := 20 }) 0 0 D vC (tyL dA) [.ref x, .int t, .long w] M (cs_post dA x nc (sp_loop t w I F st)) := by
  intro sz
  refine mm_start (by decide) (Nat.le_of_ble_eq_true rfl) ?_
  intro p e s m below meth c A Q ls hA hQ S hr hlocks hin hK hw hl
  have hl : lv_has ls 4 [(0, .ref x), (1, .int t), (2, .long w)] := hl
  obtain ⟨lv, sr, gd, rs, ss, dr, cs, cg, hX, hL, hG, hS, hR, hT, hD, hCs, hE⟩ := id hC
  have hX : M x = some (.inr (0, [.ref lv, .int (I 1), .int (I 2), .ref sr, .ref gd, .int (I 3), .ref rs, .ref ss, .ref dr, .ref cs, .ref cg])) := hX
  refine lv_iload_n S.1 S.2.1 d_AR_loop_0 rfl (lv_at hl 1 rfl) ?_
  refine mm_calli hw (mm_runS (As := [.int t]) (rest := []) S hK hw (c_AR_isTask l D dA _ t _) bs_AR_isTask gw_235 (⟨rfl, rfl, by decide, by decide, by decide, by decide⟩) hl.1 rfl rfl (Nat.le_of_ble_eq_true rfl) d_AR_loop_1) (fun r1 M2 H locs hp hw => ?_)
  rw [hp.1] at hw
  rcases hp.2 with ⟨rfl, hc3⟩ | ⟨rfl, hc3⟩
  · obtain ⟨j4, ekj4, hlj4, hhj4, enj4⟩ := is_of (N := 40) rfl (by omega) hc3
    refine lv_if_eq (tgt := 13) S.1 S.2.1 d_AR_loop_4 (by decide) (fun c4 => absurd c4 (by decide)) (fun c4 => ?_)
    refine lv_lload_n S.1 S.2.1 d_AR_loop_7 rfl (lv_at hl 2 rfl) ?_
    refine lv_lconst (v := 0) S.1 S.2.1 d_AR_loop_8 (by decide) ?_
    refine W.lcmp S.1 S.2.1 d_AR_loop_9 ?_
    refine lv_if_ge (tgt := 16) S.1 S.2.1 d_AR_loop_10 (by decide) (fun c10 => ?_) (fun c10 => ?_)
    · have c10 : ¬ w < 0 := lgc_ge.mp c10
      refine lv_lload_n S.1 S.2.1 d_AR_loop_16 rfl (lv_at hl 2 rfl) ?_
      refine lv_ldc2 (v := 1000) S.1 S.2.1 S.2.2.2.1 (S.2.2.2.2 _ gw_338) d_AR_loop_17 ?_
      refine lv_aload_n S.1 S.2.1 d_AR_loop_20 rfl (lv_at hl 0 rfl) ?_
      refine mm_get (C := R_AR) (T := T_AR) (N := 11) S hK.1 hw hX rfl in_AR 7 (by decide) gw_95 rfl rfl d_AR_loop_21 ?_
      refine lv_iload_n S.1 S.2.1 d_AR_loop_24 rfl (lv_at hl 1 rfl) ?_
      refine mn_lald (j := cN t) S hK.1 hw 1 hT rfl (cl_nI (is_le0 hc3.1)) (by rw [cN, enj4]; omega) (by decide) d_AR_loop_25 ?_
      refine lv_lsub S.1 S.2.1 d_AR_loop_26 ?_
      refine W.lcmp S.1 S.2.1 d_AR_loop_27 ?_
      refine lv_if_le (tgt := 41) S.1 S.2.1 d_AR_loop_28 (by decide) (fun c28 => ?_) (fun c28 => ?_)
      · have c28 : ¬ (1000 - (st (cN t))) < w := lgc_le.mp c28
        refine lv_aload_n S.1 S.2.1 d_AR_loop_41 rfl (lv_at hl 0 rfl) ?_
        refine mm_get (C := R_AR) (T := T_AR) (N := 11) S hK.1 hw hX rfl in_AR 7 (by decide) gw_95 rfl rfl d_AR_loop_42 ?_
        refine lv_iload_n S.1 S.2.1 d_AR_loop_45 rfl (lv_at hl 1 rfl) ?_
        refine lv_dup2_11 S.1 S.2.1 d_AR_loop_46 rfl rfl ?_
        refine mn_lald (j := cN t) S hK.1 hw 1 hT rfl (cl_nI (is_le0 hc3.1)) (by rw [cN, enj4]; omega) (by decide) d_AR_loop_47 ?_
        refine lv_lload_n S.1 S.2.1 d_AR_loop_48 rfl (lv_at hl 2 rfl) ?_
        refine lv_ladd S.1 S.2.1 d_AR_loop_49 ?_
        refine mn_last (j := cN t) S hK.1 hw 1 hT rfl (cl_nI (is_le0 hc3.1)) (by rw [cN, enj4]; omega) (by decide) d_AR_loop_50 (fun H locs hw => ?_)
        obtain ⟨M5, eM5⟩ : ∃ zM : mm_M, zM = mm_up M ss (.inl (dA 1, 41, .inr (.inl (vp_updL (st) (cN t) (((st (cN t)) + w)))))) := ⟨_, rfl⟩
        have hw : mm_w D vC _ _ (mm_up M ss (.inl (dA 1, 41, .inr (.inl (vp_updL (st) (cN t) (((st (cN t)) + w))))))) H _ := hw
        rw [← eM5] at hw
        have hX_5 : M5 x = some (.inr (0, [.ref lv, .int (I 1), .int (I 2), .ref sr, .ref gd, .int (I 3), .ref rs, .ref ss, .ref dr, .ref cs, .ref cg])) := by rw [eM5]; exact mm_uk hT hX (by simp)
        have hT_5 : M5 ss = some (.inl (dA 1, 41, .inr (.inl (vp_updL (st) (cN t) (((st (cN t)) + w)))))) := by rw [eM5]; exact mm_us
        refine lv_iconst (v := 0) S.1 S.2.1 d_AR_loop_51 (by decide) ?_
        obtain ⟨u, hu1, hu2⟩ := hwf.2.2.2.2.2.2.2.2.2 j4 hlj4 hhj4
        have hlp := lp_eq (s := st (cN t)) (by rw [cN, enj4]; exact hu1) hu2 c10
        have hk9 : kt M M5 [2041] := by rw [eM5]; exact kt_up hT (by simp [tg])
        have hP9 : cP dA M5 x (upd I 0 0) F (vp_updL st (cN t) (st (cN t) + w)) (nc + 1) := ⟨lv, sr, gd, rs, ss, dr, cs, cg, hk9 _ _ hX (by simp [tg]), cL_k hk9 hL (by decide) rfl rfl rfl rfl rfl rfl rfl rfl rfl, cG_k hk9 hG (by decide) rfl rfl rfl rfl, cS_k hk9 hS (by decide) rfl rfl, hk9 _ _ hR (by simp [tg]), hT_5, cD_k hk9 hD (by decide) rfl rfl, cC_k hk9 hCs (by decide) rfl, cE_k hk9 hE (by decide) (by omega) rfl⟩
        exact mm_reti S.1 S.2.1 hr hlocks hA hQ hw (cs_done hP9 (show sp_loop t w I F st = (0, _, _, _) by simp only [sp_loop, eq_true hc3, eq_false c4, eq_false c10, not_true_eq_false, not_false_eq_true, and_true, true_and, and_false, false_and, and_self, or_true, true_or, or_false, false_or, or_self, ↓reduceIte, eq_false (fun h => c28 (hlp.mpr h))])) (Nat.le_of_ble_eq_true rfl) (Nat.le_of_ble_eq_true rfl) d_AR_loop_52
      · have c28 : (1000 - (st (cN t))) < w := Classical.not_not.mp (fun h => c28 (lgc_le.mpr h))
        refine lv_aload_n S.1 S.2.1 d_AR_loop_31 rfl (lv_at hl 0 rfl) ?_
        refine mm_get (C := R_AR) (T := T_AR) (N := 11) S hK.1 hw hX rfl in_AR 7 (by decide) gw_95 rfl rfl d_AR_loop_32 ?_
        refine lv_iload_n S.1 S.2.1 d_AR_loop_35 rfl (lv_at hl 1 rfl) ?_
        refine lv_lconst (v := 0) S.1 S.2.1 d_AR_loop_36 (by decide) ?_
        refine mn_last (j := cN t) S hK.1 hw 1 hT rfl (cl_nI (is_le0 hc3.1)) (by rw [cN, enj4]; omega) (by decide) d_AR_loop_37 (fun H locs hw => ?_)
        obtain ⟨M6, eM6⟩ : ∃ zM : mm_M, zM = mm_up M ss (.inl (dA 1, 41, .inr (.inl (vp_updL (st) (cN t) (0))))) := ⟨_, rfl⟩
        have hw : mm_w D vC _ _ (mm_up M ss (.inl (dA 1, 41, .inr (.inl (vp_updL (st) (cN t) (0)))))) H _ := hw
        rw [← eM6] at hw
        have hX_6 : M6 x = some (.inr (0, [.ref lv, .int (I 1), .int (I 2), .ref sr, .ref gd, .int (I 3), .ref rs, .ref ss, .ref dr, .ref cs, .ref cg])) := by rw [eM6]; exact mm_uk hT hX (by simp)
        have hT_6 : M6 ss = some (.inl (dA 1, 41, .inr (.inl (vp_updL (st) (cN t) (0))))) := by rw [eM6]; exact mm_us
        refine lv_bipush (v := 71) S.1 S.2.1 d_AR_loop_38 (by decide) ?_
        obtain ⟨u, hu1, hu2⟩ := hwf.2.2.2.2.2.2.2.2.2 j4 hlj4 hhj4
        have hlp := lp_eq (s := st (cN t)) (by rw [cN, enj4]; exact hu1) hu2 c10
        have hk9 : kt M M6 [2041] := by rw [eM6]; exact kt_up hT (by simp [tg])
        have hP9 : cP dA M6 x (upd I 0 0) F (vp_updL st (cN t) 0) (nc + 1) := ⟨lv, sr, gd, rs, ss, dr, cs, cg, hk9 _ _ hX (by simp [tg]), cL_k hk9 hL (by decide) rfl rfl rfl rfl rfl rfl rfl rfl rfl, cG_k hk9 hG (by decide) rfl rfl rfl rfl, cS_k hk9 hS (by decide) rfl rfl, hk9 _ _ hR (by simp [tg]), hT_6, cD_k hk9 hD (by decide) rfl rfl, cC_k hk9 hCs (by decide) rfl, cE_k hk9 hE (by decide) (by omega) rfl⟩
        exact mm_reti S.1 S.2.1 hr hlocks hA hQ hw (cs_done hP9 (show sp_loop t w I F st = (71, _, _, _) by simp only [sp_loop, eq_true hc3, eq_false c4, eq_false c10, not_true_eq_false, not_false_eq_true, and_true, true_and, and_false, false_and, and_self, or_true, true_or, or_false, false_or, or_self, ↓reduceIte, eq_true (hlp.mp c28)])) (Nat.le_of_ble_eq_true rfl) (Nat.le_of_ble_eq_true rfl) d_AR_loop_40
    · have c10 : w < 0 := Classical.not_not.mp (fun h => c10 (lgc_ge.mpr h))
      refine lv_bipush (v := (-4)) S.1 S.2.1 d_AR_loop_13 (by decide) ?_
      exact mm_reti S.1 S.2.1 hr hlocks hA hQ hw (cs_same hC (show sp_loop t w I F st = ((-4), upd I 0 0, F, st) by simp only [sp_loop, eq_true hc3, eq_false c4, eq_true c10, not_true_eq_false, not_false_eq_true, and_true, true_and, and_false, false_and, and_self, or_true, true_or, or_false, false_or, or_self, ↓reduceIte])) (Nat.le_of_ble_eq_true rfl) (Nat.le_of_ble_eq_true rfl) d_AR_loop_15
  · refine lv_if_eq (tgt := 13) S.1 S.2.1 d_AR_loop_4 (by decide) (fun c4 => ?_) (fun c4 => absurd c4 (by decide))
    refine lv_bipush (v := (-4)) S.1 S.2.1 d_AR_loop_13 (by decide) ?_
    exact mm_reti S.1 S.2.1 hr hlocks hA hQ hw (cs_same hC (show sp_loop t w I F st = ((-4), upd I 0 0, F, st) by simp only [sp_loop, eq_false hc3, eq_true c4, not_true_eq_false, not_false_eq_true, and_true, true_and, and_false, false_and, and_self, or_true, true_or, or_false, false_or, or_self, ↓reduceIte])) (Nat.le_of_ble_eq_true rfl) (Nat.le_of_ble_eq_true rfl) d_AR_loop_15
theorem d_CG_timesOf_0 : decode b_CG_timesOf 0 = .ok (.iconst 0, 1) := by decide +kernel
theorem d_CG_timesOf_1 : decode b_CG_timesOf 1 = .ok (.istore_n 2, 1) := by decide +kernel
theorem d_CG_timesOf_2 : decode b_CG_timesOf 2 = .ok (.iconst 0, 1) := by decide +kernel
theorem d_CG_timesOf_3 : decode b_CG_timesOf 3 = .ok (.istore_n 3, 1) := by decide +kernel
theorem d_CG_timesOf_4 : decode b_CG_timesOf 4 = .ok (.iload_n 3, 1) := by decide +kernel
theorem d_CG_timesOf_5 : decode b_CG_timesOf 5 = .ok (.aload_n 0, 1) := by decide +kernel
theorem d_CG_timesOf_6 : decode b_CG_timesOf 6 = .ok (.getfield 15, 3) := by decide +kernel
theorem d_CG_timesOf_9 : decode b_CG_timesOf 9 = .ok (.if_icmp .ge 22, 3) := by decide +kernel
theorem d_CG_timesOf_12 : decode b_CG_timesOf 12 = .ok (.aload_n 0, 1) := by decide +kernel
theorem d_CG_timesOf_13 : decode b_CG_timesOf 13 = .ok (.getfield 9, 3) := by decide +kernel
theorem d_CG_timesOf_16 : decode b_CG_timesOf 16 = .ok (.iload_n 3, 1) := by decide +kernel
theorem d_CG_timesOf_17 : decode b_CG_timesOf 17 = .ok (.iaload, 1) := by decide +kernel
theorem d_CG_timesOf_18 : decode b_CG_timesOf 18 = .ok (.iload_n 1, 1) := by decide +kernel
theorem d_CG_timesOf_19 : decode b_CG_timesOf 19 = .ok (.if_icmp .ne 6, 3) := by decide +kernel
theorem d_CG_timesOf_22 : decode b_CG_timesOf 22 = .ok (.iinc 2 1, 3) := by decide +kernel
theorem d_CG_timesOf_25 : decode b_CG_timesOf 25 = .ok (.iinc 3 1, 3) := by decide +kernel
theorem d_CG_timesOf_28 : decode b_CG_timesOf 28 = .ok (.goto (-24), 3) := by decide +kernel
theorem d_CG_timesOf_31 : decode b_CG_timesOf 31 = .ok (.iload_n 2, 1) := by decide +kernel
theorem d_CG_timesOf_32 : decode b_CG_timesOf 32 = .ok (.ireturn, 1) := by decide +kernel
set_option maxHeartbeats 4000000 in
set_option maxRecDepth 100000 in
theorem c_CG_timesOf (l : Launch) (D : va_G) (dA : Nat → ClassId) (M : mm_M) (cg cd n : Nat) (fC : Nat → Int32) (k : Int32) (hn : n ≤ 512) (hcg : M cg = some (.inr (4, [.ref cd, .int (nI n)]))) (hcd : M cd = some (aI (dA 0) 512 fC)) : mm_Ci l y_CG_timesOf w_CG_timesOf ({ frames := 0, cells := 0, slots := 0, locals := 0 }) 0 0 D vC (tyL dA) [.ref cg, .int k] M (fun r M' => M' = M ∧ r = cnt fC k n) := by
  intro sz
  refine mm_start (by decide) (Nat.le_of_ble_eq_true rfl) ?_
  intro p e s m below meth c A Q ls hA hQ S hr hlocks hin hK hw hl
  have hl : lv_has ls 4 [(0, .ref cg), (1, .int k)] := hl
  refine lv_iconst (v := 0) S.1 S.2.1 d_CG_timesOf_0 (by decide) ?_
  refine lv_istore_n (lv' := [(2, .int 0), (0, .ref cg), (1, .int k)]) S.1 S.2.1 d_CG_timesOf_1 rfl hl (by decide) rfl (fun ls hl => ?_)
  refine lv_iconst (v := 0) S.1 S.2.1 d_CG_timesOf_2 (by decide) ?_
  refine lv_istore_n (lv' := [(3, .int 0), (2, .int 0), (0, .ref cg), (1, .int k)]) S.1 S.2.1 d_CG_timesOf_3 rfl hl (by decide) rfl (fun ls hl => ?_)
  have L : ∀ (mm i : Nat) (ls : Array Slot), i + mm = n → lv_has ls 4 [(2, .int (cnt fC k i)), (3, .int (nI i)), (0, .ref cg), (1, .int k)] → W p l e ({ frames := 0, cells := 0, slots := 0, locals := 0 }) s m [.ref cg, .int k].toArray below meth c s.heap [] 0 0 Q (F0 m 4 ls []) := by
    intro mm
    induction mm with
    | zero =>
      intro i ls hi hl
      refine lv_iload_n S.1 S.2.1 d_CG_timesOf_4 rfl (lv_at hl 1 rfl) ?_
      refine lv_aload_n S.1 S.2.1 d_CG_timesOf_5 rfl (lv_at hl 2 rfl) ?_
      refine mm_get (C := R_CG) (T := T_CG) (N := 2) S hK.1 hw hcg rfl in_CG 1 (by decide) gw_82 rfl rfl d_CG_timesOf_6 ?_
      refine lv_icmp_ge (tgt := 31) S.1 S.2.1 d_CG_timesOf_9 (by decide) (fun c9 => ?_) (fun c9 => absurd (nI_le (by omega) (by omega)) c9)
      refine lv_iload_n S.1 S.2.1 d_CG_timesOf_31 rfl (lv_at hl 0 rfl) ?_
      exact mm_reti S.1 S.2.1 hr hlocks hA hQ hw (⟨rfl, by rw [show i = n by omega]⟩) (Nat.le_of_ble_eq_true rfl) (Nat.le_of_ble_eq_true rfl) d_CG_timesOf_32
    | succ mm ih =>
      intro i ls hi hl
      refine lv_iload_n S.1 S.2.1 d_CG_timesOf_4 rfl (lv_at hl 1 rfl) ?_
      refine lv_aload_n S.1 S.2.1 d_CG_timesOf_5 rfl (lv_at hl 2 rfl) ?_
      refine mm_get (C := R_CG) (T := T_CG) (N := 2) S hK.1 hw hcg rfl in_CG 1 (by decide) gw_82 rfl rfl d_CG_timesOf_6 ?_
      refine lv_icmp_ge (tgt := 31) S.1 S.2.1 d_CG_timesOf_9 (by decide) (fun c9 => absurd c9 (nI_ge (by omega) (by omega))) (fun c9 => ?_)
      refine lv_aload_n S.1 S.2.1 d_CG_timesOf_12 rfl (lv_at hl 2 rfl) ?_
      refine mm_get (C := R_CG) (T := T_CG) (N := 2) S hK.1 hw hcg rfl in_CG 0 (by decide) gw_81 rfl rfl d_CG_timesOf_13 ?_
      refine lv_iload_n S.1 S.2.1 d_CG_timesOf_16 rfl (lv_at hl 1 rfl) ?_
      refine mn_iald (j := i) S hK.1 hw 0 hcd rfl (rfl) (by omega) (by decide) d_CG_timesOf_17 ?_
      refine lv_iload_n S.1 S.2.1 d_CG_timesOf_18 rfl (lv_at hl 3 rfl) ?_
      refine lv_icmp_ne (tgt := 25) S.1 S.2.1 d_CG_timesOf_19 (by decide) (fun c19 => ?_) (fun c19 => ?_)
      · refine lv_iinc (v := (nI (i + 1))) (lv' := [(3, .int (nI (i + 1))), (2, .int (cnt fC k i)), (0, .ref cg), (1, .int k)]) S.1 S.2.1 d_CG_timesOf_25 hl (k := 1) rfl (nI_1 i) (by decide) rfl (fun ls hl => ?_)
        refine lv_goto (tgt := 4) S.1 S.2.1 d_CG_timesOf_28 (by decide) ?_
        exact ih (i + 1) ls (by omega) (by rw [show cnt fC k (i + 1) = (cnt fC k i) from by rw [cnt, if_neg c19]]; exact lv_sub hl [1, 0, 2, 3] rfl)
      · refine lv_iinc (v := ((cnt fC k i) + 1)) (lv' := [(2, .int ((cnt fC k i) + 1)), (3, .int (nI i)), (0, .ref cg), (1, .int k)]) S.1 S.2.1 d_CG_timesOf_22 hl (k := 0) rfl (rfl) (by decide) rfl (fun ls hl => ?_)
        refine lv_iinc (v := (nI (i + 1))) (lv' := [(3, .int (nI (i + 1))), (2, .int ((cnt fC k i) + 1)), (0, .ref cg), (1, .int k)]) S.1 S.2.1 d_CG_timesOf_25 hl (k := 1) rfl (nI_1 i) (by decide) rfl (fun ls hl => ?_)
        refine lv_goto (tgt := 4) S.1 S.2.1 d_CG_timesOf_28 (by decide) ?_
        exact ih (i + 1) ls (by omega) (by rw [show cnt fC k (i + 1) = ((cnt fC k i) + 1) from by rw [cnt, if_pos c19]]; exact lv_sub hl [1, 0, 2, 3] rfl)
  exact L n 0 ls (by omega) (lv_sub hl [1, 0, 2, 3] rfl)
theorem d_AR_count_0 : decode b_AR_count 0 = .ok (.aload_n 0, 1) := by decide +kernel
theorem d_AR_count_1 : decode b_AR_count 1 = .ok (.getfield 53, 3) := by decide +kernel
theorem d_AR_count_4 : decode b_AR_count 4 = .ok (.iload_n 1, 1) := by decide +kernel
theorem d_AR_count_5 : decode b_AR_count 5 = .ok (.invokevirtual 178, 3) := by decide +kernel
theorem d_AR_count_8 : decode b_AR_count 8 = .ok (.ireturn, 1) := by decide +kernel
set_option maxHeartbeats 4000000 in
set_option maxRecDepth 100000 in
theorem c_AR_count (l : Launch) (D : va_G) (dA : Nat → ClassId) (M : mm_M) (x nc : Nat) (I : sI) (F : sF) (st : sT) (hC : cP dA M x I F st nc) (hwf : wf I F st) (hnc : nc ≤ 512) (k : Int32) : mm_Ci l y_AR_count w_AR_count ({ frames := 1, cells := 0, slots := 0, locals := 23 }) 0 0 D vC (tyL dA) [.ref x, .int k] M (cs_post dA x nc (sp_count k I F st)) := by
  intro sz
  refine mm_start (by decide) (Nat.le_of_ble_eq_true rfl) ?_
  intro p e s m below meth c A Q ls hA hQ S hr hlocks hin hK hw hl
  have hl : lv_has ls 2 [(0, .ref x), (1, .int k)] := hl
  obtain ⟨lv, sr, gd, rs, ss, dr, cs, cg, hX, hL, hG, hS, hR, hT, hD, hCs, hE⟩ := id hC
  have hX : M x = some (.inr (0, [.ref lv, .int (I 1), .int (I 2), .ref sr, .ref gd, .int (I 3), .ref rs, .ref ss, .ref dr, .ref cs, .ref cg])) := hX
  obtain ⟨cd, n9, fC, hcg, hcd, hn9, hfc, hct⟩ := id hE
  refine lv_aload_n S.1 S.2.1 d_AR_count_0 rfl (lv_at hl 0 rfl) ?_
  refine mm_get (C := R_AR) (T := T_AR) (N := 11) S hK.1 hw hX rfl in_AR 10 (by decide) gw_98 rfl rfl d_AR_count_1 ?_
  refine lv_iload_n S.1 S.2.1 d_AR_count_4 rfl (lv_at hl 1 rfl) ?_
  refine mm_calli hw (mm_runV (a := cg) (As := [.int k]) (rest := []) S hK hw (c_CG_timesOf l D dA _ cg cd n9 fC k (by omega) hcg hcd _) bv_CG_timesOf gw_352 hcg rfl (⟨rfl, rfl, by decide, by decide, by decide, by decide⟩) hl.1 rfl rfl (Nat.le_of_ble_eq_true rfl) d_AR_count_5) (fun r1 M2 H locs hp hw => ?_)
  rw [hp.1] at hw
  have hr3 := hp.2
  have hsp : sp_count k I F st = (r1, upd I 0 0, F, st) := by
    rw [hr3, sp_count]
    by_cases hcc : is_ok 9999 k
    · obtain ⟨j, ek, hj1, hj2, en⟩ := is_of (N := 9999) rfl (by omega) hcc
      rw [if_pos hcc, show F 8 (cN k) = cnt fC k n9 from by rw [cN, en, hct j hj1 hj2, ek]]
    · rw [if_neg hcc, cnt_none n9 hfc hcc]
  exact mm_reti S.1 S.2.1 hr hlocks hA hQ hw (cs_same hC hsp) (Nat.le_of_ble_eq_true rfl) (Nat.le_of_ble_eq_true rfl) d_AR_count_8
theorem d_CG_add_0 : decode b_CG_add 0 = .ok (.aload_n 0, 1) := by decide +kernel
theorem d_CG_add_1 : decode b_CG_add 1 = .ok (.getfield 15, 3) := by decide +kernel
theorem d_CG_add_4 : decode b_CG_add 4 = .ok (.sipush 512, 3) := by decide +kernel
theorem d_CG_add_7 : decode b_CG_add 7 = .ok (.if_icmp .ge 23, 3) := by decide +kernel
theorem d_CG_add_10 : decode b_CG_add 10 = .ok (.aload_n 0, 1) := by decide +kernel
theorem d_CG_add_11 : decode b_CG_add 11 = .ok (.getfield 9, 3) := by decide +kernel
theorem d_CG_add_14 : decode b_CG_add 14 = .ok (.aload_n 0, 1) := by decide +kernel
theorem d_CG_add_15 : decode b_CG_add 15 = .ok (.getfield 15, 3) := by decide +kernel
theorem d_CG_add_18 : decode b_CG_add 18 = .ok (.iload_n 1, 1) := by decide +kernel
theorem d_CG_add_19 : decode b_CG_add 19 = .ok (.iastore, 1) := by decide +kernel
theorem d_CG_add_20 : decode b_CG_add 20 = .ok (.aload_n 0, 1) := by decide +kernel
theorem d_CG_add_21 : decode b_CG_add 21 = .ok (.dup, 1) := by decide +kernel
theorem d_CG_add_22 : decode b_CG_add 22 = .ok (.getfield 15, 3) := by decide +kernel
theorem d_CG_add_25 : decode b_CG_add 25 = .ok (.iconst 1, 1) := by decide +kernel
theorem d_CG_add_26 : decode b_CG_add 26 = .ok (.iadd, 1) := by decide +kernel
theorem d_CG_add_27 : decode b_CG_add 27 = .ok (.putfield 15, 3) := by decide +kernel
theorem d_CG_add_30 : decode b_CG_add 30 = .ok (.return_, 1) := by decide +kernel
set_option maxHeartbeats 4000000 in
set_option maxRecDepth 100000 in
theorem c_CG_add (l : Launch) (D : va_G) (dA : Nat → ClassId) (M : mm_M) (cg cd n : Nat) (fC : Nat → Int32) (k : Int32) (hn : n < 512) (hcg : M cg = some (.inr (4, [.ref cd, .int (nI n)]))) (hcd : M cd = some (aI (dA 0) 512 fC)) : mm_Cv l y_CG_add w_CG_add ({ frames := 0, cells := 0, slots := 0, locals := 0 }) 0 0 D vC (tyL dA) [.ref cg, .int k] M (fun M' => M' = mm_up (mm_up M cd (aI (dA 0) 512 (upd fC n k))) cg (.inr (4, [.ref cd, .int (nI (n + 1))]))) := by
  intro sz
  refine mm_start (by decide) (Nat.le_of_ble_eq_true rfl) ?_
  intro p e s m below meth c A Q ls hA hQ S hr hlocks hin hK hw hl
  have hl : lv_has ls 2 [(0, .ref cg), (1, .int k)] := hl
  refine lv_aload_n S.1 S.2.1 d_CG_add_0 rfl (lv_at hl 0 rfl) ?_
  refine mm_get (C := R_CG) (T := T_CG) (N := 2) S hK.1 hw hcg rfl in_CG 1 (by decide) gw_82 rfl rfl d_CG_add_1 ?_
  refine lv_sipush (v := 512) S.1 S.2.1 d_CG_add_4 (by decide) ?_
  refine lv_icmp_ge (tgt := 30) S.1 S.2.1 d_CG_add_7 (by decide) (fun c7 => absurd c7 (nI_ge (b := 512) hn (by decide))) (fun c7 => ?_)
  refine lv_aload_n S.1 S.2.1 d_CG_add_10 rfl (lv_at hl 0 rfl) ?_
  refine mm_get (C := R_CG) (T := T_CG) (N := 2) S hK.1 hw hcg rfl in_CG 0 (by decide) gw_81 rfl rfl d_CG_add_11 ?_
  refine lv_aload_n S.1 S.2.1 d_CG_add_14 rfl (lv_at hl 0 rfl) ?_
  refine mm_get (C := R_CG) (T := T_CG) (N := 2) S hK.1 hw hcg rfl in_CG 1 (by decide) gw_82 rfl rfl d_CG_add_15 ?_
  refine lv_iload_n S.1 S.2.1 d_CG_add_18 rfl (lv_at hl 1 rfl) ?_
  refine mn_iast (j := n) S hK.1 hw 0 hcd rfl (rfl) (by omega) (by decide) d_CG_add_19 (fun H locs hw => ?_)
  obtain ⟨M1, eM1⟩ : ∃ zM : mm_M, zM = mm_up M cd (.inl (dA 0, 512, .inl (upd (fC) (n) (k)))) := ⟨_, rfl⟩
  have hw : mm_w D vC _ _ (mm_up M cd (.inl (dA 0, 512, .inl (upd (fC) (n) (k))))) H _ := hw
  rw [← eM1] at hw
  have hcg_1 : M1 cg = some (.inr (4, [.ref cd, .int (nI n)])) := by rw [eM1]; exact mm_uk hcd hcg (by simp)
  have hcd_1 : M1 cd = some (.inl (dA 0, 512, .inl (upd (fC) (n) (k)))) := by rw [eM1]; exact mm_us
  refine lv_aload_n S.1 S.2.1 d_CG_add_20 rfl (lv_at hl 0 rfl) ?_
  refine lv_dup S.1 S.2.1 d_CG_add_21 rfl ?_
  refine mm_get (C := R_CG) (T := T_CG) (N := 2) S hK.1 hw hcg_1 rfl in_CG 1 (by decide) gw_82 rfl rfl d_CG_add_22 ?_
  refine lv_iconst (v := 1) S.1 S.2.1 d_CG_add_25 (by decide) ?_
  refine lv_iadd S.1 S.2.1 d_CG_add_26 ?_
  refine mm_put (C := R_CG) (T := T_CG) (N := 2) (ty := .int) (v := .int ((nI n) + 1)) S hK.1 hw hcg_1 rfl in_CG t_CG k_CG n_CG 1 (by decide) gw_82 rfl rfl (by decide +kernel) (rfl) (rfl) (Nat.le_of_ble_eq_true rfl) d_CG_add_27 (fun H locs hw => ?_)
  obtain ⟨M2, eM2⟩ : ∃ zM : mm_M, zM = mm_up M1 cg (.inr (4, [.ref cd, .int ((nI n) + 1)])) := ⟨_, rfl⟩
  have hw : mm_w D vC _ _ (mm_up M1 cg (.inr (4, [.ref cd, .int ((nI n) + 1)]))) H _ := hw
  rw [← eM2] at hw
  have hcd_2 : M2 cd = some (.inl (dA 0, 512, .inl (upd (fC) (n) (k)))) := by rw [eM2]; exact mm_uk hcg_1 hcd_1 (by simp)
  have hcg_2 : M2 cg = some (.inr (4, [.ref cd, .int ((nI n) + 1)])) := by rw [eM2]; exact mm_us
  exact mm_retv S.1 S.2.1 hr hlocks hA hQ hw (by rw [eM2, eM1, ← nI_1]) (Nat.le_of_ble_eq_true rfl) (Nat.le_of_ble_eq_true rfl) d_CG_add_30
theorem d_CS_bitOf_0 : decode b_CS_bitOf 0 = .ok (.lconst 1, 1) := by decide +kernel
theorem d_CS_bitOf_1 : decode b_CS_bitOf 1 = .ok (.iload_n 0, 1) := by decide +kernel
theorem d_CS_bitOf_2 : decode b_CS_bitOf 2 = .ok (.bipush 64, 2) := by decide +kernel
theorem d_CS_bitOf_4 : decode b_CS_bitOf 4 = .ok (.irem, 1) := by decide +kernel
theorem d_CS_bitOf_5 : decode b_CS_bitOf 5 = .ok (.lshl, 1) := by decide +kernel
theorem d_CS_bitOf_6 : decode b_CS_bitOf 6 = .ok (.lreturn, 1) := by decide +kernel
set_option maxHeartbeats 4000000 in
set_option maxRecDepth 100000 in
theorem c_CS_bitOf (l : Launch) (D : va_G) (dA : Nat → ClassId) (M : mm_M) (k : Int32) (j : Nat) (hk : k = nI j) (hj : j < 2 ^ 31) : mm_Cl l y_CS_bitOf w_CS_bitOf ({ frames := 0, cells := 0, slots := 0, locals := 0 }) 0 0 D vC (tyL dA) [.int k] M (fun r M' => M' = M ∧ r.toBitVec = BitVec.twoPow 64 (j % 64)) := by
  intro sz
  refine mm_start (by decide) (Nat.le_of_ble_eq_true rfl) ?_
  intro p e s m below meth c A Q ls hA hQ S hr hlocks hin hK hw hl
  have hl : lv_has ls 1 [(0, .int k)] := hl
  refine lv_lconst (v := 1) S.1 S.2.1 d_CS_bitOf_0 (by decide) ?_
  refine lv_iload_n S.1 S.2.1 d_CS_bitOf_1 rfl (lv_at hl 0 rfl) ?_
  refine lv_bipush (v := 64) S.1 S.2.1 d_CS_bitOf_2 (by decide) ?_
  refine lv_irem S.1 S.2.1 d_CS_bitOf_4 (by decide) ?_
  refine W.eq (g2 := F0 m 5 ls (.int (nI (j % 64)) :: [.long 1])) (by rw [show (k - k / 64 * 64) = (nI (j % 64)) from by rw [hk, show (64 : Int32) = nI 64 from rfl, pk_rem hj (by decide) (by decide)]]) ?_
  refine lv_lshl (v := (1 <<< (((nI (j % 64)) : Int32).toInt64 &&& 63))) S.1 S.2.1 d_CS_bitOf_5 rfl ?_
  exact mm_retl S.1 S.2.1 hr hlocks hA hQ hw (⟨rfl, bw_1 (j % 64) (by omega)⟩) (Nat.le_of_ble_eq_true rfl) (Nat.le_of_ble_eq_true rfl) d_CS_bitOf_6
theorem d_CS_has_0 : decode b_CS_has 0 = .ok (.iload_n 1, 1) := by decide +kernel
theorem d_CS_has_1 : decode b_CS_has 1 = .ok (.invokestatic 15, 3) := by decide +kernel
theorem d_CS_has_4 : decode b_CS_has 4 = .ok (.ifCond .eq 26, 3) := by decide +kernel
theorem d_CS_has_7 : decode b_CS_has 7 = .ok (.aload_n 0, 1) := by decide +kernel
theorem d_CS_has_8 : decode b_CS_has 8 = .ok (.getfield 11, 3) := by decide +kernel
theorem d_CS_has_11 : decode b_CS_has 11 = .ok (.iload_n 1, 1) := by decide +kernel
theorem d_CS_has_12 : decode b_CS_has 12 = .ok (.bipush 64, 2) := by decide +kernel
theorem d_CS_has_14 : decode b_CS_has 14 = .ok (.idiv, 1) := by decide +kernel
theorem d_CS_has_15 : decode b_CS_has 15 = .ok (.laload, 1) := by decide +kernel
theorem d_CS_has_16 : decode b_CS_has 16 = .ok (.iload_n 1, 1) := by decide +kernel
theorem d_CS_has_17 : decode b_CS_has 17 = .ok (.invokestatic 19, 3) := by decide +kernel
theorem d_CS_has_20 : decode b_CS_has 20 = .ok (.land, 1) := by decide +kernel
theorem d_CS_has_21 : decode b_CS_has 21 = .ok (.lconst 0, 1) := by decide +kernel
theorem d_CS_has_22 : decode b_CS_has 22 = .ok (.lcmp, 1) := by decide +kernel
theorem d_CS_has_23 : decode b_CS_has 23 = .ok (.ifCond .eq 7, 3) := by decide +kernel
theorem d_CS_has_26 : decode b_CS_has 26 = .ok (.iconst 1, 1) := by decide +kernel
theorem d_CS_has_27 : decode b_CS_has 27 = .ok (.goto 4, 3) := by decide +kernel
theorem d_CS_has_30 : decode b_CS_has 30 = .ok (.iconst 0, 1) := by decide +kernel
theorem d_CS_has_31 : decode b_CS_has 31 = .ok (.ireturn, 1) := by decide +kernel
set_option maxHeartbeats 4000000 in
set_option maxRecDepth 100000 in
theorem c_CS_has (l : Launch) (D : va_G) (dA : Nat → ClassId) (M : mm_M) (cs wd : Nat) (fW : Nat → Int64) (hcs : M cs = some (.inr (3, [.ref wd]))) (hwd : M wd = some (aJ (dA 1) 157 fW)) (k : Int32) : mm_Ci l y_CS_has w_CS_has ({ frames := 1, cells := 0, slots := 0, locals := 20 }) 0 0 D vC (tyL dA) [.ref cs, .int k] M (fun r M' => M' = M ∧ ((r = 1 ∧ is_ok 9999 k ∧ bw fW (cN k) = true) ∨ (r = 0 ∧ ¬ (is_ok 9999 k ∧ bw fW (cN k) = true)))) := by
  intro sz
  refine mm_start (by decide) (Nat.le_of_ble_eq_true rfl) ?_
  intro p e s m below meth c A Q ls hA hQ S hr hlocks hin hK hw hl
  have hl : lv_has ls 2 [(0, .ref cs), (1, .int k)] := hl
  refine lv_iload_n S.1 S.2.1 d_CS_has_0 rfl (lv_at hl 1 rfl) ?_
  refine mm_calli hw (mm_runSN (As := [.int k]) (rest := []) S hK hw (c_AR_isCode l D dA _ k _) bs_AR_isCode hK.2.2.2.2.2.2 (⟨rfl, rfl, by decide, by decide, by decide, by decide⟩) hl.1 rfl rfl (Nat.le_of_ble_eq_true rfl) d_CS_has_1) (fun r1 M2 H locs hp hw => ?_)
  rw [hp.1] at hw
  rcases hp.2 with ⟨rfl, hc3⟩ | ⟨rfl, hc3⟩
  · obtain ⟨j4, ekj4, hlj4, hhj4, enj4⟩ := is_of (N := 9999) rfl (by omega) hc3
    refine lv_if_eq (tgt := 30) S.1 S.2.1 d_CS_has_4 (by decide) (fun c4 => absurd c4 (by decide)) (fun c4 => ?_)
    refine lv_aload_n S.1 S.2.1 d_CS_has_7 rfl (lv_at hl 0 rfl) ?_
    refine mm_get (C := R_CS) (T := T_CS) (N := 1) S hK.1 hw hcs rfl in_CS 0 (by decide) gw_71 rfl rfl d_CS_has_8 ?_
    refine lv_iload_n S.1 S.2.1 d_CS_has_11 rfl (lv_at hl 1 rfl) ?_
    refine lv_bipush (v := 64) S.1 S.2.1 d_CS_has_12 (by decide) ?_
    refine lv_idiv S.1 S.2.1 d_CS_has_14 (by decide) ?_
    refine mn_lald (j := cN k / 64) S hK.1 hw 1 hwd rfl (by rw [cN, enj4, ekj4, show (64 : Int32) = nI 64 from rfl, pk_div (by omega) (by decide) (by decide)]) (by rw [cN, enj4]; omega) (by decide) d_CS_has_15 ?_
    refine lv_iload_n S.1 S.2.1 d_CS_has_16 rfl (lv_at hl 1 rfl) ?_
    refine mm_calll hw (mm_runS (As := [.int k]) (rest := [.long (fW (cN k / 64))]) S hK hw (c_CS_bitOf l D dA _ k j4 ekj4 (by omega) _) bs_CS_bitOf gw_243 (⟨rfl, rfl, by decide, by decide, by decide, by decide⟩) hl.1 rfl rfl (Nat.le_of_ble_eq_true rfl) d_CS_has_17) (fun r5 M6 H locs hp hw => ?_)
    rw [hp.1] at hw
    have hr7 := hp.2
    refine lv_land S.1 S.2.1 d_CS_has_20 ?_
    refine lv_lconst (v := 0) S.1 S.2.1 d_CS_has_21 (by decide) ?_
    refine W.lcmp S.1 S.2.1 d_CS_has_22 ?_
    refine lv_if_eq (tgt := 30) S.1 S.2.1 d_CS_has_23 (by decide) (fun c23 => ?_) (fun c23 => ?_)
    · have c23 : ((fW (cN k / 64)) &&& r5) = 0 := lgc_eq.mp c23
      refine lv_iconst (v := 0) S.1 S.2.1 d_CS_has_30 (by decide) ?_
      exact mm_retz S.1 S.2.1 hr hlocks hA hQ hw (rfl) (⟨rfl, Or.inr ⟨rfl, fun q => by have h9 := (bw_has (j := cN k % 64) (by omega) (by rw [cN, enj4]; exact hr7)).mp c23; exact absurd (q.2.symm.trans h9) (by decide)⟩⟩) (Nat.le_of_ble_eq_true rfl) (Nat.le_of_ble_eq_true rfl) d_CS_has_31
    · have c23 : ¬ ((fW (cN k / 64)) &&& r5) = 0 := fun h => c23 (lgc_eq.mpr h)
      refine lv_iconst (v := 1) S.1 S.2.1 d_CS_has_26 (by decide) ?_
      refine lv_goto (tgt := 31) S.1 S.2.1 d_CS_has_27 (by decide) ?_
      exact mm_retz S.1 S.2.1 hr hlocks hA hQ hw (rfl) (⟨rfl, Or.inl ⟨rfl, hc3, by
            cases hb9 : bw fW (cN k) with
            | true => rfl
            | false => exact absurd ((bw_has (j := cN k % 64) (by omega) (by rw [cN, enj4]; exact hr7)).mpr hb9) c23⟩⟩) (Nat.le_of_ble_eq_true rfl) (Nat.le_of_ble_eq_true rfl) d_CS_has_31
  · refine lv_if_eq (tgt := 30) S.1 S.2.1 d_CS_has_4 (by decide) (fun c4 => ?_) (fun c4 => absurd c4 (by decide))
    refine lv_iconst (v := 0) S.1 S.2.1 d_CS_has_30 (by decide) ?_
    exact mm_retz S.1 S.2.1 hr hlocks hA hQ hw (rfl) (⟨rfl, Or.inr ⟨rfl, fun q => hc3 q.1⟩⟩) (Nat.le_of_ble_eq_true rfl) (Nat.le_of_ble_eq_true rfl) d_CS_has_31
theorem d_CS_put_0 : decode b_CS_put 0 = .ok (.iload_n 1, 1) := by decide +kernel
theorem d_CS_put_1 : decode b_CS_put 1 = .ok (.invokestatic 15, 3) := by decide +kernel
theorem d_CS_put_4 : decode b_CS_put 4 = .ok (.ifCond .ne 4, 3) := by decide +kernel
theorem d_CS_put_7 : decode b_CS_put 7 = .ok (.return_, 1) := by decide +kernel
theorem d_CS_put_8 : decode b_CS_put 8 = .ok (.aload_n 0, 1) := by decide +kernel
theorem d_CS_put_9 : decode b_CS_put 9 = .ok (.getfield 11, 3) := by decide +kernel
theorem d_CS_put_12 : decode b_CS_put 12 = .ok (.iload_n 1, 1) := by decide +kernel
theorem d_CS_put_13 : decode b_CS_put 13 = .ok (.bipush 64, 2) := by decide +kernel
theorem d_CS_put_15 : decode b_CS_put 15 = .ok (.idiv, 1) := by decide +kernel
theorem d_CS_put_16 : decode b_CS_put 16 = .ok (.laload, 1) := by decide +kernel
theorem d_CS_put_17 : decode b_CS_put 17 = .ok (.iload_n 1, 1) := by decide +kernel
theorem d_CS_put_18 : decode b_CS_put 18 = .ok (.invokestatic 19, 3) := by decide +kernel
theorem d_CS_put_21 : decode b_CS_put 21 = .ok (.ldc2_w 23, 3) := by decide +kernel
theorem d_CS_put_24 : decode b_CS_put 24 = .ok (.lxor, 1) := by decide +kernel
theorem d_CS_put_25 : decode b_CS_put 25 = .ok (.land, 1) := by decide +kernel
theorem d_CS_put_26 : decode b_CS_put 26 = .ok (.lstore_n 3, 1) := by decide +kernel
theorem d_CS_put_27 : decode b_CS_put 27 = .ok (.aload_n 0, 1) := by decide +kernel
theorem d_CS_put_28 : decode b_CS_put 28 = .ok (.getfield 11, 3) := by decide +kernel
theorem d_CS_put_31 : decode b_CS_put 31 = .ok (.iload_n 1, 1) := by decide +kernel
theorem d_CS_put_32 : decode b_CS_put 32 = .ok (.bipush 64, 2) := by decide +kernel
theorem d_CS_put_34 : decode b_CS_put 34 = .ok (.idiv, 1) := by decide +kernel
theorem d_CS_put_35 : decode b_CS_put 35 = .ok (.iload_n 2, 1) := by decide +kernel
theorem d_CS_put_36 : decode b_CS_put 36 = .ok (.ifCond .eq 12, 3) := by decide +kernel
theorem d_CS_put_39 : decode b_CS_put 39 = .ok (.lload_n 3, 1) := by decide +kernel
theorem d_CS_put_40 : decode b_CS_put 40 = .ok (.iload_n 1, 1) := by decide +kernel
theorem d_CS_put_41 : decode b_CS_put 41 = .ok (.invokestatic 19, 3) := by decide +kernel
theorem d_CS_put_44 : decode b_CS_put 44 = .ok (.lor, 1) := by decide +kernel
theorem d_CS_put_45 : decode b_CS_put 45 = .ok (.goto 4, 3) := by decide +kernel
theorem d_CS_put_48 : decode b_CS_put 48 = .ok (.lload_n 3, 1) := by decide +kernel
theorem d_CS_put_49 : decode b_CS_put 49 = .ok (.lastore, 1) := by decide +kernel
theorem d_CS_put_50 : decode b_CS_put 50 = .ok (.return_, 1) := by decide +kernel
set_option maxHeartbeats 4000000 in
set_option maxRecDepth 100000 in
theorem c_CS_put (l : Launch) (D : va_G) (dA : Nat → ClassId) (M : mm_M) (cs wd : Nat) (fW : Nat → Int64) (hcs : M cs = some (.inr (3, [.ref wd]))) (hwd : M wd = some (aJ (dA 1) 157 fW)) (k z : Int32) (hz : z = 0 ∨ z = 1) (hok : is_ok 9999 k) : mm_Cv l y_CS_put w_CS_put ({ frames := 1, cells := 0, slots := 0, locals := 20 }) 0 0 D vC (tyL dA) [.ref cs, .int k, .int z] M (fun M' => ∃ fW' : Nat → Int64, M' = mm_up M wd (aJ (dA 1) 157 fW') ∧ ∀ i, bw fW' i = if i = cN k then decide (¬ z = 0) else bw fW i) := by
  intro sz
  refine mm_start (by decide) (Nat.le_of_ble_eq_true rfl) ?_
  intro p e s m below meth c A Q ls hA hQ S hr hlocks hin hK hw hl
  have hl : lv_has ls 5 [(0, .ref cs), (1, .int k), (2, .int z)] := hl
  refine lv_iload_n S.1 S.2.1 d_CS_put_0 rfl (lv_at hl 1 rfl) ?_
  refine mm_calli hw (mm_runSN (As := [.int k]) (rest := []) S hK hw (c_AR_isCode l D dA _ k _) bs_AR_isCode hK.2.2.2.2.2.2 (⟨rfl, rfl, by decide, by decide, by decide, by decide⟩) hl.1 rfl rfl (Nat.le_of_ble_eq_true rfl) d_CS_put_1) (fun r1 M2 H locs hp hw => ?_)
  rw [hp.1] at hw
  have hp2 := hp.2.resolve_right (fun q => q.2 hok)
  obtain ⟨rfl, hok2⟩ := hp2
  obtain ⟨j, ekj, hlj, hhj, enj⟩ := is_of (N := 9999) rfl (by omega) hok
  refine lv_if_ne (tgt := 8) S.1 S.2.1 d_CS_put_4 (by decide) (fun c4 => ?_) (fun c4 => absurd c4 (by decide))
  refine lv_aload_n S.1 S.2.1 d_CS_put_8 rfl (lv_at hl 0 rfl) ?_
  refine mm_get (C := R_CS) (T := T_CS) (N := 1) S hK.1 hw hcs rfl in_CS 0 (by decide) gw_71 rfl rfl d_CS_put_9 ?_
  refine lv_iload_n S.1 S.2.1 d_CS_put_12 rfl (lv_at hl 1 rfl) ?_
  refine lv_bipush (v := 64) S.1 S.2.1 d_CS_put_13 (by decide) ?_
  refine lv_idiv S.1 S.2.1 d_CS_put_15 (by decide) ?_
  refine mn_lald (j := cN k / 64) S hK.1 hw 1 hwd rfl (by rw [cN, enj, ekj, show (64 : Int32) = nI 64 from rfl, pk_div (by omega) (by decide) (by decide)]) (by rw [cN, enj]; omega) (by decide) d_CS_put_16 ?_
  refine lv_iload_n S.1 S.2.1 d_CS_put_17 rfl (lv_at hl 1 rfl) ?_
  refine mm_calll hw (mm_runS (As := [.int k]) (rest := [.long (fW (cN k / 64))]) S hK hw (c_CS_bitOf l D dA _ k j ekj (by omega) _) bs_CS_bitOf gw_243 (⟨rfl, rfl, by decide, by decide, by decide, by decide⟩) hl.1 rfl rfl (Nat.le_of_ble_eq_true rfl) d_CS_put_18) (fun r3 M4 H locs hp hw => ?_)
  rw [hp.1] at hw
  have hr5 := hp.2
  refine lv_ldc2 (v := -1) S.1 S.2.1 S.2.2.2.1 (S.2.2.2.2 _ gw_347) d_CS_put_21 ?_
  refine lv_lxor S.1 S.2.1 d_CS_put_24 ?_
  refine lv_land S.1 S.2.1 d_CS_put_25 ?_
  refine lv_lstore_n (lv' := [(3, .long ((fW (cN k / 64)) &&& (r3 ^^^ -1))), (0, .ref cs), (1, .int k), (2, .int z)]) S.1 S.2.1 d_CS_put_26 rfl hl (by decide) rfl (fun ls hl => ?_)
  refine lv_aload_n S.1 S.2.1 d_CS_put_27 rfl (lv_at hl 1 rfl) ?_
  refine mm_get (C := R_CS) (T := T_CS) (N := 1) S hK.1 hw hcs rfl in_CS 0 (by decide) gw_71 rfl rfl d_CS_put_28 ?_
  refine lv_iload_n S.1 S.2.1 d_CS_put_31 rfl (lv_at hl 2 rfl) ?_
  refine lv_bipush (v := 64) S.1 S.2.1 d_CS_put_32 (by decide) ?_
  refine lv_idiv S.1 S.2.1 d_CS_put_34 (by decide) ?_
  refine lv_iload_n S.1 S.2.1 d_CS_put_35 rfl (lv_at hl 3 rfl) ?_
  refine lv_if_eq (tgt := 48) S.1 S.2.1 d_CS_put_36 (by decide) (fun c36 => ?_) (fun c36 => ?_)
  · refine lv_lload_n S.1 S.2.1 d_CS_put_48 rfl (lv_at hl 0 rfl) ?_
    refine mn_last (j := cN k / 64) S hK.1 hw 1 hwd rfl (by rw [cN, enj, ekj, show (64 : Int32) = nI 64 from rfl, pk_div (by omega) (by decide) (by decide)]) (by rw [cN, enj]; omega) (by decide) d_CS_put_49 (fun H locs hw => ?_)
    obtain ⟨M6, eM6⟩ : ∃ zM : mm_M, zM = mm_up M wd (.inl (dA 1, 157, .inr (.inl (vp_updL (fW) (cN k / 64) (((fW (cN k / 64)) &&& (r3 ^^^ -1))))))) := ⟨_, rfl⟩
    have hw : mm_w D vC _ _ (mm_up M wd (.inl (dA 1, 157, .inr (.inl (vp_updL (fW) (cN k / 64) (((fW (cN k / 64)) &&& (r3 ^^^ -1)))))))) H _ := hw
    rw [← eM6] at hw
    have hcs_6 : M6 cs = some (.inr (3, [.ref wd])) := by rw [eM6]; exact mm_uk hwd hcs (by simp)
    have hwd_6 : M6 wd = some (.inl (dA 1, 157, .inr (.inl (vp_updL (fW) (cN k / 64) (((fW (cN k / 64)) &&& (r3 ^^^ -1))))))) := by rw [eM6]; exact mm_us
    refine mm_retv S.1 S.2.1 hr hlocks hA hQ hw (post := fun M' => ∃ fW' : Nat → Int64, M' = mm_up M wd (aJ (dA 1) 157 fW') ∧ ∀ i, bw fW' i = if i = cN k then decide (¬ z = 0) else bw fW i) ⟨_, eM6, fun i => ?_⟩ (Nat.le_of_ble_eq_true rfl) (Nat.le_of_ble_eq_true rfl) d_CS_put_50
    have hb1 : r3.toBitVec = BitVec.twoPow 64 (cN k % 64) := by rw [cN, enj]; exact hr5
    show (vp_updL fW (cN k / 64) _ (i / 64)).toBitVec.getLsbD (i % 64) = _
    by_cases hw9 : i / 64 = cN k / 64
    · rw [hw9, pk_uLs]
      rw [bw_off (by omega) hb1]
      by_cases hi9 : i = cN k
      · subst hi9; rw [if_pos rfl]; simp [c36]
      · have h9 : ¬ i % 64 = cN k % 64 := by omega
        rw [if_neg hi9]; simp only [h9, decide_false, Bool.not_false, Bool.and_true]; rw [← hw9]; rfl
    · rw [pk_uLn hw9, if_neg (fun q => hw9 (by rw [q]))]; rfl
  · refine lv_lload_n S.1 S.2.1 d_CS_put_39 rfl (lv_at hl 0 rfl) ?_
    refine lv_iload_n S.1 S.2.1 d_CS_put_40 rfl (lv_at hl 2 rfl) ?_
    refine mm_calll hw (mm_runS (As := [.int k]) (rest := [.long ((fW (cN k / 64)) &&& (r3 ^^^ -1)), .int (k / 64), .ref wd]) S hK hw (c_CS_bitOf l D dA _ k j ekj (by omega) _) bs_CS_bitOf gw_243 (⟨rfl, rfl, by decide, by decide, by decide, by decide⟩) hl.1 rfl rfl (Nat.le_of_ble_eq_true rfl) d_CS_put_41) (fun r7 M8 H locs hp hw => ?_)
    rw [hp.1] at hw
    have hr9 := hp.2
    refine lv_lor S.1 S.2.1 d_CS_put_44 ?_
    refine lv_goto (tgt := 49) S.1 S.2.1 d_CS_put_45 (by decide) ?_
    refine mn_last (j := cN k / 64) S hK.1 hw 1 hwd rfl (by rw [cN, enj, ekj, show (64 : Int32) = nI 64 from rfl, pk_div (by omega) (by decide) (by decide)]) (by rw [cN, enj]; omega) (by decide) d_CS_put_49 (fun H locs hw => ?_)
    obtain ⟨M10, eM10⟩ : ∃ zM : mm_M, zM = mm_up M wd (.inl (dA 1, 157, .inr (.inl (vp_updL (fW) (cN k / 64) ((((fW (cN k / 64)) &&& (r3 ^^^ -1)) ||| r7)))))) := ⟨_, rfl⟩
    have hw : mm_w D vC _ _ (mm_up M wd (.inl (dA 1, 157, .inr (.inl (vp_updL (fW) (cN k / 64) ((((fW (cN k / 64)) &&& (r3 ^^^ -1)) ||| r7))))))) H _ := hw
    rw [← eM10] at hw
    have hcs_10 : M10 cs = some (.inr (3, [.ref wd])) := by rw [eM10]; exact mm_uk hwd hcs (by simp)
    have hwd_10 : M10 wd = some (.inl (dA 1, 157, .inr (.inl (vp_updL (fW) (cN k / 64) ((((fW (cN k / 64)) &&& (r3 ^^^ -1)) ||| r7)))))) := by rw [eM10]; exact mm_us
    refine mm_retv S.1 S.2.1 hr hlocks hA hQ hw (post := fun M' => ∃ fW' : Nat → Int64, M' = mm_up M wd (aJ (dA 1) 157 fW') ∧ ∀ i, bw fW' i = if i = cN k then decide (¬ z = 0) else bw fW i) ⟨_, eM10, fun i => ?_⟩ (Nat.le_of_ble_eq_true rfl) (Nat.le_of_ble_eq_true rfl) d_CS_put_50
    have hb1 : r3.toBitVec = BitVec.twoPow 64 (cN k % 64) := by rw [cN, enj]; exact hr5
    have hb2 : r7.toBitVec = BitVec.twoPow 64 (cN k % 64) := by rw [cN, enj]; exact hr9
    show (vp_updL fW (cN k / 64) _ (i / 64)).toBitVec.getLsbD (i % 64) = _
    by_cases hw9 : i / 64 = cN k / 64
    · rw [hw9, pk_uLs]
      rw [bw_on (by omega) hb2, bw_off (by omega) hb1]
      by_cases hi9 : i = cN k
      · subst hi9; rw [if_pos rfl]; simp [c36]
      · have h9 : ¬ i % 64 = cN k % 64 := by omega
        rw [if_neg hi9]; simp only [h9, decide_false, Bool.not_false, Bool.and_true, Bool.or_false]; rw [← hw9]; rfl
    · rw [pk_uLn hw9, if_neg (fun q => hw9 (by rw [q]))]; rfl
theorem d_AR_suppress_0 : decode b_AR_suppress 0 = .ok (.iload_n 1, 1) := by decide +kernel
theorem d_AR_suppress_1 : decode b_AR_suppress 1 = .ok (.invokestatic 89, 3) := by decide +kernel
theorem d_AR_suppress_4 : decode b_AR_suppress 4 = .ok (.ifCond .ne 6, 3) := by decide +kernel
theorem d_AR_suppress_7 : decode b_AR_suppress 7 = .ok (.bipush (-4), 2) := by decide +kernel
theorem d_AR_suppress_9 : decode b_AR_suppress 9 = .ok (.ireturn, 1) := by decide +kernel
theorem d_AR_suppress_10 : decode b_AR_suppress 10 = .ok (.aload_n 0, 1) := by decide +kernel
theorem d_AR_suppress_11 : decode b_AR_suppress 11 = .ok (.getfield 46, 3) := by decide +kernel
theorem d_AR_suppress_14 : decode b_AR_suppress 14 = .ok (.iload_n 1, 1) := by decide +kernel
theorem d_AR_suppress_15 : decode b_AR_suppress 15 = .ok (.invokevirtual 118, 3) := by decide +kernel
theorem d_AR_suppress_18 : decode b_AR_suppress 18 = .ok (.istore_n 3, 1) := by decide +kernel
theorem d_AR_suppress_19 : decode b_AR_suppress 19 = .ok (.aload_n 0, 1) := by decide +kernel
theorem d_AR_suppress_20 : decode b_AR_suppress 20 = .ok (.getfield 46, 3) := by decide +kernel
theorem d_AR_suppress_23 : decode b_AR_suppress 23 = .ok (.iload_n 1, 1) := by decide +kernel
theorem d_AR_suppress_24 : decode b_AR_suppress 24 = .ok (.iload_n 2, 1) := by decide +kernel
theorem d_AR_suppress_25 : decode b_AR_suppress 25 = .ok (.invokevirtual 174, 3) := by decide +kernel
theorem d_AR_suppress_28 : decode b_AR_suppress 28 = .ok (.iload_n 3, 1) := by decide +kernel
theorem d_AR_suppress_29 : decode b_AR_suppress 29 = .ok (.ifCond .eq 7, 3) := by decide +kernel
theorem d_AR_suppress_32 : decode b_AR_suppress 32 = .ok (.iconst 1, 1) := by decide +kernel
theorem d_AR_suppress_33 : decode b_AR_suppress 33 = .ok (.goto 4, 3) := by decide +kernel
theorem d_AR_suppress_36 : decode b_AR_suppress 36 = .ok (.iconst 0, 1) := by decide +kernel
theorem d_AR_suppress_37 : decode b_AR_suppress 37 = .ok (.ireturn, 1) := by decide +kernel
set_option maxHeartbeats 4000000 in
set_option maxRecDepth 100000 in
theorem c_AR_suppress (l : Launch) (D : va_G) (dA : Nat → ClassId) (M : mm_M) (x nc : Nat) (I : sI) (F : sF) (st : sT) (hC : cP dA M x I F st nc) (hwf : wf I F st) (k z : Int32) (hz : z = 0 ∨ z = 1) : mm_Ci l y_AR_suppress w_AR_suppress ({ frames := 2, cells := 0, slots := 0, locals := 44 }) 0 0 D vC (tyL dA) [.ref x, .int k, .int z] M (cs_post dA x nc (sp_suppress k z I F st)) := by
  intro sz
  refine mm_start (by decide) (Nat.le_of_ble_eq_true rfl) ?_
  intro p e s m below meth c A Q ls hA hQ S hr hlocks hin hK hw hl
  have hl : lv_has ls 4 [(0, .ref x), (1, .int k), (2, .int z)] := hl
  obtain ⟨lv, sr, gd, rs, ss, dr, cs, cg, hX, hL, hG, hS, hR, hT, hD, hCs, hE⟩ := id hC
  have hX : M x = some (.inr (0, [.ref lv, .int (I 1), .int (I 2), .ref sr, .ref gd, .int (I 3), .ref rs, .ref ss, .ref dr, .ref cs, .ref cg])) := hX
  obtain ⟨wd, fW, hcs, hwd, hsp9⟩ := id hCs
  refine lv_iload_n S.1 S.2.1 d_AR_suppress_0 rfl (lv_at hl 1 rfl) ?_
  refine mm_calli hw (mm_runS (As := [.int k]) (rest := []) S hK hw (c_AR_isCode l D dA _ k _) bs_AR_isCode gw_191 (⟨rfl, rfl, by decide, by decide, by decide, by decide⟩) hl.1 rfl rfl (Nat.le_of_ble_eq_true rfl) d_AR_suppress_1) (fun r1 M2 H locs hp hw => ?_)
  rw [hp.1] at hw
  rcases hp.2 with ⟨rfl, hc3⟩ | ⟨rfl, hc3⟩
  · obtain ⟨j4, ekj4, hlj4, hhj4, enj4⟩ := is_of (N := 9999) rfl (by omega) hc3
    refine lv_if_ne (tgt := 10) S.1 S.2.1 d_AR_suppress_4 (by decide) (fun c4 => ?_) (fun c4 => absurd c4 (by decide))
    refine lv_aload_n S.1 S.2.1 d_AR_suppress_10 rfl (lv_at hl 0 rfl) ?_
    refine mm_get (C := R_AR) (T := T_AR) (N := 11) S hK.1 hw hX rfl in_AR 9 (by decide) gw_97 rfl rfl d_AR_suppress_11 ?_
    refine lv_iload_n S.1 S.2.1 d_AR_suppress_14 rfl (lv_at hl 1 rfl) ?_
    refine mm_calli hw (mm_runV (a := cs) (As := [.int k]) (rest := []) S hK hw (c_CS_has l D dA _ cs wd fW hcs hwd k _) bv_CS_has gw_238 hcs rfl (⟨rfl, rfl, by decide, by decide, by decide, by decide⟩) hl.1 rfl rfl (Nat.le_of_ble_eq_true rfl) d_AR_suppress_15) (fun r5 M6 H locs hp hw => ?_)
    rw [hp.1] at hw
    rcases hp.2 with ⟨rfl, hh7⟩ | ⟨rfl, hh7⟩
    · refine lv_istore_n (lv' := [(3, .int 1), (0, .ref x), (1, .int k), (2, .int z)]) S.1 S.2.1 d_AR_suppress_18 rfl hl (by decide) rfl (fun ls hl => ?_)
      refine lv_aload_n S.1 S.2.1 d_AR_suppress_19 rfl (lv_at hl 1 rfl) ?_
      refine mm_get (C := R_AR) (T := T_AR) (N := 11) S hK.1 hw hX rfl in_AR 9 (by decide) gw_97 rfl rfl d_AR_suppress_20 ?_
      refine lv_iload_n S.1 S.2.1 d_AR_suppress_23 rfl (lv_at hl 2 rfl) ?_
      refine lv_iload_n S.1 S.2.1 d_AR_suppress_24 rfl (lv_at hl 3 rfl) ?_
      refine mm_callv hw (mm_runV (a := cs) (As := [.int k, .int z]) (rest := []) S hK hw (c_CS_put l D dA _ cs wd fW hcs hwd k z hz hc3 _) bv_CS_put gw_343 hcs rfl (⟨rfl, rfl, by decide, by decide, by decide, by decide⟩) hl.1 rfl rfl (Nat.le_of_ble_eq_true rfl) d_AR_suppress_25) (fun M9 H locs hp hw => ?_)
      obtain ⟨fW', rfl, hbw⟩ := hp
      refine lv_iload_n S.1 S.2.1 d_AR_suppress_28 rfl (lv_at hl 0 rfl) ?_
      refine lv_if_eq (tgt := 36) S.1 S.2.1 d_AR_suppress_29 (by decide) (fun c29 => absurd c29 (by decide)) (fun c29 => ?_)
      refine lv_iconst (v := 1) S.1 S.2.1 d_AR_suppress_32 (by decide) ?_
      refine lv_goto (tgt := 37) S.1 S.2.1 d_AR_suppress_33 (by decide) ?_
      have hk9 : kt M (mm_up M wd (aJ (dA 1) 157 fW')) [2157] := kt_up hwd (by simp [tg])
      have hf10 : F 10 (cN k) = if bw fW (cN k) then 1 else 0 := by rw [cN, enj4]; exact hsp9 j4 hlj4 hhj4
      have hv : ¬ F 10 (cN k) = 0 := by rw [hf10, hh7.2]; decide
      have hcc9 : cC dA (mm_up M wd (aJ (dA 1) 157 fW')) cs (va_up F 10 (upd (F 10) (cN k) z)) := ⟨wd, fW', mm_uk hwd hcs (by simp), mm_us, fun i h1 h2 => by
        show upd (F 10) (cN k) z i = _
        rw [hbw i]
        by_cases hi : i = cN k
        · subst hi; rw [pk_us, if_pos rfl]; rcases hz with rfl | rfl <;> rfl
        · rw [pk_un hi, if_neg hi]; exact hsp9 i h1 h2⟩
      have hP9 : cP dA (mm_up M wd (aJ (dA 1) 157 fW')) x (upd I 0 0) (va_up F 10 (upd (F 10) (cN k) z)) st (nc + 1) := ⟨lv, sr, gd, rs, ss, dr, cs, cg, hk9 _ _ hX (by simp [tg]), cL_k hk9 hL (by decide) rfl rfl rfl rfl rfl rfl rfl rfl rfl, cG_k hk9 hG (by decide) rfl rfl rfl rfl, cS_k hk9 hS (by decide) rfl rfl, hk9 _ _ hR (by simp [tg]), hk9 _ _ hT (by simp [tg]), cD_k hk9 hD (by decide) rfl rfl, hcc9, cE_k hk9 hE (by decide) (by omega) rfl⟩
      exact mm_reti S.1 S.2.1 hr hlocks hA hQ hw (cs_done hP9 (show sp_suppress k z I F st = (1, _, _, _) by simp only [sp_suppress, eq_true hc3, eq_false c4, eq_false c29, not_true_eq_false, not_false_eq_true, and_true, true_and, and_false, false_and, and_self, or_true, true_or, or_false, false_or, or_self, ↓reduceIte, eq_false hv])) (Nat.le_of_ble_eq_true rfl) (Nat.le_of_ble_eq_true rfl) d_AR_suppress_37
    · refine lv_istore_n (lv' := [(3, .int 0), (0, .ref x), (1, .int k), (2, .int z)]) S.1 S.2.1 d_AR_suppress_18 rfl hl (by decide) rfl (fun ls hl => ?_)
      refine lv_aload_n S.1 S.2.1 d_AR_suppress_19 rfl (lv_at hl 1 rfl) ?_
      refine mm_get (C := R_AR) (T := T_AR) (N := 11) S hK.1 hw hX rfl in_AR 9 (by decide) gw_97 rfl rfl d_AR_suppress_20 ?_
      refine lv_iload_n S.1 S.2.1 d_AR_suppress_23 rfl (lv_at hl 2 rfl) ?_
      refine lv_iload_n S.1 S.2.1 d_AR_suppress_24 rfl (lv_at hl 3 rfl) ?_
      refine mm_callv hw (mm_runV (a := cs) (As := [.int k, .int z]) (rest := []) S hK hw (c_CS_put l D dA _ cs wd fW hcs hwd k z hz hc3 _) bv_CS_put gw_343 hcs rfl (⟨rfl, rfl, by decide, by decide, by decide, by decide⟩) hl.1 rfl rfl (Nat.le_of_ble_eq_true rfl) d_AR_suppress_25) (fun M11 H locs hp hw => ?_)
      obtain ⟨fW', rfl, hbw⟩ := hp
      refine lv_iload_n S.1 S.2.1 d_AR_suppress_28 rfl (lv_at hl 0 rfl) ?_
      refine lv_if_eq (tgt := 36) S.1 S.2.1 d_AR_suppress_29 (by decide) (fun c29 => ?_) (fun c29 => absurd c29 (by decide))
      refine lv_iconst (v := 0) S.1 S.2.1 d_AR_suppress_36 (by decide) ?_
      have hk9 : kt M (mm_up M wd (aJ (dA 1) 157 fW')) [2157] := kt_up hwd (by simp [tg])
      have hf10 : F 10 (cN k) = if bw fW (cN k) then 1 else 0 := by rw [cN, enj4]; exact hsp9 j4 hlj4 hhj4
      have hv : F 10 (cN k) = 0 := by
        rw [hf10]
        cases hb9 : bw fW (cN k) with
        | true => exact absurd ⟨hc3, hb9⟩ hh7
        | false => rfl
      have hcc9 : cC dA (mm_up M wd (aJ (dA 1) 157 fW')) cs (va_up F 10 (upd (F 10) (cN k) z)) := ⟨wd, fW', mm_uk hwd hcs (by simp), mm_us, fun i h1 h2 => by
        show upd (F 10) (cN k) z i = _
        rw [hbw i]
        by_cases hi : i = cN k
        · subst hi; rw [pk_us, if_pos rfl]; rcases hz with rfl | rfl <;> rfl
        · rw [pk_un hi, if_neg hi]; exact hsp9 i h1 h2⟩
      have hP9 : cP dA (mm_up M wd (aJ (dA 1) 157 fW')) x (upd I 0 0) (va_up F 10 (upd (F 10) (cN k) z)) st (nc + 1) := ⟨lv, sr, gd, rs, ss, dr, cs, cg, hk9 _ _ hX (by simp [tg]), cL_k hk9 hL (by decide) rfl rfl rfl rfl rfl rfl rfl rfl rfl, cG_k hk9 hG (by decide) rfl rfl rfl rfl, cS_k hk9 hS (by decide) rfl rfl, hk9 _ _ hR (by simp [tg]), hk9 _ _ hT (by simp [tg]), cD_k hk9 hD (by decide) rfl rfl, hcc9, cE_k hk9 hE (by decide) (by omega) rfl⟩
      exact mm_reti S.1 S.2.1 hr hlocks hA hQ hw (cs_done hP9 (show sp_suppress k z I F st = (0, _, _, _) by simp only [sp_suppress, eq_true hc3, eq_false c4, eq_true c29, not_true_eq_false, not_false_eq_true, and_true, true_and, and_false, false_and, and_self, or_true, true_or, or_false, false_or, or_self, ↓reduceIte, eq_true hv])) (Nat.le_of_ble_eq_true rfl) (Nat.le_of_ble_eq_true rfl) d_AR_suppress_37
  · refine lv_if_ne (tgt := 10) S.1 S.2.1 d_AR_suppress_4 (by decide) (fun c4 => absurd c4 (by decide)) (fun c4 => ?_)
    refine lv_bipush (v := (-4)) S.1 S.2.1 d_AR_suppress_7 (by decide) ?_
    exact mm_reti S.1 S.2.1 hr hlocks hA hQ hw (cs_same hC (show sp_suppress k z I F st = ((-4), upd I 0 0, F, st) by simp only [sp_suppress, eq_false hc3, eq_true c4, not_true_eq_false, not_false_eq_true, and_true, true_and, and_false, false_and, and_self, or_true, true_or, or_false, false_or, or_self, ↓reduceIte])) (Nat.le_of_ble_eq_true rfl) (Nat.le_of_ble_eq_true rfl) d_AR_suppress_9
