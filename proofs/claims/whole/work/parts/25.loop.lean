theorem ms_sld {p : Program} {l : Launch} {e : Env} {R : Room} {s : State} {m : MethodId} {args : Array Value} {below : List Frame} {meth : Method} {c : Code} {H : Heap} {locs : List Loc} {cells slots : Nat} {Q : State → Prop} {cc : ByteArray} {pc : Nat} {ls : Array Slot} {rest : List Value} {A : Nat → Prop} {H0 : Heap} (hexec : p.tables.exec = Jvm.exec) (hb : c.code = cc) {b L j : Nat} {xs : Nat → Int32} (hX : va_X b L xs s H0) (hbl : b < H0.size) (hbA : ¬ A b) (hS : va_S A H0 H locs) {i : Int32} (hi : i = nI j) (hj : j < L) (hL : L < 2 ^ 31) (hdg : decode cc pc = .ok (.iaload, 1))
    (kk : W p l e R s m args below meth c H locs cells slots Q (F0 m (pc + 1) ls (.int (xs j) :: rest))) : W p l e R s m args below meth c H locs cells slots Q (F0 m pc ls (.int i :: .ref b :: rest)) :=
  va_sld hexec hb hX hbl hbA hS (mn_ix hi hj hL).1 hdg (by rw [(mn_ix hi hj hL).2]; exact kk)
theorem mm_dis {M N : mm_M} (h : ∀ (q : Nat) (e : va_E), N q = some e → M q = none) : ∀ (q : Nat) (e : va_E), M q = some e → N q = none := fun q e he => by
  cases hN : N q with
  | none => rfl
  | some x => rw [h q x hN] at he; cases he
theorem cP_n {dA : Nat → ClassId} {M : mm_M} {x : Nat} {I : sI} {F : sF} {st : sT} {nc : Nat} (h : cP dA M x I F st nc) : cP dA M x I F st (nc + 1) := by
  obtain ⟨lv, sr, gd, rs, ss, dr, cs, cg, a1, a2, a3, a4, a5, a6, a7, a8, a9⟩ := h
  exact ⟨lv, sr, gd, rs, ss, dr, cs, cg, a1, a2, a3, a4, a5, a6, a7, a8, cE_k (T := []) kt_rf a9 ⟨by simp, by simp⟩ (by omega) rfl⟩
set_option maxHeartbeats 8000000 in
set_option maxRecDepth 100000 in
/-- THE LAW'S LOOP: with k calls done, class and reference hold the same state -/
theorem law_loop {p : Program} {l : Launch} {e : Env} {s : State} {m : MethodId} {below : List Frame} {meth : Method} {c : Code} {D : va_G} {dA : Nat → ClassId} {b L : Nat} {xs : Nat → Int32} {x y : Nat} {g : Nat → Nat} (hL : L ≤ 2048) (C0 : lw_At p s m meth c b L xs) (hK : mm_K D vC (tyL dA) s) :
    ∀ (mm k : Nat) (I : sI) (F : sF) (st : sT) (M N : mm_M) (H : Heap) (locs : List Loc) (ls : Array Slot), k + mm = 513 → cP dA M x I F st k → mP dA N y g I F st → wf I F st → mm_w D vC (fun q : Nat => s.heap.size ≤ q) s.heap M H locs → mm_w D vC (fun q : Nat => s.heap.size ≤ q) s.heap N H locs → (∀ (q : Nat) (e : va_E), N q = some e → M q = none) → lv_has ls 4 [(0, .ref b), (1, .ref x), (2, .ref y), (3, .int (nI (4 * k)))] → W p l e room_1 s m #[Value.ref b] below meth c H locs (30 + k) (24234 + 5 * k) (lw_Z below #[Value.ref b] s) (F0 m 18 ls []) := by
  obtain ⟨hx, hb, hr, hml, hown, hts, hXs, hbl, hlocks, hgv⟩ := C0
  have hbA : ¬ (fun q : Nat => s.heap.size ≤ q) b := Nat.not_le.mpr hbl
  have S : CallFix p m c code 4 s #[Value.ref b] gt_l "AbendRowsLaw" := ⟨hx, hb, hml, hown, fun w h => hts w (List.mem_filter.mp h).1⟩
  intro mm
  induction mm with
  | zero =>
    intro k I F st M N H locs ls hk hC hP hwf hw hn hd hl
    refine lv_iload_n S.1 S.2.1 d_LW_law_18 rfl (lv_at hl 3 rfl) ?_
    refine lv_aload_n S.1 S.2.1 d_LW_law_19 rfl (lv_at hl 0 rfl) ?_
    refine va_slen S.1 S.2.1 hXs hbl hbA hw.2.2.1 d_LW_law_20 ?_
    refine lv_iconst (v := 4) S.1 S.2.1 d_LW_law_21 (by decide) ?_
    refine lv_isub S.1 S.2.1 d_LW_law_22 ?_
    refine lv_icmp_gt (tgt := 631) S.1 S.2.1 d_LW_law_23 (by decide) (fun c23 => ?_) (fun c23 => absurd ?_ c23)
    · refine lv_iconst (v := 1) S.1 S.2.1 d_LW_law_631 (by decide) ?_
      refine va_forget (fun q hq => hw.2.2.1.2.2 q hq) ?_
      refine W.widen (k := 600000) (n := 7302250) (by omega) (by omega) ?_
      exact lw_ret hx hb hr hlocks d_LW_law_632
    · rw [Int32.lt_iff_toInt_lt, show (4 : Int32) = nI 4 from rfl, show Int32.ofNat L = nI L from rfl, pk_sub_toInt (by omega) (by decide), nI_toInt (by omega)]
      omega
  | succ mm ih =>
    intro k I F st M N H locs ls hk hC hP hwf hw hn hd hl
    refine lv_iload_n S.1 S.2.1 d_LW_law_18 rfl (lv_at hl 3 rfl) ?_
    refine lv_aload_n S.1 S.2.1 d_LW_law_19 rfl (lv_at hl 0 rfl) ?_
    refine va_slen S.1 S.2.1 hXs hbl hbA hw.2.2.1 d_LW_law_20 ?_
    refine lv_iconst (v := 4) S.1 S.2.1 d_LW_law_21 (by decide) ?_
    refine lv_isub S.1 S.2.1 d_LW_law_22 ?_
    refine lv_icmp_gt (tgt := 631) S.1 S.2.1 d_LW_law_23 (by decide) (fun c23 => ?_) (fun c23 => ?_)
    · refine lv_iconst (v := 1) S.1 S.2.1 d_LW_law_631 (by decide) ?_
      refine va_forget (fun q hq => hw.2.2.1.2.2 q hq) ?_
      refine W.widen (k := 600000) (n := 7302250) (by omega) (by omega) ?_
      exact lw_ret hx hb hr hlocks d_LW_law_632
    · have hk4 : 4 * k + 4 ≤ L := by
        rw [Int32.lt_iff_toInt_lt, show (4 : Int32) = nI 4 from rfl, show Int32.ofNat L = nI L from rfl, pk_sub_toInt (by omega) (by decide), nI_toInt (by omega)] at c23
        omega
      obtain ⟨lv, sr, gd, rs, ss, dr, cs, cg, hcx, -⟩ := id hC
      have hcx : M x = some (.inr (0, [.ref lv, .int (I 1), .int (I 2), .ref sr, .ref gd, .int (I 3), .ref rs, .ref ss, .ref dr, .ref cs, .ref cg])) := hcx
      obtain ⟨n1, hn1, hN1⟩ := hwf.1
      obtain ⟨n2, hn2, hN2⟩ := hwf.2.1
      obtain ⟨n3, hn3, hN3⟩ := hwf.2.2.1
      obtain ⟨n4, hn4, hN4⟩ := hwf.2.2.2.1
      obtain ⟨n5, hn5, hN5⟩ := hwf.2.2.2.2.1
      have hlw : lv_wf2 F n1 n2 := by rw [← cN_I hn1 (by omega), ← cN_I hn2 (by omega)]; exact hwf.2.2.2.2.2.1
      have hsz : ∀ j, 1 ≤ j → j ≤ n1 → ∃ z, F 2 j = nI z ∧ z ≤ 10 := fun j p q => by obtain ⟨z, h1, h2, -⟩ := hlw.2.2 j p q; exact ⟨z, h1, h2⟩
      refine lv_aload_n S.1 S.2.1 d_LW_law_26 rfl (lv_at hl 0 rfl) ?_
      refine lv_iload_n S.1 S.2.1 d_LW_law_27 rfl (lv_at hl 3 rfl) ?_
      refine ms_sld (j := 4 * k + 0) S.1 S.2.1 hXs hbl hbA hw.2.2.1 (rfl) (by omega) (by omega) d_LW_law_28 ?_
      refine lv_bipush (v := 15) S.1 S.2.1 d_LW_law_29 (by decide) ?_
      refine lv_iand S.1 S.2.1 d_LW_law_31 ?_
      obtain ⟨sw, hsw, esw⟩ := pk_andE (xs (4 * k + 0)) (m := 15) 4 (by decide)
      rw [esw]
      have hsw : sw < 16 := hsw
      rcases (show sw = 0 ∨ sw = 1 ∨ sw = 2 ∨ sw = 3 ∨ sw = 4 ∨ sw = 5 ∨ sw = 6 ∨ sw = 7 ∨ sw = 8 ∨ sw = 9 ∨ sw = 10 ∨ sw = 11 ∨ sw = 12 ∨ sw = 13 ∨ sw = 14 ∨ sw = 15 by omega) with rfl | rfl | rfl | rfl | rfl | rfl | rfl | rfl | rfl | rfl | rfl | rfl | rfl | rfl | rfl | rfl
      · refine lv_tableIn (off := 76) (tgt := 108) S.1 S.2.1 d_LW_law_32 (by decide) (by decide) (by rfl) (by decide) ?_
        refine lv_aload_n S.1 S.2.1 d_LW_law_108 rfl (lv_at hl 1 rfl) ?_
        refine lv_aload_n S.1 S.2.1 d_LW_law_109 rfl (lv_at hl 0 rfl) ?_
        refine lv_iload_n S.1 S.2.1 d_LW_law_110 rfl (lv_at hl 3 rfl) ?_
        refine lv_iconst (v := 1) S.1 S.2.1 d_LW_law_111 (by decide) ?_
        refine lv_iadd S.1 S.2.1 d_LW_law_112 ?_
        refine ms_sld (j := 4 * k + 1) S.1 S.2.1 hXs hbl hbA hw.2.2.1 (nI_add (4 * k) 1) (by omega) (by omega) d_LW_law_113 ?_
        refine mm_calli2 hw hn hd (mm_runV (a := x) (As := [.int (xs (4 * k + 1))]) (rest := []) S hK hw (c_AR_level l D dA _ x k I F st hC hwf ((xs (4 * k + 1))) _) bv_AR_level gw_122 hcx rfl ⟨rfl, rfl, by decide, by decide, (show _ ≤ 600000 by omega), (show _ ≤ 7302250 by omega)⟩ hl.1 rfl rfl (Nat.le_of_ble_eq_true rfl) d_LW_law_114) (fun r1 M H locs hp hw hn hd => ?_)
        obtain ⟨e1, hC9⟩ := hp
        refine lv_aload_n S.1 S.2.1 d_LW_law_117 rfl (lv_at hl 2 rfl) ?_
        refine lv_aload_n S.1 S.2.1 d_LW_law_118 rfl (lv_at hl 0 rfl) ?_
        refine lv_iload_n S.1 S.2.1 d_LW_law_119 rfl (lv_at hl 3 rfl) ?_
        refine lv_iconst (v := 1) S.1 S.2.1 d_LW_law_120 (by decide) ?_
        refine lv_iadd S.1 S.2.1 d_LW_law_121 ?_
        refine ms_sld (j := 4 * k + 1) S.1 S.2.1 hXs hbl hbA hw.2.2.1 (nI_add (4 * k) 1) (by omega) (by omega) d_LW_law_122 ?_
        refine mm_calli2 hn hw (mm_dis hd) (mm_runV (a := y) (As := [.int (xs (4 * k + 1))]) (rest := [.int r1]) S hK hn (c_MO_level l D dA _ y g I F st ((xs (4 * k + 1))) n1 hn1 hN1 hP _) bv_MO_level gw_438 hP.2.1 rfl ⟨rfl, rfl, by decide, by decide, (show _ ≤ 600000 by omega), (show _ ≤ 7302250 by omega)⟩ hl.1 rfl rfl (Nat.le_of_ble_eq_true rfl) d_LW_law_123) (fun r2 N H locs hp hn hw hd => ?_)
        obtain ⟨e2, hP⟩ := hp
        have hd := mm_dis hd
        have hC := hC9
        refine lv_icmp_eq (tgt := 625) S.1 S.2.1 d_LW_law_126 (by decide) (fun c126 => ?_) (fun c126 => absurd (e1.trans e2.symm) c126)
        refine lv_iinc (v := nI (4 * (k + 1))) (lv' := [(3, .int (nI (4 * (k + 1)))), (0, .ref b), (1, .ref x), (2, .ref y)]) S.1 S.2.1 d_LW_law_625 hl (k := 3) rfl (nI_add (4 * k) 4) (by decide) rfl (fun ls hl => ?_)
        refine lv_goto (tgt := 18) S.1 S.2.1 d_LW_law_628 (by decide) ?_
        refine W.widen (k := 30 + (k + 1)) (n := 24234 + 5 * (k + 1)) (by omega) (by omega) ?_
        exact ih (k + 1) _ _ _ _ _ _ _ ls (by omega) hC hP (wf_level hwf ((xs (4 * k + 1)))) hw hn hd (lv_sub hl [1, 2, 3, 0] rfl)
      · refine lv_tableIn (off := 99) (tgt := 131) S.1 S.2.1 d_LW_law_32 (by decide) (by decide) (by rfl) (by decide) ?_
        by_cases hb9 : xs (4 * k + 3) = 0
        · refine lv_aload_n S.1 S.2.1 d_LW_law_131 rfl (lv_at hl 1 rfl) ?_
          refine lv_aload_n S.1 S.2.1 d_LW_law_132 rfl (lv_at hl 0 rfl) ?_
          refine lv_iload_n S.1 S.2.1 d_LW_law_133 rfl (lv_at hl 3 rfl) ?_
          refine lv_iconst (v := 1) S.1 S.2.1 d_LW_law_134 (by decide) ?_
          refine lv_iadd S.1 S.2.1 d_LW_law_135 ?_
          refine ms_sld (j := 4 * k + 1) S.1 S.2.1 hXs hbl hbA hw.2.2.1 (nI_add (4 * k) 1) (by omega) (by omega) d_LW_law_136 ?_
          refine lv_aload_n S.1 S.2.1 d_LW_law_137 rfl (lv_at hl 0 rfl) ?_
          refine lv_iload_n S.1 S.2.1 d_LW_law_138 rfl (lv_at hl 3 rfl) ?_
          refine lv_iconst (v := 2) S.1 S.2.1 d_LW_law_139 (by decide) ?_
          refine lv_iadd S.1 S.2.1 d_LW_law_140 ?_
          refine ms_sld (j := 4 * k + 2) S.1 S.2.1 hXs hbl hbA hw.2.2.1 (nI_add (4 * k) 2) (by omega) (by omega) d_LW_law_141 ?_
          refine lv_aload_n S.1 S.2.1 d_LW_law_142 rfl (lv_at hl 0 rfl) ?_
          refine lv_iload_n S.1 S.2.1 d_LW_law_143 rfl (lv_at hl 3 rfl) ?_
          refine lv_iconst (v := 3) S.1 S.2.1 d_LW_law_144 (by decide) ?_
          refine lv_iadd S.1 S.2.1 d_LW_law_145 ?_
          refine ms_sld (j := 4 * k + 3) S.1 S.2.1 hXs hbl hbA hw.2.2.1 (nI_add (4 * k) 3) (by omega) (by omega) d_LW_law_146 ?_
          refine lv_if_eq (tgt := 154) S.1 S.2.1 d_LW_law_147 (by decide) (fun c147 => ?_) (fun c147 => absurd hb9 c147)
          refine lv_iconst (v := 0) S.1 S.2.1 d_LW_law_154 (by decide) ?_
          refine mm_calli2 hw hn hd (mm_runV (a := x) (As := [.int (xs (4 * k + 1)), .int (xs (4 * k + 2)), .int 0]) (rest := []) S hK hw (c_AR_exit l D dA _ x k I F st hC hwf ((xs (4 * k + 1))) ((xs (4 * k + 2))) (0) (Or.inl rfl) _) bv_AR_exit gw_156 hcx rfl ⟨rfl, rfl, by decide, by decide, (show _ ≤ 600000 by omega), (show _ ≤ 7302250 by omega)⟩ hl.1 rfl rfl (Nat.le_of_ble_eq_true rfl) d_LW_law_155) (fun r3 M H locs hp hw hn hd => ?_)
          obtain ⟨e1, hC9⟩ := hp
          refine lv_aload_n S.1 S.2.1 d_LW_law_158 rfl (lv_at hl 2 rfl) ?_
          refine lv_aload_n S.1 S.2.1 d_LW_law_159 rfl (lv_at hl 0 rfl) ?_
          refine lv_iload_n S.1 S.2.1 d_LW_law_160 rfl (lv_at hl 3 rfl) ?_
          refine lv_iconst (v := 1) S.1 S.2.1 d_LW_law_161 (by decide) ?_
          refine lv_iadd S.1 S.2.1 d_LW_law_162 ?_
          refine ms_sld (j := 4 * k + 1) S.1 S.2.1 hXs hbl hbA hw.2.2.1 (nI_add (4 * k) 1) (by omega) (by omega) d_LW_law_163 ?_
          refine lv_aload_n S.1 S.2.1 d_LW_law_164 rfl (lv_at hl 0 rfl) ?_
          refine lv_iload_n S.1 S.2.1 d_LW_law_165 rfl (lv_at hl 3 rfl) ?_
          refine lv_iconst (v := 2) S.1 S.2.1 d_LW_law_166 (by decide) ?_
          refine lv_iadd S.1 S.2.1 d_LW_law_167 ?_
          refine ms_sld (j := 4 * k + 2) S.1 S.2.1 hXs hbl hbA hw.2.2.1 (nI_add (4 * k) 2) (by omega) (by omega) d_LW_law_168 ?_
          refine lv_aload_n S.1 S.2.1 d_LW_law_169 rfl (lv_at hl 0 rfl) ?_
          refine lv_iload_n S.1 S.2.1 d_LW_law_170 rfl (lv_at hl 3 rfl) ?_
          refine lv_iconst (v := 3) S.1 S.2.1 d_LW_law_171 (by decide) ?_
          refine lv_iadd S.1 S.2.1 d_LW_law_172 ?_
          refine ms_sld (j := 4 * k + 3) S.1 S.2.1 hXs hbl hbA hw.2.2.1 (nI_add (4 * k) 3) (by omega) (by omega) d_LW_law_173 ?_
          refine lv_if_eq (tgt := 181) S.1 S.2.1 d_LW_law_174 (by decide) (fun c174 => ?_) (fun c174 => absurd hb9 c174)
          refine lv_iconst (v := 0) S.1 S.2.1 d_LW_law_181 (by decide) ?_
          refine mm_calli2 hn hw (mm_dis hd) (mm_runV (a := y) (As := [.int (xs (4 * k + 1)), .int (xs (4 * k + 2)), .int 0]) (rest := [.int r3]) S hK hn (c_MO_exit l D dA _ y g I F st ((xs (4 * k + 1))) ((xs (4 * k + 2))) (0) n1 n2 hn1 hN1 hn2 hN2 hsz (Or.inl rfl) hP _) bv_MO_exit gw_446 hP.2.1 rfl ⟨rfl, rfl, by decide, by decide, (show _ ≤ 600000 by omega), (show _ ≤ 7302250 by omega)⟩ hl.1 rfl rfl (Nat.le_of_ble_eq_true rfl) d_LW_law_182) (fun r4 N H locs hp hn hw hd => ?_)
          obtain ⟨e2, hP⟩ := hp
          have hd := mm_dis hd
          have hC := hC9
          refine lv_icmp_eq (tgt := 625) S.1 S.2.1 d_LW_law_185 (by decide) (fun c185 => ?_) (fun c185 => absurd (e1.trans e2.symm) c185)
          refine lv_iinc (v := nI (4 * (k + 1))) (lv' := [(3, .int (nI (4 * (k + 1)))), (0, .ref b), (1, .ref x), (2, .ref y)]) S.1 S.2.1 d_LW_law_625 hl (k := 3) rfl (nI_add (4 * k) 4) (by decide) rfl (fun ls hl => ?_)
          refine lv_goto (tgt := 18) S.1 S.2.1 d_LW_law_628 (by decide) ?_
          refine W.widen (k := 30 + (k + 1)) (n := 24234 + 5 * (k + 1)) (by omega) (by omega) ?_
          exact ih (k + 1) _ _ _ _ _ _ _ ls (by omega) hC hP (wf_exit hwf ((xs (4 * k + 1))) ((xs (4 * k + 2))) (0) (Or.inl rfl)) hw hn hd (lv_sub hl [1, 2, 3, 0] rfl)
        · refine lv_aload_n S.1 S.2.1 d_LW_law_131 rfl (lv_at hl 1 rfl) ?_
          refine lv_aload_n S.1 S.2.1 d_LW_law_132 rfl (lv_at hl 0 rfl) ?_
          refine lv_iload_n S.1 S.2.1 d_LW_law_133 rfl (lv_at hl 3 rfl) ?_
          refine lv_iconst (v := 1) S.1 S.2.1 d_LW_law_134 (by decide) ?_
          refine lv_iadd S.1 S.2.1 d_LW_law_135 ?_
          refine ms_sld (j := 4 * k + 1) S.1 S.2.1 hXs hbl hbA hw.2.2.1 (nI_add (4 * k) 1) (by omega) (by omega) d_LW_law_136 ?_
          refine lv_aload_n S.1 S.2.1 d_LW_law_137 rfl (lv_at hl 0 rfl) ?_
          refine lv_iload_n S.1 S.2.1 d_LW_law_138 rfl (lv_at hl 3 rfl) ?_
          refine lv_iconst (v := 2) S.1 S.2.1 d_LW_law_139 (by decide) ?_
          refine lv_iadd S.1 S.2.1 d_LW_law_140 ?_
          refine ms_sld (j := 4 * k + 2) S.1 S.2.1 hXs hbl hbA hw.2.2.1 (nI_add (4 * k) 2) (by omega) (by omega) d_LW_law_141 ?_
          refine lv_aload_n S.1 S.2.1 d_LW_law_142 rfl (lv_at hl 0 rfl) ?_
          refine lv_iload_n S.1 S.2.1 d_LW_law_143 rfl (lv_at hl 3 rfl) ?_
          refine lv_iconst (v := 3) S.1 S.2.1 d_LW_law_144 (by decide) ?_
          refine lv_iadd S.1 S.2.1 d_LW_law_145 ?_
          refine ms_sld (j := 4 * k + 3) S.1 S.2.1 hXs hbl hbA hw.2.2.1 (nI_add (4 * k) 3) (by omega) (by omega) d_LW_law_146 ?_
          refine lv_if_eq (tgt := 154) S.1 S.2.1 d_LW_law_147 (by decide) (fun c147 => absurd c147 hb9) (fun c147 => ?_)
          refine lv_iconst (v := 1) S.1 S.2.1 d_LW_law_150 (by decide) ?_
          refine lv_goto (tgt := 155) S.1 S.2.1 d_LW_law_151 (by decide) ?_
          refine mm_calli2 hw hn hd (mm_runV (a := x) (As := [.int (xs (4 * k + 1)), .int (xs (4 * k + 2)), .int 1]) (rest := []) S hK hw (c_AR_exit l D dA _ x k I F st hC hwf ((xs (4 * k + 1))) ((xs (4 * k + 2))) (1) (Or.inr rfl) _) bv_AR_exit gw_156 hcx rfl ⟨rfl, rfl, by decide, by decide, (show _ ≤ 600000 by omega), (show _ ≤ 7302250 by omega)⟩ hl.1 rfl rfl (Nat.le_of_ble_eq_true rfl) d_LW_law_155) (fun r5 M H locs hp hw hn hd => ?_)
          obtain ⟨e1, hC9⟩ := hp
          refine lv_aload_n S.1 S.2.1 d_LW_law_158 rfl (lv_at hl 2 rfl) ?_
          refine lv_aload_n S.1 S.2.1 d_LW_law_159 rfl (lv_at hl 0 rfl) ?_
          refine lv_iload_n S.1 S.2.1 d_LW_law_160 rfl (lv_at hl 3 rfl) ?_
          refine lv_iconst (v := 1) S.1 S.2.1 d_LW_law_161 (by decide) ?_
          refine lv_iadd S.1 S.2.1 d_LW_law_162 ?_
          refine ms_sld (j := 4 * k + 1) S.1 S.2.1 hXs hbl hbA hw.2.2.1 (nI_add (4 * k) 1) (by omega) (by omega) d_LW_law_163 ?_
          refine lv_aload_n S.1 S.2.1 d_LW_law_164 rfl (lv_at hl 0 rfl) ?_
          refine lv_iload_n S.1 S.2.1 d_LW_law_165 rfl (lv_at hl 3 rfl) ?_
          refine lv_iconst (v := 2) S.1 S.2.1 d_LW_law_166 (by decide) ?_
          refine lv_iadd S.1 S.2.1 d_LW_law_167 ?_
          refine ms_sld (j := 4 * k + 2) S.1 S.2.1 hXs hbl hbA hw.2.2.1 (nI_add (4 * k) 2) (by omega) (by omega) d_LW_law_168 ?_
          refine lv_aload_n S.1 S.2.1 d_LW_law_169 rfl (lv_at hl 0 rfl) ?_
          refine lv_iload_n S.1 S.2.1 d_LW_law_170 rfl (lv_at hl 3 rfl) ?_
          refine lv_iconst (v := 3) S.1 S.2.1 d_LW_law_171 (by decide) ?_
          refine lv_iadd S.1 S.2.1 d_LW_law_172 ?_
          refine ms_sld (j := 4 * k + 3) S.1 S.2.1 hXs hbl hbA hw.2.2.1 (nI_add (4 * k) 3) (by omega) (by omega) d_LW_law_173 ?_
          refine lv_if_eq (tgt := 181) S.1 S.2.1 d_LW_law_174 (by decide) (fun c174 => absurd c174 hb9) (fun c174 => ?_)
          refine lv_iconst (v := 1) S.1 S.2.1 d_LW_law_177 (by decide) ?_
          refine lv_goto (tgt := 182) S.1 S.2.1 d_LW_law_178 (by decide) ?_
          refine mm_calli2 hn hw (mm_dis hd) (mm_runV (a := y) (As := [.int (xs (4 * k + 1)), .int (xs (4 * k + 2)), .int 1]) (rest := [.int r5]) S hK hn (c_MO_exit l D dA _ y g I F st ((xs (4 * k + 1))) ((xs (4 * k + 2))) (1) n1 n2 hn1 hN1 hn2 hN2 hsz (Or.inr rfl) hP _) bv_MO_exit gw_446 hP.2.1 rfl ⟨rfl, rfl, by decide, by decide, (show _ ≤ 600000 by omega), (show _ ≤ 7302250 by omega)⟩ hl.1 rfl rfl (Nat.le_of_ble_eq_true rfl) d_LW_law_182) (fun r6 N H locs hp hn hw hd => ?_)
          obtain ⟨e2, hP⟩ := hp
          have hd := mm_dis hd
          have hC := hC9
          refine lv_icmp_eq (tgt := 625) S.1 S.2.1 d_LW_law_185 (by decide) (fun c185 => ?_) (fun c185 => absurd (e1.trans e2.symm) c185)
          refine lv_iinc (v := nI (4 * (k + 1))) (lv' := [(3, .int (nI (4 * (k + 1)))), (0, .ref b), (1, .ref x), (2, .ref y)]) S.1 S.2.1 d_LW_law_625 hl (k := 3) rfl (nI_add (4 * k) 4) (by decide) rfl (fun ls hl => ?_)
          refine lv_goto (tgt := 18) S.1 S.2.1 d_LW_law_628 (by decide) ?_
          refine W.widen (k := 30 + (k + 1)) (n := 24234 + 5 * (k + 1)) (by omega) (by omega) ?_
          exact ih (k + 1) _ _ _ _ _ _ _ ls (by omega) hC hP (wf_exit hwf ((xs (4 * k + 1))) ((xs (4 * k + 2))) (1) (Or.inr rfl)) hw hn hd (lv_sub hl [1, 2, 3, 0] rfl)
      · refine lv_tableIn (off := 158) (tgt := 190) S.1 S.2.1 d_LW_law_32 (by decide) (by decide) (by rfl) (by decide) ?_
        refine lv_aload_n S.1 S.2.1 d_LW_law_190 rfl (lv_at hl 1 rfl) ?_
        refine lv_aload_n S.1 S.2.1 d_LW_law_191 rfl (lv_at hl 0 rfl) ?_
        refine lv_iload_n S.1 S.2.1 d_LW_law_192 rfl (lv_at hl 3 rfl) ?_
        refine lv_iconst (v := 1) S.1 S.2.1 d_LW_law_193 (by decide) ?_
        refine lv_iadd S.1 S.2.1 d_LW_law_194 ?_
        refine ms_sld (j := 4 * k + 1) S.1 S.2.1 hXs hbl hbA hw.2.2.1 (nI_add (4 * k) 1) (by omega) (by omega) d_LW_law_195 ?_
        refine lv_aload_n S.1 S.2.1 d_LW_law_196 rfl (lv_at hl 0 rfl) ?_
        refine lv_iload_n S.1 S.2.1 d_LW_law_197 rfl (lv_at hl 3 rfl) ?_
        refine lv_iconst (v := 2) S.1 S.2.1 d_LW_law_198 (by decide) ?_
        refine lv_iadd S.1 S.2.1 d_LW_law_199 ?_
        refine ms_sld (j := 4 * k + 2) S.1 S.2.1 hXs hbl hbA hw.2.2.1 (nI_add (4 * k) 2) (by omega) (by omega) d_LW_law_200 ?_
        refine mm_calli2 hw hn hd (mm_runV (a := x) (As := [.int (xs (4 * k + 1)), .int (xs (4 * k + 2))]) (rest := []) S hK hw (c_AR_abend l D dA _ x k I F st hC hwf (by omega) ((xs (4 * k + 1))) ((xs (4 * k + 2))) _) bv_AR_abend gw_187 hcx rfl ⟨rfl, rfl, by decide, by decide, (show _ ≤ 600000 by omega), (show _ ≤ 7302250 by omega)⟩ hl.1 rfl rfl (Nat.le_of_ble_eq_true rfl) d_LW_law_201) (fun r7 M H locs hp hw hn hd => ?_)
        obtain ⟨e1, hC9⟩ := hp
        refine lv_aload_n S.1 S.2.1 d_LW_law_204 rfl (lv_at hl 2 rfl) ?_
        refine lv_aload_n S.1 S.2.1 d_LW_law_205 rfl (lv_at hl 0 rfl) ?_
        refine lv_iload_n S.1 S.2.1 d_LW_law_206 rfl (lv_at hl 3 rfl) ?_
        refine lv_iconst (v := 1) S.1 S.2.1 d_LW_law_207 (by decide) ?_
        refine lv_iadd S.1 S.2.1 d_LW_law_208 ?_
        refine ms_sld (j := 4 * k + 1) S.1 S.2.1 hXs hbl hbA hw.2.2.1 (nI_add (4 * k) 1) (by omega) (by omega) d_LW_law_209 ?_
        refine lv_aload_n S.1 S.2.1 d_LW_law_210 rfl (lv_at hl 0 rfl) ?_
        refine lv_iload_n S.1 S.2.1 d_LW_law_211 rfl (lv_at hl 3 rfl) ?_
        refine lv_iconst (v := 2) S.1 S.2.1 d_LW_law_212 (by decide) ?_
        refine lv_iadd S.1 S.2.1 d_LW_law_213 ?_
        refine ms_sld (j := 4 * k + 2) S.1 S.2.1 hXs hbl hbA hw.2.2.1 (nI_add (4 * k) 2) (by omega) (by omega) d_LW_law_214 ?_
        refine mm_calli2 hn hw (mm_dis hd) (mm_runV (a := y) (As := [.int (xs (4 * k + 1)), .int (xs (4 * k + 2))]) (rest := [.int r7]) S hK hn (c_MO_abend l D dA _ y g I F st ((xs (4 * k + 1))) ((xs (4 * k + 2))) n1 n2 hn1 hN1 hN2 hlw hP _) bv_MO_abend gw_454 hP.2.1 rfl ⟨rfl, rfl, by decide, by decide, (show _ ≤ 600000 by omega), (show _ ≤ 7302250 by omega)⟩ hl.1 rfl rfl (Nat.le_of_ble_eq_true rfl) d_LW_law_215) (fun r8 N H locs hp hn hw hd => ?_)
        obtain ⟨e2, hP⟩ := hp
        have hd := mm_dis hd
        have hC := hC9
        refine lv_icmp_eq (tgt := 625) S.1 S.2.1 d_LW_law_218 (by decide) (fun c218 => ?_) (fun c218 => absurd (e1.trans e2.symm) c218)
        refine lv_iinc (v := nI (4 * (k + 1))) (lv' := [(3, .int (nI (4 * (k + 1)))), (0, .ref b), (1, .ref x), (2, .ref y)]) S.1 S.2.1 d_LW_law_625 hl (k := 3) rfl (nI_add (4 * k) 4) (by decide) rfl (fun ls hl => ?_)
        refine lv_goto (tgt := 18) S.1 S.2.1 d_LW_law_628 (by decide) ?_
        refine W.widen (k := 30 + (k + 1)) (n := 24234 + 5 * (k + 1)) (by omega) (by omega) ?_
        exact ih (k + 1) _ _ _ _ _ _ _ ls (by omega) hC hP (wf_abend hwf ((xs (4 * k + 1))) ((xs (4 * k + 2)))) hw hn hd (lv_sub hl [1, 2, 3, 0] rfl)
      · refine lv_tableIn (off := 191) (tgt := 223) S.1 S.2.1 d_LW_law_32 (by decide) (by decide) (by rfl) (by decide) ?_
        refine lv_aload_n S.1 S.2.1 d_LW_law_223 rfl (lv_at hl 1 rfl) ?_
        refine lv_aload_n S.1 S.2.1 d_LW_law_224 rfl (lv_at hl 0 rfl) ?_
        refine lv_iload_n S.1 S.2.1 d_LW_law_225 rfl (lv_at hl 3 rfl) ?_
        refine lv_iconst (v := 1) S.1 S.2.1 d_LW_law_226 (by decide) ?_
        refine lv_iadd S.1 S.2.1 d_LW_law_227 ?_
        refine ms_sld (j := 4 * k + 1) S.1 S.2.1 hXs hbl hbA hw.2.2.1 (nI_add (4 * k) 1) (by omega) (by omega) d_LW_law_228 ?_
        refine mm_calli2 hw hn hd (mm_runV (a := x) (As := [.int (xs (4 * k + 1))]) (rest := []) S hK hw (c_AR_order l D dA _ x k I F st hC hwf ((xs (4 * k + 1))) _) bv_AR_order gw_219 hcx rfl ⟨rfl, rfl, by decide, by decide, (show _ ≤ 600000 by omega), (show _ ≤ 7302250 by omega)⟩ hl.1 rfl rfl (Nat.le_of_ble_eq_true rfl) d_LW_law_229) (fun r9 M H locs hp hw hn hd => ?_)
        obtain ⟨e1, hC9⟩ := hp
        refine lv_aload_n S.1 S.2.1 d_LW_law_232 rfl (lv_at hl 2 rfl) ?_
        refine lv_aload_n S.1 S.2.1 d_LW_law_233 rfl (lv_at hl 0 rfl) ?_
        refine lv_iload_n S.1 S.2.1 d_LW_law_234 rfl (lv_at hl 3 rfl) ?_
        refine lv_iconst (v := 1) S.1 S.2.1 d_LW_law_235 (by decide) ?_
        refine lv_iadd S.1 S.2.1 d_LW_law_236 ?_
        refine ms_sld (j := 4 * k + 1) S.1 S.2.1 hXs hbl hbA hw.2.2.1 (nI_add (4 * k) 1) (by omega) (by omega) d_LW_law_237 ?_
        refine mm_calli2 hn hw (mm_dis hd) (mm_runV (a := y) (As := [.int (xs (4 * k + 1))]) (rest := [.int r9]) S hK hn (c_MO_order l D dA _ y g I F st ((xs (4 * k + 1))) n5 hn5 (by omega) hP _) bv_MO_order gw_465 hP.2.1 rfl ⟨rfl, rfl, by decide, by decide, (show _ ≤ 600000 by omega), (show _ ≤ 7302250 by omega)⟩ hl.1 rfl rfl (Nat.le_of_ble_eq_true rfl) d_LW_law_238) (fun r10 N H locs hp hn hw hd => ?_)
        obtain ⟨e2, hP⟩ := hp
        have hd := mm_dis hd
        have hC := hC9
        refine lv_icmp_eq (tgt := 625) S.1 S.2.1 d_LW_law_241 (by decide) (fun c241 => ?_) (fun c241 => absurd (e1.trans e2.symm) c241)
        refine lv_iinc (v := nI (4 * (k + 1))) (lv' := [(3, .int (nI (4 * (k + 1)))), (0, .ref b), (1, .ref x), (2, .ref y)]) S.1 S.2.1 d_LW_law_625 hl (k := 3) rfl (nI_add (4 * k) 4) (by decide) rfl (fun ls hl => ?_)
        refine lv_goto (tgt := 18) S.1 S.2.1 d_LW_law_628 (by decide) ?_
        refine W.widen (k := 30 + (k + 1)) (n := 24234 + 5 * (k + 1)) (by omega) (by omega) ?_
        exact ih (k + 1) _ _ _ _ _ _ _ ls (by omega) hC hP (hwf) hw hn hd (lv_sub hl [1, 2, 3, 0] rfl)
      · refine lv_tableIn (off := 214) (tgt := 246) S.1 S.2.1 d_LW_law_32 (by decide) (by decide) (by rfl) (by decide) ?_
        refine lv_aload_n S.1 S.2.1 d_LW_law_246 rfl (lv_at hl 1 rfl) ?_
        refine lv_aload_n S.1 S.2.1 d_LW_law_247 rfl (lv_at hl 0 rfl) ?_
        refine lv_iload_n S.1 S.2.1 d_LW_law_248 rfl (lv_at hl 3 rfl) ?_
        refine lv_iconst (v := 1) S.1 S.2.1 d_LW_law_249 (by decide) ?_
        refine lv_iadd S.1 S.2.1 d_LW_law_250 ?_
        refine ms_sld (j := 4 * k + 1) S.1 S.2.1 hXs hbl hbA hw.2.2.1 (nI_add (4 * k) 1) (by omega) (by omega) d_LW_law_251 ?_
        refine mm_calli2 hw hn hd (mm_runV (a := x) (As := [.int (xs (4 * k + 1))]) (rest := []) S hK hw (c_AR_cancel l D dA _ x k I F st hC hwf ((xs (4 * k + 1))) _) bv_AR_cancel gw_227 hcx rfl ⟨rfl, rfl, by decide, by decide, (show _ ≤ 600000 by omega), (show _ ≤ 7302250 by omega)⟩ hl.1 rfl rfl (Nat.le_of_ble_eq_true rfl) d_LW_law_252) (fun r11 M H locs hp hw hn hd => ?_)
        obtain ⟨e1, hC9⟩ := hp
        refine lv_aload_n S.1 S.2.1 d_LW_law_255 rfl (lv_at hl 2 rfl) ?_
        refine lv_aload_n S.1 S.2.1 d_LW_law_256 rfl (lv_at hl 0 rfl) ?_
        refine lv_iload_n S.1 S.2.1 d_LW_law_257 rfl (lv_at hl 3 rfl) ?_
        refine lv_iconst (v := 1) S.1 S.2.1 d_LW_law_258 (by decide) ?_
        refine lv_iadd S.1 S.2.1 d_LW_law_259 ?_
        refine ms_sld (j := 4 * k + 1) S.1 S.2.1 hXs hbl hbA hw.2.2.1 (nI_add (4 * k) 1) (by omega) (by omega) d_LW_law_260 ?_
        refine mm_calli2 hn hw (mm_dis hd) (mm_runV (a := y) (As := [.int (xs (4 * k + 1))]) (rest := [.int r11]) S hK hn (c_MO_cancel l D dA _ y g I F st ((xs (4 * k + 1))) n1 hn1 hN1 hP _) bv_MO_cancel gw_450 hP.2.1 rfl ⟨rfl, rfl, by decide, by decide, (show _ ≤ 600000 by omega), (show _ ≤ 7302250 by omega)⟩ hl.1 rfl rfl (Nat.le_of_ble_eq_true rfl) d_LW_law_261) (fun r12 N H locs hp hn hw hd => ?_)
        obtain ⟨e2, hP⟩ := hp
        have hd := mm_dis hd
        have hC := hC9
        refine lv_icmp_eq (tgt := 625) S.1 S.2.1 d_LW_law_264 (by decide) (fun c264 => ?_) (fun c264 => absurd (e1.trans e2.symm) c264)
        refine lv_iinc (v := nI (4 * (k + 1))) (lv' := [(3, .int (nI (4 * (k + 1)))), (0, .ref b), (1, .ref x), (2, .ref y)]) S.1 S.2.1 d_LW_law_625 hl (k := 3) rfl (nI_add (4 * k) 4) (by decide) rfl (fun ls hl => ?_)
        refine lv_goto (tgt := 18) S.1 S.2.1 d_LW_law_628 (by decide) ?_
        refine W.widen (k := 30 + (k + 1)) (n := 24234 + 5 * (k + 1)) (by omega) (by omega) ?_
        exact ih (k + 1) _ _ _ _ _ _ _ ls (by omega) hC hP (wf_cancel hwf ((xs (4 * k + 1)))) hw hn hd (lv_sub hl [1, 2, 3, 0] rfl)
      · refine lv_tableIn (off := 237) (tgt := 269) S.1 S.2.1 d_LW_law_32 (by decide) (by decide) (by rfl) (by decide) ?_
        refine lv_aload_n S.1 S.2.1 d_LW_law_269 rfl (lv_at hl 1 rfl) ?_
        refine lv_aload_n S.1 S.2.1 d_LW_law_270 rfl (lv_at hl 0 rfl) ?_
        refine lv_iload_n S.1 S.2.1 d_LW_law_271 rfl (lv_at hl 3 rfl) ?_
        refine lv_iconst (v := 1) S.1 S.2.1 d_LW_law_272 (by decide) ?_
        refine lv_iadd S.1 S.2.1 d_LW_law_273 ?_
        refine ms_sld (j := 4 * k + 1) S.1 S.2.1 hXs hbl hbA hw.2.2.1 (nI_add (4 * k) 1) (by omega) (by omega) d_LW_law_274 ?_
        refine lv_aload_n S.1 S.2.1 d_LW_law_275 rfl (lv_at hl 0 rfl) ?_
        refine lv_iload_n S.1 S.2.1 d_LW_law_276 rfl (lv_at hl 3 rfl) ?_
        refine lv_iconst (v := 2) S.1 S.2.1 d_LW_law_277 (by decide) ?_
        refine lv_iadd S.1 S.2.1 d_LW_law_278 ?_
        refine ms_sld (j := 4 * k + 2) S.1 S.2.1 hXs hbl hbA hw.2.2.1 (nI_add (4 * k) 2) (by omega) (by omega) d_LW_law_279 ?_
        refine mm_calli2 hw hn hd (mm_runV (a := x) (As := [.int (xs (4 * k + 1)), .int (xs (4 * k + 2))]) (rest := []) S hK hw (c_AR_restart l D dA _ x k I F st hC hwf (by omega) ((xs (4 * k + 1))) ((xs (4 * k + 2))) _) bv_AR_restart gw_231 hcx rfl ⟨rfl, rfl, by decide, by decide, (show _ ≤ 600000 by omega), (show _ ≤ 7302250 by omega)⟩ hl.1 rfl rfl (Nat.le_of_ble_eq_true rfl) d_LW_law_280) (fun r13 M H locs hp hw hn hd => ?_)
        obtain ⟨e1, hC9⟩ := hp
        refine lv_aload_n S.1 S.2.1 d_LW_law_283 rfl (lv_at hl 2 rfl) ?_
        refine lv_aload_n S.1 S.2.1 d_LW_law_284 rfl (lv_at hl 0 rfl) ?_
        refine lv_iload_n S.1 S.2.1 d_LW_law_285 rfl (lv_at hl 3 rfl) ?_
        refine lv_iconst (v := 1) S.1 S.2.1 d_LW_law_286 (by decide) ?_
        refine lv_iadd S.1 S.2.1 d_LW_law_287 ?_
        refine ms_sld (j := 4 * k + 1) S.1 S.2.1 hXs hbl hbA hw.2.2.1 (nI_add (4 * k) 1) (by omega) (by omega) d_LW_law_288 ?_
        refine lv_aload_n S.1 S.2.1 d_LW_law_289 rfl (lv_at hl 0 rfl) ?_
        refine lv_iload_n S.1 S.2.1 d_LW_law_290 rfl (lv_at hl 3 rfl) ?_
        refine lv_iconst (v := 2) S.1 S.2.1 d_LW_law_291 (by decide) ?_
        refine lv_iadd S.1 S.2.1 d_LW_law_292 ?_
        refine ms_sld (j := 4 * k + 2) S.1 S.2.1 hXs hbl hbA hw.2.2.1 (nI_add (4 * k) 2) (by omega) (by omega) d_LW_law_293 ?_
        refine mm_calli2 hn hw (mm_dis hd) (mm_runV (a := y) (As := [.int (xs (4 * k + 1)), .int (xs (4 * k + 2))]) (rest := [.int r13]) S hK hn (c_MO_restart l D dA _ y g I F st ((xs (4 * k + 1))) ((xs (4 * k + 2))) n4 n3 hn4 hN4 hn3 hN3 hP _) bv_MO_restart gw_477 hP.2.1 rfl ⟨rfl, rfl, by decide, by decide, (show _ ≤ 600000 by omega), (show _ ≤ 7302250 by omega)⟩ hl.1 rfl rfl (Nat.le_of_ble_eq_true rfl) d_LW_law_294) (fun r14 N H locs hp hn hw hd => ?_)
        obtain ⟨e2, hP⟩ := hp
        have hd := mm_dis hd
        have hC := hC9
        refine lv_icmp_eq (tgt := 625) S.1 S.2.1 d_LW_law_297 (by decide) (fun c297 => ?_) (fun c297 => absurd (e1.trans e2.symm) c297)
        refine lv_iinc (v := nI (4 * (k + 1))) (lv' := [(3, .int (nI (4 * (k + 1)))), (0, .ref b), (1, .ref x), (2, .ref y)]) S.1 S.2.1 d_LW_law_625 hl (k := 3) rfl (nI_add (4 * k) 4) (by decide) rfl (fun ls hl => ?_)
        refine lv_goto (tgt := 18) S.1 S.2.1 d_LW_law_628 (by decide) ?_
        refine W.widen (k := 30 + (k + 1)) (n := 24234 + 5 * (k + 1)) (by omega) (by omega) ?_
        exact ih (k + 1) _ _ _ _ _ _ _ ls (by omega) hC hP (wf_restart hwf ((xs (4 * k + 1))) ((xs (4 * k + 2)))) hw hn hd (lv_sub hl [1, 2, 3, 0] rfl)
      · refine lv_tableIn (off := 270) (tgt := 302) S.1 S.2.1 d_LW_law_32 (by decide) (by decide) (by rfl) (by decide) ?_
        refine lv_aload_n S.1 S.2.1 d_LW_law_302 rfl (lv_at hl 1 rfl) ?_
        refine lv_aload_n S.1 S.2.1 d_LW_law_303 rfl (lv_at hl 0 rfl) ?_
        refine lv_iload_n S.1 S.2.1 d_LW_law_304 rfl (lv_at hl 3 rfl) ?_
        refine lv_iconst (v := 1) S.1 S.2.1 d_LW_law_305 (by decide) ?_
        refine lv_iadd S.1 S.2.1 d_LW_law_306 ?_
        refine ms_sld (j := 4 * k + 1) S.1 S.2.1 hXs hbl hbA hw.2.2.1 (nI_add (4 * k) 1) (by omega) (by omega) d_LW_law_307 ?_
        refine lv_aload_n S.1 S.2.1 d_LW_law_308 rfl (lv_at hl 0 rfl) ?_
        refine lv_iload_n S.1 S.2.1 d_LW_law_309 rfl (lv_at hl 3 rfl) ?_
        refine lv_iconst (v := 2) S.1 S.2.1 d_LW_law_310 (by decide) ?_
        refine lv_iadd S.1 S.2.1 d_LW_law_311 ?_
        refine ms_sld (j := 4 * k + 2) S.1 S.2.1 hXs hbl hbA hw.2.2.1 (nI_add (4 * k) 2) (by omega) (by omega) d_LW_law_312 ?_
        refine mm_calli2 hw hn hd (mm_runV (a := x) (As := [.int (xs (4 * k + 1)), .int (xs (4 * k + 2))]) (rest := []) S hK hw (c_AR_guard l D dA _ x k I F st hC hwf ((xs (4 * k + 1))) ((xs (4 * k + 2))) _) bv_AR_guard gw_289 hcx rfl ⟨rfl, rfl, by decide, by decide, (show _ ≤ 600000 by omega), (show _ ≤ 7302250 by omega)⟩ hl.1 rfl rfl (Nat.le_of_ble_eq_true rfl) d_LW_law_313) (fun r15 M H locs hp hw hn hd => ?_)
        obtain ⟨e1, hC9⟩ := hp
        refine lv_aload_n S.1 S.2.1 d_LW_law_316 rfl (lv_at hl 2 rfl) ?_
        refine lv_aload_n S.1 S.2.1 d_LW_law_317 rfl (lv_at hl 0 rfl) ?_
        refine lv_iload_n S.1 S.2.1 d_LW_law_318 rfl (lv_at hl 3 rfl) ?_
        refine lv_iconst (v := 1) S.1 S.2.1 d_LW_law_319 (by decide) ?_
        refine lv_iadd S.1 S.2.1 d_LW_law_320 ?_
        refine ms_sld (j := 4 * k + 1) S.1 S.2.1 hXs hbl hbA hw.2.2.1 (nI_add (4 * k) 1) (by omega) (by omega) d_LW_law_321 ?_
        refine lv_aload_n S.1 S.2.1 d_LW_law_322 rfl (lv_at hl 0 rfl) ?_
        refine lv_iload_n S.1 S.2.1 d_LW_law_323 rfl (lv_at hl 3 rfl) ?_
        refine lv_iconst (v := 2) S.1 S.2.1 d_LW_law_324 (by decide) ?_
        refine lv_iadd S.1 S.2.1 d_LW_law_325 ?_
        refine ms_sld (j := 4 * k + 2) S.1 S.2.1 hXs hbl hbA hw.2.2.1 (nI_add (4 * k) 2) (by omega) (by omega) d_LW_law_326 ?_
        refine mm_calli2 hn hw (mm_dis hd) (mm_runV (a := y) (As := [.int (xs (4 * k + 1)), .int (xs (4 * k + 2))]) (rest := [.int r15]) S hK hn (c_MO_guard l D dA _ y g I F st ((xs (4 * k + 1))) ((xs (4 * k + 2))) n3 hn3 hN3 hP _) bv_MO_guard gw_497 hP.2.1 rfl ⟨rfl, rfl, by decide, by decide, (show _ ≤ 600000 by omega), (show _ ≤ 7302250 by omega)⟩ hl.1 rfl rfl (Nat.le_of_ble_eq_true rfl) d_LW_law_327) (fun r16 N H locs hp hn hw hd => ?_)
        obtain ⟨e2, hP⟩ := hp
        have hd := mm_dis hd
        have hC := hC9
        refine lv_icmp_eq (tgt := 625) S.1 S.2.1 d_LW_law_330 (by decide) (fun c330 => ?_) (fun c330 => absurd (e1.trans e2.symm) c330)
        refine lv_iinc (v := nI (4 * (k + 1))) (lv' := [(3, .int (nI (4 * (k + 1)))), (0, .ref b), (1, .ref x), (2, .ref y)]) S.1 S.2.1 d_LW_law_625 hl (k := 3) rfl (nI_add (4 * k) 4) (by decide) rfl (fun ls hl => ?_)
        refine lv_goto (tgt := 18) S.1 S.2.1 d_LW_law_628 (by decide) ?_
        refine W.widen (k := 30 + (k + 1)) (n := 24234 + 5 * (k + 1)) (by omega) (by omega) ?_
        exact ih (k + 1) _ _ _ _ _ _ _ ls (by omega) hC hP (wf_guard hwf ((xs (4 * k + 1))) ((xs (4 * k + 2)))) hw hn hd (lv_sub hl [1, 2, 3, 0] rfl)
      · refine lv_tableIn (off := 303) (tgt := 335) S.1 S.2.1 d_LW_law_32 (by decide) (by decide) (by rfl) (by decide) ?_
        refine lv_aload_n S.1 S.2.1 d_LW_law_335 rfl (lv_at hl 1 rfl) ?_
        refine lv_aload_n S.1 S.2.1 d_LW_law_336 rfl (lv_at hl 0 rfl) ?_
        refine lv_iload_n S.1 S.2.1 d_LW_law_337 rfl (lv_at hl 3 rfl) ?_
        refine lv_iconst (v := 1) S.1 S.2.1 d_LW_law_338 (by decide) ?_
        refine lv_iadd S.1 S.2.1 d_LW_law_339 ?_
        refine ms_sld (j := 4 * k + 1) S.1 S.2.1 hXs hbl hbA hw.2.2.1 (nI_add (4 * k) 1) (by omega) (by omega) d_LW_law_340 ?_
        refine lv_aload_n S.1 S.2.1 d_LW_law_341 rfl (lv_at hl 0 rfl) ?_
        refine lv_iload_n S.1 S.2.1 d_LW_law_342 rfl (lv_at hl 3 rfl) ?_
        refine lv_iconst (v := 2) S.1 S.2.1 d_LW_law_343 (by decide) ?_
        refine lv_iadd S.1 S.2.1 d_LW_law_344 ?_
        refine ms_sld (j := 4 * k + 2) S.1 S.2.1 hXs hbl hbA hw.2.2.1 (nI_add (4 * k) 2) (by omega) (by omega) d_LW_law_345 ?_
        refine mm_calli2 hw hn hd (mm_runV (a := x) (As := [.int (xs (4 * k + 1)), .int (xs (4 * k + 2))]) (rest := []) S hK hw (c_AR_write l D dA _ x k I F st hC hwf ((xs (4 * k + 1))) ((xs (4 * k + 2))) _) bv_AR_write gw_314 hcx rfl ⟨rfl, rfl, by decide, by decide, (show _ ≤ 600000 by omega), (show _ ≤ 7302250 by omega)⟩ hl.1 rfl rfl (Nat.le_of_ble_eq_true rfl) d_LW_law_346) (fun r17 M H locs hp hw hn hd => ?_)
        obtain ⟨e1, hC9⟩ := hp
        refine lv_aload_n S.1 S.2.1 d_LW_law_349 rfl (lv_at hl 2 rfl) ?_
        refine lv_aload_n S.1 S.2.1 d_LW_law_350 rfl (lv_at hl 0 rfl) ?_
        refine lv_iload_n S.1 S.2.1 d_LW_law_351 rfl (lv_at hl 3 rfl) ?_
        refine lv_iconst (v := 1) S.1 S.2.1 d_LW_law_352 (by decide) ?_
        refine lv_iadd S.1 S.2.1 d_LW_law_353 ?_
        refine ms_sld (j := 4 * k + 1) S.1 S.2.1 hXs hbl hbA hw.2.2.1 (nI_add (4 * k) 1) (by omega) (by omega) d_LW_law_354 ?_
        refine lv_aload_n S.1 S.2.1 d_LW_law_355 rfl (lv_at hl 0 rfl) ?_
        refine lv_iload_n S.1 S.2.1 d_LW_law_356 rfl (lv_at hl 3 rfl) ?_
        refine lv_iconst (v := 2) S.1 S.2.1 d_LW_law_357 (by decide) ?_
        refine lv_iadd S.1 S.2.1 d_LW_law_358 ?_
        refine ms_sld (j := 4 * k + 2) S.1 S.2.1 hXs hbl hbA hw.2.2.1 (nI_add (4 * k) 2) (by omega) (by omega) d_LW_law_359 ?_
        refine mm_calli2 hn hw (mm_dis hd) (mm_runV (a := y) (As := [.int (xs (4 * k + 1)), .int (xs (4 * k + 2))]) (rest := [.int r17]) S hK hn (c_MO_write l D dA _ y g I F st ((xs (4 * k + 1))) ((xs (4 * k + 2))) n3 hn3 hN3 hP _) bv_MO_write gw_501 hP.2.1 rfl ⟨rfl, rfl, by decide, by decide, (show _ ≤ 600000 by omega), (show _ ≤ 7302250 by omega)⟩ hl.1 rfl rfl (Nat.le_of_ble_eq_true rfl) d_LW_law_360) (fun r18 N H locs hp hn hw hd => ?_)
        obtain ⟨e2, hP⟩ := hp
        have hd := mm_dis hd
        have hC := hC9
        refine lv_icmp_eq (tgt := 625) S.1 S.2.1 d_LW_law_363 (by decide) (fun c363 => ?_) (fun c363 => absurd (e1.trans e2.symm) c363)
        refine lv_iinc (v := nI (4 * (k + 1))) (lv' := [(3, .int (nI (4 * (k + 1)))), (0, .ref b), (1, .ref x), (2, .ref y)]) S.1 S.2.1 d_LW_law_625 hl (k := 3) rfl (nI_add (4 * k) 4) (by decide) rfl (fun ls hl => ?_)
        refine lv_goto (tgt := 18) S.1 S.2.1 d_LW_law_628 (by decide) ?_
        refine W.widen (k := 30 + (k + 1)) (n := 24234 + 5 * (k + 1)) (by omega) (by omega) ?_
        exact ih (k + 1) _ _ _ _ _ _ _ ls (by omega) hC hP (wf_write hwf ((xs (4 * k + 1))) ((xs (4 * k + 2)))) hw hn hd (lv_sub hl [1, 2, 3, 0] rfl)
      · refine lv_tableIn (off := 336) (tgt := 368) S.1 S.2.1 d_LW_law_32 (by decide) (by decide) (by rfl) (by decide) ?_
        refine lv_aload_n S.1 S.2.1 d_LW_law_368 rfl (lv_at hl 1 rfl) ?_
        refine lv_aload_n S.1 S.2.1 d_LW_law_369 rfl (lv_at hl 0 rfl) ?_
        refine lv_iload_n S.1 S.2.1 d_LW_law_370 rfl (lv_at hl 3 rfl) ?_
        refine lv_iconst (v := 1) S.1 S.2.1 d_LW_law_371 (by decide) ?_
        refine lv_iadd S.1 S.2.1 d_LW_law_372 ?_
        refine ms_sld (j := 4 * k + 1) S.1 S.2.1 hXs hbl hbA hw.2.2.1 (nI_add (4 * k) 1) (by omega) (by omega) d_LW_law_373 ?_
        refine mm_calli2 hw hn hd (mm_runV (a := x) (As := [.int (xs (4 * k + 1))]) (rest := []) S hK hw (c_AR_free l D dA _ x k I F st hC hwf ((xs (4 * k + 1))) _) bv_AR_free gw_322 hcx rfl ⟨rfl, rfl, by decide, by decide, (show _ ≤ 600000 by omega), (show _ ≤ 7302250 by omega)⟩ hl.1 rfl rfl (Nat.le_of_ble_eq_true rfl) d_LW_law_374) (fun r19 M H locs hp hw hn hd => ?_)
        obtain ⟨e1, hC9⟩ := hp
        refine lv_aload_n S.1 S.2.1 d_LW_law_377 rfl (lv_at hl 2 rfl) ?_
        refine lv_aload_n S.1 S.2.1 d_LW_law_378 rfl (lv_at hl 0 rfl) ?_
        refine lv_iload_n S.1 S.2.1 d_LW_law_379 rfl (lv_at hl 3 rfl) ?_
        refine lv_iconst (v := 1) S.1 S.2.1 d_LW_law_380 (by decide) ?_
        refine lv_iadd S.1 S.2.1 d_LW_law_381 ?_
        refine ms_sld (j := 4 * k + 1) S.1 S.2.1 hXs hbl hbA hw.2.2.1 (nI_add (4 * k) 1) (by omega) (by omega) d_LW_law_382 ?_
        refine mm_calli2 hn hw (mm_dis hd) (mm_runV (a := y) (As := [.int (xs (4 * k + 1))]) (rest := [.int r19]) S hK hn (c_MO_free l D dA _ y g I F st ((xs (4 * k + 1))) n3 hn3 hN3 hP _) bv_MO_free gw_509 hP.2.1 rfl ⟨rfl, rfl, by decide, by decide, (show _ ≤ 600000 by omega), (show _ ≤ 7302250 by omega)⟩ hl.1 rfl rfl (Nat.le_of_ble_eq_true rfl) d_LW_law_383) (fun r20 N H locs hp hn hw hd => ?_)
        obtain ⟨e2, hP⟩ := hp
        have hd := mm_dis hd
        have hC := hC9
        refine lv_icmp_eq (tgt := 625) S.1 S.2.1 d_LW_law_386 (by decide) (fun c386 => ?_) (fun c386 => absurd (e1.trans e2.symm) c386)
        refine lv_iinc (v := nI (4 * (k + 1))) (lv' := [(3, .int (nI (4 * (k + 1)))), (0, .ref b), (1, .ref x), (2, .ref y)]) S.1 S.2.1 d_LW_law_625 hl (k := 3) rfl (nI_add (4 * k) 4) (by decide) rfl (fun ls hl => ?_)
        refine lv_goto (tgt := 18) S.1 S.2.1 d_LW_law_628 (by decide) ?_
        refine W.widen (k := 30 + (k + 1)) (n := 24234 + 5 * (k + 1)) (by omega) (by omega) ?_
        exact ih (k + 1) _ _ _ _ _ _ _ ls (by omega) hC hP (wf_free hwf ((xs (4 * k + 1)))) hw hn hd (lv_sub hl [1, 2, 3, 0] rfl)
      · refine lv_tableIn (off := 359) (tgt := 391) S.1 S.2.1 d_LW_law_32 (by decide) (by decide) (by rfl) (by decide) ?_
        refine lv_aload_n S.1 S.2.1 d_LW_law_391 rfl (lv_at hl 1 rfl) ?_
        refine lv_aload_n S.1 S.2.1 d_LW_law_392 rfl (lv_at hl 0 rfl) ?_
        refine lv_iload_n S.1 S.2.1 d_LW_law_393 rfl (lv_at hl 3 rfl) ?_
        refine lv_iconst (v := 1) S.1 S.2.1 d_LW_law_394 (by decide) ?_
        refine lv_iadd S.1 S.2.1 d_LW_law_395 ?_
        refine ms_sld (j := 4 * k + 1) S.1 S.2.1 hXs hbl hbA hw.2.2.1 (nI_add (4 * k) 1) (by omega) (by omega) d_LW_law_396 ?_
        refine lv_aload_n S.1 S.2.1 d_LW_law_397 rfl (lv_at hl 0 rfl) ?_
        refine lv_iload_n S.1 S.2.1 d_LW_law_398 rfl (lv_at hl 3 rfl) ?_
        refine lv_iconst (v := 2) S.1 S.2.1 d_LW_law_399 (by decide) ?_
        refine lv_iadd S.1 S.2.1 d_LW_law_400 ?_
        refine ms_sld (j := 4 * k + 2) S.1 S.2.1 hXs hbl hbA hw.2.2.1 (nI_add (4 * k) 2) (by omega) (by omega) d_LW_law_401 ?_
        refine lv_aload_n S.1 S.2.1 d_LW_law_402 rfl (lv_at hl 0 rfl) ?_
        refine lv_iload_n S.1 S.2.1 d_LW_law_403 rfl (lv_at hl 3 rfl) ?_
        refine lv_iconst (v := 3) S.1 S.2.1 d_LW_law_404 (by decide) ?_
        refine lv_iadd S.1 S.2.1 d_LW_law_405 ?_
        refine ms_sld (j := 4 * k + 3) S.1 S.2.1 hXs hbl hbA hw.2.2.1 (nI_add (4 * k) 3) (by omega) (by omega) d_LW_law_406 ?_
        refine mm_calli2 hw hn hd (mm_runV (a := x) (As := [.int (xs (4 * k + 1)), .int (xs (4 * k + 2)), .int (xs (4 * k + 3))]) (rest := []) S hK hw (c_AR_dump l D dA _ x k I F st hC hwf ((xs (4 * k + 1))) ((xs (4 * k + 2))) ((xs (4 * k + 3))) _) bv_AR_dump gw_326 hcx rfl ⟨rfl, rfl, by decide, by decide, (show _ ≤ 600000 by omega), (show _ ≤ 7302250 by omega)⟩ hl.1 rfl rfl (Nat.le_of_ble_eq_true rfl) d_LW_law_407) (fun r21 M H locs hp hw hn hd => ?_)
        obtain ⟨e1, hC9⟩ := hp
        refine lv_aload_n S.1 S.2.1 d_LW_law_410 rfl (lv_at hl 2 rfl) ?_
        refine lv_aload_n S.1 S.2.1 d_LW_law_411 rfl (lv_at hl 0 rfl) ?_
        refine lv_iload_n S.1 S.2.1 d_LW_law_412 rfl (lv_at hl 3 rfl) ?_
        refine lv_iconst (v := 1) S.1 S.2.1 d_LW_law_413 (by decide) ?_
        refine lv_iadd S.1 S.2.1 d_LW_law_414 ?_
        refine ms_sld (j := 4 * k + 1) S.1 S.2.1 hXs hbl hbA hw.2.2.1 (nI_add (4 * k) 1) (by omega) (by omega) d_LW_law_415 ?_
        refine lv_aload_n S.1 S.2.1 d_LW_law_416 rfl (lv_at hl 0 rfl) ?_
        refine lv_iload_n S.1 S.2.1 d_LW_law_417 rfl (lv_at hl 3 rfl) ?_
        refine lv_iconst (v := 2) S.1 S.2.1 d_LW_law_418 (by decide) ?_
        refine lv_iadd S.1 S.2.1 d_LW_law_419 ?_
        refine ms_sld (j := 4 * k + 2) S.1 S.2.1 hXs hbl hbA hw.2.2.1 (nI_add (4 * k) 2) (by omega) (by omega) d_LW_law_420 ?_
        refine lv_aload_n S.1 S.2.1 d_LW_law_421 rfl (lv_at hl 0 rfl) ?_
        refine lv_iload_n S.1 S.2.1 d_LW_law_422 rfl (lv_at hl 3 rfl) ?_
        refine lv_iconst (v := 3) S.1 S.2.1 d_LW_law_423 (by decide) ?_
        refine lv_iadd S.1 S.2.1 d_LW_law_424 ?_
        refine ms_sld (j := 4 * k + 3) S.1 S.2.1 hXs hbl hbA hw.2.2.1 (nI_add (4 * k) 3) (by omega) (by omega) d_LW_law_425 ?_
        refine mm_calli2 hn hw (mm_dis hd) (mm_runV (a := y) (As := [.int (xs (4 * k + 1)), .int (xs (4 * k + 2)), .int (xs (4 * k + 3))]) (rest := [.int r21]) S hK hn (c_MO_dump l D dA _ y g I F st ((xs (4 * k + 1))) ((xs (4 * k + 2))) ((xs (4 * k + 3))) n4 hn4 hN4 hP _) bv_MO_dump gw_484 hP.2.1 rfl ⟨rfl, rfl, by decide, by decide, (show _ ≤ 600000 by omega), (show _ ≤ 7302250 by omega)⟩ hl.1 rfl rfl (Nat.le_of_ble_eq_true rfl) d_LW_law_426) (fun r22 N H locs hp hn hw hd => ?_)
        obtain ⟨e2, hP⟩ := hp
        have hd := mm_dis hd
        have hC := hC9
        refine lv_icmp_eq (tgt := 625) S.1 S.2.1 d_LW_law_429 (by decide) (fun c429 => ?_) (fun c429 => absurd (e1.trans e2.symm) c429)
        refine lv_iinc (v := nI (4 * (k + 1))) (lv' := [(3, .int (nI (4 * (k + 1)))), (0, .ref b), (1, .ref x), (2, .ref y)]) S.1 S.2.1 d_LW_law_625 hl (k := 3) rfl (nI_add (4 * k) 4) (by decide) rfl (fun ls hl => ?_)
        refine lv_goto (tgt := 18) S.1 S.2.1 d_LW_law_628 (by decide) ?_
        refine W.widen (k := 30 + (k + 1)) (n := 24234 + 5 * (k + 1)) (by omega) (by omega) ?_
        exact ih (k + 1) _ _ _ _ _ _ _ ls (by omega) hC hP (hwf) hw hn hd (lv_sub hl [1, 2, 3, 0] rfl)
      · refine lv_tableIn (off := 402) (tgt := 434) S.1 S.2.1 d_LW_law_32 (by decide) (by decide) (by rfl) (by decide) ?_
        refine lv_aload_n S.1 S.2.1 d_LW_law_434 rfl (lv_at hl 1 rfl) ?_
        refine lv_aload_n S.1 S.2.1 d_LW_law_435 rfl (lv_at hl 0 rfl) ?_
        refine lv_iload_n S.1 S.2.1 d_LW_law_436 rfl (lv_at hl 3 rfl) ?_
        refine lv_iconst (v := 1) S.1 S.2.1 d_LW_law_437 (by decide) ?_
        refine lv_iadd S.1 S.2.1 d_LW_law_438 ?_
        refine ms_sld (j := 4 * k + 1) S.1 S.2.1 hXs hbl hbA hw.2.2.1 (nI_add (4 * k) 1) (by omega) (by omega) d_LW_law_439 ?_
        refine lv_aload_n S.1 S.2.1 d_LW_law_440 rfl (lv_at hl 0 rfl) ?_
        refine lv_iload_n S.1 S.2.1 d_LW_law_441 rfl (lv_at hl 3 rfl) ?_
        refine lv_iconst (v := 2) S.1 S.2.1 d_LW_law_442 (by decide) ?_
        refine lv_iadd S.1 S.2.1 d_LW_law_443 ?_
        refine ms_sld (j := 4 * k + 2) S.1 S.2.1 hXs hbl hbA hw.2.2.1 (nI_add (4 * k) 2) (by omega) (by omega) d_LW_law_444 ?_
        refine lv_i2l (v := ((xs (4 * k + 2))).toInt64) S.1 S.2.1 d_LW_law_445 rfl ?_
        refine lv_bipush (v := 32) S.1 S.2.1 d_LW_law_446 (by decide) ?_
        refine lv_lshl (v := (((xs (4 * k + 2))).toInt64 <<< ((32 : Int32).toInt64 &&& 63))) S.1 S.2.1 d_LW_law_448 rfl ?_
        refine lv_aload_n S.1 S.2.1 d_LW_law_449 rfl (lv_at hl 0 rfl) ?_
        refine lv_iload_n S.1 S.2.1 d_LW_law_450 rfl (lv_at hl 3 rfl) ?_
        refine lv_iconst (v := 3) S.1 S.2.1 d_LW_law_451 (by decide) ?_
        refine lv_iadd S.1 S.2.1 d_LW_law_452 ?_
        refine ms_sld (j := 4 * k + 3) S.1 S.2.1 hXs hbl hbA hw.2.2.1 (nI_add (4 * k) 3) (by omega) (by omega) d_LW_law_453 ?_
        refine lv_i2l (v := ((xs (4 * k + 3))).toInt64) S.1 S.2.1 d_LW_law_454 rfl ?_
        refine lv_ldc2 (v := 4294967295) S.1 S.2.1 S.2.2.2.1 (S.2.2.2.2 _ gw_517) d_LW_law_455 ?_
        refine lv_land S.1 S.2.1 d_LW_law_458 ?_
        refine lv_lor S.1 S.2.1 d_LW_law_459 ?_
        refine mm_calli2 hw hn hd (mm_runV (a := x) (As := [.int (xs (4 * k + 1)), .long ((((xs (4 * k + 2))).toInt64 <<< ((32 : Int32).toInt64 &&& 63)) ||| (((xs (4 * k + 3))).toInt64 &&& 4294967295))]) (rest := []) S hK hw (c_AR_loop l D dA _ x k I F st hC hwf ((xs (4 * k + 1))) (((((xs (4 * k + 2))).toInt64 <<< ((32 : Int32).toInt64 &&& 63)) ||| (((xs (4 * k + 3))).toInt64 &&& 4294967295))) _) bv_AR_loop gw_334 hcx rfl ⟨rfl, rfl, by decide, by decide, (show _ ≤ 600000 by omega), (show _ ≤ 7302250 by omega)⟩ hl.1 rfl rfl (Nat.le_of_ble_eq_true rfl) d_LW_law_460) (fun r23 M H locs hp hw hn hd => ?_)
        obtain ⟨e1, hC9⟩ := hp
        refine lv_aload_n S.1 S.2.1 d_LW_law_463 rfl (lv_at hl 2 rfl) ?_
        refine lv_aload_n S.1 S.2.1 d_LW_law_464 rfl (lv_at hl 0 rfl) ?_
        refine lv_iload_n S.1 S.2.1 d_LW_law_465 rfl (lv_at hl 3 rfl) ?_
        refine lv_iconst (v := 1) S.1 S.2.1 d_LW_law_466 (by decide) ?_
        refine lv_iadd S.1 S.2.1 d_LW_law_467 ?_
        refine ms_sld (j := 4 * k + 1) S.1 S.2.1 hXs hbl hbA hw.2.2.1 (nI_add (4 * k) 1) (by omega) (by omega) d_LW_law_468 ?_
        refine lv_aload_n S.1 S.2.1 d_LW_law_469 rfl (lv_at hl 0 rfl) ?_
        refine lv_iload_n S.1 S.2.1 d_LW_law_470 rfl (lv_at hl 3 rfl) ?_
        refine lv_iconst (v := 2) S.1 S.2.1 d_LW_law_471 (by decide) ?_
        refine lv_iadd S.1 S.2.1 d_LW_law_472 ?_
        refine ms_sld (j := 4 * k + 2) S.1 S.2.1 hXs hbl hbA hw.2.2.1 (nI_add (4 * k) 2) (by omega) (by omega) d_LW_law_473 ?_
        refine lv_i2l (v := ((xs (4 * k + 2))).toInt64) S.1 S.2.1 d_LW_law_474 rfl ?_
        refine lv_bipush (v := 32) S.1 S.2.1 d_LW_law_475 (by decide) ?_
        refine lv_lshl (v := (((xs (4 * k + 2))).toInt64 <<< ((32 : Int32).toInt64 &&& 63))) S.1 S.2.1 d_LW_law_477 rfl ?_
        refine lv_aload_n S.1 S.2.1 d_LW_law_478 rfl (lv_at hl 0 rfl) ?_
        refine lv_iload_n S.1 S.2.1 d_LW_law_479 rfl (lv_at hl 3 rfl) ?_
        refine lv_iconst (v := 3) S.1 S.2.1 d_LW_law_480 (by decide) ?_
        refine lv_iadd S.1 S.2.1 d_LW_law_481 ?_
        refine ms_sld (j := 4 * k + 3) S.1 S.2.1 hXs hbl hbA hw.2.2.1 (nI_add (4 * k) 3) (by omega) (by omega) d_LW_law_482 ?_
        refine lv_i2l (v := ((xs (4 * k + 3))).toInt64) S.1 S.2.1 d_LW_law_483 rfl ?_
        refine lv_ldc2 (v := 4294967295) S.1 S.2.1 S.2.2.2.1 (S.2.2.2.2 _ gw_517) d_LW_law_484 ?_
        refine lv_land S.1 S.2.1 d_LW_law_487 ?_
        refine lv_lor S.1 S.2.1 d_LW_law_488 ?_
        refine mm_calli2 hn hw (mm_dis hd) (mm_runV (a := y) (As := [.int (xs (4 * k + 1)), .long ((((xs (4 * k + 2))).toInt64 <<< ((32 : Int32).toInt64 &&& 63)) ||| (((xs (4 * k + 3))).toInt64 &&& 4294967295))]) (rest := [.int r23]) S hK hn (c_MO_loop l D dA _ y g I F st ((xs (4 * k + 1))) (((((xs (4 * k + 2))).toInt64 <<< ((32 : Int32).toInt64 &&& 63)) ||| (((xs (4 * k + 3))).toInt64 &&& 4294967295))) hP _) bv_MO_loop gw_492 hP.2.1 rfl ⟨rfl, rfl, by decide, by decide, (show _ ≤ 600000 by omega), (show _ ≤ 7302250 by omega)⟩ hl.1 rfl rfl (Nat.le_of_ble_eq_true rfl) d_LW_law_489) (fun r24 N H locs hp hn hw hd => ?_)
        obtain ⟨e2, hP⟩ := hp
        have hd := mm_dis hd
        have hC := hC9
        refine lv_icmp_eq (tgt := 625) S.1 S.2.1 d_LW_law_492 (by decide) (fun c492 => ?_) (fun c492 => absurd (e1.trans e2.symm) c492)
        refine lv_iinc (v := nI (4 * (k + 1))) (lv' := [(3, .int (nI (4 * (k + 1)))), (0, .ref b), (1, .ref x), (2, .ref y)]) S.1 S.2.1 d_LW_law_625 hl (k := 3) rfl (nI_add (4 * k) 4) (by decide) rfl (fun ls hl => ?_)
        refine lv_goto (tgt := 18) S.1 S.2.1 d_LW_law_628 (by decide) ?_
        refine W.widen (k := 30 + (k + 1)) (n := 24234 + 5 * (k + 1)) (by omega) (by omega) ?_
        exact ih (k + 1) _ _ _ _ _ _ _ ls (by omega) hC hP (wf_loop hwf ((xs (4 * k + 1))) (((((xs (4 * k + 2))).toInt64 <<< ((32 : Int32).toInt64 &&& 63)) ||| (((xs (4 * k + 3))).toInt64 &&& 4294967295)))) hw hn hd (lv_sub hl [1, 2, 3, 0] rfl)
      · refine lv_tableIn (off := 465) (tgt := 497) S.1 S.2.1 d_LW_law_32 (by decide) (by decide) (by rfl) (by decide) ?_
        by_cases hb9 : xs (4 * k + 2) = 0
        · refine lv_aload_n S.1 S.2.1 d_LW_law_497 rfl (lv_at hl 1 rfl) ?_
          refine lv_aload_n S.1 S.2.1 d_LW_law_498 rfl (lv_at hl 0 rfl) ?_
          refine lv_iload_n S.1 S.2.1 d_LW_law_499 rfl (lv_at hl 3 rfl) ?_
          refine lv_iconst (v := 1) S.1 S.2.1 d_LW_law_500 (by decide) ?_
          refine lv_iadd S.1 S.2.1 d_LW_law_501 ?_
          refine ms_sld (j := 4 * k + 1) S.1 S.2.1 hXs hbl hbA hw.2.2.1 (nI_add (4 * k) 1) (by omega) (by omega) d_LW_law_502 ?_
          refine lv_aload_n S.1 S.2.1 d_LW_law_503 rfl (lv_at hl 0 rfl) ?_
          refine lv_iload_n S.1 S.2.1 d_LW_law_504 rfl (lv_at hl 3 rfl) ?_
          refine lv_iconst (v := 2) S.1 S.2.1 d_LW_law_505 (by decide) ?_
          refine lv_iadd S.1 S.2.1 d_LW_law_506 ?_
          refine ms_sld (j := 4 * k + 2) S.1 S.2.1 hXs hbl hbA hw.2.2.1 (nI_add (4 * k) 2) (by omega) (by omega) d_LW_law_507 ?_
          refine lv_if_eq (tgt := 515) S.1 S.2.1 d_LW_law_508 (by decide) (fun c508 => ?_) (fun c508 => absurd hb9 c508)
          refine lv_iconst (v := 0) S.1 S.2.1 d_LW_law_515 (by decide) ?_
          refine mm_calli2 hw hn hd (mm_runV (a := x) (As := [.int (xs (4 * k + 1)), .int 0]) (rest := []) S hK hw (c_AR_suppress l D dA _ x k I F st hC hwf ((xs (4 * k + 1))) (0) (Or.inl rfl) _) bv_AR_suppress gw_339 hcx rfl ⟨rfl, rfl, by decide, by decide, (show _ ≤ 600000 by omega), (show _ ≤ 7302250 by omega)⟩ hl.1 rfl rfl (Nat.le_of_ble_eq_true rfl) d_LW_law_516) (fun r25 M H locs hp hw hn hd => ?_)
          obtain ⟨e1, hC9⟩ := hp
          refine lv_aload_n S.1 S.2.1 d_LW_law_519 rfl (lv_at hl 2 rfl) ?_
          refine lv_aload_n S.1 S.2.1 d_LW_law_520 rfl (lv_at hl 0 rfl) ?_
          refine lv_iload_n S.1 S.2.1 d_LW_law_521 rfl (lv_at hl 3 rfl) ?_
          refine lv_iconst (v := 1) S.1 S.2.1 d_LW_law_522 (by decide) ?_
          refine lv_iadd S.1 S.2.1 d_LW_law_523 ?_
          refine ms_sld (j := 4 * k + 1) S.1 S.2.1 hXs hbl hbA hw.2.2.1 (nI_add (4 * k) 1) (by omega) (by omega) d_LW_law_524 ?_
          refine lv_aload_n S.1 S.2.1 d_LW_law_525 rfl (lv_at hl 0 rfl) ?_
          refine lv_iload_n S.1 S.2.1 d_LW_law_526 rfl (lv_at hl 3 rfl) ?_
          refine lv_iconst (v := 2) S.1 S.2.1 d_LW_law_527 (by decide) ?_
          refine lv_iadd S.1 S.2.1 d_LW_law_528 ?_
          refine ms_sld (j := 4 * k + 2) S.1 S.2.1 hXs hbl hbA hw.2.2.1 (nI_add (4 * k) 2) (by omega) (by omega) d_LW_law_529 ?_
          refine lv_if_eq (tgt := 537) S.1 S.2.1 d_LW_law_530 (by decide) (fun c530 => ?_) (fun c530 => absurd hb9 c530)
          refine lv_iconst (v := 0) S.1 S.2.1 d_LW_law_537 (by decide) ?_
          refine mm_calli2 hn hw (mm_dis hd) (mm_runV (a := y) (As := [.int (xs (4 * k + 1)), .int 0]) (rest := [.int r25]) S hK hn (c_MO_suppress l D dA _ y g I F st ((xs (4 * k + 1))) (0) (Or.inl rfl) hP _) bv_MO_suppress gw_488 hP.2.1 rfl ⟨rfl, rfl, by decide, by decide, (show _ ≤ 600000 by omega), (show _ ≤ 7302250 by omega)⟩ hl.1 rfl rfl (Nat.le_of_ble_eq_true rfl) d_LW_law_538) (fun r26 N H locs hp hn hw hd => ?_)
          obtain ⟨e2, hP⟩ := hp
          have hd := mm_dis hd
          have hC := hC9
          refine lv_icmp_eq (tgt := 625) S.1 S.2.1 d_LW_law_541 (by decide) (fun c541 => ?_) (fun c541 => absurd (e1.trans e2.symm) c541)
          refine lv_iinc (v := nI (4 * (k + 1))) (lv' := [(3, .int (nI (4 * (k + 1)))), (0, .ref b), (1, .ref x), (2, .ref y)]) S.1 S.2.1 d_LW_law_625 hl (k := 3) rfl (nI_add (4 * k) 4) (by decide) rfl (fun ls hl => ?_)
          refine lv_goto (tgt := 18) S.1 S.2.1 d_LW_law_628 (by decide) ?_
          refine W.widen (k := 30 + (k + 1)) (n := 24234 + 5 * (k + 1)) (by omega) (by omega) ?_
          exact ih (k + 1) _ _ _ _ _ _ _ ls (by omega) hC hP (wf_suppress hwf ((xs (4 * k + 1))) (0)) hw hn hd (lv_sub hl [1, 2, 3, 0] rfl)
        · refine lv_aload_n S.1 S.2.1 d_LW_law_497 rfl (lv_at hl 1 rfl) ?_
          refine lv_aload_n S.1 S.2.1 d_LW_law_498 rfl (lv_at hl 0 rfl) ?_
          refine lv_iload_n S.1 S.2.1 d_LW_law_499 rfl (lv_at hl 3 rfl) ?_
          refine lv_iconst (v := 1) S.1 S.2.1 d_LW_law_500 (by decide) ?_
          refine lv_iadd S.1 S.2.1 d_LW_law_501 ?_
          refine ms_sld (j := 4 * k + 1) S.1 S.2.1 hXs hbl hbA hw.2.2.1 (nI_add (4 * k) 1) (by omega) (by omega) d_LW_law_502 ?_
          refine lv_aload_n S.1 S.2.1 d_LW_law_503 rfl (lv_at hl 0 rfl) ?_
          refine lv_iload_n S.1 S.2.1 d_LW_law_504 rfl (lv_at hl 3 rfl) ?_
          refine lv_iconst (v := 2) S.1 S.2.1 d_LW_law_505 (by decide) ?_
          refine lv_iadd S.1 S.2.1 d_LW_law_506 ?_
          refine ms_sld (j := 4 * k + 2) S.1 S.2.1 hXs hbl hbA hw.2.2.1 (nI_add (4 * k) 2) (by omega) (by omega) d_LW_law_507 ?_
          refine lv_if_eq (tgt := 515) S.1 S.2.1 d_LW_law_508 (by decide) (fun c508 => absurd c508 hb9) (fun c508 => ?_)
          refine lv_iconst (v := 1) S.1 S.2.1 d_LW_law_511 (by decide) ?_
          refine lv_goto (tgt := 516) S.1 S.2.1 d_LW_law_512 (by decide) ?_
          refine mm_calli2 hw hn hd (mm_runV (a := x) (As := [.int (xs (4 * k + 1)), .int 1]) (rest := []) S hK hw (c_AR_suppress l D dA _ x k I F st hC hwf ((xs (4 * k + 1))) (1) (Or.inr rfl) _) bv_AR_suppress gw_339 hcx rfl ⟨rfl, rfl, by decide, by decide, (show _ ≤ 600000 by omega), (show _ ≤ 7302250 by omega)⟩ hl.1 rfl rfl (Nat.le_of_ble_eq_true rfl) d_LW_law_516) (fun r27 M H locs hp hw hn hd => ?_)
          obtain ⟨e1, hC9⟩ := hp
          refine lv_aload_n S.1 S.2.1 d_LW_law_519 rfl (lv_at hl 2 rfl) ?_
          refine lv_aload_n S.1 S.2.1 d_LW_law_520 rfl (lv_at hl 0 rfl) ?_
          refine lv_iload_n S.1 S.2.1 d_LW_law_521 rfl (lv_at hl 3 rfl) ?_
          refine lv_iconst (v := 1) S.1 S.2.1 d_LW_law_522 (by decide) ?_
          refine lv_iadd S.1 S.2.1 d_LW_law_523 ?_
          refine ms_sld (j := 4 * k + 1) S.1 S.2.1 hXs hbl hbA hw.2.2.1 (nI_add (4 * k) 1) (by omega) (by omega) d_LW_law_524 ?_
          refine lv_aload_n S.1 S.2.1 d_LW_law_525 rfl (lv_at hl 0 rfl) ?_
          refine lv_iload_n S.1 S.2.1 d_LW_law_526 rfl (lv_at hl 3 rfl) ?_
          refine lv_iconst (v := 2) S.1 S.2.1 d_LW_law_527 (by decide) ?_
          refine lv_iadd S.1 S.2.1 d_LW_law_528 ?_
          refine ms_sld (j := 4 * k + 2) S.1 S.2.1 hXs hbl hbA hw.2.2.1 (nI_add (4 * k) 2) (by omega) (by omega) d_LW_law_529 ?_
          refine lv_if_eq (tgt := 537) S.1 S.2.1 d_LW_law_530 (by decide) (fun c530 => absurd c530 hb9) (fun c530 => ?_)
          refine lv_iconst (v := 1) S.1 S.2.1 d_LW_law_533 (by decide) ?_
          refine lv_goto (tgt := 538) S.1 S.2.1 d_LW_law_534 (by decide) ?_
          refine mm_calli2 hn hw (mm_dis hd) (mm_runV (a := y) (As := [.int (xs (4 * k + 1)), .int 1]) (rest := [.int r27]) S hK hn (c_MO_suppress l D dA _ y g I F st ((xs (4 * k + 1))) (1) (Or.inr rfl) hP _) bv_MO_suppress gw_488 hP.2.1 rfl ⟨rfl, rfl, by decide, by decide, (show _ ≤ 600000 by omega), (show _ ≤ 7302250 by omega)⟩ hl.1 rfl rfl (Nat.le_of_ble_eq_true rfl) d_LW_law_538) (fun r28 N H locs hp hn hw hd => ?_)
          obtain ⟨e2, hP⟩ := hp
          have hd := mm_dis hd
          have hC := hC9
          refine lv_icmp_eq (tgt := 625) S.1 S.2.1 d_LW_law_541 (by decide) (fun c541 => ?_) (fun c541 => absurd (e1.trans e2.symm) c541)
          refine lv_iinc (v := nI (4 * (k + 1))) (lv' := [(3, .int (nI (4 * (k + 1)))), (0, .ref b), (1, .ref x), (2, .ref y)]) S.1 S.2.1 d_LW_law_625 hl (k := 3) rfl (nI_add (4 * k) 4) (by decide) rfl (fun ls hl => ?_)
          refine lv_goto (tgt := 18) S.1 S.2.1 d_LW_law_628 (by decide) ?_
          refine W.widen (k := 30 + (k + 1)) (n := 24234 + 5 * (k + 1)) (by omega) (by omega) ?_
          exact ih (k + 1) _ _ _ _ _ _ _ ls (by omega) hC hP (wf_suppress hwf ((xs (4 * k + 1))) (1)) hw hn hd (lv_sub hl [1, 2, 3, 0] rfl)
      · refine lv_tableIn (off := 514) (tgt := 546) S.1 S.2.1 d_LW_law_32 (by decide) (by decide) (by rfl) (by decide) ?_
        refine lv_aload_n S.1 S.2.1 d_LW_law_546 rfl (lv_at hl 1 rfl) ?_
        refine lv_aload_n S.1 S.2.1 d_LW_law_547 rfl (lv_at hl 0 rfl) ?_
        refine lv_iload_n S.1 S.2.1 d_LW_law_548 rfl (lv_at hl 3 rfl) ?_
        refine lv_iconst (v := 1) S.1 S.2.1 d_LW_law_549 (by decide) ?_
        refine lv_iadd S.1 S.2.1 d_LW_law_550 ?_
        refine ms_sld (j := 4 * k + 1) S.1 S.2.1 hXs hbl hbA hw.2.2.1 (nI_add (4 * k) 1) (by omega) (by omega) d_LW_law_551 ?_
        refine mm_calli2 hw hn hd (mm_runV (a := x) (As := [.int (xs (4 * k + 1))]) (rest := []) S hK hw (c_AR_count l D dA _ x k I F st hC hwf (by omega) ((xs (4 * k + 1))) _) bv_AR_count gw_348 hcx rfl ⟨rfl, rfl, by decide, by decide, (show _ ≤ 600000 by omega), (show _ ≤ 7302250 by omega)⟩ hl.1 rfl rfl (Nat.le_of_ble_eq_true rfl) d_LW_law_552) (fun r29 M H locs hp hw hn hd => ?_)
        obtain ⟨e1, hC9⟩ := hp
        refine lv_aload_n S.1 S.2.1 d_LW_law_555 rfl (lv_at hl 2 rfl) ?_
        refine lv_aload_n S.1 S.2.1 d_LW_law_556 rfl (lv_at hl 0 rfl) ?_
        refine lv_iload_n S.1 S.2.1 d_LW_law_557 rfl (lv_at hl 3 rfl) ?_
        refine lv_iconst (v := 1) S.1 S.2.1 d_LW_law_558 (by decide) ?_
        refine lv_iadd S.1 S.2.1 d_LW_law_559 ?_
        refine ms_sld (j := 4 * k + 1) S.1 S.2.1 hXs hbl hbA hw.2.2.1 (nI_add (4 * k) 1) (by omega) (by omega) d_LW_law_560 ?_
        refine mm_calli2 hn hw (mm_dis hd) (mm_runV (a := y) (As := [.int (xs (4 * k + 1))]) (rest := [.int r29]) S hK hn (c_MO_count l D dA _ y g I F st ((xs (4 * k + 1))) hP _) bv_MO_count gw_469 hP.2.1 rfl ⟨rfl, rfl, by decide, by decide, (show _ ≤ 600000 by omega), (show _ ≤ 7302250 by omega)⟩ hl.1 rfl rfl (Nat.le_of_ble_eq_true rfl) d_LW_law_561) (fun r30 N H locs hp hn hw hd => ?_)
        obtain ⟨e2, hP⟩ := hp
        have hd := mm_dis hd
        have hC := hC9
        refine lv_icmp_eq (tgt := 625) S.1 S.2.1 d_LW_law_564 (by decide) (fun c564 => ?_) (fun c564 => absurd (e1.trans e2.symm) c564)
        refine lv_iinc (v := nI (4 * (k + 1))) (lv' := [(3, .int (nI (4 * (k + 1)))), (0, .ref b), (1, .ref x), (2, .ref y)]) S.1 S.2.1 d_LW_law_625 hl (k := 3) rfl (nI_add (4 * k) 4) (by decide) rfl (fun ls hl => ?_)
        refine lv_goto (tgt := 18) S.1 S.2.1 d_LW_law_628 (by decide) ?_
        refine W.widen (k := 30 + (k + 1)) (n := 24234 + 5 * (k + 1)) (by omega) (by omega) ?_
        exact ih (k + 1) _ _ _ _ _ _ _ ls (by omega) hC hP (hwf) hw hn hd (lv_sub hl [1, 2, 3, 0] rfl)
      · refine lv_tableIn (off := 537) (tgt := 569) S.1 S.2.1 d_LW_law_32 (by decide) (by decide) (by rfl) (by decide) ?_
        refine lv_aload_n S.1 S.2.1 d_LW_law_569 rfl (lv_at hl 1 rfl) ?_
        refine lv_aload_n S.1 S.2.1 d_LW_law_570 rfl (lv_at hl 0 rfl) ?_
        refine lv_iload_n S.1 S.2.1 d_LW_law_571 rfl (lv_at hl 3 rfl) ?_
        refine lv_iconst (v := 1) S.1 S.2.1 d_LW_law_572 (by decide) ?_
        refine lv_iadd S.1 S.2.1 d_LW_law_573 ?_
        refine ms_sld (j := 4 * k + 1) S.1 S.2.1 hXs hbl hbA hw.2.2.1 (nI_add (4 * k) 1) (by omega) (by omega) d_LW_law_574 ?_
        refine mm_calli2 hw hn hd (mm_runV (a := x) (As := [.int (xs (4 * k + 1))]) (rest := []) S hK hw (c_AR_region l D dA _ x k I F st hC hwf ((xs (4 * k + 1))) _) bv_AR_region gw_356 hcx rfl ⟨rfl, rfl, by decide, by decide, (show _ ≤ 600000 by omega), (show _ ≤ 7302250 by omega)⟩ hl.1 rfl rfl (Nat.le_of_ble_eq_true rfl) d_LW_law_575) (fun r31 M H locs hp hw hn hd => ?_)
        obtain ⟨e1, hC9⟩ := hp
        refine lv_aload_n S.1 S.2.1 d_LW_law_578 rfl (lv_at hl 2 rfl) ?_
        refine lv_aload_n S.1 S.2.1 d_LW_law_579 rfl (lv_at hl 0 rfl) ?_
        refine lv_iload_n S.1 S.2.1 d_LW_law_580 rfl (lv_at hl 3 rfl) ?_
        refine lv_iconst (v := 1) S.1 S.2.1 d_LW_law_581 (by decide) ?_
        refine lv_iadd S.1 S.2.1 d_LW_law_582 ?_
        refine ms_sld (j := 4 * k + 1) S.1 S.2.1 hXs hbl hbA hw.2.2.1 (nI_add (4 * k) 1) (by omega) (by omega) d_LW_law_583 ?_
        refine mm_calli2 hn hw (mm_dis hd) (mm_runV (a := y) (As := [.int (xs (4 * k + 1))]) (rest := [.int r31]) S hK hn (c_MO_region l D dA _ y g I F st ((xs (4 * k + 1))) hP _) bv_MO_region gw_473 hP.2.1 rfl ⟨rfl, rfl, by decide, by decide, (show _ ≤ 600000 by omega), (show _ ≤ 7302250 by omega)⟩ hl.1 rfl rfl (Nat.le_of_ble_eq_true rfl) d_LW_law_584) (fun r32 N H locs hp hn hw hd => ?_)
        obtain ⟨e2, hP⟩ := hp
        have hd := mm_dis hd
        have hC := hC9
        refine lv_icmp_eq (tgt := 625) S.1 S.2.1 d_LW_law_587 (by decide) (fun c587 => ?_) (fun c587 => absurd (e1.trans e2.symm) c587)
        refine lv_iinc (v := nI (4 * (k + 1))) (lv' := [(3, .int (nI (4 * (k + 1)))), (0, .ref b), (1, .ref x), (2, .ref y)]) S.1 S.2.1 d_LW_law_625 hl (k := 3) rfl (nI_add (4 * k) 4) (by decide) rfl (fun ls hl => ?_)
        refine lv_goto (tgt := 18) S.1 S.2.1 d_LW_law_628 (by decide) ?_
        refine W.widen (k := 30 + (k + 1)) (n := 24234 + 5 * (k + 1)) (by omega) (by omega) ?_
        exact ih (k + 1) _ _ _ _ _ _ _ ls (by omega) hC hP (hwf) hw hn hd (lv_sub hl [1, 2, 3, 0] rfl)
      · refine lv_tableIn (off := 560) (tgt := 592) S.1 S.2.1 d_LW_law_32 (by decide) (by decide) (by rfl) (by decide) ?_
        refine lv_aload_n S.1 S.2.1 d_LW_law_592 rfl (lv_at hl 1 rfl) ?_
        refine lv_aload_n S.1 S.2.1 d_LW_law_593 rfl (lv_at hl 0 rfl) ?_
        refine lv_iload_n S.1 S.2.1 d_LW_law_594 rfl (lv_at hl 3 rfl) ?_
        refine lv_iconst (v := 1) S.1 S.2.1 d_LW_law_595 (by decide) ?_
        refine lv_iadd S.1 S.2.1 d_LW_law_596 ?_
        refine ms_sld (j := 4 * k + 1) S.1 S.2.1 hXs hbl hbA hw.2.2.1 (nI_add (4 * k) 1) (by omega) (by omega) d_LW_law_597 ?_
        refine lv_aload_n S.1 S.2.1 d_LW_law_598 rfl (lv_at hl 0 rfl) ?_
        refine lv_iload_n S.1 S.2.1 d_LW_law_599 rfl (lv_at hl 3 rfl) ?_
        refine lv_iconst (v := 2) S.1 S.2.1 d_LW_law_600 (by decide) ?_
        refine lv_iadd S.1 S.2.1 d_LW_law_601 ?_
        refine ms_sld (j := 4 * k + 2) S.1 S.2.1 hXs hbl hbA hw.2.2.1 (nI_add (4 * k) 2) (by omega) (by omega) d_LW_law_602 ?_
        refine mm_calli2 hw hn hd (mm_runV (a := x) (As := [.int (xs (4 * k + 1)), .int (xs (4 * k + 2))]) (rest := []) S hK hw (c_AR_told l D dA _ x k I F st hC hwf ((xs (4 * k + 1))) ((xs (4 * k + 2))) _) bv_AR_told gw_360 hcx rfl ⟨rfl, rfl, by decide, by decide, (show _ ≤ 600000 by omega), (show _ ≤ 7302250 by omega)⟩ hl.1 rfl rfl (Nat.le_of_ble_eq_true rfl) d_LW_law_603) (fun r33 M H locs hp hw hn hd => ?_)
        obtain ⟨e1, hC9⟩ := hp
        refine lv_aload_n S.1 S.2.1 d_LW_law_606 rfl (lv_at hl 2 rfl) ?_
        refine lv_aload_n S.1 S.2.1 d_LW_law_607 rfl (lv_at hl 0 rfl) ?_
        refine lv_iload_n S.1 S.2.1 d_LW_law_608 rfl (lv_at hl 3 rfl) ?_
        refine lv_iconst (v := 1) S.1 S.2.1 d_LW_law_609 (by decide) ?_
        refine lv_iadd S.1 S.2.1 d_LW_law_610 ?_
        refine ms_sld (j := 4 * k + 1) S.1 S.2.1 hXs hbl hbA hw.2.2.1 (nI_add (4 * k) 1) (by omega) (by omega) d_LW_law_611 ?_
        refine lv_aload_n S.1 S.2.1 d_LW_law_612 rfl (lv_at hl 0 rfl) ?_
        refine lv_iload_n S.1 S.2.1 d_LW_law_613 rfl (lv_at hl 3 rfl) ?_
        refine lv_iconst (v := 2) S.1 S.2.1 d_LW_law_614 (by decide) ?_
        refine lv_iadd S.1 S.2.1 d_LW_law_615 ?_
        refine ms_sld (j := 4 * k + 2) S.1 S.2.1 hXs hbl hbA hw.2.2.1 (nI_add (4 * k) 2) (by omega) (by omega) d_LW_law_616 ?_
        refine mm_calli2 hn hw (mm_dis hd) (mm_runV (a := y) (As := [.int (xs (4 * k + 1)), .int (xs (4 * k + 2))]) (rest := [.int r33]) S hK hn (c_MO_told l D dA _ y g I F st ((xs (4 * k + 1))) ((xs (4 * k + 2))) n1 hn1 hN1 hP _) bv_MO_told gw_513 hP.2.1 rfl ⟨rfl, rfl, by decide, by decide, (show _ ≤ 600000 by omega), (show _ ≤ 7302250 by omega)⟩ hl.1 rfl rfl (Nat.le_of_ble_eq_true rfl) d_LW_law_617) (fun r34 N H locs hp hn hw hd => ?_)
        obtain ⟨e2, hP⟩ := hp
        have hd := mm_dis hd
        have hC := hC9
        refine lv_icmp_eq (tgt := 625) S.1 S.2.1 d_LW_law_620 (by decide) (fun c620 => ?_) (fun c620 => absurd (e1.trans e2.symm) c620)
        refine lv_iinc (v := nI (4 * (k + 1))) (lv' := [(3, .int (nI (4 * (k + 1)))), (0, .ref b), (1, .ref x), (2, .ref y)]) S.1 S.2.1 d_LW_law_625 hl (k := 3) rfl (nI_add (4 * k) 4) (by decide) rfl (fun ls hl => ?_)
        refine lv_goto (tgt := 18) S.1 S.2.1 d_LW_law_628 (by decide) ?_
        refine W.widen (k := 30 + (k + 1)) (n := 24234 + 5 * (k + 1)) (by omega) (by omega) ?_
        exact ih (k + 1) _ _ _ _ _ _ _ ls (by omega) hC hP (hwf) hw hn hd (lv_sub hl [1, 2, 3, 0] rfl)
      · refine lv_tableOut (tgt := 625) S.1 S.2.1 d_LW_law_32 (by decide) (by decide) ?_
        refine lv_iinc (v := nI (4 * (k + 1))) (lv' := [(3, .int (nI (4 * (k + 1)))), (0, .ref b), (1, .ref x), (2, .ref y)]) S.1 S.2.1 d_LW_law_625 hl (k := 3) rfl (nI_add (4 * k) 4) (by decide) rfl (fun ls hl => ?_)
        refine lv_goto (tgt := 18) S.1 S.2.1 d_LW_law_628 (by decide) ?_
        refine W.widen (k := 30 + (k + 1)) (n := 24234 + 5 * (k + 1)) (by omega) (by omega) ?_
        exact ih (k + 1) I F st M N _ _ ls (by omega) (cP_n hC) hP hwf hw hn hd (lv_sub hl [1, 2, 3, 0] rfl)
