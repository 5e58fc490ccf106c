/-! what holds of the numbers, kept by every call -/
theorem wf_0 : wf (fun _ => 0) (fun _ _ => 0) (fun _ => 0) := by
  refine ⟨⟨0, rfl, by decide⟩, ⟨0, rfl, by decide⟩, ⟨0, rfl, by decide⟩, ⟨0, rfl, by decide⟩, ⟨0, rfl, by decide⟩, ⟨⟨rfl, rfl⟩, fun a h1 h2 => ?_, fun a h1 h2 => ?_⟩, fun _ _ => rfl, fun _ _ _ => ⟨Or.inl rfl, Or.inl rfl⟩, fun _ _ => rfl, fun _ _ _ => ⟨0, rfl, by decide⟩⟩
  · exact absurd (Nat.le_trans h1 h2) (by decide)
  · exact absurd (Nat.le_trans h1 h2) (by decide)
section WFK
variable {I : sI} {F : sF} {st : sT}
theorem wf_level (h : wf I F st) (k : Int32) : wf (sp_level k I F st).2.1 (sp_level k I F st).2.2.1 (sp_level k I F st).2.2.2 := by
  unfold sp_level
  split
  · exact h
  · rename_i hk
    split
    · exact h
    · rename_i hm
      obtain ⟨⟨n, hn, hN⟩, h2, h3, h4, h5, h6, h7, h8, h9, h10⟩ := h
      have hcn : cN (I 1) = n := cN_I hn (by omega)
      have hn1 : n < 100 := by
        rcases Nat.lt_or_ge n 100 with q | q
        · exact q
        · exact absurd (Or.inl (by rw [hn, show n = 100 by omega]; rfl)) hm
      have hi : I 1 + 1 = nI (n + 1) := by rw [hn, nI_1]
      have hci : cN (I 1 + 1) = n + 1 := cN_I hi (by omega)
      rw [hcn] at h6 h7
      obtain ⟨⟨g0, g1⟩, g2, g3⟩ := h6
      rw [hci]
      refine ⟨⟨n + 1, hi, by omega⟩, h2, h3, h4, h5, ?_, ?_, h8, h9, h10⟩
      · show lv_wf2 _ (cN (I 1 + 1)) (cN (I 2))
        rw [hci]
        refine ⟨⟨?_, ?_⟩, fun a p q => ?_, fun a p q => ?_⟩
        · show upd (F 0) (n + 1) k 0 = 0
          rw [pk_un (by omega)]; exact g0
        · show upd (F 1) (n + 1) (F 1 (cN k) + 1) 0 = 0
          rw [pk_un (by omega)]; exact g1
        · show ∃ r, upd (F 0) (n + 1) k a = nI r ∧ r < a ∧ cN (upd (F 1) (n + 1) (F 1 (cN k) + 1) r) + 1 = cN (upd (F 1) (n + 1) (F 1 (cN k) + 1) a) ∧ cN (upd (F 1) (n + 1) (F 1 (cN k) + 1) a) ≤ 20
          by_cases ha : a = n + 1
          · subst ha
            rw [pk_us, pk_us]
            by_cases hk0 : k = 0
            · subst hk0
              refine ⟨0, rfl, by omega, ?_⟩
              rw [pk_un (by omega), show cN 0 = 0 from rfl, g1]
              exact ⟨rfl, by decide⟩
            · obtain ⟨j, ek, hj1, hj2, en⟩ := is_of hn (by omega) (Classical.not_not.mp (fun q => hk ⟨hk0, q⟩))
              obtain ⟨r, -, -, hr1, hr2⟩ := g2 j hj1 hj2
              have en : cN k = j := en
              have hd := cN_pos (v := F 1 j) (by omega)
              have hd20 : cN (F 1 j) ≠ 20 := fun q => hm (Or.inr (by rw [en, hd, q]; rfl))
              have hs : cN (F 1 j + 1) = cN (F 1 j) + 1 := by
                rw [hd, nI_1, cN_I rfl (by omega), cN_I rfl (by omega)]
              refine ⟨j, ek, by omega, ?_⟩
              rw [pk_un (by omega), en, hs]
              exact ⟨rfl, by omega⟩
          · rw [pk_un ha, pk_un ha]
            obtain ⟨r, hr1, hr2, hr3⟩ := g2 a p (by omega)
            refine ⟨r, hr1, hr2, ?_⟩
            rw [pk_un (by omega)]
            exact hr3
        · by_cases ha : a = n + 1
          · subst ha
            exact ⟨0, h7 (n + 1) (by omega), by omega, fun t ht => absurd ht (Nat.not_lt_zero _)⟩
          · exact g3 a p (by omega)
      · show ∀ a, cN (I 1 + 1) < a → F 2 a = 0
        rw [hci]
        exact fun a ha => h7 a (by omega)
theorem wf_cancel (h : wf I F st) (k : Int32) : wf (sp_cancel k I F st).2.1 (sp_cancel k I F st).2.2.1 (sp_cancel k I F st).2.2.2 := by
  unfold sp_cancel
  split
  · exact h
  · rename_i hk
    split
    · exact h
    · rename_i hm
      obtain ⟨⟨n, hn, hN⟩, h2, h3, h4, h5, h6, h7, h8, h9, h10⟩ := h
      have hcn : cN (I 1) = n := cN_I hn (by omega)
      obtain ⟨j, ek, hj1, hj2, en⟩ := is_of hn (by omega) (Classical.not_not.mp hk)
      have en : cN k = j := en
      rw [hcn] at h6 h7
      rw [en] at hm ⊢
      obtain ⟨g0, g2, g3⟩ := h6
      refine ⟨⟨n, hn, hN⟩, h2, h3, h4, h5, ?_, ?_, h8, h9, h10⟩
      · show lv_wf2 _ (cN (I 1)) _
        rw [hcn]
        refine ⟨g0, g2, fun a p q => ?_⟩
        show ∃ z, upd (F 2) j (F 2 j - 1) a = nI z ∧ z ≤ 10 ∧ ∀ t, t < z → ∃ x, F 3 (10 * a + t) = nI x ∧ 1 ≤ x ∧ x ≤ cN (I 2)
        obtain ⟨z, hz1, hz2, hz3⟩ := g3 a p q
        by_cases ha : a = j
        · subst ha
          have hz0 : 1 ≤ z := by
            rcases Nat.eq_zero_or_pos z with q0 | q0
            · exact absurd (by rw [hz1, q0]; rfl) hm
            · exact q0
          rw [pk_us, hz1, show (1 : Int32) = nI 1 from rfl, pk_sub hz0]
          exact ⟨z - 1, rfl, by omega, fun t ht => hz3 t (by omega)⟩
        · rw [pk_un ha]
          exact ⟨z, hz1, hz2, hz3⟩
      · show ∀ a, cN (I 1) < a → upd (F 2) j (F 2 j - 1) a = 0
        rw [hcn]
        intro a ha
        rw [pk_un (by omega)]
        exact h7 a ha
theorem wf_exit (h : wf I F st) (k d z : Int32) (hz : z = 0 ∨ z = 1) : wf (sp_exit k d z I F st).2.1 (sp_exit k d z I F st).2.2.1 (sp_exit k d z I F st).2.2.2 := by
  unfold sp_exit
  split
  · exact h
  · rename_i hk
    split
    · exact h
    · split
      · exact h
      · rename_i _ hm
        obtain ⟨⟨n, hn, hN⟩, ⟨ne, hne, hNE⟩, h3, h4, h5, h6, h7, h8, h9, h10⟩ := h
        have hcn : cN (I 1) = n := cN_I hn (by omega)
        have hcne : cN (I 2) = ne := cN_I hne (by omega)
        obtain ⟨j, ek, hj1, hj2, en⟩ := is_of hn (by omega) (Classical.not_not.mp hk)
        have en : cN k = j := en
        have hi : I 2 + 1 = nI (ne + 1) := by rw [hne, nI_1]
        have hci : cN (I 2 + 1) = ne + 1 := cN_I hi (by omega)
        rw [hcn, hcne] at h6
        rw [hcn] at h7
        rw [hcne] at h8 h9
        rw [en] at hm ⊢
        obtain ⟨g0, g2, g3⟩ := h6
        obtain ⟨zc, hz1, hz2, hz3⟩ := g3 j hj1 hj2
        have hzc : cN (F 2 j) = zc := cN_I hz1 (by omega)
        have hz10 : zc < 10 := by
          rcases Nat.lt_or_ge zc 10 with q | q
          · exact q
          · exact absurd (Or.inl (by rw [hz1, show zc = 10 by omega]; rfl)) hm
        have hne1 : ne < 300 := by
          rcases Nat.lt_or_ge ne 300 with q | q
          · exact q
          · exact absurd (Or.inr (by rw [hne, show ne = 300 by omega]; rfl)) hm
        rw [hci, hzc]
        refine ⟨⟨n, hn, hN⟩, ⟨ne + 1, hi, by omega⟩, h3, h4, h5, ?_, ?_, ?_, ?_, h10⟩
        · show lv_wf2 _ (cN (I 1)) (cN (I 2 + 1))
          rw [hcn, hci]
          refine ⟨g0, g2, fun a p q => ?_⟩
          show ∃ y, upd (F 2) j (F 2 j + 1) a = nI y ∧ y ≤ 10 ∧ ∀ t, t < y → ∃ x, upd (F 3) (10 * j + zc) (I 2 + 1) (10 * a + t) = nI x ∧ 1 ≤ x ∧ x ≤ ne + 1
          by_cases ha : a = j
          · subst ha
            rw [pk_us, hz1, nI_1]
            refine ⟨zc + 1, rfl, by omega, fun t ht => ?_⟩
            by_cases htz : t = zc
            · subst htz
              rw [pk_us]
              exact ⟨ne + 1, hi, by omega, by omega⟩
            · rw [pk_un (by omega)]
              obtain ⟨x, hx1, hx2, hx3⟩ := hz3 t (by omega)
              exact ⟨x, hx1, hx2, by omega⟩
          · rw [pk_un ha]
            obtain ⟨y, hy1, hy2, hy3⟩ := g3 a p q
            refine ⟨y, hy1, hy2, fun t ht => ?_⟩
            rw [pk_un (by omega)]
            obtain ⟨x, hx1, hx2, hx3⟩ := hy3 t ht
            exact ⟨x, hx1, hx2, by omega⟩
        · show ∀ a, cN (I 1) < a → upd (F 2) j (F 2 j + 1) a = 0
          rw [hcn]
          intro a ha
          rw [pk_un (by omega)]
          exact h7 a ha
        · show ∀ e, 1 ≤ e → e ≤ cN (I 2 + 1) → (upd (F 6) (ne + 1) z e = 0 ∨ upd (F 6) (ne + 1) z e = 1) ∧ (F 7 e = 0 ∨ F 7 e = 1)
          rw [hci]
          intro e p q
          by_cases he : e = ne + 1
          · subst he
            rw [pk_us]
            exact ⟨hz, Or.inl (h9 (ne + 1) (by omega))⟩
          · rw [pk_un he]
            exact h8 e p (by omega)
        · show ∀ e, cN (I 2 + 1) < e → F 7 e = 0
          rw [hci]
          exact fun e he => h9 e (by omega)
theorem wf_abend (h : wf I F st) (k c : Int32) : wf (sp_abend k c I F st).2.1 (sp_abend k c I F st).2.2.1 (sp_abend k c I F st).2.2.2 := by
  unfold sp_abend
  split
  · exact h
  · rename_i hk
    split
    · exact h
    · rename_i hc
      obtain ⟨⟨n, hn, hN⟩, ⟨ne, hne, hNE⟩, h3, h4, h5, h6, h7, h8, h9, h10⟩ := h
      have hcn : cN (I 1) = n := cN_I hn (by omega)
      have hcne : cN (I 2) = ne := cN_I hne (by omega)
      obtain ⟨j, ek, hj1, hj2, en⟩ := is_of hn (by omega) (Classical.not_not.mp hk)
      obtain ⟨jc, ekc, hjc1, hjc2, enc⟩ := is_of (N := 9999) rfl (by omega) (Classical.not_not.mp hc)
      have en : cN k = j := en
      have enc : cN c = jc := enc
      rw [hcn, hcne] at h6
      rw [hcn] at h7
      rw [hcne] at h8 h9
      have hok := ab_ok h6 hN (by omega) hj1 hj2 hjc1 hjc2
      rw [en, enc]
      obtain ⟨e, na, F', cc, hq⟩ : ∃ (e : Int32) (na : Nat) (F' : sF) (cc : Nat), ab_u j 101 j 0 F jc = (e, na, F', cc) := ⟨_, _, _, _, rfl⟩
      rw [hq] at hok ⊢
      obtain ⟨hJ, hs, -, -, hna, -⟩ := hok
      have hJ : ab_J F F' := hJ
      have hs : ab_7 F F' ne := hs
      refine ⟨⟨n, hn, hN⟩, ⟨ne, hne, hNE⟩, h3, h4, ⟨na, rfl, hna⟩, ?_, ?_, ?_, ?_, h10⟩
      · show lv_wf2 _ (cN (I 1)) (cN (I 2))
        rw [hcn, hcne]
        obtain ⟨g0, g2, g3⟩ := lv_wfJ hJ h6
        refine ⟨g0, g2, fun a p q => ?_⟩
        show ∃ z, ab_z e F 101 j (F 2) a = nI z ∧ z ≤ 10 ∧ ∀ t, t < z → ∃ x, F' 3 (10 * a + t) = nI x ∧ 1 ≤ x ∧ x ≤ ne
        rcases ab_zv (en := e) (F := F) 101 j (F 2) a with r | r
        · rw [r, ← hJ 2 (by decide) (by decide)]
          exact g3 a p q
        · rw [r]
          exact ⟨0, rfl, by omega, fun t ht => absurd ht (Nat.not_lt_zero _)⟩
      · show ∀ a, cN (I 1) < a → ab_z e F 101 j (F 2) a = 0
        rw [hcn]
        intro a ha
        rcases ab_zv (en := e) (F := F) 101 j (F 2) a with r | r
        · rw [r]; exact h7 a ha
        · exact r
      · show ∀ x, 1 ≤ x → x ≤ cN (I 2) → (F' 6 x = 0 ∨ F' 6 x = 1) ∧ (F' 7 x = 0 ∨ F' 7 x = 1)
        rw [hcne, hJ 6 (by decide) (by decide)]
        intro x p q
        refine ⟨(h8 x p q).1, ?_⟩
        rcases hs x with r | r
        · rw [r]; exact (h8 x p q).2
        · exact Or.inr r.1
      · show ∀ x, cN (I 2) < x → F' 7 x = 0
        rw [hcne]
        intro x hx
        rcases hs x with r | r
        · rw [r]; exact h9 x hx
        · omega
theorem wf_guard (h : wf I F st) (t z : Int32) : wf (sp_guard t z I F st).2.1 (sp_guard t z I F st).2.2.1 (sp_guard t z I F st).2.2.2 := by
  unfold sp_guard
  split
  · exact h
  · split
    · exact h
    · rename_i _ hm
      obtain ⟨h1, h2, ⟨n, hn, hN⟩, h4, h5, h6, h7, h8, h9, h10⟩ := h
      have hn1 : n < 60 := by
        rcases Nat.lt_or_ge n 60 with q | q
        · exact q
        · exact absurd (by rw [hn, show n = 60 by omega]; rfl) hm
      exact ⟨h1, h2, ⟨n + 1, by show I 3 + 1 = _; rw [hn, nI_1], by omega⟩, h4, h5, h6, h7, h8, h9, h10⟩
theorem wf_write (h : wf I F st) (g i : Int32) : wf (sp_write g i I F st).2.1 (sp_write g i I F st).2.2.1 (sp_write g i I F st).2.2.2 := by
  unfold sp_write
  split
  · exact h
  · split
    · exact h
    · split <;> exact h
theorem wf_free (h : wf I F st) (g : Int32) : wf (sp_free g I F st).2.1 (sp_free g I F st).2.2.1 (sp_free g I F st).2.2.2 := by
  unfold sp_free
  split <;> exact h
theorem wf_suppress (h : wf I F st) (k z : Int32) : wf (sp_suppress k z I F st).2.1 (sp_suppress k z I F st).2.2.1 (sp_suppress k z I F st).2.2.2 := by
  unfold sp_suppress
  split <;> exact h
theorem wf_loop (h : wf I F st) (t : Int32) (w : Int64) : wf (sp_loop t w I F st).2.1 (sp_loop t w I F st).2.2.1 (sp_loop t w I F st).2.2.2 := by
  unfold sp_loop
  split
  · exact h
  · rename_i ht
    obtain ⟨h1, h2, h3, h4, h5, h6, h7, h8, h9, h10⟩ := h
    split
    · refine ⟨h1, h2, h3, h4, h5, h6, h7, h8, h9, fun i p q => ?_⟩
      show ∃ u, vp_updL st (cN t) 0 i = lN u ∧ u ≤ 1000
      by_cases hi : i = cN t
      · subst hi; rw [pk_uLs]; exact ⟨0, rfl, by decide⟩
      · rw [pk_uLn hi]; exact h10 i p q
    · rename_i hw
      refine ⟨h1, h2, h3, h4, h5, h6, h7, h8, h9, fun i p q => ?_⟩
      show ∃ u, vp_updL st (cN t) (st (cN t) + w) i = lN u ∧ u ≤ 1000
      by_cases hi : i = cN t
      · subst hi
        rw [pk_uLs]
        obtain ⟨u, hu1, hu2⟩ := h10 _ p q
        obtain ⟨v, hv, rfl⟩ := pk_lOf (fun r => ht (Or.inr r))
        rw [hu1, lN_add] at hw ⊢
        refine ⟨u + v, rfl, ?_⟩
        have hv2 : v ≤ 1000 := Nat.not_lt.mp (fun r => hw (Or.inl ((pk_lLT (a := 1000) (by decide) hv).mpr r)))
        exact Nat.not_lt.mp (fun r => hw (Or.inr ((pk_lLT (a := 1000) (by decide) (by omega)).mpr r)))
      · rw [pk_uLn hi]; exact h10 i p q
theorem wf_restart (h : wf I F st) (t k : Int32) : wf (sp_restart t k I F st).2.1 (sp_restart t k I F st).2.2.1 (sp_restart t k I F st).2.2.2 := by
  unfold sp_restart
  split
  · exact h
  · split
    · exact h
    · obtain ⟨h1, h2, h3, ⟨nd, hnd, hND⟩, h5, h6, h7, h8, h9, h10⟩ := h
      refine ⟨h1, h2, h3, ⟨rs_n I + 1, rfl, ?_⟩, h5, h6, h7, h8, h9, h10⟩
      unfold rs_n
      split
      · exact Nat.le_refl _
      · rename_i h4
        rw [cN_I hnd (by omega)]
        rcases Nat.lt_or_ge nd 50 with q | q
        · omega
        · exact absurd (by rw [hnd, show nd = 50 by omega]; rfl) h4
end WFK
theorem d_AR_init_0 : decode b_AR_init 0 = .ok (.aload_n 0, 1) := by decide +kernel
theorem d_AR_init_1 : decode b_AR_init 1 = .ok (.invokespecial 1, 3) := by decide +kernel
theorem d_AR_init_4 : decode b_AR_init 4 = .ok (.aload_n 0, 1) := by decide +kernel
theorem d_AR_init_5 : decode b_AR_init 5 = .ok (.bipush 100, 2) := by decide +kernel
theorem d_AR_init_7 : decode b_AR_init 7 = .ok (.anewarray 9, 3) := by decide +kernel
theorem d_AR_init_10 : decode b_AR_init 10 = .ok (.putfield 11, 3) := by decide +kernel
theorem d_AR_init_13 : decode b_AR_init 13 = .ok (.aload_n 0, 1) := by decide +kernel
theorem d_AR_init_14 : decode b_AR_init 14 = .ok (.new 15, 3) := by decide +kernel
theorem d_AR_init_17 : decode b_AR_init 17 = .ok (.dup, 1) := by decide +kernel
theorem d_AR_init_18 : decode b_AR_init 18 = .ok (.invokespecial 17, 3) := by decide +kernel
theorem d_AR_init_21 : decode b_AR_init 21 = .ok (.putfield 18, 3) := by decide +kernel
theorem d_AR_init_24 : decode b_AR_init 24 = .ok (.aload_n 0, 1) := by decide +kernel
theorem d_AR_init_25 : decode b_AR_init 25 = .ok (.bipush 60, 2) := by decide +kernel
theorem d_AR_init_27 : decode b_AR_init 27 = .ok (.anewarray 22, 3) := by decide +kernel
theorem d_AR_init_30 : decode b_AR_init 30 = .ok (.putfield 24, 3) := by decide +kernel
theorem d_AR_init_33 : decode b_AR_init 33 = .ok (.aload_n 0, 1) := by decide +kernel
theorem d_AR_init_34 : decode b_AR_init 34 = .ok (.bipush 41, 2) := by decide +kernel
theorem d_AR_init_36 : decode b_AR_init 36 = .ok (.newarray .int, 2) := by decide +kernel
theorem d_AR_init_38 : decode b_AR_init 38 = .ok (.putfield 28, 3) := by decide +kernel
theorem d_AR_init_41 : decode b_AR_init 41 = .ok (.aload_n 0, 1) := by decide +kernel
theorem d_AR_init_42 : decode b_AR_init 42 = .ok (.bipush 41, 2) := by decide +kernel
theorem d_AR_init_44 : decode b_AR_init 44 = .ok (.newarray .long, 2) := by decide +kernel
theorem d_AR_init_46 : decode b_AR_init 46 = .ok (.putfield 32, 3) := by decide +kernel
theorem d_AR_init_49 : decode b_AR_init 49 = .ok (.aload_n 0, 1) := by decide +kernel
theorem d_AR_init_50 : decode b_AR_init 50 = .ok (.new 36, 3) := by decide +kernel
theorem d_AR_init_53 : decode b_AR_init 53 = .ok (.dup, 1) := by decide +kernel
theorem d_AR_init_54 : decode b_AR_init 54 = .ok (.invokespecial 38, 3) := by decide +kernel
theorem d_AR_init_57 : decode b_AR_init 57 = .ok (.putfield 39, 3) := by decide +kernel
theorem d_AR_init_60 : decode b_AR_init 60 = .ok (.aload_n 0, 1) := by decide +kernel
theorem d_AR_init_61 : decode b_AR_init 61 = .ok (.new 43, 3) := by decide +kernel
theorem d_AR_init_64 : decode b_AR_init 64 = .ok (.dup, 1) := by decide +kernel
theorem d_AR_init_65 : decode b_AR_init 65 = .ok (.invokespecial 45, 3) := by decide +kernel
theorem d_AR_init_68 : decode b_AR_init 68 = .ok (.putfield 46, 3) := by decide +kernel
theorem d_AR_init_71 : decode b_AR_init 71 = .ok (.aload_n 0, 1) := by decide +kernel
theorem d_AR_init_72 : decode b_AR_init 72 = .ok (.new 50, 3) := by decide +kernel
theorem d_AR_init_75 : decode b_AR_init 75 = .ok (.dup, 1) := by decide +kernel
theorem d_AR_init_76 : decode b_AR_init 76 = .ok (.invokespecial 52, 3) := by decide +kernel
theorem d_AR_init_79 : decode b_AR_init 79 = .ok (.putfield 53, 3) := by decide +kernel
theorem d_AR_init_82 : decode b_AR_init 82 = .ok (.return_, 1) := by decide +kernel
set_option maxHeartbeats 4000000 in
set_option maxRecDepth 100000 in
theorem c_AR_init (l : Launch) (D : va_G) (dA : Nat → ClassId) (M : mm_M) (x : Nat) (hX : M x = some (.inr (0, [.null, .int 0, .int 0, .null, .null, .int 0, .null, .null, .null, .null, .null]))) : mm_Cv l y_AR_init w_AR_init ({ frames := 2, cells := 12, slots := 1169, locals := 41 }) 12 1169 D vC (tyL dA) [.ref x] M (fun M' => cP dA M' x (fun _ => 0) (fun _ _ => 0) (fun _ => 0) 0) := by
  intro sz
  refine mm_start (by decide) (Nat.le_of_ble_eq_true rfl) ?_
  intro p e s m below meth c A Q ls hA hQ S hr hlocks hin hK hw hl
  have hl : lv_has ls 1 [(0, .ref x)] := hl
  refine lv_aload_n S.1 S.2.1 d_AR_init_0 rfl (lv_at hl 0 rfl) ?_
  refine mm_obj S gw_24 gw_25 oi_c hl.1 d_AR_init_1 (by decide) (by decide) ?_
  refine lv_aload_n S.1 S.2.1 d_AR_init_4 rfl (lv_at hl 0 rfl) ?_
  refine lv_bipush (v := 100) S.1 S.2.1 d_AR_init_5 (by decide) ?_
  refine mm_newq (C := "AbendRows$Level") (N' := 100) S hK.1 hw 3 gw_27 hK.2.1.1 rfl (by decide) (by decide) (by decide) (Nat.le_of_ble_eq_true rfl) (Nat.le_of_ble_eq_true rfl) d_AR_init_7 (fun lv H hqlv hw => ?_)
  obtain ⟨M1, eM1⟩ : ∃ zM : mm_M, zM = mm_up M lv (.inl (dA 3, 100, .inr (.inr (.inr (.inr (fun _ => none)))))) := ⟨_, rfl⟩
  have hw : mm_w D vC _ _ (mm_up M lv (.inl (dA 3, 100, .inr (.inr (.inr (.inr (fun _ => none))))))) H _ := hw
  rw [← eM1] at hw
  have hX_1 : M1 x = some (.inr (0, [.null, .int 0, .int 0, .null, .null, .int 0, .null, .null, .null, .null, .null])) := by rw [eM1]; exact mm_fk hqlv hX
  have hlv_1 : M1 lv = some (.inl (dA 3, 100, .inr (.inr (.inr (.inr (fun _ => none)))))) := by rw [eM1]; exact mm_us
  refine mm_putF (C := R_AR) (T := T_AR) (N := 11) (ty := .array (.object "AbendRows$Level")) (v := .ref lv) S hK.1 hw hX_1 rfl in_AR t_AR k_AR n_AR 0 (by decide) gw_88 rfl rfl hin rfl (by decide +kernel) (rfl) (rfl) (Nat.le_of_ble_eq_true rfl) d_AR_init_10 (fun H locs hw => ?_)
  obtain ⟨M2, eM2⟩ : ∃ zM : mm_M, zM = mm_up M1 x (.inr (0, [.ref lv, .int 0, .int 0, .null, .null, .int 0, .null, .null, .null, .null, .null])) := ⟨_, rfl⟩
  have hw : mm_w D vC _ _ (mm_up M1 x (.inr (0, [.ref lv, .int 0, .int 0, .null, .null, .int 0, .null, .null, .null, .null, .null]))) H _ := hw
  rw [← eM2] at hw
  have hlv_2 : M2 lv = some (.inl (dA 3, 100, .inr (.inr (.inr (.inr (fun _ => none)))))) := by rw [eM2]; exact mm_uk hX_1 hlv_1 (by simp)
  have hX_2 : M2 x = some (.inr (0, [.ref lv, .int 0, .int 0, .null, .null, .int 0, .null, .null, .null, .null, .null])) := by rw [eM2]; exact mm_us
  refine lv_aload_n S.1 S.2.1 d_AR_init_13 rfl (lv_at hl 0 rfl) ?_
  refine mm_new (C := R_SE) (T := T_SE) (N := 3) (ci := 1) (fs := [.null, .int 0, .int 0]) S hK.1 hw rfl in_SE t_SE k_SE gw_29 gw_30 gw_9 (fun j hj => by rcases (show j = 0 ∨ j = 1 ∨ j = 2 by omega) with rfl | rfl | rfl <;> rfl) (Nat.le_of_ble_eq_true rfl) (Nat.le_of_ble_eq_true rfl) d_AR_init_14 (fun sr H hqsr hw => ?_)
  obtain ⟨M3, eM3⟩ : ∃ zM : mm_M, zM = mm_up M2 sr (.inr (1, [.null, .int 0, .int 0])) := ⟨_, rfl⟩
  have hw : mm_w D vC _ _ (mm_up M2 sr (.inr (1, [.null, .int 0, .int 0]))) H _ := hw
  rw [← eM3] at hw
  have hX_3 : M3 x = some (.inr (0, [.ref lv, .int 0, .int 0, .null, .null, .int 0, .null, .null, .null, .null, .null])) := by rw [eM3]; exact mm_fk hqsr hX_2
  have hlv_3 : M3 lv = some (.inl (dA 3, 100, .inr (.inr (.inr (.inr (fun _ => none)))))) := by rw [eM3]; exact mm_fk hqsr hlv_2
  have hsr_3 : M3 sr = some (.inr (1, [.null, .int 0, .int 0])) := by rw [eM3]; exact mm_us
  refine lv_dup S.1 S.2.1 d_AR_init_17 rfl ?_
  refine mm_callv hw (mm_runIN (a := sr) (As := []) (rest := [.ref sr, .ref x]) S hK hw (c_SE_init l D dA _ sr hsr_3 _) bi_SE_init hK.2.2.1 (⟨rfl, rfl, by decide, by decide, by decide, by decide⟩) hl.1 rfl rfl (Nat.le_of_ble_eq_true rfl) d_AR_init_18) (fun M5 H locs hp hw => ?_)
  obtain ⟨ak, hqak, hMak⟩ := hp
  have hX_6 : M5 x = some (.inr (0, [.ref lv, .int 0, .int 0, .null, .null, .int 0, .null, .null, .null, .null, .null])) := by rw [hMak]; exact mm_uk (mm_fk hqak hsr_3) (mm_fk hqak hX_3) (by simp)
  have hlv_6 : M5 lv = some (.inl (dA 3, 100, .inr (.inr (.inr (.inr (fun _ => none)))))) := by rw [hMak]; exact mm_uk (mm_fk hqak hsr_3) (mm_fk hqak hlv_3) (by simp)
  have hak_6 : M5 ak = some (.inl (dA 0, 200, .inl (fun _ => 0))) := by rw [hMak]; exact mm_uk (mm_fk hqak hsr_3) mm_us (by simp)
  have hsr_6 : M5 sr = some (.inr (1, [.ref ak, .int 0, .int 0])) := by rw [hMak]; exact mm_us
  refine mm_putF (C := R_AR) (T := T_AR) (N := 11) (ty := .object "AbendRows$Search") (v := .ref sr) S hK.1 hw hX_6 rfl in_AR t_AR k_AR n_AR 3 (by decide) gw_91 rfl rfl hin rfl (by decide +kernel) (rfl) (rfl) (Nat.le_of_ble_eq_true rfl) d_AR_init_21 (fun H locs hw => ?_)
  obtain ⟨M7, eM7⟩ : ∃ zM : mm_M, zM = mm_up M5 x (.inr (0, [.ref lv, .int 0, .int 0, .ref sr, .null, .int 0, .null, .null, .null, .null, .null])) := ⟨_, rfl⟩
  have hw : mm_w D vC _ _ (mm_up M5 x (.inr (0, [.ref lv, .int 0, .int 0, .ref sr, .null, .int 0, .null, .null, .null, .null, .null]))) H _ := hw
  rw [← eM7] at hw
  have hlv_7 : M7 lv = some (.inl (dA 3, 100, .inr (.inr (.inr (.inr (fun _ => none)))))) := by rw [eM7]; exact mm_uk hX_6 hlv_6 (by simp)
  have hsr_7 : M7 sr = some (.inr (1, [.ref ak, .int 0, .int 0])) := by rw [eM7]; exact mm_uk hX_6 hsr_6 (by simp)
  have hak_7 : M7 ak = some (.inl (dA 0, 200, .inl (fun _ => 0))) := by rw [eM7]; exact mm_uk hX_6 hak_6 (by simp)
  have hX_7 : M7 x = some (.inr (0, [.ref lv, .int 0, .int 0, .ref sr, .null, .int 0, .null, .null, .null, .null, .null])) := by rw [eM7]; exact mm_us
  refine lv_aload_n S.1 S.2.1 d_AR_init_24 rfl (lv_at hl 0 rfl) ?_
  refine lv_bipush (v := 60) S.1 S.2.1 d_AR_init_25 (by decide) ?_
  refine mm_newq (C := "AbendRows$Guard") (N' := 60) S hK.1 hw 4 gw_47 hK.2.1.2.1 rfl (by decide) (by decide) (by decide) (Nat.le_of_ble_eq_true rfl) (Nat.le_of_ble_eq_true rfl) d_AR_init_27 (fun gd H hqgd hw => ?_)
  obtain ⟨M8, eM8⟩ : ∃ zM : mm_M, zM = mm_up M7 gd (.inl (dA 4, 60, .inr (.inr (.inr (.inr (fun _ => none)))))) := ⟨_, rfl⟩
  have hw : mm_w D vC _ _ (mm_up M7 gd (.inl (dA 4, 60, .inr (.inr (.inr (.inr (fun _ => none))))))) H _ := hw
  rw [← eM8] at hw
  have hX_8 : M8 x = some (.inr (0, [.ref lv, .int 0, .int 0, .ref sr, .null, .int 0, .null, .null, .null, .null, .null])) := by rw [eM8]; exact mm_fk hqgd hX_7
  have hlv_8 : M8 lv = some (.inl (dA 3, 100, .inr (.inr (.inr (.inr (fun _ => none)))))) := by rw [eM8]; exact mm_fk hqgd hlv_7
  have hsr_8 : M8 sr = some (.inr (1, [.ref ak, .int 0, .int 0])) := by rw [eM8]; exact mm_fk hqgd hsr_7
  have hak_8 : M8 ak = some (.inl (dA 0, 200, .inl (fun _ => 0))) := by rw [eM8]; exact mm_fk hqgd hak_7
  have hgd_8 : M8 gd = some (.inl (dA 4, 60, .inr (.inr (.inr (.inr (fun _ => none)))))) := by rw [eM8]; exact mm_us
  refine mm_putF (C := R_AR) (T := T_AR) (N := 11) (ty := .array (.object "AbendRows$Guard")) (v := .ref gd) S hK.1 hw hX_8 rfl in_AR t_AR k_AR n_AR 4 (by decide) gw_92 rfl rfl hin rfl (by decide +kernel) (rfl) (rfl) (Nat.le_of_ble_eq_true rfl) d_AR_init_30 (fun H locs hw => ?_)
  obtain ⟨M9, eM9⟩ : ∃ zM : mm_M, zM = mm_up M8 x (.inr (0, [.ref lv, .int 0, .int 0, .ref sr, .ref gd, .int 0, .null, .null, .null, .null, .null])) := ⟨_, rfl⟩
  have hw : mm_w D vC _ _ (mm_up M8 x (.inr (0, [.ref lv, .int 0, .int 0, .ref sr, .ref gd, .int 0, .null, .null, .null, .null, .null]))) H _ := hw
  rw [← eM9] at hw
  have hlv_9 : M9 lv = some (.inl (dA 3, 100, .inr (.inr (.inr (.inr (fun _ => none)))))) := by rw [eM9]; exact mm_uk hX_8 hlv_8 (by simp)
  have hsr_9 : M9 sr = some (.inr (1, [.ref ak, .int 0, .int 0])) := by rw [eM9]; exact mm_uk hX_8 hsr_8 (by simp)
  have hak_9 : M9 ak = some (.inl (dA 0, 200, .inl (fun _ => 0))) := by rw [eM9]; exact mm_uk hX_8 hak_8 (by simp)
  have hgd_9 : M9 gd = some (.inl (dA 4, 60, .inr (.inr (.inr (.inr (fun _ => none)))))) := by rw [eM9]; exact mm_uk hX_8 hgd_8 (by simp)
  have hX_9 : M9 x = some (.inr (0, [.ref lv, .int 0, .int 0, .ref sr, .ref gd, .int 0, .null, .null, .null, .null, .null])) := by rw [eM9]; exact mm_us
  refine lv_aload_n S.1 S.2.1 d_AR_init_33 rfl (lv_at hl 0 rfl) ?_
  refine lv_bipush (v := 41) S.1 S.2.1 d_AR_init_34 (by decide) ?_
  refine mm_newa (atype := .int) (ty := .int) (N' := 41) (a0 := (41, .inl (fun _ => 0))) S hK.1 hw 0 gw_46 rfl rfl ((hK.1.2 0 _ rfl).2) (fun _ => rfl) (by decide) (by decide) (by decide) (Nat.le_of_ble_eq_true rfl) (Nat.le_of_ble_eq_true rfl) (fun _ h => by cases h) d_AR_init_36 (fun rs H hqrs hw => ?_)
  obtain ⟨M10, eM10⟩ : ∃ zM : mm_M, zM = mm_up M9 rs (.inl (dA 0, 41, .inl (fun _ => 0))) := ⟨_, rfl⟩
  have hw : mm_w D vC _ _ (mm_up M9 rs (.inl (dA 0, 41, .inl (fun _ => 0)))) H _ := hw
  rw [← eM10] at hw
  have hX_10 : M10 x = some (.inr (0, [.ref lv, .int 0, .int 0, .ref sr, .ref gd, .int 0, .null, .null, .null, .null, .null])) := by rw [eM10]; exact mm_fk hqrs hX_9
  have hlv_10 : M10 lv = some (.inl (dA 3, 100, .inr (.inr (.inr (.inr (fun _ => none)))))) := by rw [eM10]; exact mm_fk hqrs hlv_9
  have hsr_10 : M10 sr = some (.inr (1, [.ref ak, .int 0, .int 0])) := by rw [eM10]; exact mm_fk hqrs hsr_9
  have hak_10 : M10 ak = some (.inl (dA 0, 200, .inl (fun _ => 0))) := by rw [eM10]; exact mm_fk hqrs hak_9
  have hgd_10 : M10 gd = some (.inl (dA 4, 60, .inr (.inr (.inr (.inr (fun _ => none)))))) := by rw [eM10]; exact mm_fk hqrs hgd_9
  have hrs_10 : M10 rs = some (.inl (dA 0, 41, .inl (fun _ => 0))) := by rw [eM10]; exact mm_us
  refine mm_putF (C := R_AR) (T := T_AR) (N := 11) (ty := .array .int) (v := .ref rs) S hK.1 hw hX_10 rfl in_AR t_AR k_AR n_AR 6 (by decide) gw_94 rfl rfl hin rfl (by decide +kernel) (rfl) (rfl) (Nat.le_of_ble_eq_true rfl) d_AR_init_38 (fun H locs hw => ?_)
  obtain ⟨M11, eM11⟩ : ∃ zM : mm_M, zM = mm_up M10 x (.inr (0, [.ref lv, .int 0, .int 0, .ref sr, .ref gd, .int 0, .ref rs, .null, .null, .null, .null])) := ⟨_, rfl⟩
  have hw : mm_w D vC _ _ (mm_up M10 x (.inr (0, [.ref lv, .int 0, .int 0, .ref sr, .ref gd, .int 0, .ref rs, .null, .null, .null, .null]))) H _ := hw
  rw [← eM11] at hw
  have hlv_11 : M11 lv = some (.inl (dA 3, 100, .inr (.inr (.inr (.inr (fun _ => none)))))) := by rw [eM11]; exact mm_uk hX_10 hlv_10 (by simp)
  have hsr_11 : M11 sr = some (.inr (1, [.ref ak, .int 0, .int 0])) := by rw [eM11]; exact mm_uk hX_10 hsr_10 (by simp)
  have hak_11 : M11 ak = some (.inl (dA 0, 200, .inl (fun _ => 0))) := by rw [eM11]; exact mm_uk hX_10 hak_10 (by simp)
  have hgd_11 : M11 gd = some (.inl (dA 4, 60, .inr (.inr (.inr (.inr (fun _ => none)))))) := by rw [eM11]; exact mm_uk hX_10 hgd_10 (by simp)
  have hrs_11 : M11 rs = some (.inl (dA 0, 41, .inl (fun _ => 0))) := by rw [eM11]; exact mm_uk hX_10 hrs_10 (by simp)
  have hX_11 : M11 x = some (.inr (0, [.ref lv, .int 0, .int 0, .ref sr, .ref gd, .int 0, .ref rs, .null, .null, .null, .null])) := by rw [eM11]; exact mm_us
  refine lv_aload_n S.1 S.2.1 d_AR_init_41 rfl (lv_at hl 0 rfl) ?_
  refine lv_bipush (v := 41) S.1 S.2.1 d_AR_init_42 (by decide) ?_
  refine mm_newa (atype := .long) (ty := .long) (N' := 41) (a0 := (41, .inr (.inl (fun _ => 0)))) S hK.1 hw 1 gw_64 rfl rfl ((hK.1.2 1 _ rfl).2) (fun _ => rfl) (by decide) (by decide) (by decide) (Nat.le_of_ble_eq_true rfl) (Nat.le_of_ble_eq_true rfl) (fun _ h => by cases h) d_AR_init_44 (fun ss H hqss hw => ?_)
  obtain ⟨M12, eM12⟩ : ∃ zM : mm_M, zM = mm_up M11 ss (.inl (dA 1, 41, .inr (.inl (fun _ => 0)))) := ⟨_, rfl⟩
  have hw : mm_w D vC _ _ (mm_up M11 ss (.inl (dA 1, 41, .inr (.inl (fun _ => 0))))) H _ := hw
  rw [← eM12] at hw
  have hX_12 : M12 x = some (.inr (0, [.ref lv, .int 0, .int 0, .ref sr, .ref gd, .int 0, .ref rs, .null, .null, .null, .null])) := by rw [eM12]; exact mm_fk hqss hX_11
  have hlv_12 : M12 lv = some (.inl (dA 3, 100, .inr (.inr (.inr (.inr (fun _ => none)))))) := by rw [eM12]; exact mm_fk hqss hlv_11
  have hsr_12 : M12 sr = some (.inr (1, [.ref ak, .int 0, .int 0])) := by rw [eM12]; exact mm_fk hqss hsr_11
  have hak_12 : M12 ak = some (.inl (dA 0, 200, .inl (fun _ => 0))) := by rw [eM12]; exact mm_fk hqss hak_11
  have hgd_12 : M12 gd = some (.inl (dA 4, 60, .inr (.inr (.inr (.inr (fun _ => none)))))) := by rw [eM12]; exact mm_fk hqss hgd_11
  have hrs_12 : M12 rs = some (.inl (dA 0, 41, .inl (fun _ => 0))) := by rw [eM12]; exact mm_fk hqss hrs_11
  have hss_12 : M12 ss = some (.inl (dA 1, 41, .inr (.inl (fun _ => 0)))) := by rw [eM12]; exact mm_us
  refine mm_putF (C := R_AR) (T := T_AR) (N := 11) (ty := .array .long) (v := .ref ss) S hK.1 hw hX_12 rfl in_AR t_AR k_AR n_AR 7 (by decide) gw_95 rfl rfl hin rfl (by decide +kernel) (rfl) (rfl) (Nat.le_of_ble_eq_true rfl) d_AR_init_46 (fun H locs hw => ?_)
  obtain ⟨M13, eM13⟩ : ∃ zM : mm_M, zM = mm_up M12 x (.inr (0, [.ref lv, .int 0, .int 0, .ref sr, .ref gd, .int 0, .ref rs, .ref ss, .null, .null, .null])) := ⟨_, rfl⟩
  have hw : mm_w D vC _ _ (mm_up M12 x (.inr (0, [.ref lv, .int 0, .int 0, .ref sr, .ref gd, .int 0, .ref rs, .ref ss, .null, .null, .null]))) H _ := hw
  rw [← eM13] at hw
  have hlv_13 : M13 lv = some (.inl (dA 3, 100, .inr (.inr (.inr (.inr (fun _ => none)))))) := by rw [eM13]; exact mm_uk hX_12 hlv_12 (by simp)
  have hsr_13 : M13 sr = some (.inr (1, [.ref ak, .int 0, .int 0])) := by rw [eM13]; exact mm_uk hX_12 hsr_12 (by simp)
  have hak_13 : M13 ak = some (.inl (dA 0, 200, .inl (fun _ => 0))) := by rw [eM13]; exact mm_uk hX_12 hak_12 (by simp)
  have hgd_13 : M13 gd = some (.inl (dA 4, 60, .inr (.inr (.inr (.inr (fun _ => none)))))) := by rw [eM13]; exact mm_uk hX_12 hgd_12 (by simp)
  have hrs_13 : M13 rs = some (.inl (dA 0, 41, .inl (fun _ => 0))) := by rw [eM13]; exact mm_uk hX_12 hrs_12 (by simp)
  have hss_13 : M13 ss = some (.inl (dA 1, 41, .inr (.inl (fun _ => 0)))) := by rw [eM13]; exact mm_uk hX_12 hss_12 (by simp)
  have hX_13 : M13 x = some (.inr (0, [.ref lv, .int 0, .int 0, .ref sr, .ref gd, .int 0, .ref rs, .ref ss, .null, .null, .null])) := by rw [eM13]; exact mm_us
  refine lv_aload_n S.1 S.2.1 d_AR_init_49 rfl (lv_at hl 0 rfl) ?_
  refine mm_new (C := R_DR) (T := T_DR) (N := 2) (ci := 2) (fs := [.null, .int 0]) S hK.1 hw rfl in_DR t_DR k_DR gw_49 gw_50 gw_10 (fun j hj => by rcases (show j = 0 ∨ j = 1 by omega) with rfl | rfl <;> rfl) (Nat.le_of_ble_eq_true rfl) (Nat.le_of_ble_eq_true rfl) d_AR_init_50 (fun dr H hqdr hw => ?_)
  obtain ⟨M14, eM14⟩ : ∃ zM : mm_M, zM = mm_up M13 dr (.inr (2, [.null, .int 0])) := ⟨_, rfl⟩
  have hw : mm_w D vC _ _ (mm_up M13 dr (.inr (2, [.null, .int 0]))) H _ := hw
  rw [← eM14] at hw
  have hX_14 : M14 x = some (.inr (0, [.ref lv, .int 0, .int 0, .ref sr, .ref gd, .int 0, .ref rs, .ref ss, .null, .null, .null])) := by rw [eM14]; exact mm_fk hqdr hX_13
  have hlv_14 : M14 lv = some (.inl (dA 3, 100, .inr (.inr (.inr (.inr (fun _ => none)))))) := by rw [eM14]; exact mm_fk hqdr hlv_13
  have hsr_14 : M14 sr = some (.inr (1, [.ref ak, .int 0, .int 0])) := by rw [eM14]; exact mm_fk hqdr hsr_13
  have hak_14 : M14 ak = some (.inl (dA 0, 200, .inl (fun _ => 0))) := by rw [eM14]; exact mm_fk hqdr hak_13
  have hgd_14 : M14 gd = some (.inl (dA 4, 60, .inr (.inr (.inr (.inr (fun _ => none)))))) := by rw [eM14]; exact mm_fk hqdr hgd_13
  have hrs_14 : M14 rs = some (.inl (dA 0, 41, .inl (fun _ => 0))) := by rw [eM14]; exact mm_fk hqdr hrs_13
  have hss_14 : M14 ss = some (.inl (dA 1, 41, .inr (.inl (fun _ => 0)))) := by rw [eM14]; exact mm_fk hqdr hss_13
  have hdr_14 : M14 dr = some (.inr (2, [.null, .int 0])) := by rw [eM14]; exact mm_us
  refine lv_dup S.1 S.2.1 d_AR_init_53 rfl ?_
  refine mm_callv hw (mm_runIN (a := dr) (As := []) (rest := [.ref dr, .ref x]) S hK hw (c_DR_init l D dA _ dr hdr_14 _) bi_DR_init hK.2.2.2.1 (⟨rfl, rfl, by decide, by decide, by decide, by decide⟩) hl.1 rfl rfl (Nat.le_of_ble_eq_true rfl) d_AR_init_54) (fun M16 H locs hp hw => ?_)
  obtain ⟨rg, hqrg, hMrg⟩ := hp
  have hX_17 : M16 x = some (.inr (0, [.ref lv, .int 0, .int 0, .ref sr, .ref gd, .int 0, .ref rs, .ref ss, .null, .null, .null])) := by rw [hMrg]; exact mm_uk (mm_fk hqrg hdr_14) (mm_fk hqrg hX_14) (by simp)
  have hlv_17 : M16 lv = some (.inl (dA 3, 100, .inr (.inr (.inr (.inr (fun _ => none)))))) := by rw [hMrg]; exact mm_uk (mm_fk hqrg hdr_14) (mm_fk hqrg hlv_14) (by simp)
  have hsr_17 : M16 sr = some (.inr (1, [.ref ak, .int 0, .int 0])) := by rw [hMrg]; exact mm_uk (mm_fk hqrg hdr_14) (mm_fk hqrg hsr_14) (by simp)
  have hak_17 : M16 ak = some (.inl (dA 0, 200, .inl (fun _ => 0))) := by rw [hMrg]; exact mm_uk (mm_fk hqrg hdr_14) (mm_fk hqrg hak_14) (by simp)
  have hgd_17 : M16 gd = some (.inl (dA 4, 60, .inr (.inr (.inr (.inr (fun _ => none)))))) := by rw [hMrg]; exact mm_uk (mm_fk hqrg hdr_14) (mm_fk hqrg hgd_14) (by simp)
  have hrs_17 : M16 rs = some (.inl (dA 0, 41, .inl (fun _ => 0))) := by rw [hMrg]; exact mm_uk (mm_fk hqrg hdr_14) (mm_fk hqrg hrs_14) (by simp)
  have hss_17 : M16 ss = some (.inl (dA 1, 41, .inr (.inl (fun _ => 0)))) := by rw [hMrg]; exact mm_uk (mm_fk hqrg hdr_14) (mm_fk hqrg hss_14) (by simp)
  have hrg_17 : M16 rg = some (.inl (dA 5, 50, .inr (.inr (.inr (.inr (fun _ => none)))))) := by rw [hMrg]; exact mm_uk (mm_fk hqrg hdr_14) mm_us (by simp)
  have hdr_17 : M16 dr = some (.inr (2, [.ref rg, .int 0])) := by rw [hMrg]; exact mm_us
  refine mm_putF (C := R_AR) (T := T_AR) (N := 11) (ty := .object "AbendRows$DumpRow") (v := .ref dr) S hK.1 hw hX_17 rfl in_AR t_AR k_AR n_AR 8 (by decide) gw_96 rfl rfl hin rfl (by decide +kernel) (rfl) (rfl) (Nat.le_of_ble_eq_true rfl) d_AR_init_57 (fun H locs hw => ?_)
  obtain ⟨M18, eM18⟩ : ∃ zM : mm_M, zM = mm_up M16 x (.inr (0, [.ref lv, .int 0, .int 0, .ref sr, .ref gd, .int 0, .ref rs, .ref ss, .ref dr, .null, .null])) := ⟨_, rfl⟩
  have hw : mm_w D vC _ _ (mm_up M16 x (.inr (0, [.ref lv, .int 0, .int 0, .ref sr, .ref gd, .int 0, .ref rs, .ref ss, .ref dr, .null, .null]))) H _ := hw
  rw [← eM18] at hw
  have hlv_18 : M18 lv = some (.inl (dA 3, 100, .inr (.inr (.inr (.inr (fun _ => none)))))) := by rw [eM18]; exact mm_uk hX_17 hlv_17 (by simp)
  have hsr_18 : M18 sr = some (.inr (1, [.ref ak, .int 0, .int 0])) := by rw [eM18]; exact mm_uk hX_17 hsr_17 (by simp)
  have hak_18 : M18 ak = some (.inl (dA 0, 200, .inl (fun _ => 0))) := by rw [eM18]; exact mm_uk hX_17 hak_17 (by simp)
  have hgd_18 : M18 gd = some (.inl (dA 4, 60, .inr (.inr (.inr (.inr (fun _ => none)))))) := by rw [eM18]; exact mm_uk hX_17 hgd_17 (by simp)
  have hrs_18 : M18 rs = some (.inl (dA 0, 41, .inl (fun _ => 0))) := by rw [eM18]; exact mm_uk hX_17 hrs_17 (by simp)
  have hss_18 : M18 ss = some (.inl (dA 1, 41, .inr (.inl (fun _ => 0)))) := by rw [eM18]; exact mm_uk hX_17 hss_17 (by simp)
  have hdr_18 : M18 dr = some (.inr (2, [.ref rg, .int 0])) := by rw [eM18]; exact mm_uk hX_17 hdr_17 (by simp)
  have hrg_18 : M18 rg = some (.inl (dA 5, 50, .inr (.inr (.inr (.inr (fun _ => none)))))) := by rw [eM18]; exact mm_uk hX_17 hrg_17 (by simp)
  have hX_18 : M18 x = some (.inr (0, [.ref lv, .int 0, .int 0, .ref sr, .ref gd, .int 0, .ref rs, .ref ss, .ref dr, .null, .null])) := by rw [eM18]; exact mm_us
  refine lv_aload_n S.1 S.2.1 d_AR_init_60 rfl (lv_at hl 0 rfl) ?_
  refine mm_new (C := R_CS) (T := T_CS) (N := 1) (ci := 3) (fs := [.null]) S hK.1 hw rfl in_CS t_CS k_CS gw_65 gw_66 gw_11 (fun j hj => by rcases (show j = 0 by omega) with rfl <;> rfl) (Nat.le_of_ble_eq_true rfl) (Nat.le_of_ble_eq_true rfl) d_AR_init_61 (fun cs H hqcs hw => ?_)
  obtain ⟨M19, eM19⟩ : ∃ zM : mm_M, zM = mm_up M18 cs (.inr (3, [.null])) := ⟨_, rfl⟩
  have hw : mm_w D vC _ _ (mm_up M18 cs (.inr (3, [.null]))) H _ := hw
  rw [← eM19] at hw
  have hX_19 : M19 x = some (.inr (0, [.ref lv, .int 0, .int 0, .ref sr, .ref gd, .int 0, .ref rs, .ref ss, .ref dr, .null, .null])) := by rw [eM19]; exact mm_fk hqcs hX_18
  have hlv_19 : M19 lv = some (.inl (dA 3, 100, .inr (.inr (.inr (.inr (fun _ => none)))))) := by rw [eM19]; exact mm_fk hqcs hlv_18
  have hsr_19 : M19 sr = some (.inr (1, [.ref ak, .int 0, .int 0])) := by rw [eM19]; exact mm_fk hqcs hsr_18
  have hak_19 : M19 ak = some (.inl (dA 0, 200, .inl (fun _ => 0))) := by rw [eM19]; exact mm_fk hqcs hak_18
  have hgd_19 : M19 gd = some (.inl (dA 4, 60, .inr (.inr (.inr (.inr (fun _ => none)))))) := by rw [eM19]; exact mm_fk hqcs hgd_18
  have hrs_19 : M19 rs = some (.inl (dA 0, 41, .inl (fun _ => 0))) := by rw [eM19]; exact mm_fk hqcs hrs_18
  have hss_19 : M19 ss = some (.inl (dA 1, 41, .inr (.inl (fun _ => 0)))) := by rw [eM19]; exact mm_fk hqcs hss_18
  have hdr_19 : M19 dr = some (.inr (2, [.ref rg, .int 0])) := by rw [eM19]; exact mm_fk hqcs hdr_18
  have hrg_19 : M19 rg = some (.inl (dA 5, 50, .inr (.inr (.inr (.inr (fun _ => none)))))) := by rw [eM19]; exact mm_fk hqcs hrg_18
  have hcs_19 : M19 cs = some (.inr (3, [.null])) := by rw [eM19]; exact mm_us
  refine lv_dup S.1 S.2.1 d_AR_init_64 rfl ?_
  refine mm_callv hw (mm_runIN (a := cs) (As := []) (rest := [.ref cs, .ref x]) S hK hw (c_CS_init l D dA _ cs hcs_19 _) bi_CS_init hK.2.2.2.2.1 (⟨rfl, rfl, by decide, by decide, by decide, by decide⟩) hl.1 rfl rfl (Nat.le_of_ble_eq_true rfl) d_AR_init_65) (fun M21 H locs hp hw => ?_)
  obtain ⟨wd, hqwd, hMwd⟩ := hp
  have hX_22 : M21 x = some (.inr (0, [.ref lv, .int 0, .int 0, .ref sr, .ref gd, .int 0, .ref rs, .ref ss, .ref dr, .null, .null])) := by rw [hMwd]; exact mm_uk (mm_fk hqwd hcs_19) (mm_fk hqwd hX_19) (by simp)
  have hlv_22 : M21 lv = some (.inl (dA 3, 100, .inr (.inr (.inr (.inr (fun _ => none)))))) := by rw [hMwd]; exact mm_uk (mm_fk hqwd hcs_19) (mm_fk hqwd hlv_19) (by simp)
  have hsr_22 : M21 sr = some (.inr (1, [.ref ak, .int 0, .int 0])) := by rw [hMwd]; exact mm_uk (mm_fk hqwd hcs_19) (mm_fk hqwd hsr_19) (by simp)
  have hak_22 : M21 ak = some (.inl (dA 0, 200, .inl (fun _ => 0))) := by rw [hMwd]; exact mm_uk (mm_fk hqwd hcs_19) (mm_fk hqwd hak_19) (by simp)
  have hgd_22 : M21 gd = some (.inl (dA 4, 60, .inr (.inr (.inr (.inr (fun _ => none)))))) := by rw [hMwd]; exact mm_uk (mm_fk hqwd hcs_19) (mm_fk hqwd hgd_19) (by simp)
  have hrs_22 : M21 rs = some (.inl (dA 0, 41, .inl (fun _ => 0))) := by rw [hMwd]; exact mm_uk (mm_fk hqwd hcs_19) (mm_fk hqwd hrs_19) (by simp)
  have hss_22 : M21 ss = some (.inl (dA 1, 41, .inr (.inl (fun _ => 0)))) := by rw [hMwd]; exact mm_uk (mm_fk hqwd hcs_19) (mm_fk hqwd hss_19) (by simp)
  have hdr_22 : M21 dr = some (.inr (2, [.ref rg, .int 0])) := by rw [hMwd]; exact mm_uk (mm_fk hqwd hcs_19) (mm_fk hqwd hdr_19) (by simp)
  have hrg_22 : M21 rg = some (.inl (dA 5, 50, .inr (.inr (.inr (.inr (fun _ => none)))))) := by rw [hMwd]; exact mm_uk (mm_fk hqwd hcs_19) (mm_fk hqwd hrg_19) (by simp)
  have hwd_22 : M21 wd = some (.inl (dA 1, 157, .inr (.inl (fun _ => 0)))) := by rw [hMwd]; exact mm_uk (mm_fk hqwd hcs_19) mm_us (by simp)
  have hcs_22 : M21 cs = some (.inr (3, [.ref wd])) := by rw [hMwd]; exact mm_us
  refine mm_putF (C := R_AR) (T := T_AR) (N := 11) (ty := .object "AbendRows$CodeSet") (v := .ref cs) S hK.1 hw hX_22 rfl in_AR t_AR k_AR n_AR 9 (by decide) gw_97 rfl rfl hin rfl (by decide +kernel) (rfl) (rfl) (Nat.le_of_ble_eq_true rfl) d_AR_init_68 (fun H locs hw => ?_)
  obtain ⟨M23, eM23⟩ : ∃ zM : mm_M, zM = mm_up M21 x (.inr (0, [.ref lv, .int 0, .int 0, .ref sr, .ref gd, .int 0, .ref rs, .ref ss, .ref dr, .ref cs, .null])) := ⟨_, rfl⟩
  have hw : mm_w D vC _ _ (mm_up M21 x (.inr (0, [.ref lv, .int 0, .int 0, .ref sr, .ref gd, .int 0, .ref rs, .ref ss, .ref dr, .ref cs, .null]))) H _ := hw
  rw [← eM23] at hw
  have hlv_23 : M23 lv = some (.inl (dA 3, 100, .inr (.inr (.inr (.inr (fun _ => none)))))) := by rw [eM23]; exact mm_uk hX_22 hlv_22 (by simp)
  have hsr_23 : M23 sr = some (.inr (1, [.ref ak, .int 0, .int 0])) := by rw [eM23]; exact mm_uk hX_22 hsr_22 (by simp)
  have hak_23 : M23 ak = some (.inl (dA 0, 200, .inl (fun _ => 0))) := by rw [eM23]; exact mm_uk hX_22 hak_22 (by simp)
  have hgd_23 : M23 gd = some (.inl (dA 4, 60, .inr (.inr (.inr (.inr (fun _ => none)))))) := by rw [eM23]; exact mm_uk hX_22 hgd_22 (by simp)
  have hrs_23 : M23 rs = some (.inl (dA 0, 41, .inl (fun _ => 0))) := by rw [eM23]; exact mm_uk hX_22 hrs_22 (by simp)
  have hss_23 : M23 ss = some (.inl (dA 1, 41, .inr (.inl (fun _ => 0)))) := by rw [eM23]; exact mm_uk hX_22 hss_22 (by simp)
  have hdr_23 : M23 dr = some (.inr (2, [.ref rg, .int 0])) := by rw [eM23]; exact mm_uk hX_22 hdr_22 (by simp)
  have hrg_23 : M23 rg = some (.inl (dA 5, 50, .inr (.inr (.inr (.inr (fun _ => none)))))) := by rw [eM23]; exact mm_uk hX_22 hrg_22 (by simp)
  have hcs_23 : M23 cs = some (.inr (3, [.ref wd])) := by rw [eM23]; exact mm_uk hX_22 hcs_22 (by simp)
  have hwd_23 : M23 wd = some (.inl (dA 1, 157, .inr (.inl (fun _ => 0)))) := by rw [eM23]; exact mm_uk hX_22 hwd_22 (by simp)
  have hX_23 : M23 x = some (.inr (0, [.ref lv, .int 0, .int 0, .ref sr, .ref gd, .int 0, .ref rs, .ref ss, .ref dr, .ref cs, .null])) := by rw [eM23]; exact mm_us
  refine lv_aload_n S.1 S.2.1 d_AR_init_71 rfl (lv_at hl 0 rfl) ?_
  refine mm_new (C := R_CG) (T := T_CG) (N := 2) (ci := 4) (fs := [.null, .int 0]) S hK.1 hw rfl in_CG t_CG k_CG gw_75 gw_76 gw_12 (fun j hj => by rcases (show j = 0 ∨ j = 1 by omega) with rfl | rfl <;> rfl) (Nat.le_of_ble_eq_true rfl) (Nat.le_of_ble_eq_true rfl) d_AR_init_72 (fun cg H hqcg hw => ?_)
  obtain ⟨M24, eM24⟩ : ∃ zM : mm_M, zM = mm_up M23 cg (.inr (4, [.null, .int 0])) := ⟨_, rfl⟩
  have hw : mm_w D vC _ _ (mm_up M23 cg (.inr (4, [.null, .int 0]))) H _ := hw
  rw [← eM24] at hw
  have hX_24 : M24 x = some (.inr (0, [.ref lv, .int 0, .int 0, .ref sr, .ref gd, .int 0, .ref rs, .ref ss, .ref dr, .ref cs, .null])) := by rw [eM24]; exact mm_fk hqcg hX_23
  have hlv_24 : M24 lv = some (.inl (dA 3, 100, .inr (.inr (.inr (.inr (fun _ => none)))))) := by rw [eM24]; exact mm_fk hqcg hlv_23
  have hsr_24 : M24 sr = some (.inr (1, [.ref ak, .int 0, .int 0])) := by rw [eM24]; exact mm_fk hqcg hsr_23
  have hak_24 : M24 ak = some (.inl (dA 0, 200, .inl (fun _ => 0))) := by rw [eM24]; exact mm_fk hqcg hak_23
  have hgd_24 : M24 gd = some (.inl (dA 4, 60, .inr (.inr (.inr (.inr (fun _ => none)))))) := by rw [eM24]; exact mm_fk hqcg hgd_23
  have hrs_24 : M24 rs = some (.inl (dA 0, 41, .inl (fun _ => 0))) := by rw [eM24]; exact mm_fk hqcg hrs_23
  have hss_24 : M24 ss = some (.inl (dA 1, 41, .inr (.inl (fun _ => 0)))) := by rw [eM24]; exact mm_fk hqcg hss_23
  have hdr_24 : M24 dr = some (.inr (2, [.ref rg, .int 0])) := by rw [eM24]; exact mm_fk hqcg hdr_23
  have hrg_24 : M24 rg = some (.inl (dA 5, 50, .inr (.inr (.inr (.inr (fun _ => none)))))) := by rw [eM24]; exact mm_fk hqcg hrg_23
  have hcs_24 : M24 cs = some (.inr (3, [.ref wd])) := by rw [eM24]; exact mm_fk hqcg hcs_23
  have hwd_24 : M24 wd = some (.inl (dA 1, 157, .inr (.inl (fun _ => 0)))) := by rw [eM24]; exact mm_fk hqcg hwd_23
  have hcg_24 : M24 cg = some (.inr (4, [.null, .int 0])) := by rw [eM24]; exact mm_us
  refine lv_dup S.1 S.2.1 d_AR_init_75 rfl ?_
  refine mm_callv hw (mm_runIN (a := cg) (As := []) (rest := [.ref cg, .ref x]) S hK hw (c_CG_init l D dA _ cg hcg_24 _) bi_CG_init hK.2.2.2.2.2.1 (⟨rfl, rfl, by decide, by decide, by decide, by decide⟩) hl.1 rfl rfl (Nat.le_of_ble_eq_true rfl) d_AR_init_76) (fun M26 H locs hp hw => ?_)
  obtain ⟨cd, hqcd, hMcd⟩ := hp
  have hX_27 : M26 x = some (.inr (0, [.ref lv, .int 0, .int 0, .ref sr, .ref gd, .int 0, .ref rs, .ref ss, .ref dr, .ref cs, .null])) := by rw [hMcd]; exact mm_uk (mm_fk hqcd hcg_24) (mm_fk hqcd hX_24) (by simp)
  have hlv_27 : M26 lv = some (.inl (dA 3, 100, .inr (.inr (.inr (.inr (fun _ => none)))))) := by rw [hMcd]; exact mm_uk (mm_fk hqcd hcg_24) (mm_fk hqcd hlv_24) (by simp)
  have hsr_27 : M26 sr = some (.inr (1, [.ref ak, .int 0, .int 0])) := by rw [hMcd]; exact mm_uk (mm_fk hqcd hcg_24) (mm_fk hqcd hsr_24) (by simp)
  have hak_27 : M26 ak = some (.inl (dA 0, 200, .inl (fun _ => 0))) := by rw [hMcd]; exact mm_uk (mm_fk hqcd hcg_24) (mm_fk hqcd hak_24) (by simp)
  have hgd_27 : M26 gd = some (.inl (dA 4, 60, .inr (.inr (.inr (.inr (fun _ => none)))))) := by rw [hMcd]; exact mm_uk (mm_fk hqcd hcg_24) (mm_fk hqcd hgd_24) (by simp)
  have hrs_27 : M26 rs = some (.inl (dA 0, 41, .inl (fun _ => 0))) := by rw [hMcd]; exact mm_uk (mm_fk hqcd hcg_24) (mm_fk hqcd hrs_24) (by simp)
  have hss_27 : M26 ss = some (.inl (dA 1, 41, .inr (.inl (fun _ => 0)))) := by rw [hMcd]; exact mm_uk (mm_fk hqcd hcg_24) (mm_fk hqcd hss_24) (by simp)
  have hdr_27 : M26 dr = some (.inr (2, [.ref rg, .int 0])) := by rw [hMcd]; exact mm_uk (mm_fk hqcd hcg_24) (mm_fk hqcd hdr_24) (by simp)
  have hrg_27 : M26 rg = some (.inl (dA 5, 50, .inr (.inr (.inr (.inr (fun _ => none)))))) := by rw [hMcd]; exact mm_uk (mm_fk hqcd hcg_24) (mm_fk hqcd hrg_24) (by simp)
  have hcs_27 : M26 cs = some (.inr (3, [.ref wd])) := by rw [hMcd]; exact mm_uk (mm_fk hqcd hcg_24) (mm_fk hqcd hcs_24) (by simp)
  have hwd_27 : M26 wd = some (.inl (dA 1, 157, .inr (.inl (fun _ => 0)))) := by rw [hMcd]; exact mm_uk (mm_fk hqcd hcg_24) (mm_fk hqcd hwd_24) (by simp)
  have hcd_27 : M26 cd = some (.inl (dA 0, 512, .inl (fun _ => 0))) := by rw [hMcd]; exact mm_uk (mm_fk hqcd hcg_24) mm_us (by simp)
  have hcg_27 : M26 cg = some (.inr (4, [.ref cd, .int 0])) := by rw [hMcd]; exact mm_us
  refine mm_putF (C := R_AR) (T := T_AR) (N := 11) (ty := .object "AbendRows$CodeLog") (v := .ref cg) S hK.1 hw hX_27 rfl in_AR t_AR k_AR n_AR 10 (by decide) gw_98 rfl rfl hin rfl (by decide +kernel) (rfl) (rfl) (Nat.le_of_ble_eq_true rfl) d_AR_init_79 (fun H locs hw => ?_)
  obtain ⟨M28, eM28⟩ : ∃ zM : mm_M, zM = mm_up M26 x (.inr (0, [.ref lv, .int 0, .int 0, .ref sr, .ref gd, .int 0, .ref rs, .ref ss, .ref dr, .ref cs, .ref cg])) := ⟨_, rfl⟩
  have hw : mm_w D vC _ _ (mm_up M26 x (.inr (0, [.ref lv, .int 0, .int 0, .ref sr, .ref gd, .int 0, .ref rs, .ref ss, .ref dr, .ref cs, .ref cg]))) H _ := hw
  rw [← eM28] at hw
  have hlv_28 : M28 lv = some (.inl (dA 3, 100, .inr (.inr (.inr (.inr (fun _ => none)))))) := by rw [eM28]; exact mm_uk hX_27 hlv_27 (by simp)
  have hsr_28 : M28 sr = some (.inr (1, [.ref ak, .int 0, .int 0])) := by rw [eM28]; exact mm_uk hX_27 hsr_27 (by simp)
  have hak_28 : M28 ak = some (.inl (dA 0, 200, .inl (fun _ => 0))) := by rw [eM28]; exact mm_uk hX_27 hak_27 (by simp)
  have hgd_28 : M28 gd = some (.inl (dA 4, 60, .inr (.inr (.inr (.inr (fun _ => none)))))) := by rw [eM28]; exact mm_uk hX_27 hgd_27 (by simp)
  have hrs_28 : M28 rs = some (.inl (dA 0, 41, .inl (fun _ => 0))) := by rw [eM28]; exact mm_uk hX_27 hrs_27 (by simp)
  have hss_28 : M28 ss = some (.inl (dA 1, 41, .inr (.inl (fun _ => 0)))) := by rw [eM28]; exact mm_uk hX_27 hss_27 (by simp)
  have hdr_28 : M28 dr = some (.inr (2, [.ref rg, .int 0])) := by rw [eM28]; exact mm_uk hX_27 hdr_27 (by simp)
  have hrg_28 : M28 rg = some (.inl (dA 5, 50, .inr (.inr (.inr (.inr (fun _ => none)))))) := by rw [eM28]; exact mm_uk hX_27 hrg_27 (by simp)
  have hcs_28 : M28 cs = some (.inr (3, [.ref wd])) := by rw [eM28]; exact mm_uk hX_27 hcs_27 (by simp)
  have hwd_28 : M28 wd = some (.inl (dA 1, 157, .inr (.inl (fun _ => 0)))) := by rw [eM28]; exact mm_uk hX_27 hwd_27 (by simp)
  have hcg_28 : M28 cg = some (.inr (4, [.ref cd, .int 0])) := by rw [eM28]; exact mm_uk hX_27 hcg_27 (by simp)
  have hcd_28 : M28 cd = some (.inl (dA 0, 512, .inl (fun _ => 0))) := by rw [eM28]; exact mm_uk hX_27 hcd_27 (by simp)
  have hX_28 : M28 x = some (.inr (0, [.ref lv, .int 0, .int 0, .ref sr, .ref gd, .int 0, .ref rs, .ref ss, .ref dr, .ref cs, .ref cg])) := by rw [eM28]; exact mm_us
  have hP9 : cP dA M28 x (fun _ => 0) (fun _ _ => 0) (fun _ => 0) 0 := ⟨lv, sr, gd, rs, ss, dr, cs, cg, hX_28, ⟨fun _ => none, fun _ => 0, fun _ => 0, fun _ => none, hlv_28, fun i hi => absurd hi (Nat.not_lt_zero _), fun a p q => absurd (Nat.le_trans p q) (by decide), fun a p q => absurd (Nat.le_trans p q) (by decide), fun a p q => absurd (Nat.le_trans p q) (by decide)⟩, ⟨fun _ => none, fun _ => 0, fun _ => 0, fun _ => 0, hgd_28, fun i hi => (if_neg (Nat.not_lt_zero _)).symm, fun a p q => absurd (Nat.le_trans p q) (by decide), fun a b p q => absurd (Nat.le_trans p q) (by decide)⟩, ⟨ak, fun _ => 0, 0, hsr_28, hak_28, fun j hj => absurd hj (Nat.not_lt_zero _)⟩, hrs_28, hss_28, ⟨rg, 0, fun _ => none, fun _ => 0, hdr_28, by decide, hrg_28, fun t ht => (if_pos (show t < 50 - 0 from ht)).symm, fun t ht => absurd ht (Nat.not_lt_zero _)⟩, ⟨wd, fun _ => 0, hcs_28, hwd_28, fun j _ _ => by simp [bw]⟩, ⟨cd, 0, fun _ => 0, hcg_28, hcd_28, Nat.le_refl _, fun j hj => absurd hj (Nat.not_lt_zero _), fun k _ _ => rfl⟩⟩
  exact mm_retv S.1 S.2.1 hr hlocks hA hQ hw (hP9) (Nat.le_of_ble_eq_true rfl) (Nat.le_of_ble_eq_true rfl) d_AR_init_82
