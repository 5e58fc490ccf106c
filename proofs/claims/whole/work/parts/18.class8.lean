/-! the search, its pure part -/
def ab_J (F F' : sF) : Prop := ∀ k, k ≠ 5 → k ≠ 7 → F' k = F k
theorem ab_Js {F F' : sF} {na e a l : Nat} (h : ab_J F F') : ab_J F (ab_F2 F' na e a l) := fun k h5 h7 => by
  show va_up (va_up F' 5 _) 7 _ k = _
  rw [va_up_ne _ _ h7, va_up_ne _ _ h5]
  exact h k h5 h7
theorem ab_JI {F F' : sF} (h : ab_J F F') : ab_I F F' := ⟨h 0 (by decide) (by decide), h 1 (by decide) (by decide), h 2 (by decide) (by decide), h 3 (by decide) (by decide), h 4 (by decide) (by decide), h 6 (by decide) (by decide), h 8 (by decide) (by decide)⟩
/-- which exits have retried: as before, or some more -/
def ab_7 (F F' : sF) (ne : Nat) : Prop := ∀ k, F' 7 k = F 7 k ∨ (F' 7 k = 1 ∧ 1 ≤ k ∧ k ≤ ne)
theorem en_7 {F : sF} {x a l : Nat} : (en_of F x a l).2 = F 7 ∨ (en_of F x a l).2 = upd (F 7) x 1 := by
  unfold en_of
  repeat' split
  all_goals first | exact Or.inl rfl | exact Or.inr rfl
theorem ab_7s {F F' : sF} {na e a l ne : Nat} (h : ab_7 F F' ne) (h1 : 1 ≤ e) (h2 : e ≤ ne) : ab_7 F (ab_F2 F' na e a l) ne := fun k => by
  show va_up (ab_F1 F' na e) 7 (en_of (ab_F1 F' na e) e a l).2 7 k = F 7 k ∨ _
  rw [show ab_F2 F' na e a l 7 = (en_of (ab_F1 F' na e) e a l).2 from rfl, va_up_self]
  rcases en_7 (F := ab_F1 F' na e) (x := e) (a := a) (l := l) with q | q
  · rw [q]; exact h k
  · rw [q]
    by_cases hk : k = e
    · subst hk; rw [pk_us]; exact Or.inr ⟨rfl, h1, h2⟩
    · rw [pk_un hk]; exact h k
section ABP
variable {F : sF} {n ne l : Nat}
theorem ab_rG (hwf : lv_wf2 F n ne) (hn : n ≤ 100) (hne : ne ≤ 300) (hl : l ≤ n) {a j : Nat} (ha1 : 1 ≤ a) (han : a ≤ n) (haj : a = ab_n F l j) (hj : j + a ≤ l) : ∀ (k na : Nat) (F' : sF) (cc : Nat), k ≤ cN (F 2 a) → ab_J F F' → ab_7 F F' ne → 1 ≤ cc → cc ≤ 9999 → ab_J F (ab_r l a k na F' cc).2.2.1 ∧ ab_7 F (ab_r l a k na F' cc).2.2.1 ne ∧ 1 ≤ (ab_r l a k na F' cc).2.2.2 ∧ (ab_r l a k na F' cc).2.2.2 ≤ 9999 ∧ (ab_r l a k na F' cc).2.1 ≤ na + k ∧ ((ab_r l a k na F' cc).1 = 0 ∨ ∃ jj, jj ≤ 100 ∧ (ab_r l a k na F' cc).1 = nI (ab_n F l jj)) := by
  intro k
  induction k with
  | zero =>
    intro na F' cc _ hJ h7 h1 h2
    exact ⟨hJ, h7, h1, h2, Nat.le_refl _, Or.inl rfl⟩
  | succ k ih =>
    intro na F' cc hk hJ h7 h1 h2
    obtain ⟨z, hz, hz10, hr⟩ := hwf.2.2 a ha1 han
    rw [cN_I hz (by omega)] at hk
    obtain ⟨e, he, he1, he2⟩ := hr k (by omega)
    obtain ⟨pa, hpe, hpa, -⟩ := hwf.2.1 a ha1 han
    have he' : F' 3 (10 * a + k) = nI e := by rw [hJ 3 (by decide) (by decide)]; exact he
    rw [ab_r_s he' (by omega)]
    have hc := ab_cr (F := F') (e := e) ⟨h1, h2⟩
    by_cases h0 : (en_of (ab_F1 F' na e) e a l).1 = 0
    · rw [if_pos h0]
      obtain ⟨a1, a2, a3, a4, a5, a6⟩ := ih (na + 1) (ab_F2 F' na e a l) (ab_c F' e cc) (by rw [cN_I hz (by omega)]; omega) (ab_Js hJ) (ab_7s h7 he1 he2) hc.1 hc.2
      exact ⟨a1, a2, a3, a4, by omega, a6⟩
    · rw [if_neg h0]
      refine ⟨ab_Js hJ, ab_7s h7 he1 he2, hc.1, hc.2, by show na + 1 ≤ _; omega, Or.inr ?_⟩
      show ∃ jj, jj ≤ 100 ∧ (en_of (ab_F1 F' na e) e a l).1 = nI (ab_n F l jj)
      rcases en_at h0 with q | q | q
      · exact ⟨j, by omega, by rw [q, haj]⟩
      · exact ⟨0, by omega, q⟩
      · refine ⟨j + 1, by omega, ?_⟩
        rw [q, ab_n, ← haj, show (ab_F1 F' na e) 0 a = F 0 a from congrFun (hJ 0 (by decide) (by decide)) a, hpe, cN_I rfl (by omega)]
theorem ab_uG (hwf : lv_wf2 F n ne) (hn : n ≤ 100) (hne : ne ≤ 300) (hl : l ≤ n) : ∀ (f a na : Nat) (F' : sF) (cc j : Nat), a < f → a ≤ n → a = ab_n F l j → j + a ≤ l → na + 10 * cN (F 1 a) ≤ 200 → ab_J F F' → ab_7 F F' ne → 1 ≤ cc → cc ≤ 9999 → ab_J F (ab_u l f a na F' cc).2.2.1 ∧ ab_7 F (ab_u l f a na F' cc).2.2.1 ne ∧ 1 ≤ (ab_u l f a na F' cc).2.2.2 ∧ (ab_u l f a na F' cc).2.2.2 ≤ 9999 ∧ (ab_u l f a na F' cc).2.1 ≤ 200 ∧ ∃ jj, jj ≤ 100 ∧ (ab_u l f a na F' cc).1 = nI (ab_n F l jj) := by
  intro f
  induction f with
  | zero => intro a na F' cc j h; omega
  | succ f ih =>
    intro a na F' cc j haf han haj hja hna hJ h7 h1 h2
    by_cases ha0 : a = 0
    · rw [ab_u, if_pos ha0]
      exact ⟨hJ, h7, h1, h2, by show na ≤ 200; omega, j, by omega, by rw [← haj, ha0]; rfl⟩
    · rw [ab_u_s ha0, hJ 0 (by decide) (by decide), hJ 2 (by decide) (by decide)]
      obtain ⟨pa, hpe, hpa, hpd, hp20⟩ := hwf.2.1 a (by omega) han
      obtain ⟨z, hz, hz10, -⟩ := hwf.2.2 a (by omega) han
      have hpc : cN (F 0 a) = pa := cN_I hpe (by omega)
      have hzc : cN (F 2 a) = z := cN_I hz (by omega)
      obtain ⟨a1, a2, a3, a4, a5, a6⟩ := ab_rG hwf hn hne hl (by omega) han haj hja (cN (F 2 a)) na F' cc (Nat.le_refl _) hJ h7 h1 h2
      unfold ab_k
      by_cases h0 : (ab_r l a (cN (F 2 a)) na F' cc).1 = 0
      · rw [if_pos h0, hpc]
        exact ih pa _ _ _ (j + 1) (by omega) (by omega) (by rw [ab_n, ← haj, hpc]) (by omega) (by omega) a1 a2 a3 a4
      · rw [if_neg h0]
        exact ⟨a1, a2, a3, a4, by omega, a6.resolve_left h0⟩
/-- the whole search, from its start -/
theorem ab_ok (hwf : lv_wf2 F n ne) (hn : n ≤ 100) (hne : ne ≤ 300) (hl1 : 1 ≤ l) (hl : l ≤ n) {cc : Nat} (h1 : 1 ≤ cc) (h2 : cc ≤ 9999) : ab_J F (ab_u l 101 l 0 F cc).2.2.1 ∧ ab_7 F (ab_u l 101 l 0 F cc).2.2.1 ne ∧ 1 ≤ (ab_u l 101 l 0 F cc).2.2.2 ∧ (ab_u l 101 l 0 F cc).2.2.2 ≤ 9999 ∧ (ab_u l 101 l 0 F cc).2.1 ≤ 200 ∧ ∃ jj, jj ≤ 100 ∧ (ab_u l 101 l 0 F cc).1 = nI (ab_n F l jj) := by
  obtain ⟨_, _, _, _, h20⟩ := hwf.2.1 l hl1 hl
  exact ab_uG hwf hn hne hl 101 l 0 F cc 0 (by omega) hl rfl (by omega) (by omega) (fun _ _ _ => rfl) (fun _ => Or.inl rfl) h1 h2
end ABP
theorem ab_zv {en : Int32} {F : sF} : ∀ (f a : Nat) (z : Nat → Int32) (i : Nat), ab_z en F f a z i = z i ∨ ab_z en F f a z i = 0
  | 0, _, _, _ => Or.inl rfl
  | f + 1, a, z, i => by
    rw [ab_z]
    by_cases h : nI a = en
    · rw [if_pos h]; exact Or.inl rfl
    · rw [if_neg h]
      rcases ab_zv f (cN (F 0 a)) (upd z a 0) i with q | q
      · rw [q]
        by_cases hi : i = a
        · subst hi; rw [pk_us]; exact Or.inr rfl
        · rw [pk_un hi]; exact Or.inl rfl
      · exact Or.inr q
/-- the memory within a search -/
def sQm (dA : Nat → ClassId) (M : mm_M) (sr ak : Nat) (la ea : Nat → Nat) (er : Nat → Option Nat) (n ne : Nat) (na cc : Nat) (F : sF) : Prop := (∃ fA : Nat → Int32, M ak = some (aI (dA 0) 200 fA) ∧ ∀ j, j < na → fA j = F 5 j) ∧ M sr = some (.inr (1, [.ref ak, .int (nI na), .int (nI cc)])) ∧ (∀ a, 1 ≤ a → a ≤ n → M (la a) = some (oL la ea F a)) ∧ ∀ k, 1 ≤ k → k ≤ ne → M (ea k) = some (oE er F k)
theorem mi_c : Cond.code Lib.Math.min.name Lib.Math.min.code 2 (some .int) ∈ gt_l := gt_in (i := 208) rfl rfl
/-- a row's exit by its place from the bottom -/
def chp (ea : Nat → Nat) (F : sF) (a k : Nat) : Option Nat := if k = 0 then none else some (ea (cN (F 3 (10 * a + (k - 1)))))
theorem oE_ne {er : Nat → Option Nat} {F F' : sF} {a b : Nat} (ha : a < 2 ^ 31) (hb : b < 2 ^ 31) (h : a ≠ b) : oE er F a ≠ oE er F' b := fun q => by
  have h1 := congrArg (fun z : va_E => match z with | .inr (_, .int v :: _) => v | _ => 0) q
  exact h ((nI_eq ha hb).mp h1)
theorem mn_min {a : Nat} (h : a < 2 ^ 30) : (if (9999 : Int32) < nI a then 9999 else nI a) = nI (if a ≤ 9999 then a else 9999) := by
  have e9 : (9999 : Int32) = nI 9999 := rfl
  rw [e9]
  by_cases q : a ≤ 9999
  · rw [if_pos q, if_neg (nI_nlt (b := 9999) (a := 9999) (Nat.le_refl _) (by decide) |> fun _ => fun r => absurd ((nI_ltI (a := 9999) (b := a) (by decide) (by omega)).mp r) (by omega))]
  · rw [if_neg q, if_pos ((nI_ltI (a := 9999) (b := a) (by decide) (by omega)).mpr (by omega))]
theorem en_F1 {F : sF} {na e x a l : Nat} : en_of (ab_F1 F na e) x a l = en_of F x a l := rfl
/-- a step of the search in the memory: the exit's own mark is set, or not -/
theorem sQ_step {dA : Nat → ClassId} {M M' : mm_M} {sr ak : Nat} {la ea : Nat → Nat} {er : Nat → Option Nat} {n ne na cc cc' e a l : Nat} {F : sF} {fA : Nat → Int32} (hne : ne ≤ 300) (he1 : 1 ≤ e) (hen : e ≤ ne) (h3 : ∀ a, 1 ≤ a → a ≤ n → M (la a) = some (oL la ea F a)) (h4 : ∀ k, 1 ≤ k → k ≤ ne → M (ea k) = some (oE er F k)) (h2 : ∀ j, j < na → fA j = F 5 j)
    (k9 : kt M M' [1, 1200, 6]) (hak : M' ak = some (aI (dA 0) 200 (upd fA na (nI e)))) (hsr : M' sr = some (.inr (1, [.ref ak, .int (nI (na + 1)), .int (nI cc')]))) (hoth : ∀ k, 1 ≤ k → k ≤ ne → k ≠ e → M' (ea k) = some (oE er F k)) (hme : M' (ea e) = some (.inr (6, [.int (nI e), .int (F 4 e), .int (F 6 e), va_rf (er e), .int ((en_of (ab_F1 F na e) e a l).2 e)]))) (hcc : cc' = ab_c F e cc) : sQm dA M' sr ak la ea er n ne (na + 1) (ab_c F e cc) (ab_F2 F na e a l) := by
  subst hcc
  have f5 : ab_F2 F na e a l 5 = upd (F 5) na (nI e) := rfl
  have f7 : ab_F2 F na e a l 7 = (en_of (ab_F1 F na e) e a l).2 := rfl
  refine ⟨⟨_, hak, fun j hj => ?_⟩, hsr, fun b p q => k9 _ _ (h3 b p q) (by simp [tg]), fun k p q => ?_⟩
  · rw [f5]
    by_cases h : j = na
    · subst h; rw [pk_us, pk_us]
    · rw [pk_un h, pk_un h]; exact h2 j (by omega)
  · show M' (ea k) = some (Sum.inr (6, [Value.int (nI k), .int (F 4 k), .int (F 6 k), va_rf (er k), .int (ab_F2 F na e a l 7 k)]))
    rw [f7]
    by_cases h : k = e
    · subst h; exact hme
    · rw [hoth k p q h]
      have e7 : (en_of (ab_F1 F na e) e a l).2 k = F 7 k := by
        rcases en_7 (F := ab_F1 F na e) (x := e) (a := a) (l := l) with r | r
        · rw [r]; rfl
        · rw [r, pk_un h]; rfl
      rw [e7]
theorem lk_p {la : Nat → Nat} {a : Nat} (h1 : 1 ≤ a) (h2 : a < 2 ^ 31) : lk la (nI a) = some (la a) := by rw [lk, if_neg (nI_ne0 h1 h2), cN_I rfl h2]
theorem lk_0 {la : Nat → Nat} : lk la 0 = none := rfl
theorem ab_n0 {F : sF} {l i : Nat} (h0 : F 0 0 = 0) (h : ab_n F l i = 0) : ∀ m, ab_n F l (i + m) = 0
  | 0 => h
  | m + 1 => by
    show cN (F 0 (ab_n F l (i + m))) = 0
    rw [ab_n0 h0 h m, h0]
    rfl

theorem d_SE_note_0 : decode b_SE_note 0 = .ok (.aload_n 0, 1) := by decide +kernel
theorem d_SE_note_1 : decode b_SE_note 1 = .ok (.getfield 15, 3) := by decide +kernel
theorem d_SE_note_4 : decode b_SE_note 4 = .ok (.aload_n 0, 1) := by decide +kernel
theorem d_SE_note_5 : decode b_SE_note 5 = .ok (.getfield 9, 3) := by decide +kernel
theorem d_SE_note_8 : decode b_SE_note 8 = .ok (.arraylength, 1) := by decide +kernel
theorem d_SE_note_9 : decode b_SE_note 9 = .ok (.if_icmp .ge 23, 3) := by decide +kernel
theorem d_SE_note_12 : decode b_SE_note 12 = .ok (.aload_n 0, 1) := by decide +kernel
theorem d_SE_note_13 : decode b_SE_note 13 = .ok (.getfield 9, 3) := by decide +kernel
theorem d_SE_note_16 : decode b_SE_note 16 = .ok (.aload_n 0, 1) := by decide +kernel
theorem d_SE_note_17 : decode b_SE_note 17 = .ok (.getfield 15, 3) := by decide +kernel
theorem d_SE_note_20 : decode b_SE_note 20 = .ok (.iload_n 1, 1) := by decide +kernel
theorem d_SE_note_21 : decode b_SE_note 21 = .ok (.iastore, 1) := by decide +kernel
theorem d_SE_note_22 : decode b_SE_note 22 = .ok (.aload_n 0, 1) := by decide +kernel
theorem d_SE_note_23 : decode b_SE_note 23 = .ok (.dup, 1) := by decide +kernel
theorem d_SE_note_24 : decode b_SE_note 24 = .ok (.getfield 15, 3) := by decide +kernel
theorem d_SE_note_27 : decode b_SE_note 27 = .ok (.iconst 1, 1) := by decide +kernel
theorem d_SE_note_28 : decode b_SE_note 28 = .ok (.iadd, 1) := by decide +kernel
theorem d_SE_note_29 : decode b_SE_note 29 = .ok (.putfield 15, 3) := by decide +kernel
theorem d_SE_note_32 : decode b_SE_note 32 = .ok (.return_, 1) := by decide +kernel
set_option maxHeartbeats 4000000 in
set_option maxRecDepth 100000 in
theorem c_SE_note (l : Launch) (D : va_G) (dA : Nat → ClassId) (M : mm_M) (sr ak na : Nat) (fA : Nat → Int32) (sc v : Int32) (hna : na < 200) (hsr : M sr = some (.inr (1, [.ref ak, .int (nI na), .int sc]))) (hak : M ak = some (aI (dA 0) 200 fA)) : mm_Cv l y_SE_note w_SE_note ({ frames := 0, cells := 0, slots := 0, locals := 0 }) 0 0 D vC (tyL dA) [.ref sr, .int v] M (fun M' => M' = mm_up (mm_up M ak (aI (dA 0) 200 (upd fA na v))) sr (.inr (1, [.ref ak, .int (nI (na + 1)), .int sc]))) := by
  intro sz
  refine mm_start (by decide) (Nat.le_of_ble_eq_true rfl) ?_
  intro p e s m below meth c A Q ls hA hQ S hr hlocks hin hK hw hl
  have hl : lv_has ls 2 [(0, .ref sr), (1, .int v)] := hl
  refine lv_aload_n S.1 S.2.1 d_SE_note_0 rfl (lv_at hl 0 rfl) ?_
  refine mm_get (C := R_SE) (T := T_SE) (N := 3) S hK.1 hw hsr rfl in_SE 1 (by decide) gw_36 rfl rfl d_SE_note_1 ?_
  refine lv_aload_n S.1 S.2.1 d_SE_note_4 rfl (lv_at hl 0 rfl) ?_
  refine mm_get (C := R_SE) (T := T_SE) (N := 3) S hK.1 hw hsr rfl in_SE 0 (by decide) gw_35 rfl rfl d_SE_note_5 ?_
  refine mm_alen (v := 200) S hK.1 hw 0 hak rfl rfl d_SE_note_8 ?_
  refine lv_icmp_ge (tgt := 32) S.1 S.2.1 d_SE_note_9 (by decide) (fun c9 => absurd c9 (nI_ge (b := 200) hna (by decide))) (fun c9 => ?_)
  refine lv_aload_n S.1 S.2.1 d_SE_note_12 rfl (lv_at hl 0 rfl) ?_
  refine mm_get (C := R_SE) (T := T_SE) (N := 3) S hK.1 hw hsr rfl in_SE 0 (by decide) gw_35 rfl rfl d_SE_note_13 ?_
  refine lv_aload_n S.1 S.2.1 d_SE_note_16 rfl (lv_at hl 0 rfl) ?_
  refine mm_get (C := R_SE) (T := T_SE) (N := 3) S hK.1 hw hsr rfl in_SE 1 (by decide) gw_36 rfl rfl d_SE_note_17 ?_
  refine lv_iload_n S.1 S.2.1 d_SE_note_20 rfl (lv_at hl 1 rfl) ?_
  refine mn_iast (j := na) S hK.1 hw 0 hak rfl (rfl) (by omega) (by decide) d_SE_note_21 (fun H locs hw => ?_)
  obtain ⟨M1, eM1⟩ : ∃ zM : mm_M, zM = mm_up M ak (.inl (dA 0, 200, .inl (upd (fA) (na) (v)))) := ⟨_, rfl⟩
  have hw : mm_w D vC _ _ (mm_up M ak (.inl (dA 0, 200, .inl (upd (fA) (na) (v))))) H _ := hw
  rw [← eM1] at hw
  have hsr_1 : M1 sr = some (.inr (1, [.ref ak, .int (nI na), .int sc])) := by rw [eM1]; exact mm_uk hak hsr (by simp)
  have hak_1 : M1 ak = some (.inl (dA 0, 200, .inl (upd (fA) (na) (v)))) := by rw [eM1]; exact mm_us
  refine lv_aload_n S.1 S.2.1 d_SE_note_22 rfl (lv_at hl 0 rfl) ?_
  refine lv_dup S.1 S.2.1 d_SE_note_23 rfl ?_
  refine mm_get (C := R_SE) (T := T_SE) (N := 3) S hK.1 hw hsr_1 rfl in_SE 1 (by decide) gw_36 rfl rfl d_SE_note_24 ?_
  refine lv_iconst (v := 1) S.1 S.2.1 d_SE_note_27 (by decide) ?_
  refine lv_iadd S.1 S.2.1 d_SE_note_28 ?_
  refine mm_put (C := R_SE) (T := T_SE) (N := 3) (ty := .int) (v := .int ((nI na) + 1)) S hK.1 hw hsr_1 rfl in_SE t_SE k_SE n_SE 1 (by decide) gw_36 rfl rfl (by decide +kernel) (rfl) (rfl) (Nat.le_of_ble_eq_true rfl) d_SE_note_29 (fun H locs hw => ?_)
  obtain ⟨M2, eM2⟩ : ∃ zM : mm_M, zM = mm_up M1 sr (.inr (1, [.ref ak, .int ((nI na) + 1), .int sc])) := ⟨_, rfl⟩
  have hw : mm_w D vC _ _ (mm_up M1 sr (.inr (1, [.ref ak, .int ((nI na) + 1), .int sc]))) H _ := hw
  rw [← eM2] at hw
  have hak_2 : M2 ak = some (.inl (dA 0, 200, .inl (upd (fA) (na) (v)))) := by rw [eM2]; exact mm_uk hsr_1 hak_1 (by simp)
  have hsr_2 : M2 sr = some (.inr (1, [.ref ak, .int ((nI na) + 1), .int sc])) := by rw [eM2]; exact mm_us
  exact mm_retv S.1 S.2.1 hr hlocks hA hQ hw (by rw [eM2, eM1, ← nI_1]) (Nat.le_of_ble_eq_true rfl) (Nat.le_of_ble_eq_true rfl) d_SE_note_32
theorem d_SE_ask_0 : decode b_SE_ask 0 = .ok (.aload_n 0, 1) := by decide +kernel
theorem d_SE_ask_1 : decode b_SE_ask 1 = .ok (.aload_n 1, 1) := by decide +kernel
theorem d_SE_ask_2 : decode b_SE_ask 2 = .ok (.getfield 41, 3) := by decide +kernel
theorem d_SE_ask_5 : decode b_SE_ask 5 = .ok (.invokevirtual 44, 3) := by decide +kernel
theorem d_SE_ask_8 : decode b_SE_ask 8 = .ok (.aload_n 1, 1) := by decide +kernel
theorem d_SE_ask_9 : decode b_SE_ask 9 = .ok (.getfield 48, 3) := by decide +kernel
theorem d_SE_ask_12 : decode b_SE_ask 12 = .ok (.ifCond .eq 22, 3) := by decide +kernel
theorem d_SE_ask_15 : decode b_SE_ask 15 = .ok (.aload_n 0, 1) := by decide +kernel
theorem d_SE_ask_16 : decode b_SE_ask 16 = .ok (.aload_n 0, 1) := by decide +kernel
theorem d_SE_ask_17 : decode b_SE_ask 17 = .ok (.getfield 19, 3) := by decide +kernel
theorem d_SE_ask_20 : decode b_SE_ask 20 = .ok (.bipush 100, 2) := by decide +kernel
theorem d_SE_ask_22 : decode b_SE_ask 22 = .ok (.iadd, 1) := by decide +kernel
theorem d_SE_ask_23 : decode b_SE_ask 23 = .ok (.sipush 9999, 3) := by decide +kernel
theorem d_SE_ask_26 : decode b_SE_ask 26 = .ok (.invokestatic 52, 3) := by decide +kernel
theorem d_SE_ask_29 : decode b_SE_ask 29 = .ok (.putfield 19, 3) := by decide +kernel
theorem d_SE_ask_32 : decode b_SE_ask 32 = .ok (.aconst_null, 1) := by decide +kernel
theorem d_SE_ask_33 : decode b_SE_ask 33 = .ok (.areturn, 1) := by decide +kernel
theorem d_SE_ask_34 : decode b_SE_ask 34 = .ok (.aload_n 1, 1) := by decide +kernel
theorem d_SE_ask_35 : decode b_SE_ask 35 = .ok (.getfield 58, 3) := by decide +kernel
theorem d_SE_ask_38 : decode b_SE_ask 38 = .ok (.tableswitch 46 1 3 #[26, 28, 41], 26) := by decide +kernel
theorem d_SE_ask_64 : decode b_SE_ask 64 = .ok (.aload_n 2, 1) := by decide +kernel
theorem d_SE_ask_65 : decode b_SE_ask 65 = .ok (.areturn, 1) := by decide +kernel
theorem d_SE_ask_66 : decode b_SE_ask 66 = .ok (.aload_n 1, 1) := by decide +kernel
theorem d_SE_ask_67 : decode b_SE_ask 67 = .ok (.invokestatic 61, 3) := by decide +kernel
theorem d_SE_ask_70 : decode b_SE_ask 70 = .ok (.ifCond .eq 7, 3) := by decide +kernel
theorem d_SE_ask_73 : decode b_SE_ask 73 = .ok (.aload_n 3, 1) := by decide +kernel
theorem d_SE_ask_74 : decode b_SE_ask 74 = .ok (.goto 4, 3) := by decide +kernel
theorem d_SE_ask_77 : decode b_SE_ask 77 = .ok (.aconst_null, 1) := by decide +kernel
theorem d_SE_ask_78 : decode b_SE_ask 78 = .ok (.areturn, 1) := by decide +kernel
theorem d_SE_ask_79 : decode b_SE_ask 79 = .ok (.aload_n 2, 1) := by decide +kernel
theorem d_SE_ask_80 : decode b_SE_ask 80 = .ok (.getfield 37, 3) := by decide +kernel
theorem d_SE_ask_83 : decode b_SE_ask 83 = .ok (.areturn, 1) := by decide +kernel
theorem d_SE_ask_84 : decode b_SE_ask 84 = .ok (.aconst_null, 1) := by decide +kernel
theorem d_SE_ask_85 : decode b_SE_ask 85 = .ok (.areturn, 1) := by decide +kernel
set_option maxHeartbeats 4000000 in
set_option maxRecDepth 100000 in
theorem c_SE_ask (l : Launch) (D : va_G) (dA : Nat → ClassId) (M : mm_M) (sr ak : Nat) (la ea : Nat → Nat) (er : Nat → Option Nat) (n ne na cc e0 a lv0 : Nat) (F : sF) (hN : n ≤ 100) (hNE : ne ≤ 300) (hna : na < 200) (hcc : cc ≤ 9999) (he1 : 1 ≤ e0) (hen : e0 ≤ ne) (ha1 : 1 ≤ a) (han : a ≤ n) (hv1 : 1 ≤ lv0) (hvn : lv0 ≤ n) (hf7 : F 7 e0 = 0 ∨ F 7 e0 = 1) (hq : sQm dA M sr ak la ea er n ne na cc F) : mm_Cq l y_SE_ask w_SE_ask ({ frames := 1, cells := 0, slots := 0, locals := 21 }) 0 0 D vC (tyL dA) [.ref sr, .ref (ea e0), .ref (la a), .ref (la lv0)] M (fun r M' => r = lk la (en_of (ab_F1 F na e0) e0 a lv0).1 ∧ sQm dA M' sr ak la ea er n ne (na + 1) (ab_c F e0 cc) (ab_F2 F na e0 a lv0) ∧ kt M M' [1, 1200, 6]) := by
  intro sz
  refine mm_start (by decide) (Nat.le_of_ble_eq_true rfl) ?_
  intro p e s m below meth c A Q ls hA hQ S hr hlocks hin hK hw hl
  have hl : lv_has ls 4 [(0, .ref sr), (1, .ref (ea e0)), (2, .ref (la a)), (3, .ref (la lv0))] := hl
  obtain ⟨⟨fA, hak, hfa⟩, hsr, hla, hea⟩ := hq
  have hee : M (ea e0) = some (oE er F e0) := hea e0 he1 hen
  have hlla : M (la a) = some (oL la ea F a) := hla a ha1 han
  refine lv_aload_n S.1 S.2.1 d_SE_ask_0 rfl (lv_at hl 0 rfl) ?_
  refine lv_aload_n S.1 S.2.1 d_SE_ask_1 rfl (lv_at hl 1 rfl) ?_
  refine mm_get (C := R_EX) (T := T_EX) (N := 5) S hK.1 hw hee rfl in_EX 0 (by decide) gw_167 rfl rfl d_SE_ask_2 ?_
  refine mm_callv hw (mm_runV (a := sr) (As := [.int (nI e0)]) (rest := []) S hK hw (c_SE_note l D dA _ sr ak na fA (nI cc) (nI e0) hna hsr hak _) bv_SE_note gw_202 hsr rfl (⟨rfl, rfl, by decide, by decide, by decide, by decide⟩) hl.1 rfl rfl (Nat.le_of_ble_eq_true rfl) d_SE_ask_5) (fun M2 H locs hp hw => ?_)
  have hsr_3 : M2 sr = some (.inr (1, [.ref ak, .int (nI (na + 1)), .int (nI cc)])) := by rw [hp]; exact mm_us
  have hak_3 : M2 ak = some (.inl (dA 0, 200, .inl (upd (fA) (na) (nI e0)))) := by rw [hp]; exact mm_uk (mm_uk hak hsr (by simp)) mm_us (by simp)
  have hee_3 : M2 (ea e0) = some (.inr (6, [.int (nI e0), .int (F 4 e0), .int (F 6 e0), va_rf (er e0), .int (F 7 e0)])) := by rw [hp]; exact mm_uk (mm_uk hak hsr (by simp)) (mm_uk hak hee (by simp)) (by simp)
  have hlla_3 : M2 (la a) = some (.inr (5, [.int (nI a), va_rf (lk la (F 0 a)), .int (F 1 a), va_rf (tpf ea F a), .int (F 2 a)])) := by rw [hp]; exact mm_uk (mm_uk hak hsr (by simp)) (mm_uk hak hlla (by simp)) (by simp)
  have kM2 : kt M M2 [1200, 1] := by rw [hp]; exact kt_tr (kt_up hak (by simp [tg])) (kt_up (mm_uk hak hsr (by simp)) (by simp [tg]))
  refine lv_aload_n S.1 S.2.1 d_SE_ask_8 rfl (lv_at hl 1 rfl) ?_
  refine mm_get (C := R_EX) (T := T_EX) (N := 5) S hK.1 hw hee_3 rfl in_EX 2 (by decide) gw_171 rfl rfl d_SE_ask_9 ?_
  refine lv_if_eq (tgt := 34) S.1 S.2.1 d_SE_ask_12 (by decide) (fun c12 => ?_) (fun c12 => ?_)
  · refine lv_aload_n S.1 S.2.1 d_SE_ask_34 rfl (lv_at hl 1 rfl) ?_
    refine mm_get (C := R_EX) (T := T_EX) (N := 5) S hK.1 hw hee_3 rfl in_EX 1 (by decide) gw_169 rfl rfl d_SE_ask_35 ?_
    by_cases k38_1 : (F 4 e0) = 1
    · refine lv_tableIn (off := 26) (tgt := 64) S.1 S.2.1 d_SE_ask_38 (by rw [k38_1]; decide) (by rw [k38_1]; decide) (by rw [k38_1]; rfl) (by decide) ?_
      refine lv_aload_n S.1 S.2.1 d_SE_ask_64 rfl (lv_at hl 2 rfl) ?_
      have h9 : en_of F e0 a lv0 = (nI a, F 7) := by simp only [en_of, eq_true c12, eq_true k38_1, not_true_eq_false, not_false_eq_true, and_true, true_and, and_false, false_and, and_self, or_true, true_or, or_false, false_or, or_self, ↓reduceIte]
      have hk9 : kt M M2 [1, 1200, 6] := (kt_tr kt_rf (kt_mo kM2 (by decide)))
      have hk8 : kt M M2 [1, 1200] := (kt_tr kt_rf (kt_mo kM2 (by decide)))
      have hoth : ∀ k, 1 ≤ k → k ≤ ne → k ≠ e0 → M2 (ea k) = some (oE er F k) := fun k p q _ => hk8 _ _ (hea k p q) (by simp [tg])
      have hq9 := sQ_step (cc := cc) (a := a) (l := lv0) hNE he1 hen hla hea hfa hk9 hak_3 hsr_3 hoth (by rw [en_F1, h9]; exact hee_3) (by rw [ab_c, if_pos c12])
      exact mm_retq (v := some (la a)) S.1 S.2.1 hr hlocks hA hQ hw (⟨by rw [en_F1, h9]; exact (lk_p ha1 (by omega)).symm, hq9, hk9⟩) (Nat.le_of_ble_eq_true rfl) (Nat.le_of_ble_eq_true rfl) d_SE_ask_65
    by_cases k38_2 : (F 4 e0) = 2
    · refine lv_tableIn (off := 28) (tgt := 66) S.1 S.2.1 d_SE_ask_38 (by rw [k38_2]; decide) (by rw [k38_2]; decide) (by rw [k38_2]; rfl) (by decide) ?_
      refine lv_aload_n S.1 S.2.1 d_SE_ask_66 rfl (lv_at hl 1 rfl) ?_
      refine mm_calli hw (mm_runS (As := [.ref (ea e0)]) (rest := []) S hK hw (c_SE_retriesNow l D dA _ (ea e0) (nI e0) (F 4 e0) (F 6 e0) (F 7 e0) (er e0) hf7 hee_3 _) bs_SE_retriesNow gw_209 (⟨rfl, rfl, by decide, by decide, by decide, by decide⟩) hl.1 rfl rfl (Nat.le_of_ble_eq_true rfl) d_SE_ask_67) (fun r4 M5 H locs hp hw => ?_)
      have hmp : M2 (ea e0) = some (oE er F e0) := hee_3
      have hk7 : kt M2 M5 [6] := by rw [hp.1]; exact kt_up hmp (by simp [tg])
      have hsr_6 : M5 sr = some (.inr (1, [.ref ak, .int (nI (na + 1)), .int (nI cc)])) := hk7 _ _ hsr_3 (by simp [tg])
      have hak_6 : M5 ak = some (.inl (dA 0, 200, .inl (upd (fA) (na) (nI e0)))) := hk7 _ _ hak_3 (by simp [tg])
      have hee_6 : M5 (ea e0) = some (.inr (6, [.int (nI e0), .int (F 4 e0), .int (F 6 e0), va_rf (er e0), .int 1])) := by rw [hp.1]; exact mm_us
      have hlla_6 : M5 (la a) = some (.inr (5, [.int (nI a), va_rf (lk la (F 0 a)), .int (F 1 a), va_rf (tpf ea F a), .int (F 2 a)])) := hk7 _ _ hlla_3 (by simp [tg])
      have hoth : ∀ k, 1 ≤ k → k ≤ ne → k ≠ e0 → M5 (ea k) = some (oE er F k) := fun k p q r => by
        rw [hp.1]
        exact mm_uk hmp (kM2 _ _ (hea k p q) (by simp [tg])) (oE_ne (by omega) (by omega) r)
      by_cases h7 : F 7 e0 = 0
      · have hr9 : r4 = 1 := by rw [hp.2, if_pos h7]
        subst hr9
        refine lv_if_eq (tgt := 77) S.1 S.2.1 d_SE_ask_70 (by decide) (fun c70 => absurd c70 (by decide)) (fun c70 => ?_)
        refine lv_aload_n S.1 S.2.1 d_SE_ask_73 rfl (lv_at hl 3 rfl) ?_
        refine lv_goto (tgt := 78) S.1 S.2.1 d_SE_ask_74 (by decide) ?_
        have h9 : en_of F e0 a lv0 = (nI lv0, upd (F 7) e0 1) := by simp only [en_of, eq_true c12, eq_false k38_1, eq_true k38_2, eq_true h7, eq_false c70, not_true_eq_false, not_false_eq_true, and_true, true_and, and_false, false_and, and_self, or_true, true_or, or_false, false_or, or_self, ↓reduceIte]
        have hk9 : kt M M5 [1, 1200, 6] := (kt_tr (kt_tr kt_rf (kt_mo kM2 (by decide))) (kt_mo hk7 (by decide)))
        have hq9 := sQ_step (cc := cc) (a := a) (l := lv0) hNE he1 hen hla hea hfa hk9 hak_6 hsr_6 hoth (by rw [en_F1, h9]; show _ = some (Sum.inr (6, [Value.int (nI e0), .int (F 4 e0), .int (F 6 e0), va_rf (er e0), .int (upd (F 7) e0 1 e0)])); rw [pk_us]; exact hee_6) (by rw [ab_c, if_pos c12])
        exact mm_retq (v := some (la lv0)) S.1 S.2.1 hr hlocks hA hQ hw (⟨by rw [en_F1, h9]; exact (lk_p hv1 (by omega)).symm, hq9, hk9⟩) (Nat.le_of_ble_eq_true rfl) (Nat.le_of_ble_eq_true rfl) d_SE_ask_78
      · have hr9 : r4 = 0 := by rw [hp.2, if_neg h7]
        subst hr9
        refine lv_if_eq (tgt := 77) S.1 S.2.1 d_SE_ask_70 (by decide) (fun c70 => ?_) (fun c70 => absurd c70 (by decide))
        refine lv_null S.1 S.2.1 d_SE_ask_77 ?_
        have h9 : en_of F e0 a lv0 = (0, F 7) := by simp only [en_of, eq_true c12, eq_false k38_1, eq_true k38_2, eq_false h7, eq_true c70, not_true_eq_false, not_false_eq_true, and_true, true_and, and_false, false_and, and_self, or_true, true_or, or_false, false_or, or_self, ↓reduceIte]
        have hk9 : kt M M5 [1, 1200, 6] := (kt_tr (kt_tr kt_rf (kt_mo kM2 (by decide))) (kt_mo hk7 (by decide)))
        have hq9 := sQ_step (cc := cc) (a := a) (l := lv0) hNE he1 hen hla hea hfa hk9 hak_6 hsr_6 hoth (by rw [en_F1, h9]; show _ = some (Sum.inr (6, [Value.int (nI e0), .int (F 4 e0), .int (F 6 e0), va_rf (er e0), .int (F 7 e0)])); rw [hf7.resolve_left h7]; exact hee_6) (by rw [ab_c, if_pos c12])
        exact mm_retq (v := none) S.1 S.2.1 hr hlocks hA hQ hw (⟨by rw [en_F1, h9]; exact lk_0.symm, hq9, hk9⟩) (Nat.le_of_ble_eq_true rfl) (Nat.le_of_ble_eq_true rfl) d_SE_ask_78
    by_cases k38_3 : (F 4 e0) = 3
    · refine lv_tableIn (off := 41) (tgt := 79) S.1 S.2.1 d_SE_ask_38 (by rw [k38_3]; decide) (by rw [k38_3]; decide) (by rw [k38_3]; rfl) (by decide) ?_
      refine lv_aload_n S.1 S.2.1 d_SE_ask_79 rfl (lv_at hl 2 rfl) ?_
      refine mm_get (C := R_LV) (T := T_LV) (N := 5) S hK.1 hw hlla_3 rfl in_LV 1 (by decide) gw_138 rfl rfl d_SE_ask_80 ?_
      have h9 : en_of F e0 a lv0 = (F 0 a, F 7) := by simp only [en_of, eq_true c12, eq_false k38_1, eq_false k38_2, eq_true k38_3, not_true_eq_false, not_false_eq_true, and_true, true_and, and_false, false_and, and_self, or_true, true_or, or_false, false_or, or_self, ↓reduceIte]
      have hk9 : kt M M2 [1, 1200, 6] := (kt_tr kt_rf (kt_mo kM2 (by decide)))
      have hk8 : kt M M2 [1, 1200] := (kt_tr kt_rf (kt_mo kM2 (by decide)))
      have hoth : ∀ k, 1 ≤ k → k ≤ ne → k ≠ e0 → M2 (ea k) = some (oE er F k) := fun k p q _ => hk8 _ _ (hea k p q) (by simp [tg])
      have hq9 := sQ_step (cc := cc) (a := a) (l := lv0) hNE he1 hen hla hea hfa hk9 hak_3 hsr_3 hoth (by rw [en_F1, h9]; exact hee_3) (by rw [ab_c, if_pos c12])
      exact mm_retq (v := (lk la (F 0 a))) S.1 S.2.1 hr hlocks hA hQ hw (⟨by rw [en_F1, h9], hq9, hk9⟩) (Nat.le_of_ble_eq_true rfl) (Nat.le_of_ble_eq_true rfl) d_SE_ask_83
    refine lv_tableOut (tgt := 84) S.1 S.2.1 d_SE_ask_38 (by have t1 : ((F 4 e0)).toInt ≠ 1 := ts_ne k38_1; have t2 : ((F 4 e0)).toInt ≠ 2 := ts_ne k38_2; have t3 : ((F 4 e0)).toInt ≠ 3 := ts_ne k38_3; omega) (by decide) ?_
    refine lv_null S.1 S.2.1 d_SE_ask_84 ?_
    have h9 : en_of F e0 a lv0 = (0, F 7) := by simp only [en_of, eq_true c12, eq_false k38_1, eq_false k38_2, eq_false k38_3, not_true_eq_false, not_false_eq_true, and_true, true_and, and_false, false_and, and_self, or_true, true_or, or_false, false_or, or_self, ↓reduceIte]
    have hk9 : kt M M2 [1, 1200, 6] := (kt_tr kt_rf (kt_mo kM2 (by decide)))
    have hk8 : kt M M2 [1, 1200] := (kt_tr kt_rf (kt_mo kM2 (by decide)))
    have hoth : ∀ k, 1 ≤ k → k ≤ ne → k ≠ e0 → M2 (ea k) = some (oE er F k) := fun k p q _ => hk8 _ _ (hea k p q) (by simp [tg])
    have hq9 := sQ_step (cc := cc) (a := a) (l := lv0) hNE he1 hen hla hea hfa hk9 hak_3 hsr_3 hoth (by rw [en_F1, h9]; exact hee_3) (by rw [ab_c, if_pos c12])
    exact mm_retq (v := none) S.1 S.2.1 hr hlocks hA hQ hw (⟨by rw [en_F1, h9]; exact lk_0.symm, hq9, hk9⟩) (Nat.le_of_ble_eq_true rfl) (Nat.le_of_ble_eq_true rfl) d_SE_ask_85
  · refine lv_aload_n S.1 S.2.1 d_SE_ask_15 rfl (lv_at hl 0 rfl) ?_
    refine lv_aload_n S.1 S.2.1 d_SE_ask_16 rfl (lv_at hl 0 rfl) ?_
    refine mm_get (C := R_SE) (T := T_SE) (N := 3) S hK.1 hw hsr_3 rfl in_SE 2 (by decide) gw_37 rfl rfl d_SE_ask_17 ?_
    refine lv_bipush (v := 100) S.1 S.2.1 d_SE_ask_20 (by decide) ?_
    refine lv_iadd S.1 S.2.1 d_SE_ask_22 ?_
    refine W.eq (g2 := F0 m 23 ls (.int (nI (cc + 100)) :: [.ref sr])) (by rw [show ((nI cc) + 100) = (nI (cc + 100)) from nI_add cc 100]) ?_
    refine lv_sipush (v := 9999) S.1 S.2.1 d_SE_ask_23 (by decide) ?_
    refine va_mmin S.1 S.2.1 (S.2.2.1.trans hl.1.symm) S.2.2.2.1 (S.2.2.2.2 _ gw_206) (S.2.2.2.2 _ gw_207) (S.2.2.2.2 _ gw_16) (S.2.2.2.2 _ mi_c) (Nat.le_of_ble_eq_true rfl) (Nat.le_of_ble_eq_true rfl) (Nat.zero_le _) (Nat.zero_le _) d_SE_ask_26 ?_
    rw [mn_min (a := cc + 100) (by omega)]
    refine mm_put (C := R_SE) (T := T_SE) (N := 3) (ty := .int) (v := .int (nI (if cc + 100 ≤ 9999 then cc + 100 else 9999))) S hK.1 hw hsr_3 rfl in_SE t_SE k_SE n_SE 2 (by decide) gw_37 rfl rfl (by decide +kernel) (rfl) (rfl) (Nat.le_of_ble_eq_true rfl) d_SE_ask_29 (fun H locs hw => ?_)
    obtain ⟨M7, eM7⟩ : ∃ zM : mm_M, zM = mm_up M2 sr (.inr (1, [.ref ak, .int (nI (na + 1)), .int (nI (if cc + 100 ≤ 9999 then cc + 100 else 9999))])) := ⟨_, rfl⟩
    have hw : mm_w D vC _ _ (mm_up M2 sr (.inr (1, [.ref ak, .int (nI (na + 1)), .int (nI (if cc + 100 ≤ 9999 then cc + 100 else 9999))]))) H _ := hw
    rw [← eM7] at hw
    have hak_7 : M7 ak = some (.inl (dA 0, 200, .inl (upd (fA) (na) (nI e0)))) := by rw [eM7]; exact mm_uk hsr_3 hak_3 (by simp)
    have hee_7 : M7 (ea e0) = some (.inr (6, [.int (nI e0), .int (F 4 e0), .int (F 6 e0), va_rf (er e0), .int (F 7 e0)])) := by rw [eM7]; exact mm_uk hsr_3 hee_3 (by simp)
    have hlla_7 : M7 (la a) = some (.inr (5, [.int (nI a), va_rf (lk la (F 0 a)), .int (F 1 a), va_rf (tpf ea F a), .int (F 2 a)])) := by rw [eM7]; exact mm_uk hsr_3 hlla_3 (by simp)
    have hsr_7 : M7 sr = some (.inr (1, [.ref ak, .int (nI (na + 1)), .int (nI (if cc + 100 ≤ 9999 then cc + 100 else 9999))])) := by rw [eM7]; exact mm_us
    have hk6 : kt M2 M7 [1] := by rw [eM7]; exact kt_up hsr_3 (by simp [tg])
    refine lv_null S.1 S.2.1 d_SE_ask_32 ?_
    have h9 : en_of F e0 a lv0 = (0, F 7) := by simp only [en_of, eq_false c12, not_true_eq_false, not_false_eq_true, and_true, true_and, and_false, false_and, and_self, or_true, true_or, or_false, false_or, or_self, ↓reduceIte]
    have hk9 : kt M M7 [1, 1200, 6] := (kt_tr (kt_tr kt_rf (kt_mo kM2 (by decide))) (kt_mo hk6 (by decide)))
    have hk8 : kt M M7 [1, 1200] := (kt_tr (kt_tr kt_rf (kt_mo kM2 (by decide))) (kt_mo hk6 (by decide)))
    have hoth : ∀ k, 1 ≤ k → k ≤ ne → k ≠ e0 → M7 (ea k) = some (oE er F k) := fun k p q _ => hk8 _ _ (hea k p q) (by simp [tg])
    have hq9 := sQ_step (cc := cc) (a := a) (l := lv0) hNE he1 hen hla hea hfa hk9 hak_7 hsr_7 hoth (by rw [en_F1, h9]; exact hee_7) (by rw [ab_c, if_neg c12])
    exact mm_retq (v := none) S.1 S.2.1 hr hlocks hA hQ hw (⟨by rw [en_F1, h9]; exact lk_0.symm, hq9, hk9⟩) (Nat.le_of_ble_eq_true rfl) (Nat.le_of_ble_eq_true rfl) d_SE_ask_33
