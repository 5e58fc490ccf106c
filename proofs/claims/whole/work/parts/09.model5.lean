/-! THE SEARCH, as a function: the answer (0: none), how many were asked, the arrays, the code -/
abbrev sQ : Type := Int32 × Nat × sF × Nat
def ab_c (F : sF) (e cc : Nat) : Nat := if F 6 e = 0 then cc else if cc + 100 ≤ 9999 then cc + 100 else 9999
abbrev ab_F1 (F : sF) (na e : Nat) : sF := va_up F 5 (upd (F 5) na (nI e))
abbrev ab_F2 (F : sF) (na e a l : Nat) : sF := va_up (ab_F1 F na e) 7 (en_of (ab_F1 F na e) e a l).2
def ab_r (l a : Nat) : Nat → Nat → sF → Nat → sQ
  | 0, na, F, cc => (0, na, F, cc)
  | k + 1, na, F, cc =>
    if (en_of (ab_F1 F na (cN (F 3 (10 * a + k)))) (cN (F 3 (10 * a + k))) a l).1 = 0 then ab_r l a k (na + 1) (ab_F2 F na (cN (F 3 (10 * a + k))) a l) (ab_c F (cN (F 3 (10 * a + k))) cc)
    else ((en_of (ab_F1 F na (cN (F 3 (10 * a + k)))) (cN (F 3 (10 * a + k))) a l).1, na + 1, ab_F2 F na (cN (F 3 (10 * a + k))) a l, ab_c F (cN (F 3 (10 * a + k))) cc)
def ab_u (l : Nat) : Nat → Nat → Nat → sF → Nat → sQ
  | 0, _, na, F, cc => (0, na, F, cc)
  | f + 1, a, na, F, cc =>
    if a = 0 then (0, na, F, cc)
    else if (ab_r l a (cN (F 2 a)) na F cc).1 = 0 then ab_u l f (cN (F 0 a)) (ab_r l a (cN (F 2 a)) na F cc).2.1 (ab_r l a (cN (F 2 a)) na F cc).2.2.1 (ab_r l a (cN (F 2 a)) na F cc).2.2.2
    else ab_r l a (cN (F 2 a)) na F cc
def ab_k (l f pa : Nat) (q : sQ) : sQ := if q.1 = 0 then ab_u l f pa q.2.1 q.2.2.1 q.2.2.2 else q
theorem ab_u_s {l f a na cc : Nat} {F : sF} (ha : a ≠ 0) : ab_u l (f + 1) a na F cc = ab_k l f (cN (F 0 a)) (ab_r l a (cN (F 2 a)) na F cc) := by
  rw [ab_u, if_neg ha]
  rfl
theorem ab_r_s {l a k na cc e : Nat} {F : sF} (he : F 3 (10 * a + k) = nI e) (hb : e < 2 ^ 31) : ab_r l a (k + 1) na F cc = if (en_of (ab_F1 F na e) e a l).1 = 0 then ab_r l a k (na + 1) (ab_F2 F na e a l) (ab_c F e cc) else ((en_of (ab_F1 F na e) e a l).1, na + 1, ab_F2 F na e a l, ab_c F e cc) := by
  have h : cN (F 3 (10 * a + k)) = e := by rw [he, cN, nI_clamp hb]
  rw [ab_r, h]
def ab_z (en : Int32) (F : sF) : Nat → Nat → (Nat → Int32) → Nat → Int32
  | 0, _, z => z
  | f + 1, a, z => if nI a = en then z else ab_z en F f (cN (F 0 a)) (upd z a 0)
/-- the levels above -/
def ab_n (F : sF) (l : Nat) : Nat → Nat
  | 0 => l
  | j + 1 => cN (F 0 (ab_n F l j))
def sp_abend (k c : Int32) (I : sI) (F : sF) (st : sT) : sR :=
  if ¬ is_ok (I 1) k then (-2, upd I 0 0, F, st)
  else if ¬ is_ok 9999 c then (-4, upd I 0 0, F, st)
  else (fun q : sQ => (if q.1 = 0 then -1 else q.1, upd (upd I 0 0) 5 (nI q.2.1), va_up (va_up q.2.2.1 8 (upd (q.2.2.1 8) q.2.2.2 (q.2.2.1 8 q.2.2.2 + 1))) 2 (ab_z q.1 F 101 (cN k) (F 2)), st)) (ab_u (cN k) 101 (cN k) 0 F (cN c))
theorem en_two {F : sF} {x a l : Nat} (h : ¬ (en_of F x a l).1 = 0) (h4 : F 4 x = 2) : (en_of F x a l).1 = nI l := by
  unfold en_of at h ⊢
  by_cases h6 : F 6 x = 0
  · rw [if_neg (not_not_intro h6)] at h ⊢
    rw [if_neg (by rw [h4]; decide), if_pos h4] at h ⊢
    by_cases h7 : F 7 x = 0
    · rw [if_neg (not_not_intro h7)]
    · rw [if_pos h7] at h
      exact absurd rfl h
  · rw [if_pos h6] at h
    exact absurd rfl h
/-- an end is the level itself, the start, or the one above -/
theorem en_at {F : sF} {x a l : Nat} (h : ¬ (en_of F x a l).1 = 0) : (en_of F x a l).1 = nI a ∨ (en_of F x a l).1 = nI l ∨ (en_of F x a l).1 = F 0 a := by
  unfold en_of at h ⊢
  by_cases h6 : F 6 x = 0
  · rw [if_neg (not_not_intro h6)] at h ⊢
    by_cases h1 : F 4 x = 1
    · rw [if_pos h1]; exact Or.inl rfl
    · rw [if_neg h1] at h ⊢
      by_cases h2 : F 4 x = 2
      · rw [if_pos h2] at h ⊢
        by_cases h7 : F 7 x = 0
        · rw [if_neg (not_not_intro h7)]; exact Or.inr (Or.inl rfl)
        · rw [if_pos h7] at h
          exact absurd rfl h
      · rw [if_neg h2] at h ⊢
        by_cases h3 : F 4 x = 3
        · rw [if_pos h3]; exact Or.inr (Or.inr rfl)
        · rw [if_neg h3] at h
          exact absurd rfl h
  · rw [if_pos h6] at h
    exact absurd rfl h
/-- what a search leaves -/
def ab_I (F F' : sF) : Prop := F' 0 = F 0 ∧ F' 1 = F 1 ∧ F' 2 = F 2 ∧ F' 3 = F 3 ∧ F' 4 = F 4 ∧ F' 6 = F 6 ∧ F' 8 = F 8
theorem ab_Is {F F' : sF} {na e a l : Nat} (h : ab_I F F') : ab_I F (ab_F2 F' na e a l) := ⟨h.1, h.2.1, h.2.2.1, h.2.2.2.1, h.2.2.2.2.1, h.2.2.2.2.2.1, h.2.2.2.2.2.2⟩
theorem ab_cr {F : sF} {e cc : Nat} (h : 1 ≤ cc ∧ cc ≤ 9999) : 1 ≤ ab_c F e cc ∧ ab_c F e cc ≤ 9999 := by
  unfold ab_c
  split
  · exact h
  · split <;> omega
/-- what is known of levels and exits -/
def lv_wf2 (F : sF) (n ne : Nat) : Prop :=
  (F 0 0 = 0 ∧ F 1 0 = 0) ∧ (∀ a, 1 ≤ a → a ≤ n → ∃ q, F 0 a = nI q ∧ q < a ∧ cN (F 1 q) + 1 = cN (F 1 a) ∧ cN (F 1 a) ≤ 20) ∧
  (∀ a, 1 ≤ a → a ≤ n → ∃ z, F 2 a = nI z ∧ z ≤ 10 ∧ ∀ t, t < z → ∃ x, F 3 (10 * a + t) = nI x ∧ 1 ≤ x ∧ x ≤ ne)
theorem ab_nle {F : sF} {n ne l : Nat} (h : lv_wf2 F n ne) (hl : l ≤ n) (hn : n ≤ 100) : ∀ i, ab_n F l i ≤ l ∧ F 0 (ab_n F l i) = nI (ab_n F l (i + 1)) := by
  have key : ∀ a, a ≤ n → F 0 a = nI (cN (F 0 a)) ∧ cN (F 0 a) ≤ a := fun a ha => by
    rcases Nat.eq_zero_or_pos a with q | q
    · subst q
      rw [h.1.1]
      exact ⟨rfl, Nat.le_refl 0⟩
    · obtain ⟨r, h1, h2, -⟩ := h.2.1 a q ha
      rw [h1, cN, nI_clamp (by omega)]
      exact ⟨rfl, by omega⟩
  intro i
  induction i with
  | zero => exact ⟨Nat.le_refl _, (key l hl).1⟩
  | succ i ih =>
    have h1 : ab_n F l (i + 1) ≤ l := Nat.le_trans (key _ (Nat.le_trans ih.1 hl)).2 ih.1
    exact ⟨h1, (key _ (Nat.le_trans h1 hl)).1⟩
theorem ii_m1 (k : Int32) : k + Int32.ofInt (-1) = k - 1 := by
  rw [show Int32.ofInt (-1) = -1 from by decide, Int32.sub_eq_add_neg]

theorem d_MO_abend_0 : decode b_MO_abend 0 = .ok (.aload_n 0, 1) := by decide +kernel
theorem d_MO_abend_1 : decode b_MO_abend 1 = .ok (.iconst 0, 1) := by decide +kernel
theorem d_MO_abend_2 : decode b_MO_abend 2 = .ok (.putfield 60, 3) := by decide +kernel
theorem d_MO_abend_5 : decode b_MO_abend 5 = .ok (.aload_n 0, 1) := by decide +kernel
theorem d_MO_abend_6 : decode b_MO_abend 6 = .ok (.iload_n 1, 1) := by decide +kernel
theorem d_MO_abend_7 : decode b_MO_abend 7 = .ok (.invokevirtual 67, 3) := by decide +kernel
theorem d_MO_abend_10 : decode b_MO_abend 10 = .ok (.ifCond .ne 6, 3) := by decide +kernel
theorem d_MO_abend_13 : decode b_MO_abend 13 = .ok (.bipush (-2), 2) := by decide +kernel
theorem d_MO_abend_15 : decode b_MO_abend 15 = .ok (.ireturn, 1) := by decide +kernel
theorem d_MO_abend_16 : decode b_MO_abend 16 = .ok (.iload_n 2, 1) := by decide +kernel
theorem d_MO_abend_17 : decode b_MO_abend 17 = .ok (.invokestatic 74, 3) := by decide +kernel
theorem d_MO_abend_20 : decode b_MO_abend 20 = .ok (.ifCond .ne 6, 3) := by decide +kernel
theorem d_MO_abend_23 : decode b_MO_abend 23 = .ok (.bipush (-4), 2) := by decide +kernel
theorem d_MO_abend_25 : decode b_MO_abend 25 = .ok (.ireturn, 1) := by decide +kernel
theorem d_MO_abend_26 : decode b_MO_abend 26 = .ok (.aload_n 0, 1) := by decide +kernel
theorem d_MO_abend_27 : decode b_MO_abend 27 = .ok (.iconst 0, 1) := by decide +kernel
theorem d_MO_abend_28 : decode b_MO_abend 28 = .ok (.putfield 77, 3) := by decide +kernel
theorem d_MO_abend_31 : decode b_MO_abend 31 = .ok (.iload_n 2, 1) := by decide +kernel
theorem d_MO_abend_32 : decode b_MO_abend 32 = .ok (.istore_n 3, 1) := by decide +kernel
theorem d_MO_abend_33 : decode b_MO_abend 33 = .ok (.iconst 0, 1) := by decide +kernel
theorem d_MO_abend_34 : decode b_MO_abend 34 = .ok (.istore 4, 2) := by decide +kernel
theorem d_MO_abend_36 : decode b_MO_abend 36 = .ok (.iconst 0, 1) := by decide +kernel
theorem d_MO_abend_37 : decode b_MO_abend 37 = .ok (.istore 5, 2) := by decide +kernel
theorem d_MO_abend_39 : decode b_MO_abend 39 = .ok (.iload_n 1, 1) := by decide +kernel
theorem d_MO_abend_40 : decode b_MO_abend 40 = .ok (.istore 6, 2) := by decide +kernel
theorem d_MO_abend_42 : decode b_MO_abend 42 = .ok (.iload 6, 2) := by decide +kernel
theorem d_MO_abend_44 : decode b_MO_abend 44 = .ok (.ifCond .eq 148, 3) := by decide +kernel
theorem d_MO_abend_47 : decode b_MO_abend 47 = .ok (.iload 4, 2) := by decide +kernel
theorem d_MO_abend_49 : decode b_MO_abend 49 = .ok (.ifCond .ne 143, 3) := by decide +kernel
theorem d_MO_abend_52 : decode b_MO_abend 52 = .ok (.aload_n 0, 1) := by decide +kernel
theorem d_MO_abend_53 : decode b_MO_abend 53 = .ok (.getfield 16, 3) := by decide +kernel
theorem d_MO_abend_56 : decode b_MO_abend 56 = .ok (.iload 6, 2) := by decide +kernel
theorem d_MO_abend_58 : decode b_MO_abend 58 = .ok (.iaload, 1) := by decide +kernel
theorem d_MO_abend_59 : decode b_MO_abend 59 = .ok (.iconst 1, 1) := by decide +kernel
theorem d_MO_abend_60 : decode b_MO_abend 60 = .ok (.isub, 1) := by decide +kernel
theorem d_MO_abend_61 : decode b_MO_abend 61 = .ok (.istore 7, 2) := by decide +kernel
theorem d_MO_abend_63 : decode b_MO_abend 63 = .ok (.iload 7, 2) := by decide +kernel
theorem d_MO_abend_65 : decode b_MO_abend 65 = .ok (.ifCond .lt 115, 3) := by decide +kernel
theorem d_MO_abend_68 : decode b_MO_abend 68 = .ok (.iload 4, 2) := by decide +kernel
theorem d_MO_abend_70 : decode b_MO_abend 70 = .ok (.ifCond .ne 110, 3) := by decide +kernel
theorem d_MO_abend_73 : decode b_MO_abend 73 = .ok (.aload_n 0, 1) := by decide +kernel
theorem d_MO_abend_74 : decode b_MO_abend 74 = .ok (.getfield 19, 3) := by decide +kernel
theorem d_MO_abend_77 : decode b_MO_abend 77 = .ok (.bipush 10, 2) := by decide +kernel
theorem d_MO_abend_79 : decode b_MO_abend 79 = .ok (.iload 6, 2) := by decide +kernel
theorem d_MO_abend_81 : decode b_MO_abend 81 = .ok (.imul, 1) := by decide +kernel
theorem d_MO_abend_82 : decode b_MO_abend 82 = .ok (.iload 7, 2) := by decide +kernel
theorem d_MO_abend_84 : decode b_MO_abend 84 = .ok (.iadd, 1) := by decide +kernel
theorem d_MO_abend_85 : decode b_MO_abend 85 = .ok (.iaload, 1) := by decide +kernel
theorem d_MO_abend_86 : decode b_MO_abend 86 = .ok (.istore 8, 2) := by decide +kernel
theorem d_MO_abend_88 : decode b_MO_abend 88 = .ok (.aload_n 0, 1) := by decide +kernel
theorem d_MO_abend_89 : decode b_MO_abend 89 = .ok (.getfield 25, 3) := by decide +kernel
theorem d_MO_abend_92 : decode b_MO_abend 92 = .ok (.aload_n 0, 1) := by decide +kernel
theorem d_MO_abend_93 : decode b_MO_abend 93 = .ok (.getfield 77, 3) := by decide +kernel
theorem d_MO_abend_96 : decode b_MO_abend 96 = .ok (.iload 8, 2) := by decide +kernel
theorem d_MO_abend_98 : decode b_MO_abend 98 = .ok (.iastore, 1) := by decide +kernel
theorem d_MO_abend_99 : decode b_MO_abend 99 = .ok (.aload_n 0, 1) := by decide +kernel
theorem d_MO_abend_100 : decode b_MO_abend 100 = .ok (.dup, 1) := by decide +kernel
theorem d_MO_abend_101 : decode b_MO_abend 101 = .ok (.getfield 77, 3) := by decide +kernel
theorem d_MO_abend_104 : decode b_MO_abend 104 = .ok (.iconst 1, 1) := by decide +kernel
theorem d_MO_abend_105 : decode b_MO_abend 105 = .ok (.iadd, 1) := by decide +kernel
theorem d_MO_abend_106 : decode b_MO_abend 106 = .ok (.putfield 77, 3) := by decide +kernel
theorem d_MO_abend_109 : decode b_MO_abend 109 = .ok (.aload_n 0, 1) := by decide +kernel
theorem d_MO_abend_110 : decode b_MO_abend 110 = .ok (.iload 8, 2) := by decide +kernel
theorem d_MO_abend_112 : decode b_MO_abend 112 = .ok (.iload 6, 2) := by decide +kernel
theorem d_MO_abend_114 : decode b_MO_abend 114 = .ok (.iload_n 1, 1) := by decide +kernel
theorem d_MO_abend_115 : decode b_MO_abend 115 = .ok (.invokevirtual 80, 3) := by decide +kernel
theorem d_MO_abend_118 : decode b_MO_abend 118 = .ok (.istore 4, 2) := by decide +kernel
theorem d_MO_abend_120 : decode b_MO_abend 120 = .ok (.iload 4, 2) := by decide +kernel
theorem d_MO_abend_122 : decode b_MO_abend 122 = .ok (.ifCond .eq 18, 3) := by decide +kernel
theorem d_MO_abend_125 : decode b_MO_abend 125 = .ok (.aload_n 0, 1) := by decide +kernel
theorem d_MO_abend_126 : decode b_MO_abend 126 = .ok (.getfield 22, 3) := by decide +kernel
theorem d_MO_abend_129 : decode b_MO_abend 129 = .ok (.iload 8, 2) := by decide +kernel
theorem d_MO_abend_131 : decode b_MO_abend 131 = .ok (.iaload, 1) := by decide +kernel
theorem d_MO_abend_132 : decode b_MO_abend 132 = .ok (.iconst 2, 1) := by decide +kernel
theorem d_MO_abend_133 : decode b_MO_abend 133 = .ok (.if_icmp .ne 7, 3) := by decide +kernel
theorem d_MO_abend_136 : decode b_MO_abend 136 = .ok (.iconst 1, 1) := by decide +kernel
theorem d_MO_abend_137 : decode b_MO_abend 137 = .ok (.goto 4, 3) := by decide +kernel
theorem d_MO_abend_140 : decode b_MO_abend 140 = .ok (.iconst 0, 1) := by decide +kernel
theorem d_MO_abend_141 : decode b_MO_abend 141 = .ok (.istore 5, 2) := by decide +kernel
theorem d_MO_abend_143 : decode b_MO_abend 143 = .ok (.aload_n 0, 1) := by decide +kernel
theorem d_MO_abend_144 : decode b_MO_abend 144 = .ok (.getfield 28, 3) := by decide +kernel
theorem d_MO_abend_147 : decode b_MO_abend 147 = .ok (.iload 8, 2) := by decide +kernel
theorem d_MO_abend_149 : decode b_MO_abend 149 = .ok (.baload, 1) := by decide +kernel
theorem d_MO_abend_150 : decode b_MO_abend 150 = .ok (.ifCond .eq 24, 3) := by decide +kernel
theorem d_MO_abend_153 : decode b_MO_abend 153 = .ok (.iload_n 3, 1) := by decide +kernel
theorem d_MO_abend_154 : decode b_MO_abend 154 = .ok (.bipush 100, 2) := by decide +kernel
theorem d_MO_abend_156 : decode b_MO_abend 156 = .ok (.iadd, 1) := by decide +kernel
theorem d_MO_abend_157 : decode b_MO_abend 157 = .ok (.sipush 9999, 3) := by decide +kernel
theorem d_MO_abend_160 : decode b_MO_abend 160 = .ok (.if_icmp .le 9, 3) := by decide +kernel
theorem d_MO_abend_163 : decode b_MO_abend 163 = .ok (.sipush 9999, 3) := by decide +kernel
theorem d_MO_abend_166 : decode b_MO_abend 166 = .ok (.goto 7, 3) := by decide +kernel
theorem d_MO_abend_169 : decode b_MO_abend 169 = .ok (.iload_n 3, 1) := by decide +kernel
theorem d_MO_abend_170 : decode b_MO_abend 170 = .ok (.bipush 100, 2) := by decide +kernel
theorem d_MO_abend_172 : decode b_MO_abend 172 = .ok (.iadd, 1) := by decide +kernel
theorem d_MO_abend_173 : decode b_MO_abend 173 = .ok (.istore_n 3, 1) := by decide +kernel
theorem d_MO_abend_174 : decode b_MO_abend 174 = .ok (.iinc 7 (-1), 3) := by decide +kernel
theorem d_MO_abend_177 : decode b_MO_abend 177 = .ok (.goto (-114), 3) := by decide +kernel
theorem d_MO_abend_180 : decode b_MO_abend 180 = .ok (.aload_n 0, 1) := by decide +kernel
theorem d_MO_abend_181 : decode b_MO_abend 181 = .ok (.getfield 7, 3) := by decide +kernel
theorem d_MO_abend_184 : decode b_MO_abend 184 = .ok (.iload 6, 2) := by decide +kernel
theorem d_MO_abend_186 : decode b_MO_abend 186 = .ok (.iaload, 1) := by decide +kernel
theorem d_MO_abend_187 : decode b_MO_abend 187 = .ok (.istore 6, 2) := by decide +kernel
theorem d_MO_abend_189 : decode b_MO_abend 189 = .ok (.goto (-147), 3) := by decide +kernel
theorem d_MO_abend_192 : decode b_MO_abend 192 = .ok (.aload_n 0, 1) := by decide +kernel
theorem d_MO_abend_193 : decode b_MO_abend 193 = .ok (.getfield 35, 3) := by decide +kernel
theorem d_MO_abend_196 : decode b_MO_abend 196 = .ok (.iload_n 3, 1) := by decide +kernel
theorem d_MO_abend_197 : decode b_MO_abend 197 = .ok (.dup2, 1) := by decide +kernel
theorem d_MO_abend_198 : decode b_MO_abend 198 = .ok (.iaload, 1) := by decide +kernel
theorem d_MO_abend_199 : decode b_MO_abend 199 = .ok (.iconst 1, 1) := by decide +kernel
theorem d_MO_abend_200 : decode b_MO_abend 200 = .ok (.iadd, 1) := by decide +kernel
theorem d_MO_abend_201 : decode b_MO_abend 201 = .ok (.iastore, 1) := by decide +kernel
theorem d_MO_abend_202 : decode b_MO_abend 202 = .ok (.iload_n 1, 1) := by decide +kernel
theorem d_MO_abend_203 : decode b_MO_abend 203 = .ok (.istore 7, 2) := by decide +kernel
theorem d_MO_abend_205 : decode b_MO_abend 205 = .ok (.iload 7, 2) := by decide +kernel
theorem d_MO_abend_207 : decode b_MO_abend 207 = .ok (.iload 4, 2) := by decide +kernel
theorem d_MO_abend_209 : decode b_MO_abend 209 = .ok (.if_icmp .eq 28, 3) := by decide +kernel
theorem d_MO_abend_212 : decode b_MO_abend 212 = .ok (.iload 5, 2) := by decide +kernel
theorem d_MO_abend_214 : decode b_MO_abend 214 = .ok (.ifCond .ne 23, 3) := by decide +kernel
theorem d_MO_abend_217 : decode b_MO_abend 217 = .ok (.aload_n 0, 1) := by decide +kernel
theorem d_MO_abend_218 : decode b_MO_abend 218 = .ok (.getfield 16, 3) := by decide +kernel
theorem d_MO_abend_221 : decode b_MO_abend 221 = .ok (.iload 7, 2) := by decide +kernel
theorem d_MO_abend_223 : decode b_MO_abend 223 = .ok (.iconst 0, 1) := by decide +kernel
theorem d_MO_abend_224 : decode b_MO_abend 224 = .ok (.iastore, 1) := by decide +kernel
theorem d_MO_abend_225 : decode b_MO_abend 225 = .ok (.aload_n 0, 1) := by decide +kernel
theorem d_MO_abend_226 : decode b_MO_abend 226 = .ok (.getfield 7, 3) := by decide +kernel
theorem d_MO_abend_229 : decode b_MO_abend 229 = .ok (.iload 7, 2) := by decide +kernel
theorem d_MO_abend_231 : decode b_MO_abend 231 = .ok (.iaload, 1) := by decide +kernel
theorem d_MO_abend_232 : decode b_MO_abend 232 = .ok (.istore 7, 2) := by decide +kernel
theorem d_MO_abend_234 : decode b_MO_abend 234 = .ok (.goto (-29), 3) := by decide +kernel
theorem d_MO_abend_237 : decode b_MO_abend 237 = .ok (.iload 4, 2) := by decide +kernel
theorem d_MO_abend_239 : decode b_MO_abend 239 = .ok (.ifCond .ne 7, 3) := by decide +kernel
theorem d_MO_abend_242 : decode b_MO_abend 242 = .ok (.iconst (-1), 1) := by decide +kernel
theorem d_MO_abend_243 : decode b_MO_abend 243 = .ok (.goto 5, 3) := by decide +kernel
theorem d_MO_abend_246 : decode b_MO_abend 246 = .ok (.iload 4, 2) := by decide +kernel
theorem d_MO_abend_248 : decode b_MO_abend 248 = .ok (.ireturn, 1) := by decide +kernel
set_option maxHeartbeats 4000000 in
set_option maxRecDepth 100000 in
theorem c_MO_abend (l : Launch) (D : va_G) (dA : Nat → ClassId) (M : mm_M) (x : Nat) (g : Nat → Nat) (I : sI) (F : sF) (st : sT) (k c0 : Int32) (n ne : Nat) (hn : I 1 = nI n) (hN : n ≤ 100) (hNE : ne ≤ 300) (hwf : lv_wf2 F n ne) (hP : mP dA M x g I F st) : mm_Ci l y_MO_abend w_MO_abend ({ frames := 1, cells := 0, slots := 0, locals := 23 }) 0 0 D vC (tyL dA) [.ref x, .int k, .int c0] M (md_post dA x g (sp_abend k c0 I F st)) := by
  intro sz
  refine mm_start (by decide) (Nat.le_of_ble_eq_true rfl) ?_
  intro p e s m below meth c A Q ls hA hQ S hr hlocks hin hK hw hl
  have hl : lv_has ls 9 [(0, .ref x), (1, .int k), (2, .int c0)] := hl
  refine lv_aload_n S.1 S.2.1 d_MO_abend_0 rfl (lv_at hl 0 rfl) ?_
  refine lv_iconst (v := 0) S.1 S.2.1 d_MO_abend_1 (by decide) ?_
  refine mm_put (C := R_MO) (T := T_MO) (N := 22) (ty := .int) (v := .int 0) S hK.1 hw hP.2.1 rfl in_MO t_MO k_MO n_MO 0 (by decide) gw_370 rfl rfl (by decide +kernel) rfl rfl (Nat.le_of_ble_eq_true rfl) d_MO_abend_2 (fun H locs hw => ?_)
  obtain ⟨M, hw, hP⟩ := md_puti (k := 0) (v := 0) (by decide) hw hP
  refine lv_aload_n S.1 S.2.1 d_MO_abend_5 rfl (lv_at hl 0 rfl) ?_
  refine lv_iload_n S.1 S.2.1 d_MO_abend_6 rfl (lv_at hl 1 rfl) ?_
  refine mm_calli hw (mm_runV (a := x) (As := [.int k]) (rest := []) S hK hw (c_MO_isLevel l D dA _ x g (upd I 0 (0)) F st k hP _) bv_MO_isLevel gw_442 hP.2.1 rfl (⟨rfl, rfl, by decide, by decide, by decide, by decide⟩) hl.1 rfl rfl (Nat.le_of_ble_eq_true rfl) d_MO_abend_7) (fun r1 M2 H locs hp hw => ?_)
  rw [hp.1] at hw
  rcases hp.2 with ⟨rfl, hc3⟩ | ⟨rfl, hc3⟩
  · have hc3 : is_ok (I 1) (k) := hc3
    obtain ⟨j4, ekj4, hlj4, hhj4, enj4⟩ := is_of (N := n) hn (by omega) hc3
    refine lv_if_ne (tgt := 16) S.1 S.2.1 d_MO_abend_10 (by decide) (fun c10 => ?_) (fun c10 => absurd c10 (by decide))
    refine lv_iload_n S.1 S.2.1 d_MO_abend_16 rfl (lv_at hl 2 rfl) ?_
    refine mm_calli hw (mm_runS (As := [.int c0]) (rest := []) S hK hw (c_MO_isCode l D dA _ c0 _) bs_MO_isCode gw_458 (⟨rfl, rfl, by decide, by decide, by decide, by decide⟩) hl.1 rfl rfl (Nat.le_of_ble_eq_true rfl) d_MO_abend_17) (fun r5 M6 H locs hp hw => ?_)
    rw [hp.1] at hw
    rcases hp.2 with ⟨rfl, hc7⟩ | ⟨rfl, hc7⟩
    · obtain ⟨j8, ekj8, hlj8, hhj8, enj8⟩ := is_of (N := 9999) rfl (by omega) hc7
      refine lv_if_ne (tgt := 26) S.1 S.2.1 d_MO_abend_20 (by decide) (fun c20 => ?_) (fun c20 => absurd c20 (by decide))
      refine lv_aload_n S.1 S.2.1 d_MO_abend_26 rfl (lv_at hl 0 rfl) ?_
      refine lv_iconst (v := 0) S.1 S.2.1 d_MO_abend_27 (by decide) ?_
      refine mm_put (C := R_MO) (T := T_MO) (N := 22) (ty := .int) (v := .int 0) S hK.1 hw hP.2.1 rfl in_MO t_MO k_MO n_MO 5 (by decide) gw_375 rfl rfl (by decide +kernel) rfl rfl (Nat.le_of_ble_eq_true rfl) d_MO_abend_28 (fun H locs hw => ?_)
      obtain ⟨M, hw, hP⟩ := md_puti (k := 5) (v := 0) (by decide) hw hP
      obtain ⟨lv, ek, hlv1, hlvn, hcl⟩ : ∃ lv, k = nI lv ∧ 1 ≤ lv ∧ lv ≤ n ∧ cN k = lv := ⟨j4, ekj4, hlj4, hhj4, enj4⟩
      obtain ⟨cc0, ec, hc1, hc2, hcc⟩ : ∃ cc, c0 = nI cc ∧ 1 ≤ cc ∧ cc ≤ 9999 ∧ cN c0 = cc := ⟨j8, ekj8, hlj8, hhj8, enj8⟩
      subst ek; subst ec
      have hab := ab_nle hwf hlvn hN
      have hf10 : cN (F 1 0) = 0 := by rw [hwf.1.2]; rfl
      have hd20 : 0 + 10 * cN (F 1 lv) ≤ 200 + 10 * cN (F 1 0) := by
        obtain ⟨_, _, _, _, h9⟩ := hwf.2.1 lv hlv1 hlvn
        omega
      have hS : sp_abend (nI lv) (nI cc0) I F st = (fun q : sQ => (if q.1 = 0 then -1 else q.1, upd (upd I 0 0) 5 (nI q.2.1), va_up (va_up q.2.2.1 8 (upd (q.2.2.1 8) q.2.2.2 (q.2.2.1 8 q.2.2.2 + 1))) 2 (ab_z q.1 F 101 lv (F 2)), st)) (ab_u lv 101 lv 0 F cc0) := by
        simp only [sp_abend, eq_false c10, eq_false c20, eq_true hc3, eq_true hc7, not_true_eq_false, not_false_eq_true, and_true, true_and, and_false, false_and, and_self, or_true, true_or, or_false, false_or, or_self, ↓reduceIte, hcl, hcc]
      have J : ∀ (na cc jj : Nat) (F' : sF) (en rts : Int32) (M : mm_M) (H : Heap) (locs : List Loc) (ls : Array Slot), ab_I F F' → 1 ≤ cc → cc ≤ 9999 → jj ≤ 100 → en = nI (ab_n F lv jj) → (rts = 0 ∨ en = nI lv) → mm_w D vC A s.heap M H locs → mP dA M x g (upd (upd I 0 0) 5 (nI na)) F' st → ab_u lv 101 lv 0 F cc0 = (en, na, F', cc) → lv_has ls 9 [(3, .int (nI cc)), (4, .int en), (5, .int rts), (0, .ref x), (1, .int (nI lv)), (2, .int (nI cc0))] → W p l e ({ frames := 1, cells := 0, slots := 0, locals := 23 }) s m [.ref x, .int (nI lv), .int (nI cc0)].toArray below meth c H locs 0 0 Q (F0 m 192 ls []) := by
        intro na cc jj F' en rts M H locs ls hI hc3 hc4 hjj hen hrt hw hP hs hl
        refine lv_aload_n S.1 S.2.1 d_MO_abend_192 rfl (lv_at hl 3 rfl) ?_
        refine mm_get (C := R_MO) (T := T_MO) (N := 22) (v := .ref (g 8)) S hK.1 hw hP.2.1 rfl in_MO 14 (by decide) gw_384 rfl rfl d_MO_abend_193 ?_
        refine lv_iload_n S.1 S.2.1 d_MO_abend_196 rfl (lv_at hl 0 rfl) ?_
        refine lv_dup2_11 S.1 S.2.1 d_MO_abend_197 rfl rfl ?_
        refine mn_iald (j := cc) (n := 10000) (f := F' 8) S hK.1 hw 0 (mP_a (k := 8) (F := F') hP (by decide) (by decide)) rfl (rfl) (by omega) (by decide) d_MO_abend_198 ?_
        refine lv_iconst (v := 1) S.1 S.2.1 d_MO_abend_199 (by decide) ?_
        refine lv_iadd S.1 S.2.1 d_MO_abend_200 ?_
        refine mn_iast (j := cc) (n := 10000) (f := F' 8) S hK.1 hw 0 (mP_a (k := 8) (F := F') hP (by decide) (by decide)) rfl (rfl) (by omega) (by decide) d_MO_abend_201 (fun H locs hw => ?_)
        obtain ⟨M, hw, hP⟩ := md_ast (k := 8) (j := cc) (v := (((F' 8) (cc)) + 1)) (F := F') (by decide) (by decide) hw hP
        refine lv_iload_n S.1 S.2.1 d_MO_abend_202 rfl (lv_at hl 4 rfl) ?_
        refine lv_istore (lv' := [(7, .int (nI lv)), (3, .int (nI cc)), (4, .int en), (5, .int rts), (0, .ref x), (1, .int (nI lv)), (2, .int (nI cc0))]) S.1 S.2.1 d_MO_abend_203 hl (by decide) rfl (fun ls hl => ?_)
        have hP : mP dA M x g (upd (upd I 0 0) 5 (nI na)) (va_up (va_up F' 8 (upd (F' 8) cc (F' 8 cc + 1))) 2 (F 2)) st := by rw [← hI.2.2.1, show F' 2 = (va_up F' 8 (upd (F' 8) cc (F' 8 cc + 1))) 2 from rfl, va_up_same]; exact hP
        have L : ∀ (mm i f : Nat) (z : Nat → Int32) (M : mm_M) (H : Heap) (locs : List Loc) (ls : Array Slot), i + mm = jj → mm < f → (rts = 0 ∨ nI (ab_n F lv i) = en) → mm_w D vC A s.heap M H locs → mP dA M x g (upd (upd I 0 0) 5 (nI na)) (va_up (va_up F' 8 (upd (F' 8) cc (F' 8 cc + 1))) 2 z) st → ab_z en F 101 lv (F 2) = ab_z en F f (ab_n F lv i) z → lv_has ls 9 [(3, .int (nI cc)), (4, .int en), (5, .int rts), (7, .int (nI (ab_n F lv i))), (0, .ref x), (1, .int (nI lv)), (2, .int (nI cc0))] → W p l e ({ frames := 1, cells := 0, slots := 0, locals := 23 }) s m [.ref x, .int (nI lv), .int (nI cc0)].toArray below meth c H locs 0 0 Q (F0 m 205 ls []) := by
          intro mm
          induction mm with
          | zero =>
            intro i f z M H locs ls hi hf hr9 hw hP hz hl
            obtain ⟨f, rfl⟩ : ∃ f0, f = f0 + 1 := ⟨f - 1, by omega⟩
            obtain rfl : i = jj := by omega
            refine lv_iload S.1 S.2.1 d_MO_abend_205 (lv_at hl 3 rfl) ?_
            refine lv_iload S.1 S.2.1 d_MO_abend_207 (lv_at hl 1 rfl) ?_
            refine lv_icmp_eq (tgt := 237) S.1 S.2.1 d_MO_abend_209 (by decide) (fun c209 => ?_) (fun c209 => absurd hen.symm c209)
            refine lv_iload S.1 S.2.1 d_MO_abend_237 (lv_at hl 1 rfl) ?_
            refine lv_if_ne (tgt := 246) S.1 S.2.1 d_MO_abend_239 (by decide) (fun c239 => ?_) (fun c239 => ?_)
            · refine lv_iload S.1 S.2.1 d_MO_abend_246 (lv_at hl 1 rfl) ?_
              exact mm_reti S.1 S.2.1 hr hlocks hA hQ hw (md_done hP (hS.trans (by rw [hs]; show (_, _, _, _) = (_, _, _, _); rw [hz, ab_z, if_pos (hen.symm)]; simp only [eq_false c239, ↓reduceIte]))) (Nat.le_of_ble_eq_true rfl) (Nat.le_of_ble_eq_true rfl) d_MO_abend_248
            · refine lv_iconst (v := (-1)) S.1 S.2.1 d_MO_abend_242 (by decide) ?_
              refine lv_goto (tgt := 248) S.1 S.2.1 d_MO_abend_243 (by decide) ?_
              exact mm_reti S.1 S.2.1 hr hlocks hA hQ hw (md_done hP (hS.trans (by rw [hs]; show (_, _, _, _) = (_, _, _, _); rw [hz, ab_z, if_pos (hen.symm)]; simp only [eq_true c239, ↓reduceIte]))) (Nat.le_of_ble_eq_true rfl) (Nat.le_of_ble_eq_true rfl) d_MO_abend_248
          | succ mm ih =>
            intro i f z M H locs ls hi hf hr9 hw hP hz hl
            obtain ⟨f, rfl⟩ : ∃ f0, f = f0 + 1 := ⟨f - 1, by omega⟩
            refine lv_iload S.1 S.2.1 d_MO_abend_205 (lv_at hl 3 rfl) ?_
            refine lv_iload S.1 S.2.1 d_MO_abend_207 (lv_at hl 1 rfl) ?_
            refine lv_icmp_eq (tgt := 237) S.1 S.2.1 d_MO_abend_209 (by decide) (fun c209 => ?_) (fun c209 => ?_)
            · refine lv_iload S.1 S.2.1 d_MO_abend_237 (lv_at hl 1 rfl) ?_
              refine lv_if_ne (tgt := 246) S.1 S.2.1 d_MO_abend_239 (by decide) (fun c239 => ?_) (fun c239 => ?_)
              · refine lv_iload S.1 S.2.1 d_MO_abend_246 (lv_at hl 1 rfl) ?_
                exact mm_reti S.1 S.2.1 hr hlocks hA hQ hw (md_done hP (hS.trans (by rw [hs]; show (_, _, _, _) = (_, _, _, _); rw [hz, ab_z, if_pos c209]; simp only [eq_false c239, ↓reduceIte]))) (Nat.le_of_ble_eq_true rfl) (Nat.le_of_ble_eq_true rfl) d_MO_abend_248
              · refine lv_iconst (v := (-1)) S.1 S.2.1 d_MO_abend_242 (by decide) ?_
                refine lv_goto (tgt := 248) S.1 S.2.1 d_MO_abend_243 (by decide) ?_
                exact mm_reti S.1 S.2.1 hr hlocks hA hQ hw (md_done hP (hS.trans (by rw [hs]; show (_, _, _, _) = (_, _, _, _); rw [hz, ab_z, if_pos c209]; simp only [eq_true c239, ↓reduceIte]))) (Nat.le_of_ble_eq_true rfl) (Nat.le_of_ble_eq_true rfl) d_MO_abend_248
            · refine lv_iload S.1 S.2.1 d_MO_abend_212 (lv_at hl 2 rfl) ?_
              refine lv_if_ne (tgt := 237) S.1 S.2.1 d_MO_abend_214 (by decide) (fun c214 => absurd (hr9.resolve_right c209) c214) (fun c214 => ?_)
              have hr0 : rts = 0 := hr9.resolve_right c209
              refine lv_aload_n S.1 S.2.1 d_MO_abend_217 rfl (lv_at hl 4 rfl) ?_
              refine mm_get (C := R_MO) (T := T_MO) (N := 22) (v := .ref (g 2)) S hK.1 hw hP.2.1 rfl in_MO 8 (by decide) gw_378 rfl rfl d_MO_abend_218 ?_
              refine lv_iload S.1 S.2.1 d_MO_abend_221 (lv_at hl 3 rfl) ?_
              refine lv_iconst (v := 0) S.1 S.2.1 d_MO_abend_223 (by decide) ?_
              refine mn_iast (j := ab_n F lv i) (n := 101) (f := z) S hK.1 hw 0 (mP_a (k := 2) (F := (va_up (va_up F' 8 (upd (F' 8) cc (F' 8 cc + 1))) 2 z)) hP (by decide) (by decide)) rfl (rfl) (by have := (hab i).1; omega) (by decide) d_MO_abend_224 (fun H locs hw => ?_)
              obtain ⟨M, hw, hP⟩ := md_ast (k := 2) (j := ab_n F lv i) (v := 0) (F := (va_up (va_up F' 8 (upd (F' 8) cc (F' 8 cc + 1))) 2 z)) (by decide) (by decide) hw hP
              refine lv_aload_n S.1 S.2.1 d_MO_abend_225 rfl (lv_at hl 4 rfl) ?_
              refine mm_get (C := R_MO) (T := T_MO) (N := 22) (v := .ref (g 0)) S hK.1 hw hP.2.1 rfl in_MO 6 (by decide) gw_376 rfl rfl d_MO_abend_226 ?_
              refine lv_iload S.1 S.2.1 d_MO_abend_229 (lv_at hl 3 rfl) ?_
              refine mn_iald (j := ab_n F lv i) (n := 101) (f := F' 0) S hK.1 hw 0 (mP_a (k := 0) (F := (va_up (va_up (va_up F' 8 (upd (F' 8) cc (F' 8 cc + 1))) 2 z) 2 (upd (z) (ab_n F lv i) (0)))) hP (by decide) (by decide)) rfl (rfl) (by have := (hab i).1; omega) (by decide) d_MO_abend_231 ?_
              rw [show F' 0 (ab_n F lv i) = nI (ab_n F lv (i + 1)) from by rw [hI.1]; exact (hab i).2]
              refine lv_istore (lv' := [(7, .int (nI (ab_n F lv (i + 1)))), (3, .int (nI cc)), (4, .int en), (5, .int rts), (0, .ref x), (1, .int (nI lv)), (2, .int (nI cc0))]) S.1 S.2.1 d_MO_abend_232 hl (by decide) rfl (fun ls hl => ?_)
              refine lv_goto (tgt := 205) S.1 S.2.1 d_MO_abend_234 (by decide) ?_
              rw [bx_uu, va_up_self] at hP
              exact ih (i + 1) f (upd z (ab_n F lv i) 0) M H locs ls (by omega) (by omega) (Or.inl hr0) hw hP (hz.trans (by rw [ab_z, if_neg c209]; rfl)) (lv_sub hl [1, 2, 3, 0, 4, 5, 6] rfl)
        exact L jj 0 101 (F 2) M H locs ls (by omega) (by omega) (hrt.elim Or.inl (fun q => Or.inr q.symm)) hw hP rfl (lv_sub hl [1, 2, 3, 0, 4, 5, 6] rfl)
      refine lv_iload_n S.1 S.2.1 d_MO_abend_31 rfl (lv_at hl 2 rfl) ?_
      refine lv_istore_n (lv' := [(3, .int (nI cc0)), (0, .ref x), (1, .int (nI lv)), (2, .int (nI cc0))]) S.1 S.2.1 d_MO_abend_32 rfl hl (by decide) rfl (fun ls hl => ?_)
      refine lv_iconst (v := 0) S.1 S.2.1 d_MO_abend_33 (by decide) ?_
      refine lv_istore (lv' := [(4, .int 0), (3, .int (nI cc0)), (0, .ref x), (1, .int (nI lv)), (2, .int (nI cc0))]) S.1 S.2.1 d_MO_abend_34 hl (by decide) rfl (fun ls hl => ?_)
      refine lv_iconst (v := 0) S.1 S.2.1 d_MO_abend_36 (by decide) ?_
      refine lv_istore (lv' := [(5, .int 0), (4, .int 0), (3, .int (nI cc0)), (0, .ref x), (1, .int (nI lv)), (2, .int (nI cc0))]) S.1 S.2.1 d_MO_abend_37 hl (by decide) rfl (fun ls hl => ?_)
      refine lv_iload_n S.1 S.2.1 d_MO_abend_39 rfl (lv_at hl 4 rfl) ?_
      refine lv_istore (lv' := [(6, .int (nI lv)), (5, .int 0), (4, .int 0), (3, .int (nI cc0)), (0, .ref x), (1, .int (nI lv)), (2, .int (nI cc0))]) S.1 S.2.1 d_MO_abend_40 hl (by decide) rfl (fun ls hl => ?_)
      have LO : ∀ (f a na cc j : Nat) (F' : sF) (M : mm_M) (H : Heap) (locs : List Loc) (ls : Array Slot), a < f → a ≤ n → a = ab_n F lv j → j + a ≤ lv → na + 10 * cN (F 1 a) ≤ 200 + 10 * cN (F 1 0) → ab_I F F' → 1 ≤ cc → cc ≤ 9999 → mm_w D vC A s.heap M H locs → mP dA M x g (upd (upd I 0 0) 5 (nI na)) F' st → ab_u lv 101 lv 0 F cc0 = ab_u lv f a na F' cc → lv_has ls 9 [(3, .int (nI cc)), (4, .int 0), (5, .int 0), (6, .int (nI a)), (0, .ref x), (1, .int (nI lv)), (2, .int (nI cc0))] → W p l e ({ frames := 1, cells := 0, slots := 0, locals := 23 }) s m [.ref x, .int (nI lv), .int (nI cc0)].toArray below meth c H locs 0 0 Q (F0 m 42 ls []) := by
        intro f
        induction f with
        | zero => exact fun a na cc j F' M H locs ls h => absurd h (Nat.not_lt_zero _)
        | succ f ihO =>
          intro a na cc j F' M H locs ls haf han haj hja hna hI hc3 hc4 hw hP hs hl
          refine lv_iload S.1 S.2.1 d_MO_abend_42 (lv_at hl 3 rfl) ?_
          refine lv_if_eq (tgt := 192) S.1 S.2.1 d_MO_abend_44 (by decide) (fun c44 => ?_) (fun c44 => ?_)
          · have c44' : a = 0 := by
              rcases Nat.eq_zero_or_pos a with q | q
              · exact q
              · exact absurd c44 (nI_ne0 q (by omega))
            rw [c44'] at hs
            exact J na cc j F' 0 0 M H locs ls hI hc3 hc4 (by omega) (by rw [← haj, c44']; rfl) (Or.inl rfl) hw hP (hs.trans (by rw [ab_u, if_pos rfl])) (lv_sub hl [0, 1, 2, 4, 5, 6] rfl)
          · have ha0 : a ≠ 0 := fun q => c44 (by rw [q]; rfl)
            obtain ⟨pa, hpe, hpa, hpd, hp20⟩ := hwf.2.1 a (by omega) han
            obtain ⟨z, hze, hz10, hzr⟩ := hwf.2.2 a (by omega) han
            have hpc : cN (F 0 a) = pa := by rw [hpe, cN, nI_clamp (by omega)]
            have hzc : cN (F 2 a) = z := by rw [hze, cN, nI_clamp (by omega)]
            have hs : ab_u lv 101 lv 0 F cc0 = ab_k lv f (cN (F 0 a)) (ab_r lv a z na F' cc) := hs.trans (by rw [ab_u_s ha0, hI.1, hI.2.2.1, hzc])
            refine lv_iload S.1 S.2.1 d_MO_abend_47 (lv_at hl 1 rfl) ?_
            refine lv_if_ne (tgt := 192) S.1 S.2.1 d_MO_abend_49 (by decide) (fun c49 => absurd c49 (by decide)) (fun c49 => ?_)
            refine lv_aload_n S.1 S.2.1 d_MO_abend_52 rfl (lv_at hl 4 rfl) ?_
            refine mm_get (C := R_MO) (T := T_MO) (N := 22) (v := .ref (g 2)) S hK.1 hw hP.2.1 rfl in_MO 8 (by decide) gw_378 rfl rfl d_MO_abend_53 ?_
            refine lv_iload S.1 S.2.1 d_MO_abend_56 (lv_at hl 3 rfl) ?_
            refine mn_iald (j := a) (n := 101) (f := F' 2) S hK.1 hw 0 (mP_a (k := 2) (F := F') hP (by decide) (by decide)) rfl (rfl) (by omega) (by decide) d_MO_abend_58 ?_
            rw [show F' 2 a = nI z from by rw [hI.2.2.1]; exact hze]
            refine lv_iconst (v := 1) S.1 S.2.1 d_MO_abend_59 (by decide) ?_
            refine lv_isub S.1 S.2.1 d_MO_abend_60 ?_
            refine lv_istore (lv' := [(7, .int ((nI z) - 1)), (3, .int (nI cc)), (4, .int 0), (5, .int 0), (6, .int (nI a)), (0, .ref x), (1, .int (nI lv)), (2, .int (nI cc0))]) S.1 S.2.1 d_MO_abend_61 hl (by decide) rfl (fun ls hl => ?_)
            have LI : ∀ (kk na cc : Nat) (F' : sF) (M : mm_M) (H : Heap) (locs : List Loc) (ls : Array Slot), kk ≤ z → na + kk + 10 * cN (F 1 pa) ≤ 200 + 10 * cN (F 1 0) → ab_I F F' → 1 ≤ cc → cc ≤ 9999 → mm_w D vC A s.heap M H locs → mP dA M x g (upd (upd I 0 0) 5 (nI na)) F' st → ab_u lv 101 lv 0 F cc0 = ab_k lv f (cN (F 0 a)) (ab_r lv a kk na F' cc) → lv_has ls 9 [(3, .int (nI cc)), (4, .int 0), (5, .int 0), (6, .int (nI a)), (7, .int (nI kk - 1)), (0, .ref x), (1, .int (nI lv)), (2, .int (nI cc0))] → W p l e ({ frames := 1, cells := 0, slots := 0, locals := 23 }) s m [.ref x, .int (nI lv), .int (nI cc0)].toArray below meth c H locs 0 0 Q (F0 m 63 ls []) := by
              clear hs hna hI hc3 hc4 hw hP hl
              intro kk
              induction kk with
              | zero =>
                intro na cc F' M H locs ls hkz hna hI hc3 hc4 hw hP hs hl
                refine lv_iload S.1 S.2.1 d_MO_abend_63 (lv_at hl 4 rfl) ?_
                refine lv_if_lt (tgt := 180) S.1 S.2.1 d_MO_abend_65 (by decide) (fun c65 => ?_) (fun c65 => absurd (by decide) c65)
                refine lv_aload_n S.1 S.2.1 d_MO_abend_180 rfl (lv_at hl 5 rfl) ?_
                refine mm_get (C := R_MO) (T := T_MO) (N := 22) (v := .ref (g 0)) S hK.1 hw hP.2.1 rfl in_MO 6 (by decide) gw_376 rfl rfl d_MO_abend_181 ?_
                refine lv_iload S.1 S.2.1 d_MO_abend_184 (lv_at hl 3 rfl) ?_
                refine mn_iald (j := a) (n := 101) (f := F' 0) S hK.1 hw 0 (mP_a (k := 0) (F := F') hP (by decide) (by decide)) rfl (rfl) (by omega) (by decide) d_MO_abend_186 ?_
                rw [show ((F' 0) (a)) = F 0 a from congrFun hI.1 a]
                refine lv_istore (lv' := [(6, .int (F 0 a)), (3, .int (nI cc)), (4, .int 0), (5, .int 0), (7, .int (nI 0 - 1)), (0, .ref x), (1, .int (nI lv)), (2, .int (nI cc0))]) S.1 S.2.1 d_MO_abend_187 hl (by decide) rfl (fun ls hl => ?_)
                refine lv_goto (tgt := 42) S.1 S.2.1 d_MO_abend_189 (by decide) ?_
                exact ihO pa na cc (j + 1) F' M H locs ls (by omega) (by omega) (by rw [ab_n, ← haj, hpc]) (by omega) (by omega) hI hc3 hc4 hw hP (hs.trans (by rw [ab_r, hpc]; rfl)) (by rw [← hpe]; exact lv_sub hl [1, 2, 3, 0, 5, 6, 7] rfl)
              | succ kk ihI =>
                intro na cc F' M H locs ls hkz hna hI hc3 hc4 hw hP hs hl
                rw [nI_pred] at hl
                refine lv_iload S.1 S.2.1 d_MO_abend_63 (lv_at hl 4 rfl) ?_
                refine lv_if_lt (tgt := 180) S.1 S.2.1 d_MO_abend_65 (by decide) (fun c65 => absurd c65 (nI_pos (by omega))) (fun c65 => ?_)
                refine lv_iload S.1 S.2.1 d_MO_abend_68 (lv_at hl 1 rfl) ?_
                refine lv_if_ne (tgt := 180) S.1 S.2.1 d_MO_abend_70 (by decide) (fun c70 => absurd c70 (by decide)) (fun c70 => ?_)
                refine lv_aload_n S.1 S.2.1 d_MO_abend_73 rfl (lv_at hl 5 rfl) ?_
                refine mm_get (C := R_MO) (T := T_MO) (N := 22) (v := .ref (g 3)) S hK.1 hw hP.2.1 rfl in_MO 9 (by decide) gw_379 rfl rfl d_MO_abend_74 ?_
                refine lv_bipush (v := 10) S.1 S.2.1 d_MO_abend_77 (by decide) ?_
                refine lv_iload S.1 S.2.1 d_MO_abend_79 (lv_at hl 3 rfl) ?_
                refine lv_imul S.1 S.2.1 d_MO_abend_81 ?_
                refine lv_iload S.1 S.2.1 d_MO_abend_82 (lv_at hl 4 rfl) ?_
                refine lv_iadd S.1 S.2.1 d_MO_abend_84 ?_
                refine mn_iald (j := 10 * a + kk) (n := 1010) (f := F' 3) S hK.1 hw 0 (mP_a (k := 3) (F := F') hP (by decide) (by decide)) rfl (by rw [show (10 : Int32) = nI 10 from rfl, pk_mul, nI_add]) (by omega) (by decide) d_MO_abend_85 ?_
                obtain ⟨x0, hx0F, hx01, hx0n⟩ := hzr kk (by omega)
                have hx0 : F' 3 (10 * a + kk) = nI x0 := by rw [hI.2.2.2.1]; exact hx0F
                rw [hx0]
                refine lv_istore (lv' := [(8, .int (nI x0)), (3, .int (nI cc)), (4, .int 0), (5, .int 0), (6, .int (nI a)), (7, .int (nI kk)), (0, .ref x), (1, .int (nI lv)), (2, .int (nI cc0))]) S.1 S.2.1 d_MO_abend_86 hl (by decide) rfl (fun ls hl => ?_)
                refine lv_aload_n S.1 S.2.1 d_MO_abend_88 rfl (lv_at hl 6 rfl) ?_
                refine mm_get (C := R_MO) (T := T_MO) (N := 22) (v := .ref (g 5)) S hK.1 hw hP.2.1 rfl in_MO 11 (by decide) gw_381 rfl rfl d_MO_abend_89 ?_
                refine lv_aload_n S.1 S.2.1 d_MO_abend_92 rfl (lv_at hl 6 rfl) ?_
                refine mm_get (C := R_MO) (T := T_MO) (N := 22) (v := .int (nI na)) S hK.1 hw hP.2.1 rfl in_MO 5 (by decide) gw_375 rfl rfl d_MO_abend_93 ?_
                refine lv_iload S.1 S.2.1 d_MO_abend_96 (lv_at hl 0 rfl) ?_
                refine mn_iast (j := na) (n := 301) (f := F' 5) S hK.1 hw 0 (mP_a (k := 5) (F := F') hP (by decide) (by decide)) rfl (rfl) (by omega) (by decide) d_MO_abend_98 (fun H locs hw => ?_)
                obtain ⟨M, hw, hP⟩ := md_ast (k := 5) (j := na) (v := (nI x0)) (F := F') (by decide) (by decide) hw hP
                refine lv_aload_n S.1 S.2.1 d_MO_abend_99 rfl (lv_at hl 6 rfl) ?_
                refine lv_dup S.1 S.2.1 d_MO_abend_100 rfl ?_
                refine mm_get (C := R_MO) (T := T_MO) (N := 22) (v := .int (nI na)) S hK.1 hw hP.2.1 rfl in_MO 5 (by decide) gw_375 rfl rfl d_MO_abend_101 ?_
                refine lv_iconst (v := 1) S.1 S.2.1 d_MO_abend_104 (by decide) ?_
                refine lv_iadd S.1 S.2.1 d_MO_abend_105 ?_
                refine mm_put (C := R_MO) (T := T_MO) (N := 22) (ty := .int) (v := .int ((nI na) + 1)) S hK.1 hw hP.2.1 rfl in_MO t_MO k_MO n_MO 5 (by decide) gw_375 rfl rfl (by decide +kernel) rfl rfl (Nat.le_of_ble_eq_true rfl) d_MO_abend_106 (fun H locs hw => ?_)
                obtain ⟨M, hw, hP⟩ := md_puti (k := 5) (v := ((nI na) + 1)) (by decide) hw hP
                rw [up_uu, nI_1] at hP
                refine lv_aload_n S.1 S.2.1 d_MO_abend_109 rfl (lv_at hl 6 rfl) ?_
                refine lv_iload S.1 S.2.1 d_MO_abend_110 (lv_at hl 0 rfl) ?_
                refine lv_iload S.1 S.2.1 d_MO_abend_112 (lv_at hl 4 rfl) ?_
                refine lv_iload_n S.1 S.2.1 d_MO_abend_114 rfl (lv_at hl 7 rfl) ?_
                refine mm_calli hw (mm_runV (a := x) (As := [.int (nI x0), .int (nI a), .int (nI lv)]) (rest := []) S hK hw (c_MO_endOf l D dA _ x g (upd (upd I 0 0) 5 (nI (na + 1))) (ab_F1 F' na x0) st x0 a lv (by omega) (by omega) hP _) bv_MO_endOf gw_461 hP.2.1 rfl (⟨rfl, rfl, by decide, by decide, by decide, by decide⟩) hl.1 rfl rfl (Nat.le_of_ble_eq_true rfl) d_MO_abend_115) (fun r9 M10 H locs hp hw => ?_)
                obtain ⟨rfl, hP⟩ := hp
                refine lv_istore (lv' := [(4, .int (en_of (ab_F1 F' na x0) x0 a lv).1), (8, .int (nI x0)), (3, .int (nI cc)), (5, .int 0), (6, .int (nI a)), (7, .int (nI kk)), (0, .ref x), (1, .int (nI lv)), (2, .int (nI cc0))]) S.1 S.2.1 d_MO_abend_118 hl (by decide) rfl (fun ls hl => ?_)
                refine lv_iload S.1 S.2.1 d_MO_abend_120 (lv_at hl 0 rfl) ?_
                refine lv_if_eq (tgt := 140) S.1 S.2.1 d_MO_abend_122 (by decide) (fun c122 => ?_) (fun c122 => ?_)
                · refine lv_iconst (v := 0) S.1 S.2.1 d_MO_abend_140 (by decide) ?_
                  refine lv_istore (lv' := [(5, .int 0), (4, .int (en_of (ab_F1 F' na x0) x0 a lv).1), (8, .int (nI x0)), (3, .int (nI cc)), (6, .int (nI a)), (7, .int (nI kk)), (0, .ref x), (1, .int (nI lv)), (2, .int (nI cc0))]) S.1 S.2.1 d_MO_abend_141 hl (by decide) rfl (fun ls hl => ?_)
                  refine lv_aload_n S.1 S.2.1 d_MO_abend_143 rfl (lv_at hl 6 rfl) ?_
                  refine mm_get (C := R_MO) (T := T_MO) (N := 22) (v := .ref (g 6)) S hK.1 hw hP.2.1 rfl in_MO 12 (by decide) gw_382 rfl rfl d_MO_abend_144 ?_
                  refine lv_iload S.1 S.2.1 d_MO_abend_147 (lv_at hl 2 rfl) ?_
                  refine mn_zald (j := x0) (n := 301) (f := F' 6) S hK.1 hw 2 (mP_a (k := 6) (F := (ab_F2 F' na x0 a lv)) hP (by decide) (by decide)) rfl (rfl) (by omega) (by decide) d_MO_abend_149 ?_
                  refine lv_if_eq (tgt := 174) S.1 S.2.1 d_MO_abend_150 (by decide) (fun c150 => ?_) (fun c150 => ?_)
                  · have ecc : nI (ab_c F' x0 cc) = (nI cc) := by
                      rw [ab_c, if_pos c150]
                    have hl : lv_has ls 9 [(5, .int 0), (4, .int (en_of (ab_F1 F' na x0) x0 a lv).1), (8, .int (nI x0)), (3, .int (nI (ab_c F' x0 cc))), (6, .int (nI a)), (7, .int (nI kk)), (0, .ref x), (1, .int (nI lv)), (2, .int (nI cc0))] := by rw [ecc]; exact hl
                    refine lv_iinc (v := (nI kk - 1)) (lv' := [(7, .int (nI kk - 1)), (5, .int 0), (4, .int (en_of (ab_F1 F' na x0) x0 a lv).1), (8, .int (nI x0)), (3, .int (nI (ab_c F' x0 cc))), (6, .int (nI a)), (0, .ref x), (1, .int (nI lv)), (2, .int (nI cc0))]) S.1 S.2.1 d_MO_abend_174 hl (k := 5) rfl (ii_m1 _) (by decide) rfl (fun ls hl => ?_)
                    refine lv_goto (tgt := 63) S.1 S.2.1 d_MO_abend_177 (by decide) ?_
                    rw [c122] at hl
                    exact ihI (na + 1) (ab_c F' x0 cc) (ab_F2 F' na x0 a lv) _ H locs ls (by omega) (by omega) (ab_Is hI) (ab_cr ⟨hc3, hc4⟩).1 (ab_cr ⟨hc3, hc4⟩).2 hw hP (hs.trans (by rw [ab_r_s hx0 (by omega), if_pos c122])) (lv_sub hl [4, 2, 1, 5, 0, 6, 7, 8] rfl)
                  · refine lv_iload_n S.1 S.2.1 d_MO_abend_153 rfl (lv_at hl 3 rfl) ?_
                    refine lv_bipush (v := 100) S.1 S.2.1 d_MO_abend_154 (by decide) ?_
                    refine lv_iadd S.1 S.2.1 d_MO_abend_156 ?_
                    refine W.eq (g2 := F0 m 157 ls (.int (nI (cc + 100)) :: [])) (by rw [show ((nI cc) + 100) = (nI (cc + 100)) from nI_add cc 100]) ?_
                    refine lv_sipush (v := 9999) S.1 S.2.1 d_MO_abend_157 (by decide) ?_
                    refine lv_icmp_le (tgt := 169) S.1 S.2.1 d_MO_abend_160 (by decide) (fun c160 => ?_) (fun c160 => ?_)
                    · refine lv_iload_n S.1 S.2.1 d_MO_abend_169 rfl (lv_at hl 3 rfl) ?_
                      refine lv_bipush (v := 100) S.1 S.2.1 d_MO_abend_170 (by decide) ?_
                      refine lv_iadd S.1 S.2.1 d_MO_abend_172 ?_
                      refine W.eq (g2 := F0 m 173 ls (.int (nI (cc + 100)) :: [])) (by rw [show ((nI cc) + 100) = (nI (cc + 100)) from nI_add cc 100]) ?_
                      refine lv_istore_n (lv' := [(3, .int (nI (cc + 100))), (5, .int 0), (4, .int (en_of (ab_F1 F' na x0) x0 a lv).1), (8, .int (nI x0)), (6, .int (nI a)), (7, .int (nI kk)), (0, .ref x), (1, .int (nI lv)), (2, .int (nI cc0))]) S.1 S.2.1 d_MO_abend_173 rfl hl (by decide) rfl (fun ls hl => ?_)
                      have ecc : nI (ab_c F' x0 cc) = (nI (cc + 100)) := by
                        rw [ab_c, if_neg c150, if_pos ((nI_leI (by omega) (by decide)).mp (show nI (cc + 100) ≤ nI 9999 from c160))]
                      have hl : lv_has ls 9 [(3, .int (nI (ab_c F' x0 cc))), (5, .int 0), (4, .int (en_of (ab_F1 F' na x0) x0 a lv).1), (8, .int (nI x0)), (6, .int (nI a)), (7, .int (nI kk)), (0, .ref x), (1, .int (nI lv)), (2, .int (nI cc0))] := by rw [ecc]; exact hl
                      refine lv_iinc (v := (nI kk - 1)) (lv' := [(7, .int (nI kk - 1)), (3, .int (nI (ab_c F' x0 cc))), (5, .int 0), (4, .int (en_of (ab_F1 F' na x0) x0 a lv).1), (8, .int (nI x0)), (6, .int (nI a)), (0, .ref x), (1, .int (nI lv)), (2, .int (nI cc0))]) S.1 S.2.1 d_MO_abend_174 hl (k := 5) rfl (ii_m1 _) (by decide) rfl (fun ls hl => ?_)
                      refine lv_goto (tgt := 63) S.1 S.2.1 d_MO_abend_177 (by decide) ?_
                      rw [c122] at hl
                      exact ihI (na + 1) (ab_c F' x0 cc) (ab_F2 F' na x0 a lv) _ H locs ls (by omega) (by omega) (ab_Is hI) (ab_cr ⟨hc3, hc4⟩).1 (ab_cr ⟨hc3, hc4⟩).2 hw hP (hs.trans (by rw [ab_r_s hx0 (by omega), if_pos c122])) (lv_sub hl [1, 3, 2, 5, 0, 6, 7, 8] rfl)
                    · refine lv_sipush (v := 9999) S.1 S.2.1 d_MO_abend_163 (by decide) ?_
                      refine lv_goto (tgt := 173) S.1 S.2.1 d_MO_abend_166 (by decide) ?_
                      refine lv_istore_n (lv' := [(3, .int 9999), (5, .int 0), (4, .int (en_of (ab_F1 F' na x0) x0 a lv).1), (8, .int (nI x0)), (6, .int (nI a)), (7, .int (nI kk)), (0, .ref x), (1, .int (nI lv)), (2, .int (nI cc0))]) S.1 S.2.1 d_MO_abend_173 rfl hl (by decide) rfl (fun ls hl => ?_)
                      have ecc : nI (ab_c F' x0 cc) = 9999 := by
                        rw [ab_c, if_neg c150, if_neg (fun q => c160 (show nI (cc + 100) ≤ nI 9999 from (nI_leI (by omega) (by decide)).mpr q))]; rfl
                      have hl : lv_has ls 9 [(3, .int (nI (ab_c F' x0 cc))), (5, .int 0), (4, .int (en_of (ab_F1 F' na x0) x0 a lv).1), (8, .int (nI x0)), (6, .int (nI a)), (7, .int (nI kk)), (0, .ref x), (1, .int (nI lv)), (2, .int (nI cc0))] := by rw [ecc]; exact hl
                      refine lv_iinc (v := (nI kk - 1)) (lv' := [(7, .int (nI kk - 1)), (3, .int (nI (ab_c F' x0 cc))), (5, .int 0), (4, .int (en_of (ab_F1 F' na x0) x0 a lv).1), (8, .int (nI x0)), (6, .int (nI a)), (0, .ref x), (1, .int (nI lv)), (2, .int (nI cc0))]) S.1 S.2.1 d_MO_abend_174 hl (k := 5) rfl (ii_m1 _) (by decide) rfl (fun ls hl => ?_)
                      refine lv_goto (tgt := 63) S.1 S.2.1 d_MO_abend_177 (by decide) ?_
                      rw [c122] at hl
                      exact ihI (na + 1) (ab_c F' x0 cc) (ab_F2 F' na x0 a lv) _ H locs ls (by omega) (by omega) (ab_Is hI) (ab_cr ⟨hc3, hc4⟩).1 (ab_cr ⟨hc3, hc4⟩).2 hw hP (hs.trans (by rw [ab_r_s hx0 (by omega), if_pos c122])) (lv_sub hl [1, 3, 2, 5, 0, 6, 7, 8] rfl)
                · refine lv_aload_n S.1 S.2.1 d_MO_abend_125 rfl (lv_at hl 6 rfl) ?_
                  refine mm_get (C := R_MO) (T := T_MO) (N := 22) (v := .ref (g 4)) S hK.1 hw hP.2.1 rfl in_MO 10 (by decide) gw_380 rfl rfl d_MO_abend_126 ?_
                  refine lv_iload S.1 S.2.1 d_MO_abend_129 (lv_at hl 1 rfl) ?_
                  refine mn_iald (j := x0) (n := 301) (f := F' 4) S hK.1 hw 0 (mP_a (k := 4) (F := (ab_F2 F' na x0 a lv)) hP (by decide) (by decide)) rfl (rfl) (by omega) (by decide) d_MO_abend_131 ?_
                  refine lv_iconst (v := 2) S.1 S.2.1 d_MO_abend_132 (by decide) ?_
                  refine lv_icmp_ne (tgt := 140) S.1 S.2.1 d_MO_abend_133 (by decide) (fun c133 => ?_) (fun c133 => ?_)
                  · refine lv_iconst (v := 0) S.1 S.2.1 d_MO_abend_140 (by decide) ?_
                    refine lv_istore (lv' := [(5, .int 0), (4, .int (en_of (ab_F1 F' na x0) x0 a lv).1), (8, .int (nI x0)), (3, .int (nI cc)), (6, .int (nI a)), (7, .int (nI kk)), (0, .ref x), (1, .int (nI lv)), (2, .int (nI cc0))]) S.1 S.2.1 d_MO_abend_141 hl (by decide) rfl (fun ls hl => ?_)
                    refine lv_aload_n S.1 S.2.1 d_MO_abend_143 rfl (lv_at hl 6 rfl) ?_
                    refine mm_get (C := R_MO) (T := T_MO) (N := 22) (v := .ref (g 6)) S hK.1 hw hP.2.1 rfl in_MO 12 (by decide) gw_382 rfl rfl d_MO_abend_144 ?_
                    refine lv_iload S.1 S.2.1 d_MO_abend_147 (lv_at hl 2 rfl) ?_
                    refine mn_zald (j := x0) (n := 301) (f := F' 6) S hK.1 hw 2 (mP_a (k := 6) (F := (ab_F2 F' na x0 a lv)) hP (by decide) (by decide)) rfl (rfl) (by omega) (by decide) d_MO_abend_149 ?_
                    refine lv_if_eq (tgt := 174) S.1 S.2.1 d_MO_abend_150 (by decide) (fun c150 => ?_) (fun c150 => ?_)
                    · have ecc : nI (ab_c F' x0 cc) = (nI cc) := by
                        rw [ab_c, if_pos c150]
                      have hl : lv_has ls 9 [(5, .int 0), (4, .int (en_of (ab_F1 F' na x0) x0 a lv).1), (8, .int (nI x0)), (3, .int (nI (ab_c F' x0 cc))), (6, .int (nI a)), (7, .int (nI kk)), (0, .ref x), (1, .int (nI lv)), (2, .int (nI cc0))] := by rw [ecc]; exact hl
                      refine lv_iinc (v := (nI kk - 1)) (lv' := [(7, .int (nI kk - 1)), (5, .int 0), (4, .int (en_of (ab_F1 F' na x0) x0 a lv).1), (8, .int (nI x0)), (3, .int (nI (ab_c F' x0 cc))), (6, .int (nI a)), (0, .ref x), (1, .int (nI lv)), (2, .int (nI cc0))]) S.1 S.2.1 d_MO_abend_174 hl (k := 5) rfl (ii_m1 _) (by decide) rfl (fun ls hl => ?_)
                      refine lv_goto (tgt := 63) S.1 S.2.1 d_MO_abend_177 (by decide) ?_
                      obtain ⟨jj, hjj2, hen2⟩ : ∃ jj, jj ≤ 100 ∧ (en_of (ab_F1 F' na x0) x0 a lv).1 = nI (ab_n F lv jj) := by
                        rcases en_at c122 with q | q | q
                        · exact ⟨j, by omega, by rw [q, haj]⟩
                        · exact ⟨0, by omega, q⟩
                        · exact ⟨j + 1, by omega, by rw [q, ab_n, ← haj, show (ab_F1 F' na x0) 0 a = F 0 a from congrFun hI.1 a, hpc, hpe]⟩
                      refine lv_iload S.1 S.2.1 d_MO_abend_63 (lv_at hl 0 rfl) ?_
                      refine lv_if_lt (tgt := 180) S.1 S.2.1 d_MO_abend_65 (by decide) (fun c65' => ?_) (fun c65' => ?_)
                      · refine lv_aload_n S.1 S.2.1 d_MO_abend_180 rfl (lv_at hl 6 rfl) ?_
                        refine mm_get (C := R_MO) (T := T_MO) (N := 22) (v := .ref (g 0)) S hK.1 hw hP.2.1 rfl in_MO 6 (by decide) gw_376 rfl rfl d_MO_abend_181 ?_
                        refine lv_iload S.1 S.2.1 d_MO_abend_184 (lv_at hl 5 rfl) ?_
                        refine mn_iald (j := a) (n := 101) (f := F' 0) S hK.1 hw 0 (mP_a (k := 0) (F := (ab_F2 F' na x0 a lv)) hP (by decide) (by decide)) rfl (rfl) (by omega) (by decide) d_MO_abend_186 ?_
                        rw [show ((F' 0) (a)) = F 0 a from congrFun hI.1 a]
                        refine lv_istore (lv' := [(6, .int (F 0 a)), (7, .int (nI kk - 1)), (5, .int 0), (4, .int (en_of (ab_F1 F' na x0) x0 a lv).1), (8, .int (nI x0)), (3, .int (nI (ab_c F' x0 cc))), (0, .ref x), (1, .int (nI lv)), (2, .int (nI cc0))]) S.1 S.2.1 d_MO_abend_187 hl (by decide) rfl (fun ls hl => ?_)
                        refine lv_goto (tgt := 42) S.1 S.2.1 d_MO_abend_189 (by decide) ?_
                        refine lv_iload S.1 S.2.1 d_MO_abend_42 (lv_at hl 0 rfl) ?_
                        refine lv_if_eq (tgt := 192) S.1 S.2.1 d_MO_abend_44 (by decide) (fun c44' => ?_) (fun c44' => ?_)
                        · exact J (na + 1) (ab_c F' x0 cc) _ (ab_F2 F' na x0 a lv) _ 0 _ H locs ls (ab_Is hI) (ab_cr ⟨hc3, hc4⟩).1 (ab_cr ⟨hc3, hc4⟩).2 hjj2 hen2 (Or.inl rfl) hw hP (hs.trans (by rw [ab_r_s hx0 (by omega), if_neg c122]; unfold ab_k; rw [if_neg c122])) (lv_sub hl [5, 3, 2, 6, 7, 8] rfl)
                        · refine lv_iload S.1 S.2.1 d_MO_abend_47 (lv_at hl 3 rfl) ?_
                          refine lv_if_ne (tgt := 192) S.1 S.2.1 d_MO_abend_49 (by decide) (fun c49' => ?_) (fun c49' => absurd c49' c122)
                          exact J (na + 1) (ab_c F' x0 cc) _ (ab_F2 F' na x0 a lv) _ 0 _ H locs ls (ab_Is hI) (ab_cr ⟨hc3, hc4⟩).1 (ab_cr ⟨hc3, hc4⟩).2 hjj2 hen2 (Or.inl rfl) hw hP (hs.trans (by rw [ab_r_s hx0 (by omega), if_neg c122]; unfold ab_k; rw [if_neg c122])) (lv_sub hl [5, 3, 2, 6, 7, 8] rfl)
                      · refine lv_iload S.1 S.2.1 d_MO_abend_68 (lv_at hl 2 rfl) ?_
                        refine lv_if_ne (tgt := 180) S.1 S.2.1 d_MO_abend_70 (by decide) (fun c70' => ?_) (fun c70' => absurd c70' c122)
                        refine lv_aload_n S.1 S.2.1 d_MO_abend_180 rfl (lv_at hl 6 rfl) ?_
                        refine mm_get (C := R_MO) (T := T_MO) (N := 22) (v := .ref (g 0)) S hK.1 hw hP.2.1 rfl in_MO 6 (by decide) gw_376 rfl rfl d_MO_abend_181 ?_
                        refine lv_iload S.1 S.2.1 d_MO_abend_184 (lv_at hl 5 rfl) ?_
                        refine mn_iald (j := a) (n := 101) (f := F' 0) S hK.1 hw 0 (mP_a (k := 0) (F := (ab_F2 F' na x0 a lv)) hP (by decide) (by decide)) rfl (rfl) (by omega) (by decide) d_MO_abend_186 ?_
                        rw [show ((F' 0) (a)) = F 0 a from congrFun hI.1 a]
                        refine lv_istore (lv' := [(6, .int (F 0 a)), (7, .int (nI kk - 1)), (5, .int 0), (4, .int (en_of (ab_F1 F' na x0) x0 a lv).1), (8, .int (nI x0)), (3, .int (nI (ab_c F' x0 cc))), (0, .ref x), (1, .int (nI lv)), (2, .int (nI cc0))]) S.1 S.2.1 d_MO_abend_187 hl (by decide) rfl (fun ls hl => ?_)
                        refine lv_goto (tgt := 42) S.1 S.2.1 d_MO_abend_189 (by decide) ?_
                        refine lv_iload S.1 S.2.1 d_MO_abend_42 (lv_at hl 0 rfl) ?_
                        refine lv_if_eq (tgt := 192) S.1 S.2.1 d_MO_abend_44 (by decide) (fun c44' => ?_) (fun c44' => ?_)
                        · exact J (na + 1) (ab_c F' x0 cc) _ (ab_F2 F' na x0 a lv) _ 0 _ H locs ls (ab_Is hI) (ab_cr ⟨hc3, hc4⟩).1 (ab_cr ⟨hc3, hc4⟩).2 hjj2 hen2 (Or.inl rfl) hw hP (hs.trans (by rw [ab_r_s hx0 (by omega), if_neg c122]; unfold ab_k; rw [if_neg c122])) (lv_sub hl [5, 3, 2, 6, 7, 8] rfl)
                        · refine lv_iload S.1 S.2.1 d_MO_abend_47 (lv_at hl 3 rfl) ?_
                          refine lv_if_ne (tgt := 192) S.1 S.2.1 d_MO_abend_49 (by decide) (fun c49' => ?_) (fun c49' => absurd c49' c122)
                          exact J (na + 1) (ab_c F' x0 cc) _ (ab_F2 F' na x0 a lv) _ 0 _ H locs ls (ab_Is hI) (ab_cr ⟨hc3, hc4⟩).1 (ab_cr ⟨hc3, hc4⟩).2 hjj2 hen2 (Or.inl rfl) hw hP (hs.trans (by rw [ab_r_s hx0 (by omega), if_neg c122]; unfold ab_k; rw [if_neg c122])) (lv_sub hl [5, 3, 2, 6, 7, 8] rfl)
                    · refine lv_iload_n S.1 S.2.1 d_MO_abend_153 rfl (lv_at hl 3 rfl) ?_
                      refine lv_bipush (v := 100) S.1 S.2.1 d_MO_abend_154 (by decide) ?_
                      refine lv_iadd S.1 S.2.1 d_MO_abend_156 ?_
                      refine W.eq (g2 := F0 m 157 ls (.int (nI (cc + 100)) :: [])) (by rw [show ((nI cc) + 100) = (nI (cc + 100)) from nI_add cc 100]) ?_
                      refine lv_sipush (v := 9999) S.1 S.2.1 d_MO_abend_157 (by decide) ?_
                      refine lv_icmp_le (tgt := 169) S.1 S.2.1 d_MO_abend_160 (by decide) (fun c160 => ?_) (fun c160 => ?_)
                      · refine lv_iload_n S.1 S.2.1 d_MO_abend_169 rfl (lv_at hl 3 rfl) ?_
                        refine lv_bipush (v := 100) S.1 S.2.1 d_MO_abend_170 (by decide) ?_
                        refine lv_iadd S.1 S.2.1 d_MO_abend_172 ?_
                        refine W.eq (g2 := F0 m 173 ls (.int (nI (cc + 100)) :: [])) (by rw [show ((nI cc) + 100) = (nI (cc + 100)) from nI_add cc 100]) ?_
                        refine lv_istore_n (lv' := [(3, .int (nI (cc + 100))), (5, .int 0), (4, .int (en_of (ab_F1 F' na x0) x0 a lv).1), (8, .int (nI x0)), (6, .int (nI a)), (7, .int (nI kk)), (0, .ref x), (1, .int (nI lv)), (2, .int (nI cc0))]) S.1 S.2.1 d_MO_abend_173 rfl hl (by decide) rfl (fun ls hl => ?_)
                        have ecc : nI (ab_c F' x0 cc) = (nI (cc + 100)) := by
                          rw [ab_c, if_neg c150, if_pos ((nI_leI (by omega) (by decide)).mp (show nI (cc + 100) ≤ nI 9999 from c160))]
                        have hl : lv_has ls 9 [(3, .int (nI (ab_c F' x0 cc))), (5, .int 0), (4, .int (en_of (ab_F1 F' na x0) x0 a lv).1), (8, .int (nI x0)), (6, .int (nI a)), (7, .int (nI kk)), (0, .ref x), (1, .int (nI lv)), (2, .int (nI cc0))] := by rw [ecc]; exact hl
                        refine lv_iinc (v := (nI kk - 1)) (lv' := [(7, .int (nI kk - 1)), (3, .int (nI (ab_c F' x0 cc))), (5, .int 0), (4, .int (en_of (ab_F1 F' na x0) x0 a lv).1), (8, .int (nI x0)), (6, .int (nI a)), (0, .ref x), (1, .int (nI lv)), (2, .int (nI cc0))]) S.1 S.2.1 d_MO_abend_174 hl (k := 5) rfl (ii_m1 _) (by decide) rfl (fun ls hl => ?_)
                        refine lv_goto (tgt := 63) S.1 S.2.1 d_MO_abend_177 (by decide) ?_
                        obtain ⟨jj, hjj2, hen2⟩ : ∃ jj, jj ≤ 100 ∧ (en_of (ab_F1 F' na x0) x0 a lv).1 = nI (ab_n F lv jj) := by
                          rcases en_at c122 with q | q | q
                          · exact ⟨j, by omega, by rw [q, haj]⟩
                          · exact ⟨0, by omega, q⟩
                          · exact ⟨j + 1, by omega, by rw [q, ab_n, ← haj, show (ab_F1 F' na x0) 0 a = F 0 a from congrFun hI.1 a, hpc, hpe]⟩
                        refine lv_iload S.1 S.2.1 d_MO_abend_63 (lv_at hl 0 rfl) ?_
                        refine lv_if_lt (tgt := 180) S.1 S.2.1 d_MO_abend_65 (by decide) (fun c65' => ?_) (fun c65' => ?_)
                        · refine lv_aload_n S.1 S.2.1 d_MO_abend_180 rfl (lv_at hl 6 rfl) ?_
                          refine mm_get (C := R_MO) (T := T_MO) (N := 22) (v := .ref (g 0)) S hK.1 hw hP.2.1 rfl in_MO 6 (by decide) gw_376 rfl rfl d_MO_abend_181 ?_
                          refine lv_iload S.1 S.2.1 d_MO_abend_184 (lv_at hl 5 rfl) ?_
                          refine mn_iald (j := a) (n := 101) (f := F' 0) S hK.1 hw 0 (mP_a (k := 0) (F := (ab_F2 F' na x0 a lv)) hP (by decide) (by decide)) rfl (rfl) (by omega) (by decide) d_MO_abend_186 ?_
                          rw [show ((F' 0) (a)) = F 0 a from congrFun hI.1 a]
                          refine lv_istore (lv' := [(6, .int (F 0 a)), (7, .int (nI kk - 1)), (3, .int (nI (ab_c F' x0 cc))), (5, .int 0), (4, .int (en_of (ab_F1 F' na x0) x0 a lv).1), (8, .int (nI x0)), (0, .ref x), (1, .int (nI lv)), (2, .int (nI cc0))]) S.1 S.2.1 d_MO_abend_187 hl (by decide) rfl (fun ls hl => ?_)
                          refine lv_goto (tgt := 42) S.1 S.2.1 d_MO_abend_189 (by decide) ?_
                          refine lv_iload S.1 S.2.1 d_MO_abend_42 (lv_at hl 0 rfl) ?_
                          refine lv_if_eq (tgt := 192) S.1 S.2.1 d_MO_abend_44 (by decide) (fun c44' => ?_) (fun c44' => ?_)
                          · exact J (na + 1) (ab_c F' x0 cc) _ (ab_F2 F' na x0 a lv) _ 0 _ H locs ls (ab_Is hI) (ab_cr ⟨hc3, hc4⟩).1 (ab_cr ⟨hc3, hc4⟩).2 hjj2 hen2 (Or.inl rfl) hw hP (hs.trans (by rw [ab_r_s hx0 (by omega), if_neg c122]; unfold ab_k; rw [if_neg c122])) (lv_sub hl [2, 4, 3, 6, 7, 8] rfl)
                          · refine lv_iload S.1 S.2.1 d_MO_abend_47 (lv_at hl 4 rfl) ?_
                            refine lv_if_ne (tgt := 192) S.1 S.2.1 d_MO_abend_49 (by decide) (fun c49' => ?_) (fun c49' => absurd c49' c122)
                            exact J (na + 1) (ab_c F' x0 cc) _ (ab_F2 F' na x0 a lv) _ 0 _ H locs ls (ab_Is hI) (ab_cr ⟨hc3, hc4⟩).1 (ab_cr ⟨hc3, hc4⟩).2 hjj2 hen2 (Or.inl rfl) hw hP (hs.trans (by rw [ab_r_s hx0 (by omega), if_neg c122]; unfold ab_k; rw [if_neg c122])) (lv_sub hl [2, 4, 3, 6, 7, 8] rfl)
                        · refine lv_iload S.1 S.2.1 d_MO_abend_68 (lv_at hl 3 rfl) ?_
                          refine lv_if_ne (tgt := 180) S.1 S.2.1 d_MO_abend_70 (by decide) (fun c70' => ?_) (fun c70' => absurd c70' c122)
                          refine lv_aload_n S.1 S.2.1 d_MO_abend_180 rfl (lv_at hl 6 rfl) ?_
                          refine mm_get (C := R_MO) (T := T_MO) (N := 22) (v := .ref (g 0)) S hK.1 hw hP.2.1 rfl in_MO 6 (by decide) gw_376 rfl rfl d_MO_abend_181 ?_
                          refine lv_iload S.1 S.2.1 d_MO_abend_184 (lv_at hl 5 rfl) ?_
                          refine mn_iald (j := a) (n := 101) (f := F' 0) S hK.1 hw 0 (mP_a (k := 0) (F := (ab_F2 F' na x0 a lv)) hP (by decide) (by decide)) rfl (rfl) (by omega) (by decide) d_MO_abend_186 ?_
                          rw [show ((F' 0) (a)) = F 0 a from congrFun hI.1 a]
                          refine lv_istore (lv' := [(6, .int (F 0 a)), (7, .int (nI kk - 1)), (3, .int (nI (ab_c F' x0 cc))), (5, .int 0), (4, .int (en_of (ab_F1 F' na x0) x0 a lv).1), (8, .int (nI x0)), (0, .ref x), (1, .int (nI lv)), (2, .int (nI cc0))]) S.1 S.2.1 d_MO_abend_187 hl (by decide) rfl (fun ls hl => ?_)
                          refine lv_goto (tgt := 42) S.1 S.2.1 d_MO_abend_189 (by decide) ?_
                          refine lv_iload S.1 S.2.1 d_MO_abend_42 (lv_at hl 0 rfl) ?_
                          refine lv_if_eq (tgt := 192) S.1 S.2.1 d_MO_abend_44 (by decide) (fun c44' => ?_) (fun c44' => ?_)
                          · exact J (na + 1) (ab_c F' x0 cc) _ (ab_F2 F' na x0 a lv) _ 0 _ H locs ls (ab_Is hI) (ab_cr ⟨hc3, hc4⟩).1 (ab_cr ⟨hc3, hc4⟩).2 hjj2 hen2 (Or.inl rfl) hw hP (hs.trans (by rw [ab_r_s hx0 (by omega), if_neg c122]; unfold ab_k; rw [if_neg c122])) (lv_sub hl [2, 4, 3, 6, 7, 8] rfl)
                          · refine lv_iload S.1 S.2.1 d_MO_abend_47 (lv_at hl 4 rfl) ?_
                            refine lv_if_ne (tgt := 192) S.1 S.2.1 d_MO_abend_49 (by decide) (fun c49' => ?_) (fun c49' => absurd c49' c122)
                            exact J (na + 1) (ab_c F' x0 cc) _ (ab_F2 F' na x0 a lv) _ 0 _ H locs ls (ab_Is hI) (ab_cr ⟨hc3, hc4⟩).1 (ab_cr ⟨hc3, hc4⟩).2 hjj2 hen2 (Or.inl rfl) hw hP (hs.trans (by rw [ab_r_s hx0 (by omega), if_neg c122]; unfold ab_k; rw [if_neg c122])) (lv_sub hl [2, 4, 3, 6, 7, 8] rfl)
                      · refine lv_sipush (v := 9999) S.1 S.2.1 d_MO_abend_163 (by decide) ?_
                        refine lv_goto (tgt := 173) S.1 S.2.1 d_MO_abend_166 (by decide) ?_
                        refine lv_istore_n (lv' := [(3, .int 9999), (5, .int 0), (4, .int (en_of (ab_F1 F' na x0) x0 a lv).1), (8, .int (nI x0)), (6, .int (nI a)), (7, .int (nI kk)), (0, .ref x), (1, .int (nI lv)), (2, .int (nI cc0))]) S.1 S.2.1 d_MO_abend_173 rfl hl (by decide) rfl (fun ls hl => ?_)
                        have ecc : nI (ab_c F' x0 cc) = 9999 := by
                          rw [ab_c, if_neg c150, if_neg (fun q => c160 (show nI (cc + 100) ≤ nI 9999 from (nI_leI (by omega) (by decide)).mpr q))]; rfl
                        have hl : lv_has ls 9 [(3, .int (nI (ab_c F' x0 cc))), (5, .int 0), (4, .int (en_of (ab_F1 F' na x0) x0 a lv).1), (8, .int (nI x0)), (6, .int (nI a)), (7, .int (nI kk)), (0, .ref x), (1, .int (nI lv)), (2, .int (nI cc0))] := by rw [ecc]; exact hl
                        refine lv_iinc (v := (nI kk - 1)) (lv' := [(7, .int (nI kk - 1)), (3, .int (nI (ab_c F' x0 cc))), (5, .int 0), (4, .int (en_of (ab_F1 F' na x0) x0 a lv).1), (8, .int (nI x0)), (6, .int (nI a)), (0, .ref x), (1, .int (nI lv)), (2, .int (nI cc0))]) S.1 S.2.1 d_MO_abend_174 hl (k := 5) rfl (ii_m1 _) (by decide) rfl (fun ls hl => ?_)
                        refine lv_goto (tgt := 63) S.1 S.2.1 d_MO_abend_177 (by decide) ?_
                        obtain ⟨jj, hjj2, hen2⟩ : ∃ jj, jj ≤ 100 ∧ (en_of (ab_F1 F' na x0) x0 a lv).1 = nI (ab_n F lv jj) := by
                          rcases en_at c122 with q | q | q
                          · exact ⟨j, by omega, by rw [q, haj]⟩
                          · exact ⟨0, by omega, q⟩
                          · exact ⟨j + 1, by omega, by rw [q, ab_n, ← haj, show (ab_F1 F' na x0) 0 a = F 0 a from congrFun hI.1 a, hpc, hpe]⟩
                        refine lv_iload S.1 S.2.1 d_MO_abend_63 (lv_at hl 0 rfl) ?_
                        refine lv_if_lt (tgt := 180) S.1 S.2.1 d_MO_abend_65 (by decide) (fun c65' => ?_) (fun c65' => ?_)
                        · refine lv_aload_n S.1 S.2.1 d_MO_abend_180 rfl (lv_at hl 6 rfl) ?_
                          refine mm_get (C := R_MO) (T := T_MO) (N := 22) (v := .ref (g 0)) S hK.1 hw hP.2.1 rfl in_MO 6 (by decide) gw_376 rfl rfl d_MO_abend_181 ?_
                          refine lv_iload S.1 S.2.1 d_MO_abend_184 (lv_at hl 5 rfl) ?_
                          refine mn_iald (j := a) (n := 101) (f := F' 0) S hK.1 hw 0 (mP_a (k := 0) (F := (ab_F2 F' na x0 a lv)) hP (by decide) (by decide)) rfl (rfl) (by omega) (by decide) d_MO_abend_186 ?_
                          rw [show ((F' 0) (a)) = F 0 a from congrFun hI.1 a]
                          refine lv_istore (lv' := [(6, .int (F 0 a)), (7, .int (nI kk - 1)), (3, .int (nI (ab_c F' x0 cc))), (5, .int 0), (4, .int (en_of (ab_F1 F' na x0) x0 a lv).1), (8, .int (nI x0)), (0, .ref x), (1, .int (nI lv)), (2, .int (nI cc0))]) S.1 S.2.1 d_MO_abend_187 hl (by decide) rfl (fun ls hl => ?_)
                          refine lv_goto (tgt := 42) S.1 S.2.1 d_MO_abend_189 (by decide) ?_
                          refine lv_iload S.1 S.2.1 d_MO_abend_42 (lv_at hl 0 rfl) ?_
                          refine lv_if_eq (tgt := 192) S.1 S.2.1 d_MO_abend_44 (by decide) (fun c44' => ?_) (fun c44' => ?_)
                          · exact J (na + 1) (ab_c F' x0 cc) _ (ab_F2 F' na x0 a lv) _ 0 _ H locs ls (ab_Is hI) (ab_cr ⟨hc3, hc4⟩).1 (ab_cr ⟨hc3, hc4⟩).2 hjj2 hen2 (Or.inl rfl) hw hP (hs.trans (by rw [ab_r_s hx0 (by omega), if_neg c122]; unfold ab_k; rw [if_neg c122])) (lv_sub hl [2, 4, 3, 6, 7, 8] rfl)
                          · refine lv_iload S.1 S.2.1 d_MO_abend_47 (lv_at hl 4 rfl) ?_
                            refine lv_if_ne (tgt := 192) S.1 S.2.1 d_MO_abend_49 (by decide) (fun c49' => ?_) (fun c49' => absurd c49' c122)
                            exact J (na + 1) (ab_c F' x0 cc) _ (ab_F2 F' na x0 a lv) _ 0 _ H locs ls (ab_Is hI) (ab_cr ⟨hc3, hc4⟩).1 (ab_cr ⟨hc3, hc4⟩).2 hjj2 hen2 (Or.inl rfl) hw hP (hs.trans (by rw [ab_r_s hx0 (by omega), if_neg c122]; unfold ab_k; rw [if_neg c122])) (lv_sub hl [2, 4, 3, 6, 7, 8] rfl)
                        · refine lv_iload S.1 S.2.1 d_MO_abend_68 (lv_at hl 3 rfl) ?_
                          refine lv_if_ne (tgt := 180) S.1 S.2.1 d_MO_abend_70 (by decide) (fun c70' => ?_) (fun c70' => absurd c70' c122)
                          refine lv_aload_n S.1 S.2.1 d_MO_abend_180 rfl (lv_at hl 6 rfl) ?_
                          refine mm_get (C := R_MO) (T := T_MO) (N := 22) (v := .ref (g 0)) S hK.1 hw hP.2.1 rfl in_MO 6 (by decide) gw_376 rfl rfl d_MO_abend_181 ?_
                          refine lv_iload S.1 S.2.1 d_MO_abend_184 (lv_at hl 5 rfl) ?_
                          refine mn_iald (j := a) (n := 101) (f := F' 0) S hK.1 hw 0 (mP_a (k := 0) (F := (ab_F2 F' na x0 a lv)) hP (by decide) (by decide)) rfl (rfl) (by omega) (by decide) d_MO_abend_186 ?_
                          rw [show ((F' 0) (a)) = F 0 a from congrFun hI.1 a]
                          refine lv_istore (lv' := [(6, .int (F 0 a)), (7, .int (nI kk - 1)), (3, .int (nI (ab_c F' x0 cc))), (5, .int 0), (4, .int (en_of (ab_F1 F' na x0) x0 a lv).1), (8, .int (nI x0)), (0, .ref x), (1, .int (nI lv)), (2, .int (nI cc0))]) S.1 S.2.1 d_MO_abend_187 hl (by decide) rfl (fun ls hl => ?_)
                          refine lv_goto (tgt := 42) S.1 S.2.1 d_MO_abend_189 (by decide) ?_
                          refine lv_iload S.1 S.2.1 d_MO_abend_42 (lv_at hl 0 rfl) ?_
                          refine lv_if_eq (tgt := 192) S.1 S.2.1 d_MO_abend_44 (by decide) (fun c44' => ?_) (fun c44' => ?_)
                          · exact J (na + 1) (ab_c F' x0 cc) _ (ab_F2 F' na x0 a lv) _ 0 _ H locs ls (ab_Is hI) (ab_cr ⟨hc3, hc4⟩).1 (ab_cr ⟨hc3, hc4⟩).2 hjj2 hen2 (Or.inl rfl) hw hP (hs.trans (by rw [ab_r_s hx0 (by omega), if_neg c122]; unfold ab_k; rw [if_neg c122])) (lv_sub hl [2, 4, 3, 6, 7, 8] rfl)
                          · refine lv_iload S.1 S.2.1 d_MO_abend_47 (lv_at hl 4 rfl) ?_
                            refine lv_if_ne (tgt := 192) S.1 S.2.1 d_MO_abend_49 (by decide) (fun c49' => ?_) (fun c49' => absurd c49' c122)
                            exact J (na + 1) (ab_c F' x0 cc) _ (ab_F2 F' na x0 a lv) _ 0 _ H locs ls (ab_Is hI) (ab_cr ⟨hc3, hc4⟩).1 (ab_cr ⟨hc3, hc4⟩).2 hjj2 hen2 (Or.inl rfl) hw hP (hs.trans (by rw [ab_r_s hx0 (by omega), if_neg c122]; unfold ab_k; rw [if_neg c122])) (lv_sub hl [2, 4, 3, 6, 7, 8] rfl)
                  · refine lv_iconst (v := 1) S.1 S.2.1 d_MO_abend_136 (by decide) ?_
                    refine lv_goto (tgt := 141) S.1 S.2.1 d_MO_abend_137 (by decide) ?_
                    refine lv_istore (lv' := [(5, .int 1), (4, .int (en_of (ab_F1 F' na x0) x0 a lv).1), (8, .int (nI x0)), (3, .int (nI cc)), (6, .int (nI a)), (7, .int (nI kk)), (0, .ref x), (1, .int (nI lv)), (2, .int (nI cc0))]) S.1 S.2.1 d_MO_abend_141 hl (by decide) rfl (fun ls hl => ?_)
                    refine lv_aload_n S.1 S.2.1 d_MO_abend_143 rfl (lv_at hl 6 rfl) ?_
                    refine mm_get (C := R_MO) (T := T_MO) (N := 22) (v := .ref (g 6)) S hK.1 hw hP.2.1 rfl in_MO 12 (by decide) gw_382 rfl rfl d_MO_abend_144 ?_
                    refine lv_iload S.1 S.2.1 d_MO_abend_147 (lv_at hl 2 rfl) ?_
                    refine mn_zald (j := x0) (n := 301) (f := F' 6) S hK.1 hw 2 (mP_a (k := 6) (F := (ab_F2 F' na x0 a lv)) hP (by decide) (by decide)) rfl (rfl) (by omega) (by decide) d_MO_abend_149 ?_
                    refine lv_if_eq (tgt := 174) S.1 S.2.1 d_MO_abend_150 (by decide) (fun c150 => ?_) (fun c150 => ?_)
                    · have ecc : nI (ab_c F' x0 cc) = (nI cc) := by
                        rw [ab_c, if_pos c150]
                      have hl : lv_has ls 9 [(5, .int 1), (4, .int (en_of (ab_F1 F' na x0) x0 a lv).1), (8, .int (nI x0)), (3, .int (nI (ab_c F' x0 cc))), (6, .int (nI a)), (7, .int (nI kk)), (0, .ref x), (1, .int (nI lv)), (2, .int (nI cc0))] := by rw [ecc]; exact hl
                      refine lv_iinc (v := (nI kk - 1)) (lv' := [(7, .int (nI kk - 1)), (5, .int 1), (4, .int (en_of (ab_F1 F' na x0) x0 a lv).1), (8, .int (nI x0)), (3, .int (nI (ab_c F' x0 cc))), (6, .int (nI a)), (0, .ref x), (1, .int (nI lv)), (2, .int (nI cc0))]) S.1 S.2.1 d_MO_abend_174 hl (k := 5) rfl (ii_m1 _) (by decide) rfl (fun ls hl => ?_)
                      refine lv_goto (tgt := 63) S.1 S.2.1 d_MO_abend_177 (by decide) ?_
                      obtain ⟨jj, hjj2, hen2⟩ : ∃ jj, jj ≤ 100 ∧ (en_of (ab_F1 F' na x0) x0 a lv).1 = nI (ab_n F lv jj) := by
                        rcases en_at c122 with q | q | q
                        · exact ⟨j, by omega, by rw [q, haj]⟩
                        · exact ⟨0, by omega, q⟩
                        · exact ⟨j + 1, by omega, by rw [q, ab_n, ← haj, show (ab_F1 F' na x0) 0 a = F 0 a from congrFun hI.1 a, hpc, hpe]⟩
                      refine lv_iload S.1 S.2.1 d_MO_abend_63 (lv_at hl 0 rfl) ?_
                      refine lv_if_lt (tgt := 180) S.1 S.2.1 d_MO_abend_65 (by decide) (fun c65' => ?_) (fun c65' => ?_)
                      · refine lv_aload_n S.1 S.2.1 d_MO_abend_180 rfl (lv_at hl 6 rfl) ?_
                        refine mm_get (C := R_MO) (T := T_MO) (N := 22) (v := .ref (g 0)) S hK.1 hw hP.2.1 rfl in_MO 6 (by decide) gw_376 rfl rfl d_MO_abend_181 ?_
                        refine lv_iload S.1 S.2.1 d_MO_abend_184 (lv_at hl 5 rfl) ?_
                        refine mn_iald (j := a) (n := 101) (f := F' 0) S hK.1 hw 0 (mP_a (k := 0) (F := (ab_F2 F' na x0 a lv)) hP (by decide) (by decide)) rfl (rfl) (by omega) (by decide) d_MO_abend_186 ?_
                        rw [show ((F' 0) (a)) = F 0 a from congrFun hI.1 a]
                        refine lv_istore (lv' := [(6, .int (F 0 a)), (7, .int (nI kk - 1)), (5, .int 1), (4, .int (en_of (ab_F1 F' na x0) x0 a lv).1), (8, .int (nI x0)), (3, .int (nI (ab_c F' x0 cc))), (0, .ref x), (1, .int (nI lv)), (2, .int (nI cc0))]) S.1 S.2.1 d_MO_abend_187 hl (by decide) rfl (fun ls hl => ?_)
                        refine lv_goto (tgt := 42) S.1 S.2.1 d_MO_abend_189 (by decide) ?_
                        refine lv_iload S.1 S.2.1 d_MO_abend_42 (lv_at hl 0 rfl) ?_
                        refine lv_if_eq (tgt := 192) S.1 S.2.1 d_MO_abend_44 (by decide) (fun c44' => ?_) (fun c44' => ?_)
                        · exact J (na + 1) (ab_c F' x0 cc) _ (ab_F2 F' na x0 a lv) _ 1 _ H locs ls (ab_Is hI) (ab_cr ⟨hc3, hc4⟩).1 (ab_cr ⟨hc3, hc4⟩).2 hjj2 hen2 (Or.inr (en_two c122 c133)) hw hP (hs.trans (by rw [ab_r_s hx0 (by omega), if_neg c122]; unfold ab_k; rw [if_neg c122])) (lv_sub hl [5, 3, 2, 6, 7, 8] rfl)
                        · refine lv_iload S.1 S.2.1 d_MO_abend_47 (lv_at hl 3 rfl) ?_
                          refine lv_if_ne (tgt := 192) S.1 S.2.1 d_MO_abend_49 (by decide) (fun c49' => ?_) (fun c49' => absurd c49' c122)
                          exact J (na + 1) (ab_c F' x0 cc) _ (ab_F2 F' na x0 a lv) _ 1 _ H locs ls (ab_Is hI) (ab_cr ⟨hc3, hc4⟩).1 (ab_cr ⟨hc3, hc4⟩).2 hjj2 hen2 (Or.inr (en_two c122 c133)) hw hP (hs.trans (by rw [ab_r_s hx0 (by omega), if_neg c122]; unfold ab_k; rw [if_neg c122])) (lv_sub hl [5, 3, 2, 6, 7, 8] rfl)
                      · refine lv_iload S.1 S.2.1 d_MO_abend_68 (lv_at hl 2 rfl) ?_
                        refine lv_if_ne (tgt := 180) S.1 S.2.1 d_MO_abend_70 (by decide) (fun c70' => ?_) (fun c70' => absurd c70' c122)
                        refine lv_aload_n S.1 S.2.1 d_MO_abend_180 rfl (lv_at hl 6 rfl) ?_
                        refine mm_get (C := R_MO) (T := T_MO) (N := 22) (v := .ref (g 0)) S hK.1 hw hP.2.1 rfl in_MO 6 (by decide) gw_376 rfl rfl d_MO_abend_181 ?_
                        refine lv_iload S.1 S.2.1 d_MO_abend_184 (lv_at hl 5 rfl) ?_
                        refine mn_iald (j := a) (n := 101) (f := F' 0) S hK.1 hw 0 (mP_a (k := 0) (F := (ab_F2 F' na x0 a lv)) hP (by decide) (by decide)) rfl (rfl) (by omega) (by decide) d_MO_abend_186 ?_
                        rw [show ((F' 0) (a)) = F 0 a from congrFun hI.1 a]
                        refine lv_istore (lv' := [(6, .int (F 0 a)), (7, .int (nI kk - 1)), (5, .int 1), (4, .int (en_of (ab_F1 F' na x0) x0 a lv).1), (8, .int (nI x0)), (3, .int (nI (ab_c F' x0 cc))), (0, .ref x), (1, .int (nI lv)), (2, .int (nI cc0))]) S.1 S.2.1 d_MO_abend_187 hl (by decide) rfl (fun ls hl => ?_)
                        refine lv_goto (tgt := 42) S.1 S.2.1 d_MO_abend_189 (by decide) ?_
                        refine lv_iload S.1 S.2.1 d_MO_abend_42 (lv_at hl 0 rfl) ?_
                        refine lv_if_eq (tgt := 192) S.1 S.2.1 d_MO_abend_44 (by decide) (fun c44' => ?_) (fun c44' => ?_)
                        · exact J (na + 1) (ab_c F' x0 cc) _ (ab_F2 F' na x0 a lv) _ 1 _ H locs ls (ab_Is hI) (ab_cr ⟨hc3, hc4⟩).1 (ab_cr ⟨hc3, hc4⟩).2 hjj2 hen2 (Or.inr (en_two c122 c133)) hw hP (hs.trans (by rw [ab_r_s hx0 (by omega), if_neg c122]; unfold ab_k; rw [if_neg c122])) (lv_sub hl [5, 3, 2, 6, 7, 8] rfl)
                        · refine lv_iload S.1 S.2.1 d_MO_abend_47 (lv_at hl 3 rfl) ?_
                          refine lv_if_ne (tgt := 192) S.1 S.2.1 d_MO_abend_49 (by decide) (fun c49' => ?_) (fun c49' => absurd c49' c122)
                          exact J (na + 1) (ab_c F' x0 cc) _ (ab_F2 F' na x0 a lv) _ 1 _ H locs ls (ab_Is hI) (ab_cr ⟨hc3, hc4⟩).1 (ab_cr ⟨hc3, hc4⟩).2 hjj2 hen2 (Or.inr (en_two c122 c133)) hw hP (hs.trans (by rw [ab_r_s hx0 (by omega), if_neg c122]; unfold ab_k; rw [if_neg c122])) (lv_sub hl [5, 3, 2, 6, 7, 8] rfl)
                    · refine lv_iload_n S.1 S.2.1 d_MO_abend_153 rfl (lv_at hl 3 rfl) ?_
                      refine lv_bipush (v := 100) S.1 S.2.1 d_MO_abend_154 (by decide) ?_
                      refine lv_iadd S.1 S.2.1 d_MO_abend_156 ?_
                      refine W.eq (g2 := F0 m 157 ls (.int (nI (cc + 100)) :: [])) (by rw [show ((nI cc) + 100) = (nI (cc + 100)) from nI_add cc 100]) ?_
                      refine lv_sipush (v := 9999) S.1 S.2.1 d_MO_abend_157 (by decide) ?_
                      refine lv_icmp_le (tgt := 169) S.1 S.2.1 d_MO_abend_160 (by decide) (fun c160 => ?_) (fun c160 => ?_)
                      · refine lv_iload_n S.1 S.2.1 d_MO_abend_169 rfl (lv_at hl 3 rfl) ?_
                        refine lv_bipush (v := 100) S.1 S.2.1 d_MO_abend_170 (by decide) ?_
                        refine lv_iadd S.1 S.2.1 d_MO_abend_172 ?_
                        refine W.eq (g2 := F0 m 173 ls (.int (nI (cc + 100)) :: [])) (by rw [show ((nI cc) + 100) = (nI (cc + 100)) from nI_add cc 100]) ?_
                        refine lv_istore_n (lv' := [(3, .int (nI (cc + 100))), (5, .int 1), (4, .int (en_of (ab_F1 F' na x0) x0 a lv).1), (8, .int (nI x0)), (6, .int (nI a)), (7, .int (nI kk)), (0, .ref x), (1, .int (nI lv)), (2, .int (nI cc0))]) S.1 S.2.1 d_MO_abend_173 rfl hl (by decide) rfl (fun ls hl => ?_)
                        have ecc : nI (ab_c F' x0 cc) = (nI (cc + 100)) := by
                          rw [ab_c, if_neg c150, if_pos ((nI_leI (by omega) (by decide)).mp (show nI (cc + 100) ≤ nI 9999 from c160))]
                        have hl : lv_has ls 9 [(3, .int (nI (ab_c F' x0 cc))), (5, .int 1), (4, .int (en_of (ab_F1 F' na x0) x0 a lv).1), (8, .int (nI x0)), (6, .int (nI a)), (7, .int (nI kk)), (0, .ref x), (1, .int (nI lv)), (2, .int (nI cc0))] := by rw [ecc]; exact hl
                        refine lv_iinc (v := (nI kk - 1)) (lv' := [(7, .int (nI kk - 1)), (3, .int (nI (ab_c F' x0 cc))), (5, .int 1), (4, .int (en_of (ab_F1 F' na x0) x0 a lv).1), (8, .int (nI x0)), (6, .int (nI a)), (0, .ref x), (1, .int (nI lv)), (2, .int (nI cc0))]) S.1 S.2.1 d_MO_abend_174 hl (k := 5) rfl (ii_m1 _) (by decide) rfl (fun ls hl => ?_)
                        refine lv_goto (tgt := 63) S.1 S.2.1 d_MO_abend_177 (by decide) ?_
                        obtain ⟨jj, hjj2, hen2⟩ : ∃ jj, jj ≤ 100 ∧ (en_of (ab_F1 F' na x0) x0 a lv).1 = nI (ab_n F lv jj) := by
                          rcases en_at c122 with q | q | q
                          · exact ⟨j, by omega, by rw [q, haj]⟩
                          · exact ⟨0, by omega, q⟩
                          · exact ⟨j + 1, by omega, by rw [q, ab_n, ← haj, show (ab_F1 F' na x0) 0 a = F 0 a from congrFun hI.1 a, hpc, hpe]⟩
                        refine lv_iload S.1 S.2.1 d_MO_abend_63 (lv_at hl 0 rfl) ?_
                        refine lv_if_lt (tgt := 180) S.1 S.2.1 d_MO_abend_65 (by decide) (fun c65' => ?_) (fun c65' => ?_)
                        · refine lv_aload_n S.1 S.2.1 d_MO_abend_180 rfl (lv_at hl 6 rfl) ?_
                          refine mm_get (C := R_MO) (T := T_MO) (N := 22) (v := .ref (g 0)) S hK.1 hw hP.2.1 rfl in_MO 6 (by decide) gw_376 rfl rfl d_MO_abend_181 ?_
                          refine lv_iload S.1 S.2.1 d_MO_abend_184 (lv_at hl 5 rfl) ?_
                          refine mn_iald (j := a) (n := 101) (f := F' 0) S hK.1 hw 0 (mP_a (k := 0) (F := (ab_F2 F' na x0 a lv)) hP (by decide) (by decide)) rfl (rfl) (by omega) (by decide) d_MO_abend_186 ?_
                          rw [show ((F' 0) (a)) = F 0 a from congrFun hI.1 a]
                          refine lv_istore (lv' := [(6, .int (F 0 a)), (7, .int (nI kk - 1)), (3, .int (nI (ab_c F' x0 cc))), (5, .int 1), (4, .int (en_of (ab_F1 F' na x0) x0 a lv).1), (8, .int (nI x0)), (0, .ref x), (1, .int (nI lv)), (2, .int (nI cc0))]) S.1 S.2.1 d_MO_abend_187 hl (by decide) rfl (fun ls hl => ?_)
                          refine lv_goto (tgt := 42) S.1 S.2.1 d_MO_abend_189 (by decide) ?_
                          refine lv_iload S.1 S.2.1 d_MO_abend_42 (lv_at hl 0 rfl) ?_
                          refine lv_if_eq (tgt := 192) S.1 S.2.1 d_MO_abend_44 (by decide) (fun c44' => ?_) (fun c44' => ?_)
                          · exact J (na + 1) (ab_c F' x0 cc) _ (ab_F2 F' na x0 a lv) _ 1 _ H locs ls (ab_Is hI) (ab_cr ⟨hc3, hc4⟩).1 (ab_cr ⟨hc3, hc4⟩).2 hjj2 hen2 (Or.inr (en_two c122 c133)) hw hP (hs.trans (by rw [ab_r_s hx0 (by omega), if_neg c122]; unfold ab_k; rw [if_neg c122])) (lv_sub hl [2, 4, 3, 6, 7, 8] rfl)
                          · refine lv_iload S.1 S.2.1 d_MO_abend_47 (lv_at hl 4 rfl) ?_
                            refine lv_if_ne (tgt := 192) S.1 S.2.1 d_MO_abend_49 (by decide) (fun c49' => ?_) (fun c49' => absurd c49' c122)
                            exact J (na + 1) (ab_c F' x0 cc) _ (ab_F2 F' na x0 a lv) _ 1 _ H locs ls (ab_Is hI) (ab_cr ⟨hc3, hc4⟩).1 (ab_cr ⟨hc3, hc4⟩).2 hjj2 hen2 (Or.inr (en_two c122 c133)) hw hP (hs.trans (by rw [ab_r_s hx0 (by omega), if_neg c122]; unfold ab_k; rw [if_neg c122])) (lv_sub hl [2, 4, 3, 6, 7, 8] rfl)
                        · refine lv_iload S.1 S.2.1 d_MO_abend_68 (lv_at hl 3 rfl) ?_
                          refine lv_if_ne (tgt := 180) S.1 S.2.1 d_MO_abend_70 (by decide) (fun c70' => ?_) (fun c70' => absurd c70' c122)
                          refine lv_aload_n S.1 S.2.1 d_MO_abend_180 rfl (lv_at hl 6 rfl) ?_
                          refine mm_get (C := R_MO) (T := T_MO) (N := 22) (v := .ref (g 0)) S hK.1 hw hP.2.1 rfl in_MO 6 (by decide) gw_376 rfl rfl d_MO_abend_181 ?_
                          refine lv_iload S.1 S.2.1 d_MO_abend_184 (lv_at hl 5 rfl) ?_
                          refine mn_iald (j := a) (n := 101) (f := F' 0) S hK.1 hw 0 (mP_a (k := 0) (F := (ab_F2 F' na x0 a lv)) hP (by decide) (by decide)) rfl (rfl) (by omega) (by decide) d_MO_abend_186 ?_
                          rw [show ((F' 0) (a)) = F 0 a from congrFun hI.1 a]
                          refine lv_istore (lv' := [(6, .int (F 0 a)), (7, .int (nI kk - 1)), (3, .int (nI (ab_c F' x0 cc))), (5, .int 1), (4, .int (en_of (ab_F1 F' na x0) x0 a lv).1), (8, .int (nI x0)), (0, .ref x), (1, .int (nI lv)), (2, .int (nI cc0))]) S.1 S.2.1 d_MO_abend_187 hl (by decide) rfl (fun ls hl => ?_)
                          refine lv_goto (tgt := 42) S.1 S.2.1 d_MO_abend_189 (by decide) ?_
                          refine lv_iload S.1 S.2.1 d_MO_abend_42 (lv_at hl 0 rfl) ?_
                          refine lv_if_eq (tgt := 192) S.1 S.2.1 d_MO_abend_44 (by decide) (fun c44' => ?_) (fun c44' => ?_)
                          · exact J (na + 1) (ab_c F' x0 cc) _ (ab_F2 F' na x0 a lv) _ 1 _ H locs ls (ab_Is hI) (ab_cr ⟨hc3, hc4⟩).1 (ab_cr ⟨hc3, hc4⟩).2 hjj2 hen2 (Or.inr (en_two c122 c133)) hw hP (hs.trans (by rw [ab_r_s hx0 (by omega), if_neg c122]; unfold ab_k; rw [if_neg c122])) (lv_sub hl [2, 4, 3, 6, 7, 8] rfl)
                          · refine lv_iload S.1 S.2.1 d_MO_abend_47 (lv_at hl 4 rfl) ?_
                            refine lv_if_ne (tgt := 192) S.1 S.2.1 d_MO_abend_49 (by decide) (fun c49' => ?_) (fun c49' => absurd c49' c122)
                            exact J (na + 1) (ab_c F' x0 cc) _ (ab_F2 F' na x0 a lv) _ 1 _ H locs ls (ab_Is hI) (ab_cr ⟨hc3, hc4⟩).1 (ab_cr ⟨hc3, hc4⟩).2 hjj2 hen2 (Or.inr (en_two c122 c133)) hw hP (hs.trans (by rw [ab_r_s hx0 (by omega), if_neg c122]; unfold ab_k; rw [if_neg c122])) (lv_sub hl [2, 4, 3, 6, 7, 8] rfl)
                      · refine lv_sipush (v := 9999) S.1 S.2.1 d_MO_abend_163 (by decide) ?_
                        refine lv_goto (tgt := 173) S.1 S.2.1 d_MO_abend_166 (by decide) ?_
                        refine lv_istore_n (lv' := [(3, .int 9999), (5, .int 1), (4, .int (en_of (ab_F1 F' na x0) x0 a lv).1), (8, .int (nI x0)), (6, .int (nI a)), (7, .int (nI kk)), (0, .ref x), (1, .int (nI lv)), (2, .int (nI cc0))]) S.1 S.2.1 d_MO_abend_173 rfl hl (by decide) rfl (fun ls hl => ?_)
                        have ecc : nI (ab_c F' x0 cc) = 9999 := by
                          rw [ab_c, if_neg c150, if_neg (fun q => c160 (show nI (cc + 100) ≤ nI 9999 from (nI_leI (by omega) (by decide)).mpr q))]; rfl
                        have hl : lv_has ls 9 [(3, .int (nI (ab_c F' x0 cc))), (5, .int 1), (4, .int (en_of (ab_F1 F' na x0) x0 a lv).1), (8, .int (nI x0)), (6, .int (nI a)), (7, .int (nI kk)), (0, .ref x), (1, .int (nI lv)), (2, .int (nI cc0))] := by rw [ecc]; exact hl
                        refine lv_iinc (v := (nI kk - 1)) (lv' := [(7, .int (nI kk - 1)), (3, .int (nI (ab_c F' x0 cc))), (5, .int 1), (4, .int (en_of (ab_F1 F' na x0) x0 a lv).1), (8, .int (nI x0)), (6, .int (nI a)), (0, .ref x), (1, .int (nI lv)), (2, .int (nI cc0))]) S.1 S.2.1 d_MO_abend_174 hl (k := 5) rfl (ii_m1 _) (by decide) rfl (fun ls hl => ?_)
                        refine lv_goto (tgt := 63) S.1 S.2.1 d_MO_abend_177 (by decide) ?_
                        obtain ⟨jj, hjj2, hen2⟩ : ∃ jj, jj ≤ 100 ∧ (en_of (ab_F1 F' na x0) x0 a lv).1 = nI (ab_n F lv jj) := by
                          rcases en_at c122 with q | q | q
                          · exact ⟨j, by omega, by rw [q, haj]⟩
                          · exact ⟨0, by omega, q⟩
                          · exact ⟨j + 1, by omega, by rw [q, ab_n, ← haj, show (ab_F1 F' na x0) 0 a = F 0 a from congrFun hI.1 a, hpc, hpe]⟩
                        refine lv_iload S.1 S.2.1 d_MO_abend_63 (lv_at hl 0 rfl) ?_
                        refine lv_if_lt (tgt := 180) S.1 S.2.1 d_MO_abend_65 (by decide) (fun c65' => ?_) (fun c65' => ?_)
                        · refine lv_aload_n S.1 S.2.1 d_MO_abend_180 rfl (lv_at hl 6 rfl) ?_
                          refine mm_get (C := R_MO) (T := T_MO) (N := 22) (v := .ref (g 0)) S hK.1 hw hP.2.1 rfl in_MO 6 (by decide) gw_376 rfl rfl d_MO_abend_181 ?_
                          refine lv_iload S.1 S.2.1 d_MO_abend_184 (lv_at hl 5 rfl) ?_
                          refine mn_iald (j := a) (n := 101) (f := F' 0) S hK.1 hw 0 (mP_a (k := 0) (F := (ab_F2 F' na x0 a lv)) hP (by decide) (by decide)) rfl (rfl) (by omega) (by decide) d_MO_abend_186 ?_
                          rw [show ((F' 0) (a)) = F 0 a from congrFun hI.1 a]
                          refine lv_istore (lv' := [(6, .int (F 0 a)), (7, .int (nI kk - 1)), (3, .int (nI (ab_c F' x0 cc))), (5, .int 1), (4, .int (en_of (ab_F1 F' na x0) x0 a lv).1), (8, .int (nI x0)), (0, .ref x), (1, .int (nI lv)), (2, .int (nI cc0))]) S.1 S.2.1 d_MO_abend_187 hl (by decide) rfl (fun ls hl => ?_)
                          refine lv_goto (tgt := 42) S.1 S.2.1 d_MO_abend_189 (by decide) ?_
                          refine lv_iload S.1 S.2.1 d_MO_abend_42 (lv_at hl 0 rfl) ?_
                          refine lv_if_eq (tgt := 192) S.1 S.2.1 d_MO_abend_44 (by decide) (fun c44' => ?_) (fun c44' => ?_)
                          · exact J (na + 1) (ab_c F' x0 cc) _ (ab_F2 F' na x0 a lv) _ 1 _ H locs ls (ab_Is hI) (ab_cr ⟨hc3, hc4⟩).1 (ab_cr ⟨hc3, hc4⟩).2 hjj2 hen2 (Or.inr (en_two c122 c133)) hw hP (hs.trans (by rw [ab_r_s hx0 (by omega), if_neg c122]; unfold ab_k; rw [if_neg c122])) (lv_sub hl [2, 4, 3, 6, 7, 8] rfl)
                          · refine lv_iload S.1 S.2.1 d_MO_abend_47 (lv_at hl 4 rfl) ?_
                            refine lv_if_ne (tgt := 192) S.1 S.2.1 d_MO_abend_49 (by decide) (fun c49' => ?_) (fun c49' => absurd c49' c122)
                            exact J (na + 1) (ab_c F' x0 cc) _ (ab_F2 F' na x0 a lv) _ 1 _ H locs ls (ab_Is hI) (ab_cr ⟨hc3, hc4⟩).1 (ab_cr ⟨hc3, hc4⟩).2 hjj2 hen2 (Or.inr (en_two c122 c133)) hw hP (hs.trans (by rw [ab_r_s hx0 (by omega), if_neg c122]; unfold ab_k; rw [if_neg c122])) (lv_sub hl [2, 4, 3, 6, 7, 8] rfl)
                        · refine lv_iload S.1 S.2.1 d_MO_abend_68 (lv_at hl 3 rfl) ?_
                          refine lv_if_ne (tgt := 180) S.1 S.2.1 d_MO_abend_70 (by decide) (fun c70' => ?_) (fun c70' => absurd c70' c122)
                          refine lv_aload_n S.1 S.2.1 d_MO_abend_180 rfl (lv_at hl 6 rfl) ?_
                          refine mm_get (C := R_MO) (T := T_MO) (N := 22) (v := .ref (g 0)) S hK.1 hw hP.2.1 rfl in_MO 6 (by decide) gw_376 rfl rfl d_MO_abend_181 ?_
                          refine lv_iload S.1 S.2.1 d_MO_abend_184 (lv_at hl 5 rfl) ?_
                          refine mn_iald (j := a) (n := 101) (f := F' 0) S hK.1 hw 0 (mP_a (k := 0) (F := (ab_F2 F' na x0 a lv)) hP (by decide) (by decide)) rfl (rfl) (by omega) (by decide) d_MO_abend_186 ?_
                          rw [show ((F' 0) (a)) = F 0 a from congrFun hI.1 a]
                          refine lv_istore (lv' := [(6, .int (F 0 a)), (7, .int (nI kk - 1)), (3, .int (nI (ab_c F' x0 cc))), (5, .int 1), (4, .int (en_of (ab_F1 F' na x0) x0 a lv).1), (8, .int (nI x0)), (0, .ref x), (1, .int (nI lv)), (2, .int (nI cc0))]) S.1 S.2.1 d_MO_abend_187 hl (by decide) rfl (fun ls hl => ?_)
                          refine lv_goto (tgt := 42) S.1 S.2.1 d_MO_abend_189 (by decide) ?_
                          refine lv_iload S.1 S.2.1 d_MO_abend_42 (lv_at hl 0 rfl) ?_
                          refine lv_if_eq (tgt := 192) S.1 S.2.1 d_MO_abend_44 (by decide) (fun c44' => ?_) (fun c44' => ?_)
                          · exact J (na + 1) (ab_c F' x0 cc) _ (ab_F2 F' na x0 a lv) _ 1 _ H locs ls (ab_Is hI) (ab_cr ⟨hc3, hc4⟩).1 (ab_cr ⟨hc3, hc4⟩).2 hjj2 hen2 (Or.inr (en_two c122 c133)) hw hP (hs.trans (by rw [ab_r_s hx0 (by omega), if_neg c122]; unfold ab_k; rw [if_neg c122])) (lv_sub hl [2, 4, 3, 6, 7, 8] rfl)
                          · refine lv_iload S.1 S.2.1 d_MO_abend_47 (lv_at hl 4 rfl) ?_
                            refine lv_if_ne (tgt := 192) S.1 S.2.1 d_MO_abend_49 (by decide) (fun c49' => ?_) (fun c49' => absurd c49' c122)
                            exact J (na + 1) (ab_c F' x0 cc) _ (ab_F2 F' na x0 a lv) _ 1 _ H locs ls (ab_Is hI) (ab_cr ⟨hc3, hc4⟩).1 (ab_cr ⟨hc3, hc4⟩).2 hjj2 hen2 (Or.inr (en_two c122 c133)) hw hP (hs.trans (by rw [ab_r_s hx0 (by omega), if_neg c122]; unfold ab_k; rw [if_neg c122])) (lv_sub hl [2, 4, 3, 6, 7, 8] rfl)
            exact LI z na cc F' M H locs ls (Nat.le_refl _) (by omega) hI hc3 hc4 hw hP hs (lv_sub hl [1, 2, 3, 4, 0, 5, 6, 7] rfl)
      exact LO 101 lv 0 cc0 0 F M H locs ls (by omega) hlvn rfl (by omega) (hd20) ⟨rfl, rfl, rfl, rfl, rfl, rfl, rfl⟩ hc1 hc2 hw hP rfl (lv_sub hl [3, 2, 1, 0, 4, 5, 6] rfl)
    · refine lv_if_ne (tgt := 26) S.1 S.2.1 d_MO_abend_20 (by decide) (fun c20 => absurd c20 (by decide)) (fun c20 => ?_)
      refine lv_bipush (v := (-4)) S.1 S.2.1 d_MO_abend_23 (by decide) ?_
      exact mm_reti S.1 S.2.1 hr hlocks hA hQ hw (md_done hP (show sp_abend k c0 I F st = ((-4), (upd I 0 (0)), F, st) by simp only [sp_abend, eq_false c10, eq_true c20, eq_true hc3, eq_false hc7, not_true_eq_false, not_false_eq_true, and_true, true_and, and_false, false_and, and_self, or_true, true_or, or_false, false_or, or_self, ↓reduceIte])) (Nat.le_of_ble_eq_true rfl) (Nat.le_of_ble_eq_true rfl) d_MO_abend_25
  · have hc3 : ¬ is_ok (I 1) (k) := hc3
    refine lv_if_ne (tgt := 16) S.1 S.2.1 d_MO_abend_10 (by decide) (fun c10 => absurd c10 (by decide)) (fun c10 => ?_)
    refine lv_bipush (v := (-2)) S.1 S.2.1 d_MO_abend_13 (by decide) ?_
    exact mm_reti S.1 S.2.1 hr hlocks hA hQ hw (md_done hP (show sp_abend k c0 I F st = ((-2), (upd I 0 (0)), F, st) by simp only [sp_abend, eq_true c10, eq_false hc3, not_true_eq_false, not_false_eq_true, and_true, true_and, and_false, false_and, and_self, or_true, true_or, or_false, false_or, or_self, ↓reduceIte])) (Nat.le_of_ble_eq_true rfl) (Nat.le_of_ble_eq_true rfl) d_MO_abend_15
