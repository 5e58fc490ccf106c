/-! THE CLASS'S PICTURE -/
/-- a cell's kind: the class of an object, the length of an array -/
def tg : va_E → Nat
  | .inr o => o.1
  | .inl (_, n, .inr (.inl _)) => 2000 + n
  | .inl (_, n, _) => 1000 + n
/-- cells of kinds outside T stay -/
def kt (M M' : mm_M) (T : List Nat) : Prop := ∀ (a : Nat) (e : va_E), M a = some e → tg e ∉ T → M' a = some e
theorem kt_rf {M : mm_M} {T : List Nat} : kt M M T := fun _ _ h _ => h
theorem kt_tr {M M1 M2 : mm_M} {T : List Nat} (h1 : kt M M1 T) (h2 : kt M1 M2 T) : kt M M2 T := fun a e h ht => h2 a e (h1 a e h ht) ht
theorem kt_up {M : mm_M} {a : Nat} {e0 e : va_E} {T : List Nat} (ha : M a = some e0) (hT : tg e0 ∈ T) : kt M (mm_up M a e) T := fun b x hb hx => by
  have hba : b ≠ a := fun q => by
    rw [q, ha] at hb
    cases hb
    exact hx hT
  rw [mm_un hba]
  exact hb
theorem kt_nw {M : mm_M} {a : Nat} {e : va_E} {T : List Nat} (ha : M a = none) : kt M (mm_up M a e) T := fun b x hb _ => mm_fk ha hb
theorem kt_mo {M M' : mm_M} {T T' : List Nat} (h : kt M M' T) (hs : ∀ t ∈ T, t ∈ T') : kt M M' T' := fun a e he ht => h a e he (fun q => ht (hs _ q))
abbrev aQ (d : ClassId) (n : Nat) (f : Nat → Option Nat) : va_E := .inl (d, n, .inr (.inr (.inr (.inr f))))
abbrev aI (d : ClassId) (n : Nat) (f : Nat → Int32) : va_E := .inl (d, n, .inl f)
abbrev aJ (d : ClassId) (n : Nat) (f : Nat → Int64) : va_E := .inl (d, n, .inr (.inl f))
def cX (M : mm_M) (x : Nat) (I : sI) (lv sr gd rs ss dr cs cg : Nat) : Prop := M x = some (.inr (0, [.ref lv, .int (I 1), .int (I 2), .ref sr, .ref gd, .int (I 3), .ref rs, .ref ss, .ref dr, .ref cs, .ref cg]))
/-- the level of a number; 0: none -/
def lk (la : Nat → Nat) (v : Int32) : Option Nat := if v = 0 then none else some (la (cN v))
def tpf (ea : Nat → Nat) (F : sF) (a : Nat) : Option Nat := if cN (F 2 a) = 0 then none else some (ea (cN (F 3 (10 * a + (cN (F 2 a) - 1)))))
abbrev oL (la ea : Nat → Nat) (F : sF) (a : Nat) : va_E := .inr (5, [.int (nI a), va_rf (lk la (F 0 a)), .int (F 1 a), va_rf (tpf ea F a), .int (F 2 a)])
abbrev oE (er : Nat → Option Nat) (F : sF) (k : Nat) : va_E := .inr (6, [.int (nI k), .int (F 4 k), .int (F 6 k), va_rf (er k), .int (F 7 k)])
/-- the chain of a level's exits -/
def chn (ea : Nat → Nat) (er : Nat → Option Nat) (F : sF) (a : Nat) : Prop := ∀ t, t < cN (F 2 a) → er (cN (F 3 (10 * a + t))) = if t = 0 then none else some (ea (cN (F 3 (10 * a + (t - 1)))))
def cL (dA : Nat → ClassId) (M : mm_M) (lv : Nat) (I : sI) (F : sF) : Prop := ∃ (fL : Nat → Option Nat) (la ea : Nat → Nat) (er : Nat → Option Nat), M lv = some (aQ (dA 3) 100 fL) ∧ (∀ i, i < cN (I 1) → fL i = some (la (i + 1))) ∧ (∀ a, 1 ≤ a → a ≤ cN (I 1) → M (la a) = some (oL la ea F a)) ∧ (∀ k, 1 ≤ k → k ≤ cN (I 2) → M (ea k) = some (oE er F k)) ∧ ∀ a, 1 ≤ a → a ≤ cN (I 1) → chn ea er F a
/-- what a guard's flags say -/
def gst (v b f : Int32) : Prop := (v = 0 ∧ f = 1 ∧ (b = 0 ∨ b = 1)) ∨ (v = 1 ∧ f = 0 ∧ b = 0) ∨ (v = 2 ∧ f = 0 ∧ b = 1)
abbrev oG (F : sF) (b f : Nat → Int32) (i : Nat) : va_E := .inr (7, [.int (F 12 i), .int (F 13 i), .int (b i), .int (f i)])
def cG (dA : Nat → ClassId) (M : mm_M) (gd : Nat) (I : sI) (F : sF) : Prop := ∃ (fG : Nat → Option Nat) (ga : Nat → Nat) (b f : Nat → Int32), M gd = some (aQ (dA 4) 60 fG) ∧ (∀ i, i < 60 → fG i = if i < cN (I 3) then some (ga (i + 1)) else none) ∧ (∀ i, 1 ≤ i → i ≤ cN (I 3) → M (ga i) = some (oG F b f i) ∧ gst (F 14 i) (b i) (f i)) ∧ ∀ i j, 1 ≤ i → i ≤ cN (I 3) → 1 ≤ j → j ≤ cN (I 3) → ga i = ga j → i = j
def cS (dA : Nat → ClassId) (M : mm_M) (sr : Nat) (I : sI) (F : sF) : Prop := ∃ (ak : Nat) (fA : Nat → Int32) (sc : Int32), M sr = some (.inr (1, [.ref ak, .int (I 5), .int sc])) ∧ M ak = some (aI (dA 0) 200 fA) ∧ ∀ j, j < cN (I 5) → fA j = F 5 j
def cD (dA : Nat → ClassId) (M : mm_M) (dr : Nat) (I : sI) (F : sF) : Prop := ∃ (rg nx : Nat) (fD : Nat → Option Nat) (da : Nat → Nat), M dr = some (.inr (2, [.ref rg, .int (nI nx)])) ∧ nx < 50 ∧ M rg = some (aQ (dA 5) 50 fD) ∧ (∀ t, t < 50 → fD ((nx + t) % 50) = if t < 50 - cN (I 4) then none else some (da (t - (50 - cN (I 4))))) ∧ ∀ t, t < cN (I 4) → M (da t) = some (.inr (8, [.int (F 15 (5 * t)), .int (F 15 (5 * t + 1)), .int (F 15 (5 * t + 2)), .int (F 15 (5 * t + 3)), .int (F 15 (5 * t + 4))])) ∧ (F 15 (5 * t + 4) = 0 ∨ F 15 (5 * t + 4) = 1)
def bw (f : Nat → Int64) (j : Nat) : Bool := (f (j / 64)).toBitVec.getLsbD (j % 64)
def cC (dA : Nat → ClassId) (M : mm_M) (cs : Nat) (F : sF) : Prop := ∃ (wd : Nat) (fW : Nat → Int64), M cs = some (.inr (3, [.ref wd])) ∧ M wd = some (aJ (dA 1) 157 fW) ∧ ∀ j, 1 ≤ j → j ≤ 9999 → F 10 j = if bw fW j then 1 else 0
def cnt (f : Nat → Int32) (c : Int32) : Nat → Int32
  | 0 => 0
  | n + 1 => if f n = c then cnt f c n + 1 else cnt f c n
def cE (dA : Nat → ClassId) (M : mm_M) (cg : Nat) (F : sF) (nc : Nat) : Prop := ∃ (cd n : Nat) (fC : Nat → Int32), M cg = some (.inr (4, [.ref cd, .int (nI n)])) ∧ M cd = some (aI (dA 0) 512 fC) ∧ n ≤ nc ∧ (∀ j, j < n → is_ok 9999 (fC j)) ∧ ∀ k, 1 ≤ k → k ≤ 9999 → F 8 k = cnt fC (nI k) n
def cP (dA : Nat → ClassId) (M : mm_M) (x : Nat) (I : sI) (F : sF) (st : sT) (nc : Nat) : Prop := ∃ lv sr gd rs ss dr cs cg : Nat, cX M x I lv sr gd rs ss dr cs cg ∧ cL dA M lv I F ∧ cG dA M gd I F ∧ cS dA M sr I F ∧ M rs = some (aI (dA 0) 41 (F 9)) ∧ M ss = some (aJ (dA 1) 41 st) ∧ cD dA M dr I F ∧ cC dA M cs F ∧ cE dA M cg F nc
section KEEP
variable {dA : Nat → ClassId} {M M' : mm_M} {T : List Nat} {I I' : sI} {F F' : sF}
theorem cL_k {lv : Nat} (k : kt M M' T) (h : cL dA M lv I F) (hT : 1100 ∉ T ∧ 5 ∉ T ∧ 6 ∉ T) (h1 : I' 1 = I 1) (h2 : I' 2 = I 2) (f0 : F' 0 = F 0) (f1 : F' 1 = F 1) (f2 : F' 2 = F 2) (f3 : F' 3 = F 3) (f4 : F' 4 = F 4) (f6 : F' 6 = F 6) (f7 : F' 7 = F 7) : cL dA M' lv I' F' := by
  obtain ⟨fL, la, ea, er, a1, a2, a3, a4, a5⟩ := h
  refine ⟨fL, la, ea, er, k _ _ a1 hT.1, by rw [h1]; exact a2, fun a p q => ?_, fun e p q => ?_, fun a p q => ?_⟩
  · rw [h1] at q
    have := k _ _ (a3 a p q) hT.2.1
    simp only [oL, tpf, f0, f1, f2, f3]
    exact this
  · rw [h2] at q
    have := k _ _ (a4 e p q) hT.2.2
    simp only [oE, f4, f6, f7]
    exact this
  · rw [h1] at q
    unfold chn
    rw [f2, f3]
    exact a5 a p q
theorem cG_k {gd : Nat} (k : kt M M' T) (h : cG dA M gd I F) (hT : 1060 ∉ T ∧ 7 ∉ T) (h3 : I' 3 = I 3) (f2 : F' 12 = F 12) (f3 : F' 13 = F 13) (f4 : F' 14 = F 14) : cG dA M' gd I' F' := by
  obtain ⟨fG, ga, b, f, a1, a2, a3, a4⟩ := h
  refine ⟨fG, ga, b, f, k _ _ a1 hT.1, by rw [h3]; exact a2, fun i p q => ?_, by rw [h3]; exact a4⟩
  rw [h3] at q
  simp only [oG, f2, f3, f4]
  exact ⟨k _ _ (a3 i p q).1 hT.2, (a3 i p q).2⟩
theorem cS_k {sr : Nat} (k : kt M M' T) (h : cS dA M sr I F) (hT : 1 ∉ T ∧ 1200 ∉ T) (h5 : I' 5 = I 5) (f5 : F' 5 = F 5) : cS dA M' sr I' F' := by
  obtain ⟨ak, fA, sc, a1, a2, a3⟩ := h
  refine ⟨ak, fA, sc, ?_, k _ _ a2 hT.2, ?_⟩
  · rw [h5]; exact k _ _ a1 hT.1
  · rw [h5, f5]; exact a3
theorem cD_k {dr : Nat} (k : kt M M' T) (h : cD dA M dr I F) (hT : 2 ∉ T ∧ 1050 ∉ T ∧ 8 ∉ T) (h4 : I' 4 = I 4) (f5 : F' 15 = F 15) : cD dA M' dr I' F' := by
  obtain ⟨rg, nx, fD, da, a1, a2, a3, a4, a5⟩ := h
  refine ⟨rg, nx, fD, da, k _ _ a1 hT.1, a2, k _ _ a3 hT.2.1, by rw [h4]; exact a4, fun t p => ?_⟩
  rw [h4] at p
  rw [f5]
  exact ⟨k _ _ (a5 t p).1 hT.2.2, (a5 t p).2⟩
theorem cC_k {cs : Nat} (k : kt M M' T) (h : cC dA M cs F) (hT : 3 ∉ T ∧ 2157 ∉ T) (f0 : F' 10 = F 10) : cC dA M' cs F' := by
  obtain ⟨wd, fW, a1, a2, a3⟩ := h
  exact ⟨wd, fW, k _ _ a1 hT.1, k _ _ a2 hT.2, by rw [f0]; exact a3⟩
theorem cE_k {cg nc nc' : Nat} (k : kt M M' T) (h : cE dA M cg F nc) (hT : 4 ∉ T ∧ 1512 ∉ T) (hn : nc ≤ nc') (f8 : F' 8 = F 8) : cE dA M' cg F' nc' := by
  obtain ⟨cd, n, fC, a1, a2, a3, a4, a5⟩ := h
  exact ⟨cd, n, fC, k _ _ a1 hT.1, k _ _ a2 hT.2, Nat.le_trans a3 hn, a4, by rw [f8]; exact a5⟩
end KEEP
/-- nothing that the class holds has changed -/
theorem cP_s {dA : Nat → ClassId} {M : mm_M} {x : Nat} {I : sI} {F : sF} {st : sT} {nc : Nat} (h : cP dA M x I F st nc) : cP dA M x (upd I 0 0) F st (nc + 1) := by
  obtain ⟨lv, sr, gd, rs, ss, dr, cs, cg, a1, a2, a3, a4, a5, a6, a7, a8, a9⟩ := h
  exact ⟨lv, sr, gd, rs, ss, dr, cs, cg, a1, a2, a3, a4, a5, a6, a7, a8, cE_k (T := []) kt_rf a9 ⟨by simp, by simp⟩ (by omega) rfl⟩
/-- a class's contract -/
abbrev cs_post (dA : Nat → ClassId) (x nc : Nat) (R : sR) : Int32 → mm_M → Prop := fun r M' => r = R.1 ∧ cP dA M' x R.2.1 R.2.2.1 R.2.2.2 (nc + 1)
theorem cs_same {dA : Nat → ClassId} {M : mm_M} {x : Nat} {I : sI} {F : sF} {st : sT} {nc : Nat} {R : sR} {v : Int32} (h : cP dA M x I F st nc) (hR : R = (v, upd I 0 0, F, st)) : cs_post dA x nc R v M := by
  subst hR
  exact ⟨rfl, cP_s h⟩
theorem cs_done {dA : Nat → ClassId} {M : mm_M} {x : Nat} {I : sI} {F : sF} {st : sT} {nc : Nat} {R : sR} {v : Int32} (h : cP dA M x I F st (nc + 1)) (hR : R = (v, I, F, st)) : cs_post dA x nc R v M := by
  subst hR
  exact ⟨rfl, h⟩
/-- what holds of the numbers in every state -/
def wf (I : sI) (F : sF) (st : sT) : Prop := (∃ n, I 1 = nI n ∧ n ≤ 100) ∧ (∃ n, I 2 = nI n ∧ n ≤ 300) ∧ (∃ n, I 3 = nI n ∧ n ≤ 60) ∧ (∃ n, I 4 = nI n ∧ n ≤ 50) ∧ (∃ n, I 5 = nI n ∧ n ≤ 200) ∧ lv_wf2 F (cN (I 1)) (cN (I 2)) ∧ (∀ a, cN (I 1) < a → F 2 a = 0) ∧ (∀ k, 1 ≤ k → k ≤ cN (I 2) → (F 6 k = 0 ∨ F 6 k = 1) ∧ (F 7 k = 0 ∨ F 7 k = 1)) ∧ (∀ k, cN (I 2) < k → F 7 k = 0) ∧ (∀ t, 1 ≤ t → t ≤ 40 → ∃ u, st t = lN u ∧ u ≤ 1000)

