def gc_a (F : sF) (t : Int32) : Nat → Int32
  | 0 => 0
  | g + 1 => gc_a F t g + (if F 12 (g + 1) = t ∧ ¬ F 14 (g + 1) ≤ 0 then 1 else 0)
def gc_b (F : sF) (t : Int32) : Nat → Int32
  | 0 => 0
  | g + 1 => gc_b F t g + (if F 12 (g + 1) = t ∧ F 14 (g + 1) = 2 then 1 else 0)
def sh5 (f : Nat → Int32) (n : Nat) : Nat → Int32 := fun j => if j < n then f (j + 5) else f j
theorem sh5_0 {f : Nat → Int32} : sh5 f 0 = f := by
  funext j
  simp [sh5]
theorem sh5_s {f : Nat → Int32} {i : Nat} : upd (sh5 f i) i (sh5 f i (i + 5)) = sh5 f (i + 1) := by
  funext j
  by_cases h : j = i
  · subst h
    rw [pk_us]
    unfold sh5
    rw [if_neg (by omega), if_pos (by omega)]
  · rw [pk_un h]
    unfold sh5
    by_cases h2 : j < i
    · rw [if_pos h2, if_pos (by omega)]
    · rw [if_neg h2, if_neg (by omega)]
def rs_ag (t k : Int32) (F : sF) : Int32 := if ¬ 1000 ≤ k ∧ ¬ 3 ≤ F 9 (cN t) then 1 else 0
def rs_F (t k : Int32) (F : sF) : sF := va_up (va_up F 9 (upd (F 9) (cN t) (F 9 (cN t) + rs_ag t k F))) 8 (upd (F 8) (cN k) (F 8 (cN k) + 1))
def rs_n (I : sI) : Nat := if I 4 = 50 then 49 else cN (I 4)
def rs_k (I : sI) (F : sF) : Nat → Int32 := if I 4 = 50 then sh5 (F 15) 245 else F 15
def sp_restart (t k : Int32) (I : sI) (F : sF) (st : sT) : sR :=
  if ¬ is_ok 40 t ∨ ¬ is_ok 9999 k then (-4, upd I 0 0, F, st)
  else if ¬ F 10 (cN k) = 0 then (rs_ag t k F, upd I 0 0, rs_F t k F, st)
  else (rs_ag t k F, upd (upd I 0 0) 4 (nI (rs_n I + 1)), va_up (rs_F t k F) 15 (upd (upd (upd (upd (upd (rs_k I F) (5 * rs_n I) t) (5 * rs_n I + 1) k) (5 * rs_n I + 2) (gc_a F t (cN (I 3)))) (5 * rs_n I + 3) (gc_b F t (cN (I 3)))) (5 * rs_n I + 4) (rs_ag t k F)), st)

theorem d_MO_restart_0 : decode b_MO_restart 0 = .ok (.aload_n 0, 1) := by decide +kernel
theorem d_MO_restart_1 : decode b_MO_restart 1 = .ok (.iconst 0, 1) := by decide +kernel
theorem d_MO_restart_2 : decode b_MO_restart 2 = .ok (.putfield 60, 3) := by decide +kernel
theorem d_MO_restart_5 : decode b_MO_restart 5 = .ok (.iload_n 1, 1) := by decide +kernel
theorem d_MO_restart_6 : decode b_MO_restart 6 = .ok (.invokestatic 84, 3) := by decide +kernel
theorem d_MO_restart_9 : decode b_MO_restart 9 = .ok (.ifCond .eq 10, 3) := by decide +kernel
theorem d_MO_restart_12 : decode b_MO_restart 12 = .ok (.iload_n 2, 1) := by decide +kernel
theorem d_MO_restart_13 : decode b_MO_restart 13 = .ok (.invokestatic 74, 3) := by decide +kernel
theorem d_MO_restart_16 : decode b_MO_restart 16 = .ok (.ifCond .ne 6, 3) := by decide +kernel
theorem d_MO_restart_19 : decode b_MO_restart 19 = .ok (.bipush (-4), 2) := by decide +kernel
theorem d_MO_restart_21 : decode b_MO_restart 21 = .ok (.ireturn, 1) := by decide +kernel
theorem d_MO_restart_22 : decode b_MO_restart 22 = .ok (.iload_n 2, 1) := by decide +kernel
theorem d_MO_restart_23 : decode b_MO_restart 23 = .ok (.sipush 1000, 3) := by decide +kernel
theorem d_MO_restart_26 : decode b_MO_restart 26 = .ok (.if_icmp .ge 17, 3) := by decide +kernel
theorem d_MO_restart_29 : decode b_MO_restart 29 = .ok (.aload_n 0, 1) := by decide +kernel
theorem d_MO_restart_30 : decode b_MO_restart 30 = .ok (.getfield 38, 3) := by decide +kernel
theorem d_MO_restart_33 : decode b_MO_restart 33 = .ok (.iload_n 1, 1) := by decide +kernel
theorem d_MO_restart_34 : decode b_MO_restart 34 = .ok (.iaload, 1) := by decide +kernel
theorem d_MO_restart_35 : decode b_MO_restart 35 = .ok (.iconst 3, 1) := by decide +kernel
theorem d_MO_restart_36 : decode b_MO_restart 36 = .ok (.if_icmp .ge 7, 3) := by decide +kernel
theorem d_MO_restart_39 : decode b_MO_restart 39 = .ok (.iconst 1, 1) := by decide +kernel
theorem d_MO_restart_40 : decode b_MO_restart 40 = .ok (.goto 4, 3) := by decide +kernel
theorem d_MO_restart_43 : decode b_MO_restart 43 = .ok (.iconst 0, 1) := by decide +kernel
theorem d_MO_restart_44 : decode b_MO_restart 44 = .ok (.istore_n 3, 1) := by decide +kernel
theorem d_MO_restart_45 : decode b_MO_restart 45 = .ok (.aload_n 0, 1) := by decide +kernel
theorem d_MO_restart_46 : decode b_MO_restart 46 = .ok (.getfield 38, 3) := by decide +kernel
theorem d_MO_restart_49 : decode b_MO_restart 49 = .ok (.iload_n 1, 1) := by decide +kernel
theorem d_MO_restart_50 : decode b_MO_restart 50 = .ok (.dup2, 1) := by decide +kernel
theorem d_MO_restart_51 : decode b_MO_restart 51 = .ok (.iaload, 1) := by decide +kernel
theorem d_MO_restart_52 : decode b_MO_restart 52 = .ok (.iload_n 3, 1) := by decide +kernel
theorem d_MO_restart_53 : decode b_MO_restart 53 = .ok (.iadd, 1) := by decide +kernel
theorem d_MO_restart_54 : decode b_MO_restart 54 = .ok (.iastore, 1) := by decide +kernel
theorem d_MO_restart_55 : decode b_MO_restart 55 = .ok (.aload_n 0, 1) := by decide +kernel
theorem d_MO_restart_56 : decode b_MO_restart 56 = .ok (.getfield 35, 3) := by decide +kernel
theorem d_MO_restart_59 : decode b_MO_restart 59 = .ok (.iload_n 2, 1) := by decide +kernel
theorem d_MO_restart_60 : decode b_MO_restart 60 = .ok (.dup2, 1) := by decide +kernel
theorem d_MO_restart_61 : decode b_MO_restart 61 = .ok (.iaload, 1) := by decide +kernel
theorem d_MO_restart_62 : decode b_MO_restart 62 = .ok (.iconst 1, 1) := by decide +kernel
theorem d_MO_restart_63 : decode b_MO_restart 63 = .ok (.iadd, 1) := by decide +kernel
theorem d_MO_restart_64 : decode b_MO_restart 64 = .ok (.iastore, 1) := by decide +kernel
theorem d_MO_restart_65 : decode b_MO_restart 65 = .ok (.aload_n 0, 1) := by decide +kernel
theorem d_MO_restart_66 : decode b_MO_restart 66 = .ok (.getfield 41, 3) := by decide +kernel
theorem d_MO_restart_69 : decode b_MO_restart 69 = .ok (.iload_n 2, 1) := by decide +kernel
theorem d_MO_restart_70 : decode b_MO_restart 70 = .ok (.baload, 1) := by decide +kernel
theorem d_MO_restart_71 : decode b_MO_restart 71 = .ok (.ifCond .eq 5, 3) := by decide +kernel
theorem d_MO_restart_74 : decode b_MO_restart 74 = .ok (.iload_n 3, 1) := by decide +kernel
theorem d_MO_restart_75 : decode b_MO_restart 75 = .ok (.ireturn, 1) := by decide +kernel
theorem d_MO_restart_76 : decode b_MO_restart 76 = .ok (.aload_n 0, 1) := by decide +kernel
theorem d_MO_restart_77 : decode b_MO_restart 77 = .ok (.getfield 87, 3) := by decide +kernel
theorem d_MO_restart_80 : decode b_MO_restart 80 = .ok (.bipush 50, 2) := by decide +kernel
theorem d_MO_restart_82 : decode b_MO_restart 82 = .ok (.if_icmp .ne 49, 3) := by decide +kernel
theorem d_MO_restart_85 : decode b_MO_restart 85 = .ok (.aload_n 0, 1) := by decide +kernel
theorem d_MO_restart_86 : decode b_MO_restart 86 = .ok (.dup, 1) := by decide +kernel
theorem d_MO_restart_87 : decode b_MO_restart 87 = .ok (.getfield 87, 3) := by decide +kernel
theorem d_MO_restart_90 : decode b_MO_restart 90 = .ok (.iconst 1, 1) := by decide +kernel
theorem d_MO_restart_91 : decode b_MO_restart 91 = .ok (.isub, 1) := by decide +kernel
theorem d_MO_restart_92 : decode b_MO_restart 92 = .ok (.putfield 87, 3) := by decide +kernel
theorem d_MO_restart_95 : decode b_MO_restart 95 = .ok (.iconst 0, 1) := by decide +kernel
theorem d_MO_restart_96 : decode b_MO_restart 96 = .ok (.istore 4, 2) := by decide +kernel
theorem d_MO_restart_98 : decode b_MO_restart 98 = .ok (.iload 4, 2) := by decide +kernel
theorem d_MO_restart_100 : decode b_MO_restart 100 = .ok (.iconst 5, 1) := by decide +kernel
theorem d_MO_restart_101 : decode b_MO_restart 101 = .ok (.aload_n 0, 1) := by decide +kernel
theorem d_MO_restart_102 : decode b_MO_restart 102 = .ok (.getfield 87, 3) := by decide +kernel
theorem d_MO_restart_105 : decode b_MO_restart 105 = .ok (.imul, 1) := by decide +kernel
theorem d_MO_restart_106 : decode b_MO_restart 106 = .ok (.if_icmp .ge 25, 3) := by decide +kernel
theorem d_MO_restart_109 : decode b_MO_restart 109 = .ok (.aload_n 0, 1) := by decide +kernel
theorem d_MO_restart_110 : decode b_MO_restart 110 = .ok (.getfield 57, 3) := by decide +kernel
theorem d_MO_restart_113 : decode b_MO_restart 113 = .ok (.iload 4, 2) := by decide +kernel
theorem d_MO_restart_115 : decode b_MO_restart 115 = .ok (.aload_n 0, 1) := by decide +kernel
theorem d_MO_restart_116 : decode b_MO_restart 116 = .ok (.getfield 57, 3) := by decide +kernel
theorem d_MO_restart_119 : decode b_MO_restart 119 = .ok (.iload 4, 2) := by decide +kernel
theorem d_MO_restart_121 : decode b_MO_restart 121 = .ok (.iconst 5, 1) := by decide +kernel
theorem d_MO_restart_122 : decode b_MO_restart 122 = .ok (.iadd, 1) := by decide +kernel
theorem d_MO_restart_123 : decode b_MO_restart 123 = .ok (.iaload, 1) := by decide +kernel
theorem d_MO_restart_124 : decode b_MO_restart 124 = .ok (.iastore, 1) := by decide +kernel
theorem d_MO_restart_125 : decode b_MO_restart 125 = .ok (.iinc 4 1, 3) := by decide +kernel
theorem d_MO_restart_128 : decode b_MO_restart 128 = .ok (.goto (-30), 3) := by decide +kernel
theorem d_MO_restart_131 : decode b_MO_restart 131 = .ok (.iconst 0, 1) := by decide +kernel
theorem d_MO_restart_132 : decode b_MO_restart 132 = .ok (.istore 4, 2) := by decide +kernel
theorem d_MO_restart_134 : decode b_MO_restart 134 = .ok (.iconst 0, 1) := by decide +kernel
theorem d_MO_restart_135 : decode b_MO_restart 135 = .ok (.istore 5, 2) := by decide +kernel
theorem d_MO_restart_137 : decode b_MO_restart 137 = .ok (.iconst 1, 1) := by decide +kernel
theorem d_MO_restart_138 : decode b_MO_restart 138 = .ok (.istore 6, 2) := by decide +kernel
theorem d_MO_restart_140 : decode b_MO_restart 140 = .ok (.iload 6, 2) := by decide +kernel
theorem d_MO_restart_142 : decode b_MO_restart 142 = .ok (.aload_n 0, 1) := by decide +kernel
theorem d_MO_restart_143 : decode b_MO_restart 143 = .ok (.getfield 90, 3) := by decide +kernel
theorem d_MO_restart_146 : decode b_MO_restart 146 = .ok (.if_icmp .gt 72, 3) := by decide +kernel
theorem d_MO_restart_149 : decode b_MO_restart 149 = .ok (.iload 4, 2) := by decide +kernel
theorem d_MO_restart_151 : decode b_MO_restart 151 = .ok (.aload_n 0, 1) := by decide +kernel
theorem d_MO_restart_152 : decode b_MO_restart 152 = .ok (.getfield 48, 3) := by decide +kernel
theorem d_MO_restart_155 : decode b_MO_restart 155 = .ok (.iload 6, 2) := by decide +kernel
theorem d_MO_restart_157 : decode b_MO_restart 157 = .ok (.iaload, 1) := by decide +kernel
theorem d_MO_restart_158 : decode b_MO_restart 158 = .ok (.iload_n 1, 1) := by decide +kernel
theorem d_MO_restart_159 : decode b_MO_restart 159 = .ok (.if_icmp .ne 17, 3) := by decide +kernel
theorem d_MO_restart_162 : decode b_MO_restart 162 = .ok (.aload_n 0, 1) := by decide +kernel
theorem d_MO_restart_163 : decode b_MO_restart 163 = .ok (.getfield 54, 3) := by decide +kernel
theorem d_MO_restart_166 : decode b_MO_restart 166 = .ok (.iload 6, 2) := by decide +kernel
theorem d_MO_restart_168 : decode b_MO_restart 168 = .ok (.iaload, 1) := by decide +kernel
theorem d_MO_restart_169 : decode b_MO_restart 169 = .ok (.ifCond .le 7, 3) := by decide +kernel
theorem d_MO_restart_172 : decode b_MO_restart 172 = .ok (.iconst 1, 1) := by decide +kernel
theorem d_MO_restart_173 : decode b_MO_restart 173 = .ok (.goto 4, 3) := by decide +kernel
theorem d_MO_restart_176 : decode b_MO_restart 176 = .ok (.iconst 0, 1) := by decide +kernel
theorem d_MO_restart_177 : decode b_MO_restart 177 = .ok (.iadd, 1) := by decide +kernel
theorem d_MO_restart_178 : decode b_MO_restart 178 = .ok (.istore 4, 2) := by decide +kernel
theorem d_MO_restart_180 : decode b_MO_restart 180 = .ok (.iload 5, 2) := by decide +kernel
theorem d_MO_restart_182 : decode b_MO_restart 182 = .ok (.aload_n 0, 1) := by decide +kernel
theorem d_MO_restart_183 : decode b_MO_restart 183 = .ok (.getfield 48, 3) := by decide +kernel
theorem d_MO_restart_186 : decode b_MO_restart 186 = .ok (.iload 6, 2) := by decide +kernel
theorem d_MO_restart_188 : decode b_MO_restart 188 = .ok (.iaload, 1) := by decide +kernel
theorem d_MO_restart_189 : decode b_MO_restart 189 = .ok (.iload_n 1, 1) := by decide +kernel
theorem d_MO_restart_190 : decode b_MO_restart 190 = .ok (.if_icmp .ne 18, 3) := by decide +kernel
theorem d_MO_restart_193 : decode b_MO_restart 193 = .ok (.aload_n 0, 1) := by decide +kernel
theorem d_MO_restart_194 : decode b_MO_restart 194 = .ok (.getfield 54, 3) := by decide +kernel
theorem d_MO_restart_197 : decode b_MO_restart 197 = .ok (.iload 6, 2) := by decide +kernel
theorem d_MO_restart_199 : decode b_MO_restart 199 = .ok (.iaload, 1) := by decide +kernel
theorem d_MO_restart_200 : decode b_MO_restart 200 = .ok (.iconst 2, 1) := by decide +kernel
theorem d_MO_restart_201 : decode b_MO_restart 201 = .ok (.if_icmp .ne 7, 3) := by decide +kernel
theorem d_MO_restart_204 : decode b_MO_restart 204 = .ok (.iconst 1, 1) := by decide +kernel
theorem d_MO_restart_205 : decode b_MO_restart 205 = .ok (.goto 4, 3) := by decide +kernel
theorem d_MO_restart_208 : decode b_MO_restart 208 = .ok (.iconst 0, 1) := by decide +kernel
theorem d_MO_restart_209 : decode b_MO_restart 209 = .ok (.iadd, 1) := by decide +kernel
theorem d_MO_restart_210 : decode b_MO_restart 210 = .ok (.istore 5, 2) := by decide +kernel
theorem d_MO_restart_212 : decode b_MO_restart 212 = .ok (.iinc 6 1, 3) := by decide +kernel
theorem d_MO_restart_215 : decode b_MO_restart 215 = .ok (.goto (-75), 3) := by decide +kernel
theorem d_MO_restart_218 : decode b_MO_restart 218 = .ok (.aload_n 0, 1) := by decide +kernel
theorem d_MO_restart_219 : decode b_MO_restart 219 = .ok (.getfield 57, 3) := by decide +kernel
theorem d_MO_restart_222 : decode b_MO_restart 222 = .ok (.iconst 5, 1) := by decide +kernel
theorem d_MO_restart_223 : decode b_MO_restart 223 = .ok (.aload_n 0, 1) := by decide +kernel
theorem d_MO_restart_224 : decode b_MO_restart 224 = .ok (.getfield 87, 3) := by decide +kernel
theorem d_MO_restart_227 : decode b_MO_restart 227 = .ok (.imul, 1) := by decide +kernel
theorem d_MO_restart_228 : decode b_MO_restart 228 = .ok (.iload_n 1, 1) := by decide +kernel
theorem d_MO_restart_229 : decode b_MO_restart 229 = .ok (.iastore, 1) := by decide +kernel
theorem d_MO_restart_230 : decode b_MO_restart 230 = .ok (.aload_n 0, 1) := by decide +kernel
theorem d_MO_restart_231 : decode b_MO_restart 231 = .ok (.getfield 57, 3) := by decide +kernel
theorem d_MO_restart_234 : decode b_MO_restart 234 = .ok (.iconst 5, 1) := by decide +kernel
theorem d_MO_restart_235 : decode b_MO_restart 235 = .ok (.aload_n 0, 1) := by decide +kernel
theorem d_MO_restart_236 : decode b_MO_restart 236 = .ok (.getfield 87, 3) := by decide +kernel
theorem d_MO_restart_239 : decode b_MO_restart 239 = .ok (.imul, 1) := by decide +kernel
theorem d_MO_restart_240 : decode b_MO_restart 240 = .ok (.iconst 1, 1) := by decide +kernel
theorem d_MO_restart_241 : decode b_MO_restart 241 = .ok (.iadd, 1) := by decide +kernel
theorem d_MO_restart_242 : decode b_MO_restart 242 = .ok (.iload_n 2, 1) := by decide +kernel
theorem d_MO_restart_243 : decode b_MO_restart 243 = .ok (.iastore, 1) := by decide +kernel
theorem d_MO_restart_244 : decode b_MO_restart 244 = .ok (.aload_n 0, 1) := by decide +kernel
theorem d_MO_restart_245 : decode b_MO_restart 245 = .ok (.getfield 57, 3) := by decide +kernel
theorem d_MO_restart_248 : decode b_MO_restart 248 = .ok (.iconst 5, 1) := by decide +kernel
theorem d_MO_restart_249 : decode b_MO_restart 249 = .ok (.aload_n 0, 1) := by decide +kernel
theorem d_MO_restart_250 : decode b_MO_restart 250 = .ok (.getfield 87, 3) := by decide +kernel
theorem d_MO_restart_253 : decode b_MO_restart 253 = .ok (.imul, 1) := by decide +kernel
theorem d_MO_restart_254 : decode b_MO_restart 254 = .ok (.iconst 2, 1) := by decide +kernel
theorem d_MO_restart_255 : decode b_MO_restart 255 = .ok (.iadd, 1) := by decide +kernel
theorem d_MO_restart_256 : decode b_MO_restart 256 = .ok (.iload 4, 2) := by decide +kernel
theorem d_MO_restart_258 : decode b_MO_restart 258 = .ok (.iastore, 1) := by decide +kernel
theorem d_MO_restart_259 : decode b_MO_restart 259 = .ok (.aload_n 0, 1) := by decide +kernel
theorem d_MO_restart_260 : decode b_MO_restart 260 = .ok (.getfield 57, 3) := by decide +kernel
theorem d_MO_restart_263 : decode b_MO_restart 263 = .ok (.iconst 5, 1) := by decide +kernel
theorem d_MO_restart_264 : decode b_MO_restart 264 = .ok (.aload_n 0, 1) := by decide +kernel
theorem d_MO_restart_265 : decode b_MO_restart 265 = .ok (.getfield 87, 3) := by decide +kernel
theorem d_MO_restart_268 : decode b_MO_restart 268 = .ok (.imul, 1) := by decide +kernel
theorem d_MO_restart_269 : decode b_MO_restart 269 = .ok (.iconst 3, 1) := by decide +kernel
theorem d_MO_restart_270 : decode b_MO_restart 270 = .ok (.iadd, 1) := by decide +kernel
theorem d_MO_restart_271 : decode b_MO_restart 271 = .ok (.iload 5, 2) := by decide +kernel
theorem d_MO_restart_273 : decode b_MO_restart 273 = .ok (.iastore, 1) := by decide +kernel
theorem d_MO_restart_274 : decode b_MO_restart 274 = .ok (.aload_n 0, 1) := by decide +kernel
theorem d_MO_restart_275 : decode b_MO_restart 275 = .ok (.getfield 57, 3) := by decide +kernel
theorem d_MO_restart_278 : decode b_MO_restart 278 = .ok (.iconst 5, 1) := by decide +kernel
theorem d_MO_restart_279 : decode b_MO_restart 279 = .ok (.aload_n 0, 1) := by decide +kernel
theorem d_MO_restart_280 : decode b_MO_restart 280 = .ok (.getfield 87, 3) := by decide +kernel
theorem d_MO_restart_283 : decode b_MO_restart 283 = .ok (.imul, 1) := by decide +kernel
theorem d_MO_restart_284 : decode b_MO_restart 284 = .ok (.iconst 4, 1) := by decide +kernel
theorem d_MO_restart_285 : decode b_MO_restart 285 = .ok (.iadd, 1) := by decide +kernel
theorem d_MO_restart_286 : decode b_MO_restart 286 = .ok (.iload_n 3, 1) := by decide +kernel
theorem d_MO_restart_287 : decode b_MO_restart 287 = .ok (.iastore, 1) := by decide +kernel
theorem d_MO_restart_288 : decode b_MO_restart 288 = .ok (.aload_n 0, 1) := by decide +kernel
theorem d_MO_restart_289 : decode b_MO_restart 289 = .ok (.dup, 1) := by decide +kernel
theorem d_MO_restart_290 : decode b_MO_restart 290 = .ok (.getfield 87, 3) := by decide +kernel
theorem d_MO_restart_293 : decode b_MO_restart 293 = .ok (.iconst 1, 1) := by decide +kernel
theorem d_MO_restart_294 : decode b_MO_restart 294 = .ok (.iadd, 1) := by decide +kernel
theorem d_MO_restart_295 : decode b_MO_restart 295 = .ok (.putfield 87, 3) := by decide +kernel
theorem d_MO_restart_298 : decode b_MO_restart 298 = .ok (.iload_n 3, 1) := by decide +kernel
theorem d_MO_restart_299 : decode b_MO_restart 299 = .ok (.ireturn, 1) := by decide +kernel
set_option maxHeartbeats 4000000 in
set_option maxRecDepth 100000 in
theorem c_MO_restart (l : Launch) (D : va_G) (dA : Nat → ClassId) (M : mm_M) (x : Nat) (g : Nat → Nat) (I : sI) (F : sF) (st : sT) (t k : Int32) (nd ng : Nat) (hnd : I 4 = nI nd) (hND : nd ≤ 50) (hng : I 3 = nI ng) (hNG : ng ≤ 60) (hP : mP dA M x g I F st) : mm_Ci l y_MO_restart w_MO_restart ({ frames := 1, cells := 0, slots := 0, locals := 20 }) 0 0 D vC (tyL dA) [.ref x, .int t, .int k] M (md_post dA x g (sp_restart t k I F st)) := by
  intro sz
  refine mm_start (by decide) (Nat.le_of_ble_eq_true rfl) ?_
  intro p e s m below meth c A Q ls hA hQ S hr hlocks hin hK hw hl
  have hl : lv_has ls 7 [(0, .ref x), (1, .int t), (2, .int k)] := hl
  refine lv_aload_n S.1 S.2.1 d_MO_restart_0 rfl (lv_at hl 0 rfl) ?_
  refine lv_iconst (v := 0) S.1 S.2.1 d_MO_restart_1 (by decide) ?_
  refine mm_put (C := R_MO) (T := T_MO) (N := 22) (ty := .int) (v := .int 0) S hK.1 hw hP.2.1 rfl in_MO t_MO k_MO n_MO 0 (by decide) gw_370 rfl rfl (by decide +kernel) rfl rfl (Nat.le_of_ble_eq_true rfl) d_MO_restart_2 (fun H locs hw => ?_)
  obtain ⟨M, hw, hP⟩ := md_puti (k := 0) (v := 0) (by decide) hw hP
  refine lv_iload_n S.1 S.2.1 d_MO_restart_5 rfl (lv_at hl 1 rfl) ?_
  refine mm_calli hw (mm_runS (As := [.int t]) (rest := []) S hK hw (c_MO_isTask l D dA _ t _) bs_MO_isTask gw_481 (⟨rfl, rfl, by decide, by decide, by decide, by decide⟩) hl.1 rfl rfl (Nat.le_of_ble_eq_true rfl) d_MO_restart_6) (fun r1 M2 H locs hp hw => ?_)
  rw [hp.1] at hw
  rcases hp.2 with ⟨rfl, hc3⟩ | ⟨rfl, hc3⟩
  · obtain ⟨j4, ekj4, hlj4, hhj4, enj4⟩ := is_of (N := 40) rfl (by omega) hc3
    refine lv_if_eq (tgt := 19) S.1 S.2.1 d_MO_restart_9 (by decide) (fun c9 => absurd c9 (by decide)) (fun c9 => ?_)
    refine lv_iload_n S.1 S.2.1 d_MO_restart_12 rfl (lv_at hl 2 rfl) ?_
    refine mm_calli hw (mm_runS (As := [.int k]) (rest := []) S hK hw (c_MO_isCode l D dA _ k _) bs_MO_isCode gw_458 (⟨rfl, rfl, by decide, by decide, by decide, by decide⟩) hl.1 rfl rfl (Nat.le_of_ble_eq_true rfl) d_MO_restart_13) (fun r5 M6 H locs hp hw => ?_)
    rw [hp.1] at hw
    rcases hp.2 with ⟨rfl, hc7⟩ | ⟨rfl, hc7⟩
    · obtain ⟨j8, ekj8, hlj8, hhj8, enj8⟩ := is_of (N := 9999) rfl (by omega) hc7
      refine lv_if_ne (tgt := 22) S.1 S.2.1 d_MO_restart_16 (by decide) (fun c16 => ?_) (fun c16 => absurd c16 (by decide))
      have J : ∀ (ls : Array Slot), lv_has ls 7 [(3, .int (rs_ag t k F)), (0, .ref x), (1, .int t), (2, .int k)] → W p l e ({ frames := 1, cells := 0, slots := 0, locals := 20 }) s m [.ref x, .int t, .int k].toArray below meth c H locs 0 0 Q (F0 m 45 ls []) := by
        intro ls hl
        refine lv_aload_n S.1 S.2.1 d_MO_restart_45 rfl (lv_at hl 1 rfl) ?_
        refine mm_get (C := R_MO) (T := T_MO) (N := 22) (v := .ref (g 9)) S hK.1 hw hP.2.1 rfl in_MO 15 (by decide) gw_385 rfl rfl d_MO_restart_46 ?_
        refine lv_iload_n S.1 S.2.1 d_MO_restart_49 rfl (lv_at hl 2 rfl) ?_
        refine lv_dup2_11 S.1 S.2.1 d_MO_restart_50 rfl rfl ?_
        refine mn_iald (j := cN t) (n := 41) (f := F 9) S hK.1 hw 0 (mP_a (k := 9) (F := F) hP (by decide) (by decide)) rfl (cl_nI (is_le0 hc3.1)) (by rw [cN, enj4]; omega) (by decide) d_MO_restart_51 ?_
        refine lv_iload_n S.1 S.2.1 d_MO_restart_52 rfl (lv_at hl 0 rfl) ?_
        refine lv_iadd S.1 S.2.1 d_MO_restart_53 ?_
        refine mn_iast (j := cN t) (n := 41) (f := F 9) S hK.1 hw 0 (mP_a (k := 9) (F := F) hP (by decide) (by decide)) rfl (cl_nI (is_le0 hc3.1)) (by rw [cN, enj4]; omega) (by decide) d_MO_restart_54 (fun H locs hw => ?_)
        obtain ⟨M, hw, hP⟩ := md_ast (k := 9) (j := cN t) (v := ((F 9 (cN t)) + (rs_ag t k F))) (F := F) (by decide) (by decide) hw hP
        refine lv_aload_n S.1 S.2.1 d_MO_restart_55 rfl (lv_at hl 1 rfl) ?_
        refine mm_get (C := R_MO) (T := T_MO) (N := 22) (v := .ref (g 8)) S hK.1 hw hP.2.1 rfl in_MO 14 (by decide) gw_384 rfl rfl d_MO_restart_56 ?_
        refine lv_iload_n S.1 S.2.1 d_MO_restart_59 rfl (lv_at hl 3 rfl) ?_
        refine lv_dup2_11 S.1 S.2.1 d_MO_restart_60 rfl rfl ?_
        refine mn_iald (j := cN k) (n := 10000) (f := F 8) S hK.1 hw 0 (mP_a (k := 8) (F := (va_up F 9 (upd (F 9) (cN t) (((F 9 (cN t)) + (rs_ag t k F)))))) hP (by decide) (by decide)) rfl (cl_nI (is_le0 hc7.1)) (by rw [cN, enj8]; omega) (by decide) d_MO_restart_61 ?_
        refine lv_iconst (v := 1) S.1 S.2.1 d_MO_restart_62 (by decide) ?_
        refine lv_iadd S.1 S.2.1 d_MO_restart_63 ?_
        refine mn_iast (j := cN k) (n := 10000) (f := F 8) S hK.1 hw 0 (mP_a (k := 8) (F := (va_up F 9 (upd (F 9) (cN t) (((F 9 (cN t)) + (rs_ag t k F)))))) hP (by decide) (by decide)) rfl (cl_nI (is_le0 hc7.1)) (by rw [cN, enj8]; omega) (by decide) d_MO_restart_64 (fun H locs hw => ?_)
        obtain ⟨M, hw, hP⟩ := md_ast (k := 8) (j := cN k) (v := ((F 8 (cN k)) + 1)) (F := (va_up F 9 (upd (F 9) (cN t) (((F 9 (cN t)) + (rs_ag t k F)))))) (by decide) (by decide) hw hP
        refine lv_aload_n S.1 S.2.1 d_MO_restart_65 rfl (lv_at hl 1 rfl) ?_
        refine mm_get (C := R_MO) (T := T_MO) (N := 22) (v := .ref (g 10)) S hK.1 hw hP.2.1 rfl in_MO 16 (by decide) gw_386 rfl rfl d_MO_restart_66 ?_
        refine lv_iload_n S.1 S.2.1 d_MO_restart_69 rfl (lv_at hl 3 rfl) ?_
        refine mn_zald (j := cN k) (n := 10000) (f := F 10) S hK.1 hw 2 (mP_a (k := 10) (F := (va_up (va_up F 9 (upd (F 9) (cN t) (((F 9 (cN t)) + (rs_ag t k F))))) 8 (upd (F 8) (cN k) (((F 8 (cN k)) + 1))))) hP (by decide) (by decide)) rfl (cl_nI (is_le0 hc7.1)) (by rw [cN, enj8]; omega) (by decide) d_MO_restart_70 ?_
        refine lv_if_eq (tgt := 76) S.1 S.2.1 d_MO_restart_71 (by decide) (fun c71 => ?_) (fun c71 => ?_)
        · have hn49 : rs_n I ≤ 49 := by
            unfold rs_n
            split
            · exact Nat.le_refl _
            · rename_i h9
              rw [hnd, cN, nI_clamp (by omega)]
              rcases Nat.lt_or_ge nd 50 with q | q
              · omega
              · exact absurd (by rw [hnd, show nd = 50 by omega]; rfl) h9
          have J2 : ∀ (I2 : sI) (M : mm_M) (H : Heap) (locs : List Loc) (ls : Array Slot), mm_w D vC A s.heap M H locs → mP dA M x g I2 (va_up (rs_F t k F) 15 (rs_k I F)) st → I2 4 = nI (rs_n I) → I2 3 = I 3 → upd I2 4 (nI (rs_n I + 1)) = upd (upd I 0 0) 4 (nI (rs_n I + 1)) → lv_has ls 7 [(3, .int (rs_ag t k F)), (0, .ref x), (1, .int t), (2, .int k)] → W p l e ({ frames := 1, cells := 0, slots := 0, locals := 20 }) s m [.ref x, .int t, .int k].toArray below meth c H locs 0 0 Q (F0 m 131 ls []) := by
            intro I2 M H locs ls hw hP hI4 hI3 hI9 hl
            refine lv_iconst (v := 0) S.1 S.2.1 d_MO_restart_131 (by decide) ?_
            refine lv_istore (lv' := [(4, .int 0), (3, .int (rs_ag t k F)), (0, .ref x), (1, .int t), (2, .int k)]) S.1 S.2.1 d_MO_restart_132 hl (by decide) rfl (fun ls hl => ?_)
            refine lv_iconst (v := 0) S.1 S.2.1 d_MO_restart_134 (by decide) ?_
            refine lv_istore (lv' := [(5, .int 0), (4, .int 0), (3, .int (rs_ag t k F)), (0, .ref x), (1, .int t), (2, .int k)]) S.1 S.2.1 d_MO_restart_135 hl (by decide) rfl (fun ls hl => ?_)
            refine lv_iconst (v := 1) S.1 S.2.1 d_MO_restart_137 (by decide) ?_
            refine lv_istore (lv' := [(6, .int 1), (5, .int 0), (4, .int 0), (3, .int (rs_ag t k F)), (0, .ref x), (1, .int t), (2, .int k)]) S.1 S.2.1 d_MO_restart_138 hl (by decide) rfl (fun ls hl => ?_)
            have L : ∀ (mm j : Nat) (ls : Array Slot), j + mm = ng → lv_has ls 7 [(6, .int (nI (j + 1))), (5, .int (gc_b F t j)), (4, .int (gc_a F t j)), (3, .int (rs_ag t k F)), (0, .ref x), (1, .int t), (2, .int k)] → W p l e ({ frames := 1, cells := 0, slots := 0, locals := 20 }) s m [.ref x, .int t, .int k].toArray below meth c H locs 0 0 Q (F0 m 140 ls []) := by
              intro mm
              induction mm with
              | zero =>
                intro j ls hj hl
                refine lv_iload S.1 S.2.1 d_MO_restart_140 (lv_at hl 0 rfl) ?_
                refine lv_aload_n S.1 S.2.1 d_MO_restart_142 rfl (lv_at hl 4 rfl) ?_
                refine mm_get (C := R_MO) (T := T_MO) (N := 22) (v := .int (I2 3)) S hK.1 hw hP.2.1 rfl in_MO 3 (by decide) gw_373 rfl rfl d_MO_restart_143 ?_
                refine lv_icmp_gt (tgt := 218) S.1 S.2.1 d_MO_restart_146 (by decide) (fun c146 => ?_) (fun c146 => absurd (by rw [hI3, hng]; exact nI_lt (by omega) (by omega)) c146)
                obtain rfl : j = ng := by omega
                have e5 : 5 * I2 4 = nI (5 * rs_n I) := by rw [hI4, show (5 : Int32) = nI 5 from rfl, pk_mul]
                refine lv_aload_n S.1 S.2.1 d_MO_restart_218 rfl (lv_at hl 4 rfl) ?_
                refine mm_get (C := R_MO) (T := T_MO) (N := 22) (v := .ref (g 15)) S hK.1 hw hP.2.1 rfl in_MO 21 (by decide) gw_391 rfl rfl d_MO_restart_219 ?_
                refine lv_iconst (v := 5) S.1 S.2.1 d_MO_restart_222 (by decide) ?_
                refine lv_aload_n S.1 S.2.1 d_MO_restart_223 rfl (lv_at hl 4 rfl) ?_
                refine mm_get (C := R_MO) (T := T_MO) (N := 22) (v := .int (I2 4)) S hK.1 hw hP.2.1 rfl in_MO 4 (by decide) gw_374 rfl rfl d_MO_restart_224 ?_
                refine lv_imul S.1 S.2.1 d_MO_restart_227 ?_
                refine lv_iload_n S.1 S.2.1 d_MO_restart_228 rfl (lv_at hl 5 rfl) ?_
                refine mn_iast (j := 5 * rs_n I) (n := 250) (f := rs_k I F) S hK.1 hw 0 (mP_a (k := 15) (F := (va_up (rs_F t k F) 15 (rs_k I F))) hP (by decide) (by decide)) rfl (e5) (by omega) (by decide) d_MO_restart_229 (fun H locs hw => ?_)
                obtain ⟨M, hw, hP⟩ := md_ast (k := 15) (j := 5 * rs_n I) (v := t) (F := (va_up (rs_F t k F) 15 (rs_k I F))) (by decide) (by decide) hw hP
                refine lv_aload_n S.1 S.2.1 d_MO_restart_230 rfl (lv_at hl 4 rfl) ?_
                refine mm_get (C := R_MO) (T := T_MO) (N := 22) (v := .ref (g 15)) S hK.1 hw hP.2.1 rfl in_MO 21 (by decide) gw_391 rfl rfl d_MO_restart_231 ?_
                refine lv_iconst (v := 5) S.1 S.2.1 d_MO_restart_234 (by decide) ?_
                refine lv_aload_n S.1 S.2.1 d_MO_restart_235 rfl (lv_at hl 4 rfl) ?_
                refine mm_get (C := R_MO) (T := T_MO) (N := 22) (v := .int (I2 4)) S hK.1 hw hP.2.1 rfl in_MO 4 (by decide) gw_374 rfl rfl d_MO_restart_236 ?_
                refine lv_imul S.1 S.2.1 d_MO_restart_239 ?_
                refine lv_iconst (v := 1) S.1 S.2.1 d_MO_restart_240 (by decide) ?_
                refine lv_iadd S.1 S.2.1 d_MO_restart_241 ?_
                refine lv_iload_n S.1 S.2.1 d_MO_restart_242 rfl (lv_at hl 6 rfl) ?_
                refine mn_iast (j := 5 * rs_n I + 1) (n := 250) (f := upd (rs_k I F) (5 * rs_n I) (t)) S hK.1 hw 0 (mP_a (k := 15) (F := (va_up (va_up (rs_F t k F) 15 (rs_k I F)) 15 (upd (rs_k I F) (5 * rs_n I) (t)))) hP (by decide) (by decide)) rfl (by rw [e5]; exact nI_add _ 1) (by omega) (by decide) d_MO_restart_243 (fun H locs hw => ?_)
                obtain ⟨M, hw, hP⟩ := md_ast (k := 15) (j := 5 * rs_n I + 1) (v := k) (F := (va_up (va_up (rs_F t k F) 15 (rs_k I F)) 15 (upd (rs_k I F) (5 * rs_n I) (t)))) (by decide) (by decide) hw hP
                refine lv_aload_n S.1 S.2.1 d_MO_restart_244 rfl (lv_at hl 4 rfl) ?_
                refine mm_get (C := R_MO) (T := T_MO) (N := 22) (v := .ref (g 15)) S hK.1 hw hP.2.1 rfl in_MO 21 (by decide) gw_391 rfl rfl d_MO_restart_245 ?_
                refine lv_iconst (v := 5) S.1 S.2.1 d_MO_restart_248 (by decide) ?_
                refine lv_aload_n S.1 S.2.1 d_MO_restart_249 rfl (lv_at hl 4 rfl) ?_
                refine mm_get (C := R_MO) (T := T_MO) (N := 22) (v := .int (I2 4)) S hK.1 hw hP.2.1 rfl in_MO 4 (by decide) gw_374 rfl rfl d_MO_restart_250 ?_
                refine lv_imul S.1 S.2.1 d_MO_restart_253 ?_
                refine lv_iconst (v := 2) S.1 S.2.1 d_MO_restart_254 (by decide) ?_
                refine lv_iadd S.1 S.2.1 d_MO_restart_255 ?_
                refine lv_iload S.1 S.2.1 d_MO_restart_256 (lv_at hl 2 rfl) ?_
                refine mn_iast (j := 5 * rs_n I + 2) (n := 250) (f := upd (upd (rs_k I F) (5 * rs_n I) (t)) (5 * rs_n I + 1) (k)) S hK.1 hw 0 (mP_a (k := 15) (F := (va_up (va_up (va_up (rs_F t k F) 15 (rs_k I F)) 15 (upd (rs_k I F) (5 * rs_n I) (t))) 15 (upd (upd (rs_k I F) (5 * rs_n I) (t)) (5 * rs_n I + 1) (k)))) hP (by decide) (by decide)) rfl (by rw [e5]; exact nI_add _ 2) (by omega) (by decide) d_MO_restart_258 (fun H locs hw => ?_)
                obtain ⟨M, hw, hP⟩ := md_ast (k := 15) (j := 5 * rs_n I + 2) (v := (gc_a F t j)) (F := (va_up (va_up (va_up (rs_F t k F) 15 (rs_k I F)) 15 (upd (rs_k I F) (5 * rs_n I) (t))) 15 (upd (upd (rs_k I F) (5 * rs_n I) (t)) (5 * rs_n I + 1) (k)))) (by decide) (by decide) hw hP
                refine lv_aload_n S.1 S.2.1 d_MO_restart_259 rfl (lv_at hl 4 rfl) ?_
                refine mm_get (C := R_MO) (T := T_MO) (N := 22) (v := .ref (g 15)) S hK.1 hw hP.2.1 rfl in_MO 21 (by decide) gw_391 rfl rfl d_MO_restart_260 ?_
                refine lv_iconst (v := 5) S.1 S.2.1 d_MO_restart_263 (by decide) ?_
                refine lv_aload_n S.1 S.2.1 d_MO_restart_264 rfl (lv_at hl 4 rfl) ?_
                refine mm_get (C := R_MO) (T := T_MO) (N := 22) (v := .int (I2 4)) S hK.1 hw hP.2.1 rfl in_MO 4 (by decide) gw_374 rfl rfl d_MO_restart_265 ?_
                refine lv_imul S.1 S.2.1 d_MO_restart_268 ?_
                refine lv_iconst (v := 3) S.1 S.2.1 d_MO_restart_269 (by decide) ?_
                refine lv_iadd S.1 S.2.1 d_MO_restart_270 ?_
                refine lv_iload S.1 S.2.1 d_MO_restart_271 (lv_at hl 1 rfl) ?_
                refine mn_iast (j := 5 * rs_n I + 3) (n := 250) (f := upd (upd (upd (rs_k I F) (5 * rs_n I) (t)) (5 * rs_n I + 1) (k)) (5 * rs_n I + 2) ((gc_a F t j))) S hK.1 hw 0 (mP_a (k := 15) (F := (va_up (va_up (va_up (va_up (rs_F t k F) 15 (rs_k I F)) 15 (upd (rs_k I F) (5 * rs_n I) (t))) 15 (upd (upd (rs_k I F) (5 * rs_n I) (t)) (5 * rs_n I + 1) (k))) 15 (upd (upd (upd (rs_k I F) (5 * rs_n I) (t)) (5 * rs_n I + 1) (k)) (5 * rs_n I + 2) ((gc_a F t j))))) hP (by decide) (by decide)) rfl (by rw [e5]; exact nI_add _ 3) (by omega) (by decide) d_MO_restart_273 (fun H locs hw => ?_)
                obtain ⟨M, hw, hP⟩ := md_ast (k := 15) (j := 5 * rs_n I + 3) (v := (gc_b F t j)) (F := (va_up (va_up (va_up (va_up (rs_F t k F) 15 (rs_k I F)) 15 (upd (rs_k I F) (5 * rs_n I) (t))) 15 (upd (upd (rs_k I F) (5 * rs_n I) (t)) (5 * rs_n I + 1) (k))) 15 (upd (upd (upd (rs_k I F) (5 * rs_n I) (t)) (5 * rs_n I + 1) (k)) (5 * rs_n I + 2) ((gc_a F t j))))) (by decide) (by decide) hw hP
                refine lv_aload_n S.1 S.2.1 d_MO_restart_274 rfl (lv_at hl 4 rfl) ?_
                refine mm_get (C := R_MO) (T := T_MO) (N := 22) (v := .ref (g 15)) S hK.1 hw hP.2.1 rfl in_MO 21 (by decide) gw_391 rfl rfl d_MO_restart_275 ?_
                refine lv_iconst (v := 5) S.1 S.2.1 d_MO_restart_278 (by decide) ?_
                refine lv_aload_n S.1 S.2.1 d_MO_restart_279 rfl (lv_at hl 4 rfl) ?_
                refine mm_get (C := R_MO) (T := T_MO) (N := 22) (v := .int (I2 4)) S hK.1 hw hP.2.1 rfl in_MO 4 (by decide) gw_374 rfl rfl d_MO_restart_280 ?_
                refine lv_imul S.1 S.2.1 d_MO_restart_283 ?_
                refine lv_iconst (v := 4) S.1 S.2.1 d_MO_restart_284 (by decide) ?_
                refine lv_iadd S.1 S.2.1 d_MO_restart_285 ?_
                refine lv_iload_n S.1 S.2.1 d_MO_restart_286 rfl (lv_at hl 3 rfl) ?_
                refine mn_iast (j := 5 * rs_n I + 4) (n := 250) (f := upd (upd (upd (upd (rs_k I F) (5 * rs_n I) (t)) (5 * rs_n I + 1) (k)) (5 * rs_n I + 2) ((gc_a F t j))) (5 * rs_n I + 3) ((gc_b F t j))) S hK.1 hw 0 (mP_a (k := 15) (F := (va_up (va_up (va_up (va_up (va_up (rs_F t k F) 15 (rs_k I F)) 15 (upd (rs_k I F) (5 * rs_n I) (t))) 15 (upd (upd (rs_k I F) (5 * rs_n I) (t)) (5 * rs_n I + 1) (k))) 15 (upd (upd (upd (rs_k I F) (5 * rs_n I) (t)) (5 * rs_n I + 1) (k)) (5 * rs_n I + 2) ((gc_a F t j)))) 15 (upd (upd (upd (upd (rs_k I F) (5 * rs_n I) (t)) (5 * rs_n I + 1) (k)) (5 * rs_n I + 2) ((gc_a F t j))) (5 * rs_n I + 3) ((gc_b F t j))))) hP (by decide) (by decide)) rfl (by rw [e5]; exact nI_add _ 4) (by omega) (by decide) d_MO_restart_287 (fun H locs hw => ?_)
                obtain ⟨M, hw, hP⟩ := md_ast (k := 15) (j := 5 * rs_n I + 4) (v := (rs_ag t k F)) (F := (va_up (va_up (va_up (va_up (va_up (rs_F t k F) 15 (rs_k I F)) 15 (upd (rs_k I F) (5 * rs_n I) (t))) 15 (upd (upd (rs_k I F) (5 * rs_n I) (t)) (5 * rs_n I + 1) (k))) 15 (upd (upd (upd (rs_k I F) (5 * rs_n I) (t)) (5 * rs_n I + 1) (k)) (5 * rs_n I + 2) ((gc_a F t j)))) 15 (upd (upd (upd (upd (rs_k I F) (5 * rs_n I) (t)) (5 * rs_n I + 1) (k)) (5 * rs_n I + 2) ((gc_a F t j))) (5 * rs_n I + 3) ((gc_b F t j))))) (by decide) (by decide) hw hP
                refine lv_aload_n S.1 S.2.1 d_MO_restart_288 rfl (lv_at hl 4 rfl) ?_
                refine lv_dup S.1 S.2.1 d_MO_restart_289 rfl ?_
                refine mm_get (C := R_MO) (T := T_MO) (N := 22) (v := .int (I2 4)) S hK.1 hw hP.2.1 rfl in_MO 4 (by decide) gw_374 rfl rfl d_MO_restart_290 ?_
                refine lv_iconst (v := 1) S.1 S.2.1 d_MO_restart_293 (by decide) ?_
                refine lv_iadd S.1 S.2.1 d_MO_restart_294 ?_
                refine mm_put (C := R_MO) (T := T_MO) (N := 22) (ty := .int) (v := .int ((I2 4) + 1)) S hK.1 hw hP.2.1 rfl in_MO t_MO k_MO n_MO 4 (by decide) gw_374 rfl rfl (by decide +kernel) rfl rfl (Nat.le_of_ble_eq_true rfl) d_MO_restart_295 (fun H locs hw => ?_)
                obtain ⟨M, hw, hP⟩ := md_puti (k := 4) (v := ((I2 4) + 1)) (by decide) hw hP
                refine lv_iload_n S.1 S.2.1 d_MO_restart_298 rfl (lv_at hl 3 rfl) ?_
                exact mm_reti S.1 S.2.1 hr hlocks hA hQ hw (md_done hP (show sp_restart t k I F st = ((rs_ag t k F), (upd I2 4 (((I2 4) + 1))), (va_up (va_up (va_up (va_up (va_up (va_up (rs_F t k F) 15 (rs_k I F)) 15 (upd (rs_k I F) (5 * rs_n I) (t))) 15 (upd (upd (rs_k I F) (5 * rs_n I) (t)) (5 * rs_n I + 1) (k))) 15 (upd (upd (upd (rs_k I F) (5 * rs_n I) (t)) (5 * rs_n I + 1) (k)) (5 * rs_n I + 2) ((gc_a F t j)))) 15 (upd (upd (upd (upd (rs_k I F) (5 * rs_n I) (t)) (5 * rs_n I + 1) (k)) (5 * rs_n I + 2) ((gc_a F t j))) (5 * rs_n I + 3) ((gc_b F t j)))) 15 (upd (upd (upd (upd (upd (rs_k I F) (5 * rs_n I) (t)) (5 * rs_n I + 1) (k)) (5 * rs_n I + 2) ((gc_a F t j))) (5 * rs_n I + 3) ((gc_b F t j))) (5 * rs_n I + 4) ((rs_ag t k F)))), st) by
                      have e3 : cN (I 3) = j := by rw [hng, cN, nI_clamp (by omega)]
                      have e4 : I2 4 + 1 = nI (rs_n I + 1) := by rw [hI4, nI_1]
                      rw [e4, hI9]
                      simp only [sp_restart, eq_false c9, eq_false c16, eq_true c71, eq_true hc3, eq_true hc7, not_true_eq_false, not_false_eq_true, and_true, true_and, and_false, false_and, and_self, or_true, true_or, or_false, false_or, or_self, ↓reduceIte, e3, bx_uu])) (Nat.le_of_ble_eq_true rfl) (Nat.le_of_ble_eq_true rfl) d_MO_restart_299
              | succ mm ih =>
                intro j ls hj hl
                refine lv_iload S.1 S.2.1 d_MO_restart_140 (lv_at hl 0 rfl) ?_
                refine lv_aload_n S.1 S.2.1 d_MO_restart_142 rfl (lv_at hl 4 rfl) ?_
                refine mm_get (C := R_MO) (T := T_MO) (N := 22) (v := .int (I2 3)) S hK.1 hw hP.2.1 rfl in_MO 3 (by decide) gw_373 rfl rfl d_MO_restart_143 ?_
                refine lv_icmp_gt (tgt := 218) S.1 S.2.1 d_MO_restart_146 (by decide) (fun c146 => absurd (show nI ng < nI (j + 1) from by rw [hI3, hng] at c146; exact c146) (nI_nlt (by omega) (by omega))) (fun c146 => ?_)
                refine lv_iload S.1 S.2.1 d_MO_restart_149 (lv_at hl 2 rfl) ?_
                refine lv_aload_n S.1 S.2.1 d_MO_restart_151 rfl (lv_at hl 4 rfl) ?_
                refine mm_get (C := R_MO) (T := T_MO) (N := 22) (v := .ref (g 12)) S hK.1 hw hP.2.1 rfl in_MO 18 (by decide) gw_388 rfl rfl d_MO_restart_152 ?_
                refine lv_iload S.1 S.2.1 d_MO_restart_155 (lv_at hl 0 rfl) ?_
                refine mn_iald (j := j + 1) (n := 61) (f := F 12) S hK.1 hw 0 (mP_a (k := 12) (F := (va_up (rs_F t k F) 15 (rs_k I F))) hP (by decide) (by decide)) rfl (rfl) (by omega) (by decide) d_MO_restart_157 ?_
                refine lv_iload_n S.1 S.2.1 d_MO_restart_158 rfl (lv_at hl 5 rfl) ?_
                refine lv_icmp_ne (tgt := 176) S.1 S.2.1 d_MO_restart_159 (by decide) (fun c159 => ?_) (fun c159 => ?_)
                · refine lv_iconst (v := 0) S.1 S.2.1 d_MO_restart_176 (by decide) ?_
                  refine lv_iadd S.1 S.2.1 d_MO_restart_177 ?_
                  refine lv_istore (lv' := [(4, .int ((gc_a F t j) + 0)), (6, .int (nI (j + 1))), (5, .int (gc_b F t j)), (3, .int (rs_ag t k F)), (0, .ref x), (1, .int t), (2, .int k)]) S.1 S.2.1 d_MO_restart_178 hl (by decide) rfl (fun ls hl => ?_)
                  refine lv_iload S.1 S.2.1 d_MO_restart_180 (lv_at hl 2 rfl) ?_
                  refine lv_aload_n S.1 S.2.1 d_MO_restart_182 rfl (lv_at hl 4 rfl) ?_
                  refine mm_get (C := R_MO) (T := T_MO) (N := 22) (v := .ref (g 12)) S hK.1 hw hP.2.1 rfl in_MO 18 (by decide) gw_388 rfl rfl d_MO_restart_183 ?_
                  refine lv_iload S.1 S.2.1 d_MO_restart_186 (lv_at hl 1 rfl) ?_
                  refine mn_iald (j := j + 1) (n := 61) (f := F 12) S hK.1 hw 0 (mP_a (k := 12) (F := (va_up (rs_F t k F) 15 (rs_k I F))) hP (by decide) (by decide)) rfl (rfl) (by omega) (by decide) d_MO_restart_188 ?_
                  refine lv_iload_n S.1 S.2.1 d_MO_restart_189 rfl (lv_at hl 5 rfl) ?_
                  refine lv_icmp_ne (tgt := 208) S.1 S.2.1 d_MO_restart_190 (by decide) (fun c190 => ?_) (fun c190 => ?_)
                  · refine lv_iconst (v := 0) S.1 S.2.1 d_MO_restart_208 (by decide) ?_
                    refine lv_iadd S.1 S.2.1 d_MO_restart_209 ?_
                    refine lv_istore (lv' := [(5, .int ((gc_b F t j) + 0)), (4, .int ((gc_a F t j) + 0)), (6, .int (nI (j + 1))), (3, .int (rs_ag t k F)), (0, .ref x), (1, .int t), (2, .int k)]) S.1 S.2.1 d_MO_restart_210 hl (by decide) rfl (fun ls hl => ?_)
                    refine lv_iinc (v := (nI (j + 1 + 1))) (lv' := [(6, .int (nI (j + 1 + 1))), (5, .int ((gc_b F t j) + 0)), (4, .int ((gc_a F t j) + 0)), (3, .int (rs_ag t k F)), (0, .ref x), (1, .int t), (2, .int k)]) S.1 S.2.1 d_MO_restart_212 hl (k := 2) rfl (nI_1 (j + 1)) (by decide) rfl (fun ls hl => ?_)
                    refine lv_goto (tgt := 140) S.1 S.2.1 d_MO_restart_215 (by decide) ?_
                    exact ih (j + 1) ls (by omega) (by rw [show gc_a F t (j + 1) = ((gc_a F t j) + 0) from by simp only [gc_a, eq_false c159, not_true_eq_false, not_false_eq_true, and_true, true_and, and_false, false_and, and_self, or_true, true_or, or_false, false_or, or_self, ↓reduceIte], show gc_b F t (j + 1) = ((gc_b F t j) + 0) from by simp only [gc_b, eq_false c190, not_true_eq_false, not_false_eq_true, and_true, true_and, and_false, false_and, and_self, or_true, true_or, or_false, false_or, or_self, ↓reduceIte]]; exact lv_sub hl [0, 1, 2, 3, 4, 5, 6] rfl)
                  · refine lv_aload_n S.1 S.2.1 d_MO_restart_193 rfl (lv_at hl 4 rfl) ?_
                    refine mm_get (C := R_MO) (T := T_MO) (N := 22) (v := .ref (g 14)) S hK.1 hw hP.2.1 rfl in_MO 20 (by decide) gw_390 rfl rfl d_MO_restart_194 ?_
                    refine lv_iload S.1 S.2.1 d_MO_restart_197 (lv_at hl 1 rfl) ?_
                    refine mn_iald (j := j + 1) (n := 61) (f := F 14) S hK.1 hw 0 (mP_a (k := 14) (F := (va_up (rs_F t k F) 15 (rs_k I F))) hP (by decide) (by decide)) rfl (rfl) (by omega) (by decide) d_MO_restart_199 ?_
                    refine lv_iconst (v := 2) S.1 S.2.1 d_MO_restart_200 (by decide) ?_
                    refine lv_icmp_ne (tgt := 208) S.1 S.2.1 d_MO_restart_201 (by decide) (fun c201 => ?_) (fun c201 => ?_)
                    · refine lv_iconst (v := 0) S.1 S.2.1 d_MO_restart_208 (by decide) ?_
                      refine lv_iadd S.1 S.2.1 d_MO_restart_209 ?_
                      refine lv_istore (lv' := [(5, .int ((gc_b F t j) + 0)), (4, .int ((gc_a F t j) + 0)), (6, .int (nI (j + 1))), (3, .int (rs_ag t k F)), (0, .ref x), (1, .int t), (2, .int k)]) S.1 S.2.1 d_MO_restart_210 hl (by decide) rfl (fun ls hl => ?_)
                      refine lv_iinc (v := (nI (j + 1 + 1))) (lv' := [(6, .int (nI (j + 1 + 1))), (5, .int ((gc_b F t j) + 0)), (4, .int ((gc_a F t j) + 0)), (3, .int (rs_ag t k F)), (0, .ref x), (1, .int t), (2, .int k)]) S.1 S.2.1 d_MO_restart_212 hl (k := 2) rfl (nI_1 (j + 1)) (by decide) rfl (fun ls hl => ?_)
                      refine lv_goto (tgt := 140) S.1 S.2.1 d_MO_restart_215 (by decide) ?_
                      exact ih (j + 1) ls (by omega) (by rw [show gc_a F t (j + 1) = ((gc_a F t j) + 0) from by simp only [gc_a, eq_false c159, not_true_eq_false, not_false_eq_true, and_true, true_and, and_false, false_and, and_self, or_true, true_or, or_false, false_or, or_self, ↓reduceIte], show gc_b F t (j + 1) = ((gc_b F t j) + 0) from by simp only [gc_b, eq_true c190, eq_false c201, not_true_eq_false, not_false_eq_true, and_true, true_and, and_false, false_and, and_self, or_true, true_or, or_false, false_or, or_self, ↓reduceIte]]; exact lv_sub hl [0, 1, 2, 3, 4, 5, 6] rfl)
                    · refine lv_iconst (v := 1) S.1 S.2.1 d_MO_restart_204 (by decide) ?_
                      refine lv_goto (tgt := 209) S.1 S.2.1 d_MO_restart_205 (by decide) ?_
                      refine lv_iadd S.1 S.2.1 d_MO_restart_209 ?_
                      refine lv_istore (lv' := [(5, .int ((gc_b F t j) + 1)), (4, .int ((gc_a F t j) + 0)), (6, .int (nI (j + 1))), (3, .int (rs_ag t k F)), (0, .ref x), (1, .int t), (2, .int k)]) S.1 S.2.1 d_MO_restart_210 hl (by decide) rfl (fun ls hl => ?_)
                      refine lv_iinc (v := (nI (j + 1 + 1))) (lv' := [(6, .int (nI (j + 1 + 1))), (5, .int ((gc_b F t j) + 1)), (4, .int ((gc_a F t j) + 0)), (3, .int (rs_ag t k F)), (0, .ref x), (1, .int t), (2, .int k)]) S.1 S.2.1 d_MO_restart_212 hl (k := 2) rfl (nI_1 (j + 1)) (by decide) rfl (fun ls hl => ?_)
                      refine lv_goto (tgt := 140) S.1 S.2.1 d_MO_restart_215 (by decide) ?_
                      exact ih (j + 1) ls (by omega) (by rw [show gc_a F t (j + 1) = ((gc_a F t j) + 0) from by simp only [gc_a, eq_false c159, not_true_eq_false, not_false_eq_true, and_true, true_and, and_false, false_and, and_self, or_true, true_or, or_false, false_or, or_self, ↓reduceIte], show gc_b F t (j + 1) = ((gc_b F t j) + 1) from by simp only [gc_b, eq_true c190, eq_true c201, not_true_eq_false, not_false_eq_true, and_true, true_and, and_false, false_and, and_self, or_true, true_or, or_false, false_or, or_self, ↓reduceIte]]; exact lv_sub hl [0, 1, 2, 3, 4, 5, 6] rfl)
                · refine lv_aload_n S.1 S.2.1 d_MO_restart_162 rfl (lv_at hl 4 rfl) ?_
                  refine mm_get (C := R_MO) (T := T_MO) (N := 22) (v := .ref (g 14)) S hK.1 hw hP.2.1 rfl in_MO 20 (by decide) gw_390 rfl rfl d_MO_restart_163 ?_
                  refine lv_iload S.1 S.2.1 d_MO_restart_166 (lv_at hl 0 rfl) ?_
                  refine mn_iald (j := j + 1) (n := 61) (f := F 14) S hK.1 hw 0 (mP_a (k := 14) (F := (va_up (rs_F t k F) 15 (rs_k I F))) hP (by decide) (by decide)) rfl (rfl) (by omega) (by decide) d_MO_restart_168 ?_
                  refine lv_if_le (tgt := 176) S.1 S.2.1 d_MO_restart_169 (by decide) (fun c169 => ?_) (fun c169 => ?_)
                  · refine lv_iconst (v := 0) S.1 S.2.1 d_MO_restart_176 (by decide) ?_
                    refine lv_iadd S.1 S.2.1 d_MO_restart_177 ?_
                    refine lv_istore (lv' := [(4, .int ((gc_a F t j) + 0)), (6, .int (nI (j + 1))), (5, .int (gc_b F t j)), (3, .int (rs_ag t k F)), (0, .ref x), (1, .int t), (2, .int k)]) S.1 S.2.1 d_MO_restart_178 hl (by decide) rfl (fun ls hl => ?_)
                    refine lv_iload S.1 S.2.1 d_MO_restart_180 (lv_at hl 2 rfl) ?_
                    refine lv_aload_n S.1 S.2.1 d_MO_restart_182 rfl (lv_at hl 4 rfl) ?_
                    refine mm_get (C := R_MO) (T := T_MO) (N := 22) (v := .ref (g 12)) S hK.1 hw hP.2.1 rfl in_MO 18 (by decide) gw_388 rfl rfl d_MO_restart_183 ?_
                    refine lv_iload S.1 S.2.1 d_MO_restart_186 (lv_at hl 1 rfl) ?_
                    refine mn_iald (j := j + 1) (n := 61) (f := F 12) S hK.1 hw 0 (mP_a (k := 12) (F := (va_up (rs_F t k F) 15 (rs_k I F))) hP (by decide) (by decide)) rfl (rfl) (by omega) (by decide) d_MO_restart_188 ?_
                    refine lv_iload_n S.1 S.2.1 d_MO_restart_189 rfl (lv_at hl 5 rfl) ?_
                    refine lv_icmp_ne (tgt := 208) S.1 S.2.1 d_MO_restart_190 (by decide) (fun c190 => ?_) (fun c190 => ?_)
                    · refine lv_iconst (v := 0) S.1 S.2.1 d_MO_restart_208 (by decide) ?_
                      refine lv_iadd S.1 S.2.1 d_MO_restart_209 ?_
                      refine lv_istore (lv' := [(5, .int ((gc_b F t j) + 0)), (4, .int ((gc_a F t j) + 0)), (6, .int (nI (j + 1))), (3, .int (rs_ag t k F)), (0, .ref x), (1, .int t), (2, .int k)]) S.1 S.2.1 d_MO_restart_210 hl (by decide) rfl (fun ls hl => ?_)
                      refine lv_iinc (v := (nI (j + 1 + 1))) (lv' := [(6, .int (nI (j + 1 + 1))), (5, .int ((gc_b F t j) + 0)), (4, .int ((gc_a F t j) + 0)), (3, .int (rs_ag t k F)), (0, .ref x), (1, .int t), (2, .int k)]) S.1 S.2.1 d_MO_restart_212 hl (k := 2) rfl (nI_1 (j + 1)) (by decide) rfl (fun ls hl => ?_)
                      refine lv_goto (tgt := 140) S.1 S.2.1 d_MO_restart_215 (by decide) ?_
                      exact ih (j + 1) ls (by omega) (by rw [show gc_a F t (j + 1) = ((gc_a F t j) + 0) from by simp only [gc_a, eq_true c159, eq_true c169, not_true_eq_false, not_false_eq_true, and_true, true_and, and_false, false_and, and_self, or_true, true_or, or_false, false_or, or_self, ↓reduceIte], show gc_b F t (j + 1) = ((gc_b F t j) + 0) from by simp only [gc_b, eq_false c190, not_true_eq_false, not_false_eq_true, and_true, true_and, and_false, false_and, and_self, or_true, true_or, or_false, false_or, or_self, ↓reduceIte]]; exact lv_sub hl [0, 1, 2, 3, 4, 5, 6] rfl)
                    · refine lv_aload_n S.1 S.2.1 d_MO_restart_193 rfl (lv_at hl 4 rfl) ?_
                      refine mm_get (C := R_MO) (T := T_MO) (N := 22) (v := .ref (g 14)) S hK.1 hw hP.2.1 rfl in_MO 20 (by decide) gw_390 rfl rfl d_MO_restart_194 ?_
                      refine lv_iload S.1 S.2.1 d_MO_restart_197 (lv_at hl 1 rfl) ?_
                      refine mn_iald (j := j + 1) (n := 61) (f := F 14) S hK.1 hw 0 (mP_a (k := 14) (F := (va_up (rs_F t k F) 15 (rs_k I F))) hP (by decide) (by decide)) rfl (rfl) (by omega) (by decide) d_MO_restart_199 ?_
                      refine lv_iconst (v := 2) S.1 S.2.1 d_MO_restart_200 (by decide) ?_
                      refine lv_icmp_ne (tgt := 208) S.1 S.2.1 d_MO_restart_201 (by decide) (fun c201 => ?_) (fun c201 => ?_)
                      · refine lv_iconst (v := 0) S.1 S.2.1 d_MO_restart_208 (by decide) ?_
                        refine lv_iadd S.1 S.2.1 d_MO_restart_209 ?_
                        refine lv_istore (lv' := [(5, .int ((gc_b F t j) + 0)), (4, .int ((gc_a F t j) + 0)), (6, .int (nI (j + 1))), (3, .int (rs_ag t k F)), (0, .ref x), (1, .int t), (2, .int k)]) S.1 S.2.1 d_MO_restart_210 hl (by decide) rfl (fun ls hl => ?_)
                        refine lv_iinc (v := (nI (j + 1 + 1))) (lv' := [(6, .int (nI (j + 1 + 1))), (5, .int ((gc_b F t j) + 0)), (4, .int ((gc_a F t j) + 0)), (3, .int (rs_ag t k F)), (0, .ref x), (1, .int t), (2, .int k)]) S.1 S.2.1 d_MO_restart_212 hl (k := 2) rfl (nI_1 (j + 1)) (by decide) rfl (fun ls hl => ?_)
                        refine lv_goto (tgt := 140) S.1 S.2.1 d_MO_restart_215 (by decide) ?_
                        exact ih (j + 1) ls (by omega) (by rw [show gc_a F t (j + 1) = ((gc_a F t j) + 0) from by simp only [gc_a, eq_true c159, eq_true c169, not_true_eq_false, not_false_eq_true, and_true, true_and, and_false, false_and, and_self, or_true, true_or, or_false, false_or, or_self, ↓reduceIte], show gc_b F t (j + 1) = ((gc_b F t j) + 0) from by simp only [gc_b, eq_true c190, eq_false c201, not_true_eq_false, not_false_eq_true, and_true, true_and, and_false, false_and, and_self, or_true, true_or, or_false, false_or, or_self, ↓reduceIte]]; exact lv_sub hl [0, 1, 2, 3, 4, 5, 6] rfl)
                      · refine lv_iconst (v := 1) S.1 S.2.1 d_MO_restart_204 (by decide) ?_
                        refine lv_goto (tgt := 209) S.1 S.2.1 d_MO_restart_205 (by decide) ?_
                        refine lv_iadd S.1 S.2.1 d_MO_restart_209 ?_
                        refine lv_istore (lv' := [(5, .int ((gc_b F t j) + 1)), (4, .int ((gc_a F t j) + 0)), (6, .int (nI (j + 1))), (3, .int (rs_ag t k F)), (0, .ref x), (1, .int t), (2, .int k)]) S.1 S.2.1 d_MO_restart_210 hl (by decide) rfl (fun ls hl => ?_)
                        refine lv_iinc (v := (nI (j + 1 + 1))) (lv' := [(6, .int (nI (j + 1 + 1))), (5, .int ((gc_b F t j) + 1)), (4, .int ((gc_a F t j) + 0)), (3, .int (rs_ag t k F)), (0, .ref x), (1, .int t), (2, .int k)]) S.1 S.2.1 d_MO_restart_212 hl (k := 2) rfl (nI_1 (j + 1)) (by decide) rfl (fun ls hl => ?_)
                        refine lv_goto (tgt := 140) S.1 S.2.1 d_MO_restart_215 (by decide) ?_
                        exact ih (j + 1) ls (by omega) (by rw [show gc_a F t (j + 1) = ((gc_a F t j) + 0) from by simp only [gc_a, eq_true c159, eq_true c169, not_true_eq_false, not_false_eq_true, and_true, true_and, and_false, false_and, and_self, or_true, true_or, or_false, false_or, or_self, ↓reduceIte], show gc_b F t (j + 1) = ((gc_b F t j) + 1) from by simp only [gc_b, eq_true c190, eq_true c201, not_true_eq_false, not_false_eq_true, and_true, true_and, and_false, false_and, and_self, or_true, true_or, or_false, false_or, or_self, ↓reduceIte]]; exact lv_sub hl [0, 1, 2, 3, 4, 5, 6] rfl)
                  · refine lv_iconst (v := 1) S.1 S.2.1 d_MO_restart_172 (by decide) ?_
                    refine lv_goto (tgt := 177) S.1 S.2.1 d_MO_restart_173 (by decide) ?_
                    refine lv_iadd S.1 S.2.1 d_MO_restart_177 ?_
                    refine lv_istore (lv' := [(4, .int ((gc_a F t j) + 1)), (6, .int (nI (j + 1))), (5, .int (gc_b F t j)), (3, .int (rs_ag t k F)), (0, .ref x), (1, .int t), (2, .int k)]) S.1 S.2.1 d_MO_restart_178 hl (by decide) rfl (fun ls hl => ?_)
                    refine lv_iload S.1 S.2.1 d_MO_restart_180 (lv_at hl 2 rfl) ?_
                    refine lv_aload_n S.1 S.2.1 d_MO_restart_182 rfl (lv_at hl 4 rfl) ?_
                    refine mm_get (C := R_MO) (T := T_MO) (N := 22) (v := .ref (g 12)) S hK.1 hw hP.2.1 rfl in_MO 18 (by decide) gw_388 rfl rfl d_MO_restart_183 ?_
                    refine lv_iload S.1 S.2.1 d_MO_restart_186 (lv_at hl 1 rfl) ?_
                    refine mn_iald (j := j + 1) (n := 61) (f := F 12) S hK.1 hw 0 (mP_a (k := 12) (F := (va_up (rs_F t k F) 15 (rs_k I F))) hP (by decide) (by decide)) rfl (rfl) (by omega) (by decide) d_MO_restart_188 ?_
                    refine lv_iload_n S.1 S.2.1 d_MO_restart_189 rfl (lv_at hl 5 rfl) ?_
                    refine lv_icmp_ne (tgt := 208) S.1 S.2.1 d_MO_restart_190 (by decide) (fun c190 => ?_) (fun c190 => ?_)
                    · refine lv_iconst (v := 0) S.1 S.2.1 d_MO_restart_208 (by decide) ?_
                      refine lv_iadd S.1 S.2.1 d_MO_restart_209 ?_
                      refine lv_istore (lv' := [(5, .int ((gc_b F t j) + 0)), (4, .int ((gc_a F t j) + 1)), (6, .int (nI (j + 1))), (3, .int (rs_ag t k F)), (0, .ref x), (1, .int t), (2, .int k)]) S.1 S.2.1 d_MO_restart_210 hl (by decide) rfl (fun ls hl => ?_)
                      refine lv_iinc (v := (nI (j + 1 + 1))) (lv' := [(6, .int (nI (j + 1 + 1))), (5, .int ((gc_b F t j) + 0)), (4, .int ((gc_a F t j) + 1)), (3, .int (rs_ag t k F)), (0, .ref x), (1, .int t), (2, .int k)]) S.1 S.2.1 d_MO_restart_212 hl (k := 2) rfl (nI_1 (j + 1)) (by decide) rfl (fun ls hl => ?_)
                      refine lv_goto (tgt := 140) S.1 S.2.1 d_MO_restart_215 (by decide) ?_
                      exact ih (j + 1) ls (by omega) (by rw [show gc_a F t (j + 1) = ((gc_a F t j) + 1) from by simp only [gc_a, eq_true c159, eq_false c169, not_true_eq_false, not_false_eq_true, and_true, true_and, and_false, false_and, and_self, or_true, true_or, or_false, false_or, or_self, ↓reduceIte], show gc_b F t (j + 1) = ((gc_b F t j) + 0) from by simp only [gc_b, eq_false c190, not_true_eq_false, not_false_eq_true, and_true, true_and, and_false, false_and, and_self, or_true, true_or, or_false, false_or, or_self, ↓reduceIte]]; exact lv_sub hl [0, 1, 2, 3, 4, 5, 6] rfl)
                    · refine lv_aload_n S.1 S.2.1 d_MO_restart_193 rfl (lv_at hl 4 rfl) ?_
                      refine mm_get (C := R_MO) (T := T_MO) (N := 22) (v := .ref (g 14)) S hK.1 hw hP.2.1 rfl in_MO 20 (by decide) gw_390 rfl rfl d_MO_restart_194 ?_
                      refine lv_iload S.1 S.2.1 d_MO_restart_197 (lv_at hl 1 rfl) ?_
                      refine mn_iald (j := j + 1) (n := 61) (f := F 14) S hK.1 hw 0 (mP_a (k := 14) (F := (va_up (rs_F t k F) 15 (rs_k I F))) hP (by decide) (by decide)) rfl (rfl) (by omega) (by decide) d_MO_restart_199 ?_
                      refine lv_iconst (v := 2) S.1 S.2.1 d_MO_restart_200 (by decide) ?_
                      refine lv_icmp_ne (tgt := 208) S.1 S.2.1 d_MO_restart_201 (by decide) (fun c201 => ?_) (fun c201 => ?_)
                      · refine lv_iconst (v := 0) S.1 S.2.1 d_MO_restart_208 (by decide) ?_
                        refine lv_iadd S.1 S.2.1 d_MO_restart_209 ?_
                        refine lv_istore (lv' := [(5, .int ((gc_b F t j) + 0)), (4, .int ((gc_a F t j) + 1)), (6, .int (nI (j + 1))), (3, .int (rs_ag t k F)), (0, .ref x), (1, .int t), (2, .int k)]) S.1 S.2.1 d_MO_restart_210 hl (by decide) rfl (fun ls hl => ?_)
                        refine lv_iinc (v := (nI (j + 1 + 1))) (lv' := [(6, .int (nI (j + 1 + 1))), (5, .int ((gc_b F t j) + 0)), (4, .int ((gc_a F t j) + 1)), (3, .int (rs_ag t k F)), (0, .ref x), (1, .int t), (2, .int k)]) S.1 S.2.1 d_MO_restart_212 hl (k := 2) rfl (nI_1 (j + 1)) (by decide) rfl (fun ls hl => ?_)
                        refine lv_goto (tgt := 140) S.1 S.2.1 d_MO_restart_215 (by decide) ?_
                        exact ih (j + 1) ls (by omega) (by rw [show gc_a F t (j + 1) = ((gc_a F t j) + 1) from by simp only [gc_a, eq_true c159, eq_false c169, not_true_eq_false, not_false_eq_true, and_true, true_and, and_false, false_and, and_self, or_true, true_or, or_false, false_or, or_self, ↓reduceIte], show gc_b F t (j + 1) = ((gc_b F t j) + 0) from by simp only [gc_b, eq_true c190, eq_false c201, not_true_eq_false, not_false_eq_true, and_true, true_and, and_false, false_and, and_self, or_true, true_or, or_false, false_or, or_self, ↓reduceIte]]; exact lv_sub hl [0, 1, 2, 3, 4, 5, 6] rfl)
                      · refine lv_iconst (v := 1) S.1 S.2.1 d_MO_restart_204 (by decide) ?_
                        refine lv_goto (tgt := 209) S.1 S.2.1 d_MO_restart_205 (by decide) ?_
                        refine lv_iadd S.1 S.2.1 d_MO_restart_209 ?_
                        refine lv_istore (lv' := [(5, .int ((gc_b F t j) + 1)), (4, .int ((gc_a F t j) + 1)), (6, .int (nI (j + 1))), (3, .int (rs_ag t k F)), (0, .ref x), (1, .int t), (2, .int k)]) S.1 S.2.1 d_MO_restart_210 hl (by decide) rfl (fun ls hl => ?_)
                        refine lv_iinc (v := (nI (j + 1 + 1))) (lv' := [(6, .int (nI (j + 1 + 1))), (5, .int ((gc_b F t j) + 1)), (4, .int ((gc_a F t j) + 1)), (3, .int (rs_ag t k F)), (0, .ref x), (1, .int t), (2, .int k)]) S.1 S.2.1 d_MO_restart_212 hl (k := 2) rfl (nI_1 (j + 1)) (by decide) rfl (fun ls hl => ?_)
                        refine lv_goto (tgt := 140) S.1 S.2.1 d_MO_restart_215 (by decide) ?_
                        exact ih (j + 1) ls (by omega) (by rw [show gc_a F t (j + 1) = ((gc_a F t j) + 1) from by simp only [gc_a, eq_true c159, eq_false c169, not_true_eq_false, not_false_eq_true, and_true, true_and, and_false, false_and, and_self, or_true, true_or, or_false, false_or, or_self, ↓reduceIte], show gc_b F t (j + 1) = ((gc_b F t j) + 1) from by simp only [gc_b, eq_true c190, eq_true c201, not_true_eq_false, not_false_eq_true, and_true, true_and, and_false, false_and, and_self, or_true, true_or, or_false, false_or, or_self, ↓reduceIte]]; exact lv_sub hl [0, 1, 2, 3, 4, 5, 6] rfl)
            exact L ng 0 ls (by omega) (lv_sub hl [0, 1, 2, 3, 4, 5, 6] rfl)
          refine lv_aload_n S.1 S.2.1 d_MO_restart_76 rfl (lv_at hl 1 rfl) ?_
          refine mm_get (C := R_MO) (T := T_MO) (N := 22) (v := .int (I 4)) S hK.1 hw hP.2.1 rfl in_MO 4 (by decide) gw_374 rfl rfl d_MO_restart_77 ?_
          refine lv_bipush (v := 50) S.1 S.2.1 d_MO_restart_80 (by decide) ?_
          refine lv_icmp_ne (tgt := 131) S.1 S.2.1 d_MO_restart_82 (by decide) (fun c82 => ?_) (fun c82 => ?_)
          · have hP : mP dA M x g (upd I 0 0) (rs_F t k F) st := hP
            rw [← va_up_same (f := rs_F t k F) (k := 15), show rs_F t k F 15 = rs_k I F from by simp only [rs_k, eq_false c82, ↓reduceIte]; rfl] at hP
            exact J2 _ M H locs ls hw hP (show I 4 = nI (rs_n I) from by simp only [rs_n, eq_false c82, ↓reduceIte]; rw [hnd, cN, nI_clamp (by omega)]) rfl rfl (lv_sub hl [0, 1, 2, 3] rfl)
          · refine lv_aload_n S.1 S.2.1 d_MO_restart_85 rfl (lv_at hl 1 rfl) ?_
            refine lv_dup S.1 S.2.1 d_MO_restart_86 rfl ?_
            refine mm_get (C := R_MO) (T := T_MO) (N := 22) (v := .int (I 4)) S hK.1 hw hP.2.1 rfl in_MO 4 (by decide) gw_374 rfl rfl d_MO_restart_87 ?_
            refine lv_iconst (v := 1) S.1 S.2.1 d_MO_restart_90 (by decide) ?_
            refine lv_isub S.1 S.2.1 d_MO_restart_91 ?_
            refine mm_put (C := R_MO) (T := T_MO) (N := 22) (ty := .int) (v := .int ((I 4) - 1)) S hK.1 hw hP.2.1 rfl in_MO t_MO k_MO n_MO 4 (by decide) gw_374 rfl rfl (by decide +kernel) rfl rfl (Nat.le_of_ble_eq_true rfl) d_MO_restart_92 (fun H locs hw => ?_)
            obtain ⟨M, hw, hP⟩ := md_puti (k := 4) (v := ((I 4) - 1)) (by decide) hw hP
            refine lv_iconst (v := 0) S.1 S.2.1 d_MO_restart_95 (by decide) ?_
            refine lv_istore (lv' := [(4, .int 0), (3, .int (rs_ag t k F)), (0, .ref x), (1, .int t), (2, .int k)]) S.1 S.2.1 d_MO_restart_96 hl (by decide) rfl (fun ls hl => ?_)
            have hP : mP dA M x g (upd (upd I 0 (0)) 4 (((I 4) - 1))) (rs_F t k F) st := hP
            rw [← va_up_same (f := rs_F t k F) (k := 15), show rs_F t k F 15 = sh5 (F 15) 0 from sh5_0.symm] at hP
            have L : ∀ (mm i : Nat) (M : mm_M) (H : Heap) (locs : List Loc) (ls : Array Slot), i + mm = 245 → mm_w D vC A s.heap M H locs → mP dA M x g (upd (upd I 0 (0)) 4 (((I 4) - 1))) (va_up (rs_F t k F) 15 (sh5 (F 15) i)) st → lv_has ls 7 [(4, .int (nI i)), (3, .int (rs_ag t k F)), (0, .ref x), (1, .int t), (2, .int k)] → W p l e ({ frames := 1, cells := 0, slots := 0, locals := 20 }) s m [.ref x, .int t, .int k].toArray below meth c H locs 0 0 Q (F0 m 98 ls []) := by
              intro mm
              induction mm with
              | zero =>
                intro i M H locs ls hi hw hP hl
                obtain rfl : i = 245 := by omega
                refine lv_iload S.1 S.2.1 d_MO_restart_98 (lv_at hl 0 rfl) ?_
                refine lv_iconst (v := 5) S.1 S.2.1 d_MO_restart_100 (by decide) ?_
                refine lv_aload_n S.1 S.2.1 d_MO_restart_101 rfl (lv_at hl 2 rfl) ?_
                refine mm_get (C := R_MO) (T := T_MO) (N := 22) (v := .int (((I 4) - 1))) S hK.1 hw hP.2.1 rfl in_MO 4 (by decide) gw_374 rfl rfl d_MO_restart_102 ?_
                refine lv_imul S.1 S.2.1 d_MO_restart_105 ?_
                refine lv_icmp_ge (tgt := 131) S.1 S.2.1 d_MO_restart_106 (by decide) (fun c106 => ?_) (fun c106 => absurd (by rw [c82]; decide) c106)
                rw [show sh5 (F 15) 245 = rs_k I F from by simp only [rs_k, eq_true c82, ↓reduceIte]] at hP
                exact J2 _ M H locs ls hw hP (show (I 4 - 1) = nI (rs_n I) from by simp only [rs_n, c82, ↓reduceIte]; rfl) rfl up_uu (lv_sub hl [1, 2, 3, 4] rfl)
              | succ mm ih =>
                intro i M H locs ls hi hw hP hl
                refine lv_iload S.1 S.2.1 d_MO_restart_98 (lv_at hl 0 rfl) ?_
                refine lv_iconst (v := 5) S.1 S.2.1 d_MO_restart_100 (by decide) ?_
                refine lv_aload_n S.1 S.2.1 d_MO_restart_101 rfl (lv_at hl 2 rfl) ?_
                refine mm_get (C := R_MO) (T := T_MO) (N := 22) (v := .int (((I 4) - 1))) S hK.1 hw hP.2.1 rfl in_MO 4 (by decide) gw_374 rfl rfl d_MO_restart_102 ?_
                refine lv_imul S.1 S.2.1 d_MO_restart_105 ?_
                refine lv_icmp_ge (tgt := 131) S.1 S.2.1 d_MO_restart_106 (by decide) (fun c106 => absurd (show nI 245 ≤ nI i from by rw [c82] at c106; exact c106) (nI_ge (by omega) (by omega))) (fun c106 => ?_)
                refine lv_aload_n S.1 S.2.1 d_MO_restart_109 rfl (lv_at hl 2 rfl) ?_
                refine mm_get (C := R_MO) (T := T_MO) (N := 22) (v := .ref (g 15)) S hK.1 hw hP.2.1 rfl in_MO 21 (by decide) gw_391 rfl rfl d_MO_restart_110 ?_
                refine lv_iload S.1 S.2.1 d_MO_restart_113 (lv_at hl 0 rfl) ?_
                refine lv_aload_n S.1 S.2.1 d_MO_restart_115 rfl (lv_at hl 2 rfl) ?_
                refine mm_get (C := R_MO) (T := T_MO) (N := 22) (v := .ref (g 15)) S hK.1 hw hP.2.1 rfl in_MO 21 (by decide) gw_391 rfl rfl d_MO_restart_116 ?_
                refine lv_iload S.1 S.2.1 d_MO_restart_119 (lv_at hl 0 rfl) ?_
                refine lv_iconst (v := 5) S.1 S.2.1 d_MO_restart_121 (by decide) ?_
                refine lv_iadd S.1 S.2.1 d_MO_restart_122 ?_
                refine mn_iald (j := i + 5) (n := 250) (f := sh5 (F 15) i) S hK.1 hw 0 (mP_a (k := 15) (F := (va_up (rs_F t k F) 15 (sh5 (F 15) i))) hP (by decide) (by decide)) rfl (nI_add i 5) (by omega) (by decide) d_MO_restart_123 ?_
                refine mn_iast (j := i) (n := 250) (f := sh5 (F 15) i) S hK.1 hw 0 (mP_a (k := 15) (F := (va_up (rs_F t k F) 15 (sh5 (F 15) i))) hP (by decide) (by decide)) rfl (rfl) (by omega) (by decide) d_MO_restart_124 (fun H locs hw => ?_)
                obtain ⟨M, hw, hP⟩ := md_ast (k := 15) (j := i) (v := ((sh5 (F 15) i) (i + 5))) (F := (va_up (rs_F t k F) 15 (sh5 (F 15) i))) (by decide) (by decide) hw hP
                refine lv_iinc (v := (nI (i + 1))) (lv' := [(4, .int (nI (i + 1))), (3, .int (rs_ag t k F)), (0, .ref x), (1, .int t), (2, .int k)]) S.1 S.2.1 d_MO_restart_125 hl (k := 0) rfl (nI_1 i) (by decide) rfl (fun ls hl => ?_)
                refine lv_goto (tgt := 98) S.1 S.2.1 d_MO_restart_128 (by decide) ?_
                rw [bx_uu, va_up_self, sh5_s] at hP
                exact ih (i + 1) M H locs ls (by omega) hw hP (lv_sub hl [0, 1, 2, 3, 4] rfl)
            exact L 245 0 M H locs ls (by omega) hw hP (lv_sub hl [0, 1, 2, 3, 4] rfl)
        · refine lv_iload_n S.1 S.2.1 d_MO_restart_74 rfl (lv_at hl 0 rfl) ?_
          exact mm_reti S.1 S.2.1 hr hlocks hA hQ hw (md_done hP (show sp_restart t k I F st = ((rs_ag t k F), (upd I 0 (0)), (va_up (va_up F 9 (upd (F 9) (cN t) (((F 9 (cN t)) + (rs_ag t k F))))) 8 (upd (F 8) (cN k) (((F 8 (cN k)) + 1)))), st) by simp only [sp_restart, rs_F, eq_false c9, eq_false c16, eq_false c71, eq_true hc3, eq_true hc7, not_true_eq_false, not_false_eq_true, and_true, true_and, and_false, false_and, and_self, or_true, true_or, or_false, false_or, or_self, ↓reduceIte])) (Nat.le_of_ble_eq_true rfl) (Nat.le_of_ble_eq_true rfl) d_MO_restart_75
      refine lv_iload_n S.1 S.2.1 d_MO_restart_22 rfl (lv_at hl 2 rfl) ?_
      refine lv_sipush (v := 1000) S.1 S.2.1 d_MO_restart_23 (by decide) ?_
      refine lv_icmp_ge (tgt := 43) S.1 S.2.1 d_MO_restart_26 (by decide) (fun c26 => ?_) (fun c26 => ?_)
      · refine lv_iconst (v := 0) S.1 S.2.1 d_MO_restart_43 (by decide) ?_
        refine lv_istore_n (lv' := [(3, .int 0), (0, .ref x), (1, .int t), (2, .int k)]) S.1 S.2.1 d_MO_restart_44 rfl hl (by decide) rfl (fun ls hl => ?_)
        have ea : (0 : Int32) = rs_ag t k F := by simp only [rs_ag, eq_false c9, eq_false c16, eq_true c26, eq_true hc3, eq_true hc7, not_true_eq_false, not_false_eq_true, and_true, true_and, and_false, false_and, and_self, or_true, true_or, or_false, false_or, or_self, ↓reduceIte]
        exact J ls (by rw [← ea]; exact lv_sub hl [0, 1, 2, 3] rfl)
      · refine lv_aload_n S.1 S.2.1 d_MO_restart_29 rfl (lv_at hl 0 rfl) ?_
        refine mm_get (C := R_MO) (T := T_MO) (N := 22) (v := .ref (g 9)) S hK.1 hw hP.2.1 rfl in_MO 15 (by decide) gw_385 rfl rfl d_MO_restart_30 ?_
        refine lv_iload_n S.1 S.2.1 d_MO_restart_33 rfl (lv_at hl 1 rfl) ?_
        refine mn_iald (j := cN t) (n := 41) (f := F 9) S hK.1 hw 0 (mP_a (k := 9) (F := F) hP (by decide) (by decide)) rfl (cl_nI (is_le0 hc3.1)) (by rw [cN, enj4]; omega) (by decide) d_MO_restart_34 ?_
        refine lv_iconst (v := 3) S.1 S.2.1 d_MO_restart_35 (by decide) ?_
        refine lv_icmp_ge (tgt := 43) S.1 S.2.1 d_MO_restart_36 (by decide) (fun c36 => ?_) (fun c36 => ?_)
        · refine lv_iconst (v := 0) S.1 S.2.1 d_MO_restart_43 (by decide) ?_
          refine lv_istore_n (lv' := [(3, .int 0), (0, .ref x), (1, .int t), (2, .int k)]) S.1 S.2.1 d_MO_restart_44 rfl hl (by decide) rfl (fun ls hl => ?_)
          have ea : (0 : Int32) = rs_ag t k F := by simp only [rs_ag, eq_false c9, eq_false c16, eq_false c26, eq_true c36, eq_true hc3, eq_true hc7, not_true_eq_false, not_false_eq_true, and_true, true_and, and_false, false_and, and_self, or_true, true_or, or_false, false_or, or_self, ↓reduceIte]
          exact J ls (by rw [← ea]; exact lv_sub hl [0, 1, 2, 3] rfl)
        · refine lv_iconst (v := 1) S.1 S.2.1 d_MO_restart_39 (by decide) ?_
          refine lv_goto (tgt := 44) S.1 S.2.1 d_MO_restart_40 (by decide) ?_
          refine lv_istore_n (lv' := [(3, .int 1), (0, .ref x), (1, .int t), (2, .int k)]) S.1 S.2.1 d_MO_restart_44 rfl hl (by decide) rfl (fun ls hl => ?_)
          have ea : (1 : Int32) = rs_ag t k F := by simp only [rs_ag, eq_false c9, eq_false c16, eq_false c26, eq_false c36, eq_true hc3, eq_true hc7, not_true_eq_false, not_false_eq_true, and_true, true_and, and_false, false_and, and_self, or_true, true_or, or_false, false_or, or_self, ↓reduceIte]
          exact J ls (by rw [← ea]; exact lv_sub hl [0, 1, 2, 3] rfl)
    · refine lv_if_ne (tgt := 22) S.1 S.2.1 d_MO_restart_16 (by decide) (fun c16 => absurd c16 (by decide)) (fun c16 => ?_)
      refine lv_bipush (v := (-4)) S.1 S.2.1 d_MO_restart_19 (by decide) ?_
      exact mm_reti S.1 S.2.1 hr hlocks hA hQ hw (md_done hP (show sp_restart t k I F st = ((-4), (upd I 0 (0)), F, st) by simp only [sp_restart, rs_F, eq_false c9, eq_true c16, eq_true hc3, eq_false hc7, not_true_eq_false, not_false_eq_true, and_true, true_and, and_false, false_and, and_self, or_true, true_or, or_false, false_or, or_self, ↓reduceIte])) (Nat.le_of_ble_eq_true rfl) (Nat.le_of_ble_eq_true rfl) d_MO_restart_21
  · refine lv_if_eq (tgt := 19) S.1 S.2.1 d_MO_restart_9 (by decide) (fun c9 => ?_) (fun c9 => absurd c9 (by decide))
    refine lv_bipush (v := (-4)) S.1 S.2.1 d_MO_restart_19 (by decide) ?_
    exact mm_reti S.1 S.2.1 hr hlocks hA hQ hw (md_done hP (show sp_restart t k I F st = ((-4), (upd I 0 (0)), F, st) by simp only [sp_restart, rs_F, eq_true c9, eq_false hc3, not_true_eq_false, not_false_eq_true, and_true, true_and, and_false, false_and, and_self, or_true, true_or, or_false, false_or, or_self, ↓reduceIte])) (Nat.le_of_ble_eq_true rfl) (Nat.le_of_ble_eq_true rfl) d_MO_restart_21
