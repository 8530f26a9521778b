theorem f_146_0 : mj_fetch 146 0 = some (.aload_n 0, 0, 0) := by decide +kernel
theorem f_146_1 : mj_fetch 146 1 = some (.getfield 57, 11, 24) := by decide +kernel
theorem f_146_4 : mj_fetch 146 4 = some (.iload_n 1, 0, 0) := by decide +kernel
theorem f_146_5 : mj_fetch 146 5 = some (.iload 4, 0, 0) := by decide +kernel
theorem f_146_7 : mj_fetch 146 7 = some (.iload_n 2, 0, 0) := by decide +kernel
theorem f_146_8 : mj_fetch 146 8 = some (.if_icmp .ge 7, 0, 0) := by decide +kernel
theorem f_146_11 : mj_fetch 146 11 = some (.iload_n 3, 0, 0) := by decide +kernel
theorem f_146_12 : mj_fetch 146 12 = some (.goto 9, 0, 0) := by decide +kernel
theorem f_146_15 : mj_fetch 146 15 = some (.aload_n 0, 0, 0) := by decide +kernel
theorem f_146_16 : mj_fetch 146 16 = some (.getfield 57, 11, 24) := by decide +kernel
theorem f_146_19 : mj_fetch 146 19 = some (.iload_n 1, 0, 0) := by decide +kernel
theorem f_146_20 : mj_fetch 146 20 = some (.iaload, 0, 0) := by decide +kernel
theorem f_146_21 : mj_fetch 146 21 = some (.iastore, 0, 0) := by decide +kernel
theorem f_146_22 : mj_fetch 146 22 = some (.iload 4, 0, 0) := by decide +kernel
theorem f_146_24 : mj_fetch 146 24 = some (.iload_n 2, 0, 0) := by decide +kernel
theorem f_146_25 : mj_fetch 146 25 = some (.invokestatic 117, 0, 2) := by decide +kernel
theorem f_146_28 : mj_fetch 146 28 = some (.ireturn, 0, 0) := by decide +kernel
theorem f_145_104 : mj_fetch 145 104 = some (.iload 10, 0, 0) := by decide +kernel
theorem f_145_106 : mj_fetch 145 106 = some (.iload_n 2, 0, 0) := by decide +kernel
theorem f_145_107 : mj_fetch 145 107 = some (.if_icmp .ge 56, 0, 0) := by decide +kernel
theorem f_145_110 : mj_fetch 145 110 = some (.aload_n 0, 0, 0) := by decide +kernel
theorem f_145_111 : mj_fetch 145 111 = some (.iload 7, 0, 0) := by decide +kernel
theorem f_145_113 : mj_fetch 145 113 = some (.iload 9, 0, 0) := by decide +kernel
theorem f_145_115 : mj_fetch 145 115 = some (.iconst 2, 0, 0) := by decide +kernel
theorem f_145_116 : mj_fetch 145 116 = some (.iload 10, 0, 0) := by decide +kernel
theorem f_145_118 : mj_fetch 145 118 = some (.iadd, 0, 0) := by decide +kernel
theorem f_145_119 : mj_fetch 145 119 = some (.iload_n 1, 0, 0) := by decide +kernel
theorem f_145_120 : mj_fetch 145 120 = some (.isub, 0, 0) := by decide +kernel
theorem f_145_121 : mj_fetch 145 121 = some (.aload_n 0, 0, 0) := by decide +kernel
theorem f_145_122 : mj_fetch 145 122 = some (.iload_n 1, 0, 0) := by decide +kernel
theorem f_145_123 : mj_fetch 145 123 = some (.iload 10, 0, 0) := by decide +kernel
theorem f_145_125 : mj_fetch 145 125 = some (.iload_n 3, 0, 0) := by decide +kernel
theorem f_145_126 : mj_fetch 145 126 = some (.iload 4, 0, 0) := by decide +kernel
theorem f_145_128 : mj_fetch 145 128 = some (.iload 5, 0, 0) := by decide +kernel
theorem f_145_130 : mj_fetch 145 130 = some (.iload 6, 0, 0) := by decide +kernel
theorem f_145_132 : mj_fetch 145 132 = some (.invokevirtual 201, 145, 0) := by decide +kernel
theorem f_145_135 : mj_fetch 145 135 = some (.aload_n 0, 0, 0) := by decide +kernel
theorem f_145_136 : mj_fetch 145 136 = some (.iload 10, 0, 0) := by decide +kernel
theorem f_145_138 : mj_fetch 145 138 = some (.iconst 1, 0, 0) := by decide +kernel
theorem f_145_139 : mj_fetch 145 139 = some (.iadd, 0, 0) := by decide +kernel
theorem f_145_140 : mj_fetch 145 140 = some (.iload_n 2, 0, 0) := by decide +kernel
theorem f_145_141 : mj_fetch 145 141 = some (.iload_n 3, 0, 0) := by decide +kernel
theorem f_145_142 : mj_fetch 145 142 = some (.iload 4, 0, 0) := by decide +kernel
theorem f_145_144 : mj_fetch 145 144 = some (.iload 5, 0, 0) := by decide +kernel
theorem f_145_146 : mj_fetch 145 146 = some (.iload 6, 0, 0) := by decide +kernel
theorem f_145_148 : mj_fetch 145 148 = some (.invokevirtual 201, 145, 0) := by decide +kernel
theorem f_145_151 : mj_fetch 145 151 = some (.iadd, 0, 0) := by decide +kernel
theorem f_145_152 : mj_fetch 145 152 = some (.invokevirtual 204, 146, 0) := by decide +kernel
theorem f_145_155 : mj_fetch 145 155 = some (.istore 9, 0, 0) := by decide +kernel
theorem f_145_157 : mj_fetch 145 157 = some (.iinc 10 1, 0, 0) := by decide +kernel
theorem f_145_160 : mj_fetch 145 160 = some (.goto (-56), 0, 0) := by decide +kernel
theorem f_145_166 : mj_fetch 145 166 = some (.iload 10, 0, 0) := by decide +kernel
theorem f_145_168 : mj_fetch 145 168 = some (.iload 4, 0, 0) := by decide +kernel
theorem f_145_170 : mj_fetch 145 170 = some (.if_icmp .ge 56, 0, 0) := by decide +kernel
theorem f_145_173 : mj_fetch 145 173 = some (.aload_n 0, 0, 0) := by decide +kernel
theorem f_145_174 : mj_fetch 145 174 = some (.iload 7, 0, 0) := by decide +kernel
theorem f_145_176 : mj_fetch 145 176 = some (.iload 9, 0, 0) := by decide +kernel
theorem f_145_178 : mj_fetch 145 178 = some (.bipush 10, 0, 0) := by decide +kernel
theorem f_145_180 : mj_fetch 145 180 = some (.iload 10, 0, 0) := by decide +kernel
theorem f_145_182 : mj_fetch 145 182 = some (.iadd, 0, 0) := by decide +kernel
theorem f_145_183 : mj_fetch 145 183 = some (.iload_n 3, 0, 0) := by decide +kernel
theorem f_145_184 : mj_fetch 145 184 = some (.isub, 0, 0) := by decide +kernel
theorem f_145_185 : mj_fetch 145 185 = some (.aload_n 0, 0, 0) := by decide +kernel
theorem f_145_186 : mj_fetch 145 186 = some (.iload_n 1, 0, 0) := by decide +kernel
theorem f_145_187 : mj_fetch 145 187 = some (.iload_n 2, 0, 0) := by decide +kernel
theorem f_145_188 : mj_fetch 145 188 = some (.iload_n 3, 0, 0) := by decide +kernel
theorem f_145_189 : mj_fetch 145 189 = some (.iload 10, 0, 0) := by decide +kernel
theorem f_145_191 : mj_fetch 145 191 = some (.iload 5, 0, 0) := by decide +kernel
theorem f_145_193 : mj_fetch 145 193 = some (.iload 6, 0, 0) := by decide +kernel
theorem f_145_195 : mj_fetch 145 195 = some (.invokevirtual 201, 145, 0) := by decide +kernel
theorem f_145_198 : mj_fetch 145 198 = some (.aload_n 0, 0, 0) := by decide +kernel
theorem f_145_199 : mj_fetch 145 199 = some (.iload_n 1, 0, 0) := by decide +kernel
theorem f_145_200 : mj_fetch 145 200 = some (.iload_n 2, 0, 0) := by decide +kernel
theorem f_145_201 : mj_fetch 145 201 = some (.iload 10, 0, 0) := by decide +kernel
theorem f_145_203 : mj_fetch 145 203 = some (.iconst 1, 0, 0) := by decide +kernel
theorem f_145_204 : mj_fetch 145 204 = some (.iadd, 0, 0) := by decide +kernel
theorem f_145_205 : mj_fetch 145 205 = some (.iload 4, 0, 0) := by decide +kernel
theorem f_145_207 : mj_fetch 145 207 = some (.iload 5, 0, 0) := by decide +kernel
theorem f_145_209 : mj_fetch 145 209 = some (.iload 6, 0, 0) := by decide +kernel
theorem f_145_211 : mj_fetch 145 211 = some (.invokevirtual 201, 145, 0) := by decide +kernel
theorem f_145_214 : mj_fetch 145 214 = some (.iadd, 0, 0) := by decide +kernel
theorem f_145_215 : mj_fetch 145 215 = some (.invokevirtual 204, 146, 0) := by decide +kernel
theorem f_145_218 : mj_fetch 145 218 = some (.istore 9, 0, 0) := by decide +kernel
theorem f_145_220 : mj_fetch 145 220 = some (.iinc 10 1, 0, 0) := by decide +kernel
theorem f_145_223 : mj_fetch 145 223 = some (.goto (-57), 0, 0) := by decide +kernel
theorem f_145_230 : mj_fetch 145 230 = some (.iload 10, 0, 0) := by decide +kernel
theorem f_145_232 : mj_fetch 145 232 = some (.iload 6, 0, 0) := by decide +kernel
theorem f_145_234 : mj_fetch 145 234 = some (.if_icmp .ge 56, 0, 0) := by decide +kernel
theorem f_145_237 : mj_fetch 145 237 = some (.aload_n 0, 0, 0) := by decide +kernel
theorem f_145_238 : mj_fetch 145 238 = some (.iload 7, 0, 0) := by decide +kernel
theorem f_145_240 : mj_fetch 145 240 = some (.iload 9, 0, 0) := by decide +kernel
theorem f_145_242 : mj_fetch 145 242 = some (.bipush 18, 0, 0) := by decide +kernel
theorem f_145_244 : mj_fetch 145 244 = some (.iload 10, 0, 0) := by decide +kernel
theorem f_145_246 : mj_fetch 145 246 = some (.iadd, 0, 0) := by decide +kernel
theorem f_145_247 : mj_fetch 145 247 = some (.iload 5, 0, 0) := by decide +kernel
theorem f_145_249 : mj_fetch 145 249 = some (.isub, 0, 0) := by decide +kernel
theorem f_145_250 : mj_fetch 145 250 = some (.aload_n 0, 0, 0) := by decide +kernel
theorem f_145_251 : mj_fetch 145 251 = some (.iload_n 1, 0, 0) := by decide +kernel
theorem f_145_252 : mj_fetch 145 252 = some (.iload_n 2, 0, 0) := by decide +kernel
theorem f_145_253 : mj_fetch 145 253 = some (.iload_n 3, 0, 0) := by decide +kernel
theorem f_145_254 : mj_fetch 145 254 = some (.iload 4, 0, 0) := by decide +kernel
theorem f_145_256 : mj_fetch 145 256 = some (.iload 5, 0, 0) := by decide +kernel
theorem f_145_258 : mj_fetch 145 258 = some (.iload 10, 0, 0) := by decide +kernel
theorem f_145_260 : mj_fetch 145 260 = some (.invokevirtual 201, 145, 0) := by decide +kernel
theorem f_145_263 : mj_fetch 145 263 = some (.aload_n 0, 0, 0) := by decide +kernel
theorem f_145_264 : mj_fetch 145 264 = some (.iload_n 1, 0, 0) := by decide +kernel
theorem f_145_265 : mj_fetch 145 265 = some (.iload_n 2, 0, 0) := by decide +kernel
theorem f_145_266 : mj_fetch 145 266 = some (.iload_n 3, 0, 0) := by decide +kernel
theorem f_145_267 : mj_fetch 145 267 = some (.iload 4, 0, 0) := by decide +kernel
theorem f_145_269 : mj_fetch 145 269 = some (.iload 10, 0, 0) := by decide +kernel
theorem f_145_271 : mj_fetch 145 271 = some (.iconst 1, 0, 0) := by decide +kernel
theorem f_145_272 : mj_fetch 145 272 = some (.iadd, 0, 0) := by decide +kernel
theorem f_145_273 : mj_fetch 145 273 = some (.iload 6, 0, 0) := by decide +kernel
theorem f_145_275 : mj_fetch 145 275 = some (.invokevirtual 201, 145, 0) := by decide +kernel
theorem f_145_278 : mj_fetch 145 278 = some (.iadd, 0, 0) := by decide +kernel
theorem f_145_279 : mj_fetch 145 279 = some (.invokevirtual 204, 146, 0) := by decide +kernel
theorem f_145_282 : mj_fetch 145 282 = some (.istore 9, 0, 0) := by decide +kernel
theorem f_145_284 : mj_fetch 145 284 = some (.iinc 10 1, 0, 0) := by decide +kernel
theorem f_145_287 : mj_fetch 145 287 = some (.goto (-57), 0, 0) := by decide +kernel
theorem nI_any (v : Int32) : ∃ x : Nat, v = nI x := ⟨v.toBitVec.toNat, by
  apply Int32.toBitVec_inj.mp
  simp [nI, Int32.toBitVec_ofNat']⟩
theorem nI_min {x y : Nat} (hx : x < 2 ^ 31) (hy : y < 2 ^ 31) : (if nI y < nI x then nI y else nI x) = nI (if x < y then x else y) := by
  by_cases h : y < x
  · rw [if_pos ((nI_ltI hy hx).mpr h), if_neg (by omega)]
  · rw [if_neg (fun q => h ((nI_ltI hy hx).mp q))]
    by_cases h2 : x < y
    · rw [if_pos h2]
    · rw [if_neg h2, show x = y by omega]

set_option maxRecDepth 20000 in
theorem c_better {h : mj_H} (S : SM h) {k best cut n x : Nat} (hk : k < 46656) (hb : best < 2 ^ 31) (hn : n < 2 ^ 31) (e49 : mj_I h 49 k = nI x) : mxc 0 146 [.ref 33, .int (nI k), .int (nI best), .int (nI cut), .int (nI n)] h (fun r h' => r = some (.int (nI (bt (best, x) cut n).1)) ∧ h' = mj_setI h 49 k (nI (bt (best, x) cut n).2)) := by
  show mx 0 146 0 [.ref 33, .int (nI k), .int (nI best), .int (nI cut), .int (nI n)] [] h _
  refine x_aload_n f_146_0 rfl ?_
  refine x_getR f_146_1 S.k33 (by decide) S.r24 ?_
  refine x_iload_n f_146_4 rfl ?_
  refine x_iload f_146_5 rfl ?_
  refine x_iload_n f_146_7 rfl ?_
  refine x_icmpN_ge (t := 15) f_146_8 (by decide) (by omega) (by omega) (fun c_1 => ?_) (fun c_1 => ?_)
  · refine x_aload_n f_146_15 rfl ?_
    refine x_getR f_146_16 S.k33 (by decide) S.r24 ?_
    refine x_iload_n f_146_19 rfl ?_
    refine x_iald (j := k) f_146_20 S.k49 (by omega) (by decide) ?_
    refine x_topi (w := nI x) e49 ?_
    refine x_iast (j := k) f_146_21 S.k49 (by decide) (by omega) (by decide) ?_
    refine x_iload f_146_22 rfl ?_
    refine x_iload_n f_146_24 rfl ?_
    refine x_min f_146_25 (Nat.le_of_ble_eq_true rfl) ?_
    refine x_retI f_146_28 rfl ?_
    unfold bt
    rw [if_neg (show ¬ n < best by omega)]
    refine ⟨?_, rfl⟩
    rw [nI_min (by omega) (by omega)]
    rw [if_neg (show ¬ n < best by omega)]
  · refine x_iload_n f_146_11 rfl ?_
    refine x_goto (t := 21) f_146_12 (by decide) ?_
    refine x_iast (j := k) f_146_21 S.k49 (by decide) (by omega) (by decide) ?_
    refine x_iload f_146_22 rfl ?_
    refine x_iload_n f_146_24 rfl ?_
    refine x_min f_146_25 (Nat.le_of_ble_eq_true rfl) ?_
    refine x_retI f_146_28 rfl ?_
    unfold bt
    rw [if_pos (show n < best by omega)]
    refine ⟨?_, rfl⟩
    rw [nI_min (by omega) (by omega)]
    rw [if_pos (show n < best by omega)]
def BX (W : Nat → Nat) (a b c d e f : Nat) : Prop := a ≤ b ∧ b ≤ W 0 ∧ c ≤ d ∧ d ≤ W 1 ∧ e ≤ f ∧ f ≤ W 2
/-- what the search has kept is right -/
def MO (h : mj_H) (G : Gd) (W : Nat → Nat) : Prop := ∀ a b c d e f, BX W a b c d e f → mj_I h 48 (bx a b c d e f) = 0 ∨ (mj_I h 48 (bx a b c d e f) = nI (LV G a b c d e f).1 ∧ mj_I h 49 (bx a b c d e f) = nI (LV G a b c d e f).2)

def NU (G : Gd) (a b c d e f : Nat) : Prop := ¬ gcN G a b c d e f = 0 ∧ ¬ gcN G a b c d e f = szN a b c d e f
def ST (h : mj_H) (a b c d e f : Nat) : Prop := ¬ mj_I h 48 (bx a b c d e f) = 0
/-- the parts of a kept box are kept -/
def MC (h : mj_H) (G : Gd) (W : Nat → Nat) : Prop := ∀ a b c d e f, BX W a b c d e f → ST h a b c d e f → NU G a b c d e f →
  (∀ i, a ≤ i → i < b → ST h a i c d e f ∧ ST h (i + 1) b c d e f) ∧ (∀ i, c ≤ i → i < d → ST h a b c i e f ∧ ST h a b (i + 1) d e f) ∧ ∀ i, e ≤ i → i < f → ST h a b c d e i ∧ ST h a b c d (i + 1) f
/-- what is kept stays kept -/
def Mn (h g : mj_H) : Prop := ∀ q, ¬ mj_I h 48 q = 0 → ¬ mj_I g 48 q = 0
theorem Mn.rf (h : mj_H) : Mn h h := fun _ q => q
theorem Mn.trans {h g k : mj_H} (a : Mn h g) (b : Mn g k) : Mn h k := fun q h1 => b q (a q h1)
theorem Mn.eq {h g : mj_H} (e : mj_I g 48 = mj_I h 48) : Mn h g := fun q h1 => by rw [e]; exact h1
theorem MC.eq {h g : mj_H} {G : Gd} {W : Nat → Nat} (e : mj_I g 48 = mj_I h 48) (m : MC h G W) : MC g G W := by
  unfold MC ST
  rw [e]
  exact m
theorem Mn.set {g : mj_H} {k : Nat} {x : Int32} (hx : ¬ x = 0) : Mn g (mj_setI g 48 k x) := by
  intro q h1
  by_cases hq : q = k
  · subst hq; rw [mj_I_at]; exact hx
  · rw [mj_I_ne hq]; exact h1
def ME (h g : mj_H) : Prop := Rw h g [33, 39, 40, 41, 42, 43, 44, 48, 49] ∧ F33 h g
def CL (h : mj_H) (jm w : Nat) (G : Gd) (W : Nat → Nat) : Prop := MW h jm ∧ w < 10 ∧ mj_I h 33 22 = nI w ∧ WN h w jm ∧ (∀ t p l, wg h w t p l = G t p l) ∧ (∀ a, a < 3 → wlo h w a + W a ≤ 9 ∧ W a ≤ 5) ∧ MO h G W ∧ MC h G W
theorem ME.rf (h : mj_H) : ME h h := ⟨Rw.rf _ _, fun _ _ _ _ => rfl⟩
theorem ME.trans {h g k : mj_H} (a : ME h g) (b : ME g k) : ME h k := ⟨a.1.trans b.1, fun q h1 h2 h3 => (b.2 q h1 h2 h3).trans (a.2 q h1 h2 h3)⟩
theorem ME_MV {h g : mj_H} {jm : Nat} (a : MV h g jm) : ME h g := ⟨a.2.1.mono (by decide), a.2.2⟩
theorem ME.set {h g : mj_H} (a : ME h g) {b i : Nat} {x : Int32} (hb : b = 48 ∨ b = 49) : ME h (mj_setI g b i x) := by
  rcases hb with rfl | rfl
  · exact ⟨a.1.set (by decide), fun q h1 h2 h3 => (congrFun (mj_I_other (by decide)) q).trans (a.2 q h1 h2 h3)⟩
  · exact ⟨a.1.set (by decide), fun q h1 h2 h3 => (congrFun (mj_I_other (by decide)) q).trans (a.2 q h1 h2 h3)⟩
theorem wg_to {h g : mj_H} (e36 : mj_I g 36 = mj_I h 36) (e45 : mj_I g 45 = mj_I h 45) (e46 : mj_I g 46 = mj_I h 46) (w t p l : Nat) : wg g w t p l = wg h w t p l := by
  unfold wg
  rw [wz_to e46, vd_eq e36, show wj g w = wj h w by unfold wj; rw [e45]]
theorem CL.to {h g : mj_H} {jm w : Nat} {G : Gd} {W : Nat → Nat} (c : CL h jm w G W) (m : MW g jm) (e : ME h g) (o : MO g G W) (mc : MC g G W) : CL g jm w G W := by
  have e36 : mj_I g 36 = mj_I h 36 := e.1.i (by decide)
  have e45 : mj_I g 45 = mj_I h 45 := e.1.i (by decide)
  have e46 : mj_I g 46 = mj_I h 46 := e.1.i (by decide)
  have e47 : mj_I g 47 = mj_I h 47 := e.1.i (by decide)
  exact ⟨m, c.2.1, (e.2 22 (by decide) (by decide) (by decide)).trans c.2.2.1, WN_to e45 e46 e47 c.2.2.2.1, fun t p l => (wg_to e36 e45 e46 w t p l).trans (c.2.2.2.2.1 t p l), fun a ha => by unfold wlo; rw [e46]; exact c.2.2.2.2.2.1 a ha, o, mc⟩
theorem MW_o {h : mj_H} {jm b i : Nat} {x : Int32} (w : MW h jm) (hb : b ∉ [36, 39, 41, 42, 43, 44]) : MW (mj_setI h b i x) jm := by
  have ne : ∀ a, a ∈ [36, 39, 41, 42, 43, 44] → a ≠ b := fun a ha q => hb (q ▸ ha)
  have e36 : mj_I (mj_setI h b i x) 36 = mj_I h 36 := mj_I_other (ne 36 (by decide))
  have e44 : mj_I (mj_setI h b i x) 44 = mj_I h 44 := mj_I_other (ne 44 (by decide))
  refine ⟨w.1, fun a ha q hq => ?_, w.2.2.1, fun j hj => (w.2.2.2.1 j hj).to e36, fun j hj z hz => by rw [e44, vd_eq e36]; exact w.2.2.2.2 j hj z hz⟩
  rw [mj_I_other (ne a (by simp only [List.mem_cons, List.not_mem_nil, or_false] at ha ⊢; omega))]
  exact w.2.1 a ha q hq
theorem MO.set49 {g : mj_H} {G : Gd} {W : Nat → Nat} (o : MO g G W) {k : Nat} {x : Int32} (hk : mj_I g 48 k = 0) : MO (mj_setI g 49 k x) G W := by
  intro a b c d e f hB
  have e48 : mj_I (mj_setI g 49 k x) 48 = mj_I g 48 := mj_I_other (by decide)
  rw [e48]
  by_cases hq : bx a b c d e f = k
  · left; rw [hq]; exact hk
  · rw [mj_I_ne hq]; exact o a b c d e f hB
theorem bx_inj {a b c d e f a' b' c' d' e' f' : Nat} (h : a ≤ 5 ∧ b ≤ 5 ∧ c ≤ 5 ∧ d ≤ 5 ∧ e ≤ 5 ∧ f ≤ 5) (h' : a' ≤ 5 ∧ b' ≤ 5 ∧ c' ≤ 5 ∧ d' ≤ 5 ∧ e' ≤ 5 ∧ f' ≤ 5) (q : bx a b c d e f = bx a' b' c' d' e' f') : a = a' ∧ b = b' ∧ c = c' ∧ d = d' ∧ e = e' ∧ f = f' := by
  unfold bx at q
  omega
theorem bx_lt {a b c d e f : Nat} (h : a ≤ 5 ∧ b ≤ 5 ∧ c ≤ 5 ∧ d ≤ 5 ∧ e ≤ 5 ∧ f ≤ 5) : bx a b c d e f < 46656 := by
  unfold bx
  omega
/-- what is kept of wider boxes stays -/
def FRX (h g : mj_H) (s : Nat) : Prop := ∀ a b c d e f, a ≤ 5 ∧ b ≤ 5 ∧ c ≤ 5 ∧ d ≤ 5 ∧ e ≤ 5 ∧ f ≤ 5 → s < spn a b c d e f → mj_I g 48 (bx a b c d e f) = mj_I h 48 (bx a b c d e f) ∧ mj_I g 49 (bx a b c d e f) = mj_I h 49 (bx a b c d e f)
theorem FRX.rf (h : mj_H) (s : Nat) : FRX h h s := fun _ _ _ _ _ _ _ _ => ⟨rfl, rfl⟩
theorem FRX.trans {h g k : mj_H} {s s' : Nat} (a : FRX h g s) (b : FRX g k s') (hs : s' ≤ s) : FRX h k s := fun a1 b1 c1 d1 e1 f1 hd h2 => ⟨(b a1 b1 c1 d1 e1 f1 hd (by omega)).1.trans (a a1 b1 c1 d1 e1 f1 hd h2).1, (b a1 b1 c1 d1 e1 f1 hd (by omega)).2.trans (a a1 b1 c1 d1 e1 f1 hd h2).2⟩
theorem FRX.set {h g : mj_H} {a b c d e f r : Nat} {x : Int32} (k : FRX h g (spn a b c d e f)) (hd : a ≤ 5 ∧ b ≤ 5 ∧ c ≤ 5 ∧ d ≤ 5 ∧ e ≤ 5 ∧ f ≤ 5) (hr : r = 48 ∨ r = 49) : FRX h (mj_setI g r (bx a b c d e f) x) (spn a b c d e f) := by
  intro a1 b1 c1 d1 e1 f1 hd1 h2
  have ne : ¬ bx a1 b1 c1 d1 e1 f1 = bx a b c d e f := by
    intro q
    obtain ⟨q1, q2, q3, q4, q5, q6⟩ := bx_inj hd1 hd q
    subst q1; subst q2; subst q3; subst q4; subst q5; subst q6
    exact Nat.lt_irrefl _ h2
  rcases hr with rfl | rfl
  · exact ⟨(mj_I_ne ne).trans (k a1 b1 c1 d1 e1 f1 hd1 h2).1, (congrFun (mj_I_other (by decide)) _).trans (k a1 b1 c1 d1 e1 f1 hd1 h2).2⟩
  · exact ⟨(congrFun (mj_I_other (by decide)) _).trans (k a1 b1 c1 d1 e1 f1 hd1 h2).1, (mj_I_ne ne).trans (k a1 b1 c1 d1 e1 f1 hd1 h2).2⟩
/-- the contract of leavesOf on boxes of span s at most -/
def LvP (jm w : Nat) (G : Gd) (W : Nat → Nat) (s : Nat) : Prop := ∀ (a b c d e f : Nat) (h : mj_H), BX W a b c d e f → spn a b c d e f ≤ s → CL h jm w G W →
  mxc (7 + s) 145 [.ref 33, .int (nI a), .int (nI b), .int (nI c), .int (nI d), .int (nI e), .int (nI f)] h (fun r h' => r = some (.int (nI (LV G a b c d e f).1)) ∧ CL h' jm w G W ∧ ME h h' ∧ mj_I h' 48 (bx a b c d e f) = nI (LV G a b c d e f).1 ∧ mj_I h' 49 (bx a b c d e f) = nI (LV G a b c d e f).2 ∧ FRX h h' (spn a b c d e f) ∧ Mn h h')

set_option maxRecDepth 20000 in
set_option maxHeartbeats 4000000 in
theorem leaves_l0 {jm w s : Nat} {G : Gd} {W : Nat → Nat} (IH : LvP jm w G W s) {h hs : mj_H} {a b c d e f N : Nat} (hB : BX W a b c d e f) (hW5 : W 0 ≤ 5 ∧ W 1 ≤ 5 ∧ W 2 ≤ 5) (hsp : spn a b c d e f ≤ s + 1) {Q : Option Value → mj_H → Prop} :
    ∀ (n I0 : Nat) (x : Nat × Nat) (g : mj_H), I0 + n = b → a ≤ I0 → CL g jm w G W → ME h g → mj_I g 48 (bx a b c d e f) = 0 → mj_I g 49 (bx a b c d e f) = nI x.2 → x.1 ≤ 1000 → FRX h g (spn a b c d e f) → Mn hs g → (∀ i, a ≤ i → i < I0 → ST g a i c d e f ∧ ST g (i + 1) b c d e f) → (∀ (g : mj_H) (x' : Nat × Nat), x' = fo (fun i => 2 + i - a) (fun i => (LV G a i c d e f).1 + (LV G (i + 1) b c d e f).1) n I0 x → CL g jm w G W → ME h g → mj_I g 48 (bx a b c d e f) = 0 → mj_I g 49 (bx a b c d e f) = nI x'.2 → x'.1 ≤ 1000 → FRX h g (spn a b c d e f) → Mn hs g → (∀ i, a ≤ i → i < b → ST g a i c d e f ∧ ST g (i + 1) b c d e f) → mx (8 + s) 145 163 [.ref 33, .int (nI a), .int (nI b), .int (nI c), .int (nI d), .int (nI e), .int (nI f), .int (nI (bx a b c d e f)), .int (nI N), .int (nI x'.1), .int (nI b)] [] g Q) → mx (8 + s) 145 104 [.ref 33, .int (nI a), .int (nI b), .int (nI c), .int (nI d), .int (nI e), .int (nI f), .int (nI (bx a b c d e f)), .int (nI N), .int (nI x.1), .int (nI I0)] [] g Q := by
  have hd5 : a ≤ 5 ∧ b ≤ 5 ∧ c ≤ 5 ∧ d ≤ 5 ∧ e ≤ 5 ∧ f ≤ 5 := by unfold BX at hB; omega
  have hB' := hB
  unfold BX at hB'
  intro n
  induction n with
  | zero =>
    intro i x g hi ha hC hE e48 e49 hx hX hM hPS K
    have hii : i = b := by omega
    subst hii
    refine x_iload f_145_104 rfl ?_
    refine x_iload_n f_145_106 rfl ?_
    refine x_icmpN_ge (t := 163) f_145_107 (by decide) (by omega) (by omega) (fun c_1 => ?_) (fun c_1 => by omega)
    exact K g x rfl hC hE e48 e49 hx hX hM hPS
  | succ n ih =>
    intro i x g hi ha hC hE e48 e49 hx hX hM hPS K
    have S : SM g := hC.1.1
    refine x_iload f_145_104 rfl ?_
    refine x_iload_n f_145_106 rfl ?_
    refine x_icmpN_ge (t := 163) f_145_107 (by decide) (by omega) (by omega) (fun c_1 => by omega) (fun c_1 => ?_)
    refine x_aload_n f_145_110 rfl ?_
    refine x_iload f_145_111 rfl ?_
    refine x_iload f_145_113 rfl ?_
    refine x_iconst (v := nI 2) f_145_115 (by decide) ?_
    refine x_iload f_145_116 rfl ?_
    refine x_iaddN f_145_118 ?_
    refine x_iload_n f_145_119 rfl ?_
    refine x_isubN f_145_120 (by omega) ?_
    refine x_aload_n f_145_121 rfl ?_
    refine x_iload_n f_145_122 rfl ?_
    refine x_iload f_145_123 rfl ?_
    refine x_iload_n f_145_125 rfl ?_
    refine x_iload f_145_126 rfl ?_
    refine x_iload f_145_128 rfl ?_
    refine x_iload f_145_130 rfl ?_
    refine x_callV f_145_132 (IH a i c d e f g (by unfold BX at hB ⊢; omega) (by unfold spn at hsp ⊢; omega) hC) (by omega) S.k33 (by decide) rfl rfl (Nat.le_of_ble_eq_true rfl) rfl ?_
    rintro _ g1 ⟨rfl, hC1, hE1, t1, _, hX1, hM1⟩
    have S : SM g1 := hC1.1.1
    refine x_aload_n f_145_135 rfl ?_
    refine x_iload f_145_136 rfl ?_
    refine x_iconst (v := nI 1) f_145_138 (by decide) ?_
    refine x_iaddN f_145_139 ?_
    refine x_iload_n f_145_140 rfl ?_
    refine x_iload_n f_145_141 rfl ?_
    refine x_iload f_145_142 rfl ?_
    refine x_iload f_145_144 rfl ?_
    refine x_iload f_145_146 rfl ?_
    refine x_callV f_145_148 (IH (i + 1) b c d e f g1 (by unfold BX at hB ⊢; omega) (by unfold spn at hsp ⊢; omega) hC1) (by omega) S.k33 (by decide) rfl rfl (Nat.le_of_ble_eq_true rfl) rfl ?_
    rintro _ g2 ⟨rfl, hC2, hE2, t2, _, hX2, hM2⟩
    have S : SM g2 := hC2.1.1
    have e48b : mj_I g2 48 (bx a b c d e f) = 0 := (hX2 a b c d e f hd5 (by unfold spn at hsp ⊢; omega)).1.trans ((hX1 a b c d e f hd5 (by unfold spn at hsp ⊢; omega)).1.trans e48)
    have e49b : mj_I g2 49 (bx a b c d e f) = nI x.2 := (hX2 a b c d e f hd5 (by unfold spn at hsp ⊢; omega)).2.trans ((hX1 a b c d e f hd5 (by unfold spn at hsp ⊢; omega)).2.trans e49)
    have u1 := LV_216 G (a := a) (b := i) (c := c) (d := d) (e := e) (f := f) (by omega) (by omega) (by omega) (by omega) (by omega) (by omega)
    have u2 := LV_216 G (a := (i + 1)) (b := b) (c := c) (d := d) (e := e) (f := f) (by omega) (by omega) (by omega) (by omega) (by omega) (by omega)
    have hn31 : (LV G a i c d e f).1 + (LV G (i + 1) b c d e f).1 < 2 ^ 31 := by omega
    have hx31 : x.1 < 2 ^ 31 := by omega
    refine x_iaddN f_145_151 ?_
    refine x_callVe f_145_152 (c_better hC2.1.1 (bx_lt hd5) hx31 hn31 e49b) (by omega) S.k33 (by decide) rfl rfl (Nat.le_of_ble_eq_true rfl) rfl ?_
    refine x_istore (ls1 := [.ref 33, .int (nI a), .int (nI b), .int (nI c), .int (nI d), .int (nI e), .int (nI f), .int (nI (bx a b c d e f)), .int (nI N), .int (nI ((bt (x.1, x.2) ((2 + i) - a) (((LV G a i c d e f).1) + ((LV G (i + 1) b c d e f).1))).1)), .int (nI i)]) f_145_155 (Nat.le_of_ble_eq_true rfl) rfl ?_
    refine x_iinc (v := nI (i + 1)) (ls1 := [.ref 33, .int (nI a), .int (nI b), .int (nI c), .int (nI d), .int (nI e), .int (nI f), .int (nI (bx a b c d e f)), .int (nI N), .int (nI ((bt (x.1, x.2) ((2 + i) - a) (((LV G a i c d e f).1) + ((LV G (i + 1) b c d e f).1))).1)), .int (nI (i + 1))]) f_145_157 rfl (by exact nI_add _ 1) rfl ?_
    refine x_goto (t := 104) f_145_160 (by decide) ?_
    refine ih (i + 1) (bt (x.1, x.2) ((2 + i) - a) (((LV G a i c d e f).1) + ((LV G (i + 1) b c d e f).1))) _ (by omega) (by omega) ?_ ?_ ?_ (mj_I_at _ _ _ _) ?_ ?_ ?_ ?_ ?_
    · exact hC2.to (MW_o hC2.1 (by decide)) ((ME.rf g2).set (Or.inr rfl)) (hC2.2.2.2.2.2.2.1.set49 e48b) (MC.eq (mj_I_other (by decide)) hC2.2.2.2.2.2.2.2)
    · exact ((hE.trans hE1).trans hE2).set (Or.inr rfl)
    · exact (congrFun (mj_I_other (by decide)) _).trans e48b
    · unfold bt; split <;> (dsimp only; omega)
    · exact ((hX.trans hX1 (by unfold spn at hsp ⊢; omega)).trans hX2 (by unfold spn at hsp ⊢; omega)).set hd5 (Or.inr rfl)
    · exact ((hM.trans hM1).trans hM2).trans (Mn.eq (mj_I_other (by decide)))
    · intro k k1 k2
      have e48s : mj_I (mj_setI g2 49 (bx a b c d e f) (nI (bt (x.1, x.2) ((2 + i) - a) (((LV G a i c d e f).1) + ((LV G (i + 1) b c d e f).1))).2)) 48 = mj_I g2 48 := mj_I_other (by decide)
      unfold ST
      rw [e48s]
      by_cases hk : k = i
      · subst hk
        refine ⟨hM2 _ ?_, ?_⟩
        · rw [t1]; exact nI_ne0 (LV_pos G _ _ _ _ _ _) (by omega)
        · rw [t2]; exact nI_ne0 (LV_pos G _ _ _ _ _ _) (by omega)
      · have q := hPS k k1 (by omega)
        exact ⟨hM2 _ (hM1 _ q.1), hM2 _ (hM1 _ q.2)⟩
    · intro g x' hx'
      exact K g x' (hx'.trans rfl)
set_option maxRecDepth 20000 in
set_option maxHeartbeats 4000000 in
theorem leaves_l1 {jm w s : Nat} {G : Gd} {W : Nat → Nat} (IH : LvP jm w G W s) {h hs : mj_H} {a b c d e f N : Nat} (hB : BX W a b c d e f) (hW5 : W 0 ≤ 5 ∧ W 1 ≤ 5 ∧ W 2 ≤ 5) (hsp : spn a b c d e f ≤ s + 1) {Q : Option Value → mj_H → Prop} :
    ∀ (n I0 : Nat) (x : Nat × Nat) (g : mj_H), I0 + n = d → c ≤ I0 → CL g jm w G W → ME h g → mj_I g 48 (bx a b c d e f) = 0 → mj_I g 49 (bx a b c d e f) = nI x.2 → x.1 ≤ 1000 → FRX h g (spn a b c d e f) → Mn hs g → (∀ i, c ≤ i → i < I0 → ST g a b c i e f ∧ ST g a b (i + 1) d e f) → (∀ (g : mj_H) (x' : Nat × Nat), x' = fo (fun i => 10 + i - c) (fun i => (LV G a b c i e f).1 + (LV G a b (i + 1) d e f).1) n I0 x → CL g jm w G W → ME h g → mj_I g 48 (bx a b c d e f) = 0 → mj_I g 49 (bx a b c d e f) = nI x'.2 → x'.1 ≤ 1000 → FRX h g (spn a b c d e f) → Mn hs g → (∀ i, c ≤ i → i < d → ST g a b c i e f ∧ ST g a b (i + 1) d e f) → mx (8 + s) 145 226 [.ref 33, .int (nI a), .int (nI b), .int (nI c), .int (nI d), .int (nI e), .int (nI f), .int (nI (bx a b c d e f)), .int (nI N), .int (nI x'.1), .int (nI d)] [] g Q) → mx (8 + s) 145 166 [.ref 33, .int (nI a), .int (nI b), .int (nI c), .int (nI d), .int (nI e), .int (nI f), .int (nI (bx a b c d e f)), .int (nI N), .int (nI x.1), .int (nI I0)] [] g Q := by
  have hd5 : a ≤ 5 ∧ b ≤ 5 ∧ c ≤ 5 ∧ d ≤ 5 ∧ e ≤ 5 ∧ f ≤ 5 := by unfold BX at hB; omega
  have hB' := hB
  unfold BX at hB'
  intro n
  induction n with
  | zero =>
    intro i x g hi ha hC hE e48 e49 hx hX hM hPS K
    have hii : i = d := by omega
    subst hii
    refine x_iload f_145_166 rfl ?_
    refine x_iload f_145_168 rfl ?_
    refine x_icmpN_ge (t := 226) f_145_170 (by decide) (by omega) (by omega) (fun c_1 => ?_) (fun c_1 => by omega)
    exact K g x rfl hC hE e48 e49 hx hX hM hPS
  | succ n ih =>
    intro i x g hi ha hC hE e48 e49 hx hX hM hPS K
    have S : SM g := hC.1.1
    refine x_iload f_145_166 rfl ?_
    refine x_iload f_145_168 rfl ?_
    refine x_icmpN_ge (t := 226) f_145_170 (by decide) (by omega) (by omega) (fun c_1 => by omega) (fun c_1 => ?_)
    refine x_aload_n f_145_173 rfl ?_
    refine x_iload f_145_174 rfl ?_
    refine x_iload f_145_176 rfl ?_
    refine x_bipush (v := nI 10) f_145_178 (by decide) ?_
    refine x_iload f_145_180 rfl ?_
    refine x_iaddN f_145_182 ?_
    refine x_iload_n f_145_183 rfl ?_
    refine x_isubN f_145_184 (by omega) ?_
    refine x_aload_n f_145_185 rfl ?_
    refine x_iload_n f_145_186 rfl ?_
    refine x_iload_n f_145_187 rfl ?_
    refine x_iload_n f_145_188 rfl ?_
    refine x_iload f_145_189 rfl ?_
    refine x_iload f_145_191 rfl ?_
    refine x_iload f_145_193 rfl ?_
    refine x_callV f_145_195 (IH a b c i e f g (by unfold BX at hB ⊢; omega) (by unfold spn at hsp ⊢; omega) hC) (by omega) S.k33 (by decide) rfl rfl (Nat.le_of_ble_eq_true rfl) rfl ?_
    rintro _ g1 ⟨rfl, hC1, hE1, t1, _, hX1, hM1⟩
    have S : SM g1 := hC1.1.1
    refine x_aload_n f_145_198 rfl ?_
    refine x_iload_n f_145_199 rfl ?_
    refine x_iload_n f_145_200 rfl ?_
    refine x_iload f_145_201 rfl ?_
    refine x_iconst (v := nI 1) f_145_203 (by decide) ?_
    refine x_iaddN f_145_204 ?_
    refine x_iload f_145_205 rfl ?_
    refine x_iload f_145_207 rfl ?_
    refine x_iload f_145_209 rfl ?_
    refine x_callV f_145_211 (IH a b (i + 1) d e f g1 (by unfold BX at hB ⊢; omega) (by unfold spn at hsp ⊢; omega) hC1) (by omega) S.k33 (by decide) rfl rfl (Nat.le_of_ble_eq_true rfl) rfl ?_
    rintro _ g2 ⟨rfl, hC2, hE2, t2, _, hX2, hM2⟩
    have S : SM g2 := hC2.1.1
    have e48b : mj_I g2 48 (bx a b c d e f) = 0 := (hX2 a b c d e f hd5 (by unfold spn at hsp ⊢; omega)).1.trans ((hX1 a b c d e f hd5 (by unfold spn at hsp ⊢; omega)).1.trans e48)
    have e49b : mj_I g2 49 (bx a b c d e f) = nI x.2 := (hX2 a b c d e f hd5 (by unfold spn at hsp ⊢; omega)).2.trans ((hX1 a b c d e f hd5 (by unfold spn at hsp ⊢; omega)).2.trans e49)
    have u1 := LV_216 G (a := a) (b := b) (c := c) (d := i) (e := e) (f := f) (by omega) (by omega) (by omega) (by omega) (by omega) (by omega)
    have u2 := LV_216 G (a := a) (b := b) (c := (i + 1)) (d := d) (e := e) (f := f) (by omega) (by omega) (by omega) (by omega) (by omega) (by omega)
    have hn31 : (LV G a b c i e f).1 + (LV G a b (i + 1) d e f).1 < 2 ^ 31 := by omega
    have hx31 : x.1 < 2 ^ 31 := by omega
    refine x_iaddN f_145_214 ?_
    refine x_callVe f_145_215 (c_better hC2.1.1 (bx_lt hd5) hx31 hn31 e49b) (by omega) S.k33 (by decide) rfl rfl (Nat.le_of_ble_eq_true rfl) rfl ?_
    refine x_istore (ls1 := [.ref 33, .int (nI a), .int (nI b), .int (nI c), .int (nI d), .int (nI e), .int (nI f), .int (nI (bx a b c d e f)), .int (nI N), .int (nI ((bt (x.1, x.2) ((10 + i) - c) (((LV G a b c i e f).1) + ((LV G a b (i + 1) d e f).1))).1)), .int (nI i)]) f_145_218 (Nat.le_of_ble_eq_true rfl) rfl ?_
    refine x_iinc (v := nI (i + 1)) (ls1 := [.ref 33, .int (nI a), .int (nI b), .int (nI c), .int (nI d), .int (nI e), .int (nI f), .int (nI (bx a b c d e f)), .int (nI N), .int (nI ((bt (x.1, x.2) ((10 + i) - c) (((LV G a b c i e f).1) + ((LV G a b (i + 1) d e f).1))).1)), .int (nI (i + 1))]) f_145_220 rfl (by exact nI_add _ 1) rfl ?_
    refine x_goto (t := 166) f_145_223 (by decide) ?_
    refine ih (i + 1) (bt (x.1, x.2) ((10 + i) - c) (((LV G a b c i e f).1) + ((LV G a b (i + 1) d e f).1))) _ (by omega) (by omega) ?_ ?_ ?_ (mj_I_at _ _ _ _) ?_ ?_ ?_ ?_ ?_
    · exact hC2.to (MW_o hC2.1 (by decide)) ((ME.rf g2).set (Or.inr rfl)) (hC2.2.2.2.2.2.2.1.set49 e48b) (MC.eq (mj_I_other (by decide)) hC2.2.2.2.2.2.2.2)
    · exact ((hE.trans hE1).trans hE2).set (Or.inr rfl)
    · exact (congrFun (mj_I_other (by decide)) _).trans e48b
    · unfold bt; split <;> (dsimp only; omega)
    · exact ((hX.trans hX1 (by unfold spn at hsp ⊢; omega)).trans hX2 (by unfold spn at hsp ⊢; omega)).set hd5 (Or.inr rfl)
    · exact ((hM.trans hM1).trans hM2).trans (Mn.eq (mj_I_other (by decide)))
    · intro k k1 k2
      have e48s : mj_I (mj_setI g2 49 (bx a b c d e f) (nI (bt (x.1, x.2) ((10 + i) - c) (((LV G a b c i e f).1) + ((LV G a b (i + 1) d e f).1))).2)) 48 = mj_I g2 48 := mj_I_other (by decide)
      unfold ST
      rw [e48s]
      by_cases hk : k = i
      · subst hk
        refine ⟨hM2 _ ?_, ?_⟩
        · rw [t1]; exact nI_ne0 (LV_pos G _ _ _ _ _ _) (by omega)
        · rw [t2]; exact nI_ne0 (LV_pos G _ _ _ _ _ _) (by omega)
      · have q := hPS k k1 (by omega)
        exact ⟨hM2 _ (hM1 _ q.1), hM2 _ (hM1 _ q.2)⟩
    · intro g x' hx'
      exact K g x' (hx'.trans rfl)
set_option maxRecDepth 20000 in
set_option maxHeartbeats 4000000 in
theorem leaves_l2 {jm w s : Nat} {G : Gd} {W : Nat → Nat} (IH : LvP jm w G W s) {h hs : mj_H} {a b c d e f N : Nat} (hB : BX W a b c d e f) (hW5 : W 0 ≤ 5 ∧ W 1 ≤ 5 ∧ W 2 ≤ 5) (hsp : spn a b c d e f ≤ s + 1) {Q : Option Value → mj_H → Prop} :
    ∀ (n I0 : Nat) (x : Nat × Nat) (g : mj_H), I0 + n = f → e ≤ I0 → CL g jm w G W → ME h g → mj_I g 48 (bx a b c d e f) = 0 → mj_I g 49 (bx a b c d e f) = nI x.2 → x.1 ≤ 1000 → FRX h g (spn a b c d e f) → Mn hs g → (∀ i, e ≤ i → i < I0 → ST g a b c d e i ∧ ST g a b c d (i + 1) f) → (∀ (g : mj_H) (x' : Nat × Nat), x' = fo (fun i => 18 + i - e) (fun i => (LV G a b c d e i).1 + (LV G a b c d (i + 1) f).1) n I0 x → CL g jm w G W → ME h g → mj_I g 48 (bx a b c d e f) = 0 → mj_I g 49 (bx a b c d e f) = nI x'.2 → x'.1 ≤ 1000 → FRX h g (spn a b c d e f) → Mn hs g → (∀ i, e ≤ i → i < f → ST g a b c d e i ∧ ST g a b c d (i + 1) f) → mx (8 + s) 145 290 [.ref 33, .int (nI a), .int (nI b), .int (nI c), .int (nI d), .int (nI e), .int (nI f), .int (nI (bx a b c d e f)), .int (nI N), .int (nI x'.1), .int (nI f)] [] g Q) → mx (8 + s) 145 230 [.ref 33, .int (nI a), .int (nI b), .int (nI c), .int (nI d), .int (nI e), .int (nI f), .int (nI (bx a b c d e f)), .int (nI N), .int (nI x.1), .int (nI I0)] [] g Q := by
  have hd5 : a ≤ 5 ∧ b ≤ 5 ∧ c ≤ 5 ∧ d ≤ 5 ∧ e ≤ 5 ∧ f ≤ 5 := by unfold BX at hB; omega
  have hB' := hB
  unfold BX at hB'
  intro n
  induction n with
  | zero =>
    intro i x g hi ha hC hE e48 e49 hx hX hM hPS K
    have hii : i = f := by omega
    subst hii
    refine x_iload f_145_230 rfl ?_
    refine x_iload f_145_232 rfl ?_
    refine x_icmpN_ge (t := 290) f_145_234 (by decide) (by omega) (by omega) (fun c_1 => ?_) (fun c_1 => by omega)
    exact K g x rfl hC hE e48 e49 hx hX hM hPS
  | succ n ih =>
    intro i x g hi ha hC hE e48 e49 hx hX hM hPS K
    have S : SM g := hC.1.1
    refine x_iload f_145_230 rfl ?_
    refine x_iload f_145_232 rfl ?_
    refine x_icmpN_ge (t := 290) f_145_234 (by decide) (by omega) (by omega) (fun c_1 => by omega) (fun c_1 => ?_)
    refine x_aload_n f_145_237 rfl ?_
    refine x_iload f_145_238 rfl ?_
    refine x_iload f_145_240 rfl ?_
    refine x_bipush (v := nI 18) f_145_242 (by decide) ?_
    refine x_iload f_145_244 rfl ?_
    refine x_iaddN f_145_246 ?_
    refine x_iload f_145_247 rfl ?_
    refine x_isubN f_145_249 (by omega) ?_
    refine x_aload_n f_145_250 rfl ?_
    refine x_iload_n f_145_251 rfl ?_
    refine x_iload_n f_145_252 rfl ?_
    refine x_iload_n f_145_253 rfl ?_
    refine x_iload f_145_254 rfl ?_
    refine x_iload f_145_256 rfl ?_
    refine x_iload f_145_258 rfl ?_
    refine x_callV f_145_260 (IH a b c d e i g (by unfold BX at hB ⊢; omega) (by unfold spn at hsp ⊢; omega) hC) (by omega) S.k33 (by decide) rfl rfl (Nat.le_of_ble_eq_true rfl) rfl ?_
    rintro _ g1 ⟨rfl, hC1, hE1, t1, _, hX1, hM1⟩
    have S : SM g1 := hC1.1.1
    refine x_aload_n f_145_263 rfl ?_
    refine x_iload_n f_145_264 rfl ?_
    refine x_iload_n f_145_265 rfl ?_
    refine x_iload_n f_145_266 rfl ?_
    refine x_iload f_145_267 rfl ?_
    refine x_iload f_145_269 rfl ?_
    refine x_iconst (v := nI 1) f_145_271 (by decide) ?_
    refine x_iaddN f_145_272 ?_
    refine x_iload f_145_273 rfl ?_
    refine x_callV f_145_275 (IH a b c d (i + 1) f g1 (by unfold BX at hB ⊢; omega) (by unfold spn at hsp ⊢; omega) hC1) (by omega) S.k33 (by decide) rfl rfl (Nat.le_of_ble_eq_true rfl) rfl ?_
    rintro _ g2 ⟨rfl, hC2, hE2, t2, _, hX2, hM2⟩
    have S : SM g2 := hC2.1.1
    have e48b : mj_I g2 48 (bx a b c d e f) = 0 := (hX2 a b c d e f hd5 (by unfold spn at hsp ⊢; omega)).1.trans ((hX1 a b c d e f hd5 (by unfold spn at hsp ⊢; omega)).1.trans e48)
    have e49b : mj_I g2 49 (bx a b c d e f) = nI x.2 := (hX2 a b c d e f hd5 (by unfold spn at hsp ⊢; omega)).2.trans ((hX1 a b c d e f hd5 (by unfold spn at hsp ⊢; omega)).2.trans e49)
    have u1 := LV_216 G (a := a) (b := b) (c := c) (d := d) (e := e) (f := i) (by omega) (by omega) (by omega) (by omega) (by omega) (by omega)
    have u2 := LV_216 G (a := a) (b := b) (c := c) (d := d) (e := (i + 1)) (f := f) (by omega) (by omega) (by omega) (by omega) (by omega) (by omega)
    have hn31 : (LV G a b c d e i).1 + (LV G a b c d (i + 1) f).1 < 2 ^ 31 := by omega
    have hx31 : x.1 < 2 ^ 31 := by omega
    refine x_iaddN f_145_278 ?_
    refine x_callVe f_145_279 (c_better hC2.1.1 (bx_lt hd5) hx31 hn31 e49b) (by omega) S.k33 (by decide) rfl rfl (Nat.le_of_ble_eq_true rfl) rfl ?_
    refine x_istore (ls1 := [.ref 33, .int (nI a), .int (nI b), .int (nI c), .int (nI d), .int (nI e), .int (nI f), .int (nI (bx a b c d e f)), .int (nI N), .int (nI ((bt (x.1, x.2) ((18 + i) - e) (((LV G a b c d e i).1) + ((LV G a b c d (i + 1) f).1))).1)), .int (nI i)]) f_145_282 (Nat.le_of_ble_eq_true rfl) rfl ?_
    refine x_iinc (v := nI (i + 1)) (ls1 := [.ref 33, .int (nI a), .int (nI b), .int (nI c), .int (nI d), .int (nI e), .int (nI f), .int (nI (bx a b c d e f)), .int (nI N), .int (nI ((bt (x.1, x.2) ((18 + i) - e) (((LV G a b c d e i).1) + ((LV G a b c d (i + 1) f).1))).1)), .int (nI (i + 1))]) f_145_284 rfl (by exact nI_add _ 1) rfl ?_
    refine x_goto (t := 230) f_145_287 (by decide) ?_
    refine ih (i + 1) (bt (x.1, x.2) ((18 + i) - e) (((LV G a b c d e i).1) + ((LV G a b c d (i + 1) f).1))) _ (by omega) (by omega) ?_ ?_ ?_ (mj_I_at _ _ _ _) ?_ ?_ ?_ ?_ ?_
    · exact hC2.to (MW_o hC2.1 (by decide)) ((ME.rf g2).set (Or.inr rfl)) (hC2.2.2.2.2.2.2.1.set49 e48b) (MC.eq (mj_I_other (by decide)) hC2.2.2.2.2.2.2.2)
    · exact ((hE.trans hE1).trans hE2).set (Or.inr rfl)
    · exact (congrFun (mj_I_other (by decide)) _).trans e48b
    · unfold bt; split <;> (dsimp only; omega)
    · exact ((hX.trans hX1 (by unfold spn at hsp ⊢; omega)).trans hX2 (by unfold spn at hsp ⊢; omega)).set hd5 (Or.inr rfl)
    · exact ((hM.trans hM1).trans hM2).trans (Mn.eq (mj_I_other (by decide)))
    · intro k k1 k2
      have e48s : mj_I (mj_setI g2 49 (bx a b c d e f) (nI (bt (x.1, x.2) ((18 + i) - e) (((LV G a b c d e i).1) + ((LV G a b c d (i + 1) f).1))).2)) 48 = mj_I g2 48 := mj_I_other (by decide)
      unfold ST
      rw [e48s]
      by_cases hk : k = i
      · subst hk
        refine ⟨hM2 _ ?_, ?_⟩
        · rw [t1]; exact nI_ne0 (LV_pos G _ _ _ _ _ _) (by omega)
        · rw [t2]; exact nI_ne0 (LV_pos G _ _ _ _ _ _) (by omega)
      · have q := hPS k k1 (by omega)
        exact ⟨hM2 _ (hM1 _ q.1), hM2 _ (hM1 _ q.2)⟩
    · intro g x' hx'
      exact K g x' (hx'.trans rfl)
