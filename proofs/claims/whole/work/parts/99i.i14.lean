/-! MAKING: the constructors -/
/-- rows made one after the other and put into fields of q: field, kind, length -/
def mkR (h : mj_H) (q : Nat) : List (Nat × Nat × Nat) → mj_H
  | [] => h
  | e :: l => mkR (mj_setR (mj_new h e.2.1 e.2.2) q e.1 (some h.1)) q l
def mkO (h : mj_H) (q f k n : Nat) (l : List (Nat × Nat × Nat)) : mj_H := mj_setR (mkR (mj_new h k n) h.1 l) q f (some h.1)
theorem Kn {h : mj_H} {x k n : Nat} {v : Nat × Nat} (hx : x < h.1) (e : mj_K h x = v) : mj_K (mj_new h k n) x = v := (mj_K_new (Nat.ne_of_lt hx)).trans e
theorem Ksn {h : mj_H} {x k n q f : Nat} {y : Option Nat} {v : Nat × Nat} (hx : x < h.1) (e : mj_K h x = v) : mj_K (mj_setR (mj_new h k n) q f y) x = v := Kn hx e
theorem mkR_1 : ∀ (l : List (Nat × Nat × Nat)) (h : mj_H) (q : Nat), (mkR h q l).1 = h.1 + l.length
  | [], _, _ => rfl
  | e :: l, h, q => by
    have := mkR_1 l (mj_setR (mj_new h e.2.1 e.2.2) q e.1 (some h.1)) q
    show (mkR (mj_setR (mj_new h e.2.1 e.2.2) q e.1 (some h.1)) q l).1 = _
    rw [this, List.length_cons]
    show h.1 + 1 + _ = _
    omega
theorem mkR_lt (l : List (Nat × Nat × Nat)) {h : mj_H} (q : Nat) {x : Nat} (hx : x < h.1) : x < (mkR h q l).1 := by rw [mkR_1]; omega
theorem mkR_K : ∀ (l : List (Nat × Nat × Nat)) {h : mj_H} (q : Nat) {x : Nat} {v : Nat × Nat}, x < h.1 → mj_K h x = v → mj_K (mkR h q l) x = v
  | [], _, _, _, _, _, e => e
  | _ :: l, _, q, _, _, hx, e => mkR_K l q (Nat.lt_succ_of_lt hx) (Ksn hx e)
theorem Ko {h : mj_H} {x k n : Nat} {l : List (Nat × Nat × Nat)} {v : Nat × Nat} (hx : x < h.1) (e : mj_K h x = v) : mj_K (mkR (mj_new h k n) h.1 l) x = v := mkR_K l _ (Nat.lt_succ_of_lt hx) (Kn hx e)
theorem Kos {h : mj_H} {x k n q f : Nat} {l : List (Nat × Nat × Nat)} {v : Nat × Nat} (hx : x < h.1) (e : mj_K h x = v) : mj_K (mkO h q f k n l) x = v := Ko hx e
theorem lto {h : mj_H} {x k n q f : Nat} {l : List (Nat × Nat × Nat)} (hx : x < h.1) : x < (mkO h q f k n l).1 := mkR_lt l _ (Nat.lt_succ_of_lt hx)
/-- what making leaves alone: the first eight cells; all ints made are 0 -/
def MK (h0 h : mj_H) : Prop := 8 ≤ h.1 ∧ (∀ a, a < 8 → mj_K h a = mj_K h0 a ∧ mj_I h a = mj_I h0 a) ∧ ∀ a i, 8 ≤ a → a < h.1 → mj_I h a i = 0
theorem MK.new {h0 h : mj_H} (m : MK h0 h) (k n : Nat) : MK h0 (mj_new h k n) := by
  obtain ⟨m1, m2, m3⟩ := m
  refine ⟨Nat.le_succ_of_le m1, fun a ha => ?_, fun a i h8 hl => ?_⟩
  · rw [mj_K_new (by omega), mj_I_new (by omega)]; exact m2 a ha
  · by_cases e : a = h.1
    · rw [e]; exact mj_I_newA _ _ _ _
    · rw [mj_I_new e]
      have hl : a < h.1 + 1 := hl
      exact m3 a i h8 (by omega)
theorem MK.setR {h0 h : mj_H} (m : MK h0 h) (q f : Nat) (y : Option Nat) : MK h0 (mj_setR h q f y) := m
theorem MK.mkR {h0 : mj_H} : ∀ (l : List (Nat × Nat × Nat)) {h : mj_H} (q : Nat), MK h0 h → MK h0 (mkR h q l)
  | [], _, _, m => m
  | e :: l, _, q, m => MK.mkR l q ((m.new e.2.1 e.2.2).setR q e.1 _)
theorem MK.mkO {h0 h : mj_H} (m : MK h0 h) (q f k n : Nat) (l : List (Nat × Nat × Nat)) : MK h0 (mkO h q f k n l) := MK.mkR l _ (m.new k n)
theorem f_113_0 : mj_fetch 113 0 = some (.aload_n 0, 0, 0) := by decide +kernel
theorem f_113_1 : mj_fetch 113 1 = some (.invokespecial 1, 0, 1) := by decide +kernel
theorem f_113_4 : mj_fetch 113 4 = some (.aload_n 0, 0, 0) := by decide +kernel
theorem f_113_5 : mj_fetch 113 5 = some (.bipush 48, 0, 0) := by decide +kernel
theorem f_113_7 : mj_fetch 113 7 = some (.newarray .int, 12, 0) := by decide +kernel
theorem f_113_9 : mj_fetch 113 9 = some (.putfield 9, 11, 2) := by decide +kernel
theorem f_113_12 : mj_fetch 113 12 = some (.aload_n 0, 0, 0) := by decide +kernel
theorem f_113_13 : mj_fetch 113 13 = some (.bipush 36, 0, 0) := by decide +kernel
theorem f_113_15 : mj_fetch 113 15 = some (.newarray .boolean, 14, 0) := by decide +kernel
theorem f_113_17 : mj_fetch 113 17 = some (.putfield 13, 11, 3) := by decide +kernel
theorem f_113_20 : mj_fetch 113 20 = some (.aload_n 0, 0, 0) := by decide +kernel
theorem f_113_21 : mj_fetch 113 21 = some (.sipush 180, 0, 0) := by decide +kernel
theorem f_113_24 : mj_fetch 113 24 = some (.newarray .int, 12, 0) := by decide +kernel
theorem f_113_26 : mj_fetch 113 26 = some (.putfield 17, 11, 4) := by decide +kernel
theorem f_113_29 : mj_fetch 113 29 = some (.aload_n 0, 0, 0) := by decide +kernel
theorem f_113_30 : mj_fetch 113 30 = some (.bipush 20, 0, 0) := by decide +kernel
theorem f_113_32 : mj_fetch 113 32 = some (.newarray .int, 12, 0) := by decide +kernel
theorem f_113_34 : mj_fetch 113 34 = some (.putfield 20, 11, 5) := by decide +kernel
theorem f_113_37 : mj_fetch 113 37 = some (.aload_n 0, 0, 0) := by decide +kernel
theorem f_113_38 : mj_fetch 113 38 = some (.bipush 20, 0, 0) := by decide +kernel
theorem f_113_40 : mj_fetch 113 40 = some (.newarray .int, 12, 0) := by decide +kernel
theorem f_113_42 : mj_fetch 113 42 = some (.putfield 23, 11, 6) := by decide +kernel
theorem f_113_45 : mj_fetch 113 45 = some (.aload_n 0, 0, 0) := by decide +kernel
theorem f_113_46 : mj_fetch 113 46 = some (.bipush 6, 0, 0) := by decide +kernel
theorem f_113_48 : mj_fetch 113 48 = some (.newarray .int, 12, 0) := by decide +kernel
theorem f_113_50 : mj_fetch 113 50 = some (.putfield 26, 11, 9) := by decide +kernel
theorem f_113_53 : mj_fetch 113 53 = some (.aload_n 0, 0, 0) := by decide +kernel
theorem f_113_54 : mj_fetch 113 54 = some (.bipush 6, 0, 0) := by decide +kernel
theorem f_113_56 : mj_fetch 113 56 = some (.newarray .int, 12, 0) := by decide +kernel
theorem f_113_58 : mj_fetch 113 58 = some (.putfield 29, 11, 10) := by decide +kernel
theorem f_113_61 : mj_fetch 113 61 = some (.aload_n 0, 0, 0) := by decide +kernel
theorem f_113_62 : mj_fetch 113 62 = some (.bipush 6, 0, 0) := by decide +kernel
theorem f_113_64 : mj_fetch 113 64 = some (.newarray .int, 12, 0) := by decide +kernel
theorem f_113_66 : mj_fetch 113 66 = some (.putfield 32, 11, 11) := by decide +kernel
theorem f_113_69 : mj_fetch 113 69 = some (.aload_n 0, 0, 0) := by decide +kernel
theorem f_113_70 : mj_fetch 113 70 = some (.bipush 6, 0, 0) := by decide +kernel
theorem f_113_72 : mj_fetch 113 72 = some (.newarray .int, 12, 0) := by decide +kernel
theorem f_113_74 : mj_fetch 113 74 = some (.putfield 35, 11, 12) := by decide +kernel
theorem f_113_77 : mj_fetch 113 77 = some (.aload_n 0, 0, 0) := by decide +kernel
theorem f_113_78 : mj_fetch 113 78 = some (.bipush 6, 0, 0) := by decide +kernel
theorem f_113_80 : mj_fetch 113 80 = some (.newarray .int, 12, 0) := by decide +kernel
theorem f_113_82 : mj_fetch 113 82 = some (.putfield 38, 11, 13) := by decide +kernel
theorem f_113_85 : mj_fetch 113 85 = some (.aload_n 0, 0, 0) := by decide +kernel
theorem f_113_86 : mj_fetch 113 86 = some (.sipush 14580, 0, 0) := by decide +kernel
theorem f_113_89 : mj_fetch 113 89 = some (.newarray .int, 12, 0) := by decide +kernel
theorem f_113_91 : mj_fetch 113 91 = some (.putfield 41, 11, 16) := by decide +kernel
theorem f_113_94 : mj_fetch 113 94 = some (.aload_n 0, 0, 0) := by decide +kernel
theorem f_113_95 : mj_fetch 113 95 = some (.bipush 10, 0, 0) := by decide +kernel
theorem f_113_97 : mj_fetch 113 97 = some (.newarray .int, 12, 0) := by decide +kernel
theorem f_113_99 : mj_fetch 113 99 = some (.putfield 44, 11, 18) := by decide +kernel
theorem f_113_102 : mj_fetch 113 102 = some (.aload_n 0, 0, 0) := by decide +kernel
theorem f_113_103 : mj_fetch 113 103 = some (.bipush 30, 0, 0) := by decide +kernel
theorem f_113_105 : mj_fetch 113 105 = some (.newarray .int, 12, 0) := by decide +kernel
theorem f_113_107 : mj_fetch 113 107 = some (.putfield 47, 11, 19) := by decide +kernel
theorem f_113_110 : mj_fetch 113 110 = some (.aload_n 0, 0, 0) := by decide +kernel
theorem f_113_111 : mj_fetch 113 111 = some (.bipush 30, 0, 0) := by decide +kernel
theorem f_113_113 : mj_fetch 113 113 = some (.newarray .int, 12, 0) := by decide +kernel
theorem f_113_115 : mj_fetch 113 115 = some (.putfield 50, 11, 20) := by decide +kernel
theorem f_113_118 : mj_fetch 113 118 = some (.aload_n 0, 0, 0) := by decide +kernel
theorem f_113_119 : mj_fetch 113 119 = some (.ldc 53, 46656, 0) := by decide +kernel
theorem f_113_121 : mj_fetch 113 121 = some (.newarray .int, 12, 0) := by decide +kernel
theorem f_113_123 : mj_fetch 113 123 = some (.putfield 54, 11, 23) := by decide +kernel
theorem f_113_126 : mj_fetch 113 126 = some (.aload_n 0, 0, 0) := by decide +kernel
theorem f_113_127 : mj_fetch 113 127 = some (.ldc 53, 46656, 0) := by decide +kernel
theorem f_113_129 : mj_fetch 113 129 = some (.newarray .int, 12, 0) := by decide +kernel
theorem f_113_131 : mj_fetch 113 131 = some (.putfield 57, 11, 24) := by decide +kernel
theorem f_113_134 : mj_fetch 113 134 = some (.aload_n 0, 0, 0) := by decide +kernel
theorem f_113_135 : mj_fetch 113 135 = some (.sipush 500, 0, 0) := by decide +kernel
theorem f_113_138 : mj_fetch 113 138 = some (.newarray .int, 12, 0) := by decide +kernel
theorem f_113_140 : mj_fetch 113 140 = some (.putfield 60, 11, 25) := by decide +kernel
theorem f_113_143 : mj_fetch 113 143 = some (.aload_n 0, 0, 0) := by decide +kernel
theorem f_113_144 : mj_fetch 113 144 = some (.sipush 500, 0, 0) := by decide +kernel
theorem f_113_147 : mj_fetch 113 147 = some (.newarray .int, 12, 0) := by decide +kernel
theorem f_113_149 : mj_fetch 113 149 = some (.putfield 63, 11, 27) := by decide +kernel
theorem f_113_152 : mj_fetch 113 152 = some (.aload_n 0, 0, 0) := by decide +kernel
theorem f_113_153 : mj_fetch 113 153 = some (.bipush 60, 0, 0) := by decide +kernel
theorem f_113_155 : mj_fetch 113 155 = some (.newarray .int, 12, 0) := by decide +kernel
theorem f_113_157 : mj_fetch 113 157 = some (.putfield 66, 11, 34) := by decide +kernel
theorem f_113_160 : mj_fetch 113 160 = some (.aload_n 0, 0, 0) := by decide +kernel
theorem f_113_161 : mj_fetch 113 161 = some (.bipush 60, 0, 0) := by decide +kernel
theorem f_113_163 : mj_fetch 113 163 = some (.newarray .int, 12, 0) := by decide +kernel
theorem f_113_165 : mj_fetch 113 165 = some (.putfield 69, 11, 35) := by decide +kernel
theorem f_113_168 : mj_fetch 113 168 = some (.aload_n 0, 0, 0) := by decide +kernel
theorem f_113_169 : mj_fetch 113 169 = some (.bipush 60, 0, 0) := by decide +kernel
theorem f_113_171 : mj_fetch 113 171 = some (.newarray .int, 12, 0) := by decide +kernel
theorem f_113_173 : mj_fetch 113 173 = some (.putfield 72, 11, 36) := by decide +kernel
theorem f_113_176 : mj_fetch 113 176 = some (.aload_n 0, 0, 0) := by decide +kernel
theorem f_113_177 : mj_fetch 113 177 = some (.bipush 100, 0, 0) := by decide +kernel
theorem f_113_179 : mj_fetch 113 179 = some (.newarray .int, 12, 0) := by decide +kernel
theorem f_113_181 : mj_fetch 113 181 = some (.putfield 75, 11, 37) := by decide +kernel
theorem f_113_184 : mj_fetch 113 184 = some (.aload_n 0, 0, 0) := by decide +kernel
theorem f_113_185 : mj_fetch 113 185 = some (.bipush 100, 0, 0) := by decide +kernel
theorem f_113_187 : mj_fetch 113 187 = some (.newarray .boolean, 14, 0) := by decide +kernel
theorem f_113_189 : mj_fetch 113 189 = some (.putfield 78, 11, 38) := by decide +kernel
theorem f_113_192 : mj_fetch 113 192 = some (.aload_n 0, 0, 0) := by decide +kernel
theorem f_113_193 : mj_fetch 113 193 = some (.bipush 100, 0, 0) := by decide +kernel
theorem f_113_195 : mj_fetch 113 195 = some (.newarray .int, 12, 0) := by decide +kernel
theorem f_113_197 : mj_fetch 113 197 = some (.putfield 81, 11, 39) := by decide +kernel
theorem f_113_200 : mj_fetch 113 200 = some (.aload_n 0, 0, 0) := by decide +kernel
theorem f_113_201 : mj_fetch 113 201 = some (.bipush 8, 0, 0) := by decide +kernel
theorem f_113_203 : mj_fetch 113 203 = some (.newarray .int, 12, 0) := by decide +kernel
theorem f_113_205 : mj_fetch 113 205 = some (.putfield 84, 11, 42) := by decide +kernel
theorem f_113_208 : mj_fetch 113 208 = some (.aload_n 0, 0, 0) := by decide +kernel
theorem f_113_209 : mj_fetch 113 209 = some (.bipush 8, 0, 0) := by decide +kernel
theorem f_113_211 : mj_fetch 113 211 = some (.newarray .int, 12, 0) := by decide +kernel
theorem f_113_213 : mj_fetch 113 213 = some (.putfield 87, 11, 43) := by decide +kernel
theorem f_113_216 : mj_fetch 113 216 = some (.aload_n 0, 0, 0) := by decide +kernel
theorem f_113_217 : mj_fetch 113 217 = some (.bipush 8, 0, 0) := by decide +kernel
theorem f_113_219 : mj_fetch 113 219 = some (.newarray .int, 12, 0) := by decide +kernel
theorem f_113_221 : mj_fetch 113 221 = some (.putfield 90, 11, 44) := by decide +kernel
theorem f_113_224 : mj_fetch 113 224 = some (.aload_n 0, 0, 0) := by decide +kernel
theorem f_113_225 : mj_fetch 113 225 = some (.bipush 8, 0, 0) := by decide +kernel
theorem f_113_227 : mj_fetch 113 227 = some (.newarray .int, 12, 0) := by decide +kernel
theorem f_113_229 : mj_fetch 113 229 = some (.putfield 93, 11, 45) := by decide +kernel
theorem f_113_232 : mj_fetch 113 232 = some (.iconst 0, 0, 0) := by decide +kernel
theorem f_113_233 : mj_fetch 113 233 = some (.istore_n 1, 0, 0) := by decide +kernel
theorem f_113_234 : mj_fetch 113 234 = some (.iload_n 1, 0, 0) := by decide +kernel
theorem f_113_235 : mj_fetch 113 235 = some (.sipush 14580, 0, 0) := by decide +kernel
theorem f_113_238 : mj_fetch 113 238 = some (.if_icmp .ge 16, 0, 0) := by decide +kernel
theorem f_113_241 : mj_fetch 113 241 = some (.aload_n 0, 0, 0) := by decide +kernel
theorem f_113_242 : mj_fetch 113 242 = some (.getfield 41, 11, 16) := by decide +kernel
theorem f_113_245 : mj_fetch 113 245 = some (.iload_n 1, 0, 0) := by decide +kernel
theorem f_113_246 : mj_fetch 113 246 = some (.iconst (-1), 0, 0) := by decide +kernel
theorem f_113_247 : mj_fetch 113 247 = some (.iastore, 0, 0) := by decide +kernel
theorem f_113_248 : mj_fetch 113 248 = some (.iinc 1 1, 0, 0) := by decide +kernel
theorem f_113_251 : mj_fetch 113 251 = some (.goto (-17), 0, 0) := by decide +kernel
theorem f_113_254 : mj_fetch 113 254 = some (.return_, 0, 0) := by decide +kernel
set_option maxRecDepth 20000 in
theorem k_i0 {h : mj_H} {q : Nat} (hK : mj_K h q = (0, 9)) (hq : q < h.1) : mxc 0 0 [.ref q] h (fun r h' => r = none ∧ h' = mkR h q [(0, 12, 6), (1, 12, 6), (2, 12, 6), (3, 12, 6)]) := by
  show mx 0 0 0 [.ref q] [] h _
  refine x_aload_n f_0_0 rfl ?_
  refine x_init f_0_1 (by decide) ?_
  refine x_aload_n f_0_4 rfl ?_
  refine x_bipush (v := nI 6) f_0_5 (by decide) ?_
  refine x_newa f_0_7 (by decide) ?_
  refine x_putR f_0_9 (Kn (Nat.lt_add_right 0 hq) hK) (by decide) ?_
  refine x_aload_n f_0_12 rfl ?_
  refine x_bipush (v := nI 6) f_0_13 (by decide) ?_
  refine x_newa f_0_15 (by decide) ?_
  refine x_putR f_0_17 (Kn (Nat.lt_add_right 1 hq) (Ksn (Nat.lt_add_right 0 hq) hK)) (by decide) ?_
  refine x_aload_n f_0_20 rfl ?_
  refine x_bipush (v := nI 6) f_0_21 (by decide) ?_
  refine x_newa f_0_23 (by decide) ?_
  refine x_putR f_0_25 (Kn (Nat.lt_add_right 2 hq) (Ksn (Nat.lt_add_right 1 hq) (Ksn (Nat.lt_add_right 0 hq) hK))) (by decide) ?_
  refine x_aload_n f_0_28 rfl ?_
  refine x_bipush (v := nI 6) f_0_29 (by decide) ?_
  refine x_newa f_0_31 (by decide) ?_
  refine x_putR f_0_33 (Kn (Nat.lt_add_right 3 hq) (Ksn (Nat.lt_add_right 2 hq) (Ksn (Nat.lt_add_right 1 hq) (Ksn (Nat.lt_add_right 0 hq) hK)))) (by decide) ?_
  exact x_retV f_0_36 rfl ⟨rfl, rfl⟩
set_option maxRecDepth 20000 in
theorem k_i1 {h : mj_H} {q : Nat} (hK : mj_K h q = (1, 7)) (hq : q < h.1) : mxc 0 11 [.ref q] h (fun r h' => r = none ∧ h' = mkR h q [(0, 16, 60), (1, 12, 60), (2, 12, 100), (3, 12, 100), (4, 12, 100)]) := by
  show mx 0 11 0 [.ref q] [] h _
  refine x_aload_n f_11_0 rfl ?_
  refine x_init f_11_1 (by decide) ?_
  refine x_aload_n f_11_4 rfl ?_
  refine x_bipush (v := nI 60) f_11_5 (by decide) ?_
  refine x_newr f_11_7 (by decide) ?_
  refine x_putR f_11_10 (Kn (Nat.lt_add_right 0 hq) hK) (by decide) ?_
  refine x_aload_n f_11_13 rfl ?_
  refine x_bipush (v := nI 60) f_11_14 (by decide) ?_
  refine x_newa f_11_16 (by decide) ?_
  refine x_putR f_11_18 (Kn (Nat.lt_add_right 1 hq) (Ksn (Nat.lt_add_right 0 hq) hK)) (by decide) ?_
  refine x_aload_n f_11_21 rfl ?_
  refine x_bipush (v := nI 100) f_11_22 (by decide) ?_
  refine x_newa f_11_24 (by decide) ?_
  refine x_putR f_11_26 (Kn (Nat.lt_add_right 2 hq) (Ksn (Nat.lt_add_right 1 hq) (Ksn (Nat.lt_add_right 0 hq) hK))) (by decide) ?_
  refine x_aload_n f_11_29 rfl ?_
  refine x_bipush (v := nI 100) f_11_30 (by decide) ?_
  refine x_newa f_11_32 (by decide) ?_
  refine x_putR f_11_34 (Kn (Nat.lt_add_right 3 hq) (Ksn (Nat.lt_add_right 2 hq) (Ksn (Nat.lt_add_right 1 hq) (Ksn (Nat.lt_add_right 0 hq) hK)))) (by decide) ?_
  refine x_aload_n f_11_37 rfl ?_
  refine x_bipush (v := nI 100) f_11_38 (by decide) ?_
  refine x_newa f_11_40 (by decide) ?_
  refine x_putR f_11_42 (Kn (Nat.lt_add_right 4 hq) (Ksn (Nat.lt_add_right 3 hq) (Ksn (Nat.lt_add_right 2 hq) (Ksn (Nat.lt_add_right 1 hq) (Ksn (Nat.lt_add_right 0 hq) hK))))) (by decide) ?_
  exact x_retV f_11_45 rfl ⟨rfl, rfl⟩
set_option maxRecDepth 20000 in
theorem k_i2 {h : mj_H} {q : Nat} (hK : mj_K h q = (2, 8)) (hq : q < h.1) : mxc 0 19 [.ref q] h (fun r h' => r = none ∧ h' = mkR h q [(0, 12, 8), (1, 12, 8), (2, 12, 8), (3, 12, 64)]) := by
  show mx 0 19 0 [.ref q] [] h _
  refine x_aload_n f_19_0 rfl ?_
  refine x_init f_19_1 (by decide) ?_
  refine x_aload_n f_19_4 rfl ?_
  refine x_bipush (v := nI 8) f_19_5 (by decide) ?_
  refine x_newa f_19_7 (by decide) ?_
  refine x_putR f_19_9 (Kn (Nat.lt_add_right 0 hq) hK) (by decide) ?_
  refine x_aload_n f_19_12 rfl ?_
  refine x_bipush (v := nI 8) f_19_13 (by decide) ?_
  refine x_newa f_19_15 (by decide) ?_
  refine x_putR f_19_17 (Kn (Nat.lt_add_right 1 hq) (Ksn (Nat.lt_add_right 0 hq) hK)) (by decide) ?_
  refine x_aload_n f_19_20 rfl ?_
  refine x_bipush (v := nI 8) f_19_21 (by decide) ?_
  refine x_newa f_19_23 (by decide) ?_
  refine x_putR f_19_25 (Kn (Nat.lt_add_right 2 hq) (Ksn (Nat.lt_add_right 1 hq) (Ksn (Nat.lt_add_right 0 hq) hK))) (by decide) ?_
  refine x_aload_n f_19_28 rfl ?_
  refine x_bipush (v := nI 64) f_19_29 (by decide) ?_
  refine x_newa f_19_31 (by decide) ?_
  refine x_putR f_19_33 (Kn (Nat.lt_add_right 3 hq) (Ksn (Nat.lt_add_right 2 hq) (Ksn (Nat.lt_add_right 1 hq) (Ksn (Nat.lt_add_right 0 hq) hK)))) (by decide) ?_
  exact x_retV f_19_36 rfl ⟨rfl, rfl⟩
set_option maxRecDepth 20000 in
theorem k_i7 {h : mj_H} {q : Nat} (hK : mj_K h q = (7, 2)) (hq : q < h.1) : mxc 0 52 [.ref q] h (fun r h' => r = none ∧ h' = mkR h q [(0, 12, 500)]) := by
  show mx 0 52 0 [.ref q] [] h _
  refine x_aload_n f_52_0 rfl ?_
  refine x_init f_52_1 (by decide) ?_
  refine x_aload_n f_52_4 rfl ?_
  refine x_sipush (v := nI 500) f_52_5 (by decide) ?_
  refine x_newa f_52_8 (by decide) ?_
  refine x_putR f_52_10 (Kn (Nat.lt_add_right 0 hq) hK) (by decide) ?_
  exact x_retV f_52_13 rfl ⟨rfl, rfl⟩
set_option maxRecDepth 20000 in
theorem k_i8 {h : mj_H} {q : Nat} (hK : mj_K h q = (8, 5)) (hq : q < h.1) : mxc 0 58 [.ref q] h (fun r h' => r = none ∧ h' = mkR h q [(0, 12, 16), (1, 12, 16)]) := by
  show mx 0 58 0 [.ref q] [] h _
  refine x_aload_n f_58_0 rfl ?_
  refine x_init f_58_1 (by decide) ?_
  refine x_aload_n f_58_4 rfl ?_
  refine x_bipush (v := nI 16) f_58_5 (by decide) ?_
  refine x_newa f_58_7 (by decide) ?_
  refine x_putR f_58_9 (Kn (Nat.lt_add_right 0 hq) hK) (by decide) ?_
  refine x_aload_n f_58_12 rfl ?_
  refine x_bipush (v := nI 16) f_58_13 (by decide) ?_
  refine x_newa f_58_15 (by decide) ?_
  refine x_putR f_58_17 (Kn (Nat.lt_add_right 1 hq) (Ksn (Nat.lt_add_right 0 hq) hK)) (by decide) ?_
  exact x_retV f_58_20 rfl ⟨rfl, rfl⟩
/-- the class's object and all that it makes -/
def mkC (h : mj_H) (q : Nat) : mj_H := mkO (mkO (mkO (mkO (mkO (mkR h q [(0, 17, 6), (1, 15, 20), (2, 18, 10)]) q 3 0 9 [(0, 12, 6), (1, 12, 6), (2, 12, 6), (3, 12, 6)]) q 4 8 5 [(0, 12, 16), (1, 12, 16)]) q 5 7 2 [(0, 12, 500)]) q 6 1 7 [(0, 16, 60), (1, 12, 60), (2, 12, 100), (3, 12, 100), (4, 12, 100)]) q 7 2 8 [(0, 12, 8), (1, 12, 8), (2, 12, 8), (3, 12, 64)]
set_option maxRecDepth 20000 in
theorem k_i10 {h : mj_H} {q : Nat} (hK : mj_K h q = (10, 13)) (hq : q < h.1) : mxc 1 67 [.ref q] h (fun r h' => r = none ∧ h' = mkC h q) := by
  show mx 1 67 0 [.ref q] [] h _
  refine x_aload_n f_67_0 rfl ?_
  refine x_init f_67_1 (by decide) ?_
  refine x_aload_n f_67_4 rfl ?_
  refine x_bipush (v := nI 6) f_67_5 (by decide) ?_
  refine x_newr f_67_7 (by decide) ?_
  refine x_putR f_67_10 (Kn (Nat.lt_add_right 0 hq) hK) (by decide) ?_
  refine x_aload_n f_67_13 rfl ?_
  refine x_bipush (v := nI 20) f_67_14 (by decide) ?_
  refine x_newr f_67_16 (by decide) ?_
  refine x_putR f_67_19 (Kn (Nat.lt_add_right 1 hq) (Ksn (Nat.lt_add_right 0 hq) hK)) (by decide) ?_
  refine x_aload_n f_67_22 rfl ?_
  refine x_bipush (v := nI 10) f_67_23 (by decide) ?_
  refine x_newr f_67_25 (by decide) ?_
  refine x_putR f_67_28 (Kn (Nat.lt_add_right 2 hq) (Ksn (Nat.lt_add_right 1 hq) (Ksn (Nat.lt_add_right 0 hq) hK))) (by decide) ?_
  refine x_heap (h' := mkR h q [(0, 17, 6), (1, 15, 20), (2, 18, 10)]) rfl ?_
  refine x_aload_n f_67_31 rfl ?_
  refine x_new (n := 9) f_67_32 (by decide) (by decide) ?_
  refine x_dup f_67_35 rfl ?_
  refine x_callIn f_67_36 (k_i0 (mj_K_newA _ 0 9) (Nat.lt_succ_self _)) (by decide) rfl rfl rfl (Nat.le_of_ble_eq_true rfl) rfl ?_
  refine x_putR f_67_39 (Ko (mkR_lt _ _ hq) (mkR_K _ _ hq hK)) (by decide) ?_
  refine x_heap (h' := mkO (mkR h q [(0, 17, 6), (1, 15, 20), (2, 18, 10)]) q 3 0 9 [(0, 12, 6), (1, 12, 6), (2, 12, 6), (3, 12, 6)]) rfl ?_
  refine x_aload_n f_67_42 rfl ?_
  refine x_new (n := 5) f_67_43 (by decide) (by decide) ?_
  refine x_dup f_67_46 rfl ?_
  refine x_callIn f_67_47 (k_i8 (mj_K_newA _ 8 5) (Nat.lt_succ_self _)) (by decide) rfl rfl rfl (Nat.le_of_ble_eq_true rfl) rfl ?_
  refine x_putR f_67_50 (Ko (lto (mkR_lt _ _ hq)) (Kos (mkR_lt _ _ hq) (mkR_K _ _ hq hK))) (by decide) ?_
  refine x_heap (h' := mkO (mkO (mkR h q [(0, 17, 6), (1, 15, 20), (2, 18, 10)]) q 3 0 9 [(0, 12, 6), (1, 12, 6), (2, 12, 6), (3, 12, 6)]) q 4 8 5 [(0, 12, 16), (1, 12, 16)]) rfl ?_
  refine x_aload_n f_67_53 rfl ?_
  refine x_new (n := 2) f_67_54 (by decide) (by decide) ?_
  refine x_dup f_67_57 rfl ?_
  refine x_callIn f_67_58 (k_i7 (mj_K_newA _ 7 2) (Nat.lt_succ_self _)) (by decide) rfl rfl rfl (Nat.le_of_ble_eq_true rfl) rfl ?_
  refine x_putR f_67_61 (Ko (lto (lto (mkR_lt _ _ hq))) (Kos (lto (mkR_lt _ _ hq)) (Kos (mkR_lt _ _ hq) (mkR_K _ _ hq hK)))) (by decide) ?_
  refine x_heap (h' := mkO (mkO (mkO (mkR h q [(0, 17, 6), (1, 15, 20), (2, 18, 10)]) q 3 0 9 [(0, 12, 6), (1, 12, 6), (2, 12, 6), (3, 12, 6)]) q 4 8 5 [(0, 12, 16), (1, 12, 16)]) q 5 7 2 [(0, 12, 500)]) rfl ?_
  refine x_aload_n f_67_64 rfl ?_
  refine x_new (n := 7) f_67_65 (by decide) (by decide) ?_
  refine x_dup f_67_68 rfl ?_
  refine x_callIn f_67_69 (k_i1 (mj_K_newA _ 1 7) (Nat.lt_succ_self _)) (by decide) rfl rfl rfl (Nat.le_of_ble_eq_true rfl) rfl ?_
  refine x_putR f_67_72 (Ko (lto (lto (lto (mkR_lt _ _ hq)))) (Kos (lto (lto (mkR_lt _ _ hq))) (Kos (lto (mkR_lt _ _ hq)) (Kos (mkR_lt _ _ hq) (mkR_K _ _ hq hK))))) (by decide) ?_
  refine x_heap (h' := mkO (mkO (mkO (mkO (mkR h q [(0, 17, 6), (1, 15, 20), (2, 18, 10)]) q 3 0 9 [(0, 12, 6), (1, 12, 6), (2, 12, 6), (3, 12, 6)]) q 4 8 5 [(0, 12, 16), (1, 12, 16)]) q 5 7 2 [(0, 12, 500)]) q 6 1 7 [(0, 16, 60), (1, 12, 60), (2, 12, 100), (3, 12, 100), (4, 12, 100)]) rfl ?_
  refine x_aload_n f_67_75 rfl ?_
  refine x_new (n := 8) f_67_76 (by decide) (by decide) ?_
  refine x_dup f_67_79 rfl ?_
  refine x_callIn f_67_80 (k_i2 (mj_K_newA _ 2 8) (Nat.lt_succ_self _)) (by decide) rfl rfl rfl (Nat.le_of_ble_eq_true rfl) rfl ?_
  refine x_putR f_67_83 (Ko (lto (lto (lto (lto (mkR_lt _ _ hq))))) (Kos (lto (lto (lto (mkR_lt _ _ hq)))) (Kos (lto (lto (mkR_lt _ _ hq))) (Kos (lto (mkR_lt _ _ hq)) (Kos (mkR_lt _ _ hq) (mkR_K _ _ hq hK)))))) (by decide) ?_
  refine x_heap (h' := mkO (mkO (mkO (mkO (mkO (mkR h q [(0, 17, 6), (1, 15, 20), (2, 18, 10)]) q 3 0 9 [(0, 12, 6), (1, 12, 6), (2, 12, 6), (3, 12, 6)]) q 4 8 5 [(0, 12, 16), (1, 12, 16)]) q 5 7 2 [(0, 12, 500)]) q 6 1 7 [(0, 16, 60), (1, 12, 60), (2, 12, 100), (3, 12, 100), (4, 12, 100)]) q 7 2 8 [(0, 12, 8), (1, 12, 8), (2, 12, 8), (3, 12, 64)]) rfl ?_
  exact x_retV f_67_86 rfl ⟨rfl, rfl⟩
def mkML : List (Nat × Nat × Nat) := [(2, 12, 48), (3, 14, 36), (4, 12, 180), (5, 12, 20), (6, 12, 20), (9, 12, 6), (10, 12, 6), (11, 12, 6), (12, 12, 6), (13, 12, 6), (16, 12, 14580), (18, 12, 10), (19, 12, 30), (20, 12, 30), (23, 12, 46656), (24, 12, 46656), (25, 12, 500), (27, 12, 500), (34, 12, 60), (35, 12, 60), (36, 12, 60), (37, 12, 100), (38, 14, 100), (39, 12, 100), (42, 12, 8), (43, 12, 8), (44, 12, 8), (45, 12, 8)]
theorem mkM_at {s : Nat} {K : Nat → Nat × Nat} {I : Nat → Nat → Int32} {J : Nat → Nat → Int64} {R : Nat → Nat → Option Nat} (hK : K 33 = (11, 48)) : SM (mkR (34, s, K, I, J, R) 33 mkML) := by
  refine ⟨mkR_K (h := (34, s, K, I, J, R)) mkML 33 (by show 33 < 34; omega) hK, fun e he => ?_⟩
  simp only [mm_L, List.mem_cons, List.not_mem_nil, or_false] at he
  rcases he with rfl | rfl | rfl | rfl | rfl | rfl | rfl | rfl | rfl | rfl | rfl | rfl | rfl | rfl | rfl | rfl | rfl | rfl | rfl | rfl | rfl | rfl | rfl | rfl | rfl | rfl | rfl | rfl <;> exact ⟨rfl, rfl⟩
theorem mkM_sm {h : mj_H} {q : Nat} (hq1 : q = 33) (h34 : h.1 = 34) (hK : mj_K h q = (11, 48)) : SM (mkR h q mkML) := by
  obtain ⟨n, s, K, I, J, R⟩ := h
  subst hq1
  have h34 : n = 34 := h34
  subst h34
  exact mkM_at hK
set_option maxRecDepth 20000 in
theorem c_i11m {hm h : mj_H} (S : SM hm) (r : Rw hm h [44]) (Q : Option Value → mj_H → Prop) (hQ : ∀ h', Rw hm h' [44] → (∀ z, z < 14580 → mj_I h' 44 z = -1) → Q none h') : ∀ (n i : Nat) (h : mj_H), i + n = 14580 → Rw hm h [44] → (∀ z, z < i → mj_I h 44 z = -1) → mx 0 113 234 [.ref 33, .int (nI i)] [] h Q := by
  intro n
  induction n with
  | zero =>
    intro i h hn r hz
    refine x_iload_n f_113_234 rfl ?_
    refine x_sipush (v := nI 14580) f_113_235 (by decide) ?_
    refine x_icmpN_ge (t := 254) f_113_238 (by decide) (by omega) (by decide) (fun c => ?_) (fun c => by omega)
    exact x_retV f_113_254 rfl (hQ h r (fun z hz' => hz z (by omega)))
  | succ n ih =>
    intro i h hn r hz
    refine x_iload_n f_113_234 rfl ?_
    refine x_sipush (v := nI 14580) f_113_235 (by decide) ?_
    refine x_icmpN_ge (t := 254) f_113_238 (by decide) (by omega) (by decide) (fun c => by omega) (fun c => ?_)
    refine x_aload_n f_113_241 rfl ?_
    refine x_getR f_113_242 (r.sm S).k33 (by decide) (r.sm S).r16 ?_
    refine x_iload_n f_113_245 rfl ?_
    refine x_iconst (v := -1) f_113_246 (by decide) ?_
    refine x_iast f_113_247 (r.sm S).k44 (by decide) (by omega) (by decide) ?_
    refine x_iinc (v := nI (i + 1)) (ls1 := [.ref 33, .int (nI (i + 1))]) f_113_248 rfl (by exact nI_add _ 1) rfl ?_
    refine x_goto (t := 234) f_113_251 (by decide) ?_
    refine ih (i + 1) _ (by omega) (r.set (by decide)) (fun z hz' => ?_)
    rw [mj_I_set, if_pos rfl]
    by_cases e : z = i
    · rw [if_pos e]
    · rw [if_neg e]; exact hz z (by omega)
theorem c_i11l {h : mj_H} {q : Nat} {hm : mj_H} (hm1 : hm = mkR h q mkML := by rfl) (hq1 : q = 33) (h34 : h.1 = 34) (hK : mj_K h q = (11, 48)) : mx 0 113 232 [.ref q, mj_unset] [] hm (fun r h' => r = none ∧ Rw (mkR h q mkML) h' [44] ∧ ∀ z, z < 14580 → mj_I h' 44 z = -1) := by
  have S := mkM_sm hq1 h34 hK
  rw [← hm1] at S ⊢
  subst hq1
  refine x_iconst (v := nI 0) f_113_232 (by decide) ?_
  refine x_istore_n (ls1 := [.ref 33, .int (nI 0)]) f_113_233 (Nat.le_of_ble_eq_true rfl) rfl ?_
  exact c_i11m S (Rw.rf hm _) _ (fun h' r z => ⟨rfl, r, z⟩) 14580 0 hm rfl (Rw.rf hm _) (fun z hz => absurd hz (Nat.not_lt_zero z))
set_option maxRecDepth 20000 in
set_option maxHeartbeats 1000000 in
theorem c_i11 {h : mj_H} {q : Nat} (hq1 : q = 33) (h34 : h.1 = 34) (hK : mj_K h q = (11, 48)) : mxc 0 113 [.ref q] h (fun r h' => r = none ∧ Rw (mkR h q mkML) h' [44] ∧ ∀ z, z < 14580 → mj_I h' 44 z = -1) := by
  have hq : q < h.1 := by omega
  show mx 0 113 0 [.ref q, mj_unset] [] h _
  refine x_aload_n f_113_0 rfl ?_
  refine x_init f_113_1 (by decide) ?_
  refine x_aload_n f_113_4 rfl ?_
  refine x_bipush (v := nI 48) f_113_5 (by decide) ?_
  refine x_newa f_113_7 (by decide) ?_
  refine x_putR f_113_9 (Kn (Nat.lt_add_right 0 hq) hK) (by decide) ?_
  refine x_aload_n f_113_12 rfl ?_
  refine x_bipush (v := nI 36) f_113_13 (by decide) ?_
  refine x_newa f_113_15 (by decide) ?_
  refine x_putR f_113_17 (Kn (Nat.lt_add_right 1 hq) (Ksn (Nat.lt_add_right 0 hq) hK)) (by decide) ?_
  refine x_aload_n f_113_20 rfl ?_
  refine x_sipush (v := nI 180) f_113_21 (by decide) ?_
  refine x_newa f_113_24 (by decide) ?_
  refine x_putR f_113_26 (Kn (Nat.lt_add_right 2 hq) (Ksn (Nat.lt_add_right 1 hq) (Ksn (Nat.lt_add_right 0 hq) hK))) (by decide) ?_
  refine x_aload_n f_113_29 rfl ?_
  refine x_bipush (v := nI 20) f_113_30 (by decide) ?_
  refine x_newa f_113_32 (by decide) ?_
  refine x_putR f_113_34 (Kn (Nat.lt_add_right 3 hq) (Ksn (Nat.lt_add_right 2 hq) (Ksn (Nat.lt_add_right 1 hq) (Ksn (Nat.lt_add_right 0 hq) hK)))) (by decide) ?_
  refine x_aload_n f_113_37 rfl ?_
  refine x_bipush (v := nI 20) f_113_38 (by decide) ?_
  refine x_newa f_113_40 (by decide) ?_
  refine x_putR f_113_42 (Kn (Nat.lt_add_right 4 hq) (Ksn (Nat.lt_add_right 3 hq) (Ksn (Nat.lt_add_right 2 hq) (Ksn (Nat.lt_add_right 1 hq) (Ksn (Nat.lt_add_right 0 hq) hK))))) (by decide) ?_
  refine x_aload_n f_113_45 rfl ?_
  refine x_bipush (v := nI 6) f_113_46 (by decide) ?_
  refine x_newa f_113_48 (by decide) ?_
  refine x_putR f_113_50 (Kn (Nat.lt_add_right 5 hq) (Ksn (Nat.lt_add_right 4 hq) (Ksn (Nat.lt_add_right 3 hq) (Ksn (Nat.lt_add_right 2 hq) (Ksn (Nat.lt_add_right 1 hq) (Ksn (Nat.lt_add_right 0 hq) hK)))))) (by decide) ?_
  refine x_aload_n f_113_53 rfl ?_
  refine x_bipush (v := nI 6) f_113_54 (by decide) ?_
  refine x_newa f_113_56 (by decide) ?_
  refine x_putR f_113_58 (Kn (Nat.lt_add_right 6 hq) (Ksn (Nat.lt_add_right 5 hq) (Ksn (Nat.lt_add_right 4 hq) (Ksn (Nat.lt_add_right 3 hq) (Ksn (Nat.lt_add_right 2 hq) (Ksn (Nat.lt_add_right 1 hq) (Ksn (Nat.lt_add_right 0 hq) hK))))))) (by decide) ?_
  refine x_aload_n f_113_61 rfl ?_
  refine x_bipush (v := nI 6) f_113_62 (by decide) ?_
  refine x_newa f_113_64 (by decide) ?_
  refine x_putR f_113_66 (Kn (Nat.lt_add_right 7 hq) (Ksn (Nat.lt_add_right 6 hq) (Ksn (Nat.lt_add_right 5 hq) (Ksn (Nat.lt_add_right 4 hq) (Ksn (Nat.lt_add_right 3 hq) (Ksn (Nat.lt_add_right 2 hq) (Ksn (Nat.lt_add_right 1 hq) (Ksn (Nat.lt_add_right 0 hq) hK)))))))) (by decide) ?_
  refine x_aload_n f_113_69 rfl ?_
  refine x_bipush (v := nI 6) f_113_70 (by decide) ?_
  refine x_newa f_113_72 (by decide) ?_
  refine x_putR f_113_74 (Kn (Nat.lt_add_right 8 hq) (Ksn (Nat.lt_add_right 7 hq) (Ksn (Nat.lt_add_right 6 hq) (Ksn (Nat.lt_add_right 5 hq) (Ksn (Nat.lt_add_right 4 hq) (Ksn (Nat.lt_add_right 3 hq) (Ksn (Nat.lt_add_right 2 hq) (Ksn (Nat.lt_add_right 1 hq) (Ksn (Nat.lt_add_right 0 hq) hK))))))))) (by decide) ?_
  refine x_aload_n f_113_77 rfl ?_
  refine x_bipush (v := nI 6) f_113_78 (by decide) ?_
  refine x_newa f_113_80 (by decide) ?_
  refine x_putR f_113_82 (Kn (Nat.lt_add_right 9 hq) (Ksn (Nat.lt_add_right 8 hq) (Ksn (Nat.lt_add_right 7 hq) (Ksn (Nat.lt_add_right 6 hq) (Ksn (Nat.lt_add_right 5 hq) (Ksn (Nat.lt_add_right 4 hq) (Ksn (Nat.lt_add_right 3 hq) (Ksn (Nat.lt_add_right 2 hq) (Ksn (Nat.lt_add_right 1 hq) (Ksn (Nat.lt_add_right 0 hq) hK)))))))))) (by decide) ?_
  refine x_aload_n f_113_85 rfl ?_
  refine x_sipush (v := nI 14580) f_113_86 (by decide) ?_
  refine x_newa f_113_89 (by decide) ?_
  refine x_putR f_113_91 (Kn (Nat.lt_add_right 10 hq) (Ksn (Nat.lt_add_right 9 hq) (Ksn (Nat.lt_add_right 8 hq) (Ksn (Nat.lt_add_right 7 hq) (Ksn (Nat.lt_add_right 6 hq) (Ksn (Nat.lt_add_right 5 hq) (Ksn (Nat.lt_add_right 4 hq) (Ksn (Nat.lt_add_right 3 hq) (Ksn (Nat.lt_add_right 2 hq) (Ksn (Nat.lt_add_right 1 hq) (Ksn (Nat.lt_add_right 0 hq) hK))))))))))) (by decide) ?_
  refine x_aload_n f_113_94 rfl ?_
  refine x_bipush (v := nI 10) f_113_95 (by decide) ?_
  refine x_newa f_113_97 (by decide) ?_
  refine x_putR f_113_99 (Kn (Nat.lt_add_right 11 hq) (Ksn (Nat.lt_add_right 10 hq) (Ksn (Nat.lt_add_right 9 hq) (Ksn (Nat.lt_add_right 8 hq) (Ksn (Nat.lt_add_right 7 hq) (Ksn (Nat.lt_add_right 6 hq) (Ksn (Nat.lt_add_right 5 hq) (Ksn (Nat.lt_add_right 4 hq) (Ksn (Nat.lt_add_right 3 hq) (Ksn (Nat.lt_add_right 2 hq) (Ksn (Nat.lt_add_right 1 hq) (Ksn (Nat.lt_add_right 0 hq) hK)))))))))))) (by decide) ?_
  refine x_aload_n f_113_102 rfl ?_
  refine x_bipush (v := nI 30) f_113_103 (by decide) ?_
  refine x_newa f_113_105 (by decide) ?_
  refine x_putR f_113_107 (Kn (Nat.lt_add_right 12 hq) (Ksn (Nat.lt_add_right 11 hq) (Ksn (Nat.lt_add_right 10 hq) (Ksn (Nat.lt_add_right 9 hq) (Ksn (Nat.lt_add_right 8 hq) (Ksn (Nat.lt_add_right 7 hq) (Ksn (Nat.lt_add_right 6 hq) (Ksn (Nat.lt_add_right 5 hq) (Ksn (Nat.lt_add_right 4 hq) (Ksn (Nat.lt_add_right 3 hq) (Ksn (Nat.lt_add_right 2 hq) (Ksn (Nat.lt_add_right 1 hq) (Ksn (Nat.lt_add_right 0 hq) hK))))))))))))) (by decide) ?_
  refine x_aload_n f_113_110 rfl ?_
  refine x_bipush (v := nI 30) f_113_111 (by decide) ?_
  refine x_newa f_113_113 (by decide) ?_
  refine x_putR f_113_115 (Kn (Nat.lt_add_right 13 hq) (Ksn (Nat.lt_add_right 12 hq) (Ksn (Nat.lt_add_right 11 hq) (Ksn (Nat.lt_add_right 10 hq) (Ksn (Nat.lt_add_right 9 hq) (Ksn (Nat.lt_add_right 8 hq) (Ksn (Nat.lt_add_right 7 hq) (Ksn (Nat.lt_add_right 6 hq) (Ksn (Nat.lt_add_right 5 hq) (Ksn (Nat.lt_add_right 4 hq) (Ksn (Nat.lt_add_right 3 hq) (Ksn (Nat.lt_add_right 2 hq) (Ksn (Nat.lt_add_right 1 hq) (Ksn (Nat.lt_add_right 0 hq) hK)))))))))))))) (by decide) ?_
  refine x_aload_n f_113_118 rfl ?_
  refine x_ldc (v := nI 46656) f_113_119 (by decide) ?_
  refine x_newa f_113_121 (by decide) ?_
  refine x_putR f_113_123 (Kn (Nat.lt_add_right 14 hq) (Ksn (Nat.lt_add_right 13 hq) (Ksn (Nat.lt_add_right 12 hq) (Ksn (Nat.lt_add_right 11 hq) (Ksn (Nat.lt_add_right 10 hq) (Ksn (Nat.lt_add_right 9 hq) (Ksn (Nat.lt_add_right 8 hq) (Ksn (Nat.lt_add_right 7 hq) (Ksn (Nat.lt_add_right 6 hq) (Ksn (Nat.lt_add_right 5 hq) (Ksn (Nat.lt_add_right 4 hq) (Ksn (Nat.lt_add_right 3 hq) (Ksn (Nat.lt_add_right 2 hq) (Ksn (Nat.lt_add_right 1 hq) (Ksn (Nat.lt_add_right 0 hq) hK))))))))))))))) (by decide) ?_
  refine x_aload_n f_113_126 rfl ?_
  refine x_ldc (v := nI 46656) f_113_127 (by decide) ?_
  refine x_newa f_113_129 (by decide) ?_
  refine x_putR f_113_131 (Kn (Nat.lt_add_right 15 hq) (Ksn (Nat.lt_add_right 14 hq) (Ksn (Nat.lt_add_right 13 hq) (Ksn (Nat.lt_add_right 12 hq) (Ksn (Nat.lt_add_right 11 hq) (Ksn (Nat.lt_add_right 10 hq) (Ksn (Nat.lt_add_right 9 hq) (Ksn (Nat.lt_add_right 8 hq) (Ksn (Nat.lt_add_right 7 hq) (Ksn (Nat.lt_add_right 6 hq) (Ksn (Nat.lt_add_right 5 hq) (Ksn (Nat.lt_add_right 4 hq) (Ksn (Nat.lt_add_right 3 hq) (Ksn (Nat.lt_add_right 2 hq) (Ksn (Nat.lt_add_right 1 hq) (Ksn (Nat.lt_add_right 0 hq) hK)))))))))))))))) (by decide) ?_
  refine x_aload_n f_113_134 rfl ?_
  refine x_sipush (v := nI 500) f_113_135 (by decide) ?_
  refine x_newa f_113_138 (by decide) ?_
  refine x_putR f_113_140 (Kn (Nat.lt_add_right 16 hq) (Ksn (Nat.lt_add_right 15 hq) (Ksn (Nat.lt_add_right 14 hq) (Ksn (Nat.lt_add_right 13 hq) (Ksn (Nat.lt_add_right 12 hq) (Ksn (Nat.lt_add_right 11 hq) (Ksn (Nat.lt_add_right 10 hq) (Ksn (Nat.lt_add_right 9 hq) (Ksn (Nat.lt_add_right 8 hq) (Ksn (Nat.lt_add_right 7 hq) (Ksn (Nat.lt_add_right 6 hq) (Ksn (Nat.lt_add_right 5 hq) (Ksn (Nat.lt_add_right 4 hq) (Ksn (Nat.lt_add_right 3 hq) (Ksn (Nat.lt_add_right 2 hq) (Ksn (Nat.lt_add_right 1 hq) (Ksn (Nat.lt_add_right 0 hq) hK))))))))))))))))) (by decide) ?_
  refine x_aload_n f_113_143 rfl ?_
  refine x_sipush (v := nI 500) f_113_144 (by decide) ?_
  refine x_newa f_113_147 (by decide) ?_
  refine x_putR f_113_149 (Kn (Nat.lt_add_right 17 hq) (Ksn (Nat.lt_add_right 16 hq) (Ksn (Nat.lt_add_right 15 hq) (Ksn (Nat.lt_add_right 14 hq) (Ksn (Nat.lt_add_right 13 hq) (Ksn (Nat.lt_add_right 12 hq) (Ksn (Nat.lt_add_right 11 hq) (Ksn (Nat.lt_add_right 10 hq) (Ksn (Nat.lt_add_right 9 hq) (Ksn (Nat.lt_add_right 8 hq) (Ksn (Nat.lt_add_right 7 hq) (Ksn (Nat.lt_add_right 6 hq) (Ksn (Nat.lt_add_right 5 hq) (Ksn (Nat.lt_add_right 4 hq) (Ksn (Nat.lt_add_right 3 hq) (Ksn (Nat.lt_add_right 2 hq) (Ksn (Nat.lt_add_right 1 hq) (Ksn (Nat.lt_add_right 0 hq) hK)))))))))))))))))) (by decide) ?_
  refine x_aload_n f_113_152 rfl ?_
  refine x_bipush (v := nI 60) f_113_153 (by decide) ?_
  refine x_newa f_113_155 (by decide) ?_
  refine x_putR f_113_157 (Kn (Nat.lt_add_right 18 hq) (Ksn (Nat.lt_add_right 17 hq) (Ksn (Nat.lt_add_right 16 hq) (Ksn (Nat.lt_add_right 15 hq) (Ksn (Nat.lt_add_right 14 hq) (Ksn (Nat.lt_add_right 13 hq) (Ksn (Nat.lt_add_right 12 hq) (Ksn (Nat.lt_add_right 11 hq) (Ksn (Nat.lt_add_right 10 hq) (Ksn (Nat.lt_add_right 9 hq) (Ksn (Nat.lt_add_right 8 hq) (Ksn (Nat.lt_add_right 7 hq) (Ksn (Nat.lt_add_right 6 hq) (Ksn (Nat.lt_add_right 5 hq) (Ksn (Nat.lt_add_right 4 hq) (Ksn (Nat.lt_add_right 3 hq) (Ksn (Nat.lt_add_right 2 hq) (Ksn (Nat.lt_add_right 1 hq) (Ksn (Nat.lt_add_right 0 hq) hK))))))))))))))))))) (by decide) ?_
  refine x_aload_n f_113_160 rfl ?_
  refine x_bipush (v := nI 60) f_113_161 (by decide) ?_
  refine x_newa f_113_163 (by decide) ?_
  refine x_putR f_113_165 (Kn (Nat.lt_add_right 19 hq) (Ksn (Nat.lt_add_right 18 hq) (Ksn (Nat.lt_add_right 17 hq) (Ksn (Nat.lt_add_right 16 hq) (Ksn (Nat.lt_add_right 15 hq) (Ksn (Nat.lt_add_right 14 hq) (Ksn (Nat.lt_add_right 13 hq) (Ksn (Nat.lt_add_right 12 hq) (Ksn (Nat.lt_add_right 11 hq) (Ksn (Nat.lt_add_right 10 hq) (Ksn (Nat.lt_add_right 9 hq) (Ksn (Nat.lt_add_right 8 hq) (Ksn (Nat.lt_add_right 7 hq) (Ksn (Nat.lt_add_right 6 hq) (Ksn (Nat.lt_add_right 5 hq) (Ksn (Nat.lt_add_right 4 hq) (Ksn (Nat.lt_add_right 3 hq) (Ksn (Nat.lt_add_right 2 hq) (Ksn (Nat.lt_add_right 1 hq) (Ksn (Nat.lt_add_right 0 hq) hK)))))))))))))))))))) (by decide) ?_
  refine x_aload_n f_113_168 rfl ?_
  refine x_bipush (v := nI 60) f_113_169 (by decide) ?_
  refine x_newa f_113_171 (by decide) ?_
  refine x_putR f_113_173 (Kn (Nat.lt_add_right 20 hq) (Ksn (Nat.lt_add_right 19 hq) (Ksn (Nat.lt_add_right 18 hq) (Ksn (Nat.lt_add_right 17 hq) (Ksn (Nat.lt_add_right 16 hq) (Ksn (Nat.lt_add_right 15 hq) (Ksn (Nat.lt_add_right 14 hq) (Ksn (Nat.lt_add_right 13 hq) (Ksn (Nat.lt_add_right 12 hq) (Ksn (Nat.lt_add_right 11 hq) (Ksn (Nat.lt_add_right 10 hq) (Ksn (Nat.lt_add_right 9 hq) (Ksn (Nat.lt_add_right 8 hq) (Ksn (Nat.lt_add_right 7 hq) (Ksn (Nat.lt_add_right 6 hq) (Ksn (Nat.lt_add_right 5 hq) (Ksn (Nat.lt_add_right 4 hq) (Ksn (Nat.lt_add_right 3 hq) (Ksn (Nat.lt_add_right 2 hq) (Ksn (Nat.lt_add_right 1 hq) (Ksn (Nat.lt_add_right 0 hq) hK))))))))))))))))))))) (by decide) ?_
  refine x_aload_n f_113_176 rfl ?_
  refine x_bipush (v := nI 100) f_113_177 (by decide) ?_
  refine x_newa f_113_179 (by decide) ?_
  refine x_putR f_113_181 (Kn (Nat.lt_add_right 21 hq) (Ksn (Nat.lt_add_right 20 hq) (Ksn (Nat.lt_add_right 19 hq) (Ksn (Nat.lt_add_right 18 hq) (Ksn (Nat.lt_add_right 17 hq) (Ksn (Nat.lt_add_right 16 hq) (Ksn (Nat.lt_add_right 15 hq) (Ksn (Nat.lt_add_right 14 hq) (Ksn (Nat.lt_add_right 13 hq) (Ksn (Nat.lt_add_right 12 hq) (Ksn (Nat.lt_add_right 11 hq) (Ksn (Nat.lt_add_right 10 hq) (Ksn (Nat.lt_add_right 9 hq) (Ksn (Nat.lt_add_right 8 hq) (Ksn (Nat.lt_add_right 7 hq) (Ksn (Nat.lt_add_right 6 hq) (Ksn (Nat.lt_add_right 5 hq) (Ksn (Nat.lt_add_right 4 hq) (Ksn (Nat.lt_add_right 3 hq) (Ksn (Nat.lt_add_right 2 hq) (Ksn (Nat.lt_add_right 1 hq) (Ksn (Nat.lt_add_right 0 hq) hK)))))))))))))))))))))) (by decide) ?_
  refine x_aload_n f_113_184 rfl ?_
  refine x_bipush (v := nI 100) f_113_185 (by decide) ?_
  refine x_newa f_113_187 (by decide) ?_
  refine x_putR f_113_189 (Kn (Nat.lt_add_right 22 hq) (Ksn (Nat.lt_add_right 21 hq) (Ksn (Nat.lt_add_right 20 hq) (Ksn (Nat.lt_add_right 19 hq) (Ksn (Nat.lt_add_right 18 hq) (Ksn (Nat.lt_add_right 17 hq) (Ksn (Nat.lt_add_right 16 hq) (Ksn (Nat.lt_add_right 15 hq) (Ksn (Nat.lt_add_right 14 hq) (Ksn (Nat.lt_add_right 13 hq) (Ksn (Nat.lt_add_right 12 hq) (Ksn (Nat.lt_add_right 11 hq) (Ksn (Nat.lt_add_right 10 hq) (Ksn (Nat.lt_add_right 9 hq) (Ksn (Nat.lt_add_right 8 hq) (Ksn (Nat.lt_add_right 7 hq) (Ksn (Nat.lt_add_right 6 hq) (Ksn (Nat.lt_add_right 5 hq) (Ksn (Nat.lt_add_right 4 hq) (Ksn (Nat.lt_add_right 3 hq) (Ksn (Nat.lt_add_right 2 hq) (Ksn (Nat.lt_add_right 1 hq) (Ksn (Nat.lt_add_right 0 hq) hK))))))))))))))))))))))) (by decide) ?_
  refine x_aload_n f_113_192 rfl ?_
  refine x_bipush (v := nI 100) f_113_193 (by decide) ?_
  refine x_newa f_113_195 (by decide) ?_
  refine x_putR f_113_197 (Kn (Nat.lt_add_right 23 hq) (Ksn (Nat.lt_add_right 22 hq) (Ksn (Nat.lt_add_right 21 hq) (Ksn (Nat.lt_add_right 20 hq) (Ksn (Nat.lt_add_right 19 hq) (Ksn (Nat.lt_add_right 18 hq) (Ksn (Nat.lt_add_right 17 hq) (Ksn (Nat.lt_add_right 16 hq) (Ksn (Nat.lt_add_right 15 hq) (Ksn (Nat.lt_add_right 14 hq) (Ksn (Nat.lt_add_right 13 hq) (Ksn (Nat.lt_add_right 12 hq) (Ksn (Nat.lt_add_right 11 hq) (Ksn (Nat.lt_add_right 10 hq) (Ksn (Nat.lt_add_right 9 hq) (Ksn (Nat.lt_add_right 8 hq) (Ksn (Nat.lt_add_right 7 hq) (Ksn (Nat.lt_add_right 6 hq) (Ksn (Nat.lt_add_right 5 hq) (Ksn (Nat.lt_add_right 4 hq) (Ksn (Nat.lt_add_right 3 hq) (Ksn (Nat.lt_add_right 2 hq) (Ksn (Nat.lt_add_right 1 hq) (Ksn (Nat.lt_add_right 0 hq) hK)))))))))))))))))))))))) (by decide) ?_
  refine x_aload_n f_113_200 rfl ?_
  refine x_bipush (v := nI 8) f_113_201 (by decide) ?_
  refine x_newa f_113_203 (by decide) ?_
  refine x_putR f_113_205 (Kn (Nat.lt_add_right 24 hq) (Ksn (Nat.lt_add_right 23 hq) (Ksn (Nat.lt_add_right 22 hq) (Ksn (Nat.lt_add_right 21 hq) (Ksn (Nat.lt_add_right 20 hq) (Ksn (Nat.lt_add_right 19 hq) (Ksn (Nat.lt_add_right 18 hq) (Ksn (Nat.lt_add_right 17 hq) (Ksn (Nat.lt_add_right 16 hq) (Ksn (Nat.lt_add_right 15 hq) (Ksn (Nat.lt_add_right 14 hq) (Ksn (Nat.lt_add_right 13 hq) (Ksn (Nat.lt_add_right 12 hq) (Ksn (Nat.lt_add_right 11 hq) (Ksn (Nat.lt_add_right 10 hq) (Ksn (Nat.lt_add_right 9 hq) (Ksn (Nat.lt_add_right 8 hq) (Ksn (Nat.lt_add_right 7 hq) (Ksn (Nat.lt_add_right 6 hq) (Ksn (Nat.lt_add_right 5 hq) (Ksn (Nat.lt_add_right 4 hq) (Ksn (Nat.lt_add_right 3 hq) (Ksn (Nat.lt_add_right 2 hq) (Ksn (Nat.lt_add_right 1 hq) (Ksn (Nat.lt_add_right 0 hq) hK))))))))))))))))))))))))) (by decide) ?_
  refine x_aload_n f_113_208 rfl ?_
  refine x_bipush (v := nI 8) f_113_209 (by decide) ?_
  refine x_newa f_113_211 (by decide) ?_
  refine x_putR f_113_213 (Kn (Nat.lt_add_right 25 hq) (Ksn (Nat.lt_add_right 24 hq) (Ksn (Nat.lt_add_right 23 hq) (Ksn (Nat.lt_add_right 22 hq) (Ksn (Nat.lt_add_right 21 hq) (Ksn (Nat.lt_add_right 20 hq) (Ksn (Nat.lt_add_right 19 hq) (Ksn (Nat.lt_add_right 18 hq) (Ksn (Nat.lt_add_right 17 hq) (Ksn (Nat.lt_add_right 16 hq) (Ksn (Nat.lt_add_right 15 hq) (Ksn (Nat.lt_add_right 14 hq) (Ksn (Nat.lt_add_right 13 hq) (Ksn (Nat.lt_add_right 12 hq) (Ksn (Nat.lt_add_right 11 hq) (Ksn (Nat.lt_add_right 10 hq) (Ksn (Nat.lt_add_right 9 hq) (Ksn (Nat.lt_add_right 8 hq) (Ksn (Nat.lt_add_right 7 hq) (Ksn (Nat.lt_add_right 6 hq) (Ksn (Nat.lt_add_right 5 hq) (Ksn (Nat.lt_add_right 4 hq) (Ksn (Nat.lt_add_right 3 hq) (Ksn (Nat.lt_add_right 2 hq) (Ksn (Nat.lt_add_right 1 hq) (Ksn (Nat.lt_add_right 0 hq) hK)))))))))))))))))))))))))) (by decide) ?_
  refine x_aload_n f_113_216 rfl ?_
  refine x_bipush (v := nI 8) f_113_217 (by decide) ?_
  refine x_newa f_113_219 (by decide) ?_
  refine x_putR f_113_221 (Kn (Nat.lt_add_right 26 hq) (Ksn (Nat.lt_add_right 25 hq) (Ksn (Nat.lt_add_right 24 hq) (Ksn (Nat.lt_add_right 23 hq) (Ksn (Nat.lt_add_right 22 hq) (Ksn (Nat.lt_add_right 21 hq) (Ksn (Nat.lt_add_right 20 hq) (Ksn (Nat.lt_add_right 19 hq) (Ksn (Nat.lt_add_right 18 hq) (Ksn (Nat.lt_add_right 17 hq) (Ksn (Nat.lt_add_right 16 hq) (Ksn (Nat.lt_add_right 15 hq) (Ksn (Nat.lt_add_right 14 hq) (Ksn (Nat.lt_add_right 13 hq) (Ksn (Nat.lt_add_right 12 hq) (Ksn (Nat.lt_add_right 11 hq) (Ksn (Nat.lt_add_right 10 hq) (Ksn (Nat.lt_add_right 9 hq) (Ksn (Nat.lt_add_right 8 hq) (Ksn (Nat.lt_add_right 7 hq) (Ksn (Nat.lt_add_right 6 hq) (Ksn (Nat.lt_add_right 5 hq) (Ksn (Nat.lt_add_right 4 hq) (Ksn (Nat.lt_add_right 3 hq) (Ksn (Nat.lt_add_right 2 hq) (Ksn (Nat.lt_add_right 1 hq) (Ksn (Nat.lt_add_right 0 hq) hK))))))))))))))))))))))))))) (by decide) ?_
  refine x_aload_n f_113_224 rfl ?_
  refine x_bipush (v := nI 8) f_113_225 (by decide) ?_
  refine x_newa f_113_227 (by decide) ?_
  refine x_putR f_113_229 (Kn (Nat.lt_add_right 27 hq) (Ksn (Nat.lt_add_right 26 hq) (Ksn (Nat.lt_add_right 25 hq) (Ksn (Nat.lt_add_right 24 hq) (Ksn (Nat.lt_add_right 23 hq) (Ksn (Nat.lt_add_right 22 hq) (Ksn (Nat.lt_add_right 21 hq) (Ksn (Nat.lt_add_right 20 hq) (Ksn (Nat.lt_add_right 19 hq) (Ksn (Nat.lt_add_right 18 hq) (Ksn (Nat.lt_add_right 17 hq) (Ksn (Nat.lt_add_right 16 hq) (Ksn (Nat.lt_add_right 15 hq) (Ksn (Nat.lt_add_right 14 hq) (Ksn (Nat.lt_add_right 13 hq) (Ksn (Nat.lt_add_right 12 hq) (Ksn (Nat.lt_add_right 11 hq) (Ksn (Nat.lt_add_right 10 hq) (Ksn (Nat.lt_add_right 9 hq) (Ksn (Nat.lt_add_right 8 hq) (Ksn (Nat.lt_add_right 7 hq) (Ksn (Nat.lt_add_right 6 hq) (Ksn (Nat.lt_add_right 5 hq) (Ksn (Nat.lt_add_right 4 hq) (Ksn (Nat.lt_add_right 3 hq) (Ksn (Nat.lt_add_right 2 hq) (Ksn (Nat.lt_add_right 1 hq) (Ksn (Nat.lt_add_right 0 hq) hK)))))))))))))))))))))))))))) (by decide) ?_
  exact c_i11l (hq1 := hq1) (h34 := h34) (hK := hK)

