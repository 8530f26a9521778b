theorem f_156_0 : mj_fetch 156 0 = some (.aload_n 0, 0, 0) := by decide +kernel
theorem f_156_1 : mj_fetch 156 1 = some (.getfield 225, 11, 30) := by decide +kernel
theorem f_156_4 : mj_fetch 156 4 = some (.iconst (-1), 0, 0) := by decide +kernel
theorem f_156_5 : mj_fetch 156 5 = some (.if_icmp .eq 4, 0, 0) := by decide +kernel
theorem f_156_8 : mj_fetch 156 8 = some (.return_, 0, 0) := by decide +kernel
theorem f_156_9 : mj_fetch 156 9 = some (.aload_n 0, 0, 0) := by decide +kernel
theorem f_156_10 : mj_fetch 156 10 = some (.getfield 228, 11, 29) := by decide +kernel
theorem f_156_13 : mj_fetch 156 13 = some (.aload_n 0, 0, 0) := by decide +kernel
theorem f_156_14 : mj_fetch 156 14 = some (.getfield 222, 11, 28) := by decide +kernel
theorem f_156_17 : mj_fetch 156 17 = some (.if_icmp .ne 12, 0, 0) := by decide +kernel
theorem f_156_20 : mj_fetch 156 20 = some (.aload_n 0, 0, 0) := by decide +kernel
theorem f_156_21 : mj_fetch 156 21 = some (.aload_n 0, 0, 0) := by decide +kernel
theorem f_156_22 : mj_fetch 156 22 = some (.getfield 228, 11, 29) := by decide +kernel
theorem f_156_25 : mj_fetch 156 25 = some (.putfield 225, 11, 30) := by decide +kernel
theorem f_156_28 : mj_fetch 156 28 = some (.return_, 0, 0) := by decide +kernel
theorem f_156_29 : mj_fetch 156 29 = some (.aload_n 0, 0, 0) := by decide +kernel
theorem f_156_30 : mj_fetch 156 30 = some (.getfield 63, 11, 27) := by decide +kernel
theorem f_156_33 : mj_fetch 156 33 = some (.aload_n 0, 0, 0) := by decide +kernel
theorem f_156_34 : mj_fetch 156 34 = some (.getfield 228, 11, 29) := by decide +kernel
theorem f_156_37 : mj_fetch 156 37 = some (.iaload, 0, 0) := by decide +kernel
theorem f_156_38 : mj_fetch 156 38 = some (.istore 7, 0, 0) := by decide +kernel
theorem f_156_40 : mj_fetch 156 40 = some (.iload 7, 0, 0) := by decide +kernel
theorem f_156_42 : mj_fetch 156 42 = some (.iconst 2, 0, 0) := by decide +kernel
theorem f_156_43 : mj_fetch 156 43 = some (.if_icmp .ge 64, 0, 0) := by decide +kernel
theorem f_156_46 : mj_fetch 156 46 = some (.aload_n 0, 0, 0) := by decide +kernel
theorem f_156_47 : mj_fetch 156 47 = some (.iload_n 1, 0, 0) := by decide +kernel
theorem f_156_48 : mj_fetch 156 48 = some (.iload_n 2, 0, 0) := by decide +kernel
theorem f_156_49 : mj_fetch 156 49 = some (.iload_n 3, 0, 0) := by decide +kernel
theorem f_156_50 : mj_fetch 156 50 = some (.iload 4, 0, 0) := by decide +kernel
theorem f_156_52 : mj_fetch 156 52 = some (.iload 5, 0, 0) := by decide +kernel
theorem f_156_54 : mj_fetch 156 54 = some (.iload 6, 0, 0) := by decide +kernel
theorem f_156_56 : mj_fetch 156 56 = some (.invokevirtual 191, 141, 0) := by decide +kernel
theorem f_156_59 : mj_fetch 156 59 = some (.istore 8, 0, 0) := by decide +kernel
theorem f_156_61 : mj_fetch 156 61 = some (.iload 8, 0, 0) := by decide +kernel
theorem f_156_63 : mj_fetch 156 63 = some (.iload 7, 0, 0) := by decide +kernel
theorem f_156_65 : mj_fetch 156 65 = some (.ifCond .ne 18, 0, 0) := by decide +kernel
theorem f_156_68 : mj_fetch 156 68 = some (.iload_n 1, 0, 0) := by decide +kernel
theorem f_156_69 : mj_fetch 156 69 = some (.iload_n 2, 0, 0) := by decide +kernel
theorem f_156_70 : mj_fetch 156 70 = some (.iload_n 3, 0, 0) := by decide +kernel
theorem f_156_71 : mj_fetch 156 71 = some (.iload 4, 0, 0) := by decide +kernel
theorem f_156_73 : mj_fetch 156 73 = some (.iload 5, 0, 0) := by decide +kernel
theorem f_156_75 : mj_fetch 156 75 = some (.iload 6, 0, 0) := by decide +kernel
theorem f_156_77 : mj_fetch 156 77 = some (.invokestatic 198, 142, 0) := by decide +kernel
theorem f_156_80 : mj_fetch 156 80 = some (.goto 4, 0, 0) := by decide +kernel
theorem f_156_83 : mj_fetch 156 83 = some (.iconst 0, 0, 0) := by decide +kernel
theorem f_156_84 : mj_fetch 156 84 = some (.if_icmp .eq 12, 0, 0) := by decide +kernel
theorem f_156_87 : mj_fetch 156 87 = some (.aload_n 0, 0, 0) := by decide +kernel
theorem f_156_88 : mj_fetch 156 88 = some (.aload_n 0, 0, 0) := by decide +kernel
theorem f_156_89 : mj_fetch 156 89 = some (.getfield 228, 11, 29) := by decide +kernel
theorem f_156_92 : mj_fetch 156 92 = some (.putfield 225, 11, 30) := by decide +kernel
theorem f_156_95 : mj_fetch 156 95 = some (.return_, 0, 0) := by decide +kernel
theorem f_156_96 : mj_fetch 156 96 = some (.aload_n 0, 0, 0) := by decide +kernel
theorem f_156_97 : mj_fetch 156 97 = some (.dup, 0, 0) := by decide +kernel
theorem f_156_98 : mj_fetch 156 98 = some (.getfield 228, 11, 29) := by decide +kernel
theorem f_156_101 : mj_fetch 156 101 = some (.iconst 1, 0, 0) := by decide +kernel
theorem f_156_102 : mj_fetch 156 102 = some (.iadd, 0, 0) := by decide +kernel
theorem f_156_103 : mj_fetch 156 103 = some (.putfield 228, 11, 29) := by decide +kernel
theorem f_156_106 : mj_fetch 156 106 = some (.return_, 0, 0) := by decide +kernel
theorem f_156_107 : mj_fetch 156 107 = some (.iload 7, 0, 0) := by decide +kernel
theorem f_156_109 : mj_fetch 156 109 = some (.iconst 2, 0, 0) := by decide +kernel
theorem f_156_110 : mj_fetch 156 110 = some (.isub, 0, 0) := by decide +kernel
theorem f_156_111 : mj_fetch 156 111 = some (.bipush 8, 0, 0) := by decide +kernel
theorem f_156_113 : mj_fetch 156 113 = some (.idiv, 0, 0) := by decide +kernel
theorem f_156_114 : mj_fetch 156 114 = some (.istore 8, 0, 0) := by decide +kernel
theorem f_156_116 : mj_fetch 156 116 = some (.iload 7, 0, 0) := by decide +kernel
theorem f_156_118 : mj_fetch 156 118 = some (.iconst 2, 0, 0) := by decide +kernel
theorem f_156_119 : mj_fetch 156 119 = some (.isub, 0, 0) := by decide +kernel
theorem f_156_120 : mj_fetch 156 120 = some (.bipush 8, 0, 0) := by decide +kernel
theorem f_156_122 : mj_fetch 156 122 = some (.irem, 0, 0) := by decide +kernel
theorem f_156_123 : mj_fetch 156 123 = some (.istore 9, 0, 0) := by decide +kernel
theorem f_156_125 : mj_fetch 156 125 = some (.iload 8, 0, 0) := by decide +kernel
theorem f_156_127 : mj_fetch 156 127 = some (.ifCond .ne 9, 0, 0) := by decide +kernel
theorem f_156_130 : mj_fetch 156 130 = some (.iload_n 2, 0, 0) := by decide +kernel
theorem f_156_131 : mj_fetch 156 131 = some (.iload_n 1, 0, 0) := by decide +kernel
theorem f_156_132 : mj_fetch 156 132 = some (.isub, 0, 0) := by decide +kernel
theorem f_156_133 : mj_fetch 156 133 = some (.goto 31, 0, 0) := by decide +kernel
theorem f_156_164 : mj_fetch 156 164 = some (.istore 10, 0, 0) := by decide +kernel
theorem f_156_166 : mj_fetch 156 166 = some (.iload 9, 0, 0) := by decide +kernel
theorem f_156_168 : mj_fetch 156 168 = some (.iload 10, 0, 0) := by decide +kernel
theorem f_156_170 : mj_fetch 156 170 = some (.if_icmp .lt 12, 0, 0) := by decide +kernel
theorem f_156_173 : mj_fetch 156 173 = some (.aload_n 0, 0, 0) := by decide +kernel
theorem f_156_174 : mj_fetch 156 174 = some (.aload_n 0, 0, 0) := by decide +kernel
theorem f_156_175 : mj_fetch 156 175 = some (.getfield 228, 11, 29) := by decide +kernel
theorem f_156_178 : mj_fetch 156 178 = some (.putfield 225, 11, 30) := by decide +kernel
theorem f_156_181 : mj_fetch 156 181 = some (.return_, 0, 0) := by decide +kernel
theorem f_156_136 : mj_fetch 156 136 = some (.iload 8, 0, 0) := by decide +kernel
theorem f_156_138 : mj_fetch 156 138 = some (.iconst 1, 0, 0) := by decide +kernel
theorem f_156_139 : mj_fetch 156 139 = some (.if_icmp .ne 10, 0, 0) := by decide +kernel
theorem f_156_142 : mj_fetch 156 142 = some (.iload 4, 0, 0) := by decide +kernel
theorem f_156_144 : mj_fetch 156 144 = some (.iload_n 3, 0, 0) := by decide +kernel
theorem f_156_145 : mj_fetch 156 145 = some (.isub, 0, 0) := by decide +kernel
theorem f_156_146 : mj_fetch 156 146 = some (.goto 18, 0, 0) := by decide +kernel
theorem f_156_149 : mj_fetch 156 149 = some (.iload 8, 0, 0) := by decide +kernel
theorem f_156_151 : mj_fetch 156 151 = some (.iconst 2, 0, 0) := by decide +kernel
theorem f_156_152 : mj_fetch 156 152 = some (.if_icmp .ne 11, 0, 0) := by decide +kernel
theorem f_156_155 : mj_fetch 156 155 = some (.iload 6, 0, 0) := by decide +kernel
theorem f_156_157 : mj_fetch 156 157 = some (.iload 5, 0, 0) := by decide +kernel
theorem f_156_159 : mj_fetch 156 159 = some (.isub, 0, 0) := by decide +kernel
theorem f_156_160 : mj_fetch 156 160 = some (.goto 4, 0, 0) := by decide +kernel
theorem f_156_163 : mj_fetch 156 163 = some (.iconst 0, 0, 0) := by decide +kernel
theorem f_156_182 : mj_fetch 156 182 = some (.aload_n 0, 0, 0) := by decide +kernel
theorem f_156_183 : mj_fetch 156 183 = some (.dup, 0, 0) := by decide +kernel
theorem f_156_184 : mj_fetch 156 184 = some (.getfield 228, 11, 29) := by decide +kernel
theorem f_156_187 : mj_fetch 156 187 = some (.iconst 1, 0, 0) := by decide +kernel
theorem f_156_188 : mj_fetch 156 188 = some (.iadd, 0, 0) := by decide +kernel
theorem f_156_189 : mj_fetch 156 189 = some (.putfield 228, 11, 29) := by decide +kernel
theorem f_156_192 : mj_fetch 156 192 = some (.iload 8, 0, 0) := by decide +kernel
theorem f_156_194 : mj_fetch 156 194 = some (.ifCond .ne 40, 0, 0) := by decide +kernel
theorem f_156_197 : mj_fetch 156 197 = some (.aload_n 0, 0, 0) := by decide +kernel
theorem f_156_198 : mj_fetch 156 198 = some (.iload_n 1, 0, 0) := by decide +kernel
theorem f_156_199 : mj_fetch 156 199 = some (.iload_n 1, 0, 0) := by decide +kernel
theorem f_156_200 : mj_fetch 156 200 = some (.iload 9, 0, 0) := by decide +kernel
theorem f_156_202 : mj_fetch 156 202 = some (.iadd, 0, 0) := by decide +kernel
theorem f_156_203 : mj_fetch 156 203 = some (.iload_n 3, 0, 0) := by decide +kernel
theorem f_156_204 : mj_fetch 156 204 = some (.iload 4, 0, 0) := by decide +kernel
theorem f_156_206 : mj_fetch 156 206 = some (.iload 5, 0, 0) := by decide +kernel
theorem f_156_208 : mj_fetch 156 208 = some (.iload 6, 0, 0) := by decide +kernel
theorem f_156_210 : mj_fetch 156 210 = some (.invokevirtual 231, 156, 0) := by decide +kernel
theorem f_156_213 : mj_fetch 156 213 = some (.aload_n 0, 0, 0) := by decide +kernel
theorem f_156_214 : mj_fetch 156 214 = some (.iload_n 1, 0, 0) := by decide +kernel
theorem f_156_215 : mj_fetch 156 215 = some (.iload 9, 0, 0) := by decide +kernel
theorem f_156_217 : mj_fetch 156 217 = some (.iadd, 0, 0) := by decide +kernel
theorem f_156_218 : mj_fetch 156 218 = some (.iconst 1, 0, 0) := by decide +kernel
theorem f_156_219 : mj_fetch 156 219 = some (.iadd, 0, 0) := by decide +kernel
theorem f_156_220 : mj_fetch 156 220 = some (.iload_n 2, 0, 0) := by decide +kernel
theorem f_156_221 : mj_fetch 156 221 = some (.iload_n 3, 0, 0) := by decide +kernel
theorem f_156_222 : mj_fetch 156 222 = some (.iload 4, 0, 0) := by decide +kernel
theorem f_156_224 : mj_fetch 156 224 = some (.iload 5, 0, 0) := by decide +kernel
theorem f_156_226 : mj_fetch 156 226 = some (.iload 6, 0, 0) := by decide +kernel
theorem f_156_228 : mj_fetch 156 228 = some (.invokevirtual 231, 156, 0) := by decide +kernel
theorem f_156_231 : mj_fetch 156 231 = some (.goto 79, 0, 0) := by decide +kernel
theorem f_156_310 : mj_fetch 156 310 = some (.return_, 0, 0) := by decide +kernel
theorem f_156_234 : mj_fetch 156 234 = some (.iload 8, 0, 0) := by decide +kernel
theorem f_156_236 : mj_fetch 156 236 = some (.iconst 1, 0, 0) := by decide +kernel
theorem f_156_237 : mj_fetch 156 237 = some (.if_icmp .ne 39, 0, 0) := by decide +kernel
theorem f_156_240 : mj_fetch 156 240 = some (.aload_n 0, 0, 0) := by decide +kernel
theorem f_156_241 : mj_fetch 156 241 = some (.iload_n 1, 0, 0) := by decide +kernel
theorem f_156_242 : mj_fetch 156 242 = some (.iload_n 2, 0, 0) := by decide +kernel
theorem f_156_243 : mj_fetch 156 243 = some (.iload_n 3, 0, 0) := by decide +kernel
theorem f_156_244 : mj_fetch 156 244 = some (.iload_n 3, 0, 0) := by decide +kernel
theorem f_156_245 : mj_fetch 156 245 = some (.iload 9, 0, 0) := by decide +kernel
theorem f_156_247 : mj_fetch 156 247 = some (.iadd, 0, 0) := by decide +kernel
theorem f_156_248 : mj_fetch 156 248 = some (.iload 5, 0, 0) := by decide +kernel
theorem f_156_250 : mj_fetch 156 250 = some (.iload 6, 0, 0) := by decide +kernel
theorem f_156_252 : mj_fetch 156 252 = some (.invokevirtual 231, 156, 0) := by decide +kernel
theorem f_156_255 : mj_fetch 156 255 = some (.aload_n 0, 0, 0) := by decide +kernel
theorem f_156_256 : mj_fetch 156 256 = some (.iload_n 1, 0, 0) := by decide +kernel
theorem f_156_257 : mj_fetch 156 257 = some (.iload_n 2, 0, 0) := by decide +kernel
theorem f_156_258 : mj_fetch 156 258 = some (.iload_n 3, 0, 0) := by decide +kernel
theorem f_156_259 : mj_fetch 156 259 = some (.iload 9, 0, 0) := by decide +kernel
theorem f_156_261 : mj_fetch 156 261 = some (.iadd, 0, 0) := by decide +kernel
theorem f_156_262 : mj_fetch 156 262 = some (.iconst 1, 0, 0) := by decide +kernel
theorem f_156_263 : mj_fetch 156 263 = some (.iadd, 0, 0) := by decide +kernel
theorem f_156_264 : mj_fetch 156 264 = some (.iload 4, 0, 0) := by decide +kernel
theorem f_156_266 : mj_fetch 156 266 = some (.iload 5, 0, 0) := by decide +kernel
theorem f_156_268 : mj_fetch 156 268 = some (.iload 6, 0, 0) := by decide +kernel
theorem f_156_270 : mj_fetch 156 270 = some (.invokevirtual 231, 156, 0) := by decide +kernel
theorem f_156_273 : mj_fetch 156 273 = some (.goto 37, 0, 0) := by decide +kernel
theorem f_156_276 : mj_fetch 156 276 = some (.aload_n 0, 0, 0) := by decide +kernel
theorem f_156_277 : mj_fetch 156 277 = some (.iload_n 1, 0, 0) := by decide +kernel
theorem f_156_278 : mj_fetch 156 278 = some (.iload_n 2, 0, 0) := by decide +kernel
theorem f_156_279 : mj_fetch 156 279 = some (.iload_n 3, 0, 0) := by decide +kernel
theorem f_156_280 : mj_fetch 156 280 = some (.iload 4, 0, 0) := by decide +kernel
theorem f_156_282 : mj_fetch 156 282 = some (.iload 5, 0, 0) := by decide +kernel
theorem f_156_284 : mj_fetch 156 284 = some (.iload 5, 0, 0) := by decide +kernel
theorem f_156_286 : mj_fetch 156 286 = some (.iload 9, 0, 0) := by decide +kernel
theorem f_156_288 : mj_fetch 156 288 = some (.iadd, 0, 0) := by decide +kernel
theorem f_156_289 : mj_fetch 156 289 = some (.invokevirtual 231, 156, 0) := by decide +kernel
theorem f_156_292 : mj_fetch 156 292 = some (.aload_n 0, 0, 0) := by decide +kernel
theorem f_156_293 : mj_fetch 156 293 = some (.iload_n 1, 0, 0) := by decide +kernel
theorem f_156_294 : mj_fetch 156 294 = some (.iload_n 2, 0, 0) := by decide +kernel
theorem f_156_295 : mj_fetch 156 295 = some (.iload_n 3, 0, 0) := by decide +kernel
theorem f_156_296 : mj_fetch 156 296 = some (.iload 4, 0, 0) := by decide +kernel
theorem f_156_298 : mj_fetch 156 298 = some (.iload 5, 0, 0) := by decide +kernel
theorem f_156_300 : mj_fetch 156 300 = some (.iload 9, 0, 0) := by decide +kernel
theorem f_156_302 : mj_fetch 156 302 = some (.iadd, 0, 0) := by decide +kernel
theorem f_156_303 : mj_fetch 156 303 = some (.iconst 1, 0, 0) := by decide +kernel
theorem f_156_304 : mj_fetch 156 304 = some (.iadd, 0, 0) := by decide +kernel
theorem f_156_305 : mj_fetch 156 305 = some (.iload 6, 0, 0) := by decide +kernel
theorem f_156_307 : mj_fetch 156 307 = some (.invokevirtual 231, 156, 0) := by decide +kernel
/-! A ROW OF NUMBERS followed through the boxes of a window: the boxes that wait, the place; none: it is right -/
abbrev Bx6 : Type := Nat × Nat × Nat × Nat × Nat × Nat
def ck (G : Gd) (T : Nat → Nat) (n : Nat) : Nat → Nat → List Bx6 → Option Nat
  | 0, p, _ => some p
  | _ + 1, p, [] => if p < n then some p else none
  | k + 1, p, (a, b, c, d, e, f) :: r => if p = n then some p else
    if T p < 2 then (if gcN G a b c d e f = (if T p = 0 then szN a b c d e f else 0) then ck G T n k (p + 1) r else some p)
    else if T p < 10 then (if T p - 2 < b - a then ck G T n k (p + 1) ((a, a + (T p - 2), c, d, e, f) :: (a + (T p - 2) + 1, b, c, d, e, f) :: r) else some p)
    else if T p < 18 then (if T p - 10 < d - c then ck G T n k (p + 1) ((a, b, c, c + (T p - 10), e, f) :: (a, b, c + (T p - 10) + 1, d, e, f) :: r) else some p)
    else if T p < 26 then (if T p - 18 < f - e then ck G T n k (p + 1) ((a, b, c, d, e, e + (T p - 18)) :: (a, b, c, d, e + (T p - 18) + 1, f) :: r) else some p)
    else some p
def CK (G : Gd) (T : Nat → Nat) (n p : Nat) (r : List Bx6) : Option Nat := ck G T n (n + 1 - p) p r
theorem CK_nil (G : Gd) (T : Nat → Nat) {n p : Nat} (hp : p ≤ n) : CK G T n p [] = if p < n then some p else none := by
  unfold CK
  rw [show n + 1 - p = n - p + 1 by omega]
  rfl
theorem CK_end (G : Gd) (T : Nat → Nat) {n : Nat} (x : Bx6) (r : List Bx6) : CK G T n n (x :: r) = some n := by
  obtain ⟨a, b, c, d, e, f⟩ := x
  unfold CK
  rw [show n + 1 - n = 0 + 1 by omega]
  unfold ck
  rw [if_pos rfl]
theorem CK_cons (G : Gd) (T : Nat → Nat) {n p : Nat} (hp : p < n) (a b c d e f : Nat) (r : List Bx6) : CK G T n p ((a, b, c, d, e, f) :: r) =
    if T p < 2 then (if gcN G a b c d e f = (if T p = 0 then szN a b c d e f else 0) then CK G T n (p + 1) r else some p)
    else if T p < 10 then (if T p - 2 < b - a then CK G T n (p + 1) ((a, a + (T p - 2), c, d, e, f) :: (a + (T p - 2) + 1, b, c, d, e, f) :: r) else some p)
    else if T p < 18 then (if T p - 10 < d - c then CK G T n (p + 1) ((a, b, c, c + (T p - 10), e, f) :: (a, b, c + (T p - 10) + 1, d, e, f) :: r) else some p)
    else if T p < 26 then (if T p - 18 < f - e then CK G T n (p + 1) ((a, b, c, d, e, e + (T p - 18)) :: (a, b, c, d, e + (T p - 18) + 1, f) :: r) else some p)
    else some p := by
  unfold CK
  rw [show n + 1 - p = n - p + 1 by omega, show n + 1 - (p + 1) = n - p by omega]
  conv => lhs; unfold ck
  rw [if_neg (show ¬ p = n by omega)]
/-- where a following stands: it goes on at a place, or was wrong at one -/
def CX (G : Gd) (T : Nat → Nat) (n : Nat) (x : Bool × Nat) (r : List Bx6) : Option Nat := if x.1 = true then CK G T n x.2 r else some x.2
def FS (h : mj_H) (n : Nat) (x : Bool × Nat) : Prop := x.2 ≤ n ∧ if x.1 = true then mj_I h 33 30 = -1 ∧ mj_I h 33 29 = nI x.2 else mj_I h 33 30 = nI x.2
def FI (h : mj_H) (jm w : Nat) (G : Gd) (W : Nat → Nat) (n : Nat) (T : Nat → Nat) : Prop := MW h jm ∧ w < 10 ∧ mj_I h 33 22 = nI w ∧ WN h w jm ∧ (∀ t p l, wg h w t p l = G t p l) ∧ (∀ a, a < 3 → wlo h w a + W a ≤ 9 ∧ W a ≤ 5) ∧ mj_I h 33 28 = nI n ∧ n ≤ 500 ∧ ∀ q, q < n → mj_I h 51 q = nI (T q) ∧ T q ≤ 31
def FE (h g : mj_H) (jm : Nat) : Prop := MW g jm ∧ Rw h g [33, 39, 40, 41, 42, 43, 44] ∧ ∀ q, q ∉ [14, 15, 17, 29, 30] → mj_I g 33 q = mj_I h 33 q
theorem FE.rf {h : mj_H} {jm : Nat} (w : MW h jm) : FE h h jm := ⟨w, Rw.rf _ _, fun _ _ => rfl⟩
theorem FE.trans {h g k : mj_H} {jm : Nat} (a : FE h g jm) (b : FE g k jm) : FE h k jm := ⟨b.1, a.2.1.trans b.2.1, fun q hq => (b.2.2 q hq).trans (a.2.2 q hq)⟩
theorem FE.mv {h g : mj_H} {jm : Nat} (a : MV h g jm) : FE h g jm := ⟨a.1, a.2.1.mono (by decide), fun q hq => a.2.2 q (fun z => hq (by rw [z]; decide)) (fun z => hq (by rw [z]; decide)) (fun z => hq (by rw [z]; decide))⟩
theorem FE.set {h g : mj_H} {jm i : Nat} {x : Int32} (a : FE h g jm) (hi : i ∈ [14, 15, 17, 29, 30]) : FE h (mj_setI g 33 i x) jm :=
  ⟨MW_33 a.1, a.2.1.set (by decide), fun q hq => (mj_I_ne (fun z => hq (by rw [z]; exact hi))).trans (a.2.2 q hq)⟩
theorem FE.sq {h g : mj_H} {jm : Nat} (a : FE h g jm) : SQ h g jm := ⟨a.1, a.2.1.mono (by decide), fun q hq => a.2.2 q (fun z => hq (by revert z; simp only [List.mem_cons, List.not_mem_nil, or_false]; omega))⟩
theorem FI.to {h g : mj_H} {jm w n : Nat} {G : Gd} {W T : Nat → Nat} (c : FI h jm w G W n T) (e : FE h g jm) : FI g jm w G W n T := by
  have e36 : mj_I g 36 = mj_I h 36 := e.2.1.i (by decide)
  have e45 : mj_I g 45 = mj_I h 45 := e.2.1.i (by decide)
  have e46 : mj_I g 46 = mj_I h 46 := e.2.1.i (by decide)
  have e47 : mj_I g 47 = mj_I h 47 := e.2.1.i (by decide)
  have e51 : mj_I g 51 = mj_I h 51 := e.2.1.i (by decide)
  exact ⟨e.1, c.2.1, (e.2.2 22 (by decide)).trans c.2.2.1, WN_to e45 e46 e47 c.2.2.2.1, fun t p l => (wg_to e36 e45 e46 w t p l).trans (c.2.2.2.2.1 t p l), fun a ha => by unfold wlo; rw [e46]; exact c.2.2.2.2.2.1 a ha, (e.2.2 28 (by decide)).trans c.2.2.2.2.2.2.1, c.2.2.2.2.2.2.2.1, fun q hq => by rw [e51]; exact c.2.2.2.2.2.2.2.2 q hq⟩
/-- the contract of follow on boxes of span s at most -/
def FoP (jm w : Nat) (G : Gd) (W : Nat → Nat) (n : Nat) (T : Nat → Nat) (s : Nat) : Prop := ∀ (a b c d e f : Nat) (x : Bool × Nat) (h : mj_H), BX W a b c d e f → spn a b c d e f ≤ s → FI h jm w G W n T → FS h n x →
  mxc (7 + s) 156 [.ref 33, .int (nI a), .int (nI b), .int (nI c), .int (nI d), .int (nI e), .int (nI f)] h (fun r h' => r = none ∧ FE h h' jm ∧ ∃ x', FS h' n x' ∧ ∀ r, CX G T n x ((a, b, c, d, e, f) :: r) = CX G T n x' r)
theorem FS_bad {h : mj_H} {n p : Nat} (hp : p ≤ n) (e : mj_I h 33 30 = nI p) : FS h n (false, p) := ⟨hp, e⟩
theorem FS_ok {h : mj_H} {n p : Nat} (hp : p ≤ n) (e1 : mj_I h 33 30 = -1) (e2 : mj_I h 33 29 = nI p) : FS h n (true, p) := ⟨hp, e1, e2⟩
theorem nI_ne_m1 {p : Nat} (hp : p < 2 ^ 31) : ¬ nI p = -1 := by
  intro q
  have := congrArg Int32.toInt q
  rw [nI_toInt hp] at this
  have k : (-1 : Int32).toInt = -1 := rfl
  omega


set_option maxRecDepth 20000 in
set_option maxHeartbeats 4000000 in
theorem follow_0 {jm w n : Nat} {G : Gd} {W T : Nat → Nat} : FoP jm w G W n T 0 := by
  intro a b c d e f x h hB hsp hF hX
  have S := hF.1.1
  have hB5 := hB
  unfold BX at hB5
  have a0 := hF.2.2.2.2.2.1 0 (by decide)
  have a1 := hF.2.2.2.2.2.1 1 (by decide)
  have a2 := hF.2.2.2.2.2.1 2 (by decide)
  have e28 := hF.2.2.2.2.2.2.1
  have hn5 := hF.2.2.2.2.2.2.2.1
  have hT := hF.2.2.2.2.2.2.2.2
  unfold spn at hsp
  obtain ⟨y, p⟩ := x
  obtain ⟨hp, hX⟩ := hX
  replace hp : p ≤ n := hp
  cases y with
  | false =>
    have e30 : mj_I h 33 30 = nI p := hX
    show mx (7 + 0) 156 0 [.ref 33, .int (nI a), .int (nI b), .int (nI c), .int (nI d), .int (nI e), .int (nI f), mj_unset, mj_unset, mj_unset, mj_unset] [] h _
    refine x_aload_n f_156_0 rfl ?_
    refine x_getI f_156_1 S.k33 (by decide) ?_
    refine x_topi (w := nI p) e30 ?_
    refine x_iconst (v := -1) f_156_4 (by decide) ?_
    refine x_icmp_eq (t := 9) f_156_5 (by decide) (fun c_1 => absurd c_1 (nI_ne_m1 (by omega))) (fun c_1 => ?_)
    refine x_retV f_156_8 rfl ?_
    exact ⟨rfl, FE.rf hF.1, (false, p), FS_bad hp e30, fun r => rfl⟩
  | true =>
    have e30 : mj_I h 33 30 = -1 := hX.1
    have e29 : mj_I h 33 29 = nI p := hX.2
    by_cases hpn : p = n
    · show mx (7 + 0) 156 0 [.ref 33, .int (nI a), .int (nI b), .int (nI c), .int (nI d), .int (nI e), .int (nI f), mj_unset, mj_unset, mj_unset, mj_unset] [] h _
      refine x_aload_n f_156_0 rfl ?_
      refine x_getI f_156_1 S.k33 (by decide) ?_
      refine x_topi (w := -1) e30 ?_
      refine x_iconst (v := -1) f_156_4 (by decide) ?_
      refine x_icmp_eq (t := 9) f_156_5 (by decide) (fun c_1 => ?_) (fun c_1 => absurd rfl c_1)
      refine x_aload_n f_156_9 rfl ?_
      refine x_getI f_156_10 S.k33 (by decide) ?_
      refine x_topi (w := nI p) e29 ?_
      refine x_aload_n f_156_13 rfl ?_
      refine x_getI f_156_14 S.k33 (by decide) ?_
      refine x_topi (w := nI n) e28 ?_
      refine x_icmpN_ne (t := 29) f_156_17 (by decide) (by omega) (by omega) (fun c_1 => by omega) (fun c_1 => ?_)
      refine x_aload_n f_156_20 rfl ?_
      refine x_aload_n f_156_21 rfl ?_
      refine x_getI f_156_22 S.k33 (by decide) ?_
      refine x_topi (w := nI p) e29 ?_
      refine x_putI f_156_25 S.k33 (by decide) ?_
      refine x_retV f_156_28 rfl ?_
      refine ⟨rfl, (FE.rf hF.1).set (by decide), (false, p), FS_bad hp (mj_I_at _ _ _ _), fun r => ?_⟩
      show CK G T n p _ = some p
      rw [hpn]
      exact CK_end G T _ r
    · replace hpn : p < n := by omega
      have h31 := (hT p hpn).2
      have hcases : T p < 2 ∨ (∃ i, i < 8 ∧ T p = 2 + i) ∨ (∃ i, i < 8 ∧ T p = 10 + i) ∨ (∃ i, i < 8 ∧ T p = 18 + i) ∨ (∃ i, i < 8 ∧ T p = 26 + i) := by
        by_cases k1 : T p < 2
        · exact Or.inl k1
        · by_cases k2 : T p < 10
          · exact Or.inr (Or.inl ⟨T p - 2, by omega, by omega⟩)
          · by_cases k3 : T p < 18
            · exact Or.inr (Or.inr (Or.inl ⟨T p - 10, by omega, by omega⟩))
            · by_cases k4 : T p < 26
              · exact Or.inr (Or.inr (Or.inr (Or.inl ⟨T p - 18, by omega, by omega⟩)))
              · exact Or.inr (Or.inr (Or.inr (Or.inr ⟨T p - 26, by omega, by omega⟩)))
      rcases hcases with hv2 | ⟨i, i8, e_T⟩ | ⟨i, i8, e_T⟩ | ⟨i, i8, e_T⟩ | ⟨i, i8, e_T⟩
      · have gle := gcN_le G (a := a) (b := b) (c := c) (d := d) (e := e) (f := f) (by omega) (by omega) (by omega)
        have sle := sz_216 (a := a) (b := b) (c := c) (d := d) (e := e) (f := f) (by omega) (by omega) (by omega)
        show mx (7 + 0) 156 0 [.ref 33, .int (nI a), .int (nI b), .int (nI c), .int (nI d), .int (nI e), .int (nI f), mj_unset, mj_unset, mj_unset, mj_unset] [] h _
        refine x_aload_n f_156_0 rfl ?_
        refine x_getI f_156_1 S.k33 (by decide) ?_
        refine x_topi (w := -1) e30 ?_
        refine x_iconst (v := -1) f_156_4 (by decide) ?_
        refine x_icmp_eq (t := 9) f_156_5 (by decide) (fun c_1 => ?_) (fun c_1 => absurd rfl c_1)
        refine x_aload_n f_156_9 rfl ?_
        refine x_getI f_156_10 S.k33 (by decide) ?_
        refine x_topi (w := nI p) e29 ?_
        refine x_aload_n f_156_13 rfl ?_
        refine x_getI f_156_14 S.k33 (by decide) ?_
        refine x_topi (w := nI n) e28 ?_
        refine x_icmpN_ne (t := 29) f_156_17 (by decide) (by omega) (by omega) (fun c_1 => ?_) (fun c_1 => by omega)
        refine x_aload_n f_156_29 rfl ?_
        refine x_getR f_156_30 S.k33 (by decide) S.r27 ?_
        refine x_aload_n f_156_33 rfl ?_
        refine x_getI f_156_34 S.k33 (by decide) ?_
        refine x_topi (w := nI p) e29 ?_
        refine x_iald (j := p) f_156_37 S.k51 (by omega) (by decide) ?_
        refine x_topi (w := nI (T p)) (hT p hpn).1 ?_
        refine x_istore (ls1 := [.ref 33, .int (nI a), .int (nI b), .int (nI c), .int (nI d), .int (nI e), .int (nI f), .int (nI (T p)), mj_unset, mj_unset, mj_unset]) f_156_38 (Nat.le_of_ble_eq_true rfl) rfl ?_
        refine x_iload f_156_40 rfl ?_
        refine x_iconst (v := nI 2) f_156_42 (by decide) ?_
        refine x_icmpN_ge (t := 107) f_156_43 (by decide) (by omega) (by decide) (fun c_2 => by omega) (fun c_2 => ?_)
        refine x_aload_n f_156_46 rfl ?_
        refine x_iload_n f_156_47 rfl ?_
        refine x_iload_n f_156_48 rfl ?_
        refine x_iload_n f_156_49 rfl ?_
        refine x_iload f_156_50 rfl ?_
        refine x_iload f_156_52 rfl ?_
        refine x_iload f_156_54 rfl ?_
        refine x_callV f_156_56 (c_goodIn hF.2.1 hF.2.2.1 hF.2.2.2.1 hF.1 (by omega) (by omega) (by omega) (by omega) (by omega) (by omega)) (by omega) S.k33 (by decide) rfl rfl (Nat.le_of_ble_eq_true rfl) rfl ?_
        rintro _ g ⟨rfl, hv⟩
        have S := hv.1.1
        have e29 : mj_I g 33 29 = nI p := (hv.2.2 29 (by decide) (by decide) (by decide)).trans e29
        have e30 : mj_I g 33 30 = -1 := (hv.2.2 30 (by decide) (by decide) (by decide)).trans e30
        refine x_istore (ls1 := [.ref 33, .int (nI a), .int (nI b), .int (nI c), .int (nI d), .int (nI e), .int (nI f), .int (nI (T p)), .int (nI (gc h w a b c d e f)), mj_unset, mj_unset]) f_156_59 (Nat.le_of_ble_eq_true rfl) rfl ?_
        rw [gc_eq hF.2.2.2.2.1]
        refine x_iload f_156_61 rfl ?_
        refine x_iload f_156_63 rfl ?_
        refine x_ifN_ne (t := 83) f_156_65 (by decide) (by omega) (fun c_z => ?_) (fun c_z => ?_)
        · refine x_iconst (v := nI 0) f_156_83 (by decide) ?_
          refine x_icmpN_eq (t := 96) f_156_84 (by decide) (by omega) (by decide) (fun c_g => ?_) (fun c_g => ?_)
          · refine x_aload_n f_156_96 rfl ?_
            refine x_dup f_156_97 rfl ?_
            refine x_getI f_156_98 S.k33 (by decide) ?_
            refine x_topi (w := nI p) e29 ?_
            refine x_iconst (v := nI 1) f_156_101 (by decide) ?_
            refine x_iaddN f_156_102 ?_
            refine x_putI f_156_103 S.k33 (by decide) ?_
            refine x_retV f_156_106 rfl ?_
            refine ⟨rfl, (FE.mv hv).set (by decide), (true, p + 1), FS_ok (by omega) ((mj_I_ne (by decide)).trans e30) (mj_I_at _ _ _ _), fun r => ?_⟩
            show CK G T n p _ = CK G T n (p + 1) r
            rw [CK_cons G T hpn, if_pos hv2]
            first | rw [if_pos c_z, if_pos c_g] | rw [if_neg c_z, if_pos c_g]
          · refine x_aload_n f_156_87 rfl ?_
            refine x_aload_n f_156_88 rfl ?_
            refine x_getI f_156_89 S.k33 (by decide) ?_
            refine x_topi (w := nI p) e29 ?_
            refine x_putI f_156_92 S.k33 (by decide) ?_
            refine x_retV f_156_95 rfl ?_
            refine ⟨rfl, (FE.mv hv).set (by decide), (false, p), FS_bad (by omega) (mj_I_at _ _ _ _), fun r => ?_⟩
            show CK G T n p _ = some p
            rw [CK_cons G T hpn, if_pos hv2]
            first | rw [if_pos c_z, if_neg c_g] | rw [if_neg c_z, if_neg c_g]
        · refine x_iload_n f_156_68 rfl ?_
          refine x_iload_n f_156_69 rfl ?_
          refine x_iload_n f_156_70 rfl ?_
          refine x_iload f_156_71 rfl ?_
          refine x_iload f_156_73 rfl ?_
          refine x_iload f_156_75 rfl ?_
          refine x_callSe f_156_77 (c_sizeOf _ _ _ _ _ _ _) (by omega) rfl rfl rfl (Nat.le_of_ble_eq_true rfl) rfl ?_
          refine x_goto (t := 84) f_156_80 (by decide) ?_
          refine x_topi (w := nI (szN a b c d e f)) (sz_eq hB5.1 hB5.2.2.1 hB5.2.2.2.2.1) ?_
          refine x_icmpN_eq (t := 96) f_156_84 (by decide) (by omega) (by omega) (fun c_g => ?_) (fun c_g => ?_)
          · refine x_aload_n f_156_96 rfl ?_
            refine x_dup f_156_97 rfl ?_
            refine x_getI f_156_98 S.k33 (by decide) ?_
            refine x_topi (w := nI p) e29 ?_
            refine x_iconst (v := nI 1) f_156_101 (by decide) ?_
            refine x_iaddN f_156_102 ?_
            refine x_putI f_156_103 S.k33 (by decide) ?_
            refine x_retV f_156_106 rfl ?_
            refine ⟨rfl, (FE.mv hv).set (by decide), (true, p + 1), FS_ok (by omega) ((mj_I_ne (by decide)).trans e30) (mj_I_at _ _ _ _), fun r => ?_⟩
            show CK G T n p _ = CK G T n (p + 1) r
            rw [CK_cons G T hpn, if_pos hv2]
            first | rw [if_pos c_z, if_pos c_g] | rw [if_neg c_z, if_pos c_g]
          · refine x_aload_n f_156_87 rfl ?_
            refine x_aload_n f_156_88 rfl ?_
            refine x_getI f_156_89 S.k33 (by decide) ?_
            refine x_topi (w := nI p) e29 ?_
            refine x_putI f_156_92 S.k33 (by decide) ?_
            refine x_retV f_156_95 rfl ?_
            refine ⟨rfl, (FE.mv hv).set (by decide), (false, p), FS_bad (by omega) (mj_I_at _ _ _ _), fun r => ?_⟩
            show CK G T n p _ = some p
            rw [CK_cons G T hpn, if_pos hv2]
            first | rw [if_pos c_z, if_neg c_g] | rw [if_neg c_z, if_neg c_g]
      · have e51 : mj_I h 51 p = nI (2 + i) := by rw [(hT p hpn).1, e_T]
        show mx (7 + 0) 156 0 [.ref 33, .int (nI a), .int (nI b), .int (nI c), .int (nI d), .int (nI e), .int (nI f), mj_unset, mj_unset, mj_unset, mj_unset] [] h _
        refine x_aload_n f_156_0 rfl ?_
        refine x_getI f_156_1 S.k33 (by decide) ?_
        refine x_topi (w := -1) e30 ?_
        refine x_iconst (v := -1) f_156_4 (by decide) ?_
        refine x_icmp_eq (t := 9) f_156_5 (by decide) (fun c_1 => ?_) (fun c_1 => absurd rfl c_1)
        refine x_aload_n f_156_9 rfl ?_
        refine x_getI f_156_10 S.k33 (by decide) ?_
        refine x_topi (w := nI p) e29 ?_
        refine x_aload_n f_156_13 rfl ?_
        refine x_getI f_156_14 S.k33 (by decide) ?_
        refine x_topi (w := nI n) e28 ?_
        refine x_icmpN_ne (t := 29) f_156_17 (by decide) (by omega) (by omega) (fun c_1 => ?_) (fun c_1 => by omega)
        refine x_aload_n f_156_29 rfl ?_
        refine x_getR f_156_30 S.k33 (by decide) S.r27 ?_
        refine x_aload_n f_156_33 rfl ?_
        refine x_getI f_156_34 S.k33 (by decide) ?_
        refine x_topi (w := nI p) e29 ?_
        refine x_iald (j := p) f_156_37 S.k51 (by omega) (by decide) ?_
        refine x_topi (w := nI (2 + i)) e51 ?_
        refine x_istore (ls1 := [.ref 33, .int (nI a), .int (nI b), .int (nI c), .int (nI d), .int (nI e), .int (nI f), .int (nI (2 + i)), mj_unset, mj_unset, mj_unset]) f_156_38 (Nat.le_of_ble_eq_true rfl) rfl ?_
        refine x_iload f_156_40 rfl ?_
        refine x_iconst (v := nI 2) f_156_42 (by decide) ?_
        refine x_icmpN_ge (t := 107) f_156_43 (by decide) (by omega) (by decide) (fun c_2 => ?_) (fun c_2 => by omega)
        refine x_iload f_156_107 rfl ?_
        refine x_iconst (v := nI 2) f_156_109 (by decide) ?_
        refine x_isubN f_156_110 (by omega) ?_
        refine x_bipush (v := nI 8) f_156_111 (by decide) ?_
        refine x_idivN f_156_113 (by omega) (by decide) (by decide) ?_
        refine x_topi (w := nI 0) (by rw [show (2 + i - 2) / 8 = 0 by omega]) ?_
        refine x_istore (ls1 := [.ref 33, .int (nI a), .int (nI b), .int (nI c), .int (nI d), .int (nI e), .int (nI f), .int (nI (2 + i)), .int (nI 0), mj_unset, mj_unset]) f_156_114 (Nat.le_of_ble_eq_true rfl) rfl ?_
        refine x_iload f_156_116 rfl ?_
        refine x_iconst (v := nI 2) f_156_118 (by decide) ?_
        refine x_isubN f_156_119 (by omega) ?_
        refine x_bipush (v := nI 8) f_156_120 (by decide) ?_
        refine x_iremN f_156_122 (by omega) (by decide) (by decide) ?_
        refine x_topi (w := nI i) (by rw [show (2 + i - 2) % 8 = i by omega]) ?_
        refine x_istore (ls1 := [.ref 33, .int (nI a), .int (nI b), .int (nI c), .int (nI d), .int (nI e), .int (nI f), .int (nI (2 + i)), .int (nI 0), .int (nI i), mj_unset]) f_156_123 (Nat.le_of_ble_eq_true rfl) rfl ?_
        refine x_iload f_156_125 rfl ?_
        refine x_ifN_ne (t := 136) f_156_127 (by decide) (by decide) (fun c_3 => by omega) (fun c_3 => ?_)
        refine x_iload_n f_156_130 rfl ?_
        refine x_iload_n f_156_131 rfl ?_
        refine x_isubN f_156_132 (by omega) ?_
        refine x_goto (t := 164) f_156_133 (by decide) ?_
        refine x_istore (ls1 := [.ref 33, .int (nI a), .int (nI b), .int (nI c), .int (nI d), .int (nI e), .int (nI f), .int (nI (2 + i)), .int (nI 0), .int (nI i), .int (nI (b - a))]) f_156_164 (Nat.le_of_ble_eq_true rfl) rfl ?_
        refine x_iload f_156_166 rfl ?_
        refine x_iload f_156_168 rfl ?_
        refine x_icmpN_lt (t := 182) f_156_170 (by decide) (by omega) (by omega) (fun c_m => by omega) (fun c_m => ?_)
        refine x_aload_n f_156_173 rfl ?_
        refine x_aload_n f_156_174 rfl ?_
        refine x_getI f_156_175 S.k33 (by decide) ?_
        refine x_topi (w := nI p) e29 ?_
        refine x_putI f_156_178 S.k33 (by decide) ?_
        refine x_retV f_156_181 rfl ?_
        refine ⟨rfl, (FE.rf hF.1).set (by decide), (false, p), FS_bad (by omega) (mj_I_at _ _ _ _), fun r => ?_⟩
        show CK G T n p _ = some p
        rw [CK_cons G T hpn, e_T, if_neg (show ¬ 2 + i < 2 by omega)]
        rw [if_pos (show 2 + i < 10 by omega), show 2 + i - 2 = i by omega, if_neg (show ¬ i < b - a by omega)]
      · have e51 : mj_I h 51 p = nI (10 + i) := by rw [(hT p hpn).1, e_T]
        show mx (7 + 0) 156 0 [.ref 33, .int (nI a), .int (nI b), .int (nI c), .int (nI d), .int (nI e), .int (nI f), mj_unset, mj_unset, mj_unset, mj_unset] [] h _
        refine x_aload_n f_156_0 rfl ?_
        refine x_getI f_156_1 S.k33 (by decide) ?_
        refine x_topi (w := -1) e30 ?_
        refine x_iconst (v := -1) f_156_4 (by decide) ?_
        refine x_icmp_eq (t := 9) f_156_5 (by decide) (fun c_1 => ?_) (fun c_1 => absurd rfl c_1)
        refine x_aload_n f_156_9 rfl ?_
        refine x_getI f_156_10 S.k33 (by decide) ?_
        refine x_topi (w := nI p) e29 ?_
        refine x_aload_n f_156_13 rfl ?_
        refine x_getI f_156_14 S.k33 (by decide) ?_
        refine x_topi (w := nI n) e28 ?_
        refine x_icmpN_ne (t := 29) f_156_17 (by decide) (by omega) (by omega) (fun c_1 => ?_) (fun c_1 => by omega)
        refine x_aload_n f_156_29 rfl ?_
        refine x_getR f_156_30 S.k33 (by decide) S.r27 ?_
        refine x_aload_n f_156_33 rfl ?_
        refine x_getI f_156_34 S.k33 (by decide) ?_
        refine x_topi (w := nI p) e29 ?_
        refine x_iald (j := p) f_156_37 S.k51 (by omega) (by decide) ?_
        refine x_topi (w := nI (10 + i)) e51 ?_
        refine x_istore (ls1 := [.ref 33, .int (nI a), .int (nI b), .int (nI c), .int (nI d), .int (nI e), .int (nI f), .int (nI (10 + i)), mj_unset, mj_unset, mj_unset]) f_156_38 (Nat.le_of_ble_eq_true rfl) rfl ?_
        refine x_iload f_156_40 rfl ?_
        refine x_iconst (v := nI 2) f_156_42 (by decide) ?_
        refine x_icmpN_ge (t := 107) f_156_43 (by decide) (by omega) (by decide) (fun c_2 => ?_) (fun c_2 => by omega)
        refine x_iload f_156_107 rfl ?_
        refine x_iconst (v := nI 2) f_156_109 (by decide) ?_
        refine x_isubN f_156_110 (by omega) ?_
        refine x_bipush (v := nI 8) f_156_111 (by decide) ?_
        refine x_idivN f_156_113 (by omega) (by decide) (by decide) ?_
        refine x_topi (w := nI 1) (by rw [show (10 + i - 2) / 8 = 1 by omega]) ?_
        refine x_istore (ls1 := [.ref 33, .int (nI a), .int (nI b), .int (nI c), .int (nI d), .int (nI e), .int (nI f), .int (nI (10 + i)), .int (nI 1), mj_unset, mj_unset]) f_156_114 (Nat.le_of_ble_eq_true rfl) rfl ?_
        refine x_iload f_156_116 rfl ?_
        refine x_iconst (v := nI 2) f_156_118 (by decide) ?_
        refine x_isubN f_156_119 (by omega) ?_
        refine x_bipush (v := nI 8) f_156_120 (by decide) ?_
        refine x_iremN f_156_122 (by omega) (by decide) (by decide) ?_
        refine x_topi (w := nI i) (by rw [show (10 + i - 2) % 8 = i by omega]) ?_
        refine x_istore (ls1 := [.ref 33, .int (nI a), .int (nI b), .int (nI c), .int (nI d), .int (nI e), .int (nI f), .int (nI (10 + i)), .int (nI 1), .int (nI i), mj_unset]) f_156_123 (Nat.le_of_ble_eq_true rfl) rfl ?_
        refine x_iload f_156_125 rfl ?_
        refine x_ifN_ne (t := 136) f_156_127 (by decide) (by decide) (fun c_3 => ?_) (fun c_3 => by omega)
        refine x_iload f_156_136 rfl ?_
        refine x_iconst (v := nI 1) f_156_138 (by decide) ?_
        refine x_icmpN_ne (t := 149) f_156_139 (by decide) (by decide) (by decide) (fun c_4 => by omega) (fun c_4 => ?_)
        refine x_iload f_156_142 rfl ?_
        refine x_iload_n f_156_144 rfl ?_
        refine x_isubN f_156_145 (by omega) ?_
        refine x_goto (t := 164) f_156_146 (by decide) ?_
        refine x_istore (ls1 := [.ref 33, .int (nI a), .int (nI b), .int (nI c), .int (nI d), .int (nI e), .int (nI f), .int (nI (10 + i)), .int (nI 1), .int (nI i), .int (nI (d - c))]) f_156_164 (Nat.le_of_ble_eq_true rfl) rfl ?_
        refine x_iload f_156_166 rfl ?_
        refine x_iload f_156_168 rfl ?_
        refine x_icmpN_lt (t := 182) f_156_170 (by decide) (by omega) (by omega) (fun c_m => by omega) (fun c_m => ?_)
        refine x_aload_n f_156_173 rfl ?_
        refine x_aload_n f_156_174 rfl ?_
        refine x_getI f_156_175 S.k33 (by decide) ?_
        refine x_topi (w := nI p) e29 ?_
        refine x_putI f_156_178 S.k33 (by decide) ?_
        refine x_retV f_156_181 rfl ?_
        refine ⟨rfl, (FE.rf hF.1).set (by decide), (false, p), FS_bad (by omega) (mj_I_at _ _ _ _), fun r => ?_⟩
        show CK G T n p _ = some p
        rw [CK_cons G T hpn, e_T, if_neg (show ¬ 10 + i < 2 by omega), if_neg (show ¬ 10 + i < 10 by omega)]
        rw [if_pos (show 10 + i < 18 by omega), show 10 + i - 10 = i by omega, if_neg (show ¬ i < d - c by omega)]
      · have e51 : mj_I h 51 p = nI (18 + i) := by rw [(hT p hpn).1, e_T]
        show mx (7 + 0) 156 0 [.ref 33, .int (nI a), .int (nI b), .int (nI c), .int (nI d), .int (nI e), .int (nI f), mj_unset, mj_unset, mj_unset, mj_unset] [] h _
        refine x_aload_n f_156_0 rfl ?_
        refine x_getI f_156_1 S.k33 (by decide) ?_
        refine x_topi (w := -1) e30 ?_
        refine x_iconst (v := -1) f_156_4 (by decide) ?_
        refine x_icmp_eq (t := 9) f_156_5 (by decide) (fun c_1 => ?_) (fun c_1 => absurd rfl c_1)
        refine x_aload_n f_156_9 rfl ?_
        refine x_getI f_156_10 S.k33 (by decide) ?_
        refine x_topi (w := nI p) e29 ?_
        refine x_aload_n f_156_13 rfl ?_
        refine x_getI f_156_14 S.k33 (by decide) ?_
        refine x_topi (w := nI n) e28 ?_
        refine x_icmpN_ne (t := 29) f_156_17 (by decide) (by omega) (by omega) (fun c_1 => ?_) (fun c_1 => by omega)
        refine x_aload_n f_156_29 rfl ?_
        refine x_getR f_156_30 S.k33 (by decide) S.r27 ?_
        refine x_aload_n f_156_33 rfl ?_
        refine x_getI f_156_34 S.k33 (by decide) ?_
        refine x_topi (w := nI p) e29 ?_
        refine x_iald (j := p) f_156_37 S.k51 (by omega) (by decide) ?_
        refine x_topi (w := nI (18 + i)) e51 ?_
        refine x_istore (ls1 := [.ref 33, .int (nI a), .int (nI b), .int (nI c), .int (nI d), .int (nI e), .int (nI f), .int (nI (18 + i)), mj_unset, mj_unset, mj_unset]) f_156_38 (Nat.le_of_ble_eq_true rfl) rfl ?_
        refine x_iload f_156_40 rfl ?_
        refine x_iconst (v := nI 2) f_156_42 (by decide) ?_
        refine x_icmpN_ge (t := 107) f_156_43 (by decide) (by omega) (by decide) (fun c_2 => ?_) (fun c_2 => by omega)
        refine x_iload f_156_107 rfl ?_
        refine x_iconst (v := nI 2) f_156_109 (by decide) ?_
        refine x_isubN f_156_110 (by omega) ?_
        refine x_bipush (v := nI 8) f_156_111 (by decide) ?_
        refine x_idivN f_156_113 (by omega) (by decide) (by decide) ?_
        refine x_topi (w := nI 2) (by rw [show (18 + i - 2) / 8 = 2 by omega]) ?_
        refine x_istore (ls1 := [.ref 33, .int (nI a), .int (nI b), .int (nI c), .int (nI d), .int (nI e), .int (nI f), .int (nI (18 + i)), .int (nI 2), mj_unset, mj_unset]) f_156_114 (Nat.le_of_ble_eq_true rfl) rfl ?_
        refine x_iload f_156_116 rfl ?_
        refine x_iconst (v := nI 2) f_156_118 (by decide) ?_
        refine x_isubN f_156_119 (by omega) ?_
        refine x_bipush (v := nI 8) f_156_120 (by decide) ?_
        refine x_iremN f_156_122 (by omega) (by decide) (by decide) ?_
        refine x_topi (w := nI i) (by rw [show (18 + i - 2) % 8 = i by omega]) ?_
        refine x_istore (ls1 := [.ref 33, .int (nI a), .int (nI b), .int (nI c), .int (nI d), .int (nI e), .int (nI f), .int (nI (18 + i)), .int (nI 2), .int (nI i), mj_unset]) f_156_123 (Nat.le_of_ble_eq_true rfl) rfl ?_
        refine x_iload f_156_125 rfl ?_
        refine x_ifN_ne (t := 136) f_156_127 (by decide) (by decide) (fun c_3 => ?_) (fun c_3 => by omega)
        refine x_iload f_156_136 rfl ?_
        refine x_iconst (v := nI 1) f_156_138 (by decide) ?_
        refine x_icmpN_ne (t := 149) f_156_139 (by decide) (by decide) (by decide) (fun c_4 => ?_) (fun c_4 => by omega)
        refine x_iload f_156_149 rfl ?_
        refine x_iconst (v := nI 2) f_156_151 (by decide) ?_
        refine x_icmpN_ne (t := 163) f_156_152 (by decide) (by decide) (by decide) (fun c_5 => by omega) (fun c_5 => ?_)
        refine x_iload f_156_155 rfl ?_
        refine x_iload f_156_157 rfl ?_
        refine x_isubN f_156_159 (by omega) ?_
        refine x_goto (t := 164) f_156_160 (by decide) ?_
        refine x_istore (ls1 := [.ref 33, .int (nI a), .int (nI b), .int (nI c), .int (nI d), .int (nI e), .int (nI f), .int (nI (18 + i)), .int (nI 2), .int (nI i), .int (nI (f - e))]) f_156_164 (Nat.le_of_ble_eq_true rfl) rfl ?_
        refine x_iload f_156_166 rfl ?_
        refine x_iload f_156_168 rfl ?_
        refine x_icmpN_lt (t := 182) f_156_170 (by decide) (by omega) (by omega) (fun c_m => by omega) (fun c_m => ?_)
        refine x_aload_n f_156_173 rfl ?_
        refine x_aload_n f_156_174 rfl ?_
        refine x_getI f_156_175 S.k33 (by decide) ?_
        refine x_topi (w := nI p) e29 ?_
        refine x_putI f_156_178 S.k33 (by decide) ?_
        refine x_retV f_156_181 rfl ?_
        refine ⟨rfl, (FE.rf hF.1).set (by decide), (false, p), FS_bad (by omega) (mj_I_at _ _ _ _), fun r => ?_⟩
        show CK G T n p _ = some p
        rw [CK_cons G T hpn, e_T, if_neg (show ¬ 18 + i < 2 by omega), if_neg (show ¬ 18 + i < 10 by omega), if_neg (show ¬ 18 + i < 18 by omega)]
        rw [if_pos (show 18 + i < 26 by omega), show 18 + i - 18 = i by omega, if_neg (show ¬ i < f - e by omega)]
      · have e51 : mj_I h 51 p = nI (26 + i) := by rw [(hT p hpn).1, e_T]
        show mx (7 + 0) 156 0 [.ref 33, .int (nI a), .int (nI b), .int (nI c), .int (nI d), .int (nI e), .int (nI f), mj_unset, mj_unset, mj_unset, mj_unset] [] h _
        refine x_aload_n f_156_0 rfl ?_
        refine x_getI f_156_1 S.k33 (by decide) ?_
        refine x_topi (w := -1) e30 ?_
        refine x_iconst (v := -1) f_156_4 (by decide) ?_
        refine x_icmp_eq (t := 9) f_156_5 (by decide) (fun c_1 => ?_) (fun c_1 => absurd rfl c_1)
        refine x_aload_n f_156_9 rfl ?_
        refine x_getI f_156_10 S.k33 (by decide) ?_
        refine x_topi (w := nI p) e29 ?_
        refine x_aload_n f_156_13 rfl ?_
        refine x_getI f_156_14 S.k33 (by decide) ?_
        refine x_topi (w := nI n) e28 ?_
        refine x_icmpN_ne (t := 29) f_156_17 (by decide) (by omega) (by omega) (fun c_1 => ?_) (fun c_1 => by omega)
        refine x_aload_n f_156_29 rfl ?_
        refine x_getR f_156_30 S.k33 (by decide) S.r27 ?_
        refine x_aload_n f_156_33 rfl ?_
        refine x_getI f_156_34 S.k33 (by decide) ?_
        refine x_topi (w := nI p) e29 ?_
        refine x_iald (j := p) f_156_37 S.k51 (by omega) (by decide) ?_
        refine x_topi (w := nI (26 + i)) e51 ?_
        refine x_istore (ls1 := [.ref 33, .int (nI a), .int (nI b), .int (nI c), .int (nI d), .int (nI e), .int (nI f), .int (nI (26 + i)), mj_unset, mj_unset, mj_unset]) f_156_38 (Nat.le_of_ble_eq_true rfl) rfl ?_
        refine x_iload f_156_40 rfl ?_
        refine x_iconst (v := nI 2) f_156_42 (by decide) ?_
        refine x_icmpN_ge (t := 107) f_156_43 (by decide) (by omega) (by decide) (fun c_2 => ?_) (fun c_2 => by omega)
        refine x_iload f_156_107 rfl ?_
        refine x_iconst (v := nI 2) f_156_109 (by decide) ?_
        refine x_isubN f_156_110 (by omega) ?_
        refine x_bipush (v := nI 8) f_156_111 (by decide) ?_
        refine x_idivN f_156_113 (by omega) (by decide) (by decide) ?_
        refine x_topi (w := nI 3) (by rw [show (26 + i - 2) / 8 = 3 by omega]) ?_
        refine x_istore (ls1 := [.ref 33, .int (nI a), .int (nI b), .int (nI c), .int (nI d), .int (nI e), .int (nI f), .int (nI (26 + i)), .int (nI 3), mj_unset, mj_unset]) f_156_114 (Nat.le_of_ble_eq_true rfl) rfl ?_
        refine x_iload f_156_116 rfl ?_
        refine x_iconst (v := nI 2) f_156_118 (by decide) ?_
        refine x_isubN f_156_119 (by omega) ?_
        refine x_bipush (v := nI 8) f_156_120 (by decide) ?_
        refine x_iremN f_156_122 (by omega) (by decide) (by decide) ?_
        refine x_topi (w := nI i) (by rw [show (26 + i - 2) % 8 = i by omega]) ?_
        refine x_istore (ls1 := [.ref 33, .int (nI a), .int (nI b), .int (nI c), .int (nI d), .int (nI e), .int (nI f), .int (nI (26 + i)), .int (nI 3), .int (nI i), mj_unset]) f_156_123 (Nat.le_of_ble_eq_true rfl) rfl ?_
        refine x_iload f_156_125 rfl ?_
        refine x_ifN_ne (t := 136) f_156_127 (by decide) (by decide) (fun c_3 => ?_) (fun c_3 => by omega)
        refine x_iload f_156_136 rfl ?_
        refine x_iconst (v := nI 1) f_156_138 (by decide) ?_
        refine x_icmpN_ne (t := 149) f_156_139 (by decide) (by decide) (by decide) (fun c_4 => ?_) (fun c_4 => by omega)
        refine x_iload f_156_149 rfl ?_
        refine x_iconst (v := nI 2) f_156_151 (by decide) ?_
        refine x_icmpN_ne (t := 163) f_156_152 (by decide) (by decide) (by decide) (fun c_5 => ?_) (fun c_5 => by omega)
        refine x_iconst (v := nI 0) f_156_163 (by decide) ?_
        refine x_istore (ls1 := [.ref 33, .int (nI a), .int (nI b), .int (nI c), .int (nI d), .int (nI e), .int (nI f), .int (nI (26 + i)), .int (nI 3), .int (nI i), .int (nI 0)]) f_156_164 (Nat.le_of_ble_eq_true rfl) rfl ?_
        refine x_iload f_156_166 rfl ?_
        refine x_iload f_156_168 rfl ?_
        refine x_icmpN_lt (t := 182) f_156_170 (by decide) (by omega) (by decide) (fun c_m => by omega) (fun c_m => ?_)
        refine x_aload_n f_156_173 rfl ?_
        refine x_aload_n f_156_174 rfl ?_
        refine x_getI f_156_175 S.k33 (by decide) ?_
        refine x_topi (w := nI p) e29 ?_
        refine x_putI f_156_178 S.k33 (by decide) ?_
        refine x_retV f_156_181 rfl ?_
        refine ⟨rfl, (FE.rf hF.1).set (by decide), (false, p), FS_bad (by omega) (mj_I_at _ _ _ _), fun r => ?_⟩
        show CK G T n p _ = some p
        rw [CK_cons G T hpn, e_T, if_neg (show ¬ 26 + i < 2 by omega), if_neg (show ¬ 26 + i < 10 by omega), if_neg (show ¬ 26 + i < 18 by omega), if_neg (show ¬ 26 + i < 26 by omega)]
set_option maxRecDepth 20000 in
set_option maxHeartbeats 4000000 in
theorem follow_s {jm w n s : Nat} {G : Gd} {W T : Nat → Nat} (IH : FoP jm w G W n T s) : FoP jm w G W n T (s + 1) := by
  intro a b c d e f x h hB hsp hF hX
  have S := hF.1.1
  have hB5 := hB
  unfold BX at hB5
  have a0 := hF.2.2.2.2.2.1 0 (by decide)
  have a1 := hF.2.2.2.2.2.1 1 (by decide)
  have a2 := hF.2.2.2.2.2.1 2 (by decide)
  have e28 := hF.2.2.2.2.2.2.1
  have hn5 := hF.2.2.2.2.2.2.2.1
  have hT := hF.2.2.2.2.2.2.2.2
  unfold spn at hsp
  obtain ⟨y, p⟩ := x
  obtain ⟨hp, hX⟩ := hX
  replace hp : p ≤ n := hp
  cases y with
  | false =>
    have e30 : mj_I h 33 30 = nI p := hX
    show mx (7 + (s + 1)) 156 0 [.ref 33, .int (nI a), .int (nI b), .int (nI c), .int (nI d), .int (nI e), .int (nI f), mj_unset, mj_unset, mj_unset, mj_unset] [] h _
    refine x_aload_n f_156_0 rfl ?_
    refine x_getI f_156_1 S.k33 (by decide) ?_
    refine x_topi (w := nI p) e30 ?_
    refine x_iconst (v := -1) f_156_4 (by decide) ?_
    refine x_icmp_eq (t := 9) f_156_5 (by decide) (fun c_1 => absurd c_1 (nI_ne_m1 (by omega))) (fun c_1 => ?_)
    refine x_retV f_156_8 rfl ?_
    exact ⟨rfl, FE.rf hF.1, (false, p), FS_bad hp e30, fun r => rfl⟩
  | true =>
    have e30 : mj_I h 33 30 = -1 := hX.1
    have e29 : mj_I h 33 29 = nI p := hX.2
    by_cases hpn : p = n
    · show mx (7 + (s + 1)) 156 0 [.ref 33, .int (nI a), .int (nI b), .int (nI c), .int (nI d), .int (nI e), .int (nI f), mj_unset, mj_unset, mj_unset, mj_unset] [] h _
      refine x_aload_n f_156_0 rfl ?_
      refine x_getI f_156_1 S.k33 (by decide) ?_
      refine x_topi (w := -1) e30 ?_
      refine x_iconst (v := -1) f_156_4 (by decide) ?_
      refine x_icmp_eq (t := 9) f_156_5 (by decide) (fun c_1 => ?_) (fun c_1 => absurd rfl c_1)
      refine x_aload_n f_156_9 rfl ?_
      refine x_getI f_156_10 S.k33 (by decide) ?_
      refine x_topi (w := nI p) e29 ?_
      refine x_aload_n f_156_13 rfl ?_
      refine x_getI f_156_14 S.k33 (by decide) ?_
      refine x_topi (w := nI n) e28 ?_
      refine x_icmpN_ne (t := 29) f_156_17 (by decide) (by omega) (by omega) (fun c_1 => by omega) (fun c_1 => ?_)
      refine x_aload_n f_156_20 rfl ?_
      refine x_aload_n f_156_21 rfl ?_
      refine x_getI f_156_22 S.k33 (by decide) ?_
      refine x_topi (w := nI p) e29 ?_
      refine x_putI f_156_25 S.k33 (by decide) ?_
      refine x_retV f_156_28 rfl ?_
      refine ⟨rfl, (FE.rf hF.1).set (by decide), (false, p), FS_bad hp (mj_I_at _ _ _ _), fun r => ?_⟩
      show CK G T n p _ = some p
      rw [hpn]
      exact CK_end G T _ r
    · replace hpn : p < n := by omega
      have h31 := (hT p hpn).2
      have hcases : T p < 2 ∨ (∃ i, i < 8 ∧ T p = 2 + i) ∨ (∃ i, i < 8 ∧ T p = 10 + i) ∨ (∃ i, i < 8 ∧ T p = 18 + i) ∨ (∃ i, i < 8 ∧ T p = 26 + i) := by
        by_cases k1 : T p < 2
        · exact Or.inl k1
        · by_cases k2 : T p < 10
          · exact Or.inr (Or.inl ⟨T p - 2, by omega, by omega⟩)
          · by_cases k3 : T p < 18
            · exact Or.inr (Or.inr (Or.inl ⟨T p - 10, by omega, by omega⟩))
            · by_cases k4 : T p < 26
              · exact Or.inr (Or.inr (Or.inr (Or.inl ⟨T p - 18, by omega, by omega⟩)))
              · exact Or.inr (Or.inr (Or.inr (Or.inr ⟨T p - 26, by omega, by omega⟩)))
      rcases hcases with hv2 | ⟨i, i8, e_T⟩ | ⟨i, i8, e_T⟩ | ⟨i, i8, e_T⟩ | ⟨i, i8, e_T⟩
      · have gle := gcN_le G (a := a) (b := b) (c := c) (d := d) (e := e) (f := f) (by omega) (by omega) (by omega)
        have sle := sz_216 (a := a) (b := b) (c := c) (d := d) (e := e) (f := f) (by omega) (by omega) (by omega)
        show mx (7 + (s + 1)) 156 0 [.ref 33, .int (nI a), .int (nI b), .int (nI c), .int (nI d), .int (nI e), .int (nI f), mj_unset, mj_unset, mj_unset, mj_unset] [] h _
        refine x_aload_n f_156_0 rfl ?_
        refine x_getI f_156_1 S.k33 (by decide) ?_
        refine x_topi (w := -1) e30 ?_
        refine x_iconst (v := -1) f_156_4 (by decide) ?_
        refine x_icmp_eq (t := 9) f_156_5 (by decide) (fun c_1 => ?_) (fun c_1 => absurd rfl c_1)
        refine x_aload_n f_156_9 rfl ?_
        refine x_getI f_156_10 S.k33 (by decide) ?_
        refine x_topi (w := nI p) e29 ?_
        refine x_aload_n f_156_13 rfl ?_
        refine x_getI f_156_14 S.k33 (by decide) ?_
        refine x_topi (w := nI n) e28 ?_
        refine x_icmpN_ne (t := 29) f_156_17 (by decide) (by omega) (by omega) (fun c_1 => ?_) (fun c_1 => by omega)
        refine x_aload_n f_156_29 rfl ?_
        refine x_getR f_156_30 S.k33 (by decide) S.r27 ?_
        refine x_aload_n f_156_33 rfl ?_
        refine x_getI f_156_34 S.k33 (by decide) ?_
        refine x_topi (w := nI p) e29 ?_
        refine x_iald (j := p) f_156_37 S.k51 (by omega) (by decide) ?_
        refine x_topi (w := nI (T p)) (hT p hpn).1 ?_
        refine x_istore (ls1 := [.ref 33, .int (nI a), .int (nI b), .int (nI c), .int (nI d), .int (nI e), .int (nI f), .int (nI (T p)), mj_unset, mj_unset, mj_unset]) f_156_38 (Nat.le_of_ble_eq_true rfl) rfl ?_
        refine x_iload f_156_40 rfl ?_
        refine x_iconst (v := nI 2) f_156_42 (by decide) ?_
        refine x_icmpN_ge (t := 107) f_156_43 (by decide) (by omega) (by decide) (fun c_2 => by omega) (fun c_2 => ?_)
        refine x_aload_n f_156_46 rfl ?_
        refine x_iload_n f_156_47 rfl ?_
        refine x_iload_n f_156_48 rfl ?_
        refine x_iload_n f_156_49 rfl ?_
        refine x_iload f_156_50 rfl ?_
        refine x_iload f_156_52 rfl ?_
        refine x_iload f_156_54 rfl ?_
        refine x_callV f_156_56 (c_goodIn hF.2.1 hF.2.2.1 hF.2.2.2.1 hF.1 (by omega) (by omega) (by omega) (by omega) (by omega) (by omega)) (by omega) S.k33 (by decide) rfl rfl (Nat.le_of_ble_eq_true rfl) rfl ?_
        rintro _ g ⟨rfl, hv⟩
        have S := hv.1.1
        have e29 : mj_I g 33 29 = nI p := (hv.2.2 29 (by decide) (by decide) (by decide)).trans e29
        have e30 : mj_I g 33 30 = -1 := (hv.2.2 30 (by decide) (by decide) (by decide)).trans e30
        refine x_istore (ls1 := [.ref 33, .int (nI a), .int (nI b), .int (nI c), .int (nI d), .int (nI e), .int (nI f), .int (nI (T p)), .int (nI (gc h w a b c d e f)), mj_unset, mj_unset]) f_156_59 (Nat.le_of_ble_eq_true rfl) rfl ?_
        rw [gc_eq hF.2.2.2.2.1]
        refine x_iload f_156_61 rfl ?_
        refine x_iload f_156_63 rfl ?_
        refine x_ifN_ne (t := 83) f_156_65 (by decide) (by omega) (fun c_z => ?_) (fun c_z => ?_)
        · refine x_iconst (v := nI 0) f_156_83 (by decide) ?_
          refine x_icmpN_eq (t := 96) f_156_84 (by decide) (by omega) (by decide) (fun c_g => ?_) (fun c_g => ?_)
          · refine x_aload_n f_156_96 rfl ?_
            refine x_dup f_156_97 rfl ?_
            refine x_getI f_156_98 S.k33 (by decide) ?_
            refine x_topi (w := nI p) e29 ?_
            refine x_iconst (v := nI 1) f_156_101 (by decide) ?_
            refine x_iaddN f_156_102 ?_
            refine x_putI f_156_103 S.k33 (by decide) ?_
            refine x_retV f_156_106 rfl ?_
            refine ⟨rfl, (FE.mv hv).set (by decide), (true, p + 1), FS_ok (by omega) ((mj_I_ne (by decide)).trans e30) (mj_I_at _ _ _ _), fun r => ?_⟩
            show CK G T n p _ = CK G T n (p + 1) r
            rw [CK_cons G T hpn, if_pos hv2]
            first | rw [if_pos c_z, if_pos c_g] | rw [if_neg c_z, if_pos c_g]
          · refine x_aload_n f_156_87 rfl ?_
            refine x_aload_n f_156_88 rfl ?_
            refine x_getI f_156_89 S.k33 (by decide) ?_
            refine x_topi (w := nI p) e29 ?_
            refine x_putI f_156_92 S.k33 (by decide) ?_
            refine x_retV f_156_95 rfl ?_
            refine ⟨rfl, (FE.mv hv).set (by decide), (false, p), FS_bad (by omega) (mj_I_at _ _ _ _), fun r => ?_⟩
            show CK G T n p _ = some p
            rw [CK_cons G T hpn, if_pos hv2]
            first | rw [if_pos c_z, if_neg c_g] | rw [if_neg c_z, if_neg c_g]
        · refine x_iload_n f_156_68 rfl ?_
          refine x_iload_n f_156_69 rfl ?_
          refine x_iload_n f_156_70 rfl ?_
          refine x_iload f_156_71 rfl ?_
          refine x_iload f_156_73 rfl ?_
          refine x_iload f_156_75 rfl ?_
          refine x_callSe f_156_77 (c_sizeOf _ _ _ _ _ _ _) (by omega) rfl rfl rfl (Nat.le_of_ble_eq_true rfl) rfl ?_
          refine x_goto (t := 84) f_156_80 (by decide) ?_
          refine x_topi (w := nI (szN a b c d e f)) (sz_eq hB5.1 hB5.2.2.1 hB5.2.2.2.2.1) ?_
          refine x_icmpN_eq (t := 96) f_156_84 (by decide) (by omega) (by omega) (fun c_g => ?_) (fun c_g => ?_)
          · refine x_aload_n f_156_96 rfl ?_
            refine x_dup f_156_97 rfl ?_
            refine x_getI f_156_98 S.k33 (by decide) ?_
            refine x_topi (w := nI p) e29 ?_
            refine x_iconst (v := nI 1) f_156_101 (by decide) ?_
            refine x_iaddN f_156_102 ?_
            refine x_putI f_156_103 S.k33 (by decide) ?_
            refine x_retV f_156_106 rfl ?_
            refine ⟨rfl, (FE.mv hv).set (by decide), (true, p + 1), FS_ok (by omega) ((mj_I_ne (by decide)).trans e30) (mj_I_at _ _ _ _), fun r => ?_⟩
            show CK G T n p _ = CK G T n (p + 1) r
            rw [CK_cons G T hpn, if_pos hv2]
            first | rw [if_pos c_z, if_pos c_g] | rw [if_neg c_z, if_pos c_g]
          · refine x_aload_n f_156_87 rfl ?_
            refine x_aload_n f_156_88 rfl ?_
            refine x_getI f_156_89 S.k33 (by decide) ?_
            refine x_topi (w := nI p) e29 ?_
            refine x_putI f_156_92 S.k33 (by decide) ?_
            refine x_retV f_156_95 rfl ?_
            refine ⟨rfl, (FE.mv hv).set (by decide), (false, p), FS_bad (by omega) (mj_I_at _ _ _ _), fun r => ?_⟩
            show CK G T n p _ = some p
            rw [CK_cons G T hpn, if_pos hv2]
            first | rw [if_pos c_z, if_neg c_g] | rw [if_neg c_z, if_neg c_g]
      · have e51 : mj_I h 51 p = nI (2 + i) := by rw [(hT p hpn).1, e_T]
        have q0 : FE h (mj_setI h 33 29 (nI (p + 1))) jm := (FE.rf hF.1).set (by decide)
        show mx (7 + (s + 1)) 156 0 [.ref 33, .int (nI a), .int (nI b), .int (nI c), .int (nI d), .int (nI e), .int (nI f), mj_unset, mj_unset, mj_unset, mj_unset] [] h _
        refine x_aload_n f_156_0 rfl ?_
        refine x_getI f_156_1 S.k33 (by decide) ?_
        refine x_topi (w := -1) e30 ?_
        refine x_iconst (v := -1) f_156_4 (by decide) ?_
        refine x_icmp_eq (t := 9) f_156_5 (by decide) (fun c_1 => ?_) (fun c_1 => absurd rfl c_1)
        refine x_aload_n f_156_9 rfl ?_
        refine x_getI f_156_10 S.k33 (by decide) ?_
        refine x_topi (w := nI p) e29 ?_
        refine x_aload_n f_156_13 rfl ?_
        refine x_getI f_156_14 S.k33 (by decide) ?_
        refine x_topi (w := nI n) e28 ?_
        refine x_icmpN_ne (t := 29) f_156_17 (by decide) (by omega) (by omega) (fun c_1 => ?_) (fun c_1 => by omega)
        refine x_aload_n f_156_29 rfl ?_
        refine x_getR f_156_30 S.k33 (by decide) S.r27 ?_
        refine x_aload_n f_156_33 rfl ?_
        refine x_getI f_156_34 S.k33 (by decide) ?_
        refine x_topi (w := nI p) e29 ?_
        refine x_iald (j := p) f_156_37 S.k51 (by omega) (by decide) ?_
        refine x_topi (w := nI (2 + i)) e51 ?_
        refine x_istore (ls1 := [.ref 33, .int (nI a), .int (nI b), .int (nI c), .int (nI d), .int (nI e), .int (nI f), .int (nI (2 + i)), mj_unset, mj_unset, mj_unset]) f_156_38 (Nat.le_of_ble_eq_true rfl) rfl ?_
        refine x_iload f_156_40 rfl ?_
        refine x_iconst (v := nI 2) f_156_42 (by decide) ?_
        refine x_icmpN_ge (t := 107) f_156_43 (by decide) (by omega) (by decide) (fun c_2 => ?_) (fun c_2 => by omega)
        refine x_iload f_156_107 rfl ?_
        refine x_iconst (v := nI 2) f_156_109 (by decide) ?_
        refine x_isubN f_156_110 (by omega) ?_
        refine x_bipush (v := nI 8) f_156_111 (by decide) ?_
        refine x_idivN f_156_113 (by omega) (by decide) (by decide) ?_
        refine x_topi (w := nI 0) (by rw [show (2 + i - 2) / 8 = 0 by omega]) ?_
        refine x_istore (ls1 := [.ref 33, .int (nI a), .int (nI b), .int (nI c), .int (nI d), .int (nI e), .int (nI f), .int (nI (2 + i)), .int (nI 0), mj_unset, mj_unset]) f_156_114 (Nat.le_of_ble_eq_true rfl) rfl ?_
        refine x_iload f_156_116 rfl ?_
        refine x_iconst (v := nI 2) f_156_118 (by decide) ?_
        refine x_isubN f_156_119 (by omega) ?_
        refine x_bipush (v := nI 8) f_156_120 (by decide) ?_
        refine x_iremN f_156_122 (by omega) (by decide) (by decide) ?_
        refine x_topi (w := nI i) (by rw [show (2 + i - 2) % 8 = i by omega]) ?_
        refine x_istore (ls1 := [.ref 33, .int (nI a), .int (nI b), .int (nI c), .int (nI d), .int (nI e), .int (nI f), .int (nI (2 + i)), .int (nI 0), .int (nI i), mj_unset]) f_156_123 (Nat.le_of_ble_eq_true rfl) rfl ?_
        refine x_iload f_156_125 rfl ?_
        refine x_ifN_ne (t := 136) f_156_127 (by decide) (by decide) (fun c_3 => by omega) (fun c_3 => ?_)
        refine x_iload_n f_156_130 rfl ?_
        refine x_iload_n f_156_131 rfl ?_
        refine x_isubN f_156_132 (by omega) ?_
        refine x_goto (t := 164) f_156_133 (by decide) ?_
        refine x_istore (ls1 := [.ref 33, .int (nI a), .int (nI b), .int (nI c), .int (nI d), .int (nI e), .int (nI f), .int (nI (2 + i)), .int (nI 0), .int (nI i), .int (nI (b - a))]) f_156_164 (Nat.le_of_ble_eq_true rfl) rfl ?_
        refine x_iload f_156_166 rfl ?_
        refine x_iload f_156_168 rfl ?_
        refine x_icmpN_lt (t := 182) f_156_170 (by decide) (by omega) (by omega) (fun c_m => ?_) (fun c_m => ?_)
        · refine x_aload_n f_156_182 rfl ?_
          refine x_dup f_156_183 rfl ?_
          refine x_getI f_156_184 S.k33 (by decide) ?_
          refine x_topi (w := nI p) e29 ?_
          refine x_iconst (v := nI 1) f_156_187 (by decide) ?_
          refine x_iaddN f_156_188 ?_
          refine x_putI f_156_189 S.k33 (by decide) ?_
          refine x_iload f_156_192 rfl ?_
          refine x_ifN_ne (t := 234) f_156_194 (by decide) (by decide) (fun c_4 => by omega) (fun c_4 => ?_)
          refine x_aload_n f_156_197 rfl ?_
          refine x_iload_n f_156_198 rfl ?_
          refine x_iload_n f_156_199 rfl ?_
          refine x_iload f_156_200 rfl ?_
          refine x_iaddN f_156_202 ?_
          refine x_iload_n f_156_203 rfl ?_
          refine x_iload f_156_204 rfl ?_
          refine x_iload f_156_206 rfl ?_
          refine x_iload f_156_208 rfl ?_
          refine x_callV f_156_210 (IH a (a + i) c d e f (true, p + 1) _ (by unfold BX; omega) (by unfold spn; omega) (hF.to q0) (FS_ok (by omega) ((mj_I_ne (by decide)).trans e30) (mj_I_at _ _ _ _))) (by omega) S.k33 (by decide) rfl rfl (Nat.le_of_ble_eq_true rfl) rfl ?_
          rintro _ g1 ⟨rfl, q1, x1, s1, t1⟩
          have S := q1.1.1
          refine x_aload_n f_156_213 rfl ?_
          refine x_iload_n f_156_214 rfl ?_
          refine x_iload f_156_215 rfl ?_
          refine x_iaddN f_156_217 ?_
          refine x_iconst (v := nI 1) f_156_218 (by decide) ?_
          refine x_iaddN f_156_219 ?_
          refine x_iload_n f_156_220 rfl ?_
          refine x_iload_n f_156_221 rfl ?_
          refine x_iload f_156_222 rfl ?_
          refine x_iload f_156_224 rfl ?_
          refine x_iload f_156_226 rfl ?_
          refine x_callV f_156_228 (IH (a + i + 1) b c d e f x1 _ (by unfold BX; omega) (by unfold spn; omega) ((hF.to q0).to q1) s1) (by omega) S.k33 (by decide) rfl rfl (Nat.le_of_ble_eq_true rfl) rfl ?_
          rintro _ g2 ⟨rfl, q2, x2, s2, t2⟩
          refine x_goto (t := 310) f_156_231 (by decide) ?_
          refine x_retV f_156_310 rfl ?_
          refine ⟨rfl, (q0.trans q1).trans q2, x2, s2, fun r => ?_⟩
          rw [← t2, ← t1]
          show CK G T n p _ = CK G T n (p + 1) _
          rw [CK_cons G T hpn, e_T, if_neg (show ¬ 2 + i < 2 by omega)]
          rw [if_pos (show 2 + i < 10 by omega), show 2 + i - 2 = i by omega, if_pos (show i < b - a by omega)]
        · refine x_aload_n f_156_173 rfl ?_
          refine x_aload_n f_156_174 rfl ?_
          refine x_getI f_156_175 S.k33 (by decide) ?_
          refine x_topi (w := nI p) e29 ?_
          refine x_putI f_156_178 S.k33 (by decide) ?_
          refine x_retV f_156_181 rfl ?_
          refine ⟨rfl, (FE.rf hF.1).set (by decide), (false, p), FS_bad (by omega) (mj_I_at _ _ _ _), fun r => ?_⟩
          show CK G T n p _ = some p
          rw [CK_cons G T hpn, e_T, if_neg (show ¬ 2 + i < 2 by omega)]
          rw [if_pos (show 2 + i < 10 by omega), show 2 + i - 2 = i by omega, if_neg (show ¬ i < b - a by omega)]
      · have e51 : mj_I h 51 p = nI (10 + i) := by rw [(hT p hpn).1, e_T]
        have q0 : FE h (mj_setI h 33 29 (nI (p + 1))) jm := (FE.rf hF.1).set (by decide)
        show mx (7 + (s + 1)) 156 0 [.ref 33, .int (nI a), .int (nI b), .int (nI c), .int (nI d), .int (nI e), .int (nI f), mj_unset, mj_unset, mj_unset, mj_unset] [] h _
        refine x_aload_n f_156_0 rfl ?_
        refine x_getI f_156_1 S.k33 (by decide) ?_
        refine x_topi (w := -1) e30 ?_
        refine x_iconst (v := -1) f_156_4 (by decide) ?_
        refine x_icmp_eq (t := 9) f_156_5 (by decide) (fun c_1 => ?_) (fun c_1 => absurd rfl c_1)
        refine x_aload_n f_156_9 rfl ?_
        refine x_getI f_156_10 S.k33 (by decide) ?_
        refine x_topi (w := nI p) e29 ?_
        refine x_aload_n f_156_13 rfl ?_
        refine x_getI f_156_14 S.k33 (by decide) ?_
        refine x_topi (w := nI n) e28 ?_
        refine x_icmpN_ne (t := 29) f_156_17 (by decide) (by omega) (by omega) (fun c_1 => ?_) (fun c_1 => by omega)
        refine x_aload_n f_156_29 rfl ?_
        refine x_getR f_156_30 S.k33 (by decide) S.r27 ?_
        refine x_aload_n f_156_33 rfl ?_
        refine x_getI f_156_34 S.k33 (by decide) ?_
        refine x_topi (w := nI p) e29 ?_
        refine x_iald (j := p) f_156_37 S.k51 (by omega) (by decide) ?_
        refine x_topi (w := nI (10 + i)) e51 ?_
        refine x_istore (ls1 := [.ref 33, .int (nI a), .int (nI b), .int (nI c), .int (nI d), .int (nI e), .int (nI f), .int (nI (10 + i)), mj_unset, mj_unset, mj_unset]) f_156_38 (Nat.le_of_ble_eq_true rfl) rfl ?_
        refine x_iload f_156_40 rfl ?_
        refine x_iconst (v := nI 2) f_156_42 (by decide) ?_
        refine x_icmpN_ge (t := 107) f_156_43 (by decide) (by omega) (by decide) (fun c_2 => ?_) (fun c_2 => by omega)
        refine x_iload f_156_107 rfl ?_
        refine x_iconst (v := nI 2) f_156_109 (by decide) ?_
        refine x_isubN f_156_110 (by omega) ?_
        refine x_bipush (v := nI 8) f_156_111 (by decide) ?_
        refine x_idivN f_156_113 (by omega) (by decide) (by decide) ?_
        refine x_topi (w := nI 1) (by rw [show (10 + i - 2) / 8 = 1 by omega]) ?_
        refine x_istore (ls1 := [.ref 33, .int (nI a), .int (nI b), .int (nI c), .int (nI d), .int (nI e), .int (nI f), .int (nI (10 + i)), .int (nI 1), mj_unset, mj_unset]) f_156_114 (Nat.le_of_ble_eq_true rfl) rfl ?_
        refine x_iload f_156_116 rfl ?_
        refine x_iconst (v := nI 2) f_156_118 (by decide) ?_
        refine x_isubN f_156_119 (by omega) ?_
        refine x_bipush (v := nI 8) f_156_120 (by decide) ?_
        refine x_iremN f_156_122 (by omega) (by decide) (by decide) ?_
        refine x_topi (w := nI i) (by rw [show (10 + i - 2) % 8 = i by omega]) ?_
        refine x_istore (ls1 := [.ref 33, .int (nI a), .int (nI b), .int (nI c), .int (nI d), .int (nI e), .int (nI f), .int (nI (10 + i)), .int (nI 1), .int (nI i), mj_unset]) f_156_123 (Nat.le_of_ble_eq_true rfl) rfl ?_
        refine x_iload f_156_125 rfl ?_
        refine x_ifN_ne (t := 136) f_156_127 (by decide) (by decide) (fun c_3 => ?_) (fun c_3 => by omega)
        refine x_iload f_156_136 rfl ?_
        refine x_iconst (v := nI 1) f_156_138 (by decide) ?_
        refine x_icmpN_ne (t := 149) f_156_139 (by decide) (by decide) (by decide) (fun c_4 => by omega) (fun c_4 => ?_)
        refine x_iload f_156_142 rfl ?_
        refine x_iload_n f_156_144 rfl ?_
        refine x_isubN f_156_145 (by omega) ?_
        refine x_goto (t := 164) f_156_146 (by decide) ?_
        refine x_istore (ls1 := [.ref 33, .int (nI a), .int (nI b), .int (nI c), .int (nI d), .int (nI e), .int (nI f), .int (nI (10 + i)), .int (nI 1), .int (nI i), .int (nI (d - c))]) f_156_164 (Nat.le_of_ble_eq_true rfl) rfl ?_
        refine x_iload f_156_166 rfl ?_
        refine x_iload f_156_168 rfl ?_
        refine x_icmpN_lt (t := 182) f_156_170 (by decide) (by omega) (by omega) (fun c_m => ?_) (fun c_m => ?_)
        · refine x_aload_n f_156_182 rfl ?_
          refine x_dup f_156_183 rfl ?_
          refine x_getI f_156_184 S.k33 (by decide) ?_
          refine x_topi (w := nI p) e29 ?_
          refine x_iconst (v := nI 1) f_156_187 (by decide) ?_
          refine x_iaddN f_156_188 ?_
          refine x_putI f_156_189 S.k33 (by decide) ?_
          refine x_iload f_156_192 rfl ?_
          refine x_ifN_ne (t := 234) f_156_194 (by decide) (by decide) (fun c_5 => ?_) (fun c_5 => by omega)
          refine x_iload f_156_234 rfl ?_
          refine x_iconst (v := nI 1) f_156_236 (by decide) ?_
          refine x_icmpN_ne (t := 276) f_156_237 (by decide) (by decide) (by decide) (fun c_6 => by omega) (fun c_6 => ?_)
          refine x_aload_n f_156_240 rfl ?_
          refine x_iload_n f_156_241 rfl ?_
          refine x_iload_n f_156_242 rfl ?_
          refine x_iload_n f_156_243 rfl ?_
          refine x_iload_n f_156_244 rfl ?_
          refine x_iload f_156_245 rfl ?_
          refine x_iaddN f_156_247 ?_
          refine x_iload f_156_248 rfl ?_
          refine x_iload f_156_250 rfl ?_
          refine x_callV f_156_252 (IH a b c (c + i) e f (true, p + 1) _ (by unfold BX; omega) (by unfold spn; omega) (hF.to q0) (FS_ok (by omega) ((mj_I_ne (by decide)).trans e30) (mj_I_at _ _ _ _))) (by omega) S.k33 (by decide) rfl rfl (Nat.le_of_ble_eq_true rfl) rfl ?_
          rintro _ g1 ⟨rfl, q1, x1, s1, t1⟩
          have S := q1.1.1
          refine x_aload_n f_156_255 rfl ?_
          refine x_iload_n f_156_256 rfl ?_
          refine x_iload_n f_156_257 rfl ?_
          refine x_iload_n f_156_258 rfl ?_
          refine x_iload f_156_259 rfl ?_
          refine x_iaddN f_156_261 ?_
          refine x_iconst (v := nI 1) f_156_262 (by decide) ?_
          refine x_iaddN f_156_263 ?_
          refine x_iload f_156_264 rfl ?_
          refine x_iload f_156_266 rfl ?_
          refine x_iload f_156_268 rfl ?_
          refine x_callV f_156_270 (IH a b (c + i + 1) d e f x1 _ (by unfold BX; omega) (by unfold spn; omega) ((hF.to q0).to q1) s1) (by omega) S.k33 (by decide) rfl rfl (Nat.le_of_ble_eq_true rfl) rfl ?_
          rintro _ g2 ⟨rfl, q2, x2, s2, t2⟩
          refine x_goto (t := 310) f_156_273 (by decide) ?_
          refine x_retV f_156_310 rfl ?_
          refine ⟨rfl, (q0.trans q1).trans q2, x2, s2, fun r => ?_⟩
          rw [← t2, ← t1]
          show CK G T n p _ = CK G T n (p + 1) _
          rw [CK_cons G T hpn, e_T, if_neg (show ¬ 10 + i < 2 by omega), if_neg (show ¬ 10 + i < 10 by omega)]
          rw [if_pos (show 10 + i < 18 by omega), show 10 + i - 10 = i by omega, if_pos (show i < d - c by omega)]
        · refine x_aload_n f_156_173 rfl ?_
          refine x_aload_n f_156_174 rfl ?_
          refine x_getI f_156_175 S.k33 (by decide) ?_
          refine x_topi (w := nI p) e29 ?_
          refine x_putI f_156_178 S.k33 (by decide) ?_
          refine x_retV f_156_181 rfl ?_
          refine ⟨rfl, (FE.rf hF.1).set (by decide), (false, p), FS_bad (by omega) (mj_I_at _ _ _ _), fun r => ?_⟩
          show CK G T n p _ = some p
          rw [CK_cons G T hpn, e_T, if_neg (show ¬ 10 + i < 2 by omega), if_neg (show ¬ 10 + i < 10 by omega)]
          rw [if_pos (show 10 + i < 18 by omega), show 10 + i - 10 = i by omega, if_neg (show ¬ i < d - c by omega)]
      · have e51 : mj_I h 51 p = nI (18 + i) := by rw [(hT p hpn).1, e_T]
        have q0 : FE h (mj_setI h 33 29 (nI (p + 1))) jm := (FE.rf hF.1).set (by decide)
        show mx (7 + (s + 1)) 156 0 [.ref 33, .int (nI a), .int (nI b), .int (nI c), .int (nI d), .int (nI e), .int (nI f), mj_unset, mj_unset, mj_unset, mj_unset] [] h _
        refine x_aload_n f_156_0 rfl ?_
        refine x_getI f_156_1 S.k33 (by decide) ?_
        refine x_topi (w := -1) e30 ?_
        refine x_iconst (v := -1) f_156_4 (by decide) ?_
        refine x_icmp_eq (t := 9) f_156_5 (by decide) (fun c_1 => ?_) (fun c_1 => absurd rfl c_1)
        refine x_aload_n f_156_9 rfl ?_
        refine x_getI f_156_10 S.k33 (by decide) ?_
        refine x_topi (w := nI p) e29 ?_
        refine x_aload_n f_156_13 rfl ?_
        refine x_getI f_156_14 S.k33 (by decide) ?_
        refine x_topi (w := nI n) e28 ?_
        refine x_icmpN_ne (t := 29) f_156_17 (by decide) (by omega) (by omega) (fun c_1 => ?_) (fun c_1 => by omega)
        refine x_aload_n f_156_29 rfl ?_
        refine x_getR f_156_30 S.k33 (by decide) S.r27 ?_
        refine x_aload_n f_156_33 rfl ?_
        refine x_getI f_156_34 S.k33 (by decide) ?_
        refine x_topi (w := nI p) e29 ?_
        refine x_iald (j := p) f_156_37 S.k51 (by omega) (by decide) ?_
        refine x_topi (w := nI (18 + i)) e51 ?_
        refine x_istore (ls1 := [.ref 33, .int (nI a), .int (nI b), .int (nI c), .int (nI d), .int (nI e), .int (nI f), .int (nI (18 + i)), mj_unset, mj_unset, mj_unset]) f_156_38 (Nat.le_of_ble_eq_true rfl) rfl ?_
        refine x_iload f_156_40 rfl ?_
        refine x_iconst (v := nI 2) f_156_42 (by decide) ?_
        refine x_icmpN_ge (t := 107) f_156_43 (by decide) (by omega) (by decide) (fun c_2 => ?_) (fun c_2 => by omega)
        refine x_iload f_156_107 rfl ?_
        refine x_iconst (v := nI 2) f_156_109 (by decide) ?_
        refine x_isubN f_156_110 (by omega) ?_
        refine x_bipush (v := nI 8) f_156_111 (by decide) ?_
        refine x_idivN f_156_113 (by omega) (by decide) (by decide) ?_
        refine x_topi (w := nI 2) (by rw [show (18 + i - 2) / 8 = 2 by omega]) ?_
        refine x_istore (ls1 := [.ref 33, .int (nI a), .int (nI b), .int (nI c), .int (nI d), .int (nI e), .int (nI f), .int (nI (18 + i)), .int (nI 2), mj_unset, mj_unset]) f_156_114 (Nat.le_of_ble_eq_true rfl) rfl ?_
        refine x_iload f_156_116 rfl ?_
        refine x_iconst (v := nI 2) f_156_118 (by decide) ?_
        refine x_isubN f_156_119 (by omega) ?_
        refine x_bipush (v := nI 8) f_156_120 (by decide) ?_
        refine x_iremN f_156_122 (by omega) (by decide) (by decide) ?_
        refine x_topi (w := nI i) (by rw [show (18 + i - 2) % 8 = i by omega]) ?_
        refine x_istore (ls1 := [.ref 33, .int (nI a), .int (nI b), .int (nI c), .int (nI d), .int (nI e), .int (nI f), .int (nI (18 + i)), .int (nI 2), .int (nI i), mj_unset]) f_156_123 (Nat.le_of_ble_eq_true rfl) rfl ?_
        refine x_iload f_156_125 rfl ?_
        refine x_ifN_ne (t := 136) f_156_127 (by decide) (by decide) (fun c_3 => ?_) (fun c_3 => by omega)
        refine x_iload f_156_136 rfl ?_
        refine x_iconst (v := nI 1) f_156_138 (by decide) ?_
        refine x_icmpN_ne (t := 149) f_156_139 (by decide) (by decide) (by decide) (fun c_4 => ?_) (fun c_4 => by omega)
        refine x_iload f_156_149 rfl ?_
        refine x_iconst (v := nI 2) f_156_151 (by decide) ?_
        refine x_icmpN_ne (t := 163) f_156_152 (by decide) (by decide) (by decide) (fun c_5 => by omega) (fun c_5 => ?_)
        refine x_iload f_156_155 rfl ?_
        refine x_iload f_156_157 rfl ?_
        refine x_isubN f_156_159 (by omega) ?_
        refine x_goto (t := 164) f_156_160 (by decide) ?_
        refine x_istore (ls1 := [.ref 33, .int (nI a), .int (nI b), .int (nI c), .int (nI d), .int (nI e), .int (nI f), .int (nI (18 + i)), .int (nI 2), .int (nI i), .int (nI (f - e))]) f_156_164 (Nat.le_of_ble_eq_true rfl) rfl ?_
        refine x_iload f_156_166 rfl ?_
        refine x_iload f_156_168 rfl ?_
        refine x_icmpN_lt (t := 182) f_156_170 (by decide) (by omega) (by omega) (fun c_m => ?_) (fun c_m => ?_)
        · refine x_aload_n f_156_182 rfl ?_
          refine x_dup f_156_183 rfl ?_
          refine x_getI f_156_184 S.k33 (by decide) ?_
          refine x_topi (w := nI p) e29 ?_
          refine x_iconst (v := nI 1) f_156_187 (by decide) ?_
          refine x_iaddN f_156_188 ?_
          refine x_putI f_156_189 S.k33 (by decide) ?_
          refine x_iload f_156_192 rfl ?_
          refine x_ifN_ne (t := 234) f_156_194 (by decide) (by decide) (fun c_6 => ?_) (fun c_6 => by omega)
          refine x_iload f_156_234 rfl ?_
          refine x_iconst (v := nI 1) f_156_236 (by decide) ?_
          refine x_icmpN_ne (t := 276) f_156_237 (by decide) (by decide) (by decide) (fun c_7 => ?_) (fun c_7 => by omega)
          refine x_aload_n f_156_276 rfl ?_
          refine x_iload_n f_156_277 rfl ?_
          refine x_iload_n f_156_278 rfl ?_
          refine x_iload_n f_156_279 rfl ?_
          refine x_iload f_156_280 rfl ?_
          refine x_iload f_156_282 rfl ?_
          refine x_iload f_156_284 rfl ?_
          refine x_iload f_156_286 rfl ?_
          refine x_iaddN f_156_288 ?_
          refine x_callV f_156_289 (IH a b c d e (e + i) (true, p + 1) _ (by unfold BX; omega) (by unfold spn; omega) (hF.to q0) (FS_ok (by omega) ((mj_I_ne (by decide)).trans e30) (mj_I_at _ _ _ _))) (by omega) S.k33 (by decide) rfl rfl (Nat.le_of_ble_eq_true rfl) rfl ?_
          rintro _ g1 ⟨rfl, q1, x1, s1, t1⟩
          have S := q1.1.1
          refine x_aload_n f_156_292 rfl ?_
          refine x_iload_n f_156_293 rfl ?_
          refine x_iload_n f_156_294 rfl ?_
          refine x_iload_n f_156_295 rfl ?_
          refine x_iload f_156_296 rfl ?_
          refine x_iload f_156_298 rfl ?_
          refine x_iload f_156_300 rfl ?_
          refine x_iaddN f_156_302 ?_
          refine x_iconst (v := nI 1) f_156_303 (by decide) ?_
          refine x_iaddN f_156_304 ?_
          refine x_iload f_156_305 rfl ?_
          refine x_callV f_156_307 (IH a b c d (e + i + 1) f x1 _ (by unfold BX; omega) (by unfold spn; omega) ((hF.to q0).to q1) s1) (by omega) S.k33 (by decide) rfl rfl (Nat.le_of_ble_eq_true rfl) rfl ?_
          rintro _ g2 ⟨rfl, q2, x2, s2, t2⟩
          refine x_retV f_156_310 rfl ?_
          refine ⟨rfl, (q0.trans q1).trans q2, x2, s2, fun r => ?_⟩
          rw [← t2, ← t1]
          show CK G T n p _ = CK G T n (p + 1) _
          rw [CK_cons G T hpn, e_T, if_neg (show ¬ 18 + i < 2 by omega), if_neg (show ¬ 18 + i < 10 by omega), if_neg (show ¬ 18 + i < 18 by omega)]
          rw [if_pos (show 18 + i < 26 by omega), show 18 + i - 18 = i by omega, if_pos (show i < f - e by omega)]
        · refine x_aload_n f_156_173 rfl ?_
          refine x_aload_n f_156_174 rfl ?_
          refine x_getI f_156_175 S.k33 (by decide) ?_
          refine x_topi (w := nI p) e29 ?_
          refine x_putI f_156_178 S.k33 (by decide) ?_
          refine x_retV f_156_181 rfl ?_
          refine ⟨rfl, (FE.rf hF.1).set (by decide), (false, p), FS_bad (by omega) (mj_I_at _ _ _ _), fun r => ?_⟩
          show CK G T n p _ = some p
          rw [CK_cons G T hpn, e_T, if_neg (show ¬ 18 + i < 2 by omega), if_neg (show ¬ 18 + i < 10 by omega), if_neg (show ¬ 18 + i < 18 by omega)]
          rw [if_pos (show 18 + i < 26 by omega), show 18 + i - 18 = i by omega, if_neg (show ¬ i < f - e by omega)]
      · have e51 : mj_I h 51 p = nI (26 + i) := by rw [(hT p hpn).1, e_T]
        show mx (7 + (s + 1)) 156 0 [.ref 33, .int (nI a), .int (nI b), .int (nI c), .int (nI d), .int (nI e), .int (nI f), mj_unset, mj_unset, mj_unset, mj_unset] [] h _
        refine x_aload_n f_156_0 rfl ?_
        refine x_getI f_156_1 S.k33 (by decide) ?_
        refine x_topi (w := -1) e30 ?_
        refine x_iconst (v := -1) f_156_4 (by decide) ?_
        refine x_icmp_eq (t := 9) f_156_5 (by decide) (fun c_1 => ?_) (fun c_1 => absurd rfl c_1)
        refine x_aload_n f_156_9 rfl ?_
        refine x_getI f_156_10 S.k33 (by decide) ?_
        refine x_topi (w := nI p) e29 ?_
        refine x_aload_n f_156_13 rfl ?_
        refine x_getI f_156_14 S.k33 (by decide) ?_
        refine x_topi (w := nI n) e28 ?_
        refine x_icmpN_ne (t := 29) f_156_17 (by decide) (by omega) (by omega) (fun c_1 => ?_) (fun c_1 => by omega)
        refine x_aload_n f_156_29 rfl ?_
        refine x_getR f_156_30 S.k33 (by decide) S.r27 ?_
        refine x_aload_n f_156_33 rfl ?_
        refine x_getI f_156_34 S.k33 (by decide) ?_
        refine x_topi (w := nI p) e29 ?_
        refine x_iald (j := p) f_156_37 S.k51 (by omega) (by decide) ?_
        refine x_topi (w := nI (26 + i)) e51 ?_
        refine x_istore (ls1 := [.ref 33, .int (nI a), .int (nI b), .int (nI c), .int (nI d), .int (nI e), .int (nI f), .int (nI (26 + i)), mj_unset, mj_unset, mj_unset]) f_156_38 (Nat.le_of_ble_eq_true rfl) rfl ?_
        refine x_iload f_156_40 rfl ?_
        refine x_iconst (v := nI 2) f_156_42 (by decide) ?_
        refine x_icmpN_ge (t := 107) f_156_43 (by decide) (by omega) (by decide) (fun c_2 => ?_) (fun c_2 => by omega)
        refine x_iload f_156_107 rfl ?_
        refine x_iconst (v := nI 2) f_156_109 (by decide) ?_
        refine x_isubN f_156_110 (by omega) ?_
        refine x_bipush (v := nI 8) f_156_111 (by decide) ?_
        refine x_idivN f_156_113 (by omega) (by decide) (by decide) ?_
        refine x_topi (w := nI 3) (by rw [show (26 + i - 2) / 8 = 3 by omega]) ?_
        refine x_istore (ls1 := [.ref 33, .int (nI a), .int (nI b), .int (nI c), .int (nI d), .int (nI e), .int (nI f), .int (nI (26 + i)), .int (nI 3), mj_unset, mj_unset]) f_156_114 (Nat.le_of_ble_eq_true rfl) rfl ?_
        refine x_iload f_156_116 rfl ?_
        refine x_iconst (v := nI 2) f_156_118 (by decide) ?_
        refine x_isubN f_156_119 (by omega) ?_
        refine x_bipush (v := nI 8) f_156_120 (by decide) ?_
        refine x_iremN f_156_122 (by omega) (by decide) (by decide) ?_
        refine x_topi (w := nI i) (by rw [show (26 + i - 2) % 8 = i by omega]) ?_
        refine x_istore (ls1 := [.ref 33, .int (nI a), .int (nI b), .int (nI c), .int (nI d), .int (nI e), .int (nI f), .int (nI (26 + i)), .int (nI 3), .int (nI i), mj_unset]) f_156_123 (Nat.le_of_ble_eq_true rfl) rfl ?_
        refine x_iload f_156_125 rfl ?_
        refine x_ifN_ne (t := 136) f_156_127 (by decide) (by decide) (fun c_3 => ?_) (fun c_3 => by omega)
        refine x_iload f_156_136 rfl ?_
        refine x_iconst (v := nI 1) f_156_138 (by decide) ?_
        refine x_icmpN_ne (t := 149) f_156_139 (by decide) (by decide) (by decide) (fun c_4 => ?_) (fun c_4 => by omega)
        refine x_iload f_156_149 rfl ?_
        refine x_iconst (v := nI 2) f_156_151 (by decide) ?_
        refine x_icmpN_ne (t := 163) f_156_152 (by decide) (by decide) (by decide) (fun c_5 => ?_) (fun c_5 => by omega)
        refine x_iconst (v := nI 0) f_156_163 (by decide) ?_
        refine x_istore (ls1 := [.ref 33, .int (nI a), .int (nI b), .int (nI c), .int (nI d), .int (nI e), .int (nI f), .int (nI (26 + i)), .int (nI 3), .int (nI i), .int (nI 0)]) f_156_164 (Nat.le_of_ble_eq_true rfl) rfl ?_
        refine x_iload f_156_166 rfl ?_
        refine x_iload f_156_168 rfl ?_
        refine x_icmpN_lt (t := 182) f_156_170 (by decide) (by omega) (by decide) (fun c_m => by omega) (fun c_m => ?_)
        refine x_aload_n f_156_173 rfl ?_
        refine x_aload_n f_156_174 rfl ?_
        refine x_getI f_156_175 S.k33 (by decide) ?_
        refine x_topi (w := nI p) e29 ?_
        refine x_putI f_156_178 S.k33 (by decide) ?_
        refine x_retV f_156_181 rfl ?_
        refine ⟨rfl, (FE.rf hF.1).set (by decide), (false, p), FS_bad (by omega) (mj_I_at _ _ _ _), fun r => ?_⟩
        show CK G T n p _ = some p
        rw [CK_cons G T hpn, e_T, if_neg (show ¬ 26 + i < 2 by omega), if_neg (show ¬ 26 + i < 10 by omega), if_neg (show ¬ 26 + i < 18 by omega), if_neg (show ¬ 26 + i < 26 by omega)]
theorem follow_all {jm w n : Nat} {G : Gd} {W T : Nat → Nat} : ∀ s, FoP jm w G W n T s
  | 0 => follow_0
  | s + 1 => follow_s (follow_all s)

