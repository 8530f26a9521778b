theorem f_127_32 : mj_fetch 127 32 = some (.iload 8, 0, 0) := by decide +kernel
theorem f_127_34 : mj_fetch 127 34 = some (.iload 6, 0, 0) := by decide +kernel
theorem f_127_36 : mj_fetch 127 36 = some (.if_icmp .ge 221, 0, 0) := by decide +kernel
theorem f_127_39 : mj_fetch 127 39 = some (.aload_n 0, 0, 0) := by decide +kernel
theorem f_127_40 : mj_fetch 127 40 = some (.getfield 26, 11, 9) := by decide +kernel
theorem f_127_43 : mj_fetch 127 43 = some (.iload 8, 0, 0) := by decide +kernel
theorem f_127_45 : mj_fetch 127 45 = some (.iaload, 0, 0) := by decide +kernel
theorem f_127_46 : mj_fetch 127 46 = some (.istore 9, 0, 0) := by decide +kernel
theorem f_127_48 : mj_fetch 127 48 = some (.iload 9, 0, 0) := by decide +kernel
theorem f_127_50 : mj_fetch 127 50 = some (.aload_n 0, 0, 0) := by decide +kernel
theorem f_127_51 : mj_fetch 127 51 = some (.getfield 17, 11, 4) := by decide +kernel
theorem f_127_54 : mj_fetch 127 54 = some (.iload 5, 0, 0) := by decide +kernel
theorem f_127_56 : mj_fetch 127 56 = some (.iconst 3, 0, 0) := by decide +kernel
theorem f_127_57 : mj_fetch 127 57 = some (.iadd, 0, 0) := by decide +kernel
theorem f_127_58 : mj_fetch 127 58 = some (.iaload, 0, 0) := by decide +kernel
theorem f_127_59 : mj_fetch 127 59 = some (.if_icmp .lt 7, 0, 0) := by decide +kernel
theorem f_127_62 : mj_fetch 127 62 = some (.iconst 1, 0, 0) := by decide +kernel
theorem f_127_63 : mj_fetch 127 63 = some (.goto 4, 0, 0) := by decide +kernel
theorem f_127_66 : mj_fetch 127 66 = some (.iconst 0, 0, 0) := by decide +kernel
theorem f_127_67 : mj_fetch 127 67 = some (.istore 10, 0, 0) := by decide +kernel
theorem f_127_69 : mj_fetch 127 69 = some (.iload 8, 0, 0) := by decide +kernel
theorem f_127_71 : mj_fetch 127 71 = some (.ifCond .le 23, 0, 0) := by decide +kernel
theorem f_127_74 : mj_fetch 127 74 = some (.aload_n 0, 0, 0) := by decide +kernel
theorem f_127_75 : mj_fetch 127 75 = some (.iload 9, 0, 0) := by decide +kernel
theorem f_127_77 : mj_fetch 127 77 = some (.aload_n 0, 0, 0) := by decide +kernel
theorem f_127_78 : mj_fetch 127 78 = some (.getfield 26, 11, 9) := by decide +kernel
theorem f_127_81 : mj_fetch 127 81 = some (.iload 8, 0, 0) := by decide +kernel
theorem f_127_83 : mj_fetch 127 83 = some (.iconst 1, 0, 0) := by decide +kernel
theorem f_127_84 : mj_fetch 127 84 = some (.isub, 0, 0) := by decide +kernel
theorem f_127_85 : mj_fetch 127 85 = some (.iaload, 0, 0) := by decide +kernel
theorem f_127_86 : mj_fetch 127 86 = some (.iload 7, 0, 0) := by decide +kernel
theorem f_127_88 : mj_fetch 127 88 = some (.invokevirtual 133, 126, 0) := by decide +kernel
theorem f_127_91 : mj_fetch 127 91 = some (.goto 4, 0, 0) := by decide +kernel
theorem f_127_94 : mj_fetch 127 94 = some (.iconst 0, 0, 0) := by decide +kernel
theorem f_127_95 : mj_fetch 127 95 = some (.istore 11, 0, 0) := by decide +kernel
theorem f_127_97 : mj_fetch 127 97 = some (.iload 11, 0, 0) := by decide +kernel
theorem f_127_99 : mj_fetch 127 99 = some (.iload 8, 0, 0) := by decide +kernel
theorem f_127_101 : mj_fetch 127 101 = some (.iload 6, 0, 0) := by decide +kernel
theorem f_127_103 : mj_fetch 127 103 = some (.iconst 1, 0, 0) := by decide +kernel
theorem f_127_104 : mj_fetch 127 104 = some (.isub, 0, 0) := by decide +kernel
theorem f_127_105 : mj_fetch 127 105 = some (.if_icmp .ge 23, 0, 0) := by decide +kernel
theorem f_127_108 : mj_fetch 127 108 = some (.aload_n 0, 0, 0) := by decide +kernel
theorem f_127_109 : mj_fetch 127 109 = some (.iload 9, 0, 0) := by decide +kernel
theorem f_127_111 : mj_fetch 127 111 = some (.aload_n 0, 0, 0) := by decide +kernel
theorem f_127_112 : mj_fetch 127 112 = some (.getfield 26, 11, 9) := by decide +kernel
theorem f_127_115 : mj_fetch 127 115 = some (.iload 8, 0, 0) := by decide +kernel
theorem f_127_117 : mj_fetch 127 117 = some (.iconst 1, 0, 0) := by decide +kernel
theorem f_127_118 : mj_fetch 127 118 = some (.iadd, 0, 0) := by decide +kernel
theorem f_127_119 : mj_fetch 127 119 = some (.iaload, 0, 0) := by decide +kernel
theorem f_127_120 : mj_fetch 127 120 = some (.iload 7, 0, 0) := by decide +kernel
theorem f_127_122 : mj_fetch 127 122 = some (.invokevirtual 133, 126, 0) := by decide +kernel
theorem f_127_125 : mj_fetch 127 125 = some (.goto 13, 0, 0) := by decide +kernel
theorem f_127_128 : mj_fetch 127 128 = some (.aload_n 0, 0, 0) := by decide +kernel
theorem f_127_129 : mj_fetch 127 129 = some (.iload 9, 0, 0) := by decide +kernel
theorem f_127_131 : mj_fetch 127 131 = some (.bipush 20, 0, 0) := by decide +kernel
theorem f_127_133 : mj_fetch 127 133 = some (.iload 7, 0, 0) := by decide +kernel
theorem f_127_135 : mj_fetch 127 135 = some (.invokevirtual 133, 126, 0) := by decide +kernel
theorem f_127_138 : mj_fetch 127 138 = some (.iadd, 0, 0) := by decide +kernel
theorem f_127_139 : mj_fetch 127 139 = some (.istore 11, 0, 0) := by decide +kernel
theorem f_127_141 : mj_fetch 127 141 = some (.iload_n 2, 0, 0) := by decide +kernel
theorem f_127_142 : mj_fetch 127 142 = some (.iload 8, 0, 0) := by decide +kernel
theorem f_127_144 : mj_fetch 127 144 = some (.iconst 1, 0, 0) := by decide +kernel
theorem f_127_145 : mj_fetch 127 145 = some (.iadd, 0, 0) := by decide +kernel
theorem f_127_146 : mj_fetch 127 146 = some (.imul, 0, 0) := by decide +kernel
theorem f_127_147 : mj_fetch 127 147 = some (.aload_n 0, 0, 0) := by decide +kernel
theorem f_127_148 : mj_fetch 127 148 = some (.getfield 17, 11, 4) := by decide +kernel
theorem f_127_151 : mj_fetch 127 151 = some (.iload 5, 0, 0) := by decide +kernel
theorem f_127_153 : mj_fetch 127 153 = some (.iaload, 0, 0) := by decide +kernel
theorem f_127_154 : mj_fetch 127 154 = some (.imul, 0, 0) := by decide +kernel
theorem f_127_155 : mj_fetch 127 155 = some (.aload_n 0, 0, 0) := by decide +kernel
theorem f_127_156 : mj_fetch 127 156 = some (.getfield 17, 11, 4) := by decide +kernel
theorem f_127_159 : mj_fetch 127 159 = some (.iload 5, 0, 0) := by decide +kernel
theorem f_127_161 : mj_fetch 127 161 = some (.iconst 1, 0, 0) := by decide +kernel
theorem f_127_162 : mj_fetch 127 162 = some (.iadd, 0, 0) := by decide +kernel
theorem f_127_163 : mj_fetch 127 163 = some (.iaload, 0, 0) := by decide +kernel
theorem f_127_164 : mj_fetch 127 164 = some (.idiv, 0, 0) := by decide +kernel
theorem f_127_165 : mj_fetch 127 165 = some (.istore 12, 0, 0) := by decide +kernel
theorem f_127_167 : mj_fetch 127 167 = some (.aload_n 0, 0, 0) := by decide +kernel
theorem f_127_168 : mj_fetch 127 168 = some (.getfield 29, 11, 10) := by decide +kernel
theorem f_127_171 : mj_fetch 127 171 = some (.iload 8, 0, 0) := by decide +kernel
theorem f_127_173 : mj_fetch 127 173 = some (.sipush 5000, 0, 0) := by decide +kernel
theorem f_127_176 : mj_fetch 127 176 = some (.iload 9, 0, 0) := by decide +kernel
theorem f_127_178 : mj_fetch 127 178 = some (.iload 11, 0, 0) := by decide +kernel
theorem f_127_180 : mj_fetch 127 180 = some (.isub, 0, 0) := by decide +kernel
theorem f_127_181 : mj_fetch 127 181 = some (.iload 10, 0, 0) := by decide +kernel
theorem f_127_183 : mj_fetch 127 183 = some (.ifCond .eq 10, 0, 0) := by decide +kernel
theorem f_127_186 : mj_fetch 127 186 = some (.iload 12, 0, 0) := by decide +kernel
theorem f_127_188 : mj_fetch 127 188 = some (.iconst 2, 0, 0) := by decide +kernel
theorem f_127_189 : mj_fetch 127 189 = some (.idiv, 0, 0) := by decide +kernel
theorem f_127_190 : mj_fetch 127 190 = some (.goto 5, 0, 0) := by decide +kernel
theorem f_127_193 : mj_fetch 127 193 = some (.iload 12, 0, 0) := by decide +kernel
theorem f_127_195 : mj_fetch 127 195 = some (.iadd, 0, 0) := by decide +kernel
theorem f_127_196 : mj_fetch 127 196 = some (.invokestatic 117, 0, 2) := by decide +kernel
theorem f_127_199 : mj_fetch 127 199 = some (.iastore, 0, 0) := by decide +kernel
theorem f_127_200 : mj_fetch 127 200 = some (.iload 10, 0, 0) := by decide +kernel
theorem f_127_202 : mj_fetch 127 202 = some (.ifCond .eq 49, 0, 0) := by decide +kernel
theorem f_127_205 : mj_fetch 127 205 = some (.aload_n 0, 0, 0) := by decide +kernel
theorem f_127_206 : mj_fetch 127 206 = some (.getfield 35, 11, 12) := by decide +kernel
theorem f_127_209 : mj_fetch 127 209 = some (.iload 8, 0, 0) := by decide +kernel
theorem f_127_211 : mj_fetch 127 211 = some (.ldc 136, 100000, 0) := by decide +kernel
theorem f_127_213 : mj_fetch 127 213 = some (.aload_n 0, 0, 0) := by decide +kernel
theorem f_127_214 : mj_fetch 127 214 = some (.getfield 35, 11, 12) := by decide +kernel
theorem f_127_217 : mj_fetch 127 217 = some (.iload 8, 0, 0) := by decide +kernel
theorem f_127_219 : mj_fetch 127 219 = some (.iaload, 0, 0) := by decide +kernel
theorem f_127_220 : mj_fetch 127 220 = some (.iload_n 3, 0, 0) := by decide +kernel
theorem f_127_221 : mj_fetch 127 221 = some (.iload 9, 0, 0) := by decide +kernel
theorem f_127_223 : mj_fetch 127 223 = some (.aload_n 0, 0, 0) := by decide +kernel
theorem f_127_224 : mj_fetch 127 224 = some (.getfield 17, 11, 4) := by decide +kernel
theorem f_127_227 : mj_fetch 127 227 = some (.iload 5, 0, 0) := by decide +kernel
theorem f_127_229 : mj_fetch 127 229 = some (.iconst 3, 0, 0) := by decide +kernel
theorem f_127_230 : mj_fetch 127 230 = some (.iadd, 0, 0) := by decide +kernel
theorem f_127_231 : mj_fetch 127 231 = some (.iaload, 0, 0) := by decide +kernel
theorem f_127_232 : mj_fetch 127 232 = some (.isub, 0, 0) := by decide +kernel
theorem f_127_233 : mj_fetch 127 233 = some (.iconst 1, 0, 0) := by decide +kernel
theorem f_127_234 : mj_fetch 127 234 = some (.iadd, 0, 0) := by decide +kernel
theorem f_127_235 : mj_fetch 127 235 = some (.imul, 0, 0) := by decide +kernel
theorem f_127_236 : mj_fetch 127 236 = some (.aload_n 0, 0, 0) := by decide +kernel
theorem f_127_237 : mj_fetch 127 237 = some (.getfield 17, 11, 4) := by decide +kernel
theorem f_127_240 : mj_fetch 127 240 = some (.iload 5, 0, 0) := by decide +kernel
theorem f_127_242 : mj_fetch 127 242 = some (.iconst 4, 0, 0) := by decide +kernel
theorem f_127_243 : mj_fetch 127 243 = some (.iadd, 0, 0) := by decide +kernel
theorem f_127_244 : mj_fetch 127 244 = some (.iaload, 0, 0) := by decide +kernel
theorem f_127_245 : mj_fetch 127 245 = some (.idiv, 0, 0) := by decide +kernel
theorem f_127_246 : mj_fetch 127 246 = some (.iadd, 0, 0) := by decide +kernel
theorem f_127_247 : mj_fetch 127 247 = some (.invokestatic 117, 0, 2) := by decide +kernel
theorem f_127_250 : mj_fetch 127 250 = some (.iastore, 0, 0) := by decide +kernel
theorem f_127_251 : mj_fetch 127 251 = some (.iinc 8 1, 0, 0) := by decide +kernel
theorem f_127_254 : mj_fetch 127 254 = some (.goto (-222), 0, 0) := by decide +kernel
/-- only the int rows of the list are written -/
def Rw (h h' : mj_H) (as : List Nat) : Prop := h'.1 = h.1 ∧ h'.2.1 = h.2.1 ∧ mj_K h' = mj_K h ∧ mj_J h' = mj_J h ∧ mj_R h' = mj_R h ∧ ∀ a, a ∉ as → mj_I h' a = mj_I h a
theorem Rw.rf (h : mj_H) (as : List Nat) : Rw h h as := ⟨rfl, rfl, rfl, rfl, rfl, fun _ _ => rfl⟩
theorem Rw.set {h g : mj_H} {as : List Nat} (r : Rw h g as) {a j : Nat} {x : Int32} (ha : a ∈ as) : Rw h (mj_setI g a j x) as :=
  ⟨r.1, r.2.1, r.2.2.1, r.2.2.2.1, r.2.2.2.2.1, fun b hb => by rw [mj_I_other (fun q => hb (by rw [q]; exact ha))]; exact r.2.2.2.2.2 b hb⟩
theorem Rw.i {h g : mj_H} {as : List Nat} (r : Rw h g as) {a : Nat} (ha : a ∉ as) : mj_I g a = mj_I h a := r.2.2.2.2.2 a ha
theorem Rw.trans {h g k : mj_H} {as : List Nat} (r : Rw h g as) (t : Rw g k as) : Rw h k as :=
  ⟨t.1.trans r.1, t.2.1.trans r.2.1, t.2.2.1.trans r.2.2.1, t.2.2.2.1.trans r.2.2.2.1, t.2.2.2.2.1.trans r.2.2.2.2.1, fun a ha => (t.i ha).trans (r.i ha)⟩
theorem Rw.mono {h g : mj_H} {as bs : List Nat} (r : Rw h g as) (hs : ∀ a, a ∈ as → a ∈ bs) : Rw h g bs :=
  ⟨r.1, r.2.1, r.2.2.1, r.2.2.2.1, r.2.2.2.2.1, fun a ha => r.i (fun q => ha (hs a q))⟩
theorem Rw.sm {h g : mj_H} {as : List Nat} (r : Rw h g as) (S : SM h) : SM g := S.to r.2.2.1 r.2.2.2.2.1
/-! ONE TICK of all rings, as the reference reckons it -/
def tk_led (x y z : Int32) : Int32 := (x - y) * z / 1000
def tk_go (M : Nat → Int32) (rg : Nat) (w : Nat → Int32) (r : Nat) : Int32 := (if r = 0 then nI 0 else tk_led (w r) (w (r - 1)) (M 2)) + (if rg - 1 ≤ r then tk_led (w r) (nI 20) (M 2) else tk_led (w r) (w (r + 1)) (M 2))
def tk_co (M : Nat → Int32) (work : Int32) (r : Nat) : Int32 := work * nI (r + 1) * M 0 / M 1
def tk_cap (e m : Int32) : Int32 := if e < m then e else m
def tk_nx (M : Nat → Int32) (rg : Nat) (w : Nat → Int32) (work : Int32) (r : Nat) : Int32 := tk_cap (w r - tk_go M rg w r + (if w r < M 3 then tk_co M work r else tk_co M work r / nI 2)) (nI 5000)
def tk_ot (M : Nat → Int32) (w o : Nat → Int32) (push : Int32) (r : Nat) : Int32 := if w r < M 3 then o r else tk_cap (o r + push * (w r - M 3 + nI 1) / M 4) (nI 100000)
def tk_max (x y : Int32) : Int32 := if x < y then y else x
abbrev tk_R : Type := (Nat → Int32) × (Nat → Int32) × (Nat → Int32) × (Nat → Int32)
def tk (M : Nat → Int32) (rg : Nat) (work push : Int32) (c : Nat) (T : tk_R) : tk_R :=
  (fun r => if r < rg then tk_nx M rg T.1 work r else T.1 r, fun r => if r < rg then tk_max (T.2.1 r) (tk_nx M rg T.1 work r) else T.2.1 r, fun r => if r < rg then tk_ot M T.1 T.2.2.1 push r else T.2.2.1 r,
   fun r => if r < rg then (if c = 0 then nI 0 else tk_max (T.2.2.2 r) (T.1 r - tk_nx M rg T.1 work r)) else T.2.2.2 r)
def mM (h : mj_H) (j : Nat) : Nat → Int32 := fun i => mj_I h 36 (9 * j + i)
def mT (h : mj_H) : tk_R := (mj_I h 39, mj_I h 41, mj_I h 42, mj_I h 43)

set_option maxRecDepth 20000 in
set_option maxHeartbeats 4000000 in
theorem tick_l1 {h : mj_H} {j rg : Nat} (hj : j < 20) (e_rg : mj_I h 36 (9 * j + 8) = nI rg) (hrg : 2 ≤ rg ∧ rg ≤ 6) (h1 : ¬ mj_I h 36 (9 * j + 1) = 0) (h4 : ¬ mj_I h 36 (9 * j + 4) = 0) (work push : Int32) (c : Nat) {Q : Option Value → mj_H → Prop}
    (K : ∀ (g : mj_H) (v9 v10 v11 v12 : Value), SM g → Rw h g [40, 42] → (∀ q, q < rg → mj_I g 40 q = tk_nx (mM h j) rg (mj_I h 39) work q) → (∀ q, mj_I g 42 q = if q < rg then tk_ot (mM h j) (mj_I h 39) (mj_I h 42) push q else mj_I h 42 q) → mx 1 127 257 [.ref 33, .int (nI j), .int work, .int push, .int (nI c), .int (nI (9 * j)), .int (nI rg), .int (mj_I h 36 (9 * j + 2)), .int (nI rg), v9, v10, v11, v12] [] g Q) :
    ∀ (n r : Nat) (g : mj_H) (v9 v10 v11 v12 : Value), r + n = rg → SM g → Rw h g [40, 42] → (∀ q, q < r → mj_I g 40 q = tk_nx (mM h j) rg (mj_I h 39) work q) → (∀ q, mj_I g 42 q = if q < r then tk_ot (mM h j) (mj_I h 39) (mj_I h 42) push q else mj_I h 42 q) →
      mx 1 127 32 [.ref 33, .int (nI j), .int work, .int push, .int (nI c), .int (nI (9 * j)), .int (nI rg), .int (mj_I h 36 (9 * j + 2)), .int (nI r), v9, v10, v11, v12] [] g Q := by
  intro n
  induction n with
  | zero =>
    intro r g v9 v10 v11 v12 hr S hR i40 i42
    have hrr : r = rg := by omega
    subst hrr
    refine x_iload f_127_32 rfl ?_
    refine x_iload f_127_34 rfl ?_
    refine x_icmpN_ge (t := 257) f_127_36 (by decide) (by omega) (by omega) (fun c_1 => ?_) (fun c_1 => by omega)
    exact K g v9 v10 v11 v12 S hR i40 i42
  | succ n ih =>
    intro r g v9 v10 v11 v12 hr S hR i40 i42
    have e36 : mj_I g 36 = mj_I h 36 := hR.i (by decide)
    have e39 : mj_I g 39 = mj_I h 39 := hR.i (by decide)
    have i42r : mj_I g 42 r = mj_I h 42 r := by rw [i42, if_neg (by omega)]
    refine x_iload f_127_32 rfl ?_
    refine x_iload f_127_34 rfl ?_
    refine x_icmpN_ge (t := 257) f_127_36 (by decide) (by omega) (by omega) (fun c_1 => by omega) (fun c_1 => ?_)
    refine x_aload_n f_127_39 rfl ?_
    refine x_getR f_127_40 S.k33 (by decide) S.r9 ?_
    refine x_iload f_127_43 rfl ?_
    refine x_iald (j := r) f_127_45 S.k39 (by omega) (by decide) ?_
    refine x_topi (w := mj_I h 39 r) (congrFun e39 _) ?_
    refine x_istore (ls1 := [.ref 33, .int (nI j), .int work, .int push, .int (nI c), .int (nI (9 * j)), .int (nI rg), .int (mj_I h 36 (9 * j + 2)), .int (nI r), .int (mj_I h 39 r), v10, v11, v12]) f_127_46 (Nat.le_of_ble_eq_true rfl) rfl ?_
    refine x_iload f_127_48 rfl ?_
    refine x_aload_n f_127_50 rfl ?_
    refine x_getR f_127_51 S.k33 (by decide) S.r4 ?_
    refine x_iload f_127_54 rfl ?_
    refine x_iconst (v := nI 3) f_127_56 (by decide) ?_
    refine x_iaddN f_127_57 ?_
    refine x_iald (j := ((9 * j) + 3)) f_127_58 S.k36 (by omega) (by decide) ?_
    refine x_topi (w := mj_I h 36 (9 * j + 3)) (congrFun e36 _) ?_
    refine x_icmp_lt (t := 66) f_127_59 (by decide) (fun c_s => ?_) (fun c_s => ?_)
    · refine x_iconst (v := nI 0) f_127_66 (by decide) ?_
      refine x_istore (ls1 := [.ref 33, .int (nI j), .int work, .int push, .int (nI c), .int (nI (9 * j)), .int (nI rg), .int (mj_I h 36 (9 * j + 2)), .int (nI r), .int (mj_I h 39 r), .int (nI 0), v11, v12]) f_127_67 (Nat.le_of_ble_eq_true rfl) rfl ?_
      refine x_iload f_127_69 rfl ?_
      refine x_ifN_le (t := 94) f_127_71 (by decide) (by omega) (fun c_0 => ?_) (fun c_0 => ?_)
      · refine x_iconst (v := nI 0) f_127_94 (by decide) ?_
        refine x_istore (ls1 := [.ref 33, .int (nI j), .int work, .int push, .int (nI c), .int (nI (9 * j)), .int (nI rg), .int (mj_I h 36 (9 * j + 2)), .int (nI r), .int (mj_I h 39 r), .int (nI 0), .int (nI 0), v12]) f_127_95 (Nat.le_of_ble_eq_true rfl) rfl ?_
        refine x_iload f_127_97 rfl ?_
        refine x_iload f_127_99 rfl ?_
        refine x_iload f_127_101 rfl ?_
        refine x_iconst (v := nI 1) f_127_103 (by decide) ?_
        refine x_isubN f_127_104 (by omega) ?_
        refine x_icmpN_ge (t := 128) f_127_105 (by decide) (by omega) (by omega) (fun c_e => ?_) (fun c_e => ?_)
        · refine x_aload_n f_127_128 rfl ?_
          refine x_iload f_127_129 rfl ?_
          refine x_bipush (v := nI 20) f_127_131 (by decide) ?_
          refine x_iload f_127_133 rfl ?_
          refine x_callVe f_127_135 (c_led3 _ _ _ 0) (by omega) S.k33 (by decide) rfl rfl (Nat.le_of_ble_eq_true rfl) rfl ?_
          refine x_iadd f_127_138 ?_
          refine x_istore (ls1 := [.ref 33, .int (nI j), .int work, .int push, .int (nI c), .int (nI (9 * j)), .int (nI rg), .int (mj_I h 36 (9 * j + 2)), .int (nI r), .int (mj_I h 39 r), .int (nI 0), .int ((nI 0) + (((mj_I h 39 r) - (nI 20)) * (mj_I h 36 (9 * j + 2)) / 1000)), v12]) f_127_139 (Nat.le_of_ble_eq_true rfl) rfl ?_
          refine x_iload_n f_127_141 rfl ?_
          refine x_iload f_127_142 rfl ?_
          refine x_iconst (v := nI 1) f_127_144 (by decide) ?_
          refine x_iaddN f_127_145 ?_
          refine x_imul f_127_146 ?_
          refine x_aload_n f_127_147 rfl ?_
          refine x_getR f_127_148 S.k33 (by decide) S.r4 ?_
          refine x_iload f_127_151 rfl ?_
          refine x_iald (j := (9 * j)) f_127_153 S.k36 (by omega) (by decide) ?_
          refine x_topi (w := mj_I h 36 (9 * j)) (congrFun e36 _) ?_
          refine x_imul f_127_154 ?_
          refine x_aload_n f_127_155 rfl ?_
          refine x_getR f_127_156 S.k33 (by decide) S.r4 ?_
          refine x_iload f_127_159 rfl ?_
          refine x_iconst (v := nI 1) f_127_161 (by decide) ?_
          refine x_iaddN f_127_162 ?_
          refine x_iald (j := ((9 * j) + 1)) f_127_163 S.k36 (by omega) (by decide) ?_
          refine x_topi (w := mj_I h 36 (9 * j + 1)) (congrFun e36 _) ?_
          refine x_idiv f_127_164 h1 ?_
          refine x_istore (ls1 := [.ref 33, .int (nI j), .int work, .int push, .int (nI c), .int (nI (9 * j)), .int (nI rg), .int (mj_I h 36 (9 * j + 2)), .int (nI r), .int (mj_I h 39 r), .int (nI 0), .int ((nI 0) + (((mj_I h 39 r) - (nI 20)) * (mj_I h 36 (9 * j + 2)) / 1000)), .int (((work * (nI (r + 1))) * (mj_I h 36 (9 * j))) / (mj_I h 36 (9 * j + 1)))]) f_127_165 (Nat.le_of_ble_eq_true rfl) rfl ?_
          refine x_aload_n f_127_167 rfl ?_
          refine x_getR f_127_168 S.k33 (by decide) S.r10 ?_
          refine x_iload f_127_171 rfl ?_
          refine x_sipush (v := nI 5000) f_127_173 (by decide) ?_
          refine x_iload f_127_176 rfl ?_
          refine x_iload f_127_178 rfl ?_
          refine x_isub f_127_180 ?_
          refine x_iload f_127_181 rfl ?_
          refine x_ifN_eq (t := 193) f_127_183 (by decide) (by decide) (fun c_2 => ?_) (fun c_2 => by omega)
          refine x_iload f_127_193 rfl ?_
          refine x_iadd f_127_195 ?_
          refine x_min f_127_196 (Nat.le_of_ble_eq_true rfl) ?_
          refine x_iast (j := r) f_127_199 S.k40 (by decide) (by omega) (by decide) ?_
          refine x_iload f_127_200 rfl ?_
          refine x_ifN_eq (t := 251) f_127_202 (by decide) (by decide) (fun c_3 => ?_) (fun c_3 => by omega)
          refine x_iinc (v := nI (r + 1)) (ls1 := [.ref 33, .int (nI j), .int work, .int push, .int (nI c), .int (nI (9 * j)), .int (nI rg), .int (mj_I h 36 (9 * j + 2)), .int (nI (r + 1)), .int (mj_I h 39 r), .int (nI 0), .int ((nI 0) + (((mj_I h 39 r) - (nI 20)) * (mj_I h 36 (9 * j + 2)) / 1000)), .int (((work * (nI (r + 1))) * (mj_I h 36 (9 * j))) / (mj_I h 36 (9 * j + 1)))]) f_127_251 rfl (by exact nI_add _ 1) rfl ?_
          refine x_goto (t := 32) f_127_254 (by decide) ?_
          have hnx : (if (((mj_I h 39 r) - ((nI 0) + (((mj_I h 39 r) - (nI 20)) * (mj_I h 36 (9 * j + 2)) / 1000))) + (((work * (nI (r + 1))) * (mj_I h 36 (9 * j))) / (mj_I h 36 (9 * j + 1)))) < (nI 5000) then (((mj_I h 39 r) - ((nI 0) + (((mj_I h 39 r) - (nI 20)) * (mj_I h 36 (9 * j + 2)) / 1000))) + (((work * (nI (r + 1))) * (mj_I h 36 (9 * j))) / (mj_I h 36 (9 * j + 1)))) else (nI 5000)) = tk_nx (mM h j) rg (mj_I h 39) work r := by
            unfold tk_nx tk_go
            rw [if_pos (show mj_I h 39 r < mM h j 3 from c_s), if_pos c_0, if_pos c_e]
            rfl
          have hot : mj_I h 42 r = tk_ot (mM h j) (mj_I h 39) (mj_I h 42) push r := by
            unfold tk_ot
            rw [if_pos (show mj_I h 39 r < mM h j 3 from c_s)]
          refine ih (r + 1) (mj_setI g 40 r (if (((mj_I h 39 r) - ((nI 0) + (((mj_I h 39 r) - (nI 20)) * (mj_I h 36 (9 * j + 2)) / 1000))) + (((work * (nI (r + 1))) * (mj_I h 36 (9 * j))) / (mj_I h 36 (9 * j + 1)))) < (nI 5000) then (((mj_I h 39 r) - ((nI 0) + (((mj_I h 39 r) - (nI 20)) * (mj_I h 36 (9 * j + 2)) / 1000))) + (((work * (nI (r + 1))) * (mj_I h 36 (9 * j))) / (mj_I h 36 (9 * j + 1)))) else (nI 5000))) _ _ _ _ (by omega) S (hR.set (by decide)) (fun q hq => ?_) (fun q => ?_)
          · by_cases hqr : q = r
            · subst hqr
              exact ((mj_I_at g 40 q _).trans hnx)
            · exact ((mj_I_ne (h := g) (a := 40) hqr).trans (i40 q (by omega)))
          · by_cases hqr : q = r
            · subst hqr
              exact ((congrFun (mj_I_other (a := 40) (b := 42) (by decide)) q).trans (i42r.trans hot)).trans (if_pos (Nat.lt_succ_self q)).symm
            · rw [mj_ifs hqr]
              exact (congrFun (mj_I_other (a := 40) (b := 42) (by decide)) q).trans (i42 q)
        · refine x_aload_n f_127_108 rfl ?_
          refine x_iload f_127_109 rfl ?_
          refine x_aload_n f_127_111 rfl ?_
          refine x_getR f_127_112 S.k33 (by decide) S.r9 ?_
          refine x_iload f_127_115 rfl ?_
          refine x_iconst (v := nI 1) f_127_117 (by decide) ?_
          refine x_iaddN f_127_118 ?_
          refine x_iald (j := (r + 1)) f_127_119 S.k39 (by omega) (by decide) ?_
          refine x_topi (w := mj_I h 39 (r + 1)) (congrFun e39 _) ?_
          refine x_iload f_127_120 rfl ?_
          refine x_callVe f_127_122 (c_led3 _ _ _ 0) (by omega) S.k33 (by decide) rfl rfl (Nat.le_of_ble_eq_true rfl) rfl ?_
          refine x_goto (t := 138) f_127_125 (by decide) ?_
          refine x_iadd f_127_138 ?_
          refine x_istore (ls1 := [.ref 33, .int (nI j), .int work, .int push, .int (nI c), .int (nI (9 * j)), .int (nI rg), .int (mj_I h 36 (9 * j + 2)), .int (nI r), .int (mj_I h 39 r), .int (nI 0), .int ((nI 0) + (((mj_I h 39 r) - (mj_I h 39 (r + 1))) * (mj_I h 36 (9 * j + 2)) / 1000)), v12]) f_127_139 (Nat.le_of_ble_eq_true rfl) rfl ?_
          refine x_iload_n f_127_141 rfl ?_
          refine x_iload f_127_142 rfl ?_
          refine x_iconst (v := nI 1) f_127_144 (by decide) ?_
          refine x_iaddN f_127_145 ?_
          refine x_imul f_127_146 ?_
          refine x_aload_n f_127_147 rfl ?_
          refine x_getR f_127_148 S.k33 (by decide) S.r4 ?_
          refine x_iload f_127_151 rfl ?_
          refine x_iald (j := (9 * j)) f_127_153 S.k36 (by omega) (by decide) ?_
          refine x_topi (w := mj_I h 36 (9 * j)) (congrFun e36 _) ?_
          refine x_imul f_127_154 ?_
          refine x_aload_n f_127_155 rfl ?_
          refine x_getR f_127_156 S.k33 (by decide) S.r4 ?_
          refine x_iload f_127_159 rfl ?_
          refine x_iconst (v := nI 1) f_127_161 (by decide) ?_
          refine x_iaddN f_127_162 ?_
          refine x_iald (j := ((9 * j) + 1)) f_127_163 S.k36 (by omega) (by decide) ?_
          refine x_topi (w := mj_I h 36 (9 * j + 1)) (congrFun e36 _) ?_
          refine x_idiv f_127_164 h1 ?_
          refine x_istore (ls1 := [.ref 33, .int (nI j), .int work, .int push, .int (nI c), .int (nI (9 * j)), .int (nI rg), .int (mj_I h 36 (9 * j + 2)), .int (nI r), .int (mj_I h 39 r), .int (nI 0), .int ((nI 0) + (((mj_I h 39 r) - (mj_I h 39 (r + 1))) * (mj_I h 36 (9 * j + 2)) / 1000)), .int (((work * (nI (r + 1))) * (mj_I h 36 (9 * j))) / (mj_I h 36 (9 * j + 1)))]) f_127_165 (Nat.le_of_ble_eq_true rfl) rfl ?_
          refine x_aload_n f_127_167 rfl ?_
          refine x_getR f_127_168 S.k33 (by decide) S.r10 ?_
          refine x_iload f_127_171 rfl ?_
          refine x_sipush (v := nI 5000) f_127_173 (by decide) ?_
          refine x_iload f_127_176 rfl ?_
          refine x_iload f_127_178 rfl ?_
          refine x_isub f_127_180 ?_
          refine x_iload f_127_181 rfl ?_
          refine x_ifN_eq (t := 193) f_127_183 (by decide) (by decide) (fun c_4 => ?_) (fun c_4 => by omega)
          refine x_iload f_127_193 rfl ?_
          refine x_iadd f_127_195 ?_
          refine x_min f_127_196 (Nat.le_of_ble_eq_true rfl) ?_
          refine x_iast (j := r) f_127_199 S.k40 (by decide) (by omega) (by decide) ?_
          refine x_iload f_127_200 rfl ?_
          refine x_ifN_eq (t := 251) f_127_202 (by decide) (by decide) (fun c_5 => ?_) (fun c_5 => by omega)
          refine x_iinc (v := nI (r + 1)) (ls1 := [.ref 33, .int (nI j), .int work, .int push, .int (nI c), .int (nI (9 * j)), .int (nI rg), .int (mj_I h 36 (9 * j + 2)), .int (nI (r + 1)), .int (mj_I h 39 r), .int (nI 0), .int ((nI 0) + (((mj_I h 39 r) - (mj_I h 39 (r + 1))) * (mj_I h 36 (9 * j + 2)) / 1000)), .int (((work * (nI (r + 1))) * (mj_I h 36 (9 * j))) / (mj_I h 36 (9 * j + 1)))]) f_127_251 rfl (by exact nI_add _ 1) rfl ?_
          refine x_goto (t := 32) f_127_254 (by decide) ?_
          have hnx : (if (((mj_I h 39 r) - ((nI 0) + (((mj_I h 39 r) - (mj_I h 39 (r + 1))) * (mj_I h 36 (9 * j + 2)) / 1000))) + (((work * (nI (r + 1))) * (mj_I h 36 (9 * j))) / (mj_I h 36 (9 * j + 1)))) < (nI 5000) then (((mj_I h 39 r) - ((nI 0) + (((mj_I h 39 r) - (mj_I h 39 (r + 1))) * (mj_I h 36 (9 * j + 2)) / 1000))) + (((work * (nI (r + 1))) * (mj_I h 36 (9 * j))) / (mj_I h 36 (9 * j + 1)))) else (nI 5000)) = tk_nx (mM h j) rg (mj_I h 39) work r := by
            unfold tk_nx tk_go
            rw [if_pos (show mj_I h 39 r < mM h j 3 from c_s), if_pos c_0, if_neg c_e]
            rfl
          have hot : mj_I h 42 r = tk_ot (mM h j) (mj_I h 39) (mj_I h 42) push r := by
            unfold tk_ot
            rw [if_pos (show mj_I h 39 r < mM h j 3 from c_s)]
          refine ih (r + 1) (mj_setI g 40 r (if (((mj_I h 39 r) - ((nI 0) + (((mj_I h 39 r) - (mj_I h 39 (r + 1))) * (mj_I h 36 (9 * j + 2)) / 1000))) + (((work * (nI (r + 1))) * (mj_I h 36 (9 * j))) / (mj_I h 36 (9 * j + 1)))) < (nI 5000) then (((mj_I h 39 r) - ((nI 0) + (((mj_I h 39 r) - (mj_I h 39 (r + 1))) * (mj_I h 36 (9 * j + 2)) / 1000))) + (((work * (nI (r + 1))) * (mj_I h 36 (9 * j))) / (mj_I h 36 (9 * j + 1)))) else (nI 5000))) _ _ _ _ (by omega) S (hR.set (by decide)) (fun q hq => ?_) (fun q => ?_)
          · by_cases hqr : q = r
            · subst hqr
              exact ((mj_I_at g 40 q _).trans hnx)
            · exact ((mj_I_ne (h := g) (a := 40) hqr).trans (i40 q (by omega)))
          · by_cases hqr : q = r
            · subst hqr
              exact ((congrFun (mj_I_other (a := 40) (b := 42) (by decide)) q).trans (i42r.trans hot)).trans (if_pos (Nat.lt_succ_self q)).symm
            · rw [mj_ifs hqr]
              exact (congrFun (mj_I_other (a := 40) (b := 42) (by decide)) q).trans (i42 q)
      · refine x_aload_n f_127_74 rfl ?_
        refine x_iload f_127_75 rfl ?_
        refine x_aload_n f_127_77 rfl ?_
        refine x_getR f_127_78 S.k33 (by decide) S.r9 ?_
        refine x_iload f_127_81 rfl ?_
        refine x_iconst (v := nI 1) f_127_83 (by decide) ?_
        refine x_isubN f_127_84 (by omega) ?_
        refine x_iald (j := (r - 1)) f_127_85 S.k39 (by omega) (by decide) ?_
        refine x_topi (w := mj_I h 39 (r - 1)) (congrFun e39 _) ?_
        refine x_iload f_127_86 rfl ?_
        refine x_callVe f_127_88 (c_led3 _ _ _ 0) (by omega) S.k33 (by decide) rfl rfl (Nat.le_of_ble_eq_true rfl) rfl ?_
        refine x_goto (t := 95) f_127_91 (by decide) ?_
        refine x_istore (ls1 := [.ref 33, .int (nI j), .int work, .int push, .int (nI c), .int (nI (9 * j)), .int (nI rg), .int (mj_I h 36 (9 * j + 2)), .int (nI r), .int (mj_I h 39 r), .int (nI 0), .int (((mj_I h 39 r) - (mj_I h 39 (r - 1))) * (mj_I h 36 (9 * j + 2)) / 1000), v12]) f_127_95 (Nat.le_of_ble_eq_true rfl) rfl ?_
        refine x_iload f_127_97 rfl ?_
        refine x_iload f_127_99 rfl ?_
        refine x_iload f_127_101 rfl ?_
        refine x_iconst (v := nI 1) f_127_103 (by decide) ?_
        refine x_isubN f_127_104 (by omega) ?_
        refine x_icmpN_ge (t := 128) f_127_105 (by decide) (by omega) (by omega) (fun c_e => ?_) (fun c_e => ?_)
        · refine x_aload_n f_127_128 rfl ?_
          refine x_iload f_127_129 rfl ?_
          refine x_bipush (v := nI 20) f_127_131 (by decide) ?_
          refine x_iload f_127_133 rfl ?_
          refine x_callVe f_127_135 (c_led3 _ _ _ 0) (by omega) S.k33 (by decide) rfl rfl (Nat.le_of_ble_eq_true rfl) rfl ?_
          refine x_iadd f_127_138 ?_
          refine x_istore (ls1 := [.ref 33, .int (nI j), .int work, .int push, .int (nI c), .int (nI (9 * j)), .int (nI rg), .int (mj_I h 36 (9 * j + 2)), .int (nI r), .int (mj_I h 39 r), .int (nI 0), .int ((((mj_I h 39 r) - (mj_I h 39 (r - 1))) * (mj_I h 36 (9 * j + 2)) / 1000) + (((mj_I h 39 r) - (nI 20)) * (mj_I h 36 (9 * j + 2)) / 1000)), v12]) f_127_139 (Nat.le_of_ble_eq_true rfl) rfl ?_
          refine x_iload_n f_127_141 rfl ?_
          refine x_iload f_127_142 rfl ?_
          refine x_iconst (v := nI 1) f_127_144 (by decide) ?_
          refine x_iaddN f_127_145 ?_
          refine x_imul f_127_146 ?_
          refine x_aload_n f_127_147 rfl ?_
          refine x_getR f_127_148 S.k33 (by decide) S.r4 ?_
          refine x_iload f_127_151 rfl ?_
          refine x_iald (j := (9 * j)) f_127_153 S.k36 (by omega) (by decide) ?_
          refine x_topi (w := mj_I h 36 (9 * j)) (congrFun e36 _) ?_
          refine x_imul f_127_154 ?_
          refine x_aload_n f_127_155 rfl ?_
          refine x_getR f_127_156 S.k33 (by decide) S.r4 ?_
          refine x_iload f_127_159 rfl ?_
          refine x_iconst (v := nI 1) f_127_161 (by decide) ?_
          refine x_iaddN f_127_162 ?_
          refine x_iald (j := ((9 * j) + 1)) f_127_163 S.k36 (by omega) (by decide) ?_
          refine x_topi (w := mj_I h 36 (9 * j + 1)) (congrFun e36 _) ?_
          refine x_idiv f_127_164 h1 ?_
          refine x_istore (ls1 := [.ref 33, .int (nI j), .int work, .int push, .int (nI c), .int (nI (9 * j)), .int (nI rg), .int (mj_I h 36 (9 * j + 2)), .int (nI r), .int (mj_I h 39 r), .int (nI 0), .int ((((mj_I h 39 r) - (mj_I h 39 (r - 1))) * (mj_I h 36 (9 * j + 2)) / 1000) + (((mj_I h 39 r) - (nI 20)) * (mj_I h 36 (9 * j + 2)) / 1000)), .int (((work * (nI (r + 1))) * (mj_I h 36 (9 * j))) / (mj_I h 36 (9 * j + 1)))]) f_127_165 (Nat.le_of_ble_eq_true rfl) rfl ?_
          refine x_aload_n f_127_167 rfl ?_
          refine x_getR f_127_168 S.k33 (by decide) S.r10 ?_
          refine x_iload f_127_171 rfl ?_
          refine x_sipush (v := nI 5000) f_127_173 (by decide) ?_
          refine x_iload f_127_176 rfl ?_
          refine x_iload f_127_178 rfl ?_
          refine x_isub f_127_180 ?_
          refine x_iload f_127_181 rfl ?_
          refine x_ifN_eq (t := 193) f_127_183 (by decide) (by decide) (fun c_6 => ?_) (fun c_6 => by omega)
          refine x_iload f_127_193 rfl ?_
          refine x_iadd f_127_195 ?_
          refine x_min f_127_196 (Nat.le_of_ble_eq_true rfl) ?_
          refine x_iast (j := r) f_127_199 S.k40 (by decide) (by omega) (by decide) ?_
          refine x_iload f_127_200 rfl ?_
          refine x_ifN_eq (t := 251) f_127_202 (by decide) (by decide) (fun c_7 => ?_) (fun c_7 => by omega)
          refine x_iinc (v := nI (r + 1)) (ls1 := [.ref 33, .int (nI j), .int work, .int push, .int (nI c), .int (nI (9 * j)), .int (nI rg), .int (mj_I h 36 (9 * j + 2)), .int (nI (r + 1)), .int (mj_I h 39 r), .int (nI 0), .int ((((mj_I h 39 r) - (mj_I h 39 (r - 1))) * (mj_I h 36 (9 * j + 2)) / 1000) + (((mj_I h 39 r) - (nI 20)) * (mj_I h 36 (9 * j + 2)) / 1000)), .int (((work * (nI (r + 1))) * (mj_I h 36 (9 * j))) / (mj_I h 36 (9 * j + 1)))]) f_127_251 rfl (by exact nI_add _ 1) rfl ?_
          refine x_goto (t := 32) f_127_254 (by decide) ?_
          have hnx : (if (((mj_I h 39 r) - ((((mj_I h 39 r) - (mj_I h 39 (r - 1))) * (mj_I h 36 (9 * j + 2)) / 1000) + (((mj_I h 39 r) - (nI 20)) * (mj_I h 36 (9 * j + 2)) / 1000))) + (((work * (nI (r + 1))) * (mj_I h 36 (9 * j))) / (mj_I h 36 (9 * j + 1)))) < (nI 5000) then (((mj_I h 39 r) - ((((mj_I h 39 r) - (mj_I h 39 (r - 1))) * (mj_I h 36 (9 * j + 2)) / 1000) + (((mj_I h 39 r) - (nI 20)) * (mj_I h 36 (9 * j + 2)) / 1000))) + (((work * (nI (r + 1))) * (mj_I h 36 (9 * j))) / (mj_I h 36 (9 * j + 1)))) else (nI 5000)) = tk_nx (mM h j) rg (mj_I h 39) work r := by
            unfold tk_nx tk_go
            rw [if_pos (show mj_I h 39 r < mM h j 3 from c_s), if_neg c_0, if_pos c_e]
            rfl
          have hot : mj_I h 42 r = tk_ot (mM h j) (mj_I h 39) (mj_I h 42) push r := by
            unfold tk_ot
            rw [if_pos (show mj_I h 39 r < mM h j 3 from c_s)]
          refine ih (r + 1) (mj_setI g 40 r (if (((mj_I h 39 r) - ((((mj_I h 39 r) - (mj_I h 39 (r - 1))) * (mj_I h 36 (9 * j + 2)) / 1000) + (((mj_I h 39 r) - (nI 20)) * (mj_I h 36 (9 * j + 2)) / 1000))) + (((work * (nI (r + 1))) * (mj_I h 36 (9 * j))) / (mj_I h 36 (9 * j + 1)))) < (nI 5000) then (((mj_I h 39 r) - ((((mj_I h 39 r) - (mj_I h 39 (r - 1))) * (mj_I h 36 (9 * j + 2)) / 1000) + (((mj_I h 39 r) - (nI 20)) * (mj_I h 36 (9 * j + 2)) / 1000))) + (((work * (nI (r + 1))) * (mj_I h 36 (9 * j))) / (mj_I h 36 (9 * j + 1)))) else (nI 5000))) _ _ _ _ (by omega) S (hR.set (by decide)) (fun q hq => ?_) (fun q => ?_)
          · by_cases hqr : q = r
            · subst hqr
              exact ((mj_I_at g 40 q _).trans hnx)
            · exact ((mj_I_ne (h := g) (a := 40) hqr).trans (i40 q (by omega)))
          · by_cases hqr : q = r
            · subst hqr
              exact ((congrFun (mj_I_other (a := 40) (b := 42) (by decide)) q).trans (i42r.trans hot)).trans (if_pos (Nat.lt_succ_self q)).symm
            · rw [mj_ifs hqr]
              exact (congrFun (mj_I_other (a := 40) (b := 42) (by decide)) q).trans (i42 q)
        · refine x_aload_n f_127_108 rfl ?_
          refine x_iload f_127_109 rfl ?_
          refine x_aload_n f_127_111 rfl ?_
          refine x_getR f_127_112 S.k33 (by decide) S.r9 ?_
          refine x_iload f_127_115 rfl ?_
          refine x_iconst (v := nI 1) f_127_117 (by decide) ?_
          refine x_iaddN f_127_118 ?_
          refine x_iald (j := (r + 1)) f_127_119 S.k39 (by omega) (by decide) ?_
          refine x_topi (w := mj_I h 39 (r + 1)) (congrFun e39 _) ?_
          refine x_iload f_127_120 rfl ?_
          refine x_callVe f_127_122 (c_led3 _ _ _ 0) (by omega) S.k33 (by decide) rfl rfl (Nat.le_of_ble_eq_true rfl) rfl ?_
          refine x_goto (t := 138) f_127_125 (by decide) ?_
          refine x_iadd f_127_138 ?_
          refine x_istore (ls1 := [.ref 33, .int (nI j), .int work, .int push, .int (nI c), .int (nI (9 * j)), .int (nI rg), .int (mj_I h 36 (9 * j + 2)), .int (nI r), .int (mj_I h 39 r), .int (nI 0), .int ((((mj_I h 39 r) - (mj_I h 39 (r - 1))) * (mj_I h 36 (9 * j + 2)) / 1000) + (((mj_I h 39 r) - (mj_I h 39 (r + 1))) * (mj_I h 36 (9 * j + 2)) / 1000)), v12]) f_127_139 (Nat.le_of_ble_eq_true rfl) rfl ?_
          refine x_iload_n f_127_141 rfl ?_
          refine x_iload f_127_142 rfl ?_
          refine x_iconst (v := nI 1) f_127_144 (by decide) ?_
          refine x_iaddN f_127_145 ?_
          refine x_imul f_127_146 ?_
          refine x_aload_n f_127_147 rfl ?_
          refine x_getR f_127_148 S.k33 (by decide) S.r4 ?_
          refine x_iload f_127_151 rfl ?_
          refine x_iald (j := (9 * j)) f_127_153 S.k36 (by omega) (by decide) ?_
          refine x_topi (w := mj_I h 36 (9 * j)) (congrFun e36 _) ?_
          refine x_imul f_127_154 ?_
          refine x_aload_n f_127_155 rfl ?_
          refine x_getR f_127_156 S.k33 (by decide) S.r4 ?_
          refine x_iload f_127_159 rfl ?_
          refine x_iconst (v := nI 1) f_127_161 (by decide) ?_
          refine x_iaddN f_127_162 ?_
          refine x_iald (j := ((9 * j) + 1)) f_127_163 S.k36 (by omega) (by decide) ?_
          refine x_topi (w := mj_I h 36 (9 * j + 1)) (congrFun e36 _) ?_
          refine x_idiv f_127_164 h1 ?_
          refine x_istore (ls1 := [.ref 33, .int (nI j), .int work, .int push, .int (nI c), .int (nI (9 * j)), .int (nI rg), .int (mj_I h 36 (9 * j + 2)), .int (nI r), .int (mj_I h 39 r), .int (nI 0), .int ((((mj_I h 39 r) - (mj_I h 39 (r - 1))) * (mj_I h 36 (9 * j + 2)) / 1000) + (((mj_I h 39 r) - (mj_I h 39 (r + 1))) * (mj_I h 36 (9 * j + 2)) / 1000)), .int (((work * (nI (r + 1))) * (mj_I h 36 (9 * j))) / (mj_I h 36 (9 * j + 1)))]) f_127_165 (Nat.le_of_ble_eq_true rfl) rfl ?_
          refine x_aload_n f_127_167 rfl ?_
          refine x_getR f_127_168 S.k33 (by decide) S.r10 ?_
          refine x_iload f_127_171 rfl ?_
          refine x_sipush (v := nI 5000) f_127_173 (by decide) ?_
          refine x_iload f_127_176 rfl ?_
          refine x_iload f_127_178 rfl ?_
          refine x_isub f_127_180 ?_
          refine x_iload f_127_181 rfl ?_
          refine x_ifN_eq (t := 193) f_127_183 (by decide) (by decide) (fun c_8 => ?_) (fun c_8 => by omega)
          refine x_iload f_127_193 rfl ?_
          refine x_iadd f_127_195 ?_
          refine x_min f_127_196 (Nat.le_of_ble_eq_true rfl) ?_
          refine x_iast (j := r) f_127_199 S.k40 (by decide) (by omega) (by decide) ?_
          refine x_iload f_127_200 rfl ?_
          refine x_ifN_eq (t := 251) f_127_202 (by decide) (by decide) (fun c_9 => ?_) (fun c_9 => by omega)
          refine x_iinc (v := nI (r + 1)) (ls1 := [.ref 33, .int (nI j), .int work, .int push, .int (nI c), .int (nI (9 * j)), .int (nI rg), .int (mj_I h 36 (9 * j + 2)), .int (nI (r + 1)), .int (mj_I h 39 r), .int (nI 0), .int ((((mj_I h 39 r) - (mj_I h 39 (r - 1))) * (mj_I h 36 (9 * j + 2)) / 1000) + (((mj_I h 39 r) - (mj_I h 39 (r + 1))) * (mj_I h 36 (9 * j + 2)) / 1000)), .int (((work * (nI (r + 1))) * (mj_I h 36 (9 * j))) / (mj_I h 36 (9 * j + 1)))]) f_127_251 rfl (by exact nI_add _ 1) rfl ?_
          refine x_goto (t := 32) f_127_254 (by decide) ?_
          have hnx : (if (((mj_I h 39 r) - ((((mj_I h 39 r) - (mj_I h 39 (r - 1))) * (mj_I h 36 (9 * j + 2)) / 1000) + (((mj_I h 39 r) - (mj_I h 39 (r + 1))) * (mj_I h 36 (9 * j + 2)) / 1000))) + (((work * (nI (r + 1))) * (mj_I h 36 (9 * j))) / (mj_I h 36 (9 * j + 1)))) < (nI 5000) then (((mj_I h 39 r) - ((((mj_I h 39 r) - (mj_I h 39 (r - 1))) * (mj_I h 36 (9 * j + 2)) / 1000) + (((mj_I h 39 r) - (mj_I h 39 (r + 1))) * (mj_I h 36 (9 * j + 2)) / 1000))) + (((work * (nI (r + 1))) * (mj_I h 36 (9 * j))) / (mj_I h 36 (9 * j + 1)))) else (nI 5000)) = tk_nx (mM h j) rg (mj_I h 39) work r := by
            unfold tk_nx tk_go
            rw [if_pos (show mj_I h 39 r < mM h j 3 from c_s), if_neg c_0, if_neg c_e]
            rfl
          have hot : mj_I h 42 r = tk_ot (mM h j) (mj_I h 39) (mj_I h 42) push r := by
            unfold tk_ot
            rw [if_pos (show mj_I h 39 r < mM h j 3 from c_s)]
          refine ih (r + 1) (mj_setI g 40 r (if (((mj_I h 39 r) - ((((mj_I h 39 r) - (mj_I h 39 (r - 1))) * (mj_I h 36 (9 * j + 2)) / 1000) + (((mj_I h 39 r) - (mj_I h 39 (r + 1))) * (mj_I h 36 (9 * j + 2)) / 1000))) + (((work * (nI (r + 1))) * (mj_I h 36 (9 * j))) / (mj_I h 36 (9 * j + 1)))) < (nI 5000) then (((mj_I h 39 r) - ((((mj_I h 39 r) - (mj_I h 39 (r - 1))) * (mj_I h 36 (9 * j + 2)) / 1000) + (((mj_I h 39 r) - (mj_I h 39 (r + 1))) * (mj_I h 36 (9 * j + 2)) / 1000))) + (((work * (nI (r + 1))) * (mj_I h 36 (9 * j))) / (mj_I h 36 (9 * j + 1)))) else (nI 5000))) _ _ _ _ (by omega) S (hR.set (by decide)) (fun q hq => ?_) (fun q => ?_)
          · by_cases hqr : q = r
            · subst hqr
              exact ((mj_I_at g 40 q _).trans hnx)
            · exact ((mj_I_ne (h := g) (a := 40) hqr).trans (i40 q (by omega)))
          · by_cases hqr : q = r
            · subst hqr
              exact ((congrFun (mj_I_other (a := 40) (b := 42) (by decide)) q).trans (i42r.trans hot)).trans (if_pos (Nat.lt_succ_self q)).symm
            · rw [mj_ifs hqr]
              exact (congrFun (mj_I_other (a := 40) (b := 42) (by decide)) q).trans (i42 q)
    · refine x_iconst (v := nI 1) f_127_62 (by decide) ?_
      refine x_goto (t := 67) f_127_63 (by decide) ?_
      refine x_istore (ls1 := [.ref 33, .int (nI j), .int work, .int push, .int (nI c), .int (nI (9 * j)), .int (nI rg), .int (mj_I h 36 (9 * j + 2)), .int (nI r), .int (mj_I h 39 r), .int (nI 1), v11, v12]) f_127_67 (Nat.le_of_ble_eq_true rfl) rfl ?_
      refine x_iload f_127_69 rfl ?_
      refine x_ifN_le (t := 94) f_127_71 (by decide) (by omega) (fun c_0 => ?_) (fun c_0 => ?_)
      · refine x_iconst (v := nI 0) f_127_94 (by decide) ?_
        refine x_istore (ls1 := [.ref 33, .int (nI j), .int work, .int push, .int (nI c), .int (nI (9 * j)), .int (nI rg), .int (mj_I h 36 (9 * j + 2)), .int (nI r), .int (mj_I h 39 r), .int (nI 1), .int (nI 0), v12]) f_127_95 (Nat.le_of_ble_eq_true rfl) rfl ?_
        refine x_iload f_127_97 rfl ?_
        refine x_iload f_127_99 rfl ?_
        refine x_iload f_127_101 rfl ?_
        refine x_iconst (v := nI 1) f_127_103 (by decide) ?_
        refine x_isubN f_127_104 (by omega) ?_
        refine x_icmpN_ge (t := 128) f_127_105 (by decide) (by omega) (by omega) (fun c_e => ?_) (fun c_e => ?_)
        · refine x_aload_n f_127_128 rfl ?_
          refine x_iload f_127_129 rfl ?_
          refine x_bipush (v := nI 20) f_127_131 (by decide) ?_
          refine x_iload f_127_133 rfl ?_
          refine x_callVe f_127_135 (c_led3 _ _ _ 0) (by omega) S.k33 (by decide) rfl rfl (Nat.le_of_ble_eq_true rfl) rfl ?_
          refine x_iadd f_127_138 ?_
          refine x_istore (ls1 := [.ref 33, .int (nI j), .int work, .int push, .int (nI c), .int (nI (9 * j)), .int (nI rg), .int (mj_I h 36 (9 * j + 2)), .int (nI r), .int (mj_I h 39 r), .int (nI 1), .int ((nI 0) + (((mj_I h 39 r) - (nI 20)) * (mj_I h 36 (9 * j + 2)) / 1000)), v12]) f_127_139 (Nat.le_of_ble_eq_true rfl) rfl ?_
          refine x_iload_n f_127_141 rfl ?_
          refine x_iload f_127_142 rfl ?_
          refine x_iconst (v := nI 1) f_127_144 (by decide) ?_
          refine x_iaddN f_127_145 ?_
          refine x_imul f_127_146 ?_
          refine x_aload_n f_127_147 rfl ?_
          refine x_getR f_127_148 S.k33 (by decide) S.r4 ?_
          refine x_iload f_127_151 rfl ?_
          refine x_iald (j := (9 * j)) f_127_153 S.k36 (by omega) (by decide) ?_
          refine x_topi (w := mj_I h 36 (9 * j)) (congrFun e36 _) ?_
          refine x_imul f_127_154 ?_
          refine x_aload_n f_127_155 rfl ?_
          refine x_getR f_127_156 S.k33 (by decide) S.r4 ?_
          refine x_iload f_127_159 rfl ?_
          refine x_iconst (v := nI 1) f_127_161 (by decide) ?_
          refine x_iaddN f_127_162 ?_
          refine x_iald (j := ((9 * j) + 1)) f_127_163 S.k36 (by omega) (by decide) ?_
          refine x_topi (w := mj_I h 36 (9 * j + 1)) (congrFun e36 _) ?_
          refine x_idiv f_127_164 h1 ?_
          refine x_istore (ls1 := [.ref 33, .int (nI j), .int work, .int push, .int (nI c), .int (nI (9 * j)), .int (nI rg), .int (mj_I h 36 (9 * j + 2)), .int (nI r), .int (mj_I h 39 r), .int (nI 1), .int ((nI 0) + (((mj_I h 39 r) - (nI 20)) * (mj_I h 36 (9 * j + 2)) / 1000)), .int (((work * (nI (r + 1))) * (mj_I h 36 (9 * j))) / (mj_I h 36 (9 * j + 1)))]) f_127_165 (Nat.le_of_ble_eq_true rfl) rfl ?_
          refine x_aload_n f_127_167 rfl ?_
          refine x_getR f_127_168 S.k33 (by decide) S.r10 ?_
          refine x_iload f_127_171 rfl ?_
          refine x_sipush (v := nI 5000) f_127_173 (by decide) ?_
          refine x_iload f_127_176 rfl ?_
          refine x_iload f_127_178 rfl ?_
          refine x_isub f_127_180 ?_
          refine x_iload f_127_181 rfl ?_
          refine x_ifN_eq (t := 193) f_127_183 (by decide) (by decide) (fun c_10 => by omega) (fun c_10 => ?_)
          refine x_iload f_127_186 rfl ?_
          refine x_iconst (v := nI 2) f_127_188 (by decide) ?_
          refine x_idiv f_127_189 (by decide) ?_
          refine x_goto (t := 195) f_127_190 (by decide) ?_
          refine x_iadd f_127_195 ?_
          refine x_min f_127_196 (Nat.le_of_ble_eq_true rfl) ?_
          refine x_iast (j := r) f_127_199 S.k40 (by decide) (by omega) (by decide) ?_
          refine x_iload f_127_200 rfl ?_
          refine x_ifN_eq (t := 251) f_127_202 (by decide) (by decide) (fun c_11 => by omega) (fun c_11 => ?_)
          refine x_aload_n f_127_205 rfl ?_
          refine x_getR f_127_206 S.k33 (by decide) S.r12 ?_
          refine x_iload f_127_209 rfl ?_
          refine x_ldc (v := nI 100000) f_127_211 (by decide) ?_
          refine x_aload_n f_127_213 rfl ?_
          refine x_getR f_127_214 S.k33 (by decide) S.r12 ?_
          refine x_iload f_127_217 rfl ?_
          refine x_iald (j := r) f_127_219 S.k42 (by omega) (by decide) ?_
          refine x_topi (w := mj_I h 42 r) ((congrFun (mj_I_other (by decide)) _).trans (i42r)) ?_
          refine x_iload_n f_127_220 rfl ?_
          refine x_iload f_127_221 rfl ?_
          refine x_aload_n f_127_223 rfl ?_
          refine x_getR f_127_224 S.k33 (by decide) S.r4 ?_
          refine x_iload f_127_227 rfl ?_
          refine x_iconst (v := nI 3) f_127_229 (by decide) ?_
          refine x_iaddN f_127_230 ?_
          refine x_iald (j := ((9 * j) + 3)) f_127_231 S.k36 (by omega) (by decide) ?_
          refine x_topi (w := mj_I h 36 (9 * j + 3)) ((congrFun (mj_I_other (by decide)) _).trans (congrFun e36 _)) ?_
          refine x_isub f_127_232 ?_
          refine x_iconst (v := nI 1) f_127_233 (by decide) ?_
          refine x_iadd f_127_234 ?_
          refine x_imul f_127_235 ?_
          refine x_aload_n f_127_236 rfl ?_
          refine x_getR f_127_237 S.k33 (by decide) S.r4 ?_
          refine x_iload f_127_240 rfl ?_
          refine x_iconst (v := nI 4) f_127_242 (by decide) ?_
          refine x_iaddN f_127_243 ?_
          refine x_iald (j := ((9 * j) + 4)) f_127_244 S.k36 (by omega) (by decide) ?_
          refine x_topi (w := mj_I h 36 (9 * j + 4)) ((congrFun (mj_I_other (by decide)) _).trans (congrFun e36 _)) ?_
          refine x_idiv f_127_245 h4 ?_
          refine x_iadd f_127_246 ?_
          refine x_min f_127_247 (Nat.le_of_ble_eq_true rfl) ?_
          refine x_iast (j := r) f_127_250 S.k42 (by decide) (by omega) (by decide) ?_
          refine x_iinc (v := nI (r + 1)) (ls1 := [.ref 33, .int (nI j), .int work, .int push, .int (nI c), .int (nI (9 * j)), .int (nI rg), .int (mj_I h 36 (9 * j + 2)), .int (nI (r + 1)), .int (mj_I h 39 r), .int (nI 1), .int ((nI 0) + (((mj_I h 39 r) - (nI 20)) * (mj_I h 36 (9 * j + 2)) / 1000)), .int (((work * (nI (r + 1))) * (mj_I h 36 (9 * j))) / (mj_I h 36 (9 * j + 1)))]) f_127_251 rfl (by exact nI_add _ 1) rfl ?_
          refine x_goto (t := 32) f_127_254 (by decide) ?_
          have hnx : (if (((mj_I h 39 r) - ((nI 0) + (((mj_I h 39 r) - (nI 20)) * (mj_I h 36 (9 * j + 2)) / 1000))) + ((((work * (nI (r + 1))) * (mj_I h 36 (9 * j))) / (mj_I h 36 (9 * j + 1))) / (nI 2))) < (nI 5000) then (((mj_I h 39 r) - ((nI 0) + (((mj_I h 39 r) - (nI 20)) * (mj_I h 36 (9 * j + 2)) / 1000))) + ((((work * (nI (r + 1))) * (mj_I h 36 (9 * j))) / (mj_I h 36 (9 * j + 1))) / (nI 2))) else (nI 5000)) = tk_nx (mM h j) rg (mj_I h 39) work r := by
            unfold tk_nx tk_go
            rw [if_neg (show ¬ mj_I h 39 r < mM h j 3 from c_s), if_pos c_0, if_pos c_e]
            rfl
          have hot : (if ((mj_I h 42 r) + ((push * (((mj_I h 39 r) - (mj_I h 36 (9 * j + 3))) + (nI 1))) / (mj_I h 36 (9 * j + 4)))) < (nI 100000) then ((mj_I h 42 r) + ((push * (((mj_I h 39 r) - (mj_I h 36 (9 * j + 3))) + (nI 1))) / (mj_I h 36 (9 * j + 4)))) else (nI 100000)) = tk_ot (mM h j) (mj_I h 39) (mj_I h 42) push r := by
            unfold tk_ot
            rw [if_neg (show ¬ mj_I h 39 r < mM h j 3 from c_s)]
            rfl
          refine ih (r + 1) (mj_setI (mj_setI g 40 r (if (((mj_I h 39 r) - ((nI 0) + (((mj_I h 39 r) - (nI 20)) * (mj_I h 36 (9 * j + 2)) / 1000))) + ((((work * (nI (r + 1))) * (mj_I h 36 (9 * j))) / (mj_I h 36 (9 * j + 1))) / (nI 2))) < (nI 5000) then (((mj_I h 39 r) - ((nI 0) + (((mj_I h 39 r) - (nI 20)) * (mj_I h 36 (9 * j + 2)) / 1000))) + ((((work * (nI (r + 1))) * (mj_I h 36 (9 * j))) / (mj_I h 36 (9 * j + 1))) / (nI 2))) else (nI 5000))) 42 r (if ((mj_I h 42 r) + ((push * (((mj_I h 39 r) - (mj_I h 36 (9 * j + 3))) + (nI 1))) / (mj_I h 36 (9 * j + 4)))) < (nI 100000) then ((mj_I h 42 r) + ((push * (((mj_I h 39 r) - (mj_I h 36 (9 * j + 3))) + (nI 1))) / (mj_I h 36 (9 * j + 4)))) else (nI 100000))) _ _ _ _ (by omega) S ((hR.set (by decide)).set (by decide)) (fun q hq => ?_) (fun q => ?_)
          · by_cases hqr : q = r
            · subst hqr
              exact (congrFun (mj_I_other (a := 42) (b := 40) (by decide)) q).trans ((mj_I_at g 40 q _).trans hnx)
            · exact (congrFun (mj_I_other (a := 42) (b := 40) (by decide)) q).trans ((mj_I_ne (h := g) (a := 40) hqr).trans (i40 q (by omega)))
          · by_cases hqr : q = r
            · subst hqr
              exact ((mj_I_at _ 42 q _).trans hot).trans (if_pos (Nat.lt_succ_self q)).symm
            · rw [mj_ifs hqr]
              exact (mj_I_ne hqr).trans ((congrFun (mj_I_other (a := 40) (b := 42) (by decide)) q).trans (i42 q))
        · refine x_aload_n f_127_108 rfl ?_
          refine x_iload f_127_109 rfl ?_
          refine x_aload_n f_127_111 rfl ?_
          refine x_getR f_127_112 S.k33 (by decide) S.r9 ?_
          refine x_iload f_127_115 rfl ?_
          refine x_iconst (v := nI 1) f_127_117 (by decide) ?_
          refine x_iaddN f_127_118 ?_
          refine x_iald (j := (r + 1)) f_127_119 S.k39 (by omega) (by decide) ?_
          refine x_topi (w := mj_I h 39 (r + 1)) (congrFun e39 _) ?_
          refine x_iload f_127_120 rfl ?_
          refine x_callVe f_127_122 (c_led3 _ _ _ 0) (by omega) S.k33 (by decide) rfl rfl (Nat.le_of_ble_eq_true rfl) rfl ?_
          refine x_goto (t := 138) f_127_125 (by decide) ?_
          refine x_iadd f_127_138 ?_
          refine x_istore (ls1 := [.ref 33, .int (nI j), .int work, .int push, .int (nI c), .int (nI (9 * j)), .int (nI rg), .int (mj_I h 36 (9 * j + 2)), .int (nI r), .int (mj_I h 39 r), .int (nI 1), .int ((nI 0) + (((mj_I h 39 r) - (mj_I h 39 (r + 1))) * (mj_I h 36 (9 * j + 2)) / 1000)), v12]) f_127_139 (Nat.le_of_ble_eq_true rfl) rfl ?_
          refine x_iload_n f_127_141 rfl ?_
          refine x_iload f_127_142 rfl ?_
          refine x_iconst (v := nI 1) f_127_144 (by decide) ?_
          refine x_iaddN f_127_145 ?_
          refine x_imul f_127_146 ?_
          refine x_aload_n f_127_147 rfl ?_
          refine x_getR f_127_148 S.k33 (by decide) S.r4 ?_
          refine x_iload f_127_151 rfl ?_
          refine x_iald (j := (9 * j)) f_127_153 S.k36 (by omega) (by decide) ?_
          refine x_topi (w := mj_I h 36 (9 * j)) (congrFun e36 _) ?_
          refine x_imul f_127_154 ?_
          refine x_aload_n f_127_155 rfl ?_
          refine x_getR f_127_156 S.k33 (by decide) S.r4 ?_
          refine x_iload f_127_159 rfl ?_
          refine x_iconst (v := nI 1) f_127_161 (by decide) ?_
          refine x_iaddN f_127_162 ?_
          refine x_iald (j := ((9 * j) + 1)) f_127_163 S.k36 (by omega) (by decide) ?_
          refine x_topi (w := mj_I h 36 (9 * j + 1)) (congrFun e36 _) ?_
          refine x_idiv f_127_164 h1 ?_
          refine x_istore (ls1 := [.ref 33, .int (nI j), .int work, .int push, .int (nI c), .int (nI (9 * j)), .int (nI rg), .int (mj_I h 36 (9 * j + 2)), .int (nI r), .int (mj_I h 39 r), .int (nI 1), .int ((nI 0) + (((mj_I h 39 r) - (mj_I h 39 (r + 1))) * (mj_I h 36 (9 * j + 2)) / 1000)), .int (((work * (nI (r + 1))) * (mj_I h 36 (9 * j))) / (mj_I h 36 (9 * j + 1)))]) f_127_165 (Nat.le_of_ble_eq_true rfl) rfl ?_
          refine x_aload_n f_127_167 rfl ?_
          refine x_getR f_127_168 S.k33 (by decide) S.r10 ?_
          refine x_iload f_127_171 rfl ?_
          refine x_sipush (v := nI 5000) f_127_173 (by decide) ?_
          refine x_iload f_127_176 rfl ?_
          refine x_iload f_127_178 rfl ?_
          refine x_isub f_127_180 ?_
          refine x_iload f_127_181 rfl ?_
          refine x_ifN_eq (t := 193) f_127_183 (by decide) (by decide) (fun c_12 => by omega) (fun c_12 => ?_)
          refine x_iload f_127_186 rfl ?_
          refine x_iconst (v := nI 2) f_127_188 (by decide) ?_
          refine x_idiv f_127_189 (by decide) ?_
          refine x_goto (t := 195) f_127_190 (by decide) ?_
          refine x_iadd f_127_195 ?_
          refine x_min f_127_196 (Nat.le_of_ble_eq_true rfl) ?_
          refine x_iast (j := r) f_127_199 S.k40 (by decide) (by omega) (by decide) ?_
          refine x_iload f_127_200 rfl ?_
          refine x_ifN_eq (t := 251) f_127_202 (by decide) (by decide) (fun c_13 => by omega) (fun c_13 => ?_)
          refine x_aload_n f_127_205 rfl ?_
          refine x_getR f_127_206 S.k33 (by decide) S.r12 ?_
          refine x_iload f_127_209 rfl ?_
          refine x_ldc (v := nI 100000) f_127_211 (by decide) ?_
          refine x_aload_n f_127_213 rfl ?_
          refine x_getR f_127_214 S.k33 (by decide) S.r12 ?_
          refine x_iload f_127_217 rfl ?_
          refine x_iald (j := r) f_127_219 S.k42 (by omega) (by decide) ?_
          refine x_topi (w := mj_I h 42 r) ((congrFun (mj_I_other (by decide)) _).trans (i42r)) ?_
          refine x_iload_n f_127_220 rfl ?_
          refine x_iload f_127_221 rfl ?_
          refine x_aload_n f_127_223 rfl ?_
          refine x_getR f_127_224 S.k33 (by decide) S.r4 ?_
          refine x_iload f_127_227 rfl ?_
          refine x_iconst (v := nI 3) f_127_229 (by decide) ?_
          refine x_iaddN f_127_230 ?_
          refine x_iald (j := ((9 * j) + 3)) f_127_231 S.k36 (by omega) (by decide) ?_
          refine x_topi (w := mj_I h 36 (9 * j + 3)) ((congrFun (mj_I_other (by decide)) _).trans (congrFun e36 _)) ?_
          refine x_isub f_127_232 ?_
          refine x_iconst (v := nI 1) f_127_233 (by decide) ?_
          refine x_iadd f_127_234 ?_
          refine x_imul f_127_235 ?_
          refine x_aload_n f_127_236 rfl ?_
          refine x_getR f_127_237 S.k33 (by decide) S.r4 ?_
          refine x_iload f_127_240 rfl ?_
          refine x_iconst (v := nI 4) f_127_242 (by decide) ?_
          refine x_iaddN f_127_243 ?_
          refine x_iald (j := ((9 * j) + 4)) f_127_244 S.k36 (by omega) (by decide) ?_
          refine x_topi (w := mj_I h 36 (9 * j + 4)) ((congrFun (mj_I_other (by decide)) _).trans (congrFun e36 _)) ?_
          refine x_idiv f_127_245 h4 ?_
          refine x_iadd f_127_246 ?_
          refine x_min f_127_247 (Nat.le_of_ble_eq_true rfl) ?_
          refine x_iast (j := r) f_127_250 S.k42 (by decide) (by omega) (by decide) ?_
          refine x_iinc (v := nI (r + 1)) (ls1 := [.ref 33, .int (nI j), .int work, .int push, .int (nI c), .int (nI (9 * j)), .int (nI rg), .int (mj_I h 36 (9 * j + 2)), .int (nI (r + 1)), .int (mj_I h 39 r), .int (nI 1), .int ((nI 0) + (((mj_I h 39 r) - (mj_I h 39 (r + 1))) * (mj_I h 36 (9 * j + 2)) / 1000)), .int (((work * (nI (r + 1))) * (mj_I h 36 (9 * j))) / (mj_I h 36 (9 * j + 1)))]) f_127_251 rfl (by exact nI_add _ 1) rfl ?_
          refine x_goto (t := 32) f_127_254 (by decide) ?_
          have hnx : (if (((mj_I h 39 r) - ((nI 0) + (((mj_I h 39 r) - (mj_I h 39 (r + 1))) * (mj_I h 36 (9 * j + 2)) / 1000))) + ((((work * (nI (r + 1))) * (mj_I h 36 (9 * j))) / (mj_I h 36 (9 * j + 1))) / (nI 2))) < (nI 5000) then (((mj_I h 39 r) - ((nI 0) + (((mj_I h 39 r) - (mj_I h 39 (r + 1))) * (mj_I h 36 (9 * j + 2)) / 1000))) + ((((work * (nI (r + 1))) * (mj_I h 36 (9 * j))) / (mj_I h 36 (9 * j + 1))) / (nI 2))) else (nI 5000)) = tk_nx (mM h j) rg (mj_I h 39) work r := by
            unfold tk_nx tk_go
            rw [if_neg (show ¬ mj_I h 39 r < mM h j 3 from c_s), if_pos c_0, if_neg c_e]
            rfl
          have hot : (if ((mj_I h 42 r) + ((push * (((mj_I h 39 r) - (mj_I h 36 (9 * j + 3))) + (nI 1))) / (mj_I h 36 (9 * j + 4)))) < (nI 100000) then ((mj_I h 42 r) + ((push * (((mj_I h 39 r) - (mj_I h 36 (9 * j + 3))) + (nI 1))) / (mj_I h 36 (9 * j + 4)))) else (nI 100000)) = tk_ot (mM h j) (mj_I h 39) (mj_I h 42) push r := by
            unfold tk_ot
            rw [if_neg (show ¬ mj_I h 39 r < mM h j 3 from c_s)]
            rfl
          refine ih (r + 1) (mj_setI (mj_setI g 40 r (if (((mj_I h 39 r) - ((nI 0) + (((mj_I h 39 r) - (mj_I h 39 (r + 1))) * (mj_I h 36 (9 * j + 2)) / 1000))) + ((((work * (nI (r + 1))) * (mj_I h 36 (9 * j))) / (mj_I h 36 (9 * j + 1))) / (nI 2))) < (nI 5000) then (((mj_I h 39 r) - ((nI 0) + (((mj_I h 39 r) - (mj_I h 39 (r + 1))) * (mj_I h 36 (9 * j + 2)) / 1000))) + ((((work * (nI (r + 1))) * (mj_I h 36 (9 * j))) / (mj_I h 36 (9 * j + 1))) / (nI 2))) else (nI 5000))) 42 r (if ((mj_I h 42 r) + ((push * (((mj_I h 39 r) - (mj_I h 36 (9 * j + 3))) + (nI 1))) / (mj_I h 36 (9 * j + 4)))) < (nI 100000) then ((mj_I h 42 r) + ((push * (((mj_I h 39 r) - (mj_I h 36 (9 * j + 3))) + (nI 1))) / (mj_I h 36 (9 * j + 4)))) else (nI 100000))) _ _ _ _ (by omega) S ((hR.set (by decide)).set (by decide)) (fun q hq => ?_) (fun q => ?_)
          · by_cases hqr : q = r
            · subst hqr
              exact (congrFun (mj_I_other (a := 42) (b := 40) (by decide)) q).trans ((mj_I_at g 40 q _).trans hnx)
            · exact (congrFun (mj_I_other (a := 42) (b := 40) (by decide)) q).trans ((mj_I_ne (h := g) (a := 40) hqr).trans (i40 q (by omega)))
          · by_cases hqr : q = r
            · subst hqr
              exact ((mj_I_at _ 42 q _).trans hot).trans (if_pos (Nat.lt_succ_self q)).symm
            · rw [mj_ifs hqr]
              exact (mj_I_ne hqr).trans ((congrFun (mj_I_other (a := 40) (b := 42) (by decide)) q).trans (i42 q))
      · refine x_aload_n f_127_74 rfl ?_
        refine x_iload f_127_75 rfl ?_
        refine x_aload_n f_127_77 rfl ?_
        refine x_getR f_127_78 S.k33 (by decide) S.r9 ?_
        refine x_iload f_127_81 rfl ?_
        refine x_iconst (v := nI 1) f_127_83 (by decide) ?_
        refine x_isubN f_127_84 (by omega) ?_
        refine x_iald (j := (r - 1)) f_127_85 S.k39 (by omega) (by decide) ?_
        refine x_topi (w := mj_I h 39 (r - 1)) (congrFun e39 _) ?_
        refine x_iload f_127_86 rfl ?_
        refine x_callVe f_127_88 (c_led3 _ _ _ 0) (by omega) S.k33 (by decide) rfl rfl (Nat.le_of_ble_eq_true rfl) rfl ?_
        refine x_goto (t := 95) f_127_91 (by decide) ?_
        refine x_istore (ls1 := [.ref 33, .int (nI j), .int work, .int push, .int (nI c), .int (nI (9 * j)), .int (nI rg), .int (mj_I h 36 (9 * j + 2)), .int (nI r), .int (mj_I h 39 r), .int (nI 1), .int (((mj_I h 39 r) - (mj_I h 39 (r - 1))) * (mj_I h 36 (9 * j + 2)) / 1000), v12]) f_127_95 (Nat.le_of_ble_eq_true rfl) rfl ?_
        refine x_iload f_127_97 rfl ?_
        refine x_iload f_127_99 rfl ?_
        refine x_iload f_127_101 rfl ?_
        refine x_iconst (v := nI 1) f_127_103 (by decide) ?_
        refine x_isubN f_127_104 (by omega) ?_
        refine x_icmpN_ge (t := 128) f_127_105 (by decide) (by omega) (by omega) (fun c_e => ?_) (fun c_e => ?_)
        · refine x_aload_n f_127_128 rfl ?_
          refine x_iload f_127_129 rfl ?_
          refine x_bipush (v := nI 20) f_127_131 (by decide) ?_
          refine x_iload f_127_133 rfl ?_
          refine x_callVe f_127_135 (c_led3 _ _ _ 0) (by omega) S.k33 (by decide) rfl rfl (Nat.le_of_ble_eq_true rfl) rfl ?_
          refine x_iadd f_127_138 ?_
          refine x_istore (ls1 := [.ref 33, .int (nI j), .int work, .int push, .int (nI c), .int (nI (9 * j)), .int (nI rg), .int (mj_I h 36 (9 * j + 2)), .int (nI r), .int (mj_I h 39 r), .int (nI 1), .int ((((mj_I h 39 r) - (mj_I h 39 (r - 1))) * (mj_I h 36 (9 * j + 2)) / 1000) + (((mj_I h 39 r) - (nI 20)) * (mj_I h 36 (9 * j + 2)) / 1000)), v12]) f_127_139 (Nat.le_of_ble_eq_true rfl) rfl ?_
          refine x_iload_n f_127_141 rfl ?_
          refine x_iload f_127_142 rfl ?_
          refine x_iconst (v := nI 1) f_127_144 (by decide) ?_
          refine x_iaddN f_127_145 ?_
          refine x_imul f_127_146 ?_
          refine x_aload_n f_127_147 rfl ?_
          refine x_getR f_127_148 S.k33 (by decide) S.r4 ?_
          refine x_iload f_127_151 rfl ?_
          refine x_iald (j := (9 * j)) f_127_153 S.k36 (by omega) (by decide) ?_
          refine x_topi (w := mj_I h 36 (9 * j)) (congrFun e36 _) ?_
          refine x_imul f_127_154 ?_
          refine x_aload_n f_127_155 rfl ?_
          refine x_getR f_127_156 S.k33 (by decide) S.r4 ?_
          refine x_iload f_127_159 rfl ?_
          refine x_iconst (v := nI 1) f_127_161 (by decide) ?_
          refine x_iaddN f_127_162 ?_
          refine x_iald (j := ((9 * j) + 1)) f_127_163 S.k36 (by omega) (by decide) ?_
          refine x_topi (w := mj_I h 36 (9 * j + 1)) (congrFun e36 _) ?_
          refine x_idiv f_127_164 h1 ?_
          refine x_istore (ls1 := [.ref 33, .int (nI j), .int work, .int push, .int (nI c), .int (nI (9 * j)), .int (nI rg), .int (mj_I h 36 (9 * j + 2)), .int (nI r), .int (mj_I h 39 r), .int (nI 1), .int ((((mj_I h 39 r) - (mj_I h 39 (r - 1))) * (mj_I h 36 (9 * j + 2)) / 1000) + (((mj_I h 39 r) - (nI 20)) * (mj_I h 36 (9 * j + 2)) / 1000)), .int (((work * (nI (r + 1))) * (mj_I h 36 (9 * j))) / (mj_I h 36 (9 * j + 1)))]) f_127_165 (Nat.le_of_ble_eq_true rfl) rfl ?_
          refine x_aload_n f_127_167 rfl ?_
          refine x_getR f_127_168 S.k33 (by decide) S.r10 ?_
          refine x_iload f_127_171 rfl ?_
          refine x_sipush (v := nI 5000) f_127_173 (by decide) ?_
          refine x_iload f_127_176 rfl ?_
          refine x_iload f_127_178 rfl ?_
          refine x_isub f_127_180 ?_
          refine x_iload f_127_181 rfl ?_
          refine x_ifN_eq (t := 193) f_127_183 (by decide) (by decide) (fun c_14 => by omega) (fun c_14 => ?_)
          refine x_iload f_127_186 rfl ?_
          refine x_iconst (v := nI 2) f_127_188 (by decide) ?_
          refine x_idiv f_127_189 (by decide) ?_
          refine x_goto (t := 195) f_127_190 (by decide) ?_
          refine x_iadd f_127_195 ?_
          refine x_min f_127_196 (Nat.le_of_ble_eq_true rfl) ?_
          refine x_iast (j := r) f_127_199 S.k40 (by decide) (by omega) (by decide) ?_
          refine x_iload f_127_200 rfl ?_
          refine x_ifN_eq (t := 251) f_127_202 (by decide) (by decide) (fun c_15 => by omega) (fun c_15 => ?_)
          refine x_aload_n f_127_205 rfl ?_
          refine x_getR f_127_206 S.k33 (by decide) S.r12 ?_
          refine x_iload f_127_209 rfl ?_
          refine x_ldc (v := nI 100000) f_127_211 (by decide) ?_
          refine x_aload_n f_127_213 rfl ?_
          refine x_getR f_127_214 S.k33 (by decide) S.r12 ?_
          refine x_iload f_127_217 rfl ?_
          refine x_iald (j := r) f_127_219 S.k42 (by omega) (by decide) ?_
          refine x_topi (w := mj_I h 42 r) ((congrFun (mj_I_other (by decide)) _).trans (i42r)) ?_
          refine x_iload_n f_127_220 rfl ?_
          refine x_iload f_127_221 rfl ?_
          refine x_aload_n f_127_223 rfl ?_
          refine x_getR f_127_224 S.k33 (by decide) S.r4 ?_
          refine x_iload f_127_227 rfl ?_
          refine x_iconst (v := nI 3) f_127_229 (by decide) ?_
          refine x_iaddN f_127_230 ?_
          refine x_iald (j := ((9 * j) + 3)) f_127_231 S.k36 (by omega) (by decide) ?_
          refine x_topi (w := mj_I h 36 (9 * j + 3)) ((congrFun (mj_I_other (by decide)) _).trans (congrFun e36 _)) ?_
          refine x_isub f_127_232 ?_
          refine x_iconst (v := nI 1) f_127_233 (by decide) ?_
          refine x_iadd f_127_234 ?_
          refine x_imul f_127_235 ?_
          refine x_aload_n f_127_236 rfl ?_
          refine x_getR f_127_237 S.k33 (by decide) S.r4 ?_
          refine x_iload f_127_240 rfl ?_
          refine x_iconst (v := nI 4) f_127_242 (by decide) ?_
          refine x_iaddN f_127_243 ?_
          refine x_iald (j := ((9 * j) + 4)) f_127_244 S.k36 (by omega) (by decide) ?_
          refine x_topi (w := mj_I h 36 (9 * j + 4)) ((congrFun (mj_I_other (by decide)) _).trans (congrFun e36 _)) ?_
          refine x_idiv f_127_245 h4 ?_
          refine x_iadd f_127_246 ?_
          refine x_min f_127_247 (Nat.le_of_ble_eq_true rfl) ?_
          refine x_iast (j := r) f_127_250 S.k42 (by decide) (by omega) (by decide) ?_
          refine x_iinc (v := nI (r + 1)) (ls1 := [.ref 33, .int (nI j), .int work, .int push, .int (nI c), .int (nI (9 * j)), .int (nI rg), .int (mj_I h 36 (9 * j + 2)), .int (nI (r + 1)), .int (mj_I h 39 r), .int (nI 1), .int ((((mj_I h 39 r) - (mj_I h 39 (r - 1))) * (mj_I h 36 (9 * j + 2)) / 1000) + (((mj_I h 39 r) - (nI 20)) * (mj_I h 36 (9 * j + 2)) / 1000)), .int (((work * (nI (r + 1))) * (mj_I h 36 (9 * j))) / (mj_I h 36 (9 * j + 1)))]) f_127_251 rfl (by exact nI_add _ 1) rfl ?_
          refine x_goto (t := 32) f_127_254 (by decide) ?_
          have hnx : (if (((mj_I h 39 r) - ((((mj_I h 39 r) - (mj_I h 39 (r - 1))) * (mj_I h 36 (9 * j + 2)) / 1000) + (((mj_I h 39 r) - (nI 20)) * (mj_I h 36 (9 * j + 2)) / 1000))) + ((((work * (nI (r + 1))) * (mj_I h 36 (9 * j))) / (mj_I h 36 (9 * j + 1))) / (nI 2))) < (nI 5000) then (((mj_I h 39 r) - ((((mj_I h 39 r) - (mj_I h 39 (r - 1))) * (mj_I h 36 (9 * j + 2)) / 1000) + (((mj_I h 39 r) - (nI 20)) * (mj_I h 36 (9 * j + 2)) / 1000))) + ((((work * (nI (r + 1))) * (mj_I h 36 (9 * j))) / (mj_I h 36 (9 * j + 1))) / (nI 2))) else (nI 5000)) = tk_nx (mM h j) rg (mj_I h 39) work r := by
            unfold tk_nx tk_go
            rw [if_neg (show ¬ mj_I h 39 r < mM h j 3 from c_s), if_neg c_0, if_pos c_e]
            rfl
          have hot : (if ((mj_I h 42 r) + ((push * (((mj_I h 39 r) - (mj_I h 36 (9 * j + 3))) + (nI 1))) / (mj_I h 36 (9 * j + 4)))) < (nI 100000) then ((mj_I h 42 r) + ((push * (((mj_I h 39 r) - (mj_I h 36 (9 * j + 3))) + (nI 1))) / (mj_I h 36 (9 * j + 4)))) else (nI 100000)) = tk_ot (mM h j) (mj_I h 39) (mj_I h 42) push r := by
            unfold tk_ot
            rw [if_neg (show ¬ mj_I h 39 r < mM h j 3 from c_s)]
            rfl
          refine ih (r + 1) (mj_setI (mj_setI g 40 r (if (((mj_I h 39 r) - ((((mj_I h 39 r) - (mj_I h 39 (r - 1))) * (mj_I h 36 (9 * j + 2)) / 1000) + (((mj_I h 39 r) - (nI 20)) * (mj_I h 36 (9 * j + 2)) / 1000))) + ((((work * (nI (r + 1))) * (mj_I h 36 (9 * j))) / (mj_I h 36 (9 * j + 1))) / (nI 2))) < (nI 5000) then (((mj_I h 39 r) - ((((mj_I h 39 r) - (mj_I h 39 (r - 1))) * (mj_I h 36 (9 * j + 2)) / 1000) + (((mj_I h 39 r) - (nI 20)) * (mj_I h 36 (9 * j + 2)) / 1000))) + ((((work * (nI (r + 1))) * (mj_I h 36 (9 * j))) / (mj_I h 36 (9 * j + 1))) / (nI 2))) else (nI 5000))) 42 r (if ((mj_I h 42 r) + ((push * (((mj_I h 39 r) - (mj_I h 36 (9 * j + 3))) + (nI 1))) / (mj_I h 36 (9 * j + 4)))) < (nI 100000) then ((mj_I h 42 r) + ((push * (((mj_I h 39 r) - (mj_I h 36 (9 * j + 3))) + (nI 1))) / (mj_I h 36 (9 * j + 4)))) else (nI 100000))) _ _ _ _ (by omega) S ((hR.set (by decide)).set (by decide)) (fun q hq => ?_) (fun q => ?_)
          · by_cases hqr : q = r
            · subst hqr
              exact (congrFun (mj_I_other (a := 42) (b := 40) (by decide)) q).trans ((mj_I_at g 40 q _).trans hnx)
            · exact (congrFun (mj_I_other (a := 42) (b := 40) (by decide)) q).trans ((mj_I_ne (h := g) (a := 40) hqr).trans (i40 q (by omega)))
          · by_cases hqr : q = r
            · subst hqr
              exact ((mj_I_at _ 42 q _).trans hot).trans (if_pos (Nat.lt_succ_self q)).symm
            · rw [mj_ifs hqr]
              exact (mj_I_ne hqr).trans ((congrFun (mj_I_other (a := 40) (b := 42) (by decide)) q).trans (i42 q))
        · refine x_aload_n f_127_108 rfl ?_
          refine x_iload f_127_109 rfl ?_
          refine x_aload_n f_127_111 rfl ?_
          refine x_getR f_127_112 S.k33 (by decide) S.r9 ?_
          refine x_iload f_127_115 rfl ?_
          refine x_iconst (v := nI 1) f_127_117 (by decide) ?_
          refine x_iaddN f_127_118 ?_
          refine x_iald (j := (r + 1)) f_127_119 S.k39 (by omega) (by decide) ?_
          refine x_topi (w := mj_I h 39 (r + 1)) (congrFun e39 _) ?_
          refine x_iload f_127_120 rfl ?_
          refine x_callVe f_127_122 (c_led3 _ _ _ 0) (by omega) S.k33 (by decide) rfl rfl (Nat.le_of_ble_eq_true rfl) rfl ?_
          refine x_goto (t := 138) f_127_125 (by decide) ?_
          refine x_iadd f_127_138 ?_
          refine x_istore (ls1 := [.ref 33, .int (nI j), .int work, .int push, .int (nI c), .int (nI (9 * j)), .int (nI rg), .int (mj_I h 36 (9 * j + 2)), .int (nI r), .int (mj_I h 39 r), .int (nI 1), .int ((((mj_I h 39 r) - (mj_I h 39 (r - 1))) * (mj_I h 36 (9 * j + 2)) / 1000) + (((mj_I h 39 r) - (mj_I h 39 (r + 1))) * (mj_I h 36 (9 * j + 2)) / 1000)), v12]) f_127_139 (Nat.le_of_ble_eq_true rfl) rfl ?_
          refine x_iload_n f_127_141 rfl ?_
          refine x_iload f_127_142 rfl ?_
          refine x_iconst (v := nI 1) f_127_144 (by decide) ?_
          refine x_iaddN f_127_145 ?_
          refine x_imul f_127_146 ?_
          refine x_aload_n f_127_147 rfl ?_
          refine x_getR f_127_148 S.k33 (by decide) S.r4 ?_
          refine x_iload f_127_151 rfl ?_
          refine x_iald (j := (9 * j)) f_127_153 S.k36 (by omega) (by decide) ?_
          refine x_topi (w := mj_I h 36 (9 * j)) (congrFun e36 _) ?_
          refine x_imul f_127_154 ?_
          refine x_aload_n f_127_155 rfl ?_
          refine x_getR f_127_156 S.k33 (by decide) S.r4 ?_
          refine x_iload f_127_159 rfl ?_
          refine x_iconst (v := nI 1) f_127_161 (by decide) ?_
          refine x_iaddN f_127_162 ?_
          refine x_iald (j := ((9 * j) + 1)) f_127_163 S.k36 (by omega) (by decide) ?_
          refine x_topi (w := mj_I h 36 (9 * j + 1)) (congrFun e36 _) ?_
          refine x_idiv f_127_164 h1 ?_
          refine x_istore (ls1 := [.ref 33, .int (nI j), .int work, .int push, .int (nI c), .int (nI (9 * j)), .int (nI rg), .int (mj_I h 36 (9 * j + 2)), .int (nI r), .int (mj_I h 39 r), .int (nI 1), .int ((((mj_I h 39 r) - (mj_I h 39 (r - 1))) * (mj_I h 36 (9 * j + 2)) / 1000) + (((mj_I h 39 r) - (mj_I h 39 (r + 1))) * (mj_I h 36 (9 * j + 2)) / 1000)), .int (((work * (nI (r + 1))) * (mj_I h 36 (9 * j))) / (mj_I h 36 (9 * j + 1)))]) f_127_165 (Nat.le_of_ble_eq_true rfl) rfl ?_
          refine x_aload_n f_127_167 rfl ?_
          refine x_getR f_127_168 S.k33 (by decide) S.r10 ?_
          refine x_iload f_127_171 rfl ?_
          refine x_sipush (v := nI 5000) f_127_173 (by decide) ?_
          refine x_iload f_127_176 rfl ?_
          refine x_iload f_127_178 rfl ?_
          refine x_isub f_127_180 ?_
          refine x_iload f_127_181 rfl ?_
          refine x_ifN_eq (t := 193) f_127_183 (by decide) (by decide) (fun c_16 => by omega) (fun c_16 => ?_)
          refine x_iload f_127_186 rfl ?_
          refine x_iconst (v := nI 2) f_127_188 (by decide) ?_
          refine x_idiv f_127_189 (by decide) ?_
          refine x_goto (t := 195) f_127_190 (by decide) ?_
          refine x_iadd f_127_195 ?_
          refine x_min f_127_196 (Nat.le_of_ble_eq_true rfl) ?_
          refine x_iast (j := r) f_127_199 S.k40 (by decide) (by omega) (by decide) ?_
          refine x_iload f_127_200 rfl ?_
          refine x_ifN_eq (t := 251) f_127_202 (by decide) (by decide) (fun c_17 => by omega) (fun c_17 => ?_)
          refine x_aload_n f_127_205 rfl ?_
          refine x_getR f_127_206 S.k33 (by decide) S.r12 ?_
          refine x_iload f_127_209 rfl ?_
          refine x_ldc (v := nI 100000) f_127_211 (by decide) ?_
          refine x_aload_n f_127_213 rfl ?_
          refine x_getR f_127_214 S.k33 (by decide) S.r12 ?_
          refine x_iload f_127_217 rfl ?_
          refine x_iald (j := r) f_127_219 S.k42 (by omega) (by decide) ?_
          refine x_topi (w := mj_I h 42 r) ((congrFun (mj_I_other (by decide)) _).trans (i42r)) ?_
          refine x_iload_n f_127_220 rfl ?_
          refine x_iload f_127_221 rfl ?_
          refine x_aload_n f_127_223 rfl ?_
          refine x_getR f_127_224 S.k33 (by decide) S.r4 ?_
          refine x_iload f_127_227 rfl ?_
          refine x_iconst (v := nI 3) f_127_229 (by decide) ?_
          refine x_iaddN f_127_230 ?_
          refine x_iald (j := ((9 * j) + 3)) f_127_231 S.k36 (by omega) (by decide) ?_
          refine x_topi (w := mj_I h 36 (9 * j + 3)) ((congrFun (mj_I_other (by decide)) _).trans (congrFun e36 _)) ?_
          refine x_isub f_127_232 ?_
          refine x_iconst (v := nI 1) f_127_233 (by decide) ?_
          refine x_iadd f_127_234 ?_
          refine x_imul f_127_235 ?_
          refine x_aload_n f_127_236 rfl ?_
          refine x_getR f_127_237 S.k33 (by decide) S.r4 ?_
          refine x_iload f_127_240 rfl ?_
          refine x_iconst (v := nI 4) f_127_242 (by decide) ?_
          refine x_iaddN f_127_243 ?_
          refine x_iald (j := ((9 * j) + 4)) f_127_244 S.k36 (by omega) (by decide) ?_
          refine x_topi (w := mj_I h 36 (9 * j + 4)) ((congrFun (mj_I_other (by decide)) _).trans (congrFun e36 _)) ?_
          refine x_idiv f_127_245 h4 ?_
          refine x_iadd f_127_246 ?_
          refine x_min f_127_247 (Nat.le_of_ble_eq_true rfl) ?_
          refine x_iast (j := r) f_127_250 S.k42 (by decide) (by omega) (by decide) ?_
          refine x_iinc (v := nI (r + 1)) (ls1 := [.ref 33, .int (nI j), .int work, .int push, .int (nI c), .int (nI (9 * j)), .int (nI rg), .int (mj_I h 36 (9 * j + 2)), .int (nI (r + 1)), .int (mj_I h 39 r), .int (nI 1), .int ((((mj_I h 39 r) - (mj_I h 39 (r - 1))) * (mj_I h 36 (9 * j + 2)) / 1000) + (((mj_I h 39 r) - (mj_I h 39 (r + 1))) * (mj_I h 36 (9 * j + 2)) / 1000)), .int (((work * (nI (r + 1))) * (mj_I h 36 (9 * j))) / (mj_I h 36 (9 * j + 1)))]) f_127_251 rfl (by exact nI_add _ 1) rfl ?_
          refine x_goto (t := 32) f_127_254 (by decide) ?_
          have hnx : (if (((mj_I h 39 r) - ((((mj_I h 39 r) - (mj_I h 39 (r - 1))) * (mj_I h 36 (9 * j + 2)) / 1000) + (((mj_I h 39 r) - (mj_I h 39 (r + 1))) * (mj_I h 36 (9 * j + 2)) / 1000))) + ((((work * (nI (r + 1))) * (mj_I h 36 (9 * j))) / (mj_I h 36 (9 * j + 1))) / (nI 2))) < (nI 5000) then (((mj_I h 39 r) - ((((mj_I h 39 r) - (mj_I h 39 (r - 1))) * (mj_I h 36 (9 * j + 2)) / 1000) + (((mj_I h 39 r) - (mj_I h 39 (r + 1))) * (mj_I h 36 (9 * j + 2)) / 1000))) + ((((work * (nI (r + 1))) * (mj_I h 36 (9 * j))) / (mj_I h 36 (9 * j + 1))) / (nI 2))) else (nI 5000)) = tk_nx (mM h j) rg (mj_I h 39) work r := by
            unfold tk_nx tk_go
            rw [if_neg (show ¬ mj_I h 39 r < mM h j 3 from c_s), if_neg c_0, if_neg c_e]
            rfl
          have hot : (if ((mj_I h 42 r) + ((push * (((mj_I h 39 r) - (mj_I h 36 (9 * j + 3))) + (nI 1))) / (mj_I h 36 (9 * j + 4)))) < (nI 100000) then ((mj_I h 42 r) + ((push * (((mj_I h 39 r) - (mj_I h 36 (9 * j + 3))) + (nI 1))) / (mj_I h 36 (9 * j + 4)))) else (nI 100000)) = tk_ot (mM h j) (mj_I h 39) (mj_I h 42) push r := by
            unfold tk_ot
            rw [if_neg (show ¬ mj_I h 39 r < mM h j 3 from c_s)]
            rfl
          refine ih (r + 1) (mj_setI (mj_setI g 40 r (if (((mj_I h 39 r) - ((((mj_I h 39 r) - (mj_I h 39 (r - 1))) * (mj_I h 36 (9 * j + 2)) / 1000) + (((mj_I h 39 r) - (mj_I h 39 (r + 1))) * (mj_I h 36 (9 * j + 2)) / 1000))) + ((((work * (nI (r + 1))) * (mj_I h 36 (9 * j))) / (mj_I h 36 (9 * j + 1))) / (nI 2))) < (nI 5000) then (((mj_I h 39 r) - ((((mj_I h 39 r) - (mj_I h 39 (r - 1))) * (mj_I h 36 (9 * j + 2)) / 1000) + (((mj_I h 39 r) - (mj_I h 39 (r + 1))) * (mj_I h 36 (9 * j + 2)) / 1000))) + ((((work * (nI (r + 1))) * (mj_I h 36 (9 * j))) / (mj_I h 36 (9 * j + 1))) / (nI 2))) else (nI 5000))) 42 r (if ((mj_I h 42 r) + ((push * (((mj_I h 39 r) - (mj_I h 36 (9 * j + 3))) + (nI 1))) / (mj_I h 36 (9 * j + 4)))) < (nI 100000) then ((mj_I h 42 r) + ((push * (((mj_I h 39 r) - (mj_I h 36 (9 * j + 3))) + (nI 1))) / (mj_I h 36 (9 * j + 4)))) else (nI 100000))) _ _ _ _ (by omega) S ((hR.set (by decide)).set (by decide)) (fun q hq => ?_) (fun q => ?_)
          · by_cases hqr : q = r
            · subst hqr
              exact (congrFun (mj_I_other (a := 42) (b := 40) (by decide)) q).trans ((mj_I_at g 40 q _).trans hnx)
            · exact (congrFun (mj_I_other (a := 42) (b := 40) (by decide)) q).trans ((mj_I_ne (h := g) (a := 40) hqr).trans (i40 q (by omega)))
          · by_cases hqr : q = r
            · subst hqr
              exact ((mj_I_at _ 42 q _).trans hot).trans (if_pos (Nat.lt_succ_self q)).symm
            · rw [mj_ifs hqr]
              exact (mj_I_ne hqr).trans ((congrFun (mj_I_other (a := 40) (b := 42) (by decide)) q).trans (i42 q))
