theorem f_158_0 : mj_fetch 158 0 = some (.iload_n 1, 0, 0) := by decide +kernel
theorem f_158_1 : mj_fetch 158 1 = some (.iload_n 2, 0, 0) := by decide +kernel
theorem f_158_2 : mj_fetch 158 2 = some (.iload_n 3, 0, 0) := by decide +kernel
theorem f_158_3 : mj_fetch 158 3 = some (.iload 4, 0, 0) := by decide +kernel
theorem f_158_5 : mj_fetch 158 5 = some (.iload 5, 0, 0) := by decide +kernel
theorem f_158_7 : mj_fetch 158 7 = some (.iload 6, 0, 0) := by decide +kernel
theorem f_158_9 : mj_fetch 158 9 = some (.invokestatic 198, 142, 0) := by decide +kernel
theorem f_158_12 : mj_fetch 158 12 = some (.istore 7, 0, 0) := by decide +kernel
theorem f_158_14 : mj_fetch 158 14 = some (.aload_n 0, 0, 0) := by decide +kernel
theorem f_158_15 : mj_fetch 158 15 = some (.getfield 47, 11, 19) := by decide +kernel
theorem f_158_18 : mj_fetch 158 18 = some (.iconst 3, 0, 0) := by decide +kernel
theorem f_158_19 : mj_fetch 158 19 = some (.aload_n 0, 0, 0) := by decide +kernel
theorem f_158_20 : mj_fetch 158 20 = some (.getfield 179, 11, 22) := by decide +kernel
theorem f_158_23 : mj_fetch 158 23 = some (.imul, 0, 0) := by decide +kernel
theorem f_158_24 : mj_fetch 158 24 = some (.iaload, 0, 0) := by decide +kernel
theorem f_158_25 : mj_fetch 158 25 = some (.iload_n 1, 0, 0) := by decide +kernel
theorem f_158_26 : mj_fetch 158 26 = some (.iadd, 0, 0) := by decide +kernel
theorem f_158_27 : mj_fetch 158 27 = some (.aload_n 0, 0, 0) := by decide +kernel
theorem f_158_28 : mj_fetch 158 28 = some (.getfield 47, 11, 19) := by decide +kernel
theorem f_158_31 : mj_fetch 158 31 = some (.iconst 3, 0, 0) := by decide +kernel
theorem f_158_32 : mj_fetch 158 32 = some (.aload_n 0, 0, 0) := by decide +kernel
theorem f_158_33 : mj_fetch 158 33 = some (.getfield 179, 11, 22) := by decide +kernel
theorem f_158_36 : mj_fetch 158 36 = some (.imul, 0, 0) := by decide +kernel
theorem f_158_37 : mj_fetch 158 37 = some (.iconst 1, 0, 0) := by decide +kernel
theorem f_158_38 : mj_fetch 158 38 = some (.iadd, 0, 0) := by decide +kernel
theorem f_158_39 : mj_fetch 158 39 = some (.iaload, 0, 0) := by decide +kernel
theorem f_158_40 : mj_fetch 158 40 = some (.iload_n 3, 0, 0) := by decide +kernel
theorem f_158_41 : mj_fetch 158 41 = some (.iadd, 0, 0) := by decide +kernel
theorem f_158_42 : mj_fetch 158 42 = some (.aload_n 0, 0, 0) := by decide +kernel
theorem f_158_43 : mj_fetch 158 43 = some (.getfield 47, 11, 19) := by decide +kernel
theorem f_158_46 : mj_fetch 158 46 = some (.iconst 3, 0, 0) := by decide +kernel
theorem f_158_47 : mj_fetch 158 47 = some (.aload_n 0, 0, 0) := by decide +kernel
theorem f_158_48 : mj_fetch 158 48 = some (.getfield 179, 11, 22) := by decide +kernel
theorem f_158_51 : mj_fetch 158 51 = some (.imul, 0, 0) := by decide +kernel
theorem f_158_52 : mj_fetch 158 52 = some (.iconst 2, 0, 0) := by decide +kernel
theorem f_158_53 : mj_fetch 158 53 = some (.iadd, 0, 0) := by decide +kernel
theorem f_158_54 : mj_fetch 158 54 = some (.iaload, 0, 0) := by decide +kernel
theorem f_158_55 : mj_fetch 158 55 = some (.iload 5, 0, 0) := by decide +kernel
theorem f_158_57 : mj_fetch 158 57 = some (.iadd, 0, 0) := by decide +kernel
theorem f_158_58 : mj_fetch 158 58 = some (.invokestatic 129, 124, 0) := by decide +kernel
theorem f_158_61 : mj_fetch 158 61 = some (.istore 8, 0, 0) := by decide +kernel
theorem f_158_63 : mj_fetch 158 63 = some (.aload_n 0, 0, 0) := by decide +kernel
theorem f_158_64 : mj_fetch 158 64 = some (.getfield 47, 11, 19) := by decide +kernel
theorem f_158_67 : mj_fetch 158 67 = some (.iconst 3, 0, 0) := by decide +kernel
theorem f_158_68 : mj_fetch 158 68 = some (.aload_n 0, 0, 0) := by decide +kernel
theorem f_158_69 : mj_fetch 158 69 = some (.getfield 179, 11, 22) := by decide +kernel
theorem f_158_72 : mj_fetch 158 72 = some (.imul, 0, 0) := by decide +kernel
theorem f_158_73 : mj_fetch 158 73 = some (.iaload, 0, 0) := by decide +kernel
theorem f_158_74 : mj_fetch 158 74 = some (.iload_n 2, 0, 0) := by decide +kernel
theorem f_158_75 : mj_fetch 158 75 = some (.iadd, 0, 0) := by decide +kernel
theorem f_158_76 : mj_fetch 158 76 = some (.aload_n 0, 0, 0) := by decide +kernel
theorem f_158_77 : mj_fetch 158 77 = some (.getfield 47, 11, 19) := by decide +kernel
theorem f_158_80 : mj_fetch 158 80 = some (.iconst 3, 0, 0) := by decide +kernel
theorem f_158_81 : mj_fetch 158 81 = some (.aload_n 0, 0, 0) := by decide +kernel
theorem f_158_82 : mj_fetch 158 82 = some (.getfield 179, 11, 22) := by decide +kernel
theorem f_158_85 : mj_fetch 158 85 = some (.imul, 0, 0) := by decide +kernel
theorem f_158_86 : mj_fetch 158 86 = some (.iconst 1, 0, 0) := by decide +kernel
theorem f_158_87 : mj_fetch 158 87 = some (.iadd, 0, 0) := by decide +kernel
theorem f_158_88 : mj_fetch 158 88 = some (.iaload, 0, 0) := by decide +kernel
theorem f_158_89 : mj_fetch 158 89 = some (.iload 4, 0, 0) := by decide +kernel
theorem f_158_91 : mj_fetch 158 91 = some (.iadd, 0, 0) := by decide +kernel
theorem f_158_92 : mj_fetch 158 92 = some (.aload_n 0, 0, 0) := by decide +kernel
theorem f_158_93 : mj_fetch 158 93 = some (.getfield 47, 11, 19) := by decide +kernel
theorem f_158_96 : mj_fetch 158 96 = some (.iconst 3, 0, 0) := by decide +kernel
theorem f_158_97 : mj_fetch 158 97 = some (.aload_n 0, 0, 0) := by decide +kernel
theorem f_158_98 : mj_fetch 158 98 = some (.getfield 179, 11, 22) := by decide +kernel
theorem f_158_101 : mj_fetch 158 101 = some (.imul, 0, 0) := by decide +kernel
theorem f_158_102 : mj_fetch 158 102 = some (.iconst 2, 0, 0) := by decide +kernel
theorem f_158_103 : mj_fetch 158 103 = some (.iadd, 0, 0) := by decide +kernel
theorem f_158_104 : mj_fetch 158 104 = some (.iaload, 0, 0) := by decide +kernel
theorem f_158_105 : mj_fetch 158 105 = some (.iload 6, 0, 0) := by decide +kernel
theorem f_158_107 : mj_fetch 158 107 = some (.iadd, 0, 0) := by decide +kernel
theorem f_158_108 : mj_fetch 158 108 = some (.invokestatic 129, 124, 0) := by decide +kernel
theorem f_158_111 : mj_fetch 158 111 = some (.istore 9, 0, 0) := by decide +kernel
theorem f_158_113 : mj_fetch 158 113 = some (.iload 7, 0, 0) := by decide +kernel
theorem f_158_115 : mj_fetch 158 115 = some (.aload_n 0, 0, 0) := by decide +kernel
theorem f_158_116 : mj_fetch 158 116 = some (.getfield 234, 11, 33) := by decide +kernel
theorem f_158_119 : mj_fetch 158 119 = some (.if_icmp .gt 39, 0, 0) := by decide +kernel
theorem f_158_158 : mj_fetch 158 158 = some (.iconst 1, 0, 0) := by decide +kernel
theorem f_158_159 : mj_fetch 158 159 = some (.goto 4, 0, 0) := by decide +kernel
theorem f_158_163 : mj_fetch 158 163 = some (.istore 10, 0, 0) := by decide +kernel
theorem f_158_165 : mj_fetch 158 165 = some (.iload 10, 0, 0) := by decide +kernel
theorem f_158_167 : mj_fetch 158 167 = some (.ifCond .eq 39, 0, 0) := by decide +kernel
theorem f_158_170 : mj_fetch 158 170 = some (.aload_n 0, 0, 0) := by decide +kernel
theorem f_158_171 : mj_fetch 158 171 = some (.iload_n 1, 0, 0) := by decide +kernel
theorem f_158_172 : mj_fetch 158 172 = some (.iload_n 2, 0, 0) := by decide +kernel
theorem f_158_173 : mj_fetch 158 173 = some (.iload_n 3, 0, 0) := by decide +kernel
theorem f_158_174 : mj_fetch 158 174 = some (.iload 4, 0, 0) := by decide +kernel
theorem f_158_176 : mj_fetch 158 176 = some (.iload 5, 0, 0) := by decide +kernel
theorem f_158_178 : mj_fetch 158 178 = some (.iload 6, 0, 0) := by decide +kernel
theorem f_158_180 : mj_fetch 158 180 = some (.invokevirtual 191, 141, 0) := by decide +kernel
theorem f_158_183 : mj_fetch 158 183 = some (.iload 7, 0, 0) := by decide +kernel
theorem f_158_185 : mj_fetch 158 185 = some (.if_icmp .ne 21, 0, 0) := by decide +kernel
theorem f_158_188 : mj_fetch 158 188 = some (.aload_n 0, 0, 0) := by decide +kernel
theorem f_158_189 : mj_fetch 158 189 = some (.iload 7, 0, 0) := by decide +kernel
theorem f_158_191 : mj_fetch 158 191 = some (.putfield 234, 11, 33) := by decide +kernel
theorem f_158_194 : mj_fetch 158 194 = some (.aload_n 0, 0, 0) := by decide +kernel
theorem f_158_195 : mj_fetch 158 195 = some (.iload 8, 0, 0) := by decide +kernel
theorem f_158_197 : mj_fetch 158 197 = some (.putfield 237, 11, 31) := by decide +kernel
theorem f_158_200 : mj_fetch 158 200 = some (.aload_n 0, 0, 0) := by decide +kernel
theorem f_158_201 : mj_fetch 158 201 = some (.iload 9, 0, 0) := by decide +kernel
theorem f_158_203 : mj_fetch 158 203 = some (.putfield 240, 11, 32) := by decide +kernel
theorem f_158_206 : mj_fetch 158 206 = some (.return_, 0, 0) := by decide +kernel
theorem f_158_122 : mj_fetch 158 122 = some (.iload 7, 0, 0) := by decide +kernel
theorem f_158_124 : mj_fetch 158 124 = some (.aload_n 0, 0, 0) := by decide +kernel
theorem f_158_125 : mj_fetch 158 125 = some (.getfield 234, 11, 33) := by decide +kernel
theorem f_158_128 : mj_fetch 158 128 = some (.if_icmp .ne 34, 0, 0) := by decide +kernel
theorem f_158_131 : mj_fetch 158 131 = some (.iload 8, 0, 0) := by decide +kernel
theorem f_158_133 : mj_fetch 158 133 = some (.aload_n 0, 0, 0) := by decide +kernel
theorem f_158_134 : mj_fetch 158 134 = some (.getfield 237, 11, 31) := by decide +kernel
theorem f_158_137 : mj_fetch 158 137 = some (.if_icmp .lt 21, 0, 0) := by decide +kernel
theorem f_158_140 : mj_fetch 158 140 = some (.iload 8, 0, 0) := by decide +kernel
theorem f_158_142 : mj_fetch 158 142 = some (.aload_n 0, 0, 0) := by decide +kernel
theorem f_158_143 : mj_fetch 158 143 = some (.getfield 237, 11, 31) := by decide +kernel
theorem f_158_146 : mj_fetch 158 146 = some (.if_icmp .ne 16, 0, 0) := by decide +kernel
theorem f_158_149 : mj_fetch 158 149 = some (.iload 9, 0, 0) := by decide +kernel
theorem f_158_151 : mj_fetch 158 151 = some (.aload_n 0, 0, 0) := by decide +kernel
theorem f_158_152 : mj_fetch 158 152 = some (.getfield 240, 11, 32) := by decide +kernel
theorem f_158_155 : mj_fetch 158 155 = some (.if_icmp .ge 7, 0, 0) := by decide +kernel
theorem f_158_162 : mj_fetch 158 162 = some (.iconst 0, 0, 0) := by decide +kernel
/-! THE GREATEST GOOD BOX -/
/-- the setting at a place of a window that begins at L -/
def zz (L : Nat → Nat) (t p l : Nat) : Nat := 81 * (L 0 + t - 1) + 9 * (L 1 + p - 1) + (L 2 + l - 1)
/-- the first is behind the second, or the same: fewer settings, or as many and not lower -/
def kle (x y : Nat × Nat × Nat) : Prop := x.1 < y.1 ∨ (x.1 = y.1 ∧ (y.2.1 < x.2.1 ∨ (y.2.1 = x.2.1 ∧ y.2.2 ≤ x.2.2)))
theorem kle_trans {x y z : Nat × Nat × Nat} (a : kle x y) (b : kle y z) : kle x z := by unfold kle at *; omega
theorem kle_rf (x : Nat × Nat × Nat) : kle x x := by unfold kle; omega
def kbx (L : Nat → Nat) (a b c d e f : Nat) : Nat × Nat × Nat := (szN a b c d e f, zz L a c e, zz L b d f)
/-- the box does not go ahead of what was found -/
def Dm (G : Gd) (L : Nat → Nat) (x : Nat × Nat × Nat) (a b c d e f : Nat) : Prop := gcN G a b c d e f = szN a b c d e f → kle (kbx L a b c d e f) x
def Bs (G : Gd) (L W : Nat → Nat) (x : Nat × Nat × Nat) : Prop := x.1 = 0 ∨ ∃ a b c d e f, BX W a b c d e f ∧ gcN G a b c d e f = szN a b c d e f ∧ kbx L a b c d e f = x
/-- the greatest good box of a window: how many settings, its lowest, its highest -/
def GB (G : Gd) (L W : Nat → Nat) (x : Nat × Nat × Nat) : Prop := Bs G L W x ∧ ∀ a b c d e f, BX W a b c d e f → Dm G L x a b c d e f
theorem GB_one {G : Gd} {L W : Nat → Nat} {x y : Nat × Nat × Nat} (hx : GB G L W x) (hy : GB G L W y) : x.1 = y.1 ∧ (¬ x.1 = 0 → x = y) := by
  obtain ⟨x1, x2, x3⟩ := x
  obtain ⟨y1, y2, y3⟩ := y
  have key : ∀ {x y : Nat × Nat × Nat}, GB G L W x → GB G L W y → x.1 = 0 ∨ kle x y := by
    intro x y hx hy
    rcases hx.1 with q | ⟨a, b, c, d, e, f, hB, hg, hk⟩
    · exact Or.inl q
    · right; rw [← hk]; exact hy.2 a b c d e f hB hg
  have k1 := key hx hy
  have k2 := key hy hx
  dsimp only [kle] at k1 k2 ⊢
  simp only [Prod.mk.injEq]
  omega
def GI (h : mj_H) (jm w : Nat) (G : Gd) (L W : Nat → Nat) : Prop := MW h jm ∧ w < 10 ∧ mj_I h 33 22 = nI w ∧ WN h w jm ∧ (∀ t p l, wg h w t p l = G t p l) ∧ ∀ a, a < 3 → wlo h w a = L a ∧ whi h w a = L a + W a ∧ 1 ≤ L a ∧ L a + W a ≤ 9 ∧ W a ≤ 5
def GE (h g : mj_H) (jm : Nat) : Prop := MW g jm ∧ Rw h g [33, 39, 40, 41, 42, 43, 44] ∧ ∀ q, q ∉ [14, 15, 17, 31, 32, 33] → mj_I g 33 q = mj_I h 33 q
theorem GE.rf {h : mj_H} {jm : Nat} (w : MW h jm) : GE h h jm := ⟨w, Rw.rf _ _, fun _ _ => rfl⟩
theorem GE.trans {h g k : mj_H} {jm : Nat} (a : GE h g jm) (b : GE g k jm) : GE h k jm := ⟨b.1, a.2.1.trans b.2.1, fun q hq => (b.2.2 q hq).trans (a.2.2 q hq)⟩
theorem GE.mv {h g : mj_H} {jm : Nat} (a : MV h g jm) : GE h g jm := ⟨a.1, a.2.1.mono (by decide), fun q hq => a.2.2 q (fun z => hq (by rw [z]; decide)) (fun z => hq (by rw [z]; decide)) (fun z => hq (by rw [z]; decide))⟩
theorem GE.set {h g : mj_H} {jm i : Nat} {x : Int32} (a : GE h g jm) (hi : i ∈ [14, 15, 17, 31, 32, 33]) : GE h (mj_setI g 33 i x) jm :=
  ⟨MW_33 a.1, a.2.1.set (by decide), fun q hq => (mj_I_ne (fun z => hq (by rw [z]; exact hi))).trans (a.2.2 q hq)⟩
theorem GE.sq {h g : mj_H} {jm : Nat} (a : GE h g jm) : SQ h g jm := ⟨a.1, a.2.1.mono (by decide), fun q hq => a.2.2 q (fun z => hq (by revert z; simp only [List.mem_cons, List.not_mem_nil, or_false]; omega))⟩
theorem GI.to {h g : mj_H} {jm w : Nat} {G : Gd} {L W : Nat → Nat} (c : GI h jm w G L W) (e : GE h g jm) : GI g jm w G L W := by
  have e36 : mj_I g 36 = mj_I h 36 := e.2.1.i (by decide)
  have e45 : mj_I g 45 = mj_I h 45 := e.2.1.i (by decide)
  have e46 : mj_I g 46 = mj_I h 46 := e.2.1.i (by decide)
  have e47 : mj_I g 47 = mj_I h 47 := e.2.1.i (by decide)
  exact ⟨e.1, c.2.1, (e.2.2 22 (by decide)).trans c.2.2.1, WN_to e45 e46 e47 c.2.2.2.1, fun t p l => (wg_to e36 e45 e46 w t p l).trans (c.2.2.2.2.1 t p l), fun a ha => by unfold wlo whi; rw [e46, e47]; exact c.2.2.2.2.2 a ha⟩
theorem c_wideG {g : mj_H} {jm w : Nat} {G : Gd} {L W : Nat → Nat} (hG : GI g jm w G L W) {a : Nat} (ha : a < 3) : mxc 0 143 [.ref 33, .int (nI a)] g (fun r h' => r = some (.int (nI (W a))) ∧ h' = g) := by
  have q := c_wide hG.1.1 hG.2.1 hG.2.2.1 hG.2.2.2.1 ha
  rw [(hG.2.2.2.2.2 a ha).1, (hG.2.2.2.2.2 a ha).2.1, Nat.add_sub_cancel_left] at q
  exact q
/-- what was found so far, in the fields -/
def BS (g : mj_H) (x : Nat × Nat × Nat) : Prop := mj_I g 33 33 = nI x.1 ∧ x.1 ≤ 216 ∧ (x.1 = 0 ∨ (mj_I g 33 31 = nI x.2.1 ∧ mj_I g 33 32 = nI x.2.2 ∧ x.2.1 < 729 ∧ x.2.2 < 729))
theorem zz_set (L : Nat → Nat) (t p l : Nat) (h0 : 1 ≤ L 0) (h1 : 1 ≤ L 1) (h2 : 1 ≤ L 2) : (81 : Int32) * ((nI (L 0 + t)) - 1) + 9 * ((nI (L 1 + p)) - 1) + (nI (L 2 + l)) - 1 = nI (zz L t p l) := by
  have q := mm_set (L 0 + t - 1) (L 1 + p - 1) (L 2 + l - 1)
  rw [show L 0 + t - 1 + 1 = L 0 + t by omega, show L 1 + p - 1 + 1 = L 1 + p by omega, show L 2 + l - 1 + 1 = L 2 + l by omega] at q
  exact q

theorem BS.mv {h g : mj_H} {jm : Nat} {x : Nat × Nat × Nat} (a : MV h g jm) (b : BS h x) : BS g x := by
  unfold BS
  rw [a.2.2 33 (by decide) (by decide) (by decide), a.2.2 31 (by decide) (by decide) (by decide), a.2.2 32 (by decide) (by decide) (by decide)]
  exact b
set_option maxRecDepth 20000 in
set_option maxHeartbeats 4000000 in
theorem c_offer {h : mj_H} {jm w : Nat} {G : Gd} {L W : Nat → Nat} (hG : GI h jm w G L W) {a b c d e f : Nat} (hB : BX W a b c d e f) {x : Nat × Nat × Nat} (hS : BS h x) (hBs : Bs G L W x) : mxc 7 158 [.ref 33, .int (nI a), .int (nI b), .int (nI c), .int (nI d), .int (nI e), .int (nI f)] h (fun r h' => r = none ∧ GE h h' jm ∧ ∃ x', BS h' x' ∧ Bs G L W x' ∧ (∀ {y}, kle y x → kle y x') ∧ Dm G L x' a b c d e f) := by
  have S := hG.1.1
  have hB5 := hB
  unfold BX at hB5
  have a0 := hG.2.2.2.2.2 0 (by decide)
  have a1 := hG.2.2.2.2.2 1 (by decide)
  have a2 := hG.2.2.2.2.2 2 (by decide)
  have e460 : mj_I h 46 (3 * w) = nI (L 0) := by rw [← a0.1]; exact (hG.2.2.2.1.2.2 0 (by decide)).1
  have e461 : mj_I h 46 (3 * w + 1) = nI (L 1) := by rw [← a1.1]; exact (hG.2.2.2.1.2.2 1 (by decide)).1
  have e462 : mj_I h 46 (3 * w + 2) = nI (L 2) := by rw [← a2.1]; exact (hG.2.2.2.1.2.2 2 (by decide)).1
  have s216 := sz_216 (a := a) (b := b) (c := c) (d := d) (e := e) (f := f) (by omega) (by omega) (by omega)
  have s1 := sz_pos hB5.1 hB5.2.2.1 hB5.2.2.2.2.1
  have gle := gcN_le G (a := a) (b := b) (c := c) (d := d) (e := e) (f := f) (by omega) (by omega) (by omega)
  have zx : zz L a c e < 729 := by unfold zz; omega
  have zy : zz L b d f < 729 := by unfold zz; omega
  have hw := hG.2.1
  obtain ⟨m, X, Y⟩ := x
  have e33 : mj_I h 33 33 = nI m := hS.1
  have m216 : m ≤ 216 := hS.2.1
  rcases hS.2.2 with hm | ⟨e31, e32, hX, hY⟩
  · replace hm : m = 0 := hm
    show mx 7 158 0 [.ref 33, .int (nI a), .int (nI b), .int (nI c), .int (nI d), .int (nI e), .int (nI f), mj_unset, mj_unset, mj_unset, mj_unset] [] h _
    refine x_iload_n f_158_0 rfl ?_
    refine x_iload_n f_158_1 rfl ?_
    refine x_iload_n f_158_2 rfl ?_
    refine x_iload f_158_3 rfl ?_
    refine x_iload f_158_5 rfl ?_
    refine x_iload f_158_7 rfl ?_
    refine x_callSe f_158_9 (c_sizeOf _ _ _ _ _ _ _) (by omega) rfl rfl rfl (Nat.le_of_ble_eq_true rfl) rfl ?_
    refine x_topi (w := nI (szN a b c d e f)) (sz_eq hB5.1 hB5.2.2.1 hB5.2.2.2.2.1) ?_
    refine x_istore (ls1 := [.ref 33, .int (nI a), .int (nI b), .int (nI c), .int (nI d), .int (nI e), .int (nI f), .int (nI (szN a b c d e f)), mj_unset, mj_unset, mj_unset]) f_158_12 (Nat.le_of_ble_eq_true rfl) rfl ?_
    refine x_aload_n f_158_14 rfl ?_
    refine x_getR f_158_15 S.k33 (by decide) S.r19 ?_
    refine x_iconst (v := nI 3) f_158_18 (by decide) ?_
    refine x_aload_n f_158_19 rfl ?_
    refine x_getI f_158_20 S.k33 (by decide) ?_
    refine x_topi (w := nI w) hG.2.2.1 ?_
    refine x_imulN f_158_23 ?_
    refine x_iald (j := (3 * w)) f_158_24 S.k46 (by omega) (by decide) ?_
    refine x_topi (w := nI (L 0)) e460 ?_
    refine x_iload_n f_158_25 rfl ?_
    refine x_iaddN f_158_26 ?_
    refine x_aload_n f_158_27 rfl ?_
    refine x_getR f_158_28 S.k33 (by decide) S.r19 ?_
    refine x_iconst (v := nI 3) f_158_31 (by decide) ?_
    refine x_aload_n f_158_32 rfl ?_
    refine x_getI f_158_33 S.k33 (by decide) ?_
    refine x_topi (w := nI w) hG.2.2.1 ?_
    refine x_imulN f_158_36 ?_
    refine x_iconst (v := nI 1) f_158_37 (by decide) ?_
    refine x_iaddN f_158_38 ?_
    refine x_iald (j := ((3 * w) + 1)) f_158_39 S.k46 (by omega) (by decide) ?_
    refine x_topi (w := nI (L 1)) e461 ?_
    refine x_iload_n f_158_40 rfl ?_
    refine x_iaddN f_158_41 ?_
    refine x_aload_n f_158_42 rfl ?_
    refine x_getR f_158_43 S.k33 (by decide) S.r19 ?_
    refine x_iconst (v := nI 3) f_158_46 (by decide) ?_
    refine x_aload_n f_158_47 rfl ?_
    refine x_getI f_158_48 S.k33 (by decide) ?_
    refine x_topi (w := nI w) hG.2.2.1 ?_
    refine x_imulN f_158_51 ?_
    refine x_iconst (v := nI 2) f_158_52 (by decide) ?_
    refine x_iaddN f_158_53 ?_
    refine x_iald (j := ((3 * w) + 2)) f_158_54 S.k46 (by omega) (by decide) ?_
    refine x_topi (w := nI (L 2)) e462 ?_
    refine x_iload f_158_55 rfl ?_
    refine x_iaddN f_158_57 ?_
    refine x_callSe f_158_58 (c_settingOf _ _ _ _) (by omega) rfl rfl rfl (Nat.le_of_ble_eq_true rfl) rfl ?_
    refine x_topi (w := nI (zz L a c e)) (zz_set L a c e a0.2.2.1 a1.2.2.1 a2.2.2.1) ?_
    refine x_istore (ls1 := [.ref 33, .int (nI a), .int (nI b), .int (nI c), .int (nI d), .int (nI e), .int (nI f), .int (nI (szN a b c d e f)), .int (nI (zz L a c e)), mj_unset, mj_unset]) f_158_61 (Nat.le_of_ble_eq_true rfl) rfl ?_
    refine x_aload_n f_158_63 rfl ?_
    refine x_getR f_158_64 S.k33 (by decide) S.r19 ?_
    refine x_iconst (v := nI 3) f_158_67 (by decide) ?_
    refine x_aload_n f_158_68 rfl ?_
    refine x_getI f_158_69 S.k33 (by decide) ?_
    refine x_topi (w := nI w) hG.2.2.1 ?_
    refine x_imulN f_158_72 ?_
    refine x_iald (j := (3 * w)) f_158_73 S.k46 (by omega) (by decide) ?_
    refine x_topi (w := nI (L 0)) e460 ?_
    refine x_iload_n f_158_74 rfl ?_
    refine x_iaddN f_158_75 ?_
    refine x_aload_n f_158_76 rfl ?_
    refine x_getR f_158_77 S.k33 (by decide) S.r19 ?_
    refine x_iconst (v := nI 3) f_158_80 (by decide) ?_
    refine x_aload_n f_158_81 rfl ?_
    refine x_getI f_158_82 S.k33 (by decide) ?_
    refine x_topi (w := nI w) hG.2.2.1 ?_
    refine x_imulN f_158_85 ?_
    refine x_iconst (v := nI 1) f_158_86 (by decide) ?_
    refine x_iaddN f_158_87 ?_
    refine x_iald (j := ((3 * w) + 1)) f_158_88 S.k46 (by omega) (by decide) ?_
    refine x_topi (w := nI (L 1)) e461 ?_
    refine x_iload f_158_89 rfl ?_
    refine x_iaddN f_158_91 ?_
    refine x_aload_n f_158_92 rfl ?_
    refine x_getR f_158_93 S.k33 (by decide) S.r19 ?_
    refine x_iconst (v := nI 3) f_158_96 (by decide) ?_
    refine x_aload_n f_158_97 rfl ?_
    refine x_getI f_158_98 S.k33 (by decide) ?_
    refine x_topi (w := nI w) hG.2.2.1 ?_
    refine x_imulN f_158_101 ?_
    refine x_iconst (v := nI 2) f_158_102 (by decide) ?_
    refine x_iaddN f_158_103 ?_
    refine x_iald (j := ((3 * w) + 2)) f_158_104 S.k46 (by omega) (by decide) ?_
    refine x_topi (w := nI (L 2)) e462 ?_
    refine x_iload f_158_105 rfl ?_
    refine x_iaddN f_158_107 ?_
    refine x_callSe f_158_108 (c_settingOf _ _ _ _) (by omega) rfl rfl rfl (Nat.le_of_ble_eq_true rfl) rfl ?_
    refine x_topi (w := nI (zz L b d f)) (zz_set L b d f a0.2.2.1 a1.2.2.1 a2.2.2.1) ?_
    refine x_istore (ls1 := [.ref 33, .int (nI a), .int (nI b), .int (nI c), .int (nI d), .int (nI e), .int (nI f), .int (nI (szN a b c d e f)), .int (nI (zz L a c e)), .int (nI (zz L b d f)), mj_unset]) f_158_111 (Nat.le_of_ble_eq_true rfl) rfl ?_
    refine x_iload f_158_113 rfl ?_
    refine x_aload_n f_158_115 rfl ?_
    refine x_getI f_158_116 S.k33 (by decide) ?_
    refine x_topi (w := nI m) e33 ?_
    refine x_icmpN_gt (t := 158) f_158_119 (by decide) (by omega) (by omega) (fun c_1 => ?_) (fun c_1 => by omega)
    refine x_iconst (v := nI 1) f_158_158 (by decide) ?_
    refine x_goto (t := 163) f_158_159 (by decide) ?_
    refine x_istore (ls1 := [.ref 33, .int (nI a), .int (nI b), .int (nI c), .int (nI d), .int (nI e), .int (nI f), .int (nI (szN a b c d e f)), .int (nI (zz L a c e)), .int (nI (zz L b d f)), .int (nI 1)]) f_158_163 (Nat.le_of_ble_eq_true rfl) rfl ?_
    refine x_iload f_158_165 rfl ?_
    refine x_ifN_eq (t := 206) f_158_167 (by decide) (by decide) (fun c_2 => by omega) (fun c_2 => ?_)
    refine x_aload_n f_158_170 rfl ?_
    refine x_iload_n f_158_171 rfl ?_
    refine x_iload_n f_158_172 rfl ?_
    refine x_iload_n f_158_173 rfl ?_
    refine x_iload f_158_174 rfl ?_
    refine x_iload f_158_176 rfl ?_
    refine x_iload f_158_178 rfl ?_
    refine x_callV f_158_180 (c_goodIn hG.2.1 hG.2.2.1 hG.2.2.2.1 hG.1 (by omega) (by omega) (by omega) (by omega) (by omega) (by omega)) (by omega) S.k33 (by decide) rfl rfl (Nat.le_of_ble_eq_true rfl) rfl ?_
    rintro _ g ⟨rfl, hv⟩
    have S := hv.1.1
    rw [gc_eq hG.2.2.2.2.1]
    refine x_iload f_158_183 rfl ?_
    refine x_icmpN_ne (t := 206) f_158_185 (by decide) (by omega) (by omega) (fun c_g => ?_) (fun c_g => ?_)
    · refine x_retV f_158_206 rfl ?_
      refine ⟨rfl, GE.mv hv, (m, X, Y), BS.mv hv hS, hBs, fun q => q, fun q => absurd q c_g⟩
    · refine x_aload_n f_158_188 rfl ?_
      refine x_iload f_158_189 rfl ?_
      refine x_putI f_158_191 S.k33 (by decide) ?_
      refine x_aload_n f_158_194 rfl ?_
      refine x_iload f_158_195 rfl ?_
      refine x_putI f_158_197 S.k33 (by decide) ?_
      refine x_aload_n f_158_200 rfl ?_
      refine x_iload f_158_201 rfl ?_
      refine x_putI f_158_203 S.k33 (by decide) ?_
      refine x_retV f_158_206 rfl ?_
      refine ⟨rfl, (((GE.mv hv).set (by decide)).set (by decide)).set (by decide), kbx L a b c d e f, ⟨(mj_I_ne (by decide)).trans ((mj_I_ne (by decide)).trans (mj_I_at _ _ _ _)), s216, Or.inr ⟨(mj_I_ne (by decide)).trans (mj_I_at _ _ _ _), mj_I_at _ _ _ _, zx, zy⟩⟩, Or.inr ⟨a, b, c, d, e, f, hB, c_g, rfl⟩, fun q => kle_trans q ?_, fun _ => kle_rf _⟩
      dsimp only [kle, kbx]
      omega
  · replace e31 : mj_I h 33 31 = nI X := e31
    replace e32 : mj_I h 33 32 = nI Y := e32
    replace hX : X < 729 := hX
    replace hY : Y < 729 := hY
    show mx 7 158 0 [.ref 33, .int (nI a), .int (nI b), .int (nI c), .int (nI d), .int (nI e), .int (nI f), mj_unset, mj_unset, mj_unset, mj_unset] [] h _
    refine x_iload_n f_158_0 rfl ?_
    refine x_iload_n f_158_1 rfl ?_
    refine x_iload_n f_158_2 rfl ?_
    refine x_iload f_158_3 rfl ?_
    refine x_iload f_158_5 rfl ?_
    refine x_iload f_158_7 rfl ?_
    refine x_callSe f_158_9 (c_sizeOf _ _ _ _ _ _ _) (by omega) rfl rfl rfl (Nat.le_of_ble_eq_true rfl) rfl ?_
    refine x_topi (w := nI (szN a b c d e f)) (sz_eq hB5.1 hB5.2.2.1 hB5.2.2.2.2.1) ?_
    refine x_istore (ls1 := [.ref 33, .int (nI a), .int (nI b), .int (nI c), .int (nI d), .int (nI e), .int (nI f), .int (nI (szN a b c d e f)), mj_unset, mj_unset, mj_unset]) f_158_12 (Nat.le_of_ble_eq_true rfl) rfl ?_
    refine x_aload_n f_158_14 rfl ?_
    refine x_getR f_158_15 S.k33 (by decide) S.r19 ?_
    refine x_iconst (v := nI 3) f_158_18 (by decide) ?_
    refine x_aload_n f_158_19 rfl ?_
    refine x_getI f_158_20 S.k33 (by decide) ?_
    refine x_topi (w := nI w) hG.2.2.1 ?_
    refine x_imulN f_158_23 ?_
    refine x_iald (j := (3 * w)) f_158_24 S.k46 (by omega) (by decide) ?_
    refine x_topi (w := nI (L 0)) e460 ?_
    refine x_iload_n f_158_25 rfl ?_
    refine x_iaddN f_158_26 ?_
    refine x_aload_n f_158_27 rfl ?_
    refine x_getR f_158_28 S.k33 (by decide) S.r19 ?_
    refine x_iconst (v := nI 3) f_158_31 (by decide) ?_
    refine x_aload_n f_158_32 rfl ?_
    refine x_getI f_158_33 S.k33 (by decide) ?_
    refine x_topi (w := nI w) hG.2.2.1 ?_
    refine x_imulN f_158_36 ?_
    refine x_iconst (v := nI 1) f_158_37 (by decide) ?_
    refine x_iaddN f_158_38 ?_
    refine x_iald (j := ((3 * w) + 1)) f_158_39 S.k46 (by omega) (by decide) ?_
    refine x_topi (w := nI (L 1)) e461 ?_
    refine x_iload_n f_158_40 rfl ?_
    refine x_iaddN f_158_41 ?_
    refine x_aload_n f_158_42 rfl ?_
    refine x_getR f_158_43 S.k33 (by decide) S.r19 ?_
    refine x_iconst (v := nI 3) f_158_46 (by decide) ?_
    refine x_aload_n f_158_47 rfl ?_
    refine x_getI f_158_48 S.k33 (by decide) ?_
    refine x_topi (w := nI w) hG.2.2.1 ?_
    refine x_imulN f_158_51 ?_
    refine x_iconst (v := nI 2) f_158_52 (by decide) ?_
    refine x_iaddN f_158_53 ?_
    refine x_iald (j := ((3 * w) + 2)) f_158_54 S.k46 (by omega) (by decide) ?_
    refine x_topi (w := nI (L 2)) e462 ?_
    refine x_iload f_158_55 rfl ?_
    refine x_iaddN f_158_57 ?_
    refine x_callSe f_158_58 (c_settingOf _ _ _ _) (by omega) rfl rfl rfl (Nat.le_of_ble_eq_true rfl) rfl ?_
    refine x_topi (w := nI (zz L a c e)) (zz_set L a c e a0.2.2.1 a1.2.2.1 a2.2.2.1) ?_
    refine x_istore (ls1 := [.ref 33, .int (nI a), .int (nI b), .int (nI c), .int (nI d), .int (nI e), .int (nI f), .int (nI (szN a b c d e f)), .int (nI (zz L a c e)), mj_unset, mj_unset]) f_158_61 (Nat.le_of_ble_eq_true rfl) rfl ?_
    refine x_aload_n f_158_63 rfl ?_
    refine x_getR f_158_64 S.k33 (by decide) S.r19 ?_
    refine x_iconst (v := nI 3) f_158_67 (by decide) ?_
    refine x_aload_n f_158_68 rfl ?_
    refine x_getI f_158_69 S.k33 (by decide) ?_
    refine x_topi (w := nI w) hG.2.2.1 ?_
    refine x_imulN f_158_72 ?_
    refine x_iald (j := (3 * w)) f_158_73 S.k46 (by omega) (by decide) ?_
    refine x_topi (w := nI (L 0)) e460 ?_
    refine x_iload_n f_158_74 rfl ?_
    refine x_iaddN f_158_75 ?_
    refine x_aload_n f_158_76 rfl ?_
    refine x_getR f_158_77 S.k33 (by decide) S.r19 ?_
    refine x_iconst (v := nI 3) f_158_80 (by decide) ?_
    refine x_aload_n f_158_81 rfl ?_
    refine x_getI f_158_82 S.k33 (by decide) ?_
    refine x_topi (w := nI w) hG.2.2.1 ?_
    refine x_imulN f_158_85 ?_
    refine x_iconst (v := nI 1) f_158_86 (by decide) ?_
    refine x_iaddN f_158_87 ?_
    refine x_iald (j := ((3 * w) + 1)) f_158_88 S.k46 (by omega) (by decide) ?_
    refine x_topi (w := nI (L 1)) e461 ?_
    refine x_iload f_158_89 rfl ?_
    refine x_iaddN f_158_91 ?_
    refine x_aload_n f_158_92 rfl ?_
    refine x_getR f_158_93 S.k33 (by decide) S.r19 ?_
    refine x_iconst (v := nI 3) f_158_96 (by decide) ?_
    refine x_aload_n f_158_97 rfl ?_
    refine x_getI f_158_98 S.k33 (by decide) ?_
    refine x_topi (w := nI w) hG.2.2.1 ?_
    refine x_imulN f_158_101 ?_
    refine x_iconst (v := nI 2) f_158_102 (by decide) ?_
    refine x_iaddN f_158_103 ?_
    refine x_iald (j := ((3 * w) + 2)) f_158_104 S.k46 (by omega) (by decide) ?_
    refine x_topi (w := nI (L 2)) e462 ?_
    refine x_iload f_158_105 rfl ?_
    refine x_iaddN f_158_107 ?_
    refine x_callSe f_158_108 (c_settingOf _ _ _ _) (by omega) rfl rfl rfl (Nat.le_of_ble_eq_true rfl) rfl ?_
    refine x_topi (w := nI (zz L b d f)) (zz_set L b d f a0.2.2.1 a1.2.2.1 a2.2.2.1) ?_
    refine x_istore (ls1 := [.ref 33, .int (nI a), .int (nI b), .int (nI c), .int (nI d), .int (nI e), .int (nI f), .int (nI (szN a b c d e f)), .int (nI (zz L a c e)), .int (nI (zz L b d f)), mj_unset]) f_158_111 (Nat.le_of_ble_eq_true rfl) rfl ?_
    refine x_iload f_158_113 rfl ?_
    refine x_aload_n f_158_115 rfl ?_
    refine x_getI f_158_116 S.k33 (by decide) ?_
    refine x_topi (w := nI m) e33 ?_
    refine x_icmpN_gt (t := 158) f_158_119 (by decide) (by omega) (by omega) (fun c_1 => ?_) (fun c_1 => ?_)
    · refine x_iconst (v := nI 1) f_158_158 (by decide) ?_
      refine x_goto (t := 163) f_158_159 (by decide) ?_
      refine x_istore (ls1 := [.ref 33, .int (nI a), .int (nI b), .int (nI c), .int (nI d), .int (nI e), .int (nI f), .int (nI (szN a b c d e f)), .int (nI (zz L a c e)), .int (nI (zz L b d f)), .int (nI 1)]) f_158_163 (Nat.le_of_ble_eq_true rfl) rfl ?_
      refine x_iload f_158_165 rfl ?_
      refine x_ifN_eq (t := 206) f_158_167 (by decide) (by decide) (fun c_2 => by omega) (fun c_2 => ?_)
      refine x_aload_n f_158_170 rfl ?_
      refine x_iload_n f_158_171 rfl ?_
      refine x_iload_n f_158_172 rfl ?_
      refine x_iload_n f_158_173 rfl ?_
      refine x_iload f_158_174 rfl ?_
      refine x_iload f_158_176 rfl ?_
      refine x_iload f_158_178 rfl ?_
      refine x_callV f_158_180 (c_goodIn hG.2.1 hG.2.2.1 hG.2.2.2.1 hG.1 (by omega) (by omega) (by omega) (by omega) (by omega) (by omega)) (by omega) S.k33 (by decide) rfl rfl (Nat.le_of_ble_eq_true rfl) rfl ?_
      rintro _ g ⟨rfl, hv⟩
      have S := hv.1.1
      rw [gc_eq hG.2.2.2.2.1]
      refine x_iload f_158_183 rfl ?_
      refine x_icmpN_ne (t := 206) f_158_185 (by decide) (by omega) (by omega) (fun c_g => ?_) (fun c_g => ?_)
      · refine x_retV f_158_206 rfl ?_
        refine ⟨rfl, GE.mv hv, (m, X, Y), BS.mv hv hS, hBs, fun q => q, fun q => absurd q c_g⟩
      · refine x_aload_n f_158_188 rfl ?_
        refine x_iload f_158_189 rfl ?_
        refine x_putI f_158_191 S.k33 (by decide) ?_
        refine x_aload_n f_158_194 rfl ?_
        refine x_iload f_158_195 rfl ?_
        refine x_putI f_158_197 S.k33 (by decide) ?_
        refine x_aload_n f_158_200 rfl ?_
        refine x_iload f_158_201 rfl ?_
        refine x_putI f_158_203 S.k33 (by decide) ?_
        refine x_retV f_158_206 rfl ?_
        refine ⟨rfl, (((GE.mv hv).set (by decide)).set (by decide)).set (by decide), kbx L a b c d e f, ⟨(mj_I_ne (by decide)).trans ((mj_I_ne (by decide)).trans (mj_I_at _ _ _ _)), s216, Or.inr ⟨(mj_I_ne (by decide)).trans (mj_I_at _ _ _ _), mj_I_at _ _ _ _, zx, zy⟩⟩, Or.inr ⟨a, b, c, d, e, f, hB, c_g, rfl⟩, fun q => kle_trans q ?_, fun _ => kle_rf _⟩
        dsimp only [kle, kbx]
        omega
    · refine x_iload f_158_122 rfl ?_
      refine x_aload_n f_158_124 rfl ?_
      refine x_getI f_158_125 S.k33 (by decide) ?_
      refine x_topi (w := nI m) e33 ?_
      refine x_icmpN_ne (t := 162) f_158_128 (by decide) (by omega) (by omega) (fun c_3 => ?_) (fun c_3 => ?_)
      · refine x_iconst (v := nI 0) f_158_162 (by decide) ?_
        refine x_istore (ls1 := [.ref 33, .int (nI a), .int (nI b), .int (nI c), .int (nI d), .int (nI e), .int (nI f), .int (nI (szN a b c d e f)), .int (nI (zz L a c e)), .int (nI (zz L b d f)), .int (nI 0)]) f_158_163 (Nat.le_of_ble_eq_true rfl) rfl ?_
        refine x_iload f_158_165 rfl ?_
        refine x_ifN_eq (t := 206) f_158_167 (by decide) (by decide) (fun c_4 => ?_) (fun c_4 => by omega)
        refine x_retV f_158_206 rfl ?_
        refine ⟨rfl, GE.rf hG.1, (m, X, Y), hS, hBs, fun q => q, fun _ => ?_⟩
        dsimp only [kle, kbx]
        omega
      · refine x_iload f_158_131 rfl ?_
        refine x_aload_n f_158_133 rfl ?_
        refine x_getI f_158_134 S.k33 (by decide) ?_
        refine x_topi (w := nI X) e31 ?_
        refine x_icmpN_lt (t := 158) f_158_137 (by decide) (by omega) (by omega) (fun c_5 => ?_) (fun c_5 => ?_)
        · refine x_iconst (v := nI 1) f_158_158 (by decide) ?_
          refine x_goto (t := 163) f_158_159 (by decide) ?_
          refine x_istore (ls1 := [.ref 33, .int (nI a), .int (nI b), .int (nI c), .int (nI d), .int (nI e), .int (nI f), .int (nI (szN a b c d e f)), .int (nI (zz L a c e)), .int (nI (zz L b d f)), .int (nI 1)]) f_158_163 (Nat.le_of_ble_eq_true rfl) rfl ?_
          refine x_iload f_158_165 rfl ?_
          refine x_ifN_eq (t := 206) f_158_167 (by decide) (by decide) (fun c_6 => by omega) (fun c_6 => ?_)
          refine x_aload_n f_158_170 rfl ?_
          refine x_iload_n f_158_171 rfl ?_
          refine x_iload_n f_158_172 rfl ?_
          refine x_iload_n f_158_173 rfl ?_
          refine x_iload f_158_174 rfl ?_
          refine x_iload f_158_176 rfl ?_
          refine x_iload f_158_178 rfl ?_
          refine x_callV f_158_180 (c_goodIn hG.2.1 hG.2.2.1 hG.2.2.2.1 hG.1 (by omega) (by omega) (by omega) (by omega) (by omega) (by omega)) (by omega) S.k33 (by decide) rfl rfl (Nat.le_of_ble_eq_true rfl) rfl ?_
          rintro _ g ⟨rfl, hv⟩
          have S := hv.1.1
          rw [gc_eq hG.2.2.2.2.1]
          refine x_iload f_158_183 rfl ?_
          refine x_icmpN_ne (t := 206) f_158_185 (by decide) (by omega) (by omega) (fun c_g => ?_) (fun c_g => ?_)
          · refine x_retV f_158_206 rfl ?_
            refine ⟨rfl, GE.mv hv, (m, X, Y), BS.mv hv hS, hBs, fun q => q, fun q => absurd q c_g⟩
          · refine x_aload_n f_158_188 rfl ?_
            refine x_iload f_158_189 rfl ?_
            refine x_putI f_158_191 S.k33 (by decide) ?_
            refine x_aload_n f_158_194 rfl ?_
            refine x_iload f_158_195 rfl ?_
            refine x_putI f_158_197 S.k33 (by decide) ?_
            refine x_aload_n f_158_200 rfl ?_
            refine x_iload f_158_201 rfl ?_
            refine x_putI f_158_203 S.k33 (by decide) ?_
            refine x_retV f_158_206 rfl ?_
            refine ⟨rfl, (((GE.mv hv).set (by decide)).set (by decide)).set (by decide), kbx L a b c d e f, ⟨(mj_I_ne (by decide)).trans ((mj_I_ne (by decide)).trans (mj_I_at _ _ _ _)), s216, Or.inr ⟨(mj_I_ne (by decide)).trans (mj_I_at _ _ _ _), mj_I_at _ _ _ _, zx, zy⟩⟩, Or.inr ⟨a, b, c, d, e, f, hB, c_g, rfl⟩, fun q => kle_trans q ?_, fun _ => kle_rf _⟩
            dsimp only [kle, kbx]
            omega
        · refine x_iload f_158_140 rfl ?_
          refine x_aload_n f_158_142 rfl ?_
          refine x_getI f_158_143 S.k33 (by decide) ?_
          refine x_topi (w := nI X) e31 ?_
          refine x_icmpN_ne (t := 162) f_158_146 (by decide) (by omega) (by omega) (fun c_7 => ?_) (fun c_7 => ?_)
          · refine x_iconst (v := nI 0) f_158_162 (by decide) ?_
            refine x_istore (ls1 := [.ref 33, .int (nI a), .int (nI b), .int (nI c), .int (nI d), .int (nI e), .int (nI f), .int (nI (szN a b c d e f)), .int (nI (zz L a c e)), .int (nI (zz L b d f)), .int (nI 0)]) f_158_163 (Nat.le_of_ble_eq_true rfl) rfl ?_
            refine x_iload f_158_165 rfl ?_
            refine x_ifN_eq (t := 206) f_158_167 (by decide) (by decide) (fun c_8 => ?_) (fun c_8 => by omega)
            refine x_retV f_158_206 rfl ?_
            refine ⟨rfl, GE.rf hG.1, (m, X, Y), hS, hBs, fun q => q, fun _ => ?_⟩
            dsimp only [kle, kbx]
            omega
          · refine x_iload f_158_149 rfl ?_
            refine x_aload_n f_158_151 rfl ?_
            refine x_getI f_158_152 S.k33 (by decide) ?_
            refine x_topi (w := nI Y) e32 ?_
            refine x_icmpN_ge (t := 162) f_158_155 (by decide) (by omega) (by omega) (fun c_9 => ?_) (fun c_9 => ?_)
            · refine x_iconst (v := nI 0) f_158_162 (by decide) ?_
              refine x_istore (ls1 := [.ref 33, .int (nI a), .int (nI b), .int (nI c), .int (nI d), .int (nI e), .int (nI f), .int (nI (szN a b c d e f)), .int (nI (zz L a c e)), .int (nI (zz L b d f)), .int (nI 0)]) f_158_163 (Nat.le_of_ble_eq_true rfl) rfl ?_
              refine x_iload f_158_165 rfl ?_
              refine x_ifN_eq (t := 206) f_158_167 (by decide) (by decide) (fun c_10 => ?_) (fun c_10 => by omega)
              refine x_retV f_158_206 rfl ?_
              refine ⟨rfl, GE.rf hG.1, (m, X, Y), hS, hBs, fun q => q, fun _ => ?_⟩
              dsimp only [kle, kbx]
              omega
            · refine x_iconst (v := nI 1) f_158_158 (by decide) ?_
              refine x_goto (t := 163) f_158_159 (by decide) ?_
              refine x_istore (ls1 := [.ref 33, .int (nI a), .int (nI b), .int (nI c), .int (nI d), .int (nI e), .int (nI f), .int (nI (szN a b c d e f)), .int (nI (zz L a c e)), .int (nI (zz L b d f)), .int (nI 1)]) f_158_163 (Nat.le_of_ble_eq_true rfl) rfl ?_
              refine x_iload f_158_165 rfl ?_
              refine x_ifN_eq (t := 206) f_158_167 (by decide) (by decide) (fun c_11 => by omega) (fun c_11 => ?_)
              refine x_aload_n f_158_170 rfl ?_
              refine x_iload_n f_158_171 rfl ?_
              refine x_iload_n f_158_172 rfl ?_
              refine x_iload_n f_158_173 rfl ?_
              refine x_iload f_158_174 rfl ?_
              refine x_iload f_158_176 rfl ?_
              refine x_iload f_158_178 rfl ?_
              refine x_callV f_158_180 (c_goodIn hG.2.1 hG.2.2.1 hG.2.2.2.1 hG.1 (by omega) (by omega) (by omega) (by omega) (by omega) (by omega)) (by omega) S.k33 (by decide) rfl rfl (Nat.le_of_ble_eq_true rfl) rfl ?_
              rintro _ g ⟨rfl, hv⟩
              have S := hv.1.1
              rw [gc_eq hG.2.2.2.2.1]
              refine x_iload f_158_183 rfl ?_
              refine x_icmpN_ne (t := 206) f_158_185 (by decide) (by omega) (by omega) (fun c_g => ?_) (fun c_g => ?_)
              · refine x_retV f_158_206 rfl ?_
                refine ⟨rfl, GE.mv hv, (m, X, Y), BS.mv hv hS, hBs, fun q => q, fun q => absurd q c_g⟩
              · refine x_aload_n f_158_188 rfl ?_
                refine x_iload f_158_189 rfl ?_
                refine x_putI f_158_191 S.k33 (by decide) ?_
                refine x_aload_n f_158_194 rfl ?_
                refine x_iload f_158_195 rfl ?_
                refine x_putI f_158_197 S.k33 (by decide) ?_
                refine x_aload_n f_158_200 rfl ?_
                refine x_iload f_158_201 rfl ?_
                refine x_putI f_158_203 S.k33 (by decide) ?_
                refine x_retV f_158_206 rfl ?_
                refine ⟨rfl, (((GE.mv hv).set (by decide)).set (by decide)).set (by decide), kbx L a b c d e f, ⟨(mj_I_ne (by decide)).trans ((mj_I_ne (by decide)).trans (mj_I_at _ _ _ _)), s216, Or.inr ⟨(mj_I_ne (by decide)).trans (mj_I_at _ _ _ _), mj_I_at _ _ _ _, zx, zy⟩⟩, Or.inr ⟨a, b, c, d, e, f, hB, c_g, rfl⟩, fun q => kle_trans q ?_, fun _ => kle_rf _⟩
                dsimp only [kle, kbx]
                omega
