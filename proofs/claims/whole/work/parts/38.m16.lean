theorem f_149_0 : mj_fetch 149 0 = some (.aload_n 0, 0, 0) := by decide +kernel
theorem f_149_1 : mj_fetch 149 1 = some (.getfield 57, 11, 24) := by decide +kernel
theorem f_149_4 : mj_fetch 149 4 = some (.iload_n 1, 0, 0) := by decide +kernel
theorem f_149_5 : mj_fetch 149 5 = some (.iload_n 2, 0, 0) := by decide +kernel
theorem f_149_6 : mj_fetch 149 6 = some (.iload_n 3, 0, 0) := by decide +kernel
theorem f_149_7 : mj_fetch 149 7 = some (.iload 4, 0, 0) := by decide +kernel
theorem f_149_9 : mj_fetch 149 9 = some (.iload 5, 0, 0) := by decide +kernel
theorem f_149_11 : mj_fetch 149 11 = some (.iload 6, 0, 0) := by decide +kernel
theorem f_149_13 : mj_fetch 149 13 = some (.invokestatic 195, 139, 0) := by decide +kernel
theorem f_149_16 : mj_fetch 149 16 = some (.iaload, 0, 0) := by decide +kernel
theorem f_149_17 : mj_fetch 149 17 = some (.istore 7, 0, 0) := by decide +kernel
theorem f_149_19 : mj_fetch 149 19 = some (.aload_n 0, 0, 0) := by decide +kernel
theorem f_149_20 : mj_fetch 149 20 = some (.getfield 60, 11, 25) := by decide +kernel
theorem f_149_23 : mj_fetch 149 23 = some (.aload_n 0, 0, 0) := by decide +kernel
theorem f_149_24 : mj_fetch 149 24 = some (.getfield 211, 11, 26) := by decide +kernel
theorem f_149_27 : mj_fetch 149 27 = some (.iload 7, 0, 0) := by decide +kernel
theorem f_149_29 : mj_fetch 149 29 = some (.iastore, 0, 0) := by decide +kernel
theorem f_149_30 : mj_fetch 149 30 = some (.aload_n 0, 0, 0) := by decide +kernel
theorem f_149_31 : mj_fetch 149 31 = some (.dup, 0, 0) := by decide +kernel
theorem f_149_32 : mj_fetch 149 32 = some (.getfield 211, 11, 26) := by decide +kernel
theorem f_149_35 : mj_fetch 149 35 = some (.iconst 1, 0, 0) := by decide +kernel
theorem f_149_36 : mj_fetch 149 36 = some (.iadd, 0, 0) := by decide +kernel
theorem f_149_37 : mj_fetch 149 37 = some (.putfield 211, 11, 26) := by decide +kernel
theorem f_149_40 : mj_fetch 149 40 = some (.iload 7, 0, 0) := by decide +kernel
theorem f_149_42 : mj_fetch 149 42 = some (.iconst 2, 0, 0) := by decide +kernel
theorem f_149_43 : mj_fetch 149 43 = some (.if_icmp .ge 4, 0, 0) := by decide +kernel
theorem f_149_46 : mj_fetch 149 46 = some (.return_, 0, 0) := by decide +kernel
theorem f_149_47 : mj_fetch 149 47 = some (.iload 7, 0, 0) := by decide +kernel
theorem f_149_49 : mj_fetch 149 49 = some (.iconst 2, 0, 0) := by decide +kernel
theorem f_149_50 : mj_fetch 149 50 = some (.isub, 0, 0) := by decide +kernel
theorem f_149_51 : mj_fetch 149 51 = some (.bipush 8, 0, 0) := by decide +kernel
theorem f_149_53 : mj_fetch 149 53 = some (.irem, 0, 0) := by decide +kernel
theorem f_149_54 : mj_fetch 149 54 = some (.istore 8, 0, 0) := by decide +kernel
theorem f_149_56 : mj_fetch 149 56 = some (.iload 7, 0, 0) := by decide +kernel
theorem f_149_58 : mj_fetch 149 58 = some (.bipush 10, 0, 0) := by decide +kernel
theorem f_149_60 : mj_fetch 149 60 = some (.if_icmp .ge 40, 0, 0) := by decide +kernel
theorem f_149_63 : mj_fetch 149 63 = some (.aload_n 0, 0, 0) := by decide +kernel
theorem f_149_64 : mj_fetch 149 64 = some (.iload_n 1, 0, 0) := by decide +kernel
theorem f_149_65 : mj_fetch 149 65 = some (.iload_n 1, 0, 0) := by decide +kernel
theorem f_149_66 : mj_fetch 149 66 = some (.iload 8, 0, 0) := by decide +kernel
theorem f_149_68 : mj_fetch 149 68 = some (.iadd, 0, 0) := by decide +kernel
theorem f_149_69 : mj_fetch 149 69 = some (.iload_n 3, 0, 0) := by decide +kernel
theorem f_149_70 : mj_fetch 149 70 = some (.iload 4, 0, 0) := by decide +kernel
theorem f_149_72 : mj_fetch 149 72 = some (.iload 5, 0, 0) := by decide +kernel
theorem f_149_74 : mj_fetch 149 74 = some (.iload 6, 0, 0) := by decide +kernel
theorem f_149_76 : mj_fetch 149 76 = some (.invokevirtual 214, 149, 0) := by decide +kernel
theorem f_149_79 : mj_fetch 149 79 = some (.aload_n 0, 0, 0) := by decide +kernel
theorem f_149_80 : mj_fetch 149 80 = some (.iload_n 1, 0, 0) := by decide +kernel
theorem f_149_81 : mj_fetch 149 81 = some (.iload 8, 0, 0) := by decide +kernel
theorem f_149_83 : mj_fetch 149 83 = some (.iadd, 0, 0) := by decide +kernel
theorem f_149_84 : mj_fetch 149 84 = some (.iconst 1, 0, 0) := by decide +kernel
theorem f_149_85 : mj_fetch 149 85 = some (.iadd, 0, 0) := by decide +kernel
theorem f_149_86 : mj_fetch 149 86 = some (.iload_n 2, 0, 0) := by decide +kernel
theorem f_149_87 : mj_fetch 149 87 = some (.iload_n 3, 0, 0) := by decide +kernel
theorem f_149_88 : mj_fetch 149 88 = some (.iload 4, 0, 0) := by decide +kernel
theorem f_149_90 : mj_fetch 149 90 = some (.iload 5, 0, 0) := by decide +kernel
theorem f_149_92 : mj_fetch 149 92 = some (.iload 6, 0, 0) := by decide +kernel
theorem f_149_94 : mj_fetch 149 94 = some (.invokevirtual 214, 149, 0) := by decide +kernel
theorem f_149_97 : mj_fetch 149 97 = some (.goto 80, 0, 0) := by decide +kernel
theorem f_149_177 : mj_fetch 149 177 = some (.return_, 0, 0) := by decide +kernel
theorem f_149_100 : mj_fetch 149 100 = some (.iload 7, 0, 0) := by decide +kernel
theorem f_149_102 : mj_fetch 149 102 = some (.bipush 18, 0, 0) := by decide +kernel
theorem f_149_104 : mj_fetch 149 104 = some (.if_icmp .ge 39, 0, 0) := by decide +kernel
theorem f_149_107 : mj_fetch 149 107 = some (.aload_n 0, 0, 0) := by decide +kernel
theorem f_149_108 : mj_fetch 149 108 = some (.iload_n 1, 0, 0) := by decide +kernel
theorem f_149_109 : mj_fetch 149 109 = some (.iload_n 2, 0, 0) := by decide +kernel
theorem f_149_110 : mj_fetch 149 110 = some (.iload_n 3, 0, 0) := by decide +kernel
theorem f_149_111 : mj_fetch 149 111 = some (.iload_n 3, 0, 0) := by decide +kernel
theorem f_149_112 : mj_fetch 149 112 = some (.iload 8, 0, 0) := by decide +kernel
theorem f_149_114 : mj_fetch 149 114 = some (.iadd, 0, 0) := by decide +kernel
theorem f_149_115 : mj_fetch 149 115 = some (.iload 5, 0, 0) := by decide +kernel
theorem f_149_117 : mj_fetch 149 117 = some (.iload 6, 0, 0) := by decide +kernel
theorem f_149_119 : mj_fetch 149 119 = some (.invokevirtual 214, 149, 0) := by decide +kernel
theorem f_149_122 : mj_fetch 149 122 = some (.aload_n 0, 0, 0) := by decide +kernel
theorem f_149_123 : mj_fetch 149 123 = some (.iload_n 1, 0, 0) := by decide +kernel
theorem f_149_124 : mj_fetch 149 124 = some (.iload_n 2, 0, 0) := by decide +kernel
theorem f_149_125 : mj_fetch 149 125 = some (.iload_n 3, 0, 0) := by decide +kernel
theorem f_149_126 : mj_fetch 149 126 = some (.iload 8, 0, 0) := by decide +kernel
theorem f_149_128 : mj_fetch 149 128 = some (.iadd, 0, 0) := by decide +kernel
theorem f_149_129 : mj_fetch 149 129 = some (.iconst 1, 0, 0) := by decide +kernel
theorem f_149_130 : mj_fetch 149 130 = some (.iadd, 0, 0) := by decide +kernel
theorem f_149_131 : mj_fetch 149 131 = some (.iload 4, 0, 0) := by decide +kernel
theorem f_149_133 : mj_fetch 149 133 = some (.iload 5, 0, 0) := by decide +kernel
theorem f_149_135 : mj_fetch 149 135 = some (.iload 6, 0, 0) := by decide +kernel
theorem f_149_137 : mj_fetch 149 137 = some (.invokevirtual 214, 149, 0) := by decide +kernel
theorem f_149_140 : mj_fetch 149 140 = some (.goto 37, 0, 0) := by decide +kernel
theorem f_149_143 : mj_fetch 149 143 = some (.aload_n 0, 0, 0) := by decide +kernel
theorem f_149_144 : mj_fetch 149 144 = some (.iload_n 1, 0, 0) := by decide +kernel
theorem f_149_145 : mj_fetch 149 145 = some (.iload_n 2, 0, 0) := by decide +kernel
theorem f_149_146 : mj_fetch 149 146 = some (.iload_n 3, 0, 0) := by decide +kernel
theorem f_149_147 : mj_fetch 149 147 = some (.iload 4, 0, 0) := by decide +kernel
theorem f_149_149 : mj_fetch 149 149 = some (.iload 5, 0, 0) := by decide +kernel
theorem f_149_151 : mj_fetch 149 151 = some (.iload 5, 0, 0) := by decide +kernel
theorem f_149_153 : mj_fetch 149 153 = some (.iload 8, 0, 0) := by decide +kernel
theorem f_149_155 : mj_fetch 149 155 = some (.iadd, 0, 0) := by decide +kernel
theorem f_149_156 : mj_fetch 149 156 = some (.invokevirtual 214, 149, 0) := by decide +kernel
theorem f_149_159 : mj_fetch 149 159 = some (.aload_n 0, 0, 0) := by decide +kernel
theorem f_149_160 : mj_fetch 149 160 = some (.iload_n 1, 0, 0) := by decide +kernel
theorem f_149_161 : mj_fetch 149 161 = some (.iload_n 2, 0, 0) := by decide +kernel
theorem f_149_162 : mj_fetch 149 162 = some (.iload_n 3, 0, 0) := by decide +kernel
theorem f_149_163 : mj_fetch 149 163 = some (.iload 4, 0, 0) := by decide +kernel
theorem f_149_165 : mj_fetch 149 165 = some (.iload 5, 0, 0) := by decide +kernel
theorem f_149_167 : mj_fetch 149 167 = some (.iload 8, 0, 0) := by decide +kernel
theorem f_149_169 : mj_fetch 149 169 = some (.iadd, 0, 0) := by decide +kernel
theorem f_149_170 : mj_fetch 149 170 = some (.iconst 1, 0, 0) := by decide +kernel
theorem f_149_171 : mj_fetch 149 171 = some (.iadd, 0, 0) := by decide +kernel
theorem f_149_172 : mj_fetch 149 172 = some (.iload 6, 0, 0) := by decide +kernel
theorem f_149_174 : mj_fetch 149 174 = some (.invokevirtual 214, 149, 0) := by decide +kernel
/-! ROWS OF LEAST PROOFS -/
theorem fo_in {cut val : Nat → Nat} : ∀ (n i : Nat) (x : Nat × Nat), fo cut val n i x = x ∨ ∃ k, i ≤ k ∧ k < i + n ∧ fo cut val n i x = (val k, cut k)
  | 0, i, x => Or.inl rfl
  | n + 1, i, x => by
    rcases fo_in (cut := cut) (val := val) n (i + 1) (bt x (cut i) (val i)) with q | ⟨k, k1, k2, q⟩
    · show fo cut val n (i + 1) (bt x (cut i) (val i)) = x ∨ ∃ k, i ≤ k ∧ k < i + (n + 1) ∧ fo cut val n (i + 1) (bt x (cut i) (val i)) = (val k, cut k)
      rw [q]
      unfold bt
      split
      · right; exact ⟨i, Nat.le_refl _, by omega, rfl⟩
      · left; rfl
    · right; exact ⟨k, by omega, by omega, q⟩
theorem LV_cut (G : Gd) {a b c d e f : Nat} (h1 : a ≤ b) (h2 : c ≤ d) (h3 : e ≤ f) (b5 : b ≤ 5) (d5 : d ≤ 5) (f5 : f ≤ 5) : ((LV G a b c d e f).2 < 2 ∧ (LV G a b c d e f).1 = 1 ∧ ¬ NU G a b c d e f) ∨ (NU G a b c d e f ∧ ((∃ i, i < b - a ∧ (LV G a b c d e f).2 = 2 + i ∧ (LV G a b c d e f).1 = (LV G a (a + i) c d e f).1 + (LV G (a + i + 1) b c d e f).1) ∨ (∃ i, i < d - c ∧ (LV G a b c d e f).2 = 10 + i ∧ (LV G a b c d e f).1 = (LV G a b c (c + i) e f).1 + (LV G a b (c + i + 1) d e f).1) ∨ (∃ i, i < f - e ∧ (LV G a b c d e f).2 = 18 + i ∧ (LV G a b c d e f).1 = (LV G a b c d e (e + i)).1 + (LV G a b c d (e + i + 1) f).1))) := by
  by_cases g0 : gcN G a b c d e f = 0
  · left
    rw [LV_eq G (by unfold spn; omega), if_pos g0]
    exact ⟨by decide, rfl, fun q => q.1 g0⟩
  · by_cases gz : gcN G a b c d e f = szN a b c d e f
    · left
      rw [LV_eq G (by unfold spn; omega), if_neg g0, if_pos gz]
      exact ⟨by decide, rfl, fun q => q.2 gz⟩
    · right
      refine ⟨⟨g0, gz⟩, ?_⟩
      have hq := LV_fo3 G h1 h2 h3 b5 d5 f5 g0 gz 0
      have h216 := LV_216 G h1 h2 h3 b5 d5 f5
      unfold fo3 at hq
      rcases fo_in (cut := fun i => 18 + i - e) (val := fun i => (LV G a b c d e i).1 + (LV G a b c d (i + 1) f).1) (f - e) e (fo (fun i => 10 + i - c) (fun i => (LV G a b c i e f).1 + (LV G a b (i + 1) d e f).1) (d - c) c
          (fo (fun i => 2 + i - a) (fun i => (LV G a i c d e f).1 + (LV G (i + 1) b c d e f).1) (b - a) a (1000, 0))) with q | ⟨k, k1, k2, q⟩
      · rw [q] at hq
        rcases fo_in (cut := fun i => 10 + i - c) (val := fun i => (LV G a b c i e f).1 + (LV G a b (i + 1) d e f).1) (d - c) c
          (fo (fun i => 2 + i - a) (fun i => (LV G a i c d e f).1 + (LV G (i + 1) b c d e f).1) (b - a) a (1000, 0)) with q | ⟨k, k1, k2, q⟩
        · rw [q] at hq
          rcases fo_in (cut := fun i => 2 + i - a) (val := fun i => (LV G a i c d e f).1 + (LV G (i + 1) b c d e f).1) (b - a) a (1000, 0) with q | ⟨k, k1, k2, q⟩
          · rw [q] at hq
            rw [hq] at h216
            exact absurd h216 (by decide)
          · rw [q] at hq
            obtain ⟨i, rfl⟩ : ∃ i, k = a + i := ⟨k - a, by omega⟩
            exact Or.inl ⟨i, by omega, by rw [hq]; show 2 + (a + i) - a = 2 + i; omega, by rw [hq]⟩
        · rw [q] at hq
          obtain ⟨i, rfl⟩ : ∃ i, k = c + i := ⟨k - c, by omega⟩
          exact Or.inr (Or.inl ⟨i, by omega, by rw [hq]; show 10 + (c + i) - c = 10 + i; omega, by rw [hq]⟩)
      · rw [q] at hq
        obtain ⟨i, rfl⟩ : ∃ i, k = e + i := ⟨k - e, by omega⟩
        exact Or.inr (Or.inr ⟨i, by omega, by rw [hq]; show 18 + (e + i) - e = 18 + i; omega, by rw [hq]⟩)
def pf (G : Gd) : Nat → Nat → Nat → Nat → Nat → Nat → Nat → List Nat
  | 0, _, _, _, _, _, _ => []
  | s + 1, a, b, c, d, e, f =>
    if (LV G a b c d e f).2 < 2 then [(LV G a b c d e f).2]
    else if (LV G a b c d e f).2 < 10 then [(LV G a b c d e f).2] ++ pf G s a (a + ((LV G a b c d e f).2 - 2) % 8) c d e f ++ pf G s (a + ((LV G a b c d e f).2 - 2) % 8 + 1) b c d e f
    else if (LV G a b c d e f).2 < 18 then [(LV G a b c d e f).2] ++ pf G s a b c (c + ((LV G a b c d e f).2 - 2) % 8) e f ++ pf G s a b (c + ((LV G a b c d e f).2 - 2) % 8 + 1) d e f
    else [(LV G a b c d e f).2] ++ pf G s a b c d e (e + ((LV G a b c d e f).2 - 2) % 8) ++ pf G s a b c d (e + ((LV G a b c d e f).2 - 2) % 8 + 1) f
/-- the row of the least proof of a box -/
def PF (G : Gd) (a b c d e f : Nat) : List Nat := pf G 16 a b c d e f
theorem pf_leaf {G : Gd} {s a b c d e f : Nat} (h : (LV G a b c d e f).2 < 2) : pf G (s + 1) a b c d e f = [(LV G a b c d e f).2] := by
  unfold pf
  rw [if_pos h]

theorem pf_c0 {G : Gd} {s a b c d e f i : Nat} (hi : i < 8) (h : (LV G a b c d e f).2 = 2 + i) : pf G (s + 1) a b c d e f = [2 + i] ++ pf G s a (a + i) c d e f ++ pf G s (a + i + 1) b c d e f := by
  conv => lhs; unfold pf
  rw [h, if_neg (show ¬ 2 + i < 2 by omega), if_pos (show 2 + i < 10 by omega), show (2 + i - 2) % 8 = i by omega]
theorem pf_c1 {G : Gd} {s a b c d e f i : Nat} (hi : i < 8) (h : (LV G a b c d e f).2 = 10 + i) : pf G (s + 1) a b c d e f = [10 + i] ++ pf G s a b c (c + i) e f ++ pf G s a b (c + i + 1) d e f := by
  conv => lhs; unfold pf
  rw [h, if_neg (show ¬ 10 + i < 2 by omega), if_neg (show ¬ 10 + i < 10 by omega), if_pos (show 10 + i < 18 by omega), show (10 + i - 2) % 8 = i by omega]
theorem pf_c2 {G : Gd} {s a b c d e f i : Nat} (hi : i < 8) (h : (LV G a b c d e f).2 = 18 + i) : pf G (s + 1) a b c d e f = [18 + i] ++ pf G s a b c d e (e + i) ++ pf G s a b c d (e + i + 1) f := by
  conv => lhs; unfold pf
  rw [h, if_neg (show ¬ 18 + i < 2 by omega), if_neg (show ¬ 18 + i < 10 by omega), if_neg (show ¬ 18 + i < 18 by omega), show (18 + i - 2) % 8 = i by omega]
theorem pf_step (G : Gd) : ∀ (s a b c d e f : Nat), a ≤ b → c ≤ d → e ≤ f → b ≤ 5 → d ≤ 5 → f ≤ 5 → spn a b c d e f < s → pf G (s + 1) a b c d e f = pf G s a b c d e f
  | 0, a, b, c, d, e, f, _, _, _, _, _, _, h => absurd h (Nat.not_lt_zero _)
  | s + 1, a, b, c, d, e, f, h1, h2, h3, b5, d5, f5, h => by
    unfold spn at h
    rcases LV_cut G h1 h2 h3 b5 d5 f5 with q | ⟨_, ⟨i, i1, i2, _⟩ | ⟨i, i1, i2, _⟩ | ⟨i, i1, i2, _⟩⟩
    · rw [pf_leaf q.1, pf_leaf q.1]
    · rw [pf_c0 (by omega) i2, pf_c0 (by omega) i2, pf_step G s a (a + i) c d e f (by omega) (by omega) (by omega) (by omega) (by omega) (by omega) (by unfold spn; omega), pf_step G s (a + i + 1) b c d e f (by omega) (by omega) (by omega) (by omega) (by omega) (by omega) (by unfold spn; omega)]
    · rw [pf_c1 (by omega) i2, pf_c1 (by omega) i2, pf_step G s a b c (c + i) e f (by omega) (by omega) (by omega) (by omega) (by omega) (by omega) (by unfold spn; omega), pf_step G s a b (c + i + 1) d e f (by omega) (by omega) (by omega) (by omega) (by omega) (by omega) (by unfold spn; omega)]
    · rw [pf_c2 (by omega) i2, pf_c2 (by omega) i2, pf_step G s a b c d e (e + i) (by omega) (by omega) (by omega) (by omega) (by omega) (by omega) (by unfold spn; omega), pf_step G s a b c d (e + i + 1) f (by omega) (by omega) (by omega) (by omega) (by omega) (by omega) (by unfold spn; omega)]
theorem PF_c0 {G : Gd} {a b c d e f i : Nat} (h1 : a ≤ b) (h2 : c ≤ d) (h3 : e ≤ f) (b5 : b ≤ 5) (d5 : d ≤ 5) (f5 : f ≤ 5) (hi : i < b - a) (h : (LV G a b c d e f).2 = 2 + i) : PF G a b c d e f = [2 + i] ++ PF G a (a + i) c d e f ++ PF G (a + i + 1) b c d e f := by
  unfold PF
  rw [pf_c0 (by omega) h, pf_step G 15 a (a + i) c d e f (by omega) (by omega) (by omega) (by omega) (by omega) (by omega) (by unfold spn; omega), pf_step G 15 (a + i + 1) b c d e f (by omega) (by omega) (by omega) (by omega) (by omega) (by omega) (by unfold spn; omega)]
theorem PF_c1 {G : Gd} {a b c d e f i : Nat} (h1 : a ≤ b) (h2 : c ≤ d) (h3 : e ≤ f) (b5 : b ≤ 5) (d5 : d ≤ 5) (f5 : f ≤ 5) (hi : i < d - c) (h : (LV G a b c d e f).2 = 10 + i) : PF G a b c d e f = [10 + i] ++ PF G a b c (c + i) e f ++ PF G a b (c + i + 1) d e f := by
  unfold PF
  rw [pf_c1 (by omega) h, pf_step G 15 a b c (c + i) e f (by omega) (by omega) (by omega) (by omega) (by omega) (by omega) (by unfold spn; omega), pf_step G 15 a b (c + i + 1) d e f (by omega) (by omega) (by omega) (by omega) (by omega) (by omega) (by unfold spn; omega)]
theorem PF_c2 {G : Gd} {a b c d e f i : Nat} (h1 : a ≤ b) (h2 : c ≤ d) (h3 : e ≤ f) (b5 : b ≤ 5) (d5 : d ≤ 5) (f5 : f ≤ 5) (hi : i < f - e) (h : (LV G a b c d e f).2 = 18 + i) : PF G a b c d e f = [18 + i] ++ PF G a b c d e (e + i) ++ PF G a b c d (e + i + 1) f := by
  unfold PF
  rw [pf_c2 (by omega) h, pf_step G 15 a b c d e (e + i) (by omega) (by omega) (by omega) (by omega) (by omega) (by omega) (by unfold spn; omega), pf_step G 15 a b c d (e + i + 1) f (by omega) (by omega) (by omega) (by omega) (by omega) (by omega) (by unfold spn; omega)]
theorem PF_leaf {G : Gd} {a b c d e f : Nat} (h : (LV G a b c d e f).2 < 2) : PF G a b c d e f = [(LV G a b c d e f).2] := pf_leaf h
theorem PF_len (G : Gd) : ∀ (s a b c d e f : Nat), a ≤ b → c ≤ d → e ≤ f → b ≤ 5 → d ≤ 5 → f ≤ 5 → spn a b c d e f < s → (PF G a b c d e f).length + 1 = 2 * (LV G a b c d e f).1
  | 0, a, b, c, d, e, f, _, _, _, _, _, _, h => absurd h (Nat.not_lt_zero _)
  | s + 1, a, b, c, d, e, f, h1, h2, h3, b5, d5, f5, h => by
    unfold spn at h
    rcases LV_cut G h1 h2 h3 b5 d5 f5 with q | ⟨_, ⟨i, i1, i2, i3⟩ | ⟨i, i1, i2, i3⟩ | ⟨i, i1, i2, i3⟩⟩
    · rw [PF_leaf q.1, q.2.1]; rfl
    · rw [PF_c0 h1 h2 h3 b5 d5 f5 i1 i2, i3]
      have k1 := PF_len G s a (a + i) c d e f (by omega) (by omega) (by omega) (by omega) (by omega) (by omega) (by unfold spn; omega)
      have k2 := PF_len G s (a + i + 1) b c d e f (by omega) (by omega) (by omega) (by omega) (by omega) (by omega) (by unfold spn; omega)
      simp only [List.length_append, List.length_cons, List.length_nil]
      omega
    · rw [PF_c1 h1 h2 h3 b5 d5 f5 i1 i2, i3]
      have k1 := PF_len G s a b c (c + i) e f (by omega) (by omega) (by omega) (by omega) (by omega) (by omega) (by unfold spn; omega)
      have k2 := PF_len G s a b (c + i + 1) d e f (by omega) (by omega) (by omega) (by omega) (by omega) (by omega) (by unfold spn; omega)
      simp only [List.length_append, List.length_cons, List.length_nil]
      omega
    · rw [PF_c2 h1 h2 h3 b5 d5 f5 i1 i2, i3]
      have k1 := PF_len G s a b c d e (e + i) (by omega) (by omega) (by omega) (by omega) (by omega) (by omega) (by unfold spn; omega)
      have k2 := PF_len G s a b c d (e + i + 1) f (by omega) (by omega) (by omega) (by omega) (by omega) (by omega) (by unfold spn; omega)
      simp only [List.length_append, List.length_cons, List.length_nil]
      omega
theorem getD_apL {l1 l2 : List Nat} {n d : Nat} (h : n < l1.length) : (l1 ++ l2).getD n d = l1.getD n d := by
  rw [List.getD_eq_getElem?_getD, List.getD_eq_getElem?_getD, List.getElem?_append_left h]
theorem getD_apR {l1 l2 : List Nat} {n d : Nat} (h : l1.length ≤ n) : (l1 ++ l2).getD n d = l2.getD (n - l1.length) d := by
  rw [List.getD_eq_getElem?_getD, List.getD_eq_getElem?_getD, List.getElem?_append_right h]
/-- behind a writing: the row holds the list from m on -/
def WrQ (h h' : mj_H) (m : Nat) (l : List Nat) : Prop := Rw h h' [33, 50] ∧ (∀ q, ¬ q = 26 → mj_I h' 33 q = mj_I h 33 q) ∧ mj_I h' 33 26 = nI (m + l.length) ∧ ∀ q, mj_I h' 50 q = if m ≤ q ∧ q < m + l.length then nI (l.getD (q - m) 0) else mj_I h 50 q
theorem WrQ.one (h : mj_H) (m v : Nat) : WrQ h (mj_setI (mj_setI h 50 m (nI v)) 33 26 (nI (m + 1))) m [v] := by
  refine ⟨((Rw.rf h _).set (by decide)).set (by decide), fun q hq => (mj_I_ne hq).trans (congrFun (mj_I_other (by decide)) q), mj_I_at _ _ _ _, fun q => ?_⟩
  rw [mj_I_other (by decide)]
  by_cases hq : q = m
  · subst hq
    rw [mj_I_at, if_pos ⟨Nat.le_refl _, by show q < q + 1; omega⟩, Nat.sub_self]
    rfl
  · rw [mj_I_ne hq, if_neg (fun z => hq (by have := z.2; simp only [List.length_cons, List.length_nil] at this; omega))]
theorem WrQ.trans {h g k : mj_H} {m : Nat} {l1 l2 : List Nat} (a : WrQ h g m l1) (b : WrQ g k (m + l1.length) l2) : WrQ h k m (l1 ++ l2) := by
  refine ⟨a.1.trans b.1, fun q hq => (b.2.1 q hq).trans (a.2.1 q hq), by rw [b.2.2.1, List.length_append, Nat.add_assoc], fun q => ?_⟩
  rw [b.2.2.2 q, a.2.2.2 q, List.length_append]
  by_cases h1 : m ≤ q ∧ q < m + l1.length
  · rw [if_neg (by omega), if_pos h1, if_pos (by omega), getD_apL (by omega)]
  · rw [if_neg h1]
    by_cases h2 : m + l1.length ≤ q ∧ q < m + l1.length + l2.length
    · rw [if_pos h2, if_pos (by omega), getD_apR (by omega), show q - m - l1.length = q - (m + l1.length) by omega]
    · rw [if_neg h2, if_neg (by omega)]
theorem CL.wr {h g : mj_H} {jm w m : Nat} {G : Gd} {W : Nat → Nat} {l : List Nat} (c : CL h jm w G W) (r : WrQ h g m l) : CL g jm w G W := by
  have e36 : mj_I g 36 = mj_I h 36 := r.1.i (by decide)
  have e45 : mj_I g 45 = mj_I h 45 := r.1.i (by decide)
  have e46 : mj_I g 46 = mj_I h 46 := r.1.i (by decide)
  have e47 : mj_I g 47 = mj_I h 47 := r.1.i (by decide)
  have e48 : mj_I g 48 = mj_I h 48 := r.1.i (by decide)
  have e49 : mj_I g 49 = mj_I h 49 := r.1.i (by decide)
  refine ⟨MW_rw c.1 r.1 (by decide), c.2.1, (r.2.1 22 (by decide)).trans c.2.2.1, WN_to e45 e46 e47 c.2.2.2.1, fun t p l => (wg_to e36 e45 e46 w t p l).trans (c.2.2.2.2.1 t p l), fun a ha => by unfold wlo; rw [e46]; exact c.2.2.2.2.2.1 a ha, ?_, MC.eq e48 c.2.2.2.2.2.2.2⟩
  unfold MO
  rw [e48, e49]
  exact c.2.2.2.2.2.2.1
theorem ST_wr {h g : mj_H} {m : Nat} {l : List Nat} (r : WrQ h g m l) {a b c d e f : Nat} (s : ST h a b c d e f) : ST g a b c d e f := by
  unfold ST
  rw [r.1.i (by decide)]
  exact s
/-- the contract of write on boxes of span s at most -/
def WrP (jm w : Nat) (G : Gd) (W : Nat → Nat) (s : Nat) : Prop := ∀ (a b c d e f m : Nat) (h : mj_H), BX W a b c d e f → spn a b c d e f ≤ s → CL h jm w G W → ST h a b c d e f → mj_I h 33 26 = nI m → m + 2 * (LV G a b c d e f).1 ≤ 501 →
  mxc (1 + s) 149 [.ref 33, .int (nI a), .int (nI b), .int (nI c), .int (nI d), .int (nI e), .int (nI f)] h (fun r h' => r = none ∧ WrQ h h' m (PF G a b c d e f))

set_option maxRecDepth 20000 in
set_option maxHeartbeats 4000000 in
theorem write_0 {jm w : Nat} {G : Gd} {W : Nat → Nat} (hW5 : W 0 ≤ 5 ∧ W 1 ≤ 5 ∧ W 2 ≤ 5) : WrP jm w G W 0 := by
  intro a b c d e f m h hB hsp hC hST e26 hm
  have S := hC.1.1
  have hB5 := hB
  unfold BX at hB5
  have hm2 := (hC.2.2.2.2.2.2.1 a b c d e f hB).resolve_left hST
  have e49v := hm2.2
  have pp := LV_pos G a b c d e f
  have hk : bx a b c d e f < 46656 := bx_lt (by omega)
  rcases LV_cut G (a := a) (b := b) (c := c) (d := d) (e := e) (f := f) (by omega) (by omega) (by omega) (by omega) (by omega) (by omega) with q | ⟨hNU, ⟨i, i1, i2, i3⟩ | ⟨i, i1, i2, i3⟩ | ⟨i, i1, i2, i3⟩⟩
  · obtain ⟨v, hv⟩ : ∃ v, (LV G a b c d e f).2 = v := ⟨_, rfl⟩
    have e49 : mj_I h 49 (bx a b c d e f) = nI v := by rw [e49v, hv]
    have hv2 : v < 2 := by omega
    show mx (1 + 0) 149 0 [.ref 33, .int (nI a), .int (nI b), .int (nI c), .int (nI d), .int (nI e), .int (nI f), mj_unset, mj_unset] [] h _
    refine x_aload_n f_149_0 rfl ?_
    refine x_getR f_149_1 S.k33 (by decide) S.r24 ?_
    refine x_iload_n f_149_4 rfl ?_
    refine x_iload_n f_149_5 rfl ?_
    refine x_iload_n f_149_6 rfl ?_
    refine x_iload f_149_7 rfl ?_
    refine x_iload f_149_9 rfl ?_
    refine x_iload f_149_11 rfl ?_
    refine x_callSe f_149_13 (c_boxOf _ _ _ _ _ _ _) (by omega) rfl rfl rfl (Nat.le_of_ble_eq_true rfl) rfl ?_
    refine x_iald (j := (bx a b c d e f)) f_149_16 S.k49 (by omega) (by decide) ?_
    refine x_topi (w := nI v) e49 ?_
    refine x_istore (ls1 := [.ref 33, .int (nI a), .int (nI b), .int (nI c), .int (nI d), .int (nI e), .int (nI f), .int (nI v), mj_unset]) f_149_17 (Nat.le_of_ble_eq_true rfl) rfl ?_
    refine x_aload_n f_149_19 rfl ?_
    refine x_getR f_149_20 S.k33 (by decide) S.r25 ?_
    refine x_aload_n f_149_23 rfl ?_
    refine x_getI f_149_24 S.k33 (by decide) ?_
    refine x_topi (w := nI m) e26 ?_
    refine x_iload f_149_27 rfl ?_
    refine x_iast (j := m) f_149_29 S.k50 (by decide) (by omega) (by decide) ?_
    refine x_aload_n f_149_30 rfl ?_
    refine x_dup f_149_31 rfl ?_
    refine x_getI f_149_32 S.k33 (by decide) ?_
    refine x_topi (w := nI m) ((congrFun (mj_I_other (by decide)) _).trans (e26)) ?_
    refine x_iconst (v := nI 1) f_149_35 (by decide) ?_
    refine x_iaddN f_149_36 ?_
    refine x_putI f_149_37 S.k33 (by decide) ?_
    refine x_iload f_149_40 rfl ?_
    refine x_iconst (v := nI 2) f_149_42 (by decide) ?_
    refine x_icmpN_ge (t := 47) f_149_43 (by decide) (by omega) (by decide) (fun c_1 => by omega) (fun c_1 => ?_)
    refine x_retV f_149_46 rfl ?_
    refine ⟨rfl, ?_⟩
    rw [PF_leaf q.1]
    rw [hv]
    exact WrQ.one h m v
  · unfold spn at hsp; omega
  · unfold spn at hsp; omega
  · unfold spn at hsp; omega
set_option maxRecDepth 20000 in
set_option maxHeartbeats 4000000 in
theorem write_s {jm w s : Nat} {G : Gd} {W : Nat → Nat} (hW5 : W 0 ≤ 5 ∧ W 1 ≤ 5 ∧ W 2 ≤ 5) (IH : WrP jm w G W s) : WrP jm w G W (s + 1) := by
  intro a b c d e f m h hB hsp hC hST e26 hm
  have S := hC.1.1
  have hB5 := hB
  unfold BX at hB5
  have hm2 := (hC.2.2.2.2.2.2.1 a b c d e f hB).resolve_left hST
  have e49v := hm2.2
  have pp := LV_pos G a b c d e f
  have hk : bx a b c d e f < 46656 := bx_lt (by omega)
  rcases LV_cut G (a := a) (b := b) (c := c) (d := d) (e := e) (f := f) (by omega) (by omega) (by omega) (by omega) (by omega) (by omega) with q | ⟨hNU, ⟨i, i1, i2, i3⟩ | ⟨i, i1, i2, i3⟩ | ⟨i, i1, i2, i3⟩⟩
  · obtain ⟨v, hv⟩ : ∃ v, (LV G a b c d e f).2 = v := ⟨_, rfl⟩
    have e49 : mj_I h 49 (bx a b c d e f) = nI v := by rw [e49v, hv]
    have hv2 : v < 2 := by omega
    show mx (1 + (s + 1)) 149 0 [.ref 33, .int (nI a), .int (nI b), .int (nI c), .int (nI d), .int (nI e), .int (nI f), mj_unset, mj_unset] [] h _
    refine x_aload_n f_149_0 rfl ?_
    refine x_getR f_149_1 S.k33 (by decide) S.r24 ?_
    refine x_iload_n f_149_4 rfl ?_
    refine x_iload_n f_149_5 rfl ?_
    refine x_iload_n f_149_6 rfl ?_
    refine x_iload f_149_7 rfl ?_
    refine x_iload f_149_9 rfl ?_
    refine x_iload f_149_11 rfl ?_
    refine x_callSe f_149_13 (c_boxOf _ _ _ _ _ _ _) (by omega) rfl rfl rfl (Nat.le_of_ble_eq_true rfl) rfl ?_
    refine x_iald (j := (bx a b c d e f)) f_149_16 S.k49 (by omega) (by decide) ?_
    refine x_topi (w := nI v) e49 ?_
    refine x_istore (ls1 := [.ref 33, .int (nI a), .int (nI b), .int (nI c), .int (nI d), .int (nI e), .int (nI f), .int (nI v), mj_unset]) f_149_17 (Nat.le_of_ble_eq_true rfl) rfl ?_
    refine x_aload_n f_149_19 rfl ?_
    refine x_getR f_149_20 S.k33 (by decide) S.r25 ?_
    refine x_aload_n f_149_23 rfl ?_
    refine x_getI f_149_24 S.k33 (by decide) ?_
    refine x_topi (w := nI m) e26 ?_
    refine x_iload f_149_27 rfl ?_
    refine x_iast (j := m) f_149_29 S.k50 (by decide) (by omega) (by decide) ?_
    refine x_aload_n f_149_30 rfl ?_
    refine x_dup f_149_31 rfl ?_
    refine x_getI f_149_32 S.k33 (by decide) ?_
    refine x_topi (w := nI m) ((congrFun (mj_I_other (by decide)) _).trans (e26)) ?_
    refine x_iconst (v := nI 1) f_149_35 (by decide) ?_
    refine x_iaddN f_149_36 ?_
    refine x_putI f_149_37 S.k33 (by decide) ?_
    refine x_iload f_149_40 rfl ?_
    refine x_iconst (v := nI 2) f_149_42 (by decide) ?_
    refine x_icmpN_ge (t := 47) f_149_43 (by decide) (by omega) (by decide) (fun c_1 => by omega) (fun c_1 => ?_)
    refine x_retV f_149_46 rfl ?_
    refine ⟨rfl, ?_⟩
    rw [PF_leaf q.1]
    rw [hv]
    exact WrQ.one h m v
  · have q0 := WrQ.one h m (2 + i)
    have hC1 := hC.wr q0
    have hMC := (hC.2.2.2.2.2.2.2 a b c d e f hB hST hNU).1 (a + i) (by omega) (by omega)
    have hS1 := ST_wr q0 hMC.1
    have hS2 := ST_wr q0 hMC.2
    have e49 : mj_I h 49 (bx a b c d e f) = nI (2 + i) := by rw [e49v, i2]
    have l1 := PF_len G 16 a (a + i) c d e f (by omega) (by omega) (by omega) (by omega) (by omega) (by omega) (by unfold spn; omega)
    have p1 := LV_pos G a (a + i) c d e f
    have p2 := LV_pos G (a + i + 1) b c d e f
    have hB1 : BX W a (a + i) c d e f := by unfold BX; omega
    have hB2 : BX W (a + i + 1) b c d e f := by unfold BX; omega
    unfold spn at hsp
    show mx (1 + (s + 1)) 149 0 [.ref 33, .int (nI a), .int (nI b), .int (nI c), .int (nI d), .int (nI e), .int (nI f), mj_unset, mj_unset] [] h _
    refine x_aload_n f_149_0 rfl ?_
    refine x_getR f_149_1 S.k33 (by decide) S.r24 ?_
    refine x_iload_n f_149_4 rfl ?_
    refine x_iload_n f_149_5 rfl ?_
    refine x_iload_n f_149_6 rfl ?_
    refine x_iload f_149_7 rfl ?_
    refine x_iload f_149_9 rfl ?_
    refine x_iload f_149_11 rfl ?_
    refine x_callSe f_149_13 (c_boxOf _ _ _ _ _ _ _) (by omega) rfl rfl rfl (Nat.le_of_ble_eq_true rfl) rfl ?_
    refine x_iald (j := (bx a b c d e f)) f_149_16 S.k49 (by omega) (by decide) ?_
    refine x_topi (w := nI (2 + i)) e49 ?_
    refine x_istore (ls1 := [.ref 33, .int (nI a), .int (nI b), .int (nI c), .int (nI d), .int (nI e), .int (nI f), .int (nI (2 + i)), mj_unset]) f_149_17 (Nat.le_of_ble_eq_true rfl) rfl ?_
    refine x_aload_n f_149_19 rfl ?_
    refine x_getR f_149_20 S.k33 (by decide) S.r25 ?_
    refine x_aload_n f_149_23 rfl ?_
    refine x_getI f_149_24 S.k33 (by decide) ?_
    refine x_topi (w := nI m) e26 ?_
    refine x_iload f_149_27 rfl ?_
    refine x_iast (j := m) f_149_29 S.k50 (by decide) (by omega) (by decide) ?_
    refine x_aload_n f_149_30 rfl ?_
    refine x_dup f_149_31 rfl ?_
    refine x_getI f_149_32 S.k33 (by decide) ?_
    refine x_topi (w := nI m) ((congrFun (mj_I_other (by decide)) _).trans (e26)) ?_
    refine x_iconst (v := nI 1) f_149_35 (by decide) ?_
    refine x_iaddN f_149_36 ?_
    refine x_putI f_149_37 S.k33 (by decide) ?_
    refine x_iload f_149_40 rfl ?_
    refine x_iconst (v := nI 2) f_149_42 (by decide) ?_
    refine x_icmpN_ge (t := 47) f_149_43 (by decide) (by omega) (by decide) (fun c_1 => ?_) (fun c_1 => by omega)
    refine x_iload f_149_47 rfl ?_
    refine x_iconst (v := nI 2) f_149_49 (by decide) ?_
    refine x_isubN f_149_50 (by omega) ?_
    refine x_bipush (v := nI 8) f_149_51 (by decide) ?_
    refine x_iremN f_149_53 (by omega) (by decide) (by decide) ?_
    refine x_topi (w := nI i) (by rw [show (2 + i - 2) % 8 = i by omega]) ?_
    refine x_istore (ls1 := [.ref 33, .int (nI a), .int (nI b), .int (nI c), .int (nI d), .int (nI e), .int (nI f), .int (nI (2 + i)), .int (nI i)]) f_149_54 (Nat.le_of_ble_eq_true rfl) rfl ?_
    refine x_iload f_149_56 rfl ?_
    refine x_bipush (v := nI 10) f_149_58 (by decide) ?_
    refine x_icmpN_ge (t := 100) f_149_60 (by decide) (by omega) (by decide) (fun c_2 => by omega) (fun c_2 => ?_)
    refine x_aload_n f_149_63 rfl ?_
    refine x_iload_n f_149_64 rfl ?_
    refine x_iload_n f_149_65 rfl ?_
    refine x_iload f_149_66 rfl ?_
    refine x_iaddN f_149_68 ?_
    refine x_iload_n f_149_69 rfl ?_
    refine x_iload f_149_70 rfl ?_
    refine x_iload f_149_72 rfl ?_
    refine x_iload f_149_74 rfl ?_
    refine x_callV f_149_76 (IH a (a + i) c d e f (m + 1) _ hB1 (by unfold spn; omega) hC1 hS1 q0.2.2.1 (by omega)) (by omega) S.k33 (by decide) rfl rfl (Nat.le_of_ble_eq_true rfl) rfl ?_
    rintro _ g1 ⟨rfl, q1⟩
    have hC2 := hC1.wr q1
    have e2 := q1.2.2.1
    have S := hC2.1.1
    refine x_aload_n f_149_79 rfl ?_
    refine x_iload_n f_149_80 rfl ?_
    refine x_iload f_149_81 rfl ?_
    refine x_iaddN f_149_83 ?_
    refine x_iconst (v := nI 1) f_149_84 (by decide) ?_
    refine x_iaddN f_149_85 ?_
    refine x_iload_n f_149_86 rfl ?_
    refine x_iload_n f_149_87 rfl ?_
    refine x_iload f_149_88 rfl ?_
    refine x_iload f_149_90 rfl ?_
    refine x_iload f_149_92 rfl ?_
    refine x_callV f_149_94 (IH (a + i + 1) b c d e f (m + 1 + (PF G a (a + i) c d e f).length) _ hB2 (by unfold spn; omega) hC2 (ST_wr q1 hS2) q1.2.2.1 (by omega)) (by omega) S.k33 (by decide) rfl rfl (Nat.le_of_ble_eq_true rfl) rfl ?_
    rintro _ g2 ⟨rfl, q2⟩
    refine x_goto (t := 177) f_149_97 (by decide) ?_
    refine x_retV f_149_177 rfl ?_
    refine ⟨rfl, ?_⟩
    rw [PF_c0 hB.1 hB.2.2.1 hB.2.2.2.2.1 (by omega) (by omega) (by omega) i1 i2]
    rw [List.append_assoc]
    exact q0.trans (q1.trans q2)
  · have q0 := WrQ.one h m (10 + i)
    have hC1 := hC.wr q0
    have hMC := (hC.2.2.2.2.2.2.2 a b c d e f hB hST hNU).2.1 (c + i) (by omega) (by omega)
    have hS1 := ST_wr q0 hMC.1
    have hS2 := ST_wr q0 hMC.2
    have e49 : mj_I h 49 (bx a b c d e f) = nI (10 + i) := by rw [e49v, i2]
    have l1 := PF_len G 16 a b c (c + i) e f (by omega) (by omega) (by omega) (by omega) (by omega) (by omega) (by unfold spn; omega)
    have p1 := LV_pos G a b c (c + i) e f
    have p2 := LV_pos G a b (c + i + 1) d e f
    have hB1 : BX W a b c (c + i) e f := by unfold BX; omega
    have hB2 : BX W a b (c + i + 1) d e f := by unfold BX; omega
    unfold spn at hsp
    show mx (1 + (s + 1)) 149 0 [.ref 33, .int (nI a), .int (nI b), .int (nI c), .int (nI d), .int (nI e), .int (nI f), mj_unset, mj_unset] [] h _
    refine x_aload_n f_149_0 rfl ?_
    refine x_getR f_149_1 S.k33 (by decide) S.r24 ?_
    refine x_iload_n f_149_4 rfl ?_
    refine x_iload_n f_149_5 rfl ?_
    refine x_iload_n f_149_6 rfl ?_
    refine x_iload f_149_7 rfl ?_
    refine x_iload f_149_9 rfl ?_
    refine x_iload f_149_11 rfl ?_
    refine x_callSe f_149_13 (c_boxOf _ _ _ _ _ _ _) (by omega) rfl rfl rfl (Nat.le_of_ble_eq_true rfl) rfl ?_
    refine x_iald (j := (bx a b c d e f)) f_149_16 S.k49 (by omega) (by decide) ?_
    refine x_topi (w := nI (10 + i)) e49 ?_
    refine x_istore (ls1 := [.ref 33, .int (nI a), .int (nI b), .int (nI c), .int (nI d), .int (nI e), .int (nI f), .int (nI (10 + i)), mj_unset]) f_149_17 (Nat.le_of_ble_eq_true rfl) rfl ?_
    refine x_aload_n f_149_19 rfl ?_
    refine x_getR f_149_20 S.k33 (by decide) S.r25 ?_
    refine x_aload_n f_149_23 rfl ?_
    refine x_getI f_149_24 S.k33 (by decide) ?_
    refine x_topi (w := nI m) e26 ?_
    refine x_iload f_149_27 rfl ?_
    refine x_iast (j := m) f_149_29 S.k50 (by decide) (by omega) (by decide) ?_
    refine x_aload_n f_149_30 rfl ?_
    refine x_dup f_149_31 rfl ?_
    refine x_getI f_149_32 S.k33 (by decide) ?_
    refine x_topi (w := nI m) ((congrFun (mj_I_other (by decide)) _).trans (e26)) ?_
    refine x_iconst (v := nI 1) f_149_35 (by decide) ?_
    refine x_iaddN f_149_36 ?_
    refine x_putI f_149_37 S.k33 (by decide) ?_
    refine x_iload f_149_40 rfl ?_
    refine x_iconst (v := nI 2) f_149_42 (by decide) ?_
    refine x_icmpN_ge (t := 47) f_149_43 (by decide) (by omega) (by decide) (fun c_1 => ?_) (fun c_1 => by omega)
    refine x_iload f_149_47 rfl ?_
    refine x_iconst (v := nI 2) f_149_49 (by decide) ?_
    refine x_isubN f_149_50 (by omega) ?_
    refine x_bipush (v := nI 8) f_149_51 (by decide) ?_
    refine x_iremN f_149_53 (by omega) (by decide) (by decide) ?_
    refine x_topi (w := nI i) (by rw [show (10 + i - 2) % 8 = i by omega]) ?_
    refine x_istore (ls1 := [.ref 33, .int (nI a), .int (nI b), .int (nI c), .int (nI d), .int (nI e), .int (nI f), .int (nI (10 + i)), .int (nI i)]) f_149_54 (Nat.le_of_ble_eq_true rfl) rfl ?_
    refine x_iload f_149_56 rfl ?_
    refine x_bipush (v := nI 10) f_149_58 (by decide) ?_
    refine x_icmpN_ge (t := 100) f_149_60 (by decide) (by omega) (by decide) (fun c_2 => ?_) (fun c_2 => by omega)
    refine x_iload f_149_100 rfl ?_
    refine x_bipush (v := nI 18) f_149_102 (by decide) ?_
    refine x_icmpN_ge (t := 143) f_149_104 (by decide) (by omega) (by decide) (fun c_3 => by omega) (fun c_3 => ?_)
    refine x_aload_n f_149_107 rfl ?_
    refine x_iload_n f_149_108 rfl ?_
    refine x_iload_n f_149_109 rfl ?_
    refine x_iload_n f_149_110 rfl ?_
    refine x_iload_n f_149_111 rfl ?_
    refine x_iload f_149_112 rfl ?_
    refine x_iaddN f_149_114 ?_
    refine x_iload f_149_115 rfl ?_
    refine x_iload f_149_117 rfl ?_
    refine x_callV f_149_119 (IH a b c (c + i) e f (m + 1) _ hB1 (by unfold spn; omega) hC1 hS1 q0.2.2.1 (by omega)) (by omega) S.k33 (by decide) rfl rfl (Nat.le_of_ble_eq_true rfl) rfl ?_
    rintro _ g1 ⟨rfl, q1⟩
    have hC2 := hC1.wr q1
    have e2 := q1.2.2.1
    have S := hC2.1.1
    refine x_aload_n f_149_122 rfl ?_
    refine x_iload_n f_149_123 rfl ?_
    refine x_iload_n f_149_124 rfl ?_
    refine x_iload_n f_149_125 rfl ?_
    refine x_iload f_149_126 rfl ?_
    refine x_iaddN f_149_128 ?_
    refine x_iconst (v := nI 1) f_149_129 (by decide) ?_
    refine x_iaddN f_149_130 ?_
    refine x_iload f_149_131 rfl ?_
    refine x_iload f_149_133 rfl ?_
    refine x_iload f_149_135 rfl ?_
    refine x_callV f_149_137 (IH a b (c + i + 1) d e f (m + 1 + (PF G a b c (c + i) e f).length) _ hB2 (by unfold spn; omega) hC2 (ST_wr q1 hS2) q1.2.2.1 (by omega)) (by omega) S.k33 (by decide) rfl rfl (Nat.le_of_ble_eq_true rfl) rfl ?_
    rintro _ g2 ⟨rfl, q2⟩
    refine x_goto (t := 177) f_149_140 (by decide) ?_
    refine x_retV f_149_177 rfl ?_
    refine ⟨rfl, ?_⟩
    rw [PF_c1 hB.1 hB.2.2.1 hB.2.2.2.2.1 (by omega) (by omega) (by omega) i1 i2]
    rw [List.append_assoc]
    exact q0.trans (q1.trans q2)
  · have q0 := WrQ.one h m (18 + i)
    have hC1 := hC.wr q0
    have hMC := (hC.2.2.2.2.2.2.2 a b c d e f hB hST hNU).2.2 (e + i) (by omega) (by omega)
    have hS1 := ST_wr q0 hMC.1
    have hS2 := ST_wr q0 hMC.2
    have e49 : mj_I h 49 (bx a b c d e f) = nI (18 + i) := by rw [e49v, i2]
    have l1 := PF_len G 16 a b c d e (e + i) (by omega) (by omega) (by omega) (by omega) (by omega) (by omega) (by unfold spn; omega)
    have p1 := LV_pos G a b c d e (e + i)
    have p2 := LV_pos G a b c d (e + i + 1) f
    have hB1 : BX W a b c d e (e + i) := by unfold BX; omega
    have hB2 : BX W a b c d (e + i + 1) f := by unfold BX; omega
    unfold spn at hsp
    show mx (1 + (s + 1)) 149 0 [.ref 33, .int (nI a), .int (nI b), .int (nI c), .int (nI d), .int (nI e), .int (nI f), mj_unset, mj_unset] [] h _
    refine x_aload_n f_149_0 rfl ?_
    refine x_getR f_149_1 S.k33 (by decide) S.r24 ?_
    refine x_iload_n f_149_4 rfl ?_
    refine x_iload_n f_149_5 rfl ?_
    refine x_iload_n f_149_6 rfl ?_
    refine x_iload f_149_7 rfl ?_
    refine x_iload f_149_9 rfl ?_
    refine x_iload f_149_11 rfl ?_
    refine x_callSe f_149_13 (c_boxOf _ _ _ _ _ _ _) (by omega) rfl rfl rfl (Nat.le_of_ble_eq_true rfl) rfl ?_
    refine x_iald (j := (bx a b c d e f)) f_149_16 S.k49 (by omega) (by decide) ?_
    refine x_topi (w := nI (18 + i)) e49 ?_
    refine x_istore (ls1 := [.ref 33, .int (nI a), .int (nI b), .int (nI c), .int (nI d), .int (nI e), .int (nI f), .int (nI (18 + i)), mj_unset]) f_149_17 (Nat.le_of_ble_eq_true rfl) rfl ?_
    refine x_aload_n f_149_19 rfl ?_
    refine x_getR f_149_20 S.k33 (by decide) S.r25 ?_
    refine x_aload_n f_149_23 rfl ?_
    refine x_getI f_149_24 S.k33 (by decide) ?_
    refine x_topi (w := nI m) e26 ?_
    refine x_iload f_149_27 rfl ?_
    refine x_iast (j := m) f_149_29 S.k50 (by decide) (by omega) (by decide) ?_
    refine x_aload_n f_149_30 rfl ?_
    refine x_dup f_149_31 rfl ?_
    refine x_getI f_149_32 S.k33 (by decide) ?_
    refine x_topi (w := nI m) ((congrFun (mj_I_other (by decide)) _).trans (e26)) ?_
    refine x_iconst (v := nI 1) f_149_35 (by decide) ?_
    refine x_iaddN f_149_36 ?_
    refine x_putI f_149_37 S.k33 (by decide) ?_
    refine x_iload f_149_40 rfl ?_
    refine x_iconst (v := nI 2) f_149_42 (by decide) ?_
    refine x_icmpN_ge (t := 47) f_149_43 (by decide) (by omega) (by decide) (fun c_1 => ?_) (fun c_1 => by omega)
    refine x_iload f_149_47 rfl ?_
    refine x_iconst (v := nI 2) f_149_49 (by decide) ?_
    refine x_isubN f_149_50 (by omega) ?_
    refine x_bipush (v := nI 8) f_149_51 (by decide) ?_
    refine x_iremN f_149_53 (by omega) (by decide) (by decide) ?_
    refine x_topi (w := nI i) (by rw [show (18 + i - 2) % 8 = i by omega]) ?_
    refine x_istore (ls1 := [.ref 33, .int (nI a), .int (nI b), .int (nI c), .int (nI d), .int (nI e), .int (nI f), .int (nI (18 + i)), .int (nI i)]) f_149_54 (Nat.le_of_ble_eq_true rfl) rfl ?_
    refine x_iload f_149_56 rfl ?_
    refine x_bipush (v := nI 10) f_149_58 (by decide) ?_
    refine x_icmpN_ge (t := 100) f_149_60 (by decide) (by omega) (by decide) (fun c_2 => ?_) (fun c_2 => by omega)
    refine x_iload f_149_100 rfl ?_
    refine x_bipush (v := nI 18) f_149_102 (by decide) ?_
    refine x_icmpN_ge (t := 143) f_149_104 (by decide) (by omega) (by decide) (fun c_3 => ?_) (fun c_3 => by omega)
    refine x_aload_n f_149_143 rfl ?_
    refine x_iload_n f_149_144 rfl ?_
    refine x_iload_n f_149_145 rfl ?_
    refine x_iload_n f_149_146 rfl ?_
    refine x_iload f_149_147 rfl ?_
    refine x_iload f_149_149 rfl ?_
    refine x_iload f_149_151 rfl ?_
    refine x_iload f_149_153 rfl ?_
    refine x_iaddN f_149_155 ?_
    refine x_callV f_149_156 (IH a b c d e (e + i) (m + 1) _ hB1 (by unfold spn; omega) hC1 hS1 q0.2.2.1 (by omega)) (by omega) S.k33 (by decide) rfl rfl (Nat.le_of_ble_eq_true rfl) rfl ?_
    rintro _ g1 ⟨rfl, q1⟩
    have hC2 := hC1.wr q1
    have e2 := q1.2.2.1
    have S := hC2.1.1
    refine x_aload_n f_149_159 rfl ?_
    refine x_iload_n f_149_160 rfl ?_
    refine x_iload_n f_149_161 rfl ?_
    refine x_iload_n f_149_162 rfl ?_
    refine x_iload f_149_163 rfl ?_
    refine x_iload f_149_165 rfl ?_
    refine x_iload f_149_167 rfl ?_
    refine x_iaddN f_149_169 ?_
    refine x_iconst (v := nI 1) f_149_170 (by decide) ?_
    refine x_iaddN f_149_171 ?_
    refine x_iload f_149_172 rfl ?_
    refine x_callV f_149_174 (IH a b c d (e + i + 1) f (m + 1 + (PF G a b c d e (e + i)).length) _ hB2 (by unfold spn; omega) hC2 (ST_wr q1 hS2) q1.2.2.1 (by omega)) (by omega) S.k33 (by decide) rfl rfl (Nat.le_of_ble_eq_true rfl) rfl ?_
    rintro _ g2 ⟨rfl, q2⟩
    refine x_retV f_149_177 rfl ?_
    refine ⟨rfl, ?_⟩
    rw [PF_c2 hB.1 hB.2.2.1 hB.2.2.2.2.1 (by omega) (by omega) (by omega) i1 i2]
    rw [List.append_assoc]
    exact q0.trans (q1.trans q2)
theorem write_all {jm w : Nat} {G : Gd} {W : Nat → Nat} (hW5 : W 0 ≤ 5 ∧ W 1 ≤ 5 ∧ W 2 ≤ 5) : ∀ s, WrP jm w G W s
  | 0 => write_0 hW5
  | s + 1 => write_s hW5 (write_all hW5 s)

