theorem f_129_82 : mj_fetch 129 82 = some (.aload_n 0, 0, 0) := by decide +kernel
theorem f_129_83 : mj_fetch 129 83 = some (.getfield 140, 11, 14) := by decide +kernel
theorem f_129_86 : mj_fetch 129 86 = some (.bipush 60, 0, 0) := by decide +kernel
theorem f_129_88 : mj_fetch 129 88 = some (.if_icmp .ge 51, 0, 0) := by decide +kernel
theorem f_129_91 : mj_fetch 129 91 = some (.aload_n 0, 0, 0) := by decide +kernel
theorem f_129_92 : mj_fetch 129 92 = some (.getfield 140, 11, 14) := by decide +kernel
theorem f_129_95 : mj_fetch 129 95 = some (.ifCond .eq 17, 0, 0) := by decide +kernel
theorem f_129_98 : mj_fetch 129 98 = some (.aload_n 0, 0, 0) := by decide +kernel
theorem f_129_99 : mj_fetch 129 99 = some (.iload 5, 0, 0) := by decide +kernel
theorem f_129_101 : mj_fetch 129 101 = some (.invokevirtual 143, 128, 0) := by decide +kernel
theorem f_129_104 : mj_fetch 129 104 = some (.bipush 20, 0, 0) := by decide +kernel
theorem f_129_106 : mj_fetch 129 106 = some (.iload 4, 0, 0) := by decide +kernel
theorem f_129_108 : mj_fetch 129 108 = some (.imul, 0, 0) := by decide +kernel
theorem f_129_109 : mj_fetch 129 109 = some (.if_icmp .ge 30, 0, 0) := by decide +kernel
theorem f_129_112 : mj_fetch 129 112 = some (.aload_n 0, 0, 0) := by decide +kernel
theorem f_129_113 : mj_fetch 129 113 = some (.iload_n 1, 0, 0) := by decide +kernel
theorem f_129_114 : mj_fetch 129 114 = some (.iload_n 2, 0, 0) := by decide +kernel
theorem f_129_115 : mj_fetch 129 115 = some (.iconst 0, 0, 0) := by decide +kernel
theorem f_129_116 : mj_fetch 129 116 = some (.invokestatic 137, 125, 0) := by decide +kernel
theorem f_129_119 : mj_fetch 129 119 = some (.iload_n 3, 0, 0) := by decide +kernel
theorem f_129_120 : mj_fetch 129 120 = some (.imul, 0, 0) := by decide +kernel
theorem f_129_121 : mj_fetch 129 121 = some (.iload_n 3, 0, 0) := by decide +kernel
theorem f_129_122 : mj_fetch 129 122 = some (.iconst 0, 0, 0) := by decide +kernel
theorem f_129_123 : mj_fetch 129 123 = some (.invokevirtual 147, 127, 0) := by decide +kernel
theorem f_129_126 : mj_fetch 129 126 = some (.aload_n 0, 0, 0) := by decide +kernel
theorem f_129_127 : mj_fetch 129 127 = some (.dup, 0, 0) := by decide +kernel
theorem f_129_128 : mj_fetch 129 128 = some (.getfield 140, 11, 14) := by decide +kernel
theorem f_129_131 : mj_fetch 129 131 = some (.iconst 1, 0, 0) := by decide +kernel
theorem f_129_132 : mj_fetch 129 132 = some (.iadd, 0, 0) := by decide +kernel
theorem f_129_133 : mj_fetch 129 133 = some (.putfield 140, 11, 14) := by decide +kernel
theorem f_129_136 : mj_fetch 129 136 = some (.goto (-54), 0, 0) := by decide +kernel
theorem f_129_165 : mj_fetch 129 165 = some (.iload 6, 0, 0) := by decide +kernel
theorem f_129_167 : mj_fetch 129 167 = some (.iconst 5, 0, 0) := by decide +kernel
theorem f_129_168 : mj_fetch 129 168 = some (.if_icmp .ge 19, 0, 0) := by decide +kernel
theorem f_129_171 : mj_fetch 129 171 = some (.aload_n 0, 0, 0) := by decide +kernel
theorem f_129_172 : mj_fetch 129 172 = some (.iload_n 1, 0, 0) := by decide +kernel
theorem f_129_173 : mj_fetch 129 173 = some (.iconst 0, 0, 0) := by decide +kernel
theorem f_129_174 : mj_fetch 129 174 = some (.iconst 2, 0, 0) := by decide +kernel
theorem f_129_175 : mj_fetch 129 175 = some (.iload_n 3, 0, 0) := by decide +kernel
theorem f_129_176 : mj_fetch 129 176 = some (.imul, 0, 0) := by decide +kernel
theorem f_129_177 : mj_fetch 129 177 = some (.iconst 0, 0, 0) := by decide +kernel
theorem f_129_178 : mj_fetch 129 178 = some (.invokevirtual 147, 127, 0) := by decide +kernel
theorem f_129_181 : mj_fetch 129 181 = some (.iinc 6 1, 0, 0) := by decide +kernel
theorem f_129_184 : mj_fetch 129 184 = some (.goto (-19), 0, 0) := by decide +kernel
theorem f_129_190 : mj_fetch 129 190 = some (.iload 6, 0, 0) := by decide +kernel
theorem f_129_192 : mj_fetch 129 192 = some (.bipush 30, 0, 0) := by decide +kernel
theorem f_129_194 : mj_fetch 129 194 = some (.if_icmp .ge 17, 0, 0) := by decide +kernel
theorem f_129_197 : mj_fetch 129 197 = some (.aload_n 0, 0, 0) := by decide +kernel
theorem f_129_198 : mj_fetch 129 198 = some (.iload_n 1, 0, 0) := by decide +kernel
theorem f_129_199 : mj_fetch 129 199 = some (.iconst 0, 0, 0) := by decide +kernel
theorem f_129_200 : mj_fetch 129 200 = some (.iconst 0, 0, 0) := by decide +kernel
theorem f_129_201 : mj_fetch 129 201 = some (.iconst 1, 0, 0) := by decide +kernel
theorem f_129_202 : mj_fetch 129 202 = some (.invokevirtual 147, 127, 0) := by decide +kernel
theorem f_129_205 : mj_fetch 129 205 = some (.iinc 6 1, 0, 0) := by decide +kernel
theorem f_129_208 : mj_fetch 129 208 = some (.goto (-18), 0, 0) := by decide +kernel
theorem f_129_77 : mj_fetch 129 77 = some (.aload_n 0, 0, 0) := by decide +kernel
theorem f_129_78 : mj_fetch 129 78 = some (.iconst 0, 0, 0) := by decide +kernel
theorem f_129_79 : mj_fetch 129 79 = some (.putfield 140, 11, 14) := by decide +kernel
theorem f_129_139 : mj_fetch 129 139 = some (.aload_n 0, 0, 0) := by decide +kernel
theorem f_129_140 : mj_fetch 129 140 = some (.aload_n 0, 0, 0) := by decide +kernel
theorem f_129_141 : mj_fetch 129 141 = some (.iload 5, 0, 0) := by decide +kernel
theorem f_129_143 : mj_fetch 129 143 = some (.invokevirtual 143, 128, 0) := by decide +kernel
theorem f_129_146 : mj_fetch 129 146 = some (.bipush 20, 0, 0) := by decide +kernel
theorem f_129_148 : mj_fetch 129 148 = some (.iload 4, 0, 0) := by decide +kernel
theorem f_129_150 : mj_fetch 129 150 = some (.imul, 0, 0) := by decide +kernel
theorem f_129_151 : mj_fetch 129 151 = some (.if_icmp .ge 7, 0, 0) := by decide +kernel
theorem f_129_154 : mj_fetch 129 154 = some (.iconst 1, 0, 0) := by decide +kernel
theorem f_129_155 : mj_fetch 129 155 = some (.goto 4, 0, 0) := by decide +kernel
theorem f_129_158 : mj_fetch 129 158 = some (.iconst 0, 0, 0) := by decide +kernel
theorem f_129_159 : mj_fetch 129 159 = some (.putfield 151, 11, 15) := by decide +kernel
theorem f_129_162 : mj_fetch 129 162 = some (.iconst 0, 0, 0) := by decide +kernel
theorem f_129_163 : mj_fetch 129 163 = some (.istore 6, 0, 0) := by decide +kernel
theorem f_129_0 : mj_fetch 129 0 = some (.iload_n 2, 0, 0) := by decide +kernel
theorem f_129_1 : mj_fetch 129 1 = some (.iconst 1, 0, 0) := by decide +kernel
theorem f_129_2 : mj_fetch 129 2 = some (.invokestatic 137, 125, 0) := by decide +kernel
theorem f_129_5 : mj_fetch 129 5 = some (.istore_n 3, 0, 0) := by decide +kernel
theorem f_129_6 : mj_fetch 129 6 = some (.iload_n 2, 0, 0) := by decide +kernel
theorem f_129_7 : mj_fetch 129 7 = some (.iconst 2, 0, 0) := by decide +kernel
theorem f_129_8 : mj_fetch 129 8 = some (.invokestatic 137, 125, 0) := by decide +kernel
theorem f_129_11 : mj_fetch 129 11 = some (.istore 4, 0, 0) := by decide +kernel
theorem f_129_13 : mj_fetch 129 13 = some (.aload_n 0, 0, 0) := by decide +kernel
theorem f_129_14 : mj_fetch 129 14 = some (.getfield 17, 11, 4) := by decide +kernel
theorem f_129_17 : mj_fetch 129 17 = some (.bipush 9, 0, 0) := by decide +kernel
theorem f_129_19 : mj_fetch 129 19 = some (.iload_n 1, 0, 0) := by decide +kernel
theorem f_129_20 : mj_fetch 129 20 = some (.imul, 0, 0) := by decide +kernel
theorem f_129_21 : mj_fetch 129 21 = some (.bipush 8, 0, 0) := by decide +kernel
theorem f_129_23 : mj_fetch 129 23 = some (.iadd, 0, 0) := by decide +kernel
theorem f_129_24 : mj_fetch 129 24 = some (.iaload, 0, 0) := by decide +kernel
theorem f_129_25 : mj_fetch 129 25 = some (.istore 5, 0, 0) := by decide +kernel
theorem f_129_27 : mj_fetch 129 27 = some (.iconst 0, 0, 0) := by decide +kernel
theorem f_129_28 : mj_fetch 129 28 = some (.istore 6, 0, 0) := by decide +kernel
theorem f_129_187 : mj_fetch 129 187 = some (.iconst 0, 0, 0) := by decide +kernel
theorem f_129_188 : mj_fetch 129 188 = some (.istore 6, 0, 0) := by decide +kernel
theorem f_129_211 : mj_fetch 129 211 = some (.return_, 0, 0) := by decide +kernel
/-- a heap within a weld: the rings' rows, and the two fields of the weld -/
def WI (h g : mj_H) (T : tk_R) (a b : Int32) : Prop := SM g ∧ Rw h g [33, 39, 40, 41, 42, 43] ∧ (∀ q, ¬ q = 14 → ¬ q = 15 → mj_I g 33 q = mj_I h 33 q) ∧ mT g = T ∧ mj_I g 33 14 = a ∧ mj_I g 33 15 = b
theorem mT_set {g : mj_H} {i : Nat} {x : Int32} : mT (mj_setI g 33 i x) = mT g := by
  unfold mT
  rw [mj_I_other (by decide), mj_I_other (by decide), mj_I_other (by decide), mj_I_other (by decide)]
theorem WI.set14 {h g : mj_H} {T : tk_R} {a b x : Int32} (w : WI h g T a b) : WI h (mj_setI g 33 14 x) T x b :=
  ⟨w.1, w.2.1.set (by decide), fun q h1 h2 => (mj_I_ne h1).trans (w.2.2.1 q h1 h2), mT_set.trans w.2.2.2.1, mj_I_at _ _ _ _, (mj_I_ne (by decide)).trans w.2.2.2.2.2⟩
theorem WI.set15 {h g : mj_H} {T : tk_R} {a b x : Int32} (w : WI h g T a b) : WI h (mj_setI g 33 15 x) T a x :=
  ⟨w.1, w.2.1.set (by decide), fun q h1 h2 => (mj_I_ne h2).trans (w.2.2.1 q h1 h2), mT_set.trans w.2.2.2.1, (mj_I_ne (by decide)).trans w.2.2.2.2.1, mj_I_at _ _ _ _⟩
theorem WI.m {h g : mj_H} {T : tk_R} {a b : Int32} (w : WI h g T a b) (j : Nat) : mM g j = mM h j := by
  unfold mM
  rw [w.2.1.i (by decide)]
theorem WI.tick {h g g1 : mj_H} {T T1 : tk_R} {a b : Int32} (w : WI h g T a b) (r : Rw g g1 [39, 40, 41, 42, 43]) (e : mT g1 = T1) : WI h g1 T1 a b := by
  have e33 : mj_I g1 33 = mj_I g 33 := r.i (by decide)
  exact ⟨r.sm w.1, w.2.1.trans (r.mono (by decide)), fun q h1 h2 => by rw [e33]; exact w.2.2.1 q h1 h2, e, by rw [e33]; exact w.2.2.2.2.1, by rw [e33]; exact w.2.2.2.2.2⟩

set_option maxRecDepth 20000 in
set_option maxHeartbeats 4000000 in
theorem weld_l1 {h : mj_H} {j rg : Nat} (hj : j < 20) (e_rg : mj_I h 36 (9 * j + 8) = nI rg) (hrg : 2 ≤ rg ∧ rg ≤ 6) (h1 : ¬ mj_I h 36 (9 * j + 1) = 0) (h4 : ¬ mj_I h 36 (9 * j + 4) = 0) {z : Nat} (hz : z < 729) {b : Int32} {Q : Option Value → mj_H → Prop} (st : tk_R → tk_R) (hst : st = tk (mM h j) rg (nI ((mm_pt z 0 + 1) * (mm_pt z 1 + 1))) (nI (mm_pt z 1 + 1)) 0) (X : Nat × tk_R)
    (K : ∀ g : mj_H, WI h g X.2 (nI X.1) b → mx 2 129 139 [.ref 33, .int (nI j), .int (nI z), .int (nI (mm_pt z 1 + 1)), .int (nI (mm_pt z 2 + 1)), .int (nI rg), .int (nI 6)] [] g Q) :
    ∀ (n k : Nat) (g : mj_H) (T : tk_R), k + n = 60 → WI h g T (nI k) b → wd_rub st (wd_lt rg z) n k T = X → mx 2 129 82 [.ref 33, .int (nI j), .int (nI z), .int (nI (mm_pt z 1 + 1)), .int (nI (mm_pt z 2 + 1)), .int (nI rg), .int (nI 6)] [] g Q := by
  have p1 := mm_pt_lt z 1 hz
  have p2 := mm_pt_lt z 2 hz
  intro n
  induction n with
  | zero =>
    intro k g T hk hw e
    have hkk : k = 60 := by omega
    subst hkk
    have S := hw.1
    have e_k := hw.2.2.2.2.1
    refine x_aload_n f_129_82 rfl ?_
    refine x_getI f_129_83 S.k33 (by decide) ?_
    refine x_topi (w := nI 60) e_k ?_
    refine x_bipush (v := nI 60) f_129_86 (by decide) ?_
    refine x_icmpN_ge (t := 139) f_129_88 (by decide) (by decide) (by decide) (fun c_1 => ?_) (fun c_1 => by omega)
    refine K g ?_
    rw [← e]
    exact hw
  | succ n ih =>
    intro k g T hk hw e
    have S := hw.1
    have e_k := hw.2.2.2.2.1
    have e36 : mj_I g 36 = mj_I h 36 := hw.2.1.i (by decide)
    refine x_aload_n f_129_82 rfl ?_
    refine x_getI f_129_83 S.k33 (by decide) ?_
    refine x_topi (w := nI k) e_k ?_
    refine x_bipush (v := nI 60) f_129_86 (by decide) ?_
    refine x_icmpN_ge (t := 139) f_129_88 (by decide) (by omega) (by decide) (fun c_1 => by omega) (fun c_1 => ?_)
    refine x_aload_n f_129_91 rfl ?_
    refine x_getI f_129_92 S.k33 (by decide) ?_
    refine x_topi (w := nI k) e_k ?_
    refine x_ifN_eq (t := 112) f_129_95 (by decide) (by omega) (fun c_0 => ?_) (fun c_0 => ?_)
    · refine x_aload_n f_129_112 rfl ?_
      refine x_iload_n f_129_113 rfl ?_
      refine x_iload_n f_129_114 rfl ?_
      refine x_iconst (v := nI 0) f_129_115 (by decide) ?_
      refine x_callSe f_129_116 (c_part _ _ _ hz (by omega)) (by omega) rfl rfl rfl (Nat.le_of_ble_eq_true rfl) rfl ?_
      refine x_iload_n f_129_119 rfl ?_
      refine x_imulN f_129_120 ?_
      refine x_iload_n f_129_121 rfl ?_
      refine x_iconst (v := nI 0) f_129_122 (by decide) ?_
      refine x_callV f_129_123 (c_tick S hj (by rw [e36]; exact e_rg) hrg (by rw [e36]; exact h1) (by rw [e36]; exact h4) _ _ (c := 0) (by decide)) (by omega) S.k33 (by decide) rfl rfl (Nat.le_of_ble_eq_true rfl) rfl ?_
      rintro _ g1 ⟨rfl, hR1, hT1⟩
      have e_k : mj_I g1 33 14 = nI k := (congrFun (hR1.i (by decide)) 14).trans e_k
      have S : SM g1 := hR1.sm S
      refine x_aload_n f_129_126 rfl ?_
      refine x_dup f_129_127 rfl ?_
      refine x_getI f_129_128 S.k33 (by decide) ?_
      refine x_topi (w := nI k) e_k ?_
      refine x_iconst (v := nI 1) f_129_131 (by decide) ?_
      refine x_iaddN f_129_132 ?_
      refine x_putI f_129_133 S.k33 (by decide) ?_
      refine x_goto (t := 82) f_129_136 (by decide) ?_
      have hq : wd_rub st (wd_lt rg z) (n + 1) k T = wd_rub st (wd_lt rg z) n (k + 1) (st T) := by
        show (if k = 0 ∨ wd_lt rg z T = true then _ else _) = _
        rw [if_pos (Or.inl c_0)]
      refine ih (k + 1) _ (st T) (by omega) (WI.set14 (hw.tick hR1 ?_)) (hq.symm.trans e)
      rw [hT1, hw.m j, hw.2.2.2.1, hst]
    · refine x_aload_n f_129_98 rfl ?_
      refine x_iload f_129_99 rfl ?_
      refine x_callVe f_129_101 (c_outAll S (by omega)) (by omega) S.k33 (by decide) rfl rfl (Nat.le_of_ble_eq_true rfl) rfl ?_
      refine x_bipush (v := nI 20) f_129_104 (by decide) ?_
      refine x_iload f_129_106 rfl ?_
      refine x_imulN f_129_108 ?_
      refine x_icmp_ge (t := 139) f_129_109 (by decide) (fun c_g => ?_) (fun c_g => ?_)
      · refine K g ?_
        have hlt : wd_lt rg z T = false := by
          unfold wd_lt
          rw [← hw.2.2.2.1]
          exact decide_eq_false (Int32.not_lt.mpr c_g)
        have hq : wd_rub st (wd_lt rg z) (n + 1) k T = (k, T) := by
          show (if k = 0 ∨ wd_lt rg z T = true then _ else _) = _
          rw [if_neg (fun q => q.elim c_0 (fun z => by rw [hlt] at z; cases z))]
        rw [hq] at e
        rw [← e]
        exact hw
      · refine x_aload_n f_129_112 rfl ?_
        refine x_iload_n f_129_113 rfl ?_
        refine x_iload_n f_129_114 rfl ?_
        refine x_iconst (v := nI 0) f_129_115 (by decide) ?_
        refine x_callSe f_129_116 (c_part _ _ _ hz (by omega)) (by omega) rfl rfl rfl (Nat.le_of_ble_eq_true rfl) rfl ?_
        refine x_iload_n f_129_119 rfl ?_
        refine x_imulN f_129_120 ?_
        refine x_iload_n f_129_121 rfl ?_
        refine x_iconst (v := nI 0) f_129_122 (by decide) ?_
        refine x_callV f_129_123 (c_tick S hj (by rw [e36]; exact e_rg) hrg (by rw [e36]; exact h1) (by rw [e36]; exact h4) _ _ (c := 0) (by decide)) (by omega) S.k33 (by decide) rfl rfl (Nat.le_of_ble_eq_true rfl) rfl ?_
        rintro _ g1 ⟨rfl, hR1, hT1⟩
        have e_k : mj_I g1 33 14 = nI k := (congrFun (hR1.i (by decide)) 14).trans e_k
        have S : SM g1 := hR1.sm S
        refine x_aload_n f_129_126 rfl ?_
        refine x_dup f_129_127 rfl ?_
        refine x_getI f_129_128 S.k33 (by decide) ?_
        refine x_topi (w := nI k) e_k ?_
        refine x_iconst (v := nI 1) f_129_131 (by decide) ?_
        refine x_iaddN f_129_132 ?_
        refine x_putI f_129_133 S.k33 (by decide) ?_
        refine x_goto (t := 82) f_129_136 (by decide) ?_
        have hlt : wd_lt rg z T = true := by
          unfold wd_lt
          rw [← hw.2.2.2.1]
          exact decide_eq_true (Int32.not_le.mp c_g)
        have hq : wd_rub st (wd_lt rg z) (n + 1) k T = wd_rub st (wd_lt rg z) n (k + 1) (st T) := by
          show (if k = 0 ∨ wd_lt rg z T = true then _ else _) = _
          rw [if_pos (Or.inr hlt)]
        refine ih (k + 1) _ (st T) (by omega) (WI.set14 (hw.tick hR1 ?_)) (hq.symm.trans e)
        rw [hT1, hw.m j, hw.2.2.2.1, hst]
set_option maxRecDepth 20000 in
set_option maxHeartbeats 4000000 in
theorem weld_l2 {h : mj_H} {j rg : Nat} (hj : j < 20) (e_rg : mj_I h 36 (9 * j + 8) = nI rg) (hrg : 2 ≤ rg ∧ rg ≤ 6) (h1 : ¬ mj_I h 36 (9 * j + 1) = 0) (h4 : ¬ mj_I h 36 (9 * j + 4) = 0) {z : Nat} (hz : z < 729) {a b : Int32} {Q : Option Value → mj_H → Prop} (st : tk_R → tk_R) (hst : st = tk (mM h j) rg (nI 0) (nI (2 * (mm_pt z 1 + 1))) 0) (X : tk_R)
    (K : ∀ g : mj_H, WI h g X a b → mx 2 129 187 [.ref 33, .int (nI j), .int (nI z), .int (nI (mm_pt z 1 + 1)), .int (nI (mm_pt z 2 + 1)), .int (nI rg), .int (nI 5)] [] g Q) :
    ∀ (n i : Nat) (g : mj_H) (T : tk_R), i + n = 5 → WI h g T a b → wd_it st n T = X → mx 2 129 165 [.ref 33, .int (nI j), .int (nI z), .int (nI (mm_pt z 1 + 1)), .int (nI (mm_pt z 2 + 1)), .int (nI rg), .int (nI i)] [] g Q := by
  have p1 := mm_pt_lt z 1 hz
  intro n
  induction n with
  | zero =>
    intro i g T hk hw e
    have hkk : i = 5 := by omega
    subst hkk
    have S := hw.1
    refine x_iload f_129_165 rfl ?_
    refine x_iconst (v := nI 5) f_129_167 (by decide) ?_
    refine x_icmpN_ge (t := 187) f_129_168 (by decide) (by decide) (by decide) (fun c_1 => ?_) (fun c_1 => by omega)
    refine K g ?_
    rw [← e]
    exact hw
  | succ n ih =>
    intro i g T hk hw e
    have S := hw.1
    have e36 : mj_I g 36 = mj_I h 36 := hw.2.1.i (by decide)
    refine x_iload f_129_165 rfl ?_
    refine x_iconst (v := nI 5) f_129_167 (by decide) ?_
    refine x_icmpN_ge (t := 187) f_129_168 (by decide) (by omega) (by decide) (fun c_1 => by omega) (fun c_1 => ?_)
    refine x_aload_n f_129_171 rfl ?_
    refine x_iload_n f_129_172 rfl ?_
    refine x_iconst (v := nI 0) f_129_173 (by decide) ?_
    refine x_iconst (v := nI 2) f_129_174 (by decide) ?_
    refine x_iload_n f_129_175 rfl ?_
    refine x_imulN f_129_176 ?_
    refine x_iconst (v := nI 0) f_129_177 (by decide) ?_
    refine x_callV f_129_178 (c_tick S hj (by rw [e36]; exact e_rg) hrg (by rw [e36]; exact h1) (by rw [e36]; exact h4) _ _ (c := 0) (by decide)) (by omega) S.k33 (by decide) rfl rfl (Nat.le_of_ble_eq_true rfl) rfl ?_
    rintro _ g1 ⟨rfl, hR1, hT1⟩
    refine x_iinc (v := nI (i + 1)) (ls1 := [.ref 33, .int (nI j), .int (nI z), .int (nI (mm_pt z 1 + 1)), .int (nI (mm_pt z 2 + 1)), .int (nI rg), .int (nI (i + 1))]) f_129_181 rfl (by exact nI_add _ 1) rfl ?_
    refine x_goto (t := 165) f_129_184 (by decide) ?_
    refine ih (i + 1) g1 (st T) (by omega) (hw.tick hR1 ?_) e
    rw [hT1, hw.m j, hw.2.2.2.1, hst]
set_option maxRecDepth 20000 in
set_option maxHeartbeats 4000000 in
theorem weld_l3 {h : mj_H} {j rg : Nat} (hj : j < 20) (e_rg : mj_I h 36 (9 * j + 8) = nI rg) (hrg : 2 ≤ rg ∧ rg ≤ 6) (h1 : ¬ mj_I h 36 (9 * j + 1) = 0) (h4 : ¬ mj_I h 36 (9 * j + 4) = 0) {z : Nat} (hz : z < 729) {a b : Int32} {Q : Option Value → mj_H → Prop} (st : tk_R → tk_R) (hst : st = tk (mM h j) rg (nI 0) (nI 0) 1) (X : tk_R)
    (K : ∀ g : mj_H, WI h g X a b → mx 2 129 211 [.ref 33, .int (nI j), .int (nI z), .int (nI (mm_pt z 1 + 1)), .int (nI (mm_pt z 2 + 1)), .int (nI rg), .int (nI 30)] [] g Q) :
    ∀ (n i : Nat) (g : mj_H) (T : tk_R), i + n = 30 → WI h g T a b → wd_it st n T = X → mx 2 129 190 [.ref 33, .int (nI j), .int (nI z), .int (nI (mm_pt z 1 + 1)), .int (nI (mm_pt z 2 + 1)), .int (nI rg), .int (nI i)] [] g Q := by
  have p1 := mm_pt_lt z 1 hz
  intro n
  induction n with
  | zero =>
    intro i g T hk hw e
    have hkk : i = 30 := by omega
    subst hkk
    have S := hw.1
    refine x_iload f_129_190 rfl ?_
    refine x_bipush (v := nI 30) f_129_192 (by decide) ?_
    refine x_icmpN_ge (t := 211) f_129_194 (by decide) (by decide) (by decide) (fun c_1 => ?_) (fun c_1 => by omega)
    refine K g ?_
    rw [← e]
    exact hw
  | succ n ih =>
    intro i g T hk hw e
    have S := hw.1
    have e36 : mj_I g 36 = mj_I h 36 := hw.2.1.i (by decide)
    refine x_iload f_129_190 rfl ?_
    refine x_bipush (v := nI 30) f_129_192 (by decide) ?_
    refine x_icmpN_ge (t := 211) f_129_194 (by decide) (by omega) (by decide) (fun c_1 => by omega) (fun c_1 => ?_)
    refine x_aload_n f_129_197 rfl ?_
    refine x_iload_n f_129_198 rfl ?_
    refine x_iconst (v := nI 0) f_129_199 (by decide) ?_
    refine x_iconst (v := nI 0) f_129_200 (by decide) ?_
    refine x_iconst (v := nI 1) f_129_201 (by decide) ?_
    refine x_callV f_129_202 (c_tick S hj (by rw [e36]; exact e_rg) hrg (by rw [e36]; exact h1) (by rw [e36]; exact h4) _ _ (c := 1) (by decide)) (by omega) S.k33 (by decide) rfl rfl (Nat.le_of_ble_eq_true rfl) rfl ?_
    rintro _ g1 ⟨rfl, hR1, hT1⟩
    refine x_iinc (v := nI (i + 1)) (ls1 := [.ref 33, .int (nI j), .int (nI z), .int (nI (mm_pt z 1 + 1)), .int (nI (mm_pt z 2 + 1)), .int (nI rg), .int (nI (i + 1))]) f_129_205 rfl (by exact nI_add _ 1) rfl ?_
    refine x_goto (t := 190) f_129_208 (by decide) ?_
    refine ih (i + 1) g1 (st T) (by omega) (hw.tick hR1 ?_) e
    rw [hT1, hw.m j, hw.2.2.2.1, hst]
/-- the rings' rows hold nothing behind their six places -/
def ZR (h : mj_H) : Prop := ∀ a ∈ [39, 41, 42, 43], ∀ q, 6 ≤ q → mj_I h a q = 0
set_option maxRecDepth 20000 in
theorem c_weld {h : mj_H} (S : SM h) (Z : ZR h) {j rg : Nat} (hj : j < 20) (e_rg : mj_I h 36 (9 * j + 8) = nI rg) (hrg : 2 ≤ rg ∧ rg ≤ 6) (h1 : ¬ mj_I h 36 (9 * j + 1) = 0) (h4 : ¬ mj_I h 36 (9 * j + 4) = 0) {z : Nat} (hz : z < 729) : mxc 2 129 [.ref 33, .int (nI j), .int (nI z)] h (fun r h' => r = none ∧ WI h h' (wd_T (mM h j) rg z) (nI (wd_1 (mM h j) rg z).1) (if wd_lt rg z (wd_1 (mM h j) rg z).2 = true then nI 1 else nI 0)) := by
  have p1 := mm_pt_lt z 1 hz
  have p2 := mm_pt_lt z 2 hz
  show mx 2 129 0 [.ref 33, .int (nI j), .int (nI z), mj_unset, mj_unset, mj_unset, mj_unset] [] h _
  refine x_iload_n f_129_0 rfl ?_
  refine x_iconst (v := nI 1) f_129_1 (by decide) ?_
  refine x_callSe f_129_2 (c_part _ _ _ hz (by omega)) (by omega) rfl rfl rfl (Nat.le_of_ble_eq_true rfl) rfl ?_
  refine x_istore_n (ls1 := [.ref 33, .int (nI j), .int (nI z), .int (nI (mm_pt z 1 + 1)), mj_unset, mj_unset, mj_unset]) f_129_5 (Nat.le_of_ble_eq_true rfl) rfl ?_
  refine x_iload_n f_129_6 rfl ?_
  refine x_iconst (v := nI 2) f_129_7 (by decide) ?_
  refine x_callSe f_129_8 (c_part _ _ _ hz (by omega)) (by omega) rfl rfl rfl (Nat.le_of_ble_eq_true rfl) rfl ?_
  refine x_istore (ls1 := [.ref 33, .int (nI j), .int (nI z), .int (nI (mm_pt z 1 + 1)), .int (nI (mm_pt z 2 + 1)), mj_unset, mj_unset]) f_129_11 (Nat.le_of_ble_eq_true rfl) rfl ?_
  refine x_aload_n f_129_13 rfl ?_
  refine x_getR f_129_14 S.k33 (by decide) S.r4 ?_
  refine x_bipush (v := nI 9) f_129_17 (by decide) ?_
  refine x_iload_n f_129_19 rfl ?_
  refine x_imulN f_129_20 ?_
  refine x_bipush (v := nI 8) f_129_21 (by decide) ?_
  refine x_iaddN f_129_23 ?_
  refine x_iald (j := ((9 * j) + 8)) f_129_24 S.k36 (by omega) (by decide) ?_
  refine x_topi (w := nI rg) e_rg ?_
  refine x_istore (ls1 := [.ref 33, .int (nI j), .int (nI z), .int (nI (mm_pt z 1 + 1)), .int (nI (mm_pt z 2 + 1)), .int (nI rg), mj_unset]) f_129_25 (Nat.le_of_ble_eq_true rfl) rfl ?_
  refine x_iconst (v := nI 0) f_129_27 (by decide) ?_
  refine x_istore (ls1 := [.ref 33, .int (nI j), .int (nI z), .int (nI (mm_pt z 1 + 1)), .int (nI (mm_pt z 2 + 1)), .int (nI rg), .int (nI 0)]) f_129_28 (Nat.le_of_ble_eq_true rfl) rfl ?_
  refine weld_l0 (j := j) (z := z) (rg := rg) ?_ 6 0 h (by omega) S (Rw.rf _ _) (fun _ => rfl) (fun q => by rw [if_neg (by omega)]) (fun q => by rw [if_neg (by omega)]) (fun q => by rw [if_neg (by omega)]) (fun q => by rw [if_neg (by omega)])
  intro g S hR i33 i39 i41 i42 i43
  refine x_aload_n f_129_77 rfl ?_
  refine x_iconst (v := nI 0) f_129_78 (by decide) ?_
  refine x_putI f_129_79 S.k33 (by decide) ?_
  refine weld_l1 hj e_rg hrg h1 h4 hz (b := mj_I h 33 15) _ rfl (wd_1 (mM h j) rg z) ?_ 60 0 _ wd_0 (by omega) ⟨S, hR.set (by decide), fun q h1 _ => (mj_I_ne h1).trans (i33 q), ?_, mj_I_at _ _ _ _, (mj_I_ne (by decide)).trans (i33 15)⟩ rfl
  · intro g hw
    have S := hw.1
    refine x_aload_n f_129_139 rfl ?_
    refine x_aload_n f_129_140 rfl ?_
    refine x_iload f_129_141 rfl ?_
    refine x_callVe f_129_143 (c_outAll S (by omega)) (by omega) S.k33 (by decide) rfl rfl (Nat.le_of_ble_eq_true rfl) rfl ?_
    refine x_bipush (v := nI 20) f_129_146 (by decide) ?_
    refine x_iload f_129_148 rfl ?_
    refine x_imulN f_129_150 ?_
    refine x_icmp_ge (t := 158) f_129_151 (by decide) (fun c_1 => ?_) (fun c_1 => ?_)
    · refine x_iconst (v := nI 0) f_129_158 (by decide) ?_
      refine x_putZ f_129_159 S.k33 (by decide) (by decide) ?_
      refine x_iconst (v := nI 0) f_129_162 (by decide) ?_
      refine x_istore (ls1 := [.ref 33, .int (nI j), .int (nI z), .int (nI (mm_pt z 1 + 1)), .int (nI (mm_pt z 2 + 1)), .int (nI rg), .int (nI 0)]) f_129_163 (Nat.le_of_ble_eq_true rfl) rfl ?_
      refine weld_l2 hj e_rg hrg h1 h4 hz (a := nI (wd_1 (mM h j) rg z).1) (b := if wd_lt rg z (wd_1 (mM h j) rg z).2 = true then nI 1 else nI 0) _ rfl _ ?_ 5 0 _ (wd_1 (mM h j) rg z).2 (by omega) ?_ rfl
      · intro g hw
        refine x_iconst (v := nI 0) f_129_187 (by decide) ?_
        refine x_istore (ls1 := [.ref 33, .int (nI j), .int (nI z), .int (nI (mm_pt z 1 + 1)), .int (nI (mm_pt z 2 + 1)), .int (nI rg), .int (nI 0)]) f_129_188 (Nat.le_of_ble_eq_true rfl) rfl ?_
        refine weld_l3 hj e_rg hrg h1 h4 hz _ rfl _ ?_ 30 0 g _ (by omega) hw rfl
        intro g hw
        refine x_retV f_129_211 rfl ?_
        exact ⟨rfl, hw⟩
      · have hw2 := hw.set15 (x := nI 0)
        have hlt : wd_lt rg z (wd_1 (mM h j) rg z).2 = false := by
          unfold wd_lt
          rw [← hw.2.2.2.1]
          exact decide_eq_false (Int32.not_lt.mpr c_1)
        rw [hlt]
        exact hw2
    · refine x_iconst (v := nI 1) f_129_154 (by decide) ?_
      refine x_goto (t := 159) f_129_155 (by decide) ?_
      refine x_putZ f_129_159 S.k33 (by decide) (by decide) ?_
      refine x_iconst (v := nI 0) f_129_162 (by decide) ?_
      refine x_istore (ls1 := [.ref 33, .int (nI j), .int (nI z), .int (nI (mm_pt z 1 + 1)), .int (nI (mm_pt z 2 + 1)), .int (nI rg), .int (nI 0)]) f_129_163 (Nat.le_of_ble_eq_true rfl) rfl ?_
      refine weld_l2 hj e_rg hrg h1 h4 hz (a := nI (wd_1 (mM h j) rg z).1) (b := if wd_lt rg z (wd_1 (mM h j) rg z).2 = true then nI 1 else nI 0) _ rfl _ ?_ 5 0 _ (wd_1 (mM h j) rg z).2 (by omega) ?_ rfl
      · intro g hw
        refine x_iconst (v := nI 0) f_129_187 (by decide) ?_
        refine x_istore (ls1 := [.ref 33, .int (nI j), .int (nI z), .int (nI (mm_pt z 1 + 1)), .int (nI (mm_pt z 2 + 1)), .int (nI rg), .int (nI 0)]) f_129_188 (Nat.le_of_ble_eq_true rfl) rfl ?_
        refine weld_l3 hj e_rg hrg h1 h4 hz _ rfl _ ?_ 30 0 g _ (by omega) hw rfl
        intro g hw
        refine x_retV f_129_211 rfl ?_
        exact ⟨rfl, hw⟩
      · have hw2 := hw.set15 (x := nI 1)
        have hlt : wd_lt rg z (wd_1 (mM h j) rg z).2 = true := by
          unfold wd_lt
          rw [← hw.2.2.2.1]
          exact decide_eq_true (Int32.not_le.mp c_1)
        rw [hlt]
        exact hw2
  · refine mT_set.trans ?_
    unfold mT wd_0
    refine Prod.ext (funext fun q => ?_) (Prod.ext (funext fun q => ?_) (Prod.ext (funext fun q => ?_) (funext fun q => ?_)))
    · show mj_I g 39 q = if q < 6 then nI 20 else 0
      rw [i39]
      by_cases hq : q < 6
      · rw [if_pos hq, if_pos hq]
      · rw [if_neg hq, if_neg hq]; exact Z 39 (by decide) q (by omega)
    · show mj_I g 41 q = if q < 6 then nI 20 else 0
      rw [i41]
      by_cases hq : q < 6
      · rw [if_pos hq, if_pos hq]
      · rw [if_neg hq, if_neg hq]; exact Z 41 (by decide) q (by omega)
    · show mj_I g 42 q = 0
      rw [i42]
      by_cases hq : q < 6
      · rw [if_pos hq]; rfl
      · rw [if_neg hq]; exact Z 42 (by decide) q (by omega)
    · show mj_I g 43 q = 0
      rw [i43]
      by_cases hq : q < 6
      · rw [if_pos hq]; rfl
      · rw [if_neg hq]; exact Z 43 (by decide) q (by omega)
