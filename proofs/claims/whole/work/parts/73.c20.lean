/-! THE PROVER: the greatest good box -/
/-- the box of three stretches, weighed -/
def kb (L : Nat → Nat) (t p l : Nat) : Nat × Nat × Nat := kbx L (sH t - sS t) (sH t) (sH p - sS p) (sH p) (sH l - sS l) (sH l)
def BSw (g : mj_H) (A : Nat) (x : Nat × Nat × Nat) : Prop := mj_I g A 6 = nI x.1 ∧ mj_I g A 4 = nI x.2.1 ∧ mj_I g A 5 = nI x.2.2 ∧ x.1 ≤ 216 ∧ x.2.1 < 729 ∧ x.2.2 < 729
theorem kle_tr {x y z : Nat × Nat × Nat} (a : kle x y) (b : kle y z) : kle x z := by
  unfold kle at *
  omega
theorem kb_eq {L W : Nat → Nat} (hL : LB L W) {t p l : Nat} (ht : t < 21) (hp : p < 21) (hl : l < 21) (h0 : sH t ≤ W 0) (h1 : sH p ≤ W 1) (h2 : sH l ≤ W 2) : kb L t p l = ((sS t + 1) * (sS p + 1) * (sS l + 1), zz L 0 0 0 + (81 * sH t + 9 * sH p + sH l) - (81 * sS t + 9 * sS p + sS l), zz L 0 0 0 + (81 * sH t + 9 * sH p + sH l)) := by
  have a1 := st_1 t ht
  have a2 := st_1 p hp
  have a3 := st_1 l hl
  have b0 := hL 0 (by decide)
  have b1 := hL 1 (by decide)
  have b2 := hL 2 (by decide)
  unfold kb kbx szN
  rw [show sH t + 1 - (sH t - sS t) = sS t + 1 by omega, show sH p + 1 - (sH p - sS p) = sS p + 1 by omega, show sH l + 1 - (sH l - sS l) = sS l + 1 by omega]
  refine Prod.ext rfl (Prod.ext ?_ ?_)
  · show zz L (sH t - sS t) (sH p - sS p) (sH l - sS l) = zz L 0 0 0 + (81 * sH t + 9 * sH p + sH l) - (81 * sS t + 9 * sS p + sS l)
    unfold zz
    omega
  · show zz L (sH t) (sH p) (sH l) = zz L 0 0 0 + (81 * sH t + 9 * sH p + sH l)
    unfold zz
    omega
theorem kb_b {L W : Nat → Nat} (hL : LB L W) {t p l : Nat} (ht : t < 21) (hp : p < 21) (hl : l < 21) (h0 : sH t ≤ W 0) (h1 : sH p ≤ W 1) (h2 : sH l ≤ W 2) : (kb L t p l).1 ≤ 216 ∧ (kb L t p l).2.1 < 729 ∧ (kb L t p l).2.2 < 729 := by
  have a1 := st_1 t ht
  have a2 := st_1 p hp
  have a3 := st_1 l hl
  refine ⟨sz_216 (by omega) (by omega) (by omega), (zz_ hL (by omega) (by omega) (by omega)).1, (zz_ hL (by omega) (by omega) (by omega)).1⟩
set_option maxRecDepth 20000 in
theorem k_weigh_ {h : mj_H} (C : SC h) {A : Nat} (hA : mj_K h A = (9, 7)) {L W : Nat → Nat} (hL : LB L W) (i1 : mj_I h A 1 = nI (zz L 0 0 0)) {t p l : Nat} (ht : t < 21) (hp : p < 21) (hl : l < 21) (h0 : sH t ≤ W 0) (h1 : sH p ≤ W 1) (h2 : sH l ≤ W 2) {x : Nat × Nat × Nat} (hx : BSw h A x) {Q : Option Value → mj_H → Prop}
  (K : ∀ g, Rw h g [A] → (∀ q, ¬ q = 4 → ¬ q = 5 → ¬ q = 6 → mj_I g A q = mj_I h A q) → ∀ x', BSw g A x' → (x' = x ∨ x' = kb L t p l) → (∀ y, kle y x → kle y x') → kle (kb L t p l) x' → Q none g) : mxc 1 43 [.ref A, .int (nI t), .int (nI p), .int (nI l)] h Q := by
  have a1 := st_1 t ht
  have a2 := st_1 p hp
  have a3 := st_1 l hl
  have ek := kb_eq hL ht hp hl h0 h1 h2
  have hbb := kb_b hL ht hp hl h0 h1 h2
  have hb2 := hbb
  rw [ek] at hb2
  dsimp only at hb2
  have hx4 := hx.2.2.2
  have b0 := hL 0 (by decide)
  have b1 := hL 1 (by decide)
  have b2 := hL 2 (by decide)
  have hle : 81 * sS t + 9 * sS p + sS l ≤ zz L 0 0 0 + (81 * sH t + 9 * sH p + sH l) := by omega
  have hz0 := (zz_ hL (t := sH t) (p := sH p) (l := sH l) h0 h1 h2).1
  generalize hsz : (sS t + 1) * (sS p + 1) * (sS l + 1) = sz at *
  show mx 1 43 0 [.ref A, .int (nI t), .int (nI p), .int (nI l), mj_unset, mj_unset, mj_unset, mj_unset] [] h _
  refine x_gets f_43_0 ?_
  refine x_iload_n f_43_3 rfl ?_
  refine x_iald (j := t) f_43_4 C.k6 (by omega) (by decide) ?_
  refine x_topi (w := nI (sS t)) (C.vS ht) ?_
  refine x_iconst (v := nI 1) f_43_5 (by decide) ?_
  refine x_iaddN f_43_6 ?_
  refine x_gets f_43_7 ?_
  refine x_iload_n f_43_10 rfl ?_
  refine x_iald (j := p) f_43_11 C.k6 (by omega) (by decide) ?_
  refine x_topi (w := nI (sS p)) (C.vS hp) ?_
  refine x_iconst (v := nI 1) f_43_12 (by decide) ?_
  refine x_iaddN f_43_13 ?_
  refine x_imulN f_43_14 ?_
  refine x_gets f_43_15 ?_
  refine x_iload_n f_43_18 rfl ?_
  refine x_iald (j := l) f_43_19 C.k6 (by omega) (by decide) ?_
  refine x_topi (w := nI (sS l)) (C.vS hl) ?_
  refine x_iconst (v := nI 1) f_43_20 (by decide) ?_
  refine x_iaddN f_43_21 ?_
  refine x_imulN f_43_22 ?_
  refine x_istore (ls1 := [.ref A, .int (nI t), .int (nI p), .int (nI l), .int (nI ((((sS t) + 1) * ((sS p) + 1)) * ((sS l) + 1))), mj_unset, mj_unset, mj_unset]) f_43_23 (Nat.le_of_ble_eq_true rfl) rfl ?_
  refine x_iload f_43_25 rfl ?_
  refine x_aload_n f_43_27 rfl ?_
  refine x_getI f_43_28 hA (by decide) ?_
  refine x_topi (w := nI x.1) hx.1 ?_
  refine x_icmpN_ge (t := 35) f_43_31 (by decide) (by omega) (by omega) (fun c_s => ?_) (fun c_s => ?_)
  · refine x_aload_n f_43_35 rfl ?_
    refine x_getI f_43_36 hA (by decide) ?_
    refine x_topi (w := nI (zz L 0 0 0)) i1 ?_
    refine x_gets f_43_39 ?_
    refine x_iload_n f_43_42 rfl ?_
    refine x_iald (j := t) f_43_43 C.k5 (by omega) (by decide) ?_
    refine x_topi (w := nI (sH t)) (C.vH ht) ?_
    refine x_gets f_43_44 ?_
    refine x_iload_n f_43_47 rfl ?_
    refine x_iald (j := p) f_43_48 C.k5 (by omega) (by decide) ?_
    refine x_topi (w := nI (sH p)) (C.vH hp) ?_
    refine x_gets f_43_49 ?_
    refine x_iload_n f_43_52 rfl ?_
    refine x_iald (j := l) f_43_53 C.k5 (by omega) (by decide) ?_
    refine x_topi (w := nI (sH l)) (C.vH hl) ?_
    refine x_callSe f_43_54 (k_settingOf C _ _ _) (by omega) rfl rfl rfl (Nat.le_of_ble_eq_true rfl) rfl ?_
    refine x_iaddN f_43_57 ?_
    refine x_istore (ls1 := [.ref A, .int (nI t), .int (nI p), .int (nI l), .int (nI ((((sS t) + 1) * ((sS p) + 1)) * ((sS l) + 1))), .int (nI ((zz L 0 0 0) + (81 * (sH t) + 9 * (sH p) + (sH l)))), mj_unset, mj_unset]) f_43_58 (Nat.le_of_ble_eq_true rfl) rfl ?_
    refine x_iload f_43_60 rfl ?_
    refine x_gets f_43_62 ?_
    refine x_iload_n f_43_65 rfl ?_
    refine x_iald (j := t) f_43_66 C.k6 (by omega) (by decide) ?_
    refine x_topi (w := nI (sS t)) (C.vS ht) ?_
    refine x_gets f_43_67 ?_
    refine x_iload_n f_43_70 rfl ?_
    refine x_iald (j := p) f_43_71 C.k6 (by omega) (by decide) ?_
    refine x_topi (w := nI (sS p)) (C.vS hp) ?_
    refine x_gets f_43_72 ?_
    refine x_iload_n f_43_75 rfl ?_
    refine x_iald (j := l) f_43_76 C.k6 (by omega) (by decide) ?_
    refine x_topi (w := nI (sS l)) (C.vS hl) ?_
    refine x_callSe f_43_77 (k_settingOf C _ _ _) (by omega) rfl rfl rfl (Nat.le_of_ble_eq_true rfl) rfl ?_
    refine x_isubN f_43_80 (by omega) ?_
    refine x_istore (ls1 := [.ref A, .int (nI t), .int (nI p), .int (nI l), .int (nI ((((sS t) + 1) * ((sS p) + 1)) * ((sS l) + 1))), .int (nI ((zz L 0 0 0) + (81 * (sH t) + 9 * (sH p) + (sH l)))), .int (nI (((zz L 0 0 0) + (81 * (sH t) + 9 * (sH p) + (sH l))) - (81 * (sS t) + 9 * (sS p) + (sS l)))), mj_unset]) f_43_81 (Nat.le_of_ble_eq_true rfl) rfl ?_
    have J_1 : ∀ jx : Int32, jx = (if (((zz L 0 0 0) + (81 * (sH t) + 9 * (sH p) + (sH l))) - (81 * (sS t) + 9 * (sS p) + (sS l)) < x.2.1) ∨ ((((zz L 0 0 0) + (81 * (sH t) + 9 * (sH p) + (sH l))) - (81 * (sS t) + 9 * (sS p) + (sS l)) = x.2.1) ∧ ((zz L 0 0 0) + (81 * (sH t) + 9 * (sH p) + (sH l)) < x.2.2)) then 1 else 0) → mx 1 43 115 [.ref A, .int (nI t), .int (nI p), .int (nI l), .int (nI ((((sS t) + 1) * ((sS p) + 1)) * ((sS l) + 1))), .int (nI ((zz L 0 0 0) + (81 * (sH t) + 9 * (sH p) + (sH l)))), .int (nI (((zz L 0 0 0) + (81 * (sH t) + 9 * (sH p) + (sH l))) - (81 * (sS t) + 9 * (sS p) + (sS l)))), mj_unset] [.int jx] h Q := by
      intro jx hjx
      subst hjx
      refine x_istore (ls1 := [.ref A, .int (nI t), .int (nI p), .int (nI l), .int (nI ((((sS t) + 1) * ((sS p) + 1)) * ((sS l) + 1))), .int (nI ((zz L 0 0 0) + (81 * (sH t) + 9 * (sH p) + (sH l)))), .int (nI (((zz L 0 0 0) + (81 * (sH t) + 9 * (sH p) + (sH l))) - (81 * (sS t) + 9 * (sS p) + (sS l)))), .int (if (((zz L 0 0 0) + (81 * (sH t) + 9 * (sH p) + (sH l))) - (81 * (sS t) + 9 * (sS p) + (sS l)) < x.2.1) ∨ ((((zz L 0 0 0) + (81 * (sH t) + 9 * (sH p) + (sH l))) - (81 * (sS t) + 9 * (sS p) + (sS l)) = x.2.1) ∧ ((zz L 0 0 0) + (81 * (sH t) + 9 * (sH p) + (sH l)) < x.2.2)) then 1 else 0)]) f_43_115 (Nat.le_of_ble_eq_true rfl) rfl ?_
      refine x_iload f_43_117 rfl ?_
      refine x_aload_n f_43_119 rfl ?_
      refine x_getI f_43_120 hA (by decide) ?_
      refine x_topi (w := nI x.1) hx.1 ?_
      refine x_icmpN_gt (t := 131) f_43_123 (by decide) (by omega) (by omega) (fun c_g => ?_) (fun c_g => ?_)
      · refine x_aload_n f_43_131 rfl ?_
        refine x_iload f_43_132 rfl ?_
        refine x_putI f_43_134 hA (by decide) ?_
        refine x_aload_n f_43_137 rfl ?_
        refine x_iload f_43_138 rfl ?_
        refine x_putI f_43_140 hA (by decide) ?_
        refine x_aload_n f_43_143 rfl ?_
        refine x_iload f_43_144 rfl ?_
        refine x_putI f_43_146 hA (by decide) ?_
        refine x_retV f_43_149 rfl ?_
        refine K _ ((((Rw.rf h _).set (by simp)).set (by simp)).set (by simp)) (fun q h4 h5 h6 => (mj_I_ne h5).trans ((mj_I_ne h4).trans (mj_I_ne h6))) (kb L t p l) ⟨?_, ?_, ?_, hbb⟩ (Or.inr rfl) (fun y q => kle_tr q (by rw [ek]; unfold kle; dsimp only; omega)) (kle_rf _)
        · exact (mj_I_ne (by decide)).trans ((mj_I_ne (by decide)).trans ((mj_I_at _ _ _ _).trans (by rw [ek]; exact congrArg nI hsz)))
        · exact (mj_I_ne (by decide)).trans ((mj_I_at _ _ _ _).trans (by rw [ek]))
        · exact (mj_I_at _ _ _ _).trans (by rw [ek])
      · refine x_iload f_43_126 rfl ?_
        refine x_ifB_eq (t := 149) f_43_128 (by decide) (fun c_a => ?_) (fun c_a => ?_)
        · refine x_retV f_43_149 rfl ?_
          exact K h (Rw.rf _ _) (fun _ _ _ _ => rfl) x hx (Or.inl rfl) (fun y q => q) (by rw [ek]; unfold kle; dsimp only; omega)
        · refine x_aload_n f_43_131 rfl ?_
          refine x_iload f_43_132 rfl ?_
          refine x_putI f_43_134 hA (by decide) ?_
          refine x_aload_n f_43_137 rfl ?_
          refine x_iload f_43_138 rfl ?_
          refine x_putI f_43_140 hA (by decide) ?_
          refine x_aload_n f_43_143 rfl ?_
          refine x_iload f_43_144 rfl ?_
          refine x_putI f_43_146 hA (by decide) ?_
          refine x_retV f_43_149 rfl ?_
          refine K _ ((((Rw.rf h _).set (by simp)).set (by simp)).set (by simp)) (fun q h4 h5 h6 => (mj_I_ne h5).trans ((mj_I_ne h4).trans (mj_I_ne h6))) (kb L t p l) ⟨?_, ?_, ?_, hbb⟩ (Or.inr rfl) (fun y q => kle_tr q (by rw [ek]; unfold kle; dsimp only; omega)) (kle_rf _)
          · exact (mj_I_ne (by decide)).trans ((mj_I_ne (by decide)).trans ((mj_I_at _ _ _ _).trans (by rw [ek]; exact congrArg nI hsz)))
          · exact (mj_I_ne (by decide)).trans ((mj_I_at _ _ _ _).trans (by rw [ek]))
          · exact (mj_I_at _ _ _ _).trans (by rw [ek])
    refine x_iload f_43_83 rfl ?_
    refine x_aload_n f_43_85 rfl ?_
    refine x_getI f_43_86 hA (by decide) ?_
    refine x_topi (w := nI x.2.1) hx.2.1 ?_
    refine x_icmpN_lt (t := 110) f_43_89 (by decide) (by omega) (by omega) (fun c_f => ?_) (fun c_f => ?_)
    · refine x_iconst (v := nI 1) f_43_110 (by decide) ?_
      refine x_goto (t := 115) f_43_111 (by decide) ?_
      exact J_1 _ (if_pos (Or.inl c_f)).symm
    · refine x_iload f_43_92 rfl ?_
      refine x_aload_n f_43_94 rfl ?_
      refine x_getI f_43_95 hA (by decide) ?_
      refine x_topi (w := nI x.2.1) hx.2.1 ?_
      refine x_icmpN_ne (t := 114) f_43_98 (by decide) (by omega) (by omega) (fun c_q => ?_) (fun c_q => ?_)
      · refine x_iconst (v := nI 0) f_43_114 (by decide) ?_
        exact J_1 _ (if_neg (by omega)).symm
      · refine x_iload f_43_101 rfl ?_
        refine x_aload_n f_43_103 rfl ?_
        refine x_getI f_43_104 hA (by decide) ?_
        refine x_topi (w := nI x.2.2) hx.2.2.1 ?_
        refine x_icmpN_ge (t := 114) f_43_107 (by decide) (by omega) (by omega) (fun c_t => ?_) (fun c_t => ?_)
        · refine x_iconst (v := nI 0) f_43_114 (by decide) ?_
          exact J_1 _ (if_neg (by omega)).symm
        · refine x_iconst (v := nI 1) f_43_110 (by decide) ?_
          refine x_goto (t := 115) f_43_111 (by decide) ?_
          exact J_1 _ (if_pos (Or.inr ⟨by omega, by omega⟩)).symm
  · refine x_retV f_43_34 rfl ?_
    exact K h (Rw.rf _ _) (fun _ _ _ _ => rfl) x hx (Or.inl rfl) (fun y q => q) (by rw [ek]; unfold kle; dsimp only; omega)
