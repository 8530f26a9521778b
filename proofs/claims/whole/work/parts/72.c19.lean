/-! THE PROVER: filling the table -/
set_option maxRecDepth 20000 in
theorem k_stretchesOn0 {h : mj_H} (C : SC h) {A x y W : Nat} (hA : mj_K h A = (9, 7)) (i1 : mj_I h A 1 = nI x) (i2 : mj_I h A 2 = nI y) (hx : x < 729) (hy : y < 729) (hW : mm_pt y 0 = mm_pt x 0 + W) (hW5 : W ≤ 5) : mxc 1 44 [.ref A, .int (nI 0)] h (fun r h' => r = some (.int (nI (sB (W + 1)))) ∧ h' = h) := by
  show mx 1 44 0 [.ref A, .int (nI 0)] [] h _
  refine x_gets f_44_0 ?_
  refine x_aload_n f_44_3 rfl ?_
  refine x_getI f_44_4 hA (by decide) ?_
  refine x_topi (w := nI y) i2 ?_
  refine x_iload_n f_44_7 rfl ?_
  refine x_callSe f_44_8 (k_along C (z := y) (a := 0) (by omega) (by decide)) (by omega) rfl rfl rfl (Nat.le_of_ble_eq_true rfl) rfl ?_
  refine x_aload_n f_44_11 rfl ?_
  refine x_getI f_44_12 hA (by decide) ?_
  refine x_topi (w := nI x) i1 ?_
  refine x_iload_n f_44_15 rfl ?_
  refine x_callSe f_44_16 (k_along C (z := x) (a := 0) (by omega) (by decide)) (by omega) rfl rfl rfl (Nat.le_of_ble_eq_true rfl) rfl ?_
  refine x_isubN f_44_19 (by omega) ?_
  refine x_iconst (v := nI 1) f_44_20 (by decide) ?_
  refine x_iaddN f_44_21 ?_
  refine x_iald (j := (((mm_pt y 0) - (mm_pt x 0)) + 1)) f_44_22 C.k4 (by omega) (by decide) ?_
  refine x_topi (w := nI (sB (W + 1))) (by rw [show (mm_pt y 0 - mm_pt x 0) + 1 = W + 1 by omega]; exact C.vB (by omega)) ?_
  refine x_retI f_44_23 rfl ?_
  exact ⟨rfl, rfl⟩
set_option maxRecDepth 20000 in
theorem k_stretchesOn1 {h : mj_H} (C : SC h) {A x y W : Nat} (hA : mj_K h A = (9, 7)) (i1 : mj_I h A 1 = nI x) (i2 : mj_I h A 2 = nI y) (hx : x < 729) (hy : y < 729) (hW : mm_pt y 1 = mm_pt x 1 + W) (hW5 : W ≤ 5) : mxc 1 44 [.ref A, .int (nI 1)] h (fun r h' => r = some (.int (nI (sB (W + 1)))) ∧ h' = h) := by
  show mx 1 44 0 [.ref A, .int (nI 1)] [] h _
  refine x_gets f_44_0 ?_
  refine x_aload_n f_44_3 rfl ?_
  refine x_getI f_44_4 hA (by decide) ?_
  refine x_topi (w := nI y) i2 ?_
  refine x_iload_n f_44_7 rfl ?_
  refine x_callSe f_44_8 (k_along C (z := y) (a := 1) (by omega) (by decide)) (by omega) rfl rfl rfl (Nat.le_of_ble_eq_true rfl) rfl ?_
  refine x_aload_n f_44_11 rfl ?_
  refine x_getI f_44_12 hA (by decide) ?_
  refine x_topi (w := nI x) i1 ?_
  refine x_iload_n f_44_15 rfl ?_
  refine x_callSe f_44_16 (k_along C (z := x) (a := 1) (by omega) (by decide)) (by omega) rfl rfl rfl (Nat.le_of_ble_eq_true rfl) rfl ?_
  refine x_isubN f_44_19 (by omega) ?_
  refine x_iconst (v := nI 1) f_44_20 (by decide) ?_
  refine x_iaddN f_44_21 ?_
  refine x_iald (j := (((mm_pt y 1) - (mm_pt x 1)) + 1)) f_44_22 C.k4 (by omega) (by decide) ?_
  refine x_topi (w := nI (sB (W + 1))) (by rw [show (mm_pt y 1 - mm_pt x 1) + 1 = W + 1 by omega]; exact C.vB (by omega)) ?_
  refine x_retI f_44_23 rfl ?_
  exact ⟨rfl, rfl⟩
set_option maxRecDepth 20000 in
theorem k_stretchesOn2 {h : mj_H} (C : SC h) {A x y W : Nat} (hA : mj_K h A = (9, 7)) (i1 : mj_I h A 1 = nI x) (i2 : mj_I h A 2 = nI y) (hx : x < 729) (hy : y < 729) (hW : mm_pt y 2 = mm_pt x 2 + W) (hW5 : W ≤ 5) : mxc 1 44 [.ref A, .int (nI 2)] h (fun r h' => r = some (.int (nI (sB (W + 1)))) ∧ h' = h) := by
  show mx 1 44 0 [.ref A, .int (nI 2)] [] h _
  refine x_gets f_44_0 ?_
  refine x_aload_n f_44_3 rfl ?_
  refine x_getI f_44_4 hA (by decide) ?_
  refine x_topi (w := nI y) i2 ?_
  refine x_iload_n f_44_7 rfl ?_
  refine x_callSe f_44_8 (k_along C (z := y) (a := 2) (by omega) (by decide)) (by omega) rfl rfl rfl (Nat.le_of_ble_eq_true rfl) rfl ?_
  refine x_aload_n f_44_11 rfl ?_
  refine x_getI f_44_12 hA (by decide) ?_
  refine x_topi (w := nI x) i1 ?_
  refine x_iload_n f_44_15 rfl ?_
  refine x_callSe f_44_16 (k_along C (z := x) (a := 2) (by omega) (by decide)) (by omega) rfl rfl rfl (Nat.le_of_ble_eq_true rfl) rfl ?_
  refine x_isubN f_44_19 (by omega) ?_
  refine x_iconst (v := nI 1) f_44_20 (by decide) ?_
  refine x_iaddN f_44_21 ?_
  refine x_iald (j := (((mm_pt y 2) - (mm_pt x 2)) + 1)) f_44_22 C.k4 (by omega) (by decide) ?_
  refine x_topi (w := nI (sB (W + 1))) (by rw [show (mm_pt y 2 - mm_pt x 2) + 1 = W + 1 by omega]; exact C.vB (by omega)) ?_
  refine x_retI f_44_23 rfl ?_
  exact ⟨rfl, rfl⟩
theorem sB_le : ∀ n, n < 7 → sB n ≤ 21 := by decide
set_option maxRecDepth 20000 in
theorem kfill_l {h : mj_H} {jm w : Nat} (hw : WC h w jm) {Pv X : Nat} (hPv0 : mj_K h Pv = (5, 1)) (hPX0 : mj_R h Pv 0 = some X) (hX0 : mj_K h X = (12, 9261)) (h63X : 63 ≤ X) (h63P : 63 ≤ Pv) {t p : Nat} (htT : t < sB (Wd h w 0 + 1)) (hpP : p < sB (Wd h w 1 + 1)) {Q : Option Value → mj_H → Prop}
  (K : ∀ (g : mj_H) (v8 v9 v10 : Value), CJ g jm → Cg [X, 12, 13, 14, 15, 16] h g → FD (mj_I g X) (wg h w) (sB (Wd h w 0 + 1)) (sB (Wd h w 1 + 1)) (sB (Wd h w 2 + 1)) t p (sB (Wd h w 2 + 1)) → mx 4 38 166 [.ref Pv, .ref 12, .ref (wA h w), .int (nI (sB (Wd h w 0 + 1))), .int (nI (sB (Wd h w 1 + 1))), .int (nI (sB (Wd h w 2 + 1))), .int (nI t), .int (nI p), v8, v9, v10] [] g Q) :
  ∀ (n l : Nat) (g : mj_H), l + n = sB (Wd h w 2 + 1) → CJ g jm → Cg [X, 12, 13, 14, 15, 16] h g → FD (mj_I g X) (wg h w) (sB (Wd h w 0 + 1)) (sB (Wd h w 1 + 1)) (sB (Wd h w 2 + 1)) t p l → ∀ v9 v10 : Value, mx 4 38 42 [.ref Pv, .ref 12, .ref (wA h w), .int (nI (sB (Wd h w 0 + 1))), .int (nI (sB (Wd h w 1 + 1))), .int (nI (sB (Wd h w 2 + 1))), .int (nI t), .int (nI p), .int (nI l), v9, v10] [] g Q := by
  have hN := hw.2.2.2.2
  have hL := hN.lb
  have h63 := hw.1.2.2.1
  have b0 := hL 0 (by decide)
  have b1 := hL 1 (by decide)
  have b2 := hL 2 (by decide)
  have hP12 : Pv ≠ 12 := by omega
  have hwX : wA h w ∉ [X, 12, 13, 14, 15, 16] := by
    intro q
    simp only [List.mem_cons, List.not_mem_nil, or_false] at q
    have hne : wA h w ≠ X := fun z => by have := hw.1.2.1; rw [z, hX0] at this; cases this
    omega
  have h36 : 36 ∉ [X, 12, 13, 14, 15, 16] := by
    intro q
    simp only [List.mem_cons, List.not_mem_nil, or_false] at q
    omega
  have l1 := sB_le (Wd h w 1 + 1) (by omega)
  have l2 := sB_le (Wd h w 2 + 1) (by omega)
  have l0 := sB_le (Wd h w 0 + 1) (by omega)
  have ht : t < 21 := by omega
  have hp : p < 21 := by omega
  have ht3 := (st_3 (Wd h w 0 + 1) (by omega) t htT).1
  have hp3 := (st_3 (Wd h w 1 + 1) (by omega) p hpP).1
  intro n
  induction n with
  | zero =>
    intro l g hl0 c hC hD v9 v10
    refine x_iload f_38_42 rfl ?_
    refine x_iload f_38_44 rfl ?_
    refine x_icmpN_ge (t := 166) f_38_46 (by decide) (by omega) (by omega) (fun c_1 => ?_) (fun c_1 => by omega)
    obtain rfl : l = sB (Wd h w 2 + 1) := by omega
    exact K g _ _ _ c hC hD
  | succ n ih =>
    intro l g hl0 c hC hD v9 v10
    have hl : l < 21 := by omega
    have hlL : l < sB (Wd h w 2 + 1) := by omega
    have hl3 := (st_3 (Wd h w 2 + 1) (by omega) l hlL).1
    have hix : ix t p l < 9261 := by unfold ix; omega
    have ez : (zz (wlo h w) 0 0 0) + (81 * (sH t) + 9 * (sH p) + (sH l)) = zz (wlo h w) (sH t) (sH p) (sH l) := by unfold zz; omega
    have hz : (zz (wlo h w) 0 0 0) + (81 * (sH t) + 9 * (sH p) + (sH l)) < 729 := by rw [ez]; exact (zz_ hL (by omega) (by omega) (by omega)).1
    have d0 : ∀ t', t' < t → Ok (mj_I g X) (wg h w) t' p l := fun t' h1 => hD t' p l (by omega) hpP hlL (by omega)
    have d1 : ∀ p', p' < p → Ok (mj_I g X) (wg h w) t p' l := fun p' h1 => hD t p' l htT (by omega) hlL (by omega)
    have d2 : ∀ l', l' < l → Ok (mj_I g X) (wg h w) t p l' := fun l' h1 => hD t p l' htT hpP (by omega) (by omega)
    have st1 := st_1 t ht
    have st2 := st_1 p hp
    have st3 := st_1 l hl
    have hPv := (hC.k Pv).trans hPv0
    have hX := (hC.k X).trans hX0
    have hPX := (congrFun (hC.r hP12) 0).trans hPX0
    have kw := (hC.k (wA h w)).trans hw.1.2.1
    have rw0 := (congrFun (hC.r (a := wA h w) (by omega)) 0).trans hw.2.1
    have iw1 := (congrFun (hC.i (a := wA h w) hwX) 1).trans hw.2.2.1
    have eA := hC.eA (wj h w)
    have eVz : vd g (wj h w) ((zz (wlo h w) 0 0 0) + (81 * (sH t) + 9 * (sH p) + (sH l))) = vd h (wj h w) (zz (wlo h w) (sH t) (sH p) (sH l)) := by rw [ez]; exact hC.eV h36 _ _
    refine x_iload f_38_42 rfl ?_
    refine x_iload f_38_44 rfl ?_
    refine x_icmpN_ge (t := 166) f_38_46 (by decide) (by omega) (by omega) (fun c_1 => by omega) (fun c_1 => ?_)
    refine x_iload f_38_49 rfl ?_
    refine x_iload f_38_51 rfl ?_
    refine x_iload f_38_53 rfl ?_
    refine x_callSe f_38_55 (k_cellOf _ _ _ _) (by omega) rfl rfl rfl (Nat.le_of_ble_eq_true rfl) rfl ?_
    refine x_istore (ls1 := [.ref Pv, .ref 12, .ref (wA h w), .int (nI (sB (Wd h w 0 + 1))), .int (nI (sB (Wd h w 1 + 1))), .int (nI (sB (Wd h w 2 + 1))), .int (nI t), .int (nI p), .int (nI l), .int (nI (ix t p l)), v10]) f_38_58 (Nat.le_of_ble_eq_true rfl) rfl ?_
    refine x_gets f_38_60 ?_
    refine x_iload f_38_63 rfl ?_
    refine x_iald (j := t) f_38_65 c.1.k6 (by omega) (by decide) ?_
    refine x_topi (w := nI (sS t)) (c.1.vS ht) ?_
    refine x_gets f_38_66 ?_
    refine x_iload f_38_69 rfl ?_
    refine x_iald (j := p) f_38_71 c.1.k6 (by omega) (by decide) ?_
    refine x_topi (w := nI (sS p)) (c.1.vS hp) ?_
    refine x_iaddN f_38_72 ?_
    refine x_gets f_38_73 ?_
    refine x_iload f_38_76 rfl ?_
    refine x_iald (j := l) f_38_78 c.1.k6 (by omega) (by decide) ?_
    refine x_topi (w := nI (sS l)) (c.1.vS hl) ?_
    refine x_iaddN f_38_79 ?_
    refine x_ifN_le (t := 105) f_38_80 (by decide) (by omega) (fun c_s => ?_) (fun c_s => ?_)
    · refine x_aload_n f_38_105 rfl ?_
      refine x_getI f_38_106 kw (by decide) ?_
      refine x_topi (w := nI (zz (wlo h w) 0 0 0)) iw1 ?_
      refine x_gets f_38_109 ?_
      refine x_iload f_38_112 rfl ?_
      refine x_iald (j := t) f_38_114 c.1.k5 (by omega) (by decide) ?_
      refine x_topi (w := nI (sH t)) (c.1.vH ht) ?_
      refine x_gets f_38_115 ?_
      refine x_iload f_38_118 rfl ?_
      refine x_iald (j := p) f_38_120 c.1.k5 (by omega) (by decide) ?_
      refine x_topi (w := nI (sH p)) (c.1.vH hp) ?_
      refine x_gets f_38_121 ?_
      refine x_iload f_38_124 rfl ?_
      refine x_iald (j := l) f_38_126 c.1.k5 (by omega) (by decide) ?_
      refine x_topi (w := nI (sH l)) (c.1.vH hl) ?_
      refine x_callSe f_38_127 (k_settingOf c.1 _ _ _) (by omega) rfl rfl rfl (Nat.le_of_ble_eq_true rfl) rfl ?_
      refine x_iaddN f_38_130 ?_
      refine x_istore (ls1 := [.ref Pv, .ref 12, .ref (wA h w), .int (nI (sB (Wd h w 0 + 1))), .int (nI (sB (Wd h w 1 + 1))), .int (nI (sB (Wd h w 2 + 1))), .int (nI t), .int (nI p), .int (nI l), .int (nI (ix t p l)), .int (nI ((zz (wlo h w) 0 0 0) + (81 * (sH t) + 9 * (sH p) + (sH l))))]) f_38_131 (Nat.le_of_ble_eq_true rfl) rfl ?_
      refine x_aload_n f_38_133 rfl ?_
      refine x_getR f_38_134 hPv (by decide) hPX ?_
      refine x_iload f_38_137 rfl ?_
      refine x_aload_n f_38_139 rfl ?_
      refine x_aload_n f_38_140 rfl ?_
      refine x_getR f_38_141 kw (by decide) rw0 ?_
      refine x_iload f_38_144 rfl ?_
      refine x_callV f_38_146 (k_mgV c hN.2.1 hz (eA.trans rfl) (V := vd h (wj h w) (zz (wlo h w) (sH t) (sH p) (sH l))) eVz) (by omega) c.1.k12 (by decide) rfl rfl (Nat.le_of_ble_eq_true rfl) rfl ?_
      rintro _ g1 ⟨rfl, q1⟩
      have hPv1 := (q1.2.k Pv).trans hPv
      have hX1 := (q1.2.k X).trans hX
      have hPX1 := (congrFun (q1.2.r hP12) 0).trans hPX
      refine x_ifB_eq (t := 157) f_38_149 (by decide) (fun c_v => ?_) (fun c_v => ?_)
      · refine x_bipush (v := nI 33) f_38_157 (by decide) ?_
        refine x_iast (j := (ix t p l)) f_38_159 hX1 (by omega) hix (by decide) ?_
        refine x_iinc (v := nI (l + 1)) (ls1 := [.ref Pv, .ref 12, .ref (wA h w), .int (nI (sB (Wd h w 0 + 1))), .int (nI (sB (Wd h w 1 + 1))), .int (nI (sB (Wd h w 2 + 1))), .int (nI t), .int (nI p), .int (nI (l + 1)), .int (nI (ix t p l)), .int (nI ((zz (wlo h w) 0 0 0) + (81 * (sH t) + 9 * (sH p) + (sH l))))]) f_38_160 rfl (by exact nI_add _ 1) rfl ?_
        refine x_goto (t := 42) f_38_163 (by decide) ?_
        have ev : enc (LSx (wg h w) t p l) = 33 := by rw [LSx_1 ht hp hl c_s]; exact if_neg (fun z => c_v (of_decide_eq_true z))
        exact ih (l + 1) _ (by omega) (CJ_rw q1.1 ((Rw.rf g1 [X]).set (by simp)) (Fr_k q1.1 hX1 (by decide) h63X)) ((hC.trans (q1.2.cg.mono (by simp))).trans (((Rw.rf g1 [X]).set (by simp)).cg.mono (by simp))) (hD.put (by omega) (by omega) hpP hlL (fun q => mj_I_if (by rw [ev]) (congrFun (q1.2.i (by omega)) q))) _ _
      · refine x_bipush (v := nI 32) f_38_152 (by decide) ?_
        refine x_goto (t := 159) f_38_154 (by decide) ?_
        refine x_iast (j := (ix t p l)) f_38_159 hX1 (by omega) hix (by decide) ?_
        refine x_iinc (v := nI (l + 1)) (ls1 := [.ref Pv, .ref 12, .ref (wA h w), .int (nI (sB (Wd h w 0 + 1))), .int (nI (sB (Wd h w 1 + 1))), .int (nI (sB (Wd h w 2 + 1))), .int (nI t), .int (nI p), .int (nI (l + 1)), .int (nI (ix t p l)), .int (nI ((zz (wlo h w) 0 0 0) + (81 * (sH t) + 9 * (sH p) + (sH l))))]) f_38_160 rfl (by exact nI_add _ 1) rfl ?_
        refine x_goto (t := 42) f_38_163 (by decide) ?_
        have ev : enc (LSx (wg h w) t p l) = 32 := by rw [LSx_1 ht hp hl c_s]; exact if_pos (decide_eq_true c_v)
        exact ih (l + 1) _ (by omega) (CJ_rw q1.1 ((Rw.rf g1 [X]).set (by simp)) (Fr_k q1.1 hX1 (by decide) h63X)) ((hC.trans (q1.2.cg.mono (by simp))).trans (((Rw.rf g1 [X]).set (by simp)).cg.mono (by simp))) (hD.put (by omega) (by omega) hpP hlL (fun q => mj_I_if (by rw [ev]) (congrFun (q1.2.i (by omega)) q))) _ _
    · refine x_aload_n f_38_83 rfl ?_
      refine x_getR f_38_84 hPv (by decide) hPX ?_
      refine x_iload f_38_87 rfl ?_
      refine x_aload_n f_38_89 rfl ?_
      refine x_iload f_38_90 rfl ?_
      refine x_iload f_38_92 rfl ?_
      refine x_iload f_38_94 rfl ?_
      refine x_iload f_38_96 rfl ?_
      refine x_callVe f_38_98 (k_leastCut c.1 hPv hPX hX ht hp hl d0 d1 d2 c_s) (by omega) hPv (by decide) rfl rfl (Nat.le_of_ble_eq_true rfl) rfl ?_
      refine x_iast (j := (ix t p l)) f_38_101 hX (by omega) hix (by decide) ?_
      refine x_goto (t := 160) f_38_102 (by decide) ?_
      refine x_iinc (v := nI (l + 1)) (ls1 := [.ref Pv, .ref 12, .ref (wA h w), .int (nI (sB (Wd h w 0 + 1))), .int (nI (sB (Wd h w 1 + 1))), .int (nI (sB (Wd h w 2 + 1))), .int (nI t), .int (nI p), .int (nI (l + 1)), .int (nI (ix t p l)), v10]) f_38_160 rfl (by exact nI_add _ 1) rfl ?_
      refine x_goto (t := 42) f_38_163 (by decide) ?_
      exact ih (l + 1) _ (by omega) (CJ_rw c ((Rw.rf g [X]).set (by simp)) (Fr_k c hX (by decide) h63X)) (hC.trans (((Rw.rf g [X]).set (by simp)).cg.mono (by simp))) (hD.put (by omega) (by omega) hpP hlL (fun q => mj_I_if rfl rfl)) _ _
set_option maxRecDepth 20000 in
theorem kfill_p {h : mj_H} {jm w : Nat} (hw : WC h w jm) {Pv X : Nat} (hPv0 : mj_K h Pv = (5, 1)) (hPX0 : mj_R h Pv 0 = some X) (hX0 : mj_K h X = (12, 9261)) (h63X : 63 ≤ X) (h63P : 63 ≤ Pv) {t : Nat} (htT : t < sB (Wd h w 0 + 1)) {Q : Option Value → mj_H → Prop}
  (K : ∀ (g : mj_H) (v7 v8 v9 v10 : Value), CJ g jm → Cg [X, 12, 13, 14, 15, 16] h g → FD (mj_I g X) (wg h w) (sB (Wd h w 0 + 1)) (sB (Wd h w 1 + 1)) (sB (Wd h w 2 + 1)) t (sB (Wd h w 1 + 1)) 0 → mx 4 38 172 [.ref Pv, .ref 12, .ref (wA h w), .int (nI (sB (Wd h w 0 + 1))), .int (nI (sB (Wd h w 1 + 1))), .int (nI (sB (Wd h w 2 + 1))), .int (nI t), v7, v8, v9, v10] [] g Q) :
  ∀ (n p : Nat) (g : mj_H), p + n = sB (Wd h w 1 + 1) → CJ g jm → Cg [X, 12, 13, 14, 15, 16] h g → FD (mj_I g X) (wg h w) (sB (Wd h w 0 + 1)) (sB (Wd h w 1 + 1)) (sB (Wd h w 2 + 1)) t p 0 → ∀ v8 v9 v10 : Value, mx 4 38 32 [.ref Pv, .ref 12, .ref (wA h w), .int (nI (sB (Wd h w 0 + 1))), .int (nI (sB (Wd h w 1 + 1))), .int (nI (sB (Wd h w 2 + 1))), .int (nI t), .int (nI p), v8, v9, v10] [] g Q := by
  have hN := hw.2.2.2.2
  have hL := hN.lb
  have h63 := hw.1.2.2.1
  have b0 := hL 0 (by decide)
  have b1 := hL 1 (by decide)
  have b2 := hL 2 (by decide)
  have hP12 : Pv ≠ 12 := by omega
  have hwX : wA h w ∉ [X, 12, 13, 14, 15, 16] := by
    intro q
    simp only [List.mem_cons, List.not_mem_nil, or_false] at q
    have hne : wA h w ≠ X := fun z => by have := hw.1.2.1; rw [z, hX0] at this; cases this
    omega
  have h36 : 36 ∉ [X, 12, 13, 14, 15, 16] := by
    intro q
    simp only [List.mem_cons, List.not_mem_nil, or_false] at q
    omega
  have l1 := sB_le (Wd h w 1 + 1) (by omega)
  intro n
  induction n with
  | zero =>
    intro p g hp0 c hC hD v8 v9 v10
    refine x_iload f_38_32 rfl ?_
    refine x_iload f_38_34 rfl ?_
    refine x_icmpN_ge (t := 172) f_38_36 (by decide) (by omega) (by omega) (fun c_1 => ?_) (fun c_1 => by omega)
    obtain rfl : p = sB (Wd h w 1 + 1) := by omega
    exact K g _ _ _ _ c hC hD
  | succ n ih =>
    intro p g hp0 c hC hD v8 v9 v10
    refine x_iload f_38_32 rfl ?_
    refine x_iload f_38_34 rfl ?_
    refine x_icmpN_ge (t := 172) f_38_36 (by decide) (by omega) (by omega) (fun c_1 => by omega) (fun c_1 => ?_)
    refine x_iconst (v := nI 0) f_38_39 (by decide) ?_
    refine x_istore (ls1 := [.ref Pv, .ref 12, .ref (wA h w), .int (nI (sB (Wd h w 0 + 1))), .int (nI (sB (Wd h w 1 + 1))), .int (nI (sB (Wd h w 2 + 1))), .int (nI t), .int (nI p), .int (nI 0), v9, v10]) f_38_40 (Nat.le_of_ble_eq_true rfl) rfl ?_
    refine kfill_l hw hPv0 hPX0 hX0 h63X h63P htT (by omega) (fun g2 v8 v9 v10 c2 hC2 hD2 => ?_) (sB (Wd h w 2 + 1)) 0 g (Nat.zero_add _) c hC hD _ _
    refine x_iinc (v := nI (p + 1)) (ls1 := [.ref Pv, .ref 12, .ref (wA h w), .int (nI (sB (Wd h w 0 + 1))), .int (nI (sB (Wd h w 1 + 1))), .int (nI (sB (Wd h w 2 + 1))), .int (nI t), .int (nI (p + 1)), v8, v9, v10]) f_38_166 rfl (by exact nI_add _ 1) rfl ?_
    refine x_goto (t := 32) f_38_169 (by decide) ?_
    exact ih (p + 1) g2 (by omega) c2 hC2 hD2.row _ _ _
set_option maxRecDepth 20000 in
theorem kfill_t {h : mj_H} {jm w : Nat} (hw : WC h w jm) {Pv X : Nat} (hPv0 : mj_K h Pv = (5, 1)) (hPX0 : mj_R h Pv 0 = some X) (hX0 : mj_K h X = (12, 9261)) (h63X : 63 ≤ X) (h63P : 63 ≤ Pv) :
  ∀ (n t : Nat) (g : mj_H), t + n = sB (Wd h w 0 + 1) → CJ g jm → Cg [X, 12, 13, 14, 15, 16] h g → FD (mj_I g X) (wg h w) (sB (Wd h w 0 + 1)) (sB (Wd h w 1 + 1)) (sB (Wd h w 2 + 1)) t 0 0 → ∀ v7 v8 v9 v10 : Value, mx 4 38 23 [.ref Pv, .ref 12, .ref (wA h w), .int (nI (sB (Wd h w 0 + 1))), .int (nI (sB (Wd h w 1 + 1))), .int (nI (sB (Wd h w 2 + 1))), .int (nI t), v7, v8, v9, v10] [] g (fun r h' => r = none ∧ CJ h' jm ∧ Cg [X, 12, 13, 14, 15, 16] h h' ∧ FD (mj_I h' X) (wg h w) (sB (Wd h w 0 + 1)) (sB (Wd h w 1 + 1)) (sB (Wd h w 2 + 1)) (sB (Wd h w 0 + 1)) 0 0) := by
  have hN := hw.2.2.2.2
  have hL := hN.lb
  have h63 := hw.1.2.2.1
  have b0 := hL 0 (by decide)
  have b1 := hL 1 (by decide)
  have b2 := hL 2 (by decide)
  have hP12 : Pv ≠ 12 := by omega
  have hwX : wA h w ∉ [X, 12, 13, 14, 15, 16] := by
    intro q
    simp only [List.mem_cons, List.not_mem_nil, or_false] at q
    have hne : wA h w ≠ X := fun z => by have := hw.1.2.1; rw [z, hX0] at this; cases this
    omega
  have h36 : 36 ∉ [X, 12, 13, 14, 15, 16] := by
    intro q
    simp only [List.mem_cons, List.not_mem_nil, or_false] at q
    omega
  have l1 := sB_le (Wd h w 0 + 1) (by omega)
  intro n
  induction n with
  | zero =>
    intro t g ht0 c hC hD v7 v8 v9 v10
    refine x_iload f_38_23 rfl ?_
    refine x_iload_n f_38_25 rfl ?_
    refine x_icmpN_ge (t := 178) f_38_26 (by decide) (by omega) (by omega) (fun c_1 => ?_) (fun c_1 => by omega)
    refine x_retV f_38_178 rfl ?_
    obtain rfl : t = sB (Wd h w 0 + 1) := by omega
    exact ⟨rfl, c, hC, hD⟩
  | succ n ih =>
    intro t g ht0 c hC hD v7 v8 v9 v10
    refine x_iload f_38_23 rfl ?_
    refine x_iload_n f_38_25 rfl ?_
    refine x_icmpN_ge (t := 178) f_38_26 (by decide) (by omega) (by omega) (fun c_1 => by omega) (fun c_1 => ?_)
    refine x_iconst (v := nI 0) f_38_29 (by decide) ?_
    refine x_istore (ls1 := [.ref Pv, .ref 12, .ref (wA h w), .int (nI (sB (Wd h w 0 + 1))), .int (nI (sB (Wd h w 1 + 1))), .int (nI (sB (Wd h w 2 + 1))), .int (nI t), .int (nI 0), v8, v9, v10]) f_38_30 (Nat.le_of_ble_eq_true rfl) rfl ?_
    refine kfill_p hw hPv0 hPX0 hX0 h63X h63P (by omega) (fun g2 v7 v8 v9 v10 c2 hC2 hD2 => ?_) (sB (Wd h w 1 + 1)) 0 g (Nat.zero_add _) c hC hD _ _ _
    refine x_iinc (v := nI (t + 1)) (ls1 := [.ref Pv, .ref 12, .ref (wA h w), .int (nI (sB (Wd h w 0 + 1))), .int (nI (sB (Wd h w 1 + 1))), .int (nI (sB (Wd h w 2 + 1))), .int (nI (t + 1)), v7, v8, v9, v10]) f_38_172 rfl (by exact nI_add _ 1) rfl ?_
    refine x_goto (t := 23) f_38_175 (by decide) ?_
    exact ih (t + 1) g2 (by omega) c2 hC2 hD2.plane _ _ _ _
set_option maxRecDepth 20000 in
theorem k_fill {h : mj_H} {jm w : Nat} (hw : WC h w jm) {Pv X : Nat} (hPv0 : mj_K h Pv = (5, 1)) (hPX0 : mj_R h Pv 0 = some X) (hX0 : mj_K h X = (12, 9261)) (h63X : 63 ≤ X) (h63P : 63 ≤ Pv) (c : CJ h jm) : mxc 4 38 [.ref Pv, .ref 12, .ref (wA h w)] h (fun r h' => r = none ∧ CJ h' jm ∧ Cg [X, 12, 13, 14, 15, 16] h h' ∧ FD (mj_I h' X) (wg h w) (sB (Wd h w 0 + 1)) (sB (Wd h w 1 + 1)) (sB (Wd h w 2 + 1)) (sB (Wd h w 0 + 1)) 0 0) := by
  have hN := hw.2.2.2.2
  have hL := hN.lb
  have h63 := hw.1.2.2.1
  have b0 := hL 0 (by decide)
  have b1 := hL 1 (by decide)
  have b2 := hL 2 (by decide)
  have hP12 : Pv ≠ 12 := by omega
  have hwX : wA h w ∉ [X, 12, 13, 14, 15, 16] := by
    intro q
    simp only [List.mem_cons, List.not_mem_nil, or_false] at q
    have hne : wA h w ≠ X := fun z => by have := hw.1.2.1; rw [z, hX0] at this; cases this
    omega
  have h36 : 36 ∉ [X, 12, 13, 14, 15, 16] := by
    intro q
    simp only [List.mem_cons, List.not_mem_nil, or_false] at q
    omega
  have zx := zz_ hL (t := 0) (p := 0) (l := 0) (by omega) (by omega) (by omega)
  have zy := zz_ hL (t := Wd h w 0) (p := Wd h w 1) (l := Wd h w 2) (by omega) (by omega) (by omega)
  show mx 4 38 0 [.ref Pv, .ref 12, .ref (wA h w), mj_unset, mj_unset, mj_unset, mj_unset, mj_unset, mj_unset, mj_unset, mj_unset] [] h _
  refine x_aload_n f_38_0 rfl ?_
  refine x_iconst (v := nI 0) f_38_1 (by decide) ?_
  refine x_callSe f_38_2 (k_stretchesOn0 c.1 hw.1.2.1 hw.2.2.1 hw.2.2.2.1 zx.1 zy.1 (W := Wd h w 0) (by omega) (by omega)) (by omega) rfl rfl rfl (Nat.le_of_ble_eq_true rfl) rfl ?_
  refine x_istore_n (ls1 := [.ref Pv, .ref 12, .ref (wA h w), .int (nI (sB (Wd h w 0 + 1))), mj_unset, mj_unset, mj_unset, mj_unset, mj_unset, mj_unset, mj_unset]) f_38_5 (Nat.le_of_ble_eq_true rfl) rfl ?_
  refine x_aload_n f_38_6 rfl ?_
  refine x_iconst (v := nI 1) f_38_7 (by decide) ?_
  refine x_callSe f_38_8 (k_stretchesOn1 c.1 hw.1.2.1 hw.2.2.1 hw.2.2.2.1 zx.1 zy.1 (W := Wd h w 1) (by omega) (by omega)) (by omega) rfl rfl rfl (Nat.le_of_ble_eq_true rfl) rfl ?_
  refine x_istore (ls1 := [.ref Pv, .ref 12, .ref (wA h w), .int (nI (sB (Wd h w 0 + 1))), .int (nI (sB (Wd h w 1 + 1))), mj_unset, mj_unset, mj_unset, mj_unset, mj_unset, mj_unset]) f_38_11 (Nat.le_of_ble_eq_true rfl) rfl ?_
  refine x_aload_n f_38_13 rfl ?_
  refine x_iconst (v := nI 2) f_38_14 (by decide) ?_
  refine x_callSe f_38_15 (k_stretchesOn2 c.1 hw.1.2.1 hw.2.2.1 hw.2.2.2.1 zx.1 zy.1 (W := Wd h w 2) (by omega) (by omega)) (by omega) rfl rfl rfl (Nat.le_of_ble_eq_true rfl) rfl ?_
  refine x_istore (ls1 := [.ref Pv, .ref 12, .ref (wA h w), .int (nI (sB (Wd h w 0 + 1))), .int (nI (sB (Wd h w 1 + 1))), .int (nI (sB (Wd h w 2 + 1))), mj_unset, mj_unset, mj_unset, mj_unset, mj_unset]) f_38_18 (Nat.le_of_ble_eq_true rfl) rfl ?_
  refine x_iconst (v := nI 0) f_38_20 (by decide) ?_
  refine x_istore (ls1 := [.ref Pv, .ref 12, .ref (wA h w), .int (nI (sB (Wd h w 0 + 1))), .int (nI (sB (Wd h w 1 + 1))), .int (nI (sB (Wd h w 2 + 1))), .int (nI 0), mj_unset, mj_unset, mj_unset, mj_unset]) f_38_21 (Nat.le_of_ble_eq_true rfl) rfl ?_
  exact kfill_t hw hPv0 hPX0 hX0 h63X h63P (sB (Wd h w 0 + 1)) 0 h (Nat.zero_add _) c (Cg.rf _ _) (fun t p l _ _ _ q => by omega) _ _ _ _
