/-! THE LEAST ROW of a window, searched once -/
set_option maxRecDepth 20000 in
theorem k_rowOf {h : mj_H} (C : SC h) (h63 : 63 ≤ h.1) {Pv X A : Nat} {G : Gd} {L W : Nat → Nat} (hL : LB L W) (h63P : 63 ≤ Pv) (h63X : 63 ≤ X) (h63A : 63 ≤ A) (hPl : Pv < h.1) (hXl : X < h.1) (hAl : A < h.1) (hPv : mj_K h Pv = (5, 1)) (hPX : mj_R h Pv 0 = some X) (hX : mj_K h X = (12, 9261)) (hA : mj_K h A = (9, 7)) (i1 : mj_I h A 1 = nI (zz L 0 0 0)) (i2 : mj_I h A 2 = nI (zz L (W 0) (W 1) (W 2)))
  (hD : FD (mj_I h X) G (sB (W 0 + 1)) (sB (W 1 + 1)) (sB (W 2 + 1)) (sB (W 0 + 1)) 0 0) (l : List Nat) (hl : l = PF G 0 (W 0) 0 (W 1) 0 (W 2)) : mxc 3 41 [.ref Pv, .ref 17, .ref A] h (fun r h' => r = some (.ref h.1) ∧ Rw (mj_new h 12 l.length) h' [17, 18, 19, h.1] ∧ SC h' ∧ ∀ q, q < l.length → mj_I h' h.1 q = nI (l.getD q 0)) := by
  have b0 := hL 0 (by decide)
  have b1 := hL 1 (by decide)
  have b2 := hL 2 (by decide)
  have hBX : BX W 0 (W 0) 0 (W 1) 0 (W 2) := ⟨by omega, by omega, by omega, by omega, by omega, by omega⟩
  have hcb := hD.box (by omega) hBX
  have hlen := PF_len G 16 0 (W 0) 0 (W 1) 0 (W 2) (by omega) (by omega) (by omega) (by omega) (by omega) (by omega) (by unfold spn; omega)
  rw [← hl] at hlen
  have h216 := LV_216 G (a := 0) (b := W 0) (c := 0) (d := W 1) (e := 0) (f := W 2) (by omega) (by omega) (by omega) (by omega) (by omega) (by omega)
  have h32 := LV_32 G (a := 0) (b := W 0) (c := 0) (d := W 1) (e := 0) (f := W 2) (by omega) (by omega) (by omega) (by omega) (by omega) (by omega)
  have hp0 := LV_pos G 0 (W 0) 0 (W 1) 0 (W 2)
  have hdiv : enc (LV G 0 (W 0) 0 (W 1) 0 (W 2)) / 32 = (LV G 0 (W 0) 0 (W 1) 0 (W 2)).1 := enc_div (by omega)
  have hde : enc (LV G 0 (W 0) 0 (W 1) 0 (W 2)) = 32 * (LV G 0 (W 0) 0 (W 1) 0 (W 2)).1 + (LV G 0 (W 0) 0 (W 1) 0 (W 2)).2 := rfl
  have CN := SC_new C h63 12 l.length
  have hAN : mj_K (mj_new h 12 l.length) A = (9, 7) := (mj_K_new (by omega)).trans hA
  have i1N : mj_I (mj_new h 12 l.length) A 1 = nI (zz L 0 0 0) := (congrFun (mj_I_new (by omega)) 1).trans i1
  have i2N : mj_I (mj_new h 12 l.length) A 2 = nI (zz L (W 0) (W 1) (W 2)) := (congrFun (mj_I_new (by omega)) 2).trans i2
  show mx 3 41 0 [.ref Pv, .ref 17, .ref A, mj_unset, mj_unset, mj_unset] [] h _
  refine x_aload_n f_41_0 rfl ?_
  refine x_getR f_41_1 hPv (by decide) hPX ?_
  refine x_aload_n f_41_4 rfl ?_
  refine x_aload_n f_41_5 rfl ?_
  refine x_getI f_41_6 hA (by decide) ?_
  refine x_topi (w := nI (zz L 0 0 0)) i1 ?_
  refine x_aload_n f_41_9 rfl ?_
  refine x_getI f_41_10 hA (by decide) ?_
  refine x_topi (w := nI (zz L (W 0) (W 1) (W 2))) i2 ?_
  refine x_callSe f_41_13 (k_cellAt C hA hL i1 hBX) (by omega) rfl rfl rfl (Nat.le_of_ble_eq_true rfl) rfl ?_
  refine x_iald (j := (ix (sx 0 (W 0)) (sx 0 (W 1)) (sx 0 (W 2)))) f_41_16 hX hcb.1 (by decide) ?_
  refine x_topi (w := nI (enc (LV G 0 (W 0) 0 (W 1) 0 (W 2)))) hcb.2 ?_
  refine x_bipush (v := nI 32) f_41_17 (by decide) ?_
  refine x_idivN f_41_19 (by omega) (by decide) (by decide) ?_
  refine x_istore_n (ls1 := [.ref Pv, .ref 17, .ref A, .int (nI ((enc (LV G 0 (W 0) 0 (W 1) 0 (W 2))) / 32)), mj_unset, mj_unset]) f_41_20 (Nat.le_of_ble_eq_true rfl) rfl ?_
  refine x_iconst (v := nI 2) f_41_21 (by decide) ?_
  refine x_iload_n f_41_22 rfl ?_
  refine x_imulN f_41_23 ?_
  refine x_iconst (v := nI 1) f_41_24 (by decide) ?_
  refine x_isubN f_41_25 (by omega) ?_
  refine x_iconst (v := nI 0) f_41_26 (by decide) ?_
  refine x_max f_41_27 (Nat.le_of_ble_eq_true rfl) ?_
  refine x_topi (w := nI l.length) (by rw [if_neg (by rw [Int32.not_lt, Int32.le_iff_toInt_le, nI_toInt (by omega), nI_toInt (by omega)]; omega), show 2 * (enc (LV G 0 (W 0) 0 (W 1) 0 (W 2)) / 32) - 1 = l.length by rw [hdiv]; omega]) ?_
  refine x_newa f_41_30 (by omega) ?_
  refine x_astore (ls1 := [.ref Pv, .ref 17, .ref A, .int (nI ((enc (LV G 0 (W 0) 0 (W 1) 0 (W 2))) / 32)), .ref h.1, mj_unset]) f_41_32 (Nat.le_of_ble_eq_true rfl) rfl ?_
  refine x_aload_n f_41_34 rfl ?_
  refine x_aload_n f_41_35 rfl ?_
  refine x_getI f_41_36 hAN (by decide) ?_
  refine x_topi (w := nI (zz L 0 0 0)) i1N ?_
  refine x_aload_n f_41_39 rfl ?_
  refine x_getI f_41_40 hAN (by decide) ?_
  refine x_topi (w := nI (zz L (W 0) (W 1) (W 2))) i2N ?_
  refine x_callV f_41_43 (k_begin CN _ _) (by omega) CN.k17 (by decide) rfl rfl (Nat.le_of_ble_eq_true rfl) rfl ?_
  rintro _ g ⟨rfl, hR, e2, i18, i19⟩
  refine x_iconst (v := nI 0) f_41_46 (by decide) ?_
  refine x_istore (ls1 := [.ref Pv, .ref 17, .ref A, .int (nI ((enc (LV G 0 (W 0) 0 (W 1) 0 (W 2))) / 32)), .ref h.1, .int (nI 0)]) f_41_47 (Nat.le_of_ble_eq_true rfl) rfl ?_
  exact krow_l (h := mj_new h 12 l.length) hL h63P h63X h63A h63 (by omega) (by omega) ((mj_K_new (by omega)).trans hPv) ((congrFun (mj_R_new (by omega)) 0).trans hPX) ((mj_K_new (by omega)).trans hX) hAN i1N l (mj_K_newA _ _ _) (by omega) (by rw [mj_I_new (by omega)]; exact hD) l.length 0 g [(0, W 0, 0, W 1, 0, W 2)] (Nat.zero_add _) (hR.sc CN (by decide)) (hR.mono (by simp)) ⟨e2, ⟨i18, i19, trivial⟩, ⟨(show 0 + spn 0 (W 0) 0 (W 1) 0 (W 2) ≤ 15 by unfold spn; omega), hBX, trivial⟩⟩ (by rw [List.drop_zero, hl]; exact (List.append_nil _).symm) (fun q hq => absurd hq (Nat.not_lt_zero q))
