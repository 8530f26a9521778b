/-! LEAVES, PROOFS, COPIES, GREATEST BOXES -/
theorem mj_I_W (h : mj_H) (a : Nat) (f : Nat → Int32) (q : Nat) : mj_I (mj_setW h a f) a q = f q := if_pos rfl
/-- what asking for a least row leaves -/
def LRe (h g : mj_H) (jm w : Nat) : Prop := ∃ Y X, ((h.1 ≤ X ∨ mj_K h X = (12, 9261)) ∧ 63 ≤ X) ∧ LRq h g jm w Y X 3 9800
set_option maxRecDepth 20000 in
theorem k_leavesN {h : mj_H} {jm w wm : Nat} (c : CJ h jm) (hw : WC h w jm) (h63h : 63 ≤ h.1) (ro : RowOk h w) (pv : PV h) (h_wm : wm ≤ 10) (e_wm : mj_I h 8 12 = nI wm) (h_w : w < wm) : mxc 6 80 [.ref 8, .int (nI w)] h (fun r h' => r = some (.int (nI (LW h w).1)) ∧ LRe h h' jm w) := by
  have hpl := PW_l216 hw.2.2.2.2
  have hwl := hw.1.2.2.2
  show mx 6 80 0 [.ref 8, .int (nI w), mj_unset] [] h _
  refine x_aload_n f_80_0 rfl ?_
  refine x_iload_n f_80_1 rfl ?_
  refine x_callVe f_80_2 (k_windowAt c.1 h_wm e_wm h_w hw.1.1) (by omega) c.1.k8 (by decide) rfl rfl (Nat.le_of_ble_eq_true rfl) rfl ?_
  refine x_astore_n (ls1 := [.ref 8, .int (nI w), .ref (wA h w)]) f_80_5 (Nat.le_of_ble_eq_true rfl) rfl ?_
  refine x_aload_n f_80_6 rfl ?_
  refine x_ifnonnull (t := 14) f_80_7 (by decide) ?_
  refine x_aload_n f_80_14 rfl ?_
  refine x_aload_n f_80_15 rfl ?_
  refine x_callV f_80_16 (k_leastRow c hw h63h ro pv) (by omega) c.1.k8 (by decide) rfl rfl (Nat.le_of_ble_eq_true rfl) rfl ?_
  rintro _ g ⟨Y, X, rfl, hX, q⟩
  have hRD := q.2.2.2.2.2.1
  have C := q.1.1
  have kY := hRD.2.1
  have kw : mj_K g (wA h w) = (9, 7) := (q.2.1.2.1 _ hwl).trans hw.1.2.1
  refine x_alen f_80_19 kY (by decide) ?_
  refine x_iconst (v := nI 1) f_80_20 (by decide) ?_
  refine x_iaddN f_80_21 ?_
  refine x_iconst (v := nI 2) f_80_22 (by decide) ?_
  refine x_idivN f_80_23 (by omega) (by decide) (by decide) ?_
  refine x_retI f_80_24 rfl ?_
  exact ⟨by rw [show ((((PW h w).length) + 1) / 2) = (LW h w).1 by omega], Y, X, hX, q⟩
set_option maxRecDepth 20000 in
theorem k_leaves0 {h : mj_H} (C : SC h) {wm : Nat} (h_wm : wm ≤ 10) (e_wm : mj_I h 8 12 = nI wm) (v : Int32) (hin : ¬ mIn v wm) : mxc 1 80 [.ref 8, .int v] h (fun r h' => r = some (.int (-1)) ∧ h' = h) := by
  show mx 1 80 0 [.ref 8, .int v, mj_unset] [] h _
  refine x_aload_n f_80_0 rfl ?_
  refine x_iload_n f_80_1 rfl ?_
  refine x_callVe f_80_2 (k_windowAt0 C _ h_wm e_wm hin) (by omega) C.k8 (by decide) rfl rfl (Nat.le_of_ble_eq_true rfl) rfl ?_
  refine x_astore_nN (ls1 := [.ref 8, .int v, .null]) f_80_5 (Nat.le_of_ble_eq_true rfl) rfl ?_
  refine x_aload_nN f_80_6 rfl ?_
  refine x_ifnonnullN f_80_7 ?_
  refine x_iconst (v := -1) f_80_10 (by decide) ?_
  refine x_goto (t := 24) f_80_11 (by decide) ?_
  refine x_retI f_80_24 rfl ?_
  exact ⟨rfl, rfl⟩
set_option maxRecDepth 20000 in
theorem k_proofN {h : mj_H} {jm w wm : Nat} (c : CJ h jm) (hw : WC h w jm) (h63h : 63 ≤ h.1) (ro : RowOk h w) (pv : PV h) (h_wm : wm ≤ 10) (e_wm : mj_I h 8 12 = nI wm) (h_w : w < wm) (k : Int32) : mxc 6 81 [.ref 8, .int (nI w), .int k] h (fun r h' => r = some (.int (pwA (PW h w) k)) ∧ LRe h h' jm w) := by
  have hpl := PW_l216 hw.2.2.2.2
  have hwl := hw.1.2.2.2
  show mx 6 81 0 [.ref 8, .int (nI w), .int k, mj_unset, mj_unset] [] h _
  refine x_aload_n f_81_0 rfl ?_
  refine x_iload_n f_81_1 rfl ?_
  refine x_callVe f_81_2 (k_windowAt c.1 h_wm e_wm h_w hw.1.1) (by omega) c.1.k8 (by decide) rfl rfl (Nat.le_of_ble_eq_true rfl) rfl ?_
  refine x_astore_n (ls1 := [.ref 8, .int (nI w), .int k, .ref (wA h w), mj_unset]) f_81_5 (Nat.le_of_ble_eq_true rfl) rfl ?_
  refine x_aload_n f_81_6 rfl ?_
  refine x_ifnonnull (t := 12) f_81_7 (by decide) ?_
  refine x_aload_n f_81_12 rfl ?_
  refine x_aload_n f_81_13 rfl ?_
  refine x_callV f_81_14 (k_leastRow c hw h63h ro pv) (by omega) c.1.k8 (by decide) rfl rfl (Nat.le_of_ble_eq_true rfl) rfl ?_
  rintro _ g ⟨Y, X, rfl, hX, q⟩
  have hRD := q.2.2.2.2.2.1
  have C := q.1.1
  have kY := hRD.2.1
  have kw : mj_K g (wA h w) = (9, 7) := (q.2.1.2.1 _ hwl).trans hw.1.2.1
  refine x_astore (ls1 := [.ref 8, .int (nI w), .int k, .ref (wA h w), .ref Y]) f_81_17 (Nat.le_of_ble_eq_true rfl) rfl ?_
  refine x_iload_n f_81_19 rfl ?_
  refine x_iconst (v := -1) f_81_20 (by decide) ?_
  refine x_icmp_ne (t := 28) f_81_21 (by decide) (fun c_m => ?_) (fun c_m => ?_)
  · refine x_iload_n f_81_28 rfl ?_
    refine x_if_lt (t := 46) f_81_29 (by decide) (fun c_0 => ?_) (fun c_0 => ?_)
    · refine x_iconst (v := -1) f_81_46 (by decide) ?_
      refine x_retI f_81_47 rfl ?_
      exact ⟨by unfold pwA; rw [if_neg c_m, if_neg (fun z => z.1 c_0)], Y, X, hX, q⟩
    · refine x_iload_n f_81_32 rfl ?_
      refine x_aload f_81_33 rfl ?_
      refine x_alen f_81_35 kY (by decide) ?_
      refine x_icmp_ge (t := 46) f_81_36 (by decide) (fun c_l => ?_) (fun c_l => ?_)
      · refine x_iconst (v := -1) f_81_46 (by decide) ?_
        refine x_retI f_81_47 rfl ?_
        exact ⟨by unfold pwA; rw [if_neg c_m, if_neg (fun z => absurd ((mIn_lt (n := (PW h w).length) (by omega)).mpr z).2 (Int32.not_lt.mpr c_l))], Y, X, hX, q⟩
      · have hin : mIn k (PW h w).length := (mIn_lt (by omega)).mp ⟨c_0, Int32.not_le.mp c_l⟩
        obtain ⟨i, hi, rfl⟩ := mIn_of hin (by omega)
        refine x_aload f_81_39 rfl ?_
        refine x_iload_n f_81_41 rfl ?_
        refine x_iald (j := i) f_81_42 kY (by omega) (by omega) ?_
        refine x_topi (w := nI ((PW h w).getD i 0)) (hRD.2.2.2.2.1 i hi) ?_
        refine x_goto (t := 47) f_81_43 (by decide) ?_
        refine x_retI f_81_47 rfl ?_
        exact ⟨by unfold pwA; rw [if_neg c_m, if_pos hin, nI_clamp (by omega)], Y, X, hX, q⟩
  · refine x_aload f_81_24 rfl ?_
    refine x_alen f_81_26 kY (by decide) ?_
    refine x_retI f_81_27 rfl ?_
    exact ⟨by unfold pwA; rw [if_pos c_m], Y, X, hX, q⟩
set_option maxRecDepth 20000 in
theorem k_proof0 {h : mj_H} (C : SC h) {wm : Nat} (h_wm : wm ≤ 10) (e_wm : mj_I h 8 12 = nI wm) (v : Int32) (hin : ¬ mIn v wm) (k : Int32) : mxc 1 81 [.ref 8, .int v, .int k] h (fun r h' => r = some (.int (-1)) ∧ h' = h) := by
  show mx 1 81 0 [.ref 8, .int v, .int k, mj_unset, mj_unset] [] h _
  refine x_aload_n f_81_0 rfl ?_
  refine x_iload_n f_81_1 rfl ?_
  refine x_callVe f_81_2 (k_windowAt0 C _ h_wm e_wm hin) (by omega) C.k8 (by decide) rfl rfl (Nat.le_of_ble_eq_true rfl) rfl ?_
  refine x_astore_nN (ls1 := [.ref 8, .int v, .int k, .null, mj_unset]) f_81_5 (Nat.le_of_ble_eq_true rfl) rfl ?_
  refine x_aload_nN f_81_6 rfl ?_
  refine x_ifnonnullN f_81_7 ?_
  refine x_iconst (v := -1) f_81_10 (by decide) ?_
  refine x_retI f_81_11 rfl ?_
  exact ⟨rfl, rfl⟩
set_option maxRecDepth 20000 in
theorem k_become {h : mj_H} (C : SC h) {Y n : Nat} (kY : mj_K h Y = (12, n)) (h63 : 63 ≤ Y) (hn : n ≤ 500) : mxc 0 56 [.ref 20, .ref Y] h (fun r h' => r = none ∧ Rw h h' [20, 21] ∧ mj_I h' 20 1 = nI n ∧ (∀ q, ¬ q = 1 → mj_I h' 20 q = mj_I h 20 q) ∧ ∀ q, mj_I h' 21 q = if q < n then mj_I h Y q else mj_I h 21 q) := by
  show mx 0 56 0 [.ref 20, .ref Y] [] h _
  refine x_aload_n f_56_0 rfl ?_
  refine x_aload_n f_56_1 rfl ?_
  refine x_alen f_56_2 kY (by decide) ?_
  refine x_sipush (v := nI 500) f_56_3 (by decide) ?_
  refine x_min f_56_6 (Nat.le_of_ble_eq_true rfl) ?_
  refine x_topi (w := nI n) (if_neg (by rw [Int32.not_lt, Int32.le_iff_toInt_le, nI_toInt (by omega), nI_toInt (by omega)]; omega)) ?_
  refine x_putI f_56_9 C.k20 (by decide) ?_
  refine x_aload_n f_56_12 rfl ?_
  refine x_iconst (v := nI 0) f_56_13 (by decide) ?_
  refine x_aload_n f_56_14 rfl ?_
  refine x_getR f_56_15 C.k20 (by decide) C.r20_0 ?_
  refine x_iconst (v := nI 0) f_56_18 (by decide) ?_
  refine x_aload_n f_56_19 rfl ?_
  refine x_getI f_56_20 C.k20 (by decide) ?_
  refine x_topi (w := nI n) (mj_I_at _ _ _ _) ?_
  refine x_cpy f_56_23 (Nat.le_of_ble_eq_true rfl) kY C.k21 ⟨by omega, by decide⟩ (by omega) (by omega) (by omega) ?_
  refine x_retV f_56_26 rfl ?_
  refine ⟨rfl, ⟨rfl, rfl, rfl, rfl, rfl, fun a ha => ?_⟩, mj_I_at h 20 1 (nI n), fun q hq => mj_I_ne (h := h) (a := 20) (x := nI n) hq, fun q => ?_⟩
  · have h1 : a ≠ 20 := fun q => ha (by rw [q]; decide)
    have h2 : a ≠ 21 := fun q => ha (by rw [q]; decide)
    funext i
    show (if a = 21 then _ else mj_I (mj_setI h 20 1 (nI n)) a i) = _
    rw [if_neg h2, mj_I_other h1]
  · refine (mj_I_W _ _ _ _).trans ?_
    unfold va_cpy
    rw [mj_I_other (by omega), mj_I_other (by decide), Nat.zero_add, Nat.sub_zero, Nat.zero_add]
    by_cases hq : q < n
    · rw [if_pos hq, if_pos ⟨Nat.zero_le _, hq⟩]
    · rw [if_neg hq, if_neg (fun z => hq z.2)]
set_option maxRecDepth 20000 in
theorem k_copyN {h : mj_H} {jm w wm : Nat} (c : CJ h jm) (hw : WC h w jm) (h63h : 63 ≤ h.1) (ro : RowOk h w) (pv : PV h) (h_wm : wm ≤ 10) (e_wm : mj_I h 8 12 = nI wm) (h_w : w < wm) : mxc 6 83 [.ref 8, .int (nI w)] h (fun r h' => r = some (.int (nI (PW h w).length)) ∧ ∃ g, LRe h g jm w ∧ Rw g h' [20, 21] ∧ mj_I h' 20 1 = nI (PW h w).length ∧ ∀ q, mj_I h' 21 q = if q < (PW h w).length then nI ((PW h w).getD q 0) else mj_I g 21 q) := by
  have hpl := PW_l216 hw.2.2.2.2
  have hwl := hw.1.2.2.2
  show mx 6 83 0 [.ref 8, .int (nI w), mj_unset] [] h _
  refine x_aload_n f_83_0 rfl ?_
  refine x_iload_n f_83_1 rfl ?_
  refine x_callVe f_83_2 (k_windowAt c.1 h_wm e_wm h_w hw.1.1) (by omega) c.1.k8 (by decide) rfl rfl (Nat.le_of_ble_eq_true rfl) rfl ?_
  refine x_astore_n (ls1 := [.ref 8, .int (nI w), .ref (wA h w)]) f_83_5 (Nat.le_of_ble_eq_true rfl) rfl ?_
  refine x_aload_n f_83_6 rfl ?_
  refine x_ifnonnull (t := 12) f_83_7 (by decide) ?_
  refine x_aload_n f_83_12 rfl ?_
  refine x_getR f_83_13 c.1.k8 (by decide) c.1.r8_5 ?_
  refine x_aload_n f_83_16 rfl ?_
  refine x_aload_n f_83_17 rfl ?_
  refine x_callV f_83_18 (k_leastRow c hw h63h ro pv) (by omega) c.1.k8 (by decide) rfl rfl (Nat.le_of_ble_eq_true rfl) rfl ?_
  rintro _ g ⟨Y, X, rfl, hX, q⟩
  have hRD := q.2.2.2.2.2.1
  have C := q.1.1
  have kY := hRD.2.1
  have kw : mj_K g (wA h w) = (9, 7) := (q.2.1.2.1 _ hwl).trans hw.1.2.1
  refine x_callV f_83_21 (k_become C kY hRD.2.2.1 (by omega)) (by omega) C.k20 (by decide) rfl rfl (Nat.le_of_ble_eq_true rfl) rfl ?_
  rintro _ g2 ⟨rfl, hR2, e1, _, e21⟩
  have C2 : SC g2 := hR2.sc C (by decide)
  refine x_aload_n f_83_24 rfl ?_
  refine x_getR f_83_25 C2.k8 (by decide) C2.r8_5 ?_
  refine x_getI f_83_28 C2.k20 (by decide) ?_
  refine x_topi (w := nI ((PW h w).length)) e1 ?_
  refine x_retI f_83_31 rfl ?_
  refine ⟨rfl, g, ⟨Y, X, hX, q⟩, hR2, e1, fun i => ?_⟩
  rw [e21 i]
  by_cases hi : i < (PW h w).length
  · rw [if_pos hi, if_pos hi]; exact hRD.2.2.2.2.1 i hi
  · rw [if_neg hi, if_neg hi]
set_option maxRecDepth 20000 in
theorem k_copy0 {h : mj_H} (C : SC h) {wm : Nat} (h_wm : wm ≤ 10) (e_wm : mj_I h 8 12 = nI wm) (v : Int32) (hin : ¬ mIn v wm) : mxc 1 83 [.ref 8, .int v] h (fun r h' => r = some (.int (-1)) ∧ h' = h) := by
  show mx 1 83 0 [.ref 8, .int v, mj_unset] [] h _
  refine x_aload_n f_83_0 rfl ?_
  refine x_iload_n f_83_1 rfl ?_
  refine x_callVe f_83_2 (k_windowAt0 C _ h_wm e_wm hin) (by omega) C.k8 (by decide) rfl rfl (Nat.le_of_ble_eq_true rfl) rfl ?_
  refine x_astore_nN (ls1 := [.ref 8, .int v, .null]) f_83_5 (Nat.le_of_ble_eq_true rfl) rfl ?_
  refine x_aload_nN f_83_6 rfl ?_
  refine x_ifnonnullN f_83_7 ?_
  refine x_iconst (v := -1) f_83_10 (by decide) ?_
  refine x_retI f_83_11 rfl ?_
  exact ⟨rfl, rfl⟩
theorem gbA_o {x : Nat × Nat × Nat} {z : Int32} (h : ¬ x.1 = 0) : gbA x z = if z = nI 0 then nI x.2.1 else if z = nI 1 then nI x.2.2 else nI x.1 := if_neg h
set_option maxRecDepth 20000 in
theorem k_greatestN {h : mj_H} {jm w wm : Nat} (c : CJ h jm) (hw : WC h w jm) (h63h : 63 ≤ h.1) (ro : RowOk h w) (pv : PV h) (h_wm : wm ≤ 10) (e_wm : mj_I h 8 12 = nI wm) (h_w : w < wm) (z : Int32) : mxc 6 87 [.ref 8, .int (nI w), .int z] h (fun r h' => ∃ x, GB (wg h w) (wlo h w) (Wd h w) x ∧ r = some (.int (if nI 0 ≤ z ∧ z ≤ nI 2 then gbA x z else -1)) ∧ LRe h h' jm w) := by
  have hpl := PW_l216 hw.2.2.2.2
  have hwl := hw.1.2.2.2
  show mx 6 87 0 [.ref 8, .int (nI w), .int z, mj_unset] [] h _
  refine x_aload_n f_87_0 rfl ?_
  refine x_iload_n f_87_1 rfl ?_
  refine x_callVe f_87_2 (k_windowAt c.1 h_wm e_wm h_w hw.1.1) (by omega) c.1.k8 (by decide) rfl rfl (Nat.le_of_ble_eq_true rfl) rfl ?_
  refine x_astore_n (ls1 := [.ref 8, .int (nI w), .int z, .ref (wA h w)]) f_87_5 (Nat.le_of_ble_eq_true rfl) rfl ?_
  refine x_aload_n f_87_6 rfl ?_
  refine x_ifnonnull (t := 12) f_87_7 (by decide) ?_
  refine x_aload_n f_87_12 rfl ?_
  refine x_aload_n f_87_13 rfl ?_
  refine x_callV f_87_14 (k_leastRow c hw h63h ro pv) (by omega) c.1.k8 (by decide) rfl rfl (Nat.le_of_ble_eq_true rfl) rfl ?_
  rintro _ g ⟨Y, X, rfl, hX, q⟩
  have hRD := q.2.2.2.2.2.1
  have C := q.1.1
  have kY := hRD.2.1
  have kw : mj_K g (wA h w) = (9, 7) := (q.2.1.2.1 _ hwl).trans hw.1.2.1
  obtain ⟨x, hx, hGB⟩ := hRD.2.2.2.2.2
  refine x_alen f_87_17 kY (by decide) ?_
  refine x_ifN_eq (t := 28) f_87_18 (by decide) (by have := hx.2.2.2; omega) (fun c_1 => by omega) (fun c_1 => ?_)
  refine x_aload_n f_87_21 rfl ?_
  refine x_getI f_87_22 kw (by decide) ?_
  refine x_topi (w := nI x.1) hx.1 ?_
  refine x_ifN_ne (t := 30) f_87_25 (by decide) (by have := hx.2.2.2; omega) (fun c_0 => ?_) (fun c_0 => ?_)
  · refine x_iload_n f_87_30 rfl ?_
    by_cases t_0 : z = nI 0
    · refine x_tsw (t := 56) (off := 25) f_87_31 (by rw [t_0]; decide) (by rw [t_0]; decide) (by decide) ?_
      refine x_aload_n f_87_56 rfl ?_
      refine x_getI f_87_57 kw (by decide) ?_
      refine x_topi (w := nI x.2.1) hx.2.1 ?_
      refine x_retI f_87_60 rfl ?_
      subst t_0
      exact ⟨x, hGB, by rw [if_pos (by decide), gbA_o c_0, if_pos rfl], Y, X, hX, q⟩
    by_cases t_1 : z = nI 1
    · refine x_tsw (t := 61) (off := 30) f_87_31 (by rw [t_1]; decide) (by rw [t_1]; decide) (by decide) ?_
      refine x_aload_n f_87_61 rfl ?_
      refine x_getI f_87_62 kw (by decide) ?_
      refine x_topi (w := nI x.2.2) hx.2.2.1 ?_
      refine x_retI f_87_65 rfl ?_
      subst t_1
      exact ⟨x, hGB, by rw [if_pos (by decide), gbA_o c_0, if_neg (by decide), if_pos rfl], Y, X, hX, q⟩
    by_cases t_2 : z = nI 2
    · refine x_tsw (t := 66) (off := 35) f_87_31 (by rw [t_2]; decide) (by rw [t_2]; decide) (by decide) ?_
      refine x_aload_n f_87_66 rfl ?_
      refine x_getI f_87_67 kw (by decide) ?_
      refine x_topi (w := nI x.1) hx.1 ?_
      refine x_retI f_87_70 rfl ?_
      subst t_2
      exact ⟨x, hGB, by rw [if_pos (by decide), gbA_o c_0, if_neg (by decide), if_neg (by decide)], Y, X, hX, q⟩
    refine x_tswD (t := 71) f_87_31 (by simp only [← Int32.toInt_inj, show (nI 0).toInt = 0 from rfl, show (nI 1).toInt = 1 from rfl, show (nI 2).toInt = 2 from rfl] at t_0 t_1 t_2; omega) (by decide) ?_
    refine x_iconst (v := -1) f_87_71 (by decide) ?_
    refine x_retI f_87_72 rfl ?_
    exact ⟨x, hGB, by rw [if_neg (by simp only [Int32.le_iff_toInt_le, ← Int32.toInt_inj, show (nI 0).toInt = 0 from rfl, show (nI 1).toInt = 1 from rfl, show (nI 2).toInt = 2 from rfl] at *; omega)], Y, X, hX, q⟩
  · refine x_iconst (v := -1) f_87_28 (by decide) ?_
    refine x_retI f_87_29 rfl ?_
    exact ⟨x, hGB, by rw [show gbA x z = -1 from if_pos c_0, ite_self], Y, X, hX, q⟩
set_option maxRecDepth 20000 in
theorem k_greatest0 {h : mj_H} (C : SC h) {wm : Nat} (h_wm : wm ≤ 10) (e_wm : mj_I h 8 12 = nI wm) (v : Int32) (hin : ¬ mIn v wm) (z : Int32) : mxc 1 87 [.ref 8, .int v, .int z] h (fun r h' => r = some (.int (-1)) ∧ h' = h) := by
  show mx 1 87 0 [.ref 8, .int v, .int z, mj_unset] [] h _
  refine x_aload_n f_87_0 rfl ?_
  refine x_iload_n f_87_1 rfl ?_
  refine x_callVe f_87_2 (k_windowAt0 C _ h_wm e_wm hin) (by omega) C.k8 (by decide) rfl rfl (Nat.le_of_ble_eq_true rfl) rfl ?_
  refine x_astore_nN (ls1 := [.ref 8, .int v, .int z, .null]) f_87_5 (Nat.le_of_ble_eq_true rfl) rfl ?_
  refine x_aload_nN f_87_6 rfl ?_
  refine x_ifnonnullN f_87_7 ?_
  refine x_iconst (v := -1) f_87_10 (by decide) ?_
  refine x_retI f_87_11 rfl ?_
  exact ⟨rfl, rfl⟩
