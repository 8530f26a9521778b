/-! THE BENCH: a weld -/
theorem jd_f_le (M : Nat → Int32) (T : tk_R) : ∀ n r, (jd_f M T n r).1 ≤ 4
  | 0, _ => Nat.zero_le _
  | n + 1, r => by
    rw [jd_f_s]
    by_cases h : flt M T r = 0
    · rw [if_pos h]; exact jd_f_le M T n (r + 1)
    · rw [if_neg h]; exact flt_le M T r
theorem lset_J {x y : mj_H} (e : mj_J x = mj_J y) (D z : Nat) : mj_J (lset x D z) = mj_J (lset y D z) := by
  funext a i
  unfold lset
  rw [mj_J_set, mj_J_set, e]
def h1w (h : mj_H) (A z : Nat) : mj_H := mj_setI (mj_setR h 12 4 (some A)) 12 5 (nI z)
theorem h1w_sc {h : mj_H} (C : SC h) (A z : Nat) : SC (h1w h A z) := C.to (fun _ _ => rfl) (fun e he => by
    have : ¬ (e.1 = 12 ∧ e.2.1 = 4) := by revert e; decide
    show mj_R (mj_setR h 12 4 (some A)) e.1 e.2.1 = _
    rw [mj_R_set]
    by_cases q : e.1 = 12
    · rw [if_pos q, if_neg (fun w => this ⟨q, w⟩)]
    · rw [if_neg q]) (fun a ha => mj_I_other (by omega))
theorem h1w_z {h : mj_H} (Z : ZC h) (A z : Nat) : ZC (h1w h A z) := fun a ha q hq => (congrFun (mj_I_other (by revert a; decide)) q).trans (Z a ha q hq)
theorem h1w_r {h : mj_H} {A z q i : Nat} (hq : q ≠ 12) : mj_R (h1w h A z) q i = mj_R h q i := congrFun (mj_R_other hq) i
theorem h1w_j {h : mj_H} {A U rg : Nat} {M : Nat → Int32} (J : JH h A U rg M) (hA : A ≠ 12) (z : Nat) : JH (h1w h A z) A U rg M :=
  ⟨J.1, (h1w_r hA).trans J.2.1, J.2.2.1, J.2.2.2.1, (mj_I_other (by have := J.2.2.2.1; omega)).trans J.2.2.2.2.1, J.2.2.2.2.2⟩
/-- what a weld leaves -/
def WE (h h' : mj_H) (A D F z rg : Nat) (M : Nat → Int32) : Prop := h'.1 = h.1 ∧ h'.2.1 = h.2.1 ∧ mj_K h' = mj_K h ∧ (∀ a, a ∉ [12, 13, 14, 15, 16] → mj_I h' a = mj_I h a) ∧ mj_R h' = mj_R (mj_setR h 12 4 (some A)) ∧ mj_J h' = mj_J (if (jd M rg z).1 = 0 then lset (lset h D z) F z else lset h D z) ∧ cT h' = wd_T M rg z ∧ mj_I h' 12 5 = nI z ∧ mj_I h' 12 6 = nI (wd_1 M rg z).1 ∧ mj_I h' 12 7 = nI (jd M rg z).1 ∧ mj_I h' 12 8 = (jd M rg z).2
theorem WE_of {h g g' : mj_H} {A D F z rg v : Nat} {M : Nat → Int32} (hR : Rw (h1w h A z) g [12, 13, 14, 15, 16]) (hT : cT g = wd_T M rg z) (e5 : mj_I g 12 5 = nI z) (e6 : mj_I g 12 6 = nI (wd_1 M rg z).1) (e8 : mj_I g 12 8 = (jd M rg z).2) (ev : v = (jd M rg z).1)
  (e' : g' = if v = 0 then lset (lset (mj_setI g 12 7 (nI v)) D z) F z else lset (mj_setI g 12 7 (nI v)) D z) : WE h g' A D F z rg M := by
  have hJ : mj_J (mj_setI g 12 7 (nI v)) = mj_J h := hR.2.2.2.1
  have hI : mj_I g' = mj_I (mj_setI g 12 7 (nI v)) := by rw [e']; split <;> rfl
  have hK : mj_K g' = mj_K g := by rw [e']; split <;> rfl
  have hRR : mj_R g' = mj_R g := by rw [e']; split <;> rfl
  have h1 : g'.1 = g.1 := by rw [e']; split <;> rfl
  have h2 : g'.2.1 = g.2.1 := by rw [e']; split <;> rfl
  refine ⟨h1.trans hR.1, h2.trans hR.2.1, hK.trans hR.2.2.1, fun a ha => ?_, hRR.trans hR.2.2.2.2.1, ?_, ?_, ?_, ?_, ?_, ?_⟩
  · rw [hI, mj_I_other (fun q => ha (by rw [q]; decide)), hR.i ha]
    exact mj_I_other (fun q => ha (by rw [q]; decide))
  · rw [e', ← ev]
    by_cases h0 : v = 0
    · rw [if_pos h0, if_pos h0]; exact lset_J (lset_J hJ D z) F z
    · rw [if_neg h0, if_neg h0]; exact lset_J hJ D z
  · rw [← hT, ← cT_12 g 7 (nI v)]
    unfold cT
    rw [hI]
  · rw [hI, mj_I_ne (by decide)]; exact e5
  · rw [hI, mj_I_ne (by decide)]; exact e6
  · rw [hI, mj_I_at, ev]
  · rw [hI, mj_I_ne (by decide)]; exact e8
set_option maxRecDepth 20000 in
theorem kweld_17 {h : mj_H} (C : SC h) (Z : ZC h) {A U D F rg : Nat} {M : Nat → Int32} (J : JH h A U rg M) (hRD : mj_R h A 3 = some D) (hD : mj_K h D = (13, 12)) (hRF : mj_R h A 4 = some F) (hF : mj_K h F = (13, 12)) {z : Nat} (hz : z < 729) (v3 : Value) : mx 2 2 17 [.ref 12, .ref A, .int (nI z), v3] [] h (fun r h' => r = none ∧ WE h h' A D F z rg M) := by
  have hA12 : A ≠ 12 := fun q => by have := J.1; rw [q, C.k12] at this; cases this
  have Ch := h1w_sc C A z
  have Zh := h1w_z Z A z
  have Jh := h1w_j J hA12 z
  by_cases hlt : wd_lt rg z (wd_1 M rg z).2 = true
  · skip
    refine x_aload_n f_2_17 rfl ?_
    refine x_aload_n f_2_18 rfl ?_
    refine x_putR f_2_19 C.k12 (by decide) ?_
    refine x_aload_n f_2_22 rfl ?_
    refine x_iload_n f_2_23 rfl ?_
    refine x_putI f_2_24 C.k12 (by decide) ?_
    refine x_aload_n f_2_27 rfl ?_
    refine x_callV f_2_28 (k_layCold Ch Zh) (by omega) C.k12 (by decide) rfl rfl (Nat.le_of_ble_eq_true rfl) rfl ?_
    rintro _ g1 ⟨rfl, hR1, hF1, e6, e8, hT1⟩
    have hR1 : Rw (h1w h A z) g1 [12, 13, 14, 15, 16] := hR1
    have C1 := hR1.sc Ch (by decide)
    have J1 := Jh.to hR1 (by decide)
    refine x_aload_n f_2_31 rfl ?_
    refine x_aload_n f_2_32 rfl ?_
    refine x_iload_n f_2_33 rfl ?_
    refine x_callV f_2_34 (k_rub C1 J1 hz e6 (by rw [hT1]; exact ⟨rfl, rfl, rfl⟩) (fun q _ => congrFun (congrArg (fun x : tk_R => x.2.2.2) hT1) q)) (by omega) C1.k12 (by decide) rfl rfl (Nat.le_of_ble_eq_true rfl) rfl ?_
    rintro _ g2 ⟨hr2, hR2, hF2, h6, hE2, hT2, hz2⟩
    rw [if_pos hlt] at hr2
    subst hr2
    refine x_topi (w := nI 0) rfl ?_
    have C2 := hR2.sc C1 (by decide)
    have J2 := J1.to hR2 (by decide)
    refine x_ifN_ne (t := 44) f_2_37 (by decide) (by decide) (fun c_1 => by omega) (fun c_1 => ?_)
    refine x_iconst (v := nI 1) f_2_40 (by decide) ?_
    refine x_goto (t := 45) f_2_41 (by decide) ?_
    refine x_istore_n (ls1 := [.ref 12, .ref A, .int (nI z), .int (nI 1)]) f_2_45 (Nat.le_of_ble_eq_true rfl) rfl ?_
    refine x_aload_n f_2_46 rfl ?_
    refine x_aload_n f_2_47 rfl ?_
    refine x_iload_n f_2_48 rfl ?_
    refine x_callV f_2_49 (k_press C2 J2 hz hE2 hT2 hz2) (by omega) C2.k12 (by decide) rfl rfl (Nat.le_of_ble_eq_true rfl) rfl ?_
    rintro _ g3 ⟨rfl, hR3, hE3, hT3, hz3⟩
    have C3 := hR3.sc C2 (by decide)
    have J3 := J2.to hR3 (by decide)
    refine x_aload_n f_2_52 rfl ?_
    refine x_aload_n f_2_53 rfl ?_
    refine x_callV f_2_54 (k_cool C3 J3 hE3 hT3 (it_FZ 5 _ (rub_FZ 60 0 _ rfl)) hz3) (by omega) C3.k12 (by decide) rfl rfl (Nat.le_of_ble_eq_true rfl) rfl ?_
    rintro _ g4 ⟨rfl, hR4, hT4⟩
    have C4 := hR4.sc C3 (by decide)
    have J4 := J3.to hR4 (by decide)
    have hT4 : cT g4 = wd_T M rg z := hT4
    have k8 : mj_I g4 12 8 = -1 := (congrFun (hR4.i (by decide)) 8).trans ((congrFun (hR3.i (by decide)) 8).trans ((hF2 8 (by decide)).trans e8))
    have k6 : mj_I g4 12 6 = nI (wd_1 M rg z).1 := (congrFun (hR4.i (by decide)) 6).trans ((congrFun (hR3.i (by decide)) 6).trans h6)
    have k5 : mj_I g4 12 5 = nI z := (congrFun (hR4.i (by decide)) 5).trans ((congrFun (hR3.i (by decide)) 5).trans ((hF2 5 (by decide)).trans ((hF1 5 (by decide) (by decide)).trans (mj_I_at _ _ _ _))))
    have hR := ((hR1.trans hR2).trans (hR3.mono (by decide))).trans (hR4.mono (by decide))
    refine x_aload_n f_2_57 rfl ?_
    refine x_iload_n f_2_58 rfl ?_
    refine x_ifN_eq (t := 66) f_2_59 (by decide) (by decide) (fun c_2 => by omega) (fun c_2 => ?_)
    refine x_iconst (v := nI 1) f_2_62 (by decide) ?_
    refine x_goto (t := 71) f_2_63 (by decide) ?_
    refine x_putI f_2_71 C4.k12 (by decide) ?_
    refine x_aload_n f_2_74 rfl ?_
    refine x_iload_n f_2_75 rfl ?_
    refine x_aload_n f_2_76 rfl ?_
    refine x_getI f_2_77 C4.k12 (by decide) ?_
    refine x_topi (w := nI 1) (mj_I_at _ _ _ _) ?_
    refine x_ifN_ne (t := 87) f_2_80 (by decide) (by decide) (fun c_v => ?_) (fun c_v => by omega)
    refine x_iconst (v := nI 0) f_2_87 (by decide) ?_
    refine x_callV f_2_88 (k_judge0 (h := mj_setI g4 12 7 (nI 1)) (D := D) (F := F) J4.1 (by show mj_R g4 A 3 = _; rw [hR.2.2.2.2.1, h1w_r hA12]; exact hRD) (by show mj_K g4 D = _; rw [hR.2.2.1]; exact hD) (by show mj_R g4 A 4 = _; rw [hR.2.2.2.2.1, h1w_r hA12]; exact hRF) (by show mj_K g4 F = _; rw [hR.2.2.1]; exact hF) hz) (by omega) J4.1 (by decide) rfl rfl (Nat.le_of_ble_eq_true rfl) rfl ?_
    rintro _ _ ⟨rfl, rfl⟩
    refine x_retV f_2_91 rfl ?_
    have hQ : jd M rg z = (1, -1) := if_pos hlt
    exact ⟨rfl, WE_of (v := 1) hR hT4 k5 k6 (by rw [hQ]; exact k8) (by rw [hQ]) rfl⟩
  · skip
    refine x_aload_n f_2_17 rfl ?_
    refine x_aload_n f_2_18 rfl ?_
    refine x_putR f_2_19 C.k12 (by decide) ?_
    refine x_aload_n f_2_22 rfl ?_
    refine x_iload_n f_2_23 rfl ?_
    refine x_putI f_2_24 C.k12 (by decide) ?_
    refine x_aload_n f_2_27 rfl ?_
    refine x_callV f_2_28 (k_layCold Ch Zh) (by omega) C.k12 (by decide) rfl rfl (Nat.le_of_ble_eq_true rfl) rfl ?_
    rintro _ g1 ⟨rfl, hR1, hF1, e6, e8, hT1⟩
    have hR1 : Rw (h1w h A z) g1 [12, 13, 14, 15, 16] := hR1
    have C1 := hR1.sc Ch (by decide)
    have J1 := Jh.to hR1 (by decide)
    refine x_aload_n f_2_31 rfl ?_
    refine x_aload_n f_2_32 rfl ?_
    refine x_iload_n f_2_33 rfl ?_
    refine x_callV f_2_34 (k_rub C1 J1 hz e6 (by rw [hT1]; exact ⟨rfl, rfl, rfl⟩) (fun q _ => congrFun (congrArg (fun x : tk_R => x.2.2.2) hT1) q)) (by omega) C1.k12 (by decide) rfl rfl (Nat.le_of_ble_eq_true rfl) rfl ?_
    rintro _ g2 ⟨hr2, hR2, hF2, h6, hE2, hT2, hz2⟩
    rw [if_neg hlt] at hr2
    subst hr2
    refine x_topi (w := nI 1) rfl ?_
    have C2 := hR2.sc C1 (by decide)
    have J2 := J1.to hR2 (by decide)
    refine x_ifN_ne (t := 44) f_2_37 (by decide) (by decide) (fun c_1 => ?_) (fun c_1 => by omega)
    refine x_iconst (v := nI 0) f_2_44 (by decide) ?_
    refine x_istore_n (ls1 := [.ref 12, .ref A, .int (nI z), .int (nI 0)]) f_2_45 (Nat.le_of_ble_eq_true rfl) rfl ?_
    refine x_aload_n f_2_46 rfl ?_
    refine x_aload_n f_2_47 rfl ?_
    refine x_iload_n f_2_48 rfl ?_
    refine x_callV f_2_49 (k_press C2 J2 hz hE2 hT2 hz2) (by omega) C2.k12 (by decide) rfl rfl (Nat.le_of_ble_eq_true rfl) rfl ?_
    rintro _ g3 ⟨rfl, hR3, hE3, hT3, hz3⟩
    have C3 := hR3.sc C2 (by decide)
    have J3 := J2.to hR3 (by decide)
    refine x_aload_n f_2_52 rfl ?_
    refine x_aload_n f_2_53 rfl ?_
    refine x_callV f_2_54 (k_cool C3 J3 hE3 hT3 (it_FZ 5 _ (rub_FZ 60 0 _ rfl)) hz3) (by omega) C3.k12 (by decide) rfl rfl (Nat.le_of_ble_eq_true rfl) rfl ?_
    rintro _ g4 ⟨rfl, hR4, hT4⟩
    have C4 := hR4.sc C3 (by decide)
    have J4 := J3.to hR4 (by decide)
    have hT4 : cT g4 = wd_T M rg z := hT4
    have k8 : mj_I g4 12 8 = -1 := (congrFun (hR4.i (by decide)) 8).trans ((congrFun (hR3.i (by decide)) 8).trans ((hF2 8 (by decide)).trans e8))
    have k6 : mj_I g4 12 6 = nI (wd_1 M rg z).1 := (congrFun (hR4.i (by decide)) 6).trans ((congrFun (hR3.i (by decide)) 6).trans h6)
    have k5 : mj_I g4 12 5 = nI z := (congrFun (hR4.i (by decide)) 5).trans ((congrFun (hR3.i (by decide)) 5).trans ((hF2 5 (by decide)).trans ((hF1 5 (by decide) (by decide)).trans (mj_I_at _ _ _ _))))
    have hR := ((hR1.trans hR2).trans (hR3.mono (by decide))).trans (hR4.mono (by decide))
    refine x_aload_n f_2_57 rfl ?_
    refine x_iload_n f_2_58 rfl ?_
    refine x_ifN_eq (t := 66) f_2_59 (by decide) (by decide) (fun c_2 => ?_) (fun c_2 => by omega)
    refine x_aload_n f_2_66 rfl ?_
    refine x_aload_n f_2_67 rfl ?_
    refine x_callV f_2_68 (k_firstFault C4 J4 k8) (by omega) C4.k12 (by decide) rfl rfl (Nat.le_of_ble_eq_true rfl) rfl ?_
    rintro _ g5 ⟨rfl, hR5, hF5, e58⟩
    have C5 := hR5.sc C4 (by decide)
    have J5 := J4.to hR5 (by decide)
    have hR := hR.trans (hR5.mono (by decide))
    have hle := jd_f_le M (cT g4) rg 0
    have hT5 : cT g5 = wd_T M rg z := by
      rw [← hT4]
      unfold cT
      rw [hR5.i (by decide), hR5.i (by decide), hR5.i (by decide), hR5.i (by decide)]
    have hQ : jd M rg z = jd_f M (cT g4) rg 0 := by rw [hT4]; exact if_neg hlt
    refine x_putI f_2_71 C5.k12 (by decide) ?_
    refine x_aload_n f_2_74 rfl ?_
    refine x_iload_n f_2_75 rfl ?_
    refine x_aload_n f_2_76 rfl ?_
    refine x_getI f_2_77 C5.k12 (by decide) ?_
    refine x_topi (w := nI ((jd_f M (cT g4) rg 0).1)) (mj_I_at _ _ _ _) ?_
    refine x_ifN_ne (t := 87) f_2_80 (by decide) (by omega) (fun c_v => ?_) (fun c_v => ?_)
    · refine x_iconst (v := nI 0) f_2_87 (by decide) ?_
      refine x_callV f_2_88 (k_judge0 (h := mj_setI g5 12 7 (nI ((jd_f M (cT g4) rg 0).1))) (D := D) (F := F) J5.1 (by show mj_R g5 A 3 = _; rw [hR.2.2.2.2.1, h1w_r hA12]; exact hRD) (by show mj_K g5 D = _; rw [hR.2.2.1]; exact hD) (by show mj_R g5 A 4 = _; rw [hR.2.2.2.2.1, h1w_r hA12]; exact hRF) (by show mj_K g5 F = _; rw [hR.2.2.1]; exact hF) hz) (by omega) J5.1 (by decide) rfl rfl (Nat.le_of_ble_eq_true rfl) rfl ?_
      rintro _ _ ⟨rfl, rfl⟩
      refine x_retV f_2_91 rfl ?_
      exact ⟨rfl, WE_of (v := (jd_f M (cT g4) rg 0).1) hR hT5 ((hF5 5 (by decide)).trans k5) ((hF5 6 (by decide)).trans k6) (by rw [hQ]; exact e58) (by rw [hQ]) (if_neg c_v).symm⟩
    · refine x_iconst (v := nI 1) f_2_83 (by decide) ?_
      refine x_goto (t := 88) f_2_84 (by decide) ?_
      refine x_callV f_2_88 (k_judge1 (h := mj_setI g5 12 7 (nI ((jd_f M (cT g4) rg 0).1))) (D := D) (F := F) J5.1 (by show mj_R g5 A 3 = _; rw [hR.2.2.2.2.1, h1w_r hA12]; exact hRD) (by show mj_K g5 D = _; rw [hR.2.2.1]; exact hD) (by show mj_R g5 A 4 = _; rw [hR.2.2.2.2.1, h1w_r hA12]; exact hRF) (by show mj_K g5 F = _; rw [hR.2.2.1]; exact hF) hz) (by omega) J5.1 (by decide) rfl rfl (Nat.le_of_ble_eq_true rfl) rfl ?_
      rintro _ _ ⟨rfl, rfl⟩
      refine x_retV f_2_91 rfl ?_
      exact ⟨rfl, WE_of (v := (jd_f M (cT g4) rg 0).1) hR hT5 ((hF5 5 (by decide)).trans k5) ((hF5 6 (by decide)).trans k6) (by rw [hQ]; exact e58) (by rw [hQ]) (if_pos c_v).symm⟩
