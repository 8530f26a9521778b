/-! THE BOOK asked; days, settings, counts, the tape -/
set_option maxRecDepth 20000 in
theorem k_isKnownDay {h : mj_H} (C : SC h) (q : Int32) : mxc 0 102 [.ref 8, .int q] h (fun r h' => r = some (.int (if nI 0 ≤ q ∧ q ≤ mj_I h 8 9 then 1 else 0)) ∧ h' = h) := by
  show mx 0 102 0 [.ref 8, .int q] [] h _
  refine x_iload_n f_102_0 rfl ?_
  refine x_if_lt (t := 16) f_102_1 (by decide) (fun c_1 => ?_) (fun c_1 => ?_)
  · refine x_iconst (v := nI 0) f_102_16 (by decide) ?_
    refine x_retZ f_102_17 rfl (by decide) ?_
    exact ⟨mj_if0 (by simp only [Int32.lt_iff_toInt_lt, Int32.le_iff_toInt_le, ← Int32.toInt_inj, show (nI 0).toInt = (0 : Int32).toInt from rfl] at *; omega), rfl⟩
  · refine x_iload_n f_102_4 rfl ?_
    refine x_aload_n f_102_5 rfl ?_
    refine x_getI f_102_6 C.k8 (by decide) ?_
    refine x_icmp_gt (t := 16) f_102_9 (by decide) (fun c_2 => ?_) (fun c_2 => ?_)
    · refine x_iconst (v := nI 0) f_102_16 (by decide) ?_
      refine x_retZ f_102_17 rfl (by decide) ?_
      exact ⟨mj_if0 (by simp only [Int32.lt_iff_toInt_lt, Int32.le_iff_toInt_le, ← Int32.toInt_inj, show (nI 0).toInt = (0 : Int32).toInt from rfl] at *; omega), rfl⟩
    · refine x_iconst (v := nI 1) f_102_12 (by decide) ?_
      refine x_goto (t := 17) f_102_13 (by decide) ?_
      refine x_retZ f_102_17 rfl (by decide) ?_
      exact ⟨mj_if1 (by simp only [Int32.lt_iff_toInt_lt, Int32.le_iff_toInt_le, ← Int32.toInt_inj, show (nI 0).toInt = (0 : Int32).toInt from rfl] at *; omega), rfl⟩
set_option maxRecDepth 20000 in
theorem k_triedV {h : mj_H} {jm xm km : Nat} (c : CJ h jm) (b : BK h jm xm km) {x : Nat} (hx : x < xm) (q : Int32) (hq : nI 0 ≤ q ∧ q ≤ mj_I h 8 9) (hd : mj_I h 54 x ≤ q) : mxc 1 92 [.ref 8, .int (nI x), .int q] h (fun r h' => r = some (.int (nI (ta h (nI x) q km))) ∧ Rw h h' [24]) := by
  have hX := b.1.2.2 x hx
  have hx60 := b.1.1
  show mx 1 92 0 [.ref 8, .int (nI x), .int q, mj_unset] [] h _
  refine x_aload_n f_92_0 rfl ?_
  refine x_getR f_92_1 c.1.k8 (by decide) c.1.r8_6 ?_
  refine x_iload_n f_92_4 rfl ?_
  refine x_callVe f_92_5 (k_jointAt c.1 b.1.1 b.1.2.1 (v := x) hx hX.1.1) (by omega) c.1.k22 (by decide) rfl rfl (Nat.le_of_ble_eq_true rfl) rfl ?_
  refine x_astore_n (ls1 := [.ref 8, .int (nI x), .int q, .ref (xA h x)]) f_92_8 (Nat.le_of_ble_eq_true rfl) rfl ?_
  refine x_aload_n f_92_9 rfl ?_
  refine x_ifnull f_92_10 ?_
  refine x_aload_n f_92_13 rfl ?_
  refine x_iload_n f_92_14 rfl ?_
  refine x_callVe f_92_15 (k_isKnownDay c.1 _) (by omega) c.1.k8 (by decide) rfl rfl (Nat.le_of_ble_eq_true rfl) rfl ?_
  refine x_ifB_eq (t := 29) f_92_18 (by decide) (fun c_1 => absurd hq c_1) (fun c_1 => ?_)
  refine x_aload_n f_92_21 rfl ?_
  refine x_getI f_92_22 hX.1.2.1 (by decide) ?_
  refine x_topi (w := mj_I h 54 x) hX.2.2.2.1 ?_
  refine x_iload_n f_92_25 rfl ?_
  refine x_icmp_le (t := 31) f_92_26 (by decide) (fun c_2 => ?_) (fun c_2 => absurd hd c_2)
  refine x_aload_n f_92_31 rfl ?_
  refine x_getR f_92_32 c.1.k8 (by decide) c.1.r8_6 ?_
  refine x_iload_n f_92_35 rfl ?_
  refine x_callV f_92_36 (k_recall b q c.1) (by omega) c.1.k22 (by decide) rfl rfl (Nat.le_of_ble_eq_true rfl) rfl ?_
  rintro _ g ⟨rfl, hR, hw⟩
  have C2 : SC g := hR.sc c.1 (by decide)
  refine x_aload_n f_92_39 rfl ?_
  refine x_getR f_92_40 C2.k8 (by decide) C2.r8_6 ?_
  refine x_getR f_92_43 C2.k22 (by decide) C2.r22_1 ?_
  refine x_iload_n f_92_46 rfl ?_
  refine x_iald (j := x) f_92_47 C2.k24 (by omega) (by decide) ?_
  refine x_topi (w := nI (ta h (nI x) q km)) (hw x hx) ?_
  refine x_retI f_92_48 rfl ?_
  exact ⟨rfl, hR⟩
set_option maxRecDepth 20000 in
theorem k_triedI {h : mj_H} {jm xm km : Nat} (c : CJ h jm) (b : BK h jm xm km) {x : Nat} (hx : x < xm) (q : Int32) (hn : ¬ ((nI 0 ≤ q ∧ q ≤ mj_I h 8 9) ∧ mj_I h 54 x ≤ q)) : mxc 1 92 [.ref 8, .int (nI x), .int q] h (fun r h' => r = some (.int (-1)) ∧ h' = h) := by
  have hX := b.1.2.2 x hx
  have hx60 := b.1.1
  show mx 1 92 0 [.ref 8, .int (nI x), .int q, mj_unset] [] h _
  refine x_aload_n f_92_0 rfl ?_
  refine x_getR f_92_1 c.1.k8 (by decide) c.1.r8_6 ?_
  refine x_iload_n f_92_4 rfl ?_
  refine x_callVe f_92_5 (k_jointAt c.1 b.1.1 b.1.2.1 (v := x) hx hX.1.1) (by omega) c.1.k22 (by decide) rfl rfl (Nat.le_of_ble_eq_true rfl) rfl ?_
  refine x_astore_n (ls1 := [.ref 8, .int (nI x), .int q, .ref (xA h x)]) f_92_8 (Nat.le_of_ble_eq_true rfl) rfl ?_
  refine x_aload_n f_92_9 rfl ?_
  refine x_ifnull f_92_10 ?_
  refine x_aload_n f_92_13 rfl ?_
  refine x_iload_n f_92_14 rfl ?_
  refine x_callVe f_92_15 (k_isKnownDay c.1 _) (by omega) c.1.k8 (by decide) rfl rfl (Nat.le_of_ble_eq_true rfl) rfl ?_
  refine x_ifB_eq (t := 29) f_92_18 (by decide) (fun c_1 => ?_) (fun c_1 => ?_)
  · refine x_iconst (v := -1) f_92_29 (by decide) ?_
    refine x_retI f_92_30 rfl ?_
    exact ⟨rfl, rfl⟩
  · refine x_aload_n f_92_21 rfl ?_
    refine x_getI f_92_22 hX.1.2.1 (by decide) ?_
    refine x_topi (w := mj_I h 54 x) hX.2.2.2.1 ?_
    refine x_iload_n f_92_25 rfl ?_
    refine x_icmp_le (t := 31) f_92_26 (by decide) (fun c_2 => absurd ⟨c_1, c_2⟩ hn) (fun c_2 => ?_)
    refine x_iconst (v := -1) f_92_29 (by decide) ?_
    refine x_retI f_92_30 rfl ?_
    exact ⟨rfl, rfl⟩
set_option maxRecDepth 20000 in
theorem k_tried0 {h : mj_H} {jm xm km : Nat} (c : CJ h jm) (b : BK h jm xm km) (v q : Int32) (hx : ¬ mIn v xm) : mxc 1 92 [.ref 8, .int v, .int q] h (fun r h' => r = some (.int (-1)) ∧ h' = h) := by
  show mx 1 92 0 [.ref 8, .int v, .int q, mj_unset] [] h _
  refine x_aload_n f_92_0 rfl ?_
  refine x_getR f_92_1 c.1.k8 (by decide) c.1.r8_6 ?_
  refine x_iload_n f_92_4 rfl ?_
  refine x_callVe f_92_5 (k_jointAt0 c.1 _ b.1.1 b.1.2.1 hx) (by omega) c.1.k22 (by decide) rfl rfl (Nat.le_of_ble_eq_true rfl) rfl ?_
  refine x_astore_nN (ls1 := [.ref 8, .int v, .int q, .null]) f_92_8 (Nat.le_of_ble_eq_true rfl) rfl ?_
  refine x_aload_nN f_92_9 rfl ?_
  refine x_ifnullN (t := 29) f_92_10 (by decide) ?_
  refine x_iconst (v := -1) f_92_29 (by decide) ?_
  refine x_retI f_92_30 rfl ?_
  exact ⟨rfl, rfl⟩
theorem od_rw {h g : mj_H} (e36 : mj_I g 36 = mj_I h 36) (e2 : mj_I g 52 = mj_I h 52) (e3 : mj_I g 53 = mj_I h 53) (e5 : mj_I g 55 = mj_I h 55) (e6 : mj_I g 56 = mj_I h 56) (e7 : mj_I g 57 = mj_I h 57) (q : Int32) (km : Nat) : ∀ x, od g q km x = od h q km x
  | 0 => rfl
  | x + 1 => by
    show od g q km x + _ = od h q km x + _
    have ej : jj g x = jj h x := by unfold jj; rw [e2]
    have es' : js g x = js h x := by unfold js; rw [e3]
    have ev : vd g (jj h x) (js h x) = vd h (jj h x) (js h x) := vd_eq e36 _ _
    have et : ta g (nI x) q km = ta h (nI x) q km := ta_rw e5 e6 e7 _ _ _
    have eo : oddp g q km x ↔ oddp h q km x := by unfold oddp; rw [et, ej, es', ev]
    rw [od_rw e36 e2 e3 e5 e6 e7 q km x]
    congr 1
    by_cases ho : oddp h q km x
    · rw [if_pos ho, if_pos (eo.mpr ho)]
    · rw [if_neg ho, if_neg (fun z => ho (eo.mp z))]
theorem cw_rw {h g : mj_H} (e37 : mj_I g 37 = mj_I h 37) (e38 : mj_I g 38 = mj_I h 38) (e2 : mj_I g 52 = mj_I h 52) (e5 : mj_I g 55 = mj_I h 55) (e6 : mj_I g 56 = mj_I h 56) (e7 : mj_I g 57 = mj_I h 57) (q : Int32) (km s wd : Nat) : ∀ x, cw g q km s wd x = cw h q km s wd x
  | 0 => rfl
  | x + 1 => by
    show cw g q km s wd x + _ = cw h q km s wd x + _
    have ej : jj g x = jj h x := by unfold jj; rw [e2]
    have et : ta g (nI x) q km = ta h (nI x) q km := ta_rw e5 e6 e7 _ _ _
    have eo : (ta g (nI x) q km = wd ∧ hs g s x) ↔ (ta h (nI x) q km = wd ∧ hs h s x) := by unfold hs; rw [et, ej, e37, e38]
    rw [cw_rw e37 e38 e2 e5 e6 e7 q km s wd x]
    congr 1
    by_cases ho : ta h (nI x) q km = wd ∧ hs h s x
    · rw [if_pos ho, if_pos (eo.mpr ho)]
    · rw [if_neg ho, if_neg (fun z => ho (eo.mp z))]
theorem lf_rw {h g : mj_H} (e37 : mj_I g 37 = mj_I h 37) (e38 : mj_I g 38 = mj_I h 38) (e2 : mj_I g 52 = mj_I h 52) (e5 : mj_I g 55 = mj_I h 55) (e6 : mj_I g 56 = mj_I h 56) (e7 : mj_I g 57 = mj_I h 57) (q : Int32) (km xm : Nat) : ∀ s, lf g q km xm s = lf h q km xm s
  | 0 => rfl
  | s + 1 => by
    have e1 : cb g q km s xm = cb h q km s xm := by rw [← cw_cb, ← cw_cb, cw_rw e37 e38 e2 e5 e6 e7]
    have e0 : ca g q km s xm = ca h q km s xm := by rw [← cw_ca, ← cw_ca, cw_rw e37 e38 e2 e5 e6 e7, cw_rw e37 e38 e2 e5 e6 e7]
    show (if 0 < cb g q km s xm ∧ (lf g q km xm s).2.1 * ca g q km s xm < cb g q km s xm * (lf g q km xm s).2.2 then _ else lf g q km xm s) = _
    rw [e1, e0, lf_rw e37 e38 e2 e5 e6 e7 q km xm s]
    rfl
set_option maxRecDepth 20000 in
theorem k_oddV {h : mj_H} {jm xm km : Nat} (c : CJ h jm) (b : BK h jm xm km) (h63h : 63 ≤ h.1) (q : Int32) (hq : nI 0 ≤ q ∧ q ≤ mj_I h 8 9) : mxc 5 93 [.ref 8, .int q] h (fun r h' => r = some (.int (nI (od h q km xm))) ∧ ∃ g, Rw h g [24] ∧ CQ g h' jm) := by
  show mx 5 93 0 [.ref 8, .int q] [] h _
  refine x_aload_n f_93_0 rfl ?_
  refine x_iload_n f_93_1 rfl ?_
  refine x_callVe f_93_2 (k_isKnownDay c.1 _) (by omega) c.1.k8 (by decide) rfl rfl (Nat.le_of_ble_eq_true rfl) rfl ?_
  refine x_ifB_ne (t := 10) f_93_5 (by decide) (fun c_1 => ?_) (fun c_1 => absurd hq c_1)
  refine x_aload_n f_93_10 rfl ?_
  refine x_getR f_93_11 c.1.k8 (by decide) c.1.r8_6 ?_
  refine x_iload_n f_93_14 rfl ?_
  refine x_callV f_93_15 (k_recall b q c.1) (by omega) c.1.k22 (by decide) rfl rfl (Nat.le_of_ble_eq_true rfl) rfl ?_
  rintro _ g ⟨rfl, hR, hw⟩
  have C2 : SC g := hR.sc c.1 (by decide)
  have c2 : CJ g jm := CJ_rw c hR (Fr_lt c.2.2.1 (by decide))
  have b2 : BK g jm xm km := BK_to b h63h (hR.ef []) (by simp) (by simp)
  have eta : ∀ x q k, ta g x q k = ta h x q k := fun x q k => ta_rw (hR.i (by decide)) (hR.i (by decide)) (hR.i (by decide)) x q k
  have hw2 : WO g q xm km := fun x hx => by rw [eta]; exact hw x hx
  have ko := k_countOdd c2 b2 (by rw [hR.1]; exact h63h) hw2
  rw [od_rw (hR.i (by decide)) (hR.i (by decide)) (hR.i (by decide)) (hR.i (by decide)) (hR.i (by decide)) (hR.i (by decide))] at ko
  refine x_aload_n f_93_18 rfl ?_
  refine x_getR f_93_19 C2.k8 (by decide) C2.r8_6 ?_
  refine x_aload_n f_93_22 rfl ?_
  refine x_getR f_93_23 C2.k8 (by decide) C2.r8_3 ?_
  refine x_callV f_93_26 (ko) (by omega) C2.k22 (by decide) rfl rfl (Nat.le_of_ble_eq_true rfl) rfl ?_
  rintro _ g2 ⟨rfl, q2⟩
  refine x_retI f_93_29 rfl ?_
  exact ⟨rfl, g, hR, q2⟩
set_option maxRecDepth 20000 in
theorem k_oddI {h : mj_H} {jm xm km : Nat} (c : CJ h jm) (b : BK h jm xm km) (q : Int32) (hq : ¬ (nI 0 ≤ q ∧ q ≤ mj_I h 8 9)) : mxc 1 93 [.ref 8, .int q] h (fun r h' => r = some (.int (-1)) ∧ h' = h) := by
  show mx 1 93 0 [.ref 8, .int q] [] h _
  refine x_aload_n f_93_0 rfl ?_
  refine x_iload_n f_93_1 rfl ?_
  refine x_callVe f_93_2 (k_isKnownDay c.1 _) (by omega) c.1.k8 (by decide) rfl rfl (Nat.le_of_ble_eq_true rfl) rfl ?_
  refine x_ifB_ne (t := 10) f_93_5 (by decide) (fun c_1 => absurd c_1 hq) (fun c_1 => ?_)
  refine x_iconst (v := -1) f_93_8 (by decide) ?_
  refine x_retI f_93_9 rfl ?_
  exact ⟨rfl, rfl⟩
set_option maxRecDepth 20000 in
theorem k_ledV {h : mj_H} {jm xm km : Nat} (c : CJ h jm) (b : BK h jm xm km) (h63h : 63 ≤ h.1) {sm : Nat} (h_sm : sm ≤ 6) (e_sm : mj_I h 8 10 = nI sm) (q : Int32) (hq : nI 0 ≤ q ∧ q ≤ mj_I h 8 9) : mxc 3 94 [.ref 8, .int q] h (fun r h' => r = some (.int (lf h q km xm sm).1) ∧ Rw h h' [24]) := by
  show mx 3 94 0 [.ref 8, .int q] [] h _
  refine x_aload_n f_94_0 rfl ?_
  refine x_iload_n f_94_1 rfl ?_
  refine x_callVe f_94_2 (k_isKnownDay c.1 _) (by omega) c.1.k8 (by decide) rfl rfl (Nat.le_of_ble_eq_true rfl) rfl ?_
  refine x_ifB_ne (t := 10) f_94_5 (by decide) (fun c_1 => ?_) (fun c_1 => absurd hq c_1)
  refine x_aload_n f_94_10 rfl ?_
  refine x_getR f_94_11 c.1.k8 (by decide) c.1.r8_6 ?_
  refine x_iload_n f_94_14 rfl ?_
  refine x_callV f_94_15 (k_recall b q c.1) (by omega) c.1.k22 (by decide) rfl rfl (Nat.le_of_ble_eq_true rfl) rfl ?_
  rintro _ g ⟨rfl, hR, hw⟩
  have C2 : SC g := hR.sc c.1 (by decide)
  have c2 : CJ g jm := CJ_rw c hR (Fr_lt c.2.2.1 (by decide))
  have b2 : BK g jm xm km := BK_to b h63h (hR.ef []) (by simp) (by simp)
  have eta : ∀ x q k, ta g x q k = ta h x q k := fun x q k => ta_rw (hR.i (by decide)) (hR.i (by decide)) (hR.i (by decide)) x q k
  have hw2 : WO g q xm km := fun x hx => by rw [eta]; exact hw x hx
  have kl := k_worstStuff c2 b2 hw2 h_sm
  rw [lf_rw (hR.i (by decide)) (hR.i (by decide)) (hR.i (by decide)) (hR.i (by decide)) (hR.i (by decide)) (hR.i (by decide))] at kl
  refine x_aload_n f_94_18 rfl ?_
  refine x_getR f_94_19 C2.k8 (by decide) C2.r8_6 ?_
  refine x_aload_n f_94_22 rfl ?_
  refine x_getI f_94_23 C2.k8 (by decide) ?_
  refine x_topi (w := nI sm) ((congrFun (hR.i (by decide)) 10).trans e_sm) ?_
  refine x_callVe f_94_26 (kl) (by omega) C2.k22 (by decide) rfl rfl (Nat.le_of_ble_eq_true rfl) rfl ?_
  refine x_retI f_94_29 rfl ?_
  exact ⟨rfl, hR⟩
set_option maxRecDepth 20000 in
theorem k_ledI {h : mj_H} {jm xm km : Nat} (c : CJ h jm) (b : BK h jm xm km) (q : Int32) (hq : ¬ (nI 0 ≤ q ∧ q ≤ mj_I h 8 9)) : mxc 1 94 [.ref 8, .int q] h (fun r h' => r = some (.int (-1)) ∧ h' = h) := by
  show mx 1 94 0 [.ref 8, .int q] [] h _
  refine x_aload_n f_94_0 rfl ?_
  refine x_iload_n f_94_1 rfl ?_
  refine x_callVe f_94_2 (k_isKnownDay c.1 _) (by omega) c.1.k8 (by decide) rfl rfl (Nat.le_of_ble_eq_true rfl) rfl ?_
  refine x_ifB_ne (t := 10) f_94_5 (by decide) (fun c_1 => absurd c_1 hq) (fun c_1 => ?_)
  refine x_iconst (v := -1) f_94_8 (by decide) ?_
  refine x_retI f_94_9 rfl ?_
  exact ⟨rfl, rfl⟩
