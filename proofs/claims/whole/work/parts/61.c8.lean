/-! THE BENCH: rubbing, pressing, cooling, faults -/
theorem TI_0 : TI wd_0 := by
  unfold TI wd_0
  constructor
  · intro q hq
    show wb (if q < 6 then nI 20 else 0)
    rw [if_pos hq]; exact wb20
  · intro q hq
    exact Int32.le_refl _
theorem ZO_0 (rg : Nat) : ZO rg wd_0 := fun _ _ => rfl
def FZ (T : tk_R) : Prop := T.2.2.2 = fun _ => 0
theorem tk_FZ {M : Nat → Int32} {rg : Nat} {W p : Int32} {T : tk_R} (h : FZ T) : FZ (tk M rg W p 0 T) := by
  unfold FZ at h ⊢
  funext r
  show (if r < rg then (if (0 : Nat) = 0 then nI 0 else _) else T.2.2.2 r) = 0
  rw [h, if_pos rfl]
  by_cases q : r < rg
  · rw [if_pos q]; rfl
  · rw [if_neg q]
theorem rub_FZ {M : Nat → Int32} {rg : Nat} {W p : Int32} {lt : tk_R → Bool} : ∀ (n k : Nat) (T : tk_R), FZ T → FZ (wd_rub (tk M rg W p 0) lt n k T).2
  | 0, _, _, h => h
  | n + 1, k, T, h => by
    unfold wd_rub
    by_cases q : k = 0 ∨ lt T = true
    · rw [if_pos q]; exact rub_FZ n (k + 1) _ (tk_FZ h)
    · rw [if_neg q]; exact h
theorem it_FZ {M : Nat → Int32} {rg : Nat} {W p : Int32} : ∀ (n : Nat) (T : tk_R), FZ T → FZ (wd_it (tk M rg W p 0) n T)
  | 0, _, h => h
  | n + 1, T, h => it_FZ n _ (tk_FZ h)
theorem it_fix {st : tk_R → tk_R} {T : tk_R} (h : st T = T) : ∀ n, wd_it st n T = T
  | 0 => rfl
  | n + 1 => by
    show wd_it st n (st T) = T
    rw [h]
    exact it_fix h n
theorem zmul (x : Int32) : nI 0 = nI 0 * x := (Int32.zero_mul (a := x)).symm
set_option maxRecDepth 20000 in
theorem k_rub {h : mj_H} (C : SC h) {A U rg : Nat} {M : Nat → Int32} (J : JH h A U rg M) {z : Nat} (hz : z < 729) (e6 : mj_I h 12 6 = nI 0) (hE : E3 (cT h) wd_0) (hZ6 : ∀ q, 6 ≤ q → mj_I h 16 q = 0) : mxc 1 4 [.ref 12, .ref A, .int (nI z)] h (fun r h' => r = some (.int (if wd_lt rg z (wd_1 M rg z).2 = true then 0 else 1)) ∧ Rw h h' [12, 13, 14, 15, 16] ∧ (∀ q, ¬ q = 6 → mj_I h' 12 q = mj_I h 12 q) ∧ mj_I h' 12 6 = nI (wd_1 M rg z).1 ∧ E3 (cT h') (wd_1 M rg z).2 ∧ TI (wd_1 M rg z).2 ∧ ∀ q, 6 ≤ q → mj_I h' 16 q = 0) := by
  show mx 1 4 0 [.ref 12, .ref A, .int (nI z), mj_unset, mj_unset, mj_unset, mj_unset, mj_unset] [] h _
  refine x_iload_n f_4_0 rfl ?_
  refine x_iconst (v := nI 1) f_4_1 (by decide) ?_
  refine x_callSe f_4_2 (k_along C (z := z) (a := 1) (by omega) (by decide)) (by omega) rfl rfl rfl (Nat.le_of_ble_eq_true rfl) rfl ?_
  refine x_iconst (v := nI 1) f_4_5 (by decide) ?_
  refine x_iaddN f_4_6 ?_
  refine x_istore_n (ls1 := [.ref 12, .ref A, .int (nI z), .int (nI ((mm_pt z 1) + 1)), mj_unset, mj_unset, mj_unset, mj_unset]) f_4_7 (Nat.le_of_ble_eq_true rfl) rfl ?_
  refine x_iload_n f_4_8 rfl ?_
  refine x_iconst (v := nI 0) f_4_9 (by decide) ?_
  refine x_callSe f_4_10 (k_along C (z := z) (a := 0) (by omega) (by decide)) (by omega) rfl rfl rfl (Nat.le_of_ble_eq_true rfl) rfl ?_
  refine x_iconst (v := nI 1) f_4_13 (by decide) ?_
  refine x_iaddN f_4_14 ?_
  refine x_iload_n f_4_15 rfl ?_
  refine x_imulN f_4_16 ?_
  refine x_aload_n f_4_17 rfl ?_
  refine x_getR f_4_18 J.1 (by decide) J.2.1 ?_
  refine x_iconst (v := nI 0) f_4_21 (by decide) ?_
  refine x_iald (j := 0) f_4_22 J.2.2.1 (by omega) (by decide) ?_
  refine x_topi (w := M 0) (congrFun J.2.2.2.2.1 0) ?_
  refine x_imul f_4_23 ?_
  refine x_istore (ls1 := [.ref 12, .ref A, .int (nI z), .int (nI ((mm_pt z 1) + 1)), .int ((nI (((mm_pt z 0) + 1) * ((mm_pt z 1) + 1))) * (M 0)), mj_unset, mj_unset, mj_unset]) f_4_24 (Nat.le_of_ble_eq_true rfl) rfl ?_
  refine x_iload_n f_4_26 rfl ?_
  refine x_iconst (v := nI 2) f_4_27 (by decide) ?_
  refine x_callSe f_4_28 (k_along C (z := z) (a := 2) (by omega) (by decide)) (by omega) rfl rfl rfl (Nat.le_of_ble_eq_true rfl) rfl ?_
  refine x_iconst (v := nI 1) f_4_31 (by decide) ?_
  refine x_iaddN f_4_32 ?_
  refine x_bipush (v := nI 20) f_4_33 (by decide) ?_
  refine x_imulN f_4_35 ?_
  refine x_istore (ls1 := [.ref 12, .ref A, .int (nI z), .int (nI ((mm_pt z 1) + 1)), .int ((nI (((mm_pt z 0) + 1) * ((mm_pt z 1) + 1))) * (M 0)), .int (nI (((mm_pt z 2) + 1) * 20)), mj_unset, mj_unset]) f_4_36 (Nat.le_of_ble_eq_true rfl) rfl ?_
  refine x_iconst (v := nI 1) f_4_38 (by decide) ?_
  refine x_istore (ls1 := [.ref 12, .ref A, .int (nI z), .int (nI ((mm_pt z 1) + 1)), .int ((nI (((mm_pt z 0) + 1) * ((mm_pt z 1) + 1))) * (M 0)), .int (nI (((mm_pt z 2) + 1) * 20)), .int (nI 1), mj_unset]) f_4_39 (Nat.le_of_ble_eq_true rfl) rfl ?_
  refine x_iconst (v := nI 0) f_4_41 (by decide) ?_
  refine x_istore (ls1 := [.ref 12, .ref A, .int (nI z), .int (nI ((mm_pt z 1) + 1)), .int ((nI (((mm_pt z 0) + 1) * ((mm_pt z 1) + 1))) * (M 0)), .int (nI (((mm_pt z 2) + 1) * 20)), .int (nI 1), .int (nI 0)]) f_4_42 (Nat.le_of_ble_eq_true rfl) rfl ?_
  exact krub_l hz _ rfl (wd_1 M rg z) (fun g C1 hR hF h6 hE2 hT h16 x hx => by subst hx; exact ⟨rfl, hR, hF, h6, hE2, hT, h16⟩) 60 0 h wd_0 rfl C (Rw.rf _ _) (fun _ _ => rfl) e6 J hE TI_0 (ZO_0 rg) hZ6 _ (Or.inl rfl) _ rfl rfl
set_option maxRecDepth 20000 in
theorem kpress_l {h : mj_H} {A U rg z : Nat} {M : Nat → Int32} (hz : z < 729) (X : tk_R) : ∀ (n i : Nat) (g : mj_H) (T : tk_R), i + n = 5 → SC g → JH g A U rg M → Rw h g [13, 14, 15, 16] → E3 (cT g) T → TI T → (∀ q, 6 ≤ q → mj_I g 16 q = 0) → wd_it (tk M rg (nI 0) (nI (2 * (mm_pt z 1 + 1))) 0) n T = X → mx 1 5 11 [.ref 12, .ref A, .int (nI z), .int (nI (mm_pt z 1 + 1)), .int (nI i)] [] g (fun r h' => r = none ∧ Rw h h' [13, 14, 15, 16] ∧ E3 (cT h') X ∧ TI X ∧ ∀ q, 6 ≤ q → mj_I h' 16 q = 0) := by
  intro n
  induction n with
  | zero =>
    intro i g T hi C J hR hE hT hZ6 e
    subst e
    refine x_iload f_5_11 rfl ?_
    refine x_iconst (v := nI 5) f_5_13 (by decide) ?_
    refine x_icmpN_ge (t := 33) f_5_14 (by decide) (by omega) (by decide) (fun c_1 => ?_) (fun c_1 => by omega)
    refine x_retV f_5_33 rfl ?_
    exact ⟨rfl, hR, hE, hT, hZ6⟩
  | succ n ih =>
    intro i g T hi C J hR hE hT hZ6 e
    refine x_iload f_5_11 rfl ?_
    refine x_iconst (v := nI 5) f_5_13 (by decide) ?_
    refine x_icmpN_ge (t := 33) f_5_14 (by decide) (by omega) (by decide) (fun c_1 => by omega) (fun c_1 => ?_)
    refine x_aload_n f_5_17 rfl ?_
    refine x_aload_n f_5_18 rfl ?_
    refine x_iconst (v := nI 0) f_5_19 (by decide) ?_
    refine x_iload_n f_5_20 rfl ?_
    refine x_iconst (v := nI 2) f_5_21 (by decide) ?_
    refine x_imulN f_5_22 ?_
    refine x_callV f_5_23 (k_tickR C J _ _ (W := nI 0) (p := nI (2 * (mm_pt z 1 + 1))) (zmul _) (by rw [Nat.mul_comm]) hE hT) (by omega) C.k12 (by decide) rfl rfl (Nat.le_of_ble_eq_true rfl) rfl ?_
    rintro r1 g1 ⟨hr1, hR1, hE1, hz1⟩
    obtain ⟨m1, rfl⟩ : ∃ m1 : Int32, r1 = some (.int m1) := hr1.elim (fun q => ⟨1, q⟩) (fun q => ⟨0, q.1⟩)
    refine x_pop f_5_26 rfl ?_
    refine x_iinc (v := nI (i + 1)) (ls1 := [.ref 12, .ref A, .int (nI z), .int (nI (mm_pt z 1 + 1)), .int (nI (i + 1))]) f_5_27 rfl (by exact nI_add _ 1) rfl ?_
    refine x_goto (t := 11) f_5_30 (by decide) ?_
    exact ih (i + 1) g1 _ (by omega) (hR1.sc C (by decide)) (J.to hR1 (by decide)) (hR.trans hR1) hE1 (tk_TI J.2.2.2.2.2.2.2 J.2.2.2.2.2.2.1 (by decide) hT) (fun q hq => (hz1 q hq).trans (hZ6 q hq)) e
set_option maxRecDepth 20000 in
theorem k_press {h : mj_H} (C : SC h) {A U rg : Nat} {M : Nat → Int32} (J : JH h A U rg M) {z : Nat} (hz : z < 729) {T : tk_R} (hE : E3 (cT h) T) (hT : TI T) (hZ6 : ∀ q, 6 ≤ q → mj_I h 16 q = 0) : mxc 1 5 [.ref 12, .ref A, .int (nI z)] h (fun r h' => r = none ∧ Rw h h' [13, 14, 15, 16] ∧ E3 (cT h') (wd_it (tk M rg (nI 0) (nI (2 * (mm_pt z 1 + 1))) 0) 5 T) ∧ TI (wd_it (tk M rg (nI 0) (nI (2 * (mm_pt z 1 + 1))) 0) 5 T) ∧ ∀ q, 6 ≤ q → mj_I h' 16 q = 0) := by
  show mx 1 5 0 [.ref 12, .ref A, .int (nI z), mj_unset, mj_unset] [] h _
  refine x_iload_n f_5_0 rfl ?_
  refine x_iconst (v := nI 1) f_5_1 (by decide) ?_
  refine x_callSe f_5_2 (k_along C (z := z) (a := 1) (by omega) (by decide)) (by omega) rfl rfl rfl (Nat.le_of_ble_eq_true rfl) rfl ?_
  refine x_iconst (v := nI 1) f_5_5 (by decide) ?_
  refine x_iaddN f_5_6 ?_
  refine x_istore_n (ls1 := [.ref 12, .ref A, .int (nI z), .int (nI ((mm_pt z 1) + 1)), mj_unset]) f_5_7 (Nat.le_of_ble_eq_true rfl) rfl ?_
  refine x_iconst (v := nI 0) f_5_8 (by decide) ?_
  refine x_istore (ls1 := [.ref 12, .ref A, .int (nI z), .int (nI ((mm_pt z 1) + 1)), .int (nI 0)]) f_5_9 (Nat.le_of_ble_eq_true rfl) rfl ?_
  exact kpress_l hz _ 5 0 h T rfl C J (Rw.rf _ _) hE hT hZ6 rfl
set_option maxRecDepth 20000 in
theorem kcool_0 {h : mj_H} {A : Nat} {v3 : Value} {Q : Option Value → mj_H → Prop} (K : ∀ g, SC g → Rw h g [16] → (∀ q, mj_I g 16 q = if q < 6 then nI 0 else mj_I h 16 q) → mx 1 6 25 [.ref 12, .ref A, .int (nI 1), .int (nI 0)] [] g Q) : ∀ (n r : Nat) (g : mj_H), r + n = 6 → SC g → Rw h g [16] → (∀ q, mj_I g 16 q = if q < r then nI 0 else mj_I h 16 q) → mx 1 6 2 [.ref 12, .ref A, .int (nI r), v3] [] g Q := by
  intro n
  induction n with
  | zero =>
    intro r g hr C hR i16
    obtain rfl : r = 6 := by omega
    refine x_iload_n f_6_2 rfl ?_
    refine x_bipush (v := nI 6) f_6_3 (by decide) ?_
    refine x_icmpN_ge (t := 21) f_6_5 (by decide) (by decide) (by decide) (fun c_1 => ?_) (fun c_1 => by omega)
    refine x_iconst (v := nI 1) f_6_21 (by decide) ?_
    refine x_istore_n (ls1 := [.ref 12, .ref A, .int (nI 1), v3]) f_6_22 (Nat.le_of_ble_eq_true rfl) rfl ?_
    refine x_iconst (v := nI 0) f_6_23 (by decide) ?_
    refine x_istore_n (ls1 := [.ref 12, .ref A, .int (nI 1), .int (nI 0)]) f_6_24 (Nat.le_of_ble_eq_true rfl) rfl ?_
    exact K g C hR i16
  | succ n ih =>
    intro r g hr C hR i16
    refine x_iload_n f_6_2 rfl ?_
    refine x_bipush (v := nI 6) f_6_3 (by decide) ?_
    refine x_icmpN_ge (t := 21) f_6_5 (by decide) (by omega) (by decide) (fun c_1 => by omega) (fun c_1 => ?_)
    refine x_aload_n f_6_8 rfl ?_
    refine x_getR f_6_9 C.k12 (by decide) C.r12_3 ?_
    refine x_iload_n f_6_12 rfl ?_
    refine x_iconst (v := nI 0) f_6_13 (by decide) ?_
    refine x_iast (j := r) f_6_14 C.k16 (by decide) (by omega) (by decide) ?_
    refine x_iinc (v := nI (r + 1)) (ls1 := [.ref 12, .ref A, .int (nI (r + 1)), v3]) f_6_15 rfl (by exact nI_add _ 1) rfl ?_
    refine x_goto (t := 2) f_6_18 (by decide) ?_
    exact ih (r + 1) _ (by omega) (Rw.sc ((Rw.rf g [16]).set (by decide)) C (by decide)) (hR.trans ((Rw.rf g _).set (by decide))) (row_up (fun q => mj_I_if rfl rfl) i16 rfl)
set_option maxRecDepth 20000 in
theorem kcool_l {h : mj_H} {A U rg : Nat} {M : Nat → Int32} (st : tk_R → tk_R) (hst : st = tk M rg (nI 0) (nI 0) 1) (X : tk_R) : ∀ (n i : Nat) (g : mj_H) (T : tk_R), i + n = 30 → SC g → JH g A U rg M → Rw h g [13, 14, 15, 16] → cT g = T → TI T → FN T → ∀ m : Int32, (m = 1 ∨ (m = 0 ∧ st T = T)) → wd_it st n T = X → mx 1 6 25 [.ref 12, .ref A, .int m, .int (nI i)] [] g (fun r h' => r = none ∧ Rw h h' [13, 14, 15, 16] ∧ cT h' = X) := by
  intro n
  induction n with
  | zero =>
    intro i g T hi C J hR hE hT hN m hm e
    subst e
    refine x_iload_n f_6_25 rfl ?_
    refine x_bipush (v := nI 30) f_6_26 (by decide) ?_
    refine x_icmpN_ge (t := 49) f_6_28 (by decide) (by omega) (by decide) (fun c_1 => ?_) (fun c_1 => by omega)
    refine x_retV f_6_49 rfl ?_
    exact ⟨rfl, hR, hE⟩
  | succ n ih =>
    intro i g T hi C J hR hE hT hN m hm e
    refine x_iload_n f_6_25 rfl ?_
    refine x_bipush (v := nI 30) f_6_26 (by decide) ?_
    refine x_icmpN_ge (t := 49) f_6_28 (by decide) (by omega) (by decide) (fun c_1 => by omega) (fun c_1 => ?_)
    refine x_iload_n f_6_31 rfl ?_
    refine x_if_eq (t := 49) f_6_32 (by decide) (fun c_m => ?_) (fun c_m => ?_)
    · refine x_retV f_6_49 rfl ?_
      have hs : st T = T := hm.elim (fun q => absurd (q.symm.trans c_m) (by decide)) (fun q => q.2)
      rw [it_fix hs] at e
      exact ⟨rfl, hR, hE.trans e⟩
    · refine x_aload_n f_6_35 rfl ?_
      refine x_aload_n f_6_36 rfl ?_
      refine x_iconst (v := nI 0) f_6_37 (by decide) ?_
      refine x_iconst (v := nI 0) f_6_38 (by decide) ?_
      refine x_callV f_6_39 (k_tickJ C J _ _) (by omega) C.k12 (by decide) rfl rfl (Nat.le_of_ble_eq_true rfl) rfl ?_
      rintro r1 g1 ⟨hr1, hR1, hT1⟩
      obtain ⟨m1, rfl, hm1⟩ : ∃ m1 : Int32, r1 = some (.int m1) ∧ m1 = (if mv (tc_ch M rg (cT g).1 (cT g).2.2.1 (nI 0) (nI 0)) rg = true then 1 else 0) := ⟨_, hr1, rfl⟩
      have htk : tc M rg (nI 0) (nI 0) T = st T := by
        rw [hst]
        have := tk_1 (W := nI 0) (p := nI 0) J.2.2.2.2.2.2.2 J.2.2.2.2.2.2.1 hT hN
        rw [← zmul (M 0)] at this
        exact this
      have hE1 : cT g1 = st T := by rw [hT1, hE, htk]
      refine x_istore_n (ls1 := [.ref 12, .ref A, .int m1, .int (nI i)]) f_6_42 (Nat.le_of_ble_eq_true rfl) rfl ?_
      refine x_iinc (v := nI (i + 1)) (ls1 := [.ref 12, .ref A, .int m1, .int (nI (i + 1))]) f_6_43 rfl (by exact nI_add _ 1) rfl ?_
      refine x_goto (t := 25) f_6_46 (by decide) ?_
      refine ih (i + 1) g1 (st T) (by omega) (hR1.sc C (by decide)) (J.to hR1 (by decide)) (hR.trans hR1) hE1 (hst ▸ tk_TI J.2.2.2.2.2.2.2 J.2.2.2.2.2.2.1 (by decide) hT) (hst ▸ tk_FN hN) _ ?_ e
      rw [hm1]
      by_cases hc : mv (tc_ch M rg (cT g).1 (cT g).2.2.1 (nI 0) (nI 0)) rg = true
      · exact Or.inl (if_pos hc)
      · refine Or.inr ⟨if_neg hc, ?_⟩
        have h5 : st T = T := by rw [← htk, ← hE]; exact tc_fix hc
        rw [h5, h5]
set_option maxRecDepth 20000 in
theorem k_cool {h : mj_H} (C : SC h) {A U rg : Nat} {M : Nat → Int32} (J : JH h A U rg M) {T : tk_R} (hE : E3 (cT h) T) (hT : TI T) (hF : FZ T) (hZ6 : ∀ q, 6 ≤ q → mj_I h 16 q = 0) : mxc 1 6 [.ref 12, .ref A] h (fun r h' => r = none ∧ Rw h h' [13, 14, 15, 16] ∧ cT h' = wd_it (tk M rg (nI 0) (nI 0) 1) 30 T) := by
  show mx 1 6 0 [.ref 12, .ref A, mj_unset, mj_unset] [] h _
  refine x_iconst (v := nI 0) f_6_0 (by decide) ?_
  refine x_istore_n (ls1 := [.ref 12, .ref A, .int (nI 0), mj_unset]) f_6_1 (Nat.le_of_ble_eq_true rfl) rfl ?_
  refine kcool_0 (h := h) (fun g C1 hR i16 => ?_) 6 0 h rfl C (Rw.rf _ _) (fun q => rfl)
  have h16 : mj_I g 16 = T.2.2.2 := by
    unfold FZ at hF
    rw [hF, funext i16, ifz hZ6, ifz0]
  refine kcool_l _ rfl _ 30 0 g T rfl C1 (J.to hR (by decide)) (hR.mono (by decide)) ?_ hT ?_ _ (Or.inl rfl) rfl
  · unfold cT
    rw [h16, hR.i (by decide), hR.i (by decide), hR.i (by decide)]
    exact Prod.ext hE.1 (Prod.ext hE.2.1 (Prod.ext hE.2.2 rfl))
  · intro q hq
    unfold FZ at hF
    rw [hF]
    exact Int32.le_refl 0
def flt (M : Nat → Int32) (T : tk_R) (r : Nat) : Nat := if M 5 ≤ T.2.1 r then (if M 6 ≤ T.2.2.1 r then (if T.2.2.2 r ≤ M 7 then 0 else 4) else 3) else 2
set_option maxRecDepth 20000 in
theorem k_faultOf {h : mj_H} (C : SC h) {A U rg r : Nat} {M : Nat → Int32} (J : JH h A U rg M) (hr : r < 6) : mxc 0 10 [.ref 12, .ref A, .int (nI r)] h (fun r1 h' => r1 = some (.int (nI (flt M (cT h) r))) ∧ h' = h) := by
  show mx 0 10 0 [.ref 12, .ref A, .int (nI r)] [] h _
  refine x_aload_n f_10_0 rfl ?_
  refine x_getR f_10_1 C.k12 (by decide) C.r12_1 ?_
  refine x_iload_n f_10_4 rfl ?_
  refine x_iald (j := r) f_10_5 C.k14 (by omega) (by decide) ?_
  refine x_aload_n f_10_6 rfl ?_
  refine x_getR f_10_7 J.1 (by decide) J.2.1 ?_
  refine x_iconst (v := nI 5) f_10_10 (by decide) ?_
  refine x_iald (j := 5) f_10_11 J.2.2.1 (by omega) (by decide) ?_
  refine x_topi (w := M 5) (congrFun J.2.2.2.2.1 5) ?_
  refine x_icmp_ge (t := 17) f_10_12 (by decide) (fun c_1 => ?_) (fun c_1 => ?_)
  · refine x_aload_n f_10_17 rfl ?_
    refine x_getR f_10_18 C.k12 (by decide) C.r12_2 ?_
    refine x_iload_n f_10_21 rfl ?_
    refine x_iald (j := r) f_10_22 C.k15 (by omega) (by decide) ?_
    refine x_aload_n f_10_23 rfl ?_
    refine x_getR f_10_24 J.1 (by decide) J.2.1 ?_
    refine x_bipush (v := nI 6) f_10_27 (by decide) ?_
    refine x_iald (j := 6) f_10_29 J.2.2.1 (by omega) (by decide) ?_
    refine x_topi (w := M 6) (congrFun J.2.2.2.2.1 6) ?_
    refine x_icmp_ge (t := 35) f_10_30 (by decide) (fun c_2 => ?_) (fun c_2 => ?_)
    · refine x_aload_n f_10_35 rfl ?_
      refine x_getR f_10_36 C.k12 (by decide) C.r12_3 ?_
      refine x_iload_n f_10_39 rfl ?_
      refine x_iald (j := r) f_10_40 C.k16 (by omega) (by decide) ?_
      refine x_aload_n f_10_41 rfl ?_
      refine x_getR f_10_42 J.1 (by decide) J.2.1 ?_
      refine x_bipush (v := nI 7) f_10_45 (by decide) ?_
      refine x_iald (j := 7) f_10_47 J.2.2.1 (by omega) (by decide) ?_
      refine x_topi (w := M 7) (congrFun J.2.2.2.2.1 7) ?_
      refine x_icmp_le (t := 55) f_10_48 (by decide) (fun c_3 => ?_) (fun c_3 => ?_)
      · refine x_iconst (v := nI 0) f_10_55 (by decide) ?_
        refine x_retI f_10_56 rfl ?_
        exact ⟨by unfold flt cT; rw [if_pos c_1, if_pos c_2, if_pos c_3], rfl⟩
      · refine x_iconst (v := nI 4) f_10_51 (by decide) ?_
        refine x_goto (t := 56) f_10_52 (by decide) ?_
        refine x_retI f_10_56 rfl ?_
        exact ⟨by unfold flt cT; rw [if_pos c_1, if_pos c_2, if_neg c_3], rfl⟩
    · refine x_iconst (v := nI 3) f_10_33 (by decide) ?_
      refine x_retI f_10_34 rfl ?_
      exact ⟨by unfold flt cT; rw [if_pos c_1, if_neg c_2], rfl⟩
  · refine x_iconst (v := nI 2) f_10_15 (by decide) ?_
    refine x_retI f_10_16 rfl ?_
    exact ⟨by unfold flt cT; rw [if_neg c_1], rfl⟩
theorem jd_f_s (M : Nat → Int32) (T : tk_R) (n r : Nat) : jd_f M T (n + 1) r = if flt M T r = 0 then jd_f M T n (r + 1) else (flt M T r, nI r) := by
  unfold flt
  show (if M 5 ≤ T.2.1 r then _ else _) = _
  by_cases h1 : M 5 ≤ T.2.1 r
  · rw [if_pos h1, if_pos h1]
    by_cases h2 : M 6 ≤ T.2.2.1 r
    · rw [if_pos h2, if_pos h2]
      by_cases h3 : T.2.2.2 r ≤ M 7
      · rw [if_pos h3, if_pos h3, if_pos rfl]
      · rw [if_neg h3, if_neg h3, if_neg (by decide)]
    · rw [if_neg h2, if_neg h2, if_neg (by decide)]
  · rw [if_neg h1, if_neg h1, if_neg (by decide)]
theorem flt_le (M : Nat → Int32) (T : tk_R) (r : Nat) : flt M T r ≤ 4 := by
  unfold flt
  split
  · split
    · split <;> omega
    · omega
  · omega
set_option maxRecDepth 20000 in
theorem kff_l {h : mj_H} (C : SC h) {A U rg : Nat} {M : Nat → Int32} (J : JH h A U rg M) (e8 : mj_I h 12 8 = -1) (X : Nat × Int32) : ∀ (n r : Nat) (v3 : Value), r + n = rg → jd_f M (cT h) n r = X → mx 1 9 2 [.ref 12, .ref A, .int (nI r), v3] [] h (fun r1 h' => r1 = some (.int (nI X.1)) ∧ Rw h h' [12] ∧ (∀ q, ¬ q = 8 → mj_I h' 12 q = mj_I h 12 q) ∧ mj_I h' 12 8 = X.2) := by
  have hrg := J.2.2.2.2.2.2.1
  intro n
  induction n with
  | zero =>
    intro r v3 hr e
    subst e
    refine x_iload_n f_9_2 rfl ?_
    refine x_aload_n f_9_3 rfl ?_
    refine x_getR f_9_4 J.1 (by decide) J.2.1 ?_
    refine x_bipush (v := nI 8) f_9_7 (by decide) ?_
    refine x_iald (j := 8) f_9_9 J.2.2.1 (by omega) (by decide) ?_
    refine x_topi (w := nI rg) ((congrFun J.2.2.2.2.1 8).trans J.2.2.2.2.2.1) ?_
    refine x_icmpN_ge (t := 37) f_9_10 (by decide) (by omega) (by omega) (fun c_1 => ?_) (fun c_1 => by omega)
    refine x_iconst (v := nI 0) f_9_37 (by decide) ?_
    refine x_retI f_9_38 rfl ?_
    exact ⟨rfl, Rw.rf _ _, fun _ _ => rfl, e8⟩
  | succ n ih =>
    intro r v3 hr e
    refine x_iload_n f_9_2 rfl ?_
    refine x_aload_n f_9_3 rfl ?_
    refine x_getR f_9_4 J.1 (by decide) J.2.1 ?_
    refine x_bipush (v := nI 8) f_9_7 (by decide) ?_
    refine x_iald (j := 8) f_9_9 J.2.2.1 (by have := flt_le M (cT h) r; omega) (by decide) ?_
    refine x_topi (w := nI rg) ((congrFun J.2.2.2.2.1 8).trans J.2.2.2.2.2.1) ?_
    refine x_icmpN_ge (t := 37) f_9_10 (by decide) (by have := flt_le M (cT h) r; omega) (by have := flt_le M (cT h) r; omega) (fun c_1 => by omega) (fun c_1 => ?_)
    refine x_aload_n f_9_13 rfl ?_
    refine x_aload_n f_9_14 rfl ?_
    refine x_iload_n f_9_15 rfl ?_
    refine x_callVe f_9_16 (k_faultOf C J (by have := J.2.2.2.2.2.2.1; omega)) (by omega) C.k12 (by decide) rfl rfl (Nat.le_of_ble_eq_true rfl) rfl ?_
    refine x_istore_n (ls1 := [.ref 12, .ref A, .int (nI r), .int (nI (flt M (cT h) r))]) f_9_19 (Nat.le_of_ble_eq_true rfl) rfl ?_
    refine x_iload_n f_9_20 rfl ?_
    refine x_ifN_eq (t := 31) f_9_21 (by decide) (by have := flt_le M (cT h) r; omega) (fun c_f => ?_) (fun c_f => ?_)
    · refine x_iinc (v := nI (r + 1)) (ls1 := [.ref 12, .ref A, .int (nI (r + 1)), .int (nI (flt M (cT h) r))]) f_9_31 rfl (by exact nI_add _ 1) rfl ?_
      refine x_goto (t := 2) f_9_34 (by decide) ?_
      refine ih (r + 1) _ (by omega) ?_
      rw [← e, jd_f_s, if_pos c_f]
    · refine x_aload_n f_9_24 rfl ?_
      refine x_iload_n f_9_25 rfl ?_
      refine x_putI f_9_26 C.k12 (by decide) ?_
      refine x_iload_n f_9_29 rfl ?_
      refine x_retI f_9_30 rfl ?_
      rw [jd_f_s, if_neg c_f] at e
      subst e
      exact ⟨rfl, (Rw.rf _ _).set (by decide), fun q hq => mj_I_ne hq, mj_I_at _ _ _ _⟩
set_option maxRecDepth 20000 in
theorem k_firstFault {h : mj_H} (C : SC h) {A U rg : Nat} {M : Nat → Int32} (J : JH h A U rg M) (e8 : mj_I h 12 8 = -1) : mxc 1 9 [.ref 12, .ref A] h (fun r1 h' => r1 = some (.int (nI (jd_f M (cT h) rg 0).1)) ∧ Rw h h' [12] ∧ (∀ q, ¬ q = 8 → mj_I h' 12 q = mj_I h 12 q) ∧ mj_I h' 12 8 = (jd_f M (cT h) rg 0).2) := by
  show mx 1 9 0 [.ref 12, .ref A, mj_unset, mj_unset] [] h _
  refine x_iconst (v := nI 0) f_9_0 (by decide) ?_
  refine x_istore_n (ls1 := [.ref 12, .ref A, .int (nI 0), mj_unset]) f_9_1 (Nat.le_of_ble_eq_true rfl) rfl ?_
  exact kff_l C J e8 _ rg 0 _ (Nat.zero_add _) rfl
