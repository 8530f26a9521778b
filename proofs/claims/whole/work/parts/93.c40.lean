/-! JOBS made -/
set_option maxRecDepth 20000 in
theorem k_oinit {h : mj_H} {A : Nat} (hA : mj_K h A = (3, 5)) (hl : A < h.1) (a b : Nat) : mxc 0 29 [.ref A, .int (nI a), .int (nI b)] h (fun r h' => r = none ∧ h' = mj_setI (mj_setI (mj_setR (mj_new (mj_setR (mj_new (mj_setR (mj_new h 12 9) A 2 (some h.1)) 13 12) A 3 (some (h.1 + 1))) 13 12) A 4 (some (h.1 + 2))) A 0 (nI a)) A 1 (nI b)) := by
  have kA1 : ∀ k n, mj_K (mj_new h k n) A = (3, 5) := fun k n => (mj_K_new (by omega)).trans hA
  have kA2 : ∀ (g : mj_H) k n, g.1 = h.1 + 1 → mj_K g A = (3, 5) → mj_K (mj_new g k n) A = (3, 5) := fun g k n e q => (mj_K_new (by omega)).trans q
  have kA3 : ∀ (g : mj_H) k n, g.1 = h.1 + 2 → mj_K g A = (3, 5) → mj_K (mj_new g k n) A = (3, 5) := fun g k n e q => (mj_K_new (by omega)).trans q
  show mx 0 29 0 [.ref A, .int (nI a), .int (nI b)] [] h _
  refine x_aload_n f_29_0 rfl ?_
  refine x_init f_29_1 (Nat.le_of_ble_eq_true rfl) ?_
  refine x_aload_n f_29_4 rfl ?_
  refine x_bipush (v := nI 9) f_29_5 (by decide) ?_
  refine x_newa f_29_7 (by decide) ?_
  refine x_putR f_29_9 (kA1 12 9) (by decide) ?_
  refine x_aload_n f_29_12 rfl ?_
  refine x_bipush (v := nI 12) f_29_13 (by decide) ?_
  refine x_newa f_29_15 (by decide) ?_
  refine x_putR f_29_17 (kA2 (mj_setR (mj_new h 12 9) A 2 (some h.1)) 13 12 rfl (kA1 12 9)) (by decide) ?_
  refine x_aload_n f_29_20 rfl ?_
  refine x_bipush (v := nI 12) f_29_21 (by decide) ?_
  refine x_newa f_29_23 (by decide) ?_
  refine x_putR f_29_25 (kA3 (mj_setR (mj_new (mj_setR (mj_new h 12 9) A 2 (some h.1)) 13 12) A 3 (some (h.1 + 1))) 13 12 rfl (kA2 (mj_setR (mj_new h 12 9) A 2 (some h.1)) 13 12 rfl (kA1 12 9))) (by decide) ?_
  refine x_aload_n f_29_28 rfl ?_
  refine x_iload_n f_29_29 rfl ?_
  refine x_putI f_29_30 (kA3 (mj_setR (mj_new (mj_setR (mj_new h 12 9) A 2 (some h.1)) 13 12) A 3 (some (h.1 + 1))) 13 12 rfl (kA2 (mj_setR (mj_new h 12 9) A 2 (some h.1)) 13 12 rfl (kA1 12 9))) (by decide) ?_
  refine x_aload_n f_29_33 rfl ?_
  refine x_iload_n f_29_34 rfl ?_
  refine x_putI f_29_35 (kA3 (mj_setR (mj_new (mj_setR (mj_new h 12 9) A 2 (some h.1)) 13 12) A 3 (some (h.1 + 1))) 13 12 rfl (kA2 (mj_setR (mj_new h 12 9) A 2 (some h.1)) 13 12 rfl (kA1 12 9))) (by decide) ?_
  refine x_retV f_29_38 rfl ?_
  exact ⟨rfl, rfl⟩
set_option maxRecDepth 20000 in
theorem k_jobB {h : mj_H} (C : SC h) {sm : Nat} (h_sm : sm ≤ 6) (e_sm : mj_I h 8 10 = nI sm) {a b : Nat} (ha : a < sm) (hb : b < sm) (hA : SS h a sm) (hB : SS h b sm) (hbit : ibit (mj_I h (sA h a) 1) b = true) (rings : Int32) : mxc 1 71 [.ref 8, .int (nI a), .int (nI b), .int rings] h (fun r h' => r = some (.int (-1)) ∧ h' = h) := by
  show mx 1 71 0 [.ref 8, .int (nI a), .int (nI b), .int rings, mj_unset, mj_unset, mj_unset] [] h _
  refine x_aload_n f_71_0 rfl ?_
  refine x_iload_n f_71_1 rfl ?_
  refine x_callVe f_71_2 (k_stuffAt C h_sm e_sm ha hA.1.1) (by omega) C.k8 (by decide) rfl rfl (Nat.le_of_ble_eq_true rfl) rfl ?_
  refine x_astore (ls1 := [.ref 8, .int (nI a), .int (nI b), .int rings, .ref (sA h a), mj_unset, mj_unset]) f_71_5 (Nat.le_of_ble_eq_true rfl) rfl ?_
  refine x_aload_n f_71_7 rfl ?_
  refine x_iload_n f_71_8 rfl ?_
  refine x_callVe f_71_9 (k_stuffAt C h_sm e_sm hb hB.1.1) (by omega) C.k8 (by decide) rfl rfl (Nat.le_of_ble_eq_true rfl) rfl ?_
  refine x_astore (ls1 := [.ref 8, .int (nI a), .int (nI b), .int rings, .ref (sA h a), .ref (sA h b), mj_unset]) f_71_12 (Nat.le_of_ble_eq_true rfl) rfl ?_
  refine x_aload f_71_14 rfl ?_
  refine x_ifnull f_71_16 ?_
  refine x_aload f_71_19 rfl ?_
  refine x_ifnull f_71_21 ?_
  refine x_aload f_71_24 rfl ?_
  refine x_iload_n f_71_26 rfl ?_
  refine x_callVe f_71_27 (k_isBarred hA.1.2.1 (z := b) (by omega)) (by omega) hA.1.2.1 (by decide) rfl rfl (Nat.le_of_ble_eq_true rfl) rfl ?_
  refine x_ifB_eq (t := 35) f_71_30 (by decide) (fun c_1 => absurd hbit c_1) (fun c_1 => ?_)
  refine x_iconst (v := -1) f_71_33 (by decide) ?_
  refine x_retI f_71_34 rfl ?_
  exact ⟨rfl, rfl⟩
set_option maxRecDepth 20000 in
theorem k_jobR {h : mj_H} (C : SC h) {sm : Nat} (h_sm : sm ≤ 6) (e_sm : mj_I h 8 10 = nI sm) {a b : Nat} (ha : a < sm) (hb : b < sm) (hA : SS h a sm) (hB : SS h b sm) {jm : Nat} (h_jm : jm ≤ 20) (e_jm : mj_I h 8 11 = nI jm) (hbit : ¬ ibit (mj_I h (sA h a) 1) b = true) (rings : Int32) (hn : ¬ ((nI 2 ≤ rings ∧ rings ≤ nI 6) ∧ ¬ jm = 20)) : mxc 1 71 [.ref 8, .int (nI a), .int (nI b), .int rings] h (fun r h' => r = some (.int (-1)) ∧ h' = h) := by
  show mx 1 71 0 [.ref 8, .int (nI a), .int (nI b), .int rings, mj_unset, mj_unset, mj_unset] [] h _
  refine x_aload_n f_71_0 rfl ?_
  refine x_iload_n f_71_1 rfl ?_
  refine x_callVe f_71_2 (k_stuffAt C h_sm e_sm ha hA.1.1) (by omega) C.k8 (by decide) rfl rfl (Nat.le_of_ble_eq_true rfl) rfl ?_
  refine x_astore (ls1 := [.ref 8, .int (nI a), .int (nI b), .int rings, .ref (sA h a), mj_unset, mj_unset]) f_71_5 (Nat.le_of_ble_eq_true rfl) rfl ?_
  refine x_aload_n f_71_7 rfl ?_
  refine x_iload_n f_71_8 rfl ?_
  refine x_callVe f_71_9 (k_stuffAt C h_sm e_sm hb hB.1.1) (by omega) C.k8 (by decide) rfl rfl (Nat.le_of_ble_eq_true rfl) rfl ?_
  refine x_astore (ls1 := [.ref 8, .int (nI a), .int (nI b), .int rings, .ref (sA h a), .ref (sA h b), mj_unset]) f_71_12 (Nat.le_of_ble_eq_true rfl) rfl ?_
  refine x_aload f_71_14 rfl ?_
  refine x_ifnull f_71_16 ?_
  refine x_aload f_71_19 rfl ?_
  refine x_ifnull f_71_21 ?_
  refine x_aload f_71_24 rfl ?_
  refine x_iload_n f_71_26 rfl ?_
  refine x_callVe f_71_27 (k_isBarred hA.1.2.1 (z := b) (by omega)) (by omega) hA.1.2.1 (by decide) rfl rfl (Nat.le_of_ble_eq_true rfl) rfl ?_
  refine x_ifB_eq (t := 35) f_71_30 (by decide) (fun c_1 => ?_) (fun c_1 => absurd c_1 hbit)
  refine x_iload_n f_71_35 rfl ?_
  refine x_iconst (v := nI 2) f_71_36 (by decide) ?_
  refine x_icmp_lt (t := 55) f_71_37 (by decide) (fun c_2 => ?_) (fun c_2 => ?_)
  · refine x_iconst (v := -1) f_71_55 (by decide) ?_
    refine x_retI f_71_56 rfl ?_
    exact ⟨rfl, rfl⟩
  · refine x_iload_n f_71_40 rfl ?_
    refine x_bipush (v := nI 6) f_71_41 (by decide) ?_
    refine x_icmp_gt (t := 55) f_71_43 (by decide) (fun c_3 => ?_) (fun c_3 => ?_)
    · refine x_iconst (v := -1) f_71_55 (by decide) ?_
      refine x_retI f_71_56 rfl ?_
      exact ⟨rfl, rfl⟩
    · refine x_aload_n f_71_46 rfl ?_
      refine x_getI f_71_47 C.k8 (by decide) ?_
      refine x_topi (w := nI jm) e_jm ?_
      refine x_bipush (v := nI 20) f_71_50 (by decide) ?_
      refine x_icmpN_ne (t := 57) f_71_52 (by decide) (by omega) (by decide) (fun c_4 => absurd ⟨⟨Int32.not_lt.mp c_2, Int32.not_lt.mp c_3⟩, c_4⟩ hn) (fun c_4 => ?_)
      refine x_iconst (v := -1) f_71_55 (by decide) ?_
      refine x_retI f_71_56 rfl ?_
      exact ⟨rfl, rfl⟩
/-- what making a job leaves -/
def OJ (h g : mj_H) (jm a b : Nat) (rings : Int32) : Prop := g.1 = h.1 + 4 ∧ g.2.1 = h.2.1 + 5 + 9 + 12 + 12 ∧ (∀ x, x < h.1 → mj_K g x = mj_K h x) ∧ (∀ x, x < h.1 → x ≠ 8 → mj_I g x = mj_I h x) ∧ (∀ q, ¬ q = 11 → mj_I g 8 q = mj_I h 8 q) ∧ mj_I g 8 11 = nI (jm + 1) ∧ (∀ x, x < h.1 → mj_J g x = mj_J h x) ∧ (∀ x i, x < h.1 → ¬ (x = 10 ∧ i = jm) → mj_R g x i = mj_R h x i) ∧ mj_R g 10 jm = some h.1 ∧ (mj_K g h.1 = (3, 5) ∧ mj_R g h.1 2 = some (h.1 + 1) ∧ mj_R g h.1 3 = some (h.1 + 2) ∧ mj_R g h.1 4 = some (h.1 + 3)) ∧ (mj_K g (h.1 + 1) = (12, 9) ∧ mj_K g (h.1 + 2) = (13, 12) ∧ mj_K g (h.1 + 3) = (13, 12)) ∧ (∀ i, i < 8 → mj_I g (h.1 + 1) i = jn i (mj_I h (sM h a) i) (mj_I h (sM h b) i)) ∧ mj_I g (h.1 + 1) 8 = rings ∧ mj_I g h.1 0 = nI a ∧ mj_I g h.1 1 = nI b ∧ (∀ i, mj_J g (h.1 + 2) i = 0) ∧ ∀ i, mj_J g (h.1 + 3) i = 0
set_option maxRecDepth 20000 in
set_option maxHeartbeats 1000000 in
theorem k_jobV {h : mj_H} (C : SC h) {sm : Nat} (h_sm : sm ≤ 6) (e_sm : mj_I h 8 10 = nI sm) {a b : Nat} (ha : a < sm) (hb : b < sm) (hA : SS h a sm) (hB : SS h b sm) (h63h : 63 ≤ h.1) {jm : Nat} (h_jm : jm < 20) (e_jm : mj_I h 8 11 = nI jm) (hbit : ¬ ibit (mj_I h (sA h a) 1) b = true) (rings : Int32) (hr : nI 2 ≤ rings ∧ rings ≤ nI 6) : mxc 2 71 [.ref 8, .int (nI a), .int (nI b), .int rings] h (fun r h' => r = some (.int (nI jm)) ∧ OJ h h' jm a b rings) := by
  have sa := hA.1.2.2
  have sb := hB.1.2.2
  have ma := hA.2.1.2.2
  have mb := hB.2.1.2.2
  obtain ⟨h0, eh0⟩ : ∃ h0, h0 = mj_setI (mj_setI (mj_setR (mj_new (mj_setR (mj_new (mj_setR (mj_new (mj_new h 3 5) 12 9) h.1 2 (some (h.1 + 1))) 13 12) h.1 3 (some (h.1 + 2))) 13 12) h.1 4 (some (h.1 + 3))) h.1 0 (nI a)) h.1 1 (nI b) := ⟨_, rfl⟩
  have kk : ∀ x, x < h.1 → mj_K h0 x = mj_K h x := fun x hx => by
    rw [eh0]
    exact (mj_K_new (by show x ≠ h.1 + 3; omega)).trans ((mj_K_new (by show x ≠ h.1 + 2; omega)).trans ((mj_K_new (by show x ≠ h.1 + 1; omega)).trans (mj_K_new (by omega))))
  have i0 : ∀ x, x < h.1 → mj_I h0 x = mj_I h x := fun x hx => by
    rw [eh0, mj_I_other (by omega), mj_I_other (by omega), mj_I_setR, mj_I_new (by show x ≠ h.1 + 3; omega), mj_I_setR, mj_I_new (by show x ≠ h.1 + 2; omega), mj_I_setR, mj_I_new (by show x ≠ h.1 + 1; omega), mj_I_new (by omega)]
  have j0 : ∀ x, x < h.1 → mj_J h0 x = mj_J h x := fun x hx => by
    rw [eh0, mj_J_setI, mj_J_setI, mj_J_setR, mj_J_new (by show x ≠ h.1 + 3; omega), mj_J_setR, mj_J_new (by show x ≠ h.1 + 2; omega), mj_J_setR, mj_J_new (by show x ≠ h.1 + 1; omega), mj_J_new (by omega)]
  have rr : ∀ x i, x < h.1 → mj_R h0 x i = mj_R h x i := fun x i hx => by
    rw [eh0, mj_R_setI, mj_R_setI, mj_R_other (by omega), mj_R_new (by show x ≠ h.1 + 3; omega), mj_R_other (by omega), mj_R_new (by show x ≠ h.1 + 2; omega), mj_R_other (by omega), mj_R_new (by show x ≠ h.1 + 1; omega), mj_R_new (by omega)]
  have k0 : mj_K h0 h.1 = (3, 5) := by
    rw [eh0]
    exact (mj_K_new (by show h.1 ≠ h.1 + 3; omega)).trans ((mj_K_new (by show h.1 ≠ h.1 + 2; omega)).trans ((mj_K_new (by show h.1 ≠ h.1 + 1; omega)).trans (mj_K_newA h 3 5)))
  have kU : mj_K h0 (h.1 + 1) = (12, 9) := by
    rw [eh0]
    exact (mj_K_new (by show h.1 + 1 ≠ h.1 + 3; omega)).trans ((mj_K_new (by show h.1 + 1 ≠ h.1 + 2; omega)).trans (mj_K_newA (mj_new h 3 5) 12 9))
  have kD : mj_K h0 (h.1 + 2) = (13, 12) := by
    rw [eh0]
    exact (mj_K_new (by show h.1 + 2 ≠ h.1 + 3; omega)).trans (mj_K_newA (mj_setR (mj_new (mj_new h 3 5) 12 9) h.1 2 (some (h.1 + 1))) 13 12)
  have kF : mj_K h0 (h.1 + 3) = (13, 12) := by
    rw [eh0]
    exact mj_K_newA (mj_setR (mj_new (mj_setR (mj_new (mj_new h 3 5) 12 9) h.1 2 (some (h.1 + 1))) 13 12) h.1 3 (some (h.1 + 2))) 13 12
  have r4 : mj_R h0 h.1 4 = some (h.1 + 3) := by rw [eh0, mj_R_setI, mj_R_setI]; exact mj_R_at _ _ _ _
  have r3 : mj_R h0 h.1 3 = some (h.1 + 2) := by
    rw [eh0, mj_R_setI, mj_R_setI, mj_R_ne (by decide), mj_R_new (by show h.1 ≠ h.1 + 3; omega)]
    exact mj_R_at _ _ _ _
  have r0 : mj_R h0 h.1 2 = some (h.1 + 1) := by
    rw [eh0, mj_R_setI, mj_R_setI, mj_R_ne (by decide), mj_R_new (by show h.1 ≠ h.1 + 3; omega), mj_R_ne (by decide), mj_R_new (by show h.1 ≠ h.1 + 2; omega)]
    exact mj_R_at _ _ _ _
  have o1 : mj_I h0 h.1 1 = nI b := by rw [eh0]; exact mj_I_at _ _ _ _
  have o0 : mj_I h0 h.1 0 = nI a := by rw [eh0, mj_I_ne (by decide)]; exact mj_I_at _ _ _ _
  have jD0 : ∀ i, mj_J h0 (h.1 + 2) i = 0 := fun i => by
    rw [eh0, mj_J_setI, mj_J_setI, mj_J_setR, mj_J_new (by show h.1 + 2 ≠ h.1 + 3; omega), mj_J_setR]
    exact mj_J_newA (mj_setR (mj_new (mj_new h 3 5) 12 9) h.1 2 (some (h.1 + 1))) 13 12 i
  have jF0 : ∀ i, mj_J h0 (h.1 + 3) i = 0 := fun i => by
    rw [eh0, mj_J_setI, mj_J_setI, mj_J_setR]
    exact mj_J_newA (mj_setR (mj_new (mj_setR (mj_new (mj_new h 3 5) 12 9) h.1 2 (some (h.1 + 1))) 13 12) h.1 3 (some (h.1 + 2))) 13 12 i
  have C0 : SC h0 := C.to (fun x hx => kk x (by omega)) (fun e he => rr _ _ (by have := ccR33 e he; omega)) (fun x hx => i0 x (by omega))
  have kB := (kk _ sa.2).trans hA.1.2.1
  have kG := (kk _ sb.2).trans hB.1.2.1
  have kX := (kk _ ma.2).trans hA.2.1.2.1
  have kY := (kk _ mb.2).trans hB.2.1.2.1
  have rB := (rr _ 0 sa.2).trans hA.2.1.1
  have rG := (rr _ 0 sb.2).trans hB.2.1.1
  show mx 2 71 0 [.ref 8, .int (nI a), .int (nI b), .int rings, mj_unset, mj_unset, mj_unset] [] h _
  refine x_aload_n f_71_0 rfl ?_
  refine x_iload_n f_71_1 rfl ?_
  refine x_callVe f_71_2 (k_stuffAt C h_sm e_sm ha hA.1.1) (by omega) C.k8 (by decide) rfl rfl (Nat.le_of_ble_eq_true rfl) rfl ?_
  refine x_astore (ls1 := [.ref 8, .int (nI a), .int (nI b), .int rings, .ref (sA h a), mj_unset, mj_unset]) f_71_5 (Nat.le_of_ble_eq_true rfl) rfl ?_
  refine x_aload_n f_71_7 rfl ?_
  refine x_iload_n f_71_8 rfl ?_
  refine x_callVe f_71_9 (k_stuffAt C h_sm e_sm hb hB.1.1) (by omega) C.k8 (by decide) rfl rfl (Nat.le_of_ble_eq_true rfl) rfl ?_
  refine x_astore (ls1 := [.ref 8, .int (nI a), .int (nI b), .int rings, .ref (sA h a), .ref (sA h b), mj_unset]) f_71_12 (Nat.le_of_ble_eq_true rfl) rfl ?_
  refine x_aload f_71_14 rfl ?_
  refine x_ifnull f_71_16 ?_
  refine x_aload f_71_19 rfl ?_
  refine x_ifnull f_71_21 ?_
  refine x_aload f_71_24 rfl ?_
  refine x_iload_n f_71_26 rfl ?_
  refine x_callVe f_71_27 (k_isBarred hA.1.2.1 (z := b) (by omega)) (by omega) hA.1.2.1 (by decide) rfl rfl (Nat.le_of_ble_eq_true rfl) rfl ?_
  refine x_ifB_eq (t := 35) f_71_30 (by decide) (fun c_1 => ?_) (fun c_1 => absurd c_1 hbit)
  refine x_iload_n f_71_35 rfl ?_
  refine x_iconst (v := nI 2) f_71_36 (by decide) ?_
  refine x_icmp_lt (t := 55) f_71_37 (by decide) (fun c_2 => absurd hr.1 (Int32.not_le.mpr c_2)) (fun c_2 => ?_)
  refine x_iload_n f_71_40 rfl ?_
  refine x_bipush (v := nI 6) f_71_41 (by decide) ?_
  refine x_icmp_gt (t := 55) f_71_43 (by decide) (fun c_3 => absurd hr.2 (Int32.not_le.mpr c_3)) (fun c_3 => ?_)
  refine x_aload_n f_71_46 rfl ?_
  refine x_getI f_71_47 C.k8 (by decide) ?_
  refine x_topi (w := nI jm) e_jm ?_
  refine x_bipush (v := nI 20) f_71_50 (by decide) ?_
  refine x_icmpN_ne (t := 57) f_71_52 (by decide) (by omega) (by decide) (fun c_1 => ?_) (fun c_1 => by omega)
  refine x_new f_71_57 (by decide) rfl ?_
  refine x_dup f_71_60 rfl ?_
  refine x_iload_n f_71_61 rfl ?_
  refine x_iload_n f_71_62 rfl ?_
  refine x_callI f_71_63 (k_oinit (h := mj_new h 3 5) (mj_K_newA h 3 5) (Nat.lt_succ_self _) a b) (by omega) rfl rfl rfl (Nat.le_of_ble_eq_true rfl) rfl ?_
  rintro _ _ ⟨rfl, rfl⟩
  refine x_nameH (fun w0 ew0 => ?_)
  have ew : h0 = w0 := eh0.trans ew0.symm
  subst ew
  refine x_astore (ls1 := [.ref 8, .int (nI a), .int (nI b), .int rings, .ref (sA h a), .ref (sA h b), .ref h.1]) f_71_66 (Nat.le_of_ble_eq_true rfl) rfl ?_
  refine x_aload f_71_68 rfl ?_
  refine x_aload f_71_70 rfl ?_
  refine x_aload f_71_72 rfl ?_
  refine x_iload_n f_71_74 rfl ?_
  refine x_callV f_71_75 (k_join (h := h0) (X := sM h a) (Y := sM h b) k0 r0 kU kB rB kX kG rG kY (by omega) (by omega) (by omega) rings) (by omega) k0 (by decide) rfl rfl (Nat.le_of_ble_eq_true rfl) rfl ?_
  rintro _ g ⟨rfl, hR, hm, h8⟩
  have Cg : SC g := hR.sc C0 (fun x hx q => by simp only [List.mem_cons, List.not_mem_nil, or_false] at q; omega)
  have kg : mj_K g h.1 = (3, 5) := by rw [hR.2.2.1]; exact k0
  have e11 : mj_I g 8 11 = nI jm := by rw [hR.i (by simp; omega), i0 8 (by omega)]; exact e_jm
  refine x_aload_n f_71_78 rfl ?_
  refine x_getR f_71_79 Cg.k8 (by decide) Cg.r8_1 ?_
  refine x_aload_n f_71_82 rfl ?_
  refine x_getI f_71_83 Cg.k8 (by decide) ?_
  refine x_topi (w := nI jm) e11 ?_
  refine x_aload f_71_86 rfl ?_
  refine x_rast (j := jm) f_71_88 Cg.k10 (by decide) kg (by omega) (by decide) ?_
  refine x_aload_n f_71_89 rfl ?_
  refine x_dup f_71_90 rfl ?_
  refine x_getI f_71_91 Cg.k8 (by decide) ?_
  refine x_topi (w := nI jm) e11 ?_
  refine x_iconst (v := nI 1) f_71_94 (by decide) ?_
  refine x_iaddN f_71_95 ?_
  refine x_putI f_71_96 Cg.k8 (by decide) ?_
  refine x_aload_n f_71_99 rfl ?_
  refine x_getI f_71_100 Cg.k8 (by decide) ?_
  refine x_topi (w := nI (jm + 1)) (mj_I_at _ _ _ _) ?_
  refine x_iconst (v := nI 1) f_71_103 (by decide) ?_
  refine x_isubN f_71_104 (by omega) ?_
  refine x_retI f_71_105 rfl ?_
  refine ⟨by rw [Nat.add_sub_cancel], ?_, ?_, ?_⟩
  · show g.1 = _
    rw [hR.1, eh0]; rfl
  · show g.2.1 = _
    rw [hR.2.1, eh0]; rfl
  · refine ⟨fun x hx => ?_, fun x hx h8 => ?_, fun q hq => ?_, ?_, fun x hx => ?_, fun x i hx hn => ?_, mj_R_at g 10 jm (some h.1), ?_, ?_, ?_⟩
    · show mj_K g x = _
      rw [hR.2.2.1]
      exact kk x hx
    · rw [mj_I_other h8]
      show mj_I g x = _
      rw [hR.i (by simp; omega)]
      exact i0 x hx
    · rw [mj_I_ne hq]
      show mj_I g 8 q = _
      rw [hR.i (by simp; omega), i0 8 (by omega)]
    · exact mj_I_at _ _ _ _
    · show mj_J g x = _
      rw [hR.2.2.2.1]
      exact j0 x hx
    · show mj_R (mj_setR g 10 jm (some h.1)) x i = _
      rw [mj_R_set, hR.2.2.2.2.1]
      by_cases q : x = 10
      · rw [if_pos q, if_neg (fun z => hn ⟨q, z⟩), rr x i hx]
      · rw [if_neg q, rr x i hx]
    · refine ⟨kg, ?_, ?_, ?_⟩
      · show mj_R (mj_setR g 10 jm (some h.1)) h.1 2 = _
        rw [mj_R_other (by omega), hR.2.2.2.2.1]
        exact r0
      · show mj_R (mj_setR g 10 jm (some h.1)) h.1 3 = _
        rw [mj_R_other (by omega), hR.2.2.2.2.1]
        exact r3
      · show mj_R (mj_setR g 10 jm (some h.1)) h.1 4 = _
        rw [mj_R_other (by omega), hR.2.2.2.2.1]
        exact r4
    · refine ⟨?_, ?_, ?_⟩
      · show mj_K g (h.1 + 1) = _
        rw [hR.2.2.1]; exact kU
      · show mj_K g (h.1 + 2) = _
        rw [hR.2.2.1]; exact kD
      · show mj_K g (h.1 + 3) = _
        rw [hR.2.2.1]; exact kF
    · refine ⟨fun i hi => ?_, ?_, ?_, ?_, fun i => ?_, fun i => ?_⟩
      · refine (congrFun (mj_I_other (by omega)) i).trans ?_
        show mj_I g (h.1 + 1) i = _
        rw [hm i hi, i0 _ hA.2.1.2.2.2, i0 _ hB.2.1.2.2.2]
      · exact (congrFun (mj_I_other (by omega)) 8).trans h8
      · refine (congrFun (mj_I_other (by omega)) 0).trans ?_
        show mj_I g h.1 0 = _
        rw [hR.i (by simp)]
        exact o0
      · refine (congrFun (mj_I_other (by omega)) 1).trans ?_
        show mj_I g h.1 1 = _
        rw [hR.i (by simp)]
        exact o1
      · show mj_J g (h.1 + 2) i = 0
        rw [hR.2.2.2.1]; exact jD0 i
      · show mj_J g (h.1 + 3) i = 0
        rw [hR.2.2.2.1]; exact jF0 i
