/-! THE DAY'S LIST asked; entries, and the tape -/
def RtOk (h : mj_H) : Prop := mj_R h 28 4 = none ∨ ∃ Rt, mj_R h 28 4 = some Rt ∧ mj_K h Rt = (12, 2048) ∧ 63 ≤ Rt ∧ Rt < h.1
def FlOk (h : mj_H) (n : Nat) : Prop := (mj_I h 28 7 = nI 1 ∧ PN h (chg h) n) ∨ mj_I h 28 7 = nI 0
/-- what asking for the order leaves -/
def OE (h g : mj_H) (jm n : Nat) : Prop := CJ g jm ∧ (∃ Rt, (h.1 ≤ Rt ∨ mj_K h Rt = (12, 2048)) ∧ 63 ≤ Rt ∧ EF [28, 31, 32, Rt] [(28, 4)] h g) ∧ (∀ q, ¬ q = 6 → ¬ q = 7 → mj_I g 28 q = mj_I h 28 q) ∧ mj_I g 28 7 = nI 1 ∧ PN g (chg h) n ∧ g.1 ≤ h.1 + 1 ∧ g.2.1 ≤ h.2.1 + 2048 ∧ RtOk g
set_option maxRecDepth 20000 in
theorem k_plan {h : mj_H} {jm n : Nat} (c : CJ h jm) (d : DL h n) (h63h : 63 ≤ h.1) (fo : FlOk h n) (ro : RtOk h) : mxc 4 22 [.ref 28] h (fun r h' => r = none ∧ OE h h' jm n) := by
  have C := c.1
  have kN : mj_K (mj_new h 12 2048) 28 = (2, 8) := (mj_K_new (by omega)).trans C.k28
  show mx 4 22 0 [.ref 28, mj_unset, mj_unset, mj_unset, mj_unset] [] h _
  rcases fo with ⟨f7, hPN⟩ | f7
  · skip
    refine x_aload_n f_22_0 rfl ?_
    refine x_getI f_22_1 C.k28 (by decide) ?_
    refine x_topi (w := nI 1) f7 ?_
    refine x_ifN_eq (t := 8) f_22_4 (by decide) (by decide) (fun c_1 => by omega) (fun c_1 => ?_)
    refine x_retV f_22_7 rfl ?_
    exact ⟨rfl, c, ⟨h.1, Or.inl (Nat.le_refl _), h63h, EF.rf _ _ _⟩, fun _ _ _ => rfl, f7, hPN, by omega, by omega, ro⟩
  · rcases ro with rt | ⟨Rt, rt, hRt, h63R, hRl⟩
    · skip
      refine x_aload_n f_22_0 rfl ?_
      refine x_getI f_22_1 C.k28 (by decide) ?_
      refine x_topi (w := nI 0) f7 ?_
      refine x_ifN_eq (t := 8) f_22_4 (by decide) (by decide) (fun c_1 => ?_) (fun c_1 => by omega)
      refine x_aload_n f_22_8 rfl ?_
      refine x_getN f_22_9 C.k28 (by decide) rt ?_
      refine x_ifnonnullN f_22_12 ?_
      refine x_aload_n f_22_15 rfl ?_
      refine x_sipush (v := nI 2048) f_22_16 (by decide) ?_
      refine x_newa f_22_19 (by decide) ?_
      refine x_putR f_22_21 kN (by decide) ?_
      refine x_nameH (fun h1 eh1 => ?_)
      have l1 : h1.1 = h.1 + 1 := by rw [eh1]; rfl
      have s1 : h1.2.1 = h.2.1 + 2048 := by rw [eh1]; rfl
      have nw : Nw h h1 := by rw [eh1]; exact (new_nw h 12 2048).setR (by simp)
      have C1 : SC h1 := by rw [eh1]; exact SC_setR (SC_new C h63h 12 2048) (by decide)
      have c1 : CJ h1 jm := CJ_nw c nw h63h C1
      have e28 := nw.2.2.1 28 (by omega)
      have e58 := nw.2.2.1 58 (by omega)
      have e59 := nw.2.2.1 59 (by omega)
      have d1 : DL h1 n := DL_to d (congrFun e28 5) (nw.2.2.1 29 (by omega)) (nw.2.2.1 30 (by omega)) e58 e59
      have hK1 : mj_K h1 h.1 = (12, 2048) := by rw [eh1]; exact mj_K_newA h 12 2048
      have rt1 : mj_R h1 28 4 = some h.1 := by rw [eh1]; exact mj_R_at _ _ _ _
      refine (kplan_24 C1 d1 h63h hK1 rt1 _ _ _ _).post ?_
      rintro _ g ⟨rfl, hR, hF, e7, hPN⟩
      have ec : chg h1 = chg h := by funext a b; exact chg_to e58 e59 a b
      rw [ec] at hPN
      refine ⟨rfl, CJ_rw c1 hR (fun a ha => ?_), ⟨h.1, Or.inl (Nat.le_refl _), h63h, EF.trans ⟨nw.1, nw.2.1, fun a ha _ => nw.2.2.1 a ha, fun a ha i hn => ?_, fun a _ ha => nw.2.2.2.1 a ha⟩ (hR.ef _)⟩, fun q h6 h7 => (hF q h6 h7).trans (congrFun e28 q), e7, hPN, by rw [hR.1]; omega, by rw [hR.2.1]; omega, Or.inr ⟨h.1, by rw [hR.2.2.2.2.1]; exact rt1, by rw [hR.2.2.1]; exact hK1, h63h, by rw [hR.1]; omega⟩⟩
      · simp only [List.mem_cons, List.not_mem_nil, or_false] at ha
        rcases ha with q | q | q | q
        · exact (Fr_lt c1.2.2.1 (as := [28]) (by decide)) a (by simp [q])
        · exact (Fr_lt c1.2.2.1 (as := [31]) (by decide)) a (by simp [q])
        · exact (Fr_lt c1.2.2.1 (as := [32]) (by decide)) a (by simp [q])
        · exact (Fr_k c1 hK1 (by decide) h63h) a (by simp [q])
      · rw [eh1, mj_R_set]
        by_cases q8 : a = 28
        · rw [if_pos q8, if_neg (fun z => hn (by rw [q8, z]; simp)), mj_R_new (by omega)]
        · rw [if_neg q8, mj_R_new (by omega)]
    · skip
      refine x_aload_n f_22_0 rfl ?_
      refine x_getI f_22_1 C.k28 (by decide) ?_
      refine x_topi (w := nI 0) f7 ?_
      refine x_ifN_eq (t := 8) f_22_4 (by decide) (by decide) (fun c_1 => ?_) (fun c_1 => by omega)
      refine x_aload_n f_22_8 rfl ?_
      refine x_getR f_22_9 C.k28 (by decide) rt ?_
      refine x_ifnonnull (t := 24) f_22_12 (by decide) ?_
      refine (kplan_24 C d h63R hRt rt _ _ _ _).post ?_
      rintro _ g ⟨rfl, hR, hF, e7, hPN⟩
      refine ⟨rfl, CJ_rw c hR (fun a ha => ?_), ⟨Rt, Or.inr hRt, h63R, hR.ef _⟩, hF, e7, hPN, by rw [hR.1]; omega, by rw [hR.2.1]; omega, Or.inr ⟨Rt, by rw [hR.2.2.2.2.1]; exact rt, by rw [hR.2.2.1]; exact hRt, h63R, by rw [hR.1]; exact hRl⟩⟩
      simp only [List.mem_cons, List.not_mem_nil, or_false] at ha
      rcases ha with q | q | q | q
      · exact (Fr_lt c.2.2.1 (as := [28]) (by decide)) a (by simp [q])
      · exact (Fr_lt c.2.2.1 (as := [31]) (by decide)) a (by simp [q])
      · exact (Fr_lt c.2.2.1 (as := [32]) (by decide)) a (by simp [q])
      · exact (Fr_k c hRt (by decide) h63R) a (by simp [q])
theorem ord_lt {n : Nat} {i : Int32} (hn : n ≤ 8) (h : i ≤ nI n - nI 1) : i < nI n := by
  have e : (nI n - nI 1).toInt = (n : Int) - 1 := pk_sub_toInt (by omega) (by decide)
  rw [Int32.le_iff_toInt_le, e] at h
  rw [Int32.lt_iff_toInt_lt, nI_toInt (by omega)]
  omega
set_option maxRecDepth 20000 in
theorem k_orderV {h : mj_H} {jm n : Nat} (c : CJ h jm) (d : DL h n) (h63h : 63 ≤ h.1) (fo : FlOk h n) (ro : RtOk h) (i : Int32) (hi : -1 ≤ i ∧ i ≤ nI n - nI 1) (hn0 : ¬ n = 0) : mxc 5 97 [.ref 8, .int i] h (fun r h' => ∃ b, OS (chg h) n b ∧ r = some (.int (osA (chg h) b i)) ∧ OE h h' jm n) := by
  have hn := d.1
  show mx 5 97 0 [.ref 8, .int i] [] h _
  refine x_aload_n f_97_0 rfl ?_
  refine x_getR f_97_1 c.1.k8 (by decide) c.1.r8_7 ?_
  refine x_getI f_97_4 c.1.k28 (by decide) ?_
  refine x_topi (w := nI n) d.2.1 ?_
  refine x_ifN_eq (t := 26) f_97_7 (by decide) (by omega) (fun c_1 => absurd c_1 hn0) (fun c_1 => ?_)
  refine x_iload_n f_97_10 rfl ?_
  refine x_iconst (v := -1) f_97_11 (by decide) ?_
  refine x_icmp_lt (t := 26) f_97_12 (by decide) (fun c_2 => absurd hi.1 (Int32.not_le.mpr c_2)) (fun c_2 => ?_)
  refine x_iload_n f_97_15 rfl ?_
  refine x_aload_n f_97_16 rfl ?_
  refine x_getR f_97_17 c.1.k8 (by decide) c.1.r8_7 ?_
  refine x_getI f_97_20 c.1.k28 (by decide) ?_
  refine x_topi (w := nI n) d.2.1 ?_
  refine x_icmp_lt (t := 28) f_97_23 (by decide) (fun c_3 => ?_) (fun c_3 => absurd (ord_lt hn hi.2) c_3)
  refine x_aload_n f_97_28 rfl ?_
  refine x_getR f_97_29 c.1.k8 (by decide) c.1.r8_7 ?_
  refine x_callV f_97_32 (k_plan c d h63h fo ro) (by omega) c.1.k28 (by decide) rfl rfl (Nat.le_of_ble_eq_true rfl) rfl ?_
  rintro _ g ⟨rfl, hO⟩
  obtain ⟨b, hOS, hb6, hb31⟩ := hO.2.2.2.2.1
  have C2 := hO.1.1
  refine x_iload_n f_97_35 rfl ?_
  refine x_iconst (v := -1) f_97_36 (by decide) ?_
  refine x_icmp_ne (t := 50) f_97_37 (by decide) (fun c_i => ?_) (fun c_i => ?_)
  · obtain ⟨j, h_j, rfl⟩ := mIn_of (ord_in hn hi.1 hi.2 c_i) (by omega)
    refine x_aload_n f_97_50 rfl ?_
    refine x_getR f_97_51 C2.k8 (by decide) C2.r8_7 ?_
    refine x_getR f_97_54 C2.k28 (by decide) C2.r28_2 ?_
    refine x_iload_n f_97_57 rfl ?_
    refine x_iald (j := j) f_97_58 C2.k31 (by omega) (by decide) ?_
    refine x_topi (w := nI (b.getD j 0)) (hb31 j h_j) ?_
    refine x_retI f_97_59 rfl ?_
    exact ⟨b, hOS, by unfold osA; rw [if_neg c_i, nI_clamp (by omega)], hO⟩
  · refine x_aload_n f_97_40 rfl ?_
    refine x_getR f_97_41 C2.k8 (by decide) C2.r8_7 ?_
    refine x_getI f_97_44 C2.k28 (by decide) ?_
    refine x_topi (w := nI (cst (chg h) b)) hb6 ?_
    refine x_goto (t := 59) f_97_47 (by decide) ?_
    refine x_retI f_97_59 rfl ?_
    exact ⟨b, hOS, by unfold osA; rw [if_pos c_i], hO⟩
theorem ord_le {n : Nat} {i : Int32} (hn : n ≤ 8) (h0 : ¬ n = 0) (h : i < nI n) : i ≤ nI n - nI 1 := by
  have e : (nI n - nI 1).toInt = (n : Int) - 1 := pk_sub_toInt (by omega) (by decide)
  rw [Int32.lt_iff_toInt_lt, nI_toInt (by omega)] at h
  rw [Int32.le_iff_toInt_le, e]
  omega
set_option maxRecDepth 20000 in
theorem k_orderI {h : mj_H} (C : SC h) {n : Nat} (d : DL h n) (i : Int32) (hi : ¬ ((-1 ≤ i ∧ i ≤ nI n - nI 1) ∧ ¬ n = 0)) : mxc 0 97 [.ref 8, .int i] h (fun r h' => r = some (.int (-1)) ∧ h' = h) := by
  have hn := d.1
  show mx 0 97 0 [.ref 8, .int i] [] h _
  refine x_aload_n f_97_0 rfl ?_
  refine x_getR f_97_1 C.k8 (by decide) C.r8_7 ?_
  refine x_getI f_97_4 C.k28 (by decide) ?_
  refine x_topi (w := nI n) d.2.1 ?_
  refine x_ifN_eq (t := 26) f_97_7 (by decide) (by omega) (fun c_1 => ?_) (fun c_1 => ?_)
  · refine x_iconst (v := -1) f_97_26 (by decide) ?_
    refine x_retI f_97_27 rfl ?_
    exact ⟨rfl, rfl⟩
  · refine x_iload_n f_97_10 rfl ?_
    refine x_iconst (v := -1) f_97_11 (by decide) ?_
    refine x_icmp_lt (t := 26) f_97_12 (by decide) (fun c_2 => ?_) (fun c_2 => ?_)
    · refine x_iconst (v := -1) f_97_26 (by decide) ?_
      refine x_retI f_97_27 rfl ?_
      exact ⟨rfl, rfl⟩
    · refine x_iload_n f_97_15 rfl ?_
      refine x_aload_n f_97_16 rfl ?_
      refine x_getR f_97_17 C.k8 (by decide) C.r8_7 ?_
      refine x_getI f_97_20 C.k28 (by decide) ?_
      refine x_topi (w := nI n) d.2.1 ?_
      refine x_icmp_lt (t := 28) f_97_23 (by decide) (fun c_3 => absurd ⟨⟨Int32.not_lt.mp c_2, ord_le hn c_1 c_3⟩, c_1⟩ hi) (fun c_3 => ?_)
      refine x_iconst (v := -1) f_97_26 (by decide) ?_
      refine x_retI f_97_27 rfl ?_
      exact ⟨rfl, rfl⟩
