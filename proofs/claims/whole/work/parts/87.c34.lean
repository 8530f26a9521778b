/-! THE BOOK of joints: odd ones, who leads -/
/-- the words of the joints are laid out -/
def WO (h : mj_H) (q : Int32) (xm km : Nat) : Prop := ∀ x, x < xm → mj_I h 24 x = nI (ta h (nI x) q km)
theorem BK_to {h g : mj_H} {jm xm km : Nat} {is : List Nat} {rs : List (Nat × Nat)} (b : BK h jm xm km) (h63 : 63 ≤ h.1) (e : EF is rs h g) (hs : ∀ a ∈ is, a ∉ [22, 25, 26, 27, 52, 53, 54, 55, 56, 57] ∧ (63 ≤ a → a < h.1 → mj_K h a ≠ (4, 3))) (hr : ∀ x ∈ rs, x.1 ≠ 23 ∧ x.1 ≠ 10 ∧ (63 ≤ x.1 → x.1 < h.1 → mj_K h x.1 ≠ (4, 3))) : BK g jm xm km := by
  have ei : ∀ a, a ∈ [22, 25, 26, 27, 52, 53, 54, 55, 56, 57] → mj_I g a = mj_I h a := fun a ha => e.2.2.1 a (by
    have : a < 63 := by revert a; decide
    omega) (fun q => (hs a q).1 ha)
  have er : ∀ a i, a = 23 ∨ a = 10 → mj_R g a i = mj_R h a i := fun a i ha => e.2.2.2.1 a (by omega) i (fun q => by have := hr _ q; dsimp only at this; omega)
  have eA : ∀ j, jA g j = jA h j := fun j => by unfold jA; rw [er 10 j (Or.inr rfl)]
  have exA : ∀ x, xA g x = xA h x := fun x => by unfold xA; rw [er 23 x (Or.inl rfl)]
  have ejj : ∀ x, jj g x = jj h x := fun x => by unfold jj; rw [ei 52 (by decide)]
  have ejs : ∀ x, js g x = js h x := fun x => by unfold js; rw [ei 53 (by decide)]
  obtain ⟨⟨b1, b2, b3⟩, b4, b5, b6, b7⟩ := b
  refine ⟨⟨b1, by rw [ei 22 (by decide)]; exact b2, fun x hx => ?_⟩, b4, by rw [ei 22 (by decide)]; exact b5, fun i hi => ?_, fun i j => by rw [ei 57 (by decide)]; exact b7 i j⟩
  · have k := b3 x hx
    have hl := k.1.2.2.2
    have h6 := k.1.2.2.1
    unfold XC JT
    rw [exA, ejj, ejs, eA, er 23 x (Or.inl rfl), e.2.1 _ hl, e.2.2.2.1 _ hl 0 (fun q => (hr _ q).2.2 h6 hl k.1.2.1), e.2.2.1 _ hl (fun q => (hs _ q).2 h6 hl k.1.2.1), ei 52 (by decide), ei 53 (by decide), ei 54 (by decide)]
    exact ⟨⟨k.1.1, k.1.2.1, h6, Nat.lt_of_lt_of_le hl e.1⟩, k.2⟩
  · have k := b6 i hi
    unfold TR
    rw [ei 25 (by decide), ei 27 (by decide), ei 26 (by decide), ei 55 (by decide), ei 56 (by decide), ei 57 (by decide)]
    exact k
set_option maxRecDepth 20000 in
theorem kodd_l {h : mj_H} {jm xm km : Nat} (b : BK h jm xm km) (h63h : 63 ≤ h.1) {q : Int32} (hw : WO h q xm km) : ∀ (j k : Nat) (g : mj_H), k + j = xm → CQ h g jm → ∀ v4 : Value, mx 4 16 4 [.ref 22, .ref 12, .int (nI (od h q km k)), .int (nI k), v4] [] g (fun r h' => r = some (.int (nI (od h q km xm))) ∧ CQ h h' jm) := by
  have hx60 := b.1.1
  intro j
  induction j with
  | zero =>
    intro k g hk qq v4
    have e5 := (congrFun (qq.2.i (a := 22) (by decide)) 5).trans b.1.2.1
    refine x_iload_n f_16_4 rfl ?_
    refine x_aload_n f_16_5 rfl ?_
    refine x_getI f_16_6 qq.1.1.k22 (by decide) ?_
    refine x_topi (w := nI xm) e5 ?_
    refine x_icmpN_ge (t := 74) f_16_9 (by decide) (by omega) (by omega) (fun c_1 => ?_) (fun c_1 => by omega)
    refine x_iload_n f_16_74 rfl ?_
    refine x_retI f_16_75 rfl ?_
    obtain rfl : k = xm := by omega
    exact ⟨rfl, qq⟩
  | succ j ih =>
    intro k g hk qq v4
    have e5 := (congrFun (qq.2.i (a := 22) (by decide)) 5).trans b.1.2.1
    have hX := b.1.2.2 k (by omega)
    have h6 := hX.1.2.2.1
    have w24 := (congrFun (qq.2.i (a := 24) (by decide)) k).trans (hw k (by omega))
    have exA : xA g k = xA h k := by unfold xA; rw [qq.2.r (by decide)]
    have rx : mj_R g 23 k = some (xA g k) := by rw [exA, qq.2.r (by decide)]; exact hX.1.1
    have kx := (qq.2.k (xA h k)).trans hX.1.2.1
    have rx0 := (congrFun (qq.2.r (a := xA h k) (by omega)) 0).trans hX.2.1
    have ix1 := (congrFun (qq.2.i (a := xA h k) (by omega)) 1).trans hX.2.2.1
    have hjt := k_jointAt qq.1.1 b.1.1 e5 (v := k) (by omega) rx
    rw [exA] at hjt
    have ih2 := ih (k + 1)
    have hle := ta_le h (nI k) q km
    have hod := od_le h q km k
    by_cases hw1 : ta h (nI k) q km = 1
    · skip
      refine x_iload_n f_16_4 rfl ?_
      refine x_aload_n f_16_5 rfl ?_
      refine x_getI f_16_6 qq.1.1.k22 (by decide) ?_
      refine x_topi (w := nI xm) e5 ?_
      refine x_icmpN_ge (t := 74) f_16_9 (by decide) (by have := ta_le h (nI k) q km; omega) (by have := ta_le h (nI k) q km; omega) (fun c_1 => by omega) (fun c_1 => ?_)
      refine x_aload_n f_16_12 rfl ?_
      refine x_iload_n f_16_13 rfl ?_
      refine x_callVe f_16_14 hjt (by omega) qq.1.1.k22 (by decide) rfl rfl (Nat.le_of_ble_eq_true rfl) rfl ?_
      refine x_astore (ls1 := [.ref 22, .ref 12, .int (nI (od h q km k)), .int (nI k), .ref (xA h k)]) f_16_17 (Nat.le_of_ble_eq_true rfl) rfl ?_
      refine x_aload f_16_19 rfl ?_
      refine x_ifnull f_16_21 ?_
      refine x_aload_n f_16_24 rfl ?_
      refine x_getR f_16_25 qq.1.1.k22 (by decide) qq.1.1.r22_1 ?_
      refine x_iload_n f_16_28 rfl ?_
      refine x_iald (j := k) f_16_29 qq.1.1.k24 (by have := ta_le h (nI k) q km; omega) (by decide) ?_
      refine x_topi (w := nI (ta h (nI k) q km)) w24 ?_
      refine x_ifN_eq (t := 68) f_16_30 (by decide) (by have := ta_le h (nI k) q km; omega) (fun c_0 => ?_) (fun c_0 => ?_)
      · refine x_iinc (v := nI (k + 1)) (ls1 := [.ref 22, .ref 12, .int (nI (od h q km k)), .int (nI (k + 1)), .ref (xA h k)]) f_16_68 rfl (by exact nI_add _ 1) rfl ?_
        refine x_goto (t := 4) f_16_71 (by decide) ?_
        rw [show od h q km (k + 1) = od h q km k + (if oddp h q km k then 1 else 0) from rfl, if_neg (fun z => z.1 c_0)] at ih2
        exact ih2 g (by omega) qq _
      · refine x_aload_n f_16_33 rfl ?_
        refine x_aload f_16_34 rfl ?_
        refine x_getR f_16_36 kx (by decide) rx0 ?_
        refine x_aload f_16_39 rfl ?_
        refine x_getI f_16_41 kx (by decide) ?_
        refine x_topi (w := nI (js h k)) ix1 ?_
        refine x_callV f_16_44 (k_mg qq hX.2.2.2.2.2.1 (z := js h k) hX.2.2.2.2.2.2.2) (by omega) qq.1.1.k12 (by decide) rfl rfl (Nat.le_of_ble_eq_true rfl) rfl ?_
        rintro _ g1 ⟨rfl, q1⟩
        have w24 := (congrFun (q1.2.i (a := 24) (by decide)) k).trans (hw k (by omega))
        refine x_aload_n f_16_47 rfl ?_
        refine x_getR f_16_48 q1.1.1.k22 (by decide) q1.1.1.r22_1 ?_
        refine x_iload_n f_16_51 rfl ?_
        refine x_iald (j := k) f_16_52 q1.1.1.k24 (by have := ta_le h (nI k) q km; omega) (by decide) ?_
        refine x_topi (w := nI (ta h (nI k) q km)) w24 ?_
        refine x_iconst (v := nI 1) f_16_53 (by decide) ?_
        refine x_icmpN_ne (t := 61) f_16_54 (by decide) (by have := ta_le h (nI k) q km; omega) (by decide) (fun c_w => absurd hw1 c_w) (fun c_w => ?_)
        refine x_iconst (v := nI 1) f_16_57 (by decide) ?_
        refine x_goto (t := 62) f_16_58 (by decide) ?_
        refine x_icmp_eq (t := 68) f_16_62 (by decide) (fun c_e => ?_) (fun c_e => ?_)
        · refine x_iinc (v := nI (k + 1)) (ls1 := [.ref 22, .ref 12, .int (nI (od h q km k)), .int (nI (k + 1)), .ref (xA h k)]) f_16_68 rfl (by exact nI_add _ 1) rfl ?_
          refine x_goto (t := 4) f_16_71 (by decide) ?_
          have ho : ¬ oddp h q km k := by
            have ce := c_e
            rw [if_e1] at ce
            skip
            rintro ⟨a1, a2⟩
            exact a2.mp hw1 ce
          rw [show od h q km (k + 1) = od h q km k + (if oddp h q km k then 1 else 0) from rfl, if_neg ho] at ih2
          exact ih2 g1 (by omega) q1 _
        · refine x_iinc (v := nI (od h q km k + 1)) (ls1 := [.ref 22, .ref 12, .int (nI (od h q km k + 1)), .int (nI k), .ref (xA h k)]) f_16_65 rfl (by exact nI_add _ 1) rfl ?_
          refine x_iinc (v := nI (k + 1)) (ls1 := [.ref 22, .ref 12, .int (nI (od h q km k + 1)), .int (nI (k + 1)), .ref (xA h k)]) f_16_68 rfl (by exact nI_add _ 1) rfl ?_
          refine x_goto (t := 4) f_16_71 (by decide) ?_
          have ho : oddp h q km k := by
            have ce := c_e
            rw [if_e1] at ce
            skip
            constructor
            · exact c_0
            · constructor
              · intro _; exact ce
              · intro _; exact hw1
          rw [show od h q km (k + 1) = od h q km k + (if oddp h q km k then 1 else 0) from rfl, if_pos ho] at ih2
          exact ih2 g1 (by omega) q1 _
    · skip
      refine x_iload_n f_16_4 rfl ?_
      refine x_aload_n f_16_5 rfl ?_
      refine x_getI f_16_6 qq.1.1.k22 (by decide) ?_
      refine x_topi (w := nI xm) e5 ?_
      refine x_icmpN_ge (t := 74) f_16_9 (by decide) (by have := ta_le h (nI k) q km; omega) (by have := ta_le h (nI k) q km; omega) (fun c_1 => by omega) (fun c_1 => ?_)
      refine x_aload_n f_16_12 rfl ?_
      refine x_iload_n f_16_13 rfl ?_
      refine x_callVe f_16_14 hjt (by omega) qq.1.1.k22 (by decide) rfl rfl (Nat.le_of_ble_eq_true rfl) rfl ?_
      refine x_astore (ls1 := [.ref 22, .ref 12, .int (nI (od h q km k)), .int (nI k), .ref (xA h k)]) f_16_17 (Nat.le_of_ble_eq_true rfl) rfl ?_
      refine x_aload f_16_19 rfl ?_
      refine x_ifnull f_16_21 ?_
      refine x_aload_n f_16_24 rfl ?_
      refine x_getR f_16_25 qq.1.1.k22 (by decide) qq.1.1.r22_1 ?_
      refine x_iload_n f_16_28 rfl ?_
      refine x_iald (j := k) f_16_29 qq.1.1.k24 (by have := ta_le h (nI k) q km; omega) (by decide) ?_
      refine x_topi (w := nI (ta h (nI k) q km)) w24 ?_
      refine x_ifN_eq (t := 68) f_16_30 (by decide) (by have := ta_le h (nI k) q km; omega) (fun c_0 => ?_) (fun c_0 => ?_)
      · refine x_iinc (v := nI (k + 1)) (ls1 := [.ref 22, .ref 12, .int (nI (od h q km k)), .int (nI (k + 1)), .ref (xA h k)]) f_16_68 rfl (by exact nI_add _ 1) rfl ?_
        refine x_goto (t := 4) f_16_71 (by decide) ?_
        rw [show od h q km (k + 1) = od h q km k + (if oddp h q km k then 1 else 0) from rfl, if_neg (fun z => z.1 c_0)] at ih2
        exact ih2 g (by omega) qq _
      · refine x_aload_n f_16_33 rfl ?_
        refine x_aload f_16_34 rfl ?_
        refine x_getR f_16_36 kx (by decide) rx0 ?_
        refine x_aload f_16_39 rfl ?_
        refine x_getI f_16_41 kx (by decide) ?_
        refine x_topi (w := nI (js h k)) ix1 ?_
        refine x_callV f_16_44 (k_mg qq hX.2.2.2.2.2.1 (z := js h k) hX.2.2.2.2.2.2.2) (by omega) qq.1.1.k12 (by decide) rfl rfl (Nat.le_of_ble_eq_true rfl) rfl ?_
        rintro _ g1 ⟨rfl, q1⟩
        have w24 := (congrFun (q1.2.i (a := 24) (by decide)) k).trans (hw k (by omega))
        refine x_aload_n f_16_47 rfl ?_
        refine x_getR f_16_48 q1.1.1.k22 (by decide) q1.1.1.r22_1 ?_
        refine x_iload_n f_16_51 rfl ?_
        refine x_iald (j := k) f_16_52 q1.1.1.k24 (by have := ta_le h (nI k) q km; omega) (by decide) ?_
        refine x_topi (w := nI (ta h (nI k) q km)) w24 ?_
        refine x_iconst (v := nI 1) f_16_53 (by decide) ?_
        refine x_icmpN_ne (t := 61) f_16_54 (by decide) (by have := ta_le h (nI k) q km; omega) (by decide) (fun c_w => ?_) (fun c_w => absurd c_w hw1)
        refine x_iconst (v := nI 0) f_16_61 (by decide) ?_
        refine x_icmp_eq (t := 68) f_16_62 (by decide) (fun c_e => ?_) (fun c_e => ?_)
        · refine x_iinc (v := nI (k + 1)) (ls1 := [.ref 22, .ref 12, .int (nI (od h q km k)), .int (nI (k + 1)), .ref (xA h k)]) f_16_68 rfl (by exact nI_add _ 1) rfl ?_
          refine x_goto (t := 4) f_16_71 (by decide) ?_
          have ho : ¬ oddp h q km k := by
            have ce := c_e
            rw [if_e0] at ce
            skip
            rintro ⟨a1, a2⟩
            exact hw1 (a2.mpr ce)
          rw [show od h q km (k + 1) = od h q km k + (if oddp h q km k then 1 else 0) from rfl, if_neg ho] at ih2
          exact ih2 g1 (by omega) q1 _
        · refine x_iinc (v := nI (od h q km k + 1)) (ls1 := [.ref 22, .ref 12, .int (nI (od h q km k + 1)), .int (nI k), .ref (xA h k)]) f_16_65 rfl (by exact nI_add _ 1) rfl ?_
          refine x_iinc (v := nI (k + 1)) (ls1 := [.ref 22, .ref 12, .int (nI (od h q km k + 1)), .int (nI (k + 1)), .ref (xA h k)]) f_16_68 rfl (by exact nI_add _ 1) rfl ?_
          refine x_goto (t := 4) f_16_71 (by decide) ?_
          have ho : oddp h q km k := by
            have ce := c_e
            rw [if_e0] at ce
            skip
            constructor
            · exact c_0
            · constructor
              · intro _; exact absurd ‹_› hw1
              · intro _; exact absurd ce (by simpa using ‹_›)
          rw [show od h q km (k + 1) = od h q km k + (if oddp h q km k then 1 else 0) from rfl, if_pos ho] at ih2
          exact ih2 g1 (by omega) q1 _
set_option maxRecDepth 20000 in
theorem k_countOdd {h : mj_H} {jm xm km : Nat} (c : CJ h jm) (b : BK h jm xm km) (h63h : 63 ≤ h.1) {q : Int32} (hw : WO h q xm km) : mxc 4 16 [.ref 22, .ref 12] h (fun r h' => r = some (.int (nI (od h q km xm))) ∧ CQ h h' jm) := by
  show mx 4 16 0 [.ref 22, .ref 12, mj_unset, mj_unset, mj_unset] [] h _
  refine x_iconst (v := nI 0) f_16_0 (by decide) ?_
  refine x_istore_n (ls1 := [.ref 22, .ref 12, .int (nI 0), mj_unset, mj_unset]) f_16_1 (Nat.le_of_ble_eq_true rfl) rfl ?_
  refine x_iconst (v := nI 0) f_16_2 (by decide) ?_
  refine x_istore_n (ls1 := [.ref 22, .ref 12, .int (nI 0), .int (nI 0), mj_unset]) f_16_3 (Nat.le_of_ble_eq_true rfl) rfl ?_
  exact kodd_l b h63h hw xm 0 h (Nat.zero_add _) (CQ.rf c) _
set_option maxRecDepth 20000 in
theorem kcw_l {h : mj_H} {jm xm km : Nat} (c : CJ h jm) (b : BK h jm xm km) {q : Int32} (hw : WO h q xm km) {s wd : Nat} (hwd : wd ≤ 2) : ∀ (j k : Nat), k + j = xm → ∀ v5 : Value, mx 1 18 5 [.ref 22, .int (nI s), .int (nI wd), .int (nI (cw h q km s wd k)), .int (nI k), v5] [] h (fun r h' => r = some (.int (nI (cw h q km s wd xm))) ∧ h' = h) := by
  have hx60 := b.1.1
  intro j
  induction j with
  | zero =>
    intro k hk v5
    refine x_iload f_18_5 rfl ?_
    refine x_aload_n f_18_7 rfl ?_
    refine x_getI f_18_8 c.1.k22 (by decide) ?_
    refine x_topi (w := nI xm) b.1.2.1 ?_
    refine x_icmpN_ge (t := 59) f_18_11 (by decide) (by omega) (by omega) (fun c_1 => ?_) (fun c_1 => by omega)
    refine x_iload_n f_18_59 rfl ?_
    refine x_retI f_18_60 rfl ?_
    obtain rfl : k = xm := by omega
    exact ⟨rfl, rfl⟩
  | succ j ih =>
    intro k hk v5
    have hX := b.1.2.2 k (by omega)
    have ih2 := ih (k + 1)
    refine x_iload f_18_5 rfl ?_
    refine x_aload_n f_18_7 rfl ?_
    refine x_getI f_18_8 c.1.k22 (by decide) ?_
    refine x_topi (w := nI xm) b.1.2.1 ?_
    refine x_icmpN_ge (t := 59) f_18_11 (by decide) (by have := ta_le h (nI k) q km; have := cw_le h q km s wd k; omega) (by have := ta_le h (nI k) q km; have := cw_le h q km s wd k; omega) (fun c_1 => by omega) (fun c_1 => ?_)
    refine x_aload_n f_18_14 rfl ?_
    refine x_iload f_18_15 rfl ?_
    refine x_callVe f_18_17 (k_jointAt c.1 b.1.1 b.1.2.1 (v := k) (by omega) hX.1.1) (by omega) c.1.k22 (by decide) rfl rfl (Nat.le_of_ble_eq_true rfl) rfl ?_
    refine x_astore (ls1 := [.ref 22, .int (nI s), .int (nI wd), .int (nI (cw h q km s wd k)), .int (nI k), .ref (xA h k)]) f_18_20 (Nat.le_of_ble_eq_true rfl) rfl ?_
    refine x_aload f_18_22 rfl ?_
    refine x_ifnull f_18_24 ?_
    refine x_aload_n f_18_27 rfl ?_
    refine x_getR f_18_28 c.1.k22 (by decide) c.1.r22_1 ?_
    refine x_iload f_18_31 rfl ?_
    refine x_iald (j := k) f_18_33 c.1.k24 (by have := ta_le h (nI k) q km; have := cw_le h q km s wd k; omega) (by decide) ?_
    refine x_topi (w := nI (ta h (nI k) q km)) (hw k (by omega)) ?_
    refine x_iload_n f_18_34 rfl ?_
    refine x_icmpN_ne (t := 53) f_18_35 (by decide) (by have := ta_le h (nI k) q km; have := cw_le h q km s wd k; omega) (by have := ta_le h (nI k) q km; have := cw_le h q km s wd k; omega) (fun c_w => ?_) (fun c_w => ?_)
    · refine x_iinc (v := nI (k + 1)) (ls1 := [.ref 22, .int (nI s), .int (nI wd), .int (nI (cw h q km s wd k)), .int (nI (k + 1)), .ref (xA h k)]) f_18_53 rfl (by exact nI_add _ 1) rfl ?_
      refine x_goto (t := 5) f_18_56 (by decide) ?_
      rw [show cw h q km s wd (k + 1) = cw h q km s wd k + (if ta h (nI k) q km = wd ∧ hs h s k then 1 else 0) from rfl, if_neg (fun z => c_w z.1)] at ih2
      exact ih2 (by omega) _
    · refine x_aload f_18_38 rfl ?_
      refine x_getR f_18_40 hX.1.2.1 (by decide) hX.2.1 ?_
      refine x_iload_n f_18_43 rfl ?_
      refine x_callVe f_18_44 (k_hasJ c hX.2.2.2.2.2.1 _) (by omega) (c.2.2.1 _ hX.2.2.2.2.2.1).1.1.2.1 (by decide) rfl rfl (Nat.le_of_ble_eq_true rfl) rfl ?_
      refine x_ifB_eq (t := 53) f_18_47 (by decide) (fun c_h => ?_) (fun c_h => ?_)
      · refine x_iinc (v := nI (k + 1)) (ls1 := [.ref 22, .int (nI s), .int (nI wd), .int (nI (cw h q km s wd k)), .int (nI (k + 1)), .ref (xA h k)]) f_18_53 rfl (by exact nI_add _ 1) rfl ?_
        refine x_goto (t := 5) f_18_56 (by decide) ?_
        rw [show cw h q km s wd (k + 1) = cw h q km s wd k + (if ta h (nI k) q km = wd ∧ hs h s k then 1 else 0) from rfl, if_neg (fun z => c_h z.2)] at ih2
        exact ih2 (by omega) _
      · refine x_iinc (v := nI (cw h q km s wd k + 1)) (ls1 := [.ref 22, .int (nI s), .int (nI wd), .int (nI (cw h q km s wd k + 1)), .int (nI k), .ref (xA h k)]) f_18_50 rfl (by exact nI_add _ 1) rfl ?_
        refine x_iinc (v := nI (k + 1)) (ls1 := [.ref 22, .int (nI s), .int (nI wd), .int (nI (cw h q km s wd k + 1)), .int (nI (k + 1)), .ref (xA h k)]) f_18_53 rfl (by exact nI_add _ 1) rfl ?_
        refine x_goto (t := 5) f_18_56 (by decide) ?_
        rw [show cw h q km s wd (k + 1) = cw h q km s wd k + (if ta h (nI k) q km = wd ∧ hs h s k then 1 else 0) from rfl, if_pos ⟨c_w, c_h⟩] at ih2
        exact ih2 (by omega) _
set_option maxRecDepth 20000 in
theorem k_countWith {h : mj_H} {jm xm km : Nat} (c : CJ h jm) (b : BK h jm xm km) {q : Int32} (hw : WO h q xm km) {s wd : Nat} (hwd : wd ≤ 2) : mxc 1 18 [.ref 22, .int (nI s), .int (nI wd)] h (fun r h' => r = some (.int (nI (cw h q km s wd xm))) ∧ h' = h) := by
  show mx 1 18 0 [.ref 22, .int (nI s), .int (nI wd), mj_unset, mj_unset, mj_unset] [] h _
  refine x_iconst (v := nI 0) f_18_0 (by decide) ?_
  refine x_istore_n (ls1 := [.ref 22, .int (nI s), .int (nI wd), .int (nI 0), mj_unset, mj_unset]) f_18_1 (Nat.le_of_ble_eq_true rfl) rfl ?_
  refine x_iconst (v := nI 0) f_18_2 (by decide) ?_
  refine x_istore (ls1 := [.ref 22, .int (nI s), .int (nI wd), .int (nI 0), .int (nI 0), mj_unset]) f_18_3 (Nat.le_of_ble_eq_true rfl) rfl ?_
  exact kcw_l c b hw hwd xm 0 (Nat.zero_add _) _
set_option maxRecDepth 20000 in
theorem kws_l {h : mj_H} {jm xm km sm : Nat} (c : CJ h jm) (b : BK h jm xm km) {q : Int32} (hw : WO h q xm km) (hsm : sm ≤ 6) : ∀ (j s : Nat), s + j = sm → ∀ v6 v7 : Value, mx 2 17 10 [.ref 22, .int (nI sm), .int ((lf h q km xm s).1), .int (nI ((lf h q km xm s).2.1)), .int (nI ((lf h q km xm s).2.2)), .int (nI s), v6, v7] [] h (fun r h' => r = some (.int (lf h q km xm sm).1) ∧ h' = h) := by
  have hx60 := b.1.1
  intro j
  induction j with
  | zero =>
    intro s hs v6 v7
    refine x_iload f_17_10 rfl ?_
    refine x_iload_n f_17_12 rfl ?_
    refine x_icmpN_ge (t := 65) f_17_13 (by decide) (by omega) (by omega) (fun c_1 => ?_) (fun c_1 => by omega)
    refine x_iload_n f_17_65 rfl ?_
    refine x_retI f_17_66 rfl ?_
    obtain rfl : s = sm := by omega
    exact ⟨rfl, rfl⟩
  | succ j ih =>
    intro s hs v6 v7
    have ih2 := ih (s + 1)
    have e1 := cw_cb h q km s xm
    have e2 : cb h q km s xm + cw h q km s 1 xm = ca h q km s xm := by rw [← e1]; exact cw_ca h q km s xm
    have l1 := cb_le h q km s xm
    have l2 := ca_le h q km s xm
    have l3 := lf_le h q hx60 (km := km) s
    have m1 : cw h q km s 2 xm * (lf h q km xm s).2.2 ≤ 60 * 60 := Nat.mul_le_mul (by omega) l3.2
    have m2 : (lf h q km xm s).2.1 * (cw h q km s 2 xm + cw h q km s 1 xm) ≤ 60 * 60 := Nat.mul_le_mul l3.1 (by rw [cw_ca]; omega)
    refine x_iload f_17_10 rfl ?_
    refine x_iload_n f_17_12 rfl ?_
    refine x_icmpN_ge (t := 65) f_17_13 (by decide) (by omega) (by omega) (fun c_1 => by omega) (fun c_1 => ?_)
    refine x_aload_n f_17_16 rfl ?_
    refine x_iload f_17_17 rfl ?_
    refine x_iconst (v := nI 2) f_17_19 (by decide) ?_
    refine x_callVe f_17_20 (k_countWith c b hw (s := s) (wd := 2) (by decide)) (by omega) c.1.k22 (by decide) rfl rfl (Nat.le_of_ble_eq_true rfl) rfl ?_
    refine x_istore (ls1 := [.ref 22, .int (nI sm), .int ((lf h q km xm s).1), .int (nI ((lf h q km xm s).2.1)), .int (nI ((lf h q km xm s).2.2)), .int (nI s), .int (nI (cw h q km s 2 xm)), v7]) f_17_23 (Nat.le_of_ble_eq_true rfl) rfl ?_
    refine x_iload f_17_25 rfl ?_
    refine x_aload_n f_17_27 rfl ?_
    refine x_iload f_17_28 rfl ?_
    refine x_iconst (v := nI 1) f_17_30 (by decide) ?_
    refine x_callVe f_17_31 (k_countWith c b hw (s := s) (wd := 1) (by decide)) (by omega) c.1.k22 (by decide) rfl rfl (Nat.le_of_ble_eq_true rfl) rfl ?_
    refine x_iaddN f_17_34 ?_
    refine x_istore (ls1 := [.ref 22, .int (nI sm), .int ((lf h q km xm s).1), .int (nI ((lf h q km xm s).2.1)), .int (nI ((lf h q km xm s).2.2)), .int (nI s), .int (nI (cw h q km s 2 xm)), .int (nI ((cw h q km s 2 xm) + (cw h q km s 1 xm)))]) f_17_35 (Nat.le_of_ble_eq_true rfl) rfl ?_
    refine x_iload f_17_37 rfl ?_
    refine x_iload f_17_39 rfl ?_
    refine x_imulN f_17_41 ?_
    refine x_iload_n f_17_42 rfl ?_
    refine x_iload f_17_43 rfl ?_
    refine x_imulN f_17_45 ?_
    refine x_icmpN_le (t := 59) f_17_46 (by decide) (by omega) (by omega) (fun c_g => ?_) (fun c_g => ?_)
    · refine x_iinc (v := nI (s + 1)) (ls1 := [.ref 22, .int (nI sm), .int ((lf h q km xm s).1), .int (nI ((lf h q km xm s).2.1)), .int (nI ((lf h q km xm s).2.2)), .int (nI (s + 1)), .int (nI (cw h q km s 2 xm)), .int (nI ((cw h q km s 2 xm) + (cw h q km s 1 xm)))]) f_17_59 rfl (by exact nI_add _ 1) rfl ?_
      refine x_goto (t := 10) f_17_62 (by decide) ?_
      rw [e1] at c_g
      rw [e2] at c_g
      have el : lf h q km xm (s + 1) = lf h q km xm s := if_neg (fun z => absurd z.2 (Nat.not_lt.mpr c_g))
      rw [el] at ih2
      exact ih2 (by omega) _ _
    · refine x_iload f_17_49 rfl ?_
      refine x_istore_n (ls1 := [.ref 22, .int (nI sm), .int (nI s), .int (nI ((lf h q km xm s).2.1)), .int (nI ((lf h q km xm s).2.2)), .int (nI s), .int (nI (cw h q km s 2 xm)), .int (nI ((cw h q km s 2 xm) + (cw h q km s 1 xm)))]) f_17_51 (Nat.le_of_ble_eq_true rfl) rfl ?_
      refine x_iload f_17_52 rfl ?_
      refine x_istore_n (ls1 := [.ref 22, .int (nI sm), .int (nI s), .int (nI (cw h q km s 2 xm)), .int (nI ((lf h q km xm s).2.2)), .int (nI s), .int (nI (cw h q km s 2 xm)), .int (nI ((cw h q km s 2 xm) + (cw h q km s 1 xm)))]) f_17_54 (Nat.le_of_ble_eq_true rfl) rfl ?_
      refine x_iload f_17_55 rfl ?_
      refine x_istore (ls1 := [.ref 22, .int (nI sm), .int (nI s), .int (nI (cw h q km s 2 xm)), .int (nI ((cw h q km s 2 xm) + (cw h q km s 1 xm))), .int (nI s), .int (nI (cw h q km s 2 xm)), .int (nI ((cw h q km s 2 xm) + (cw h q km s 1 xm)))]) f_17_57 (Nat.le_of_ble_eq_true rfl) rfl ?_
      refine x_iinc (v := nI (s + 1)) (ls1 := [.ref 22, .int (nI sm), .int (nI s), .int (nI (cw h q km s 2 xm)), .int (nI ((cw h q km s 2 xm) + (cw h q km s 1 xm))), .int (nI (s + 1)), .int (nI (cw h q km s 2 xm)), .int (nI ((cw h q km s 2 xm) + (cw h q km s 1 xm)))]) f_17_59 rfl (by exact nI_add _ 1) rfl ?_
      refine x_goto (t := 10) f_17_62 (by decide) ?_
      rw [e1] at c_g
      rw [e2] at c_g
      have hcd : (0 < cb h q km s xm ∧ (lf h q km xm s).2.1 * ca h q km s xm < cb h q km s xm * (lf h q km xm s).2.2) := ⟨Nat.pos_of_ne_zero (fun z => by rw [z, Nat.zero_mul] at c_g; exact c_g (Nat.zero_le _)), Nat.not_le.mp c_g⟩
      rw [e1, e2]
      have el : lf h q km xm (s + 1) = (nI s, cb h q km s xm, ca h q km s xm) := if_pos hcd
      rw [el] at ih2
      exact ih2 (by omega) _ _
set_option maxRecDepth 20000 in
theorem k_worstStuff {h : mj_H} {jm xm km sm : Nat} (c : CJ h jm) (b : BK h jm xm km) {q : Int32} (hw : WO h q xm km) (hsm : sm ≤ 6) : mxc 2 17 [.ref 22, .int (nI sm)] h (fun r h' => r = some (.int (lf h q km xm sm).1) ∧ h' = h) := by
  show mx 2 17 0 [.ref 22, .int (nI sm), mj_unset, mj_unset, mj_unset, mj_unset, mj_unset, mj_unset] [] h _
  refine x_iconst (v := -1) f_17_0 (by decide) ?_
  refine x_istore_n (ls1 := [.ref 22, .int (nI sm), .int (-1), mj_unset, mj_unset, mj_unset, mj_unset, mj_unset]) f_17_1 (Nat.le_of_ble_eq_true rfl) rfl ?_
  refine x_iconst (v := nI 0) f_17_2 (by decide) ?_
  refine x_istore_n (ls1 := [.ref 22, .int (nI sm), .int (-1), .int (nI 0), mj_unset, mj_unset, mj_unset, mj_unset]) f_17_3 (Nat.le_of_ble_eq_true rfl) rfl ?_
  refine x_iconst (v := nI 1) f_17_4 (by decide) ?_
  refine x_istore (ls1 := [.ref 22, .int (nI sm), .int (-1), .int (nI 0), .int (nI 1), mj_unset, mj_unset, mj_unset]) f_17_5 (Nat.le_of_ble_eq_true rfl) rfl ?_
  refine x_iconst (v := nI 0) f_17_7 (by decide) ?_
  refine x_istore (ls1 := [.ref 22, .int (nI sm), .int (-1), .int (nI 0), .int (nI 1), .int (nI 0), mj_unset, mj_unset]) f_17_8 (Nat.le_of_ble_eq_true rfl) rfl ?_
  exact kws_l c b hw hsm sm 0 (Nat.zero_add _) _ _
