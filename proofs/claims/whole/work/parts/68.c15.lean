/-! A TOLD ROW checked -/
/-- a question that also walked: what it leaves alone -/
def CF (h g : mj_H) : Prop := g.1 = h.1 ∧ g.2.1 = h.2.1 ∧ mj_K g = mj_K h ∧ (∀ a, a ∉ [12, 13, 14, 15, 16, 17, 18, 19] → mj_I g a = mj_I h a) ∧ (∀ a, a ≠ 12 → mj_R g a = mj_R h a) ∧ (∀ i, i ≠ 4 → mj_R g 12 i = mj_R h 12 i) ∧ ∀ a, a < 63 → mj_J g a = mj_J h a
theorem CF.rf (h : mj_H) : CF h h := ⟨rfl, rfl, rfl, fun _ _ => rfl, fun _ _ => rfl, fun _ _ => rfl, fun _ _ => rfl⟩
theorem CF.trans {h g k : mj_H} (a : CF h g) (b : CF g k) : CF h k := ⟨b.1.trans a.1, b.2.1.trans a.2.1, b.2.2.1.trans a.2.2.1, fun x hx => (b.2.2.2.1 x hx).trans (a.2.2.2.1 x hx), fun x hx => (b.2.2.2.2.1 x hx).trans (a.2.2.2.2.1 x hx), fun x hx => (b.2.2.2.2.2.1 x hx).trans (a.2.2.2.2.2.1 x hx), fun x hx => (b.2.2.2.2.2.2 x hx).trans (a.2.2.2.2.2.2 x hx)⟩
theorem CE.cf {h g : mj_H} (e : CE h g) : CF h g := ⟨e.1, e.2.1, e.2.2.1, fun a ha => e.2.2.2.1 a (fun q => ha (by revert q; simp only [List.mem_cons, List.not_mem_nil, or_false]; omega)), e.2.2.2.2⟩
theorem Rw.cf {h g : mj_H} {as : List Nat} (r : Rw h g as) (hs : ∀ a, a ∈ as → a ∈ [12, 13, 14, 15, 16, 17, 18, 19]) : CF h g := ⟨r.1, r.2.1, r.2.2.1, fun a ha => r.i (fun q => ha (hs a q)), fun a _ => by rw [r.2.2.2.2.1], fun i _ => by rw [r.2.2.2.2.1], fun a _ => by rw [r.2.2.2.1]⟩
theorem CF.i {h g : mj_H} (e : CF h g) {a : Nat} (ha : 19 < a ∨ a < 12) : mj_I g a = mj_I h a := e.2.2.2.1 a (by simp; omega)
theorem CF.k {h g : mj_H} (e : CF h g) (a : Nat) : mj_K g a = mj_K h a := congrFun e.2.2.1 a
theorem CF.r {h g : mj_H} (e : CF h g) {a : Nat} (ha : a ≠ 12) : mj_R g a = mj_R h a := e.2.2.2.2.1 a ha
theorem CF.eA {h g : mj_H} (e : CF h g) (j : Nat) : jA g j = jA h j := by unfold jA; rw [e.r (by decide)]
theorem CF.eV {h g : mj_H} (e : CF h g) (j z : Nat) : vd g j z = vd h j z := vd_eq (e.i (by decide)) j z
theorem if_e1 {P : Prop} {i : Decidable P} : (@ite Int32 P i 1 0) = nI 1 ↔ P := by
  by_cases hp : P
  · rw [if_pos hp]; simp [hp]; rfl
  · rw [if_neg hp]; simp [hp]; decide
theorem if_e0 {P : Prop} {i : Decidable P} : (@ite Int32 P i 1 0) = nI 0 ↔ ¬ P := by
  by_cases hp : P
  · rw [if_pos hp]; simp [hp]; decide
  · rw [if_neg hp]; simp [hp]; rfl
/-- a number may stand for a box -/
def may (G : Gd) (n a b c d e f : Nat) : Prop := if n < 2 then gcN G a b c d e f = (if n = 0 then szN a b c d e f else 0) else if n < 10 then n - 2 < b - a else if n < 18 then n - 10 < d - c else if n < 26 then n - 18 < f - e else False
theorem CK_yes {G : Gd} {T : Nat → Nat} {n p a b c d e f : Nat} {r : List Bx6} (hp : p < n) (h : may G (T p) a b c d e f) : CK G T n p ((a, b, c, d, e, f) :: r) = CK G T n (p + 1) (fl (T p) a b c d e f r) := by
  rw [CK_cons G T hp]
  unfold may at h
  unfold fl
  by_cases h2 : T p < 2
  · rw [if_pos h2] at h ⊢
    rw [if_pos h2, if_pos h]
  · rw [if_neg h2] at h ⊢
    rw [if_neg h2]
    by_cases h10 : T p < 10
    · rw [if_pos h10] at h ⊢
      rw [if_pos h10, if_pos h, if_pos h]
    · rw [if_neg h10] at h ⊢
      rw [if_neg h10]
      by_cases h18 : T p < 18
      · rw [if_pos h18] at h ⊢
        rw [if_pos h18, if_pos h, if_pos h]
      · rw [if_neg h18] at h ⊢
        rw [if_neg h18]
        by_cases h26 : T p < 26
        · rw [if_pos h26] at h ⊢
          rw [if_pos h26, if_pos h, if_pos h]
        · rw [if_neg h26] at h
          exact h.elim
theorem CK_no {G : Gd} {T : Nat → Nat} {n p a b c d e f : Nat} {r : List Bx6} (hp : p < n) (h : ¬ may G (T p) a b c d e f) : CK G T n p ((a, b, c, d, e, f) :: r) = some p := by
  rw [CK_cons G T hp]
  unfold may at h
  by_cases h2 : T p < 2
  · rw [if_pos h2] at h ⊢
    rw [if_neg h]
  · rw [if_neg h2] at h ⊢
    by_cases h10 : T p < 10
    · rw [if_pos h10] at h ⊢
      rw [if_neg h]
    · rw [if_neg h10] at h ⊢
      by_cases h18 : T p < 18
      · rw [if_pos h18] at h ⊢
        rw [if_neg h]
      · rw [if_neg h18] at h ⊢
        by_cases h26 : T p < 26
        · rw [if_pos h26] at h ⊢
          rw [if_neg h]
        · rw [if_neg h26]
/-- all settings of a box are good, or none: told by its count -/
theorem may_leaf {L W : Nat → Nat} (hL : LB L W) {V : Nat → Bool} {n a b c d e f : Nat} (hB : BX W a b c d e f) (hn : n < 2) : (∀ s, inB (zz L a c e) (zz L b d f) s → (V s = true ↔ n = 0)) ↔ may (fun t p l => V (zz L t p l)) n a b c d e f := by
  unfold may
  rw [if_pos hn]
  by_cases h0 : n = 0
  · rw [if_pos h0, gc_sz]
    constructor
    · intro h t p l h1 h2 h3 h4 h5 h6
      exact (h _ ((inB_zz hL hB).mpr ⟨t, p, l, h1, h2, h3, h4, h5, h6, rfl⟩)).mpr h0
    · intro h s hs
      obtain ⟨t, p, l, h1, h2, h3, h4, h5, h6, rfl⟩ := (inB_zz hL hB).mp hs
      exact ⟨fun _ => h0, fun _ => h t p l h1 h2 h3 h4 h5 h6⟩
  · rw [if_neg h0, gc_0]
    constructor
    · intro h t p l h1 h2 h3 h4 h5 h6 q
      exact h0 ((h _ ((inB_zz hL hB).mpr ⟨t, p, l, h1, h2, h3, h4, h5, h6, rfl⟩)).mp q)
    · intro h s hs
      obtain ⟨t, p, l, h1, h2, h3, h4, h5, h6, rfl⟩ := (inB_zz hL hB).mp hs
      exact ⟨fun q => absurd q (h t p l h1 h2 h3 h4 h5 h6), fun q => absurd q h0⟩
set_option maxRecDepth 20000 in
theorem kms_l {h : mj_H} {jm j : Nat} (hj : j < jm) {x y n : Nat} (hn : n < 2) (e3 : mj_I h 17 3 = nI x) (e4 : mj_I h 17 4 = nI y) (hx : x < 729) (hy : y < 729) : ∀ (m s : Nat) (g : mj_H), s + m = y + 1 → CQ h g jm → (∀ s', s' < s → inB x y s' → (vd h j s' = 0 ↔ n = 0)) → mx 4 105 22 [.ref 8, .ref (jA h j), .int (nI n), .int (nI s)] [] g (fun r h' => ∃ b : Bool, r = some (.int (if b = true then 1 else 0)) ∧ CQ h h' jm ∧ (b = true ↔ ∀ s, inB x y s → (vd h j s = 0 ↔ n = 0))) := by
  intro m
  induction m with
  | zero =>
    intro s g hs q hall
    have i3 := (congrFun (q.2.i (a := 17) (by decide)) 3).trans e3
    have i4 := (congrFun (q.2.i (a := 17) (by decide)) 4).trans e4
    refine x_iload_n f_105_22 rfl ?_
    refine x_aload_n f_105_23 rfl ?_
    refine x_getR f_105_24 q.1.1.k8 (by decide) q.1.1.r8_4 ?_
    refine x_getI f_105_27 q.1.1.k17 (by decide) ?_
    refine x_topi (w := nI y) i4 ?_
    refine x_icmpN_gt (t := 83) f_105_30 (by decide) (by omega) (by omega) (fun c_1 => ?_) (fun c_1 => by omega)
    refine x_iconst (v := nI 1) f_105_83 (by decide) ?_
    refine x_retZ f_105_84 rfl (by decide) ?_
    exact ⟨true, rfl, q, iff_of_true rfl (fun s' hs' => hall s' (by have := inB_le hs'; omega) hs')⟩
  | succ m ih =>
    intro s g hs q hall
    have i3 := (congrFun (q.2.i (a := 17) (by decide)) 3).trans e3
    have i4 := (congrFun (q.2.i (a := 17) (by decide)) 4).trans e4
    refine x_iload_n f_105_22 rfl ?_
    refine x_aload_n f_105_23 rfl ?_
    refine x_getR f_105_24 q.1.1.k8 (by decide) q.1.1.r8_4 ?_
    refine x_getI f_105_27 q.1.1.k17 (by decide) ?_
    refine x_topi (w := nI y) i4 ?_
    refine x_icmpN_gt (t := 83) f_105_30 (by decide) (by omega) (by omega) (fun c_1 => by omega) (fun c_1 => ?_)
    refine x_aload_n f_105_33 rfl ?_
    refine x_getR f_105_34 q.1.1.k8 (by decide) q.1.1.r8_4 ?_
    refine x_getI f_105_37 q.1.1.k17 (by decide) ?_
    refine x_topi (w := nI x) i3 ?_
    refine x_aload_n f_105_40 rfl ?_
    refine x_getR f_105_41 q.1.1.k8 (by decide) q.1.1.r8_4 ?_
    refine x_getI f_105_44 q.1.1.k17 (by decide) ?_
    refine x_topi (w := nI y) i4 ?_
    refine x_iload_n f_105_47 rfl ?_
    refine x_callSe f_105_48 (k_isIn q.1.1 hx hy (by omega)) (by omega) rfl rfl rfl (Nat.le_of_ble_eq_true rfl) rfl ?_
    refine x_ifB_eq (t := 77) f_105_51 (by decide) (fun c_i => ?_) (fun c_i => ?_)
    · refine x_iinc (v := nI (s + 1)) (ls1 := [.ref 8, .ref (jA h j), .int (nI n), .int (nI (s + 1))]) f_105_77 rfl (by exact nI_add _ 1) rfl ?_
      refine x_goto (t := 22) f_105_80 (by decide) ?_
      refine ih (s + 1) g (by omega) q (fun s' h1 h2 => ?_)
      by_cases hq : s' = s
      · rw [hq] at h2
        exact absurd (inb_iff.mpr h2) c_i
      · exact hall s' (by omega) h2
    · refine x_aload_n f_105_54 rfl ?_
      refine x_getR f_105_55 q.1.1.k8 (by decide) q.1.1.r8_3 ?_
      refine x_aload_n f_105_58 rfl ?_
      refine x_iload_n f_105_59 rfl ?_
      refine x_callV f_105_60 (k_mg q hj (z := s) (by omega)) (by omega) q.1.1.k12 (by decide) rfl rfl (Nat.le_of_ble_eq_true rfl) rfl ?_
      rintro _ g1 ⟨rfl, q1⟩
      refine x_iload_n f_105_63 rfl ?_
      refine x_ifN_ne (t := 71) f_105_64 (by decide) (by omega) (fun c_n => ?_) (fun c_n => ?_)
      · refine x_iconst (v := nI 0) f_105_71 (by decide) ?_
        refine x_icmp_eq (t := 77) f_105_72 (by decide) (fun c_e => ?_) (fun c_e => ?_)
        · refine x_iinc (v := nI (s + 1)) (ls1 := [.ref 8, .ref (jA h j), .int (nI n), .int (nI (s + 1))]) f_105_77 rfl (by exact nI_add _ 1) rfl ?_
          refine x_goto (t := 22) f_105_80 (by decide) ?_
          refine ih (s + 1) g1 (by omega) q1 (fun s' h1 h2 => ?_)
          by_cases hq : s' = s
          · rw [hq]
            exact ⟨fun z => absurd z (if_e0.mp c_e), fun z => absurd z c_n⟩
          · exact hall s' (by omega) h2
        · refine x_iconst (v := nI 0) f_105_75 (by decide) ?_
          refine x_retZ f_105_76 rfl (by decide) ?_
          exact ⟨false, rfl, q1, iff_of_false (by decide) (fun z => c_e (if_e0.mpr (fun y => c_n ((z s (inb_iff.mp c_i)).mp y))))⟩
      · refine x_iconst (v := nI 1) f_105_67 (by decide) ?_
        refine x_goto (t := 72) f_105_68 (by decide) ?_
        refine x_icmp_eq (t := 77) f_105_72 (by decide) (fun c_e => ?_) (fun c_e => ?_)
        · refine x_iinc (v := nI (s + 1)) (ls1 := [.ref 8, .ref (jA h j), .int (nI n), .int (nI (s + 1))]) f_105_77 rfl (by exact nI_add _ 1) rfl ?_
          refine x_goto (t := 22) f_105_80 (by decide) ?_
          refine ih (s + 1) g1 (by omega) q1 (fun s' h1 h2 => ?_)
          by_cases hq : s' = s
          · rw [hq]
            exact ⟨fun _ => c_n, fun _ => if_e1.mp c_e⟩
          · exact hall s' (by omega) h2
        · refine x_iconst (v := nI 0) f_105_75 (by decide) ?_
          refine x_retZ f_105_76 rfl (by decide) ?_
          exact ⟨false, rfl, q1, iff_of_false (by decide) (fun z => c_e (if_e1.mpr ((z s (inb_iff.mp c_i)).mpr c_n)))⟩
set_option maxRecDepth 20000 in
theorem k_mayStandL {h : mj_H} {jm j : Nat} (c : CJ h jm) (hj : j < jm) {x y n : Nat} (hn : n < 2) (e3 : mj_I h 17 3 = nI x) (e4 : mj_I h 17 4 = nI y) (hx : x < 729) (hy : y < 729) (hxy : x ≤ y) : mxc 4 105 [.ref 8, .ref (jA h j), .int (nI n)] h (fun r h' => ∃ b : Bool, r = some (.int (if b = true then 1 else 0)) ∧ CQ h h' jm ∧ (b = true ↔ ∀ s, inB x y s → (vd h j s = 0 ↔ n = 0))) := by
  have C := c.1
  show mx 4 105 0 [.ref 8, .ref (jA h j), .int (nI n), mj_unset] [] h _
  refine x_iload_n f_105_0 rfl ?_
  refine x_iconst (v := nI 1) f_105_1 (by decide) ?_
  refine x_icmpN_le (t := 14) f_105_2 (by decide) (by omega) (by decide) (fun c_1 => ?_) (fun c_1 => by omega)
  refine x_aload_n f_105_14 rfl ?_
  refine x_getR f_105_15 C.k8 (by decide) C.r8_4 ?_
  refine x_getI f_105_18 C.k17 (by decide) ?_
  refine x_topi (w := nI x) e3 ?_
  refine x_istore_n (ls1 := [.ref 8, .ref (jA h j), .int (nI n), .int (nI x)]) f_105_21 (Nat.le_of_ble_eq_true rfl) rfl ?_
  exact kms_l hj hn e3 e4 hx hy (y + 1 - x) x h (by omega) (CQ.rf c) (fun s' h1 h2 => absurd (inB_le h2).1 (by omega))
set_option maxRecDepth 20000 in
theorem k_mayStand0 {h : mj_H} (C : SC h) {A x y : Nat} (e3 : mj_I h 17 3 = nI x) (e4 : mj_I h 17 4 = nI y) (hx : x < 729) (hy : y < 729) (hxy : mm_pt x 0 ≤ mm_pt y 0) {n i : Nat} (hn : n = 2 + 8 * 0 + i) (hi : i < 8) : mxc 2 105 [.ref 8, .ref A, .int (nI n)] h (fun r h' => r = some (.int (if i < mm_pt y 0 - mm_pt x 0 then 1 else 0)) ∧ h' = h) := by
  show mx 2 105 0 [.ref 8, .ref A, .int (nI n), mj_unset] [] h _
  refine x_iload_n f_105_0 rfl ?_
  refine x_iconst (v := nI 1) f_105_1 (by decide) ?_
  refine x_icmpN_le (t := 14) f_105_2 (by decide) (by omega) (by decide) (fun c_1 => by omega) (fun c_1 => ?_)
  refine x_aload_n f_105_5 rfl ?_
  refine x_getR f_105_6 C.k8 (by decide) C.r8_4 ?_
  refine x_iload_n f_105_9 rfl ?_
  refine x_callVe f_105_10 (k_mayCut0 C e3 e4 hx hy hxy hn hi) (by omega) C.k17 (by decide) rfl rfl (Nat.le_of_ble_eq_true rfl) rfl ?_
  refine x_retZ f_105_13 rfl mj_b01 ?_
  exact ⟨rfl, rfl⟩
set_option maxRecDepth 20000 in
theorem k_mayStand1 {h : mj_H} (C : SC h) {A x y : Nat} (e3 : mj_I h 17 3 = nI x) (e4 : mj_I h 17 4 = nI y) (hx : x < 729) (hy : y < 729) (hxy : mm_pt x 1 ≤ mm_pt y 1) {n i : Nat} (hn : n = 2 + 8 * 1 + i) (hi : i < 8) : mxc 2 105 [.ref 8, .ref A, .int (nI n)] h (fun r h' => r = some (.int (if i < mm_pt y 1 - mm_pt x 1 then 1 else 0)) ∧ h' = h) := by
  show mx 2 105 0 [.ref 8, .ref A, .int (nI n), mj_unset] [] h _
  refine x_iload_n f_105_0 rfl ?_
  refine x_iconst (v := nI 1) f_105_1 (by decide) ?_
  refine x_icmpN_le (t := 14) f_105_2 (by decide) (by omega) (by decide) (fun c_1 => by omega) (fun c_1 => ?_)
  refine x_aload_n f_105_5 rfl ?_
  refine x_getR f_105_6 C.k8 (by decide) C.r8_4 ?_
  refine x_iload_n f_105_9 rfl ?_
  refine x_callVe f_105_10 (k_mayCut1 C e3 e4 hx hy hxy hn hi) (by omega) C.k17 (by decide) rfl rfl (Nat.le_of_ble_eq_true rfl) rfl ?_
  refine x_retZ f_105_13 rfl mj_b01 ?_
  exact ⟨rfl, rfl⟩
set_option maxRecDepth 20000 in
theorem k_mayStand2 {h : mj_H} (C : SC h) {A x y : Nat} (e3 : mj_I h 17 3 = nI x) (e4 : mj_I h 17 4 = nI y) (hx : x < 729) (hy : y < 729) (hxy : mm_pt x 2 ≤ mm_pt y 2) {n i : Nat} (hn : n = 2 + 8 * 2 + i) (hi : i < 8) : mxc 2 105 [.ref 8, .ref A, .int (nI n)] h (fun r h' => r = some (.int (if i < mm_pt y 2 - mm_pt x 2 then 1 else 0)) ∧ h' = h) := by
  show mx 2 105 0 [.ref 8, .ref A, .int (nI n), mj_unset] [] h _
  refine x_iload_n f_105_0 rfl ?_
  refine x_iconst (v := nI 1) f_105_1 (by decide) ?_
  refine x_icmpN_le (t := 14) f_105_2 (by decide) (by omega) (by decide) (fun c_1 => by omega) (fun c_1 => ?_)
  refine x_aload_n f_105_5 rfl ?_
  refine x_getR f_105_6 C.k8 (by decide) C.r8_4 ?_
  refine x_iload_n f_105_9 rfl ?_
  refine x_callVe f_105_10 (k_mayCut2 C e3 e4 hx hy hxy hn hi) (by omega) C.k17 (by decide) rfl rfl (Nat.le_of_ble_eq_true rfl) rfl ?_
  refine x_retZ f_105_13 rfl mj_b01 ?_
  exact ⟨rfl, rfl⟩
set_option maxRecDepth 20000 in
theorem k_mayStand3 {h : mj_H} (C : SC h) {A x y : Nat} {n i : Nat} (hn : n = 2 + 8 * 3 + i) (hi : i < 8) : mxc 2 105 [.ref 8, .ref A, .int (nI n)] h (fun r h' => r = some (.int (nI 0)) ∧ h' = h) := by
  show mx 2 105 0 [.ref 8, .ref A, .int (nI n), mj_unset] [] h _
  refine x_iload_n f_105_0 rfl ?_
  refine x_iconst (v := nI 1) f_105_1 (by decide) ?_
  refine x_icmpN_le (t := 14) f_105_2 (by decide) (by omega) (by decide) (fun c_1 => by omega) (fun c_1 => ?_)
  refine x_aload_n f_105_5 rfl ?_
  refine x_getR f_105_6 C.k8 (by decide) C.r8_4 ?_
  refine x_iload_n f_105_9 rfl ?_
  refine x_callVe f_105_10 (k_mayCut3 C hn hi) (by omega) C.k17 (by decide) rfl rfl (Nat.le_of_ble_eq_true rfl) rfl ?_
  refine x_retZ f_105_13 rfl (by decide) ?_
  exact ⟨rfl, rfl⟩
set_option maxHeartbeats 1000000 in
theorem k_mayStand {h : mj_H} {jm j : Nat} (cj : CJ h jm) (hj : j < jm) {L W : Nat → Nat} (hL : LB L W) {a b c d e f : Nat} (hB : BX W a b c d e f) (e3 : mj_I h 17 3 = nI (zz L a c e)) (e4 : mj_I h 17 4 = nI (zz L b d f)) {n : Nat} (hn : n ≤ 31) : mxc 4 105 [.ref 8, .ref (jA h j), .int (nI n)] h (fun r h' => ∃ b1 : Bool, r = some (.int (if b1 = true then 1 else 0)) ∧ CQ h h' jm ∧ (b1 = true ↔ may (fun t p l => decide (vd h j (zz L t p l) = 0)) n a b c d e f)) := by
  have hB' := hB
  unfold BX at hB'
  have zx := zz_ hL (t := a) (p := c) (l := e) (by omega) (by omega) (by omega)
  have zy := zz_ hL (t := b) (p := d) (l := f) (by omega) (by omega) (by omega)
  by_cases h2 : n < 2
  · refine (k_mayStandL cj hj h2 e3 e4 zx.1 zy.1 (by unfold zz; omega)).post ?_
    rintro r g ⟨b1, hr, q, hb⟩
    refine ⟨b1, hr, q, hb.trans ?_⟩
    have := may_leaf hL (V := fun s => decide (vd h j s = 0)) hB h2
    rw [← this]
    simp only [decide_eq_true_iff]
  · by_cases h10 : n < 10
    · skip
      obtain ⟨i, hi, rfl⟩ : ∃ i, i < 8 ∧ n = 2 + 8 * 0 + i := ⟨n - 2, by omega, by omega⟩
      refine ((k_mayStand0 cj.1 e3 e4 zx.1 zy.1 (by omega) rfl hi).mono (by decide)).post ?_
      rintro _ _ ⟨rfl, rfl⟩
      refine ⟨decide (i < mm_pt (zz L b d f) 0 - mm_pt (zz L a c e) 0), ?_, CQ.rf cj, ?_⟩
      · simp only [decide_eq_true_iff]
      · rw [decide_eq_true_iff]
        unfold may
        rw [if_neg (by omega), if_pos (by omega)]
        omega
    · by_cases h18 : n < 18
      · skip
        obtain ⟨i, hi, rfl⟩ : ∃ i, i < 8 ∧ n = 2 + 8 * 1 + i := ⟨n - 10, by omega, by omega⟩
        refine ((k_mayStand1 cj.1 e3 e4 zx.1 zy.1 (by omega) rfl hi).mono (by decide)).post ?_
        rintro _ _ ⟨rfl, rfl⟩
        refine ⟨decide (i < mm_pt (zz L b d f) 1 - mm_pt (zz L a c e) 1), ?_, CQ.rf cj, ?_⟩
        · simp only [decide_eq_true_iff]
        · rw [decide_eq_true_iff]
          unfold may
          rw [if_neg (by omega), if_neg (by omega), if_pos (by omega)]
          omega
      · by_cases h26 : n < 26
        · skip
          obtain ⟨i, hi, rfl⟩ : ∃ i, i < 8 ∧ n = 2 + 8 * 2 + i := ⟨n - 18, by omega, by omega⟩
          refine ((k_mayStand2 cj.1 e3 e4 zx.1 zy.1 (by omega) rfl hi).mono (by decide)).post ?_
          rintro _ _ ⟨rfl, rfl⟩
          refine ⟨decide (i < mm_pt (zz L b d f) 2 - mm_pt (zz L a c e) 2), ?_, CQ.rf cj, ?_⟩
          · simp only [decide_eq_true_iff]
          · rw [decide_eq_true_iff]
            unfold may
            rw [if_neg (by omega), if_neg (by omega), if_neg (by omega), if_pos (by omega)]
            omega
        · obtain ⟨i, hi, rfl⟩ : ∃ i, i < 8 ∧ n = 2 + 8 * 3 + i := ⟨n - 26, by omega, by omega⟩
          refine ((k_mayStand3 cj.1 (x := 0) (y := 0) rfl hi).mono (by decide)).post ?_
          rintro _ _ ⟨rfl, rfl⟩
          refine ⟨false, rfl, CQ.rf cj, iff_of_false (by decide) ?_⟩
          unfold may
          rw [if_neg (by omega), if_neg (by omega), if_neg (by omega), if_neg (by omega)]
          exact fun q => q
set_option maxRecDepth 20000 in
theorem kcheck_l {h : mj_H} {jm w : Nat} (hw : WC h w jm) {n : Nat} {T : Nat → Nat} (h_n : n ≤ 500) (e_n : mj_I h 20 1 = nI n) (hT : ∀ q, q < n → mj_I h 21 q = nI (T q) ∧ T q ≤ 31) (X : Option Nat) : ∀ (k p : Nat) (g : mj_H) (r : List Bx6), p + k = n → CJ g jm → CF h g → WK g (wlo h w) (Wd h w) r → CK (wg h w) T n p r = X → mx 5 86 30 [.ref 8, .int (nI w), .ref (wA h w), .int (nI p)] [] g (fun r h' => r = some (.int (ckA X)) ∧ CJ h' jm ∧ CF h h') := by
  have hN := hw.2.2.2.2
  have hL := hN.lb
  have h63 := hw.1.2.2.1
  intro k
  induction k with
  | zero =>
    intro p g r hp c hF hW e
    have kw : mj_K g (wA h w) = (9, 7) := (hF.k _).trans hw.1.2.1
    have i20 : mj_I g 20 1 = nI n := (congrFun (hF.i (by decide)) 1).trans e_n
    cases r with
    | nil =>
      refine x_iload_n f_86_30 rfl ?_
      refine x_aload_n f_86_31 rfl ?_
      refine x_getR f_86_32 c.1.k8 (by decide) c.1.r8_5 ?_
      refine x_getI f_86_35 c.1.k20 (by decide) ?_
      refine x_topi (w := nI n) i20 ?_
      refine x_icmpN_ge (t := 95) f_86_38 (by decide) (by omega) (by omega) (fun c_1 => ?_) (fun c_1 => by omega)
      refine x_aload_n f_86_95 rfl ?_
      refine x_getR f_86_96 c.1.k8 (by decide) c.1.r8_4 ?_
      refine x_getI f_86_99 c.1.k17 (by decide) ?_
      refine x_topi (w := nI 0) hW.1 ?_
      refine x_ifN_ne (t := 109) f_86_102 (by decide) (by decide) (fun c_2 => by omega) (fun c_2 => ?_)
      refine x_iconst (v := -1) f_86_105 (by decide) ?_
      refine x_goto (t := 116) f_86_106 (by decide) ?_
      refine x_retI f_86_116 rfl ?_
      rw [CK_nil _ _ (by omega), if_neg (by omega)] at e
      subst e
      exact ⟨rfl, c, hF⟩
    | cons B r =>
      refine x_iload_n f_86_30 rfl ?_
      refine x_aload_n f_86_31 rfl ?_
      refine x_getR f_86_32 c.1.k8 (by decide) c.1.r8_5 ?_
      refine x_getI f_86_35 c.1.k20 (by decide) ?_
      refine x_topi (w := nI n) i20 ?_
      refine x_icmpN_ge (t := 95) f_86_38 (by decide) (by have := hW.2.2.1; omega) (by have := hW.2.2.1; omega) (fun c_1 => ?_) (fun c_1 => by omega)
      refine x_aload_n f_86_95 rfl ?_
      refine x_getR f_86_96 c.1.k8 (by decide) c.1.r8_4 ?_
      refine x_getI f_86_99 c.1.k17 (by decide) ?_
      refine x_topi (w := nI (r.length + 1)) hW.1 ?_
      refine x_ifN_ne (t := 109) f_86_102 (by decide) (by have := hW.2.2.1; omega) (fun c_2 => ?_) (fun c_2 => by omega)
      refine x_aload_n f_86_109 rfl ?_
      refine x_getR f_86_110 c.1.k8 (by decide) c.1.r8_5 ?_
      refine x_getI f_86_113 c.1.k20 (by decide) ?_
      refine x_topi (w := nI n) i20 ?_
      refine x_retI f_86_116 rfl ?_
      rw [show p = n by omega, CK_end] at e
      subst e
      exact ⟨rfl, c, hF⟩
  | succ k ih =>
    intro p g r hp c hF hW e
    have kw : mj_K g (wA h w) = (9, 7) := (hF.k _).trans hw.1.2.1
    have i20 : mj_I g 20 1 = nI n := (congrFun (hF.i (by decide)) 1).trans e_n
    have hT31 : T p ≤ 31 := (hT p (by omega)).2
    cases r with
    | nil =>
      refine x_iload_n f_86_30 rfl ?_
      refine x_aload_n f_86_31 rfl ?_
      refine x_getR f_86_32 c.1.k8 (by decide) c.1.r8_5 ?_
      refine x_getI f_86_35 c.1.k20 (by decide) ?_
      refine x_topi (w := nI n) i20 ?_
      refine x_icmpN_ge (t := 95) f_86_38 (by decide) (by omega) (by omega) (fun c_1 => by omega) (fun c_1 => ?_)
      refine x_aload_n f_86_41 rfl ?_
      refine x_getR f_86_42 c.1.k8 (by decide) c.1.r8_4 ?_
      refine x_callVe f_86_45 (k_advance0 c.1 hW.1) (by omega) c.1.k17 (by decide) rfl rfl (Nat.le_of_ble_eq_true rfl) rfl ?_
      refine x_ifN_eq (t := 71) f_86_48 (by decide) (by decide) (fun c_2 => ?_) (fun c_2 => by omega)
      refine x_iload_n f_86_71 rfl ?_
      refine x_retI f_86_72 rfl ?_
      rw [CK_nil _ _ (by omega), if_pos (by omega)] at e
      subst e
      exact ⟨rfl, c, hF⟩
    | cons B r =>
      obtain ⟨ba, bb, bc, bd, be, bf⟩ := B
      refine x_iload_n f_86_30 rfl ?_
      refine x_aload_n f_86_31 rfl ?_
      refine x_getR f_86_32 c.1.k8 (by decide) c.1.r8_5 ?_
      refine x_getI f_86_35 c.1.k20 (by decide) ?_
      refine x_topi (w := nI n) i20 ?_
      refine x_icmpN_ge (t := 95) f_86_38 (by decide) (by omega) (by omega) (fun c_1 => by omega) (fun c_1 => ?_)
      refine x_aload_n f_86_41 rfl ?_
      refine x_getR f_86_42 c.1.k8 (by decide) c.1.r8_4 ?_
      refine x_callV f_86_45 (k_advance c.1 (m := r.length) hW.1 (by have := hW.2.2.1; omega)) (by omega) c.1.k17 (by decide) rfl rfl (Nat.le_of_ble_eq_true rfl) rfl ?_
      rintro _ g1 ⟨rfl, hR1, e2, e3, e4⟩
      have c1 : CJ g1 jm := CJ_rw c hR1 (Fr_lt c.2.2.1 (by decide))
      have hF1 := hF.trans (hR1.cf (by decide))
      have e3 : mj_I g1 17 3 = nI (zz (wlo h w) ba bc be) := e3.trans hW.2.1.1
      have e4 : mj_I g1 17 4 = nI (zz (wlo h w) bb bd bf) := e4.trans hW.2.1.2.1
      have kw : mj_K g1 (wA h w) = (9, 7) := (hF1.k _).trans hw.1.2.1
      have rw0 : mj_R g1 (wA h w) 0 = some (jA h (wj h w)) := (congrFun (hF1.r (by omega)) 0).trans hw.2.1
      have i20 : mj_I g1 20 1 = nI n := (congrFun (hF1.i (by decide)) 1).trans e_n
      have i21 : mj_I g1 21 p = nI (T p) := (congrFun (hF1.i (by decide)) p).trans (hT p (by omega)).1
      have kms := k_mayStand c1 (j := wj h w) hN.2.1 hL hW.2.2.2.1 e3 e4 (n := T p) hT31
      rw [hF1.eA] at kms
      refine x_ifN_eq (t := 71) f_86_48 (by decide) (by decide) (fun c_2 => by omega) (fun c_2 => ?_)
      refine x_aload_n f_86_51 rfl ?_
      refine x_aload_n f_86_52 rfl ?_
      refine x_getR f_86_53 kw (by decide) rw0 ?_
      refine x_aload_n f_86_56 rfl ?_
      refine x_getR f_86_57 c1.1.k8 (by decide) c1.1.r8_5 ?_
      refine x_getR f_86_60 c1.1.k20 (by decide) c1.1.r20_0 ?_
      refine x_iload_n f_86_63 rfl ?_
      refine x_iald (j := p) f_86_64 c1.1.k21 (by omega) (by decide) ?_
      refine x_topi (w := nI (T p)) i21 ?_
      refine x_callV f_86_65 (kms) (by omega) c1.1.k8 (by decide) rfl rfl (Nat.le_of_ble_eq_true rfl) rfl ?_
      rintro _ g2 ⟨b1, rfl, q2, hb⟩
      have c2 := q2.1
      have hF2 := hF1.trans q2.2.cf
      have hb : b1 = true ↔ may (wg h w) (T p) ba bb bc bd be bf := by
        rw [hb]
        have : (fun t p l => decide (vd g1 (wj h w) (zz (wlo h w) t p l) = 0)) = wg h w := by
          funext t p l
          rw [hF1.eV]
          rfl
        rw [this]
      have e32 := (congrFun (q2.2.i (a := 17) (by decide)) 3).trans e3
      have e42 := (congrFun (q2.2.i (a := 17) (by decide)) 4).trans e4
      have hW2 : WK g2 (wlo h w) (Wd h w) r := ⟨(congrFun (q2.2.i (by decide)) 2).trans e2, PL_i ((q2.2.i (by decide)).trans (hR1.i (by decide))) ((q2.2.i (by decide)).trans (hR1.i (by decide))) hW.2.1.2.2, hW.2.2.2.2⟩
      have i20 : mj_I g2 20 1 = nI n := (congrFun (hF2.i (by decide)) 1).trans e_n
      have i21 : mj_I g2 21 p = nI (T p) := (congrFun (hF2.i (by decide)) p).trans (hT p (by omega)).1
      refine x_ifB_ne (t := 73) f_86_68 (by decide) (fun c_s => ?_) (fun c_s => ?_)
      · refine x_aload_n f_86_73 rfl ?_
        refine x_getR f_86_74 c2.1.k8 (by decide) c2.1.r8_4 ?_
        refine x_aload_n f_86_77 rfl ?_
        refine x_getR f_86_78 c2.1.k8 (by decide) c2.1.r8_5 ?_
        refine x_getR f_86_81 c2.1.k20 (by decide) c2.1.r20_0 ?_
        refine x_iload_n f_86_84 rfl ?_
        refine x_iald (j := p) f_86_85 c2.1.k21 (by omega) (by decide) ?_
        refine x_topi (w := nI (T p)) i21 ?_
        refine x_callV f_86_86 (k_follow c2.1 hL hW.2.2.2.1 e32 e42 hW2 hW.2.2.1 hT31) (by omega) c2.1.k17 (by decide) rfl rfl (Nat.le_of_ble_eq_true rfl) rfl ?_
        rintro _ g3 ⟨rfl, hR3, hW3⟩
        have c3 : CJ g3 jm := CJ_rw c2 hR3 (Fr_lt c2.2.2.1 (by decide))
        refine x_iinc (v := nI (p + 1)) (ls1 := [.ref 8, .int (nI w), .ref (wA h w), .int (nI (p + 1))]) f_86_89 rfl (by exact nI_add _ 1) rfl ?_
        refine x_goto (t := 30) f_86_92 (by decide) ?_
        exact ih (p + 1) g3 _ (by omega) c3 (hF2.trans (hR3.cf (by decide))) hW3 ((CK_yes (by omega) (hb.mp c_s)).symm.trans e)
      · refine x_iload_n f_86_71 rfl ?_
        refine x_retI f_86_72 rfl ?_
        rw [CK_no (by omega) (fun z => c_s (hb.mpr z))] at e
        subst e
        exact ⟨rfl, c2, hF2⟩
set_option maxRecDepth 20000 in
theorem k_checkN {h : mj_H} {jm w wm : Nat} (c : CJ h jm) (hw : WC h w jm) (h_wm : wm ≤ 10) (e_wm : mj_I h 8 12 = nI wm) (h_w : w < wm) {n : Nat} {T : Nat → Nat} (h_n : n ≤ 500) (e_n : mj_I h 20 1 = nI n) (hT : ∀ q, q < n → mj_I h 21 q = nI (T q) ∧ T q ≤ 31) : mxc 5 86 [.ref 8, .int (nI w)] h (fun r h' => r = some (.int (ckA (CW h w n T))) ∧ CJ h' jm ∧ CF h h') := by
  have q := CQ.rf c
  have C := c.1
  have hN := hw.2.2.2.2
  have hL := hN.lb
  have h63 := hw.1.2.2.1
  have zx := zz_ hL (t := 0) (p := 0) (l := 0) (by omega) (by omega) (by omega)
  have zy := zz_ hL (t := Wd h w 0) (p := Wd h w 1) (l := Wd h w 2) (by omega) (by omega) (by omega)
  have kw := hw.1.2.1
  have iw1 := hw.2.2.1
  have iw2 := hw.2.2.2.1
  have rw0 := hw.2.1
  show mx 5 86 0 [.ref 8, .int (nI w), mj_unset, mj_unset] [] h _
  refine x_aload_n f_86_0 rfl ?_
  refine x_iload_n f_86_1 rfl ?_
  refine x_callVe f_86_2 (k_windowAt C h_wm e_wm h_w hw.1.1) (by omega) C.k8 (by decide) rfl rfl (Nat.le_of_ble_eq_true rfl) rfl ?_
  refine x_astore_n (ls1 := [.ref 8, .int (nI w), .ref (wA h w), mj_unset]) f_86_5 (Nat.le_of_ble_eq_true rfl) rfl ?_
  refine x_aload_n f_86_6 rfl ?_
  refine x_ifnonnull (t := 13) f_86_7 (by decide) ?_
  refine x_aload_n f_86_13 rfl ?_
  refine x_getR f_86_14 C.k8 (by decide) C.r8_4 ?_
  refine x_aload_n f_86_17 rfl ?_
  refine x_getI f_86_18 kw (by decide) ?_
  refine x_topi (w := nI (zz (wlo h w) 0 0 0)) iw1 ?_
  refine x_aload_n f_86_21 rfl ?_
  refine x_getI f_86_22 kw (by decide) ?_
  refine x_topi (w := nI (zz (wlo h w) (Wd h w 0) (Wd h w 1) (Wd h w 2))) iw2 ?_
  refine x_callV f_86_25 (k_begin C _ _) (by omega) C.k17 (by decide) rfl rfl (Nat.le_of_ble_eq_true rfl) rfl ?_
  rintro _ g ⟨rfl, hR, e2, i18, i19⟩
  refine x_iconst (v := nI 0) f_86_28 (by decide) ?_
  refine x_istore_n (ls1 := [.ref 8, .int (nI w), .ref (wA h w), .int (nI 0)]) f_86_29 (Nat.le_of_ble_eq_true rfl) rfl ?_
  exact kcheck_l hw h_n e_n hT _ n 0 g [(0, Wd h w 0, 0, Wd h w 1, 0, Wd h w 2)] (Nat.zero_add _) (CJ_rw c hR (Fr_lt c.2.2.1 (by decide))) (hR.cf (by decide)) ⟨e2, ⟨i18, i19, trivial⟩, ⟨(show 0 + spn 0 (Wd h w 0) 0 (Wd h w 1) 0 (Wd h w 2) ≤ 15 by have a0 := hL 0 (by decide); have a1 := hL 1 (by decide); have a2 := hL 2 (by decide); unfold spn; omega), hN.bx, trivial⟩⟩ rfl
set_option maxRecDepth 20000 in
theorem k_check0 {h : mj_H} (C : SC h) {wm : Nat} (h_wm : wm ≤ 10) (e_wm : mj_I h 8 12 = nI wm) (v : Int32) (hin : ¬ mIn v wm) : mxc 1 86 [.ref 8, .int v] h (fun r h' => r = some (.int (-2)) ∧ h' = h) := by
  show mx 1 86 0 [.ref 8, .int v, mj_unset, mj_unset] [] h _
  refine x_aload_n f_86_0 rfl ?_
  refine x_iload_n f_86_1 rfl ?_
  refine x_callVe f_86_2 (k_windowAt0 C _ h_wm e_wm hin) (by omega) C.k8 (by decide) rfl rfl (Nat.le_of_ble_eq_true rfl) rfl ?_
  refine x_astore_nN (ls1 := [.ref 8, .int v, .null, mj_unset]) f_86_5 (Nat.le_of_ble_eq_true rfl) rfl ?_
  refine x_aload_nN f_86_6 rfl ?_
  refine x_ifnonnullN f_86_7 ?_
  refine x_bipush (v := -2) f_86_10 (by decide) ?_
  refine x_retI f_86_12 rfl ?_
  exact ⟨rfl, rfl⟩
