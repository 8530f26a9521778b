/-! THE WALK through boxes -/
set_option maxRecDepth 20000 in
theorem k_lay {h : mj_H} (C : SC h) {n : Nat} (e2 : mj_I h 17 2 = nI n) (hn : n < 16) (x y : Nat) : mxc 0 60 [.ref 17, .int (nI x), .int (nI y)] h (fun r h' => r = none ∧ h' = mj_setI (mj_setI (mj_setI h 18 n (nI x)) 19 n (nI y)) 17 2 (nI (n + 1))) := by
  show mx 0 60 0 [.ref 17, .int (nI x), .int (nI y)] [] h _
  refine x_aload_n f_60_0 rfl ?_
  refine x_getI f_60_1 C.k17 (by decide) ?_
  refine x_topi (w := nI n) e2 ?_
  refine x_bipush (v := nI 16) f_60_4 (by decide) ?_
  refine x_icmpN_ge (t := 39) f_60_6 (by decide) (by omega) (by decide) (fun c_1 => by omega) (fun c_1 => ?_)
  refine x_aload_n f_60_9 rfl ?_
  refine x_getR f_60_10 C.k17 (by decide) C.r17_0 ?_
  refine x_aload_n f_60_13 rfl ?_
  refine x_getI f_60_14 C.k17 (by decide) ?_
  refine x_topi (w := nI n) e2 ?_
  refine x_iload_n f_60_17 rfl ?_
  refine x_iast (j := n) f_60_18 C.k18 (by decide) (by omega) (by decide) ?_
  refine x_aload_n f_60_19 rfl ?_
  refine x_getR f_60_20 C.k17 (by decide) C.r17_1 ?_
  refine x_aload_n f_60_23 rfl ?_
  refine x_getI f_60_24 C.k17 (by decide) ?_
  refine x_topi (w := nI n) ((congrFun (mj_I_other (by decide)) _).trans (e2)) ?_
  refine x_iload_n f_60_27 rfl ?_
  refine x_iast (j := n) f_60_28 C.k19 (by decide) (by omega) (by decide) ?_
  refine x_aload_n f_60_29 rfl ?_
  refine x_dup f_60_30 rfl ?_
  refine x_getI f_60_31 C.k17 (by decide) ?_
  refine x_topi (w := nI n) ((congrFun (mj_I_other (by decide)) _).trans ((congrFun (mj_I_other (by decide)) _).trans (e2))) ?_
  refine x_iconst (v := nI 1) f_60_34 (by decide) ?_
  refine x_iaddN f_60_35 ?_
  refine x_putI f_60_36 C.k17 (by decide) ?_
  refine x_retV f_60_39 rfl ?_
  exact ⟨rfl, rfl⟩
set_option maxRecDepth 20000 in
theorem k_begin {h : mj_H} (C : SC h) (x y : Nat) : mxc 1 59 [.ref 17, .int (nI x), .int (nI y)] h (fun r h' => r = none ∧ Rw h h' [17, 18, 19] ∧ mj_I h' 17 2 = nI 1 ∧ mj_I h' 18 0 = nI x ∧ mj_I h' 19 0 = nI y) := by
  show mx 1 59 0 [.ref 17, .int (nI x), .int (nI y)] [] h _
  refine x_aload_n f_59_0 rfl ?_
  refine x_iconst (v := nI 0) f_59_1 (by decide) ?_
  refine x_putI f_59_2 C.k17 (by decide) ?_
  refine x_aload_n f_59_5 rfl ?_
  refine x_iload_n f_59_6 rfl ?_
  refine x_iload_n f_59_7 rfl ?_
  refine x_callV f_59_8 (k_lay (Rw.sc ((Rw.rf h [17]).set (by decide)) C (by decide)) (n := 0) (mj_I_at _ _ _ _) (by decide) _ _) (by omega) C.k17 (by decide) rfl rfl (Nat.le_of_ble_eq_true rfl) rfl ?_
  rintro _ _ ⟨rfl, rfl⟩
  refine x_retV f_59_11 rfl ?_
  refine ⟨rfl, (((Rw.rf h _).set (by decide)).set (by decide) |>.set (by decide)).set (by decide), mj_I_at _ _ _ _, ?_, ?_⟩
  · exact (congrFun (mj_I_other (by decide)) _).trans ((congrFun (mj_I_other (by decide)) _).trans (mj_I_at _ _ _ _))
  · exact (congrFun (mj_I_other (by decide)) _).trans (mj_I_at _ _ _ _)
set_option maxRecDepth 20000 in
theorem k_advance {h : mj_H} (C : SC h) {m : Nat} (e2 : mj_I h 17 2 = nI (m + 1)) (hm : m < 16) : mxc 0 61 [.ref 17] h (fun r h' => r = some (.int (nI 1)) ∧ Rw h h' [17] ∧ mj_I h' 17 2 = nI m ∧ mj_I h' 17 3 = mj_I h 18 m ∧ mj_I h' 17 4 = mj_I h 19 m) := by
  show mx 0 61 0 [.ref 17] [] h _
  refine x_aload_n f_61_0 rfl ?_
  refine x_getI f_61_1 C.k17 (by decide) ?_
  refine x_topi (w := nI (m + 1)) e2 ?_
  refine x_ifN_ne (t := 9) f_61_4 (by decide) (by omega) (fun c_1 => ?_) (fun c_1 => by omega)
  refine x_aload_n f_61_9 rfl ?_
  refine x_dup f_61_10 rfl ?_
  refine x_getI f_61_11 C.k17 (by decide) ?_
  refine x_topi (w := nI (m + 1)) e2 ?_
  refine x_iconst (v := nI 1) f_61_14 (by decide) ?_
  refine x_isubN f_61_15 (by omega) ?_
  refine x_putI f_61_16 C.k17 (by decide) ?_
  refine x_aload_n f_61_19 rfl ?_
  refine x_aload_n f_61_20 rfl ?_
  refine x_getR f_61_21 C.k17 (by decide) C.r17_0 ?_
  refine x_aload_n f_61_24 rfl ?_
  refine x_getI f_61_25 C.k17 (by decide) ?_
  refine x_topi (w := nI ((m + 1) - 1)) (mj_I_at _ _ _ _) ?_
  refine x_iald (j := ((m + 1) - 1)) f_61_28 C.k18 (by omega) (by decide) ?_
  refine x_topi (w := mj_I h 18 ((m + 1) - 1)) (congrFun (mj_I_other (by decide)) _) ?_
  refine x_putI f_61_29 C.k17 (by decide) ?_
  refine x_aload_n f_61_32 rfl ?_
  refine x_aload_n f_61_33 rfl ?_
  refine x_getR f_61_34 C.k17 (by decide) C.r17_1 ?_
  refine x_aload_n f_61_37 rfl ?_
  refine x_getI f_61_38 C.k17 (by decide) ?_
  refine x_topi (w := nI ((m + 1) - 1)) ((mj_I_ne (by decide)).trans (mj_I_at _ _ _ _)) ?_
  refine x_iald (j := ((m + 1) - 1)) f_61_41 C.k19 (by omega) (by decide) ?_
  refine x_topi (w := mj_I h 19 ((m + 1) - 1)) ((congrFun (mj_I_other (by decide)) _).trans (congrFun (mj_I_other (by decide)) _)) ?_
  refine x_putI f_61_42 C.k17 (by decide) ?_
  refine x_iconst (v := nI 1) f_61_45 (by decide) ?_
  refine x_retZ f_61_46 rfl (by decide) ?_
  refine ⟨rfl, (((Rw.rf h _).set (by decide)).set (by decide)).set (by decide), ?_, ?_, ?_⟩
  · exact (mj_I_ne (by decide)).trans ((mj_I_ne (by decide)).trans ((mj_I_at _ _ _ _).trans (by rw [Nat.add_sub_cancel])))
  · exact (mj_I_ne (by decide)).trans ((mj_I_at _ _ _ _).trans (by rw [Nat.add_sub_cancel]))
  · exact (mj_I_at _ _ _ _).trans (by rw [Nat.add_sub_cancel])
set_option maxRecDepth 20000 in
theorem k_advance0 {h : mj_H} (C : SC h) (e2 : mj_I h 17 2 = nI 0) : mxc 0 61 [.ref 17] h (fun r h' => r = some (.int (nI 0)) ∧ h' = h) := by
  show mx 0 61 0 [.ref 17] [] h _
  refine x_aload_n f_61_0 rfl ?_
  refine x_getI f_61_1 C.k17 (by decide) ?_
  refine x_topi (w := nI 0) e2 ?_
  refine x_ifN_ne (t := 9) f_61_4 (by decide) (by decide) (fun c_1 => by omega) (fun c_1 => ?_)
  refine x_iconst (v := nI 0) f_61_7 (by decide) ?_
  refine x_retZ f_61_8 rfl (by decide) ?_
  exact ⟨rfl, rfl⟩
theorem k_axisK (h : mj_H) {n k i : Nat} (hn : n = 2 + 8 * k + i) (hi : i < 8) (hk : k ≤ 3) : mxc 0 64 [.int (nI n)] h (fun r h' => r = some (.int (nI k)) ∧ h' = h) := by
  refine (k_axisOf h (n := n) (by omega) (by omega)).post ?_
  rintro _ _ ⟨rfl, rfl⟩
  rw [show (n - 2) / 8 = k by omega]
  exact ⟨rfl, rfl⟩
theorem k_lowerK (h : mj_H) {n k i : Nat} (hn : n = 2 + 8 * k + i) (hi : i < 8) (hk : k ≤ 3) : mxc 0 65 [.int (nI n)] h (fun r h' => r = some (.int (nI (i + 1))) ∧ h' = h) := by
  refine (k_lowerOf h (n := n) (by omega) (by omega)).post ?_
  rintro _ _ ⟨rfl, rfl⟩
  rw [show (n - 2) % 8 = i by omega]
  exact ⟨rfl, rfl⟩
set_option maxRecDepth 20000 in
theorem k_mayCut0 {h : mj_H} (C : SC h) {x y : Nat} (e3 : mj_I h 17 3 = nI x) (e4 : mj_I h 17 4 = nI y) (hx : x < 729) (hy : y < 729) (hxy : mm_pt x 0 ≤ mm_pt y 0) {n i : Nat} (hn : n = 2 + 8 * 0 + i) (hi : i < 8) : mxc 1 62 [.ref 17, .int (nI n)] h (fun r h' => r = some (.int (if i < mm_pt y 0 - mm_pt x 0 then 1 else 0)) ∧ h' = h) := by
  show mx 1 62 0 [.ref 17, .int (nI n), mj_unset] [] h _
  refine x_iload_n f_62_0 rfl ?_
  refine x_callSe f_62_1 (k_axisK _ hn hi (by decide)) (by omega) rfl rfl rfl (Nat.le_of_ble_eq_true rfl) rfl ?_
  refine x_istore_n (ls1 := [.ref 17, .int (nI n), .int (nI 0)]) f_62_4 (Nat.le_of_ble_eq_true rfl) rfl ?_
  refine x_iload_n f_62_5 rfl ?_
  refine x_iconst (v := nI 3) f_62_6 (by decide) ?_
  refine x_icmpN_ge (t := 38) f_62_7 (by decide) (by decide) (by decide) (fun c_1 => by omega) (fun c_1 => ?_)
  refine x_iload_n f_62_10 rfl ?_
  refine x_callSe f_62_11 (k_lowerK _ hn hi (by decide)) (by omega) rfl rfl rfl (Nat.le_of_ble_eq_true rfl) rfl ?_
  refine x_aload_n f_62_14 rfl ?_
  refine x_getI f_62_15 C.k17 (by decide) ?_
  refine x_topi (w := nI y) e4 ?_
  refine x_iload_n f_62_18 rfl ?_
  refine x_callSe f_62_19 (k_along C (z := y) (a := 0) (by omega) (by decide)) (by omega) rfl rfl rfl (Nat.le_of_ble_eq_true rfl) rfl ?_
  refine x_aload_n f_62_22 rfl ?_
  refine x_getI f_62_23 C.k17 (by decide) ?_
  refine x_topi (w := nI x) e3 ?_
  refine x_iload_n f_62_26 rfl ?_
  refine x_callSe f_62_27 (k_along C (z := x) (a := 0) (by omega) (by decide)) (by omega) rfl rfl rfl (Nat.le_of_ble_eq_true rfl) rfl ?_
  refine x_isubN f_62_30 hxy ?_
  refine x_icmpN_gt (t := 38) f_62_31 (by decide) (by have := mm_pt_lt y 0 hy; omega) (by have := mm_pt_lt y 0 hy; omega) (fun c_c => ?_) (fun c_c => ?_)
  · refine x_iconst (v := nI 0) f_62_38 (by decide) ?_
    refine x_retZ f_62_39 rfl (by decide) ?_
    exact ⟨mj_if0 (by omega), rfl⟩
  · refine x_iconst (v := nI 1) f_62_34 (by decide) ?_
    refine x_goto (t := 39) f_62_35 (by decide) ?_
    refine x_retZ f_62_39 rfl (by decide) ?_
    exact ⟨mj_if1 (by omega), rfl⟩
set_option maxRecDepth 20000 in
theorem k_mayCut1 {h : mj_H} (C : SC h) {x y : Nat} (e3 : mj_I h 17 3 = nI x) (e4 : mj_I h 17 4 = nI y) (hx : x < 729) (hy : y < 729) (hxy : mm_pt x 1 ≤ mm_pt y 1) {n i : Nat} (hn : n = 2 + 8 * 1 + i) (hi : i < 8) : mxc 1 62 [.ref 17, .int (nI n)] h (fun r h' => r = some (.int (if i < mm_pt y 1 - mm_pt x 1 then 1 else 0)) ∧ h' = h) := by
  show mx 1 62 0 [.ref 17, .int (nI n), mj_unset] [] h _
  refine x_iload_n f_62_0 rfl ?_
  refine x_callSe f_62_1 (k_axisK _ hn hi (by decide)) (by omega) rfl rfl rfl (Nat.le_of_ble_eq_true rfl) rfl ?_
  refine x_istore_n (ls1 := [.ref 17, .int (nI n), .int (nI 1)]) f_62_4 (Nat.le_of_ble_eq_true rfl) rfl ?_
  refine x_iload_n f_62_5 rfl ?_
  refine x_iconst (v := nI 3) f_62_6 (by decide) ?_
  refine x_icmpN_ge (t := 38) f_62_7 (by decide) (by decide) (by decide) (fun c_1 => by omega) (fun c_1 => ?_)
  refine x_iload_n f_62_10 rfl ?_
  refine x_callSe f_62_11 (k_lowerK _ hn hi (by decide)) (by omega) rfl rfl rfl (Nat.le_of_ble_eq_true rfl) rfl ?_
  refine x_aload_n f_62_14 rfl ?_
  refine x_getI f_62_15 C.k17 (by decide) ?_
  refine x_topi (w := nI y) e4 ?_
  refine x_iload_n f_62_18 rfl ?_
  refine x_callSe f_62_19 (k_along C (z := y) (a := 1) (by omega) (by decide)) (by omega) rfl rfl rfl (Nat.le_of_ble_eq_true rfl) rfl ?_
  refine x_aload_n f_62_22 rfl ?_
  refine x_getI f_62_23 C.k17 (by decide) ?_
  refine x_topi (w := nI x) e3 ?_
  refine x_iload_n f_62_26 rfl ?_
  refine x_callSe f_62_27 (k_along C (z := x) (a := 1) (by omega) (by decide)) (by omega) rfl rfl rfl (Nat.le_of_ble_eq_true rfl) rfl ?_
  refine x_isubN f_62_30 hxy ?_
  refine x_icmpN_gt (t := 38) f_62_31 (by decide) (by have := mm_pt_lt y 1 hy; omega) (by have := mm_pt_lt y 1 hy; omega) (fun c_c => ?_) (fun c_c => ?_)
  · refine x_iconst (v := nI 0) f_62_38 (by decide) ?_
    refine x_retZ f_62_39 rfl (by decide) ?_
    exact ⟨mj_if0 (by omega), rfl⟩
  · refine x_iconst (v := nI 1) f_62_34 (by decide) ?_
    refine x_goto (t := 39) f_62_35 (by decide) ?_
    refine x_retZ f_62_39 rfl (by decide) ?_
    exact ⟨mj_if1 (by omega), rfl⟩
set_option maxRecDepth 20000 in
theorem k_mayCut2 {h : mj_H} (C : SC h) {x y : Nat} (e3 : mj_I h 17 3 = nI x) (e4 : mj_I h 17 4 = nI y) (hx : x < 729) (hy : y < 729) (hxy : mm_pt x 2 ≤ mm_pt y 2) {n i : Nat} (hn : n = 2 + 8 * 2 + i) (hi : i < 8) : mxc 1 62 [.ref 17, .int (nI n)] h (fun r h' => r = some (.int (if i < mm_pt y 2 - mm_pt x 2 then 1 else 0)) ∧ h' = h) := by
  show mx 1 62 0 [.ref 17, .int (nI n), mj_unset] [] h _
  refine x_iload_n f_62_0 rfl ?_
  refine x_callSe f_62_1 (k_axisK _ hn hi (by decide)) (by omega) rfl rfl rfl (Nat.le_of_ble_eq_true rfl) rfl ?_
  refine x_istore_n (ls1 := [.ref 17, .int (nI n), .int (nI 2)]) f_62_4 (Nat.le_of_ble_eq_true rfl) rfl ?_
  refine x_iload_n f_62_5 rfl ?_
  refine x_iconst (v := nI 3) f_62_6 (by decide) ?_
  refine x_icmpN_ge (t := 38) f_62_7 (by decide) (by decide) (by decide) (fun c_1 => by omega) (fun c_1 => ?_)
  refine x_iload_n f_62_10 rfl ?_
  refine x_callSe f_62_11 (k_lowerK _ hn hi (by decide)) (by omega) rfl rfl rfl (Nat.le_of_ble_eq_true rfl) rfl ?_
  refine x_aload_n f_62_14 rfl ?_
  refine x_getI f_62_15 C.k17 (by decide) ?_
  refine x_topi (w := nI y) e4 ?_
  refine x_iload_n f_62_18 rfl ?_
  refine x_callSe f_62_19 (k_along C (z := y) (a := 2) (by omega) (by decide)) (by omega) rfl rfl rfl (Nat.le_of_ble_eq_true rfl) rfl ?_
  refine x_aload_n f_62_22 rfl ?_
  refine x_getI f_62_23 C.k17 (by decide) ?_
  refine x_topi (w := nI x) e3 ?_
  refine x_iload_n f_62_26 rfl ?_
  refine x_callSe f_62_27 (k_along C (z := x) (a := 2) (by omega) (by decide)) (by omega) rfl rfl rfl (Nat.le_of_ble_eq_true rfl) rfl ?_
  refine x_isubN f_62_30 hxy ?_
  refine x_icmpN_gt (t := 38) f_62_31 (by decide) (by have := mm_pt_lt y 2 hy; omega) (by have := mm_pt_lt y 2 hy; omega) (fun c_c => ?_) (fun c_c => ?_)
  · refine x_iconst (v := nI 0) f_62_38 (by decide) ?_
    refine x_retZ f_62_39 rfl (by decide) ?_
    exact ⟨mj_if0 (by omega), rfl⟩
  · refine x_iconst (v := nI 1) f_62_34 (by decide) ?_
    refine x_goto (t := 39) f_62_35 (by decide) ?_
    refine x_retZ f_62_39 rfl (by decide) ?_
    exact ⟨mj_if1 (by omega), rfl⟩
set_option maxRecDepth 20000 in
theorem k_mayCut3 {h : mj_H} (C : SC h) {n i : Nat} (hn : n = 2 + 8 * 3 + i) (hi : i < 8) : mxc 1 62 [.ref 17, .int (nI n)] h (fun r h' => r = some (.int (nI 0)) ∧ h' = h) := by
  show mx 1 62 0 [.ref 17, .int (nI n), mj_unset] [] h _
  refine x_iload_n f_62_0 rfl ?_
  refine x_callSe f_62_1 (k_axisK _ hn hi (by decide)) (by omega) rfl rfl rfl (Nat.le_of_ble_eq_true rfl) rfl ?_
  refine x_istore_n (ls1 := [.ref 17, .int (nI n), .int (nI 3)]) f_62_4 (Nat.le_of_ble_eq_true rfl) rfl ?_
  refine x_iload_n f_62_5 rfl ?_
  refine x_iconst (v := nI 3) f_62_6 (by decide) ?_
  refine x_icmpN_ge (t := 38) f_62_7 (by decide) (by decide) (by decide) (fun c_1 => ?_) (fun c_1 => by omega)
  refine x_iconst (v := nI 0) f_62_38 (by decide) ?_
  refine x_retZ f_62_39 rfl (by decide) ?_
  exact ⟨rfl, rfl⟩
/-- a box's least and greatest setting, and the pile of boxes that wait, the next one first -/
def bL (L : Nat → Nat) (B : Bx6) : Nat := zz L B.1 B.2.2.1 B.2.2.2.2.1
def bH (L : Nat → Nat) (B : Bx6) : Nat := zz L B.2.1 B.2.2.2.1 B.2.2.2.2.2
def PL (h : mj_H) (L : Nat → Nat) : List Bx6 → Prop
  | [] => True
  | B :: r => mj_I h 18 r.length = nI (bL L B) ∧ mj_I h 19 r.length = nI (bH L B) ∧ PL h L r
def hp (W : Nat → Nat) : List Bx6 → Prop
  | [] => True
  | B :: r => r.length + spn B.1 B.2.1 B.2.2.1 B.2.2.2.1 B.2.2.2.2.1 B.2.2.2.2.2 ≤ 15 ∧ BX W B.1 B.2.1 B.2.2.1 B.2.2.2.1 B.2.2.2.2.1 B.2.2.2.2.2 ∧ hp W r
def WK (h : mj_H) (L W : Nat → Nat) (l : List Bx6) : Prop := mj_I h 17 2 = nI l.length ∧ PL h L l ∧ hp W l
theorem PL_to {h g : mj_H} {L : Nat → Nat} : ∀ (l : List Bx6), (∀ k, k < l.length → mj_I g 18 k = mj_I h 18 k ∧ mj_I g 19 k = mj_I h 19 k) → PL h L l → PL g L l
  | [], _, _ => trivial
  | B :: r, e, q => ⟨(e r.length (by simp)).1.trans q.1, (e r.length (by simp)).2.trans q.2.1, PL_to r (fun k hk => e k (by simp; omega)) q.2.2⟩
theorem PL_i {h g : mj_H} {L : Nat → Nat} {l : List Bx6} (e1 : mj_I g 18 = mj_I h 18) (e2 : mj_I g 19 = mj_I h 19) (q : PL h L l) : PL g L l := PL_to l (fun k _ => by rw [e1, e2]; exact ⟨rfl, rfl⟩) q
/-- the pile behind a number -/
def fl (n a b c d e f : Nat) (r : List Bx6) : List Bx6 :=
  if n < 2 then r
  else if n < 10 then (if n - 2 < b - a then (a, a + (n - 2), c, d, e, f) :: (a + (n - 2) + 1, b, c, d, e, f) :: r else r)
  else if n < 18 then (if n - 10 < d - c then (a, b, c, c + (n - 10), e, f) :: (a, b, c + (n - 10) + 1, d, e, f) :: r else r)
  else if n < 26 then (if n - 18 < f - e then (a, b, c, d, e, e + (n - 18)) :: (a, b, c, d, e + (n - 18) + 1, f) :: r else r)
  else r
set_option maxRecDepth 20000 in
theorem k_follow0 {h : mj_H} (C : SC h) {L W : Nat → Nat} (hL : LB L W) {a b c d e f : Nat} (hB : BX W a b c d e f) (e3 : mj_I h 17 3 = nI (zz L a c e)) (e4 : mj_I h 17 4 = nI (zz L b d f)) {r : List Bx6} (hW : WK h L W r) (hs : r.length + spn a b c d e f ≤ 15) {n i : Nat} (hn : n = 2 + 8 * 0 + i) (hi : i < 8) : mxc 2 63 [.ref 17, .int (nI n)] h (fun r1 h' => r1 = none ∧ Rw h h' [17, 18, 19] ∧ WK h' L W (if i < b - a then (a, a + i, c, d, e, f) :: (a + i + 1, b, c, d, e, f) :: r else r)) := by
  have e2 := hW.1
  unfold BX at hB
  have zx := zz_ hL (t := a) (p := c) (l := e) (by omega) (by omega) (by omega)
  have zy := zz_ hL (t := b) (p := d) (l := f) (by omega) (by omega) (by omega)
  have h0 := hL 0 (by decide)
  have h1 := hL 1 (by decide)
  have h2 := hL 2 (by decide)
  have hs2 := hs
  unfold spn at hs2
  have eX : zz L a c e = 81 * (L 0 + a - 1) + 9 * (L 1 + c - 1) + (L 2 + e - 1) := rfl
  have eY : zz L b d f = 81 * (L 0 + b - 1) + 9 * (L 1 + d - 1) + (L 2 + f - 1) := rfl
  show mx 2 63 0 [.ref 17, .int (nI n), mj_unset, mj_unset, mj_unset] [] h _
  refine x_iload_n f_63_0 rfl ?_
  refine x_iconst (v := nI 2) f_63_1 (by decide) ?_
  refine x_icmpN_lt (t := 13) f_63_2 (by decide) (by omega) (by decide) (fun c_1 => by omega) (fun c_1 => ?_)
  refine x_aload_n f_63_5 rfl ?_
  refine x_iload_n f_63_6 rfl ?_
  refine x_callVe f_63_7 (k_mayCut0 C e3 e4 zx.1 zy.1 (by omega) hn hi) (by omega) C.k17 (by decide) rfl rfl (Nat.le_of_ble_eq_true rfl) rfl ?_
  refine x_ifB_ne (t := 14) f_63_10 (by decide) (fun c_c => ?_) (fun c_c => ?_)
  · have hik : i < b - a := by omega
    have zu : zz L (a + i + 1) (c) (e) = 81 * (L 0 + (a + i + 1) - 1) + 9 * (L 1 + (c) - 1) + (L 2 + (e) - 1) := rfl
    have eu : zz L a c e + (i + 1) * 81 = zz L (a + i + 1) (c) (e) := by omega
    have hu : zz L a c e + (i + 1) * 81 < 729 ∧ mm_pt (zz L a c e + (i + 1) * 81) 0 + 1 = L 0 + (a + i + 1) := by rw [eu]; exact ⟨(zz_ hL (by omega) (by omega) (by omega)).1, (zz_ hL (t := a + i + 1) (p := c) (l := e) (by omega) (by omega) (by omega)).2.1⟩
    refine x_iload_n f_63_14 rfl ?_
    refine x_callSe f_63_15 (k_axisK _ hn hi (by decide)) (by omega) rfl rfl rfl (Nat.le_of_ble_eq_true rfl) rfl ?_
    refine x_istore_n (ls1 := [.ref 17, .int (nI n), .int (nI 0), mj_unset, mj_unset]) f_63_18 (Nat.le_of_ble_eq_true rfl) rfl ?_
    refine x_aload_n f_63_19 rfl ?_
    refine x_getI f_63_20 C.k17 (by decide) ?_
    refine x_topi (w := nI (zz L a c e)) e3 ?_
    refine x_iload_n f_63_23 rfl ?_
    refine x_callSe f_63_24 (k_lowerK _ hn hi (by decide)) (by omega) rfl rfl rfl (Nat.le_of_ble_eq_true rfl) rfl ?_
    refine x_gets f_63_27 ?_
    refine x_iload_n f_63_30 rfl ?_
    refine x_iald (j := 0) f_63_31 C.k2 (by omega) (by decide) ?_
    refine x_topi (w := nI 81) (C.v2_0) ?_
    refine x_imulN f_63_32 ?_
    refine x_iaddN f_63_33 ?_
    refine x_istore_n (ls1 := [.ref 17, .int (nI n), .int (nI 0), .int (nI ((zz L a c e) + ((i + 1) * 81))), mj_unset]) f_63_34 (Nat.le_of_ble_eq_true rfl) rfl ?_
    refine x_aload_n f_63_35 rfl ?_
    refine x_getI f_63_36 C.k17 (by decide) ?_
    refine x_topi (w := nI (zz L b d f)) e4 ?_
    refine x_iload_n f_63_39 rfl ?_
    refine x_callSe f_63_40 (k_along C (z := (zz L b d f)) (a := 0) zy.1 (by decide)) (by omega) rfl rfl rfl (Nat.le_of_ble_eq_true rfl) rfl ?_
    refine x_iload_n f_63_43 rfl ?_
    refine x_iload_n f_63_44 rfl ?_
    refine x_callSe f_63_45 (k_along C (z := ((zz L a c e) + ((i + 1) * 81))) (a := 0) (by omega) (by decide)) (by omega) rfl rfl rfl (Nat.le_of_ble_eq_true rfl) rfl ?_
    refine x_isubN f_63_48 (by omega) ?_
    refine x_iconst (v := nI 1) f_63_49 (by decide) ?_
    refine x_iaddN f_63_50 ?_
    refine x_istore (ls1 := [.ref 17, .int (nI n), .int (nI 0), .int (nI ((zz L a c e) + ((i + 1) * 81))), .int (nI (((mm_pt (zz L b d f) 0) - (mm_pt ((zz L a c e) + ((i + 1) * 81)) 0)) + 1))]) f_63_51 (Nat.le_of_ble_eq_true rfl) rfl ?_
    refine x_aload_n f_63_53 rfl ?_
    refine x_iload_n f_63_54 rfl ?_
    refine x_aload_n f_63_55 rfl ?_
    refine x_getI f_63_56 C.k17 (by decide) ?_
    refine x_topi (w := nI (zz L b d f)) e4 ?_
    refine x_callV f_63_59 (k_lay C (n := r.length) e2 (by omega) _ _) (by omega) C.k17 (by decide) rfl rfl (Nat.le_of_ble_eq_true rfl) rfl ?_
    rintro _ _ ⟨rfl, rfl⟩
    refine x_aload_n f_63_62 rfl ?_
    refine x_aload_n f_63_63 rfl ?_
    refine x_getI f_63_64 C.k17 (by decide) ?_
    refine x_topi (w := nI (zz L a c e)) ((mj_I_ne (by decide)).trans ((congrFun (mj_I_other (by decide)) _).trans ((congrFun (mj_I_other (by decide)) _).trans (e3)))) ?_
    refine x_aload_n f_63_67 rfl ?_
    refine x_getI f_63_68 C.k17 (by decide) ?_
    refine x_topi (w := nI (zz L b d f)) ((mj_I_ne (by decide)).trans ((congrFun (mj_I_other (by decide)) _).trans ((congrFun (mj_I_other (by decide)) _).trans (e4)))) ?_
    refine x_iload f_63_71 rfl ?_
    refine x_gets f_63_73 ?_
    refine x_iload_n f_63_76 rfl ?_
    refine x_iald (j := 0) f_63_77 C.k2 (by omega) (by decide) ?_
    refine x_topi (w := nI 81) (C.v2_0) ?_
    refine x_imulN f_63_78 ?_
    refine x_isubN f_63_79 (by omega) ?_
    refine x_callV f_63_80 (k_lay (Rw.sc ((((Rw.rf h [17, 18, 19]).set (by decide)).set (by decide)).set (by decide)) C (by decide)) (n := r.length + 1) (mj_I_at _ _ _ _) (by omega) _ _) (by omega) C.k17 (by decide) rfl rfl (Nat.le_of_ble_eq_true rfl) rfl ?_
    rintro _ _ ⟨rfl, rfl⟩
    refine x_retV f_63_83 rfl ?_
    have zl : zz L (a + i) (d) (f) = 81 * (L 0 + (a + i) - 1) + 9 * (L 1 + (d) - 1) + (L 2 + (f) - 1) := rfl
    have el : (zz L b d f) - ((((mm_pt (zz L b d f) 0) - (mm_pt ((zz L a c e) + ((i + 1) * 81)) 0)) + 1) * 81) = zz L (a + i) (d) (f) := by omega
    rw [if_pos hik]
    refine ⟨rfl, (((((Rw.rf h _).set (by decide)).set (by decide)).set (by decide) |>.set (by decide)).set (by decide)).set (by decide), mj_I_at _ _ _ _, ⟨?_, ?_, ?_, ?_, ?_⟩, ⟨?_, ?_, ?_, ?_, hW.2.2⟩⟩
    · exact (congrFun (mj_I_other (by decide)) _).trans ((congrFun (mj_I_other (by decide)) _).trans (mj_I_at _ _ _ _))
    · exact (congrFun (mj_I_other (by decide)) _).trans ((mj_I_at _ _ _ _).trans (congrArg nI el))
    · exact (congrFun (mj_I_other (by decide)) _).trans ((congrFun (mj_I_other (by decide)) _).trans ((mj_I_ne (by omega)).trans ((congrFun (mj_I_other (by decide)) _).trans ((congrFun (mj_I_other (by decide)) _).trans ((mj_I_at _ _ _ _).trans (congrArg nI eu))))))
    · exact (congrFun (mj_I_other (by decide)) _).trans ((mj_I_ne (by omega)).trans ((congrFun (mj_I_other (by decide)) _).trans ((congrFun (mj_I_other (by decide)) _).trans (mj_I_at _ _ _ _))))
    · refine PL_to r (fun q hq => ⟨?_, ?_⟩) hW.2.1
      · exact (congrFun (mj_I_other (by decide)) _).trans ((congrFun (mj_I_other (by decide)) _).trans ((mj_I_ne (by omega)).trans ((congrFun (mj_I_other (by decide)) _).trans ((congrFun (mj_I_other (by decide)) _).trans (mj_I_ne (by omega))))))
      · exact (congrFun (mj_I_other (by decide)) _).trans ((mj_I_ne (by omega)).trans ((congrFun (mj_I_other (by decide)) _).trans ((congrFun (mj_I_other (by decide)) _).trans ((mj_I_ne (by omega)).trans (congrFun (mj_I_other (by decide)) _)))))
    · show r.length + 1 + spn (a) (a + i) (c) (d) (e) (f) ≤ 15
      unfold spn at hs ⊢
      omega
    · show BX W (a) (a + i) (c) (d) (e) (f)
      exact ⟨by omega, by omega, by omega, by omega, by omega, by omega⟩
    · show r.length + spn (a + i + 1) (b) (c) (d) (e) (f) ≤ 15
      unfold spn at hs ⊢
      omega
    · show BX W (a + i + 1) (b) (c) (d) (e) (f)
      exact ⟨by omega, by omega, by omega, by omega, by omega, by omega⟩
  · refine x_retV f_63_13 rfl ?_
    rw [if_neg (by omega)]
    exact ⟨rfl, Rw.rf _ _, hW⟩
set_option maxRecDepth 20000 in
theorem k_follow1 {h : mj_H} (C : SC h) {L W : Nat → Nat} (hL : LB L W) {a b c d e f : Nat} (hB : BX W a b c d e f) (e3 : mj_I h 17 3 = nI (zz L a c e)) (e4 : mj_I h 17 4 = nI (zz L b d f)) {r : List Bx6} (hW : WK h L W r) (hs : r.length + spn a b c d e f ≤ 15) {n i : Nat} (hn : n = 2 + 8 * 1 + i) (hi : i < 8) : mxc 2 63 [.ref 17, .int (nI n)] h (fun r1 h' => r1 = none ∧ Rw h h' [17, 18, 19] ∧ WK h' L W (if i < d - c then (a, b, c, c + i, e, f) :: (a, b, c + i + 1, d, e, f) :: r else r)) := by
  have e2 := hW.1
  unfold BX at hB
  have zx := zz_ hL (t := a) (p := c) (l := e) (by omega) (by omega) (by omega)
  have zy := zz_ hL (t := b) (p := d) (l := f) (by omega) (by omega) (by omega)
  have h0 := hL 0 (by decide)
  have h1 := hL 1 (by decide)
  have h2 := hL 2 (by decide)
  have hs2 := hs
  unfold spn at hs2
  have eX : zz L a c e = 81 * (L 0 + a - 1) + 9 * (L 1 + c - 1) + (L 2 + e - 1) := rfl
  have eY : zz L b d f = 81 * (L 0 + b - 1) + 9 * (L 1 + d - 1) + (L 2 + f - 1) := rfl
  show mx 2 63 0 [.ref 17, .int (nI n), mj_unset, mj_unset, mj_unset] [] h _
  refine x_iload_n f_63_0 rfl ?_
  refine x_iconst (v := nI 2) f_63_1 (by decide) ?_
  refine x_icmpN_lt (t := 13) f_63_2 (by decide) (by omega) (by decide) (fun c_1 => by omega) (fun c_1 => ?_)
  refine x_aload_n f_63_5 rfl ?_
  refine x_iload_n f_63_6 rfl ?_
  refine x_callVe f_63_7 (k_mayCut1 C e3 e4 zx.1 zy.1 (by omega) hn hi) (by omega) C.k17 (by decide) rfl rfl (Nat.le_of_ble_eq_true rfl) rfl ?_
  refine x_ifB_ne (t := 14) f_63_10 (by decide) (fun c_c => ?_) (fun c_c => ?_)
  · have hik : i < d - c := by omega
    have zu : zz L (a) (c + i + 1) (e) = 81 * (L 0 + (a) - 1) + 9 * (L 1 + (c + i + 1) - 1) + (L 2 + (e) - 1) := rfl
    have eu : zz L a c e + (i + 1) * 9 = zz L (a) (c + i + 1) (e) := by omega
    have hu : zz L a c e + (i + 1) * 9 < 729 ∧ mm_pt (zz L a c e + (i + 1) * 9) 1 + 1 = L 1 + (c + i + 1) := by rw [eu]; exact ⟨(zz_ hL (by omega) (by omega) (by omega)).1, (zz_ hL (t := a) (p := c + i + 1) (l := e) (by omega) (by omega) (by omega)).2.2.1⟩
    refine x_iload_n f_63_14 rfl ?_
    refine x_callSe f_63_15 (k_axisK _ hn hi (by decide)) (by omega) rfl rfl rfl (Nat.le_of_ble_eq_true rfl) rfl ?_
    refine x_istore_n (ls1 := [.ref 17, .int (nI n), .int (nI 1), mj_unset, mj_unset]) f_63_18 (Nat.le_of_ble_eq_true rfl) rfl ?_
    refine x_aload_n f_63_19 rfl ?_
    refine x_getI f_63_20 C.k17 (by decide) ?_
    refine x_topi (w := nI (zz L a c e)) e3 ?_
    refine x_iload_n f_63_23 rfl ?_
    refine x_callSe f_63_24 (k_lowerK _ hn hi (by decide)) (by omega) rfl rfl rfl (Nat.le_of_ble_eq_true rfl) rfl ?_
    refine x_gets f_63_27 ?_
    refine x_iload_n f_63_30 rfl ?_
    refine x_iald (j := 1) f_63_31 C.k2 (by omega) (by decide) ?_
    refine x_topi (w := nI 9) (C.v2_1) ?_
    refine x_imulN f_63_32 ?_
    refine x_iaddN f_63_33 ?_
    refine x_istore_n (ls1 := [.ref 17, .int (nI n), .int (nI 1), .int (nI ((zz L a c e) + ((i + 1) * 9))), mj_unset]) f_63_34 (Nat.le_of_ble_eq_true rfl) rfl ?_
    refine x_aload_n f_63_35 rfl ?_
    refine x_getI f_63_36 C.k17 (by decide) ?_
    refine x_topi (w := nI (zz L b d f)) e4 ?_
    refine x_iload_n f_63_39 rfl ?_
    refine x_callSe f_63_40 (k_along C (z := (zz L b d f)) (a := 1) zy.1 (by decide)) (by omega) rfl rfl rfl (Nat.le_of_ble_eq_true rfl) rfl ?_
    refine x_iload_n f_63_43 rfl ?_
    refine x_iload_n f_63_44 rfl ?_
    refine x_callSe f_63_45 (k_along C (z := ((zz L a c e) + ((i + 1) * 9))) (a := 1) (by omega) (by decide)) (by omega) rfl rfl rfl (Nat.le_of_ble_eq_true rfl) rfl ?_
    refine x_isubN f_63_48 (by omega) ?_
    refine x_iconst (v := nI 1) f_63_49 (by decide) ?_
    refine x_iaddN f_63_50 ?_
    refine x_istore (ls1 := [.ref 17, .int (nI n), .int (nI 1), .int (nI ((zz L a c e) + ((i + 1) * 9))), .int (nI (((mm_pt (zz L b d f) 1) - (mm_pt ((zz L a c e) + ((i + 1) * 9)) 1)) + 1))]) f_63_51 (Nat.le_of_ble_eq_true rfl) rfl ?_
    refine x_aload_n f_63_53 rfl ?_
    refine x_iload_n f_63_54 rfl ?_
    refine x_aload_n f_63_55 rfl ?_
    refine x_getI f_63_56 C.k17 (by decide) ?_
    refine x_topi (w := nI (zz L b d f)) e4 ?_
    refine x_callV f_63_59 (k_lay C (n := r.length) e2 (by omega) _ _) (by omega) C.k17 (by decide) rfl rfl (Nat.le_of_ble_eq_true rfl) rfl ?_
    rintro _ _ ⟨rfl, rfl⟩
    refine x_aload_n f_63_62 rfl ?_
    refine x_aload_n f_63_63 rfl ?_
    refine x_getI f_63_64 C.k17 (by decide) ?_
    refine x_topi (w := nI (zz L a c e)) ((mj_I_ne (by decide)).trans ((congrFun (mj_I_other (by decide)) _).trans ((congrFun (mj_I_other (by decide)) _).trans (e3)))) ?_
    refine x_aload_n f_63_67 rfl ?_
    refine x_getI f_63_68 C.k17 (by decide) ?_
    refine x_topi (w := nI (zz L b d f)) ((mj_I_ne (by decide)).trans ((congrFun (mj_I_other (by decide)) _).trans ((congrFun (mj_I_other (by decide)) _).trans (e4)))) ?_
    refine x_iload f_63_71 rfl ?_
    refine x_gets f_63_73 ?_
    refine x_iload_n f_63_76 rfl ?_
    refine x_iald (j := 1) f_63_77 C.k2 (by omega) (by decide) ?_
    refine x_topi (w := nI 9) (C.v2_1) ?_
    refine x_imulN f_63_78 ?_
    refine x_isubN f_63_79 (by omega) ?_
    refine x_callV f_63_80 (k_lay (Rw.sc ((((Rw.rf h [17, 18, 19]).set (by decide)).set (by decide)).set (by decide)) C (by decide)) (n := r.length + 1) (mj_I_at _ _ _ _) (by omega) _ _) (by omega) C.k17 (by decide) rfl rfl (Nat.le_of_ble_eq_true rfl) rfl ?_
    rintro _ _ ⟨rfl, rfl⟩
    refine x_retV f_63_83 rfl ?_
    have zl : zz L (b) (c + i) (f) = 81 * (L 0 + (b) - 1) + 9 * (L 1 + (c + i) - 1) + (L 2 + (f) - 1) := rfl
    have el : (zz L b d f) - ((((mm_pt (zz L b d f) 1) - (mm_pt ((zz L a c e) + ((i + 1) * 9)) 1)) + 1) * 9) = zz L (b) (c + i) (f) := by omega
    rw [if_pos hik]
    refine ⟨rfl, (((((Rw.rf h _).set (by decide)).set (by decide)).set (by decide) |>.set (by decide)).set (by decide)).set (by decide), mj_I_at _ _ _ _, ⟨?_, ?_, ?_, ?_, ?_⟩, ⟨?_, ?_, ?_, ?_, hW.2.2⟩⟩
    · exact (congrFun (mj_I_other (by decide)) _).trans ((congrFun (mj_I_other (by decide)) _).trans (mj_I_at _ _ _ _))
    · exact (congrFun (mj_I_other (by decide)) _).trans ((mj_I_at _ _ _ _).trans (congrArg nI el))
    · exact (congrFun (mj_I_other (by decide)) _).trans ((congrFun (mj_I_other (by decide)) _).trans ((mj_I_ne (by omega)).trans ((congrFun (mj_I_other (by decide)) _).trans ((congrFun (mj_I_other (by decide)) _).trans ((mj_I_at _ _ _ _).trans (congrArg nI eu))))))
    · exact (congrFun (mj_I_other (by decide)) _).trans ((mj_I_ne (by omega)).trans ((congrFun (mj_I_other (by decide)) _).trans ((congrFun (mj_I_other (by decide)) _).trans (mj_I_at _ _ _ _))))
    · refine PL_to r (fun q hq => ⟨?_, ?_⟩) hW.2.1
      · exact (congrFun (mj_I_other (by decide)) _).trans ((congrFun (mj_I_other (by decide)) _).trans ((mj_I_ne (by omega)).trans ((congrFun (mj_I_other (by decide)) _).trans ((congrFun (mj_I_other (by decide)) _).trans (mj_I_ne (by omega))))))
      · exact (congrFun (mj_I_other (by decide)) _).trans ((mj_I_ne (by omega)).trans ((congrFun (mj_I_other (by decide)) _).trans ((congrFun (mj_I_other (by decide)) _).trans ((mj_I_ne (by omega)).trans (congrFun (mj_I_other (by decide)) _)))))
    · show r.length + 1 + spn (a) (b) (c) (c + i) (e) (f) ≤ 15
      unfold spn at hs ⊢
      omega
    · show BX W (a) (b) (c) (c + i) (e) (f)
      exact ⟨by omega, by omega, by omega, by omega, by omega, by omega⟩
    · show r.length + spn (a) (b) (c + i + 1) (d) (e) (f) ≤ 15
      unfold spn at hs ⊢
      omega
    · show BX W (a) (b) (c + i + 1) (d) (e) (f)
      exact ⟨by omega, by omega, by omega, by omega, by omega, by omega⟩
  · refine x_retV f_63_13 rfl ?_
    rw [if_neg (by omega)]
    exact ⟨rfl, Rw.rf _ _, hW⟩
set_option maxRecDepth 20000 in
theorem k_follow2 {h : mj_H} (C : SC h) {L W : Nat → Nat} (hL : LB L W) {a b c d e f : Nat} (hB : BX W a b c d e f) (e3 : mj_I h 17 3 = nI (zz L a c e)) (e4 : mj_I h 17 4 = nI (zz L b d f)) {r : List Bx6} (hW : WK h L W r) (hs : r.length + spn a b c d e f ≤ 15) {n i : Nat} (hn : n = 2 + 8 * 2 + i) (hi : i < 8) : mxc 2 63 [.ref 17, .int (nI n)] h (fun r1 h' => r1 = none ∧ Rw h h' [17, 18, 19] ∧ WK h' L W (if i < f - e then (a, b, c, d, e, e + i) :: (a, b, c, d, e + i + 1, f) :: r else r)) := by
  have e2 := hW.1
  unfold BX at hB
  have zx := zz_ hL (t := a) (p := c) (l := e) (by omega) (by omega) (by omega)
  have zy := zz_ hL (t := b) (p := d) (l := f) (by omega) (by omega) (by omega)
  have h0 := hL 0 (by decide)
  have h1 := hL 1 (by decide)
  have h2 := hL 2 (by decide)
  have hs2 := hs
  unfold spn at hs2
  have eX : zz L a c e = 81 * (L 0 + a - 1) + 9 * (L 1 + c - 1) + (L 2 + e - 1) := rfl
  have eY : zz L b d f = 81 * (L 0 + b - 1) + 9 * (L 1 + d - 1) + (L 2 + f - 1) := rfl
  show mx 2 63 0 [.ref 17, .int (nI n), mj_unset, mj_unset, mj_unset] [] h _
  refine x_iload_n f_63_0 rfl ?_
  refine x_iconst (v := nI 2) f_63_1 (by decide) ?_
  refine x_icmpN_lt (t := 13) f_63_2 (by decide) (by omega) (by decide) (fun c_1 => by omega) (fun c_1 => ?_)
  refine x_aload_n f_63_5 rfl ?_
  refine x_iload_n f_63_6 rfl ?_
  refine x_callVe f_63_7 (k_mayCut2 C e3 e4 zx.1 zy.1 (by omega) hn hi) (by omega) C.k17 (by decide) rfl rfl (Nat.le_of_ble_eq_true rfl) rfl ?_
  refine x_ifB_ne (t := 14) f_63_10 (by decide) (fun c_c => ?_) (fun c_c => ?_)
  · have hik : i < f - e := by omega
    have zu : zz L (a) (c) (e + i + 1) = 81 * (L 0 + (a) - 1) + 9 * (L 1 + (c) - 1) + (L 2 + (e + i + 1) - 1) := rfl
    have eu : zz L a c e + (i + 1) * 1 = zz L (a) (c) (e + i + 1) := by omega
    have hu : zz L a c e + (i + 1) * 1 < 729 ∧ mm_pt (zz L a c e + (i + 1) * 1) 2 + 1 = L 2 + (e + i + 1) := by rw [eu]; exact ⟨(zz_ hL (by omega) (by omega) (by omega)).1, (zz_ hL (t := a) (p := c) (l := e + i + 1) (by omega) (by omega) (by omega)).2.2.2⟩
    refine x_iload_n f_63_14 rfl ?_
    refine x_callSe f_63_15 (k_axisK _ hn hi (by decide)) (by omega) rfl rfl rfl (Nat.le_of_ble_eq_true rfl) rfl ?_
    refine x_istore_n (ls1 := [.ref 17, .int (nI n), .int (nI 2), mj_unset, mj_unset]) f_63_18 (Nat.le_of_ble_eq_true rfl) rfl ?_
    refine x_aload_n f_63_19 rfl ?_
    refine x_getI f_63_20 C.k17 (by decide) ?_
    refine x_topi (w := nI (zz L a c e)) e3 ?_
    refine x_iload_n f_63_23 rfl ?_
    refine x_callSe f_63_24 (k_lowerK _ hn hi (by decide)) (by omega) rfl rfl rfl (Nat.le_of_ble_eq_true rfl) rfl ?_
    refine x_gets f_63_27 ?_
    refine x_iload_n f_63_30 rfl ?_
    refine x_iald (j := 2) f_63_31 C.k2 (by omega) (by decide) ?_
    refine x_topi (w := nI 1) (C.v2_2) ?_
    refine x_imulN f_63_32 ?_
    refine x_iaddN f_63_33 ?_
    refine x_istore_n (ls1 := [.ref 17, .int (nI n), .int (nI 2), .int (nI ((zz L a c e) + ((i + 1) * 1))), mj_unset]) f_63_34 (Nat.le_of_ble_eq_true rfl) rfl ?_
    refine x_aload_n f_63_35 rfl ?_
    refine x_getI f_63_36 C.k17 (by decide) ?_
    refine x_topi (w := nI (zz L b d f)) e4 ?_
    refine x_iload_n f_63_39 rfl ?_
    refine x_callSe f_63_40 (k_along C (z := (zz L b d f)) (a := 2) zy.1 (by decide)) (by omega) rfl rfl rfl (Nat.le_of_ble_eq_true rfl) rfl ?_
    refine x_iload_n f_63_43 rfl ?_
    refine x_iload_n f_63_44 rfl ?_
    refine x_callSe f_63_45 (k_along C (z := ((zz L a c e) + ((i + 1) * 1))) (a := 2) (by omega) (by decide)) (by omega) rfl rfl rfl (Nat.le_of_ble_eq_true rfl) rfl ?_
    refine x_isubN f_63_48 (by omega) ?_
    refine x_iconst (v := nI 1) f_63_49 (by decide) ?_
    refine x_iaddN f_63_50 ?_
    refine x_istore (ls1 := [.ref 17, .int (nI n), .int (nI 2), .int (nI ((zz L a c e) + ((i + 1) * 1))), .int (nI (((mm_pt (zz L b d f) 2) - (mm_pt ((zz L a c e) + ((i + 1) * 1)) 2)) + 1))]) f_63_51 (Nat.le_of_ble_eq_true rfl) rfl ?_
    refine x_aload_n f_63_53 rfl ?_
    refine x_iload_n f_63_54 rfl ?_
    refine x_aload_n f_63_55 rfl ?_
    refine x_getI f_63_56 C.k17 (by decide) ?_
    refine x_topi (w := nI (zz L b d f)) e4 ?_
    refine x_callV f_63_59 (k_lay C (n := r.length) e2 (by omega) _ _) (by omega) C.k17 (by decide) rfl rfl (Nat.le_of_ble_eq_true rfl) rfl ?_
    rintro _ _ ⟨rfl, rfl⟩
    refine x_aload_n f_63_62 rfl ?_
    refine x_aload_n f_63_63 rfl ?_
    refine x_getI f_63_64 C.k17 (by decide) ?_
    refine x_topi (w := nI (zz L a c e)) ((mj_I_ne (by decide)).trans ((congrFun (mj_I_other (by decide)) _).trans ((congrFun (mj_I_other (by decide)) _).trans (e3)))) ?_
    refine x_aload_n f_63_67 rfl ?_
    refine x_getI f_63_68 C.k17 (by decide) ?_
    refine x_topi (w := nI (zz L b d f)) ((mj_I_ne (by decide)).trans ((congrFun (mj_I_other (by decide)) _).trans ((congrFun (mj_I_other (by decide)) _).trans (e4)))) ?_
    refine x_iload f_63_71 rfl ?_
    refine x_gets f_63_73 ?_
    refine x_iload_n f_63_76 rfl ?_
    refine x_iald (j := 2) f_63_77 C.k2 (by omega) (by decide) ?_
    refine x_topi (w := nI 1) (C.v2_2) ?_
    refine x_imulN f_63_78 ?_
    refine x_isubN f_63_79 (by omega) ?_
    refine x_callV f_63_80 (k_lay (Rw.sc ((((Rw.rf h [17, 18, 19]).set (by decide)).set (by decide)).set (by decide)) C (by decide)) (n := r.length + 1) (mj_I_at _ _ _ _) (by omega) _ _) (by omega) C.k17 (by decide) rfl rfl (Nat.le_of_ble_eq_true rfl) rfl ?_
    rintro _ _ ⟨rfl, rfl⟩
    refine x_retV f_63_83 rfl ?_
    have zl : zz L (b) (d) (e + i) = 81 * (L 0 + (b) - 1) + 9 * (L 1 + (d) - 1) + (L 2 + (e + i) - 1) := rfl
    have el : (zz L b d f) - ((((mm_pt (zz L b d f) 2) - (mm_pt ((zz L a c e) + ((i + 1) * 1)) 2)) + 1) * 1) = zz L (b) (d) (e + i) := by omega
    rw [if_pos hik]
    refine ⟨rfl, (((((Rw.rf h _).set (by decide)).set (by decide)).set (by decide) |>.set (by decide)).set (by decide)).set (by decide), mj_I_at _ _ _ _, ⟨?_, ?_, ?_, ?_, ?_⟩, ⟨?_, ?_, ?_, ?_, hW.2.2⟩⟩
    · exact (congrFun (mj_I_other (by decide)) _).trans ((congrFun (mj_I_other (by decide)) _).trans (mj_I_at _ _ _ _))
    · exact (congrFun (mj_I_other (by decide)) _).trans ((mj_I_at _ _ _ _).trans (congrArg nI el))
    · exact (congrFun (mj_I_other (by decide)) _).trans ((congrFun (mj_I_other (by decide)) _).trans ((mj_I_ne (by omega)).trans ((congrFun (mj_I_other (by decide)) _).trans ((congrFun (mj_I_other (by decide)) _).trans ((mj_I_at _ _ _ _).trans (congrArg nI eu))))))
    · exact (congrFun (mj_I_other (by decide)) _).trans ((mj_I_ne (by omega)).trans ((congrFun (mj_I_other (by decide)) _).trans ((congrFun (mj_I_other (by decide)) _).trans (mj_I_at _ _ _ _))))
    · refine PL_to r (fun q hq => ⟨?_, ?_⟩) hW.2.1
      · exact (congrFun (mj_I_other (by decide)) _).trans ((congrFun (mj_I_other (by decide)) _).trans ((mj_I_ne (by omega)).trans ((congrFun (mj_I_other (by decide)) _).trans ((congrFun (mj_I_other (by decide)) _).trans (mj_I_ne (by omega))))))
      · exact (congrFun (mj_I_other (by decide)) _).trans ((mj_I_ne (by omega)).trans ((congrFun (mj_I_other (by decide)) _).trans ((congrFun (mj_I_other (by decide)) _).trans ((mj_I_ne (by omega)).trans (congrFun (mj_I_other (by decide)) _)))))
    · show r.length + 1 + spn (a) (b) (c) (d) (e) (e + i) ≤ 15
      unfold spn at hs ⊢
      omega
    · show BX W (a) (b) (c) (d) (e) (e + i)
      exact ⟨by omega, by omega, by omega, by omega, by omega, by omega⟩
    · show r.length + spn (a) (b) (c) (d) (e + i + 1) (f) ≤ 15
      unfold spn at hs ⊢
      omega
    · show BX W (a) (b) (c) (d) (e + i + 1) (f)
      exact ⟨by omega, by omega, by omega, by omega, by omega, by omega⟩
  · refine x_retV f_63_13 rfl ?_
    rw [if_neg (by omega)]
    exact ⟨rfl, Rw.rf _ _, hW⟩
set_option maxRecDepth 20000 in
theorem k_followL {h : mj_H} {n : Nat} (hn : n < 2) : mxc 0 63 [.ref 17, .int (nI n)] h (fun r1 h' => r1 = none ∧ h' = h) := by
  show mx 0 63 0 [.ref 17, .int (nI n), mj_unset, mj_unset, mj_unset] [] h _
  refine x_iload_n f_63_0 rfl ?_
  refine x_iconst (v := nI 2) f_63_1 (by decide) ?_
  refine x_icmpN_lt (t := 13) f_63_2 (by decide) (by omega) (by decide) (fun c_1 => ?_) (fun c_1 => by omega)
  refine x_retV f_63_13 rfl ?_
  exact ⟨rfl, rfl⟩
set_option maxRecDepth 20000 in
theorem k_follow3 {h : mj_H} (C : SC h) {n i : Nat} (hn : n = 2 + 8 * 3 + i) (hi : i < 8) : mxc 2 63 [.ref 17, .int (nI n)] h (fun r1 h' => r1 = none ∧ h' = h) := by
  show mx 2 63 0 [.ref 17, .int (nI n), mj_unset, mj_unset, mj_unset] [] h _
  refine x_iload_n f_63_0 rfl ?_
  refine x_iconst (v := nI 2) f_63_1 (by decide) ?_
  refine x_icmpN_lt (t := 13) f_63_2 (by decide) (by omega) (by decide) (fun c_1 => by omega) (fun c_1 => ?_)
  refine x_aload_n f_63_5 rfl ?_
  refine x_iload_n f_63_6 rfl ?_
  refine x_callVe f_63_7 (k_mayCut3 C hn hi) (by omega) C.k17 (by decide) rfl rfl (Nat.le_of_ble_eq_true rfl) rfl ?_
  refine x_ifN_ne (t := 14) f_63_10 (by decide) (by decide) (fun c_2 => by omega) (fun c_2 => ?_)
  refine x_retV f_63_13 rfl ?_
  exact ⟨rfl, rfl⟩
theorem k_follow {h : mj_H} (C : SC h) {L W : Nat → Nat} (hL : LB L W) {a b c d e f : Nat} (hB : BX W a b c d e f) (e3 : mj_I h 17 3 = nI (zz L a c e)) (e4 : mj_I h 17 4 = nI (zz L b d f)) {r : List Bx6} (hW : WK h L W r) (hs : r.length + spn a b c d e f ≤ 15) {n : Nat} (hn : n ≤ 31) : mxc 2 63 [.ref 17, .int (nI n)] h (fun r1 h' => r1 = none ∧ Rw h h' [17, 18, 19] ∧ WK h' L W (fl n a b c d e f r)) := by
  by_cases h2 : n < 2
  · refine ((k_followL h2).mono (by decide)).post ?_
    rintro _ _ ⟨rfl, rfl⟩
    refine ⟨rfl, Rw.rf _ _, ?_⟩
    unfold fl
    rw [if_pos h2]
    exact hW
  · by_cases h10 : n < 10
    · obtain ⟨i, hi, rfl⟩ : ∃ i, i < 8 ∧ n = 2 + 8 * 0 + i := ⟨n - 2, by omega, by omega⟩
      refine (k_follow0 C hL hB e3 e4 hW hs rfl hi).post ?_
      rintro _ g ⟨rfl, q1, q2⟩
      refine ⟨rfl, q1, ?_⟩
      unfold fl
      rw [if_neg h2, if_pos h10, show 2 + 8 * 0 + i - 2 = i by omega]
      exact q2
    · by_cases h18 : n < 18
      · obtain ⟨i, hi, rfl⟩ : ∃ i, i < 8 ∧ n = 2 + 8 * 1 + i := ⟨n - 10, by omega, by omega⟩
        refine (k_follow1 C hL hB e3 e4 hW hs rfl hi).post ?_
        rintro _ g ⟨rfl, q1, q2⟩
        refine ⟨rfl, q1, ?_⟩
        unfold fl
        rw [if_neg h2, if_neg h10, if_pos h18, show 2 + 8 * 1 + i - 10 = i by omega]
        exact q2
      · by_cases h26 : n < 26
        · obtain ⟨i, hi, rfl⟩ : ∃ i, i < 8 ∧ n = 2 + 8 * 2 + i := ⟨n - 18, by omega, by omega⟩
          refine (k_follow2 C hL hB e3 e4 hW hs rfl hi).post ?_
          rintro _ g ⟨rfl, q1, q2⟩
          refine ⟨rfl, q1, ?_⟩
          unfold fl
          rw [if_neg h2, if_neg h10, if_neg h18, if_pos h26, show 2 + 8 * 2 + i - 18 = i by omega]
          exact q2
        · obtain ⟨i, hi, rfl⟩ : ∃ i, i < 8 ∧ n = 2 + 8 * 3 + i := ⟨n - 26, by omega, by omega⟩
          refine (k_follow3 C rfl hi).post ?_
          rintro _ _ ⟨rfl, rfl⟩
          refine ⟨rfl, Rw.rf _ _, ?_⟩
          unfold fl
          rw [if_neg h2, if_neg h10, if_neg h18, if_neg h26]
          exact hW
