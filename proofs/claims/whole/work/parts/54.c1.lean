/-! SETTINGS AND NUMBERS, as the class reckons them -/
theorem mm_pt0 {z : Nat} (hz : z < 729) : z / 81 % 9 = mm_pt z 0 := by unfold mm_pt; simp; omega
theorem mm_pt1 {z : Nat} (hz : z < 729) : z / 9 % 9 = mm_pt z 1 := by unfold mm_pt; simp
theorem mm_pt2 {z : Nat} (hz : z < 729) : z / 1 % 9 = mm_pt z 2 := by unfold mm_pt; simp
set_option maxRecDepth 20000 in
theorem k_along0 {h : mj_H} (C : SC h) {z : Nat} (hz : z < 729) : mxc 0 108 [.int (nI z), .int (nI 0)] h (fun r h' => r = some (.int (nI (mm_pt z 0))) ∧ h' = h) := by
  show mx 0 108 0 [.int (nI z), .int (nI 0)] [] h _
  refine x_iload_n f_108_0 rfl ?_
  refine x_gets f_108_1 ?_
  refine x_iload_n f_108_4 rfl ?_
  refine x_iald (j := 0) f_108_5 C.k2 (by omega) (by decide) ?_
  refine x_topi (w := nI 81) (C.v2_0) ?_
  refine x_idivN f_108_6 (by omega) (by decide) (by decide) ?_
  refine x_bipush (v := nI 9) f_108_7 (by decide) ?_
  refine x_iremN f_108_9 (by omega) (by decide) (by decide) ?_
  refine x_retI f_108_10 rfl ?_
  exact ⟨by rw [mm_pt0 hz], rfl⟩
set_option maxRecDepth 20000 in
theorem k_along1 {h : mj_H} (C : SC h) {z : Nat} (hz : z < 729) : mxc 0 108 [.int (nI z), .int (nI 1)] h (fun r h' => r = some (.int (nI (mm_pt z 1))) ∧ h' = h) := by
  show mx 0 108 0 [.int (nI z), .int (nI 1)] [] h _
  refine x_iload_n f_108_0 rfl ?_
  refine x_gets f_108_1 ?_
  refine x_iload_n f_108_4 rfl ?_
  refine x_iald (j := 1) f_108_5 C.k2 (by omega) (by decide) ?_
  refine x_topi (w := nI 9) (C.v2_1) ?_
  refine x_idivN f_108_6 (by omega) (by decide) (by decide) ?_
  refine x_bipush (v := nI 9) f_108_7 (by decide) ?_
  refine x_iremN f_108_9 (by omega) (by decide) (by decide) ?_
  refine x_retI f_108_10 rfl ?_
  exact ⟨by rw [mm_pt1 hz], rfl⟩
set_option maxRecDepth 20000 in
theorem k_along2 {h : mj_H} (C : SC h) {z : Nat} (hz : z < 729) : mxc 0 108 [.int (nI z), .int (nI 2)] h (fun r h' => r = some (.int (nI (mm_pt z 2))) ∧ h' = h) := by
  show mx 0 108 0 [.int (nI z), .int (nI 2)] [] h _
  refine x_iload_n f_108_0 rfl ?_
  refine x_gets f_108_1 ?_
  refine x_iload_n f_108_4 rfl ?_
  refine x_iald (j := 2) f_108_5 C.k2 (by omega) (by decide) ?_
  refine x_topi (w := nI 1) (C.v2_2) ?_
  refine x_idivN f_108_6 (by omega) (by decide) (by decide) ?_
  refine x_bipush (v := nI 9) f_108_7 (by decide) ?_
  refine x_iremN f_108_9 (by omega) (by decide) (by decide) ?_
  refine x_retI f_108_10 rfl ?_
  exact ⟨by rw [mm_pt2 hz], rfl⟩
theorem k_along {h : mj_H} (C : SC h) {z a : Nat} (hz : z < 729) (ha : a < 3) : mxc 0 108 [.int (nI z), .int (nI a)] h (fun r h' => r = some (.int (nI (mm_pt z a))) ∧ h' = h) := by
  rcases (by omega : a = 0 ∨ a = 1 ∨ a = 2) with rfl | rfl | rfl
  · exact k_along0 C hz
  · exact k_along1 C hz
  · exact k_along2 C hz
set_option maxRecDepth 20000 in
theorem k_isOnAxis (h : mj_H) (v : Int32) : mxc 0 106 [.int v] h (fun r h' => r = some (.int (if 1 ≤ v ∧ v ≤ 9 then 1 else 0)) ∧ h' = h) := by
  show mx 0 106 0 [.int v] [] h _
  refine x_iload_n f_106_0 rfl ?_
  refine x_iconst (v := nI 1) f_106_1 (by decide) ?_
  refine x_icmp_lt (t := 15) f_106_2 (by decide) (fun c_1 => ?_) (fun c_1 => ?_)
  · refine x_iconst (v := nI 0) f_106_15 (by decide) ?_
    refine x_retZ f_106_16 rfl (by decide) ?_
    exact ⟨mj_if0 (by simp only [Int32.lt_iff_toInt_lt, Int32.le_iff_toInt_le, ← Int32.toInt_inj, show (nI 1).toInt = (1 : Int32).toInt from rfl, show (nI 9).toInt = (9 : Int32).toInt from rfl] at *; omega), rfl⟩
  · refine x_iload_n f_106_5 rfl ?_
    refine x_bipush (v := nI 9) f_106_6 (by decide) ?_
    refine x_icmp_gt (t := 15) f_106_8 (by decide) (fun c_2 => ?_) (fun c_2 => ?_)
    · refine x_iconst (v := nI 0) f_106_15 (by decide) ?_
      refine x_retZ f_106_16 rfl (by decide) ?_
      exact ⟨mj_if0 (by simp only [Int32.lt_iff_toInt_lt, Int32.le_iff_toInt_le, ← Int32.toInt_inj, show (nI 1).toInt = (1 : Int32).toInt from rfl, show (nI 9).toInt = (9 : Int32).toInt from rfl] at *; omega), rfl⟩
    · refine x_iconst (v := nI 1) f_106_11 (by decide) ?_
      refine x_goto (t := 16) f_106_12 (by decide) ?_
      refine x_retZ f_106_16 rfl (by decide) ?_
      exact ⟨mj_if1 (by simp only [Int32.lt_iff_toInt_lt, Int32.le_iff_toInt_le, ← Int32.toInt_inj, show (nI 1).toInt = (1 : Int32).toInt from rfl, show (nI 9).toInt = (9 : Int32).toInt from rfl] at *; omega), rfl⟩
theorem mIn_lt {s : Int32} {n : Nat} (hn : n < 2 ^ 31) : (¬ s < 0 ∧ s < nI n) ↔ mIn s n := by
  have e1 : (nI n).toInt = n := nI_toInt hn
  have e2 : s.toNatClampNeg = s.toInt.toNat := rfl
  have e0 : (0 : Int32).toInt = 0 := rfl
  unfold mIn
  rw [Int32.lt_iff_toInt_lt, Int32.lt_iff_toInt_lt, e0, e1, e2]
  omega
set_option maxRecDepth 20000 in
theorem k_isSetting (h : mj_H) (v : Int32) : mxc 0 107 [.int v] h (fun r h' => r = some (.int (if mIn v 729 then 1 else 0)) ∧ h' = h) := by
  show mx 0 107 0 [.int v] [] h _
  refine x_iload_n f_107_0 rfl ?_
  refine x_if_lt (t := 15) f_107_1 (by decide) (fun c_1 => ?_) (fun c_1 => ?_)
  · refine x_iconst (v := nI 0) f_107_15 (by decide) ?_
    refine x_retZ f_107_16 rfl (by decide) ?_
    exact ⟨mj_if0 (fun q => by have := (mIn_lt (n := 729) (by omega)).mpr q; first | exact absurd c_1 this.1 | exact absurd this.2 (Int32.not_lt.mpr c_1)), rfl⟩
  · refine x_iload_n f_107_4 rfl ?_
    refine x_sipush (v := nI 729) f_107_5 (by decide) ?_
    refine x_icmp_ge (t := 15) f_107_8 (by decide) (fun c_2 => ?_) (fun c_2 => ?_)
    · refine x_iconst (v := nI 0) f_107_15 (by decide) ?_
      refine x_retZ f_107_16 rfl (by decide) ?_
      exact ⟨mj_if0 (fun q => by have := (mIn_lt (n := 729) (by omega)).mpr q; first | exact absurd c_1 this.1 | exact absurd this.2 (Int32.not_lt.mpr c_2)), rfl⟩
    · refine x_iconst (v := nI 1) f_107_11 (by decide) ?_
      refine x_goto (t := 16) f_107_12 (by decide) ?_
      refine x_retZ f_107_16 rfl (by decide) ?_
      exact ⟨mj_if1 ((mIn_lt (by omega)).mp ⟨c_1, Int32.not_le.mp c_2⟩), rfl⟩
set_option maxRecDepth 20000 in
theorem k_isNumber (h : mj_H) (v : Int32) : mxc 0 57 [.int v] h (fun r h' => r = some (.int (if 0 ≤ v ∧ v ≤ 31 then 1 else 0)) ∧ h' = h) := by
  show mx 0 57 0 [.int v] [] h _
  refine x_iload_n f_57_0 rfl ?_
  refine x_if_lt (t := 14) f_57_1 (by decide) (fun c_1 => ?_) (fun c_1 => ?_)
  · refine x_iconst (v := nI 0) f_57_14 (by decide) ?_
    refine x_retZ f_57_15 rfl (by decide) ?_
    exact ⟨mj_if0 (by simp only [Int32.lt_iff_toInt_lt, Int32.le_iff_toInt_le, ← Int32.toInt_inj, show (nI 31).toInt = (31 : Int32).toInt from rfl] at *; omega), rfl⟩
  · refine x_iload_n f_57_4 rfl ?_
    refine x_bipush (v := nI 31) f_57_5 (by decide) ?_
    refine x_icmp_gt (t := 14) f_57_7 (by decide) (fun c_2 => ?_) (fun c_2 => ?_)
    · refine x_iconst (v := nI 0) f_57_14 (by decide) ?_
      refine x_retZ f_57_15 rfl (by decide) ?_
      exact ⟨mj_if0 (by simp only [Int32.lt_iff_toInt_lt, Int32.le_iff_toInt_le, ← Int32.toInt_inj, show (nI 31).toInt = (31 : Int32).toInt from rfl] at *; omega), rfl⟩
    · refine x_iconst (v := nI 1) f_57_10 (by decide) ?_
      refine x_goto (t := 15) f_57_11 (by decide) ?_
      refine x_retZ f_57_15 rfl (by decide) ?_
      exact ⟨mj_if1 (by simp only [Int32.lt_iff_toInt_lt, Int32.le_iff_toInt_le, ← Int32.toInt_inj, show (nI 31).toInt = (31 : Int32).toInt from rfl] at *; omega), rfl⟩
/-- a setting lies in the box between two -/
def inB (f t s : Nat) : Prop := ∀ a, a < 3 → mm_pt f a ≤ mm_pt s a ∧ mm_pt s a ≤ mm_pt t a
theorem inB_iff {f t s : Nat} : inB f t s ↔ (mm_pt f 0 ≤ mm_pt s 0 ∧ mm_pt s 0 ≤ mm_pt t 0) ∧ (mm_pt f 1 ≤ mm_pt s 1 ∧ mm_pt s 1 ≤ mm_pt t 1) ∧ (mm_pt f 2 ≤ mm_pt s 2 ∧ mm_pt s 2 ≤ mm_pt t 2) := by
  constructor
  · intro h
    exact ⟨h 0 (by decide), h 1 (by decide), h 2 (by decide)⟩
  · rintro ⟨h0, h1, h2⟩ a ha
    rcases (by omega : a = 0 ∨ a = 1 ∨ a = 2) with rfl | rfl | rfl
    · exact h0
    · exact h1
    · exact h2
set_option maxRecDepth 20000 in
theorem k_isInside_ {h : mj_H} (C : SC h) {f t s : Nat} (hf : f < 729) (ht : t < 729) (hs : s < 729) {Q : Option Value → mj_H → Prop} (K1 : inB f t s → Q (some (.int (nI 1))) h) (K0 : ¬ inB f t s → Q (some (.int (nI 0))) h) : mxc 1 109 [.int (nI f), .int (nI t), .int (nI s)] h Q := by
  show mx 1 109 0 [.int (nI f), .int (nI t), .int (nI s), mj_unset, mj_unset] [] h _
  refine x_iconst (v := nI 0) f_109_0 (by decide) ?_
  refine x_istore_n (ls1 := [.int (nI f), .int (nI t), .int (nI s), .int (nI 0), mj_unset]) f_109_1 (Nat.le_of_ble_eq_true rfl) rfl ?_
  refine x_iload_n f_109_2 rfl ?_
  refine x_iconst (v := nI 3) f_109_3 (by decide) ?_
  refine x_icmpN_ge (t := 42) f_109_4 (by decide) (by decide) (by decide) (fun c_1 => by omega) (fun c_1 => ?_)
  refine x_iload_n f_109_7 rfl ?_
  refine x_iload_n f_109_8 rfl ?_
  refine x_callSe f_109_9 (k_along C (z := s) (a := 0) (by omega) (by decide)) (by omega) rfl rfl rfl (Nat.le_of_ble_eq_true rfl) rfl ?_
  refine x_istore (ls1 := [.int (nI f), .int (nI t), .int (nI s), .int (nI 0), .int (nI (mm_pt s 0))]) f_109_12 (Nat.le_of_ble_eq_true rfl) rfl ?_
  refine x_iload f_109_14 rfl ?_
  refine x_iload_n f_109_16 rfl ?_
  refine x_iload_n f_109_17 rfl ?_
  refine x_callSe f_109_18 (k_along C (z := f) (a := 0) (by omega) (by decide)) (by omega) rfl rfl rfl (Nat.le_of_ble_eq_true rfl) rfl ?_
  refine x_icmpN_lt (t := 34) f_109_21 (by decide) (Nat.lt_trans (mm_pt_lt _ _ hs) (by decide)) (Nat.lt_trans (mm_pt_lt _ _ hf) (by decide)) (fun c_2 => ?_) (fun c_2 => ?_)
  · refine x_iconst (v := nI 0) f_109_34 (by decide) ?_
    refine x_retZ f_109_35 rfl (by decide) ?_
    exact K0 (by rw [inB_iff]; omega)
  · refine x_iload f_109_24 rfl ?_
    refine x_iload_n f_109_26 rfl ?_
    refine x_iload_n f_109_27 rfl ?_
    refine x_callSe f_109_28 (k_along C (z := t) (a := 0) (by omega) (by decide)) (by omega) rfl rfl rfl (Nat.le_of_ble_eq_true rfl) rfl ?_
    refine x_icmpN_le (t := 36) f_109_31 (by decide) (Nat.lt_trans (mm_pt_lt _ _ hs) (by decide)) (Nat.lt_trans (mm_pt_lt _ _ ht) (by decide)) (fun c_3 => ?_) (fun c_3 => ?_)
    · refine x_iinc (v := nI 1) (ls1 := [.int (nI f), .int (nI t), .int (nI s), .int (nI 1), .int (nI (mm_pt s 0))]) f_109_36 rfl (by decide) rfl ?_
      refine x_goto (t := 2) f_109_39 (by decide) ?_
      refine x_iload_n f_109_2 rfl ?_
      refine x_iconst (v := nI 3) f_109_3 (by decide) ?_
      refine x_icmpN_ge (t := 42) f_109_4 (by decide) (by decide) (by decide) (fun c_4 => by omega) (fun c_4 => ?_)
      refine x_iload_n f_109_7 rfl ?_
      refine x_iload_n f_109_8 rfl ?_
      refine x_callSe f_109_9 (k_along C (z := s) (a := 1) (by omega) (by decide)) (by omega) rfl rfl rfl (Nat.le_of_ble_eq_true rfl) rfl ?_
      refine x_istore (ls1 := [.int (nI f), .int (nI t), .int (nI s), .int (nI 1), .int (nI (mm_pt s 1))]) f_109_12 (Nat.le_of_ble_eq_true rfl) rfl ?_
      refine x_iload f_109_14 rfl ?_
      refine x_iload_n f_109_16 rfl ?_
      refine x_iload_n f_109_17 rfl ?_
      refine x_callSe f_109_18 (k_along C (z := f) (a := 1) (by omega) (by decide)) (by omega) rfl rfl rfl (Nat.le_of_ble_eq_true rfl) rfl ?_
      refine x_icmpN_lt (t := 34) f_109_21 (by decide) (Nat.lt_trans (mm_pt_lt _ _ hs) (by decide)) (Nat.lt_trans (mm_pt_lt _ _ hf) (by decide)) (fun c_5 => ?_) (fun c_5 => ?_)
      · refine x_iconst (v := nI 0) f_109_34 (by decide) ?_
        refine x_retZ f_109_35 rfl (by decide) ?_
        exact K0 (by rw [inB_iff]; omega)
      · refine x_iload f_109_24 rfl ?_
        refine x_iload_n f_109_26 rfl ?_
        refine x_iload_n f_109_27 rfl ?_
        refine x_callSe f_109_28 (k_along C (z := t) (a := 1) (by omega) (by decide)) (by omega) rfl rfl rfl (Nat.le_of_ble_eq_true rfl) rfl ?_
        refine x_icmpN_le (t := 36) f_109_31 (by decide) (Nat.lt_trans (mm_pt_lt _ _ hs) (by decide)) (Nat.lt_trans (mm_pt_lt _ _ ht) (by decide)) (fun c_6 => ?_) (fun c_6 => ?_)
        · refine x_iinc (v := nI 2) (ls1 := [.int (nI f), .int (nI t), .int (nI s), .int (nI 2), .int (nI (mm_pt s 1))]) f_109_36 rfl (by decide) rfl ?_
          refine x_goto (t := 2) f_109_39 (by decide) ?_
          refine x_iload_n f_109_2 rfl ?_
          refine x_iconst (v := nI 3) f_109_3 (by decide) ?_
          refine x_icmpN_ge (t := 42) f_109_4 (by decide) (by decide) (by decide) (fun c_7 => by omega) (fun c_7 => ?_)
          refine x_iload_n f_109_7 rfl ?_
          refine x_iload_n f_109_8 rfl ?_
          refine x_callSe f_109_9 (k_along C (z := s) (a := 2) (by omega) (by decide)) (by omega) rfl rfl rfl (Nat.le_of_ble_eq_true rfl) rfl ?_
          refine x_istore (ls1 := [.int (nI f), .int (nI t), .int (nI s), .int (nI 2), .int (nI (mm_pt s 2))]) f_109_12 (Nat.le_of_ble_eq_true rfl) rfl ?_
          refine x_iload f_109_14 rfl ?_
          refine x_iload_n f_109_16 rfl ?_
          refine x_iload_n f_109_17 rfl ?_
          refine x_callSe f_109_18 (k_along C (z := f) (a := 2) (by omega) (by decide)) (by omega) rfl rfl rfl (Nat.le_of_ble_eq_true rfl) rfl ?_
          refine x_icmpN_lt (t := 34) f_109_21 (by decide) (Nat.lt_trans (mm_pt_lt _ _ hs) (by decide)) (Nat.lt_trans (mm_pt_lt _ _ hf) (by decide)) (fun c_8 => ?_) (fun c_8 => ?_)
          · refine x_iconst (v := nI 0) f_109_34 (by decide) ?_
            refine x_retZ f_109_35 rfl (by decide) ?_
            exact K0 (by rw [inB_iff]; omega)
          · refine x_iload f_109_24 rfl ?_
            refine x_iload_n f_109_26 rfl ?_
            refine x_iload_n f_109_27 rfl ?_
            refine x_callSe f_109_28 (k_along C (z := t) (a := 2) (by omega) (by decide)) (by omega) rfl rfl rfl (Nat.le_of_ble_eq_true rfl) rfl ?_
            refine x_icmpN_le (t := 36) f_109_31 (by decide) (Nat.lt_trans (mm_pt_lt _ _ hs) (by decide)) (Nat.lt_trans (mm_pt_lt _ _ ht) (by decide)) (fun c_9 => ?_) (fun c_9 => ?_)
            · refine x_iinc (v := nI 3) (ls1 := [.int (nI f), .int (nI t), .int (nI s), .int (nI 3), .int (nI (mm_pt s 2))]) f_109_36 rfl (by decide) rfl ?_
              refine x_goto (t := 2) f_109_39 (by decide) ?_
              refine x_iload_n f_109_2 rfl ?_
              refine x_iconst (v := nI 3) f_109_3 (by decide) ?_
              refine x_icmpN_ge (t := 42) f_109_4 (by decide) (by decide) (by decide) (fun c_10 => ?_) (fun c_10 => by omega)
              refine x_iconst (v := nI 1) f_109_42 (by decide) ?_
              refine x_retZ f_109_43 rfl (by decide) ?_
              exact K1 (by rw [inB_iff]; omega)
            · refine x_iconst (v := nI 0) f_109_34 (by decide) ?_
              refine x_retZ f_109_35 rfl (by decide) ?_
              exact K0 (by rw [inB_iff]; omega)
        · refine x_iconst (v := nI 0) f_109_34 (by decide) ?_
          refine x_retZ f_109_35 rfl (by decide) ?_
          exact K0 (by rw [inB_iff]; omega)
    · refine x_iconst (v := nI 0) f_109_34 (by decide) ?_
      refine x_retZ f_109_35 rfl (by decide) ?_
      exact K0 (by rw [inB_iff]; omega)
theorem k_isInside {h : mj_H} (C : SC h) {f t s : Nat} (hf : f < 729) (ht : t < 729) (hs : s < 729) {i : Decidable (inB f t s)} : mxc 1 109 [.int (nI f), .int (nI t), .int (nI s)] h (fun r h' => r = some (.int (@ite Int32 (inB f t s) i 1 0)) ∧ h' = h) :=
  k_isInside_ C hf ht hs (fun q => ⟨mj_if1 q, rfl⟩) (fun q => ⟨mj_if0 q, rfl⟩)
theorem ad_s (x y : Nat) : ad (x + 1) (y + 1) = ad x y := by unfold ad; omega
set_option maxRecDepth 20000 in
theorem k_stepsOn {h : mj_H} (C : SC h) {s o a : Nat} (hs : s < 729) (ho : o < 729) (ha : a < 3) : mxc 1 110 [.int (nI a), .int (nI s), .int (nI o)] h (fun r h' => r = some (.int (nI (ad (mm_pt s a) (mm_pt o a)))) ∧ h' = h) := by
  show mx 1 110 0 [.int (nI a), .int (nI s), .int (nI o)] [] h _
  refine x_iload_n f_110_0 rfl ?_
  refine x_iload_n f_110_1 rfl ?_
  refine x_callSe f_110_2 (k_along C (z := s) (a := a) (by omega) (by omega)) (by omega) rfl rfl rfl (Nat.le_of_ble_eq_true rfl) rfl ?_
  refine x_iload_n f_110_5 rfl ?_
  refine x_iload_n f_110_6 rfl ?_
  refine x_callSe f_110_7 (k_along C (z := o) (a := a) (by omega) (by omega)) (by omega) rfl rfl rfl (Nat.le_of_ble_eq_true rfl) rfl ?_
  refine x_isub f_110_10 ?_
  refine x_abs f_110_11 (Nat.le_of_ble_eq_true rfl) ?_
  refine x_topi (w := nI (ad (mm_pt s a) (mm_pt o a))) (nI_abs (by have := mm_pt_lt s a hs; omega) (by have := mm_pt_lt o a ho; omega)) ?_
  refine x_retI f_110_14 rfl ?_
  exact ⟨rfl, rfl⟩
set_option maxRecDepth 20000 in
theorem k_stepsBetween {h : mj_H} (C : SC h) {s o : Nat} (hs : s < 729) (ho : o < 729) : mxc 2 111 [.int (nI s), .int (nI o)] h (fun r h' => r = some (.int (nI (sts s o))) ∧ h' = h) := by
  show mx 2 111 0 [.int (nI s), .int (nI o)] [] h _
  refine x_iconst (v := nI 0) f_111_0 (by decide) ?_
  refine x_iload_n f_111_1 rfl ?_
  refine x_iload_n f_111_2 rfl ?_
  refine x_callSe f_111_3 (k_stepsOn C (s := s) (o := o) (a := 0) (by omega) (by omega) (by decide)) (by omega) rfl rfl rfl (Nat.le_of_ble_eq_true rfl) rfl ?_
  refine x_iconst (v := nI 1) f_111_6 (by decide) ?_
  refine x_iload_n f_111_7 rfl ?_
  refine x_iload_n f_111_8 rfl ?_
  refine x_callSe f_111_9 (k_stepsOn C (s := s) (o := o) (a := 1) (by omega) (by omega) (by decide)) (by omega) rfl rfl rfl (Nat.le_of_ble_eq_true rfl) rfl ?_
  refine x_iaddN f_111_12 ?_
  refine x_iconst (v := nI 2) f_111_13 (by decide) ?_
  refine x_iload_n f_111_14 rfl ?_
  refine x_iload_n f_111_15 rfl ?_
  refine x_callSe f_111_16 (k_stepsOn C (s := s) (o := o) (a := 2) (by omega) (by omega) (by decide)) (by omega) rfl rfl rfl (Nat.le_of_ble_eq_true rfl) rfl ?_
  refine x_iaddN f_111_19 ?_
  refine x_retI f_111_20 rfl ?_
  exact ⟨by unfold sts; simp only [ad_s], rfl⟩
set_option maxRecDepth 20000 in
theorem k_settingOf {h : mj_H} (C : SC h) (t p l : Nat) : mxc 0 48 [.int (nI t), .int (nI p), .int (nI l)] h (fun r h' => r = some (.int (nI (81 * t + 9 * p + l))) ∧ h' = h) := by
  show mx 0 48 0 [.int (nI t), .int (nI p), .int (nI l)] [] h _
  refine x_iload_n f_48_0 rfl ?_
  refine x_gets f_48_1 ?_
  refine x_iconst (v := nI 0) f_48_4 (by decide) ?_
  refine x_iald (j := 0) f_48_5 C.k2 (by omega) (by decide) ?_
  refine x_topi (w := nI 81) (C.v2_0) ?_
  refine x_imulN f_48_6 ?_
  refine x_iload_n f_48_7 rfl ?_
  refine x_gets f_48_8 ?_
  refine x_iconst (v := nI 1) f_48_11 (by decide) ?_
  refine x_iald (j := 1) f_48_12 C.k2 (by omega) (by decide) ?_
  refine x_topi (w := nI 9) (C.v2_1) ?_
  refine x_imulN f_48_13 ?_
  refine x_iaddN f_48_14 ?_
  refine x_iload_n f_48_15 rfl ?_
  refine x_gets f_48_16 ?_
  refine x_iconst (v := nI 2) f_48_19 (by decide) ?_
  refine x_iald (j := 2) f_48_20 C.k2 (by omega) (by decide) ?_
  refine x_topi (w := nI 1) (C.v2_2) ?_
  refine x_imulN f_48_21 ?_
  refine x_iaddN f_48_22 ?_
  refine x_retI f_48_23 rfl ?_
  exact ⟨by rw [show t * 81 + p * 9 + l * 1 = 81 * t + 9 * p + l by omega], rfl⟩
set_option maxRecDepth 20000 in
theorem k_cellOf (h : mj_H) (t p l : Nat) : mxc 0 47 [.int (nI t), .int (nI p), .int (nI l)] h (fun r h' => r = some (.int (nI ((t * 21 + p) * 21 + l))) ∧ h' = h) := by
  show mx 0 47 0 [.int (nI t), .int (nI p), .int (nI l)] [] h _
  refine x_iload_n f_47_0 rfl ?_
  refine x_bipush (v := nI 21) f_47_1 (by decide) ?_
  refine x_imulN f_47_3 ?_
  refine x_iload_n f_47_4 rfl ?_
  refine x_iaddN f_47_5 ?_
  refine x_bipush (v := nI 21) f_47_6 (by decide) ?_
  refine x_imulN f_47_8 ?_
  refine x_iload_n f_47_9 rfl ?_
  refine x_iaddN f_47_10 ?_
  refine x_retI f_47_11 rfl ?_
  exact ⟨rfl, rfl⟩
set_option maxRecDepth 20000 in
theorem k_axisOf (h : mj_H) {n : Nat} (h2 : 2 ≤ n) (h31 : n ≤ 40) : mxc 0 64 [.int (nI n)] h (fun r h' => r = some (.int (nI ((n - 2) / 8))) ∧ h' = h) := by
  show mx 0 64 0 [.int (nI n)] [] h _
  refine x_iload_n f_64_0 rfl ?_
  refine x_iconst (v := nI 2) f_64_1 (by decide) ?_
  refine x_isubN f_64_2 (by omega) ?_
  refine x_bipush (v := nI 8) f_64_3 (by decide) ?_
  refine x_idivN f_64_5 (by omega) (by decide) (by decide) ?_
  refine x_retI f_64_6 rfl ?_
  exact ⟨rfl, rfl⟩
set_option maxRecDepth 20000 in
theorem k_lowerOf (h : mj_H) {n : Nat} (h2 : 2 ≤ n) (h31 : n ≤ 40) : mxc 0 65 [.int (nI n)] h (fun r h' => r = some (.int (nI ((n - 2) % 8 + 1))) ∧ h' = h) := by
  show mx 0 65 0 [.int (nI n)] [] h _
  refine x_iload_n f_65_0 rfl ?_
  refine x_iconst (v := nI 2) f_65_1 (by decide) ?_
  refine x_isubN f_65_2 (by omega) ?_
  refine x_bipush (v := nI 8) f_65_3 (by decide) ?_
  refine x_iremN f_65_5 (by omega) (by decide) (by decide) ?_
  refine x_iconst (v := nI 1) f_65_6 (by decide) ?_
  refine x_iaddN f_65_7 ?_
  refine x_retI f_65_8 rfl ?_
  exact ⟨rfl, rfl⟩
