/-! TOLD ROWS, JOINTS, TRIALS, ENTRIES -/
set_option maxRecDepth 20000 in
theorem k_tell {h : mj_H} (C : SC h) {tm : Nat} (h_tm : tm ≤ 500) (e_tm : mj_I h 20 1 = nI tm) (v : Int32) : mxc 2 82 [.ref 8, .int v] h (fun r h' => if (0 ≤ v ∧ v ≤ 31) ∧ ¬ tm = 500 then r = some (.int (nI (tm + 1))) ∧ h' = mj_setI (mj_setI h 21 tm v) 20 1 (nI (tm + 1)) else r = some (.int (-1)) ∧ h' = h) := by
  show mx 2 82 0 [.ref 8, .int v] [] h _
  by_cases hc : (0 ≤ v ∧ v ≤ 31) ∧ ¬ tm = 500
  · skip
    refine x_aload_n f_82_0 rfl ?_
    refine x_getR f_82_1 C.k8 (by decide) C.r8_5 ?_
    refine x_iload_n f_82_4 rfl ?_
    refine x_callV f_82_5 (k_append C h_tm e_tm v) (by omega) C.k20 (by decide) rfl rfl (Nat.le_of_ble_eq_true rfl) rfl ?_
    rintro _ _ hq
    rw [if_pos hc] at hq
    obtain ⟨rfl, rfl⟩ := hq
    refine x_ifN_eq (t := 21) f_82_8 (by decide) (by decide) (fun c_1 => by omega) (fun c_1 => ?_)
    refine x_aload_n f_82_11 rfl ?_
    refine x_getR f_82_12 C.k8 (by decide) C.r8_5 ?_
    refine x_getI f_82_15 C.k20 (by decide) ?_
    refine x_topi (w := nI (tm + 1)) (mj_I_at _ _ _ _) ?_
    refine x_goto (t := 22) f_82_18 (by decide) ?_
    refine x_retI f_82_22 rfl ?_
    exact mj_qT hc ⟨rfl, rfl⟩
  · skip
    refine x_aload_n f_82_0 rfl ?_
    refine x_getR f_82_1 C.k8 (by decide) C.r8_5 ?_
    refine x_iload_n f_82_4 rfl ?_
    refine x_callV f_82_5 (k_append C h_tm e_tm v) (by omega) C.k20 (by decide) rfl rfl (Nat.le_of_ble_eq_true rfl) rfl ?_
    rintro _ _ hq
    rw [if_neg hc] at hq
    obtain ⟨rfl, rfl⟩ := hq
    refine x_ifN_eq (t := 21) f_82_8 (by decide) (by decide) (fun c_1 => ?_) (fun c_1 => by omega)
    refine x_iconst (v := -1) f_82_21 (by decide) ?_
    refine x_retI f_82_22 rfl ?_
    exact mj_qF hc ⟨rfl, rfl⟩
set_option maxRecDepth 20000 in
theorem k_alter {h : mj_H} (C : SC h) {tm : Nat} (h_tm : tm ≤ 500) (e_tm : mj_I h 20 1 = nI tm) (k v : Int32) : mxc 2 84 [.ref 8, .int k, .int v] h (fun r h' => if mIn k tm ∧ (0 ≤ v ∧ v ≤ 31) then r = some (.int (nI 1)) ∧ h' = mj_setI h 21 k.toNatClampNeg v else r = some (.int (nI 0)) ∧ h' = h) := by
  show mx 2 84 0 [.ref 8, .int k, .int v] [] h _
  by_cases hc : mIn k tm ∧ (0 ≤ v ∧ v ≤ 31)
  · skip
    refine x_aload_n f_84_0 rfl ?_
    refine x_getR f_84_1 C.k8 (by decide) C.r8_5 ?_
    refine x_iload_n f_84_4 rfl ?_
    refine x_iload_n f_84_5 rfl ?_
    refine x_callV f_84_6 (k_replace C h_tm e_tm k v) (by omega) C.k20 (by decide) rfl rfl (Nat.le_of_ble_eq_true rfl) rfl ?_
    rintro _ _ hq
    rw [if_pos hc] at hq
    obtain ⟨rfl, rfl⟩ := hq
    refine x_retZ f_84_9 rfl (by decide) ?_
    exact mj_qT hc ⟨rfl, rfl⟩
  · skip
    refine x_aload_n f_84_0 rfl ?_
    refine x_getR f_84_1 C.k8 (by decide) C.r8_5 ?_
    refine x_iload_n f_84_4 rfl ?_
    refine x_iload_n f_84_5 rfl ?_
    refine x_callV f_84_6 (k_replace C h_tm e_tm k v) (by omega) C.k20 (by decide) rfl rfl (Nat.le_of_ble_eq_true rfl) rfl ?_
    rintro _ _ hq
    rw [if_neg hc] at hq
    obtain ⟨rfl, rfl⟩ := hq
    refine x_retZ f_84_9 rfl (by decide) ?_
    exact mj_qF hc ⟨rfl, rfl⟩
set_option maxRecDepth 20000 in
theorem k_end {h : mj_H} (C : SC h) (n : Int32) : mxc 1 85 [.ref 8, .int n] h (fun r h' => if ¬ n < 0 ∧ n ≤ mj_I h 20 1 then r = some (.int (nI 1)) ∧ h' = mj_setI h 20 1 n else r = some (.int (nI 0)) ∧ h' = h) := by
  show mx 1 85 0 [.ref 8, .int n] [] h _
  by_cases hc : ¬ n < 0 ∧ n ≤ mj_I h 20 1
  · skip
    refine x_aload_n f_85_0 rfl ?_
    refine x_getR f_85_1 C.k8 (by decide) C.r8_5 ?_
    refine x_iload_n f_85_4 rfl ?_
    refine x_callV f_85_5 (k_shorten C n) (by omega) C.k20 (by decide) rfl rfl (Nat.le_of_ble_eq_true rfl) rfl ?_
    rintro _ _ hq
    rw [if_pos hc] at hq
    obtain ⟨rfl, rfl⟩ := hq
    refine x_retZ f_85_8 rfl (by decide) ?_
    exact mj_qT hc ⟨rfl, rfl⟩
  · skip
    refine x_aload_n f_85_0 rfl ?_
    refine x_getR f_85_1 C.k8 (by decide) C.r8_5 ?_
    refine x_iload_n f_85_4 rfl ?_
    refine x_callV f_85_5 (k_shorten C n) (by omega) C.k20 (by decide) rfl rfl (Nat.le_of_ble_eq_true rfl) rfl ?_
    rintro _ _ hq
    rw [if_neg hc] at hq
    obtain ⟨rfl, rfl⟩ := hq
    refine x_retZ f_85_8 rfl (by decide) ?_
    exact mj_qF hc ⟨rfl, rfl⟩
set_option maxRecDepth 20000 in
theorem k_enterV {h : mj_H} (C : SC h) {em : Nat} (h_em : em < 8) (e_em : mj_I h 28 5 = nI em) (j z : Nat) : mxc 0 20 [.ref 28, .int (nI j), .int (nI z)] h (fun r h' => r = some (.int (nI em)) ∧ h' = mj_setI (mj_setI (mj_setI (mj_setI h 29 em (nI j)) 30 em (nI z)) 28 5 (nI (em + 1))) 28 7 (nI 0)) := by
  show mx 0 20 0 [.ref 28, .int (nI j), .int (nI z)] [] h _
  refine x_aload_n f_20_0 rfl ?_
  refine x_getI f_20_1 C.k28 (by decide) ?_
  refine x_topi (w := nI em) e_em ?_
  refine x_bipush (v := nI 8) f_20_4 (by decide) ?_
  refine x_icmpN_ne (t := 11) f_20_6 (by decide) (by omega) (by decide) (fun c_1 => ?_) (fun c_1 => by omega)
  refine x_aload_n f_20_11 rfl ?_
  refine x_getR f_20_12 C.k28 (by decide) C.r28_0 ?_
  refine x_aload_n f_20_15 rfl ?_
  refine x_getI f_20_16 C.k28 (by decide) ?_
  refine x_topi (w := nI em) e_em ?_
  refine x_iload_n f_20_19 rfl ?_
  refine x_iast (j := em) f_20_20 C.k29 (by decide) (by omega) (by decide) ?_
  refine x_aload_n f_20_21 rfl ?_
  refine x_getR f_20_22 C.k28 (by decide) C.r28_1 ?_
  refine x_aload_n f_20_25 rfl ?_
  refine x_getI f_20_26 C.k28 (by decide) ?_
  refine x_topi (w := nI em) ((congrFun (mj_I_other (by decide)) _).trans (e_em)) ?_
  refine x_iload_n f_20_29 rfl ?_
  refine x_iast (j := em) f_20_30 C.k30 (by decide) (by omega) (by decide) ?_
  refine x_aload_n f_20_31 rfl ?_
  refine x_dup f_20_32 rfl ?_
  refine x_getI f_20_33 C.k28 (by decide) ?_
  refine x_topi (w := nI em) ((congrFun (mj_I_other (by decide)) _).trans ((congrFun (mj_I_other (by decide)) _).trans (e_em))) ?_
  refine x_iconst (v := nI 1) f_20_36 (by decide) ?_
  refine x_iaddN f_20_37 ?_
  refine x_putI f_20_38 C.k28 (by decide) ?_
  refine x_aload_n f_20_41 rfl ?_
  refine x_iconst (v := nI 0) f_20_42 (by decide) ?_
  refine x_putZ f_20_43 C.k28 (by decide) (by decide) ?_
  refine x_aload_n f_20_46 rfl ?_
  refine x_getI f_20_47 C.k28 (by decide) ?_
  refine x_topi (w := nI (em + 1)) ((mj_I_ne (by decide)).trans (mj_I_at _ _ _ _)) ?_
  refine x_iconst (v := nI 1) f_20_50 (by decide) ?_
  refine x_isubN f_20_51 (by omega) ?_
  refine x_retI f_20_52 rfl ?_
  exact ⟨by rw [Nat.add_sub_cancel], rfl⟩
set_option maxRecDepth 20000 in
theorem k_enterF {h : mj_H} (C : SC h) (e_em : mj_I h 28 5 = nI 8) (j z : Nat) : mxc 0 20 [.ref 28, .int (nI j), .int (nI z)] h (fun r h' => r = some (.int (-1)) ∧ h' = h) := by
  show mx 0 20 0 [.ref 28, .int (nI j), .int (nI z)] [] h _
  refine x_aload_n f_20_0 rfl ?_
  refine x_getI f_20_1 C.k28 (by decide) ?_
  refine x_topi (w := nI 8) e_em ?_
  refine x_bipush (v := nI 8) f_20_4 (by decide) ?_
  refine x_icmpN_ne (t := 11) f_20_6 (by decide) (by decide) (by decide) (fun c_1 => by omega) (fun c_1 => ?_)
  refine x_iconst (v := -1) f_20_9 (by decide) ?_
  refine x_retI f_20_10 rfl ?_
  exact ⟨rfl, rfl⟩
set_option maxRecDepth 20000 in
theorem k_empty {h : mj_H} (C : SC h) : mxc 0 21 [.ref 28] h (fun r h' => r = none ∧ h' = mj_setI (mj_setI h 28 5 (nI 0)) 28 7 (nI 0)) := by
  show mx 0 21 0 [.ref 28] [] h _
  refine x_aload_n f_21_0 rfl ?_
  refine x_iconst (v := nI 0) f_21_1 (by decide) ?_
  refine x_putI f_21_2 C.k28 (by decide) ?_
  refine x_aload_n f_21_5 rfl ?_
  refine x_iconst (v := nI 0) f_21_6 (by decide) ?_
  refine x_putZ f_21_7 C.k28 (by decide) (by decide) ?_
  refine x_retV f_21_10 rfl ?_
  exact ⟨rfl, rfl⟩
set_option maxRecDepth 20000 in
theorem k_clear {h : mj_H} (C : SC h) : mxc 1 96 [.ref 8] h (fun r h' => r = none ∧ h' = mj_setI (mj_setI h 28 5 (nI 0)) 28 7 (nI 0)) := by
  show mx 1 96 0 [.ref 8] [] h _
  refine x_aload_n f_96_0 rfl ?_
  refine x_getR f_96_1 C.k8 (by decide) C.r8_7 ?_
  refine x_callV f_96_4 (k_empty C) (by omega) C.k28 (by decide) rfl rfl (Nat.le_of_ble_eq_true rfl) rfl ?_
  rintro _ _ ⟨rfl, rfl⟩
  refine x_retV f_96_7 rfl ?_
  exact ⟨rfl, rfl⟩
set_option maxRecDepth 20000 in
theorem k_workV {h : mj_H} {jm : Nat} (c : CJ h jm) (h_jm : jm ≤ 20) (e_jm : mj_I h 8 11 = nI jm) {j z em : Nat} (hj : j < jm) (hz : z < 729) (h_em : em < 8) (e_em : mj_I h 28 5 = nI em) : mxc 2 95 [.ref 8, .int (nI j), .int (nI z)] h (fun r h' => r = some (.int (nI em)) ∧ h' = mj_setI (mj_setI (mj_setI (mj_setI h 29 em (nI j)) 30 em (nI z)) 28 5 (nI (em + 1))) 28 7 (nI 0)) := by
  have hc := (c.2.2.1 j hj).1
  show mx 2 95 0 [.ref 8, .int (nI j), .int (nI z)] [] h _
  refine x_aload_n f_95_0 rfl ?_
  refine x_iload_n f_95_1 rfl ?_
  refine x_callVe f_95_2 (k_jobAt c.1 h_jm e_jm hj hc.1.1) (by omega) c.1.k8 (by decide) rfl rfl (Nat.le_of_ble_eq_true rfl) rfl ?_
  refine x_ifnull f_95_5 ?_
  refine x_iload_n f_95_8 rfl ?_
  refine x_callSe f_95_9 (k_isSetting _ _) (by omega) rfl rfl rfl (Nat.le_of_ble_eq_true rfl) rfl ?_
  refine x_ifB_ne (t := 17) f_95_12 (by decide) (fun c_1 => ?_) (fun c_1 => absurd (mIn_nI hz (by decide)) c_1)
  refine x_aload_n f_95_17 rfl ?_
  refine x_getR f_95_18 c.1.k8 (by decide) c.1.r8_7 ?_
  refine x_iload_n f_95_21 rfl ?_
  refine x_iload_n f_95_22 rfl ?_
  refine x_callV f_95_23 (k_enterV c.1 (by omega) e_em j z) (by omega) c.1.k28 (by decide) rfl rfl (Nat.le_of_ble_eq_true rfl) rfl ?_
  rintro _ _ ⟨rfl, rfl⟩
  refine x_retI f_95_26 rfl ?_
  exact ⟨rfl, rfl⟩
set_option maxRecDepth 20000 in
theorem k_workF {h : mj_H} {jm : Nat} (c : CJ h jm) (h_jm : jm ≤ 20) (e_jm : mj_I h 8 11 = nI jm) {j z : Nat} (hj : j < jm) (hz : z < 729) (e_em : mj_I h 28 5 = nI 8) : mxc 2 95 [.ref 8, .int (nI j), .int (nI z)] h (fun r h' => r = some (.int (-1)) ∧ h' = h) := by
  have hc := (c.2.2.1 j hj).1
  show mx 2 95 0 [.ref 8, .int (nI j), .int (nI z)] [] h _
  refine x_aload_n f_95_0 rfl ?_
  refine x_iload_n f_95_1 rfl ?_
  refine x_callVe f_95_2 (k_jobAt c.1 h_jm e_jm hj hc.1.1) (by omega) c.1.k8 (by decide) rfl rfl (Nat.le_of_ble_eq_true rfl) rfl ?_
  refine x_ifnull f_95_5 ?_
  refine x_iload_n f_95_8 rfl ?_
  refine x_callSe f_95_9 (k_isSetting _ _) (by omega) rfl rfl rfl (Nat.le_of_ble_eq_true rfl) rfl ?_
  refine x_ifB_ne (t := 17) f_95_12 (by decide) (fun c_1 => ?_) (fun c_1 => absurd (mIn_nI hz (by decide)) c_1)
  refine x_aload_n f_95_17 rfl ?_
  refine x_getR f_95_18 c.1.k8 (by decide) c.1.r8_7 ?_
  refine x_iload_n f_95_21 rfl ?_
  refine x_iload_n f_95_22 rfl ?_
  refine x_callVe f_95_23 (k_enterF c.1 e_em j z) (by omega) c.1.k28 (by decide) rfl rfl (Nat.le_of_ble_eq_true rfl) rfl ?_
  refine x_retI f_95_26 rfl ?_
  exact ⟨rfl, rfl⟩
set_option maxRecDepth 20000 in
theorem k_workS {h : mj_H} {jm : Nat} (c : CJ h jm) (h_jm : jm ≤ 20) (e_jm : mj_I h 8 11 = nI jm) {j : Nat} (hj : j < jm) (v : Int32) (hz : ¬ mIn v 729) : mxc 1 95 [.ref 8, .int (nI j), .int v] h (fun r h' => r = some (.int (-1)) ∧ h' = h) := by
  have hc := (c.2.2.1 j hj).1
  show mx 1 95 0 [.ref 8, .int (nI j), .int v] [] h _
  refine x_aload_n f_95_0 rfl ?_
  refine x_iload_n f_95_1 rfl ?_
  refine x_callVe f_95_2 (k_jobAt c.1 h_jm e_jm hj hc.1.1) (by omega) c.1.k8 (by decide) rfl rfl (Nat.le_of_ble_eq_true rfl) rfl ?_
  refine x_ifnull f_95_5 ?_
  refine x_iload_n f_95_8 rfl ?_
  refine x_callSe f_95_9 (k_isSetting _ _) (by omega) rfl rfl rfl (Nat.le_of_ble_eq_true rfl) rfl ?_
  refine x_ifB_ne (t := 17) f_95_12 (by decide) (fun c_1 => absurd c_1 hz) (fun c_1 => ?_)
  refine x_iconst (v := -1) f_95_15 (by decide) ?_
  refine x_retI f_95_16 rfl ?_
  exact ⟨rfl, rfl⟩
set_option maxRecDepth 20000 in
theorem k_work0 {h : mj_H} {jm : Nat} (c : CJ h jm) (h_jm : jm ≤ 20) (e_jm : mj_I h 8 11 = nI jm) (u v : Int32) (hin : ¬ mIn u jm) : mxc 1 95 [.ref 8, .int u, .int v] h (fun r h' => r = some (.int (-1)) ∧ h' = h) := by
  show mx 1 95 0 [.ref 8, .int u, .int v] [] h _
  refine x_aload_n f_95_0 rfl ?_
  refine x_iload_n f_95_1 rfl ?_
  refine x_callVe f_95_2 (k_jobAt0 c.1 _ h_jm e_jm hin) (by omega) c.1.k8 (by decide) rfl rfl (Nat.le_of_ble_eq_true rfl) rfl ?_
  refine x_ifnullN (t := 15) f_95_5 (by decide) ?_
  refine x_iconst (v := -1) f_95_15 (by decide) ?_
  refine x_retI f_95_16 rfl ?_
  exact ⟨rfl, rfl⟩
theorem k_workI {h : mj_H} {jm : Nat} (c : CJ h jm) (h_jm : jm ≤ 20) (e_jm : mj_I h 8 11 = nI jm) (u v : Int32) (hn : ¬ (mIn u jm ∧ mIn v 729)) : mxc 1 95 [.ref 8, .int u, .int v] h (fun r h' => r = some (.int (-1)) ∧ h' = h) := by
  by_cases hu : mIn u jm
  · obtain ⟨j, hj, rfl⟩ := mIn_of hu (by omega)
    exact k_workS c h_jm e_jm hj v (fun z => hn ⟨hu, z⟩)
  · exact k_work0 c h_jm e_jm u v hu
set_option maxRecDepth 20000 in
theorem k_jointS {h : mj_H} {jm : Nat} (c : CJ h jm) (h_jm : jm ≤ 20) (e_jm : mj_I h 8 11 = nI jm) {j : Nat} (hj : j < jm) (v : Int32) (hz : ¬ mIn v 729) : mxc 1 90 [.ref 8, .int (nI j), .int v] h (fun r h' => r = some (.int (-1)) ∧ h' = h) := by
  have hc := (c.2.2.1 j hj).1
  show mx 1 90 0 [.ref 8, .int (nI j), .int v, mj_unset] [] h _
  refine x_aload_n f_90_0 rfl ?_
  refine x_iload_n f_90_1 rfl ?_
  refine x_callVe f_90_2 (k_jobAt c.1 h_jm e_jm hj hc.1.1) (by omega) c.1.k8 (by decide) rfl rfl (Nat.le_of_ble_eq_true rfl) rfl ?_
  refine x_astore_n (ls1 := [.ref 8, .int (nI j), .int v, .ref (jA h j)]) f_90_5 (Nat.le_of_ble_eq_true rfl) rfl ?_
  refine x_aload_n f_90_6 rfl ?_
  refine x_ifnull f_90_7 ?_
  refine x_iload_n f_90_10 rfl ?_
  refine x_callSe f_90_11 (k_isSetting _ _) (by omega) rfl rfl rfl (Nat.le_of_ble_eq_true rfl) rfl ?_
  refine x_ifB_ne (t := 19) f_90_14 (by decide) (fun c_1 => absurd c_1 hz) (fun c_1 => ?_)
  refine x_iconst (v := -1) f_90_17 (by decide) ?_
  refine x_retI f_90_18 rfl ?_
  exact ⟨rfl, rfl⟩
set_option maxRecDepth 20000 in
theorem k_joint0 {h : mj_H} {jm : Nat} (c : CJ h jm) (h_jm : jm ≤ 20) (e_jm : mj_I h 8 11 = nI jm) (u v : Int32) (hin : ¬ mIn u jm) : mxc 1 90 [.ref 8, .int u, .int v] h (fun r h' => r = some (.int (-1)) ∧ h' = h) := by
  show mx 1 90 0 [.ref 8, .int u, .int v, mj_unset] [] h _
  refine x_aload_n f_90_0 rfl ?_
  refine x_iload_n f_90_1 rfl ?_
  refine x_callVe f_90_2 (k_jobAt0 c.1 _ h_jm e_jm hin) (by omega) c.1.k8 (by decide) rfl rfl (Nat.le_of_ble_eq_true rfl) rfl ?_
  refine x_astore_nN (ls1 := [.ref 8, .int u, .int v, .null]) f_90_5 (Nat.le_of_ble_eq_true rfl) rfl ?_
  refine x_aload_nN f_90_6 rfl ?_
  refine x_ifnullN (t := 17) f_90_7 (by decide) ?_
  refine x_iconst (v := -1) f_90_17 (by decide) ?_
  refine x_retI f_90_18 rfl ?_
  exact ⟨rfl, rfl⟩
theorem k_jointI {h : mj_H} {jm : Nat} (c : CJ h jm) (h_jm : jm ≤ 20) (e_jm : mj_I h 8 11 = nI jm) (u v : Int32) (hn : ¬ (mIn u jm ∧ mIn v 729)) : mxc 1 90 [.ref 8, .int u, .int v] h (fun r h' => r = some (.int (-1)) ∧ h' = h) := by
  by_cases hu : mIn u jm
  · obtain ⟨j, hj, rfl⟩ := mIn_of hu (by omega)
    exact k_jointS c h_jm e_jm hj v (fun z => hn ⟨hu, z⟩)
  · exact k_joint0 c h_jm e_jm u v hu
set_option maxRecDepth 20000 in
theorem k_jinit {h : mj_H} {B A : Nat} (hB : mj_K h B = (4, 3)) (z : Nat) (dy : Int32) : mxc 0 36 [.ref B, .ref A, .int (nI z), .int dy] h (fun r h' => r = none ∧ h' = mj_setI (mj_setI (mj_setR h B 0 (some A)) B 1 (nI z)) B 2 dy) := by
  show mx 0 36 0 [.ref B, .ref A, .int (nI z), .int dy] [] h _
  refine x_aload_n f_36_0 rfl ?_
  refine x_init f_36_1 (Nat.le_of_ble_eq_true rfl) ?_
  refine x_aload_n f_36_4 rfl ?_
  refine x_aload_n f_36_5 rfl ?_
  refine x_putR f_36_6 hB (by decide) ?_
  refine x_aload_n f_36_9 rfl ?_
  refine x_iload_n f_36_10 rfl ?_
  refine x_putI f_36_11 hB (by decide) ?_
  refine x_aload_n f_36_14 rfl ?_
  refine x_iload_n f_36_15 rfl ?_
  refine x_putI f_36_16 hB (by decide) ?_
  refine x_retV f_36_19 rfl ?_
  exact ⟨rfl, rfl⟩
set_option maxRecDepth 20000 in
theorem k_enterX {h : mj_H} (C : SC h) (h63h : 63 ≤ h.1) {xm : Nat} (h_xm : xm < 60) (e_xm : mj_I h 22 5 = nI xm) (A z : Nat) (dy : Int32) : mxc 1 12 [.ref 22, .ref A, .int (nI z), .int dy] h (fun r h' => r = some (.int (nI xm)) ∧ h' = mj_setI (mj_setR (mj_setI (mj_setI (mj_setR (mj_new h 4 3) h.1 0 (some A)) h.1 1 (nI z)) h.1 2 dy) 23 xm (some h.1)) 22 5 (nI (xm + 1))) := by
  have k22 : mj_K (mj_new h 4 3) 22 = (1, 7) := (mj_K_new (by omega)).trans C.k22
  have k23 : mj_K (mj_new h 4 3) 23 = (16, 60) := (mj_K_new (by omega)).trans C.k23
  have i22 : mj_I (mj_setI (mj_setI (mj_setR (mj_new h 4 3) h.1 0 (some A)) h.1 1 (nI z)) h.1 2 dy) 22 5 = nI xm := by rw [mj_I_other (by omega), mj_I_other (by omega), mj_I_setR, mj_I_new (by omega)]; exact e_xm
  show mx 1 12 0 [.ref 22, .ref A, .int (nI z), .int dy] [] h _
  refine x_aload_n f_12_0 rfl ?_
  refine x_getI f_12_1 C.k22 (by decide) ?_
  refine x_topi (w := nI xm) e_xm ?_
  refine x_bipush (v := nI 60) f_12_4 (by decide) ?_
  refine x_icmpN_ne (t := 11) f_12_6 (by decide) (by omega) (by decide) (fun c_1 => ?_) (fun c_1 => by omega)
  refine x_aload_n f_12_11 rfl ?_
  refine x_getR f_12_12 C.k22 (by decide) C.r22_0 ?_
  refine x_aload_n f_12_15 rfl ?_
  refine x_getI f_12_16 C.k22 (by decide) ?_
  refine x_topi (w := nI xm) e_xm ?_
  refine x_new f_12_19 (by decide) rfl ?_
  refine x_dup f_12_22 rfl ?_
  refine x_aload_n f_12_23 rfl ?_
  refine x_iload_n f_12_24 rfl ?_
  refine x_iload_n f_12_25 rfl ?_
  refine x_callI f_12_26 (k_jinit (mj_K_newA h 4 3) z dy) (by omega) rfl rfl rfl (Nat.le_of_ble_eq_true rfl) rfl ?_
  rintro _ _ ⟨rfl, rfl⟩
  refine x_rast (j := xm) f_12_29 k23 (by decide) (mj_K_newA h 4 3) (by omega) (by decide) ?_
  refine x_aload_n f_12_30 rfl ?_
  refine x_dup f_12_31 rfl ?_
  refine x_getI f_12_32 k22 (by decide) ?_
  refine x_topi (w := nI xm) i22 ?_
  refine x_iconst (v := nI 1) f_12_35 (by decide) ?_
  refine x_iaddN f_12_36 ?_
  refine x_putI f_12_37 k22 (by decide) ?_
  refine x_aload_n f_12_40 rfl ?_
  refine x_getI f_12_41 k22 (by decide) ?_
  refine x_topi (w := nI (xm + 1)) (mj_I_at _ _ _ _) ?_
  refine x_iconst (v := nI 1) f_12_44 (by decide) ?_
  refine x_isubN f_12_45 (by omega) ?_
  refine x_retI f_12_46 rfl ?_
  exact ⟨by rw [Nat.add_sub_cancel], rfl⟩
