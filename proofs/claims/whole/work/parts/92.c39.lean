/-! WINDOWS refused; BARS; STUFFS -/
set_option maxRecDepth 20000 in
theorem k_window0 {h : mj_H} {jm : Nat} (c : CJ h jm) (h_jm : jm ≤ 20) (e_jm : mj_I h 8 11 = nI jm) {wm : Nat} (h_wm : wm ≤ 10) (e_wm : mj_I h 8 12 = nI wm) (u f t : Int32) (hin : ¬ mIn u jm) : mxc 1 78 [.ref 8, .int u, .int f, .int t] h (fun r h' => r = some (.int (-1)) ∧ h' = h) := by
  show mx 1 78 0 [.ref 8, .int u, .int f, .int t, mj_unset, mj_unset, mj_unset] [] h _
  refine x_aload_n f_78_0 rfl ?_
  refine x_iload_n f_78_1 rfl ?_
  refine x_callVe f_78_2 (k_jobAt0 c.1 _ h_jm e_jm hin) (by omega) c.1.k8 (by decide) rfl rfl (Nat.le_of_ble_eq_true rfl) rfl ?_
  refine x_astoreN (ls1 := [.ref 8, .int u, .int f, .int t, .null, mj_unset, mj_unset]) f_78_5 (Nat.le_of_ble_eq_true rfl) rfl ?_
  refine x_aloadN f_78_7 rfl ?_
  refine x_ifnullN (t := 35) f_78_9 (by decide) ?_
  refine x_iconst (v := -1) f_78_35 (by decide) ?_
  refine x_retI f_78_36 rfl ?_
  exact ⟨rfl, rfl⟩
set_option maxRecDepth 20000 in
theorem k_window1 {h : mj_H} {jm : Nat} (c : CJ h jm) (h_jm : jm ≤ 20) (e_jm : mj_I h 8 11 = nI jm) {wm : Nat} (h_wm : wm ≤ 10) (e_wm : mj_I h 8 12 = nI wm) {j : Nat} (hj : j < jm) (f t : Int32) (hf : ¬ mIn f 729) : mxc 1 78 [.ref 8, .int (nI j), .int f, .int t] h (fun r h' => r = some (.int (-1)) ∧ h' = h) := by
  have hc := (c.2.2.1 j hj).1
  show mx 1 78 0 [.ref 8, .int (nI j), .int f, .int t, mj_unset, mj_unset, mj_unset] [] h _
  refine x_aload_n f_78_0 rfl ?_
  refine x_iload_n f_78_1 rfl ?_
  refine x_callVe f_78_2 (k_jobAt c.1 h_jm e_jm hj hc.1.1) (by omega) c.1.k8 (by decide) rfl rfl (Nat.le_of_ble_eq_true rfl) rfl ?_
  refine x_astore (ls1 := [.ref 8, .int (nI j), .int f, .int t, .ref (jA h j), mj_unset, mj_unset]) f_78_5 (Nat.le_of_ble_eq_true rfl) rfl ?_
  refine x_aload f_78_7 rfl ?_
  refine x_ifnull f_78_9 ?_
  refine x_iload_n f_78_12 rfl ?_
  refine x_callSe f_78_13 (k_isSetting _ _) (by omega) rfl rfl rfl (Nat.le_of_ble_eq_true rfl) rfl ?_
  refine x_ifB_eq (t := 35) f_78_16 (by decide) (fun c_1 => ?_) (fun c_1 => absurd c_1 hf)
  refine x_iconst (v := -1) f_78_35 (by decide) ?_
  refine x_retI f_78_36 rfl ?_
  exact ⟨rfl, rfl⟩
set_option maxRecDepth 20000 in
theorem k_window2 {h : mj_H} {jm : Nat} (c : CJ h jm) (h_jm : jm ≤ 20) (e_jm : mj_I h 8 11 = nI jm) {wm : Nat} (h_wm : wm ≤ 10) (e_wm : mj_I h 8 12 = nI wm) {j f : Nat} (hj : j < jm) (hf : f < 729) (t : Int32) (ht : ¬ mIn t 729) : mxc 1 78 [.ref 8, .int (nI j), .int (nI f), .int t] h (fun r h' => r = some (.int (-1)) ∧ h' = h) := by
  have hc := (c.2.2.1 j hj).1
  show mx 1 78 0 [.ref 8, .int (nI j), .int (nI f), .int t, mj_unset, mj_unset, mj_unset] [] h _
  refine x_aload_n f_78_0 rfl ?_
  refine x_iload_n f_78_1 rfl ?_
  refine x_callVe f_78_2 (k_jobAt c.1 h_jm e_jm hj hc.1.1) (by omega) c.1.k8 (by decide) rfl rfl (Nat.le_of_ble_eq_true rfl) rfl ?_
  refine x_astore (ls1 := [.ref 8, .int (nI j), .int (nI f), .int t, .ref (jA h j), mj_unset, mj_unset]) f_78_5 (Nat.le_of_ble_eq_true rfl) rfl ?_
  refine x_aload f_78_7 rfl ?_
  refine x_ifnull f_78_9 ?_
  refine x_iload_n f_78_12 rfl ?_
  refine x_callSe f_78_13 (k_isSetting _ _) (by omega) rfl rfl rfl (Nat.le_of_ble_eq_true rfl) rfl ?_
  refine x_ifB_eq (t := 35) f_78_16 (by decide) (fun c_1 => absurd (mIn_nI hf (by decide)) c_1) (fun c_1 => ?_)
  refine x_iload_n f_78_19 rfl ?_
  refine x_callSe f_78_20 (k_isSetting _ _) (by omega) rfl rfl rfl (Nat.le_of_ble_eq_true rfl) rfl ?_
  refine x_ifB_eq (t := 35) f_78_23 (by decide) (fun c_2 => ?_) (fun c_2 => absurd c_2 ht)
  refine x_iconst (v := -1) f_78_35 (by decide) ?_
  refine x_retI f_78_36 rfl ?_
  exact ⟨rfl, rfl⟩
set_option maxRecDepth 20000 in
theorem k_window3 {h : mj_H} {jm : Nat} (c : CJ h jm) (h_jm : jm ≤ 20) (e_jm : mj_I h 8 11 = nI jm) {wm : Nat} (h_wm : wm ≤ 10) (e_wm : mj_I h 8 12 = nI wm) {j f t : Nat} (hj : j < jm) (hf : f < 729) (ht : t < 729) (hw : wm = 10) : mxc 1 78 [.ref 8, .int (nI j), .int (nI f), .int (nI t)] h (fun r h' => r = some (.int (-1)) ∧ h' = h) := by
  have hc := (c.2.2.1 j hj).1
  show mx 1 78 0 [.ref 8, .int (nI j), .int (nI f), .int (nI t), mj_unset, mj_unset, mj_unset] [] h _
  refine x_aload_n f_78_0 rfl ?_
  refine x_iload_n f_78_1 rfl ?_
  refine x_callVe f_78_2 (k_jobAt c.1 h_jm e_jm hj hc.1.1) (by omega) c.1.k8 (by decide) rfl rfl (Nat.le_of_ble_eq_true rfl) rfl ?_
  refine x_astore (ls1 := [.ref 8, .int (nI j), .int (nI f), .int (nI t), .ref (jA h j), mj_unset, mj_unset]) f_78_5 (Nat.le_of_ble_eq_true rfl) rfl ?_
  refine x_aload f_78_7 rfl ?_
  refine x_ifnull f_78_9 ?_
  refine x_iload_n f_78_12 rfl ?_
  refine x_callSe f_78_13 (k_isSetting _ _) (by omega) rfl rfl rfl (Nat.le_of_ble_eq_true rfl) rfl ?_
  refine x_ifB_eq (t := 35) f_78_16 (by decide) (fun c_1 => absurd (mIn_nI hf (by decide)) c_1) (fun c_1 => ?_)
  refine x_iload_n f_78_19 rfl ?_
  refine x_callSe f_78_20 (k_isSetting _ _) (by omega) rfl rfl rfl (Nat.le_of_ble_eq_true rfl) rfl ?_
  refine x_ifB_eq (t := 35) f_78_23 (by decide) (fun c_2 => absurd (mIn_nI ht (by decide)) c_2) (fun c_2 => ?_)
  refine x_aload_n f_78_26 rfl ?_
  refine x_getI f_78_27 c.1.k8 (by decide) ?_
  refine x_topi (w := nI wm) e_wm ?_
  refine x_bipush (v := nI 10) f_78_30 (by decide) ?_
  refine x_icmpN_ne (t := 37) f_78_32 (by decide) (by omega) (by decide) (fun c_1 => by omega) (fun c_1 => ?_)
  refine x_iconst (v := -1) f_78_35 (by decide) ?_
  refine x_retI f_78_36 rfl ?_
  exact ⟨rfl, rfl⟩
set_option maxRecDepth 20000 in
theorem k_window4 {h : mj_H} {jm : Nat} (c : CJ h jm) (h_jm : jm ≤ 20) (e_jm : mj_I h 8 11 = nI jm) {wm : Nat} (h_wm : wm ≤ 10) (e_wm : mj_I h 8 12 = nI wm) {j f t : Nat} (hj : j < jm) (hf : f < 729) (ht : t < 729) (hw : ¬ wm = 10) (hsp : ¬ ∀ a, a < 3 → mm_pt f a ≤ mm_pt t a ∧ mm_pt t a ≤ mm_pt f a + 5) : mxc 1 78 [.ref 8, .int (nI j), .int (nI f), .int (nI t)] h (fun r h' => r = some (.int (-1)) ∧ h' = h) := by
  have hc := (c.2.2.1 j hj).1
  show mx 1 78 0 [.ref 8, .int (nI j), .int (nI f), .int (nI t), mj_unset, mj_unset, mj_unset] [] h _
  refine x_aload_n f_78_0 rfl ?_
  refine x_iload_n f_78_1 rfl ?_
  refine x_callVe f_78_2 (k_jobAt c.1 h_jm e_jm hj hc.1.1) (by omega) c.1.k8 (by decide) rfl rfl (Nat.le_of_ble_eq_true rfl) rfl ?_
  refine x_astore (ls1 := [.ref 8, .int (nI j), .int (nI f), .int (nI t), .ref (jA h j), mj_unset, mj_unset]) f_78_5 (Nat.le_of_ble_eq_true rfl) rfl ?_
  refine x_aload f_78_7 rfl ?_
  refine x_ifnull f_78_9 ?_
  refine x_iload_n f_78_12 rfl ?_
  refine x_callSe f_78_13 (k_isSetting _ _) (by omega) rfl rfl rfl (Nat.le_of_ble_eq_true rfl) rfl ?_
  refine x_ifB_eq (t := 35) f_78_16 (by decide) (fun c_1 => absurd (mIn_nI hf (by decide)) c_1) (fun c_1 => ?_)
  refine x_iload_n f_78_19 rfl ?_
  refine x_callSe f_78_20 (k_isSetting _ _) (by omega) rfl rfl rfl (Nat.le_of_ble_eq_true rfl) rfl ?_
  refine x_ifB_eq (t := 35) f_78_23 (by decide) (fun c_2 => absurd (mIn_nI ht (by decide)) c_2) (fun c_2 => ?_)
  refine x_aload_n f_78_26 rfl ?_
  refine x_getI f_78_27 c.1.k8 (by decide) ?_
  refine x_topi (w := nI wm) e_wm ?_
  refine x_bipush (v := nI 10) f_78_30 (by decide) ?_
  refine x_icmpN_ne (t := 37) f_78_32 (by decide) (by omega) (by decide) (fun c_1 => ?_) (fun c_1 => by omega)
  refine x_iconst (v := nI 0) f_78_37 (by decide) ?_
  refine x_istore (ls1 := [.ref 8, .int (nI j), .int (nI f), .int (nI t), .ref (jA h j), .int (nI 0), mj_unset]) f_78_38 (Nat.le_of_ble_eq_true rfl) rfl ?_
  refine x_iload f_78_40 rfl ?_
  refine x_iconst (v := nI 3) f_78_42 (by decide) ?_
  refine x_icmpN_ge (t := 81) f_78_43 (by decide) (by decide) (by decide) (fun c_2 => by omega) (fun c_2 => ?_)
  refine x_iload_n f_78_46 rfl ?_
  refine x_iload f_78_47 rfl ?_
  refine x_callSe f_78_49 (k_along c.1 (z := t) (a := 0) (by omega) (by decide)) (by omega) rfl rfl rfl (Nat.le_of_ble_eq_true rfl) rfl ?_
  refine x_iload_n f_78_52 rfl ?_
  refine x_iload f_78_53 rfl ?_
  refine x_callSe f_78_55 (k_along c.1 (z := f) (a := 0) (by omega) (by decide)) (by omega) rfl rfl rfl (Nat.le_of_ble_eq_true rfl) rfl ?_
  refine x_isub f_78_58 ?_
  refine x_istore (ls1 := [.ref 8, .int (nI j), .int (nI f), .int (nI t), .ref (jA h j), .int (nI 0), .int ((nI (mm_pt t 0)) - (nI (mm_pt f 0)))]) f_78_59 (Nat.le_of_ble_eq_true rfl) rfl ?_
  refine x_iload f_78_61 rfl ?_
  refine x_if_lt (t := 73) f_78_63 (by decide) (fun c_3 => ?_) (fun c_3 => ?_)
  · refine x_iconst (v := -1) f_78_73 (by decide) ?_
    refine x_retI f_78_74 rfl ?_
    exact ⟨rfl, rfl⟩
  · refine x_iload f_78_66 rfl ?_
    refine x_bipush (v := nI 6) f_78_68 (by decide) ?_
    refine x_icmp_lt (t := 75) f_78_70 (by decide) (fun c_4 => ?_) (fun c_4 => ?_)
    · refine x_iinc (v := nI 1) (ls1 := [.ref 8, .int (nI j), .int (nI f), .int (nI t), .ref (jA h j), .int (nI 1), .int ((nI (mm_pt t 0)) - (nI (mm_pt f 0)))]) f_78_75 rfl (by decide) rfl ?_
      refine x_goto (t := 40) f_78_78 (by decide) ?_
      refine x_iload f_78_40 rfl ?_
      refine x_iconst (v := nI 3) f_78_42 (by decide) ?_
      refine x_icmpN_ge (t := 81) f_78_43 (by decide) (by decide) (by decide) (fun c_5 => by omega) (fun c_5 => ?_)
      refine x_iload_n f_78_46 rfl ?_
      refine x_iload f_78_47 rfl ?_
      refine x_callSe f_78_49 (k_along c.1 (z := t) (a := 1) (by omega) (by decide)) (by omega) rfl rfl rfl (Nat.le_of_ble_eq_true rfl) rfl ?_
      refine x_iload_n f_78_52 rfl ?_
      refine x_iload f_78_53 rfl ?_
      refine x_callSe f_78_55 (k_along c.1 (z := f) (a := 1) (by omega) (by decide)) (by omega) rfl rfl rfl (Nat.le_of_ble_eq_true rfl) rfl ?_
      refine x_isub f_78_58 ?_
      refine x_istore (ls1 := [.ref 8, .int (nI j), .int (nI f), .int (nI t), .ref (jA h j), .int (nI 1), .int ((nI (mm_pt t 1)) - (nI (mm_pt f 1)))]) f_78_59 (Nat.le_of_ble_eq_true rfl) rfl ?_
      refine x_iload f_78_61 rfl ?_
      refine x_if_lt (t := 73) f_78_63 (by decide) (fun c_6 => ?_) (fun c_6 => ?_)
      · refine x_iconst (v := -1) f_78_73 (by decide) ?_
        refine x_retI f_78_74 rfl ?_
        exact ⟨rfl, rfl⟩
      · refine x_iload f_78_66 rfl ?_
        refine x_bipush (v := nI 6) f_78_68 (by decide) ?_
        refine x_icmp_lt (t := 75) f_78_70 (by decide) (fun c_7 => ?_) (fun c_7 => ?_)
        · refine x_iinc (v := nI 2) (ls1 := [.ref 8, .int (nI j), .int (nI f), .int (nI t), .ref (jA h j), .int (nI 2), .int ((nI (mm_pt t 1)) - (nI (mm_pt f 1)))]) f_78_75 rfl (by decide) rfl ?_
          refine x_goto (t := 40) f_78_78 (by decide) ?_
          refine x_iload f_78_40 rfl ?_
          refine x_iconst (v := nI 3) f_78_42 (by decide) ?_
          refine x_icmpN_ge (t := 81) f_78_43 (by decide) (by decide) (by decide) (fun c_8 => by omega) (fun c_8 => ?_)
          refine x_iload_n f_78_46 rfl ?_
          refine x_iload f_78_47 rfl ?_
          refine x_callSe f_78_49 (k_along c.1 (z := t) (a := 2) (by omega) (by decide)) (by omega) rfl rfl rfl (Nat.le_of_ble_eq_true rfl) rfl ?_
          refine x_iload_n f_78_52 rfl ?_
          refine x_iload f_78_53 rfl ?_
          refine x_callSe f_78_55 (k_along c.1 (z := f) (a := 2) (by omega) (by decide)) (by omega) rfl rfl rfl (Nat.le_of_ble_eq_true rfl) rfl ?_
          refine x_isub f_78_58 ?_
          refine x_istore (ls1 := [.ref 8, .int (nI j), .int (nI f), .int (nI t), .ref (jA h j), .int (nI 2), .int ((nI (mm_pt t 2)) - (nI (mm_pt f 2)))]) f_78_59 (Nat.le_of_ble_eq_true rfl) rfl ?_
          refine x_iload f_78_61 rfl ?_
          refine x_if_lt (t := 73) f_78_63 (by decide) (fun c_9 => ?_) (fun c_9 => ?_)
          · refine x_iconst (v := -1) f_78_73 (by decide) ?_
            refine x_retI f_78_74 rfl ?_
            exact ⟨rfl, rfl⟩
          · refine x_iload f_78_66 rfl ?_
            refine x_bipush (v := nI 6) f_78_68 (by decide) ?_
            refine x_icmp_lt (t := 75) f_78_70 (by decide) (fun c_10 => ?_) (fun c_10 => ?_)
            · refine x_iinc (v := nI 3) (ls1 := [.ref 8, .int (nI j), .int (nI f), .int (nI t), .ref (jA h j), .int (nI 3), .int ((nI (mm_pt t 2)) - (nI (mm_pt f 2)))]) f_78_75 rfl (by decide) rfl ?_
              refine x_goto (t := 40) f_78_78 (by decide) ?_
              refine x_iload f_78_40 rfl ?_
              refine x_iconst (v := nI 3) f_78_42 (by decide) ?_
              refine x_icmpN_ge (t := 81) f_78_43 (by decide) (by decide) (by decide) (fun c_11 => ?_) (fun c_11 => by omega)
              refine absurd (fun a ha => ?_) hsp
              have e0 := spn_1 (mm_pt_lt t 0 ht) (mm_pt_lt f 0 hf)
              have e1 := spn_1 (mm_pt_lt t 1 ht) (mm_pt_lt f 1 hf)
              have e2 := spn_1 (mm_pt_lt t 2 ht) (mm_pt_lt f 2 hf)
              rw [e0.1] at c_3
              rw [e1.1] at c_6
              rw [e2.1] at c_9
              rw [e0.2] at c_4
              rw [e1.2] at c_7
              rw [e2.2] at c_10
              rcases (by omega : a = 0 ∨ a = 1 ∨ a = 2) with rfl | rfl | rfl <;> omega
            · refine x_iconst (v := -1) f_78_73 (by decide) ?_
              refine x_retI f_78_74 rfl ?_
              exact ⟨rfl, rfl⟩
        · refine x_iconst (v := -1) f_78_73 (by decide) ?_
          refine x_retI f_78_74 rfl ?_
          exact ⟨rfl, rfl⟩
    · refine x_iconst (v := -1) f_78_73 (by decide) ?_
      refine x_retI f_78_74 rfl ?_
      exact ⟨rfl, rfl⟩
def sM (h : mj_H) (s : Nat) : Nat := (mj_R h (sA h s) 0).getD 0
/-- bounds of a stuff's marks -/
def sBd (f : Nat → Int32) : Prop := (1 ≤ f 0 ∧ f 0 ≤ 100) ∧ (1 ≤ f 1 ∧ f 1 ≤ 100) ∧ (0 ≤ f 2 ∧ f 2 ≤ 300) ∧ (50 ≤ f 3 ∧ f 3 ≤ 900) ∧ (1 ≤ f 4 ∧ f 4 ≤ 100) ∧ (50 ≤ f 5 ∧ f 5 ≤ 999) ∧ (0 ≤ f 6 ∧ f 6 ≤ 500) ∧ (1 ≤ f 7 ∧ f 7 ≤ 500)
/-- a stuff as the class keeps it -/
def SS (h : mj_H) (s sm : Nat) : Prop := (mj_R h 9 s = some (sA h s) ∧ mj_K h (sA h s) = (6, 2) ∧ 63 ≤ sA h s ∧ sA h s < h.1) ∧ (mj_R h (sA h s) 0 = some (sM h s) ∧ mj_K h (sM h s) = (12, 8) ∧ 63 ≤ sM h s ∧ sM h s < h.1) ∧ (∀ i, i < 8 → mj_I h (sM h s) i = mj_I h 34 (8 * s + i)) ∧ (∀ o, o < 6 → (ibit (mj_I h (sA h s) 1) o = true ↔ ¬ mj_I h 35 (6 * s + o) = 0)) ∧ sBd (fun i => mj_I h 34 (8 * s + i))
set_option maxRecDepth 20000 in
theorem k_barV {h : mj_H} (C : SC h) {sm : Nat} (h_sm : sm ≤ 6) (e_sm : mj_I h 8 10 = nI sm) {a b : Nat} (ha : a < sm) (hb : b < sm) (hA : SS h a sm) (hB : SS h b sm) (hbit : ¬ ibit (mj_I h (sA h a) 1) b = true) : mxc 1 70 [.ref 8, .int (nI a), .int (nI b)] h (fun r h' => r = some (.int (nI 1)) ∧ h' = mj_setI (mj_setI h (sA h a) 1 (mj_I h (sA h a) 1 ||| (1 <<< (nI b &&& 31)))) (sA h b) 1 (mj_I (mj_setI h (sA h a) 1 (mj_I h (sA h a) 1 ||| (1 <<< (nI b &&& 31)))) (sA h b) 1 ||| (1 <<< (nI a &&& 31)))) := by
  show mx 1 70 0 [.ref 8, .int (nI a), .int (nI b), mj_unset, mj_unset] [] h _
  refine x_aload_n f_70_0 rfl ?_
  refine x_iload_n f_70_1 rfl ?_
  refine x_callVe f_70_2 (k_stuffAt C h_sm e_sm ha hA.1.1) (by omega) C.k8 (by decide) rfl rfl (Nat.le_of_ble_eq_true rfl) rfl ?_
  refine x_astore_n (ls1 := [.ref 8, .int (nI a), .int (nI b), .ref (sA h a), mj_unset]) f_70_5 (Nat.le_of_ble_eq_true rfl) rfl ?_
  refine x_aload_n f_70_6 rfl ?_
  refine x_iload_n f_70_7 rfl ?_
  refine x_callVe f_70_8 (k_stuffAt C h_sm e_sm hb hB.1.1) (by omega) C.k8 (by decide) rfl rfl (Nat.le_of_ble_eq_true rfl) rfl ?_
  refine x_astore (ls1 := [.ref 8, .int (nI a), .int (nI b), .ref (sA h a), .ref (sA h b)]) f_70_11 (Nat.le_of_ble_eq_true rfl) rfl ?_
  refine x_aload_n f_70_13 rfl ?_
  refine x_ifnull f_70_14 ?_
  refine x_aload f_70_17 rfl ?_
  refine x_ifnull f_70_19 ?_
  refine x_aload_n f_70_22 rfl ?_
  refine x_iload_n f_70_23 rfl ?_
  refine x_callVe f_70_24 (k_isBarred hA.1.2.1 (z := b) (by omega)) (by omega) hA.1.2.1 (by decide) rfl rfl (Nat.le_of_ble_eq_true rfl) rfl ?_
  refine x_ifB_eq (t := 32) f_70_27 (by decide) (fun c_1 => ?_) (fun c_1 => absurd c_1 hbit)
  refine x_aload_n f_70_32 rfl ?_
  refine x_iload_n f_70_33 rfl ?_
  refine x_callV f_70_34 (k_barFrom (h := h) hA.1.2.1 b) (by omega) hA.1.2.1 (by decide) rfl rfl (Nat.le_of_ble_eq_true rfl) rfl ?_
  rintro _ _ ⟨rfl, rfl⟩
  refine x_aload f_70_37 rfl ?_
  refine x_iload_n f_70_39 rfl ?_
  refine x_callV f_70_40 (k_barFrom (h := mj_setI h (sA h a) 1 (mj_I h (sA h a) 1 ||| (1 <<< (nI b &&& 31)))) hB.1.2.1 a) (by omega) hB.1.2.1 (by decide) rfl rfl (Nat.le_of_ble_eq_true rfl) rfl ?_
  rintro _ _ ⟨rfl, rfl⟩
  refine x_iconst (v := nI 1) f_70_43 (by decide) ?_
  refine x_retZ f_70_44 rfl (by decide) ?_
  exact ⟨rfl, rfl⟩
set_option maxRecDepth 20000 in
theorem k_barB {h : mj_H} (C : SC h) {sm : Nat} (h_sm : sm ≤ 6) (e_sm : mj_I h 8 10 = nI sm) {a b : Nat} (ha : a < sm) (hb : b < sm) (hA : SS h a sm) (hB : SS h b sm) (hbit : ibit (mj_I h (sA h a) 1) b = true) : mxc 1 70 [.ref 8, .int (nI a), .int (nI b)] h (fun r h' => r = some (.int (nI 0)) ∧ h' = h) := by
  show mx 1 70 0 [.ref 8, .int (nI a), .int (nI b), mj_unset, mj_unset] [] h _
  refine x_aload_n f_70_0 rfl ?_
  refine x_iload_n f_70_1 rfl ?_
  refine x_callVe f_70_2 (k_stuffAt C h_sm e_sm ha hA.1.1) (by omega) C.k8 (by decide) rfl rfl (Nat.le_of_ble_eq_true rfl) rfl ?_
  refine x_astore_n (ls1 := [.ref 8, .int (nI a), .int (nI b), .ref (sA h a), mj_unset]) f_70_5 (Nat.le_of_ble_eq_true rfl) rfl ?_
  refine x_aload_n f_70_6 rfl ?_
  refine x_iload_n f_70_7 rfl ?_
  refine x_callVe f_70_8 (k_stuffAt C h_sm e_sm hb hB.1.1) (by omega) C.k8 (by decide) rfl rfl (Nat.le_of_ble_eq_true rfl) rfl ?_
  refine x_astore (ls1 := [.ref 8, .int (nI a), .int (nI b), .ref (sA h a), .ref (sA h b)]) f_70_11 (Nat.le_of_ble_eq_true rfl) rfl ?_
  refine x_aload_n f_70_13 rfl ?_
  refine x_ifnull f_70_14 ?_
  refine x_aload f_70_17 rfl ?_
  refine x_ifnull f_70_19 ?_
  refine x_aload_n f_70_22 rfl ?_
  refine x_iload_n f_70_23 rfl ?_
  refine x_callVe f_70_24 (k_isBarred hA.1.2.1 (z := b) (by omega)) (by omega) hA.1.2.1 (by decide) rfl rfl (Nat.le_of_ble_eq_true rfl) rfl ?_
  refine x_ifB_eq (t := 32) f_70_27 (by decide) (fun c_1 => absurd hbit c_1) (fun c_1 => ?_)
  refine x_iconst (v := nI 0) f_70_30 (by decide) ?_
  refine x_retZ f_70_31 rfl (by decide) ?_
  exact ⟨rfl, rfl⟩
set_option maxRecDepth 20000 in
theorem k_bar0 {h : mj_H} (C : SC h) {sm : Nat} (h_sm : sm ≤ 6) (e_sm : mj_I h 8 10 = nI sm) (u v : Int32) (hu : ¬ mIn u sm) (hv : ¬ mIn v sm) : mxc 1 70 [.ref 8, .int u, .int v] h (fun r h' => r = some (.int (nI 0)) ∧ h' = h) := by
  show mx 1 70 0 [.ref 8, .int u, .int v, mj_unset, mj_unset] [] h _
  refine x_aload_n f_70_0 rfl ?_
  refine x_iload_n f_70_1 rfl ?_
  refine x_callVe f_70_2 (k_stuffAt0 C _ h_sm e_sm hu) (by omega) C.k8 (by decide) rfl rfl (Nat.le_of_ble_eq_true rfl) rfl ?_
  refine x_astore_nN (ls1 := [.ref 8, .int u, .int v, .null, mj_unset]) f_70_5 (Nat.le_of_ble_eq_true rfl) rfl ?_
  refine x_aload_n f_70_6 rfl ?_
  refine x_iload_n f_70_7 rfl ?_
  refine x_callVe f_70_8 (k_stuffAt0 C _ h_sm e_sm hv) (by omega) C.k8 (by decide) rfl rfl (Nat.le_of_ble_eq_true rfl) rfl ?_
  refine x_astoreN (ls1 := [.ref 8, .int u, .int v, .null, .null]) f_70_11 (Nat.le_of_ble_eq_true rfl) rfl ?_
  refine x_aload_nN f_70_13 rfl ?_
  refine x_ifnullN (t := 30) f_70_14 (by decide) ?_
  refine x_iconst (v := nI 0) f_70_30 (by decide) ?_
  refine x_retZ f_70_31 rfl (by decide) ?_
  exact ⟨rfl, rfl⟩
set_option maxRecDepth 20000 in
theorem k_bar1 {h : mj_H} (C : SC h) {sm : Nat} (h_sm : sm ≤ 6) (e_sm : mj_I h 8 10 = nI sm) {a : Nat} (ha : a < sm) (hA : SS h a sm) (v : Int32) (hv : ¬ mIn v sm) : mxc 1 70 [.ref 8, .int (nI a), .int v] h (fun r h' => r = some (.int (nI 0)) ∧ h' = h) := by
  show mx 1 70 0 [.ref 8, .int (nI a), .int v, mj_unset, mj_unset] [] h _
  refine x_aload_n f_70_0 rfl ?_
  refine x_iload_n f_70_1 rfl ?_
  refine x_callVe f_70_2 (k_stuffAt C h_sm e_sm ha hA.1.1) (by omega) C.k8 (by decide) rfl rfl (Nat.le_of_ble_eq_true rfl) rfl ?_
  refine x_astore_n (ls1 := [.ref 8, .int (nI a), .int v, .ref (sA h a), mj_unset]) f_70_5 (Nat.le_of_ble_eq_true rfl) rfl ?_
  refine x_aload_n f_70_6 rfl ?_
  refine x_iload_n f_70_7 rfl ?_
  refine x_callVe f_70_8 (k_stuffAt0 C _ h_sm e_sm hv) (by omega) C.k8 (by decide) rfl rfl (Nat.le_of_ble_eq_true rfl) rfl ?_
  refine x_astoreN (ls1 := [.ref 8, .int (nI a), .int v, .ref (sA h a), .null]) f_70_11 (Nat.le_of_ble_eq_true rfl) rfl ?_
  refine x_aload_n f_70_13 rfl ?_
  refine x_ifnull f_70_14 ?_
  refine x_aloadN f_70_17 rfl ?_
  refine x_ifnullN (t := 30) f_70_19 (by decide) ?_
  refine x_iconst (v := nI 0) f_70_30 (by decide) ?_
  refine x_retZ f_70_31 rfl (by decide) ?_
  exact ⟨rfl, rfl⟩
set_option maxRecDepth 20000 in
theorem k_bar2 {h : mj_H} (C : SC h) {sm : Nat} (h_sm : sm ≤ 6) (e_sm : mj_I h 8 10 = nI sm) {b : Nat} (u : Int32) (hb : b < sm) (hB : SS h b sm) (hu : ¬ mIn u sm) : mxc 1 70 [.ref 8, .int u, .int (nI b)] h (fun r h' => r = some (.int (nI 0)) ∧ h' = h) := by
  show mx 1 70 0 [.ref 8, .int u, .int (nI b), mj_unset, mj_unset] [] h _
  refine x_aload_n f_70_0 rfl ?_
  refine x_iload_n f_70_1 rfl ?_
  refine x_callVe f_70_2 (k_stuffAt0 C _ h_sm e_sm hu) (by omega) C.k8 (by decide) rfl rfl (Nat.le_of_ble_eq_true rfl) rfl ?_
  refine x_astore_nN (ls1 := [.ref 8, .int u, .int (nI b), .null, mj_unset]) f_70_5 (Nat.le_of_ble_eq_true rfl) rfl ?_
  refine x_aload_n f_70_6 rfl ?_
  refine x_iload_n f_70_7 rfl ?_
  refine x_callVe f_70_8 (k_stuffAt C h_sm e_sm hb hB.1.1) (by omega) C.k8 (by decide) rfl rfl (Nat.le_of_ble_eq_true rfl) rfl ?_
  refine x_astore (ls1 := [.ref 8, .int u, .int (nI b), .null, .ref (sA h b)]) f_70_11 (Nat.le_of_ble_eq_true rfl) rfl ?_
  refine x_aload_nN f_70_13 rfl ?_
  refine x_ifnullN (t := 30) f_70_14 (by decide) ?_
  refine x_iconst (v := nI 0) f_70_30 (by decide) ?_
  refine x_retZ f_70_31 rfl (by decide) ?_
  exact ⟨rfl, rfl⟩
set_option maxRecDepth 20000 in
theorem k_job0 {h : mj_H} (C : SC h) {sm : Nat} (h_sm : sm ≤ 6) (e_sm : mj_I h 8 10 = nI sm) (u v : Int32) (rings : Int32) (hu : ¬ mIn u sm) (hv : ¬ mIn v sm) : mxc 1 71 [.ref 8, .int u, .int v, .int rings] h (fun r h' => r = some (.int (-1)) ∧ h' = h) := by
  show mx 1 71 0 [.ref 8, .int u, .int v, .int rings, mj_unset, mj_unset, mj_unset] [] h _
  refine x_aload_n f_71_0 rfl ?_
  refine x_iload_n f_71_1 rfl ?_
  refine x_callVe f_71_2 (k_stuffAt0 C _ h_sm e_sm hu) (by omega) C.k8 (by decide) rfl rfl (Nat.le_of_ble_eq_true rfl) rfl ?_
  refine x_astoreN (ls1 := [.ref 8, .int u, .int v, .int rings, .null, mj_unset, mj_unset]) f_71_5 (Nat.le_of_ble_eq_true rfl) rfl ?_
  refine x_aload_n f_71_7 rfl ?_
  refine x_iload_n f_71_8 rfl ?_
  refine x_callVe f_71_9 (k_stuffAt0 C _ h_sm e_sm hv) (by omega) C.k8 (by decide) rfl rfl (Nat.le_of_ble_eq_true rfl) rfl ?_
  refine x_astoreN (ls1 := [.ref 8, .int u, .int v, .int rings, .null, .null, mj_unset]) f_71_12 (Nat.le_of_ble_eq_true rfl) rfl ?_
  refine x_aloadN f_71_14 rfl ?_
  refine x_ifnullN (t := 33) f_71_16 (by decide) ?_
  refine x_iconst (v := -1) f_71_33 (by decide) ?_
  refine x_retI f_71_34 rfl ?_
  exact ⟨rfl, rfl⟩
set_option maxRecDepth 20000 in
theorem k_job1 {h : mj_H} (C : SC h) {sm : Nat} (h_sm : sm ≤ 6) (e_sm : mj_I h 8 10 = nI sm) {a : Nat} (ha : a < sm) (hA : SS h a sm) (v : Int32) (rings : Int32) (hv : ¬ mIn v sm) : mxc 1 71 [.ref 8, .int (nI a), .int v, .int rings] h (fun r h' => r = some (.int (-1)) ∧ h' = h) := by
  show mx 1 71 0 [.ref 8, .int (nI a), .int v, .int rings, mj_unset, mj_unset, mj_unset] [] h _
  refine x_aload_n f_71_0 rfl ?_
  refine x_iload_n f_71_1 rfl ?_
  refine x_callVe f_71_2 (k_stuffAt C h_sm e_sm ha hA.1.1) (by omega) C.k8 (by decide) rfl rfl (Nat.le_of_ble_eq_true rfl) rfl ?_
  refine x_astore (ls1 := [.ref 8, .int (nI a), .int v, .int rings, .ref (sA h a), mj_unset, mj_unset]) f_71_5 (Nat.le_of_ble_eq_true rfl) rfl ?_
  refine x_aload_n f_71_7 rfl ?_
  refine x_iload_n f_71_8 rfl ?_
  refine x_callVe f_71_9 (k_stuffAt0 C _ h_sm e_sm hv) (by omega) C.k8 (by decide) rfl rfl (Nat.le_of_ble_eq_true rfl) rfl ?_
  refine x_astoreN (ls1 := [.ref 8, .int (nI a), .int v, .int rings, .ref (sA h a), .null, mj_unset]) f_71_12 (Nat.le_of_ble_eq_true rfl) rfl ?_
  refine x_aload f_71_14 rfl ?_
  refine x_ifnull f_71_16 ?_
  refine x_aloadN f_71_19 rfl ?_
  refine x_ifnullN (t := 33) f_71_21 (by decide) ?_
  refine x_iconst (v := -1) f_71_33 (by decide) ?_
  refine x_retI f_71_34 rfl ?_
  exact ⟨rfl, rfl⟩
set_option maxRecDepth 20000 in
theorem k_job2 {h : mj_H} (C : SC h) {sm : Nat} (h_sm : sm ≤ 6) (e_sm : mj_I h 8 10 = nI sm) {b : Nat} (u : Int32) (hb : b < sm) (hB : SS h b sm) (rings : Int32) (hu : ¬ mIn u sm) : mxc 1 71 [.ref 8, .int u, .int (nI b), .int rings] h (fun r h' => r = some (.int (-1)) ∧ h' = h) := by
  show mx 1 71 0 [.ref 8, .int u, .int (nI b), .int rings, mj_unset, mj_unset, mj_unset] [] h _
  refine x_aload_n f_71_0 rfl ?_
  refine x_iload_n f_71_1 rfl ?_
  refine x_callVe f_71_2 (k_stuffAt0 C _ h_sm e_sm hu) (by omega) C.k8 (by decide) rfl rfl (Nat.le_of_ble_eq_true rfl) rfl ?_
  refine x_astoreN (ls1 := [.ref 8, .int u, .int (nI b), .int rings, .null, mj_unset, mj_unset]) f_71_5 (Nat.le_of_ble_eq_true rfl) rfl ?_
  refine x_aload_n f_71_7 rfl ?_
  refine x_iload_n f_71_8 rfl ?_
  refine x_callVe f_71_9 (k_stuffAt C h_sm e_sm hb hB.1.1) (by omega) C.k8 (by decide) rfl rfl (Nat.le_of_ble_eq_true rfl) rfl ?_
  refine x_astore (ls1 := [.ref 8, .int u, .int (nI b), .int rings, .null, .ref (sA h b), mj_unset]) f_71_12 (Nat.le_of_ble_eq_true rfl) rfl ?_
  refine x_aloadN f_71_14 rfl ?_
  refine x_ifnullN (t := 33) f_71_16 (by decide) ?_
  refine x_iconst (v := -1) f_71_33 (by decide) ?_
  refine x_retI f_71_34 rfl ?_
  exact ⟨rfl, rfl⟩
set_option maxRecDepth 20000 in
theorem k_stuffF {h : mj_H} (C : SC h) (e_sm : mj_I h 8 10 = nI 6) (a1 a2 a3 a4 a5 a6 a7 a8 : Int32) : mxc 0 69 [.ref 8, .int a1, .int a2, .int a3, .int a4, .int a5, .int a6, .int a7, .int a8] h (fun r h' => r = some (.int (-1)) ∧ h' = h) := by
  show mx 0 69 0 [.ref 8, .int a1, .int a2, .int a3, .int a4, .int a5, .int a6, .int a7, .int a8, mj_unset, mj_unset] [] h _
  refine x_aload_n f_69_0 rfl ?_
  refine x_getI f_69_1 C.k8 (by decide) ?_
  refine x_topi (w := nI 6) e_sm ?_
  refine x_bipush (v := nI 6) f_69_4 (by decide) ?_
  refine x_icmpN_ne (t := 11) f_69_6 (by decide) (by decide) (by decide) (fun c_1 => by omega) (fun c_1 => ?_)
  refine x_iconst (v := -1) f_69_9 (by decide) ?_
  refine x_retI f_69_10 rfl ?_
  exact ⟨rfl, rfl⟩
set_option maxRecDepth 20000 in
theorem k_sinit {h : mj_H} {B A : Nat} (hB : mj_K h B = (6, 2)) : mxc 0 49 [.ref B, .ref A] h (fun r h' => r = none ∧ h' = mj_setR h B 0 (some A)) := by
  show mx 0 49 0 [.ref B, .ref A] [] h _
  refine x_aload_n f_49_0 rfl ?_
  refine x_init f_49_1 (Nat.le_of_ble_eq_true rfl) ?_
  refine x_aload_n f_49_4 rfl ?_
  refine x_aload_n f_49_5 rfl ?_
  refine x_putR f_49_6 hB (by decide) ?_
  refine x_retV f_49_9 rfl ?_
  exact ⟨rfl, rfl⟩
set_option maxRecDepth 20000 in
theorem k_stuffV {h : mj_H} (C : SC h) (h63h : 63 ≤ h.1) {sm : Nat} (h_sm : sm < 6) (e_sm : mj_I h 8 10 = nI sm) (a1 a2 a3 a4 a5 a6 a7 a8 : Int32) (hb : (1 ≤ a1 ∧ a1 ≤ 100) ∧ (1 ≤ a2 ∧ a2 ≤ 100) ∧ (0 ≤ a3 ∧ a3 ≤ 300) ∧ (50 ≤ a4 ∧ a4 ≤ 900) ∧ (1 ≤ a5 ∧ a5 ≤ 100) ∧ (50 ≤ a6 ∧ a6 ≤ 999) ∧ (0 ≤ a7 ∧ a7 ≤ 500) ∧ (1 ≤ a8 ∧ a8 ≤ 500)) : mxc 1 69 [.ref 8, .int a1, .int a2, .int a3, .int a4, .int a5, .int a6, .int a7, .int a8] h (fun r h' => r = some (.int (nI sm)) ∧ h' = mj_setI (mj_setR (mj_setR (mj_new (mj_setI (mj_setI (mj_setI (mj_setI (mj_setI (mj_setI (mj_setI (mj_setI (mj_new h 12 8) h.1 0 a1) h.1 1 a2) h.1 2 a3) h.1 3 a4) h.1 4 a5) h.1 5 a6) h.1 6 a7) h.1 7 a8) 6 2) (h.1 + 1) 0 (some h.1)) 9 sm (some (h.1 + 1))) 8 10 (nI (sm + 1))) := by
  show mx 1 69 0 [.ref 8, .int a1, .int a2, .int a3, .int a4, .int a5, .int a6, .int a7, .int a8, mj_unset, mj_unset] [] h _
  refine x_aload_n f_69_0 rfl ?_
  refine x_getI f_69_1 C.k8 (by decide) ?_
  refine x_topi (w := nI sm) e_sm ?_
  refine x_bipush (v := nI 6) f_69_4 (by decide) ?_
  refine x_icmpN_ne (t := 11) f_69_6 (by decide) (by omega) (by decide) (fun c_1 => ?_) (fun c_1 => by omega)
  refine x_bipush (v := nI 8) f_69_11 (by decide) ?_
  refine x_newa f_69_13 (by decide) ?_
  refine x_dup f_69_15 rfl ?_
  refine x_iconst (v := nI 0) f_69_16 (by decide) ?_
  refine x_iload_n f_69_17 rfl ?_
  refine x_iast (j := 0) f_69_18 (mj_K_newA h 12 8) (by omega) (by omega) (by decide) ?_
  refine x_dup f_69_19 rfl ?_
  refine x_iconst (v := nI 1) f_69_20 (by decide) ?_
  refine x_iload_n f_69_21 rfl ?_
  refine x_iast (j := 1) f_69_22 (mj_K_newA h 12 8) (by omega) (by omega) (by decide) ?_
  refine x_dup f_69_23 rfl ?_
  refine x_iconst (v := nI 2) f_69_24 (by decide) ?_
  refine x_iload_n f_69_25 rfl ?_
  refine x_iast (j := 2) f_69_26 (mj_K_newA h 12 8) (by omega) (by omega) (by decide) ?_
  refine x_dup f_69_27 rfl ?_
  refine x_iconst (v := nI 3) f_69_28 (by decide) ?_
  refine x_iload f_69_29 rfl ?_
  refine x_iast (j := 3) f_69_31 (mj_K_newA h 12 8) (by omega) (by omega) (by decide) ?_
  refine x_dup f_69_32 rfl ?_
  refine x_iconst (v := nI 4) f_69_33 (by decide) ?_
  refine x_iload f_69_34 rfl ?_
  refine x_iast (j := 4) f_69_36 (mj_K_newA h 12 8) (by omega) (by omega) (by decide) ?_
  refine x_dup f_69_37 rfl ?_
  refine x_iconst (v := nI 5) f_69_38 (by decide) ?_
  refine x_iload f_69_39 rfl ?_
  refine x_iast (j := 5) f_69_41 (mj_K_newA h 12 8) (by omega) (by omega) (by decide) ?_
  refine x_dup f_69_42 rfl ?_
  refine x_bipush (v := nI 6) f_69_43 (by decide) ?_
  refine x_iload f_69_45 rfl ?_
  refine x_iast (j := 6) f_69_47 (mj_K_newA h 12 8) (by omega) (by omega) (by decide) ?_
  refine x_dup f_69_48 rfl ?_
  refine x_bipush (v := nI 7) f_69_49 (by decide) ?_
  refine x_iload f_69_51 rfl ?_
  refine x_iast (j := 7) f_69_53 (mj_K_newA h 12 8) (by omega) (by omega) (by decide) ?_
  refine x_astore (ls1 := [.ref 8, .int a1, .int a2, .int a3, .int a4, .int a5, .int a6, .int a7, .int a8, .ref h.1, mj_unset]) f_69_54 (Nat.le_of_ble_eq_true rfl) rfl ?_
  refine x_iconst (v := nI 0) f_69_56 (by decide) ?_
  refine x_istore (ls1 := [.ref 8, .int a1, .int a2, .int a3, .int a4, .int a5, .int a6, .int a7, .int a8, .ref h.1, .int (nI 0)]) f_69_57 (Nat.le_of_ble_eq_true rfl) rfl ?_
  refine x_iload f_69_59 rfl ?_
  refine x_bipush (v := nI 8) f_69_61 (by decide) ?_
  refine x_icmpN_ge (t := 102) f_69_63 (by decide) (by decide) (by decide) (fun c_2 => by omega) (fun c_2 => ?_)
  refine x_aload f_69_66 rfl ?_
  refine x_iload f_69_68 rfl ?_
  refine x_iald (j := 0) f_69_70 (mj_K_newA h 12 8) (by omega) (by decide) ?_
  refine x_topi (w := a1) ((mj_I_ne (by decide)).trans ((mj_I_ne (by decide)).trans ((mj_I_ne (by decide)).trans ((mj_I_ne (by decide)).trans ((mj_I_ne (by decide)).trans ((mj_I_ne (by decide)).trans ((mj_I_ne (by decide)).trans (mj_I_at _ _ _ _)))))))) ?_
  refine x_gets f_69_71 ?_
  refine x_iload f_69_74 rfl ?_
  refine x_iald (j := 0) f_69_76 ((mj_K_new (k := 12) (n := 8) (by show _ ≠ h.1; omega)).trans C.k0) (by omega) (by decide) ?_
  refine x_topi (w := nI 1) ((congrFun (mj_I_other (by omega)) _).trans ((congrFun (mj_I_other (by omega)) _).trans ((congrFun (mj_I_other (by omega)) _).trans ((congrFun (mj_I_other (by omega)) _).trans ((congrFun (mj_I_other (by omega)) _).trans ((congrFun (mj_I_other (by omega)) _).trans ((congrFun (mj_I_other (by omega)) _).trans ((congrFun (mj_I_other (by omega)) _).trans ((congrFun (mj_I_new (k := 12) (n := 8) (by show _ ≠ h.1; omega)) _).trans (C.v0_0)))))))))) ?_
  refine x_icmp_lt (t := 94) f_69_77 (by decide) (fun c_1 => absurd c_1 (Int32.not_lt.mpr hb.1.1)) (fun c_1 => ?_)
  refine x_aload f_69_80 rfl ?_
  refine x_iload f_69_82 rfl ?_
  refine x_iald (j := 0) f_69_84 (mj_K_newA h 12 8) (by omega) (by decide) ?_
  refine x_topi (w := a1) ((mj_I_ne (by decide)).trans ((mj_I_ne (by decide)).trans ((mj_I_ne (by decide)).trans ((mj_I_ne (by decide)).trans ((mj_I_ne (by decide)).trans ((mj_I_ne (by decide)).trans ((mj_I_ne (by decide)).trans (mj_I_at _ _ _ _)))))))) ?_
  refine x_gets f_69_85 ?_
  refine x_iload f_69_88 rfl ?_
  refine x_iald (j := 0) f_69_90 ((mj_K_new (k := 12) (n := 8) (by show _ ≠ h.1; omega)).trans C.k1) (by omega) (by decide) ?_
  refine x_topi (w := nI 100) ((congrFun (mj_I_other (by omega)) _).trans ((congrFun (mj_I_other (by omega)) _).trans ((congrFun (mj_I_other (by omega)) _).trans ((congrFun (mj_I_other (by omega)) _).trans ((congrFun (mj_I_other (by omega)) _).trans ((congrFun (mj_I_other (by omega)) _).trans ((congrFun (mj_I_other (by omega)) _).trans ((congrFun (mj_I_other (by omega)) _).trans ((congrFun (mj_I_new (k := 12) (n := 8) (by show _ ≠ h.1; omega)) _).trans (C.v1_0)))))))))) ?_
  refine x_icmp_le (t := 96) f_69_91 (by decide) (fun c_2 => ?_) (fun c_2 => absurd hb.1.2 c_2)
  refine x_iinc (v := nI 1) (ls1 := [.ref 8, .int a1, .int a2, .int a3, .int a4, .int a5, .int a6, .int a7, .int a8, .ref h.1, .int (nI 1)]) f_69_96 rfl (by decide) rfl ?_
  refine x_goto (t := 59) f_69_99 (by decide) ?_
  refine x_iload f_69_59 rfl ?_
  refine x_bipush (v := nI 8) f_69_61 (by decide) ?_
  refine x_icmpN_ge (t := 102) f_69_63 (by decide) (by decide) (by decide) (fun c_3 => by omega) (fun c_3 => ?_)
  refine x_aload f_69_66 rfl ?_
  refine x_iload f_69_68 rfl ?_
  refine x_iald (j := 1) f_69_70 (mj_K_newA h 12 8) (by omega) (by decide) ?_
  refine x_topi (w := a2) ((mj_I_ne (by decide)).trans ((mj_I_ne (by decide)).trans ((mj_I_ne (by decide)).trans ((mj_I_ne (by decide)).trans ((mj_I_ne (by decide)).trans ((mj_I_ne (by decide)).trans (mj_I_at _ _ _ _))))))) ?_
  refine x_gets f_69_71 ?_
  refine x_iload f_69_74 rfl ?_
  refine x_iald (j := 1) f_69_76 ((mj_K_new (k := 12) (n := 8) (by show _ ≠ h.1; omega)).trans C.k0) (by omega) (by decide) ?_
  refine x_topi (w := nI 1) ((congrFun (mj_I_other (by omega)) _).trans ((congrFun (mj_I_other (by omega)) _).trans ((congrFun (mj_I_other (by omega)) _).trans ((congrFun (mj_I_other (by omega)) _).trans ((congrFun (mj_I_other (by omega)) _).trans ((congrFun (mj_I_other (by omega)) _).trans ((congrFun (mj_I_other (by omega)) _).trans ((congrFun (mj_I_other (by omega)) _).trans ((congrFun (mj_I_new (k := 12) (n := 8) (by show _ ≠ h.1; omega)) _).trans (C.v0_1)))))))))) ?_
  refine x_icmp_lt (t := 94) f_69_77 (by decide) (fun c_1 => absurd c_1 (Int32.not_lt.mpr hb.2.1.1)) (fun c_1 => ?_)
  refine x_aload f_69_80 rfl ?_
  refine x_iload f_69_82 rfl ?_
  refine x_iald (j := 1) f_69_84 (mj_K_newA h 12 8) (by omega) (by decide) ?_
  refine x_topi (w := a2) ((mj_I_ne (by decide)).trans ((mj_I_ne (by decide)).trans ((mj_I_ne (by decide)).trans ((mj_I_ne (by decide)).trans ((mj_I_ne (by decide)).trans ((mj_I_ne (by decide)).trans (mj_I_at _ _ _ _))))))) ?_
  refine x_gets f_69_85 ?_
  refine x_iload f_69_88 rfl ?_
  refine x_iald (j := 1) f_69_90 ((mj_K_new (k := 12) (n := 8) (by show _ ≠ h.1; omega)).trans C.k1) (by omega) (by decide) ?_
  refine x_topi (w := nI 100) ((congrFun (mj_I_other (by omega)) _).trans ((congrFun (mj_I_other (by omega)) _).trans ((congrFun (mj_I_other (by omega)) _).trans ((congrFun (mj_I_other (by omega)) _).trans ((congrFun (mj_I_other (by omega)) _).trans ((congrFun (mj_I_other (by omega)) _).trans ((congrFun (mj_I_other (by omega)) _).trans ((congrFun (mj_I_other (by omega)) _).trans ((congrFun (mj_I_new (k := 12) (n := 8) (by show _ ≠ h.1; omega)) _).trans (C.v1_1)))))))))) ?_
  refine x_icmp_le (t := 96) f_69_91 (by decide) (fun c_2 => ?_) (fun c_2 => absurd hb.2.1.2 c_2)
  refine x_iinc (v := nI 2) (ls1 := [.ref 8, .int a1, .int a2, .int a3, .int a4, .int a5, .int a6, .int a7, .int a8, .ref h.1, .int (nI 2)]) f_69_96 rfl (by decide) rfl ?_
  refine x_goto (t := 59) f_69_99 (by decide) ?_
  refine x_iload f_69_59 rfl ?_
  refine x_bipush (v := nI 8) f_69_61 (by decide) ?_
  refine x_icmpN_ge (t := 102) f_69_63 (by decide) (by decide) (by decide) (fun c_4 => by omega) (fun c_4 => ?_)
  refine x_aload f_69_66 rfl ?_
  refine x_iload f_69_68 rfl ?_
  refine x_iald (j := 2) f_69_70 (mj_K_newA h 12 8) (by omega) (by decide) ?_
  refine x_topi (w := a3) ((mj_I_ne (by decide)).trans ((mj_I_ne (by decide)).trans ((mj_I_ne (by decide)).trans ((mj_I_ne (by decide)).trans ((mj_I_ne (by decide)).trans (mj_I_at _ _ _ _)))))) ?_
  refine x_gets f_69_71 ?_
  refine x_iload f_69_74 rfl ?_
  refine x_iald (j := 2) f_69_76 ((mj_K_new (k := 12) (n := 8) (by show _ ≠ h.1; omega)).trans C.k0) (by omega) (by decide) ?_
  refine x_topi (w := nI 0) ((congrFun (mj_I_other (by omega)) _).trans ((congrFun (mj_I_other (by omega)) _).trans ((congrFun (mj_I_other (by omega)) _).trans ((congrFun (mj_I_other (by omega)) _).trans ((congrFun (mj_I_other (by omega)) _).trans ((congrFun (mj_I_other (by omega)) _).trans ((congrFun (mj_I_other (by omega)) _).trans ((congrFun (mj_I_other (by omega)) _).trans ((congrFun (mj_I_new (k := 12) (n := 8) (by show _ ≠ h.1; omega)) _).trans (C.v0_2)))))))))) ?_
  refine x_icmp_lt (t := 94) f_69_77 (by decide) (fun c_1 => absurd c_1 (Int32.not_lt.mpr hb.2.2.1.1)) (fun c_1 => ?_)
  refine x_aload f_69_80 rfl ?_
  refine x_iload f_69_82 rfl ?_
  refine x_iald (j := 2) f_69_84 (mj_K_newA h 12 8) (by omega) (by decide) ?_
  refine x_topi (w := a3) ((mj_I_ne (by decide)).trans ((mj_I_ne (by decide)).trans ((mj_I_ne (by decide)).trans ((mj_I_ne (by decide)).trans ((mj_I_ne (by decide)).trans (mj_I_at _ _ _ _)))))) ?_
  refine x_gets f_69_85 ?_
  refine x_iload f_69_88 rfl ?_
  refine x_iald (j := 2) f_69_90 ((mj_K_new (k := 12) (n := 8) (by show _ ≠ h.1; omega)).trans C.k1) (by omega) (by decide) ?_
  refine x_topi (w := nI 300) ((congrFun (mj_I_other (by omega)) _).trans ((congrFun (mj_I_other (by omega)) _).trans ((congrFun (mj_I_other (by omega)) _).trans ((congrFun (mj_I_other (by omega)) _).trans ((congrFun (mj_I_other (by omega)) _).trans ((congrFun (mj_I_other (by omega)) _).trans ((congrFun (mj_I_other (by omega)) _).trans ((congrFun (mj_I_other (by omega)) _).trans ((congrFun (mj_I_new (k := 12) (n := 8) (by show _ ≠ h.1; omega)) _).trans (C.v1_2)))))))))) ?_
  refine x_icmp_le (t := 96) f_69_91 (by decide) (fun c_2 => ?_) (fun c_2 => absurd hb.2.2.1.2 c_2)
  refine x_iinc (v := nI 3) (ls1 := [.ref 8, .int a1, .int a2, .int a3, .int a4, .int a5, .int a6, .int a7, .int a8, .ref h.1, .int (nI 3)]) f_69_96 rfl (by decide) rfl ?_
  refine x_goto (t := 59) f_69_99 (by decide) ?_
  refine x_iload f_69_59 rfl ?_
  refine x_bipush (v := nI 8) f_69_61 (by decide) ?_
  refine x_icmpN_ge (t := 102) f_69_63 (by decide) (by decide) (by decide) (fun c_5 => by omega) (fun c_5 => ?_)
  refine x_aload f_69_66 rfl ?_
  refine x_iload f_69_68 rfl ?_
  refine x_iald (j := 3) f_69_70 (mj_K_newA h 12 8) (by omega) (by decide) ?_
  refine x_topi (w := a4) ((mj_I_ne (by decide)).trans ((mj_I_ne (by decide)).trans ((mj_I_ne (by decide)).trans ((mj_I_ne (by decide)).trans (mj_I_at _ _ _ _))))) ?_
  refine x_gets f_69_71 ?_
  refine x_iload f_69_74 rfl ?_
  refine x_iald (j := 3) f_69_76 ((mj_K_new (k := 12) (n := 8) (by show _ ≠ h.1; omega)).trans C.k0) (by omega) (by decide) ?_
  refine x_topi (w := nI 50) ((congrFun (mj_I_other (by omega)) _).trans ((congrFun (mj_I_other (by omega)) _).trans ((congrFun (mj_I_other (by omega)) _).trans ((congrFun (mj_I_other (by omega)) _).trans ((congrFun (mj_I_other (by omega)) _).trans ((congrFun (mj_I_other (by omega)) _).trans ((congrFun (mj_I_other (by omega)) _).trans ((congrFun (mj_I_other (by omega)) _).trans ((congrFun (mj_I_new (k := 12) (n := 8) (by show _ ≠ h.1; omega)) _).trans (C.v0_3)))))))))) ?_
  refine x_icmp_lt (t := 94) f_69_77 (by decide) (fun c_1 => absurd c_1 (Int32.not_lt.mpr hb.2.2.2.1.1)) (fun c_1 => ?_)
  refine x_aload f_69_80 rfl ?_
  refine x_iload f_69_82 rfl ?_
  refine x_iald (j := 3) f_69_84 (mj_K_newA h 12 8) (by omega) (by decide) ?_
  refine x_topi (w := a4) ((mj_I_ne (by decide)).trans ((mj_I_ne (by decide)).trans ((mj_I_ne (by decide)).trans ((mj_I_ne (by decide)).trans (mj_I_at _ _ _ _))))) ?_
  refine x_gets f_69_85 ?_
  refine x_iload f_69_88 rfl ?_
  refine x_iald (j := 3) f_69_90 ((mj_K_new (k := 12) (n := 8) (by show _ ≠ h.1; omega)).trans C.k1) (by omega) (by decide) ?_
  refine x_topi (w := nI 900) ((congrFun (mj_I_other (by omega)) _).trans ((congrFun (mj_I_other (by omega)) _).trans ((congrFun (mj_I_other (by omega)) _).trans ((congrFun (mj_I_other (by omega)) _).trans ((congrFun (mj_I_other (by omega)) _).trans ((congrFun (mj_I_other (by omega)) _).trans ((congrFun (mj_I_other (by omega)) _).trans ((congrFun (mj_I_other (by omega)) _).trans ((congrFun (mj_I_new (k := 12) (n := 8) (by show _ ≠ h.1; omega)) _).trans (C.v1_3)))))))))) ?_
  refine x_icmp_le (t := 96) f_69_91 (by decide) (fun c_2 => ?_) (fun c_2 => absurd hb.2.2.2.1.2 c_2)
  refine x_iinc (v := nI 4) (ls1 := [.ref 8, .int a1, .int a2, .int a3, .int a4, .int a5, .int a6, .int a7, .int a8, .ref h.1, .int (nI 4)]) f_69_96 rfl (by decide) rfl ?_
  refine x_goto (t := 59) f_69_99 (by decide) ?_
  refine x_iload f_69_59 rfl ?_
  refine x_bipush (v := nI 8) f_69_61 (by decide) ?_
  refine x_icmpN_ge (t := 102) f_69_63 (by decide) (by decide) (by decide) (fun c_6 => by omega) (fun c_6 => ?_)
  refine x_aload f_69_66 rfl ?_
  refine x_iload f_69_68 rfl ?_
  refine x_iald (j := 4) f_69_70 (mj_K_newA h 12 8) (by omega) (by decide) ?_
  refine x_topi (w := a5) ((mj_I_ne (by decide)).trans ((mj_I_ne (by decide)).trans ((mj_I_ne (by decide)).trans (mj_I_at _ _ _ _)))) ?_
  refine x_gets f_69_71 ?_
  refine x_iload f_69_74 rfl ?_
  refine x_iald (j := 4) f_69_76 ((mj_K_new (k := 12) (n := 8) (by show _ ≠ h.1; omega)).trans C.k0) (by omega) (by decide) ?_
  refine x_topi (w := nI 1) ((congrFun (mj_I_other (by omega)) _).trans ((congrFun (mj_I_other (by omega)) _).trans ((congrFun (mj_I_other (by omega)) _).trans ((congrFun (mj_I_other (by omega)) _).trans ((congrFun (mj_I_other (by omega)) _).trans ((congrFun (mj_I_other (by omega)) _).trans ((congrFun (mj_I_other (by omega)) _).trans ((congrFun (mj_I_other (by omega)) _).trans ((congrFun (mj_I_new (k := 12) (n := 8) (by show _ ≠ h.1; omega)) _).trans (C.v0_4)))))))))) ?_
  refine x_icmp_lt (t := 94) f_69_77 (by decide) (fun c_1 => absurd c_1 (Int32.not_lt.mpr hb.2.2.2.2.1.1)) (fun c_1 => ?_)
  refine x_aload f_69_80 rfl ?_
  refine x_iload f_69_82 rfl ?_
  refine x_iald (j := 4) f_69_84 (mj_K_newA h 12 8) (by omega) (by decide) ?_
  refine x_topi (w := a5) ((mj_I_ne (by decide)).trans ((mj_I_ne (by decide)).trans ((mj_I_ne (by decide)).trans (mj_I_at _ _ _ _)))) ?_
  refine x_gets f_69_85 ?_
  refine x_iload f_69_88 rfl ?_
  refine x_iald (j := 4) f_69_90 ((mj_K_new (k := 12) (n := 8) (by show _ ≠ h.1; omega)).trans C.k1) (by omega) (by decide) ?_
  refine x_topi (w := nI 100) ((congrFun (mj_I_other (by omega)) _).trans ((congrFun (mj_I_other (by omega)) _).trans ((congrFun (mj_I_other (by omega)) _).trans ((congrFun (mj_I_other (by omega)) _).trans ((congrFun (mj_I_other (by omega)) _).trans ((congrFun (mj_I_other (by omega)) _).trans ((congrFun (mj_I_other (by omega)) _).trans ((congrFun (mj_I_other (by omega)) _).trans ((congrFun (mj_I_new (k := 12) (n := 8) (by show _ ≠ h.1; omega)) _).trans (C.v1_4)))))))))) ?_
  refine x_icmp_le (t := 96) f_69_91 (by decide) (fun c_2 => ?_) (fun c_2 => absurd hb.2.2.2.2.1.2 c_2)
  refine x_iinc (v := nI 5) (ls1 := [.ref 8, .int a1, .int a2, .int a3, .int a4, .int a5, .int a6, .int a7, .int a8, .ref h.1, .int (nI 5)]) f_69_96 rfl (by decide) rfl ?_
  refine x_goto (t := 59) f_69_99 (by decide) ?_
  refine x_iload f_69_59 rfl ?_
  refine x_bipush (v := nI 8) f_69_61 (by decide) ?_
  refine x_icmpN_ge (t := 102) f_69_63 (by decide) (by decide) (by decide) (fun c_7 => by omega) (fun c_7 => ?_)
  refine x_aload f_69_66 rfl ?_
  refine x_iload f_69_68 rfl ?_
  refine x_iald (j := 5) f_69_70 (mj_K_newA h 12 8) (by omega) (by decide) ?_
  refine x_topi (w := a6) ((mj_I_ne (by decide)).trans ((mj_I_ne (by decide)).trans (mj_I_at _ _ _ _))) ?_
  refine x_gets f_69_71 ?_
  refine x_iload f_69_74 rfl ?_
  refine x_iald (j := 5) f_69_76 ((mj_K_new (k := 12) (n := 8) (by show _ ≠ h.1; omega)).trans C.k0) (by omega) (by decide) ?_
  refine x_topi (w := nI 50) ((congrFun (mj_I_other (by omega)) _).trans ((congrFun (mj_I_other (by omega)) _).trans ((congrFun (mj_I_other (by omega)) _).trans ((congrFun (mj_I_other (by omega)) _).trans ((congrFun (mj_I_other (by omega)) _).trans ((congrFun (mj_I_other (by omega)) _).trans ((congrFun (mj_I_other (by omega)) _).trans ((congrFun (mj_I_other (by omega)) _).trans ((congrFun (mj_I_new (k := 12) (n := 8) (by show _ ≠ h.1; omega)) _).trans (C.v0_5)))))))))) ?_
  refine x_icmp_lt (t := 94) f_69_77 (by decide) (fun c_1 => absurd c_1 (Int32.not_lt.mpr hb.2.2.2.2.2.1.1)) (fun c_1 => ?_)
  refine x_aload f_69_80 rfl ?_
  refine x_iload f_69_82 rfl ?_
  refine x_iald (j := 5) f_69_84 (mj_K_newA h 12 8) (by omega) (by decide) ?_
  refine x_topi (w := a6) ((mj_I_ne (by decide)).trans ((mj_I_ne (by decide)).trans (mj_I_at _ _ _ _))) ?_
  refine x_gets f_69_85 ?_
  refine x_iload f_69_88 rfl ?_
  refine x_iald (j := 5) f_69_90 ((mj_K_new (k := 12) (n := 8) (by show _ ≠ h.1; omega)).trans C.k1) (by omega) (by decide) ?_
  refine x_topi (w := nI 999) ((congrFun (mj_I_other (by omega)) _).trans ((congrFun (mj_I_other (by omega)) _).trans ((congrFun (mj_I_other (by omega)) _).trans ((congrFun (mj_I_other (by omega)) _).trans ((congrFun (mj_I_other (by omega)) _).trans ((congrFun (mj_I_other (by omega)) _).trans ((congrFun (mj_I_other (by omega)) _).trans ((congrFun (mj_I_other (by omega)) _).trans ((congrFun (mj_I_new (k := 12) (n := 8) (by show _ ≠ h.1; omega)) _).trans (C.v1_5)))))))))) ?_
  refine x_icmp_le (t := 96) f_69_91 (by decide) (fun c_2 => ?_) (fun c_2 => absurd hb.2.2.2.2.2.1.2 c_2)
  refine x_iinc (v := nI 6) (ls1 := [.ref 8, .int a1, .int a2, .int a3, .int a4, .int a5, .int a6, .int a7, .int a8, .ref h.1, .int (nI 6)]) f_69_96 rfl (by decide) rfl ?_
  refine x_goto (t := 59) f_69_99 (by decide) ?_
  refine x_iload f_69_59 rfl ?_
  refine x_bipush (v := nI 8) f_69_61 (by decide) ?_
  refine x_icmpN_ge (t := 102) f_69_63 (by decide) (by decide) (by decide) (fun c_8 => by omega) (fun c_8 => ?_)
  refine x_aload f_69_66 rfl ?_
  refine x_iload f_69_68 rfl ?_
  refine x_iald (j := 6) f_69_70 (mj_K_newA h 12 8) (by omega) (by decide) ?_
  refine x_topi (w := a7) ((mj_I_ne (by decide)).trans (mj_I_at _ _ _ _)) ?_
  refine x_gets f_69_71 ?_
  refine x_iload f_69_74 rfl ?_
  refine x_iald (j := 6) f_69_76 ((mj_K_new (k := 12) (n := 8) (by show _ ≠ h.1; omega)).trans C.k0) (by omega) (by decide) ?_
  refine x_topi (w := nI 0) ((congrFun (mj_I_other (by omega)) _).trans ((congrFun (mj_I_other (by omega)) _).trans ((congrFun (mj_I_other (by omega)) _).trans ((congrFun (mj_I_other (by omega)) _).trans ((congrFun (mj_I_other (by omega)) _).trans ((congrFun (mj_I_other (by omega)) _).trans ((congrFun (mj_I_other (by omega)) _).trans ((congrFun (mj_I_other (by omega)) _).trans ((congrFun (mj_I_new (k := 12) (n := 8) (by show _ ≠ h.1; omega)) _).trans (C.v0_6)))))))))) ?_
  refine x_icmp_lt (t := 94) f_69_77 (by decide) (fun c_1 => absurd c_1 (Int32.not_lt.mpr hb.2.2.2.2.2.2.1.1)) (fun c_1 => ?_)
  refine x_aload f_69_80 rfl ?_
  refine x_iload f_69_82 rfl ?_
  refine x_iald (j := 6) f_69_84 (mj_K_newA h 12 8) (by omega) (by decide) ?_
  refine x_topi (w := a7) ((mj_I_ne (by decide)).trans (mj_I_at _ _ _ _)) ?_
  refine x_gets f_69_85 ?_
  refine x_iload f_69_88 rfl ?_
  refine x_iald (j := 6) f_69_90 ((mj_K_new (k := 12) (n := 8) (by show _ ≠ h.1; omega)).trans C.k1) (by omega) (by decide) ?_
  refine x_topi (w := nI 500) ((congrFun (mj_I_other (by omega)) _).trans ((congrFun (mj_I_other (by omega)) _).trans ((congrFun (mj_I_other (by omega)) _).trans ((congrFun (mj_I_other (by omega)) _).trans ((congrFun (mj_I_other (by omega)) _).trans ((congrFun (mj_I_other (by omega)) _).trans ((congrFun (mj_I_other (by omega)) _).trans ((congrFun (mj_I_other (by omega)) _).trans ((congrFun (mj_I_new (k := 12) (n := 8) (by show _ ≠ h.1; omega)) _).trans (C.v1_6)))))))))) ?_
  refine x_icmp_le (t := 96) f_69_91 (by decide) (fun c_2 => ?_) (fun c_2 => absurd hb.2.2.2.2.2.2.1.2 c_2)
  refine x_iinc (v := nI 7) (ls1 := [.ref 8, .int a1, .int a2, .int a3, .int a4, .int a5, .int a6, .int a7, .int a8, .ref h.1, .int (nI 7)]) f_69_96 rfl (by decide) rfl ?_
  refine x_goto (t := 59) f_69_99 (by decide) ?_
  refine x_iload f_69_59 rfl ?_
  refine x_bipush (v := nI 8) f_69_61 (by decide) ?_
  refine x_icmpN_ge (t := 102) f_69_63 (by decide) (by decide) (by decide) (fun c_9 => by omega) (fun c_9 => ?_)
  refine x_aload f_69_66 rfl ?_
  refine x_iload f_69_68 rfl ?_
  refine x_iald (j := 7) f_69_70 (mj_K_newA h 12 8) (by omega) (by decide) ?_
  refine x_topi (w := a8) (mj_I_at _ _ _ _) ?_
  refine x_gets f_69_71 ?_
  refine x_iload f_69_74 rfl ?_
  refine x_iald (j := 7) f_69_76 ((mj_K_new (k := 12) (n := 8) (by show _ ≠ h.1; omega)).trans C.k0) (by omega) (by decide) ?_
  refine x_topi (w := nI 1) ((congrFun (mj_I_other (by omega)) _).trans ((congrFun (mj_I_other (by omega)) _).trans ((congrFun (mj_I_other (by omega)) _).trans ((congrFun (mj_I_other (by omega)) _).trans ((congrFun (mj_I_other (by omega)) _).trans ((congrFun (mj_I_other (by omega)) _).trans ((congrFun (mj_I_other (by omega)) _).trans ((congrFun (mj_I_other (by omega)) _).trans ((congrFun (mj_I_new (k := 12) (n := 8) (by show _ ≠ h.1; omega)) _).trans (C.v0_7)))))))))) ?_
  refine x_icmp_lt (t := 94) f_69_77 (by decide) (fun c_1 => absurd c_1 (Int32.not_lt.mpr hb.2.2.2.2.2.2.2.1)) (fun c_1 => ?_)
  refine x_aload f_69_80 rfl ?_
  refine x_iload f_69_82 rfl ?_
  refine x_iald (j := 7) f_69_84 (mj_K_newA h 12 8) (by omega) (by decide) ?_
  refine x_topi (w := a8) (mj_I_at _ _ _ _) ?_
  refine x_gets f_69_85 ?_
  refine x_iload f_69_88 rfl ?_
  refine x_iald (j := 7) f_69_90 ((mj_K_new (k := 12) (n := 8) (by show _ ≠ h.1; omega)).trans C.k1) (by omega) (by decide) ?_
  refine x_topi (w := nI 500) ((congrFun (mj_I_other (by omega)) _).trans ((congrFun (mj_I_other (by omega)) _).trans ((congrFun (mj_I_other (by omega)) _).trans ((congrFun (mj_I_other (by omega)) _).trans ((congrFun (mj_I_other (by omega)) _).trans ((congrFun (mj_I_other (by omega)) _).trans ((congrFun (mj_I_other (by omega)) _).trans ((congrFun (mj_I_other (by omega)) _).trans ((congrFun (mj_I_new (k := 12) (n := 8) (by show _ ≠ h.1; omega)) _).trans (C.v1_7)))))))))) ?_
  refine x_icmp_le (t := 96) f_69_91 (by decide) (fun c_2 => ?_) (fun c_2 => absurd hb.2.2.2.2.2.2.2.2 c_2)
  refine x_iinc (v := nI 8) (ls1 := [.ref 8, .int a1, .int a2, .int a3, .int a4, .int a5, .int a6, .int a7, .int a8, .ref h.1, .int (nI 8)]) f_69_96 rfl (by decide) rfl ?_
  refine x_goto (t := 59) f_69_99 (by decide) ?_
  refine x_iload f_69_59 rfl ?_
  refine x_bipush (v := nI 8) f_69_61 (by decide) ?_
  refine x_icmpN_ge (t := 102) f_69_63 (by decide) (by decide) (by decide) (fun c_10 => ?_) (fun c_10 => by omega)
  refine x_aload_n f_69_102 rfl ?_
  refine x_getR f_69_103 ((mj_K_new (k := 12) (n := 8) (by show _ ≠ h.1; omega)).trans C.k8) (by decide) ((congrFun (mj_R_new (k := 12) (n := 8) (by show _ ≠ h.1; omega)) _).trans C.r8_0) ?_
  refine x_aload_n f_69_106 rfl ?_
  refine x_getI f_69_107 ((mj_K_new (k := 12) (n := 8) (by show _ ≠ h.1; omega)).trans C.k8) (by decide) ?_
  refine x_topi (w := nI sm) ((congrFun (mj_I_other (by omega)) _).trans ((congrFun (mj_I_other (by omega)) _).trans ((congrFun (mj_I_other (by omega)) _).trans ((congrFun (mj_I_other (by omega)) _).trans ((congrFun (mj_I_other (by omega)) _).trans ((congrFun (mj_I_other (by omega)) _).trans ((congrFun (mj_I_other (by omega)) _).trans ((congrFun (mj_I_other (by omega)) _).trans ((congrFun (mj_I_new (k := 12) (n := 8) (by show _ ≠ h.1; omega)) _).trans (e_sm)))))))))) ?_
  refine x_new f_69_110 (by decide) rfl ?_
  refine x_dup f_69_113 rfl ?_
  refine x_aload f_69_114 rfl ?_
  refine x_callI f_69_116 (k_sinit (A := h.1) (mj_K_newA (mj_setI (mj_setI (mj_setI (mj_setI (mj_setI (mj_setI (mj_setI (mj_setI (mj_new h 12 8) h.1 0 a1) h.1 1 a2) h.1 2 a3) h.1 3 a4) h.1 4 a5) h.1 5 a6) h.1 6 a7) h.1 7 a8) 6 2)) (by omega) rfl rfl rfl (Nat.le_of_ble_eq_true rfl) rfl ?_
  rintro _ _ ⟨rfl, rfl⟩
  refine x_rast (j := sm) f_69_119 ((mj_K_new (k := 6) (n := 2) (by show _ ≠ h.1 + 1; omega)).trans ((mj_K_new (k := 12) (n := 8) (by show _ ≠ h.1; omega)).trans C.k9)) (by decide) (mj_K_newA (mj_setI (mj_setI (mj_setI (mj_setI (mj_setI (mj_setI (mj_setI (mj_setI (mj_new h 12 8) h.1 0 a1) h.1 1 a2) h.1 2 a3) h.1 3 a4) h.1 4 a5) h.1 5 a6) h.1 6 a7) h.1 7 a8) 6 2) (by omega) (by decide) ?_
  refine x_aload_n f_69_120 rfl ?_
  refine x_dup f_69_121 rfl ?_
  refine x_getI f_69_122 ((mj_K_new (k := 6) (n := 2) (by show _ ≠ h.1 + 1; omega)).trans ((mj_K_new (k := 12) (n := 8) (by show _ ≠ h.1; omega)).trans C.k8)) (by decide) ?_
  refine x_topi (w := nI sm) ((congrFun (mj_I_new (k := 6) (n := 2) (by show _ ≠ h.1 + 1; omega)) _).trans ((congrFun (mj_I_other (by omega)) _).trans ((congrFun (mj_I_other (by omega)) _).trans ((congrFun (mj_I_other (by omega)) _).trans ((congrFun (mj_I_other (by omega)) _).trans ((congrFun (mj_I_other (by omega)) _).trans ((congrFun (mj_I_other (by omega)) _).trans ((congrFun (mj_I_other (by omega)) _).trans ((congrFun (mj_I_other (by omega)) _).trans ((congrFun (mj_I_new (k := 12) (n := 8) (by show _ ≠ h.1; omega)) _).trans (e_sm))))))))))) ?_
  refine x_iconst (v := nI 1) f_69_125 (by decide) ?_
  refine x_iaddN f_69_126 ?_
  refine x_putI f_69_127 ((mj_K_new (k := 6) (n := 2) (by show _ ≠ h.1 + 1; omega)).trans ((mj_K_new (k := 12) (n := 8) (by show _ ≠ h.1; omega)).trans C.k8)) (by decide) ?_
  refine x_aload_n f_69_130 rfl ?_
  refine x_getI f_69_131 ((mj_K_new (k := 6) (n := 2) (by show _ ≠ h.1 + 1; omega)).trans ((mj_K_new (k := 12) (n := 8) (by show _ ≠ h.1; omega)).trans C.k8)) (by decide) ?_
  refine x_topi (w := nI (sm + 1)) (mj_I_at _ _ _ _) ?_
  refine x_iconst (v := nI 1) f_69_134 (by decide) ?_
  refine x_isubN f_69_135 (by omega) ?_
  refine x_retI f_69_136 rfl ?_
  exact ⟨by rw [Nat.add_sub_cancel], rfl⟩
set_option maxRecDepth 20000 in
theorem k_stuffI {h : mj_H} (C : SC h) (h63h : 63 ≤ h.1) {sm : Nat} (h_sm : sm < 6) (e_sm : mj_I h 8 10 = nI sm) (a1 a2 a3 a4 a5 a6 a7 a8 : Int32) (hb : ¬ ((1 ≤ a1 ∧ a1 ≤ 100) ∧ (1 ≤ a2 ∧ a2 ≤ 100) ∧ (0 ≤ a3 ∧ a3 ≤ 300) ∧ (50 ≤ a4 ∧ a4 ≤ 900) ∧ (1 ≤ a5 ∧ a5 ≤ 100) ∧ (50 ≤ a6 ∧ a6 ≤ 999) ∧ (0 ≤ a7 ∧ a7 ≤ 500) ∧ (1 ≤ a8 ∧ a8 ≤ 500))) : mxc 0 69 [.ref 8, .int a1, .int a2, .int a3, .int a4, .int a5, .int a6, .int a7, .int a8] h (fun r h' => r = some (.int (-1)) ∧ h' = mj_setI (mj_setI (mj_setI (mj_setI (mj_setI (mj_setI (mj_setI (mj_setI (mj_new h 12 8) h.1 0 a1) h.1 1 a2) h.1 2 a3) h.1 3 a4) h.1 4 a5) h.1 5 a6) h.1 6 a7) h.1 7 a8) := by
  show mx 0 69 0 [.ref 8, .int a1, .int a2, .int a3, .int a4, .int a5, .int a6, .int a7, .int a8, mj_unset, mj_unset] [] h _
  refine x_aload_n f_69_0 rfl ?_
  refine x_getI f_69_1 C.k8 (by decide) ?_
  refine x_topi (w := nI sm) e_sm ?_
  refine x_bipush (v := nI 6) f_69_4 (by decide) ?_
  refine x_icmpN_ne (t := 11) f_69_6 (by decide) (by omega) (by decide) (fun c_1 => ?_) (fun c_1 => by omega)
  refine x_bipush (v := nI 8) f_69_11 (by decide) ?_
  refine x_newa f_69_13 (by decide) ?_
  refine x_dup f_69_15 rfl ?_
  refine x_iconst (v := nI 0) f_69_16 (by decide) ?_
  refine x_iload_n f_69_17 rfl ?_
  refine x_iast (j := 0) f_69_18 (mj_K_newA h 12 8) (by omega) (by omega) (by decide) ?_
  refine x_dup f_69_19 rfl ?_
  refine x_iconst (v := nI 1) f_69_20 (by decide) ?_
  refine x_iload_n f_69_21 rfl ?_
  refine x_iast (j := 1) f_69_22 (mj_K_newA h 12 8) (by omega) (by omega) (by decide) ?_
  refine x_dup f_69_23 rfl ?_
  refine x_iconst (v := nI 2) f_69_24 (by decide) ?_
  refine x_iload_n f_69_25 rfl ?_
  refine x_iast (j := 2) f_69_26 (mj_K_newA h 12 8) (by omega) (by omega) (by decide) ?_
  refine x_dup f_69_27 rfl ?_
  refine x_iconst (v := nI 3) f_69_28 (by decide) ?_
  refine x_iload f_69_29 rfl ?_
  refine x_iast (j := 3) f_69_31 (mj_K_newA h 12 8) (by omega) (by omega) (by decide) ?_
  refine x_dup f_69_32 rfl ?_
  refine x_iconst (v := nI 4) f_69_33 (by decide) ?_
  refine x_iload f_69_34 rfl ?_
  refine x_iast (j := 4) f_69_36 (mj_K_newA h 12 8) (by omega) (by omega) (by decide) ?_
  refine x_dup f_69_37 rfl ?_
  refine x_iconst (v := nI 5) f_69_38 (by decide) ?_
  refine x_iload f_69_39 rfl ?_
  refine x_iast (j := 5) f_69_41 (mj_K_newA h 12 8) (by omega) (by omega) (by decide) ?_
  refine x_dup f_69_42 rfl ?_
  refine x_bipush (v := nI 6) f_69_43 (by decide) ?_
  refine x_iload f_69_45 rfl ?_
  refine x_iast (j := 6) f_69_47 (mj_K_newA h 12 8) (by omega) (by omega) (by decide) ?_
  refine x_dup f_69_48 rfl ?_
  refine x_bipush (v := nI 7) f_69_49 (by decide) ?_
  refine x_iload f_69_51 rfl ?_
  refine x_iast (j := 7) f_69_53 (mj_K_newA h 12 8) (by omega) (by omega) (by decide) ?_
  refine x_astore (ls1 := [.ref 8, .int a1, .int a2, .int a3, .int a4, .int a5, .int a6, .int a7, .int a8, .ref h.1, mj_unset]) f_69_54 (Nat.le_of_ble_eq_true rfl) rfl ?_
  refine x_iconst (v := nI 0) f_69_56 (by decide) ?_
  refine x_istore (ls1 := [.ref 8, .int a1, .int a2, .int a3, .int a4, .int a5, .int a6, .int a7, .int a8, .ref h.1, .int (nI 0)]) f_69_57 (Nat.le_of_ble_eq_true rfl) rfl ?_
  refine x_iload f_69_59 rfl ?_
  refine x_bipush (v := nI 8) f_69_61 (by decide) ?_
  refine x_icmpN_ge (t := 102) f_69_63 (by decide) (by decide) (by decide) (fun c_2 => by omega) (fun c_2 => ?_)
  refine x_aload f_69_66 rfl ?_
  refine x_iload f_69_68 rfl ?_
  refine x_iald (j := 0) f_69_70 (mj_K_newA h 12 8) (by omega) (by decide) ?_
  refine x_topi (w := a1) ((mj_I_ne (by decide)).trans ((mj_I_ne (by decide)).trans ((mj_I_ne (by decide)).trans ((mj_I_ne (by decide)).trans ((mj_I_ne (by decide)).trans ((mj_I_ne (by decide)).trans ((mj_I_ne (by decide)).trans (mj_I_at _ _ _ _)))))))) ?_
  refine x_gets f_69_71 ?_
  refine x_iload f_69_74 rfl ?_
  refine x_iald (j := 0) f_69_76 ((mj_K_new (k := 12) (n := 8) (by show _ ≠ h.1; omega)).trans C.k0) (by omega) (by decide) ?_
  refine x_topi (w := nI 1) ((congrFun (mj_I_other (by omega)) _).trans ((congrFun (mj_I_other (by omega)) _).trans ((congrFun (mj_I_other (by omega)) _).trans ((congrFun (mj_I_other (by omega)) _).trans ((congrFun (mj_I_other (by omega)) _).trans ((congrFun (mj_I_other (by omega)) _).trans ((congrFun (mj_I_other (by omega)) _).trans ((congrFun (mj_I_other (by omega)) _).trans ((congrFun (mj_I_new (k := 12) (n := 8) (by show _ ≠ h.1; omega)) _).trans (C.v0_0)))))))))) ?_
  refine x_icmp_lt (t := 94) f_69_77 (by decide) (fun c_3 => ?_) (fun c_3 => ?_)
  · refine x_iconst (v := -1) f_69_94 (by decide) ?_
    refine x_retI f_69_95 rfl ?_
    exact ⟨rfl, rfl⟩
  · refine x_aload f_69_80 rfl ?_
    refine x_iload f_69_82 rfl ?_
    refine x_iald (j := 0) f_69_84 (mj_K_newA h 12 8) (by omega) (by decide) ?_
    refine x_topi (w := a1) ((mj_I_ne (by decide)).trans ((mj_I_ne (by decide)).trans ((mj_I_ne (by decide)).trans ((mj_I_ne (by decide)).trans ((mj_I_ne (by decide)).trans ((mj_I_ne (by decide)).trans ((mj_I_ne (by decide)).trans (mj_I_at _ _ _ _)))))))) ?_
    refine x_gets f_69_85 ?_
    refine x_iload f_69_88 rfl ?_
    refine x_iald (j := 0) f_69_90 ((mj_K_new (k := 12) (n := 8) (by show _ ≠ h.1; omega)).trans C.k1) (by omega) (by decide) ?_
    refine x_topi (w := nI 100) ((congrFun (mj_I_other (by omega)) _).trans ((congrFun (mj_I_other (by omega)) _).trans ((congrFun (mj_I_other (by omega)) _).trans ((congrFun (mj_I_other (by omega)) _).trans ((congrFun (mj_I_other (by omega)) _).trans ((congrFun (mj_I_other (by omega)) _).trans ((congrFun (mj_I_other (by omega)) _).trans ((congrFun (mj_I_other (by omega)) _).trans ((congrFun (mj_I_new (k := 12) (n := 8) (by show _ ≠ h.1; omega)) _).trans (C.v1_0)))))))))) ?_
    refine x_icmp_le (t := 96) f_69_91 (by decide) (fun c_4 => ?_) (fun c_4 => ?_)
    · refine x_iinc (v := nI 1) (ls1 := [.ref 8, .int a1, .int a2, .int a3, .int a4, .int a5, .int a6, .int a7, .int a8, .ref h.1, .int (nI 1)]) f_69_96 rfl (by decide) rfl ?_
      refine x_goto (t := 59) f_69_99 (by decide) ?_
      refine x_iload f_69_59 rfl ?_
      refine x_bipush (v := nI 8) f_69_61 (by decide) ?_
      refine x_icmpN_ge (t := 102) f_69_63 (by decide) (by decide) (by decide) (fun c_5 => by omega) (fun c_5 => ?_)
      refine x_aload f_69_66 rfl ?_
      refine x_iload f_69_68 rfl ?_
      refine x_iald (j := 1) f_69_70 (mj_K_newA h 12 8) (by omega) (by decide) ?_
      refine x_topi (w := a2) ((mj_I_ne (by decide)).trans ((mj_I_ne (by decide)).trans ((mj_I_ne (by decide)).trans ((mj_I_ne (by decide)).trans ((mj_I_ne (by decide)).trans ((mj_I_ne (by decide)).trans (mj_I_at _ _ _ _))))))) ?_
      refine x_gets f_69_71 ?_
      refine x_iload f_69_74 rfl ?_
      refine x_iald (j := 1) f_69_76 ((mj_K_new (k := 12) (n := 8) (by show _ ≠ h.1; omega)).trans C.k0) (by omega) (by decide) ?_
      refine x_topi (w := nI 1) ((congrFun (mj_I_other (by omega)) _).trans ((congrFun (mj_I_other (by omega)) _).trans ((congrFun (mj_I_other (by omega)) _).trans ((congrFun (mj_I_other (by omega)) _).trans ((congrFun (mj_I_other (by omega)) _).trans ((congrFun (mj_I_other (by omega)) _).trans ((congrFun (mj_I_other (by omega)) _).trans ((congrFun (mj_I_other (by omega)) _).trans ((congrFun (mj_I_new (k := 12) (n := 8) (by show _ ≠ h.1; omega)) _).trans (C.v0_1)))))))))) ?_
      refine x_icmp_lt (t := 94) f_69_77 (by decide) (fun c_6 => ?_) (fun c_6 => ?_)
      · refine x_iconst (v := -1) f_69_94 (by decide) ?_
        refine x_retI f_69_95 rfl ?_
        exact ⟨rfl, rfl⟩
      · refine x_aload f_69_80 rfl ?_
        refine x_iload f_69_82 rfl ?_
        refine x_iald (j := 1) f_69_84 (mj_K_newA h 12 8) (by omega) (by decide) ?_
        refine x_topi (w := a2) ((mj_I_ne (by decide)).trans ((mj_I_ne (by decide)).trans ((mj_I_ne (by decide)).trans ((mj_I_ne (by decide)).trans ((mj_I_ne (by decide)).trans ((mj_I_ne (by decide)).trans (mj_I_at _ _ _ _))))))) ?_
        refine x_gets f_69_85 ?_
        refine x_iload f_69_88 rfl ?_
        refine x_iald (j := 1) f_69_90 ((mj_K_new (k := 12) (n := 8) (by show _ ≠ h.1; omega)).trans C.k1) (by omega) (by decide) ?_
        refine x_topi (w := nI 100) ((congrFun (mj_I_other (by omega)) _).trans ((congrFun (mj_I_other (by omega)) _).trans ((congrFun (mj_I_other (by omega)) _).trans ((congrFun (mj_I_other (by omega)) _).trans ((congrFun (mj_I_other (by omega)) _).trans ((congrFun (mj_I_other (by omega)) _).trans ((congrFun (mj_I_other (by omega)) _).trans ((congrFun (mj_I_other (by omega)) _).trans ((congrFun (mj_I_new (k := 12) (n := 8) (by show _ ≠ h.1; omega)) _).trans (C.v1_1)))))))))) ?_
        refine x_icmp_le (t := 96) f_69_91 (by decide) (fun c_7 => ?_) (fun c_7 => ?_)
        · refine x_iinc (v := nI 2) (ls1 := [.ref 8, .int a1, .int a2, .int a3, .int a4, .int a5, .int a6, .int a7, .int a8, .ref h.1, .int (nI 2)]) f_69_96 rfl (by decide) rfl ?_
          refine x_goto (t := 59) f_69_99 (by decide) ?_
          refine x_iload f_69_59 rfl ?_
          refine x_bipush (v := nI 8) f_69_61 (by decide) ?_
          refine x_icmpN_ge (t := 102) f_69_63 (by decide) (by decide) (by decide) (fun c_8 => by omega) (fun c_8 => ?_)
          refine x_aload f_69_66 rfl ?_
          refine x_iload f_69_68 rfl ?_
          refine x_iald (j := 2) f_69_70 (mj_K_newA h 12 8) (by omega) (by decide) ?_
          refine x_topi (w := a3) ((mj_I_ne (by decide)).trans ((mj_I_ne (by decide)).trans ((mj_I_ne (by decide)).trans ((mj_I_ne (by decide)).trans ((mj_I_ne (by decide)).trans (mj_I_at _ _ _ _)))))) ?_
          refine x_gets f_69_71 ?_
          refine x_iload f_69_74 rfl ?_
          refine x_iald (j := 2) f_69_76 ((mj_K_new (k := 12) (n := 8) (by show _ ≠ h.1; omega)).trans C.k0) (by omega) (by decide) ?_
          refine x_topi (w := nI 0) ((congrFun (mj_I_other (by omega)) _).trans ((congrFun (mj_I_other (by omega)) _).trans ((congrFun (mj_I_other (by omega)) _).trans ((congrFun (mj_I_other (by omega)) _).trans ((congrFun (mj_I_other (by omega)) _).trans ((congrFun (mj_I_other (by omega)) _).trans ((congrFun (mj_I_other (by omega)) _).trans ((congrFun (mj_I_other (by omega)) _).trans ((congrFun (mj_I_new (k := 12) (n := 8) (by show _ ≠ h.1; omega)) _).trans (C.v0_2)))))))))) ?_
          refine x_icmp_lt (t := 94) f_69_77 (by decide) (fun c_9 => ?_) (fun c_9 => ?_)
          · refine x_iconst (v := -1) f_69_94 (by decide) ?_
            refine x_retI f_69_95 rfl ?_
            exact ⟨rfl, rfl⟩
          · refine x_aload f_69_80 rfl ?_
            refine x_iload f_69_82 rfl ?_
            refine x_iald (j := 2) f_69_84 (mj_K_newA h 12 8) (by omega) (by decide) ?_
            refine x_topi (w := a3) ((mj_I_ne (by decide)).trans ((mj_I_ne (by decide)).trans ((mj_I_ne (by decide)).trans ((mj_I_ne (by decide)).trans ((mj_I_ne (by decide)).trans (mj_I_at _ _ _ _)))))) ?_
            refine x_gets f_69_85 ?_
            refine x_iload f_69_88 rfl ?_
            refine x_iald (j := 2) f_69_90 ((mj_K_new (k := 12) (n := 8) (by show _ ≠ h.1; omega)).trans C.k1) (by omega) (by decide) ?_
            refine x_topi (w := nI 300) ((congrFun (mj_I_other (by omega)) _).trans ((congrFun (mj_I_other (by omega)) _).trans ((congrFun (mj_I_other (by omega)) _).trans ((congrFun (mj_I_other (by omega)) _).trans ((congrFun (mj_I_other (by omega)) _).trans ((congrFun (mj_I_other (by omega)) _).trans ((congrFun (mj_I_other (by omega)) _).trans ((congrFun (mj_I_other (by omega)) _).trans ((congrFun (mj_I_new (k := 12) (n := 8) (by show _ ≠ h.1; omega)) _).trans (C.v1_2)))))))))) ?_
            refine x_icmp_le (t := 96) f_69_91 (by decide) (fun c_10 => ?_) (fun c_10 => ?_)
            · refine x_iinc (v := nI 3) (ls1 := [.ref 8, .int a1, .int a2, .int a3, .int a4, .int a5, .int a6, .int a7, .int a8, .ref h.1, .int (nI 3)]) f_69_96 rfl (by decide) rfl ?_
              refine x_goto (t := 59) f_69_99 (by decide) ?_
              refine x_iload f_69_59 rfl ?_
              refine x_bipush (v := nI 8) f_69_61 (by decide) ?_
              refine x_icmpN_ge (t := 102) f_69_63 (by decide) (by decide) (by decide) (fun c_11 => by omega) (fun c_11 => ?_)
              refine x_aload f_69_66 rfl ?_
              refine x_iload f_69_68 rfl ?_
              refine x_iald (j := 3) f_69_70 (mj_K_newA h 12 8) (by omega) (by decide) ?_
              refine x_topi (w := a4) ((mj_I_ne (by decide)).trans ((mj_I_ne (by decide)).trans ((mj_I_ne (by decide)).trans ((mj_I_ne (by decide)).trans (mj_I_at _ _ _ _))))) ?_
              refine x_gets f_69_71 ?_
              refine x_iload f_69_74 rfl ?_
              refine x_iald (j := 3) f_69_76 ((mj_K_new (k := 12) (n := 8) (by show _ ≠ h.1; omega)).trans C.k0) (by omega) (by decide) ?_
              refine x_topi (w := nI 50) ((congrFun (mj_I_other (by omega)) _).trans ((congrFun (mj_I_other (by omega)) _).trans ((congrFun (mj_I_other (by omega)) _).trans ((congrFun (mj_I_other (by omega)) _).trans ((congrFun (mj_I_other (by omega)) _).trans ((congrFun (mj_I_other (by omega)) _).trans ((congrFun (mj_I_other (by omega)) _).trans ((congrFun (mj_I_other (by omega)) _).trans ((congrFun (mj_I_new (k := 12) (n := 8) (by show _ ≠ h.1; omega)) _).trans (C.v0_3)))))))))) ?_
              refine x_icmp_lt (t := 94) f_69_77 (by decide) (fun c_12 => ?_) (fun c_12 => ?_)
              · refine x_iconst (v := -1) f_69_94 (by decide) ?_
                refine x_retI f_69_95 rfl ?_
                exact ⟨rfl, rfl⟩
              · refine x_aload f_69_80 rfl ?_
                refine x_iload f_69_82 rfl ?_
                refine x_iald (j := 3) f_69_84 (mj_K_newA h 12 8) (by omega) (by decide) ?_
                refine x_topi (w := a4) ((mj_I_ne (by decide)).trans ((mj_I_ne (by decide)).trans ((mj_I_ne (by decide)).trans ((mj_I_ne (by decide)).trans (mj_I_at _ _ _ _))))) ?_
                refine x_gets f_69_85 ?_
                refine x_iload f_69_88 rfl ?_
                refine x_iald (j := 3) f_69_90 ((mj_K_new (k := 12) (n := 8) (by show _ ≠ h.1; omega)).trans C.k1) (by omega) (by decide) ?_
                refine x_topi (w := nI 900) ((congrFun (mj_I_other (by omega)) _).trans ((congrFun (mj_I_other (by omega)) _).trans ((congrFun (mj_I_other (by omega)) _).trans ((congrFun (mj_I_other (by omega)) _).trans ((congrFun (mj_I_other (by omega)) _).trans ((congrFun (mj_I_other (by omega)) _).trans ((congrFun (mj_I_other (by omega)) _).trans ((congrFun (mj_I_other (by omega)) _).trans ((congrFun (mj_I_new (k := 12) (n := 8) (by show _ ≠ h.1; omega)) _).trans (C.v1_3)))))))))) ?_
                refine x_icmp_le (t := 96) f_69_91 (by decide) (fun c_13 => ?_) (fun c_13 => ?_)
                · refine x_iinc (v := nI 4) (ls1 := [.ref 8, .int a1, .int a2, .int a3, .int a4, .int a5, .int a6, .int a7, .int a8, .ref h.1, .int (nI 4)]) f_69_96 rfl (by decide) rfl ?_
                  refine x_goto (t := 59) f_69_99 (by decide) ?_
                  refine x_iload f_69_59 rfl ?_
                  refine x_bipush (v := nI 8) f_69_61 (by decide) ?_
                  refine x_icmpN_ge (t := 102) f_69_63 (by decide) (by decide) (by decide) (fun c_14 => by omega) (fun c_14 => ?_)
                  refine x_aload f_69_66 rfl ?_
                  refine x_iload f_69_68 rfl ?_
                  refine x_iald (j := 4) f_69_70 (mj_K_newA h 12 8) (by omega) (by decide) ?_
                  refine x_topi (w := a5) ((mj_I_ne (by decide)).trans ((mj_I_ne (by decide)).trans ((mj_I_ne (by decide)).trans (mj_I_at _ _ _ _)))) ?_
                  refine x_gets f_69_71 ?_
                  refine x_iload f_69_74 rfl ?_
                  refine x_iald (j := 4) f_69_76 ((mj_K_new (k := 12) (n := 8) (by show _ ≠ h.1; omega)).trans C.k0) (by omega) (by decide) ?_
                  refine x_topi (w := nI 1) ((congrFun (mj_I_other (by omega)) _).trans ((congrFun (mj_I_other (by omega)) _).trans ((congrFun (mj_I_other (by omega)) _).trans ((congrFun (mj_I_other (by omega)) _).trans ((congrFun (mj_I_other (by omega)) _).trans ((congrFun (mj_I_other (by omega)) _).trans ((congrFun (mj_I_other (by omega)) _).trans ((congrFun (mj_I_other (by omega)) _).trans ((congrFun (mj_I_new (k := 12) (n := 8) (by show _ ≠ h.1; omega)) _).trans (C.v0_4)))))))))) ?_
                  refine x_icmp_lt (t := 94) f_69_77 (by decide) (fun c_15 => ?_) (fun c_15 => ?_)
                  · refine x_iconst (v := -1) f_69_94 (by decide) ?_
                    refine x_retI f_69_95 rfl ?_
                    exact ⟨rfl, rfl⟩
                  · refine x_aload f_69_80 rfl ?_
                    refine x_iload f_69_82 rfl ?_
                    refine x_iald (j := 4) f_69_84 (mj_K_newA h 12 8) (by omega) (by decide) ?_
                    refine x_topi (w := a5) ((mj_I_ne (by decide)).trans ((mj_I_ne (by decide)).trans ((mj_I_ne (by decide)).trans (mj_I_at _ _ _ _)))) ?_
                    refine x_gets f_69_85 ?_
                    refine x_iload f_69_88 rfl ?_
                    refine x_iald (j := 4) f_69_90 ((mj_K_new (k := 12) (n := 8) (by show _ ≠ h.1; omega)).trans C.k1) (by omega) (by decide) ?_
                    refine x_topi (w := nI 100) ((congrFun (mj_I_other (by omega)) _).trans ((congrFun (mj_I_other (by omega)) _).trans ((congrFun (mj_I_other (by omega)) _).trans ((congrFun (mj_I_other (by omega)) _).trans ((congrFun (mj_I_other (by omega)) _).trans ((congrFun (mj_I_other (by omega)) _).trans ((congrFun (mj_I_other (by omega)) _).trans ((congrFun (mj_I_other (by omega)) _).trans ((congrFun (mj_I_new (k := 12) (n := 8) (by show _ ≠ h.1; omega)) _).trans (C.v1_4)))))))))) ?_
                    refine x_icmp_le (t := 96) f_69_91 (by decide) (fun c_16 => ?_) (fun c_16 => ?_)
                    · refine x_iinc (v := nI 5) (ls1 := [.ref 8, .int a1, .int a2, .int a3, .int a4, .int a5, .int a6, .int a7, .int a8, .ref h.1, .int (nI 5)]) f_69_96 rfl (by decide) rfl ?_
                      refine x_goto (t := 59) f_69_99 (by decide) ?_
                      refine x_iload f_69_59 rfl ?_
                      refine x_bipush (v := nI 8) f_69_61 (by decide) ?_
                      refine x_icmpN_ge (t := 102) f_69_63 (by decide) (by decide) (by decide) (fun c_17 => by omega) (fun c_17 => ?_)
                      refine x_aload f_69_66 rfl ?_
                      refine x_iload f_69_68 rfl ?_
                      refine x_iald (j := 5) f_69_70 (mj_K_newA h 12 8) (by omega) (by decide) ?_
                      refine x_topi (w := a6) ((mj_I_ne (by decide)).trans ((mj_I_ne (by decide)).trans (mj_I_at _ _ _ _))) ?_
                      refine x_gets f_69_71 ?_
                      refine x_iload f_69_74 rfl ?_
                      refine x_iald (j := 5) f_69_76 ((mj_K_new (k := 12) (n := 8) (by show _ ≠ h.1; omega)).trans C.k0) (by omega) (by decide) ?_
                      refine x_topi (w := nI 50) ((congrFun (mj_I_other (by omega)) _).trans ((congrFun (mj_I_other (by omega)) _).trans ((congrFun (mj_I_other (by omega)) _).trans ((congrFun (mj_I_other (by omega)) _).trans ((congrFun (mj_I_other (by omega)) _).trans ((congrFun (mj_I_other (by omega)) _).trans ((congrFun (mj_I_other (by omega)) _).trans ((congrFun (mj_I_other (by omega)) _).trans ((congrFun (mj_I_new (k := 12) (n := 8) (by show _ ≠ h.1; omega)) _).trans (C.v0_5)))))))))) ?_
                      refine x_icmp_lt (t := 94) f_69_77 (by decide) (fun c_18 => ?_) (fun c_18 => ?_)
                      · refine x_iconst (v := -1) f_69_94 (by decide) ?_
                        refine x_retI f_69_95 rfl ?_
                        exact ⟨rfl, rfl⟩
                      · refine x_aload f_69_80 rfl ?_
                        refine x_iload f_69_82 rfl ?_
                        refine x_iald (j := 5) f_69_84 (mj_K_newA h 12 8) (by omega) (by decide) ?_
                        refine x_topi (w := a6) ((mj_I_ne (by decide)).trans ((mj_I_ne (by decide)).trans (mj_I_at _ _ _ _))) ?_
                        refine x_gets f_69_85 ?_
                        refine x_iload f_69_88 rfl ?_
                        refine x_iald (j := 5) f_69_90 ((mj_K_new (k := 12) (n := 8) (by show _ ≠ h.1; omega)).trans C.k1) (by omega) (by decide) ?_
                        refine x_topi (w := nI 999) ((congrFun (mj_I_other (by omega)) _).trans ((congrFun (mj_I_other (by omega)) _).trans ((congrFun (mj_I_other (by omega)) _).trans ((congrFun (mj_I_other (by omega)) _).trans ((congrFun (mj_I_other (by omega)) _).trans ((congrFun (mj_I_other (by omega)) _).trans ((congrFun (mj_I_other (by omega)) _).trans ((congrFun (mj_I_other (by omega)) _).trans ((congrFun (mj_I_new (k := 12) (n := 8) (by show _ ≠ h.1; omega)) _).trans (C.v1_5)))))))))) ?_
                        refine x_icmp_le (t := 96) f_69_91 (by decide) (fun c_19 => ?_) (fun c_19 => ?_)
                        · refine x_iinc (v := nI 6) (ls1 := [.ref 8, .int a1, .int a2, .int a3, .int a4, .int a5, .int a6, .int a7, .int a8, .ref h.1, .int (nI 6)]) f_69_96 rfl (by decide) rfl ?_
                          refine x_goto (t := 59) f_69_99 (by decide) ?_
                          refine x_iload f_69_59 rfl ?_
                          refine x_bipush (v := nI 8) f_69_61 (by decide) ?_
                          refine x_icmpN_ge (t := 102) f_69_63 (by decide) (by decide) (by decide) (fun c_20 => by omega) (fun c_20 => ?_)
                          refine x_aload f_69_66 rfl ?_
                          refine x_iload f_69_68 rfl ?_
                          refine x_iald (j := 6) f_69_70 (mj_K_newA h 12 8) (by omega) (by decide) ?_
                          refine x_topi (w := a7) ((mj_I_ne (by decide)).trans (mj_I_at _ _ _ _)) ?_
                          refine x_gets f_69_71 ?_
                          refine x_iload f_69_74 rfl ?_
                          refine x_iald (j := 6) f_69_76 ((mj_K_new (k := 12) (n := 8) (by show _ ≠ h.1; omega)).trans C.k0) (by omega) (by decide) ?_
                          refine x_topi (w := nI 0) ((congrFun (mj_I_other (by omega)) _).trans ((congrFun (mj_I_other (by omega)) _).trans ((congrFun (mj_I_other (by omega)) _).trans ((congrFun (mj_I_other (by omega)) _).trans ((congrFun (mj_I_other (by omega)) _).trans ((congrFun (mj_I_other (by omega)) _).trans ((congrFun (mj_I_other (by omega)) _).trans ((congrFun (mj_I_other (by omega)) _).trans ((congrFun (mj_I_new (k := 12) (n := 8) (by show _ ≠ h.1; omega)) _).trans (C.v0_6)))))))))) ?_
                          refine x_icmp_lt (t := 94) f_69_77 (by decide) (fun c_21 => ?_) (fun c_21 => ?_)
                          · refine x_iconst (v := -1) f_69_94 (by decide) ?_
                            refine x_retI f_69_95 rfl ?_
                            exact ⟨rfl, rfl⟩
                          · refine x_aload f_69_80 rfl ?_
                            refine x_iload f_69_82 rfl ?_
                            refine x_iald (j := 6) f_69_84 (mj_K_newA h 12 8) (by omega) (by decide) ?_
                            refine x_topi (w := a7) ((mj_I_ne (by decide)).trans (mj_I_at _ _ _ _)) ?_
                            refine x_gets f_69_85 ?_
                            refine x_iload f_69_88 rfl ?_
                            refine x_iald (j := 6) f_69_90 ((mj_K_new (k := 12) (n := 8) (by show _ ≠ h.1; omega)).trans C.k1) (by omega) (by decide) ?_
                            refine x_topi (w := nI 500) ((congrFun (mj_I_other (by omega)) _).trans ((congrFun (mj_I_other (by omega)) _).trans ((congrFun (mj_I_other (by omega)) _).trans ((congrFun (mj_I_other (by omega)) _).trans ((congrFun (mj_I_other (by omega)) _).trans ((congrFun (mj_I_other (by omega)) _).trans ((congrFun (mj_I_other (by omega)) _).trans ((congrFun (mj_I_other (by omega)) _).trans ((congrFun (mj_I_new (k := 12) (n := 8) (by show _ ≠ h.1; omega)) _).trans (C.v1_6)))))))))) ?_
                            refine x_icmp_le (t := 96) f_69_91 (by decide) (fun c_22 => ?_) (fun c_22 => ?_)
                            · refine x_iinc (v := nI 7) (ls1 := [.ref 8, .int a1, .int a2, .int a3, .int a4, .int a5, .int a6, .int a7, .int a8, .ref h.1, .int (nI 7)]) f_69_96 rfl (by decide) rfl ?_
                              refine x_goto (t := 59) f_69_99 (by decide) ?_
                              refine x_iload f_69_59 rfl ?_
                              refine x_bipush (v := nI 8) f_69_61 (by decide) ?_
                              refine x_icmpN_ge (t := 102) f_69_63 (by decide) (by decide) (by decide) (fun c_23 => by omega) (fun c_23 => ?_)
                              refine x_aload f_69_66 rfl ?_
                              refine x_iload f_69_68 rfl ?_
                              refine x_iald (j := 7) f_69_70 (mj_K_newA h 12 8) (by omega) (by decide) ?_
                              refine x_topi (w := a8) (mj_I_at _ _ _ _) ?_
                              refine x_gets f_69_71 ?_
                              refine x_iload f_69_74 rfl ?_
                              refine x_iald (j := 7) f_69_76 ((mj_K_new (k := 12) (n := 8) (by show _ ≠ h.1; omega)).trans C.k0) (by omega) (by decide) ?_
                              refine x_topi (w := nI 1) ((congrFun (mj_I_other (by omega)) _).trans ((congrFun (mj_I_other (by omega)) _).trans ((congrFun (mj_I_other (by omega)) _).trans ((congrFun (mj_I_other (by omega)) _).trans ((congrFun (mj_I_other (by omega)) _).trans ((congrFun (mj_I_other (by omega)) _).trans ((congrFun (mj_I_other (by omega)) _).trans ((congrFun (mj_I_other (by omega)) _).trans ((congrFun (mj_I_new (k := 12) (n := 8) (by show _ ≠ h.1; omega)) _).trans (C.v0_7)))))))))) ?_
                              refine x_icmp_lt (t := 94) f_69_77 (by decide) (fun c_24 => ?_) (fun c_24 => ?_)
                              · refine x_iconst (v := -1) f_69_94 (by decide) ?_
                                refine x_retI f_69_95 rfl ?_
                                exact ⟨rfl, rfl⟩
                              · refine x_aload f_69_80 rfl ?_
                                refine x_iload f_69_82 rfl ?_
                                refine x_iald (j := 7) f_69_84 (mj_K_newA h 12 8) (by omega) (by decide) ?_
                                refine x_topi (w := a8) (mj_I_at _ _ _ _) ?_
                                refine x_gets f_69_85 ?_
                                refine x_iload f_69_88 rfl ?_
                                refine x_iald (j := 7) f_69_90 ((mj_K_new (k := 12) (n := 8) (by show _ ≠ h.1; omega)).trans C.k1) (by omega) (by decide) ?_
                                refine x_topi (w := nI 500) ((congrFun (mj_I_other (by omega)) _).trans ((congrFun (mj_I_other (by omega)) _).trans ((congrFun (mj_I_other (by omega)) _).trans ((congrFun (mj_I_other (by omega)) _).trans ((congrFun (mj_I_other (by omega)) _).trans ((congrFun (mj_I_other (by omega)) _).trans ((congrFun (mj_I_other (by omega)) _).trans ((congrFun (mj_I_other (by omega)) _).trans ((congrFun (mj_I_new (k := 12) (n := 8) (by show _ ≠ h.1; omega)) _).trans (C.v1_7)))))))))) ?_
                                refine x_icmp_le (t := 96) f_69_91 (by decide) (fun c_25 => ?_) (fun c_25 => ?_)
                                · refine x_iinc (v := nI 8) (ls1 := [.ref 8, .int a1, .int a2, .int a3, .int a4, .int a5, .int a6, .int a7, .int a8, .ref h.1, .int (nI 8)]) f_69_96 rfl (by decide) rfl ?_
                                  refine x_goto (t := 59) f_69_99 (by decide) ?_
                                  refine x_iload f_69_59 rfl ?_
                                  refine x_bipush (v := nI 8) f_69_61 (by decide) ?_
                                  refine x_icmpN_ge (t := 102) f_69_63 (by decide) (by decide) (by decide) (fun c_26 => ?_) (fun c_26 => by omega)
                                  exact absurd ⟨⟨Int32.not_lt.mp c_3, c_4⟩, ⟨Int32.not_lt.mp c_6, c_7⟩, ⟨Int32.not_lt.mp c_9, c_10⟩, ⟨Int32.not_lt.mp c_12, c_13⟩, ⟨Int32.not_lt.mp c_15, c_16⟩, ⟨Int32.not_lt.mp c_18, c_19⟩, ⟨Int32.not_lt.mp c_21, c_22⟩, ⟨Int32.not_lt.mp c_24, c_25⟩⟩ hb
                                · refine x_iconst (v := -1) f_69_94 (by decide) ?_
                                  refine x_retI f_69_95 rfl ?_
                                  exact ⟨rfl, rfl⟩
                            · refine x_iconst (v := -1) f_69_94 (by decide) ?_
                              refine x_retI f_69_95 rfl ?_
                              exact ⟨rfl, rfl⟩
                        · refine x_iconst (v := -1) f_69_94 (by decide) ?_
                          refine x_retI f_69_95 rfl ?_
                          exact ⟨rfl, rfl⟩
                    · refine x_iconst (v := -1) f_69_94 (by decide) ?_
                      refine x_retI f_69_95 rfl ?_
                      exact ⟨rfl, rfl⟩
                · refine x_iconst (v := -1) f_69_94 (by decide) ?_
                  refine x_retI f_69_95 rfl ?_
                  exact ⟨rfl, rfl⟩
            · refine x_iconst (v := -1) f_69_94 (by decide) ?_
              refine x_retI f_69_95 rfl ?_
              exact ⟨rfl, rfl⟩
        · refine x_iconst (v := -1) f_69_94 (by decide) ?_
          refine x_retI f_69_95 rfl ?_
          exact ⟨rfl, rfl⟩
    · refine x_iconst (v := -1) f_69_94 (by decide) ?_
      refine x_retI f_69_95 rfl ?_
      exact ⟨rfl, rfl⟩
