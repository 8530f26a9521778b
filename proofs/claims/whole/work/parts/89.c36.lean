/-! WELDS asked; days, settings, counts, the tape -/
set_option maxRecDepth 20000 in
theorem k_weldOfV {h : mj_H} {jm : Nat} (c : CJ h jm) (h_jm : jm ≤ 20) (e_jm : mj_I h 8 11 = nI jm) {j z : Nat} (hj : j < jm) (hz : z < 729) : mxc 3 103 [.ref 8, .int (nI j), .int (nI z)] h (fun r h' => r = some (.int (nI 1)) ∧ CQ h h' jm ∧ BR h' j z) := by
  have hc := (c.2.2.1 j hj).1
  show mx 3 103 0 [.ref 8, .int (nI j), .int (nI z), mj_unset] [] h _
  refine x_aload_n f_103_0 rfl ?_
  refine x_iload_n f_103_1 rfl ?_
  refine x_callVe f_103_2 (k_jobAt c.1 h_jm e_jm hj hc.1.1) (by omega) c.1.k8 (by decide) rfl rfl (Nat.le_of_ble_eq_true rfl) rfl ?_
  refine x_astore_n (ls1 := [.ref 8, .int (nI j), .int (nI z), .ref (jA h j)]) f_103_5 (Nat.le_of_ble_eq_true rfl) rfl ?_
  refine x_aload_n f_103_6 rfl ?_
  refine x_ifnull f_103_7 ?_
  refine x_iload_n f_103_10 rfl ?_
  refine x_callSe f_103_11 (k_isSetting _ _) (by omega) rfl rfl rfl (Nat.le_of_ble_eq_true rfl) rfl ?_
  refine x_ifB_ne (t := 19) f_103_14 (by decide) (fun c_1 => ?_) (fun c_1 => absurd (mIn_nI hz (by decide)) c_1)
  refine x_aload_n f_103_19 rfl ?_
  refine x_getR f_103_20 c.1.k8 (by decide) c.1.r8_3 ?_
  refine x_aload_n f_103_23 rfl ?_
  refine x_iload_n f_103_24 rfl ?_
  refine x_callV f_103_25 (k_weld c hj hz) (by omega) c.1.k12 (by decide) rfl rfl (Nat.le_of_ble_eq_true rfl) rfl ?_
  rintro _ g ⟨rfl, q, hb⟩
  refine x_iconst (v := nI 1) f_103_28 (by decide) ?_
  refine x_retZ f_103_29 rfl (by decide) ?_
  exact ⟨rfl, q, hb⟩
set_option maxRecDepth 20000 in
theorem k_weldOfS {h : mj_H} {jm : Nat} (c : CJ h jm) (h_jm : jm ≤ 20) (e_jm : mj_I h 8 11 = nI jm) {j : Nat} (hj : j < jm) (v : Int32) (hz : ¬ mIn v 729) : mxc 1 103 [.ref 8, .int (nI j), .int v] h (fun r h' => r = some (.int (nI 0)) ∧ h' = h) := by
  have hc := (c.2.2.1 j hj).1
  show mx 1 103 0 [.ref 8, .int (nI j), .int v, mj_unset] [] h _
  refine x_aload_n f_103_0 rfl ?_
  refine x_iload_n f_103_1 rfl ?_
  refine x_callVe f_103_2 (k_jobAt c.1 h_jm e_jm hj hc.1.1) (by omega) c.1.k8 (by decide) rfl rfl (Nat.le_of_ble_eq_true rfl) rfl ?_
  refine x_astore_n (ls1 := [.ref 8, .int (nI j), .int v, .ref (jA h j)]) f_103_5 (Nat.le_of_ble_eq_true rfl) rfl ?_
  refine x_aload_n f_103_6 rfl ?_
  refine x_ifnull f_103_7 ?_
  refine x_iload_n f_103_10 rfl ?_
  refine x_callSe f_103_11 (k_isSetting _ _) (by omega) rfl rfl rfl (Nat.le_of_ble_eq_true rfl) rfl ?_
  refine x_ifB_ne (t := 19) f_103_14 (by decide) (fun c_1 => absurd c_1 hz) (fun c_1 => ?_)
  refine x_iconst (v := nI 0) f_103_17 (by decide) ?_
  refine x_retZ f_103_18 rfl (by decide) ?_
  exact ⟨rfl, rfl⟩
set_option maxRecDepth 20000 in
theorem k_weldOf0 {h : mj_H} {jm : Nat} (c : CJ h jm) (h_jm : jm ≤ 20) (e_jm : mj_I h 8 11 = nI jm) (u v : Int32) (hin : ¬ mIn u jm) : mxc 1 103 [.ref 8, .int u, .int v] h (fun r h' => r = some (.int (nI 0)) ∧ h' = h) := by
  show mx 1 103 0 [.ref 8, .int u, .int v, mj_unset] [] h _
  refine x_aload_n f_103_0 rfl ?_
  refine x_iload_n f_103_1 rfl ?_
  refine x_callVe f_103_2 (k_jobAt0 c.1 _ h_jm e_jm hin) (by omega) c.1.k8 (by decide) rfl rfl (Nat.le_of_ble_eq_true rfl) rfl ?_
  refine x_astore_nN (ls1 := [.ref 8, .int u, .int v, .null]) f_103_5 (Nat.le_of_ble_eq_true rfl) rfl ?_
  refine x_aload_nN f_103_6 rfl ?_
  refine x_ifnullN (t := 17) f_103_7 (by decide) ?_
  refine x_iconst (v := nI 0) f_103_17 (by decide) ?_
  refine x_retZ f_103_18 rfl (by decide) ?_
  exact ⟨rfl, rfl⟩
theorem k_weldOfI {h : mj_H} {jm : Nat} (c : CJ h jm) (h_jm : jm ≤ 20) (e_jm : mj_I h 8 11 = nI jm) (u v : Int32) (hn : ¬ (mIn u jm ∧ mIn v 729)) : mxc 1 103 [.ref 8, .int u, .int v] h (fun r h' => r = some (.int (nI 0)) ∧ h' = h) := by
  by_cases hu : mIn u jm
  · obtain ⟨j, hj, rfl⟩ := mIn_of hu (by omega)
    exact k_weldOfS c h_jm e_jm hj v (fun z => hn ⟨hu, z⟩)
  · exact k_weldOf0 c h_jm e_jm u v hu
theorem BR_h {h g : mj_H} {jm j z : Nat} (q : CQ h g jm) (b : BR g j z) : cT g = wd_T (mM h j) (rgs h j) z ∧ mj_I g 12 6 = nI (wd_1 (mM h j) (rgs h j) z).1 ∧ mj_I g 12 7 = nI (vd h j z) ∧ mj_I g 12 8 = (jd (mM h j) (rgs h j) z).2 := by
  obtain ⟨b1, b2, b3, b4, _⟩ := b
  rw [q.2.eM, q.2.eG] at b1 b2 b3 b4
  exact ⟨b1, b2, b3, b4⟩
set_option maxRecDepth 20000 in
theorem k_verdictV {h : mj_H} {jm : Nat} (c : CJ h jm) (h_jm : jm ≤ 20) (e_jm : mj_I h 8 11 = nI jm) {j z : Nat} (hj : j < jm) (hz : z < 729) : mxc 4 74 [.ref 8, .int (nI j), .int (nI z)] h (fun r h' => r = some (.int (nI (vd h j z))) ∧ CQ h h' jm) := by
  have hc := (c.2.2.1 j hj).1
  show mx 4 74 0 [.ref 8, .int (nI j), .int (nI z)] [] h _
  refine x_aload_n f_74_0 rfl ?_
  refine x_iload_n f_74_1 rfl ?_
  refine x_iload_n f_74_2 rfl ?_
  refine x_callV f_74_3 (k_weldOfV c h_jm e_jm hj hz) (by omega) c.1.k8 (by decide) rfl rfl (Nat.le_of_ble_eq_true rfl) rfl ?_
  rintro _ g ⟨rfl, q, hb⟩
  refine x_ifN_eq (t := 19) f_74_6 (by decide) (by decide) (fun c_1 => by omega) (fun c_1 => ?_)
  refine x_aload_n f_74_9 rfl ?_
  refine x_getR f_74_10 q.1.1.k8 (by decide) q.1.1.r8_3 ?_
  refine x_getI f_74_13 q.1.1.k12 (by decide) ?_
  refine x_topi (w := nI (vd h j z)) (BR_h q hb).2.2.1 ?_
  refine x_goto (t := 20) f_74_16 (by decide) ?_
  refine x_retI f_74_20 rfl ?_
  exact ⟨rfl, q⟩
set_option maxRecDepth 20000 in
theorem k_verdictI {h : mj_H} {jm : Nat} (c : CJ h jm) (h_jm : jm ≤ 20) (e_jm : mj_I h 8 11 = nI jm) (u v : Int32) (hn : ¬ (mIn u jm ∧ mIn v 729)) : mxc 2 74 [.ref 8, .int u, .int v] h (fun r h' => r = some (.int (-1)) ∧ h' = h) := by
  show mx 2 74 0 [.ref 8, .int u, .int v] [] h _
  refine x_aload_n f_74_0 rfl ?_
  refine x_iload_n f_74_1 rfl ?_
  refine x_iload_n f_74_2 rfl ?_
  refine x_callVe f_74_3 (k_weldOfI c h_jm e_jm _ _ hn) (by omega) c.1.k8 (by decide) rfl rfl (Nat.le_of_ble_eq_true rfl) rfl ?_
  refine x_ifN_eq (t := 19) f_74_6 (by decide) (by decide) (fun c_1 => ?_) (fun c_1 => by omega)
  refine x_iconst (v := -1) f_74_19 (by decide) ?_
  refine x_retI f_74_20 rfl ?_
  exact ⟨rfl, rfl⟩
set_option maxRecDepth 20000 in
theorem k_byV {h : mj_H} {jm : Nat} (c : CJ h jm) (h_jm : jm ≤ 20) (e_jm : mj_I h 8 11 = nI jm) {j z : Nat} (hj : j < jm) (hz : z < 729) : mxc 4 76 [.ref 8, .int (nI j), .int (nI z)] h (fun r h' => r = some (.int ((jd (mM h j) (rgs h j) z).2)) ∧ CQ h h' jm) := by
  have hc := (c.2.2.1 j hj).1
  show mx 4 76 0 [.ref 8, .int (nI j), .int (nI z)] [] h _
  refine x_aload_n f_76_0 rfl ?_
  refine x_iload_n f_76_1 rfl ?_
  refine x_iload_n f_76_2 rfl ?_
  refine x_callV f_76_3 (k_weldOfV c h_jm e_jm hj hz) (by omega) c.1.k8 (by decide) rfl rfl (Nat.le_of_ble_eq_true rfl) rfl ?_
  rintro _ g ⟨rfl, q, hb⟩
  refine x_ifN_eq (t := 19) f_76_6 (by decide) (by decide) (fun c_1 => by omega) (fun c_1 => ?_)
  refine x_aload_n f_76_9 rfl ?_
  refine x_getR f_76_10 q.1.1.k8 (by decide) q.1.1.r8_3 ?_
  refine x_getI f_76_13 q.1.1.k12 (by decide) ?_
  refine x_topi (w := (jd (mM h j) (rgs h j) z).2) (BR_h q hb).2.2.2 ?_
  refine x_goto (t := 20) f_76_16 (by decide) ?_
  refine x_retI f_76_20 rfl ?_
  exact ⟨rfl, q⟩
set_option maxRecDepth 20000 in
theorem k_byI {h : mj_H} {jm : Nat} (c : CJ h jm) (h_jm : jm ≤ 20) (e_jm : mj_I h 8 11 = nI jm) (u v : Int32) (hn : ¬ (mIn u jm ∧ mIn v 729)) : mxc 2 76 [.ref 8, .int u, .int v] h (fun r h' => r = some (.int (-1)) ∧ h' = h) := by
  show mx 2 76 0 [.ref 8, .int u, .int v] [] h _
  refine x_aload_n f_76_0 rfl ?_
  refine x_iload_n f_76_1 rfl ?_
  refine x_iload_n f_76_2 rfl ?_
  refine x_callVe f_76_3 (k_weldOfI c h_jm e_jm _ _ hn) (by omega) c.1.k8 (by decide) rfl rfl (Nat.le_of_ble_eq_true rfl) rfl ?_
  refine x_ifN_eq (t := 19) f_76_6 (by decide) (by decide) (fun c_1 => ?_) (fun c_1 => by omega)
  refine x_iconst (v := -1) f_76_19 (by decide) ?_
  refine x_retI f_76_20 rfl ?_
  exact ⟨rfl, rfl⟩
set_option maxRecDepth 20000 in
theorem k_ticksV {h : mj_H} {jm : Nat} (c : CJ h jm) (h_jm : jm ≤ 20) (e_jm : mj_I h 8 11 = nI jm) {j z : Nat} (hj : j < jm) (hz : z < 729) : mxc 4 77 [.ref 8, .int (nI j), .int (nI z)] h (fun r h' => r = some (.int (nI (wd_1 (mM h j) (rgs h j) z).1)) ∧ CQ h h' jm) := by
  have hc := (c.2.2.1 j hj).1
  show mx 4 77 0 [.ref 8, .int (nI j), .int (nI z)] [] h _
  refine x_aload_n f_77_0 rfl ?_
  refine x_iload_n f_77_1 rfl ?_
  refine x_iload_n f_77_2 rfl ?_
  refine x_callV f_77_3 (k_weldOfV c h_jm e_jm hj hz) (by omega) c.1.k8 (by decide) rfl rfl (Nat.le_of_ble_eq_true rfl) rfl ?_
  rintro _ g ⟨rfl, q, hb⟩
  refine x_ifN_eq (t := 19) f_77_6 (by decide) (by decide) (fun c_1 => by omega) (fun c_1 => ?_)
  refine x_aload_n f_77_9 rfl ?_
  refine x_getR f_77_10 q.1.1.k8 (by decide) q.1.1.r8_3 ?_
  refine x_getI f_77_13 q.1.1.k12 (by decide) ?_
  refine x_topi (w := nI ((wd_1 (mM h j) (rgs h j) z).1)) (BR_h q hb).2.1 ?_
  refine x_goto (t := 20) f_77_16 (by decide) ?_
  refine x_retI f_77_20 rfl ?_
  exact ⟨rfl, q⟩
set_option maxRecDepth 20000 in
theorem k_ticksI {h : mj_H} {jm : Nat} (c : CJ h jm) (h_jm : jm ≤ 20) (e_jm : mj_I h 8 11 = nI jm) (u v : Int32) (hn : ¬ (mIn u jm ∧ mIn v 729)) : mxc 2 77 [.ref 8, .int u, .int v] h (fun r h' => r = some (.int (-1)) ∧ h' = h) := by
  show mx 2 77 0 [.ref 8, .int u, .int v] [] h _
  refine x_aload_n f_77_0 rfl ?_
  refine x_iload_n f_77_1 rfl ?_
  refine x_iload_n f_77_2 rfl ?_
  refine x_callVe f_77_3 (k_weldOfI c h_jm e_jm _ _ hn) (by omega) c.1.k8 (by decide) rfl rfl (Nat.le_of_ble_eq_true rfl) rfl ?_
  refine x_ifN_eq (t := 19) f_77_6 (by decide) (by decide) (fun c_1 => ?_) (fun c_1 => by omega)
  refine x_iconst (v := -1) f_77_19 (by decide) ?_
  refine x_retI f_77_20 rfl ?_
  exact ⟨rfl, rfl⟩
set_option maxRecDepth 20000 in
theorem k_ringV {h : mj_H} {jm : Nat} (c : CJ h jm) (h_jm : jm ≤ 20) (e_jm : mj_I h 8 11 = nI jm) {j z r : Nat} (hj : j < jm) (hz : z < 729) (hr : r < rgs h j) (w : Int32) : mxc 4 75 [.ref 8, .int (nI j), .int (nI z), .int (nI r), .int w] h (fun r1 h' => r1 = some (.int (if nI 0 ≤ w ∧ w ≤ nI 3 then (if w = 0 then (wd_T (mM h j) (rgs h j) z).1 r else if w = nI 1 then (wd_T (mM h j) (rgs h j) z).2.1 r else if w = nI 2 then (wd_T (mM h j) (rgs h j) z).2.2.1 r else (wd_T (mM h j) (rgs h j) z).2.2.2 r) else -1000000)) ∧ CQ h h' jm) := by
  have hc := (c.2.2.1 j hj).1
  obtain ⟨rg, e8g, hrg, _, _⟩ := (c.2.2.1 j hj).2
  have e8 : mj_I h (jU h j) 8 = nI (rgs h j) := by rw [rgs_eq e8g hrg]; exact (hc.2.2.2.2.1 8 (by decide)).trans e8g
  have hrg6 : rgs h j ≤ 6 := by rw [rgs_eq e8g hrg]; exact hrg.2
  show mx 4 75 0 [.ref 8, .int (nI j), .int (nI z), .int (nI r), .int w, mj_unset] [] h _
  refine x_aload_n f_75_0 rfl ?_
  refine x_iload_n f_75_1 rfl ?_
  refine x_callVe f_75_2 (k_jobAt c.1 h_jm e_jm hj hc.1.1) (by omega) c.1.k8 (by decide) rfl rfl (Nat.le_of_ble_eq_true rfl) rfl ?_
  refine x_astore (ls1 := [.ref 8, .int (nI j), .int (nI z), .int (nI r), .int w, .ref (jA h j)]) f_75_5 (Nat.le_of_ble_eq_true rfl) rfl ?_
  refine x_aload f_75_7 rfl ?_
  refine x_ifnull f_75_9 ?_
  refine x_iload_n f_75_12 rfl ?_
  refine x_ifN_lt (t := 37) f_75_13 (by decide) (by omega) (fun c_1 => c_1.elim) (fun c_1 => ?_)
  refine x_iload_n f_75_16 rfl ?_
  refine x_aload f_75_17 rfl ?_
  refine x_getR f_75_19 hc.1.2.1 (by decide) hc.2.1.1 ?_
  refine x_bipush (v := nI 8) f_75_22 (by decide) ?_
  refine x_iald (j := 8) f_75_24 hc.2.1.2.1 (by omega) (by decide) ?_
  refine x_topi (w := nI (rgs h j)) e8 ?_
  refine x_icmpN_ge (t := 37) f_75_25 (by decide) (by omega) (by omega) (fun c_2 => by omega) (fun c_2 => ?_)
  refine x_aload_n f_75_28 rfl ?_
  refine x_iload_n f_75_29 rfl ?_
  refine x_iload_n f_75_30 rfl ?_
  refine x_callV f_75_31 (k_weldOfV c h_jm e_jm hj hz) (by omega) c.1.k8 (by decide) rfl rfl (Nat.le_of_ble_eq_true rfl) rfl ?_
  rintro _ g ⟨rfl, q, hb⟩
  refine x_ifN_ne (t := 40) f_75_34 (by decide) (by decide) (fun c_3 => ?_) (fun c_3 => by omega)
  refine x_iload f_75_40 rfl ?_
  by_cases t_0 : w = nI 0
  · refine x_tsw (t := 72) (off := 30) f_75_42 (by rw [t_0]; decide) (by rw [t_0]; decide) (by decide) ?_
    refine x_aload_n f_75_72 rfl ?_
    refine x_getR f_75_73 q.1.1.k8 (by decide) q.1.1.r8_3 ?_
    refine x_getR f_75_76 q.1.1.k12 (by decide) q.1.1.r12_0 ?_
    refine x_iload_n f_75_79 rfl ?_
    refine x_iald (j := r) f_75_80 q.1.1.k13 (by omega) (by decide) ?_
    refine x_topi (w := (wd_T (mM h j) (rgs h j) z).1 r) (congrFun (congrArg (fun t : tk_R => t.1) (BR_h q hb).1) r) ?_
    refine x_retI f_75_81 rfl ?_
    subst t_0
    exact ⟨by rw [if_pos (by decide)]; rfl, q⟩
  by_cases t_1 : w = nI 1
  · refine x_tsw (t := 82) (off := 40) f_75_42 (by rw [t_1]; decide) (by rw [t_1]; decide) (by decide) ?_
    refine x_aload_n f_75_82 rfl ?_
    refine x_getR f_75_83 q.1.1.k8 (by decide) q.1.1.r8_3 ?_
    refine x_getR f_75_86 q.1.1.k12 (by decide) q.1.1.r12_1 ?_
    refine x_iload_n f_75_89 rfl ?_
    refine x_iald (j := r) f_75_90 q.1.1.k14 (by omega) (by decide) ?_
    refine x_topi (w := (wd_T (mM h j) (rgs h j) z).2.1 r) (congrFun (congrArg (fun t : tk_R => t.2.1) (BR_h q hb).1) r) ?_
    refine x_retI f_75_91 rfl ?_
    subst t_1
    exact ⟨by rw [if_pos (by decide)]; rfl, q⟩
  by_cases t_2 : w = nI 2
  · refine x_tsw (t := 92) (off := 50) f_75_42 (by rw [t_2]; decide) (by rw [t_2]; decide) (by decide) ?_
    refine x_aload_n f_75_92 rfl ?_
    refine x_getR f_75_93 q.1.1.k8 (by decide) q.1.1.r8_3 ?_
    refine x_getR f_75_96 q.1.1.k12 (by decide) q.1.1.r12_2 ?_
    refine x_iload_n f_75_99 rfl ?_
    refine x_iald (j := r) f_75_100 q.1.1.k15 (by omega) (by decide) ?_
    refine x_topi (w := (wd_T (mM h j) (rgs h j) z).2.2.1 r) (congrFun (congrArg (fun t : tk_R => t.2.2.1) (BR_h q hb).1) r) ?_
    refine x_retI f_75_101 rfl ?_
    subst t_2
    exact ⟨by rw [if_pos (by decide)]; rfl, q⟩
  by_cases t_3 : w = nI 3
  · refine x_tsw (t := 102) (off := 60) f_75_42 (by rw [t_3]; decide) (by rw [t_3]; decide) (by decide) ?_
    refine x_aload_n f_75_102 rfl ?_
    refine x_getR f_75_103 q.1.1.k8 (by decide) q.1.1.r8_3 ?_
    refine x_getR f_75_106 q.1.1.k12 (by decide) q.1.1.r12_3 ?_
    refine x_iload_n f_75_109 rfl ?_
    refine x_iald (j := r) f_75_110 q.1.1.k16 (by omega) (by decide) ?_
    refine x_topi (w := (wd_T (mM h j) (rgs h j) z).2.2.2 r) (congrFun (congrArg (fun t : tk_R => t.2.2.2) (BR_h q hb).1) r) ?_
    refine x_retI f_75_111 rfl ?_
    subst t_3
    exact ⟨by rw [if_pos (by decide)]; rfl, q⟩
  refine x_tswD (t := 112) f_75_42 (by simp only [← Int32.toInt_inj, show (nI 0).toInt = 0 from rfl, show (nI 1).toInt = 1 from rfl, show (nI 2).toInt = 2 from rfl, show (nI 3).toInt = 3 from rfl] at t_0 t_1 t_2 t_3; omega) (by decide) ?_
  refine x_ldc (v := -1000000) f_75_112 (by decide) ?_
  refine x_retI f_75_114 rfl ?_
  exact ⟨by rw [if_neg (by simp only [Int32.le_iff_toInt_le, ← Int32.toInt_inj, show (nI 0).toInt = 0 from rfl, show (nI 1).toInt = 1 from rfl, show (nI 2).toInt = 2 from rfl, show (nI 3).toInt = 3 from rfl] at *; omega)], q⟩
set_option maxRecDepth 20000 in
theorem k_ringS {h : mj_H} {jm : Nat} (c : CJ h jm) (h_jm : jm ≤ 20) (e_jm : mj_I h 8 11 = nI jm) {j : Nat} (hj : j < jm) (v r w : Int32) (hz : ¬ mIn v 729) : mxc 4 75 [.ref 8, .int (nI j), .int v, .int r, .int w] h (fun r1 h' => r1 = some (.int (-1000000)) ∧ h' = h) := by
  have hc := (c.2.2.1 j hj).1
  obtain ⟨rg, e8g, hrg, _, _⟩ := (c.2.2.1 j hj).2
  have e8 : mj_I h (jU h j) 8 = nI (rgs h j) := by rw [rgs_eq e8g hrg]; exact (hc.2.2.2.2.1 8 (by decide)).trans e8g
  have hrg6 : rgs h j ≤ 6 := by rw [rgs_eq e8g hrg]; exact hrg.2
  show mx 4 75 0 [.ref 8, .int (nI j), .int v, .int r, .int w, mj_unset] [] h _
  refine x_aload_n f_75_0 rfl ?_
  refine x_iload_n f_75_1 rfl ?_
  refine x_callVe f_75_2 (k_jobAt c.1 h_jm e_jm hj hc.1.1) (by omega) c.1.k8 (by decide) rfl rfl (Nat.le_of_ble_eq_true rfl) rfl ?_
  refine x_astore (ls1 := [.ref 8, .int (nI j), .int v, .int r, .int w, .ref (jA h j)]) f_75_5 (Nat.le_of_ble_eq_true rfl) rfl ?_
  refine x_aload f_75_7 rfl ?_
  refine x_ifnull f_75_9 ?_
  refine x_iload_n f_75_12 rfl ?_
  refine x_if_lt (t := 37) f_75_13 (by decide) (fun c_1 => ?_) (fun c_1 => ?_)
  · refine x_ldc (v := -1000000) f_75_37 (by decide) ?_
    refine x_retI f_75_39 rfl ?_
    exact ⟨rfl, rfl⟩
  · refine x_iload_n f_75_16 rfl ?_
    refine x_aload f_75_17 rfl ?_
    refine x_getR f_75_19 hc.1.2.1 (by decide) hc.2.1.1 ?_
    refine x_bipush (v := nI 8) f_75_22 (by decide) ?_
    refine x_iald (j := 8) f_75_24 hc.2.1.2.1 (by omega) (by decide) ?_
    refine x_topi (w := nI (rgs h j)) e8 ?_
    refine x_icmp_ge (t := 37) f_75_25 (by decide) (fun c_2 => ?_) (fun c_2 => ?_)
    · refine x_ldc (v := -1000000) f_75_37 (by decide) ?_
      refine x_retI f_75_39 rfl ?_
      exact ⟨rfl, rfl⟩
    · refine x_aload_n f_75_28 rfl ?_
      refine x_iload_n f_75_29 rfl ?_
      refine x_iload_n f_75_30 rfl ?_
      refine x_callVe f_75_31 (k_weldOfI c h_jm e_jm _ _ (fun z => hz z.2)) (by omega) c.1.k8 (by decide) rfl rfl (Nat.le_of_ble_eq_true rfl) rfl ?_
      refine x_ifN_ne (t := 40) f_75_34 (by decide) (by decide) (fun c_3 => by omega) (fun c_3 => ?_)
      refine x_ldc (v := -1000000) f_75_37 (by decide) ?_
      refine x_retI f_75_39 rfl ?_
      exact ⟨rfl, rfl⟩
set_option maxRecDepth 20000 in
theorem k_ringR {h : mj_H} {jm : Nat} (c : CJ h jm) (h_jm : jm ≤ 20) (e_jm : mj_I h 8 11 = nI jm) {j : Nat} (hj : j < jm) (v r w : Int32) (hr : ¬ mIn r (rgs h j)) : mxc 4 75 [.ref 8, .int (nI j), .int v, .int r, .int w] h (fun r1 h' => r1 = some (.int (-1000000)) ∧ h' = h) := by
  have hc := (c.2.2.1 j hj).1
  obtain ⟨rg, e8g, hrg, _, _⟩ := (c.2.2.1 j hj).2
  have e8 : mj_I h (jU h j) 8 = nI (rgs h j) := by rw [rgs_eq e8g hrg]; exact (hc.2.2.2.2.1 8 (by decide)).trans e8g
  have hrg6 : rgs h j ≤ 6 := by rw [rgs_eq e8g hrg]; exact hrg.2
  show mx 4 75 0 [.ref 8, .int (nI j), .int v, .int r, .int w, mj_unset] [] h _
  refine x_aload_n f_75_0 rfl ?_
  refine x_iload_n f_75_1 rfl ?_
  refine x_callVe f_75_2 (k_jobAt c.1 h_jm e_jm hj hc.1.1) (by omega) c.1.k8 (by decide) rfl rfl (Nat.le_of_ble_eq_true rfl) rfl ?_
  refine x_astore (ls1 := [.ref 8, .int (nI j), .int v, .int r, .int w, .ref (jA h j)]) f_75_5 (Nat.le_of_ble_eq_true rfl) rfl ?_
  refine x_aload f_75_7 rfl ?_
  refine x_ifnull f_75_9 ?_
  refine x_iload_n f_75_12 rfl ?_
  refine x_if_lt (t := 37) f_75_13 (by decide) (fun c_0 => ?_) (fun c_0 => ?_)
  · refine x_ldc (v := -1000000) f_75_37 (by decide) ?_
    refine x_retI f_75_39 rfl ?_
    exact ⟨rfl, rfl⟩
  · refine x_iload_n f_75_16 rfl ?_
    refine x_aload f_75_17 rfl ?_
    refine x_getR f_75_19 hc.1.2.1 (by decide) hc.2.1.1 ?_
    refine x_bipush (v := nI 8) f_75_22 (by decide) ?_
    refine x_iald (j := 8) f_75_24 hc.2.1.2.1 (by omega) (by decide) ?_
    refine x_topi (w := nI (rgs h j)) e8 ?_
    refine x_icmp_ge (t := 37) f_75_25 (by decide) (fun c_1 => ?_) (fun c_1 => absurd ((mIn_lt (by omega)).mp ⟨c_0, Int32.not_le.mp c_1⟩) hr)
    refine x_ldc (v := -1000000) f_75_37 (by decide) ?_
    refine x_retI f_75_39 rfl ?_
    exact ⟨rfl, rfl⟩
set_option maxRecDepth 20000 in
theorem k_ring0 {h : mj_H} {jm : Nat} (c : CJ h jm) (h_jm : jm ≤ 20) (e_jm : mj_I h 8 11 = nI jm) (u v r w : Int32) (hin : ¬ mIn u jm) : mxc 4 75 [.ref 8, .int u, .int v, .int r, .int w] h (fun r1 h' => r1 = some (.int (-1000000)) ∧ h' = h) := by
  show mx 4 75 0 [.ref 8, .int u, .int v, .int r, .int w, mj_unset] [] h _
  refine x_aload_n f_75_0 rfl ?_
  refine x_iload_n f_75_1 rfl ?_
  refine x_callVe f_75_2 (k_jobAt0 c.1 _ h_jm e_jm hin) (by omega) c.1.k8 (by decide) rfl rfl (Nat.le_of_ble_eq_true rfl) rfl ?_
  refine x_astoreN (ls1 := [.ref 8, .int u, .int v, .int r, .int w, .null]) f_75_5 (Nat.le_of_ble_eq_true rfl) rfl ?_
  refine x_aloadN f_75_7 rfl ?_
  refine x_ifnullN (t := 37) f_75_9 (by decide) ?_
  refine x_ldc (v := -1000000) f_75_37 (by decide) ?_
  refine x_retI f_75_39 rfl ?_
  exact ⟨rfl, rfl⟩
set_option maxRecDepth 20000 in
theorem k_days {h : mj_H} (C : SC h) (n : Int32) : mxc 0 68 [.ref 8, .int n] h (fun r h' => if (0 ≤ n ∧ n ≤ 500) ∧ mj_I h 8 9 + n ≤ 1000 then r = some (.int (mj_I h 8 9 + n)) ∧ h' = mj_setI h 8 9 (mj_I h 8 9 + n) else r = some (.int (-1)) ∧ h' = h) := by
  show mx 0 68 0 [.ref 8, .int n] [] h _
  refine x_iload_n f_68_0 rfl ?_
  refine x_if_lt (t := 23) f_68_1 (by decide) (fun c_1 => ?_) (fun c_1 => ?_)
  · refine x_iconst (v := -1) f_68_23 (by decide) ?_
    refine x_retI f_68_24 rfl ?_
    exact mj_qF (by simp only [Int32.lt_iff_toInt_lt, Int32.le_iff_toInt_le, show (nI 500).toInt = (500 : Int32).toInt from rfl, show (nI 1000).toInt = (1000 : Int32).toInt from rfl] at *; omega) ⟨rfl, rfl⟩
  · refine x_iload_n f_68_4 rfl ?_
    refine x_sipush (v := nI 500) f_68_5 (by decide) ?_
    refine x_icmp_gt (t := 23) f_68_8 (by decide) (fun c_2 => ?_) (fun c_2 => ?_)
    · refine x_iconst (v := -1) f_68_23 (by decide) ?_
      refine x_retI f_68_24 rfl ?_
      exact mj_qF (by simp only [Int32.lt_iff_toInt_lt, Int32.le_iff_toInt_le, show (nI 500).toInt = (500 : Int32).toInt from rfl, show (nI 1000).toInt = (1000 : Int32).toInt from rfl] at *; omega) ⟨rfl, rfl⟩
    · refine x_aload_n f_68_11 rfl ?_
      refine x_getI f_68_12 C.k8 (by decide) ?_
      refine x_iload_n f_68_15 rfl ?_
      refine x_iadd f_68_16 ?_
      refine x_sipush (v := nI 1000) f_68_17 (by decide) ?_
      refine x_icmp_le (t := 25) f_68_20 (by decide) (fun c_3 => ?_) (fun c_3 => ?_)
      · refine x_aload_n f_68_25 rfl ?_
        refine x_dup f_68_26 rfl ?_
        refine x_getI f_68_27 C.k8 (by decide) ?_
        refine x_iload_n f_68_30 rfl ?_
        refine x_iadd f_68_31 ?_
        refine x_putI f_68_32 C.k8 (by decide) ?_
        refine x_aload_n f_68_35 rfl ?_
        refine x_getI f_68_36 C.k8 (by decide) ?_
        refine x_topi (w := (mj_I h 8 9) + n) (mj_I_at _ _ _ _) ?_
        refine x_retI f_68_39 rfl ?_
        exact mj_qT (by simp only [Int32.lt_iff_toInt_lt, Int32.le_iff_toInt_le, show (nI 500).toInt = (500 : Int32).toInt from rfl, show (nI 1000).toInt = (1000 : Int32).toInt from rfl] at *; omega) ⟨rfl, rfl⟩
      · refine x_iconst (v := -1) f_68_23 (by decide) ?_
        refine x_retI f_68_24 rfl ?_
        exact mj_qF (by simp only [Int32.lt_iff_toInt_lt, Int32.le_iff_toInt_le, show (nI 500).toInt = (500 : Int32).toInt from rfl, show (nI 1000).toInt = (1000 : Int32).toInt from rfl] at *; omega) ⟨rfl, rfl⟩
theorem set_eq (t p l : Int32) : nI 81 * (t - nI 1) + nI 9 * (p - nI 1) + nI 1 * (l - nI 1) = 81 * (t - 1) + 9 * (p - 1) + l - 1 := by
  rw [show nI 81 = (81 : Int32) from rfl, show nI 9 = (9 : Int32) from rfl, show nI 1 = (1 : Int32) from rfl]
  grind
set_option maxRecDepth 20000 in
theorem k_setting {h : mj_H} (C : SC h) (t p l : Int32) : mxc 1 73 [.ref 8, .int t, .int p, .int l] h (fun r h' => if (1 ≤ t ∧ t ≤ 9) ∧ (1 ≤ p ∧ p ≤ 9) ∧ (1 ≤ l ∧ l ≤ 9) then r = some (.int (81 * (t - 1) + 9 * (p - 1) + l - 1)) ∧ h' = h else r = some (.int (-1)) ∧ h' = h) := by
  show mx 1 73 0 [.ref 8, .int t, .int p, .int l] [] h _
  refine x_iload_n f_73_0 rfl ?_
  refine x_callSe f_73_1 (k_isOnAxis _ _) (by omega) rfl rfl rfl (Nat.le_of_ble_eq_true rfl) rfl ?_
  refine x_ifB_eq (t := 21) f_73_4 (by decide) (fun c_1 => ?_) (fun c_1 => ?_)
  · refine x_iconst (v := -1) f_73_21 (by decide) ?_
    refine x_retI f_73_22 rfl ?_
    exact mj_qF (fun z => c_1 z.1) ⟨rfl, rfl⟩
  · refine x_iload_n f_73_7 rfl ?_
    refine x_callSe f_73_8 (k_isOnAxis _ _) (by omega) rfl rfl rfl (Nat.le_of_ble_eq_true rfl) rfl ?_
    refine x_ifB_eq (t := 21) f_73_11 (by decide) (fun c_2 => ?_) (fun c_2 => ?_)
    · refine x_iconst (v := -1) f_73_21 (by decide) ?_
      refine x_retI f_73_22 rfl ?_
      exact mj_qF (fun z => c_2 z.2.1) ⟨rfl, rfl⟩
    · refine x_iload_n f_73_14 rfl ?_
      refine x_callSe f_73_15 (k_isOnAxis _ _) (by omega) rfl rfl rfl (Nat.le_of_ble_eq_true rfl) rfl ?_
      refine x_ifB_ne (t := 23) f_73_18 (by decide) (fun c_3 => ?_) (fun c_3 => ?_)
      · refine x_gets f_73_23 ?_
        refine x_iconst (v := nI 0) f_73_26 (by decide) ?_
        refine x_iald (j := 0) f_73_27 C.k2 (by omega) (by decide) ?_
        refine x_topi (w := nI 81) (C.v2_0) ?_
        refine x_iload_n f_73_28 rfl ?_
        refine x_iconst (v := nI 1) f_73_29 (by decide) ?_
        refine x_isub f_73_30 ?_
        refine x_imul f_73_31 ?_
        refine x_gets f_73_32 ?_
        refine x_iconst (v := nI 1) f_73_35 (by decide) ?_
        refine x_iald (j := 1) f_73_36 C.k2 (by omega) (by decide) ?_
        refine x_topi (w := nI 9) (C.v2_1) ?_
        refine x_iload_n f_73_37 rfl ?_
        refine x_iconst (v := nI 1) f_73_38 (by decide) ?_
        refine x_isub f_73_39 ?_
        refine x_imul f_73_40 ?_
        refine x_iadd f_73_41 ?_
        refine x_gets f_73_42 ?_
        refine x_iconst (v := nI 2) f_73_45 (by decide) ?_
        refine x_iald (j := 2) f_73_46 C.k2 (by omega) (by decide) ?_
        refine x_topi (w := nI 1) (C.v2_2) ?_
        refine x_iload_n f_73_47 rfl ?_
        refine x_iconst (v := nI 1) f_73_48 (by decide) ?_
        refine x_isub f_73_49 ?_
        refine x_imul f_73_50 ?_
        refine x_iadd f_73_51 ?_
        refine x_retI f_73_52 rfl ?_
        exact mj_qT ⟨c_1, c_2, c_3⟩ ⟨by rw [set_eq], rfl⟩
      · refine x_iconst (v := -1) f_73_21 (by decide) ?_
        refine x_retI f_73_22 rfl ?_
        exact mj_qF (fun z => c_3 z.2.2) ⟨rfl, rfl⟩
set_option maxRecDepth 20000 in
theorem k_count {h : mj_H} (C : SC h) (w : Int32) : mxc 0 98 [.ref 8, .int w] h (fun r h' => r = some (.int (if w = nI 0 then mj_I h 8 9 else if w = nI 1 then mj_I h 8 10 else if w = nI 2 then mj_I h 8 11 else if w = nI 3 then mj_I h 8 12 else if w = nI 4 then mj_I h 20 1 else if w = nI 5 then mj_I h 22 5 else if w = nI 6 then mj_I h 28 5 else -1)) ∧ h' = h) := by
  show mx 0 98 0 [.ref 8, .int w] [] h _
  refine x_iload_n f_98_0 rfl ?_
  by_cases t_0 : w = nI 0
  · refine x_tsw (t := 44) (off := 43) f_98_1 (by rw [t_0]; decide) (by rw [t_0]; decide) (by decide) ?_
    refine x_aload_n f_98_44 rfl ?_
    refine x_getI f_98_45 C.k8 (by decide) ?_
    refine x_retI f_98_48 rfl ?_
    exact ⟨by rw [if_pos t_0], rfl⟩
  by_cases t_1 : w = nI 1
  · refine x_tsw (t := 49) (off := 48) f_98_1 (by rw [t_1]; decide) (by rw [t_1]; decide) (by decide) ?_
    refine x_aload_n f_98_49 rfl ?_
    refine x_getI f_98_50 C.k8 (by decide) ?_
    refine x_retI f_98_53 rfl ?_
    exact ⟨by rw [if_neg t_0, if_pos t_1], rfl⟩
  by_cases t_2 : w = nI 2
  · refine x_tsw (t := 54) (off := 53) f_98_1 (by rw [t_2]; decide) (by rw [t_2]; decide) (by decide) ?_
    refine x_aload_n f_98_54 rfl ?_
    refine x_getI f_98_55 C.k8 (by decide) ?_
    refine x_retI f_98_58 rfl ?_
    exact ⟨by rw [if_neg t_0, if_neg t_1, if_pos t_2], rfl⟩
  by_cases t_3 : w = nI 3
  · refine x_tsw (t := 59) (off := 58) f_98_1 (by rw [t_3]; decide) (by rw [t_3]; decide) (by decide) ?_
    refine x_aload_n f_98_59 rfl ?_
    refine x_getI f_98_60 C.k8 (by decide) ?_
    refine x_retI f_98_63 rfl ?_
    exact ⟨by rw [if_neg t_0, if_neg t_1, if_neg t_2, if_pos t_3], rfl⟩
  by_cases t_4 : w = nI 4
  · refine x_tsw (t := 64) (off := 63) f_98_1 (by rw [t_4]; decide) (by rw [t_4]; decide) (by decide) ?_
    refine x_aload_n f_98_64 rfl ?_
    refine x_getR f_98_65 C.k8 (by decide) C.r8_5 ?_
    refine x_getI f_98_68 C.k20 (by decide) ?_
    refine x_retI f_98_71 rfl ?_
    exact ⟨by rw [if_neg t_0, if_neg t_1, if_neg t_2, if_neg t_3, if_pos t_4], rfl⟩
  by_cases t_5 : w = nI 5
  · refine x_tsw (t := 72) (off := 71) f_98_1 (by rw [t_5]; decide) (by rw [t_5]; decide) (by decide) ?_
    refine x_aload_n f_98_72 rfl ?_
    refine x_getR f_98_73 C.k8 (by decide) C.r8_6 ?_
    refine x_getI f_98_76 C.k22 (by decide) ?_
    refine x_retI f_98_79 rfl ?_
    exact ⟨by rw [if_neg t_0, if_neg t_1, if_neg t_2, if_neg t_3, if_neg t_4, if_pos t_5], rfl⟩
  by_cases t_6 : w = nI 6
  · refine x_tsw (t := 80) (off := 79) f_98_1 (by rw [t_6]; decide) (by rw [t_6]; decide) (by decide) ?_
    refine x_aload_n f_98_80 rfl ?_
    refine x_getR f_98_81 C.k8 (by decide) C.r8_7 ?_
    refine x_getI f_98_84 C.k28 (by decide) ?_
    refine x_retI f_98_87 rfl ?_
    exact ⟨by rw [if_neg t_0, if_neg t_1, if_neg t_2, if_neg t_3, if_neg t_4, if_neg t_5, if_pos t_6], rfl⟩
  refine x_tswD (t := 88) f_98_1 (by simp only [← Int32.toInt_inj, show (nI 0).toInt = 0 from rfl, show (nI 1).toInt = 1 from rfl, show (nI 2).toInt = 2 from rfl, show (nI 3).toInt = 3 from rfl, show (nI 4).toInt = 4 from rfl, show (nI 5).toInt = 5 from rfl, show (nI 6).toInt = 6 from rfl] at t_0 t_1 t_2 t_3 t_4 t_5 t_6; omega) (by decide) ?_
  refine x_iconst (v := -1) f_98_88 (by decide) ?_
  refine x_retI f_98_89 rfl ?_
  exact ⟨by rw [if_neg t_0, if_neg t_1, if_neg t_2, if_neg t_3, if_neg t_4, if_neg t_5, if_neg t_6], rfl⟩
set_option maxRecDepth 20000 in
theorem k_append {h : mj_H} (C : SC h) {tm : Nat} (h_tm : tm ≤ 500) (e_tm : mj_I h 20 1 = nI tm) (v : Int32) : mxc 1 53 [.ref 20, .int v] h (fun r h' => if (0 ≤ v ∧ v ≤ 31) ∧ ¬ tm = 500 then r = some (.int (nI 1)) ∧ h' = mj_setI (mj_setI h 21 tm v) 20 1 (nI (tm + 1)) else r = some (.int (nI 0)) ∧ h' = h) := by
  show mx 1 53 0 [.ref 20, .int v] [] h _
  refine x_iload_n f_53_0 rfl ?_
  refine x_callSe f_53_1 (k_isNumber _ _) (by omega) rfl rfl rfl (Nat.le_of_ble_eq_true rfl) rfl ?_
  refine x_ifB_eq (t := 17) f_53_4 (by decide) (fun c_1 => ?_) (fun c_1 => ?_)
  · refine x_iconst (v := nI 0) f_53_17 (by decide) ?_
    refine x_retZ f_53_18 rfl (by decide) ?_
    exact mj_qF (fun z => c_1 z.1) ⟨rfl, rfl⟩
  · refine x_aload_n f_53_7 rfl ?_
    refine x_getI f_53_8 C.k20 (by decide) ?_
    refine x_topi (w := nI tm) e_tm ?_
    refine x_sipush (v := nI 500) f_53_11 (by decide) ?_
    refine x_icmpN_ne (t := 19) f_53_14 (by decide) (by omega) (by decide) (fun c_2 => ?_) (fun c_2 => ?_)
    · refine x_aload_n f_53_19 rfl ?_
      refine x_getR f_53_20 C.k20 (by decide) C.r20_0 ?_
      refine x_aload_n f_53_23 rfl ?_
      refine x_getI f_53_24 C.k20 (by decide) ?_
      refine x_topi (w := nI tm) e_tm ?_
      refine x_iload_n f_53_27 rfl ?_
      refine x_iast (j := tm) f_53_28 C.k21 (by decide) (by omega) (by decide) ?_
      refine x_aload_n f_53_29 rfl ?_
      refine x_dup f_53_30 rfl ?_
      refine x_getI f_53_31 C.k20 (by decide) ?_
      refine x_topi (w := nI tm) ((congrFun (mj_I_other (by decide)) _).trans (e_tm)) ?_
      refine x_iconst (v := nI 1) f_53_34 (by decide) ?_
      refine x_iaddN f_53_35 ?_
      refine x_putI f_53_36 C.k20 (by decide) ?_
      refine x_iconst (v := nI 1) f_53_39 (by decide) ?_
      refine x_retZ f_53_40 rfl (by decide) ?_
      exact mj_qT ⟨c_1, c_2⟩ ⟨rfl, rfl⟩
    · refine x_iconst (v := nI 0) f_53_17 (by decide) ?_
      refine x_retZ f_53_18 rfl (by decide) ?_
      exact mj_qF (fun z => z.2 c_2) ⟨rfl, rfl⟩
set_option maxRecDepth 20000 in
theorem k_replace {h : mj_H} (C : SC h) {tm : Nat} (h_tm : tm ≤ 500) (e_tm : mj_I h 20 1 = nI tm) (k v : Int32) : mxc 1 54 [.ref 20, .int k, .int v] h (fun r h' => if mIn k tm ∧ (0 ≤ v ∧ v ≤ 31) then r = some (.int (nI 1)) ∧ h' = mj_setI h 21 k.toNatClampNeg v else r = some (.int (nI 0)) ∧ h' = h) := by
  show mx 1 54 0 [.ref 20, .int k, .int v] [] h _
  refine x_iload_n f_54_0 rfl ?_
  refine x_if_lt (t := 19) f_54_1 (by decide) (fun c_1 => ?_) (fun c_1 => ?_)
  · refine x_iconst (v := nI 0) f_54_19 (by decide) ?_
    refine x_retZ f_54_20 rfl (by decide) ?_
    exact mj_qF (fun z => z.1.1 c_1) ⟨rfl, rfl⟩
  · refine x_iload_n f_54_4 rfl ?_
    refine x_aload_n f_54_5 rfl ?_
    refine x_getI f_54_6 C.k20 (by decide) ?_
    refine x_topi (w := nI tm) e_tm ?_
    refine x_icmp_ge (t := 19) f_54_9 (by decide) (fun c_2 => ?_) (fun c_2 => ?_)
    · refine x_iconst (v := nI 0) f_54_19 (by decide) ?_
      refine x_retZ f_54_20 rfl (by decide) ?_
      exact mj_qF (fun z => absurd ((mIn_lt (by omega)).mpr z.1).2 (Int32.not_lt.mpr c_2)) ⟨rfl, rfl⟩
    · refine x_iload_n f_54_12 rfl ?_
      refine x_callSe f_54_13 (k_isNumber _ _) (by omega) rfl rfl rfl (Nat.le_of_ble_eq_true rfl) rfl ?_
      refine x_ifB_ne (t := 21) f_54_16 (by decide) (fun c_3 => ?_) (fun c_3 => ?_)
      · have hin : mIn k tm := (mIn_lt (by omega)).mp ⟨c_1, Int32.not_le.mp c_2⟩
        obtain ⟨i, h_i, rfl⟩ := mIn_of hin (by omega)
        refine x_aload_n f_54_21 rfl ?_
        refine x_getR f_54_22 C.k20 (by decide) C.r20_0 ?_
        refine x_iload_n f_54_25 rfl ?_
        refine x_iload_n f_54_26 rfl ?_
        refine x_iast (j := i) f_54_27 C.k21 (by decide) (by omega) (by decide) ?_
        refine x_iconst (v := nI 1) f_54_28 (by decide) ?_
        refine x_retZ f_54_29 rfl (by decide) ?_
        exact mj_qT ⟨hin, c_3⟩ ⟨rfl, by rw [nI_clamp (by omega)]⟩
      · refine x_iconst (v := nI 0) f_54_19 (by decide) ?_
        refine x_retZ f_54_20 rfl (by decide) ?_
        exact mj_qF (fun z => c_3 z.2) ⟨rfl, rfl⟩
set_option maxRecDepth 20000 in
theorem k_shorten {h : mj_H} (C : SC h) (n : Int32) : mxc 0 55 [.ref 20, .int n] h (fun r h' => if ¬ n < 0 ∧ n ≤ mj_I h 20 1 then r = some (.int (nI 1)) ∧ h' = mj_setI h 20 1 n else r = some (.int (nI 0)) ∧ h' = h) := by
  show mx 0 55 0 [.ref 20, .int n] [] h _
  refine x_iload_n f_55_0 rfl ?_
  refine x_if_lt (t := 12) f_55_1 (by decide) (fun c_1 => ?_) (fun c_1 => ?_)
  · refine x_iconst (v := nI 0) f_55_12 (by decide) ?_
    refine x_retZ f_55_13 rfl (by decide) ?_
    exact mj_qF (fun z => z.1 c_1) ⟨rfl, rfl⟩
  · refine x_iload_n f_55_4 rfl ?_
    refine x_aload_n f_55_5 rfl ?_
    refine x_getI f_55_6 C.k20 (by decide) ?_
    refine x_icmp_le (t := 14) f_55_9 (by decide) (fun c_2 => ?_) (fun c_2 => ?_)
    · refine x_aload_n f_55_14 rfl ?_
      refine x_iload_n f_55_15 rfl ?_
      refine x_putI f_55_16 C.k20 (by decide) ?_
      refine x_iconst (v := nI 1) f_55_19 (by decide) ?_
      refine x_retZ f_55_20 rfl (by decide) ?_
      exact mj_qT ⟨c_1, c_2⟩ ⟨rfl, rfl⟩
    · refine x_iconst (v := nI 0) f_55_12 (by decide) ?_
      refine x_retZ f_55_13 rfl (by decide) ?_
      exact mj_qF (fun z => c_2 z.2) ⟨rfl, rfl⟩
