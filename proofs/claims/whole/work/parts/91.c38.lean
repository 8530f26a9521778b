/-! JOINTS, TRIALS, WINDOWS, BARS -/
set_option maxRecDepth 20000 in
theorem k_jointV {h : mj_H} {jm : Nat} (c : CJ h jm) (h_jm : jm ≤ 20) (e_jm : mj_I h 8 11 = nI jm) (h63h : 63 ≤ h.1) {j z xm : Nat} (hj : j < jm) (hz : z < 729) (h_xm : xm < 60) (e_xm : mj_I h 22 5 = nI xm) : mxc 3 90 [.ref 8, .int (nI j), .int (nI z)] h (fun r h' => r = some (.int (nI xm)) ∧ h' = mj_setI (mj_setR (mj_setI (mj_setI (mj_setR (mj_new h 4 3) h.1 0 (some (jA h j))) h.1 1 (nI z)) h.1 2 (mj_I h 8 9)) 23 xm (some h.1)) 22 5 (nI (xm + 1))) := by
  have hc := (c.2.2.1 j hj).1
  show mx 3 90 0 [.ref 8, .int (nI j), .int (nI z), mj_unset] [] h _
  refine x_aload_n f_90_0 rfl ?_
  refine x_iload_n f_90_1 rfl ?_
  refine x_callVe f_90_2 (k_jobAt c.1 h_jm e_jm hj hc.1.1) (by omega) c.1.k8 (by decide) rfl rfl (Nat.le_of_ble_eq_true rfl) rfl ?_
  refine x_astore_n (ls1 := [.ref 8, .int (nI j), .int (nI z), .ref (jA h j)]) f_90_5 (Nat.le_of_ble_eq_true rfl) rfl ?_
  refine x_aload_n f_90_6 rfl ?_
  refine x_ifnull f_90_7 ?_
  refine x_iload_n f_90_10 rfl ?_
  refine x_callSe f_90_11 (k_isSetting _ _) (by omega) rfl rfl rfl (Nat.le_of_ble_eq_true rfl) rfl ?_
  refine x_ifB_ne (t := 19) f_90_14 (by decide) (fun c_1 => ?_) (fun c_1 => absurd (mIn_nI hz (by decide)) c_1)
  refine x_aload_n f_90_19 rfl ?_
  refine x_getR f_90_20 c.1.k8 (by decide) c.1.r8_6 ?_
  refine x_aload_n f_90_23 rfl ?_
  refine x_iload_n f_90_24 rfl ?_
  refine x_aload_n f_90_25 rfl ?_
  refine x_getI f_90_26 c.1.k8 (by decide) ?_
  refine x_callV f_90_29 (k_enterX c.1 h63h (by omega) e_xm _ z _) (by omega) c.1.k22 (by decide) rfl rfl (Nat.le_of_ble_eq_true rfl) rfl ?_
  rintro _ _ ⟨rfl, rfl⟩
  refine x_retI f_90_32 rfl ?_
  exact ⟨rfl, rfl⟩
set_option maxRecDepth 20000 in
theorem k_enterXF {h : mj_H} (C : SC h) (e_xm : mj_I h 22 5 = nI 60) (A z : Nat) (dy : Int32) : mxc 0 12 [.ref 22, .ref A, .int (nI z), .int dy] h (fun r h' => r = some (.int (-1)) ∧ h' = h) := by
  show mx 0 12 0 [.ref 22, .ref A, .int (nI z), .int dy] [] h _
  refine x_aload_n f_12_0 rfl ?_
  refine x_getI f_12_1 C.k22 (by decide) ?_
  refine x_topi (w := nI 60) e_xm ?_
  refine x_bipush (v := nI 60) f_12_4 (by decide) ?_
  refine x_icmpN_ne (t := 11) f_12_6 (by decide) (by decide) (by decide) (fun c_1 => by omega) (fun c_1 => ?_)
  refine x_iconst (v := -1) f_12_9 (by decide) ?_
  refine x_retI f_12_10 rfl ?_
  exact ⟨rfl, rfl⟩
set_option maxRecDepth 20000 in
theorem k_jointF {h : mj_H} {jm : Nat} (c : CJ h jm) (h_jm : jm ≤ 20) (e_jm : mj_I h 8 11 = nI jm) {j z : Nat} (hj : j < jm) (hz : z < 729) (e_xm : mj_I h 22 5 = nI 60) : mxc 2 90 [.ref 8, .int (nI j), .int (nI z)] h (fun r h' => r = some (.int (-1)) ∧ h' = h) := by
  have hc := (c.2.2.1 j hj).1
  show mx 2 90 0 [.ref 8, .int (nI j), .int (nI z), mj_unset] [] h _
  refine x_aload_n f_90_0 rfl ?_
  refine x_iload_n f_90_1 rfl ?_
  refine x_callVe f_90_2 (k_jobAt c.1 h_jm e_jm hj hc.1.1) (by omega) c.1.k8 (by decide) rfl rfl (Nat.le_of_ble_eq_true rfl) rfl ?_
  refine x_astore_n (ls1 := [.ref 8, .int (nI j), .int (nI z), .ref (jA h j)]) f_90_5 (Nat.le_of_ble_eq_true rfl) rfl ?_
  refine x_aload_n f_90_6 rfl ?_
  refine x_ifnull f_90_7 ?_
  refine x_iload_n f_90_10 rfl ?_
  refine x_callSe f_90_11 (k_isSetting _ _) (by omega) rfl rfl rfl (Nat.le_of_ble_eq_true rfl) rfl ?_
  refine x_ifB_ne (t := 19) f_90_14 (by decide) (fun c_1 => ?_) (fun c_1 => absurd (mIn_nI hz (by decide)) c_1)
  refine x_aload_n f_90_19 rfl ?_
  refine x_getR f_90_20 c.1.k8 (by decide) c.1.r8_6 ?_
  refine x_aload_n f_90_23 rfl ?_
  refine x_iload_n f_90_24 rfl ?_
  refine x_aload_n f_90_25 rfl ?_
  refine x_getI f_90_26 c.1.k8 (by decide) ?_
  refine x_callVe f_90_29 (k_enterXF c.1 e_xm _ z _) (by omega) c.1.k22 (by decide) rfl rfl (Nat.le_of_ble_eq_true rfl) rfl ?_
  refine x_retI f_90_32 rfl ?_
  exact ⟨rfl, rfl⟩
set_option maxRecDepth 20000 in
theorem k_noteV0 {h : mj_H} {jm xm km : Nat} (c : CJ h jm) (b : BK h jm xm km) {x : Nat} (hx : x < xm) (hk : km < 100) (dy : Int32) : mxc 1 14 [.ref 22, .int (nI x), .int (nI 0), .int dy] h (fun r h' => r = some (.int (nI 1)) ∧ h' = mj_setI (mj_setI (mj_setI (mj_setI h 25 km (nI x)) 26 km (nI 2)) 27 km dy) 22 6 (nI (km + 1))) := by
  have hX := b.1.2.2 x hx
  have hx60 := b.1.1
  show mx 1 14 0 [.ref 22, .int (nI x), .int (nI 0), .int dy] [] h _
  refine x_aload_n f_14_0 rfl ?_
  refine x_iload_n f_14_1 rfl ?_
  refine x_callVe f_14_2 (k_jointAt c.1 b.1.1 b.1.2.1 hx hX.1.1) (by omega) c.1.k22 (by decide) rfl rfl (Nat.le_of_ble_eq_true rfl) rfl ?_
  refine x_ifnull f_14_5 ?_
  refine x_aload_n f_14_8 rfl ?_
  refine x_getI f_14_9 c.1.k22 (by decide) ?_
  refine x_topi (w := nI km) b.2.2.1 ?_
  refine x_bipush (v := nI 100) f_14_12 (by decide) ?_
  refine x_icmpN_ne (t := 19) f_14_14 (by decide) (by omega) (by decide) (fun c_1 => ?_) (fun c_1 => by omega)
  refine x_aload_n f_14_19 rfl ?_
  refine x_getR f_14_20 c.1.k22 (by decide) c.1.r22_2 ?_
  refine x_aload_n f_14_23 rfl ?_
  refine x_getI f_14_24 c.1.k22 (by decide) ?_
  refine x_topi (w := nI km) b.2.2.1 ?_
  refine x_iload_n f_14_27 rfl ?_
  refine x_iast (j := km) f_14_28 c.1.k25 (by decide) (by omega) (by decide) ?_
  refine x_aload_n f_14_29 rfl ?_
  refine x_getR f_14_30 c.1.k22 (by decide) c.1.r22_3 ?_
  refine x_aload_n f_14_33 rfl ?_
  refine x_getI f_14_34 c.1.k22 (by decide) ?_
  refine x_topi (w := nI km) ((congrFun (mj_I_other (by decide)) _).trans (b.2.2.1)) ?_
  refine x_iload_n f_14_37 rfl ?_
  refine x_ifN_eq (t := 45) f_14_38 (by decide) (by decide) (fun c_2 => ?_) (fun c_2 => by omega)
  refine x_iconst (v := nI 2) f_14_45 (by decide) ?_
  refine x_iast (j := km) f_14_46 c.1.k26 (by decide) (by omega) (by decide) ?_
  refine x_aload_n f_14_47 rfl ?_
  refine x_getR f_14_48 c.1.k22 (by decide) c.1.r22_4 ?_
  refine x_aload_n f_14_51 rfl ?_
  refine x_getI f_14_52 c.1.k22 (by decide) ?_
  refine x_topi (w := nI km) ((congrFun (mj_I_other (by decide)) _).trans ((congrFun (mj_I_other (by decide)) _).trans (b.2.2.1))) ?_
  refine x_iload_n f_14_55 rfl ?_
  refine x_iast (j := km) f_14_56 c.1.k27 (by decide) (by omega) (by decide) ?_
  refine x_aload_n f_14_57 rfl ?_
  refine x_dup f_14_58 rfl ?_
  refine x_getI f_14_59 c.1.k22 (by decide) ?_
  refine x_topi (w := nI km) ((congrFun (mj_I_other (by decide)) _).trans ((congrFun (mj_I_other (by decide)) _).trans ((congrFun (mj_I_other (by decide)) _).trans (b.2.2.1)))) ?_
  refine x_iconst (v := nI 1) f_14_62 (by decide) ?_
  refine x_iaddN f_14_63 ?_
  refine x_putI f_14_64 c.1.k22 (by decide) ?_
  refine x_iconst (v := nI 1) f_14_67 (by decide) ?_
  refine x_retZ f_14_68 rfl (by decide) ?_
  exact ⟨rfl, rfl⟩
set_option maxRecDepth 20000 in
theorem k_attemptV0 {h : mj_H} {jm xm km : Nat} (c : CJ h jm) (b : BK h jm xm km) {x : Nat} (hx : x < xm) (hk : km < 100) : mxc 2 91 [.ref 8, .int (nI x), .int (nI 0)] h (fun r h' => r = some (.int (nI 1)) ∧ h' = mj_setI (mj_setI (mj_setI (mj_setI h 25 km (nI x)) 26 km (nI 2)) 27 km (mj_I h 8 9)) 22 6 (nI (km + 1))) := by
  show mx 2 91 0 [.ref 8, .int (nI x), .int (nI 0)] [] h _
  refine x_aload_n f_91_0 rfl ?_
  refine x_getR f_91_1 c.1.k8 (by decide) c.1.r8_6 ?_
  refine x_iload_n f_91_4 rfl ?_
  refine x_iload_n f_91_5 rfl ?_
  refine x_aload_n f_91_6 rfl ?_
  refine x_getI f_91_7 c.1.k8 (by decide) ?_
  refine x_callV f_91_10 (k_noteV0 c b hx hk _) (by omega) c.1.k22 (by decide) rfl rfl (Nat.le_of_ble_eq_true rfl) rfl ?_
  rintro _ _ ⟨rfl, rfl⟩
  refine x_retZ f_91_13 rfl (by decide) ?_
  exact ⟨rfl, rfl⟩
set_option maxRecDepth 20000 in
theorem k_noteV1 {h : mj_H} {jm xm km : Nat} (c : CJ h jm) (b : BK h jm xm km) {x : Nat} (hx : x < xm) (hk : km < 100) (dy : Int32) : mxc 1 14 [.ref 22, .int (nI x), .int (nI 1), .int dy] h (fun r h' => r = some (.int (nI 1)) ∧ h' = mj_setI (mj_setI (mj_setI (mj_setI h 25 km (nI x)) 26 km (nI 1)) 27 km dy) 22 6 (nI (km + 1))) := by
  have hX := b.1.2.2 x hx
  have hx60 := b.1.1
  show mx 1 14 0 [.ref 22, .int (nI x), .int (nI 1), .int dy] [] h _
  refine x_aload_n f_14_0 rfl ?_
  refine x_iload_n f_14_1 rfl ?_
  refine x_callVe f_14_2 (k_jointAt c.1 b.1.1 b.1.2.1 hx hX.1.1) (by omega) c.1.k22 (by decide) rfl rfl (Nat.le_of_ble_eq_true rfl) rfl ?_
  refine x_ifnull f_14_5 ?_
  refine x_aload_n f_14_8 rfl ?_
  refine x_getI f_14_9 c.1.k22 (by decide) ?_
  refine x_topi (w := nI km) b.2.2.1 ?_
  refine x_bipush (v := nI 100) f_14_12 (by decide) ?_
  refine x_icmpN_ne (t := 19) f_14_14 (by decide) (by omega) (by decide) (fun c_1 => ?_) (fun c_1 => by omega)
  refine x_aload_n f_14_19 rfl ?_
  refine x_getR f_14_20 c.1.k22 (by decide) c.1.r22_2 ?_
  refine x_aload_n f_14_23 rfl ?_
  refine x_getI f_14_24 c.1.k22 (by decide) ?_
  refine x_topi (w := nI km) b.2.2.1 ?_
  refine x_iload_n f_14_27 rfl ?_
  refine x_iast (j := km) f_14_28 c.1.k25 (by decide) (by omega) (by decide) ?_
  refine x_aload_n f_14_29 rfl ?_
  refine x_getR f_14_30 c.1.k22 (by decide) c.1.r22_3 ?_
  refine x_aload_n f_14_33 rfl ?_
  refine x_getI f_14_34 c.1.k22 (by decide) ?_
  refine x_topi (w := nI km) ((congrFun (mj_I_other (by decide)) _).trans (b.2.2.1)) ?_
  refine x_iload_n f_14_37 rfl ?_
  refine x_ifN_eq (t := 45) f_14_38 (by decide) (by decide) (fun c_2 => by omega) (fun c_2 => ?_)
  refine x_iconst (v := nI 1) f_14_41 (by decide) ?_
  refine x_goto (t := 46) f_14_42 (by decide) ?_
  refine x_iast (j := km) f_14_46 c.1.k26 (by decide) (by omega) (by decide) ?_
  refine x_aload_n f_14_47 rfl ?_
  refine x_getR f_14_48 c.1.k22 (by decide) c.1.r22_4 ?_
  refine x_aload_n f_14_51 rfl ?_
  refine x_getI f_14_52 c.1.k22 (by decide) ?_
  refine x_topi (w := nI km) ((congrFun (mj_I_other (by decide)) _).trans ((congrFun (mj_I_other (by decide)) _).trans (b.2.2.1))) ?_
  refine x_iload_n f_14_55 rfl ?_
  refine x_iast (j := km) f_14_56 c.1.k27 (by decide) (by omega) (by decide) ?_
  refine x_aload_n f_14_57 rfl ?_
  refine x_dup f_14_58 rfl ?_
  refine x_getI f_14_59 c.1.k22 (by decide) ?_
  refine x_topi (w := nI km) ((congrFun (mj_I_other (by decide)) _).trans ((congrFun (mj_I_other (by decide)) _).trans ((congrFun (mj_I_other (by decide)) _).trans (b.2.2.1)))) ?_
  refine x_iconst (v := nI 1) f_14_62 (by decide) ?_
  refine x_iaddN f_14_63 ?_
  refine x_putI f_14_64 c.1.k22 (by decide) ?_
  refine x_iconst (v := nI 1) f_14_67 (by decide) ?_
  refine x_retZ f_14_68 rfl (by decide) ?_
  exact ⟨rfl, rfl⟩
set_option maxRecDepth 20000 in
theorem k_attemptV1 {h : mj_H} {jm xm km : Nat} (c : CJ h jm) (b : BK h jm xm km) {x : Nat} (hx : x < xm) (hk : km < 100) : mxc 2 91 [.ref 8, .int (nI x), .int (nI 1)] h (fun r h' => r = some (.int (nI 1)) ∧ h' = mj_setI (mj_setI (mj_setI (mj_setI h 25 km (nI x)) 26 km (nI 1)) 27 km (mj_I h 8 9)) 22 6 (nI (km + 1))) := by
  show mx 2 91 0 [.ref 8, .int (nI x), .int (nI 1)] [] h _
  refine x_aload_n f_91_0 rfl ?_
  refine x_getR f_91_1 c.1.k8 (by decide) c.1.r8_6 ?_
  refine x_iload_n f_91_4 rfl ?_
  refine x_iload_n f_91_5 rfl ?_
  refine x_aload_n f_91_6 rfl ?_
  refine x_getI f_91_7 c.1.k8 (by decide) ?_
  refine x_callV f_91_10 (k_noteV1 c b hx hk _) (by omega) c.1.k22 (by decide) rfl rfl (Nat.le_of_ble_eq_true rfl) rfl ?_
  rintro _ _ ⟨rfl, rfl⟩
  refine x_retZ f_91_13 rfl (by decide) ?_
  exact ⟨rfl, rfl⟩
set_option maxRecDepth 20000 in
theorem k_noteF {h : mj_H} {jm xm km : Nat} (c : CJ h jm) (b : BK h jm xm km) {x : Nat} (hx : x < xm) (hk : km = 100) (g dy : Int32) : mxc 1 14 [.ref 22, .int (nI x), .int g, .int dy] h (fun r h' => r = some (.int (nI 0)) ∧ h' = h) := by
  have hX := b.1.2.2 x hx
  have hx60 := b.1.1
  show mx 1 14 0 [.ref 22, .int (nI x), .int g, .int dy] [] h _
  refine x_aload_n f_14_0 rfl ?_
  refine x_iload_n f_14_1 rfl ?_
  refine x_callVe f_14_2 (k_jointAt c.1 b.1.1 b.1.2.1 hx hX.1.1) (by omega) c.1.k22 (by decide) rfl rfl (Nat.le_of_ble_eq_true rfl) rfl ?_
  refine x_ifnull f_14_5 ?_
  refine x_aload_n f_14_8 rfl ?_
  refine x_getI f_14_9 c.1.k22 (by decide) ?_
  refine x_topi (w := nI km) b.2.2.1 ?_
  refine x_bipush (v := nI 100) f_14_12 (by decide) ?_
  refine x_icmpN_ne (t := 19) f_14_14 (by decide) (by omega) (by decide) (fun c_1 => by omega) (fun c_1 => ?_)
  refine x_iconst (v := nI 0) f_14_17 (by decide) ?_
  refine x_retZ f_14_18 rfl (by decide) ?_
  exact ⟨rfl, rfl⟩
set_option maxRecDepth 20000 in
theorem k_note0 {h : mj_H} {jm xm km : Nat} (c : CJ h jm) (b : BK h jm xm km) (v g dy : Int32) (hx : ¬ mIn v xm) : mxc 1 14 [.ref 22, .int v, .int g, .int dy] h (fun r h' => r = some (.int (nI 0)) ∧ h' = h) := by
  show mx 1 14 0 [.ref 22, .int v, .int g, .int dy] [] h _
  refine x_aload_n f_14_0 rfl ?_
  refine x_iload_n f_14_1 rfl ?_
  refine x_callVe f_14_2 (k_jointAt0 c.1 _ b.1.1 b.1.2.1 hx) (by omega) c.1.k22 (by decide) rfl rfl (Nat.le_of_ble_eq_true rfl) rfl ?_
  refine x_ifnullN (t := 17) f_14_5 (by decide) ?_
  refine x_iconst (v := nI 0) f_14_17 (by decide) ?_
  refine x_retZ f_14_18 rfl (by decide) ?_
  exact ⟨rfl, rfl⟩
theorem k_noteI {h : mj_H} {jm xm km : Nat} (c : CJ h jm) (b : BK h jm xm km) (v g dy : Int32) (hn : ¬ (mIn v xm ∧ ¬ km = 100)) : mxc 1 14 [.ref 22, .int v, .int g, .int dy] h (fun r h' => r = some (.int (nI 0)) ∧ h' = h) := by
  by_cases hv : mIn v xm
  · obtain ⟨x, hx, rfl⟩ := mIn_of hv (by have := b.1.1; omega)
    exact k_noteF c b hx (Decidable.byContradiction fun z => hn ⟨hv, z⟩) g dy
  · exact k_note0 c b v g dy hv
set_option maxRecDepth 20000 in
theorem k_attemptI {h : mj_H} {jm xm km : Nat} (c : CJ h jm) (b : BK h jm xm km) (v g : Int32) (hn : ¬ (mIn v xm ∧ ¬ km = 100)) : mxc 2 91 [.ref 8, .int v, .int g] h (fun r h' => r = some (.int (nI 0)) ∧ h' = h) := by
  show mx 2 91 0 [.ref 8, .int v, .int g] [] h _
  refine x_aload_n f_91_0 rfl ?_
  refine x_getR f_91_1 c.1.k8 (by decide) c.1.r8_6 ?_
  refine x_iload_n f_91_4 rfl ?_
  refine x_iload_n f_91_5 rfl ?_
  refine x_aload_n f_91_6 rfl ?_
  refine x_getI f_91_7 c.1.k8 (by decide) ?_
  refine x_callVe f_91_10 (k_noteI c b _ _ _ hn) (by omega) c.1.k22 (by decide) rfl rfl (Nat.le_of_ble_eq_true rfl) rfl ?_
  refine x_retZ f_91_13 rfl (by decide) ?_
  exact ⟨rfl, rfl⟩
set_option maxRecDepth 20000 in
theorem k_winit {h : mj_H} {B A : Nat} (hB : mj_K h B = (9, 7)) (f t : Nat) : mxc 0 66 [.ref B, .ref A, .int (nI f), .int (nI t)] h (fun r h' => r = none ∧ h' = mj_setI (mj_setI (mj_setR h B 0 (some A)) B 1 (nI f)) B 2 (nI t)) := by
  show mx 0 66 0 [.ref B, .ref A, .int (nI f), .int (nI t)] [] h _
  refine x_aload_n f_66_0 rfl ?_
  refine x_init f_66_1 (Nat.le_of_ble_eq_true rfl) ?_
  refine x_aload_n f_66_4 rfl ?_
  refine x_aload_n f_66_5 rfl ?_
  refine x_putR f_66_6 hB (by decide) ?_
  refine x_aload_n f_66_9 rfl ?_
  refine x_iload_n f_66_10 rfl ?_
  refine x_putI f_66_11 hB (by decide) ?_
  refine x_aload_n f_66_14 rfl ?_
  refine x_iload_n f_66_15 rfl ?_
  refine x_putI f_66_16 hB (by decide) ?_
  refine x_retV f_66_19 rfl ?_
  exact ⟨rfl, rfl⟩
theorem spn_1 {a b : Nat} (ha : a < 9) (hb : b < 9) : (nI a - nI b < 0 ↔ a < b) ∧ (nI a - nI b < nI 6 ↔ a < b + 6) := by
  have e : (nI a - nI b).toInt = (a : Int) - b := pk_sub_toInt (by omega) (by omega)
  rw [Int32.lt_iff_toInt_lt, Int32.lt_iff_toInt_lt, e, show (0 : Int32).toInt = 0 from rfl, show (nI 6).toInt = 6 from rfl]
  omega
set_option maxRecDepth 20000 in
theorem k_windowV {h : mj_H} {jm : Nat} (c : CJ h jm) (h_jm : jm ≤ 20) (e_jm : mj_I h 8 11 = nI jm) (h63h : 63 ≤ h.1) {j f t wm : Nat} (hj : j < jm) (hf : f < 729) (ht : t < 729) (h_wm : wm < 10) (e_wm : mj_I h 8 12 = nI wm) (hsp : ∀ a, a < 3 → mm_pt f a ≤ mm_pt t a ∧ mm_pt t a ≤ mm_pt f a + 5) : mxc 1 78 [.ref 8, .int (nI j), .int (nI f), .int (nI t)] h (fun r h' => r = some (.int (nI wm)) ∧ h' = mj_setI (mj_setR (mj_setI (mj_setI (mj_setR (mj_new h 9 7) h.1 0 (some (jA h j))) h.1 1 (nI f)) h.1 2 (nI t)) 11 wm (some h.1)) 8 12 (nI (wm + 1))) := by
  have hc := (c.2.2.1 j hj).1
  have s0 := hsp 0 (by decide)
  have s1 := hsp 1 (by decide)
  have s2 := hsp 2 (by decide)
  show mx 1 78 0 [.ref 8, .int (nI j), .int (nI f), .int (nI t), mj_unset, mj_unset, mj_unset] [] h _
  refine x_aload_n f_78_0 rfl ?_
  refine x_iload_n f_78_1 rfl ?_
  refine x_callVe f_78_2 (k_jobAt c.1 h_jm e_jm hj hc.1.1) (by omega) c.1.k8 (by decide) rfl rfl (Nat.le_of_ble_eq_true rfl) rfl ?_
  refine x_astore (ls1 := [.ref 8, .int (nI j), .int (nI f), .int (nI t), .ref (jA h j), mj_unset, mj_unset]) f_78_5 (Nat.le_of_ble_eq_true rfl) rfl ?_
  refine x_aload f_78_7 rfl ?_
  refine x_ifnull f_78_9 ?_
  refine x_iload_n f_78_12 rfl ?_
  refine x_callSe f_78_13 (k_isSetting _ _) (by omega) rfl rfl rfl (Nat.le_of_ble_eq_true rfl) rfl ?_
  refine x_ifB_eq (t := 35) f_78_16 (by decide) (fun c_1 => absurd (mIn_nI hf (by decide)) c_1) (fun c_1 => ?_)
  refine x_iload_n f_78_19 rfl ?_
  refine x_callSe f_78_20 (k_isSetting _ _) (by omega) rfl rfl rfl (Nat.le_of_ble_eq_true rfl) rfl ?_
  refine x_ifB_eq (t := 35) f_78_23 (by decide) (fun c_2 => absurd (mIn_nI ht (by decide)) c_2) (fun c_2 => ?_)
  refine x_aload_n f_78_26 rfl ?_
  refine x_getI f_78_27 c.1.k8 (by decide) ?_
  refine x_topi (w := nI wm) e_wm ?_
  refine x_bipush (v := nI 10) f_78_30 (by decide) ?_
  refine x_icmpN_ne (t := 37) f_78_32 (by decide) (by omega) (by decide) (fun c_1 => ?_) (fun c_1 => by omega)
  refine x_iconst (v := nI 0) f_78_37 (by decide) ?_
  refine x_istore (ls1 := [.ref 8, .int (nI j), .int (nI f), .int (nI t), .ref (jA h j), .int (nI 0), mj_unset]) f_78_38 (Nat.le_of_ble_eq_true rfl) rfl ?_
  refine x_iload f_78_40 rfl ?_
  refine x_iconst (v := nI 3) f_78_42 (by decide) ?_
  refine x_icmpN_ge (t := 81) f_78_43 (by decide) (by decide) (by decide) (fun c_2 => by omega) (fun c_2 => ?_)
  refine x_iload_n f_78_46 rfl ?_
  refine x_iload f_78_47 rfl ?_
  refine x_callSe f_78_49 (k_along c.1 (z := t) (a := 0) ht (by decide)) (by omega) rfl rfl rfl (Nat.le_of_ble_eq_true rfl) rfl ?_
  refine x_iload_n f_78_52 rfl ?_
  refine x_iload f_78_53 rfl ?_
  refine x_callSe f_78_55 (k_along c.1 (z := f) (a := 0) hf (by decide)) (by omega) rfl rfl rfl (Nat.le_of_ble_eq_true rfl) rfl ?_
  refine x_isub f_78_58 ?_
  refine x_istore (ls1 := [.ref 8, .int (nI j), .int (nI f), .int (nI t), .ref (jA h j), .int (nI 0), .int ((nI (mm_pt t 0)) - (nI (mm_pt f 0)))]) f_78_59 (Nat.le_of_ble_eq_true rfl) rfl ?_
  refine x_iload f_78_61 rfl ?_
  refine x_if_lt (t := 73) f_78_63 (by decide) (fun c_l => absurd ((spn_1 (mm_pt_lt t _ ht) (mm_pt_lt f _ hf)).1.mp c_l) (by omega)) (fun c_l => ?_)
  refine x_iload f_78_66 rfl ?_
  refine x_bipush (v := nI 6) f_78_68 (by decide) ?_
  refine x_icmp_lt (t := 75) f_78_70 (by decide) (fun c_h => ?_) (fun c_h => absurd ((spn_1 (mm_pt_lt t _ ht) (mm_pt_lt f _ hf)).2.mpr (by omega)) c_h)
  refine x_iinc (v := nI 1) (ls1 := [.ref 8, .int (nI j), .int (nI f), .int (nI t), .ref (jA h j), .int (nI 1), .int ((nI (mm_pt t 0)) - (nI (mm_pt f 0)))]) f_78_75 rfl (by decide) rfl ?_
  refine x_goto (t := 40) f_78_78 (by decide) ?_
  refine x_iload f_78_40 rfl ?_
  refine x_iconst (v := nI 3) f_78_42 (by decide) ?_
  refine x_icmpN_ge (t := 81) f_78_43 (by decide) (by decide) (by decide) (fun c_3 => by omega) (fun c_3 => ?_)
  refine x_iload_n f_78_46 rfl ?_
  refine x_iload f_78_47 rfl ?_
  refine x_callSe f_78_49 (k_along c.1 (z := t) (a := 1) ht (by decide)) (by omega) rfl rfl rfl (Nat.le_of_ble_eq_true rfl) rfl ?_
  refine x_iload_n f_78_52 rfl ?_
  refine x_iload f_78_53 rfl ?_
  refine x_callSe f_78_55 (k_along c.1 (z := f) (a := 1) hf (by decide)) (by omega) rfl rfl rfl (Nat.le_of_ble_eq_true rfl) rfl ?_
  refine x_isub f_78_58 ?_
  refine x_istore (ls1 := [.ref 8, .int (nI j), .int (nI f), .int (nI t), .ref (jA h j), .int (nI 1), .int ((nI (mm_pt t 1)) - (nI (mm_pt f 1)))]) f_78_59 (Nat.le_of_ble_eq_true rfl) rfl ?_
  refine x_iload f_78_61 rfl ?_
  refine x_if_lt (t := 73) f_78_63 (by decide) (fun c_l => absurd ((spn_1 (mm_pt_lt t _ ht) (mm_pt_lt f _ hf)).1.mp c_l) (by omega)) (fun c_l => ?_)
  refine x_iload f_78_66 rfl ?_
  refine x_bipush (v := nI 6) f_78_68 (by decide) ?_
  refine x_icmp_lt (t := 75) f_78_70 (by decide) (fun c_h => ?_) (fun c_h => absurd ((spn_1 (mm_pt_lt t _ ht) (mm_pt_lt f _ hf)).2.mpr (by omega)) c_h)
  refine x_iinc (v := nI 2) (ls1 := [.ref 8, .int (nI j), .int (nI f), .int (nI t), .ref (jA h j), .int (nI 2), .int ((nI (mm_pt t 1)) - (nI (mm_pt f 1)))]) f_78_75 rfl (by decide) rfl ?_
  refine x_goto (t := 40) f_78_78 (by decide) ?_
  refine x_iload f_78_40 rfl ?_
  refine x_iconst (v := nI 3) f_78_42 (by decide) ?_
  refine x_icmpN_ge (t := 81) f_78_43 (by decide) (by decide) (by decide) (fun c_4 => by omega) (fun c_4 => ?_)
  refine x_iload_n f_78_46 rfl ?_
  refine x_iload f_78_47 rfl ?_
  refine x_callSe f_78_49 (k_along c.1 (z := t) (a := 2) ht (by decide)) (by omega) rfl rfl rfl (Nat.le_of_ble_eq_true rfl) rfl ?_
  refine x_iload_n f_78_52 rfl ?_
  refine x_iload f_78_53 rfl ?_
  refine x_callSe f_78_55 (k_along c.1 (z := f) (a := 2) hf (by decide)) (by omega) rfl rfl rfl (Nat.le_of_ble_eq_true rfl) rfl ?_
  refine x_isub f_78_58 ?_
  refine x_istore (ls1 := [.ref 8, .int (nI j), .int (nI f), .int (nI t), .ref (jA h j), .int (nI 2), .int ((nI (mm_pt t 2)) - (nI (mm_pt f 2)))]) f_78_59 (Nat.le_of_ble_eq_true rfl) rfl ?_
  refine x_iload f_78_61 rfl ?_
  refine x_if_lt (t := 73) f_78_63 (by decide) (fun c_l => absurd ((spn_1 (mm_pt_lt t _ ht) (mm_pt_lt f _ hf)).1.mp c_l) (by omega)) (fun c_l => ?_)
  refine x_iload f_78_66 rfl ?_
  refine x_bipush (v := nI 6) f_78_68 (by decide) ?_
  refine x_icmp_lt (t := 75) f_78_70 (by decide) (fun c_h => ?_) (fun c_h => absurd ((spn_1 (mm_pt_lt t _ ht) (mm_pt_lt f _ hf)).2.mpr (by omega)) c_h)
  refine x_iinc (v := nI 3) (ls1 := [.ref 8, .int (nI j), .int (nI f), .int (nI t), .ref (jA h j), .int (nI 3), .int ((nI (mm_pt t 2)) - (nI (mm_pt f 2)))]) f_78_75 rfl (by decide) rfl ?_
  refine x_goto (t := 40) f_78_78 (by decide) ?_
  refine x_iload f_78_40 rfl ?_
  refine x_iconst (v := nI 3) f_78_42 (by decide) ?_
  refine x_icmpN_ge (t := 81) f_78_43 (by decide) (by decide) (by decide) (fun c_5 => ?_) (fun c_5 => by omega)
  refine x_aload_n f_78_81 rfl ?_
  refine x_getR f_78_82 c.1.k8 (by decide) c.1.r8_2 ?_
  refine x_aload_n f_78_85 rfl ?_
  refine x_getI f_78_86 c.1.k8 (by decide) ?_
  refine x_topi (w := nI wm) e_wm ?_
  refine x_new f_78_89 (by decide) rfl ?_
  refine x_dup f_78_92 rfl ?_
  refine x_aload f_78_93 rfl ?_
  refine x_iload_n f_78_95 rfl ?_
  refine x_iload_n f_78_96 rfl ?_
  refine x_callI f_78_97 (k_winit (mj_K_newA h 9 7) f t) (by omega) rfl rfl rfl (Nat.le_of_ble_eq_true rfl) rfl ?_
  rintro _ _ ⟨rfl, rfl⟩
  refine x_rast (j := wm) f_78_100 ((mj_K_new (k := 9) (n := 7) (by show _ ≠ h.1; omega)).trans c.1.k11) (by decide) (mj_K_newA h 9 7) (by omega) (by decide) ?_
  refine x_aload_n f_78_101 rfl ?_
  refine x_dup f_78_102 rfl ?_
  refine x_getI f_78_103 ((mj_K_new (k := 9) (n := 7) (by show _ ≠ h.1; omega)).trans c.1.k8) (by decide) ?_
  refine x_topi (w := nI wm) ((congrFun (mj_I_other (by omega)) _).trans ((congrFun (mj_I_other (by omega)) _).trans ((congrFun (mj_I_new (k := 9) (n := 7) (by show _ ≠ h.1; omega)) _).trans (e_wm)))) ?_
  refine x_iconst (v := nI 1) f_78_106 (by decide) ?_
  refine x_iaddN f_78_107 ?_
  refine x_putI f_78_108 ((mj_K_new (k := 9) (n := 7) (by show _ ≠ h.1; omega)).trans c.1.k8) (by decide) ?_
  refine x_aload_n f_78_111 rfl ?_
  refine x_getI f_78_112 ((mj_K_new (k := 9) (n := 7) (by show _ ≠ h.1; omega)).trans c.1.k8) (by decide) ?_
  refine x_topi (w := nI (wm + 1)) (mj_I_at _ _ _ _) ?_
  refine x_iconst (v := nI 1) f_78_115 (by decide) ?_
  refine x_isubN f_78_116 (by omega) ?_
  refine x_retI f_78_117 rfl ?_
  exact ⟨by rw [Nat.add_sub_cancel], rfl⟩
