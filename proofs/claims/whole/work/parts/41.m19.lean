theorem f_157_48 : mj_fetch 157 48 = some (.aload_n 0, 0, 0) := by decide +kernel
theorem f_157_49 : mj_fetch 157 49 = some (.getfield 225, 11, 30) := by decide +kernel
theorem f_157_52 : mj_fetch 157 52 = some (.iconst (-1), 0, 0) := by decide +kernel
theorem f_157_53 : mj_fetch 157 53 = some (.if_icmp .eq 10, 0, 0) := by decide +kernel
theorem f_157_56 : mj_fetch 157 56 = some (.aload_n 0, 0, 0) := by decide +kernel
theorem f_157_57 : mj_fetch 157 57 = some (.getfield 225, 11, 30) := by decide +kernel
theorem f_157_60 : mj_fetch 157 60 = some (.goto 22, 0, 0) := by decide +kernel
theorem f_157_82 : mj_fetch 157 82 = some (.ireturn, 0, 0) := by decide +kernel
theorem f_157_63 : mj_fetch 157 63 = some (.aload_n 0, 0, 0) := by decide +kernel
theorem f_157_64 : mj_fetch 157 64 = some (.getfield 228, 11, 29) := by decide +kernel
theorem f_157_67 : mj_fetch 157 67 = some (.aload_n 0, 0, 0) := by decide +kernel
theorem f_157_68 : mj_fetch 157 68 = some (.getfield 222, 11, 28) := by decide +kernel
theorem f_157_71 : mj_fetch 157 71 = some (.if_icmp .ge 10, 0, 0) := by decide +kernel
theorem f_157_74 : mj_fetch 157 74 = some (.aload_n 0, 0, 0) := by decide +kernel
theorem f_157_75 : mj_fetch 157 75 = some (.getfield 228, 11, 29) := by decide +kernel
theorem f_157_78 : mj_fetch 157 78 = some (.goto 4, 0, 0) := by decide +kernel
theorem f_157_81 : mj_fetch 157 81 = some (.iconst (-1), 0, 0) := by decide +kernel
theorem f_157_0 : mj_fetch 157 0 = some (.aload_n 0, 0, 0) := by decide +kernel
theorem f_157_1 : mj_fetch 157 1 = some (.iload_n 1, 0, 0) := by decide +kernel
theorem f_157_2 : mj_fetch 157 2 = some (.invokevirtual 185, 137, 0) := by decide +kernel
theorem f_157_5 : mj_fetch 157 5 = some (.ifCond .ne 6, 0, 0) := by decide +kernel
theorem f_157_8 : mj_fetch 157 8 = some (.bipush (-2), 0, 0) := by decide +kernel
theorem f_157_10 : mj_fetch 157 10 = some (.ireturn, 0, 0) := by decide +kernel
theorem f_157_11 : mj_fetch 157 11 = some (.aload_n 0, 0, 0) := by decide +kernel
theorem f_157_12 : mj_fetch 157 12 = some (.iload_n 1, 0, 0) := by decide +kernel
theorem f_157_13 : mj_fetch 157 13 = some (.putfield 179, 11, 22) := by decide +kernel
theorem f_157_16 : mj_fetch 157 16 = some (.aload_n 0, 0, 0) := by decide +kernel
theorem f_157_17 : mj_fetch 157 17 = some (.iconst 0, 0, 0) := by decide +kernel
theorem f_157_18 : mj_fetch 157 18 = some (.putfield 228, 11, 29) := by decide +kernel
theorem f_157_21 : mj_fetch 157 21 = some (.aload_n 0, 0, 0) := by decide +kernel
theorem f_157_22 : mj_fetch 157 22 = some (.iconst (-1), 0, 0) := by decide +kernel
theorem f_157_23 : mj_fetch 157 23 = some (.putfield 225, 11, 30) := by decide +kernel
theorem f_157_26 : mj_fetch 157 26 = some (.aload_n 0, 0, 0) := by decide +kernel
theorem f_157_27 : mj_fetch 157 27 = some (.iconst 0, 0, 0) := by decide +kernel
theorem f_157_28 : mj_fetch 157 28 = some (.aload_n 0, 0, 0) := by decide +kernel
theorem f_157_29 : mj_fetch 157 29 = some (.iconst 0, 0, 0) := by decide +kernel
theorem f_157_30 : mj_fetch 157 30 = some (.invokevirtual 188, 143, 0) := by decide +kernel
theorem f_157_33 : mj_fetch 157 33 = some (.iconst 0, 0, 0) := by decide +kernel
theorem f_157_34 : mj_fetch 157 34 = some (.aload_n 0, 0, 0) := by decide +kernel
theorem f_157_35 : mj_fetch 157 35 = some (.iconst 1, 0, 0) := by decide +kernel
theorem f_157_36 : mj_fetch 157 36 = some (.invokevirtual 188, 143, 0) := by decide +kernel
theorem f_157_39 : mj_fetch 157 39 = some (.iconst 0, 0, 0) := by decide +kernel
theorem f_157_40 : mj_fetch 157 40 = some (.aload_n 0, 0, 0) := by decide +kernel
theorem f_157_41 : mj_fetch 157 41 = some (.iconst 2, 0, 0) := by decide +kernel
theorem f_157_42 : mj_fetch 157 42 = some (.invokevirtual 188, 143, 0) := by decide +kernel
theorem f_157_45 : mj_fetch 157 45 = some (.invokevirtual 231, 156, 0) := by decide +kernel
/-- what is answered of a row that was followed -/
def ckA : Option Nat → Int32
  | none => -1
  | some p => nI p
/-- a told row against a window -/
def CW (h : mj_H) (w n : Nat) (T : Nat → Nat) : Option Nat := CK (wg h w) T n 0 [(0, Wd h w 0, 0, Wd h w 1, 0, Wd h w 2)]

set_option maxRecDepth 20000 in
set_option maxHeartbeats 4000000 in
theorem c_check {h : mj_H} {jm wm : Nat} (hW : MW h jm) (h_wm : wm ≤ 10) (e_wm : mj_I h 33 21 = nI wm) (hNN : ∀ i, i < wm → WN h i jm) (w : Int32) {n : Nat} {T : Nat → Nat} (h_tm : n ≤ 500) (e_tm : mj_I h 33 28 = nI n) (hT : ∀ q, q < n → mj_I h 51 q = nI (T q) ∧ T q ≤ 31) : mxc 23 157 [.ref 33, .int w] h (fun r h' => if mIn w wm then r = some (.int (ckA (CW h w.toNatClampNeg n T))) ∧ SQ h h' jm else r = some (.int (-2)) ∧ h' = h) := by
  have S : SM h := hW.1
  show mx 23 157 0 [.ref 33, .int w] [] h _
  refine x_aload_n f_157_0 rfl ?_
  refine x_iload_n f_157_1 rfl ?_
  refine x_callVe f_157_2 (c_isWindow hW.1 _ (n := wm) (by omega) e_wm) (by omega) S.k33 (by decide) rfl rfl (Nat.le_of_ble_eq_true rfl) rfl ?_
  refine x_ifB_ne (t := 11) f_157_5 (by decide) (fun c_1 => ?_) (fun c_1 => ?_)
  · obtain ⟨i, h_i, rfl⟩ := mIn_of c_1 (by omega)
    have hN := hNN i h_i
    have hw5 := Wd_5 hN
    simp only [nI_clamp (show i < 2 ^ 31 by omega)]
    refine x_aload_n f_157_11 rfl ?_
    refine x_iload_n f_157_12 rfl ?_
    refine x_putI f_157_13 S.k33 (by decide) ?_
    refine x_aload_n f_157_16 rfl ?_
    refine x_iconst (v := nI 0) f_157_17 (by decide) ?_
    refine x_putI f_157_18 S.k33 (by decide) ?_
    refine x_aload_n f_157_21 rfl ?_
    refine x_iconst (v := -1) f_157_22 (by decide) ?_
    refine x_putI f_157_23 S.k33 (by decide) ?_
    have hF : FI (mj_setI (mj_setI (mj_setI h 33 22 (nI i)) 33 29 (nI 0)) 33 30 (-1)) jm i (wg h i) (Wd h i) n T := by
      have e36 : mj_I (mj_setI (mj_setI (mj_setI h 33 22 (nI i)) 33 29 (nI 0)) 33 30 (-1)) 36 = mj_I h 36 := (mj_I_other (by decide)).trans ((mj_I_other (by decide)).trans (mj_I_other (by decide)))
      have e45 : mj_I (mj_setI (mj_setI (mj_setI h 33 22 (nI i)) 33 29 (nI 0)) 33 30 (-1)) 45 = mj_I h 45 := (mj_I_other (by decide)).trans ((mj_I_other (by decide)).trans (mj_I_other (by decide)))
      have e46 : mj_I (mj_setI (mj_setI (mj_setI h 33 22 (nI i)) 33 29 (nI 0)) 33 30 (-1)) 46 = mj_I h 46 := (mj_I_other (by decide)).trans ((mj_I_other (by decide)).trans (mj_I_other (by decide)))
      have e47 : mj_I (mj_setI (mj_setI (mj_setI h 33 22 (nI i)) 33 29 (nI 0)) 33 30 (-1)) 47 = mj_I h 47 := (mj_I_other (by decide)).trans ((mj_I_other (by decide)).trans (mj_I_other (by decide)))
      have e51 : mj_I (mj_setI (mj_setI (mj_setI h 33 22 (nI i)) 33 29 (nI 0)) 33 30 (-1)) 51 = mj_I h 51 := (mj_I_other (by decide)).trans ((mj_I_other (by decide)).trans (mj_I_other (by decide)))
      refine ⟨MW_33 (MW_33 (MW_33 hW)), by omega, (mj_I_ne (by decide)).trans ((mj_I_ne (by decide)).trans (mj_I_at _ _ _ _)), WN_to e45 e46 e47 hN, fun t p l => wg_to e36 e45 e46 i t p l, fun a ha => ?_, (mj_I_ne (by decide)).trans ((mj_I_ne (by decide)).trans ((mj_I_ne (by decide)).trans e_tm)), h_tm, fun q hq => by rw [e51]; exact hT q hq⟩
      have qa := hN.2.2 a ha
      have eq : wlo (mj_setI (mj_setI (mj_setI h 33 22 (nI i)) 33 29 (nI 0)) 33 30 (-1)) i a = wlo h i a := by unfold wlo; rw [e46]
      rw [eq]
      unfold Wd
      omega
    have hX : FS (mj_setI (mj_setI (mj_setI h 33 22 (nI i)) 33 29 (nI 0)) 33 30 (-1)) n (true, 0) := FS_ok (Nat.zero_le _) (mj_I_at _ _ _ _) ((mj_I_ne (by decide)).trans (mj_I_at _ _ _ _))
    have hWI : ∀ a, a < 3 → mxc 0 143 [.ref 33, .int (nI a)] (mj_setI (mj_setI (mj_setI h 33 22 (nI i)) 33 29 (nI 0)) 33 30 (-1)) (fun r h' => r = some (.int (nI (Wd h i a))) ∧ h' = mj_setI (mj_setI (mj_setI h 33 22 (nI i)) 33 29 (nI 0)) 33 30 (-1)) := by
      intro a ha
      have e46 : mj_I (mj_setI (mj_setI (mj_setI h 33 22 (nI i)) 33 29 (nI 0)) 33 30 (-1)) 46 = mj_I h 46 := (mj_I_other (by decide)).trans ((mj_I_other (by decide)).trans (mj_I_other (by decide)))
      have e47 : mj_I (mj_setI (mj_setI (mj_setI h 33 22 (nI i)) 33 29 (nI 0)) 33 30 (-1)) 47 = mj_I h 47 := (mj_I_other (by decide)).trans ((mj_I_other (by decide)).trans (mj_I_other (by decide)))
      have q := c_wide hF.1.1 hF.2.1 hF.2.2.1 hF.2.2.2.1 ha
      unfold whi wlo at q
      rw [e46, e47] at q
      exact q
    refine x_aload_n f_157_26 rfl ?_
    refine x_iconst (v := nI 0) f_157_27 (by decide) ?_
    refine x_aload_n f_157_28 rfl ?_
    refine x_iconst (v := nI 0) f_157_29 (by decide) ?_
    refine x_callVe f_157_30 (hWI 0 (by decide)) (by omega) S.k33 (by decide) rfl rfl (Nat.le_of_ble_eq_true rfl) rfl ?_
    refine x_iconst (v := nI 0) f_157_33 (by decide) ?_
    refine x_aload_n f_157_34 rfl ?_
    refine x_iconst (v := nI 1) f_157_35 (by decide) ?_
    refine x_callVe f_157_36 (hWI 1 (by decide)) (by omega) S.k33 (by decide) rfl rfl (Nat.le_of_ble_eq_true rfl) rfl ?_
    refine x_iconst (v := nI 0) f_157_39 (by decide) ?_
    refine x_aload_n f_157_40 rfl ?_
    refine x_iconst (v := nI 2) f_157_41 (by decide) ?_
    refine x_callVe f_157_42 (hWI 2 (by decide)) (by omega) S.k33 (by decide) rfl rfl (Nat.le_of_ble_eq_true rfl) rfl ?_
    refine x_callV f_157_45 (follow_all 15 0 (Wd h i 0) 0 (Wd h i 1) 0 (Wd h i 2) (true, 0) _ (by unfold BX; omega) (by unfold spn; omega) hF hX) (by omega) S.k33 (by decide) rfl rfl (Nat.le_of_ble_eq_true rfl) rfl ?_
    rintro _ g ⟨rfl, hE, x, sx, tx⟩
    have S := hE.1.1
    have tx0 := tx []
    have hsq : SQ h g jm := ((((SQ.rf hW).set33 (by decide)).set33 (by decide)).set33 (by decide)).trans hE.sq
    have e28 : mj_I g 33 28 = nI n := (hE.2.2 28 (by decide)).trans ((mj_I_ne (by decide)).trans ((mj_I_ne (by decide)).trans ((mj_I_ne (by decide)).trans e_tm)))
    obtain ⟨y, p⟩ := x
    obtain ⟨hp, sx⟩ := sx
    replace hp : p ≤ n := hp
    have c_1w := c_1
    cases y with
    | false =>
      have e30 : mj_I g 33 30 = nI p := sx
      refine x_aload_n f_157_48 rfl ?_
      refine x_getI f_157_49 S.k33 (by decide) ?_
      refine x_topi (w := nI p) e30 ?_
      refine x_iconst (v := -1) f_157_52 (by decide) ?_
      refine x_icmp_eq (t := 63) f_157_53 (by decide) (fun c_1 => absurd c_1 (nI_ne_m1 (by omega))) (fun c_1 => ?_)
      refine x_aload_n f_157_56 rfl ?_
      refine x_getI f_157_57 S.k33 (by decide) ?_
      refine x_topi (w := nI p) e30 ?_
      refine x_goto (t := 82) f_157_60 (by decide) ?_
      refine x_retI f_157_82 rfl ?_
      refine mj_qT c_1w ⟨?_, hsq⟩
      have q : CW h i n T = some p := tx0
      rw [q]
      rfl
    | true =>
      have e30 : mj_I g 33 30 = -1 := sx.1
      have e29 : mj_I g 33 29 = nI p := sx.2
      refine x_aload_n f_157_48 rfl ?_
      refine x_getI f_157_49 S.k33 (by decide) ?_
      refine x_topi (w := -1) e30 ?_
      refine x_iconst (v := -1) f_157_52 (by decide) ?_
      refine x_icmp_eq (t := 63) f_157_53 (by decide) (fun c_2 => ?_) (fun c_2 => absurd rfl c_2)
      refine x_aload_n f_157_63 rfl ?_
      refine x_getI f_157_64 S.k33 (by decide) ?_
      refine x_topi (w := nI p) e29 ?_
      refine x_aload_n f_157_67 rfl ?_
      refine x_getI f_157_68 S.k33 (by decide) ?_
      refine x_topi (w := nI n) e28 ?_
      refine x_icmpN_ge (t := 81) f_157_71 (by decide) (by omega) (by omega) (fun c_p => ?_) (fun c_p => ?_)
      · refine x_iconst (v := -1) f_157_81 (by decide) ?_
        refine x_retI f_157_82 rfl ?_
        refine mj_qT c_1w ⟨?_, hsq⟩
        have q : CW h i n T = none := by
          refine Eq.trans tx0 ?_
          show CK _ T n p [] = none
          rw [CK_nil _ T hp, if_neg (by omega)]
        rw [q]
        rfl
      · refine x_aload_n f_157_74 rfl ?_
        refine x_getI f_157_75 S.k33 (by decide) ?_
        refine x_topi (w := nI p) e29 ?_
        refine x_goto (t := 82) f_157_78 (by decide) ?_
        refine x_retI f_157_82 rfl ?_
        refine mj_qT c_1w ⟨?_, hsq⟩
        have q : CW h i n T = some p := by
          refine Eq.trans tx0 ?_
          show CK _ T n p [] = some p
          rw [CK_nil _ T hp, if_pos (by omega)]
        rw [q]
        rfl
  · refine x_bipush (v := -2) f_157_8 (by decide) ?_
    refine x_retI f_157_10 rfl ?_
    exact mj_qF c_1 ⟨rfl, rfl⟩
