theorem f_150_0 : mj_fetch 150 0 = some (.aload_n 0, 0, 0) := by decide +kernel
theorem f_150_1 : mj_fetch 150 1 = some (.iload_n 1, 0, 0) := by decide +kernel
theorem f_150_2 : mj_fetch 150 2 = some (.invokevirtual 208, 147, 0) := by decide +kernel
theorem f_150_5 : mj_fetch 150 5 = some (.pop, 0, 0) := by decide +kernel
theorem f_150_6 : mj_fetch 150 6 = some (.aload_n 0, 0, 0) := by decide +kernel
theorem f_150_7 : mj_fetch 150 7 = some (.iconst 0, 0, 0) := by decide +kernel
theorem f_150_8 : mj_fetch 150 8 = some (.putfield 211, 11, 26) := by decide +kernel
theorem f_150_11 : mj_fetch 150 11 = some (.aload_n 0, 0, 0) := by decide +kernel
theorem f_150_12 : mj_fetch 150 12 = some (.iconst 0, 0, 0) := by decide +kernel
theorem f_150_13 : mj_fetch 150 13 = some (.aload_n 0, 0, 0) := by decide +kernel
theorem f_150_14 : mj_fetch 150 14 = some (.iconst 0, 0, 0) := by decide +kernel
theorem f_150_15 : mj_fetch 150 15 = some (.invokevirtual 188, 143, 0) := by decide +kernel
theorem f_150_18 : mj_fetch 150 18 = some (.iconst 0, 0, 0) := by decide +kernel
theorem f_150_19 : mj_fetch 150 19 = some (.aload_n 0, 0, 0) := by decide +kernel
theorem f_150_20 : mj_fetch 150 20 = some (.iconst 1, 0, 0) := by decide +kernel
theorem f_150_21 : mj_fetch 150 21 = some (.invokevirtual 188, 143, 0) := by decide +kernel
theorem f_150_24 : mj_fetch 150 24 = some (.iconst 0, 0, 0) := by decide +kernel
theorem f_150_25 : mj_fetch 150 25 = some (.aload_n 0, 0, 0) := by decide +kernel
theorem f_150_26 : mj_fetch 150 26 = some (.iconst 2, 0, 0) := by decide +kernel
theorem f_150_27 : mj_fetch 150 27 = some (.invokevirtual 188, 143, 0) := by decide +kernel
theorem f_150_30 : mj_fetch 150 30 = some (.invokevirtual 214, 149, 0) := by decide +kernel
theorem f_150_33 : mj_fetch 150 33 = some (.return_, 0, 0) := by decide +kernel
theorem f_151_0 : mj_fetch 151 0 = some (.aload_n 0, 0, 0) := by decide +kernel
theorem f_151_1 : mj_fetch 151 1 = some (.iload_n 1, 0, 0) := by decide +kernel
theorem f_151_2 : mj_fetch 151 2 = some (.invokevirtual 185, 137, 0) := by decide +kernel
theorem f_151_5 : mj_fetch 151 5 = some (.ifCond .ne 5, 0, 0) := by decide +kernel
theorem f_151_8 : mj_fetch 151 8 = some (.iconst (-1), 0, 0) := by decide +kernel
theorem f_151_9 : mj_fetch 151 9 = some (.ireturn, 0, 0) := by decide +kernel
theorem f_151_10 : mj_fetch 151 10 = some (.aload_n 0, 0, 0) := by decide +kernel
theorem f_151_11 : mj_fetch 151 11 = some (.iload_n 1, 0, 0) := by decide +kernel
theorem f_151_12 : mj_fetch 151 12 = some (.invokevirtual 218, 150, 0) := by decide +kernel
theorem f_151_15 : mj_fetch 151 15 = some (.iload_n 2, 0, 0) := by decide +kernel
theorem f_151_16 : mj_fetch 151 16 = some (.iconst (-1), 0, 0) := by decide +kernel
theorem f_151_17 : mj_fetch 151 17 = some (.if_icmp .ne 10, 0, 0) := by decide +kernel
theorem f_151_20 : mj_fetch 151 20 = some (.aload_n 0, 0, 0) := by decide +kernel
theorem f_151_21 : mj_fetch 151 21 = some (.getfield 211, 11, 26) := by decide +kernel
theorem f_151_24 : mj_fetch 151 24 = some (.goto 27, 0, 0) := by decide +kernel
theorem f_151_27 : mj_fetch 151 27 = some (.iload_n 2, 0, 0) := by decide +kernel
theorem f_151_28 : mj_fetch 151 28 = some (.iconst 0, 0, 0) := by decide +kernel
theorem f_151_29 : mj_fetch 151 29 = some (.aload_n 0, 0, 0) := by decide +kernel
theorem f_151_30 : mj_fetch 151 30 = some (.getfield 211, 11, 26) := by decide +kernel
theorem f_151_33 : mj_fetch 151 33 = some (.iconst 1, 0, 0) := by decide +kernel
theorem f_151_34 : mj_fetch 151 34 = some (.isub, 0, 0) := by decide +kernel
theorem f_151_35 : mj_fetch 151 35 = some (.invokestatic 100, 112, 0) := by decide +kernel
theorem f_151_38 : mj_fetch 151 38 = some (.ifCond .eq 12, 0, 0) := by decide +kernel
theorem f_151_41 : mj_fetch 151 41 = some (.aload_n 0, 0, 0) := by decide +kernel
theorem f_151_42 : mj_fetch 151 42 = some (.getfield 60, 11, 25) := by decide +kernel
theorem f_151_45 : mj_fetch 151 45 = some (.iload_n 2, 0, 0) := by decide +kernel
theorem f_151_46 : mj_fetch 151 46 = some (.iaload, 0, 0) := by decide +kernel
theorem f_151_47 : mj_fetch 151 47 = some (.goto 4, 0, 0) := by decide +kernel
theorem f_151_50 : mj_fetch 151 50 = some (.iconst (-1), 0, 0) := by decide +kernel
theorem f_151_51 : mj_fetch 151 51 = some (.ireturn, 0, 0) := by decide +kernel
theorem f_153_17 : mj_fetch 153 17 = some (.iload_n 2, 0, 0) := by decide +kernel
theorem f_153_18 : mj_fetch 153 18 = some (.aload_n 0, 0, 0) := by decide +kernel
theorem f_153_19 : mj_fetch 153 19 = some (.getfield 211, 11, 26) := by decide +kernel
theorem f_153_22 : mj_fetch 153 22 = some (.if_icmp .ge 21, 0, 0) := by decide +kernel
theorem f_153_25 : mj_fetch 153 25 = some (.aload_n 0, 0, 0) := by decide +kernel
theorem f_153_26 : mj_fetch 153 26 = some (.getfield 63, 11, 27) := by decide +kernel
theorem f_153_29 : mj_fetch 153 29 = some (.iload_n 2, 0, 0) := by decide +kernel
theorem f_153_30 : mj_fetch 153 30 = some (.aload_n 0, 0, 0) := by decide +kernel
theorem f_153_31 : mj_fetch 153 31 = some (.getfield 60, 11, 25) := by decide +kernel
theorem f_153_34 : mj_fetch 153 34 = some (.iload_n 2, 0, 0) := by decide +kernel
theorem f_153_35 : mj_fetch 153 35 = some (.iaload, 0, 0) := by decide +kernel
theorem f_153_36 : mj_fetch 153 36 = some (.iastore, 0, 0) := by decide +kernel
theorem f_153_37 : mj_fetch 153 37 = some (.iinc 2 1, 0, 0) := by decide +kernel
theorem f_153_40 : mj_fetch 153 40 = some (.goto (-23), 0, 0) := by decide +kernel
theorem f_153_43 : mj_fetch 153 43 = some (.aload_n 0, 0, 0) := by decide +kernel
theorem f_153_44 : mj_fetch 153 44 = some (.aload_n 0, 0, 0) := by decide +kernel
theorem f_153_45 : mj_fetch 153 45 = some (.getfield 211, 11, 26) := by decide +kernel
theorem f_153_48 : mj_fetch 153 48 = some (.putfield 222, 11, 28) := by decide +kernel
theorem f_153_51 : mj_fetch 153 51 = some (.aload_n 0, 0, 0) := by decide +kernel
theorem f_153_52 : mj_fetch 153 52 = some (.getfield 222, 11, 28) := by decide +kernel
theorem f_153_55 : mj_fetch 153 55 = some (.ireturn, 0, 0) := by decide +kernel
theorem f_153_0 : mj_fetch 153 0 = some (.aload_n 0, 0, 0) := by decide +kernel
theorem f_153_1 : mj_fetch 153 1 = some (.iload_n 1, 0, 0) := by decide +kernel
theorem f_153_2 : mj_fetch 153 2 = some (.invokevirtual 185, 137, 0) := by decide +kernel
theorem f_153_5 : mj_fetch 153 5 = some (.ifCond .ne 5, 0, 0) := by decide +kernel
theorem f_153_8 : mj_fetch 153 8 = some (.iconst (-1), 0, 0) := by decide +kernel
theorem f_153_9 : mj_fetch 153 9 = some (.ireturn, 0, 0) := by decide +kernel
theorem f_153_10 : mj_fetch 153 10 = some (.aload_n 0, 0, 0) := by decide +kernel
theorem f_153_11 : mj_fetch 153 11 = some (.iload_n 1, 0, 0) := by decide +kernel
theorem f_153_12 : mj_fetch 153 12 = some (.invokevirtual 218, 150, 0) := by decide +kernel
theorem f_153_15 : mj_fetch 153 15 = some (.iconst 0, 0, 0) := by decide +kernel
theorem f_153_16 : mj_fetch 153 16 = some (.istore_n 2, 0, 0) := by decide +kernel
/-- the row of the least proof of a window -/
def PW (h : mj_H) (w : Nat) : List Nat := PF (wg h w) 0 (Wd h w 0) 0 (Wd h w 1) 0 (Wd h w 2)
theorem PW_len {h : mj_H} {w jm : Nat} (hN : WN h w jm) : (PW h w).length + 1 = 2 * (LW h w).1 := by
  have k := Wd_5 hN
  exact PF_len (wg h w) 16 0 (Wd h w 0) 0 (Wd h w 1) 0 (Wd h w 2) (by omega) (by omega) (by omega) (by omega) (by omega) (by omega) (by unfold spn; omega)
theorem LW_216 {h : mj_H} {w jm : Nat} (hN : WN h w jm) : (LW h w).1 ≤ 216 := by
  have k := Wd_5 hN
  exact LV_216 (wg h w) (by omega) (by omega) (by omega) (by omega) (by omega) (by omega)
theorem SQ.wr {h g k : mj_H} {jm m : Nat} {l : List Nat} (a : SQ h g jm) (r : WrQ g k m l) : SQ h k jm := by
  refine ⟨MW_rw a.1 r.1 (by decide), a.2.1.trans (r.1.mono (by decide)), fun q hq => (r.2.1 q (fun z => hq (by rw [z]; decide))).trans (a.2.2 q hq)⟩
theorem CL.set26 {g : mj_H} {jm w : Nat} {G : Gd} {W : Nat → Nat} {x : Int32} (c : CL g jm w G W) : CL (mj_setI g 33 26 x) jm w G W := by
  have e36 : mj_I (mj_setI g 33 26 x) 36 = mj_I g 36 := mj_I_other (by decide)
  have e45 : mj_I (mj_setI g 33 26 x) 45 = mj_I g 45 := mj_I_other (by decide)
  have e46 : mj_I (mj_setI g 33 26 x) 46 = mj_I g 46 := mj_I_other (by decide)
  have e47 : mj_I (mj_setI g 33 26 x) 47 = mj_I g 47 := mj_I_other (by decide)
  have e48 : mj_I (mj_setI g 33 26 x) 48 = mj_I g 48 := mj_I_other (by decide)
  have e49 : mj_I (mj_setI g 33 26 x) 49 = mj_I g 49 := mj_I_other (by decide)
  refine ⟨MW_33 c.1, c.2.1, (mj_I_ne (by decide)).trans c.2.2.1, WN_to e45 e46 e47 c.2.2.2.1, fun t p l => (wg_to e36 e45 e46 w t p l).trans (c.2.2.2.2.1 t p l), fun a ha => by unfold wlo; rw [e46]; exact c.2.2.2.2.2.1 a ha, ?_, MC.eq e48 c.2.2.2.2.2.2.2⟩
  unfold MO
  rw [e48, e49]
  exact c.2.2.2.2.2.2.1

set_option maxRecDepth 20000 in
set_option maxHeartbeats 4000000 in
theorem c_writeOut {h : mj_H} {jm w : Nat} (hW : MW h jm) (hw : w < 10) (hN : WN h w jm) : mxc 24 150 [.ref 33, .int (nI w)] h (fun r h' => r = none ∧ SQ h h' jm ∧ mj_I h' 33 26 = nI (PW h w).length ∧ ∀ q, q < (PW h w).length → mj_I h' 50 q = nI ((PW h w).getD q 0)) := by
  have S : SM h := hW.1
  have h216 := LW_216 hN
  have hw5 := Wd_5 hN
  show mx 24 150 0 [.ref 33, .int (nI w)] [] h _
  refine x_aload_n f_150_0 rfl ?_
  refine x_iload_n f_150_1 rfl ?_
  refine x_callV f_150_2 (c_prove hW hw hN) (by omega) S.k33 (by decide) rfl rfl (Nat.le_of_ble_eq_true rfl) rfl ?_
  rintro _ g ⟨rfl, hC, hST, hq⟩
  have S := hC.1.1
  refine x_pop f_150_5 rfl ?_
  refine x_aload_n f_150_6 rfl ?_
  refine x_iconst (v := nI 0) f_150_7 (by decide) ?_
  refine x_putI f_150_8 S.k33 (by decide) ?_
  have hST2 : ST (mj_setI g 33 26 (nI 0)) 0 (Wd h w 0) 0 (Wd h w 1) 0 (Wd h w 2) := by unfold ST; rw [mj_I_other (by decide)]; exact hST
  have f46 : mj_I g 46 = mj_I h 46 := hq.2.1.i (by decide)
  have f47 : mj_I g 47 = mj_I h 47 := hq.2.1.i (by decide)
  have hWd : ∀ a, a < 3 → whi (mj_setI g 33 26 (nI 0)) w a - wlo (mj_setI g 33 26 (nI 0)) w a = Wd h w a := fun a _ => by unfold Wd whi wlo; rw [mj_I_other (by decide), mj_I_other (by decide), f46, f47]
  refine x_aload_n f_150_11 rfl ?_
  refine x_iconst (v := nI 0) f_150_12 (by decide) ?_
  refine x_aload_n f_150_13 rfl ?_
  refine x_iconst (v := nI 0) f_150_14 (by decide) ?_
  refine x_callVe f_150_15 (c_wideC hC.set26 hWd (by decide)) (by omega) S.k33 (by decide) rfl rfl (Nat.le_of_ble_eq_true rfl) rfl ?_
  refine x_iconst (v := nI 0) f_150_18 (by decide) ?_
  refine x_aload_n f_150_19 rfl ?_
  refine x_iconst (v := nI 1) f_150_20 (by decide) ?_
  refine x_callVe f_150_21 (c_wideC hC.set26 hWd (by decide)) (by omega) S.k33 (by decide) rfl rfl (Nat.le_of_ble_eq_true rfl) rfl ?_
  refine x_iconst (v := nI 0) f_150_24 (by decide) ?_
  refine x_aload_n f_150_25 rfl ?_
  refine x_iconst (v := nI 2) f_150_26 (by decide) ?_
  refine x_callVe f_150_27 (c_wideC hC.set26 hWd (by decide)) (by omega) S.k33 (by decide) rfl rfl (Nat.le_of_ble_eq_true rfl) rfl ?_
  refine x_callV f_150_30 (write_all (Wd_5 hN) 15 0 (Wd h w 0) 0 (Wd h w 1) 0 (Wd h w 2) 0 _ (by unfold BX; omega) (by unfold spn; omega) hC.set26 hST2 (mj_I_at _ _ _ _) (by show 0 + 2 * (LW h w).1 ≤ 501; omega)) (by omega) S.k33 (by decide) rfl rfl (Nat.le_of_ble_eq_true rfl) rfl ?_
  rintro _ g2 ⟨rfl, q2⟩
  refine x_retV f_150_33 rfl ?_
  refine ⟨rfl, (hq.set33 (by decide)).wr q2, ?_, fun q hq => ?_⟩
  · rw [q2.2.2.1, Nat.zero_add]; rfl
  · rw [q2.2.2.2 q, Nat.zero_add, if_pos ⟨Nat.zero_le _, hq⟩]; rfl
/-- what is answered of a row of numbers -/
def pwA (l : List Nat) (k : Int32) : Int32 := if k = -1 then nI l.length else if mIn k l.length then nI (l.getD k.toNatClampNeg 0) else -1
set_option maxRecDepth 20000 in
theorem c_proof {h : mj_H} {jm wm : Nat} (hW : MW h jm) (h_wm : wm ≤ 10) (e_wm : mj_I h 33 21 = nI wm) (hNN : ∀ i, i < wm → WN h i jm) (w : Int32) (k : Int32) : mxc 25 151 [.ref 33, .int w, .int k] h (fun r h' => if mIn w wm then r = some (.int (pwA (PW h w.toNatClampNeg) k)) ∧ SQ h h' jm else r = some (.int (-1)) ∧ h' = h) := by
  have S : SM h := hW.1
  show mx 25 151 0 [.ref 33, .int w, .int k] [] h _
  refine x_aload_n f_151_0 rfl ?_
  refine x_iload_n f_151_1 rfl ?_
  refine x_callVe f_151_2 (c_isWindow hW.1 _ (n := wm) (by omega) e_wm) (by omega) S.k33 (by decide) rfl rfl (Nat.le_of_ble_eq_true rfl) rfl ?_
  refine x_ifB_ne (t := 10) f_151_5 (by decide) (fun c_1 => ?_) (fun c_1 => ?_)
  · obtain ⟨i, h_i, rfl⟩ := mIn_of c_1 (by omega)
    have hN := hNN i h_i
    have hl := PW_len hN
    have h216 := LW_216 hN
    simp only [nI_clamp (show i < 2 ^ 31 by omega)]
    refine x_aload_n f_151_10 rfl ?_
    refine x_iload_n f_151_11 rfl ?_
    refine x_callV f_151_12 (c_writeOut hW (by omega) hN) (by omega) S.k33 (by decide) rfl rfl (Nat.le_of_ble_eq_true rfl) rfl ?_
    rintro _ g ⟨rfl, hq, e26, e50⟩
    have S := hq.1.1
    refine x_iload_n f_151_15 rfl ?_
    refine x_iconst (v := -1) f_151_16 (by decide) ?_
    refine x_icmp_ne (t := 27) f_151_17 (by decide) (fun c_2 => ?_) (fun c_2 => ?_)
    · refine x_iload_n f_151_27 rfl ?_
      refine x_iconst (v := nI 0) f_151_28 (by decide) ?_
      refine x_aload_n f_151_29 rfl ?_
      refine x_getI f_151_30 S.k33 (by decide) ?_
      refine x_topi (w := nI ((PW h i).length)) e26 ?_
      refine x_iconst (v := nI 1) f_151_33 (by decide) ?_
      refine x_isub f_151_34 ?_
      refine x_callSe f_151_35 (c_inM _ _ (n := ((PW h i).length)) (by omega)) (by omega) rfl rfl rfl (Nat.le_of_ble_eq_true rfl) rfl ?_
      refine x_ifB_eq (t := 50) f_151_38 (by decide) (fun c_3 => ?_) (fun c_3 => ?_)
      · refine x_iconst (v := -1) f_151_50 (by decide) ?_
        refine x_retI f_151_51 rfl ?_
        exact mj_qT c_1 ⟨by unfold pwA; rw [if_neg c_2, if_neg c_3], hq⟩
      · obtain ⟨n, h_n, rfl⟩ := mIn_of c_3 (by omega)
        refine x_aload_n f_151_41 rfl ?_
        refine x_getR f_151_42 S.k33 (by decide) S.r25 ?_
        refine x_iload_n f_151_45 rfl ?_
        refine x_iald (j := n) f_151_46 S.k50 (by omega) (by decide) ?_
        refine x_topi (w := nI ((PW h i).getD n 0)) (e50 n h_n) ?_
        refine x_goto (t := 51) f_151_47 (by decide) ?_
        refine x_retI f_151_51 rfl ?_
        exact mj_qT c_1 ⟨by unfold pwA; rw [if_neg c_2, if_pos c_3, nI_clamp (show n < 2 ^ 31 by omega)], hq⟩
    · refine x_aload_n f_151_20 rfl ?_
      refine x_getI f_151_21 S.k33 (by decide) ?_
      refine x_topi (w := nI ((PW h i).length)) e26 ?_
      refine x_goto (t := 51) f_151_24 (by decide) ?_
      refine x_retI f_151_51 rfl ?_
      exact mj_qT c_1 ⟨by unfold pwA; rw [if_pos c_2], hq⟩
  · refine x_iconst (v := -1) f_151_8 (by decide) ?_
    refine x_retI f_151_9 rfl ?_
    exact mj_qF c_1 ⟨rfl, rfl⟩
set_option maxRecDepth 20000 in
theorem copy_l {h : mj_H} {v1 : Value} {l : List Nat} {N : Nat} (hN : l.length = N) (hN5 : N ≤ 500) {Q : Option Value → mj_H → Prop} (K : ∀ g : mj_H, SM g → Rw h g [51] → mj_I g 33 26 = nI N → (∀ q, mj_I g 51 q = if q < N then nI (l.getD q 0) else mj_I h 51 q) → mx 25 153 43 [.ref 33, v1, .int (nI N)] [] g Q) :
    ∀ (n k : Nat) (g : mj_H), k + n = N → SM g → Rw h g [51] → mj_I g 33 26 = nI N → (∀ q, q < N → mj_I g 50 q = nI (l.getD q 0)) → (∀ q, mj_I g 51 q = if q < k then nI (l.getD q 0) else mj_I h 51 q) → mx 25 153 17 [.ref 33, v1, .int (nI k)] [] g Q := by
  intro n
  induction n with
  | zero =>
    intro k g hk S hR e26 e50 hz
    have hkk : k = N := by omega
    subst hkk
    refine x_iload_n f_153_17 rfl ?_
    refine x_aload_n f_153_18 rfl ?_
    refine x_getI f_153_19 S.k33 (by decide) ?_
    refine x_topi (w := nI k) e26 ?_
    refine x_icmpN_ge (t := 43) f_153_22 (by decide) (by omega) (by omega) (fun c_1 => ?_) (fun c_1 => by omega)
    exact K g S hR e26 hz
  | succ n ih =>
    intro k g hk S hR e26 e50 hz
    refine x_iload_n f_153_17 rfl ?_
    refine x_aload_n f_153_18 rfl ?_
    refine x_getI f_153_19 S.k33 (by decide) ?_
    refine x_topi (w := nI N) e26 ?_
    refine x_icmpN_ge (t := 43) f_153_22 (by decide) (by omega) (by omega) (fun c_1 => by omega) (fun c_1 => ?_)
    refine x_aload_n f_153_25 rfl ?_
    refine x_getR f_153_26 S.k33 (by decide) S.r27 ?_
    refine x_iload_n f_153_29 rfl ?_
    refine x_aload_n f_153_30 rfl ?_
    refine x_getR f_153_31 S.k33 (by decide) S.r25 ?_
    refine x_iload_n f_153_34 rfl ?_
    refine x_iald (j := k) f_153_35 S.k50 (by omega) (by decide) ?_
    refine x_topi (w := nI (l.getD k 0)) (e50 k (by omega)) ?_
    refine x_iast (j := k) f_153_36 S.k51 (by decide) (by omega) (by decide) ?_
    refine x_iinc (v := nI (k + 1)) (ls1 := [.ref 33, v1, .int (nI (k + 1))]) f_153_37 rfl (by exact nI_add _ 1) rfl ?_
    refine x_goto (t := 17) f_153_40 (by decide) ?_
    refine ih (k + 1) _ (by omega) S (hR.set (by decide)) ((congrFun (mj_I_other (by decide)) 26).trans e26) (fun q hq => (congrFun (mj_I_other (by decide)) q).trans (e50 q hq)) (fun q => ?_)
    by_cases hqk : q = k
    · subst hqk; rw [mj_I_at, if_pos (by omega)]
    · rw [mj_I_ne hqk, hz q]
      by_cases h1 : q < k
      · rw [if_pos h1, if_pos (by omega)]
      · rw [if_neg h1, if_neg (by omega)]
set_option maxRecDepth 20000 in
theorem c_copy {h : mj_H} {jm wm : Nat} (hW : MW h jm) (h_wm : wm ≤ 10) (e_wm : mj_I h 33 21 = nI wm) (hNN : ∀ i, i < wm → WN h i jm) (w : Int32) : mxc 25 153 [.ref 33, .int w] h (fun r h' => if mIn w wm then r = some (.int (nI (PW h w.toNatClampNeg).length)) ∧ ∃ g, SQ h g jm ∧ Rw g h' [33, 51] ∧ (∀ q, ¬ q = 28 → mj_I h' 33 q = mj_I g 33 q) ∧ mj_I h' 33 28 = nI (PW h w.toNatClampNeg).length ∧ (∀ q, mj_I h' 51 q = if q < (PW h w.toNatClampNeg).length then nI ((PW h w.toNatClampNeg).getD q 0) else mj_I g 51 q) else r = some (.int (-1)) ∧ h' = h) := by
  have S : SM h := hW.1
  show mx 25 153 0 [.ref 33, .int w, mj_unset] [] h _
  refine x_aload_n f_153_0 rfl ?_
  refine x_iload_n f_153_1 rfl ?_
  refine x_callVe f_153_2 (c_isWindow hW.1 _ (n := wm) (by omega) e_wm) (by omega) S.k33 (by decide) rfl rfl (Nat.le_of_ble_eq_true rfl) rfl ?_
  refine x_ifB_ne (t := 10) f_153_5 (by decide) (fun c_1 => ?_) (fun c_1 => ?_)
  · obtain ⟨i, h_i, rfl⟩ := mIn_of c_1 (by omega)
    have hN := hNN i h_i
    have hl := PW_len hN
    have h216 := LW_216 hN
    simp only [nI_clamp (show i < 2 ^ 31 by omega)]
    refine x_aload_n f_153_10 rfl ?_
    refine x_iload_n f_153_11 rfl ?_
    refine x_callV f_153_12 (c_writeOut hW (by omega) hN) (by omega) S.k33 (by decide) rfl rfl (Nat.le_of_ble_eq_true rfl) rfl ?_
    rintro _ g ⟨rfl, hq, e26, e50⟩
    have S := hq.1.1
    refine x_iconst (v := nI 0) f_153_15 (by decide) ?_
    refine x_istore_n (ls1 := [.ref 33, .int (nI i), .int (nI 0)]) f_153_16 (Nat.le_of_ble_eq_true rfl) rfl ?_
    refine copy_l (h := g) (l := PW h i) (N := (PW h i).length) rfl (by omega) ?_ _ 0 g (Nat.zero_add _) S (Rw.rf _ _) e26 e50 (fun q => by rw [if_neg (by omega)])
    intro g2 S hR f26 hz
    refine x_aload_n f_153_43 rfl ?_
    refine x_aload_n f_153_44 rfl ?_
    refine x_getI f_153_45 S.k33 (by decide) ?_
    refine x_topi (w := nI ((PW h i).length)) f26 ?_
    refine x_putI f_153_48 S.k33 (by decide) ?_
    refine x_aload_n f_153_51 rfl ?_
    refine x_getI f_153_52 S.k33 (by decide) ?_
    refine x_topi (w := nI ((PW h i).length)) (mj_I_at _ _ _ _) ?_
    refine x_retI f_153_55 rfl ?_
    refine mj_qT c_1 ⟨rfl, g, hq, (hR.mono (by decide)).trans ((Rw.rf _ _).set (by decide)), fun q hq => (mj_I_ne hq).trans (congrFun (hR.i (by decide)) q), mj_I_at _ _ _ _, fun q => ?_⟩
    rw [mj_I_other (by decide)]
    exact hz q
  · refine x_iconst (v := -1) f_153_8 (by decide) ?_
    refine x_retI f_153_9 rfl ?_
    exact mj_qF c_1 ⟨rfl, rfl⟩
