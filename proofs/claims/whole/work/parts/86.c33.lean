/-! THE BOOK of joints: what is known in a day -/
/-- a joint as the class keeps it -/
def XC (h : mj_H) (x jm : Nat) : Prop := (mj_R h 23 x = some (xA h x) ∧ mj_K h (xA h x) = (4, 3) ∧ 63 ≤ xA h x ∧ xA h x < h.1) ∧ mj_R h (xA h x) 0 = some (jA h (jj h x)) ∧ mj_I h (xA h x) 1 = nI (js h x) ∧ mj_I h (xA h x) 2 = mj_I h 54 x ∧ JT h x jm
/-- a trial as the class keeps it -/
def TR (h : mj_H) (i xm : Nat) : Prop := mj_I h 25 i = mj_I h 55 i ∧ mj_I h 27 i = mj_I h 57 i ∧ mj_I h 26 i = (if mj_I h 56 i = 0 then nI 2 else nI 1) ∧ ∃ t, t < xm ∧ mj_I h 55 i = nI t
/-- the book -/
def BK (h : mj_H) (jm xm km : Nat) : Prop := (xm ≤ 60 ∧ mj_I h 22 5 = nI xm ∧ ∀ x, x < xm → XC h x jm) ∧ km ≤ 100 ∧ mj_I h 22 6 = nI km ∧ (∀ i, i < km → TR h i xm) ∧ ∀ i j, i ≤ j → j < km → mj_I h 57 i ≤ mj_I h 57 j
theorem ta_stop {h : mj_H} {x q : Int32} {i km : Nat} (hd : ∀ j, i ≤ j → j < km → ¬ mj_I h 57 j ≤ q) : ∀ n, i + n ≤ km → ta h x q (i + n) = ta h x q i
  | 0, _ => rfl
  | n + 1, hn => by
    show (if mj_I h 55 (i + n) = x ∧ mj_I h 57 (i + n) ≤ q then _ else ta h x q (i + n)) = _
    rw [if_neg (fun z => hd (i + n) (by omega) (by omega) z.2)]
    exact ta_stop hd n (by omega)
theorem ta_s (h : mj_H) (x q : Int32) (k : Nat) : ta h x q (k + 1) = if mj_I h 55 k = x ∧ mj_I h 57 k ≤ q then (if mj_I h 56 k = 0 then 2 else 1) else ta h x q k := rfl
def cw (h : mj_H) (q : Int32) (km s wd : Nat) : Nat → Nat
  | 0 => 0
  | x + 1 => cw h q km s wd x + (if ta h (nI x) q km = wd ∧ hs h s x then 1 else 0)
theorem cw_cb (h : mj_H) (q : Int32) (km s : Nat) : ∀ x, cw h q km s 2 x = cb h q km s x
  | 0 => rfl
  | x + 1 => by
    show cw h q km s 2 x + _ = cb h q km s x + _
    rw [cw_cb h q km s x]
    congr 1
    by_cases h1 : hs h s x <;> by_cases h2 : ta h (nI x) q km = 2 <;> simp [h1, h2]
theorem cw_ca (h : mj_H) (q : Int32) (km s : Nat) : ∀ x, cw h q km s 2 x + cw h q km s 1 x = ca h q km s x
  | 0 => rfl
  | x + 1 => by
    show cw h q km s 2 x + _ + (cw h q km s 1 x + _) = ca h q km s x + _
    have k := cw_ca h q km s x
    have hle := ta_le h (nI x) q km
    have e : (if ta h (nI x) q km = 2 ∧ hs h s x then 1 else 0) + (if ta h (nI x) q km = 1 ∧ hs h s x then 1 else 0) = (if hs h s x ∧ ¬ ta h (nI x) q km = 0 then 1 else 0) := by
      by_cases h1 : hs h s x
      · rcases (show ta h (nI x) q km = 0 ∨ ta h (nI x) q km = 1 ∨ ta h (nI x) q km = 2 by omega) with h2 | h2 | h2 <;> simp [h1, h2]
      · simp [h1]
    omega
theorem cw_le (h : mj_H) (q : Int32) (km s wd : Nat) : ∀ x, cw h q km s wd x ≤ x
  | 0 => Nat.le_refl _
  | x + 1 => by
    have := cw_le h q km s wd x
    show cw h q km s wd x + (if _ then 1 else 0) ≤ x + 1
    split <;> omega
theorem k_hasJ {h : mj_H} {jm j : Nat} (c : CJ h jm) (hj : j < jm) (v : Int32) : mxc 0 32 [.ref (jA h j), .int v] h (fun r h' => r = some (.int (if mj_I h 37 j = v ∨ mj_I h 38 j = v then 1 else 0)) ∧ h' = h) := by
  have hc := (c.2.2.1 j hj).1
  rw [← hc.2.2.2.2.2.1.1, ← hc.2.2.2.2.2.1.2]
  exact k_has hc.1.2.1 v
theorem ta_rw {h g : mj_H} (e5 : mj_I g 55 = mj_I h 55) (e6 : mj_I g 56 = mj_I h 56) (e7 : mj_I g 57 = mj_I h 57) (x q : Int32) : ∀ k, ta g x q k = ta h x q k
  | 0 => rfl
  | k + 1 => by rw [ta_s, ta_s, e5, e6, e7, ta_rw e5 e6 e7 x q k]
set_option maxRecDepth 20000 in
theorem krc_0 {h : mj_H} {jm xm km : Nat} (b : BK h jm xm km) (q : Int32) {Q : Option Value → mj_H → Prop} (K : ∀ g, SC g → Rw h g [24] → (∀ x, x < xm → mj_I g 24 x = nI 0) → mx 0 15 25 [.ref 22, .int q, .int (nI 0)] [] g Q) : ∀ (j k : Nat) (g : mj_H), k + j = xm → SC g → Rw h g [24] → (∀ x, x < k → mj_I g 24 x = nI 0) → mx 0 15 2 [.ref 22, .int q, .int (nI k)] [] g Q := by
  have hx60 := b.1.1
  intro j
  induction j with
  | zero =>
    intro k g hk C hR hz
    have e5 := (congrFun (hR.i (a := 22) (by decide)) 5).trans b.1.2.1
    have e6 := (congrFun (hR.i (a := 22) (by decide)) 6).trans b.2.2.1
    refine x_iload_n f_15_2 rfl ?_
    refine x_aload_n f_15_3 rfl ?_
    refine x_getI f_15_4 C.k22 (by decide) ?_
    refine x_topi (w := nI xm) e5 ?_
    refine x_icmpN_ge (t := 23) f_15_7 (by decide) (by omega) (by omega) (fun c_1 => ?_) (fun c_1 => by omega)
    refine x_iconst (v := nI 0) f_15_23 (by decide) ?_
    refine x_istore_n (ls1 := [.ref 22, .int q, .int (nI 0)]) f_15_24 (Nat.le_of_ble_eq_true rfl) rfl ?_
    exact K g C hR (fun x hx => hz x (by omega))
  | succ j ih =>
    intro k g hk C hR hz
    have e5 := (congrFun (hR.i (a := 22) (by decide)) 5).trans b.1.2.1
    have e6 := (congrFun (hR.i (a := 22) (by decide)) 6).trans b.2.2.1
    refine x_iload_n f_15_2 rfl ?_
    refine x_aload_n f_15_3 rfl ?_
    refine x_getI f_15_4 C.k22 (by decide) ?_
    refine x_topi (w := nI xm) e5 ?_
    refine x_icmpN_ge (t := 23) f_15_7 (by decide) (by omega) (by omega) (fun c_1 => by omega) (fun c_1 => ?_)
    refine x_aload_n f_15_10 rfl ?_
    refine x_getR f_15_11 C.k22 (by decide) C.r22_1 ?_
    refine x_iload_n f_15_14 rfl ?_
    refine x_iconst (v := nI 0) f_15_15 (by decide) ?_
    refine x_iast (j := k) f_15_16 C.k24 (by decide) (by omega) (by decide) ?_
    refine x_iinc (v := nI (k + 1)) (ls1 := [.ref 22, .int q, .int (nI (k + 1))]) f_15_17 rfl (by exact nI_add _ 1) rfl ?_
    refine x_goto (t := 2) f_15_20 (by decide) ?_
    refine ih (k + 1) _ (by omega) (Rw.sc ((Rw.rf g [24]).set (by decide)) C (by decide)) (hR.trans ((Rw.rf g _).set (by decide))) (fun x hx => ?_)
    by_cases e : x = k
    · rw [e]; exact mj_I_at _ _ _ _
    · exact (mj_I_ne e).trans (hz x (by omega))
theorem nI_inj {a b : Nat} (ha : a < 2 ^ 31) (hb : b < 2 ^ 31) (h : nI a = nI b) : a = b := by
  have := congrArg Int32.toInt h
  rw [nI_toInt ha, nI_toInt hb] at this
  omega
set_option maxRecDepth 20000 in
theorem krc_l {h : mj_H} {jm xm km : Nat} (b : BK h jm xm km) (q : Int32) : ∀ (j i : Nat) (g : mj_H), i + j = km → SC g → Rw h g [24] → (∀ x, x < xm → mj_I g 24 x = nI (ta h (nI x) q i)) → mx 0 15 25 [.ref 22, .int q, .int (nI i)] [] g (fun r h' => r = none ∧ Rw h h' [24] ∧ ∀ x, x < xm → mj_I h' 24 x = nI (ta h (nI x) q km)) := by
  have hx60 := b.1.1
  have hk100 := b.2.1
  intro j
  induction j with
  | zero =>
    intro i g hi C hR hz
    have e5 := (congrFun (hR.i (a := 22) (by decide)) 5).trans b.1.2.1
    have e6 := (congrFun (hR.i (a := 22) (by decide)) 6).trans b.2.2.1
    refine x_iload_n f_15_25 rfl ?_
    refine x_aload_n f_15_26 rfl ?_
    refine x_getI f_15_27 C.k22 (by decide) ?_
    refine x_topi (w := nI km) e6 ?_
    refine x_icmpN_ge (t := 66) f_15_30 (by decide) (by omega) (by omega) (fun c_1 => ?_) (fun c_1 => by omega)
    refine x_retV f_15_66 rfl ?_
    obtain rfl : i = km := by omega
    exact ⟨rfl, hR, hz⟩
  | succ j ih =>
    intro i g hi C hR hz
    have e5 := (congrFun (hR.i (a := 22) (by decide)) 5).trans b.1.2.1
    have e6 := (congrFun (hR.i (a := 22) (by decide)) 6).trans b.2.2.1
    have htr := b.2.2.2.1 i (by omega)
    obtain ⟨t, ht1, ht2⟩ := htr.2.2.2
    have i27 := (congrFun (hR.i (a := 27) (by decide)) i).trans htr.2.1
    have i25 := ((congrFun (hR.i (a := 25) (by decide)) i).trans htr.1).trans ht2
    have i26 := (congrFun (hR.i (a := 26) (by decide)) i).trans htr.2.2.1
    refine x_iload_n f_15_25 rfl ?_
    refine x_aload_n f_15_26 rfl ?_
    refine x_getI f_15_27 C.k22 (by decide) ?_
    refine x_topi (w := nI km) e6 ?_
    refine x_icmpN_ge (t := 66) f_15_30 (by decide) (by omega) (by omega) (fun c_1 => by omega) (fun c_1 => ?_)
    refine x_aload_n f_15_33 rfl ?_
    refine x_getR f_15_34 C.k22 (by decide) C.r22_4 ?_
    refine x_iload_n f_15_37 rfl ?_
    refine x_iald (j := i) f_15_38 C.k27 (by omega) (by decide) ?_
    refine x_topi (w := mj_I h 57 i) i27 ?_
    refine x_iload_n f_15_39 rfl ?_
    refine x_icmp_gt (t := 66) f_15_40 (by decide) (fun c_d => ?_) (fun c_d => ?_)
    · refine x_retV f_15_66 rfl ?_
      refine ⟨rfl, hR, fun x hx => ?_⟩
      rw [hz x hx]
      congr 1
      have := ta_stop (h := h) (x := nI x) (q := q) (i := i) (km := km) (fun j h1 h2 h3 => Int32.not_le.mpr c_d (Int32.le_trans (b.2.2.2.2 i j h1 h2) h3)) (km - i) (by omega)
      rw [show i + (km - i) = km by omega] at this
      exact this.symm
    · refine x_aload_n f_15_43 rfl ?_
      refine x_getR f_15_44 C.k22 (by decide) C.r22_1 ?_
      refine x_aload_n f_15_47 rfl ?_
      refine x_getR f_15_48 C.k22 (by decide) C.r22_2 ?_
      refine x_iload_n f_15_51 rfl ?_
      refine x_iald (j := i) f_15_52 C.k25 (by omega) (by decide) ?_
      refine x_topi (w := nI t) i25 ?_
      refine x_aload_n f_15_53 rfl ?_
      refine x_getR f_15_54 C.k22 (by decide) C.r22_3 ?_
      refine x_iload_n f_15_57 rfl ?_
      refine x_iald (j := i) f_15_58 C.k26 (by omega) (by decide) ?_
      refine x_topi (w := if mj_I h 56 i = 0 then nI 2 else nI 1) i26 ?_
      refine x_iast (j := t) f_15_59 C.k24 (by decide) (by omega) (by decide) ?_
      refine x_iinc (v := nI (i + 1)) (ls1 := [.ref 22, .int q, .int (nI (i + 1))]) f_15_60 rfl (by exact nI_add _ 1) rfl ?_
      refine x_goto (t := 25) f_15_63 (by decide) ?_
      refine ih (i + 1) _ (by omega) (Rw.sc ((Rw.rf g [24]).set (by decide)) C (by decide)) (hR.trans ((Rw.rf g _).set (by decide))) (fun x hx => ?_)
      by_cases e : x = t
      · have key : mj_I h 55 i = nI x ∧ mj_I h 57 i ≤ q := ⟨by rw [e]; exact ht2, Int32.not_lt.mp c_d⟩
        rw [ta_s, if_pos key, e]
        refine (mj_I_at _ _ _ _).trans ?_
        by_cases h0 : mj_I h 56 i = 0
        · rw [if_pos h0, if_pos h0]
        · rw [if_neg h0, if_neg h0]
      · have key : ¬ (mj_I h 55 i = nI x ∧ mj_I h 57 i ≤ q) := fun z => e (nI_inj (by omega) (by omega) (z.1.symm.trans ht2))
        rw [ta_s, if_neg key]
        exact (mj_I_ne e).trans (hz x hx)
set_option maxRecDepth 20000 in
theorem k_recall {h : mj_H} {jm xm km : Nat} (b : BK h jm xm km) (q : Int32) (C : SC h) : mxc 0 15 [.ref 22, .int q] h (fun r h' => r = none ∧ Rw h h' [24] ∧ ∀ x, x < xm → mj_I h' 24 x = nI (ta h (nI x) q km)) := by
  show mx 0 15 0 [.ref 22, .int q, mj_unset] [] h _
  refine x_iconst (v := nI 0) f_15_0 (by decide) ?_
  refine x_istore_n (ls1 := [.ref 22, .int q, .int (nI 0)]) f_15_1 (Nat.le_of_ble_eq_true rfl) rfl ?_
  exact krc_0 b q (fun g C1 hR hz => krc_l b q km 0 g (Nat.zero_add _) C1 hR hz) xm 0 h (Nat.zero_add _) C (Rw.rf _ _) (fun x hx => absurd hx (Nat.not_lt_zero x))
