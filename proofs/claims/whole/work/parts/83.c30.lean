/-! THE DAY'S LIST: what is left, set by set -/
def rvv (f : Nat → Int32) (m x : Nat) : Nat := (f (8 * m + x)).toNatClampNeg
/-- an entry of the table of what is left is right -/
def TE (f : Nat → Int32) (c : Nat → Nat → Nat) (n N2 m x : Nat) : Prop := f (8 * m + x) = nI (rvv f m x) ∧ RV c n m (some x) (rvv f m x) ∧ rvv f m x ≤ 70 * (N2 - 1 - m)
def TB (f : Nat → Int32) (c : Nat → Nat → Nat) (n N2 m : Nat) : Prop := ∀ m', m < m' → m' < N2 → ∀ x, x < n → m'.testBit x = true → TE f c n N2 m' x
theorem TE_to {f g : Nat → Int32} {c : Nat → Nat → Nat} {n N2 m x : Nat} (e : g (8 * m + x) = f (8 * m + x)) (h : TE f c n N2 m x) : TE g c n N2 m x := by
  unfold TE rvv at h ⊢
  rw [e]
  exact h
theorem TE_mk {f : Nat → Int32} {c : Nat → Nat → Nat} {n N2 m x v : Nat} (e : f (8 * m + x) = nI v) (hv : RV c n m (some x) v) (hb : v ≤ 70 * (N2 - 1 - m)) (h2 : N2 ≤ 256) : TE f c n N2 m x := by
  have : rvv f m x = v := by unfold rvv; rw [e, nI_clamp (by omega)]
  unfold TE
  rw [this]
  exact ⟨e, hv, hb⟩
theorem sh1 : ∀ n, n < 9 → (nI 1 <<< (nI n &&& 31)) - nI 1 = nI (2 ^ n - 1) := by decide
set_option maxRecDepth 20000 in
set_option maxHeartbeats 1000000 in
theorem kfr_k {h : mj_H} {n N2 Rt : Nat} (hn : n ≤ 8) (hN : N2 = 2 ^ n) (h2N : N2 ≤ 256) {c : Nat → Nat → Nat} (hc70 : ∀ a b, a < n → b < n → c a b ≤ 70) (hT : ∀ x y, x < n → y < n → mj_I h 32 (8 * x + y) = nI (c x y)) (h63 : 63 ≤ Rt) (hRt0 : mj_K h Rt = (12, 2048)) (e50 : mj_I h 28 5 = nI n) {m : Nat} (hm0 : 0 < m) (hmN : m < N2) {Q : Option Value → mj_H → Prop} (K : ∀ (g : mj_H) (v3 v4 : Value), SC g → Rw h g [Rt] → TB (mj_I g Rt) c n N2 (m - 1) → mx 3 25 74 [.ref 28, .ref Rt, .int (nI m), v3, v4] [] g Q) : ∀ (j k : Nat) (g : mj_H), k + j = n → SC g → Rw h g [Rt] → TB (mj_I g Rt) c n N2 m → (∀ x, x < k → m.testBit x = true → TE (mj_I g Rt) c n N2 m x) → ∀ v4 : Value, mx 3 25 15 [.ref 28, .ref Rt, .int (nI m), .int (nI k), v4] [] g Q := by
  intro j
  induction j with
  | zero =>
    intro k g hk C hR hB hK v4
    have hRt := (congrFun hR.2.2.1 Rt).trans hRt0
    have e5 := (congrFun (hR.i (a := 28) (by simp; omega)) 5).trans e50
    refine x_iload_n f_25_15 rfl ?_
    refine x_aload_n f_25_16 rfl ?_
    refine x_getI f_25_17 C.k28 (by decide) ?_
    refine x_topi (w := nI n) e5 ?_
    refine x_icmpN_ge (t := 74) f_25_20 (by decide) (by omega) (by omega) (fun c_1 => ?_) (fun c_1 => by omega)
    exact K g _ _ C hR (fun m' h1 h2 x hx hb => if e : m' = m then by rw [e] at hb ⊢; exact hK x (by omega) hb else hB m' (by omega) h2 x hx hb)
  | succ j ih =>
    intro k g hk C hR hB hK v4
    have hRt := (congrFun hR.2.2.1 Rt).trans hRt0
    have e5 := (congrFun (hR.i (a := 28) (by simp; omega)) 5).trans e50
    have hTg : ∀ x y, x < n → y < n → mj_I g 32 (8 * x + y) = nI (c x y) := fun x y hx hy => (congrFun (hR.i (by simp; omega)) _).trans (hT x y hx hy)
    have hm256 : m < 256 := by omega
    have hv : ∀ x, x < n → ¬ m.testBit x = true → mj_I g Rt (8 * (m ||| 2 ^ x) + x) = nI (rvv (mj_I g Rt) (m ||| 2 ^ x) x) := fun x hx hbx => (hB (m ||| 2 ^ x) (or_lt hn (hN ▸ hmN) hx hbx).1 (hN ▸ (or_lt hn (hN ▸ hmN) hx hbx).2) x hx (bit_or_iff.mpr (Or.inr rfl))).1
    have hbd : ∀ x, x < n → ¬ m.testBit x = true → cl c (some k) x + rvv (mj_I g Rt) (m ||| 2 ^ x) x < 100000 := fun x hx hbx => by
      have k1 := (hB (m ||| 2 ^ x) (or_lt hn (hN ▸ hmN) hx hbx).1 (hN ▸ (or_lt hn (hN ▸ hmN) hx hbx).2) x hx (bit_or_iff.mpr (Or.inr rfl))).2.2
      have k2 := hc70 k x (by omega) hx
      have k3 : cl c (some k) x = c k x := rfl
      omega
    refine x_iload_n f_25_15 rfl ?_
    refine x_aload_n f_25_16 rfl ?_
    refine x_getI f_25_17 C.k28 (by decide) ?_
    refine x_topi (w := nI n) e5 ?_
    refine x_icmpN_ge (t := 74) f_25_20 (by decide) (by omega) (by omega) (fun c_1 => by omega) (fun c_1 => ?_)
    refine x_iload_n f_25_23 rfl ?_
    refine x_iload_n f_25_24 rfl ?_
    refine x_ishr f_25_25 ?_
    refine x_iconst (v := nI 1) f_25_26 (by decide) ?_
    refine x_iand f_25_27 ?_
    refine x_topi (w := if m.testBit k = true then 1 else 0) (bit_at hm256 (by omega)) ?_
    refine x_iconst (v := nI 1) f_25_28 (by decide) ?_
    refine x_icmp_ne (t := 68) f_25_29 (by decide) (fun c_b => ?_) (fun c_b => ?_)
    · refine x_iinc (v := nI (k + 1)) (ls1 := [.ref 28, .ref Rt, .int (nI m), .int (nI (k + 1)), v4]) f_25_68 rfl (by exact nI_add _ 1) rfl ?_
      refine x_goto (t := 15) f_25_71 (by decide) ?_
      exact ih (k + 1) g (by omega) C hR hB (fun x hx hb2 => if e : x = k then absurd (if_e1.mpr (e ▸ hb2)) c_b else hK x (by omega) hb2) _
    · refine x_aload_n f_25_32 rfl ?_
      refine x_aload_n f_25_33 rfl ?_
      refine x_iload_n f_25_34 rfl ?_
      refine x_iload_n f_25_35 rfl ?_
      refine x_callV f_25_36 (k_bestNext C hn hTg (la := some k) (fun a q => by cases q; omega) hm256 hRt (rv := fun x => rvv (mj_I g Rt) (m ||| 2 ^ x) x) hv hbd e5) (by omega) C.k28 (by decide) rfl rfl (Nat.le_of_ble_eq_true rfl) rfl ?_
      rintro _ g2 ⟨best, hb, rfl, eg⟩
      have eg := eg.symm
      subst eg
      cases best with
      | none =>
        refine x_istore (ls1 := [.ref 28, .ref Rt, .int (nI m), .int (nI k), .int (-1)]) f_25_39 (Nat.le_of_ble_eq_true rfl) rfl ?_
        refine x_aload_n f_25_41 rfl ?_
        refine x_iload_n f_25_42 rfl ?_
        refine x_bipush (v := nI 8) f_25_43 (by decide) ?_
        refine x_imulN f_25_45 ?_
        refine x_iload_n f_25_46 rfl ?_
        refine x_iaddN f_25_47 ?_
        refine x_iload f_25_48 rfl ?_
        refine x_iconst (v := -1) f_25_50 (by decide) ?_
        refine x_icmp_ne (t := 58) f_25_51 (by decide) (fun c_n => absurd rfl c_n) (fun c_n => ?_)
        refine x_iconst (v := nI 0) f_25_54 (by decide) ?_
        refine x_goto (t := 67) f_25_55 (by decide) ?_
        refine x_iast (j := ((m * 8) + k)) f_25_67 hRt (by omega) (by omega) (by decide) ?_
        refine x_iinc (v := nI (k + 1)) (ls1 := [.ref 28, .ref Rt, .int (nI m), .int (nI (k + 1)), .int (-1)]) f_25_68 rfl (by exact nI_add _ 1) rfl ?_
        refine x_goto (t := 15) f_25_71 (by decide) ?_
        refine ih (k + 1) _ (by omega) (Rw.sc ((Rw.rf g [Rt]).set (by simp)) C (by simp; omega)) (hR.trans ((Rw.rf g _).set (by simp))) (fun m' h1 h2 x hx hb2 => TE_to (mj_I_ne (by omega)) (hB m' h1 h2 x hx hb2)) (fun x hx hb2 => ?_) _
        by_cases e : x = k
        · rw [e]
          exact TE_mk ((congrArg _ (by omega)).trans (mj_I_at _ _ _ _)) (RV_none hb) (Nat.zero_le _) h2N
        · exact TE_to (mj_I_ne (by omega)) (hK x (by omega) hb2)
      | some b =>
        have hol := or_lt hn (hN ▸ hmN) hb.1 hb.2.1
        rw [← hN] at hol
        have htb := hB (m ||| 2 ^ b) hol.1 hol.2 b hb.1 (bit_or_iff.mpr (Or.inr rfl))
        have hcl := hc70 k b (by omega) hb.1
        have hclk : cl c (some k) b = c k b := rfl
        refine x_istore (ls1 := [.ref 28, .ref Rt, .int (nI m), .int (nI k), .int (nI b)]) f_25_39 (Nat.le_of_ble_eq_true rfl) rfl ?_
        refine x_aload_n f_25_41 rfl ?_
        refine x_iload_n f_25_42 rfl ?_
        refine x_bipush (v := nI 8) f_25_43 (by decide) ?_
        refine x_imulN f_25_45 ?_
        refine x_iload_n f_25_46 rfl ?_
        refine x_iaddN f_25_47 ?_
        refine x_iload f_25_48 rfl ?_
        refine x_iconst (v := -1) f_25_50 (by decide) ?_
        refine x_icmp_ne (t := 58) f_25_51 (by decide) (fun c_n => ?_) (fun c_n => absurd c_n (nI_ne_m1 (by have := hb.1; omega)))
        refine x_aload_n f_25_58 rfl ?_
        refine x_aload_n f_25_59 rfl ?_
        refine x_iload_n f_25_60 rfl ?_
        refine x_iload_n f_25_61 rfl ?_
        refine x_iload f_25_62 rfl ?_
        refine x_callVe f_25_64 (k_sumBy C hn hTg (la := some k) (fun a q => by cases q; omega) hb.1 hm256 hRt (hv b hb.1 hb.2.1)) (by omega) C.k28 (by decide) rfl rfl (Nat.le_of_ble_eq_true rfl) rfl ?_
        refine x_iast (j := ((m * 8) + k)) f_25_67 hRt (by omega) (by omega) (by decide) ?_
        refine x_iinc (v := nI (k + 1)) (ls1 := [.ref 28, .ref Rt, .int (nI m), .int (nI (k + 1)), .int (nI b)]) f_25_68 rfl (by exact nI_add _ 1) rfl ?_
        refine x_goto (t := 15) f_25_71 (by decide) ?_
        refine ih (k + 1) _ (by omega) (Rw.sc ((Rw.rf g [Rt]).set (by simp)) C (by simp; omega)) (hR.trans ((Rw.rf g _).set (by simp))) (fun m' h1 h2 x hx hb2 => TE_to (mj_I_ne (by omega)) (hB m' h1 h2 x hx hb2)) (fun x hx hb2 => ?_) _
        by_cases e : x = k
        · rw [e]
          exact TE_mk ((congrArg _ (by omega)).trans (mj_I_at _ _ _ _)) (RV_some (rv := fun x => rvv (mj_I g Rt) (m ||| 2 ^ x) x) hb (fun x hx hbx => (hB (m ||| 2 ^ x) (or_lt hn (hN ▸ hmN) hx hbx).1 (hN ▸ (or_lt hn (hN ▸ hmN) hx hbx).2) x hx (bit_or_iff.mpr (Or.inr rfl))).2.1)) (by have := htb.2.2; omega) h2N
        · exact TE_to (mj_I_ne (by omega)) (hK x (by omega) hb2)
set_option maxRecDepth 20000 in
theorem kfr_m {h : mj_H} {n N2 Rt : Nat} (hn : n ≤ 8) (hN : N2 = 2 ^ n) (h2N : N2 ≤ 256) {c : Nat → Nat → Nat} (hc70 : ∀ a b, a < n → b < n → c a b ≤ 70) (hT : ∀ x y, x < n → y < n → mj_I h 32 (8 * x + y) = nI (c x y)) (h63 : 63 ≤ Rt) (hRt0 : mj_K h Rt = (12, 2048)) (e50 : mj_I h 28 5 = nI n) : ∀ (m : Nat) (g : mj_H), m < N2 → SC g → Rw h g [Rt] → TB (mj_I g Rt) c n N2 m → ∀ v3 v4 : Value, mx 3 25 9 [.ref 28, .ref Rt, .int (nI m), v3, v4] [] g (fun r h' => r = none ∧ SC h' ∧ Rw h h' [Rt] ∧ TB (mj_I h' Rt) c n N2 0) := by
  intro m
  induction m with
  | zero =>
    intro g hmN C hR hB v3 v4
    refine x_iload_n f_25_9 rfl ?_
    refine x_ifN_le (t := 80) f_25_10 (by decide) (by decide) (fun c_1 => ?_) (fun c_1 => absurd rfl c_1)
    refine x_retV f_25_80 rfl ?_
    exact ⟨rfl, C, hR, hB⟩
  | succ m ih =>
    intro g hmN C hR hB v3 v4
    refine x_iload_n f_25_9 rfl ?_
    refine x_ifN_le (t := 80) f_25_10 (by decide) (by omega) (fun c_1 => absurd c_1 (Nat.succ_ne_zero m)) (fun c_1 => ?_)
    refine x_iconst (v := nI 0) f_25_13 (by decide) ?_
    refine x_istore_n (ls1 := [.ref 28, .ref Rt, .int (nI (m + 1)), .int (nI 0), v4]) f_25_14 (Nat.le_of_ble_eq_true rfl) rfl ?_
    refine kfr_k hn hN h2N hc70 hT h63 hRt0 e50 (Nat.succ_pos m) hmN (fun g2 v3 v4 C2 hR2 hB2 => ?_) n 0 g (Nat.zero_add _) C hR hB (fun x hx => absurd hx (Nat.not_lt_zero x)) _
    refine x_iinc (v := (nI (m + 1)) + -1) (ls1 := [.ref 28, .ref Rt, .int ((nI (m + 1)) + -1), v3, v4]) f_25_74 rfl rfl rfl ?_
    refine x_goto (t := 9) f_25_77 (by decide) ?_
    rw [nI_predA]
    exact ih g2 (by omega) C2 hR2 hB2 _ _
set_option maxRecDepth 20000 in
theorem k_fillRest {h : mj_H} {n N2 Rt : Nat} (hn : n ≤ 8) (hN : N2 = 2 ^ n) (h2N : N2 ≤ 256) {c : Nat → Nat → Nat} (hc70 : ∀ a b, a < n → b < n → c a b ≤ 70) (hT : ∀ x y, x < n → y < n → mj_I h 32 (8 * x + y) = nI (c x y)) (h63 : 63 ≤ Rt) (hRt0 : mj_K h Rt = (12, 2048)) (e50 : mj_I h 28 5 = nI n) (C : SC h) : mxc 3 25 [.ref 28, .ref Rt] h (fun r h' => r = none ∧ SC h' ∧ Rw h h' [Rt] ∧ TB (mj_I h' Rt) c n N2 0) := by
  show mx 3 25 0 [.ref 28, .ref Rt, mj_unset, mj_unset, mj_unset] [] h _
  refine x_iconst (v := nI 1) f_25_0 (by decide) ?_
  refine x_aload_n f_25_1 rfl ?_
  refine x_getI f_25_2 C.k28 (by decide) ?_
  refine x_topi (w := nI n) e50 ?_
  refine x_ishl f_25_5 ?_
  refine x_iconst (v := nI 1) f_25_6 (by decide) ?_
  refine x_isub f_25_7 ?_
  refine x_topi (w := nI (2 ^ n - 1)) (sh1 n (by omega)) ?_
  refine x_istore_n (ls1 := [.ref 28, .ref Rt, .int (nI (2 ^ n - 1)), mj_unset, mj_unset]) f_25_8 (Nat.le_of_ble_eq_true rfl) rfl ?_
  rw [← hN]
  have hp : 0 < N2 := by rw [hN]; exact Nat.two_pow_pos n
  exact kfr_m hn hN h2N hc70 hT h63 hRt0 e50 (N2 - 1) h (by omega) C (Rw.rf _ _) (fun m' h1 h2 => by omega) _ _
