/-! THE DAY'S LIST: the plan, the order -/
theorem sub_le : ∀ (l p : List Nat), l.Nodup → (∀ x, x ∈ l → x ∈ p) → l.length ≤ p.length
  | [], _, _, _ => Nat.zero_le _
  | a :: r, p, hn, h => by
    rw [List.nodup_cons] at hn
    have ha := h a (by simp)
    have h1 := sub_le r (p.erase a) hn.2 (fun x hx => (List.mem_erase_of_ne (fun e => hn.1 (by rw [← e]; exact hx))).mpr (h x (by simp [hx])))
    have h2 := List.length_erase_of_mem ha
    have h3 := List.length_pos_of_mem ha
    simp only [List.length_cons]
    omega
theorem all_len {n : Nat} {p : List Nat} (h : ∀ x, x < n → x ∈ p) : n ≤ p.length := by
  have := sub_le (List.range n) p List.nodup_range (fun x hx => h x (List.mem_range.mp hx))
  rw [List.length_range] at this
  exact this
/-- a planned list: the cheapest order and its sum are kept -/
def PN (g : mj_H) (c : Nat → Nat → Nat) (n : Nat) : Prop := ∃ b, OS c n b ∧ mj_I g 28 6 = nI (cst c b) ∧ ∀ q, q < n → mj_I g 31 q = nI (b.getD q 0)
set_option maxRecDepth 20000 in
set_option maxHeartbeats 1000000 in
theorem kplan_l {h : mj_H} {n N2 Rt : Nat} (hn : n ≤ 8) (hN : N2 = 2 ^ n) (h2N : N2 ≤ 256) {c : Nat → Nat → Nat} (hc70 : ∀ a b, a < n → b < n → c a b ≤ 70) (hT : ∀ x y, x < n → y < n → mj_I h 32 (8 * x + y) = nI (c x y)) (h63 : 63 ≤ Rt) (hRt0 : mj_K h Rt = (12, 2048)) (rt0 : mj_R h 28 4 = some Rt) (e50 : mj_I h 28 5 = nI n) (hB : TB (mj_I h Rt) c n N2 0) (V : Nat) (hV : ∀ l, Pm n l → V ≤ cst c l) : ∀ (k i : Nat) (p : List Nat) (m rest : Nat) (g : mj_H) (la : Option Nat), i = p.length → i + k = n → SC g → Rw h g [28, 31] → (∀ q, ¬ q = 6 → ¬ q = 7 → mj_I g 28 q = mj_I h 28 q) → mj_I g 28 6 = nI (cst c p) → (∀ q, q < i → mj_I g 31 q = nI (p.getD q 0)) → m < N2 → (∀ x, x < n → (m.testBit x = true ↔ x ∈ p)) → RV c n m la rest → la = p.getLast? → Pl c n V p rest → (∀ a, la = some a → a < n) → ∀ v4 : Value, mx 3 22 47 [.ref 28, .int (nI m), .int (ckA la), .int (nI i), v4] [] g (fun r h' => r = none ∧ Rw h h' [28, 31] ∧ (∀ q, ¬ q = 6 → ¬ q = 7 → mj_I h' 28 q = mj_I h 28 q) ∧ mj_I h' 28 7 = nI 1 ∧ PN h' c n) := by
  intro k
  induction k with
  | zero =>
    intro i p m rest g la hi hk C hR hF e6 h31 hmN hmp hrv hla hPl hla8 v4
    have hRt := (congrFun hR.2.2.1 Rt).trans hRt0
    have rt : mj_R g 28 4 = some Rt := by rw [hR.2.2.2.2.1]; exact rt0
    have e5 := (hF 5 (by decide) (by decide)).trans e50
    have hpall : ∀ x, x < n → x ∈ p := fun x hx => Pm_all ⟨by omega, hPl.1, hPl.2.1⟩ hx
    refine x_iload_n f_22_47 rfl ?_
    refine x_aload_n f_22_48 rfl ?_
    refine x_getI f_22_49 C.k28 (by decide) ?_
    refine x_topi (w := nI n) e5 ?_
    refine x_icmpN_ge (t := 114) f_22_52 (by decide) (by omega) (by omega) (fun c_1 => ?_) (fun c_1 => by omega)
    refine x_aload_n f_22_114 rfl ?_
    refine x_iconst (v := nI 1) f_22_115 (by decide) ?_
    refine x_putZ f_22_116 C.k28 (by decide) (by decide) ?_
    refine x_retV f_22_119 rfl ?_
    have hend := Pl_end (c := c) (n := n) (V := V) (p := p) (by
      have h0 : rest = 0 := by
        have := hrv.2 [] ⟨List.nodup_nil, fun x => ⟨fun q => absurd q (by simp), fun q => absurd ((hmp x q.1).mpr (hpall x q.1)) q.2⟩⟩
        have e0 : cs c la [] = 0 := rfl
        omega
      rw [h0] at hPl
      exact hPl) (by omega) hV
    refine ⟨rfl, hR.trans ((Rw.rf g _).set (by decide)), fun q h6 h7 => (mj_I_ne h7).trans (hF q h6 h7), mj_I_at _ _ _ _, p, hend.1, (mj_I_ne (by decide)).trans e6, fun q hq => (congrFun (mj_I_other (by decide)) q).trans (h31 q (by omega))⟩
  | succ k ih =>
    intro i p m rest g la hi hk C hR hF e6 h31 hmN hmp hrv hla hPl hla8 v4
    have ih : ∀ (i : Nat) (p : List Nat) (m rest : Nat) (g : mj_H) (la : Option Nat), _ := ih
    have hRt := (congrFun hR.2.2.1 Rt).trans hRt0
    have rt : mj_R g 28 4 = some Rt := by rw [hR.2.2.2.2.1]; exact rt0
    have e5 := (hF 5 (by decide) (by decide)).trans e50
    have hTg : ∀ x y, x < n → y < n → mj_I g 32 (8 * x + y) = nI (c x y) := fun x y hx hy => (congrFun (hR.i (by decide)) _).trans (hT x y hx hy)
    have hm256 : m < 256 := by omega
    have tb : ∀ x, x < n → ¬ m.testBit x = true → TE (mj_I h Rt) c n N2 (m ||| 2 ^ x) x := fun x hx hbx => hB (m ||| 2 ^ x) (Nat.lt_of_le_of_lt (Nat.zero_le m) (or_lt hn (hN ▸ hmN) hx hbx).1) (hN ▸ (or_lt hn (hN ▸ hmN) hx hbx).2) x hx (bit_or_iff.mpr (Or.inr rfl))
    have hv : ∀ x, x < n → ¬ m.testBit x = true → mj_I g Rt (8 * (m ||| 2 ^ x) + x) = nI (rvv (mj_I h Rt) (m ||| 2 ^ x) x) := fun x hx hbx => (congrFun (hR.i (by simp; omega)) _).trans (tb x hx hbx).1
    have hr : ∀ x, x < n → ¬ m.testBit x = true → RV c n (m ||| 2 ^ x) (some x) (rvv (mj_I h Rt) (m ||| 2 ^ x) x) := fun x hx hbx => (tb x hx hbx).2.1
    have hcl : ∀ x, x < n → cl c la x ≤ 70 := fun x hx => by
      cases la with
      | none => exact Nat.zero_le _
      | some a => exact hc70 a x (hla8 a rfl) hx
    have hbd : ∀ x, x < n → ¬ m.testBit x = true → cl c la x + rvv (mj_I h Rt) (m ||| 2 ^ x) x < 100000 := fun x hx hbx => by
      have k1 := (tb x hx hbx).2.2
      have k2 := hcl x hx
      omega
    refine x_iload_n f_22_47 rfl ?_
    refine x_aload_n f_22_48 rfl ?_
    refine x_getI f_22_49 C.k28 (by decide) ?_
    refine x_topi (w := nI n) e5 ?_
    refine x_icmpN_ge (t := 114) f_22_52 (by decide) (by omega) (by omega) (fun c_1 => by omega) (fun c_1 => ?_)
    refine x_aload_n f_22_55 rfl ?_
    refine x_aload_n f_22_56 rfl ?_
    refine x_getR f_22_57 C.k28 (by decide) rt ?_
    refine x_iload_n f_22_60 rfl ?_
    refine x_iload_n f_22_61 rfl ?_
    refine x_callV f_22_62 (k_bestNext C hn hTg (la := la) hla8 hm256 hRt (rv := fun x => rvv (mj_I h Rt) (m ||| 2 ^ x) x) hv hbd e5) (by omega) C.k28 (by decide) rfl rfl (Nat.le_of_ble_eq_true rfl) rfl ?_
    rintro _ g2 ⟨best, hb, rfl, eg⟩
    have eg := eg.symm
    subst eg
    cases best with
    | none => exact absurd (all_len (fun x hx => (hmp x hx).mp (hb x hx))) (by omega)
    | some b =>
      have hol := or_lt hn (hN ▸ hmN) hb.1 hb.2.1
      rw [← hN] at hol
      have hrst : rest = cl c la b + rvv (mj_I h Rt) (m ||| 2 ^ b) b := RV_one hrv (RV_some (rv := fun x => rvv (mj_I h Rt) (m ||| 2 ^ x) x) hb hr)
      have hst := Pl_step (rv := fun x => rvv (mj_I h Rt) (m ||| 2 ^ x) x) hPl (by omega) hmp (by rw [← hla]; exact hb) hr (by rw [← hla]; exact hrst) (fun l hl y t e => Pm_Cm hmp hl (fun x hx => Pm_all hl hx) e)
      have ecst : cst c p + cl c la b = cst c (p ++ [b]) := by rw [cst_app, hla]; rfl
      refine x_istore (ls1 := [.ref 28, .int (nI m), .int (ckA la), .int (nI i), .int (nI b)]) f_22_65 (Nat.le_of_ble_eq_true rfl) rfl ?_
      refine x_iload f_22_67 rfl ?_
      refine x_iconst (v := -1) f_22_69 (by decide) ?_
      refine x_icmp_ne (t := 74) f_22_70 (by decide) (fun c_n => ?_) (fun c_n => absurd c_n (nI_ne_m1 (by have := hb.1; omega)))
      refine x_aload_n f_22_74 rfl ?_
      refine x_dup f_22_75 rfl ?_
      refine x_getI f_22_76 C.k28 (by decide) ?_
      refine x_topi (w := nI (cst c p)) e6 ?_
      refine x_aload_n f_22_79 rfl ?_
      refine x_iload_n f_22_80 rfl ?_
      refine x_iload f_22_81 rfl ?_
      refine x_callVe f_22_83 (k_changeTo C hn hTg hla8 hb.1) (by omega) C.k28 (by decide) rfl rfl (Nat.le_of_ble_eq_true rfl) rfl ?_
      refine x_iaddN f_22_86 ?_
      refine x_putI f_22_87 C.k28 (by decide) ?_
      refine x_iload_n f_22_90 rfl ?_
      refine x_iconst (v := nI 1) f_22_91 (by decide) ?_
      refine x_iload f_22_92 rfl ?_
      refine x_ishl f_22_94 ?_
      refine x_ior f_22_95 ?_
      refine x_topi (w := nI (m ||| 2 ^ b)) (bit_or hm256 (by have := hb.1; omega)) ?_
      refine x_istore_n (ls1 := [.ref 28, .int (nI (m ||| 2 ^ b)), .int (ckA la), .int (nI i), .int (nI b)]) f_22_96 (Nat.le_of_ble_eq_true rfl) rfl ?_
      refine x_iload f_22_97 rfl ?_
      refine x_istore_n (ls1 := [.ref 28, .int (nI (m ||| 2 ^ b)), .int (nI b), .int (nI i), .int (nI b)]) f_22_99 (Nat.le_of_ble_eq_true rfl) rfl ?_
      refine x_aload_n f_22_100 rfl ?_
      refine x_getR f_22_101 C.k28 (by decide) C.r28_2 ?_
      refine x_iload_n f_22_104 rfl ?_
      refine x_iload f_22_105 rfl ?_
      refine x_iast (j := i) f_22_107 C.k31 (by decide) (by omega) (by decide) ?_
      refine x_iinc (v := nI (i + 1)) (ls1 := [.ref 28, .int (nI (m ||| 2 ^ b)), .int (nI b), .int (nI (i + 1)), .int (nI b)]) f_22_108 rfl (by exact nI_add _ 1) rfl ?_
      refine x_goto (t := 47) f_22_111 (by decide) ?_
      refine ih (i + 1) (p ++ [b]) (m ||| 2 ^ b) _ _ (some b) (by simp; omega) (by omega) (Rw.sc (((Rw.rf g [28, 31]).set (by decide)).set (by decide)) C (by decide)) (hR.trans (((Rw.rf g _).set (by decide)).set (by decide))) (fun q h6 h7 => ?_) ?_ (fun q hq => ?_) hol.2 (fun x hx => ?_) ((hr b hb.1 hb.2.1)) (by simp) hst (fun a q => by cases q; exact hb.1) _
      · exact (congrFun (mj_I_other (by decide)) q).trans ((mj_I_ne h6).trans (hF q h6 h7))
      · rw [← ecst]
        exact (congrFun (mj_I_other (by decide)) _).trans (mj_I_at _ _ _ _)
      · by_cases e : q = i
        · rw [e]
          refine (mj_I_at _ _ _ _).trans ?_
          rw [List.getD_eq_getElem?_getD, List.getElem?_append_right (by omega), show i - p.length = 0 by omega]
          rfl
        · refine (mj_I_ne e).trans ((congrFun (mj_I_other (by decide)) q).trans ((h31 q (by omega)).trans ?_))
          rw [List.getD_eq_getElem?_getD, List.getD_eq_getElem?_getD, List.getElem?_append_left (by omega)]
      · rw [bit_or_iff, hmp x hx, List.mem_append, List.mem_singleton]
set_option maxRecDepth 20000 in
theorem kplan_24 {h : mj_H} (C : SC h) {n Rt : Nat} (d : DL h n) (h63 : 63 ≤ Rt) (hRt : mj_K h Rt = (12, 2048)) (rt : mj_R h 28 4 = some Rt) (v1 v2 v3 v4 : Value) : mx 4 22 24 [.ref 28, v1, v2, v3, v4] [] h (fun r h' => r = none ∧ Rw h h' [28, 31, 32, Rt] ∧ (∀ q, ¬ q = 6 → ¬ q = 7 → mj_I h' 28 q = mj_I h 28 q) ∧ mj_I h' 28 7 = nI 1 ∧ PN h' (chg h) n) := by
  have hn := d.1
  have hc70 : ∀ a b, a < n → b < n → chg h a b ≤ 70 := fun a b ha hb => chg_le (d.2.2 a ha).2.2 (d.2.2 b hb).2.2
  refine x_aload_n f_22_24 rfl ?_
  refine x_callV f_22_25 (k_fillChanges C d) (by omega) C.k28 (by decide) rfl rfl (Nat.le_of_ble_eq_true rfl) rfl ?_
  rintro _ g1 ⟨rfl, hR1, hT1⟩
  have C1 : SC g1 := hR1.sc C (by decide)
  have hRt1 := (congrFun hR1.2.2.1 Rt).trans hRt
  have rt1 : mj_R g1 28 4 = some Rt := by rw [hR1.2.2.2.2.1]; exact rt
  have e51 := (congrFun (hR1.i (a := 28) (by decide)) 5).trans d.2.1
  refine x_aload_n f_22_28 rfl ?_
  refine x_aload_n f_22_29 rfl ?_
  refine x_getR f_22_30 C1.k28 (by decide) rt1 ?_
  refine x_callV f_22_33 (k_fillRest hn rfl (p2_le hn) hc70 hT1 h63 hRt1 e51 C1) (by omega) C1.k28 (by decide) rfl rfl (Nat.le_of_ble_eq_true rfl) rfl ?_
  rintro _ g2 ⟨rfl, C2, hR2, hB2⟩
  have rt2 : mj_R g2 28 4 = some Rt := by rw [hR2.2.2.2.2.1]; exact rt1
  refine x_iconst (v := nI 0) f_22_36 (by decide) ?_
  refine x_istore_n (ls1 := [.ref 28, .int (nI 0), v2, v3, v4]) f_22_37 (Nat.le_of_ble_eq_true rfl) rfl ?_
  refine x_iconst (v := -1) f_22_38 (by decide) ?_
  refine x_istore_n (ls1 := [.ref 28, .int (nI 0), .int (-1), v3, v4]) f_22_39 (Nat.le_of_ble_eq_true rfl) rfl ?_
  refine x_aload_n f_22_40 rfl ?_
  refine x_iconst (v := nI 0) f_22_41 (by decide) ?_
  refine x_putI f_22_42 C2.k28 (by decide) ?_
  refine x_iconst (v := nI 0) f_22_45 (by decide) ?_
  refine x_istore_n (ls1 := [.ref 28, .int (nI 0), .int (-1), .int (nI 0), v4]) f_22_46 (Nat.le_of_ble_eq_true rfl) rfl ?_
  obtain ⟨V, hV⟩ := RV_ex (c := chg h) (n := n) (m := 0) (la := none) _ _ (Nat.le_refl _) (Cm_0 n)
  refine (mx.mono (kplan_l (h := mj_setI g2 28 6 (nI 0)) hn rfl (p2_le hn) hc70 (fun x y hx hy => (congrFun (mj_I_other (by decide)) _).trans ((congrFun (hR2.i (by simp; omega)) _).trans (hT1 x y hx hy))) h63 ((congrFun hR2.2.2.1 Rt).trans hRt1) rt2 ((mj_I_ne (by decide)).trans ((congrFun (hR2.i (by simp; omega)) 5).trans e51)) (by rw [mj_I_other (by omega)]; exact hB2) V (fun l hl => by rw [cst_none]; exact hV.2 l (Pm_0 hl)) n 0 [] 0 V _ none rfl (Nat.zero_add _) (Rw.sc ((Rw.rf g2 [28]).set (by decide)) C2 (by decide)) (Rw.rf _ _) (fun _ _ _ => rfl) (mj_I_at _ _ _ _) (fun q hq => absurd hq (Nat.not_lt_zero q)) (Nat.two_pow_pos n) (fun x hx => by simp) hV rfl ⟨List.nodup_nil, fun x hx => absurd hx (by simp), Nat.zero_add V, fun l _ _ => Or.inr List.nil_prefix⟩ (fun a q => by cases q) _) (show 3 ≤ 4 by decide)).post ?_
  rintro _ g3 ⟨rfl, hR3, hF3, e7, hPN⟩
  refine ⟨rfl, ?_, fun q h6 h7 => ?_, e7, hPN⟩
  · exact (((hR1.mono (by simp)).trans (hR2.mono (by simp))).trans (((Rw.rf g2 [28]).set (by decide)).mono (by simp))).trans (hR3.mono (by simp))
  · rw [hF3 q h6 h7, mj_I_ne h6, hR2.i (by simp; omega), hR1.i (by decide)]
