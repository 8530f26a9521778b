/-! THE DAY'S LIST: changes, and the best next one -/
theorem nd_le : ∀ (n : Nat) (l : List Nat), l.Nodup → (∀ x, x ∈ l → x < n) → l.length ≤ n
  | 0, l, _, h => by
    cases l with
    | nil => exact Nat.le_refl _
    | cons a r => exact absurd (h a (by simp)) (Nat.not_lt_zero a)
  | n + 1, l, hn, h => by
    by_cases q : n ∈ l
    · have h1 := nd_le n (l.erase n) (hn.erase n) (fun x hx => by
        have k := (hn.mem_erase_iff).mp hx
        have := h x k.2
        have := k.1
        omega)
      have h2 := List.length_erase_of_mem q
      omega
    · have := nd_le n l hn (fun x hx => by
        have k := h x hx
        have : x ≠ n := fun e => q (by rw [← e]; exact hx)
        omega)
      omega
theorem Pm_all {n : Nat} {l : List Nat} (h : Pm n l) {x : Nat} (hx : x < n) : x ∈ l := by
  refine Decidable.byContradiction (fun q => ?_)
  have := nd_le n (x :: l) (List.nodup_cons.mpr ⟨q, h.2.1⟩) (fun y hy => by
    rw [List.mem_cons] at hy
    rcases hy with e | e
    · rw [e]; exact hx
    · exact h.2.2 y e)
  have h1 := h.1
  simp only [List.length_cons] at this
  omega
theorem RV_one {c : Nat → Nat → Nat} {n m : Nat} {la : Option Nat} {v w : Nat} (a : RV c n m la v) (b : RV c n m la w) : v = w := by
  obtain ⟨⟨l, hl, e⟩, a2⟩ := a
  obtain ⟨⟨l', hl', e'⟩, b2⟩ := b
  have := a2 l' hl'
  have := b2 l hl
  omega
theorem RV_ex {c : Nat → Nat → Nat} {n m : Nat} {la : Option Nat} : ∀ (k : Nat) (l : List Nat), cs c la l ≤ k → Cm n m l → ∃ v, RV c n m la v
  | 0, l, hk, hl => ⟨0, ⟨l, hl, by omega⟩, fun _ _ => Nat.zero_le _⟩
  | k + 1, l, hk, hl => by
    by_cases q : ∃ l', Cm n m l' ∧ cs c la l' < cs c la l
    · obtain ⟨l', h1, h2⟩ := q
      exact RV_ex k l' (by omega) h1
    · exact ⟨cs c la l, ⟨l, hl, rfl⟩, fun l' h1 => Decidable.byContradiction (fun z => q ⟨l', h1, by omega⟩)⟩
theorem Cm_0 (n : Nat) : Cm n 0 (List.range n) := ⟨List.nodup_range, fun x => by simp⟩
theorem Pm_0 {n : Nat} {l : List Nat} (h : Pm n l) : Cm n 0 l := ⟨h.2.1, fun x => ⟨fun q => ⟨h.2.2 x q, by simp⟩, fun q => Pm_all h q.1⟩⟩
/-- the day's list: the entries as the reference holds them -/
def DL (h : mj_H) (n : Nat) : Prop := n ≤ 8 ∧ mj_I h 28 5 = nI n ∧ ∀ a, a < n → mj_I h 29 a = mj_I h 58 a ∧ mj_I h 30 a = mj_I h 59 a ∧ EI h a
theorem DL_to {h g : mj_H} {n : Nat} (d : DL h n) (e5 : mj_I g 28 5 = mj_I h 28 5) (e29 : mj_I g 29 = mj_I h 29) (e30 : mj_I g 30 = mj_I h 30) (e58 : mj_I g 58 = mj_I h 58) (e59 : mj_I g 59 = mj_I h 59) : DL g n := by
  refine ⟨d.1, e5.trans d.2.1, fun a ha => ?_⟩
  have := d.2.2 a ha
  unfold EI es at this ⊢
  rw [e29, e30, e58, e59]
  exact this
def bx1 (m k : Nat) (f : Nat → Nat) (lst : Int32) : Option Nat → Prop
  | none => ∀ x, x < k → m.testBit x = true
  | some b => b < k ∧ ¬ m.testBit b = true ∧ (∀ x, x < k → ¬ m.testBit x = true → f b ≤ f x) ∧ (∀ x, x < b → ¬ m.testBit x = true → f b < f x) ∧ lst = nI (f b)
theorem bx1_skip {m k : Nat} {f : Nat → Nat} {lst : Int32} {best : Option Nat} (h : bx1 m k f lst best) (hk : m.testBit k = true) : bx1 m (k + 1) f lst best := by
  cases best with
  | none => exact fun x hx => if e : x = k then by rw [e]; exact hk else h x (by omega)
  | some b => exact ⟨by have := h.1; omega, h.2.1, fun x hx hb => h.2.2.1 x (by
      have : x ≠ k := fun e => hb (by rw [e]; exact hk)
      omega) hb, h.2.2.2⟩
theorem bx1_keep {m k b : Nat} {f : Nat → Nat} {lst : Int32} (h : bx1 m k f lst (some b)) (hk : f b ≤ f k) : bx1 m (k + 1) f lst (some b) :=
  ⟨by have := h.1; omega, h.2.1, fun x hx hb => if e : x = k then by rw [e]; exact hk else h.2.2.1 x (by omega) hb, h.2.2.2⟩
theorem bx1_take {m k : Nat} {f : Nat → Nat} {lst : Int32} {best : Option Nat} (h : bx1 m k f lst best) (hk : ¬ m.testBit k = true) (hl : ∀ b, best = some b → f k < f b) : bx1 m (k + 1) f (nI (f k)) (some k) := by
  refine ⟨by omega, hk, fun x hx hb => ?_, fun x hx hb => ?_, rfl⟩
  · by_cases e : x = k
    · rw [e]; exact Nat.le_refl _
    · cases best with
      | none => exact absurd (h x (by omega)) hb
      | some b =>
        have h1 := hl b rfl
        have h2 := h.2.2.1 x (by omega) hb
        omega
  · cases best with
    | none => exact absurd (h x hx) hb
    | some b =>
      have h1 := hl b rfl
      have h2 := h.2.2.1 x hx hb
      omega
theorem bx1_end {m n : Nat} {f : Nat → Nat} {lst : Int32} {best : Option Nat} (h : bx1 m n f lst best) : Bx n m f best := by
  cases best with
  | none => exact h
  | some b => exact ⟨h.1, h.2.1, h.2.2.1, h.2.2.2.1⟩
theorem or_lt {n m x : Nat} (hn : n ≤ 8) (hm : m < 2 ^ n) (hx : x < n) (hb : ¬ m.testBit x = true) : m < m ||| 2 ^ x ∧ m ||| 2 ^ x < 2 ^ n := by
  refine ⟨?_, Nat.or_lt_two_pow hm (Nat.pow_lt_pow_right (by decide) hx)⟩
  have h1 : m ≤ m ||| 2 ^ x := Nat.left_le_or
  have h2 : m ≠ m ||| 2 ^ x := fun e => hb (by rw [e]; exact bit_or_iff.mpr (Or.inr rfl))
  omega
theorem p2_le {n : Nat} (hn : n ≤ 8) : 2 ^ n ≤ 256 := Nat.pow_le_pow_right (by decide) hn
set_option maxRecDepth 20000 in
theorem k_change {h : mj_H} (C : SC h) {n a b : Nat} (d : DL h n) (ha : a < n) (hb : b < n) : mxc 2 24 [.ref 28, .int (nI a), .int (nI b)] h (fun r h' => r = some (.int (nI (chg h a b))) ∧ h' = h) := by
  have hn := d.1
  have ea := (d.2.2 a ha).2.2.2
  have eb := (d.2.2 b hb).2.2.2
  show mx 2 24 0 [.ref 28, .int (nI a), .int (nI b), mj_unset, mj_unset, mj_unset] [] h _
  refine x_aload_n f_24_0 rfl ?_
  refine x_getR f_24_1 C.k28 (by decide) C.r28_1 ?_
  refine x_iload_n f_24_4 rfl ?_
  refine x_iald (j := a) f_24_5 C.k30 (by omega) (by decide) ?_
  refine x_topi (w := nI (es h a)) ((d.2.2 a ha).2.1.trans (d.2.2 a ha).2.2.1) ?_
  refine x_istore_n (ls1 := [.ref 28, .int (nI a), .int (nI b), .int (nI (es h a)), mj_unset, mj_unset]) f_24_6 (Nat.le_of_ble_eq_true rfl) rfl ?_
  refine x_aload_n f_24_7 rfl ?_
  refine x_getR f_24_8 C.k28 (by decide) C.r28_1 ?_
  refine x_iload_n f_24_11 rfl ?_
  refine x_iald (j := b) f_24_12 C.k30 (by omega) (by decide) ?_
  refine x_topi (w := nI (es h b)) ((d.2.2 b hb).2.1.trans (d.2.2 b hb).2.2.1) ?_
  refine x_istore (ls1 := [.ref 28, .int (nI a), .int (nI b), .int (nI (es h a)), .int (nI (es h b)), mj_unset]) f_24_13 (Nat.le_of_ble_eq_true rfl) rfl ?_
  refine x_iconst (v := nI 3) f_24_15 (by decide) ?_
  refine x_iconst (v := nI 0) f_24_16 (by decide) ?_
  refine x_iload_n f_24_17 rfl ?_
  refine x_iload f_24_18 rfl ?_
  refine x_callSe f_24_20 (k_stepsOn C (s := (es h a)) (o := (es h b)) (a := 0) ea eb (by decide)) (by omega) rfl rfl rfl (Nat.le_of_ble_eq_true rfl) rfl ?_
  refine x_imulN f_24_23 ?_
  refine x_iconst (v := nI 2) f_24_24 (by decide) ?_
  refine x_iconst (v := nI 1) f_24_25 (by decide) ?_
  refine x_iload_n f_24_26 rfl ?_
  refine x_iload f_24_27 rfl ?_
  refine x_callSe f_24_29 (k_stepsOn C (s := (es h a)) (o := (es h b)) (a := 1) ea eb (by decide)) (by omega) rfl rfl rfl (Nat.le_of_ble_eq_true rfl) rfl ?_
  refine x_imulN f_24_32 ?_
  refine x_iaddN f_24_33 ?_
  refine x_iconst (v := nI 2) f_24_34 (by decide) ?_
  refine x_iload_n f_24_35 rfl ?_
  refine x_iload f_24_36 rfl ?_
  refine x_callSe f_24_38 (k_stepsOn C (s := (es h a)) (o := (es h b)) (a := 2) ea eb (by decide)) (by omega) rfl rfl rfl (Nat.le_of_ble_eq_true rfl) rfl ?_
  refine x_iaddN f_24_41 ?_
  refine x_istore (ls1 := [.ref 28, .int (nI a), .int (nI b), .int (nI (es h a)), .int (nI (es h b)), .int (nI (((3 * (ad (mm_pt (es h a) 0) (mm_pt (es h b) 0))) + (2 * (ad (mm_pt (es h a) 1) (mm_pt (es h b) 1)))) + (ad (mm_pt (es h a) 2) (mm_pt (es h b) 2))))]) f_24_42 (Nat.le_of_ble_eq_true rfl) rfl ?_
  refine x_aload_n f_24_44 rfl ?_
  refine x_getR f_24_45 C.k28 (by decide) C.r28_0 ?_
  refine x_iload_n f_24_48 rfl ?_
  refine x_iald (j := a) f_24_49 C.k29 (by omega) (by decide) ?_
  refine x_topi (w := mj_I h 58 a) (d.2.2 a ha).1 ?_
  refine x_aload_n f_24_50 rfl ?_
  refine x_getR f_24_51 C.k28 (by decide) C.r28_0 ?_
  refine x_iload_n f_24_54 rfl ?_
  refine x_iald (j := b) f_24_55 C.k29 (by omega) (by decide) ?_
  refine x_topi (w := mj_I h 58 b) (d.2.2 b hb).1 ?_
  refine x_icmp_ne (t := 64) f_24_56 (by decide) (fun c_j => ?_) (fun c_j => ?_)
  · refine x_iload f_24_64 rfl ?_
    refine x_bipush (v := nI 10) f_24_66 (by decide) ?_
    refine x_iaddN f_24_68 ?_
    refine x_retI f_24_69 rfl ?_
    refine ⟨?_, rfl⟩
    unfold chg
    simp only [ad_s]
    rw [if_neg c_j]
    congr 3
    omega
  · refine x_iload f_24_59 rfl ?_
    refine x_goto (t := 69) f_24_61 (by decide) ?_
    refine x_retI f_24_69 rfl ?_
    refine ⟨?_, rfl⟩
    unfold chg
    simp only [ad_s]
    rw [if_pos c_j]
    congr 3
    omega
set_option maxRecDepth 20000 in
theorem kfc_b {h : mj_H} {n a : Nat} (d : DL h n) (ha : a < n) {Q : Option Value → mj_H → Prop} (K : ∀ (g : mj_H) (v2 : Value), SC g → Rw h g [32] → (∀ a' b', a' < n → b' < n → (a' < a ∨ (a' = a ∧ b' < n)) → mj_I g 32 (8 * a' + b') = nI (chg h a' b')) → mx 3 23 43 [.ref 28, .int (nI a), v2] [] g Q) : ∀ (m b : Nat) (g : mj_H), b + m = n → SC g → Rw h g [32] → (∀ a' b', a' < n → b' < n → (a' < a ∨ (a' = a ∧ b' < b)) → mj_I g 32 (8 * a' + b') = nI (chg h a' b')) → mx 3 23 12 [.ref 28, .int (nI a), .int (nI b)] [] g Q := by
  have hn := d.1
  intro m
  induction m with
  | zero =>
    intro b g hb C hR hT
    have e5 : mj_I g 28 5 = nI n := (congrFun (hR.i (by decide)) 5).trans d.2.1
    refine x_iload_n f_23_12 rfl ?_
    refine x_aload_n f_23_13 rfl ?_
    refine x_getI f_23_14 C.k28 (by decide) ?_
    refine x_topi (w := nI n) e5 ?_
    refine x_icmpN_ge (t := 43) f_23_17 (by decide) (by omega) (by omega) (fun c_1 => ?_) (fun c_1 => by omega)
    obtain rfl : b = n := by omega
    exact K g _ C hR hT
  | succ m ih =>
    intro b g hb C hR hT
    have e5 : mj_I g 28 5 = nI n := (congrFun (hR.i (by decide)) 5).trans d.2.1
    have dg : DL g n := DL_to d (congrFun (hR.i (by decide)) 5) (hR.i (by decide)) (hR.i (by decide)) (hR.i (by decide)) (hR.i (by decide))
    have kch := k_change C dg ha (show b < n by omega)
    rw [chg_to (hR.i (by decide)) (hR.i (by decide))] at kch
    refine x_iload_n f_23_12 rfl ?_
    refine x_aload_n f_23_13 rfl ?_
    refine x_getI f_23_14 C.k28 (by decide) ?_
    refine x_topi (w := nI n) e5 ?_
    refine x_icmpN_ge (t := 43) f_23_17 (by decide) (by omega) (by omega) (fun c_1 => by omega) (fun c_1 => ?_)
    refine x_aload_n f_23_20 rfl ?_
    refine x_getR f_23_21 C.k28 (by decide) C.r28_3 ?_
    refine x_iload_n f_23_24 rfl ?_
    refine x_bipush (v := nI 8) f_23_25 (by decide) ?_
    refine x_imulN f_23_27 ?_
    refine x_iload_n f_23_28 rfl ?_
    refine x_iaddN f_23_29 ?_
    refine x_aload_n f_23_30 rfl ?_
    refine x_iload_n f_23_31 rfl ?_
    refine x_iload_n f_23_32 rfl ?_
    refine x_callVe f_23_33 (kch) (by omega) C.k28 (by decide) rfl rfl (Nat.le_of_ble_eq_true rfl) rfl ?_
    refine x_iast (j := ((a * 8) + b)) f_23_36 C.k32 (by decide) (by omega) (by decide) ?_
    refine x_iinc (v := nI (b + 1)) (ls1 := [.ref 28, .int (nI a), .int (nI (b + 1))]) f_23_37 rfl (by exact nI_add _ 1) rfl ?_
    refine x_goto (t := 12) f_23_40 (by decide) ?_
    refine ih (b + 1) _ (by omega) (Rw.sc ((Rw.rf g [32]).set (by decide)) C (by decide)) (hR.trans ((Rw.rf g _).set (by decide))) (fun a' b' h1 h2 h3 => ?_)
    by_cases e : 8 * a' + b' = a * 8 + b
    · rw [e, show a' = a by omega, show b' = b by omega]
      exact mj_I_at _ _ _ _
    · exact (mj_I_ne e).trans (hT a' b' h1 h2 (by omega))
set_option maxRecDepth 20000 in
theorem kfc_a {h : mj_H} {n : Nat} (d : DL h n) : ∀ (m a : Nat) (g : mj_H), a + m = n → SC g → Rw h g [32] → (∀ a' b', a' < n → b' < n → a' < a → mj_I g 32 (8 * a' + b') = nI (chg h a' b')) → ∀ v2 : Value, mx 3 23 2 [.ref 28, .int (nI a), v2] [] g (fun r h' => r = none ∧ Rw h h' [32] ∧ ∀ x y, x < n → y < n → mj_I h' 32 (8 * x + y) = nI (chg h x y)) := by
  have hn := d.1
  intro m
  induction m with
  | zero =>
    intro a g ha C hR hT v2
    have e5 : mj_I g 28 5 = nI n := (congrFun (hR.i (by decide)) 5).trans d.2.1
    refine x_iload_n f_23_2 rfl ?_
    refine x_aload_n f_23_3 rfl ?_
    refine x_getI f_23_4 C.k28 (by decide) ?_
    refine x_topi (w := nI n) e5 ?_
    refine x_icmpN_ge (t := 49) f_23_7 (by decide) (by omega) (by omega) (fun c_1 => ?_) (fun c_1 => by omega)
    refine x_retV f_23_49 rfl ?_
    exact ⟨rfl, hR, fun x y hx hy => hT x y hx hy (by omega)⟩
  | succ m ih =>
    intro a g ha C hR hT v2
    have e5 : mj_I g 28 5 = nI n := (congrFun (hR.i (by decide)) 5).trans d.2.1
    refine x_iload_n f_23_2 rfl ?_
    refine x_aload_n f_23_3 rfl ?_
    refine x_getI f_23_4 C.k28 (by decide) ?_
    refine x_topi (w := nI n) e5 ?_
    refine x_icmpN_ge (t := 49) f_23_7 (by decide) (by omega) (by omega) (fun c_1 => by omega) (fun c_1 => ?_)
    refine x_iconst (v := nI 0) f_23_10 (by decide) ?_
    refine x_istore_n (ls1 := [.ref 28, .int (nI a), .int (nI 0)]) f_23_11 (Nat.le_of_ble_eq_true rfl) rfl ?_
    refine kfc_b d (by omega) (fun g2 v2 C2 hR2 hT2 => ?_) n 0 g (Nat.zero_add _) C hR (fun a' b' h1 h2 h3 => hT a' b' h1 h2 (by omega))
    refine x_iinc (v := nI (a + 1)) (ls1 := [.ref 28, .int (nI (a + 1)), v2]) f_23_43 rfl (by exact nI_add _ 1) rfl ?_
    refine x_goto (t := 2) f_23_46 (by decide) ?_
    exact ih (a + 1) g2 (by omega) C2 hR2 (fun a' b' h1 h2 h3 => hT2 a' b' h1 h2 (by omega)) _
set_option maxRecDepth 20000 in
theorem k_fillChanges {h : mj_H} (C : SC h) {n : Nat} (d : DL h n) : mxc 3 23 [.ref 28] h (fun r h' => r = none ∧ Rw h h' [32] ∧ ∀ x y, x < n → y < n → mj_I h' 32 (8 * x + y) = nI (chg h x y)) := by
  show mx 3 23 0 [.ref 28, mj_unset, mj_unset] [] h _
  refine x_iconst (v := nI 0) f_23_0 (by decide) ?_
  refine x_istore_n (ls1 := [.ref 28, .int (nI 0), mj_unset]) f_23_1 (Nat.le_of_ble_eq_true rfl) rfl ?_
  exact kfc_a d n 0 h (Nat.zero_add _) C (Rw.rf _ _) (fun a b _ _ q => absurd q (Nat.not_lt_zero a)) _
set_option maxRecDepth 20000 in
theorem k_changeToS {h : mj_H} (C : SC h) {n : Nat} (hn : n ≤ 8) {c : Nat → Nat → Nat} (hT : ∀ x y, x < n → y < n → mj_I h 32 (8 * x + y) = nI (c x y)) {a x : Nat} (ha : a < n) (hx : x < n) : mxc 0 28 [.ref 28, .int (nI a), .int (nI x)] h (fun r h' => r = some (.int (nI (c a x))) ∧ h' = h) := by
  show mx 0 28 0 [.ref 28, .int (nI a), .int (nI x)] [] h _
  refine x_iload_n f_28_0 rfl ?_
  refine x_iconst (v := -1) f_28_1 (by decide) ?_
  refine x_icmp_ne (t := 9) f_28_2 (by decide) (fun c_1 => ?_) (fun c_1 => absurd c_1 (nI_ne_m1 (by omega)))
  refine x_aload_n f_28_9 rfl ?_
  refine x_getR f_28_10 C.k28 (by decide) C.r28_3 ?_
  refine x_iload_n f_28_13 rfl ?_
  refine x_bipush (v := nI 8) f_28_14 (by decide) ?_
  refine x_imulN f_28_16 ?_
  refine x_iload_n f_28_17 rfl ?_
  refine x_iaddN f_28_18 ?_
  refine x_iald (j := ((a * 8) + x)) f_28_19 C.k32 (by omega) (by decide) ?_
  refine x_topi (w := nI (c a x)) (by rw [show a * 8 + x = 8 * a + x by omega]; exact hT a x ha hx) ?_
  refine x_retI f_28_20 rfl ?_
  exact ⟨rfl, rfl⟩
set_option maxRecDepth 20000 in
theorem k_changeToN {h : mj_H} (C : SC h) (x : Nat) : mxc 0 28 [.ref 28, .int (-1), .int (nI x)] h (fun r h' => r = some (.int (nI 0)) ∧ h' = h) := by
  show mx 0 28 0 [.ref 28, .int (-1), .int (nI x)] [] h _
  refine x_iload_n f_28_0 rfl ?_
  refine x_iconst (v := -1) f_28_1 (by decide) ?_
  refine x_icmp_ne (t := 9) f_28_2 (by decide) (fun c_1 => absurd rfl c_1) (fun c_1 => ?_)
  refine x_iconst (v := nI 0) f_28_5 (by decide) ?_
  refine x_goto (t := 20) f_28_6 (by decide) ?_
  refine x_retI f_28_20 rfl ?_
  exact ⟨rfl, rfl⟩
theorem k_changeTo {h : mj_H} (C : SC h) {n : Nat} (hn : n ≤ 8) {c : Nat → Nat → Nat} (hT : ∀ x y, x < n → y < n → mj_I h 32 (8 * x + y) = nI (c x y)) {la : Option Nat} (hla : ∀ a, la = some a → a < n) {x : Nat} (hx : x < n) : mxc 0 28 [.ref 28, .int (ckA la), .int (nI x)] h (fun r h' => r = some (.int (nI (cl c la x))) ∧ h' = h) := by
  cases la with
  | none => exact k_changeToN C x
  | some a => exact k_changeToS C hn hT (hla a rfl) hx
set_option maxRecDepth 20000 in
theorem k_sumBy {h : mj_H} (C : SC h) {n : Nat} (hn : n ≤ 8) {c : Nat → Nat → Nat} (hT : ∀ x y, x < n → y < n → mj_I h 32 (8 * x + y) = nI (c x y)) {la : Option Nat} (hla : ∀ a, la = some a → a < n) {x m v Rt : Nat} (hx : x < n) (hm : m < 256) (hRt : mj_K h Rt = (12, 2048)) (hv : mj_I h Rt (8 * (m ||| 2 ^ x) + x) = nI v) : mxc 1 27 [.ref 28, .ref Rt, .int (nI m), .int (ckA la), .int (nI x)] h (fun r h' => r = some (.int (nI (cl c la x + v))) ∧ h' = h) := by
  show mx 1 27 0 [.ref 28, .ref Rt, .int (nI m), .int (ckA la), .int (nI x)] [] h _
  refine x_aload_n f_27_0 rfl ?_
  refine x_iload_n f_27_1 rfl ?_
  refine x_iload f_27_2 rfl ?_
  refine x_callVe f_27_4 (k_changeTo C hn hT hla hx) (by omega) C.k28 (by decide) rfl rfl (Nat.le_of_ble_eq_true rfl) rfl ?_
  refine x_aload_n f_27_7 rfl ?_
  refine x_iload_n f_27_8 rfl ?_
  refine x_iconst (v := nI 1) f_27_9 (by decide) ?_
  refine x_iload f_27_10 rfl ?_
  refine x_ishl f_27_12 ?_
  refine x_ior f_27_13 ?_
  refine x_topi (w := nI (m ||| 2 ^ x)) (bit_or hm (by omega)) ?_
  refine x_bipush (v := nI 8) f_27_14 (by decide) ?_
  refine x_imulN f_27_16 ?_
  refine x_iload f_27_17 rfl ?_
  refine x_iaddN f_27_19 ?_
  refine x_iald (j := (((m ||| 2 ^ x) * 8) + x)) f_27_20 hRt (by have := bit_lt hm (show x < 8 by omega); omega) (by decide) ?_
  refine x_topi (w := nI v) (by rw [show (m ||| 2 ^ x) * 8 + x = 8 * (m ||| 2 ^ x) + x by omega]; exact hv) ?_
  refine x_iaddN f_27_21 ?_
  refine x_retI f_27_22 rfl ?_
  exact ⟨rfl, rfl⟩
set_option maxRecDepth 20000 in
theorem kbn_l {h : mj_H} (C : SC h) {n : Nat} (hn : n ≤ 8) {c : Nat → Nat → Nat} (hT : ∀ x y, x < n → y < n → mj_I h 32 (8 * x + y) = nI (c x y)) {la : Option Nat} (hla : ∀ a, la = some a → a < n) {m Rt : Nat} (hm : m < 256) (hRt : mj_K h Rt = (12, 2048)) {rv : Nat → Nat} (hv : ∀ x, x < n → ¬ m.testBit x = true → mj_I h Rt (8 * (m ||| 2 ^ x) + x) = nI (rv x)) (hbd : ∀ x, x < n → ¬ m.testBit x = true → cl c la x + rv x < 100000) (e5 : mj_I h 28 5 = nI n) (F : Nat → Nat) (hF : F = (fun x => cl c la x + rv x)) : ∀ (j k : Nat) (best : Option Nat) (lst : Int32), k + j = n → bx1 m k F lst best → ∀ (v7 : Value) (be : Int32), be = ckA best → mx 2 26 9 [.ref 28, .ref Rt, .int (nI m), .int (ckA la), .int be, .int lst, .int (nI k), v7] [] h (fun r h' => ∃ best, Bx n m F best ∧ r = some (.int (ckA best)) ∧ h' = h) := by
  subst hF
  intro j
  induction j with
  | zero =>
    intro k best lst hk hX v7 be hbe
    subst hbe
    have hkn : k = n := by omega
    cases best with
    | none =>
      refine x_iload f_26_9 rfl ?_
      refine x_aload_n f_26_11 rfl ?_
      refine x_getI f_26_12 C.k28 (by decide) ?_
      refine x_topi (w := nI n) e5 ?_
      refine x_icmpN_ge (t := 69) f_26_15 (by decide) (by omega) (by omega) (fun c_1 => ?_) (fun c_1 => by omega)
      refine x_iload f_26_69 rfl ?_
      refine x_retI f_26_71 rfl ?_
      exact ⟨none, bx1_end (hkn ▸ hX), rfl, rfl⟩
    | some b =>
      obtain rfl := hX.2.2.2.2
      refine x_iload f_26_9 rfl ?_
      refine x_aload_n f_26_11 rfl ?_
      refine x_getI f_26_12 C.k28 (by decide) ?_
      refine x_topi (w := nI n) e5 ?_
      refine x_icmpN_ge (t := 69) f_26_15 (by decide) (by omega) (by omega) (fun c_1 => ?_) (fun c_1 => by omega)
      refine x_iload f_26_69 rfl ?_
      refine x_retI f_26_71 rfl ?_
      exact ⟨some b, bx1_end (hkn ▸ hX), rfl, rfl⟩
  | succ j ih =>
    intro k best lst hk hX v7 be hbe
    subst hbe
    cases best with
    | none =>
      refine x_iload f_26_9 rfl ?_
      refine x_aload_n f_26_11 rfl ?_
      refine x_getI f_26_12 C.k28 (by decide) ?_
      refine x_topi (w := nI n) e5 ?_
      refine x_icmpN_ge (t := 69) f_26_15 (by decide) (by omega) (by omega) (fun c_1 => by omega) (fun c_1 => ?_)
      refine x_iload_n f_26_18 rfl ?_
      refine x_iload f_26_19 rfl ?_
      refine x_ishr f_26_21 ?_
      refine x_iconst (v := nI 1) f_26_22 (by decide) ?_
      refine x_iand f_26_23 ?_
      refine x_topi (w := if m.testBit k = true then 1 else 0) (bit_at hm (by omega)) ?_
      refine x_iconst (v := nI 1) f_26_24 (by decide) ?_
      refine x_icmp_ne (t := 31) f_26_25 (by decide) (fun c_b => ?_) (fun c_b => ?_)
      · have hbit : ¬ m.testBit k = true := fun z => c_b (if_e1.mpr z)
        refine x_aload_n f_26_31 rfl ?_
        refine x_aload_n f_26_32 rfl ?_
        refine x_iload_n f_26_33 rfl ?_
        refine x_iload_n f_26_34 rfl ?_
        refine x_iload f_26_35 rfl ?_
        refine x_callVe f_26_37 (k_sumBy C hn hT hla (x := k) (by omega) hm hRt (hv k (by omega) hbit)) (by omega) C.k28 (by decide) rfl rfl (Nat.le_of_ble_eq_true rfl) rfl ?_
        refine x_istore (ls1 := [.ref 28, .ref Rt, .int (nI m), .int (ckA la), .int (-1), .int lst, .int (nI k), .int (nI (cl c la k + rv k))]) f_26_40 (Nat.le_of_ble_eq_true rfl) rfl ?_
        have hbk := hbd k (by omega) hbit
        skip
        refine x_iload f_26_42 rfl ?_
        refine x_iconst (v := -1) f_26_44 (by decide) ?_
        refine x_icmp_eq (t := 55) f_26_45 (by decide) (fun c_1 => ?_) (fun c_1 => absurd rfl c_1)
        refine x_iload f_26_55 rfl ?_
        refine x_istore (ls1 := [.ref 28, .ref Rt, .int (nI m), .int (ckA la), .int (nI k), .int lst, .int (nI k), .int (nI (cl c la k + rv k))]) f_26_57 (Nat.le_of_ble_eq_true rfl) rfl ?_
        refine x_iload f_26_59 rfl ?_
        refine x_istore (ls1 := [.ref 28, .ref Rt, .int (nI m), .int (ckA la), .int (nI k), .int (nI (cl c la k + rv k)), .int (nI k), .int (nI (cl c la k + rv k))]) f_26_61 (Nat.le_of_ble_eq_true rfl) rfl ?_
        refine x_iinc (v := nI (k + 1)) (ls1 := [.ref 28, .ref Rt, .int (nI m), .int (ckA la), .int (nI k), .int (nI (cl c la k + rv k)), .int (nI (k + 1)), .int (nI (cl c la k + rv k))]) f_26_63 rfl (by exact nI_add _ 1) rfl ?_
        refine x_goto (t := 9) f_26_66 (by decide) ?_
        exact ih (k + 1) (some k) _ (by omega) (bx1_take hX hbit (fun b' hb => by cases hb)) _ _ rfl
      · refine x_goto (t := 63) f_26_28 (by decide) ?_
        refine x_iinc (v := nI (k + 1)) (ls1 := [.ref 28, .ref Rt, .int (nI m), .int (ckA la), .int (-1), .int lst, .int (nI (k + 1)), v7]) f_26_63 rfl (by exact nI_add _ 1) rfl ?_
        refine x_goto (t := 9) f_26_66 (by decide) ?_
        exact ih (k + 1) none _ (by omega) (bx1_skip hX (if_e1.mp c_b)) _ _ rfl
    | some b =>
      obtain rfl := hX.2.2.2.2
      refine x_iload f_26_9 rfl ?_
      refine x_aload_n f_26_11 rfl ?_
      refine x_getI f_26_12 C.k28 (by decide) ?_
      refine x_topi (w := nI n) e5 ?_
      refine x_icmpN_ge (t := 69) f_26_15 (by decide) (by omega) (by omega) (fun c_1 => by omega) (fun c_1 => ?_)
      refine x_iload_n f_26_18 rfl ?_
      refine x_iload f_26_19 rfl ?_
      refine x_ishr f_26_21 ?_
      refine x_iconst (v := nI 1) f_26_22 (by decide) ?_
      refine x_iand f_26_23 ?_
      refine x_topi (w := if m.testBit k = true then 1 else 0) (bit_at hm (by omega)) ?_
      refine x_iconst (v := nI 1) f_26_24 (by decide) ?_
      refine x_icmp_ne (t := 31) f_26_25 (by decide) (fun c_b => ?_) (fun c_b => ?_)
      · have hbit : ¬ m.testBit k = true := fun z => c_b (if_e1.mpr z)
        refine x_aload_n f_26_31 rfl ?_
        refine x_aload_n f_26_32 rfl ?_
        refine x_iload_n f_26_33 rfl ?_
        refine x_iload_n f_26_34 rfl ?_
        refine x_iload f_26_35 rfl ?_
        refine x_callVe f_26_37 (k_sumBy C hn hT hla (x := k) (by omega) hm hRt (hv k (by omega) hbit)) (by omega) C.k28 (by decide) rfl rfl (Nat.le_of_ble_eq_true rfl) rfl ?_
        refine x_istore (ls1 := [.ref 28, .ref Rt, .int (nI m), .int (ckA la), .int (nI b), .int (nI (cl c la b + rv b)), .int (nI k), .int (nI (cl c la k + rv k))]) f_26_40 (Nat.le_of_ble_eq_true rfl) rfl ?_
        have hbk := hbd k (by omega) hbit
        skip
        have hbb := hbd b (by have := hX.1; omega) hX.2.1
        skip
        refine x_iload f_26_42 rfl ?_
        refine x_iconst (v := -1) f_26_44 (by decide) ?_
        refine x_icmp_eq (t := 55) f_26_45 (by decide) (fun c_1 => absurd c_1 (nI_ne_m1 (by have := hX.1; omega))) (fun c_1 => ?_)
        refine x_iload f_26_48 rfl ?_
        refine x_iload f_26_50 rfl ?_
        refine x_icmpN_ge (t := 63) f_26_52 (by decide) (by omega) (by omega) (fun c_l => ?_) (fun c_l => ?_)
        · refine x_iinc (v := nI (k + 1)) (ls1 := [.ref 28, .ref Rt, .int (nI m), .int (ckA la), .int (nI b), .int (nI (cl c la b + rv b)), .int (nI (k + 1)), .int (nI (cl c la k + rv k))]) f_26_63 rfl (by exact nI_add _ 1) rfl ?_
          refine x_goto (t := 9) f_26_66 (by decide) ?_
          exact ih (k + 1) (some b) _ (by omega) (bx1_keep hX (by omega)) _ _ rfl
        · refine x_iload f_26_55 rfl ?_
          refine x_istore (ls1 := [.ref 28, .ref Rt, .int (nI m), .int (ckA la), .int (nI k), .int (nI (cl c la b + rv b)), .int (nI k), .int (nI (cl c la k + rv k))]) f_26_57 (Nat.le_of_ble_eq_true rfl) rfl ?_
          refine x_iload f_26_59 rfl ?_
          refine x_istore (ls1 := [.ref 28, .ref Rt, .int (nI m), .int (ckA la), .int (nI k), .int (nI (cl c la k + rv k)), .int (nI k), .int (nI (cl c la k + rv k))]) f_26_61 (Nat.le_of_ble_eq_true rfl) rfl ?_
          refine x_iinc (v := nI (k + 1)) (ls1 := [.ref 28, .ref Rt, .int (nI m), .int (ckA la), .int (nI k), .int (nI (cl c la k + rv k)), .int (nI (k + 1)), .int (nI (cl c la k + rv k))]) f_26_63 rfl (by exact nI_add _ 1) rfl ?_
          refine x_goto (t := 9) f_26_66 (by decide) ?_
          exact ih (k + 1) (some k) _ (by omega) (bx1_take hX hbit (fun b' hb => by cases hb; omega)) _ _ rfl
      · refine x_goto (t := 63) f_26_28 (by decide) ?_
        refine x_iinc (v := nI (k + 1)) (ls1 := [.ref 28, .ref Rt, .int (nI m), .int (ckA la), .int (nI b), .int (nI (cl c la b + rv b)), .int (nI (k + 1)), v7]) f_26_63 rfl (by exact nI_add _ 1) rfl ?_
        refine x_goto (t := 9) f_26_66 (by decide) ?_
        exact ih (k + 1) (some b) _ (by omega) (bx1_skip hX (if_e1.mp c_b)) _ _ rfl
set_option maxRecDepth 20000 in
theorem k_bestNext {h : mj_H} (C : SC h) {n : Nat} (hn : n ≤ 8) {c : Nat → Nat → Nat} (hT : ∀ x y, x < n → y < n → mj_I h 32 (8 * x + y) = nI (c x y)) {la : Option Nat} (hla : ∀ a, la = some a → a < n) {m Rt : Nat} (hm : m < 256) (hRt : mj_K h Rt = (12, 2048)) {rv : Nat → Nat} (hv : ∀ x, x < n → ¬ m.testBit x = true → mj_I h Rt (8 * (m ||| 2 ^ x) + x) = nI (rv x)) (hbd : ∀ x, x < n → ¬ m.testBit x = true → cl c la x + rv x < 100000) (e5 : mj_I h 28 5 = nI n) : mxc 2 26 [.ref 28, .ref Rt, .int (nI m), .int (ckA la)] h (fun r h' => ∃ best, Bx n m (fun x => cl c la x + rv x) best ∧ r = some (.int (ckA best)) ∧ h' = h) := by
  show mx 2 26 0 [.ref 28, .ref Rt, .int (nI m), .int (ckA la), mj_unset, mj_unset, mj_unset, mj_unset] [] h _
  refine x_iconst (v := -1) f_26_0 (by decide) ?_
  refine x_istore (ls1 := [.ref 28, .ref Rt, .int (nI m), .int (ckA la), .int (-1), mj_unset, mj_unset, mj_unset]) f_26_1 (Nat.le_of_ble_eq_true rfl) rfl ?_
  refine x_iconst (v := nI 0) f_26_3 (by decide) ?_
  refine x_istore (ls1 := [.ref 28, .ref Rt, .int (nI m), .int (ckA la), .int (-1), .int (nI 0), mj_unset, mj_unset]) f_26_4 (Nat.le_of_ble_eq_true rfl) rfl ?_
  refine x_iconst (v := nI 0) f_26_6 (by decide) ?_
  refine x_istore (ls1 := [.ref 28, .ref Rt, .int (nI m), .int (ckA la), .int (-1), .int (nI 0), .int (nI 0), mj_unset]) f_26_7 (Nat.le_of_ble_eq_true rfl) rfl ?_
  exact kbn_l C hn hT hla hm hRt hv hbd e5 _ rfl n 0 none _ (Nat.zero_add _) (fun x hx => absurd hx (Nat.not_lt_zero x)) _ _ rfl
