/-! THE TWO WAYS TO RECKON A TICK are one, within the bounds -/
theorem bm32 {x : Int} (h1 : -2147483648 ≤ x) (h2 : x < 2147483648) : x.bmod (2 ^ 32) = x := by
  rw [Int.bmod_def]
  split <;> omega
theorem i_add {x y : Int32} (h1 : -2147483648 ≤ x.toInt + y.toInt) (h2 : x.toInt + y.toInt < 2147483648) : (x + y).toInt = x.toInt + y.toInt := by rw [Int32.toInt_add, bm32 h1 h2]
theorem i_sub {x y : Int32} (h1 : -2147483648 ≤ x.toInt - y.toInt) (h2 : x.toInt - y.toInt < 2147483648) : (x - y).toInt = x.toInt - y.toInt := by rw [Int32.toInt_sub, bm32 h1 h2]
theorem i_mul {x y : Int32} (h1 : -2147483648 ≤ x.toInt * y.toInt) (h2 : x.toInt * y.toInt < 2147483648) : (x * y).toInt = x.toInt * y.toInt := by rw [Int32.toInt_mul, bm32 h1 h2]
theorem i_neg {x : Int32} (h1 : -2147483648 < x.toInt) : (-x).toInt = -x.toInt := by
  rw [Int32.toInt_neg, bm32 (by have := x.toInt_lt; omega) (by omega)]
theorem i_div {x y : Int32} (h0 : 0 < y.toInt) : (x / y).toInt = x.toInt.tdiv y.toInt := by
  rw [Int32.toInt_div, bm32]
  · have h1 := x.le_toInt
    have h2 : x.toInt.tdiv y.toInt ≥ -2147483648 := by
      rcases Int.le_total 0 x.toInt with h | h
      · have := Int.tdiv_nonneg h (Int.le_of_lt h0); omega
      · obtain ⟨z, hz⟩ : ∃ z, x.toInt = -z := ⟨-x.toInt, by omega⟩
        rw [hz, Int.neg_tdiv, Int.tdiv_eq_ediv_of_nonneg (by omega)]
        have := Int.ediv_le_self y.toInt (show 0 ≤ z by omega)
        omega
    exact h2
  · have h1 := x.toInt_lt
    rcases Int.le_total 0 x.toInt with h | h
    · rw [Int.tdiv_eq_ediv_of_nonneg h]
      have := Int.ediv_le_self y.toInt h
      omega
    · obtain ⟨z, hz⟩ : ∃ z, x.toInt = -z := ⟨-x.toInt, by omega⟩
      rw [hz, Int.neg_tdiv, Int.tdiv_eq_ediv_of_nonneg (by omega)]
      have := Int.ediv_nonneg (show 0 ≤ z by omega) (Int.le_of_lt h0)
      omega
/-- a warmth within its bounds -/
def wb (x : Int32) : Prop := 20 ≤ x.toInt ∧ x.toInt ≤ 5000
theorem kled_i {x y z : Int32} (hx : wb x) (hy : wb y) (h0 : 0 ≤ z.toInt) (h3 : z.toInt ≤ 300) : (tk_led x y z).toInt = ((x.toInt - y.toInt) * z.toInt).tdiv 1000 := by
  unfold wb at hx hy
  have e1 : (x - y).toInt = x.toInt - y.toInt := i_sub (by omega) (by omega)
  have b1 : (x.toInt - y.toInt) * z.toInt ≤ 4980 * 300 := by
    rcases Int.le_total 0 (x.toInt - y.toInt) with h | h
    · exact Int.mul_le_mul (by omega) h3 h0 (by omega)
    · have := Int.mul_nonpos_of_nonpos_of_nonneg h h0; omega
  have b2 : -(4980 * 300) ≤ (x.toInt - y.toInt) * z.toInt := by
    rcases Int.le_total 0 (x.toInt - y.toInt) with h | h
    · have := Int.mul_nonneg h h0; omega
    · have : (y.toInt - x.toInt) * z.toInt ≤ 4980 * 300 := Int.mul_le_mul (by omega) h3 h0 (by omega)
      have e : (x.toInt - y.toInt) * z.toInt = -((y.toInt - x.toInt) * z.toInt) := by rw [← Int.neg_mul]; congr 1; omega
      omega
  have e2 : ((x - y) * z).toInt = (x.toInt - y.toInt) * z.toInt := by rw [i_mul, e1] <;> rw [e1] <;> omega
  unfold tk_led
  rw [i_div (by decide), e2]
  rfl
/-- what is led is at most three tenths of what lies between -/
theorem kled_b {x y z : Int32} (hx : wb x) (hy : wb y) (h0 : 0 ≤ z.toInt) (h3 : z.toInt ≤ 300) : (y.toInt ≤ x.toInt → 0 ≤ (tk_led x y z).toInt ∧ 1000 * (tk_led x y z).toInt ≤ 300 * (x.toInt - y.toInt)) ∧ (x.toInt ≤ y.toInt → (tk_led x y z).toInt ≤ 0 ∧ 300 * (x.toInt - y.toInt) ≤ 1000 * (tk_led x y z).toInt) := by
  rw [kled_i hx hy h0 h3]
  constructor
  · intro h
    have p0 : 0 ≤ (x.toInt - y.toInt) * z.toInt := Int.mul_nonneg (by omega) h0
    have p1 : (x.toInt - y.toInt) * z.toInt ≤ (x.toInt - y.toInt) * 300 := Int.mul_le_mul_of_nonneg_left h3 (by omega)
    rw [Int.tdiv_eq_ediv_of_nonneg p0]
    omega
  · intro h
    have p0 : 0 ≤ (y.toInt - x.toInt) * z.toInt := Int.mul_nonneg (by omega) h0
    have p1 : (y.toInt - x.toInt) * z.toInt ≤ (y.toInt - x.toInt) * 300 := Int.mul_le_mul_of_nonneg_left h3 (by omega)
    have e : (x.toInt - y.toInt) * z.toInt = -((y.toInt - x.toInt) * z.toInt) := by rw [← Int.neg_mul]; congr 1; omega
    rw [e, Int.neg_tdiv, Int.tdiv_eq_ediv_of_nonneg p0]
    omega
theorem kled_neg {x y z : Int32} (hx : wb x) (hy : wb y) (h0 : 0 ≤ z.toInt) (h3 : z.toInt ≤ 300) : tk_led y x z = -tk_led x y z := by
  rw [← Int32.toInt_inj, i_neg, kled_i hx hy h0 h3, kled_i hy hx h0 h3, ← Int.neg_tdiv, ← Int.neg_mul]
  · congr 2; omega
  · have h := kled_b hx hy h0 h3
    unfold wb at hx hy
    rcases Int.le_total y.toInt x.toInt with q | q
    · have := h.1 q; omega
    · have := h.2 q; omega
/-- the marks of a job within their bounds -/
def MB (M : Nat → Int32) : Prop := (0 ≤ (M 0).toInt ∧ (M 0).toInt ≤ 100) ∧ 1 ≤ (M 1).toInt ∧ (0 ≤ (M 2).toInt ∧ (M 2).toInt ≤ 300) ∧ 1 ≤ (M 4).toInt
def WB (w : Nat → Int32) : Prop := ∀ q, q < 6 → wb (w q)
theorem wb20 : wb (nI 20) := by unfold wb; decide
theorem tc_led_eq {M w : Nat → Int32} {rg q : Nat} : tc_led M rg w q = tk_led (w q) (if q + 1 < rg then w (q + 1) else nI 20) (M 2) := rfl
theorem cap_eq (x m : Int32) : tc_cap x m = tk_cap x m := by
  unfold tc_cap tk_cap
  by_cases h : x < m
  · rw [if_pos h, if_pos (Int32.le_of_lt h)]
  · rw [if_neg h]
    by_cases h2 : x ≤ m
    · rw [if_pos h2]; exact Int32.le_antisymm h2 (Int32.not_lt.mp h)
    · rw [if_neg h2]
theorem nx_ring (w a b g : Int32) : w + -a - b + g = w - (a + b) + g := by grind
theorem nx_ring0 (w b g : Int32) : w + nI 0 - b + g = w - (nI 0 + b) + g := by
  rw [show nI 0 = (0 : Int32) from rfl]; grind
theorem gn_ring (W a r : Int32) : W * a * r = W * r * a := by grind
theorem tc_nx_eq {M w : Nat → Int32} {rg r : Nat} {W : Int32} (hM : MB M) (hw : WB w) (hrg : 2 ≤ rg ∧ rg ≤ 6) (hr : r < rg) : tc_nx M rg w (W * M 0) r = tk_nx M rg w W r := by
  have eg : tc_gn M w (W * M 0) r = (if w r < M 3 then tk_co M W r else tk_co M W r / nI 2) := by
    unfold tc_gn tk_co
    rw [gn_ring W (M 0) (nI (r + 1))]
  have el : tc_led M rg w r = (if rg - 1 ≤ r then tk_led (w r) (nI 20) (M 2) else tk_led (w r) (w (r + 1)) (M 2)) := by
    rw [tc_led_eq]
    by_cases h : rg - 1 ≤ r
    · rw [if_pos h, if_neg (by omega)]
    · rw [if_neg h, if_pos (by omega)]
  unfold tc_nx tk_nx tk_go tc_tk
  rw [cap_eq, eg, el]
  congr 1
  by_cases h0 : r = 0
  · rw [if_pos h0, if_pos h0, nx_ring0]
  · rw [if_neg h0, if_neg h0, tc_led_eq, if_pos (by omega), show r - 1 + 1 = r by omega, kled_neg (hw r (by omega)) (hw (r - 1) (by omega)) hM.2.2.1.1 hM.2.2.1.2, nx_ring]
theorem tc_ot_eq {M w o : Nat → Int32} {push : Int32} {r : Nat} : tc_ot M w o push r = tk_ot M w o push r := by
  unfold tc_ot tk_ot
  rw [cap_eq]
theorem gn_b {M : Nat → Int32} {W : Int32} {r : Nat} (hM : MB M) (hW : 0 ≤ W.toInt ∧ W.toInt ≤ 81) (hr : r < 6) : 0 ≤ (tk_co M W r).toInt ∧ (tk_co M W r).toInt ≤ 48600 := by
  have e0 : (nI (r + 1)).toInt = ((r + 1 : Nat) : Int) := nI_toInt (by omega)
  have p1 : 0 ≤ W.toInt * (nI (r + 1)).toInt := Int.mul_nonneg hW.1 (by omega)
  have p2 : W.toInt * (nI (r + 1)).toInt ≤ 81 * 6 := Int.mul_le_mul hW.2 (by omega) (by omega) (by omega)
  have e1 : (W * nI (r + 1)).toInt = W.toInt * (nI (r + 1)).toInt := i_mul (by omega) (by omega)
  have p3 : 0 ≤ (W * nI (r + 1)).toInt * (M 0).toInt := Int.mul_nonneg (by omega) hM.1.1
  have p4 : (W * nI (r + 1)).toInt * (M 0).toInt ≤ 486 * 100 := Int.mul_le_mul (by omega) hM.1.2 hM.1.1 (by omega)
  have e2 : (W * nI (r + 1) * M 0).toInt = (W * nI (r + 1)).toInt * (M 0).toInt := i_mul (by omega) (by omega)
  unfold tk_co
  have h1 := hM.2.1
  rw [i_div (by omega), Int.tdiv_eq_ediv_of_nonneg (by omega)]
  have q1 := Int.ediv_le_self (M 1).toInt (show 0 ≤ (W * nI (r + 1) * M 0).toInt by omega)
  have q2 := Int.ediv_nonneg (show 0 ≤ (W * nI (r + 1) * M 0).toInt by omega) (show 0 ≤ (M 1).toInt by omega)
  omega
theorem cap_b {e : Int32} (h : 20 ≤ e.toInt) : wb (tk_cap e (nI 5000)) := by
  unfold tk_cap wb
  have e5 : (nI 5000).toInt = 5000 := nI_toInt (by decide)
  by_cases q : e < nI 5000
  · rw [if_pos q]
    rw [Int32.lt_iff_toInt_lt, e5] at q
    omega
  · rw [if_neg q, e5]
    omega
theorem nx_b {M w : Nat → Int32} {rg r : Nat} {W : Int32} (hM : MB M) (hw : WB w) (hrg : 2 ≤ rg ∧ rg ≤ 6) (hr : r < rg) (hW : 0 ≤ W.toInt ∧ W.toInt ≤ 81) : wb (tk_nx M rg w W r) := by
  unfold tk_nx
  apply cap_b
  have hg := gn_b hM hW (show r < 6 by omega)
  have hwr := hw r (by omega)
  obtain ⟨a, ha, e1⟩ : ∃ a, wb a ∧ (if r = 0 then nI 0 else tk_led (w r) (w (r - 1)) (M 2)) = (if r = 0 then nI 0 else tk_led (w r) a (M 2)) := ⟨w (r - 1), hw _ (by omega), rfl⟩
  obtain ⟨b, hb, e2⟩ : ∃ b, wb b ∧ (if rg - 1 ≤ r then tk_led (w r) (nI 20) (M 2) else tk_led (w r) (w (r + 1)) (M 2)) = tk_led (w r) b (M 2) := by
    by_cases h : rg - 1 ≤ r
    · exact ⟨nI 20, wb20, if_pos h⟩
    · exact ⟨w (r + 1), hw _ (by omega), if_neg h⟩
  unfold tk_go
  rw [e1, e2]
  have lb := kled_b hwr hb hM.2.2.1.1 hM.2.2.1.2
  have la := kled_b hwr ha hM.2.2.1.1 hM.2.2.1.2
  have h0 : (nI 0).toInt = 0 := rfl
  have hA : (a.toInt ≤ (w r).toInt → 0 ≤ (if r = 0 then nI 0 else tk_led (w r) a (M 2)).toInt ∧ 1000 * (if r = 0 then nI 0 else tk_led (w r) a (M 2)).toInt ≤ 300 * ((w r).toInt - a.toInt)) ∧ ((w r).toInt ≤ a.toInt → (if r = 0 then nI 0 else tk_led (w r) a (M 2)).toInt ≤ 0 ∧ 300 * ((w r).toInt - a.toInt) ≤ 1000 * (if r = 0 then nI 0 else tk_led (w r) a (M 2)).toInt) := by
    by_cases h : r = 0
    · rw [if_pos h, h0]; omega
    · rw [if_neg h]; exact la
  generalize (if r = 0 then nI 0 else tk_led (w r) a (M 2)) = A at hA ⊢
  generalize tk_led (w r) b (M 2) = B at lb ⊢
  have hgn : 0 ≤ (if w r < M 3 then tk_co M W r else tk_co M W r / nI 2).toInt ∧ (if w r < M 3 then tk_co M W r else tk_co M W r / nI 2).toInt ≤ 48600 := by
    by_cases h : w r < M 3
    · rw [if_pos h]; exact hg
    · rw [if_neg h, i_div (by decide), Int.tdiv_eq_ediv_of_nonneg hg.1, show (nI 2).toInt = 2 from rfl]; omega
  generalize (if w r < M 3 then tk_co M W r else tk_co M W r / nI 2) = G at hgn ⊢
  unfold wb at hwr ha hb
  have bA : -1500 ≤ A.toInt ∧ A.toInt ≤ 1500 := by
    rcases Int.le_total a.toInt (w r).toInt with q | q
    · have := hA.1 q; omega
    · have := hA.2 q; omega
  have bB : -1500 ≤ B.toInt ∧ B.toInt ≤ 1500 := by
    rcases Int.le_total b.toInt (w r).toInt with q | q
    · have := lb.1 q; omega
    · have := lb.2 q; omega
  have s1 : (A + B).toInt = A.toInt + B.toInt := i_add (by omega) (by omega)
  have s2 : (w r - (A + B)).toInt = (w r).toInt - (A.toInt + B.toInt) := by rw [i_sub, s1] <;> omega
  rw [i_add (by omega) (by omega), s2]
  have lo : 20 ≤ (w r).toInt - (A.toInt + B.toInt) := by
    rcases Int.le_total a.toInt (w r).toInt with q | q <;> rcases Int.le_total b.toInt (w r).toInt with q2 | q2
    · have := hA.1 q; have := lb.1 q2; omega
    · have := hA.1 q; have := lb.2 q2; omega
    · have := hA.2 q; have := lb.1 q2; omega
    · have := hA.2 q; have := lb.2 q2; omega
  omega
