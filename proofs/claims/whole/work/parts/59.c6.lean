/-! TICKS in a row: bounds, and what stands still -/
/-- the rings' rows within their bounds: warmth, and its peak above it -/
def TI (T : tk_R) : Prop := WB T.1 ∧ ∀ q, q < 6 → T.1 q ≤ T.2.1 q
def E3 (S T : tk_R) : Prop := S.1 = T.1 ∧ S.2.1 = T.2.1 ∧ S.2.2.1 = T.2.2.1
theorem up_max {is was x y : Int32} (h : is = was → x ≤ y) : tc_up is was x y = tk_max y x := by
  unfold tc_up tk_max
  by_cases e : is = was
  · rw [if_pos e, if_neg (Int32.not_lt.mpr (h e))]
  · rw [if_neg e]
    by_cases q : x ≤ y
    · rw [if_pos q, if_neg (Int32.not_lt.mpr q)]
    · rw [if_neg q, if_pos (Int32.not_le.mp q)]
theorem tk_E3 {M : Nat → Int32} {rg : Nat} {W p : Int32} {S T : tk_R} (hM : MB M) (hrg : 2 ≤ rg ∧ rg ≤ 6) (e : E3 S T) (hT : TI T) : E3 (tc M rg (W * M 0) p S) (tk M rg W p 0 T) := by
  obtain ⟨e1, e2, e3⟩ := e
  unfold tc tk E3
  dsimp only
  rw [e1, e2, e3]
  refine ⟨?_, ?_, ?_⟩
  · funext r
    by_cases h : r < rg
    · rw [if_pos h, if_pos h, tc_nx_eq hM hT.1 hrg h]
    · rw [if_neg h, if_neg h]
  · funext r
    by_cases h : r < rg
    · rw [if_pos h, if_pos h, tc_nx_eq hM hT.1 hrg h, up_max]
      intro q
      rw [q]
      exact hT.2 r (by omega)
    · rw [if_neg h, if_neg h]
  · funext r
    by_cases h : r < rg
    · rw [if_pos h, if_pos h, tc_ot_eq]
    · rw [if_neg h, if_neg h]
def FN (T : tk_R) : Prop := ∀ q, q < 6 → 0 ≤ T.2.2.2 q
theorem tk_1 {M : Nat → Int32} {rg : Nat} {W p : Int32} {T : tk_R} (hM : MB M) (hrg : 2 ≤ rg ∧ rg ≤ 6) (hT : TI T) (hF : FN T) : tc M rg (W * M 0) p T = tk M rg W p 1 T := by
  have h3 := tk_E3 (W := W) (p := p) hM hrg (show E3 T T from ⟨rfl, rfl, rfl⟩) hT
  have h4 : (tc M rg (W * M 0) p T).2.2.2 = (tk M rg W p 1 T).2.2.2 := by
    unfold tc tk
    dsimp only
    funext r
    by_cases h : r < rg
    · rw [if_pos h, if_pos h, if_neg (by decide), tc_nx_eq hM hT.1 hrg h, up_max]
      intro q
      rw [q, Int32.sub_self]
      exact hF r (by omega)
    · rw [if_neg h, if_neg h]
  exact Prod.ext h3.1 (Prod.ext h3.2.1 (Prod.ext h3.2.2 h4))
theorem max_l (x y : Int32) : x ≤ tk_max x y := by
  unfold tk_max
  by_cases h : x < y
  · rw [if_pos h]; exact Int32.le_of_lt h
  · rw [if_neg h]; exact Int32.le_refl x
theorem max_r (x y : Int32) : y ≤ tk_max x y := by
  unfold tk_max
  by_cases h : x < y
  · rw [if_pos h]; exact Int32.le_refl y
  · rw [if_neg h]; exact Int32.not_lt.mp h
theorem tk_TI {M : Nat → Int32} {rg : Nat} {W p : Int32} {c : Nat} {T : tk_R} (hM : MB M) (hrg : 2 ≤ rg ∧ rg ≤ 6) (hW : 0 ≤ W.toInt ∧ W.toInt ≤ 81) (hT : TI T) : TI (tk M rg W p c T) := by
  unfold tk TI
  dsimp only
  constructor
  · intro q hq
    show wb (if q < rg then _ else _)
    by_cases h : q < rg
    · rw [if_pos h]; exact nx_b hM hT.1 hrg h hW
    · rw [if_neg h]; exact hT.1 q hq
  · intro q hq
    by_cases h : q < rg
    · rw [if_pos h, if_pos h]; exact max_r _ _
    · rw [if_neg h, if_neg h]; exact hT.2 q hq
theorem tk_FN {M : Nat → Int32} {rg : Nat} {W p : Int32} {T : tk_R} (hF : FN T) : FN (tk M rg W p 1 T) := by
  intro q hq
  unfold tk
  dsimp only
  by_cases h : q < rg
  · rw [if_pos h, if_neg (by decide)]; exact Int32.le_trans (hF q hq) (max_l _ _)
  · rw [if_neg h]; exact hF q hq
theorem mv_false {ch : Nat → Bool} : ∀ n, ¬ mv ch n = true → ∀ q, q < n → ch q = false
  | 0, _, q, hq => absurd hq (Nat.not_lt_zero q)
  | n + 1, h, q, hq => by
    have h2 : ¬ (mv ch n || ch n) = true := h
    rw [Bool.or_eq_true, not_or] at h2
    by_cases e : q = n
    · rw [e]; exact Bool.eq_false_iff.mpr h2.2
    · exact mv_false n h2.1 q (by omega)
/-- what stands still once does so for good -/
theorem tc_fix {M : Nat → Int32} {rg : Nat} {W p : Int32} {T : tk_R} (h : ¬ mv (tc_ch M rg T.1 T.2.2.1 W p) rg = true) : tc M rg W p T = T := by
  have hq := mv_false rg h
  have ho : ∀ q, q < rg → tc_ot M T.1 T.2.2.1 p q = T.2.2.1 q ∧ tc_nx M rg T.1 W q = T.1 q := by
    intro q h1
    have := hq q h1
    unfold tc_ch at this
    rw [Bool.or_eq_false_iff] at this
    simpa using this
  unfold tc
  refine Prod.ext ?_ (Prod.ext ?_ (Prod.ext ?_ ?_))
  all_goals
    funext q
    dsimp only
    by_cases h1 : q < rg
    · rw [if_pos h1]
      have := ho q h1
      first | exact this.2 | exact this.1 | exact if_pos this.2
    · rw [if_neg h1]
theorem tk_fix0 {M : Nat → Int32} {rg : Nat} {W p : Int32} {T : tk_R} (e : E3 T (tk M rg W p 0 T)) : tk M rg W p 0 (tk M rg W p 0 T) = tk M rg W p 0 T := by
  obtain ⟨e1, e2, e3⟩ := e
  have k1 : (tk M rg W p 0 T).1 = fun r => if r < rg then tk_nx M rg T.1 W r else T.1 r := rfl
  have k2 : (tk M rg W p 0 T).2.1 = fun r => if r < rg then tk_max (T.2.1 r) (tk_nx M rg T.1 W r) else T.2.1 r := rfl
  have k3 : (tk M rg W p 0 T).2.2.1 = fun r => if r < rg then tk_ot M T.1 T.2.2.1 p r else T.2.2.1 r := rfl
  have k4 : (tk M rg W p 0 T).2.2.2 = fun r => if r < rg then nI 0 else T.2.2.2 r := by
    funext r
    show (if r < rg then (if (0 : Nat) = 0 then nI 0 else _) else _) = _
    rw [if_pos rfl]
  refine Prod.ext ?_ (Prod.ext ?_ (Prod.ext ?_ ?_))
  · show (fun r => if r < rg then tk_nx M rg (tk M rg W p 0 T).1 W r else (tk M rg W p 0 T).1 r) = _
    rw [← e1, k1.symm.trans e1.symm]
  · show (fun r => if r < rg then tk_max ((tk M rg W p 0 T).2.1 r) (tk_nx M rg (tk M rg W p 0 T).1 W r) else (tk M rg W p 0 T).2.1 r) = _
    rw [← e1, ← e2]
    exact k2.symm.trans e2.symm
  · show (fun r => if r < rg then tk_ot M (tk M rg W p 0 T).1 (tk M rg W p 0 T).2.2.1 p r else (tk M rg W p 0 T).2.2.1 r) = _
    rw [← e1, ← e3]
    exact k3.symm.trans e3.symm
  · show (fun r => if r < rg then (if (0 : Nat) = 0 then nI 0 else _) else (tk M rg W p 0 T).2.2.2 r) = _
    rw [k4]
    funext r
    by_cases h : r < rg
    · rw [if_pos h, if_pos h, if_pos rfl]
    · rw [if_neg h, if_neg h]
      exact if_neg h
def ZO (rg : Nat) (T : tk_R) : Prop := ∀ q, rg ≤ q → T.2.2.1 q = 0
theorem tk_ZO {M : Nat → Int32} {rg : Nat} {W p : Int32} {c : Nat} {T : tk_R} (h : ZO rg T) : ZO rg (tk M rg W p c T) := by
  intro q hq
  show (if q < rg then _ else T.2.2.1 q) = 0
  rw [if_neg (by omega)]
  exact h q hq
theorem mm_sum_z {f : Nat → Int32} {rg : Nat} (hz : ∀ q, rg ≤ q → f q = 0) : ∀ n, mm_sum f (rg + n) = mm_sum f rg
  | 0 => rfl
  | n + 1 => by
    show mm_sum f (rg + n) + f (rg + n) = _
    rw [mm_sum_z hz n, hz _ (by omega), Int32.add_zero]
theorem mm_sum6 {f : Nat → Int32} {rg : Nat} (hrg : rg ≤ 6) (hz : ∀ q, rg ≤ q → f q = 0) : mm_sum f 6 = mm_sum f rg := by
  have := mm_sum_z hz (6 - rg)
  rw [show rg + (6 - rg) = 6 by omega] at this
  exact this
/-- marks that agree are alike in all -/
def MA (M N : Nat → Int32) : Prop := ∀ i, i < 9 → M i = N i
theorem tk_M {M N : Nat → Int32} (h : MA M N) : tk M = tk N := by
  funext rg W p c T
  unfold tk tk_nx tk_ot tk_go tk_co
  rw [h 0 (by decide), h 1 (by decide), h 2 (by decide), h 3 (by decide), h 4 (by decide)]
theorem wd_1_M {M N : Nat → Int32} (h : MA M N) (rg z : Nat) : wd_1 M rg z = wd_1 N rg z := by
  unfold wd_1
  rw [tk_M h]
theorem wd_T_M {M N : Nat → Int32} (h : MA M N) (rg z : Nat) : wd_T M rg z = wd_T N rg z := by
  unfold wd_T
  rw [tk_M h, wd_1_M h]
theorem jd_f_M {M N : Nat → Int32} (h : MA M N) (T : tk_R) : ∀ n r, jd_f M T n r = jd_f N T n r
  | 0, _ => rfl
  | n + 1, r => by
    unfold jd_f
    rw [h 5 (by decide), h 6 (by decide), h 7 (by decide), jd_f_M h T n (r + 1)]
theorem jd_M {M N : Nat → Int32} (h : MA M N) (rg z : Nat) : jd M rg z = jd N rg z := by
  unfold jd
  rw [wd_1_M h, wd_T_M h, jd_f_M h]
