/-! LEAST PROOFS of boxes, as the reference counts them -/
abbrev Gd : Type := Nat → Nat → Nat → Bool
def gcN (G : Gd) (a b c d e f : Nat) : Nat := sm (fun t => sm (fun p => sm (fun l => if G t p l = true then 1 else 0) (f + 1 - e) e) (d + 1 - c) c) (b + 1 - a) a
def szN (a b c d e f : Nat) : Nat := (b + 1 - a) * (d + 1 - c) * (f + 1 - e)
def spn (a b c d e f : Nat) : Nat := (b - a) + (d - c) + (f - e)
def bt (x : Nat × Nat) (cut n : Nat) : Nat × Nat := if n < x.1 then (n, cut) else x
def fo (cut val : Nat → Nat) : Nat → Nat → Nat × Nat → Nat × Nat
  | 0, _, x => x
  | n + 1, i, x => fo cut val n (i + 1) (bt x (cut i) (val i))
def lv (G : Gd) : Nat → Nat → Nat → Nat → Nat → Nat → Nat → Nat × Nat
  | 0, _, _, _, _, _, _ => (1, 0)
  | s + 1, a, b, c, d, e, f =>
    if gcN G a b c d e f = 0 then (1, 1) else if gcN G a b c d e f = szN a b c d e f then (1, 0) else
      fo (fun i => 18 + i - e) (fun i => (lv G s a b c d e i).1 + (lv G s a b c d (i + 1) f).1) (f - e) e
        (fo (fun i => 10 + i - c) (fun i => (lv G s a b c i e f).1 + (lv G s a b (i + 1) d e f).1) (d - c) c
          (fo (fun i => 2 + i - a) (fun i => (lv G s a i c d e f).1 + (lv G s (i + 1) b c d e f).1) (b - a) a (1000, 0)))
theorem fo_congr {cut v1 v2 : Nat → Nat} : ∀ (n i : Nat) (x : Nat × Nat), (∀ k, i ≤ k → k < i + n → v1 k = v2 k) → fo cut v1 n i x = fo cut v2 n i x
  | 0, i, x, _ => rfl
  | n + 1, i, x, h => by
    show fo cut v1 n (i + 1) (bt x (cut i) (v1 i)) = fo cut v2 n (i + 1) (bt x (cut i) (v2 i))
    rw [h i (Nat.le_refl _) (by omega)]
    exact fo_congr n (i + 1) _ (fun k h1 h2 => h k (by omega) (by omega))
theorem lv_step (G : Gd) : ∀ (s a b c d e f : Nat), spn a b c d e f < s → lv G (s + 1) a b c d e f = lv G s a b c d e f
  | 0, a, b, c, d, e, f, h => absurd h (Nat.not_lt_zero _)
  | s + 1, a, b, c, d, e, f, h => by
    unfold spn at h
    show (if gcN G a b c d e f = 0 then _ else if gcN G a b c d e f = szN a b c d e f then _ else _) = (if gcN G a b c d e f = 0 then _ else if gcN G a b c d e f = szN a b c d e f then _ else _)
    by_cases h1 : gcN G a b c d e f = 0
    · rw [if_pos h1, if_pos h1]
    · rw [if_neg h1, if_neg h1]
      by_cases h2 : gcN G a b c d e f = szN a b c d e f
      · rw [if_pos h2, if_pos h2]
      · rw [if_neg h2, if_neg h2]
        rw [fo_congr (b - a) a (1000, 0) (fun k k1 k2 => by rw [lv_step G s a k c d e f (by unfold spn; omega), lv_step G s (k + 1) b c d e f (by unfold spn; omega)])]
        rw [fo_congr (d - c) c _ (fun k k1 k2 => by rw [lv_step G s a b c k e f (by unfold spn; omega), lv_step G s a b (k + 1) d e f (by unfold spn; omega)])]
        rw [fo_congr (f - e) e _ (fun k k1 k2 => by rw [lv_step G s a b c d e k (by unfold spn; omega), lv_step G s a b c d (k + 1) f (by unfold spn; omega)])]
def LV (G : Gd) (a b c d e f : Nat) : Nat × Nat := lv G 16 a b c d e f
theorem LV_eq (G : Gd) {a b c d e f : Nat} (h : spn a b c d e f ≤ 15) : LV G a b c d e f = if gcN G a b c d e f = 0 then (1, 1) else if gcN G a b c d e f = szN a b c d e f then (1, 0) else
      fo (fun i => 18 + i - e) (fun i => (LV G a b c d e i).1 + (LV G a b c d (i + 1) f).1) (f - e) e
        (fo (fun i => 10 + i - c) (fun i => (LV G a b c i e f).1 + (LV G a b (i + 1) d e f).1) (d - c) c
          (fo (fun i => 2 + i - a) (fun i => (LV G a i c d e f).1 + (LV G (i + 1) b c d e f).1) (b - a) a (1000, 0))) := by
  unfold spn at h
  show (if gcN G a b c d e f = 0 then _ else if gcN G a b c d e f = szN a b c d e f then _ else _) = _
  by_cases h1 : gcN G a b c d e f = 0
  · rw [if_pos h1, if_pos h1]
  · rw [if_neg h1, if_neg h1]
    by_cases h2 : gcN G a b c d e f = szN a b c d e f
    · rw [if_pos h2, if_pos h2]
    · rw [if_neg h2, if_neg h2]
      rw [fo_congr (b - a) a (1000, 0) (v2 := fun i => (LV G a i c d e f).1 + (LV G (i + 1) b c d e f).1) (fun k k1 k2 => by unfold LV; rw [lv_step G 15 a k c d e f (by unfold spn; omega), lv_step G 15 (k + 1) b c d e f (by unfold spn; omega)])]
      rw [fo_congr (d - c) c _ (v2 := fun i => (LV G a b c i e f).1 + (LV G a b (i + 1) d e f).1) (fun k k1 k2 => by unfold LV; rw [lv_step G 15 a b c k e f (by unfold spn; omega), lv_step G 15 a b (k + 1) d e f (by unfold spn; omega)])]
      rw [fo_congr (f - e) e _ (v2 := fun i => (LV G a b c d e i).1 + (LV G a b c d (i + 1) f).1) (fun k k1 k2 => by unfold LV; rw [lv_step G 15 a b c d e k (by unfold spn; omega), lv_step G 15 a b c d (k + 1) f (by unfold spn; omega)])]
theorem fo_le {cut val : Nat → Nat} : ∀ (n i : Nat) (x : Nat × Nat), (fo cut val n i x).1 ≤ x.1
  | 0, i, x => Nat.le_refl _
  | n + 1, i, x => by
    refine Nat.le_trans (fo_le n (i + 1) (bt x (cut i) (val i))) ?_
    unfold bt
    split
    · rename_i h; exact Nat.le_of_lt h
    · exact Nat.le_refl _
theorem fo_le1 {cut val : Nat → Nat} {n i : Nat} {x : Nat × Nat} (hn : 0 < n) : (fo cut val n i x).1 ≤ val i := by
  obtain ⟨m, rfl⟩ : ∃ m, n = m + 1 := ⟨n - 1, by omega⟩
  refine Nat.le_trans (fo_le m (i + 1) (bt x (cut i) (val i))) ?_
  unfold bt
  split
  · exact Nat.le_refl _
  · rename_i h; exact Nat.not_lt.mp h
theorem fo_pos {cut val : Nat → Nat} (hv : ∀ i, 0 < val i) : ∀ (n i : Nat) (x : Nat × Nat), 0 < x.1 → 0 < (fo cut val n i x).1
  | 0, i, x, h => h
  | n + 1, i, x, h => by
    refine fo_pos hv n (i + 1) _ ?_
    unfold bt
    split
    · exact hv i
    · exact h
theorem lv_pos (G : Gd) : ∀ (s a b c d e f : Nat), 0 < (lv G s a b c d e f).1
  | 0, a, b, c, d, e, f => Nat.one_pos
  | s + 1, a, b, c, d, e, f => by
    show 0 < (if gcN G a b c d e f = 0 then _ else if gcN G a b c d e f = szN a b c d e f then _ else _ : Nat × Nat).1
    split
    · exact Nat.one_pos
    · split
      · exact Nat.one_pos
      · refine fo_pos (fun i => Nat.add_pos_left (lv_pos G s _ _ _ _ _ _) _) _ _ _ (fo_pos (fun i => Nat.add_pos_left (lv_pos G s _ _ _ _ _ _) _) _ _ _ (fo_pos (fun i => Nat.add_pos_left (lv_pos G s _ _ _ _ _ _) _) _ _ _ (by decide)))
theorem lv_1000 (G : Gd) : ∀ (s a b c d e f : Nat), (lv G s a b c d e f).1 ≤ 1000
  | 0, a, b, c, d, e, f => (by decide : (1 : Nat) ≤ 1000)
  | s + 1, a, b, c, d, e, f => by
    show (if gcN G a b c d e f = 0 then _ else if gcN G a b c d e f = szN a b c d e f then _ else _ : Nat × Nat).1 ≤ 1000
    split
    · decide
    · split
      · decide
      · exact Nat.le_trans (fo_le _ _ _) (Nat.le_trans (fo_le _ _ _) (fo_le _ _ _))
theorem sm_one {f : Nat → Nat} (x : Nat) : sm f 1 x = f x := rfl
theorem gcN_one (G : Gd) (a c e : Nat) : gcN G a a c c e e = 0 ∨ gcN G a a c c e e = szN a a c c e e := by
  have h1 : ∀ x : Nat, x + 1 - x = 1 := fun x => by omega
  unfold gcN szN
  simp only [h1, sm_one]
  split
  · exact Or.inr rfl
  · exact Or.inl rfl

theorem sz_a {a b c d e f : Nat} (h : a < b) : szN a a c d e f + szN (a + 1) b c d e f = szN a b c d e f := by
  unfold szN
  rw [← Nat.add_mul, ← Nat.add_mul]
  congr 2
  omega
theorem sz_c {a b c d e f : Nat} (h : c < d) : szN a b c c e f + szN a b (c + 1) d e f = szN a b c d e f := by
  unfold szN
  rw [← Nat.add_mul, ← Nat.mul_add]
  congr 2
  omega
theorem sz_e {a b c d e f : Nat} (h : e < f) : szN a b c d e e + szN a b c d (e + 1) f = szN a b c d e f := by
  unfold szN
  rw [← Nat.mul_add]
  congr 1
  omega
theorem sz_pos {a b c d e f : Nat} (h1 : a ≤ b) (h2 : c ≤ d) (h3 : e ≤ f) : 1 ≤ szN a b c d e f := by
  unfold szN
  exact Nat.mul_pos (Nat.mul_pos (by omega) (by omega)) (by omega)
theorem lv_sz (G : Gd) : ∀ (s a b c d e f : Nat), a ≤ b → c ≤ d → e ≤ f → spn a b c d e f < s → (lv G s a b c d e f).1 ≤ szN a b c d e f
  | 0, a, b, c, d, e, f, _, _, _, h => absurd h (Nat.not_lt_zero _)
  | s + 1, a, b, c, d, e, f, h1, h2, h3, h => by
    unfold spn at h
    show (if gcN G a b c d e f = 0 then _ else if gcN G a b c d e f = szN a b c d e f then _ else _ : Nat × Nat).1 ≤ _
    split
    · exact sz_pos h1 h2 h3
    · rename_i g0
      split
      · exact sz_pos h1 h2 h3
      · rename_i gz
        by_cases ha : a < b
        · refine Nat.le_trans (fo_le _ _ _) (Nat.le_trans (fo_le _ _ _) (Nat.le_trans (fo_le1 (by omega)) ?_))
          rw [← sz_a ha]
          exact Nat.add_le_add (lv_sz G s a a c d e f (Nat.le_refl _) h2 h3 (by unfold spn; omega)) (lv_sz G s (a + 1) b c d e f (by omega) h2 h3 (by unfold spn; omega))
        · by_cases hc : c < d
          · refine Nat.le_trans (fo_le _ _ _) (Nat.le_trans (fo_le1 (by omega)) ?_)
            rw [← sz_c hc]
            exact Nat.add_le_add (lv_sz G s a b c c e f h1 (Nat.le_refl _) h3 (by unfold spn; omega)) (lv_sz G s a b (c + 1) d e f h1 (by omega) h3 (by unfold spn; omega))
          · by_cases he : e < f
            · refine Nat.le_trans (fo_le1 (by omega)) ?_
              rw [← sz_e he]
              exact Nat.add_le_add (lv_sz G s a b c d e e h1 h2 (Nat.le_refl _) (by unfold spn; omega)) (lv_sz G s a b c d (e + 1) f h1 h2 (by omega) (by unfold spn; omega))
            · have e1 : b = a := by omega
              have e2 : d = c := by omega
              have e3 : f = e := by omega
              subst e1
              subst e2
              subst e3
              rcases gcN_one G b d f with q | q
              · exact absurd q g0
              · exact absurd q gz
theorem sz_216 {a b c d e f : Nat} (h1 : b ≤ 5) (h2 : d ≤ 5) (h3 : f ≤ 5) : szN a b c d e f ≤ 216 := by
  unfold szN
  exact Nat.le_trans (Nat.mul_le_mul (Nat.mul_le_mul (show b + 1 - a ≤ 6 by omega) (show d + 1 - c ≤ 6 by omega)) (show f + 1 - e ≤ 6 by omega)) (by decide)
theorem LV_216 (G : Gd) {a b c d e f : Nat} (h1 : a ≤ b) (h2 : c ≤ d) (h3 : e ≤ f) (b5 : b ≤ 5) (d5 : d ≤ 5) (f5 : f ≤ 5) : (LV G a b c d e f).1 ≤ 216 :=
  Nat.le_trans (lv_sz G 16 a b c d e f h1 h2 h3 (by unfold spn; omega)) (sz_216 b5 d5 f5)
theorem LV_pos (G : Gd) (a b c d e f : Nat) : 0 < (LV G a b c d e f).1 := lv_pos G 16 a b c d e f
/-- what stood before does not matter once one cut is tried -/
theorem fo_any {cut val : Nat → Nat} {n i x y : Nat} (hn : 0 < n) (hv : val i < 1000) : fo cut val n i (1000, x) = fo cut val n i (1000, y) := by
  obtain ⟨m, rfl⟩ : ∃ m, n = m + 1 := ⟨n - 1, by omega⟩
  show fo cut val m (i + 1) (bt (1000, x) (cut i) (val i)) = fo cut val m (i + 1) (bt (1000, y) (cut i) (val i))
  unfold bt
  rw [if_pos hv, if_pos hv]
/-- the three folds from any mark that stood before -/
def fo3 (G : Gd) (a b c d e f x : Nat) : Nat × Nat :=
  fo (fun i => 18 + i - e) (fun i => (LV G a b c d e i).1 + (LV G a b c d (i + 1) f).1) (f - e) e
        (fo (fun i => 10 + i - c) (fun i => (LV G a b c i e f).1 + (LV G a b (i + 1) d e f).1) (d - c) c
          (fo (fun i => 2 + i - a) (fun i => (LV G a i c d e f).1 + (LV G (i + 1) b c d e f).1) (b - a) a (1000, x)))
theorem LV_fo3 (G : Gd) {a b c d e f : Nat} (h1 : a ≤ b) (h2 : c ≤ d) (h3 : e ≤ f) (b5 : b ≤ 5) (d5 : d ≤ 5) (f5 : f ≤ 5) (g0 : ¬ gcN G a b c d e f = 0) (gz : ¬ gcN G a b c d e f = szN a b c d e f) (x : Nat) : LV G a b c d e f = fo3 G a b c d e f x := by
  rw [LV_eq G (by unfold spn; omega), if_neg g0, if_neg gz]
  unfold fo3
  by_cases ha : a < b
  · rw [fo_any (n := b - a) (x := 0) (y := x) (by omega)]
    have q1 := LV_216 G (Nat.le_refl a) h2 h3 (by omega : a ≤ 5) d5 f5
    have q2 := LV_216 G (by omega : a + 1 ≤ b) h2 h3 b5 d5 f5
    show (LV G a a c d e f).1 + (LV G (a + 1) b c d e f).1 < 1000
    omega
  · have ea : b - a = 0 := by omega
    rw [ea]
    by_cases hc : c < d
    · show fo _ _ (f - e) e (fo _ _ (d - c) c (1000, 0)) = fo _ _ (f - e) e (fo _ _ (d - c) c (1000, x))
      rw [fo_any (n := d - c) (x := 0) (y := x) (by omega)]
      have q1 := LV_216 G h1 (Nat.le_refl c) h3 b5 (by omega : c ≤ 5) f5
      have q2 := LV_216 G h1 (by omega : c + 1 ≤ d) h3 b5 d5 f5
      show (LV G a b c c e f).1 + (LV G a b (c + 1) d e f).1 < 1000
      omega
    · have ec : d - c = 0 := by omega
      rw [ec]
      by_cases he : e < f
      · show fo _ _ (f - e) e (1000, 0) = fo _ _ (f - e) e (1000, x)
        rw [fo_any (n := f - e) (x := 0) (y := x) (by omega)]
        have q1 := LV_216 G h1 h2 (Nat.le_refl e) b5 d5 (by omega : e ≤ 5)
        have q2 := LV_216 G h1 h2 (by omega : e + 1 ≤ f) b5 d5 f5
        show (LV G a b c d e e).1 + (LV G a b c d (e + 1) f).1 < 1000
        omega
      · have e1 : b = a := by omega
        have e2 : d = c := by omega
        have e3 : f = e := by omega
        subst e1
        subst e2
        subst e3
        rcases gcN_one G b d f with q | q
        · exact absurd q g0
        · exact absurd q gz
theorem gcN_le (G : Gd) {a b c d e f : Nat} (b5 : b ≤ 5) (d5 : d ≤ 5) (f5 : f ≤ 5) : gcN G a b c d e f ≤ 216 := by
  unfold gcN
  have k3 : ∀ t p, sm (fun l => if G t p l = true then 1 else 0) (f + 1 - e) e ≤ 6 := fun t p => Nat.le_trans (sm_le (m := 1) (fun x => by show (if _ then 1 else 0) ≤ 1; split <;> decide) _ _) (by omega)
  have k2 : ∀ t, sm (fun p => sm (fun l => if G t p l = true then 1 else 0) (f + 1 - e) e) (d + 1 - c) c ≤ 36 := fun t => Nat.le_trans (sm_le (m := 6) (fun x => k3 t x) _ _) (by omega)
  exact Nat.le_trans (sm_le (m := 36) k2 _ _) (by omega)

