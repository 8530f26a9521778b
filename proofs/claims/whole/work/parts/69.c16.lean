/-! LEAST PROOFS, as the class searches them -/
/-- stretches of an axis by their numbers: the highest place, the span; how many lie below a place -/
def sH (t : Nat) : Nat := [0, 1, 1, 2, 2, 2, 3, 3, 3, 3, 4, 4, 4, 4, 4, 5, 5, 5, 5, 5, 5].getD t 0
def sS (t : Nat) : Nat := [0, 0, 1, 0, 1, 2, 0, 1, 2, 3, 0, 1, 2, 3, 4, 0, 1, 2, 3, 4, 5].getD t 0
def sB (n : Nat) : Nat := [0, 1, 3, 6, 10, 15, 21].getD n 0
theorem st_1 : ∀ t, t < 21 → sS t ≤ sH t ∧ sH t ≤ 5 ∧ sB (sH t) + sS t = t := by decide
theorem st_2 : ∀ b, b < 6 → ∀ a, a < b + 1 → sB b + (b - a) < 21 ∧ sH (sB b + (b - a)) = b ∧ sS (sB b + (b - a)) = b - a := by decide
theorem st_3 : ∀ n, n < 7 → ∀ t, t < sB n → sH t < n ∧ t < 21 := by decide
theorem st_4 : ∀ n, n < 7 → ∀ b, b < n → ∀ a, a < b + 1 → sB b + (b - a) < sB n := by decide
theorem st_5 : ∀ t, t < 21 → ∀ k, k < sS t → sB (sH t - sS t + k) + k < t ∧ sH (sB (sH t - sS t + k) + k) = sH t - sS t + k ∧ sS (sB (sH t - sS t + k) + k) = k ∧ sH (t - (k + 1)) = sH t ∧ sS (t - (k + 1)) = sS t - (k + 1) ∧ k + 1 ≤ t := by decide
theorem SC.vH {h : mj_H} (C : SC h) {t : Nat} (ht : t < 21) : mj_I h 5 t = nI (sH t) := by
  rw [C.2.2 5 (by decide)]
  revert t
  decide
theorem SC.vS {h : mj_H} (C : SC h) {t : Nat} (ht : t < 21) : mj_I h 6 t = nI (sS t) := by
  rw [C.2.2 6 (by decide)]
  revert t
  decide
theorem SC.vB {h : mj_H} (C : SC h) {t : Nat} (ht : t < 7) : mj_I h 4 t = nI (sB t) := by
  rw [C.2.2 4 (by decide)]
  revert t
  decide
/-- a cell's number: leaves times 32, and the first number of the proof -/
def enc (x : Nat × Nat) : Nat := 32 * x.1 + x.2
theorem enc_div {x : Nat × Nat} (h : x.2 < 32) : enc x / 32 = x.1 := by unfold enc; omega
theorem enc_mod {x : Nat × Nat} (h : x.2 < 32) : enc x % 32 = x.2 := by unfold enc; omega
theorem enc_inj {x y : Nat × Nat} (hx : x.2 < 32) (hy : y.2 < 32) (h : enc x = enc y) : x = y := by
  have h1 := enc_div hx
  have h2 := enc_mod hx
  rw [h] at h1 h2
  rw [enc_div hy] at h1
  rw [enc_mod hy] at h2
  exact Prod.ext h1.symm h2.symm
/-- the class's search along one axis: n cuts from the k-th on -/
def lr (lo up : Nat → Nat × Nat) (base : Nat) : Nat → Nat → Nat × Nat → Nat × Nat
  | 0, _, x => x
  | n + 1, k, x => if enc x < 96 then x else if enc (lo k) = enc (up k) ∧ enc (lo k) < 64 then lo k else lr lo up base n (k + 1) (bt x (base + k) ((lo k).1 + (up k).1))
theorem fo_stay {cut val : Nat → Nat} : ∀ (n i : Nat) (x : Nat × Nat), x.1 ≤ 2 → (∀ m, i ≤ m → m < i + n → 2 ≤ val m) → fo cut val n i x = x
  | 0, _, _, _, _ => rfl
  | n + 1, i, x, hx, hv => by
    show fo cut val n (i + 1) (bt x (cut i) (val i)) = x
    have h1 := hv i (Nat.le_refl i) (by omega)
    rw [show bt x (cut i) (val i) = x from if_neg (by omega)]
    exact fo_stay n (i + 1) x hx (fun m h2 h3 => hv m (by omega) (by omega))
theorem bt_32 {x : Nat × Nat} {cut n : Nat} (hx : x.2 < 32) (hc : cut < 32) : (bt x cut n).2 < 32 := by
  unfold bt
  split
  · exact hc
  · exact hx
theorem lr_fo {lo up : Nat → Nat × Nat} {base a : Nat} {val : Nat → Nat} : ∀ (n k : Nat) (x : Nat × Nat), x.2 < 32 → base + (k + n) ≤ 32 → (∀ m, k ≤ m → m < k + n → val (a + m) = (lo m).1 + (up m).1 ∧ 2 ≤ val (a + m) ∧ ¬ (enc (lo m) = enc (up m) ∧ enc (lo m) < 64)) → lr lo up base n k x = fo (fun i => base + i - a) val n (a + k) x
  | 0, _, _, _, _, _ => rfl
  | n + 1, k, x, hx, hb, hm => by
    have h1 := hm k (Nat.le_refl k) (by omega)
    show (if enc x < 96 then x else if enc (lo k) = enc (up k) ∧ enc (lo k) < 64 then lo k else _) = fo _ val n (a + k + 1) (bt x (base + (a + k) - a) (val (a + k)))
    rw [if_neg h1.2.2, h1.1, show base + (a + k) - a = base + k by omega]
    by_cases q : enc x < 96
    · rw [if_pos q]
      have h2 : x.1 ≤ 2 := by unfold enc at q; omega
      rw [show bt x (base + k) ((lo k).1 + (up k).1) = x from if_neg (by omega)]
      exact (fo_stay n (a + k + 1) x h2 (fun m h3 h4 => by
        have := (hm (m - a) (by omega) (by omega)).2.1
        rw [show a + (m - a) = m by omega] at this
        exact this)).symm
    · rw [if_neg q]
      exact lr_fo n (k + 1) _ (bt_32 hx (by omega)) (by omega) (fun m h3 h4 => hm m (by omega) (by omega))
theorem LV_32 (G : Gd) {a b c d e f : Nat} (h1 : a ≤ b) (h2 : c ≤ d) (h3 : e ≤ f) (b5 : b ≤ 5) (d5 : d ≤ 5) (f5 : f ≤ 5) : (LV G a b c d e f).2 < 26 := by
  rcases LV_cut G h1 h2 h3 b5 d5 f5 with q | ⟨_, ⟨i, i1, i2, _⟩ | ⟨i, i1, i2, _⟩ | ⟨i, i1, i2, _⟩⟩ <;> omega
/-- a box is of one kind: all bad, or all good -/
def uni (G : Gd) (v a b c d e f : Nat) : Prop := ∀ t p l, a ≤ t → t ≤ b → c ≤ p → p ≤ d → e ≤ l → l ≤ f → (G t p l = true ↔ v = 0)
theorem LV_u {G : Gd} {v a b c d e f : Nat} (h1 : a ≤ b) (h2 : c ≤ d) (h3 : e ≤ f) (b5 : b ≤ 5) (d5 : d ≤ 5) (f5 : f ≤ 5) (hv : v < 2) : uni G v a b c d e f ↔ LV G a b c d e f = (1, v) := by
  have hsp : spn a b c d e f ≤ 15 := by unfold spn; omega
  have hsz := sz_pos h1 h2 h3
  constructor
  · intro u
    rw [LV_eq G hsp]
    by_cases v0 : v = 0
    · have : gcN G a b c d e f = szN a b c d e f := gc_sz.mpr (fun t p l k1 k2 k3 k4 k5 k6 => (u t p l k1 k2 k3 k4 k5 k6).mpr v0)
      rw [if_neg (by omega), if_pos this, v0]
    · have : gcN G a b c d e f = 0 := gc_0.mpr (fun t p l k1 k2 k3 k4 k5 k6 q => v0 ((u t p l k1 k2 k3 k4 k5 k6).mp q))
      rw [if_pos this, show v = 1 by omega]
  · intro hq
    rcases LV_cut G h1 h2 h3 b5 d5 f5 with q | ⟨_, ⟨i, i1, i2, _⟩ | ⟨i, i1, i2, _⟩ | ⟨i, i1, i2, _⟩⟩
    · have hu := q.2.2
      unfold NU at hu
      rw [LV_eq G hsp] at hq
      by_cases g0 : gcN G a b c d e f = 0
      · rw [if_pos g0] at hq
        have hv1 : v = 1 := (congrArg Prod.snd hq).symm
        intro t p l k1 k2 k3 k4 k5 k6
        exact ⟨fun q => absurd q (gc_0.mp g0 t p l k1 k2 k3 k4 k5 k6), fun q => by omega⟩
      · have gz : gcN G a b c d e f = szN a b c d e f := Decidable.byContradiction (fun z => hu ⟨g0, z⟩)
        rw [if_neg g0, if_pos gz] at hq
        have hv0 : v = 0 := (congrArg Prod.snd hq).symm
        intro t p l k1 k2 k3 k4 k5 k6
        exact ⟨fun _ => hv0, fun _ => gc_sz.mp gz t p l k1 k2 k3 k4 k5 k6⟩
    all_goals
      rw [hq] at i2
      omega
theorem LV_e64 {G : Gd} {a b c d e f : Nat} (h1 : a ≤ b) (h2 : c ≤ d) (h3 : e ≤ f) (b5 : b ≤ 5) (d5 : d ≤ 5) (f5 : f ≤ 5) (h : enc (LV G a b c d e f) < 64) : ∃ v, v < 2 ∧ LV G a b c d e f = (1, v) := by
  rcases LV_cut G h1 h2 h3 b5 d5 f5 with q | ⟨_, ⟨i, i1, i2, i3⟩ | ⟨i, i1, i2, i3⟩ | ⟨i, i1, i2, i3⟩⟩
  · exact ⟨(LV G a b c d e f).2, q.1, Prod.ext q.2.1 rfl⟩
  · have p1 := LV_pos G a (a + i) c d e f
    have p2 := LV_pos G (a + i + 1) b c d e f
    unfold enc at h
    omega
  · have p1 := LV_pos G a b c (c + i) e f
    have p2 := LV_pos G a b (c + i + 1) d e f
    unfold enc at h
    omega
  · have p1 := LV_pos G a b c d e (e + i)
    have p2 := LV_pos G a b c d (e + i + 1) f
    unfold enc at h
    omega
theorem lr_u {lo up : Nat → Nat × Nat} {base n : Nat} {x y : Nat × Nat} (hn : 0 < n) (h9 : ¬ enc x < 96) (hl : lo 0 = y) (hu : up 0 = y) (hy : enc y < 64) : lr lo up base n 0 x = y := by
  obtain ⟨m, rfl⟩ : ∃ m, n = m + 1 := ⟨n - 1, by omega⟩
  show (if enc x < 96 then x else if enc (lo 0) = enc (up 0) ∧ enc (lo 0) < 64 then lo 0 else _) = y
  rw [if_neg h9, hl, hu, if_pos ⟨rfl, hy⟩]
theorem lr_s {lo up : Nat → Nat × Nat} {base n k : Nat} {x : Nat × Nat} (h9 : enc x < 96) : lr lo up base n k x = x := by
  cases n with
  | zero => rfl
  | succ n => exact if_pos h9
/-- the class's search of a box of more than one setting: along the axes in turn -/
def l3 (G : Gd) (a b c d e f : Nat) : Nat × Nat :=
  lr (fun k => LV G a b c d e (e + k)) (fun k => LV G a b c d (e + k + 1) f) 18 (f - e) 0
    (lr (fun k => LV G a b c (c + k) e f) (fun k => LV G a b (c + k + 1) d e f) 10 (d - c) 0
      (lr (fun k => LV G a (a + k) c d e f) (fun k => LV G (a + k + 1) b c d e f) 2 (b - a) 0 (1000, 0)))
theorem enc1 {v : Nat} (hv : v < 2) : enc (1, v) < 64 := by unfold enc; dsimp only; omega
theorem l3_eq (G : Gd) {a b c d e f : Nat} (h1 : a ≤ b) (h2 : c ≤ d) (h3 : e ≤ f) (b5 : b ≤ 5) (d5 : d ≤ 5) (f5 : f ≤ 5) (hs : 0 < spn a b c d e f) : l3 G a b c d e f = LV G a b c d e f := by
  have hs' := hs
  unfold spn at hs'
  by_cases hu : ∃ v, v < 2 ∧ LV G a b c d e f = (1, v)
  · obtain ⟨v, hv, eL⟩ := hu
    have u := (LV_u h1 h2 h3 b5 d5 f5 hv).mpr eL
    have hy := enc1 hv
    have hy9 : enc (1, v) < 96 := by omega
    have n9 : ¬ enc (1000, 0) < 96 := by decide
    have sub : ∀ a' b' c' d' e' f', a ≤ a' → a' ≤ b' → b' ≤ b → c ≤ c' → c' ≤ d' → d' ≤ d → e ≤ e' → e' ≤ f' → f' ≤ f → LV G a' b' c' d' e' f' = (1, v) := fun a' b' c' d' e' f' k1 k2 k3 k4 k5 k6 k7 k8 k9 =>
      (LV_u k2 k5 k8 (by omega) (by omega) (by omega) hv).mp (fun t p l q1 q2 q3 q4 q5 q6 => u t p l (by omega) (by omega) (by omega) (by omega) (by omega) (by omega))
    unfold l3
    rw [eL]
    by_cases ha : a < b
    · rw [lr_u (lo := fun k => LV G a (a + k) c d e f) (up := fun k => LV G (a + k + 1) b c d e f) (base := 2) (y := (1, v)) (by omega) n9 (sub a (a + 0) c d e f (by omega) (by omega) (by omega) (by omega) (by omega) (by omega) (by omega) (by omega) (by omega)) (sub (a + 0 + 1) b c d e f (by omega) (by omega) (by omega) (by omega) (by omega) (by omega) (by omega) (by omega) (by omega)) hy, lr_s hy9, lr_s hy9]
    · rw [show b - a = 0 by omega]
      show lr _ _ 18 (f - e) 0 (lr _ _ 10 (d - c) 0 (1000, 0)) = _
      by_cases hc : c < d
      · rw [lr_u (lo := fun k => LV G a b c (c + k) e f) (up := fun k => LV G a b (c + k + 1) d e f) (base := 10) (y := (1, v)) (by omega) n9 (sub a b c (c + 0) e f (by omega) (by omega) (by omega) (by omega) (by omega) (by omega) (by omega) (by omega) (by omega)) (sub a b (c + 0 + 1) d e f (by omega) (by omega) (by omega) (by omega) (by omega) (by omega) (by omega) (by omega) (by omega)) hy, lr_s hy9]
      · rw [show d - c = 0 by omega]
        show lr _ _ 18 (f - e) 0 (1000, 0) = _
        exact lr_u (by omega) n9 (sub a b c d e (e + 0) (by omega) (by omega) (by omega) (by omega) (by omega) (by omega) (by omega) (by omega) (by omega)) (sub a b c d (e + 0 + 1) f (by omega) (by omega) (by omega) (by omega) (by omega) (by omega) (by omega) (by omega) (by omega)) hy
  · have hnu : NU G a b c d e f := by
      rcases LV_cut G h1 h2 h3 b5 d5 f5 with q | q
      · exact absurd ⟨_, q.1, Prod.ext q.2.1 rfl⟩ hu
      · exact q.1
    have no : ∀ a1 b1 c1 d1 e1 f1 a2 b2 c2 d2 e2 f2, a1 ≤ b1 → c1 ≤ d1 → e1 ≤ f1 → b1 ≤ 5 → d1 ≤ 5 → f1 ≤ 5 → a2 ≤ b2 → c2 ≤ d2 → e2 ≤ f2 → b2 ≤ 5 → d2 ≤ 5 → f2 ≤ 5 → (∀ t p l, a ≤ t → t ≤ b → c ≤ p → p ≤ d → e ≤ l → l ≤ f → (a1 ≤ t ∧ t ≤ b1 ∧ c1 ≤ p ∧ p ≤ d1 ∧ e1 ≤ l ∧ l ≤ f1) ∨ (a2 ≤ t ∧ t ≤ b2 ∧ c2 ≤ p ∧ p ≤ d2 ∧ e2 ≤ l ∧ l ≤ f2)) → ¬ (enc (LV G a1 b1 c1 d1 e1 f1) = enc (LV G a2 b2 c2 d2 e2 f2) ∧ enc (LV G a1 b1 c1 d1 e1 f1) < 64) := by
      intro a1 b1 c1 d1 e1 f1 a2 b2 c2 d2 e2 f2 k1 k2 k3 k4 k5 k6 k7 k8 k9 k10 k11 k12 cov q
      obtain ⟨v, hv, e1⟩ := LV_e64 k1 k2 k3 k4 k5 k6 q.2
      have i1 := LV_32 G k1 k2 k3 k4 k5 k6
      have i2 := LV_32 G k7 k8 k9 k10 k11 k12
      have e2 := enc_inj (by omega) (by omega) q.1
      rw [e1] at e2
      have u1 := (LV_u k1 k2 k3 k4 k5 k6 hv).mpr e1
      have u2 := (LV_u k7 k8 k9 k10 k11 k12 hv).mpr e2.symm
      exact hu ⟨v, hv, (LV_u h1 h2 h3 b5 d5 f5 hv).mp (fun t p l q1 q2 q3 q4 q5 q6 => (cov t p l q1 q2 q3 q4 q5 q6).elim (fun w => u1 t p l w.1 w.2.1 w.2.2.1 w.2.2.2.1 w.2.2.2.2.1 w.2.2.2.2.2) (fun w => u2 t p l w.1 w.2.1 w.2.2.1 w.2.2.2.1 w.2.2.2.2.1 w.2.2.2.2.2))⟩
    rw [LV_fo3 G h1 h2 h3 b5 d5 f5 hnu.1 hnu.2 0]
    unfold l3 fo3
    have f32 : ∀ {cut val : Nat → Nat} (n i : Nat) (x : Nat × Nat), x.2 < 32 → (∀ m, i ≤ m → m < i + n → cut m < 32) → (fo cut val n i x).2 < 32 := by
      intro cut val n i x hx hc
      rcases fo_in (cut := cut) (val := val) n i x with q | ⟨k, k1, k2, q⟩
      · rw [q]; exact hx
      · rw [q]; exact hc k k1 k2
    rw [lr_fo (a := a) (base := 2) (val := fun i => (LV G a i c d e f).1 + (LV G (i + 1) b c d e f).1) (b - a) 0 (1000, 0) (by decide) (by omega) (fun m k1 k2 => ⟨rfl, by have := LV_pos G a (a + m) c d e f; have := LV_pos G (a + m + 1) b c d e f; omega, no _ _ _ _ _ _ _ _ _ _ _ _ (by omega) (by omega) (by omega) (by omega) (by omega) (by omega) (by omega) (by omega) (by omega) (by omega) (by omega) (by omega) (fun t p l q1 q2 q3 q4 q5 q6 => by omega)⟩)]
    rw [lr_fo (a := c) (base := 10) (val := fun i => (LV G a b c i e f).1 + (LV G a b (i + 1) d e f).1) (d - c) 0 _ (f32 _ _ _ (by decide) (fun m _ _ => by omega)) (by omega) (fun m k1 k2 => ⟨rfl, by have := LV_pos G a b c (c + m) e f; have := LV_pos G a b (c + m + 1) d e f; omega, no _ _ _ _ _ _ _ _ _ _ _ _ (by omega) (by omega) (by omega) (by omega) (by omega) (by omega) (by omega) (by omega) (by omega) (by omega) (by omega) (by omega) (fun t p l q1 q2 q3 q4 q5 q6 => by omega)⟩)]
    rw [lr_fo (a := e) (base := 18) (val := fun i => (LV G a b c d e i).1 + (LV G a b c d (i + 1) f).1) (f - e) 0 _ (f32 _ _ _ (f32 _ _ _ (by decide) (fun m _ _ => by omega)) (fun m _ _ => by omega)) (by omega) (fun m k1 k2 => ⟨rfl, by have := LV_pos G a b c d e (e + m); have := LV_pos G a b c d (e + m + 1) f; omega, no _ _ _ _ _ _ _ _ _ _ _ _ (by omega) (by omega) (by omega) (by omega) (by omega) (by omega) (by omega) (by omega) (by omega) (by omega) (by omega) (by omega) (fun t p l q1 q2 q3 q4 q5 q6 => by omega)⟩)]
    rfl
