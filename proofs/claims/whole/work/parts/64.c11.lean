/-! COUNTS in boxes, and where boxes lie -/
theorem sm_split (f : Nat → Nat) : ∀ n m x, sm f (n + m) x = sm f n x + sm f m (x + n)
  | 0, m, x => by rw [Nat.zero_add, Nat.add_zero]; exact (Nat.zero_add _).symm
  | n + 1, m, x => by
    rw [show n + 1 + m = n + m + 1 by omega]
    show f x + sm f (n + m) (x + 1) = f x + sm f n (x + 1) + sm f m (x + (n + 1))
    rw [sm_split f n m (x + 1), show x + 1 + n = x + (n + 1) by omega, Nat.add_assoc]
theorem sm_0 {f : Nat → Nat} : ∀ n x, (∀ i, x ≤ i → i < x + n → f i = 0) → sm f n x = 0
  | 0, _, _ => rfl
  | n + 1, x, h => by
    show f x + sm f n (x + 1) = 0
    rw [h x (Nat.le_refl x) (by omega), sm_0 n (x + 1) (fun i h1 h2 => h i (by omega) (by omega))]
theorem sm_of0 {f : Nat → Nat} : ∀ n x, sm f n x = 0 → ∀ i, x ≤ i → i < x + n → f i = 0
  | 0, _, _, i, h1, h2 => by omega
  | n + 1, x, h, i, h1, h2 => by
    have h3 : f x + sm f n (x + 1) = 0 := h
    by_cases e : i = x
    · rw [e]; omega
    · exact sm_of0 n (x + 1) (by omega) i (by omega) (by omega)
theorem sm_full {f : Nat → Nat} {m : Nat} (hf : ∀ i, f i ≤ m) : ∀ n x, sm f n x = n * m → ∀ i, x ≤ i → i < x + n → f i = m
  | 0, _, _, i, h1, h2 => by omega
  | n + 1, x, h, i, h1, h2 => by
    have h3 : f x + sm f n (x + 1) = (n + 1) * m := h
    have h4 := sm_le hf n (x + 1)
    have h5 := hf x
    rw [Nat.succ_mul] at h3
    by_cases e : i = x
    · rw [e]; omega
    · exact sm_full hf n (x + 1) (by omega) i (by omega) (by omega)
theorem sm_m {f : Nat → Nat} {m : Nat} : ∀ n x, (∀ i, x ≤ i → i < x + n → f i = m) → sm f n x = n * m
  | 0, _, _ => (Nat.zero_mul m).symm
  | n + 1, x, h => by
    show f x + sm f n (x + 1) = (n + 1) * m
    rw [h x (Nat.le_refl x) (by omega), sm_m n (x + 1) (fun i h1 h2 => h i (by omega) (by omega)), Nat.succ_mul, Nat.add_comm]
theorem sm_cg {f g : Nat → Nat} : ∀ n x, (∀ i, x ≤ i → i < x + n → f i = g i) → sm f n x = sm g n x
  | 0, _, _ => rfl
  | n + 1, x, h => by
    show f x + sm f n (x + 1) = g x + sm g n (x + 1)
    rw [h x (Nat.le_refl x) (by omega), sm_cg n (x + 1) (fun i h1 h2 => h i (by omega) (by omega))]
theorem sm_sh (f : Nat → Nat) (k : Nat) : ∀ n x, sm f n (x + k) = sm (fun i => f (i + k)) n x
  | 0, _ => rfl
  | n + 1, x => by
    show f (x + k) + sm f n (x + k + 1) = f (x + k) + sm (fun i => f (i + k)) n (x + 1)
    rw [show x + k + 1 = x + 1 + k by omega, sm_sh f k n (x + 1)]
theorem sm_9 (f : Nat → Nat) : ∀ n x, sm f (9 * n) (9 * x) = sm (fun t => sm (fun q => f (9 * t + q)) 9 0) n x
  | 0, _ => rfl
  | n + 1, x => by
    rw [show 9 * (n + 1) = 9 + 9 * n by omega, sm_split, show 9 * x + 9 = 9 * (x + 1) by omega, sm_9 f n (x + 1)]
    show _ = sm (fun q => f (9 * x + q)) 9 0 + _
    congr 1
/-- what is nothing outside a stretch sums up to the stretch's own -/
theorem sm_in {f : Nat → Nat} {lo n m : Nat} (h : lo + n ≤ m) (hf : ∀ i, i < m → ¬ (lo ≤ i ∧ i < lo + n) → f i = 0) : sm f m 0 = sm (fun i => f (lo + i)) n 0 := by
  rw [show m = lo + (n + (m - (lo + n))) by omega, sm_split, sm_0 lo 0 (fun i _ h2 => hf i (by omega) (by omega)), Nat.zero_add, sm_split, sm_0 (m - (lo + n)) _ (fun i h1 _ => hf i (by omega) (by omega)), Nat.add_zero]
  have := sm_sh f lo n 0
  rw [this]
  exact sm_cg n 0 (fun i _ _ => by rw [Nat.add_comm])
theorem gc_row (G : Gd) (t p : Nat) (l : Nat) : (if G t p l = true then 1 else 0) ≤ 1 := by split <;> omega
theorem gc_0 {G : Gd} {a b c d e f : Nat} : gcN G a b c d e f = 0 ↔ ∀ t p l, a ≤ t → t ≤ b → c ≤ p → p ≤ d → e ≤ l → l ≤ f → ¬ G t p l = true := by
  unfold gcN
  constructor
  · intro h t p l h1 h2 h3 h4 h5 h6 q
    have k1 := sm_of0 _ _ h t h1 (by omega)
    have k2 := sm_of0 _ _ k1 p h3 (by omega)
    have k3 := sm_of0 _ _ k2 l h5 (by omega)
    simp [q] at k3
  · intro h
    refine sm_0 _ _ (fun t h1 h2 => sm_0 _ _ (fun p h3 h4 => sm_0 _ _ (fun l h5 h6 => ?_)))
    rw [if_neg (h t p l h1 (by omega) h3 (by omega) h5 (by omega))]
theorem gc_sz {G : Gd} {a b c d e f : Nat} : gcN G a b c d e f = szN a b c d e f ↔ ∀ t p l, a ≤ t → t ≤ b → c ≤ p → p ≤ d → e ≤ l → l ≤ f → G t p l = true := by
  have m3 : ∀ t p, sm (fun l => if G t p l = true then 1 else 0) (f + 1 - e) e ≤ (f + 1 - e) * 1 := fun t p => sm_le (gc_row G t p) _ _
  have m2 : ∀ t, sm (fun p => sm (fun l => if G t p l = true then 1 else 0) (f + 1 - e) e) (d + 1 - c) c ≤ (d + 1 - c) * ((f + 1 - e) * 1) := fun t => sm_le (m3 t) _ _
  unfold gcN szN
  constructor
  · intro h t p l h1 h2 h3 h4 h5 h6
    have k1 := sm_full m2 _ _ (by rw [h, Nat.mul_one, Nat.mul_assoc]) t h1 (by omega)
    have k2 := sm_full (m3 t) _ _ k1 p h3 (by omega)
    have k3 := sm_full (gc_row G t p) _ _ k2 l h5 (by omega)
    by_cases q : G t p l = true
    · exact q
    · rw [if_neg q] at k3; omega
  · intro h
    rw [sm_m (m := (d + 1 - c) * ((f + 1 - e) * 1)) _ _ (fun t h1 h2 => sm_m (m := (f + 1 - e) * 1) _ _ (fun p h3 h4 => sm_m (m := 1) _ _ (fun l h5 h6 => if_pos (h t p l h1 (by omega) h3 (by omega) h5 (by omega))))), Nat.mul_one, Nat.mul_assoc]
/-- where a window lies: from 1 to 9 on each axis, at most six places -/
def LB (L W : Nat → Nat) : Prop := ∀ a, a < 3 → 1 ≤ L a ∧ L a + W a ≤ 9 ∧ W a ≤ 5
theorem zz_ {L W : Nat → Nat} (hL : LB L W) {t p l : Nat} (ht : t ≤ W 0) (hp : p ≤ W 1) (hl : l ≤ W 2) : zz L t p l < 729 ∧ mm_pt (zz L t p l) 0 + 1 = L 0 + t ∧ mm_pt (zz L t p l) 1 + 1 = L 1 + p ∧ mm_pt (zz L t p l) 2 + 1 = L 2 + l := by
  have h0 := hL 0 (by decide)
  have h1 := hL 1 (by decide)
  have h2 := hL 2 (by decide)
  have e0 : mm_pt (zz L t p l) 0 = zz L t p l / 81 := rfl
  have e1 : mm_pt (zz L t p l) 1 = zz L t p l / 9 % 9 := rfl
  have e2 : mm_pt (zz L t p l) 2 = zz L t p l % 9 := rfl
  rw [e0, e1, e2]
  unfold zz
  omega
theorem pt_eq {s z : Nat} (e0 : mm_pt s 0 = mm_pt z 0) (e1 : mm_pt s 1 = mm_pt z 1) (e2 : mm_pt s 2 = mm_pt z 2) : s = z := by
  have a0 : s / 81 = z / 81 := e0
  have a1 : s / 9 % 9 = z / 9 % 9 := e1
  have a2 : s % 9 = z % 9 := e2
  omega
theorem inB_zz {L W : Nat → Nat} (hL : LB L W) {a b c d e f : Nat} (hB : BX W a b c d e f) {s : Nat} : inB (zz L a c e) (zz L b d f) s ↔ ∃ t p l, a ≤ t ∧ t ≤ b ∧ c ≤ p ∧ p ≤ d ∧ e ≤ l ∧ l ≤ f ∧ s = zz L t p l := by
  unfold BX at hB
  have z1 := zz_ hL (t := a) (p := c) (l := e) (by omega) (by omega) (by omega)
  have z2 := zz_ hL (t := b) (p := d) (l := f) (by omega) (by omega) (by omega)
  have h0 := hL 0 (by decide)
  have h1 := hL 1 (by decide)
  have h2 := hL 2 (by decide)
  rw [inB_iff]
  constructor
  · intro h
    have z3 := zz_ hL (t := mm_pt s 0 + 1 - L 0) (p := mm_pt s 1 + 1 - L 1) (l := mm_pt s 2 + 1 - L 2) (by omega) (by omega) (by omega)
    exact ⟨mm_pt s 0 + 1 - L 0, mm_pt s 1 + 1 - L 1, mm_pt s 2 + 1 - L 2, by omega, by omega, by omega, by omega, by omega, by omega, pt_eq (by omega) (by omega) (by omega)⟩
  · rintro ⟨t, p, l, h3, h4, h5, h6, h7, h8, rfl⟩
    have z3 := zz_ hL (t := t) (p := p) (l := l) (by omega) (by omega) (by omega)
    omega
theorem inB_le {f t s : Nat} (h : inB f t s) : f ≤ s ∧ s ≤ t := by
  rw [inB_iff] at h
  have a0 : mm_pt s 0 = s / 81 := rfl
  have a1 : mm_pt s 1 = s / 9 % 9 := rfl
  have a2 : mm_pt s 2 = s % 9 := rfl
  have b0 : mm_pt f 0 = f / 81 := rfl
  have b1 : mm_pt f 1 = f / 9 % 9 := rfl
  have b2 : mm_pt f 2 = f % 9 := rfl
  have c0 : mm_pt t 0 = t / 81 := rfl
  have c1 : mm_pt t 1 = t / 9 % 9 := rfl
  have c2 : mm_pt t 2 = t % 9 := rfl
  omega
/-- the good ones of a box, counted in the order of settings -/
theorem gc_lin {L W : Nat → Nat} (hL : LB L W) {V : Nat → Bool} (F : Nat → Nat) (hF1 : ∀ s, inB (zz L 0 0 0) (zz L (W 0) (W 1) (W 2)) s → F s = if V s = true then 1 else 0) (hF0 : ∀ s, ¬ inB (zz L 0 0 0) (zz L (W 0) (W 1) (W 2)) s → F s = 0) : sm F (zz L (W 0) (W 1) (W 2) + 1 - zz L 0 0 0) (zz L 0 0 0) = gcN (fun t p l => V (zz L t p l)) 0 (W 0) 0 (W 1) 0 (W 2) := by
  have h0 := hL 0 (by decide)
  have h1 := hL 1 (by decide)
  have h2 := hL 2 (by decide)
  have z1 := zz_ hL (t := 0) (p := 0) (l := 0) (by omega) (by omega) (by omega)
  have z2 := zz_ hL (t := W 0) (p := W 1) (l := W 2) (by omega) (by omega) (by omega)
  have hle : zz L 0 0 0 ≤ zz L (W 0) (W 1) (W 2) := by unfold zz; omega
  have e1 : sm F 729 0 = sm F (zz L (W 0) (W 1) (W 2) + 1 - zz L 0 0 0) (zz L 0 0 0) := by
    rw [sm_in (lo := zz L 0 0 0) (n := zz L (W 0) (W 1) (W 2) + 1 - zz L 0 0 0) (by omega) (fun i _ hi => hF0 i (fun q => hi (by have := inB_le q; omega)))]
    have := sm_sh F (zz L 0 0 0) (zz L (W 0) (W 1) (W 2) + 1 - zz L 0 0 0) 0
    rw [Nat.zero_add] at this
    rw [this]
    exact sm_cg _ 0 (fun i _ _ => by rw [Nat.add_comm])
  rw [← e1, show sm F 729 0 = sm F (9 * 81) (9 * 0) from rfl, sm_9, show sm (fun t => sm (fun q => F (9 * t + q)) 9 0) 81 0 = sm (fun t => sm (fun q => F (9 * t + q)) 9 0) (9 * 9) (9 * 0) from rfl, sm_9]
  have pt : ∀ t p q, p < 9 → q < 9 → mm_pt (9 * (9 * t + p) + q) 0 = t ∧ mm_pt (9 * (9 * t + p) + q) 1 = p ∧ mm_pt (9 * (9 * t + p) + q) 2 = q := by
    intro t p q hp hq
    have a0 : mm_pt (9 * (9 * t + p) + q) 0 = (9 * (9 * t + p) + q) / 81 := rfl
    have a1 : mm_pt (9 * (9 * t + p) + q) 1 = (9 * (9 * t + p) + q) / 9 % 9 := rfl
    have a2 : mm_pt (9 * (9 * t + p) + q) 2 = (9 * (9 * t + p) + q) % 9 := rfl
    rw [a0, a1, a2]
    omega
  have inn : ∀ t p q, p < 9 → q < 9 → (inB (zz L 0 0 0) (zz L (W 0) (W 1) (W 2)) (9 * (9 * t + p) + q) ↔ (L 0 - 1 ≤ t ∧ t < L 0 - 1 + (W 0 + 1)) ∧ (L 1 - 1 ≤ p ∧ p < L 1 - 1 + (W 1 + 1)) ∧ (L 2 - 1 ≤ q ∧ q < L 2 - 1 + (W 2 + 1))) := by
    intro t p q hp hq
    rw [inB_iff, (pt t p q hp hq).1, (pt t p q hp hq).2.1, (pt t p q hp hq).2.2]
    omega
  rw [sm_in (lo := L 0 - 1) (n := W 0 + 1) (by omega) (fun t _ ht => sm_0 9 0 (fun p _ hp => sm_0 9 0 (fun q _ hq => hF0 _ (fun k => ht ((inn t p q (by omega) (by omega)).mp k).1))))]
  unfold gcN
  refine sm_cg _ 0 (fun t _ ht => ?_)
  rw [sm_in (f := fun p => sm (fun q => F (9 * (9 * (L 0 - 1 + t) + p) + q)) 9 0) (lo := L 1 - 1) (n := W 1 + 1) (by omega) (fun p hp9 hp => sm_0 9 0 (fun q _ hq => hF0 _ (fun k => hp ((inn _ p q hp9 (by omega)).mp k).2.1)))]
  refine sm_cg _ 0 (fun p _ hp => ?_)
  rw [sm_in (f := fun q => F (9 * (9 * (L 0 - 1 + t) + (L 1 - 1 + p)) + q)) (lo := L 2 - 1) (n := W 2 + 1) (by omega) (fun q hq9 hq => hF0 _ (fun k => hq ((inn _ _ q (by omega) hq9).mp k).2.2))]
  refine sm_cg _ 0 (fun l _ hl => ?_)
  rw [hF1 _ ((inn _ _ _ (by omega) (by omega)).mpr (by omega)), show 9 * (9 * (L 0 - 1 + t) + (L 1 - 1 + p)) + (L 2 - 1 + l) = zz L t p l by unfold zz; omega]
