/-! THE PROVER: the table of boxes -/
/-- the least proof of the box of three stretches -/
def LSx (G : Gd) (t p l : Nat) : Nat × Nat := LV G (sH t - sS t) (sH t) (sH p - sS p) (sH p) (sH l - sS l) (sH l)
def ix (t p l : Nat) : Nat := (t * 21 + p) * 21 + l
def Ok (f : Nat → Int32) (G : Gd) (t p l : Nat) : Prop := f (ix t p l) = nI (enc (LSx G t p l))
theorem LSx_b {G : Gd} {t p l : Nat} (ht : t < 21) (hp : p < 21) (hl : l < 21) : (LSx G t p l).1 ≤ 216 ∧ (LSx G t p l).2 < 32 := by
  have a := st_1 t ht
  have b := st_1 p hp
  have c := st_1 l hl
  refine ⟨LV_216 G (by omega) (by omega) (by omega) (by omega) (by omega) (by omega), ?_⟩
  have := LV_32 G (a := sH t - sS t) (b := sH t) (c := sH p - sS p) (d := sH p) (e := sH l - sS l) (f := sH l) (by omega) (by omega) (by omega) (by omega) (by omega) (by omega)
  unfold LSx
  omega
theorem lr_b {lo up : Nat → Nat × Nat} {base : Nat} : ∀ (n k : Nat) (x : Nat × Nat), x.1 ≤ 1000 → x.2 < 32 → base + (k + n) ≤ 32 → (∀ m, k ≤ m → m < k + n → (lo m).1 ≤ 216 ∧ (lo m).2 < 32 ∧ (up m).1 ≤ 216) → (lr lo up base n k x).1 ≤ 1000 ∧ (lr lo up base n k x).2 < 32
  | 0, _, _, h1, h2, _, _ => ⟨h1, h2⟩
  | n + 1, k, x, h1, h2, hb, hm => by
    have q := hm k (Nat.le_refl k) (by omega)
    rw [lr_S]
    split
    · exact ⟨h1, h2⟩
    · split
      · exact ⟨by omega, q.2.1⟩
      · refine lr_b n (k + 1) _ ?_ (bt_32 h2 (by omega)) (by omega) (fun m k1 k2 => hm m (by omega) (by omega))
        unfold bt
        split
        · dsimp only; omega
        · exact h1
theorem lr_cg {lo up lo' up' : Nat → Nat × Nat} {base : Nat} : ∀ (n k : Nat) (x : Nat × Nat), (∀ m, k ≤ m → m < k + n → lo m = lo' m ∧ up m = up' m) → lr lo up base n k x = lr lo' up' base n k x
  | 0, _, _, _ => rfl
  | n + 1, k, x, h => by
    have q := h k (Nat.le_refl k) (by omega)
    rw [lr_S, lr_S, q.1, q.2, lr_cg n (k + 1) _ (fun m k1 k2 => h m (by omega) (by omega))]
/-- all cells ahead of one are right -/
def FD (f : Nat → Int32) (G : Gd) (T0 P0 L0 t p l : Nat) : Prop := ∀ t' p' l', t' < T0 → p' < P0 → l' < L0 → (t' < t ∨ (t' = t ∧ (p' < p ∨ (p' = p ∧ l' < l)))) → Ok f G t' p' l'
theorem FD.put {f g : Nat → Int32} {G : Gd} {T0 P0 L0 t p l : Nat} (d : FD f G T0 P0 L0 t p l) (hP : P0 ≤ 21) (hL : L0 ≤ 21) (hp : p < P0) (hl : l < L0) (hg : ∀ q, g q = if q = ix t p l then nI (enc (LSx G t p l)) else f q) : FD g G T0 P0 L0 t p (l + 1) := by
  intro t' p' l' h1 h2 h3 h4
  unfold Ok
  rw [hg]
  by_cases e : ix t' p' l' = ix t p l
  · rw [if_pos e]
    have : t' = t ∧ p' = p ∧ l' = l := by unfold ix at e; omega
    rw [this.1, this.2.1, this.2.2]
  · rw [if_neg e]
    refine d t' p' l' h1 h2 h3 ?_
    by_cases q : t' = t ∧ p' = p ∧ l' = l
    · exact absurd (by rw [q.1, q.2.1, q.2.2]) e
    · omega
theorem FD.row {f : Nat → Int32} {G : Gd} {T0 P0 L0 t p : Nat} (d : FD f G T0 P0 L0 t p L0) : FD f G T0 P0 L0 t (p + 1) 0 := fun t' p' l' h1 h2 h3 h4 => d t' p' l' h1 h2 h3 (by omega)
theorem FD.plane {f : Nat → Int32} {G : Gd} {T0 P0 L0 t : Nat} (d : FD f G T0 P0 L0 t P0 0) : FD f G T0 P0 L0 (t + 1) 0 0 := fun t' p' l' h1 h2 h3 h4 => d t' p' l' h1 h2 h3 (by omega)
theorem LSx_1 {G : Gd} {t p l : Nat} (ht : t < 21) (hp : p < 21) (hl : l < 21) (h : sS t + sS p + sS l = 0) : enc (LSx G t p l) = if G (sH t) (sH p) (sH l) = true then 32 else 33 := by
  have a := st_1 t ht
  have b := st_1 p hp
  have c := st_1 l hl
  have hv : LSx G t p l = (1, if G (sH t) (sH p) (sH l) = true then 0 else 1) := by
    unfold LSx
    refine (LV_u (by omega) (by omega) (by omega) (by omega) (by omega) (by omega) (by split <;> omega)).mp (fun x y z h1 h2 h3 h4 h5 h6 => ?_)
    rw [show x = sH t by omega, show y = sH p by omega, show z = sH l by omega]
    by_cases q : G (sH t) (sH p) (sH l) = true
    · simp [q]
    · simp [q]
  rw [hv]
  by_cases q : G (sH t) (sH p) (sH l) = true
  · rw [if_pos q, if_pos q]; rfl
  · rw [if_neg q, if_neg q]; rfl
/-- what is left alone, but for the ints of some rows -/
def Cg (as : List Nat) (h g : mj_H) : Prop := g.1 = h.1 ∧ g.2.1 = h.2.1 ∧ mj_K g = mj_K h ∧ (∀ a, a ∉ as → mj_I g a = mj_I h a) ∧ (∀ a, a ≠ 12 → mj_R g a = mj_R h a) ∧ (∀ i, i ≠ 4 → mj_R g 12 i = mj_R h 12 i) ∧ ∀ a, a < 63 → mj_J g a = mj_J h a
theorem Cg.rf (as : List Nat) (h : mj_H) : Cg as h h := ⟨rfl, rfl, rfl, fun _ _ => rfl, fun _ _ => rfl, fun _ _ => rfl, fun _ _ => rfl⟩
theorem Cg.trans {as : List Nat} {h g k : mj_H} (a : Cg as h g) (b : Cg as g k) : Cg as h k := ⟨b.1.trans a.1, b.2.1.trans a.2.1, b.2.2.1.trans a.2.2.1, fun x hx => (b.2.2.2.1 x hx).trans (a.2.2.2.1 x hx), fun x hx => (b.2.2.2.2.1 x hx).trans (a.2.2.2.2.1 x hx), fun x hx => (b.2.2.2.2.2.1 x hx).trans (a.2.2.2.2.2.1 x hx), fun x hx => (b.2.2.2.2.2.2 x hx).trans (a.2.2.2.2.2.2 x hx)⟩
theorem Cg.mono {as bs : List Nat} {h g : mj_H} (a : Cg as h g) (hs : ∀ x, x ∈ as → x ∈ bs) : Cg bs h g := ⟨a.1, a.2.1, a.2.2.1, fun x hx => a.2.2.2.1 x (fun q => hx (hs x q)), a.2.2.2.2⟩
theorem CE.cg {h g : mj_H} (e : CE h g) : Cg [12, 13, 14, 15, 16] h g := e
theorem CF.cg {h g : mj_H} (e : CF h g) : Cg [12, 13, 14, 15, 16, 17, 18, 19] h g := e
theorem Rw.cg {h g : mj_H} {as : List Nat} (r : Rw h g as) : Cg as h g := ⟨r.1, r.2.1, r.2.2.1, fun a ha => r.i ha, fun a _ => by rw [r.2.2.2.2.1], fun i _ => by rw [r.2.2.2.2.1], fun a _ => by rw [r.2.2.2.1]⟩
theorem Cg.i {as : List Nat} {h g : mj_H} (e : Cg as h g) {a : Nat} (ha : a ∉ as) : mj_I g a = mj_I h a := e.2.2.2.1 a ha
theorem Cg.k {as : List Nat} {h g : mj_H} (e : Cg as h g) (a : Nat) : mj_K g a = mj_K h a := congrFun e.2.2.1 a
theorem Cg.r {as : List Nat} {h g : mj_H} (e : Cg as h g) {a : Nat} (ha : a ≠ 12) : mj_R g a = mj_R h a := e.2.2.2.2.1 a ha
theorem Cg.eA {as : List Nat} {h g : mj_H} (e : Cg as h g) (j : Nat) : jA g j = jA h j := by unfold jA; rw [e.r (by decide)]
theorem Cg.eV {as : List Nat} {h g : mj_H} (e : Cg as h g) (ha : 36 ∉ as) (j z : Nat) : vd g j z = vd h j z := vd_eq (e.i ha) j z
/-- a row of ints of its own is nobody's job -/
theorem Fr_k {h : mj_H} {jm X n : Nat} (c : CJ h jm) (hX : mj_K h X = (12, n)) (hn : n ≠ 9) (h63 : 63 ≤ X) : Fr h jm [X] := by
  intro a ha
  simp only [List.mem_cons, List.not_mem_nil, or_false] at ha
  subst ha
  refine ⟨by omega, by omega, by omega, by omega, fun j hj => ⟨fun q => ?_, fun q => ?_⟩⟩
  · have := (c.2.2.1 j hj).1.1.2.1
    rw [← q, hX] at this
    cases this
  · have := (c.2.2.1 j hj).1.2.1.2.1
    rw [← q, hX] at this
    injection this with _ this
    exact hn this
theorem Fr_o {h : mj_H} {jm A k n : Nat} (c : CJ h jm) (hA : mj_K h A = (k, n)) (hk : k ≠ 3 ∧ k ≠ 12) (h63 : 63 ≤ A) : Fr h jm [A] := by
  intro a ha
  simp only [List.mem_cons, List.not_mem_nil, or_false] at ha
  subst ha
  refine ⟨by omega, by omega, by omega, by omega, fun j hj => ⟨fun q => ?_, fun q => ?_⟩⟩
  · have := (c.2.2.1 j hj).1.1.2.1
    rw [← q, hA] at this
    injection this with this _
    exact hk.1 this
  · have := (c.2.2.1 j hj).1.2.1.2.1
    rw [← q, hA] at this
    injection this with this _
    exact hk.2 this
theorem k_mgV {h : mj_H} {jm : Nat} (c : CJ h jm) {j z A : Nat} (hj : j < jm) (hz : z < 729) (eA : jA h j = A) {V : Nat} (eV : vd h j z = V) : mxc 3 1 [.ref 12, .ref A, .int (nI z)] h (fun r h' => r = some (.int (if V = 0 then 1 else 0)) ∧ CQ h h' jm) := by
  subst eA
  subst eV
  exact k_makesGood c hj hz
set_option maxRecDepth 20000 in
theorem k_leastCut {h : mj_H} (C : SC h) {Pv X : Nat} (hPv : mj_K h Pv = (5, 1)) (hPX : mj_R h Pv 0 = some X) (hX : mj_K h X = (12, 9261)) {G : Gd} {t p l : Nat} (ht : t < 21) (hp : p < 21) (hl : l < 21) (d0 : ∀ t', t' < t → Ok (mj_I h X) G t' p l) (d1 : ∀ p', p' < p → Ok (mj_I h X) G t p' l) (d2 : ∀ l', l' < l → Ok (mj_I h X) G t p l') (hs : ¬ sS t + sS p + sS l = 0) : mxc 1 39 [.ref Pv, .int (nI (ix t p l)), .int (nI t), .int (nI p), .int (nI l)] h (fun r h' => r = some (.int (nI (enc (LSx G t p l)))) ∧ h' = h) := by
  have a1 := st_1 t ht
  have a2 := st_1 p hp
  have a3 := st_1 l hl
  have hc : ix t p l < 9261 := by unfold ix; omega
  have hq0 : ∀ k, k < sS t → (t - (sB (sH t - sS t + k) + k)) * 441 ≤ ix t p l ∧ (k + 1) * 441 ≤ ix t p l ∧ mj_I h X (ix t p l - (t - (sB (sH t - sS t + k) + k)) * 441) = nI (enc ((fun k => LV G (sH t - sS t) (sH t - sS t + k) (sH p - sS p) (sH p) (sH l - sS l) (sH l)) k)) ∧ mj_I h X (ix t p l - (k + 1) * 441) = nI (enc ((fun k => LV G (sH t - sS t + k + 1) (sH t) (sH p - sS p) (sH p) (sH l - sS l) (sH l)) k)) ∧ ((fun k => LV G (sH t - sS t) (sH t - sS t + k) (sH p - sS p) (sH p) (sH l - sS l) (sH l)) k).1 ≤ 216 ∧ ((fun k => LV G (sH t - sS t) (sH t - sS t + k) (sH p - sS p) (sH p) (sH l - sS l) (sH l)) k).2 < 32 ∧ ((fun k => LV G (sH t - sS t + k + 1) (sH t) (sH p - sS p) (sH p) (sH l - sS l) (sH l)) k).1 ≤ 216 ∧ ((fun k => LV G (sH t - sS t + k + 1) (sH t) (sH p - sS p) (sH p) (sH l - sS l) (sH l)) k).2 < 32 := by
    intro k hk
    have s5 := st_5 t ht k hk
    have b1 := LSx_b (G := G) (t := (sB (sH t - sS t + k) + k)) (by omega) hp hl
    have b2 := LSx_b (G := G) (t := t - (k + 1)) (by omega) hp hl
    have o1 := d0 (sB (sH t - sS t + k) + k) (by omega)
    have o2 := d0 (t - (k + 1)) (by omega)
    unfold Ok at o1 o2
    have v1 : LSx G (sB (sH t - sS t + k) + k) p l = (fun k => LV G (sH t - sS t) (sH t - sS t + k) (sH p - sS p) (sH p) (sH l - sS l) (sH l)) k := by
      unfold LSx
      rw [s5.2.1, s5.2.2.1, show sH t - sS t + k - k = sH t - sS t by omega]
    have v2 : LSx G (t - (k + 1)) p l = (fun k => LV G (sH t - sS t + k + 1) (sH t) (sH p - sS p) (sH p) (sH l - sS l) (sH l)) k := by
      unfold LSx
      rw [s5.2.2.2.1, s5.2.2.2.2.1, show sH t - (sS t - (k + 1)) = sH t - sS t + k + 1 by omega]
    rw [v1] at o1 b1
    rw [v2] at o2 b2
    have i1 : ix t p l - (t - (sB (sH t - sS t + k) + k)) * 441 = ix (sB (sH t - sS t + k) + k) p l := by unfold ix; omega
    have i2 : ix t p l - (k + 1) * 441 = ix (t - (k + 1)) p l := by unfold ix; omega
    refine ⟨by unfold ix; omega, by unfold ix; omega, by rw [i1]; exact o1, by rw [i2]; exact o2, b1.1, b1.2, b2.1, b2.2⟩
  have bb0 := lr_b (lo := (fun k => LV G (sH t - sS t) (sH t - sS t + k) (sH p - sS p) (sH p) (sH l - sS l) (sH l))) (up := (fun k => LV G (sH t - sS t + k + 1) (sH t) (sH p - sS p) (sH p) (sH l - sS l) (sH l))) (base := 2) (sS t) 0 (1000, 0) (by decide) (by decide) (by omega) (fun m _ hm => ⟨(hq0 m (by omega)).2.2.2.2.1, (hq0 m (by omega)).2.2.2.2.2.1, (hq0 m (by omega)).2.2.2.2.2.2.1⟩)
  have hq1 : ∀ k, k < sS p → (p - (sB (sH p - sS p + k) + k)) * 21 ≤ ix t p l ∧ (k + 1) * 21 ≤ ix t p l ∧ mj_I h X (ix t p l - (p - (sB (sH p - sS p + k) + k)) * 21) = nI (enc ((fun k => LV G (sH t - sS t) (sH t) (sH p - sS p) (sH p - sS p + k) (sH l - sS l) (sH l)) k)) ∧ mj_I h X (ix t p l - (k + 1) * 21) = nI (enc ((fun k => LV G (sH t - sS t) (sH t) (sH p - sS p + k + 1) (sH p) (sH l - sS l) (sH l)) k)) ∧ ((fun k => LV G (sH t - sS t) (sH t) (sH p - sS p) (sH p - sS p + k) (sH l - sS l) (sH l)) k).1 ≤ 216 ∧ ((fun k => LV G (sH t - sS t) (sH t) (sH p - sS p) (sH p - sS p + k) (sH l - sS l) (sH l)) k).2 < 32 ∧ ((fun k => LV G (sH t - sS t) (sH t) (sH p - sS p + k + 1) (sH p) (sH l - sS l) (sH l)) k).1 ≤ 216 ∧ ((fun k => LV G (sH t - sS t) (sH t) (sH p - sS p + k + 1) (sH p) (sH l - sS l) (sH l)) k).2 < 32 := by
    intro k hk
    have s5 := st_5 p hp k hk
    have b1 := LSx_b (G := G) (p := (sB (sH p - sS p + k) + k)) ht (by omega) hl
    have b2 := LSx_b (G := G) (p := p - (k + 1)) ht (by omega) hl
    have o1 := d1 (sB (sH p - sS p + k) + k) (by omega)
    have o2 := d1 (p - (k + 1)) (by omega)
    unfold Ok at o1 o2
    have v1 : LSx G t (sB (sH p - sS p + k) + k) l = (fun k => LV G (sH t - sS t) (sH t) (sH p - sS p) (sH p - sS p + k) (sH l - sS l) (sH l)) k := by
      unfold LSx
      rw [s5.2.1, s5.2.2.1, show sH p - sS p + k - k = sH p - sS p by omega]
    have v2 : LSx G t (p - (k + 1)) l = (fun k => LV G (sH t - sS t) (sH t) (sH p - sS p + k + 1) (sH p) (sH l - sS l) (sH l)) k := by
      unfold LSx
      rw [s5.2.2.2.1, s5.2.2.2.2.1, show sH p - (sS p - (k + 1)) = sH p - sS p + k + 1 by omega]
    rw [v1] at o1 b1
    rw [v2] at o2 b2
    have i1 : ix t p l - (p - (sB (sH p - sS p + k) + k)) * 21 = ix t (sB (sH p - sS p + k) + k) l := by unfold ix; omega
    have i2 : ix t p l - (k + 1) * 21 = ix t (p - (k + 1)) l := by unfold ix; omega
    refine ⟨by unfold ix; omega, by unfold ix; omega, by rw [i1]; exact o1, by rw [i2]; exact o2, b1.1, b1.2, b2.1, b2.2⟩
  have bb1 := lr_b (lo := (fun k => LV G (sH t - sS t) (sH t) (sH p - sS p) (sH p - sS p + k) (sH l - sS l) (sH l))) (up := (fun k => LV G (sH t - sS t) (sH t) (sH p - sS p + k + 1) (sH p) (sH l - sS l) (sH l))) (base := 10) (sS p) 0 (lr (fun k => LV G (sH t - sS t) (sH t - sS t + k) (sH p - sS p) (sH p) (sH l - sS l) (sH l)) (fun k => LV G (sH t - sS t + k + 1) (sH t) (sH p - sS p) (sH p) (sH l - sS l) (sH l)) 2 (sS t) 0 (1000, 0)) bb0.1 bb0.2 (by omega) (fun m _ hm => ⟨(hq1 m (by omega)).2.2.2.2.1, (hq1 m (by omega)).2.2.2.2.2.1, (hq1 m (by omega)).2.2.2.2.2.2.1⟩)
  have hq2 : ∀ k, k < sS l → (l - (sB (sH l - sS l + k) + k)) * 1 ≤ ix t p l ∧ (k + 1) * 1 ≤ ix t p l ∧ mj_I h X (ix t p l - (l - (sB (sH l - sS l + k) + k)) * 1) = nI (enc ((fun k => LV G (sH t - sS t) (sH t) (sH p - sS p) (sH p) (sH l - sS l) (sH l - sS l + k)) k)) ∧ mj_I h X (ix t p l - (k + 1) * 1) = nI (enc ((fun k => LV G (sH t - sS t) (sH t) (sH p - sS p) (sH p) (sH l - sS l + k + 1) (sH l)) k)) ∧ ((fun k => LV G (sH t - sS t) (sH t) (sH p - sS p) (sH p) (sH l - sS l) (sH l - sS l + k)) k).1 ≤ 216 ∧ ((fun k => LV G (sH t - sS t) (sH t) (sH p - sS p) (sH p) (sH l - sS l) (sH l - sS l + k)) k).2 < 32 ∧ ((fun k => LV G (sH t - sS t) (sH t) (sH p - sS p) (sH p) (sH l - sS l + k + 1) (sH l)) k).1 ≤ 216 ∧ ((fun k => LV G (sH t - sS t) (sH t) (sH p - sS p) (sH p) (sH l - sS l + k + 1) (sH l)) k).2 < 32 := by
    intro k hk
    have s5 := st_5 l hl k hk
    have b1 := LSx_b (G := G) (l := (sB (sH l - sS l + k) + k)) ht hp (by omega)
    have b2 := LSx_b (G := G) (l := l - (k + 1)) ht hp (by omega)
    have o1 := d2 (sB (sH l - sS l + k) + k) (by omega)
    have o2 := d2 (l - (k + 1)) (by omega)
    unfold Ok at o1 o2
    have v1 : LSx G t p (sB (sH l - sS l + k) + k) = (fun k => LV G (sH t - sS t) (sH t) (sH p - sS p) (sH p) (sH l - sS l) (sH l - sS l + k)) k := by
      unfold LSx
      rw [s5.2.1, s5.2.2.1, show sH l - sS l + k - k = sH l - sS l by omega]
    have v2 : LSx G t p (l - (k + 1)) = (fun k => LV G (sH t - sS t) (sH t) (sH p - sS p) (sH p) (sH l - sS l + k + 1) (sH l)) k := by
      unfold LSx
      rw [s5.2.2.2.1, s5.2.2.2.2.1, show sH l - (sS l - (k + 1)) = sH l - sS l + k + 1 by omega]
    rw [v1] at o1 b1
    rw [v2] at o2 b2
    have i1 : ix t p l - (l - (sB (sH l - sS l + k) + k)) * 1 = ix t p (sB (sH l - sS l + k) + k) := by unfold ix; omega
    have i2 : ix t p l - (k + 1) * 1 = ix t p (l - (k + 1)) := by unfold ix; omega
    refine ⟨by unfold ix; omega, by unfold ix; omega, by rw [i1]; exact o1, by rw [i2]; exact o2, b1.1, b1.2, b2.1, b2.2⟩
  show mx 1 39 0 [.ref Pv, .int (nI (ix t p l)), .int (nI t), .int (nI p), .int (nI l), mj_unset] [] h _
  refine x_aload_n f_39_0 rfl ?_
  refine x_iconst (v := nI 0) f_39_1 (by decide) ?_
  refine x_iload_n f_39_2 rfl ?_
  refine x_iload_n f_39_3 rfl ?_
  refine x_sipush (v := nI 32000) f_39_4 (by decide) ?_
  refine x_callVe f_39_7 (k_leastOn0 C hPv hPX hX (t := t) ht hc hq0 (x := (1000, 0)) (by decide) (by decide) (by decide)) (by omega) hPv (by decide) rfl rfl (Nat.le_of_ble_eq_true rfl) rfl ?_
  refine x_istore (ls1 := [.ref Pv, .int (nI (ix t p l)), .int (nI t), .int (nI p), .int (nI l), .int (nI (enc (lr (fun k => LV G (sH t - sS t) (sH t - sS t + k) (sH p - sS p) (sH p) (sH l - sS l) (sH l)) (fun k => LV G (sH t - sS t + k + 1) (sH t) (sH p - sS p) (sH p) (sH l - sS l) (sH l)) 2 (sS t) 0 (1000, 0))))]) f_39_10 (Nat.le_of_ble_eq_true rfl) rfl ?_
  refine x_aload_n f_39_12 rfl ?_
  refine x_iconst (v := nI 1) f_39_13 (by decide) ?_
  refine x_iload_n f_39_14 rfl ?_
  refine x_iload_n f_39_15 rfl ?_
  refine x_iload f_39_16 rfl ?_
  refine x_callVe f_39_18 (k_leastOn1 C hPv hPX hX (t := p) hp hc hq1 (x := (lr (fun k => LV G (sH t - sS t) (sH t - sS t + k) (sH p - sS p) (sH p) (sH l - sS l) (sH l)) (fun k => LV G (sH t - sS t + k + 1) (sH t) (sH p - sS p) (sH p) (sH l - sS l) (sH l)) 2 (sS t) 0 (1000, 0))) rfl bb0.1 bb0.2) (by omega) hPv (by decide) rfl rfl (Nat.le_of_ble_eq_true rfl) rfl ?_
  refine x_istore (ls1 := [.ref Pv, .int (nI (ix t p l)), .int (nI t), .int (nI p), .int (nI l), .int (nI (enc (lr (fun k => LV G (sH t - sS t) (sH t) (sH p - sS p) (sH p - sS p + k) (sH l - sS l) (sH l)) (fun k => LV G (sH t - sS t) (sH t) (sH p - sS p + k + 1) (sH p) (sH l - sS l) (sH l)) 10 (sS p) 0 (lr (fun k => LV G (sH t - sS t) (sH t - sS t + k) (sH p - sS p) (sH p) (sH l - sS l) (sH l)) (fun k => LV G (sH t - sS t + k + 1) (sH t) (sH p - sS p) (sH p) (sH l - sS l) (sH l)) 2 (sS t) 0 (1000, 0)))))]) f_39_21 (Nat.le_of_ble_eq_true rfl) rfl ?_
  refine x_aload_n f_39_23 rfl ?_
  refine x_iconst (v := nI 2) f_39_24 (by decide) ?_
  refine x_iload_n f_39_25 rfl ?_
  refine x_iload f_39_26 rfl ?_
  refine x_iload f_39_28 rfl ?_
  refine x_callVe f_39_30 (k_leastOn2 C hPv hPX hX (t := l) hl hc hq2 (x := (lr (fun k => LV G (sH t - sS t) (sH t) (sH p - sS p) (sH p - sS p + k) (sH l - sS l) (sH l)) (fun k => LV G (sH t - sS t) (sH t) (sH p - sS p + k + 1) (sH p) (sH l - sS l) (sH l)) 10 (sS p) 0 (lr (fun k => LV G (sH t - sS t) (sH t - sS t + k) (sH p - sS p) (sH p) (sH l - sS l) (sH l)) (fun k => LV G (sH t - sS t + k + 1) (sH t) (sH p - sS p) (sH p) (sH l - sS l) (sH l)) 2 (sS t) 0 (1000, 0)))) rfl bb1.1 bb1.2) (by omega) hPv (by decide) rfl rfl (Nat.le_of_ble_eq_true rfl) rfl ?_
  refine x_retI f_39_33 rfl ?_
  refine ⟨?_, rfl⟩
  have e := l3_eq G (a := sH t - sS t) (b := sH t) (c := sH p - sS p) (d := sH p) (e := sH l - sS l) (f := sH l) (by omega) (by omega) (by omega) (by omega) (by omega) (by omega) (by unfold spn; omega)
  unfold LSx
  rw [← e]
  unfold l3
  rw [show sH t - (sH t - sS t) = sS t by omega, show sH p - (sH p - sS p) = sS p by omega, show sH l - (sH l - sS l) = sS l by omega]
