/-! THINGS MADE ANEW, and what stays -/
/-- what a call leaves alone of what was there before it: all but the ints of some rows and some references -/
def EF (is : List Nat) (rs : List (Nat × Nat)) (h g : mj_H) : Prop := h.1 ≤ g.1 ∧ (∀ a, a < h.1 → mj_K g a = mj_K h a) ∧ (∀ a, a < h.1 → a ∉ is → mj_I g a = mj_I h a) ∧ (∀ a, a < h.1 → ∀ i, (a, i) ∉ rs → mj_R g a i = mj_R h a i) ∧ ∀ a, a < 63 → a < h.1 → mj_J g a = mj_J h a
theorem EF.rf (is : List Nat) (rs : List (Nat × Nat)) (h : mj_H) : EF is rs h h := ⟨Nat.le_refl _, fun _ _ => rfl, fun _ _ _ => rfl, fun _ _ _ _ => rfl, fun _ _ _ => rfl⟩
theorem EF.trans {is : List Nat} {rs : List (Nat × Nat)} {h g k : mj_H} (a : EF is rs h g) (b : EF is rs g k) : EF is rs h k :=
  ⟨Nat.le_trans a.1 b.1, fun x hx => (b.2.1 x (Nat.lt_of_lt_of_le hx a.1)).trans (a.2.1 x hx), fun x hx hn => (b.2.2.1 x (Nat.lt_of_lt_of_le hx a.1) hn).trans (a.2.2.1 x hx hn), fun x hx i hn => (b.2.2.2.1 x (Nat.lt_of_lt_of_le hx a.1) i hn).trans (a.2.2.2.1 x hx i hn), fun x h6 hx => (b.2.2.2.2 x h6 (Nat.lt_of_lt_of_le hx a.1)).trans (a.2.2.2.2 x h6 hx)⟩
theorem EF.mono {is js : List Nat} {rs ss : List (Nat × Nat)} {h g : mj_H} (a : EF is rs h g) (h1 : ∀ x, x < h.1 → x ∈ is → x ∈ js) (h2 : ∀ x, x.1 < h.1 → x ∈ rs → x ∈ ss) : EF js ss h g :=
  ⟨a.1, a.2.1, fun x hx hn => a.2.2.1 x hx (fun q => hn (h1 x hx q)), fun x hx i hn => a.2.2.2.1 x hx i (fun q => hn (h2 (x, i) hx q)), a.2.2.2.2⟩
theorem Cg.ef {as : List Nat} {h g : mj_H} (e : Cg as h g) : EF as [(12, 4)] h g :=
  ⟨Nat.le_of_eq e.1.symm, fun a _ => e.k a, fun a _ hn => e.i hn, fun a _ i hn => by
    by_cases q : a = 12
    · subst q; exact e.2.2.2.2.2.1 i (fun z => hn (by rw [z]; simp))
    · rw [e.r q], fun a h6 _ => e.2.2.2.2.2.2 a h6⟩
theorem Rw.ef {as : List Nat} {h g : mj_H} (r : Rw h g as) (rs : List (Nat × Nat)) : EF as rs h g := ⟨Nat.le_of_eq r.1.symm, fun a _ => by rw [r.2.2.1], fun a _ hn => r.i hn, fun a _ i _ => by rw [r.2.2.2.2.1], fun a _ _ => by rw [r.2.2.2.1]⟩
theorem new_ef (is : List Nat) (rs : List (Nat × Nat)) (h : mj_H) (k n : Nat) : EF is rs h (mj_new h k n) := ⟨Nat.le_succ _, fun a ha => mj_K_new (by omega), fun a ha _ => mj_I_new (by omega), fun a ha i _ => by rw [mj_R_new (by omega)], fun a _ ha => mj_J_new (by omega)⟩
theorem setR_ef {is : List Nat} {rs : List (Nat × Nat)} (h : mj_H) {a i : Nat} {x : Option Nat} (hm : (a, i) ∈ rs ∨ h.1 ≤ a) : EF is rs h (mj_setR h a i x) := ⟨Nat.le_refl _, fun _ _ => rfl, fun _ _ _ => rfl, fun b hb j hn => by
    rw [mj_R_set]
    by_cases q : b = a
    · rw [if_pos q]
      by_cases q2 : j = i
      · rcases hm with hm | hm
        · exact absurd (by rw [q, q2]; exact hm) hn
        · omega
      · rw [if_neg q2]
    · rw [if_neg q], fun _ _ _ => rfl⟩
theorem row17 : ∀ a ∈ [13, 14, 15, 16], a < 17 := by decide
theorem ccR33 : ∀ e ∈ cc_R, e.1 < 33 := by decide
/-- only new things are made -/
def Nw (h g : mj_H) : Prop := h.1 ≤ g.1 ∧ (∀ a, a < h.1 → mj_K g a = mj_K h a) ∧ (∀ a, a < h.1 → mj_I g a = mj_I h a) ∧ (∀ a, a < h.1 → mj_J g a = mj_J h a) ∧ ∀ a, a < h.1 → a ≠ 8 → a ≠ 9 → a ≠ 11 → a ≠ 23 → a ≠ 28 → mj_K h a ≠ (9, 7) → mj_R g a = mj_R h a
theorem CJ_nw {h g : mj_H} {jm : Nat} (c : CJ h jm) (n : Nw h g) (h63 : 63 ≤ h.1) (hC : SC g) : CJ g jm := by
  obtain ⟨n1, nK, nI', nJ, nR⟩ := n
  obtain ⟨c1, c2, c3, c4, c5, c6⟩ := c
  have r10 : mj_R g 10 = mj_R h 10 := nR 10 (by omega) (by decide) (by decide) (by decide) (by decide) (by decide) (by rw [c1.k10]; decide)
  have r12 : mj_R g 12 = mj_R h 12 := nR 12 (by omega) (by decide) (by decide) (by decide) (by decide) (by decide) (by rw [c1.k12]; decide)
  have eA : ∀ j, jA g j = jA h j := fun j => by unfold jA; rw [r10]
  have eR : ∀ j, j < jm → mj_R g (jA h j) = mj_R h (jA h j) := fun j hj => by
    have hc := (c3 j hj).1.1
    exact nR _ hc.2.2.2 (by omega) (by omega) (by omega) (by omega) (by omega) (by rw [hc.2.1]; decide)
  have eU : ∀ j, j < jm → jU g j = jU h j := fun j hj => by unfold jU; rw [eA, eR j hj]
  have eD : ∀ j, j < jm → jD g j = jD h j := fun j hj => by unfold jD; rw [eA, eR j hj]
  have eF : ∀ j, j < jm → jF g j = jF h j := fun j hj => by unfold jF; rw [eA, eR j hj]
  have i36 : mj_I g 36 = mj_I h 36 := nI' 36 (by omega)
  have eM : mM g = mM h := by funext j; unfold mM; rw [i36]
  have eG : rgs g = rgs h := by funext j; unfold rgs; rw [i36]
  have eV : ∀ j z, vd g j z = vd h j z := fun j z => vd_eq i36 j z
  have lD : ∀ j, j < jm → ∀ z, lb g (jD h j) z = lb h (jD h j) z := fun j hj z => by unfold lb; rw [nJ _ (c3 j hj).1.2.2.1.2.2.2]
  have lF : ∀ j, j < jm → ∀ z, lb g (jF h j) z = lb h (jF h j) z := fun j hj z => by unfold lb; rw [nJ _ (c3 j hj).1.2.2.2.1.2.2.2]
  have eT : cT g = cT h := by unfold cT; rw [nI' 13 (by omega), nI' 14 (by omega), nI' 15 (by omega), nI' 16 (by omega)]
  refine ⟨hC, fun a ha => by rw [nI' a (Nat.lt_of_lt_of_le (row17 a ha) (by omega))]; exact c2 a ha, fun j hj => ⟨?_, (c3 j hj).2.to i36⟩, fun i j hi hj => ?_, fun j hj z hz => ?_, ?_⟩
  · have hc := (c3 j hj).1
    unfold JC
    rw [eA, eU j hj, eD j hj, eF j hj, eM, r10, eR j hj, nK _ hc.1.2.2.2, nK _ hc.2.1.2.2.2, nK _ hc.2.2.1.2.2.2, nK _ hc.2.2.2.1.2.2.2, nI' _ hc.2.1.2.2.2, nI' _ hc.1.2.2.2, i36, nI' 37 (by omega), nI' 38 (by omega)]
    exact ⟨⟨hc.1.1, hc.1.2.1, hc.1.2.2.1, by have := hc.1.2.2.2; omega⟩, ⟨hc.2.1.1, hc.2.1.2.1, hc.2.1.2.2.1, by have := hc.2.1.2.2.2; omega⟩, ⟨hc.2.2.1.1, hc.2.2.1.2.1, hc.2.2.1.2.2.1, by have := hc.2.2.1.2.2.2; omega⟩, ⟨hc.2.2.2.1.1, hc.2.2.2.1.2.1, hc.2.2.2.1.2.2.1, by have := hc.2.2.2.1.2.2.2; omega⟩, hc.2.2.2.2⟩
  · rw [eA, eA, eD i hi, eD j hj, eF i hi, eF j hj]
    exact c4 i j hi hj
  · rw [eF j hj, eD j hj, lF j hj, lD j hj, eV]
    exact c5 j hj z hz
  · unfold BN at c6 ⊢
    rw [r12]
    rcases c6 with q | ⟨j, z, hj, hz, hs, hb⟩
    · exact Or.inl q
    · refine Or.inr ⟨j, z, hj, hz, by rw [eA]; exact hs, ?_⟩
      unfold BR at hb ⊢
      rw [eT, eM, eG, eD j hj, lD j hj, nI' 12 (by omega)]
      exact hb
theorem new_nw (h : mj_H) (k n : Nat) : Nw h (mj_new h k n) := ⟨Nat.le_succ _, fun a ha => mj_K_new (by omega), fun a ha => mj_I_new (by omega), fun a ha => mj_J_new (by omega), fun a ha _ _ _ _ _ _ => mj_R_new (by omega)⟩
theorem Nw.setR {h g : mj_H} (n : Nw h g) {a i : Nat} {x : Option Nat} (hm : a = 8 ∨ a = 9 ∨ a = 11 ∨ a = 23 ∨ a = 28 ∨ mj_K h a = (9, 7) ∨ h.1 ≤ a) : Nw h (mj_setR g a i x) := ⟨n.1, n.2.1, n.2.2.1, n.2.2.2.1, fun b hb h1 h2 h3 h4 h5 h6 => by
    have : b ≠ a := fun q => by
      subst q
      rcases hm with q | q | q | q | q | q | q <;> first | omega | exact h6 q
    exact (mj_R_other this).trans (n.2.2.2.2 b hb h1 h2 h3 h4 h5 h6)⟩
theorem Nw.new {h g : mj_H} (n : Nw h g) (k m : Nat) : Nw h (mj_new g k m) := ⟨Nat.le_succ_of_le n.1, fun a ha => (mj_K_new (by have := n.1; omega)).trans (n.2.1 a ha), fun a ha => (mj_I_new (by have := n.1; omega)).trans (n.2.2.1 a ha), fun a ha => (mj_J_new (by have := n.1; omega)).trans (n.2.2.2.1 a ha), fun a ha h1 h2 h3 h4 h5 h6 => (mj_R_new (by have := n.1; omega)).trans (n.2.2.2.2 a ha h1 h2 h3 h4 h5 h6)⟩
theorem Nw.setI {h g : mj_H} (n : Nw h g) {a i : Nat} {x : Int32} (ha : h.1 ≤ a) : Nw h (mj_setI g a i x) := ⟨n.1, n.2.1, fun b hb => (mj_I_other (by omega)).trans (n.2.2.1 b hb), n.2.2.2.1, n.2.2.2.2⟩
theorem SC_setR {h : mj_H} (C : SC h) {a i : Nat} {x : Option Nat} (hn : ∀ e ∈ cc_R, ¬ (e.1 = a ∧ e.2.1 = i)) : SC (mj_setR h a i x) := C.to (fun _ _ => rfl) (fun e he => by
    rw [mj_R_set]
    by_cases q : e.1 = a
    · rw [if_pos q, if_neg (fun z => hn e he ⟨q, z⟩)]
    · rw [if_neg q]) (fun _ _ => rfl)
theorem SC_setRd {h : mj_H} (C : SC h) {a i : Nat} {x : Option Nat} (ha : 33 ≤ a) : SC (mj_setR h a i x) := SC_setR C (fun e he q => absurd (ccR33 e he) (by rw [q.1]; omega))
