/-! THE PROVER: the greatest good box, found -/
theorem good32 {G : Gd} {t p l : Nat} (ht : t < 21) (hp : p < 21) (hl : l < 21) : enc (LSx G t p l) = 32 ↔ gcN G (sH t - sS t) (sH t) (sH p - sS p) (sH p) (sH l - sS l) (sH l) = szN (sH t - sS t) (sH t) (sH p - sS p) (sH p) (sH l - sS l) (sH l) := by
  have a1 := st_1 t ht
  have a2 := st_1 p hp
  have a3 := st_1 l hl
  have hb := LSx_b (G := G) ht hp hl
  have hu := LV_u (G := G) (v := 0) (a := sH t - sS t) (b := sH t) (c := sH p - sS p) (d := sH p) (e := sH l - sS l) (f := sH l) (by omega) (by omega) (by omega) (by omega) (by omega) (by omega) (by decide)
  rw [gc_sz]
  constructor
  · intro q
    have e : LSx G t p l = (1, 0) := enc_inj hb.2 (by decide) q
    intro x y z k1 k2 k3 k4 k5 k6
    exact (hu.mpr e x y z k1 k2 k3 k4 k5 k6).mpr rfl
  · intro q
    have e : LSx G t p l = (1, 0) := hu.mp (fun x y z k1 k2 k3 k4 k5 k6 => ⟨fun _ => rfl, fun _ => q x y z k1 k2 k3 k4 k5 k6⟩)
    rw [e]; rfl
/-- what has been weighed so far -/
def GS (h g : mj_H) (w : Nat) (x : Nat × Nat × Nat) (t p l : Nat) : Prop := SC g ∧ Rw h g [wA h w] ∧ (∀ q, ¬ q = 4 → ¬ q = 5 → ¬ q = 6 → mj_I g (wA h w) q = mj_I h (wA h w) q) ∧ BSw g (wA h w) x ∧ Bs (wg h w) (wlo h w) (Wd h w) x ∧ ∀ t' p' l', t' < sB (Wd h w 0 + 1) → p' < sB (Wd h w 1 + 1) → l' < sB (Wd h w 2 + 1) → (t' < t ∨ (t' = t ∧ (p' < p ∨ (p' = p ∧ l' < l)))) → enc (LSx (wg h w) t' p' l') = 32 → kle (kb (wlo h w) t' p' l') x
theorem GS.skip {h g : mj_H} {w t p l : Nat} {x : Nat × Nat × Nat} (s : GS h g w x t p l) (hn : ¬ enc (LSx (wg h w) t p l) = 32) : GS h g w x t p (l + 1) :=
  ⟨s.1, s.2.1, s.2.2.1, s.2.2.2.1, s.2.2.2.2.1, fun t' p' l' h1 h2 h3 h4 h5 => by
    by_cases q : t' = t ∧ p' = p ∧ l' = l
    · rw [q.1, q.2.1, q.2.2] at h5; exact absurd h5 hn
    · exact s.2.2.2.2.2 t' p' l' h1 h2 h3 (by omega) h5⟩
theorem GS.row {h g : mj_H} {w t p : Nat} {x : Nat × Nat × Nat} (s : GS h g w x t p (sB (Wd h w 2 + 1))) : GS h g w x t (p + 1) 0 := ⟨s.1, s.2.1, s.2.2.1, s.2.2.2.1, s.2.2.2.2.1, fun t' p' l' h1 h2 h3 h4 => s.2.2.2.2.2 t' p' l' h1 h2 h3 (by omega)⟩
theorem GS.plane {h g : mj_H} {w t : Nat} {x : Nat × Nat × Nat} (s : GS h g w x t (sB (Wd h w 1 + 1)) 0) : GS h g w x (t + 1) 0 0 := ⟨s.1, s.2.1, s.2.2.1, s.2.2.2.1, s.2.2.2.2.1, fun t' p' l' h1 h2 h3 h4 => s.2.2.2.2.2 t' p' l' h1 h2 h3 (by omega)⟩
theorem GS.fin {h g : mj_H} {w jm : Nat} {x : Nat × Nat × Nat} (hN : WN h w jm) (s : GS h g w x (sB (Wd h w 0 + 1)) 0 0) : GB (wg h w) (wlo h w) (Wd h w) x := by
  refine ⟨s.2.2.2.2.1, fun a b c d e f hB hg => ?_⟩
  have hL := hN.lb
  have b0 := hL 0 (by decide)
  have b1 := hL 1 (by decide)
  have b2 := hL 2 (by decide)
  unfold BX at hB
  have s1 := st_2 b (by omega) a (by omega)
  have s2 := st_2 d (by omega) c (by omega)
  have s3 := st_2 f (by omega) e (by omega)
  have r1 := st_4 (Wd h w 0 + 1) (by omega) b (by omega) a (by omega)
  have r2 := st_4 (Wd h w 1 + 1) (by omega) d (by omega) c (by omega)
  have r3 := st_4 (Wd h w 2 + 1) (by omega) f (by omega) e (by omega)
  have k := s.2.2.2.2.2 _ _ _ r1 r2 r3 (Or.inl r1) ((good32 s1.1 s2.1 s3.1).mpr (by rw [s1.2.1, s1.2.2, s2.2.1, s2.2.2, s3.2.1, s3.2.2, show b - (b - a) = a by omega, show d - (d - c) = c by omega, show f - (f - e) = e by omega]; exact hg))
  unfold kb at k
  rw [s1.2.1, s1.2.2, s2.2.1, s2.2.2, s3.2.1, s3.2.2, show b - (b - a) = a by omega, show d - (d - c) = c by omega, show f - (f - e) = e by omega] at k
  exact k
set_option maxRecDepth 20000 in
theorem kgr_l {h : mj_H} {jm w : Nat} (hw : WC h w jm) {Pv X : Nat} (hPv0 : mj_K h Pv = (5, 1)) (hPX0 : mj_R h Pv 0 = some X) (hX0 : mj_K h X = (12, 9261)) (h63X : 63 ≤ X) (h63P : 63 ≤ Pv) (hD : FD (mj_I h X) (wg h w) (sB (Wd h w 0 + 1)) (sB (Wd h w 1 + 1)) (sB (Wd h w 2 + 1)) (sB (Wd h w 0 + 1)) 0 0) {t p : Nat} (htT : t < sB (Wd h w 0 + 1)) (hpP : p < sB (Wd h w 1 + 1)) {Q : Option Value → mj_H → Prop}
  (K : ∀ (g : mj_H) (x : Nat × Nat × Nat) (v7 : Value), GS h g w x t p (sB (Wd h w 2 + 1)) → mx 2 42 82 [.ref Pv, .ref (wA h w), .int (nI (sB (Wd h w 0 + 1))), .int (nI (sB (Wd h w 1 + 1))), .int (nI (sB (Wd h w 2 + 1))), .int (nI t), .int (nI p), v7] [] g Q) :
  ∀ (n l : Nat) (g : mj_H) (x : Nat × Nat × Nat), l + n = sB (Wd h w 2 + 1) → GS h g w x t p l → mx 2 42 40 [.ref Pv, .ref (wA h w), .int (nI (sB (Wd h w 0 + 1))), .int (nI (sB (Wd h w 1 + 1))), .int (nI (sB (Wd h w 2 + 1))), .int (nI t), .int (nI p), .int (nI l)] [] g Q := by
  have hN := hw.2.2.2.2
  have hL := hN.lb
  have h63 := hw.1.2.2.1
  have b0 := hL 0 (by decide)
  have b1 := hL 1 (by decide)
  have b2 := hL 2 (by decide)
  have hP12 : Pv ≠ 12 := by omega
  have hwX : wA h w ∉ [X, 12, 13, 14, 15, 16] := by
    intro q
    simp only [List.mem_cons, List.not_mem_nil, or_false] at q
    have hne : wA h w ≠ X := fun z => by have := hw.1.2.1; rw [z, hX0] at this; cases this
    omega
  have h36 : 36 ∉ [X, 12, 13, 14, 15, 16] := by
    intro q
    simp only [List.mem_cons, List.not_mem_nil, or_false] at q
    omega
  have l1 := sB_le (Wd h w 1 + 1) (by omega)
  have l2 := sB_le (Wd h w 2 + 1) (by omega)
  have l0 := sB_le (Wd h w 0 + 1) (by omega)
  have ht : t < 21 := by omega
  have hp : p < 21 := by omega
  have ht3 : sH t ≤ Wd h w 0 := by have := (st_3 (Wd h w 0 + 1) (by omega) t htT).1; omega
  have hp3 : sH p ≤ Wd h w 1 := by have := (st_3 (Wd h w 1 + 1) (by omega) p hpP).1; omega
  intro n
  induction n with
  | zero =>
    intro l g x hl0 hS
    refine x_iload f_42_40 rfl ?_
    refine x_iload f_42_42 rfl ?_
    refine x_icmpN_ge (t := 82) f_42_44 (by decide) (by omega) (by omega) (fun c_1 => ?_) (fun c_1 => by omega)
    obtain rfl : l = sB (Wd h w 2 + 1) := by omega
    exact K g x _ hS
  | succ n ih =>
    intro l g x hl0 hS
    have hl : l < 21 := by omega
    have hlL : l < sB (Wd h w 2 + 1) := by omega
    have hl3 : sH l ≤ Wd h w 2 := by have := (st_3 (Wd h w 2 + 1) (by omega) l hlL).1; omega
    have hix : ix t p l < 9261 := by unfold ix; omega
    have hXw : X ∉ [wA h w] := fun q => hwX (by simp only [List.mem_cons, List.not_mem_nil, or_false] at q; rw [← q]; simp)
    have ecell : mj_I g X (ix t p l) = nI (enc (LSx (wg h w) t p l)) := (congrFun (hS.2.1.i hXw) _).trans (hD t p l htT hpP hlL (Or.inl htT))
    have hPv := (congrFun hS.2.1.2.2.1 Pv).trans hPv0
    have hX := (congrFun hS.2.1.2.2.1 X).trans hX0
    have hPX : mj_R g Pv 0 = some X := by rw [hS.2.1.2.2.2.2.1]; exact hPX0
    have kw := (congrFun hS.2.1.2.2.1 (wA h w)).trans hw.1.2.1
    have iw1 := (hS.2.2.1 1 (by decide) (by decide) (by decide)).trans hw.2.2.1
    have wstep : ∀ {g1 : mj_H}, Rw g g1 [wA h w] → (∀ q, ¬ q = 4 → ¬ q = 5 → ¬ q = 6 → mj_I g1 (wA h w) q = mj_I g (wA h w) q) → ∀ x', BSw g1 (wA h w) x' → (x' = x ∨ x' = kb (wlo h w) t p l) → (∀ y, kle y x → kle y x') → kle (kb (wlo h w) t p l) x' → enc (LSx (wg h w) t p l) = 32 → GS h g1 w x' t p (l + 1) := by
      intro g1 r1 f1 x' hx h1 h2 h3 h32
      refine ⟨r1.sc hS.1 (fun a ha q => by simp only [List.mem_cons, List.not_mem_nil, or_false] at q; omega), hS.2.1.trans r1, fun q k4 k5 k6 => (f1 q k4 k5 k6).trans (hS.2.2.1 q k4 k5 k6), hx, ?_, fun t' p' l' k1 k2 k3 k4 k5 => ?_⟩
      · rcases h1 with e | e
        · rw [e]; exact hS.2.2.2.2.1
        · refine Or.inr ⟨sH t - sS t, sH t, sH p - sS p, sH p, sH l - sS l, sH l, ⟨by omega, by omega, by omega, by omega, by omega, by omega⟩, (good32 ht hp hl).mp h32, e.symm⟩
      · by_cases q : t' = t ∧ p' = p ∧ l' = l
        · rw [q.1, q.2.1, q.2.2]; exact h3
        · exact h2 _ (hS.2.2.2.2.2 t' p' l' k1 k2 k3 (by omega) k5)
    refine x_iload f_42_40 rfl ?_
    refine x_iload f_42_42 rfl ?_
    refine x_icmpN_ge (t := 82) f_42_44 (by decide) (by have := LSx_b (G := wg h w) ht hp hl; have de : enc (LSx (wg h w) t p l) = 32 * (LSx (wg h w) t p l).1 + (LSx (wg h w) t p l).2 := rfl; omega) (by have := LSx_b (G := wg h w) ht hp hl; have de : enc (LSx (wg h w) t p l) = 32 * (LSx (wg h w) t p l).1 + (LSx (wg h w) t p l).2 := rfl; omega) (fun c_1 => by omega) (fun c_1 => ?_)
    refine x_aload_n f_42_47 rfl ?_
    refine x_getR f_42_48 hPv (by decide) hPX ?_
    refine x_iload f_42_51 rfl ?_
    refine x_iload f_42_53 rfl ?_
    refine x_iload f_42_55 rfl ?_
    refine x_callSe f_42_57 (k_cellOf _ _ _ _) (by omega) rfl rfl rfl (Nat.le_of_ble_eq_true rfl) rfl ?_
    refine x_iald (j := (ix t p l)) f_42_60 hX hix (by decide) ?_
    refine x_topi (w := nI (enc (LSx (wg h w) t p l))) ecell ?_
    refine x_bipush (v := nI 32) f_42_61 (by decide) ?_
    refine x_icmpN_ne (t := 76) f_42_63 (by decide) (by have := LSx_b (G := wg h w) ht hp hl; have de : enc (LSx (wg h w) t p l) = 32 * (LSx (wg h w) t p l).1 + (LSx (wg h w) t p l).2 := rfl; omega) (by decide) (fun c_e => ?_) (fun c_e => ?_)
    · refine x_iinc (v := nI (l + 1)) (ls1 := [.ref Pv, .ref (wA h w), .int (nI (sB (Wd h w 0 + 1))), .int (nI (sB (Wd h w 1 + 1))), .int (nI (sB (Wd h w 2 + 1))), .int (nI t), .int (nI p), .int (nI (l + 1))]) f_42_76 rfl (by exact nI_add _ 1) rfl ?_
      refine x_goto (t := 40) f_42_79 (by decide) ?_
      exact ih (l + 1) g x (by omega) (hS.skip c_e)
    · refine x_aload_n f_42_66 rfl ?_
      refine x_iload f_42_67 rfl ?_
      refine x_iload f_42_69 rfl ?_
      refine x_iload f_42_71 rfl ?_
      refine x_callS f_42_73 (k_weigh_ hS.1 kw hL iw1 ht hp hl ht3 hp3 hl3 hS.2.2.2.1 (Q := fun r h' => r = none ∧ ∃ x', GS h h' w x' t p (l + 1)) (fun g1 r1 f1 x' hx h1 h2 h3 => ⟨rfl, x', wstep r1 f1 x' hx h1 h2 h3 c_e⟩)) (by omega) rfl rfl rfl (Nat.le_of_ble_eq_true rfl) rfl ?_
      rintro _ g1 ⟨rfl, x1, hS1⟩
      refine x_iinc (v := nI (l + 1)) (ls1 := [.ref Pv, .ref (wA h w), .int (nI (sB (Wd h w 0 + 1))), .int (nI (sB (Wd h w 1 + 1))), .int (nI (sB (Wd h w 2 + 1))), .int (nI t), .int (nI p), .int (nI (l + 1))]) f_42_76 rfl (by exact nI_add _ 1) rfl ?_
      refine x_goto (t := 40) f_42_79 (by decide) ?_
      exact ih (l + 1) g1 x1 (by omega) hS1
set_option maxRecDepth 20000 in
theorem kgr_p {h : mj_H} {jm w : Nat} (hw : WC h w jm) {Pv X : Nat} (hPv0 : mj_K h Pv = (5, 1)) (hPX0 : mj_R h Pv 0 = some X) (hX0 : mj_K h X = (12, 9261)) (h63X : 63 ≤ X) (h63P : 63 ≤ Pv) (hD : FD (mj_I h X) (wg h w) (sB (Wd h w 0 + 1)) (sB (Wd h w 1 + 1)) (sB (Wd h w 2 + 1)) (sB (Wd h w 0 + 1)) 0 0) {t : Nat} (htT : t < sB (Wd h w 0 + 1)) {Q : Option Value → mj_H → Prop}
  (K : ∀ (g : mj_H) (x : Nat × Nat × Nat) (v6 v7 : Value), GS h g w x t (sB (Wd h w 1 + 1)) 0 → mx 2 42 88 [.ref Pv, .ref (wA h w), .int (nI (sB (Wd h w 0 + 1))), .int (nI (sB (Wd h w 1 + 1))), .int (nI (sB (Wd h w 2 + 1))), .int (nI t), v6, v7] [] g Q) :
  ∀ (n p : Nat) (g : mj_H) (x : Nat × Nat × Nat), p + n = sB (Wd h w 1 + 1) → GS h g w x t p 0 → ∀ v7 : Value, mx 2 42 31 [.ref Pv, .ref (wA h w), .int (nI (sB (Wd h w 0 + 1))), .int (nI (sB (Wd h w 1 + 1))), .int (nI (sB (Wd h w 2 + 1))), .int (nI t), .int (nI p), v7] [] g Q := by
  have hN := hw.2.2.2.2
  have hL := hN.lb
  have h63 := hw.1.2.2.1
  have b0 := hL 0 (by decide)
  have b1 := hL 1 (by decide)
  have b2 := hL 2 (by decide)
  have hP12 : Pv ≠ 12 := by omega
  have hwX : wA h w ∉ [X, 12, 13, 14, 15, 16] := by
    intro q
    simp only [List.mem_cons, List.not_mem_nil, or_false] at q
    have hne : wA h w ≠ X := fun z => by have := hw.1.2.1; rw [z, hX0] at this; cases this
    omega
  have h36 : 36 ∉ [X, 12, 13, 14, 15, 16] := by
    intro q
    simp only [List.mem_cons, List.not_mem_nil, or_false] at q
    omega
  have l1 := sB_le (Wd h w 1 + 1) (by omega)
  intro n
  induction n with
  | zero =>
    intro p g x hp0 hS v7
    refine x_iload f_42_31 rfl ?_
    refine x_iload_n f_42_33 rfl ?_
    refine x_icmpN_ge (t := 88) f_42_34 (by decide) (by omega) (by omega) (fun c_1 => ?_) (fun c_1 => by omega)
    obtain rfl : p = sB (Wd h w 1 + 1) := by omega
    exact K g x _ _ hS
  | succ n ih =>
    intro p g x hp0 hS v7
    refine x_iload f_42_31 rfl ?_
    refine x_iload_n f_42_33 rfl ?_
    refine x_icmpN_ge (t := 88) f_42_34 (by decide) (by omega) (by omega) (fun c_1 => by omega) (fun c_1 => ?_)
    refine x_iconst (v := nI 0) f_42_37 (by decide) ?_
    refine x_istore (ls1 := [.ref Pv, .ref (wA h w), .int (nI (sB (Wd h w 0 + 1))), .int (nI (sB (Wd h w 1 + 1))), .int (nI (sB (Wd h w 2 + 1))), .int (nI t), .int (nI p), .int (nI 0)]) f_42_38 (Nat.le_of_ble_eq_true rfl) rfl ?_
    refine kgr_l hw hPv0 hPX0 hX0 h63X h63P hD htT (by omega) (fun g2 x2 v7 hS2 => ?_) (sB (Wd h w 2 + 1)) 0 g x (Nat.zero_add _) hS
    refine x_iinc (v := nI (p + 1)) (ls1 := [.ref Pv, .ref (wA h w), .int (nI (sB (Wd h w 0 + 1))), .int (nI (sB (Wd h w 1 + 1))), .int (nI (sB (Wd h w 2 + 1))), .int (nI t), .int (nI (p + 1)), v7]) f_42_82 rfl (by exact nI_add _ 1) rfl ?_
    refine x_goto (t := 31) f_42_85 (by decide) ?_
    exact ih (p + 1) g2 x2 (by omega) hS2.row _
set_option maxRecDepth 20000 in
theorem kgr_t {h : mj_H} {jm w : Nat} (hw : WC h w jm) {Pv X : Nat} (hPv0 : mj_K h Pv = (5, 1)) (hPX0 : mj_R h Pv 0 = some X) (hX0 : mj_K h X = (12, 9261)) (h63X : 63 ≤ X) (h63P : 63 ≤ Pv) (hD : FD (mj_I h X) (wg h w) (sB (Wd h w 0 + 1)) (sB (Wd h w 1 + 1)) (sB (Wd h w 2 + 1)) (sB (Wd h w 0 + 1)) 0 0) :
  ∀ (n t : Nat) (g : mj_H) (x : Nat × Nat × Nat), t + n = sB (Wd h w 0 + 1) → GS h g w x t 0 0 → ∀ v6 v7 : Value, mx 2 42 22 [.ref Pv, .ref (wA h w), .int (nI (sB (Wd h w 0 + 1))), .int (nI (sB (Wd h w 1 + 1))), .int (nI (sB (Wd h w 2 + 1))), .int (nI t), v6, v7] [] g (fun r h' => r = none ∧ Rw h h' [wA h w] ∧ (∀ q, ¬ q = 4 → ¬ q = 5 → ¬ q = 6 → mj_I h' (wA h w) q = mj_I h (wA h w) q) ∧ ∃ x, BSw h' (wA h w) x ∧ GB (wg h w) (wlo h w) (Wd h w) x) := by
  have hN := hw.2.2.2.2
  have hL := hN.lb
  have h63 := hw.1.2.2.1
  have b0 := hL 0 (by decide)
  have b1 := hL 1 (by decide)
  have b2 := hL 2 (by decide)
  have hP12 : Pv ≠ 12 := by omega
  have hwX : wA h w ∉ [X, 12, 13, 14, 15, 16] := by
    intro q
    simp only [List.mem_cons, List.not_mem_nil, or_false] at q
    have hne : wA h w ≠ X := fun z => by have := hw.1.2.1; rw [z, hX0] at this; cases this
    omega
  have h36 : 36 ∉ [X, 12, 13, 14, 15, 16] := by
    intro q
    simp only [List.mem_cons, List.not_mem_nil, or_false] at q
    omega
  have l1 := sB_le (Wd h w 0 + 1) (by omega)
  intro n
  induction n with
  | zero =>
    intro t g x ht0 hS v6 v7
    refine x_iload f_42_22 rfl ?_
    refine x_iload_n f_42_24 rfl ?_
    refine x_icmpN_ge (t := 94) f_42_25 (by decide) (by omega) (by omega) (fun c_1 => ?_) (fun c_1 => by omega)
    refine x_retV f_42_94 rfl ?_
    obtain rfl : t = sB (Wd h w 0 + 1) := by omega
    exact ⟨rfl, hS.2.1, hS.2.2.1, x, hS.2.2.2.1, hS.fin hN⟩
  | succ n ih =>
    intro t g x ht0 hS v6 v7
    refine x_iload f_42_22 rfl ?_
    refine x_iload_n f_42_24 rfl ?_
    refine x_icmpN_ge (t := 94) f_42_25 (by decide) (by omega) (by omega) (fun c_1 => by omega) (fun c_1 => ?_)
    refine x_iconst (v := nI 0) f_42_28 (by decide) ?_
    refine x_istore (ls1 := [.ref Pv, .ref (wA h w), .int (nI (sB (Wd h w 0 + 1))), .int (nI (sB (Wd h w 1 + 1))), .int (nI (sB (Wd h w 2 + 1))), .int (nI t), .int (nI 0), v7]) f_42_29 (Nat.le_of_ble_eq_true rfl) rfl ?_
    refine kgr_p hw hPv0 hPX0 hX0 h63X h63P hD (by omega) (fun g2 x2 v6 v7 hS2 => ?_) (sB (Wd h w 1 + 1)) 0 g x (Nat.zero_add _) hS _
    refine x_iinc (v := nI (t + 1)) (ls1 := [.ref Pv, .ref (wA h w), .int (nI (sB (Wd h w 0 + 1))), .int (nI (sB (Wd h w 1 + 1))), .int (nI (sB (Wd h w 2 + 1))), .int (nI (t + 1)), v6, v7]) f_42_88 rfl (by exact nI_add _ 1) rfl ?_
    refine x_goto (t := 22) f_42_91 (by decide) ?_
    exact ih (t + 1) g2 x2 (by omega) hS2.plane _ _
set_option maxRecDepth 20000 in
theorem k_findGreatest {h : mj_H} {jm w : Nat} (hw : WC h w jm) {Pv X : Nat} (hPv0 : mj_K h Pv = (5, 1)) (hPX0 : mj_R h Pv 0 = some X) (hX0 : mj_K h X = (12, 9261)) (h63X : 63 ≤ X) (h63P : 63 ≤ Pv) (hD : FD (mj_I h X) (wg h w) (sB (Wd h w 0 + 1)) (sB (Wd h w 1 + 1)) (sB (Wd h w 2 + 1)) (sB (Wd h w 0 + 1)) 0 0) (C : SC h) (z4 : mj_I h (wA h w) 4 = nI 0) (z5 : mj_I h (wA h w) 5 = nI 0) (z6 : mj_I h (wA h w) 6 = nI 0) : mxc 2 42 [.ref Pv, .ref (wA h w)] h (fun r h' => r = none ∧ Rw h h' [wA h w] ∧ (∀ q, ¬ q = 4 → ¬ q = 5 → ¬ q = 6 → mj_I h' (wA h w) q = mj_I h (wA h w) q) ∧ ∃ x, BSw h' (wA h w) x ∧ GB (wg h w) (wlo h w) (Wd h w) x) := by
  have hN := hw.2.2.2.2
  have hL := hN.lb
  have h63 := hw.1.2.2.1
  have b0 := hL 0 (by decide)
  have b1 := hL 1 (by decide)
  have b2 := hL 2 (by decide)
  have hP12 : Pv ≠ 12 := by omega
  have hwX : wA h w ∉ [X, 12, 13, 14, 15, 16] := by
    intro q
    simp only [List.mem_cons, List.not_mem_nil, or_false] at q
    have hne : wA h w ≠ X := fun z => by have := hw.1.2.1; rw [z, hX0] at this; cases this
    omega
  have h36 : 36 ∉ [X, 12, 13, 14, 15, 16] := by
    intro q
    simp only [List.mem_cons, List.not_mem_nil, or_false] at q
    omega
  have zx := zz_ hL (t := 0) (p := 0) (l := 0) (by omega) (by omega) (by omega)
  have zy := zz_ hL (t := Wd h w 0) (p := Wd h w 1) (l := Wd h w 2) (by omega) (by omega) (by omega)
  show mx 2 42 0 [.ref Pv, .ref (wA h w), mj_unset, mj_unset, mj_unset, mj_unset, mj_unset, mj_unset] [] h _
  refine x_aload_n f_42_0 rfl ?_
  refine x_iconst (v := nI 0) f_42_1 (by decide) ?_
  refine x_callSe f_42_2 (k_stretchesOn0 C hw.1.2.1 hw.2.2.1 hw.2.2.2.1 zx.1 zy.1 (W := Wd h w 0) (by omega) (by omega)) (by omega) rfl rfl rfl (Nat.le_of_ble_eq_true rfl) rfl ?_
  refine x_istore_n (ls1 := [.ref Pv, .ref (wA h w), .int (nI (sB (Wd h w 0 + 1))), mj_unset, mj_unset, mj_unset, mj_unset, mj_unset]) f_42_5 (Nat.le_of_ble_eq_true rfl) rfl ?_
  refine x_aload_n f_42_6 rfl ?_
  refine x_iconst (v := nI 1) f_42_7 (by decide) ?_
  refine x_callSe f_42_8 (k_stretchesOn1 C hw.1.2.1 hw.2.2.1 hw.2.2.2.1 zx.1 zy.1 (W := Wd h w 1) (by omega) (by omega)) (by omega) rfl rfl rfl (Nat.le_of_ble_eq_true rfl) rfl ?_
  refine x_istore_n (ls1 := [.ref Pv, .ref (wA h w), .int (nI (sB (Wd h w 0 + 1))), .int (nI (sB (Wd h w 1 + 1))), mj_unset, mj_unset, mj_unset, mj_unset]) f_42_11 (Nat.le_of_ble_eq_true rfl) rfl ?_
  refine x_aload_n f_42_12 rfl ?_
  refine x_iconst (v := nI 2) f_42_13 (by decide) ?_
  refine x_callSe f_42_14 (k_stretchesOn2 C hw.1.2.1 hw.2.2.1 hw.2.2.2.1 zx.1 zy.1 (W := Wd h w 2) (by omega) (by omega)) (by omega) rfl rfl rfl (Nat.le_of_ble_eq_true rfl) rfl ?_
  refine x_istore (ls1 := [.ref Pv, .ref (wA h w), .int (nI (sB (Wd h w 0 + 1))), .int (nI (sB (Wd h w 1 + 1))), .int (nI (sB (Wd h w 2 + 1))), mj_unset, mj_unset, mj_unset]) f_42_17 (Nat.le_of_ble_eq_true rfl) rfl ?_
  refine x_iconst (v := nI 0) f_42_19 (by decide) ?_
  refine x_istore (ls1 := [.ref Pv, .ref (wA h w), .int (nI (sB (Wd h w 0 + 1))), .int (nI (sB (Wd h w 1 + 1))), .int (nI (sB (Wd h w 2 + 1))), .int (nI 0), mj_unset, mj_unset]) f_42_20 (Nat.le_of_ble_eq_true rfl) rfl ?_
  exact kgr_t hw hPv0 hPX0 hX0 h63X h63P hD (sB (Wd h w 0 + 1)) 0 h (0, 0, 0) (Nat.zero_add _) ⟨C, Rw.rf _ _, fun _ _ _ _ => rfl, ⟨z6, z4, z5, by decide, by decide, by decide⟩, Or.inl rfl, fun t' p' l' _ _ _ q => by omega⟩ _ _
