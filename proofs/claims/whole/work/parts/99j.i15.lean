/-! MAKING: both stand alike -/
theorem mkR_R : ∀ (l : List (Nat × Nat × Nat)) {h : mj_H} {q x : Nat}, x < h.1 → x ≠ q → mj_R (mkR h q l) x = mj_R h x
  | [], _, _, _, _, _ => rfl
  | e :: l, h, q, x, hx, hn => by
    refine (mkR_R l (h := mj_setR (mj_new h e.2.1 e.2.2) q e.1 (some h.1)) (Nat.lt_succ_of_lt hx) hn).trans ?_
    refine Eq.trans (funext fun i => ?_) (mj_R_new (k := e.2.1) (n := e.2.2) (Nat.ne_of_lt hx))
    rw [mj_R_set, if_neg hn]
theorem mkR_2 : ∀ (l : List (Nat × Nat × Nat)) (h : mj_H) (q : Nat), (mkR h q l).2.1 = h.2.1 + (l.map (fun e => e.2.2)).sum
  | [], _, _ => rfl
  | e :: l, h, q => by
    refine (mkR_2 l (mj_setR (mj_new h e.2.1 e.2.2) q e.1 (some h.1)) q).trans ?_
    rw [List.map_cons, List.sum_cons]
    show h.2.1 + e.2.2 + _ = _
    omega
theorem mkO_2 (h : mj_H) (q f k n : Nat) (l : List (Nat × Nat × Nat)) : (mkO h q f k n l).2.1 = h.2.1 + n + (l.map (fun e => e.2.2)).sum := mkR_2 l (mj_new h k n) h.1
theorem mkC_2 (h : mj_H) (q : Nat) : (mkC h q).2.1 ≤ h.2.1 + 1200 := by
  unfold mkC
  rw [mkO_2, mkO_2, mkO_2, mkO_2, mkO_2, mkR_2]
  simp only [List.map_cons, List.map_nil, List.sum_cons, List.sum_nil]
  omega
theorem mkML_2 (h : mj_H) (q : Nat) : (mkR h q mkML).2.1 ≤ h.2.1 + 120000 := by
  rw [mkR_2]
  unfold mkML
  simp only [List.map_cons, List.map_nil, List.sum_cons, List.sum_nil]
  omega
theorem mkC_MK {h0 h : mj_H} (m : MK h0 h) (q : Nat) : MK h0 (mkC h q) := by
  unfold mkC
  exact (((((MK.mkR _ _ m).mkO _ _ _ _ _).mkO _ _ _ _ _).mkO _ _ _ _ _).mkO _ _ _ _ _).mkO _ _ _ _ _
theorem mkC_at (s : Nat) (K : Nat → Nat × Nat) (I : Nat → Nat → Int32) (J : Nat → Nat → Int64) (R : Nat → Nat → Option Nat) : (mkC (mj_new (8, s, K, I, J, R) 10 13) 8).1 = 33 ∧ (∀ e ∈ cc_K, 8 ≤ e.1 → mj_K (mkC (mj_new (8, s, K, I, J, R) 10 13) 8) e.1 = e.2) ∧ (∀ e ∈ cc_R, mj_R (mkC (mj_new (8, s, K, I, J, R) 10 13) 8) e.1 e.2.1 = some e.2.2) ∧ mj_R (mkC (mj_new (8, s, K, I, J, R) 10 13) 8) 12 4 = none ∧ mj_R (mkC (mj_new (8, s, K, I, J, R) 10 13) 8) 8 8 = none ∧ mj_R (mkC (mj_new (8, s, K, I, J, R) 10 13) 8) 28 4 = none := by
  refine ⟨rfl, fun e he h8 => ?_, fun e he => ?_, rfl, rfl, rfl⟩
  · simp only [cc_K, List.mem_cons, List.not_mem_nil, or_false] at he
    rcases he with rfl | rfl | rfl | rfl | rfl | rfl | rfl | rfl | rfl | rfl | rfl | rfl | rfl | rfl | rfl | rfl | rfl | rfl | rfl | rfl | rfl | rfl | rfl | rfl | rfl | rfl | rfl | rfl | rfl | rfl | rfl | rfl <;> first | rfl | exact absurd h8 (by decide)
  · simp only [cc_R, List.mem_cons, List.not_mem_nil, or_false] at he
    rcases he with rfl | rfl | rfl | rfl | rfl | rfl | rfl | rfl | rfl | rfl | rfl | rfl | rfl | rfl | rfl | rfl | rfl | rfl | rfl | rfl | rfl | rfl | rfl | rfl <;> rfl
/-- class and reference newly made stand alike -/
theorem IV_first {h0 g : mj_H} (h8 : h0.1 = 8) (hk : ∀ k, k < 7 → mj_K h0 k = (12, mj_sL k)) (hi : ∀ k, k < 7 → mj_I h0 k = mj_sV k) (r : Rw (mkR (mj_new (mkC (mj_new h0 10 13) 8) 11 48) 33 mkML) g [44]) (hz : ∀ z, z < 14580 → mj_I g 44 z = -1) : IV (mj_new g 13 1) 0 0 0 0 0 0 0 ∧ g.1 = 62 ∧ g.2.1 ≤ h0.2.1 + 130000 ∧ mj_K g 7 = mj_K h0 7 ∧ mj_I g 7 = mj_I h0 7 := by
  obtain ⟨n0, s, K, I, J, R⟩ := h0
  have h8 : n0 = 8 := h8
  subst h8
  obtain ⟨c1, cK, cR, cb, cp, cr⟩ := mkC_at s K I J R
  have mk0 : MK (8, s, K, I, J, R) (8, s, K, I, J, R) := ⟨Nat.le_refl _, fun _ _ => ⟨rfl, rfl⟩, fun a i h1 h2 => by have h2 : a < 8 := h2; omega⟩
  have mkc : MK (8, s, K, I, J, R) (mkC (mj_new (8, s, K, I, J, R) 10 13) 8) := mkC_MK (mk0.new 10 13) 8
  have s1 := mkC_2 (mj_new (8, s, K, I, J, R) 10 13) 8
  obtain ⟨hc, ehc⟩ : ∃ hc, hc = mkC (mj_new (8, s, K, I, J, R) 10 13) 8 := ⟨_, rfl⟩
  rw [← ehc] at c1 cK cR cb cp cr mkc r s1
  have mkm : MK (8, s, K, I, J, R) (mkR (mj_new hc 11 48) 33 mkML) := MK.mkR mkML 33 (mkc.new 11 48)
  have sm := mkM_sm (h := mj_new hc 11 48) (q := 33) rfl (by show hc.1 + 1 = 34; omega) (by rw [← c1]; exact mj_K_newA hc 11 48)
  have s2 := mkML_2 (mj_new hc 11 48) 33
  have l1 : (mkR (mj_new hc 11 48) 33 mkML).1 = 62 := by rw [mkR_1]; show hc.1 + 1 + 28 = 62; omega
  have kc : ∀ a, a < 33 → mj_K (mkR (mj_new hc 11 48) 33 mkML) a = mj_K hc a := fun a ha => mkR_K mkML 33 (by show a < hc.1 + 1; omega) (mj_K_new (by omega))
  have rc : ∀ a, a < 33 → mj_R (mkR (mj_new hc 11 48) 33 mkML) a = mj_R hc a := fun a ha => (mkR_R mkML (by show a < hc.1 + 1; omega) (by omega)).trans (mj_R_new (by omega))
  obtain ⟨hm, ehm⟩ : ∃ hm, hm = mkR (mj_new hc 11 48) 33 mkML := ⟨_, rfl⟩
  rw [← ehm] at r mkm sm s2 l1 kc rc
  have lg : g.1 = 62 := r.1.trans l1
  have gz : ∀ a i, 8 ≤ a → a < 62 → a ≠ 44 → mj_I g a i = 0 := fun a i h1 h2 h3 => by rw [r.i (by simpa using h3)]; exact mkm.2.2 a i h1 (by omega)
  have nz : ∀ a i, 8 ≤ a → a < 62 → a ≠ 44 → mj_I (mj_new g 13 1) a i = nI 0 := fun a i h1 h2 h3 => by rw [mj_I_new (by omega)]; exact gz a i h1 h2 h3
  have nK : ∀ a, a < 62 → mj_K (mj_new g 13 1) a = mj_K hm a := fun a ha => by rw [mj_K_new (by omega), r.2.2.1]
  have nR : ∀ a, a < 62 → mj_R (mj_new g 13 1) a = mj_R hm a := fun a ha => by rw [mj_R_new (by omega), r.2.2.2.2.1]
  have nI8 : ∀ a, a < 8 → mj_I (mj_new g 13 1) a = I a := fun a ha => by
    rw [mj_I_new (by omega), r.i (by simp; omega)]
    exact (mkm.2.1 a ha).2
  have hSM : SM (mj_new g 13 1) := by
    refine ⟨(nK 33 (by decide)).trans sm.1, fun e he => ?_⟩
    have hk : e.2.1 < 62 := by revert e; decide
    rw [nR 33 (by decide), nK _ hk]
    exact sm.2 e he
  have hSC : SC (mj_new g 13 1) := by
    refine ⟨fun e he => ?_, fun e he => ?_, fun k hk' => (nI8 k (by omega)).trans (hi k hk')⟩
    · have h33 : e.1 < 33 := by revert e; decide
      rw [nK _ (by omega), kc _ h33]
      by_cases q : 8 ≤ e.1
      · exact cK e he q
      · refine ((mkc.2.1 e.1 (by omega)).1).trans ?_
        have h7 : e.1 < 7 ∧ e.2 = (12, mj_sL e.1) := by
          have : ∀ e ∈ cc_K, ¬ 8 ≤ e.1 → e.1 < 7 ∧ e.2 = (12, mj_sL e.1) := by decide +kernel
          exact this e he q
        rw [h7.2]
        exact hk e.1 h7.1
    · have h33 : e.1 < 33 := ccR33 e he
      rw [nR _ (by omega), rc _ h33]
      exact cR e he
  refine ⟨⟨⟨hSM, fun a ha q _ => nz a q (by revert a; decide) (by revert a; decide) (by revert a; decide), by decide, fun j hj => absurd hj (Nat.not_lt_zero j), fun j hj z hz' => Or.inl ?_⟩, ⟨hSC, fun a ha q _ => nz a q (by revert a; decide) (by revert a; decide) (by revert a; decide), fun j hj => absurd hj (Nat.not_lt_zero j), fun i j hi' => absurd hi' (Nat.not_lt_zero i), fun j hj => absurd hj (Nat.not_lt_zero j), Or.inl (by rw [nR _ (by decide), rc _ (by decide)]; exact cb)⟩, by show 63 ≤ g.1 + 1; omega, ⟨⟨by decide, nz _ _ (by decide) (by decide) (by decide), nz _ _ (by decide) (by decide) (by decide)⟩, ⟨nz _ _ (by decide) (by decide) (by decide), nz _ _ (by decide) (by decide) (by decide)⟩, ⟨by decide, nz _ _ (by decide) (by decide) (by decide), nz _ _ (by decide) (by decide) (by decide)⟩, (nz 8 9 (by decide) (by decide) (by decide)).trans (nz 33 0 (by decide) (by decide) (by decide)).symm, ?_⟩, ⟨fun s hs => absurd hs (Nat.not_lt_zero s), fun s t hs => absurd hs (Nat.not_lt_zero s), fun q _ => nz _ _ (by decide) (by decide) (by decide)⟩, ⟨fun s hs => absurd hs (Nat.not_lt_zero s), fun s t hs => absurd hs (Nat.not_lt_zero s), Or.inl (by rw [nR _ (by decide), rc _ (by decide)]; exact cp)⟩, ⟨by decide, nz _ _ (by decide) (by decide) (by decide), nz _ _ (by decide) (by decide) (by decide), fun s hs => absurd hs (Nat.not_lt_zero s)⟩, ⟨⟨⟨by decide, nz _ _ (by decide) (by decide) (by decide), fun s hs => absurd hs (Nat.not_lt_zero s)⟩, by decide, nz _ _ (by decide) (by decide) (by decide), fun s hs => absurd hs (Nat.not_lt_zero s), fun i j _ hs => absurd hs (Nat.not_lt_zero j)⟩, nz _ _ (by decide) (by decide) (by decide), nz _ _ (by decide) (by decide) (by decide), fun s hs => absurd hs (Nat.not_lt_zero s)⟩, ⟨⟨by decide, nz _ _ (by decide) (by decide) (by decide), fun s hs => absurd hs (Nat.not_lt_zero s)⟩, nz _ _ (by decide) (by decide) (by decide), Or.inr (nz _ _ (by decide) (by decide) (by decide)), Or.inl (by rw [nR _ (by decide), rc _ (by decide)]; exact cr)⟩⟩, lg, ?_, ?_, ?_⟩
  · rw [mj_I_new (by omega)]; exact hz _ (by omega)
  · rw [nz 33 0 (by decide) (by decide) (by decide)]; decide
  · rw [r.2.1]
    have s2 : hm.2.1 ≤ hc.2.1 + 48 + 120000 := s2
    have s1 : hc.2.1 ≤ s + 13 + 1200 := s1
    show hm.2.1 ≤ s + 130000
    omega
  · rw [r.2.2.1]; exact (mkm.2.1 7 (by decide)).1
  · rw [r.i (by decide)]; exact (mkm.2.1 7 (by decide)).2
