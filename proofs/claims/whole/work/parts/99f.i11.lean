/-! CALLS that change: copies -/
theorem PF_31 (G : Gd) : ∀ (s a b c d e f : Nat), a ≤ b → c ≤ d → e ≤ f → b ≤ 5 → d ≤ 5 → f ≤ 5 → spn a b c d e f < s → ∀ x ∈ PF G a b c d e f, x ≤ 31
  | 0, a, b, c, d, e, f, _, _, _, _, _, _, h => absurd h (Nat.not_lt_zero _)
  | s + 1, a, b, c, d, e, f, h1, h2, h3, b5, d5, f5, h => by
    unfold spn at h
    have h32 := LV_32 G h1 h2 h3 b5 d5 f5
    rcases LV_cut G h1 h2 h3 b5 d5 f5 with q | ⟨_, ⟨i, i1, i2, _⟩ | ⟨i, i1, i2, _⟩ | ⟨i, i1, i2, _⟩⟩
    · rw [PF_leaf q.1]
      intro x hx
      rw [List.mem_singleton] at hx
      omega
    · rw [PF_c0 h1 h2 h3 b5 d5 f5 i1 i2]
      intro x hx
      rw [List.mem_append, List.mem_append, List.mem_singleton] at hx
      rcases hx with (q | q) | q
      · omega
      · exact PF_31 G s a (a + i) c d e f (by omega) (by omega) (by omega) (by omega) (by omega) (by omega) (by unfold spn; omega) x q
      · exact PF_31 G s (a + i + 1) b c d e f (by omega) (by omega) (by omega) (by omega) (by omega) (by omega) (by unfold spn; omega) x q
    · rw [PF_c1 h1 h2 h3 b5 d5 f5 i1 i2]
      intro x hx
      rw [List.mem_append, List.mem_append, List.mem_singleton] at hx
      rcases hx with (q | q) | q
      · omega
      · exact PF_31 G s a b c (c + i) e f (by omega) (by omega) (by omega) (by omega) (by omega) (by omega) (by unfold spn; omega) x q
      · exact PF_31 G s a b (c + i + 1) d e f (by omega) (by omega) (by omega) (by omega) (by omega) (by omega) (by unfold spn; omega) x q
    · rw [PF_c2 h1 h2 h3 b5 d5 f5 i1 i2]
      intro x hx
      rw [List.mem_append, List.mem_append, List.mem_singleton] at hx
      rcases hx with (q | q) | q
      · omega
      · exact PF_31 G s a b c d e (e + i) (by omega) (by omega) (by omega) (by omega) (by omega) (by omega) (by unfold spn; omega) x q
      · exact PF_31 G s a b c d (e + i + 1) f (by omega) (by omega) (by omega) (by omega) (by omega) (by omega) (by unfold spn; omega) x q
theorem PW_31 {h : mj_H} {w jm q : Nat} (n : WN h w jm) (hq : q < (PW h w).length) : (PW h w).getD q 0 ≤ 31 := by
  have hL := n.lb
  have b0 := hL 0 (by decide)
  have b1 := hL 1 (by decide)
  have b2 := hL 2 (by decide)
  rw [List.getD_eq_getElem?_getD, List.getElem?_eq_getElem hq]
  exact PF_31 (wg h w) 16 0 (Wd h w 0) 0 (Wd h w 1) 0 (Wd h w 2) (by omega) (by omega) (by omega) (by omega) (by omega) (by omega) (by unfold spn; omega) _ (List.getElem_mem hq)
theorem pr_copy {h : mj_H} {sm jm wm tm xm km em : Nat} (v : IV h sm jm wm tm xm km em) (w : Int32) : PR 83 153 [.int w] h := by
  have h10 := v.wm10
  by_cases hc : mIn w wm
  · obtain ⟨u, hu, rfl⟩ := mIn_of hc (by omega)
    have hw := v.win hu
    have eu := nI_clamp (show u < 2 ^ 31 by omega)
    have hpl := PW_l216 hw.1.2.2.2.2
    refine (mxc.mono (k_copyN v.cj hw.1 v.l63 hw.2 v.pv h10 v.ewc hu) (by decide)).post ?_
    rintro _ g2 ⟨rfl, g, q, r1, e1, e21⟩
    refine ⟨_, rfl, ?_⟩
    obtain ⟨vg, bg⟩ := IV_lr v hu q
    obtain ⟨ej, el, eW, eg⟩ := win_lr v.l63 hw.1.1.2.2.1 q u
    have r1' : Rw g g2 [20, 21, 33, 51] := r1.mono (by decide)
    have hn2 : ∀ i, i < wm → WN g2 i jm := fun i hi => WN_to (r1.i (by decide)) (r1.i (by decide)) (r1.i (by decide)) (vg.nn i hi)
    have m2 : MW g2 jm := MW_rw vg.mw r1 (by decide)
    have ePW : PW g2 u = PW h u := by
      obtain ⟨_, _, eW2, eg2⟩ := win_to (r1.i (a := 36) (by decide)) (r1.i (a := 45) (by decide)) (r1.i (a := 46) (by decide)) (r1.i (a := 47) (by decide)) u
      unfold PW
      rw [eg2, eW2, eg, eW]
    refine (mxc.mono (c_copy m2 h10 (by rw [r1.i (by decide)]; exact vg.ewm) hn2 (nI u)) (by decide)).post ?_
    intro r k hk
    rw [if_pos hc, eu, ePW] at hk
    obtain ⟨rfl, m, hSQ, r3, f28, k28, k51⟩ := hk
    have vm1 : Rw g2 m [33, 39, 40, 41, 42, 43, 44, 48, 49, 50, 60, 61] := hSQ.2.1
    have fm := hSQ.2.2
    have i33 : ∀ q, q ∉ [1, 14, 15, 17, 22, 26, 28, 29, 30, 31, 32, 33, 47] → mj_I k 33 q = mj_I g 33 q := fun q hq => by
      rw [f28 q (fun z => hq (by rw [z]; decide)), fm q (fun z => hq (by revert z; simp only [List.mem_cons, List.not_mem_nil, or_false]; omega)), r1.i (by decide)]
    have rr : Rw g k [20, 21, 33, 39, 40, 41, 42, 43, 44, 48, 49, 50, 51, 60, 61] := ((r1.mono (by decide)).trans (vm1.mono (by decide))).trans (r3.mono (by decide))
    have mk : MW k jm := MW_rw hSQ.1 r3 (by decide)
    have k20 : mj_I k 20 1 = nI (PW h u).length := by rw [r3.i (by decide), vm1.i (by decide)]; exact e1
    have k21 : ∀ q, q < (PW h u).length → mj_I k 21 q = nI ((PW h u).getD q 0) := fun q hq => by rw [r3.i (by decide), vm1.i (by decide), e21 q, if_pos hq]
    refine ⟨rfl, IV.nx (sm := sm) (jm := jm) (wm := wm) (tm := (PW h u).length) (xm := xm) (km := km) (em := em) ⟨mk, CJ_rw vg.cj rr (Fr_lt vg.cj.2.2.1 (by decide)), by rw [rr.1]; exact vg.l63, ?_, SS_rw vg.2.2.2.2.1 rr vg.l63 (by decide), WW_rw vg.2.2.2.2.2.1 rr vg.l63 (by decide), ⟨by omega, k28, k20, fun q hq => ?_⟩, BB_rw vg.bb rr vg.l63 (by decide) (i33 40 (by decide)) (i33 41 (by decide)) (fun i hi => by rw [i33 0 (by decide)]; exact vg.bb.2.2.2 i hi), LL_rw vg.ll rr vg.l63 (by decide) (i33 46 (by decide))⟩ (bg.rw rr (by decide))⟩
    · unfold CO
      rw [i33 7 (by decide), i33 8 (by decide), i33 21 (by decide), i33 0 (by decide), rr.i (by decide)]
      exact vg.2.2.2.1
    · rw [k21 q hq, k51 q, if_pos hq]
      refine ⟨rfl, (PW h u).getD q 0, ?_, rfl⟩
      exact PW_31 hw.1.2.2.2.2 hq
  · refine (mxc.mono (k_copy0 v.sc h10 v.ewc w hc) (by decide)).post ?_
    rintro _ g ⟨rfl, eg⟩
    have eg := eg.symm
    subst eg
    refine ⟨_, rfl, ?_⟩
    refine (mxc.mono (c_copy v.mw h10 v.ewm v.nn w) (by decide)).post ?_
    intro r k hk
    rw [if_neg hc] at hk
    obtain ⟨rfl, rfl⟩ := hk
    exact ⟨rfl, v.nx (B0.rf _)⟩
