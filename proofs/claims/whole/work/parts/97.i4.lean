/-! QUESTIONS asked of both, more -/
theorem gbA_eq {x y : Nat × Nat × Nat} (h : x.1 = y.1 ∧ (¬ x.1 = 0 → x = y)) (z : Int32) : gbA x z = gbA y z := by
  by_cases h0 : x.1 = 0
  · unfold gbA
    rw [if_pos h0, if_pos (by rw [← h.1]; exact h0)]
  · rw [h.2 h0]
theorem pr_greatest {h : mj_H} {sm jm wm tm xm km em : Nat} (v : IV h sm jm wm tm xm km em) (w : Int32) (z : Int32) : PR 87 159 [.int w, .int z] h := by
  by_cases hc : mIn w wm
  · obtain ⟨u, hu, rfl⟩ := mIn_of hc (by have := v.wm10; omega)
    have hw := v.win hu
    refine (mxc.mono (k_greatestN v.cj hw.1 v.l63 hw.2 v.pv v.wm10 v.ewc hu z) (by decide)).post ?_
    rintro _ g ⟨x, hx, rfl, q⟩
    refine ⟨_, rfl, ?_⟩
    obtain ⟨vg, bg⟩ := IV_lr v hu q
    obtain ⟨ej, el, eW, eg⟩ := win_lr v.l63 hw.1.1.2.2.1 q u
    refine (mxc.mono (c_greatest vg.mw vg.wm10 vg.ewm vg.nn (nI u) z) (by decide)).post ?_
    intro r k hk
    by_cases hz : nI 0 ≤ z ∧ z ≤ nI 2
    · rw [if_pos ⟨hc, hz⟩, nI_clamp (by have := v.wm10; omega)] at hk
      obtain ⟨y, hy, rfl, hm⟩ := hk
      rw [eg, el, eW] at hy
      exact ⟨by rw [if_pos hz, gbA_eq (GB_one hx hy) z], (IV_sq vg hm).nx (bg.rw hm.2.1 (by decide))⟩
    · rw [if_neg (fun y => hz y.2)] at hk
      obtain ⟨rfl, rfl⟩ := hk
      exact ⟨by rw [if_neg hz], vg.nx bg⟩
  · refine (mxc.mono (k_greatest0 v.sc v.wm10 v.ewc w hc z) (by decide)).post ?_
    rintro _ g ⟨rfl, eg⟩
    have eg := eg.symm
    subst eg
    refine ⟨_, rfl, ?_⟩
    refine (mxc.mono (c_greatest v.mw v.wm10 v.ewm v.nn w z) (by decide)).post ?_
    intro r k hk
    rw [if_neg (fun y => hc y.1)] at hk
    obtain ⟨rfl, rfl⟩ := hk
    exact ⟨rfl, v.nx (B0.rf _)⟩
theorem inW_iff {h : mj_H} {w jm z : Nat} (hN : WN h w jm) : inB (zz (wlo h w) 0 0 0) (zz (wlo h w) (Wd h w 0) (Wd h w 1) (Wd h w 2)) z ↔ (wlo h w 0 ≤ mm_pt z 0 + 1 ∧ mm_pt z 0 + 1 ≤ whi h w 0) ∧ (wlo h w 1 ≤ mm_pt z 1 + 1 ∧ mm_pt z 1 + 1 ≤ whi h w 1) ∧ (wlo h w 2 ≤ mm_pt z 2 + 1 ∧ mm_pt z 2 + 1 ≤ whi h w 2) := by
  have hL := hN.lb
  have zx := zz_ hL (t := 0) (p := 0) (l := 0) (by omega) (by omega) (by omega)
  have zy := zz_ hL (t := Wd h w 0) (p := Wd h w 1) (l := Wd h w 2) (by omega) (by omega) (by omega)
  have h0 := hN.2.2 0 (by decide)
  have h1 := hN.2.2 1 (by decide)
  have h2 := hN.2.2 2 (by decide)
  have w0 : Wd h w 0 = whi h w 0 - wlo h w 0 := rfl
  have w1 : Wd h w 1 = whi h w 1 - wlo h w 1 := rfl
  have w2 : Wd h w 2 = whi h w 2 - wlo h w 2 := rfl
  rw [inB_iff]
  omega
theorem whi_ce {h g : mj_H} (e : CE h g) (w : Nat) : whi g w = whi h w := by funext a; unfold whi; rw [e.i (by decide)]
theorem gdV_ce {h g : mj_H} (e : CE h g) (j : Nat) : gdV g j = gdV h j := by funext z; unfold gdV; rw [e.eV]
theorem pr_edge {h : mj_H} {sm jm wm tm xm km em : Nat} (v : IV h sm jm wm tm xm km em) (w : Int32) (z : Int32) : PR 88 161 [.int w, .int z] h := by
  by_cases hc : mIn w wm
  · obtain ⟨u, hu, rfl⟩ := mIn_of hc (by have := v.wm10; omega)
    have hw := v.win hu
    by_cases hz : mIn z 729
    · obtain ⟨t, ht, rfl⟩ := mIn_of hz (by decide)
      by_cases hi : (wlo h u 0 ≤ mm_pt t 0 + 1 ∧ mm_pt t 0 + 1 ≤ whi h u 0) ∧ (wlo h u 1 ≤ mm_pt t 1 + 1 ∧ mm_pt t 1 + 1 ≤ whi h u 1) ∧ (wlo h u 2 ≤ mm_pt t 2 + 1 ∧ mm_pt t 2 + 1 ≤ whi h u 2)
      · refine (mxc.mono (k_edgeN v.cj hw.1 v.wm10 v.ewc hu ht ((inW_iff hw.1.2.2.2.2).mpr hi)) (by decide)).post ?_
        rintro _ g ⟨x, hx, rfl, q⟩
        refine ⟨_, rfl, ?_⟩
        have vg := IV_cq v q
        have bg := B0.cg q.2.cg (by decide)
        obtain ⟨ej, el, eW, eg⟩ := win_ce q.2 u
        refine (mxc.mono (c_edge vg.mw vg.wm10 vg.ewm vg.nn (nI u) (nI t)) (by decide)).post ?_
        intro r k hk
        have hk2 : ∃ best, ED (gdV h (wj h u)) t (wlo h u) (whi h u) best ∧ r = some (.int (ckA best)) ∧ SQ g k jm := by
          have e1 := nI_clamp (show u < 2 ^ 31 by have := v.wm10; omega)
          have e2 := nI_clamp (show t < 2 ^ 31 by omega)
          have hcg : mIn (nI u) wm ∧ mIn (nI t) 729 ∧ (wlo g (nI u).toNatClampNeg 0 ≤ mm_pt (nI t).toNatClampNeg 0 + 1 ∧ mm_pt (nI t).toNatClampNeg 0 + 1 ≤ whi g (nI u).toNatClampNeg 0) ∧ (wlo g (nI u).toNatClampNeg 1 ≤ mm_pt (nI t).toNatClampNeg 1 + 1 ∧ mm_pt (nI t).toNatClampNeg 1 + 1 ≤ whi g (nI u).toNatClampNeg 1) ∧ (wlo g (nI u).toNatClampNeg 2 ≤ mm_pt (nI t).toNatClampNeg 2 + 1 ∧ mm_pt (nI t).toNatClampNeg 2 + 1 ≤ whi g (nI u).toNatClampNeg 2) := by
            rw [e1, e2, el, whi_ce q.2]
            exact ⟨hc, hz, hi⟩
          rw [if_pos hcg, e1, e2, el, whi_ce q.2, ej, gdV_ce q.2] at hk
          exact hk
        obtain ⟨y, hy, rfl, hm⟩ := hk2
        exact ⟨by rw [ED_one hx hy], (IV_sq vg hm).nx (bg.rw hm.2.1 (by decide))⟩
      · have hcg : ¬ (mIn (nI u) wm ∧ mIn (nI t) 729 ∧ (wlo h (nI u).toNatClampNeg 0 ≤ mm_pt (nI t).toNatClampNeg 0 + 1 ∧ mm_pt (nI t).toNatClampNeg 0 + 1 ≤ whi h (nI u).toNatClampNeg 0) ∧ (wlo h (nI u).toNatClampNeg 1 ≤ mm_pt (nI t).toNatClampNeg 1 + 1 ∧ mm_pt (nI t).toNatClampNeg 1 + 1 ≤ whi h (nI u).toNatClampNeg 1) ∧ (wlo h (nI u).toNatClampNeg 2 ≤ mm_pt (nI t).toNatClampNeg 2 + 1 ∧ mm_pt (nI t).toNatClampNeg 2 + 1 ≤ whi h (nI u).toNatClampNeg 2)) := by
          rw [nI_clamp (show u < 2 ^ 31 by have := v.wm10; omega), nI_clamp (show t < 2 ^ 31 by omega)]
          exact fun y => hi y.2.2
        refine (mxc.mono (k_edgeO v.cj hw.1 v.wm10 v.ewc hu ht (fun y => hi ((inW_iff hw.1.2.2.2.2).mp y))) (by decide)).post ?_
        rintro _ g ⟨rfl, eg⟩
        have eg := eg.symm
        subst eg
        refine ⟨_, rfl, ?_⟩
        refine (mxc.mono (c_edge v.mw v.wm10 v.ewm v.nn (nI u) (nI t)) (by decide)).post ?_
        intro r k hk
        rw [if_neg hcg] at hk
        obtain ⟨rfl, rfl⟩ := hk
        exact ⟨rfl, v.nx (B0.rf _)⟩
    · refine (mxc.mono (k_edgeS v.cj hw.1 v.wm10 v.ewc hu z hz) (by decide)).post ?_
      rintro _ g ⟨rfl, eg⟩
      have eg := eg.symm
      subst eg
      refine ⟨_, rfl, ?_⟩
      refine (mxc.mono (c_edge v.mw v.wm10 v.ewm v.nn (nI u) z) (by decide)).post ?_
      intro r k hk
      rw [if_neg (fun y => hz y.2.1)] at hk
      obtain ⟨rfl, rfl⟩ := hk
      exact ⟨rfl, v.nx (B0.rf _)⟩
  · refine (mxc.mono (k_edge0 v.sc v.wm10 v.ewc w z hc) (by decide)).post ?_
    rintro _ g ⟨rfl, eg⟩
    have eg := eg.symm
    subst eg
    refine ⟨_, rfl, ?_⟩
    refine (mxc.mono (c_edge v.mw v.wm10 v.ewm v.nn w z) (by decide)).post ?_
    intro r k hk
    rw [if_neg (fun y => hc y.1)] at hk
    obtain ⟨rfl, rfl⟩ := hk
    exact ⟨rfl, v.nx (B0.rf _)⟩
theorem pr_tried {h : mj_H} {sm jm wm tm xm km em : Nat} (v : IV h sm jm wm tm xm km em) (x : Int32) (q : Int32) : PR 92 166 [.int x, .int q] h := by
  have b := v.bb
  by_cases hc : mIn x xm
  · obtain ⟨u, hu, rfl⟩ := mIn_of hc (by have := b.1.1.1; omega)
    by_cases hq : (nI 0 ≤ q ∧ q ≤ mj_I h 33 0) ∧ mj_I h 54 u ≤ q
    · refine (mxc.mono (k_triedV v.cj b.1 hu q (by rw [v.now]; exact hq.1) hq.2) (by decide)).post ?_
      rintro _ g ⟨rfl, hR⟩
      refine ⟨_, rfl, ?_⟩
      have vg := IV_24 v hR
      refine (mxc.mono (c_tried vg.mw.1 (nI u) q b.1.2.1 vg.bb.2.2.1 b.1.1.1 vg.bb.2.1) (by decide)).post ?_
      intro r k hk
      have e1 := nI_clamp (show u < 2 ^ 31 by have := b.1.1.1; omega)
      have hcg : mIn (nI u) xm ∧ (nI 0 ≤ q ∧ q ≤ mj_I g 33 0) ∧ mj_I g 54 (nI u).toNatClampNeg ≤ q := by
        rw [e1, hR.i (by decide), hR.i (by decide)]
        exact ⟨hc, hq⟩
      rw [if_pos hcg] at hk
      obtain ⟨rfl, rfl⟩ := hk
      exact ⟨by rw [ta_rw (hR.i (by decide)) (hR.i (by decide)) (hR.i (by decide))], vg.nx ((B0.rf _).rw hR (by decide))⟩
    · have hcg : ¬ (mIn (nI u) xm ∧ (nI 0 ≤ q ∧ q ≤ mj_I h 33 0) ∧ mj_I h 54 (nI u).toNatClampNeg ≤ q) := by
        rw [nI_clamp (show u < 2 ^ 31 by have := b.1.1.1; omega)]
        exact fun y => hq y.2
      refine (mxc.mono (k_triedI v.cj b.1 hu q (by rw [v.now]; exact hq)) (by decide)).post ?_
      rintro _ g ⟨rfl, eg⟩
      have eg := eg.symm
      subst eg
      refine ⟨_, rfl, ?_⟩
      refine (mxc.mono (c_tried v.mw.1 (nI u) q b.1.2.1 b.2.2.1 b.1.1.1 b.2.1) (by decide)).post ?_
      intro r k hk
      rw [if_neg hcg] at hk
      obtain ⟨rfl, rfl⟩ := hk
      exact ⟨rfl, v.nx (B0.rf _)⟩
  · refine (mxc.mono (k_tried0 v.cj b.1 x q hc) (by decide)).post ?_
    rintro _ g ⟨rfl, eg⟩
    have eg := eg.symm
    subst eg
    refine ⟨_, rfl, ?_⟩
    refine (mxc.mono (c_tried v.mw.1 x q b.1.2.1 b.2.2.1 b.1.1.1 b.2.1) (by decide)).post ?_
    intro r k hk
    rw [if_neg (fun y => hc y.1)] at hk
    obtain ⟨rfl, rfl⟩ := hk
    exact ⟨rfl, v.nx (B0.rf _)⟩
theorem pr_odd {h : mj_H} {sm jm wm tm xm km em : Nat} (v : IV h sm jm wm tm xm km em) (q : Int32) : PR 93 167 [.int q] h := by
  have b := v.bb
  by_cases hq : (nI 0 ≤ q ∧ q ≤ mj_I h 33 0)
  · refine (mxc.mono (k_oddV v.cj b.1 v.l63 q (by rw [v.now]; exact hq)) (by decide)).post ?_
    rintro _ g ⟨rfl, g1, hR, hQ⟩
    refine ⟨_, rfl, ?_⟩
    have v1 := IV_24 v hR
    have vg := IV_cq v1 hQ
    have bg : B0 h g := by
      have b1 := (B0.rf h).rw hR (by decide)
      exact ⟨by rw [hQ.2.1]; exact b1.1, by rw [hQ.2.2.1]; exact b1.2.1, by rw [hQ.2.k]; exact b1.2.2.1, by rw [hQ.2.i (by decide)]; exact b1.2.2.2.1, by rw [hQ.2.k]; exact b1.2.2.2.2⟩
    refine (mxc.mono (c_odd vg.mw q b.1.2.1 vg.bb.2.2.1 b.1.1.1 vg.bb.2.1 (fun x hx => (vg.bb.1.1.2.2 x hx).2.2.2.2)) (by decide)).post ?_
    intro r k hk
    have ei : ∀ a, 16 < a → a ∉ [24] → mj_I g a = mj_I h a := fun a ha hn => (hQ.2.i (Or.inl ha)).trans (hR.i hn)
    have hcg : nI 0 ≤ q ∧ q ≤ mj_I g 33 0 := by rw [ei 33 (by decide) (by decide)]; exact hq
    rw [if_pos hcg] at hk
    obtain ⟨rfl, hm⟩ := hk
    exact ⟨by rw [od_rw (ei 36 (by decide) (by decide)) (ei 52 (by decide) (by decide)) (ei 53 (by decide) (by decide)) (ei 55 (by decide) (by decide)) (ei 56 (by decide) (by decide)) (ei 57 (by decide) (by decide))], (IV_mv vg hm).nx (bg.rw hm.2.1 (by decide))⟩
  · refine (mxc.mono (k_oddI v.cj b.1 q (by rw [v.now]; exact hq)) (by decide)).post ?_
    rintro _ g ⟨rfl, eg⟩
    have eg := eg.symm
    subst eg
    refine ⟨_, rfl, ?_⟩
    refine (mxc.mono (c_odd v.mw q b.1.2.1 b.2.2.1 b.1.1.1 b.2.1 (fun x hx => (b.1.1.2.2 x hx).2.2.2.2)) (by decide)).post ?_
    intro r k hk
    rw [if_neg hq] at hk
    obtain ⟨rfl, rfl⟩ := hk
    exact ⟨rfl, v.nx (B0.rf _)⟩
theorem pr_led {h : mj_H} {sm jm wm tm xm km em : Nat} (v : IV h sm jm wm tm xm km em) (q : Int32) : PR 94 168 [.int q] h := by
  have b := v.bb
  by_cases hq : (nI 0 ≤ q ∧ q ≤ mj_I h 33 0)
  · refine (mxc.mono (k_ledV v.cj b.1 v.l63 v.sm6 v.esc q (by rw [v.now]; exact hq)) (by decide)).post ?_
    rintro _ g ⟨rfl, hR⟩
    refine ⟨_, rfl, ?_⟩
    have vg := IV_24 v hR
    refine (mxc.mono (c_led vg.mw.1 q vg.jm20 v.sm6 vg.esm b.1.2.1 vg.bb.2.2.1 b.1.1.1 vg.bb.2.1 (fun x hx => (vg.bb.1.1.2.2 x hx).2.2.2.2)) (by decide)).post ?_
    intro r k hk
    have hcg : nI 0 ≤ q ∧ q ≤ mj_I g 33 0 := by rw [hR.i (by decide)]; exact hq
    rw [if_pos hcg] at hk
    obtain ⟨rfl, rfl⟩ := hk
    exact ⟨by rw [lf_rw (hR.i (by decide)) (hR.i (by decide)) (hR.i (by decide)) (hR.i (by decide)) (hR.i (by decide)) (hR.i (by decide))], vg.nx ((B0.rf _).rw hR (by decide))⟩
  · refine (mxc.mono (k_ledI v.cj b.1 q (by rw [v.now]; exact hq)) (by decide)).post ?_
    rintro _ g ⟨rfl, eg⟩
    have eg := eg.symm
    subst eg
    refine ⟨_, rfl, ?_⟩
    refine (mxc.mono (c_led v.mw.1 q v.jm20 v.sm6 v.esm b.1.2.1 b.2.2.1 b.1.1.1 b.2.1 (fun x hx => (b.1.1.2.2 x hx).2.2.2.2)) (by decide)).post ?_
    intro r k hk
    rw [if_neg hq] at hk
    obtain ⟨rfl, rfl⟩ := hk
    exact ⟨rfl, v.nx (B0.rf _)⟩
theorem pr_order {h : mj_H} {sm jm wm tm xm km em : Nat} (v : IV h sm jm wm tm xm km em) (i : Int32) : PR 97 173 [.int i] h := by
  have l := v.ll
  by_cases hi : (-1 ≤ i ∧ i ≤ nI em - nI 1) ∧ ¬ em = 0
  · refine (mxc.mono (k_orderV v.cj l.1 v.l63 l.2.2.1 l.2.2.2 i hi.1 hi.2) (by decide)).post ?_
    rintro _ g ⟨x, hx, rfl, q⟩
    refine ⟨_, rfl, ?_⟩
    obtain ⟨vg, bg⟩ := IV_oe v q
    have ei : ∀ a, a = 58 ∨ a = 59 → mj_I g a = mj_I h a := fun a ha => by
      obtain ⟨_, ⟨Rt, _, h6, e⟩, _⟩ := q
      exact ef_i e v.l63 (by omega) (by simp; omega)
    have ec : chg g = chg h := by funext a c; exact chg_to (ei 58 (by simp)) (ei 59 (by simp)) a c
    refine (mxc.mono (c_order vg.mw l.1.1 vg.ll.2.1 (fun a ha => (vg.ll.1.2.2 a ha).2.2) i) (by decide)).post ?_
    intro r k hk
    rw [if_pos hi, ec] at hk
    obtain ⟨y, hy, rfl, hm⟩ := hk
    exact ⟨by rw [OS_one hx hy], (IV_sq vg hm).nx (bg.rw hm.2.1 (by decide))⟩
  · refine (mxc.mono (k_orderI v.sc l.1 i hi) (by decide)).post ?_
    rintro _ g ⟨rfl, eg⟩
    have eg := eg.symm
    subst eg
    refine ⟨_, rfl, ?_⟩
    refine (mxc.mono (c_order v.mw l.1.1 l.2.1 (fun a ha => (l.1.2.2 a ha).2.2) i) (by decide)).post ?_
    intro r k hk
    rw [if_neg hi] at hk
    obtain ⟨rfl, rfl⟩ := hk
    exact ⟨rfl, v.nx (B0.rf _)⟩
theorem pr_count {h : mj_H} {sm jm wm tm xm km em : Nat} (v : IV h sm jm wm tm xm km em) (w : Int32) : PR 98 174 [.int w] h := by
  refine (mxc.mono (k_count v.sc w) (by decide)).post ?_
  rintro _ g ⟨rfl, eg⟩
  have eg := eg.symm
  subst eg
  refine ⟨_, rfl, ?_⟩
  refine (mxc.mono (c_count v.mw.1 w) (by decide)).post ?_
  rintro _ k ⟨rfl, ek⟩
  have ek := ek.symm
  subst ek
  refine ⟨?_, v.nx (B0.rf _)⟩
  rw [v.now, v.esc, v.ejc, v.ewc, v.tp.2.2.1, v.bb.1.1.2.1, v.ll.1.2.1, v.esm, v.ejm, v.ewm, v.tp.2.1, v.bb.2.1, v.ll.2.1]
  rfl
theorem pr_setting {h : mj_H} {sm jm wm tm xm km em : Nat} (v : IV h sm jm wm tm xm km em) (t : Int32) (p : Int32) (l : Int32) : PR 73 123 [.int t, .int p, .int l] h := by
  refine (mxc.mono (k_setting v.sc t p l) (by decide)).post ?_
  intro r g hg
  by_cases hc : (1 ≤ t ∧ t ≤ 9) ∧ (1 ≤ p ∧ p ≤ 9) ∧ (1 ≤ l ∧ l ≤ 9)
  · rw [if_pos hc] at hg
    obtain ⟨rfl, eg⟩ := hg
    have eg := eg.symm
    subst eg
    refine ⟨_, rfl, ?_⟩
    refine (mxc.mono (c_setting v.mw.1 t p l) (by decide)).post ?_
    intro r k hk
    rw [if_pos hc] at hk
    obtain ⟨rfl, rfl⟩ := hk
    exact ⟨rfl, v.nx (B0.rf _)⟩
  · rw [if_neg hc] at hg
    obtain ⟨rfl, eg⟩ := hg
    have eg := eg.symm
    subst eg
    refine ⟨_, rfl, ?_⟩
    refine (mxc.mono (c_setting v.mw.1 t p l) (by decide)).post ?_
    intro r k hk
    rw [if_neg hc] at hk
    obtain ⟨rfl, rfl⟩ := hk
    exact ⟨rfl, v.nx (B0.rf _)⟩
