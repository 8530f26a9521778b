/-! CALLS that make: windows -/
theorem win_pt {h k : mj_H} (e36 : mj_I k 36 = mj_I h 36) {w : Nat} (e45 : mj_I k 45 w = mj_I h 45 w) (e46 : ∀ a, a < 3 → mj_I k 46 (3 * w + a) = mj_I h 46 (3 * w + a)) (e47 : ∀ a, a < 3 → mj_I k 47 (3 * w + a) = mj_I h 47 (3 * w + a)) : wj k w = wj h w ∧ (∀ a, a < 3 → wlo k w a = wlo h w a ∧ whi k w a = whi h w a ∧ Wd k w a = Wd h w a) ∧ wg k w = wg h w := by
  have ej : wj k w = wj h w := by unfold wj; rw [e45]
  have el : ∀ a, a < 3 → wlo k w a = wlo h w a := fun a ha => by unfold wlo; rw [e46 a ha]
  have eh : ∀ a, a < 3 → whi k w a = whi h w a := fun a ha => by unfold whi; rw [e47 a ha]
  refine ⟨ej, fun a ha => ⟨el a ha, eh a ha, by unfold Wd; rw [el a ha, eh a ha]⟩, ?_⟩
  funext t p l
  unfold wg wz
  rw [ej, el 0 (by decide), el 1 (by decide), el 2 (by decide), vd_eq e36]
theorem zz_cg {L L' : Nat → Nat} (e : ∀ a, a < 3 → L a = L' a) (t p l : Nat) : zz L t p l = zz L' t p l := by
  unfold zz
  rw [e 0 (by decide), e 1 (by decide), e 2 (by decide)]
theorem GB_cg {G : Gd} {L L' W W' : Nat → Nat} (eL : ∀ a, a < 3 → L a = L' a) (eW : ∀ a, a < 3 → W a = W' a) {x : Nat × Nat × Nat} (h : GB G L W x) : GB G L' W' x := by
  have eB : ∀ a b c d e f, BX W a b c d e f ↔ BX W' a b c d e f := fun a b c d e f => by unfold BX; rw [eW 0 (by decide), eW 1 (by decide), eW 2 (by decide)]
  have eK : ∀ a b c d e f, kbx L a b c d e f = kbx L' a b c d e f := fun a b c d e f => by unfold kbx; rw [zz_cg eL, zz_cg eL]
  refine ⟨?_, fun a b c d e f hB hg => by rw [← eK]; exact h.2 a b c d e f ((eB a b c d e f).mpr hB) hg⟩
  rcases h.1 with q | ⟨a, b, c, d, e, f, q1, q2, q3⟩
  · exact Or.inl q
  · exact Or.inr ⟨a, b, c, d, e, f, (eB a b c d e f).mp q1, q2, (eK a b c d e f).symm.trans q3⟩
theorem zz_pt {z : Nat} : 81 * mm_pt z 0 + 9 * mm_pt z 1 + mm_pt z 2 = z := by
  have a0 : mm_pt z 0 = z / 81 := rfl
  have a1 : mm_pt z 1 = z / 9 % 9 := rfl
  have a2 : mm_pt z 2 = z % 9 := rfl
  omega
theorem pr_window {h : mj_H} {sm jm wm tm xm km em : Nat} (v : IV h sm jm wm tm xm km em) (x y z : Int32) : PR 78 138 [.int x, .int y, .int z] h := by
  have h63 := v.l63
  have h10 := v.wm10
  have h20 := v.jm20
  by_cases hc : mIn x jm ∧ mIn y 729 ∧ mIn z 729 ∧ ¬ wm = 10 ∧ wsp y.toNatClampNeg z.toNatClampNeg 0 ∧ wsp y.toNatClampNeg z.toNatClampNeg 1 ∧ wsp y.toNatClampNeg z.toNatClampNeg 2
  · obtain ⟨a, ha, rfl⟩ := mIn_of hc.1 (by omega)
    obtain ⟨f, hf, rfl⟩ := mIn_of hc.2.1 (by decide)
    obtain ⟨t, ht, rfl⟩ := mIn_of hc.2.2.1 (by decide)
    have ef := nI_clamp (show f < 2 ^ 31 by omega)
    have et := nI_clamp (show t < 2 ^ 31 by omega)
    have hc2 := hc.2.2.2
    rw [ef, et, wsp_iff hf ht, wsp_iff hf ht, wsp_iff hf ht] at hc2
    obtain ⟨hw10, p0, p1, p2⟩ := hc2
    have hsp : ∀ q, q < 3 → mm_pt f q ≤ mm_pt t q ∧ mm_pt t q ≤ mm_pt f q + 5 := fun q hq => by
      rcases (by omega : q = 0 ∨ q = 1 ∨ q = 2) with rfl | rfl | rfl
      · exact p0
      · exact p1
      · exact p2
    refine (mxc.mono (k_windowV v.cj h20 v.ejc h63 ha hf ht (show wm < 10 by omega) v.ewc hsp) (by decide)).post ?_
    rintro _ g ⟨rfl, eg⟩
    refine ⟨_, rfl, ?_⟩
    obtain ⟨g0, eg0⟩ : ∃ g0, g0 = mj_setR (mj_setI (mj_setI (mj_setR (mj_new h 9 7) h.1 0 (some (jA h a))) h.1 1 (nI f)) h.1 2 (nI t)) 11 wm (some h.1) := ⟨_, rfl⟩
    rw [← eg0] at eg
    have nw : Nw h g0 := by rw [eg0]; exact ((((new_nw h 9 7).setR (by simp)).setI (by omega)).setI (by omega)).setR (by simp)
    have C0 : SC g0 := by rw [eg0]; exact SC_setR (C := (SC_new v.sc h63 9 7 |> fun c => SC_setRd c (by omega) |> fun c => (Rw.sc (((Rw.rf _ [h.1]).set (by simp)).set (by simp)) c (fun q hq z => by simp only [List.mem_cons, List.not_mem_nil, or_false] at z; omega)))) (fun e he q => ccR_n e he (by simp [q.1]))
    have c0 : CJ g0 jm := CJ_nw v.cj nw h63 C0
    have l0 : g0.1 = h.1 + 1 := by rw [eg0]; rfl
    have s0 : g0.2.1 = h.2.1 + 7 := by rw [eg0]; rfl
    have rg : Rw g0 g [8] := by rw [eg]; exact (Rw.rf _ _).set (by decide)
    have cg : CJ g jm := CJ_rw c0 rg (Fr_lt c0.2.2.1 (by decide))
    have r0 : ∀ x i, x < h.1 → ¬ (x = 11 ∧ i = wm) → mj_R g x i = mj_R h x i := fun x i hx hn => by
      rw [rg.2.2.2.2.1, eg0, mj_R_set]
      by_cases q : x = 11
      · rw [if_pos q, if_neg (fun w => hn ⟨q, w⟩), mj_R_setI, mj_R_setI, mj_R_other (by omega), mj_R_new (by omega)]
      · rw [if_neg q, mj_R_setI, mj_R_setI, mj_R_other (by omega), mj_R_new (by omega)]
    have e1 : EF [8] [(11, wm)] h g := ⟨by rw [rg.1, l0]; omega, fun x hx => by rw [rg.2.2.1]; exact nw.2.1 x hx, fun x hx hn => by rw [rg.i hn]; exact nw.2.2.1 x hx, fun x hx i hn => r0 x i hx (fun q => hn (by rw [q.1, q.2]; simp)), fun x _ hx => by rw [rg.2.2.2.1]; exact nw.2.2.2.1 x hx⟩
    have gi : ∀ q, q < 63 → q ≠ 8 → mj_I g q = mj_I h q := fun q hq hn => ef_i e1 h63 hq (by simp; omega)
    refine (mxc.mono (c_window (h := g) (MW_ef v.mw e1 h63 (by decide) (by simp)).1 (nI a) (nI f) (nI t) h20 (by rw [gi 33 (by decide) (by decide)]; exact v.ejm) h10 (by rw [gi 33 (by decide) (by decide)]; exact v.ewm)) (by decide)).post ?_
    intro r k hk
    rw [if_pos hc, ef, et] at hk
    obtain ⟨rfl, ek⟩ := hk
    have r2 : Rw g k [33, 45, 46, 47] := by rw [ek]; exact ((((((((Rw.rf g _).set (by decide)).set (by decide)).set (by decide)).set (by decide)).set (by decide)).set (by decide)).set (by decide)).set (by decide)
    have e2 : EF [8, 33, 45, 46, 47] [(11, wm)] h k := (e1.mono (fun x _ q => by simp only [List.mem_cons, List.not_mem_nil, or_false] at q ⊢; omega) (fun x _ q => q)).trans ((r2.ef [(11, wm)]).mono (fun x _ q => by simp only [List.mem_cons, List.not_mem_nil, or_false] at q ⊢; omega) (fun x _ q => q))
    have ki : ∀ q, q < 63 → q ∉ [8, 33, 45, 46, 47] → mj_I k q = mj_I h q := fun q hq hn => ef_i e2 h63 hq hn
    have i33 : ∀ q, ¬ q = 21 → mj_I k 33 q = mj_I h 33 q := fun q hq => by rw [ek, mj_I_ne hq, mj_I_other (by decide), mj_I_other (by decide), mj_I_other (by decide), mj_I_other (by decide), mj_I_other (by decide), mj_I_other (by decide), mj_I_other (by decide), gi 33 (by decide) (by decide)]
    have k45 : ∀ q, mj_I k 45 q = if q = wm then nI a else mj_I h 45 q := fun q => by rw [ek, mj_I_other (by decide), mj_I_other (by decide), mj_I_other (by decide), mj_I_other (by decide), mj_I_other (by decide), mj_I_other (by decide), mj_I_other (by decide)]; exact mj_I_if rfl (congrFun (gi 45 (by decide) (by decide)) q)
    have k46 : ∀ w q, q < 3 → mj_I k 46 (3 * w + q) = if w = wm then nI (mm_pt f q + 1) else mj_I h 46 (3 * w + q) := fun w q hq => by
      rw [ek, mj_I_other (by decide), mj_I_other (by decide)]
      by_cases e : w = wm
      · subst e
        rw [if_pos rfl]
        rcases (by omega : q = 0 ∨ q = 1 ∨ q = 2) with rfl | rfl | rfl
        · rw [mj_I_ne (by omega), mj_I_other (by decide), mj_I_ne (by omega), mj_I_other (by decide)]; exact mj_I_at _ _ _ _
        · rw [mj_I_ne (by omega), mj_I_other (by decide)]; exact mj_I_at _ _ _ _
        · exact mj_I_at _ _ _ _
      · rw [if_neg e, mj_I_ne (by omega), mj_I_other (by decide), mj_I_ne (by omega), mj_I_other (by decide), mj_I_ne (by omega), mj_I_other (by decide), gi 46 (by decide) (by decide)]
    have k47 : ∀ w q, q < 3 → mj_I k 47 (3 * w + q) = if w = wm then nI (mm_pt t q + 1) else mj_I h 47 (3 * w + q) := fun w q hq => by
      rw [ek, mj_I_other (by decide)]
      by_cases e : w = wm
      · subst e
        rw [if_pos rfl]
        rcases (by omega : q = 0 ∨ q = 1 ∨ q = 2) with rfl | rfl | rfl
        · rw [mj_I_ne (by omega), mj_I_other (by decide), mj_I_ne (by omega), mj_I_other (by decide)]; exact mj_I_at _ _ _ _
        · rw [mj_I_ne (by omega), mj_I_other (by decide)]; exact mj_I_at _ _ _ _
        · exact mj_I_at _ _ _ _
      · rw [if_neg e, mj_I_ne (by omega), mj_I_other (by decide), mj_I_ne (by omega), mj_I_other (by decide), mj_I_ne (by omega), mj_I_other (by decide), mj_I_other (by decide), gi 47 (by decide) (by decide)]
    have lk : k.1 = h.1 + 1 := by rw [r2.1, rg.1, l0]
    have ejA : ∀ q, jA k q = jA h q := fun q => by unfold jA; rw [ef_r e2 h63 (by decide) (by simp)]
    have k11 : mj_R k 11 wm = some h.1 := by rw [r2.2.2.2.2.1, rg.2.2.2.2.1, eg0]; exact mj_R_at _ _ _ _
    have kK : mj_K k h.1 = (9, 7) := by rw [r2.2.2.1, rg.2.2.1, eg0]; exact mj_K_newA h 9 7
    have kR : ∀ i, ¬ i = 0 → mj_R k h.1 i = none := fun i hi => by rw [r2.2.2.2.2.1, rg.2.2.2.2.1, eg0, mj_R_other (by omega), mj_R_setI, mj_R_setI, mj_R_ne hi]; exact mj_R_newA h 9 7 i
    have kR0 : mj_R k h.1 0 = some (jA h a) := by rw [r2.2.2.2.2.1, rg.2.2.2.2.1, eg0, mj_R_other (by omega), mj_R_setI, mj_R_setI]; exact mj_R_at _ _ _ _
    have kI : ∀ i, ¬ i = 1 → ¬ i = 2 → mj_I k h.1 i = 0 := fun i h1 h2 => by rw [r2.i (by simp; omega), rg.i (by simp; omega), eg0, mj_I_setR, mj_I_ne h2, mj_I_ne h1, mj_I_setR]; exact mj_I_newA h 9 7 i
    have kI1 : mj_I k h.1 1 = nI f := by rw [r2.i (by simp; omega), rg.i (by simp; omega), eg0, mj_I_setR, mj_I_ne (by decide)]; exact mj_I_at _ _ _ _
    have kI2 : mj_I k h.1 2 = nI t := by rw [r2.i (by simp; omega), rg.i (by simp; omega), eg0, mj_I_setR]; exact mj_I_at _ _ _ _
    have wAn : wA k wm = h.1 := by unfold wA; rw [k11]; rfl
    have ewA : ∀ u, u < wm → wA k u = wA h u := fun u hu => by unfold wA; rw [ef_r e2 h63 (by decide) (by simp; omega)]
    refine ⟨rfl, IV.nx (sm := sm) (jm := jm) (wm := wm + 1) (tm := tm) (xm := xm) (km := km) (em := em) ⟨MW_rw (MW_ef v.mw e1 h63 (by decide) (by simp)) r2 (by decide), CJ_rw cg r2 (Fr_lt cg.2.2.1 (by decide)), Nat.le_trans h63 e2.1, ?_, al_SS v.2.2.2.2.1 h63 e2 (by decide) (by simp), ⟨fun u hu => ?_, fun u u' hu hu' => ?_, PV_ef v.pv e2 h63 (by simp)⟩, TP_i v.tp (ki 20 (by decide) (by decide)) (ki 21 (by decide) (by decide)) (ki 51 (by decide) (by decide)) (i33 28 (by decide)), al_BB v.bb h63 e2 (by decide) (by simp) (i33 40 (by decide)) (i33 41 (by decide)) (i33 0 (by decide)), LL_i v.ll e2 h63 (by decide) (by simp) (i33 46 (by decide))⟩ (B0.ef e2 h63 (by decide) (by omega) (by rw [r2.2.1, rg.2.1, s0]; omega))⟩
    · have hv := v.2.2.2.1
      have g8i : ∀ q, ¬ q = 12 → mj_I k 8 q = mj_I h 8 q := fun q hq => by rw [r2.i (by decide), eg, mj_I_ne hq]; exact congrFun (nw.2.2.1 8 (by omega)) q
      unfold CO
      rw [i33 7 (by decide), i33 8 (by decide), i33 0 (by decide), g8i 10 (by decide), g8i 11 (by decide), g8i 9 (by decide)]
      exact ⟨hv.1, hv.2.1, ⟨by omega, by rw [ek]; exact mj_I_at _ _ _ _, by rw [r2.i (by decide), eg]; exact mj_I_at _ _ _ _⟩, hv.2.2.2⟩
    · by_cases e : u = wm
      · subst e
        have m0 := mm_pt_lt f 0 hf
        have m1 := mm_pt_lt f 1 hf
        have m2 := mm_pt_lt f 2 hf
        have n0 := mm_pt_lt t 0 ht
        have n1 := mm_pt_lt t 1 ht
        have n2 := mm_pt_lt t 2 ht
        have ej : wj k u = a := by unfold wj; rw [k45, if_pos rfl, nI_clamp (by omega)]
        have mf : ∀ q, q < 3 → mm_pt f q < 9 := fun q hq => mm_pt_lt f q hf
        have mt : ∀ q, q < 3 → mm_pt t q < 9 := fun q hq => mm_pt_lt t q ht
        have el : ∀ q, q < 3 → wlo k u q = mm_pt f q + 1 := fun q hq => by unfold wlo; rw [k46 u q hq, if_pos rfl, nI_clamp (by have := mf q hq; omega)]
        have eh : ∀ q, q < 3 → whi k u q = mm_pt t q + 1 := fun q hq => by unfold whi; rw [k47 u q hq, if_pos rfl, nI_clamp (by have := mt q hq; omega)]
        have eW : ∀ q, q < 3 → Wd k u q = mm_pt t q - mm_pt f q := fun q hq => by unfold Wd; rw [el q hq, eh q hq]; omega
        have hN : WN k u jm := by
          unfold WN
          rw [ej, k45, if_pos rfl]
          refine ⟨rfl, ha, fun q hq => ?_⟩
          have := hsp q hq
          have := mf q hq
          have := mt q hq
          rw [el q hq, eh q hq, k46 u q hq, k47 u q hq, if_pos rfl, if_pos rfl]
          exact ⟨rfl, rfl, by omega, by omega, by omega, by omega⟩
        refine ⟨?_, Or.inl ?_⟩
        · unfold WC
          rw [wAn, ej, k11, kK, kR0, kI1, kI2, ejA]
          refine ⟨⟨rfl, rfl, h63, by omega⟩, rfl, ?_, ?_, hN⟩
          · unfold zz
            rw [el 0 (by decide), el 1 (by decide), el 2 (by decide)]
            congr 1
            have := zz_pt (z := f)
            omega
          · unfold zz
            rw [el 0 (by decide), el 1 (by decide), el 2 (by decide), eW 0 (by decide), eW 1 (by decide), eW 2 (by decide)]
            congr 1
            have := zz_pt (z := t)
            omega
        · rw [wAn, kR 3 (by decide), kI 4 (by decide) (by decide), kI 5 (by decide) (by decide), kI 6 (by decide) (by decide)]
          exact ⟨rfl, rfl, rfl, rfl⟩
      · have hu' : u < wm := by omega
        obtain ⟨k1, k2⟩ := v.win hu'
        have hl := k1.1.2.2.2
        have h6 := k1.1.2.2.1
        obtain ⟨ej, ea, eg'⟩ := win_pt (w := u) (ki 36 (by decide) (by decide)) (by rw [k45, if_neg e]) (fun q hq => by rw [k46 u q hq, if_neg e]) (fun q hq => by rw [k47 u q hq, if_neg e])
        have er : mj_R k 11 u = mj_R h 11 u := ef_r e2 h63 (by decide) (by simp; omega)
        have iA : mj_I k (wA h u) = mj_I h (wA h u) := e2.2.2.1 _ hl (by simp; omega)
        have rA : ∀ i, mj_R k (wA h u) i = mj_R h (wA h u) i := fun i => e2.2.2.2.1 _ hl i (by simp; omega)
        have eZ0 : zz (wlo k u) 0 0 0 = zz (wlo h u) 0 0 0 := zz_cg (fun q hq => (ea q hq).1) 0 0 0
        have eZ1 : zz (wlo k u) (Wd k u 0) (Wd k u 1) (Wd k u 2) = zz (wlo h u) (Wd h u 0) (Wd h u 1) (Wd h u 2) := by rw [zz_cg (fun q hq => (ea q hq).1), (ea 0 (by decide)).2.2, (ea 1 (by decide)).2.2, (ea 2 (by decide)).2.2]
        have ePW : PW k u = PW h u := by unfold PW; rw [eg', (ea 0 (by decide)).2.2, (ea 1 (by decide)).2.2, (ea 2 (by decide)).2.2]
        have hN : WN k u jm := by
          have n := k1.2.2.2.2
          unfold WN
          rw [ej, k45, if_neg e]
          refine ⟨n.1, n.2.1, fun q hq => ?_⟩
          rw [(ea q hq).1, (ea q hq).2.1, k46 u q hq, k47 u q hq, if_neg e, if_neg e]
          exact n.2.2 q hq
        refine ⟨?_, ?_⟩
        · unfold WC
          rw [ewA u hu', ej, eZ0, eZ1, er, e2.2.1 _ hl, rA 0, iA, ejA]
          exact ⟨⟨k1.1.1, k1.1.2.1, h6, by omega⟩, k1.2.1, k1.2.2.1, k1.2.2.2.1, hN⟩
        · rcases k2 with q | ⟨Y, q⟩
          · left
            rw [ewA u hu', rA, iA]
            exact q
          · right
            obtain ⟨d1, d2, d3, d4, d5, x, d6, d7⟩ := q
            have iY : mj_I k Y = mj_I h Y := e2.2.2.1 _ d4 (by simp; omega)
            refine ⟨Y, ?_⟩
            unfold RowD
            rw [ewA u hu', ePW, rA, e2.2.1 _ d4, iY]
            refine ⟨d1, d2, d3, by omega, d5, x, ?_, ?_⟩
            · unfold BSw at d6 ⊢
              rw [iA]
              exact d6
            · rw [eg']
              exact GB_cg (fun q hq => (ea q hq).1.symm) (fun q hq => (ea q hq).2.2.symm) d7
    · by_cases q1 : u = wm
      · by_cases q2 : u' = wm
        · intro _; omega
        · rw [q1, wAn, ewA u' (by omega)]
          intro z
          have := (v.win (show u' < wm by omega)).1.1.2.2.2
          omega
      · by_cases q2 : u' = wm
        · rw [q2, wAn, ewA u (by omega)]
          intro z
          have := (v.win (show u < wm by omega)).1.1.2.2.2
          omega
        · rw [ewA u (by omega), ewA u' (by omega)]
          exact v.2.2.2.2.2.1.2.1 u u' (by omega) (by omega)
  · have hcl : mxc 1 78 [.ref 8, .int x, .int y, .int z] h (fun r h' => r = some (.int (-1)) ∧ h' = h) := by
      by_cases hx : mIn x jm
      · obtain ⟨a, ha, rfl⟩ := mIn_of hx (by omega)
        by_cases hy : mIn y 729
        · obtain ⟨f, hf, rfl⟩ := mIn_of hy (by decide)
          by_cases hz : mIn z 729
          · obtain ⟨t, ht, rfl⟩ := mIn_of hz (by decide)
            by_cases hw : wm = 10
            · exact k_window3 v.cj h20 v.ejc h10 v.ewc ha hf ht hw
            · refine k_window4 v.cj h20 v.ejc h10 v.ewc ha hf ht hw (fun q => hc ?_)
              rw [nI_clamp (show f < 2 ^ 31 by omega), nI_clamp (show t < 2 ^ 31 by omega), wsp_iff hf ht, wsp_iff hf ht, wsp_iff hf ht]
              exact ⟨hx, hy, hz, hw, q 0 (by decide), q 1 (by decide), q 2 (by decide)⟩
          · exact k_window2 v.cj h20 v.ejc h10 v.ewc ha hf z hz
        · exact k_window1 v.cj h20 v.ejc h10 v.ewc ha y z hy
      · exact k_window0 v.cj h20 v.ejc h10 v.ewc x y z hx
    refine (mxc.mono hcl (by decide)).post ?_
    rintro _ g ⟨rfl, eg⟩
    have eg := eg.symm
    subst eg
    refine ⟨_, rfl, ?_⟩
    refine (mxc.mono (c_window v.mw.1 x y z h20 v.ejm h10 v.ewm) (by decide)).post ?_
    intro r k hk
    rw [if_neg hc] at hk
    obtain ⟨rfl, rfl⟩ := hk
    exact ⟨rfl, v.nx (B0.rf _)⟩
