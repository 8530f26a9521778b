/-! CALLS that make: joints -/
theorem ccR_n : ∀ e ∈ cc_R, ¬ e.1 ∈ [9, 10, 11, 23] := by decide
theorem al_SS {is : List Nat} {rs : List (Nat × Nat)} {h k : mj_H} {sm : Nat} (w : SSs h sm) (h63 : 63 ≤ h.1) (e : EF is rs h k) (hs : ∀ a ∈ is, a < 63 ∧ a ≠ 34 ∧ a ≠ 35) (hr : ∀ x ∈ rs, x.1 < 63 ∧ x.1 ≠ 9) : SSs k sm := SS_ef w e h63 (fun a ha _ => ⟨(hs a ha).2.1, (hs a ha).2.2, fun z => by have := (hs a ha).1; omega⟩) (fun x hx _ => ⟨(hr x hx).2, fun z => by have := (hr x hx).1; omega⟩)
theorem al_WW {is : List Nat} {rs : List (Nat × Nat)} {h k : mj_H} {wm jm : Nat} (w : WWs h wm jm) (h63 : 63 ≤ h.1) (e : EF is rs h k) (hs : ∀ a ∈ is, a < 63 ∧ a ∉ [36, 45, 46, 47]) (hr : ∀ x ∈ rs, x.1 < 63 ∧ x.1 ∉ [8, 10, 11]) : WWs k wm jm := by
  have hr' : ∀ x ∈ rs, x.1 < 63 ∧ x.1 ≠ 8 ∧ x.1 ≠ 10 ∧ x.1 ≠ 11 := fun x hx => by have := hr x hx; simp only [List.mem_cons, List.not_mem_nil, or_false] at this; omega
  refine ⟨fun u hu => ?_, fun u u' hu hu' => ?_, PV_ef w.2.2 e h63 (fun x hx _ => ⟨(hr' x hx).2.1, fun z => by have := (hr' x hx).1; omega⟩)⟩
  · have ku := (w.1 u hu).1.1.2.2.1
    have q := WC_ef w.1 e h63 (fun a ha _ => by have := (hs a ha).2; simp only [List.mem_cons, List.not_mem_nil, or_false] at this; omega) (fun x hx _ => (hr' x hx).2.2) hu (fun z => by have := (hs _ z).1; omega) (fun i z => by have := (hr' _ z).1; dsimp only at this; omega) (fun Y h6 _ _ z => by have := (hs _ z).1; omega)
    exact ⟨q.1, q.2.1⟩
  · have eA : ∀ u, wA k u = wA h u := fun u => by unfold wA; rw [ef_r e h63 (by decide) (fun z => (hr' _ z).2.2.2 rfl)]
    rw [eA, eA]
    exact w.2.1 u u' hu hu'
theorem al_BB {is : List Nat} {rs : List (Nat × Nat)} {h k : mj_H} {jm xm km : Nat} (b : BBs h jm xm km) (h63 : 63 ≤ h.1) (e : EF is rs h k) (hs : ∀ a ∈ is, a < 63 ∧ a ∉ [22, 25, 26, 27, 52, 53, 54, 55, 56, 57]) (hr : ∀ x ∈ rs, x.1 < 63 ∧ x.1 ≠ 23 ∧ x.1 ≠ 10) (e40 : mj_I k 33 40 = mj_I h 33 40) (e41 : mj_I k 33 41 = mj_I h 33 41) (e0 : mj_I k 33 0 = mj_I h 33 0) : BBs k jm xm km :=
  ⟨BK_to b.1 h63 e (fun a ha => ⟨(hs a ha).2, fun z => by have := (hs a ha).1; omega⟩) (fun x hx => ⟨(hr x hx).2.1, (hr x hx).2.2, fun z => by have := (hr x hx).1; omega⟩), e40.trans b.2.1, e41.trans b.2.2.1, fun i hi => by rw [ef_i e h63 (by decide) (fun z => (hs 57 z).2 (by decide)), e0]; exact b.2.2.2 i hi⟩
theorem pr_joint {h : mj_H} {sm jm wm tm xm km em : Nat} (v : IV h sm jm wm tm xm km em) (j s : Int32) : PR 90 163 [.int j, .int s] h := by
  have b := v.bb
  have h60 := b.1.1.1
  have h63 := v.l63
  by_cases hc : mIn j jm ∧ mIn s 729
  · obtain ⟨a, ha, rfl⟩ := mIn_of hc.1 (by have := v.jm20; omega)
    obtain ⟨z, hz, rfl⟩ := mIn_of hc.2 (by decide)
    by_cases he : xm = 60
    · refine (mxc.mono (k_jointF v.cj v.jm20 v.ejc ha hz (by rw [b.1.1.2.1, he])) (by decide)).post ?_
      rintro _ g ⟨rfl, eg⟩
      have eg := eg.symm
      subst eg
      refine ⟨_, rfl, ?_⟩
      refine (mxc.mono (c_joint v.mw.1 (nI a) (nI z) v.jm20 v.ejm h60 b.2.1) (by decide)).post ?_
      intro r k hk
      rw [if_neg (fun y => y.2 he)] at hk
      obtain ⟨rfl, rfl⟩ := hk
      exact ⟨rfl, v.nx (B0.rf _)⟩
    · refine (mxc.mono (k_jointV v.cj v.jm20 v.ejc h63 ha hz (show xm < 60 by omega) b.1.1.2.1) (by decide)).post ?_
      rintro _ g ⟨rfl, eg⟩
      refine ⟨_, rfl, ?_⟩
      obtain ⟨g0, eg0⟩ : ∃ g0, g0 = mj_setR (mj_setI (mj_setI (mj_setR (mj_new h 4 3) h.1 0 (some (jA h a))) h.1 1 (nI z)) h.1 2 (mj_I h 8 9)) 23 xm (some h.1) := ⟨_, rfl⟩
      rw [← eg0] at eg
      have nw : Nw h g0 := by rw [eg0]; exact ((((new_nw h 4 3).setR (by simp)).setI (by omega)).setI (by omega)).setR (by simp)
      have C0 : SC g0 := by rw [eg0]; exact SC_setR (C := (SC_new v.sc h63 4 3 |> fun c => SC_setRd c (by omega) |> fun c => (Rw.sc (((Rw.rf _ [h.1]).set (by simp)).set (by simp)) c (fun q hq z => by simp only [List.mem_cons, List.not_mem_nil, or_false] at z; omega)))) (fun e he q => ccR_n e he (by simp [q.1]))
      have c0 : CJ g0 jm := CJ_nw v.cj nw h63 C0
      have l0 : g0.1 = h.1 + 1 := by rw [eg0]; rfl
      have s0 : g0.2.1 = h.2.1 + 3 := by rw [eg0]; rfl
      have rg : Rw g0 g [22] := by rw [eg]; exact (Rw.rf _ _).set (by decide)
      have cg : CJ g jm := CJ_rw c0 rg (Fr_lt c0.2.2.1 (by decide))
      have r0 : ∀ x i, x < h.1 → ¬ (x = 23 ∧ i = xm) → mj_R g x i = mj_R h x i := fun x i hx hn => by
        rw [rg.2.2.2.2.1, eg0, mj_R_set]
        by_cases q : x = 23
        · rw [if_pos q, if_neg (fun w => hn ⟨q, w⟩), mj_R_setI, mj_R_setI, mj_R_other (by omega), mj_R_new (by omega)]
        · rw [if_neg q, mj_R_setI, mj_R_setI, mj_R_other (by omega), mj_R_new (by omega)]
      have e1 : EF [22] [(23, xm)] h g := ⟨by rw [rg.1, l0]; omega, fun x hx => by rw [rg.2.2.1]; exact nw.2.1 x hx, fun x hx hn => by rw [rg.i hn]; exact nw.2.2.1 x hx, fun x hx i hn => r0 x i hx (fun q => hn (by rw [q.1, q.2]; simp)), fun x _ hx => by rw [rg.2.2.2.1]; exact nw.2.2.2.1 x hx⟩
      have g33 : mj_I g 33 = mj_I h 33 := e1.2.2.1 33 (by omega) (by decide)
      refine (mxc.mono (c_joint (h := g) (MW_ef v.mw e1 h63 (by decide) (by simp)).1 (nI a) (nI z) v.jm20 (by rw [g33]; exact v.ejm) h60 (by rw [g33]; exact b.2.1)) (by decide)).post ?_
      intro r k hk
      rw [if_pos ⟨hc, he⟩, g33] at hk
      obtain ⟨rfl, ek⟩ := hk
      have r2 : Rw g k [33, 52, 53, 54] := by rw [ek]; exact ((((Rw.rf g _).set (by decide)).set (by decide)).set (by decide)).set (by decide)
      have e2 : EF [22, 33, 52, 53, 54] [(23, xm)] h k := (e1.mono (fun x _ q => by simp only [List.mem_cons, List.not_mem_nil, or_false] at q ⊢; omega) (fun x _ q => q)).trans ((r2.ef [(23, xm)]).mono (fun x _ q => by simp only [List.mem_cons, List.not_mem_nil, or_false] at q ⊢; omega) (fun x _ q => q))
      have i33 : ∀ q, ¬ q = 40 → mj_I k 33 q = mj_I h 33 q := fun q hq => by rw [ek, mj_I_ne hq, mj_I_other (by decide), mj_I_other (by decide), mj_I_other (by decide), g33]
      have ki : ∀ q, q < 63 → q ∉ [22, 33, 52, 53, 54] → mj_I k q = mj_I h q := fun q hq hn => ef_i e2 h63 hq hn
      have k52 : ∀ q, mj_I k 52 q = if q = xm then nI a else mj_I h 52 q := fun q => by rw [ek, mj_I_other (by decide), mj_I_other (by decide), mj_I_other (by decide)]; exact mj_I_if rfl (congrFun (e1.2.2.1 52 (by omega) (by decide)) q)
      have k53 : ∀ q, mj_I k 53 q = if q = xm then nI z else mj_I h 53 q := fun q => by rw [ek, mj_I_other (by decide), mj_I_other (by decide)]; exact mj_I_if rfl ((congrFun (mj_I_other (by decide)) q).trans (congrFun (e1.2.2.1 53 (by omega) (by decide)) q))
      have k54 : ∀ q, mj_I k 54 q = if q = xm then mj_I h 33 0 else mj_I h 54 q := fun q => by rw [ek, mj_I_other (by decide)]; exact mj_I_if rfl ((congrFun (mj_I_other (by decide)) q).trans ((congrFun (mj_I_other (by decide)) q).trans (congrFun (e1.2.2.1 54 (by omega) (by decide)) q)))
      have k23 : mj_R k 23 xm = some h.1 := by rw [r2.2.2.2.2.1, rg.2.2.2.2.1, eg0]; exact mj_R_at _ _ _ _
      have kK : mj_K k h.1 = (4, 3) := by rw [r2.2.2.1, rg.2.2.1, eg0]; exact mj_K_newA h 4 3
      have kR : mj_R k h.1 0 = some (jA h a) := by rw [r2.2.2.2.2.1, rg.2.2.2.2.1, eg0, mj_R_other (by omega), mj_R_setI, mj_R_setI]; exact mj_R_at _ _ _ _
      have kI1 : mj_I k h.1 1 = nI z := by rw [r2.i (by simp; omega), rg.i (by simp; omega), eg0, mj_I_setR, mj_I_ne (by decide)]; exact mj_I_at _ _ _ _
      have kI2 : mj_I k h.1 2 = mj_I h 8 9 := by rw [r2.i (by simp; omega), rg.i (by simp; omega), eg0, mj_I_setR]; exact mj_I_at _ _ _ _
      have k22 : mj_I k 22 5 = nI (xm + 1) := by rw [r2.i (by decide), eg]; exact mj_I_at _ _ _ _
      have k226 : mj_I k 22 6 = mj_I h 22 6 := by rw [r2.i (by decide), eg, mj_I_ne (by decide)]; exact congrFun (nw.2.2.1 22 (by omega)) 6
      have ejA : ∀ q, jA k q = jA h q := fun q => by unfold jA; rw [ef_r e2 h63 (by decide) (by simp)]
      refine ⟨rfl, IV.nx (sm := sm) (jm := jm) (wm := wm) (tm := tm) (xm := xm + 1) (km := km) (em := em) ⟨MW_rw (MW_ef v.mw e1 h63 (by decide) (by simp)) r2 (by decide), CJ_rw cg r2 (Fr_lt cg.2.2.1 (by decide)), Nat.le_trans h63 e2.1, ?_, al_SS v.2.2.2.2.1 h63 e2 (by decide) (by simp), al_WW v.2.2.2.2.2.1 h63 e2 (by decide) (by simp), TP_i v.tp (ki 20 (by decide) (by decide)) (ki 21 (by decide) (by decide)) (ki 51 (by decide) (by decide)) (i33 28 (by decide)), ⟨⟨⟨by omega, k22, fun x hx => ?_⟩, b.1.2.1, k226.trans b.1.2.2.1, fun i hi => ?_, fun i j => by rw [ki 57 (by decide) (by decide)]; exact b.1.2.2.2.2 i j⟩, by rw [ek]; exact mj_I_at _ _ _ _, (i33 41 (by decide)).trans b.2.2.1, fun i hi => by rw [ki 57 (by decide) (by decide), i33 0 (by decide)]; exact b.2.2.2 i hi⟩, LL_i v.ll e2 h63 (by decide) (by simp) (i33 46 (by decide))⟩ (B0.ef e2 h63 (by decide) (by rw [r2.1, rg.1, l0]; omega) (by rw [r2.2.1, rg.2.1, s0]; omega))⟩
      · unfold CO
        rw [i33 7 (by decide), i33 8 (by decide), i33 21 (by decide), i33 0 (by decide), ki 8 (by decide) (by decide)]
        exact v.2.2.2.1
      · by_cases e : x = xm
        · subst e
          have exA : xA k x = h.1 := by unfold xA; rw [k23]; rfl
          have ejj : jj k x = a := by unfold jj; rw [k52, if_pos rfl, nI_clamp (by have := v.jm20; omega)]
          have ejs : js k x = z := by unfold js; rw [k53, if_pos rfl, nI_clamp (by omega)]
          unfold XC JT
          rw [exA, ejj, ejs, ejA, k23, kK, kR, kI1, kI2, k52, k53, k54, if_pos rfl, if_pos rfl, if_pos rfl]
          exact ⟨⟨rfl, rfl, h63, by rw [r2.1, rg.1, l0]; omega⟩, rfl, rfl, v.now, rfl, ha, rfl, hz⟩
        · have q := b.1.1.2.2 x (by omega)
          have h6 := q.1.2.2.1
          have hl := q.1.2.2.2
          have er : mj_R k 23 x = mj_R h 23 x := ef_r e2 h63 (by decide) (by simp [e])
          have exA : xA k x = xA h x := by unfold xA; rw [er]
          have ejj : jj k x = jj h x := by unfold jj; rw [k52, if_neg e]
          have ejs : js k x = js h x := by unfold js; rw [k53, if_neg e]
          unfold XC JT
          rw [exA, ejj, ejs, ejA, er, e2.2.1 _ hl, e2.2.2.2.1 _ hl 0 (by simp; omega), e2.2.2.1 _ hl (by simp; omega), k52, k53, k54, if_neg e, if_neg e, if_neg e]
          exact ⟨⟨q.1.1, q.1.2.1, h6, Nat.lt_of_lt_of_le hl e2.1⟩, q.2⟩
      · obtain ⟨t1, t2, t3, t, ht1, ht2⟩ := b.1.2.2.2.1 i hi
        unfold TR
        rw [ki 25 (by decide) (by decide), ki 26 (by decide) (by decide), ki 27 (by decide) (by decide), ki 55 (by decide) (by decide), ki 56 (by decide) (by decide), ki 57 (by decide) (by decide)]
        exact ⟨t1, t2, t3, t, by omega, ht2⟩
  · refine (mxc.mono (k_jointI v.cj v.jm20 v.ejc j s hc) (by decide)).post ?_
    rintro _ g ⟨rfl, eg⟩
    have eg := eg.symm
    subst eg
    refine ⟨_, rfl, ?_⟩
    refine (mxc.mono (c_joint v.mw.1 j s v.jm20 v.ejm h60 b.2.1) (by decide)).post ?_
    intro r k hk
    rw [if_neg (fun y => hc y.1)] at hk
    obtain ⟨rfl, rfl⟩ := hk
    exact ⟨rfl, v.nx (B0.rf _)⟩
