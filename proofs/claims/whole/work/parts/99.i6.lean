/-! CALLS that change: the list of the day, trials -/
/-- the same for calls that answer nothing -/
def PV0 (mc mm : Nat) (h : mj_H) : Prop := mxc 30 mc [.ref 8] h (fun r g => r = none ∧ mxc 30 mm [.ref 33] g (fun r' k => r' = none ∧ NX h k))
theorem pr_clear {h : mj_H} {sm jm wm tm xm km em : Nat} (v : IV h sm jm wm tm xm km em) : PV0 96 170 h := by
  refine (mxc.mono (k_clear v.sc) (by decide)).post ?_
  rintro _ _ ⟨rfl, rfl⟩
  refine ⟨rfl, ?_⟩
  refine (mxc.mono (c_clear (h := mj_setI (mj_setI h 28 5 (nI 0)) 28 7 (nI 0)) (v.mw.1.to rfl rfl)) (by decide)).post ?_
  rintro _ _ ⟨rfl, rfl⟩
  have r2 : Rw h (mj_setI (mj_setI (mj_setI h 28 5 (nI 0)) 28 7 (nI 0)) 33 46 (nI 0)) [28, 33] := (((Rw.rf h _).set (by decide)).set (by decide)).set (by decide)
  have i33 : ∀ q, ¬ q = 46 → mj_I (mj_setI (mj_setI (mj_setI h 28 5 (nI 0)) 28 7 (nI 0)) 33 46 (nI 0)) 33 q = mj_I h 33 q := fun q hq => (mj_I_ne hq).trans ((congrFun (mj_I_other (by decide)) q).trans (congrFun (mj_I_other (by decide)) q))
  refine ⟨rfl, IV.nx (sm := sm) (jm := jm) (wm := wm) (tm := tm) (xm := xm) (km := km) (em := 0) ⟨MW_rw v.mw r2 (by decide), CJ_rw v.cj r2 (Fr_lt v.cj.2.2.1 (by decide)), v.l63, ?_, SS_rw v.2.2.2.2.1 r2 v.l63 (by decide), WW_rw v.2.2.2.2.2.1 r2 v.l63 (by decide), TP_i v.tp (r2.i (by decide)) (r2.i (by decide)) (r2.i (by decide)) (i33 28 (by decide)), BB_rw v.bb r2 v.l63 (by decide) (i33 40 (by decide)) (i33 41 (by decide)) (fun i hi => by rw [i33 0 (by decide)]; exact v.bb.2.2.2 i hi), ?_⟩ ((B0.rf h).rw r2 (by decide))⟩
  · unfold CO
    rw [i33 7 (by decide), i33 8 (by decide), i33 21 (by decide), i33 0 (by decide), r2.i (by decide)]
    exact v.2.2.2.1
  · refine ⟨⟨by omega, ?_, fun a ha => absurd ha (Nat.not_lt_zero a)⟩, mj_I_at _ _ _ _, Or.inr ?_, RtOk_ef v.ll.2.2.2 (r2.ef []) v.l63 (by simp)⟩
    · exact (congrFun (mj_I_other (by decide)) _).trans ((mj_I_ne (by decide)).trans (mj_I_at _ _ _ _))
    · exact (congrFun (mj_I_other (by decide)) _).trans (mj_I_at _ _ _ _)
theorem pr_work {h : mj_H} {sm jm wm tm xm km em : Nat} (v : IV h sm jm wm tm xm km em) (j s : Int32) : PR 95 169 [.int j, .int s] h := by
  have l := v.ll
  have l8 := l.1.1
  by_cases hc : mIn j jm ∧ mIn s 729
  · obtain ⟨a, ha, rfl⟩ := mIn_of hc.1 (by have := v.jm20; omega)
    obtain ⟨z, hz, rfl⟩ := mIn_of hc.2 (by decide)
    by_cases he : em = 8
    · refine (mxc.mono (k_workF v.cj v.jm20 v.ejc ha hz (by rw [l.1.2.1, he])) (by decide)).post ?_
      rintro _ g ⟨rfl, eg⟩
      have eg := eg.symm
      subst eg
      refine ⟨_, rfl, ?_⟩
      refine (mxc.mono (c_work v.mw.1 (nI a) (nI z) v.jm20 v.ejm l8 l.2.1) (by decide)).post ?_
      intro r k hk
      rw [if_neg (fun y => y.2 he)] at hk
      obtain ⟨rfl, rfl⟩ := hk
      exact ⟨rfl, v.nx (B0.rf _)⟩
    · refine (mxc.mono (k_workV v.cj v.jm20 v.ejc ha hz (show em < 8 by omega) l.1.2.1) (by decide)).post ?_
      rintro _ _ ⟨rfl, rfl⟩
      refine ⟨_, rfl, ?_⟩
      obtain ⟨g, eg⟩ : ∃ g, g = mj_setI (mj_setI (mj_setI (mj_setI h 29 em (nI a)) 30 em (nI z)) 28 5 (nI (em + 1))) 28 7 (nI 0) := ⟨_, rfl⟩
      rw [← eg]
      have r1 : Rw h g [28, 29, 30, 33, 58, 59] := by rw [eg]; exact ((((Rw.rf h _).set (by decide)).set (by decide)).set (by decide)).set (by decide)
      have g33 : mj_I g 33 = mj_I h 33 := by rw [eg, mj_I_other (by decide), mj_I_other (by decide), mj_I_other (by decide), mj_I_other (by decide)]
      have g58 : mj_I g 58 = mj_I h 58 := by rw [eg, mj_I_other (by decide), mj_I_other (by decide), mj_I_other (by decide), mj_I_other (by decide)]
      have g59 : mj_I g 59 = mj_I h 59 := by rw [eg, mj_I_other (by decide), mj_I_other (by decide), mj_I_other (by decide), mj_I_other (by decide)]
      have g29 : ∀ q, mj_I g 29 q = if q = em then nI a else mj_I h 29 q := fun q => by rw [eg, mj_I_other (by decide), mj_I_other (by decide), mj_I_other (by decide)]; exact mj_I_if rfl rfl
      have g30 : ∀ q, mj_I g 30 q = if q = em then nI z else mj_I h 30 q := fun q => by rw [eg, mj_I_other (by decide), mj_I_other (by decide)]; exact mj_I_if rfl (congrFun (mj_I_other (by decide)) q)
      have g285 : mj_I g 28 5 = nI (em + 1) := by rw [eg, mj_I_ne (by decide)]; exact mj_I_at _ _ _ _
      have g287 : mj_I g 28 7 = nI 0 := by rw [eg]; exact mj_I_at _ _ _ _
      refine (mxc.mono (c_work (h := g) (r1.sm v.mw.1) (nI a) (nI z) v.jm20 (by rw [g33]; exact v.ejm) l8 (by rw [g33]; exact l.2.1)) (by decide)).post ?_
      intro r k hk
      rw [if_pos ⟨hc, he⟩] at hk
      obtain ⟨rfl, ek⟩ := hk
      have r2 : Rw h k [28, 29, 30, 33, 58, 59] := by rw [ek]; exact ((r1.set (by decide)).set (by decide)).set (by decide)
      have i33 : ∀ q, ¬ q = 46 → mj_I k 33 q = mj_I h 33 q := fun q hq => by rw [ek, mj_I_ne hq, mj_I_other (by decide), mj_I_other (by decide), g33]
      have k58 : ∀ q, mj_I k 58 q = if q = em then nI a else mj_I h 58 q := fun q => by rw [ek, mj_I_other (by decide), mj_I_other (by decide)]; exact mj_I_if rfl (congrFun g58 q)
      have k59 : ∀ q, mj_I k 59 q = if q = em then nI z else mj_I h 59 q := fun q => by rw [ek, mj_I_other (by decide)]; exact mj_I_if rfl ((congrFun (mj_I_other (by decide)) q).trans (congrFun g59 q))
      have k29 : mj_I k 29 = mj_I g 29 := by rw [ek, mj_I_other (by decide), mj_I_other (by decide), mj_I_other (by decide)]
      have k30 : mj_I k 30 = mj_I g 30 := by rw [ek, mj_I_other (by decide), mj_I_other (by decide), mj_I_other (by decide)]
      have k28 : mj_I k 28 = mj_I g 28 := by rw [ek, mj_I_other (by decide), mj_I_other (by decide), mj_I_other (by decide)]
      refine ⟨rfl, IV.nx (sm := sm) (jm := jm) (wm := wm) (tm := tm) (xm := xm) (km := km) (em := em + 1) ⟨MW_rw v.mw r2 (by decide), CJ_rw v.cj r2 (Fr_lt v.cj.2.2.1 (by decide)), by rw [r2.1]; exact v.l63, ?_, SS_rw v.2.2.2.2.1 r2 v.l63 (by decide), WW_rw v.2.2.2.2.2.1 r2 v.l63 (by decide), TP_i v.tp (r2.i (by decide)) (r2.i (by decide)) (r2.i (by decide)) (i33 28 (by decide)), BB_rw v.bb r2 v.l63 (by decide) (i33 40 (by decide)) (i33 41 (by decide)) (fun i hi => by rw [i33 0 (by decide)]; exact v.bb.2.2.2 i hi), ?_⟩ ((B0.rf h).rw r2 (by decide))⟩
      · unfold CO
        rw [i33 7 (by decide), i33 8 (by decide), i33 21 (by decide), i33 0 (by decide), r2.i (by decide)]
        exact v.2.2.2.1
      · refine ⟨⟨by omega, by rw [k28]; exact g285, fun q hq => ?_⟩, by rw [ek]; exact mj_I_at _ _ _ _, Or.inr (by rw [k28]; exact g287), RtOk_ef v.ll.2.2.2 (r2.ef []) v.l63 (by simp)⟩
        unfold EI es
        rw [k29, k30, g29, g30, k58, k59]
        by_cases e : q = em
        · rw [if_pos e, if_pos e, if_pos e, if_pos e, nI_clamp (by omega)]
          exact ⟨rfl, rfl, rfl, hz⟩
        · rw [if_neg e, if_neg e, if_neg e, if_neg e]
          exact l.1.2.2 q (by omega)
  · refine (mxc.mono (k_workI v.cj v.jm20 v.ejc j s hc) (by decide)).post ?_
    rintro _ g ⟨rfl, eg⟩
    have eg := eg.symm
    subst eg
    refine ⟨_, rfl, ?_⟩
    refine (mxc.mono (c_work v.mw.1 j s v.jm20 v.ejm l8 l.2.1) (by decide)).post ?_
    intro r k hk
    rw [if_neg (fun y => hc y.1)] at hk
    obtain ⟨rfl, rfl⟩ := hk
    exact ⟨rfl, v.nx (B0.rf _)⟩
theorem nxt_trial {h g k : mj_H} {sm jm wm tm xm km em u : Nat} {gd : Int32} (v : IV h sm jm wm tm xm km em) (hu : u < xm) (hk : km < 100) {wd : Nat} (hwd : (if gd = 0 then nI 2 else nI 1) = nI wd)
  (eg : g = mj_setI (mj_setI (mj_setI (mj_setI h 25 km (nI u)) 26 km (nI wd)) 27 km (mj_I h 8 9)) 22 6 (nI (km + 1)))
  (ek : k = mj_setI (mj_setI (mj_setI (mj_setI g 55 km (nI u)) 56 km gd) 57 km (mj_I g 33 0)) 33 41 (nI (km + 1))) : NX h k := by
  have b := v.bb
  have r1 : Rw h g [22, 25, 26, 27, 33, 55, 56, 57] := by rw [eg]; exact ((((Rw.rf h _).set (by decide)).set (by decide)).set (by decide)).set (by decide)
  have r2 : Rw h k [22, 25, 26, 27, 33, 55, 56, 57] := by rw [ek]; exact (((r1.set (by decide)).set (by decide)).set (by decide)).set (by decide)
  have g33 : mj_I g 33 = mj_I h 33 := by rw [eg, mj_I_other (by decide), mj_I_other (by decide), mj_I_other (by decide), mj_I_other (by decide)]
  have i33 : ∀ q, ¬ q = 41 → mj_I k 33 q = mj_I h 33 q := fun q hq => by rw [ek, mj_I_ne hq, mj_I_other (by decide), mj_I_other (by decide), mj_I_other (by decide), g33]
  have kg : ∀ a, a ∉ [33, 55, 56, 57] → mj_I k a = mj_I g a := fun a ha => by
    simp only [List.mem_cons, List.not_mem_nil, or_false] at ha
    rw [ek, mj_I_other (by omega), mj_I_other (by omega), mj_I_other (by omega), mj_I_other (by omega)]
  have g5 : ∀ a, a = 55 ∨ a = 56 ∨ a = 57 → mj_I g a = mj_I h a := fun a ha => by rw [eg, mj_I_other (by omega), mj_I_other (by omega), mj_I_other (by omega), mj_I_other (by omega)]
  have k25 : ∀ q, mj_I k 25 q = if q = km then nI u else mj_I h 25 q := fun q => by rw [kg 25 (by decide), eg, mj_I_other (by decide), mj_I_other (by decide), mj_I_other (by decide)]; exact mj_I_if rfl rfl
  have k26 : ∀ q, mj_I k 26 q = if q = km then nI wd else mj_I h 26 q := fun q => by rw [kg 26 (by decide), eg, mj_I_other (by decide), mj_I_other (by decide)]; exact mj_I_if rfl (congrFun (mj_I_other (by decide)) q)
  have k27 : ∀ q, mj_I k 27 q = if q = km then mj_I h 8 9 else mj_I h 27 q := fun q => by rw [kg 27 (by decide), eg, mj_I_other (by decide)]; exact mj_I_if rfl ((congrFun (mj_I_other (by decide)) q).trans (congrFun (mj_I_other (by decide)) q))
  have k55 : ∀ q, mj_I k 55 q = if q = km then nI u else mj_I h 55 q := fun q => by rw [ek, mj_I_other (by decide), mj_I_other (by decide), mj_I_other (by decide)]; exact mj_I_if rfl (congrFun (g5 55 (by simp)) q)
  have k56 : ∀ q, mj_I k 56 q = if q = km then gd else mj_I h 56 q := fun q => by rw [ek, mj_I_other (by decide), mj_I_other (by decide)]; exact mj_I_if rfl ((congrFun (mj_I_other (by decide)) q).trans (congrFun (g5 56 (by simp)) q))
  have k57 : ∀ q, mj_I k 57 q = if q = km then mj_I h 33 0 else mj_I h 57 q := fun q => by rw [ek, mj_I_other (by decide)]; exact mj_I_if (by rw [g33]) ((congrFun (mj_I_other (by decide)) q).trans ((congrFun (mj_I_other (by decide)) q).trans (congrFun (g5 57 (by simp)) q)))
  have k22 : mj_I k 22 6 = nI (km + 1) := by rw [kg 22 (by decide), eg]; exact mj_I_at _ _ _ _
  have k225 : mj_I k 22 5 = mj_I h 22 5 := by rw [kg 22 (by decide), eg, mj_I_ne (by decide), mj_I_other (by decide), mj_I_other (by decide), mj_I_other (by decide)]
  refine IV.nx (sm := sm) (jm := jm) (wm := wm) (tm := tm) (xm := xm) (km := km + 1) (em := em) ⟨MW_rw v.mw r2 (by decide), CJ_rw v.cj r2 (Fr_lt v.cj.2.2.1 (by decide)), by rw [r2.1]; exact v.l63, ?_, SS_rw v.2.2.2.2.1 r2 v.l63 (by decide), WW_rw v.2.2.2.2.2.1 r2 v.l63 (by decide), TP_i v.tp (r2.i (by decide)) (r2.i (by decide)) (r2.i (by decide)) (i33 28 (by decide)), ⟨⟨⟨b.1.1.1, k225.trans b.1.1.2.1, fun x hx => ?_⟩, by omega, k22, fun i hi => ?_, fun i j hij hj => ?_⟩, (i33 40 (by decide)).trans b.2.1, by rw [ek]; exact mj_I_at _ _ _ _, fun i hi => ?_⟩, LL_rw v.ll r2 v.l63 (by decide) (i33 46 (by decide))⟩ ((B0.rf h).rw r2 (by decide))
  · unfold CO
    rw [i33 7 (by decide), i33 8 (by decide), i33 21 (by decide), i33 0 (by decide), r2.i (by decide)]
    exact v.2.2.2.1
  · have q := b.1.1.2.2 x hx
    have h6 := q.1.2.2.1
    have exA : xA k x = xA h x := by unfold xA; rw [r2.2.2.2.2.1]
    have ejj : jj k x = jj h x := by unfold jj; rw [r2.i (by decide)]
    have ejs : js k x = js h x := by unfold js; rw [r2.i (by decide)]
    have eA : jA k (jj h x) = jA h (jj h x) := by unfold jA; rw [r2.2.2.2.2.1]
    unfold XC JT
    rw [exA, ejj, ejs, eA, r2.2.2.2.2.1, r2.2.2.1, r2.1, r2.i (by simp; omega), r2.i (by decide), r2.i (by decide), r2.i (by decide)]
    exact q
  · unfold TR
    rw [k25, k26, k27, k55, k56, k57]
    by_cases e : i = km
    · rw [if_pos e, if_pos e, if_pos e, if_pos e, if_pos e, if_pos e]
      exact ⟨rfl, v.now, hwd.symm, u, hu, rfl⟩
    · rw [if_neg e, if_neg e, if_neg e, if_neg e, if_neg e, if_neg e]
      exact b.1.2.2.2.1 i (by omega)
  · rw [k57, k57]
    by_cases e : j = km
    · rw [if_pos e]
      by_cases e2 : i = km
      · rw [if_pos e2]; exact Int32.le_refl _
      · rw [if_neg e2]; exact b.2.2.2 i (by omega)
    · rw [if_neg e, if_neg (show ¬ i = km by omega)]
      exact b.1.2.2.2.2 i j hij (by omega)
  · rw [k57, i33 0 (by decide)]
    by_cases e : i = km
    · rw [if_pos e]; exact Int32.le_refl _
    · rw [if_neg e]; exact b.2.2.2 i (by omega)
theorem pr_attempt {h : mj_H} {sm jm wm tm xm km em : Nat} (v : IV h sm jm wm tm xm km em) (x g : Int32) (hg : g = nI 0 ∨ g = nI 1) : PR 91 164 [.int x, .int g] h := by
  have b := v.bb
  have h60 := b.1.1.1
  have h100 := b.1.2.1
  have hg2 : g = 0 ∨ g = 1 := hg
  by_cases hc : mIn x xm ∧ ¬ km = 100
  · obtain ⟨u, hu, rfl⟩ := mIn_of hc.1 (by omega)
    rcases hg with rfl | rfl
    · refine (mxc.mono (k_attemptV0 v.cj b.1 hu (show km < 100 by omega)) (by decide)).post ?_
      rintro _ w ⟨rfl, ew⟩
      refine ⟨_, rfl, ?_⟩
      have r1 : Rw h w [22, 25, 26, 27] := by rw [ew]; exact ((((Rw.rf h _).set (by decide)).set (by decide)).set (by decide)).set (by decide)
      refine (mxc.mono (c_attempt (h := w) (r1.sm v.mw.1) (nI u) (nI 0) hg2 h60 (by rw [r1.i (by decide)]; exact b.2.1) h100 (by rw [r1.i (by decide)]; exact b.2.2.1)) (by decide)).post ?_
      intro r k hk
      rw [if_pos hc] at hk
      obtain ⟨rfl, ek⟩ := hk
      exact ⟨rfl, nxt_trial v hu (by omega) (gd := nI 0) (wd := 2) rfl ew ek⟩
    · refine (mxc.mono (k_attemptV1 v.cj b.1 hu (show km < 100 by omega)) (by decide)).post ?_
      rintro _ w ⟨rfl, ew⟩
      refine ⟨_, rfl, ?_⟩
      have r1 : Rw h w [22, 25, 26, 27] := by rw [ew]; exact ((((Rw.rf h _).set (by decide)).set (by decide)).set (by decide)).set (by decide)
      refine (mxc.mono (c_attempt (h := w) (r1.sm v.mw.1) (nI u) (nI 1) hg2 h60 (by rw [r1.i (by decide)]; exact b.2.1) h100 (by rw [r1.i (by decide)]; exact b.2.2.1)) (by decide)).post ?_
      intro r k hk
      rw [if_pos hc] at hk
      obtain ⟨rfl, ek⟩ := hk
      exact ⟨rfl, nxt_trial v hu (by omega) (gd := nI 1) (wd := 1) (by decide) ew ek⟩
  · refine (mxc.mono (k_attemptI v.cj b.1 x g hc) (by decide)).post ?_
    rintro _ w ⟨rfl, eg⟩
    have eg := eg.symm
    subst eg
    refine ⟨_, rfl, ?_⟩
    refine (mxc.mono (c_attempt v.mw.1 x g hg2 h60 b.2.1 h100 b.2.2.1) (by decide)).post ?_
    intro r k hk
    rw [if_neg hc] at hk
    obtain ⟨rfl, rfl⟩ := hk
    exact ⟨rfl, v.nx (B0.rf _)⟩
