/-! CALLS that change, made of both: days, the tape -/
theorem SS_rw {h k : mj_H} {as : List Nat} {sm : Nat} (w : SSs h sm) (r : Rw h k as) (h63 : 63 ≤ h.1) (hs : ∀ a ∈ as, a < 63 ∧ a ≠ 34 ∧ a ≠ 35) : SSs k sm := SS_ef w (r.ef []) h63 (fun a ha _ => ⟨(hs a ha).2.1, (hs a ha).2.2, fun z => by have := (hs a ha).1; omega⟩) (by simp)
theorem WW_rw {h k : mj_H} {as : List Nat} {wm jm : Nat} (w : WWs h wm jm) (r : Rw h k as) (h63 : 63 ≤ h.1) (hs : ∀ a ∈ as, a < 63 ∧ a ∉ [36, 45, 46, 47]) : WWs k wm jm := by
  refine ⟨fun u hu => ?_, fun u u' hu hu' => ?_, PV_ef w.2.2 (r.ef []) h63 (by simp)⟩
  · have ku := (w.1 u hu).1.1.2.2.1
    have q := WC_ef w.1 (r.ef []) h63 (fun a ha _ => by have := (hs a ha).2; simp only [List.mem_cons, List.not_mem_nil, or_false] at this; omega) (by simp) hu (fun z => by have := (hs _ z).1; omega) (by simp) (fun Y h6 _ _ z => by have := (hs _ z).1; omega)
    exact ⟨q.1, q.2.1⟩
  · have eA : ∀ u, wA k u = wA h u := fun u => by unfold wA; rw [r.2.2.2.2.1]
    rw [eA, eA]
    exact w.2.1 u u' hu hu'
theorem BB_rw {h k : mj_H} {as : List Nat} {jm xm km : Nat} (b : BBs h jm xm km) (r : Rw h k as) (h63 : 63 ≤ h.1) (hs : ∀ a ∈ as, a < 63 ∧ a ∉ [22, 25, 26, 27, 52, 53, 54, 55, 56, 57]) (e40 : mj_I k 33 40 = mj_I h 33 40) (e41 : mj_I k 33 41 = mj_I h 33 41) (e0 : ∀ i, i < km → mj_I h 57 i ≤ mj_I k 33 0) : BBs k jm xm km :=
  ⟨BK_to b.1 h63 (r.ef []) (fun a ha => ⟨(hs a ha).2, fun z => by have := (hs a ha).1; omega⟩) (by simp), e40.trans b.2.1, e41.trans b.2.2.1, fun i hi => by rw [r.i (fun z => (hs 57 z).2 (by decide))]; exact e0 i hi⟩
theorem LL_rw {h k : mj_H} {as : List Nat} {em : Nat} (l : LLs h em) (r : Rw h k as) (h63 : 63 ≤ h.1) (hs : ∀ a ∈ as, a ∉ [28, 29, 30, 31, 58, 59]) (e46 : mj_I k 33 46 = mj_I h 33 46) : LLs k em := LL_i l (r.ef []) h63 hs (by simp) e46
theorem now_add {x n : Int32} (h0 : 0 ≤ x.toInt) (h1 : x.toInt ≤ 1000) (hn : 0 ≤ n ∧ n ≤ 500) (hs : x + n ≤ 1000) : (x + n).toInt = x.toInt + n.toInt ∧ 0 ≤ n.toInt ∧ x.toInt + n.toInt ≤ 1000 := by
  have a := hn.1
  have b := hn.2
  rw [Int32.le_iff_toInt_le] at a b hs
  have a' : 0 ≤ n.toInt := a
  have b' : n.toInt ≤ 500 := b
  have e := i_add (x := x) (y := n) (by omega) (by omega)
  rw [e] at hs
  exact ⟨e, a', hs⟩
theorem in32 {u : Int32} (h : 0 ≤ u ∧ u ≤ 31) : mIn u 32 := (mIn_iff (n := 32) (by decide)).mp ⟨h.1, h.2⟩
theorem in_le {n : Int32} {tm : Nat} (ht : tm ≤ 500) (h : ¬ n < 0 ∧ n ≤ nI tm) : mIn n (tm + 1) := by
  refine (mIn_lt (by omega)).mp ⟨h.1, ?_⟩
  have h2 := h.2
  rw [Int32.le_iff_toInt_le, nI_toInt (by omega)] at h2
  rw [Int32.lt_iff_toInt_lt, nI_toInt (by omega)]
  omega
theorem pr_days {h : mj_H} {sm jm wm tm xm km em : Nat} (v : IV h sm jm wm tm xm km em) (n : Int32) : PR 68 115 [.int n] h := by
  refine (mxc.mono (k_days v.sc n) (by decide)).post ?_
  intro r g hg
  by_cases hc : (0 ≤ n ∧ n ≤ 500) ∧ mj_I h 8 9 + n ≤ 1000
  · rw [if_pos hc] at hg
    obtain ⟨rfl, rfl⟩ := hg
    refine ⟨_, rfl, ?_⟩
    have e9 := v.now
    have r1 : Rw h (mj_setI h 8 9 (mj_I h 8 9 + n)) [8, 33] := (Rw.rf h _).set (by decide)
    have i33 : mj_I (mj_setI h 8 9 (mj_I h 8 9 + n)) 33 = mj_I h 33 := mj_I_other (by decide)
    refine (mxc.mono (c_days (h := (mj_setI h 8 9 (mj_I h 8 9 + n))) (v.mw.1.to rfl rfl) n) (by decide)).post ?_
    intro r k hk
    rw [if_pos (by rw [i33, ← e9]; exact hc), i33] at hk
    obtain ⟨rfl, rfl⟩ := hk
    have r2 := r1.set (a := 33) (j := 0) (x := mj_I h 33 0 + n) (by decide)
    have hnow := now_add v.2.2.2.1.2.2.2.2.1 v.2.2.2.1.2.2.2.2.2 hc.1 (by rw [← e9]; exact hc.2)
    refine ⟨by rw [e9], IV.nx (sm := sm) (jm := jm) (wm := wm) (tm := tm) (xm := xm) (km := km) (em := em) ⟨MW_rw v.mw r2 (by decide), CJ_rw v.cj r2 (Fr_lt v.cj.2.2.1 (by decide)), v.l63, ?_, SS_rw v.2.2.2.2.1 r2 v.l63 (by decide), WW_rw v.2.2.2.2.2.1 r2 v.l63 (by decide), TP_i v.tp (r2.i (by decide)) (r2.i (by decide)) (r2.i (by decide)) ((mj_I_ne (by decide)).trans (congrFun i33 28)), BB_rw v.bb r2 v.l63 (by decide) ((mj_I_ne (by decide)).trans (congrFun i33 40)) ((mj_I_ne (by decide)).trans (congrFun i33 41)) (fun i hi => ?_), LL_rw v.ll r2 v.l63 (by decide) ((mj_I_ne (by decide)).trans (congrFun i33 46))⟩ ((B0.rf h).rw r2 (by decide))⟩
    · unfold CO
      rw [mj_I_at, mj_I_ne (by decide), mj_I_ne (by decide), mj_I_ne (by decide), i33, mj_I_other (show 8 ≠ 33 by decide), mj_I_at, mj_I_ne (by decide), mj_I_ne (by decide), mj_I_ne (by decide), e9, hnow.1]
      have hv := v.2.2.2.1
      exact ⟨hv.1, hv.2.1, hv.2.2.1, rfl, by have := v.2.2.2.1.2.2.2.2.1; omega, hnow.2.2⟩
    · rw [mj_I_at]
      refine Int32.le_trans (v.bb.2.2.2 i hi) ?_
      rw [Int32.le_iff_toInt_le, hnow.1]
      omega
  · rw [if_neg hc] at hg
    obtain ⟨rfl, eg⟩ := hg
    have eg := eg.symm
    subst eg
    refine ⟨_, rfl, ?_⟩
    refine (mxc.mono (c_days v.mw.1 n) (by decide)).post ?_
    intro r k hk
    rw [if_neg (by rw [← v.now]; exact hc)] at hk
    obtain ⟨rfl, rfl⟩ := hk
    exact ⟨rfl, v.nx (B0.rf _)⟩
theorem pr_tell {h : mj_H} {sm jm wm tm xm km em : Nat} (v : IV h sm jm wm tm xm km em) (u : Int32) : PR 82 152 [.int u] h := by
  refine (mxc.mono (k_tell v.sc v.tp.1 v.tp.2.2.1 u) (by decide)).post ?_
  intro r g hg
  by_cases hc : (0 ≤ u ∧ u ≤ 31) ∧ ¬ tm = 500
  · rw [if_pos hc] at hg
    obtain ⟨rfl, rfl⟩ := hg
    refine ⟨_, rfl, ?_⟩
    have r1 : Rw h (mj_setI (mj_setI h 21 tm u) 20 1 (nI (tm + 1))) [20, 21, 33, 51] := (((Rw.rf h _).set (by decide)).set (by decide))
    have i33 : mj_I (mj_setI (mj_setI h 21 tm u) 20 1 (nI (tm + 1))) 33 = mj_I h 33 := (mj_I_other (by decide)).trans (mj_I_other (by decide))
    have i51 : mj_I (mj_setI (mj_setI h 21 tm u) 20 1 (nI (tm + 1))) 51 = mj_I h 51 := (mj_I_other (by decide)).trans (mj_I_other (by decide))
    refine (mxc.mono (c_tell (h := mj_setI (mj_setI h 21 tm u) 20 1 (nI (tm + 1))) (v.mw.1.to rfl rfl) u v.tp.1 ((congrFun i33 28).trans v.tp.2.1)) (by decide)).post ?_
    intro r k hk
    rw [if_pos hc] at hk
    obtain ⟨rfl, rfl⟩ := hk
    have r2 := (r1.set (a := 51) (j := tm) (x := u) (by decide)).set (a := 33) (j := 28) (x := nI (tm + 1)) (by decide)
    have j33 : ∀ q, ¬ q = 28 → mj_I (mj_setI (mj_setI (mj_setI (mj_setI h 21 tm u) 20 1 (nI (tm + 1))) 51 tm u) 33 28 (nI (tm + 1))) 33 q = mj_I h 33 q := fun q hq => (mj_I_ne hq).trans ((congrFun (mj_I_other (by decide)) q).trans (congrFun i33 q))
    refine ⟨rfl, IV.nx (sm := sm) (jm := jm) (wm := wm) (tm := tm + 1) (xm := xm) (km := km) (em := em) ⟨MW_rw v.mw r2 (by decide), CJ_rw v.cj r2 (Fr_lt v.cj.2.2.1 (by decide)), v.l63, ?_, SS_rw v.2.2.2.2.1 r2 v.l63 (by decide), WW_rw v.2.2.2.2.2.1 r2 v.l63 (by decide), ?_, BB_rw v.bb r2 v.l63 (by decide) (j33 40 (by decide)) (j33 41 (by decide)) (fun i hi => by rw [j33 0 (by decide)]; exact v.bb.2.2.2 i hi), LL_rw v.ll r2 v.l63 (by decide) (j33 46 (by decide))⟩ ((B0.rf h).rw r2 (by decide))⟩
    · unfold CO
      rw [j33 7 (by decide), j33 8 (by decide), j33 21 (by decide), j33 0 (by decide), r2.i (by decide)]
      exact v.2.2.2.1
    · have h5 := v.tp.1
      obtain ⟨t, ht, rfl⟩ := mIn_of (s := u) (n := 32) (in32 hc.1) (by decide)
      refine ⟨by omega, mj_I_at _ _ _ _, ?_, fun q hq => ?_⟩
      · exact (congrFun (mj_I_other (by decide)) _).trans ((congrFun (mj_I_other (by decide)) _).trans (mj_I_at _ _ _ _))
      · by_cases e : q = tm
        · rw [e]
          refine ⟨?_, t, by omega, ?_⟩
          · exact (congrFun (mj_I_other (by decide)) _).trans ((congrFun (mj_I_other (by decide)) _).trans ((congrFun (mj_I_other (by decide)) _).trans ((mj_I_at _ _ _ _).trans ((congrFun (mj_I_other (by decide)) _).trans (mj_I_at _ _ _ _)).symm)))
          · exact (congrFun (mj_I_other (by decide)) _).trans (mj_I_at _ _ _ _)
        · obtain ⟨e1, x, hx, ex⟩ := v.tp.2.2.2 q (by omega)
          have e51 : mj_I (mj_setI (mj_setI (mj_setI (mj_setI h 21 tm (nI t)) 20 1 (nI (tm + 1))) 51 tm (nI t)) 33 28 (nI (tm + 1))) 51 q = mj_I h 51 q := (congrFun (mj_I_other (by decide)) _).trans ((mj_I_ne e).trans (congrFun i51 q))
          refine ⟨?_, x, hx, e51.trans ex⟩
          rw [e51]
          exact ((congrFun (mj_I_other (by decide)) _).trans ((congrFun (mj_I_other (by decide)) _).trans ((congrFun (mj_I_other (by decide)) _).trans (mj_I_ne e)))).trans e1
  · rw [if_neg hc] at hg
    obtain ⟨rfl, eg⟩ := hg
    have eg := eg.symm
    subst eg
    refine ⟨_, rfl, ?_⟩
    refine (mxc.mono (c_tell v.mw.1 u v.tp.1 v.tp.2.1) (by decide)).post ?_
    intro r k hk
    rw [if_neg hc] at hk
    obtain ⟨rfl, rfl⟩ := hk
    exact ⟨rfl, v.nx (B0.rf _)⟩
theorem pr_alter {h : mj_H} {sm jm wm tm xm km em : Nat} (v : IV h sm jm wm tm xm km em) (i : Int32) (u : Int32) : PR 84 154 [.int i, .int u] h := by
  refine (mxc.mono (k_alter v.sc v.tp.1 v.tp.2.2.1 i u) (by decide)).post ?_
  intro r g hg
  by_cases hc : mIn i tm ∧ (0 ≤ u ∧ u ≤ 31)
  · rw [if_pos hc] at hg
    obtain ⟨rfl, rfl⟩ := hg
    refine ⟨_, rfl, ?_⟩
    have r1 : Rw h (mj_setI h 21 i.toNatClampNeg u) [20, 21, 33, 51] := ((Rw.rf h _).set (by decide))
    have i33 : mj_I (mj_setI h 21 i.toNatClampNeg u) 33 = mj_I h 33 := mj_I_other (by decide)
    have i51 : mj_I (mj_setI h 21 i.toNatClampNeg u) 51 = mj_I h 51 := mj_I_other (by decide)
    refine (mxc.mono (c_alter (h := mj_setI h 21 i.toNatClampNeg u) (v.mw.1.to rfl rfl) i u v.tp.1 ((congrFun i33 28).trans v.tp.2.1)) (by decide)).post ?_
    intro r k hk
    rw [if_pos hc] at hk
    obtain ⟨rfl, rfl⟩ := hk
    have r2 := r1.set (a := 51) (j := i.toNatClampNeg) (x := u) (by decide)
    have j33 : ∀ q, ¬ q = 28 → mj_I (mj_setI (mj_setI h 21 i.toNatClampNeg u) 51 i.toNatClampNeg u) 33 q = mj_I h 33 q := fun q hq => (congrFun (mj_I_other (by decide)) q).trans (congrFun i33 q)
    refine ⟨rfl, IV.nx (sm := sm) (jm := jm) (wm := wm) (tm := tm) (xm := xm) (km := km) (em := em) ⟨MW_rw v.mw r2 (by decide), CJ_rw v.cj r2 (Fr_lt v.cj.2.2.1 (by decide)), v.l63, ?_, SS_rw v.2.2.2.2.1 r2 v.l63 (by decide), WW_rw v.2.2.2.2.2.1 r2 v.l63 (by decide), ?_, BB_rw v.bb r2 v.l63 (by decide) (j33 40 (by decide)) (j33 41 (by decide)) (fun i hi => by rw [j33 0 (by decide)]; exact v.bb.2.2.2 i hi), LL_rw v.ll r2 v.l63 (by decide) (j33 46 (by decide))⟩ ((B0.rf h).rw r2 (by decide))⟩
    · unfold CO
      rw [j33 7 (by decide), j33 8 (by decide), j33 21 (by decide), j33 0 (by decide), r2.i (by decide)]
      exact v.2.2.2.1
    · obtain ⟨t, ht, rfl⟩ := mIn_of (s := u) (n := 32) (in32 hc.2) (by decide)
      refine ⟨v.tp.1, (congrFun (mj_I_other (by decide)) _).trans ((congrFun i33 28).trans v.tp.2.1), (congrFun (mj_I_other (by decide)) _).trans ((congrFun (mj_I_other (by decide)) _).trans v.tp.2.2.1), fun q hq => ?_⟩
      by_cases e : q = i.toNatClampNeg
      · rw [e]
        exact ⟨(congrFun (mj_I_other (by decide)) _).trans ((mj_I_at _ _ _ _).trans (mj_I_at _ _ _ _).symm), t, by omega, mj_I_at _ _ _ _⟩
      · obtain ⟨e1, x, hx, ex⟩ := v.tp.2.2.2 q hq
        have e51 : mj_I (mj_setI (mj_setI h 21 i.toNatClampNeg (nI t)) 51 i.toNatClampNeg (nI t)) 51 q = mj_I h 51 q := (mj_I_ne e).trans (congrFun i51 q)
        refine ⟨?_, x, hx, e51.trans ex⟩
        rw [e51]
        exact ((congrFun (mj_I_other (by decide)) _).trans (mj_I_ne e)).trans e1
  · rw [if_neg hc] at hg
    obtain ⟨rfl, eg⟩ := hg
    have eg := eg.symm
    subst eg
    refine ⟨_, rfl, ?_⟩
    refine (mxc.mono (c_alter v.mw.1 i u v.tp.1 v.tp.2.1) (by decide)).post ?_
    intro r k hk
    rw [if_neg hc] at hk
    obtain ⟨rfl, rfl⟩ := hk
    exact ⟨rfl, v.nx (B0.rf _)⟩
theorem pr_end {h : mj_H} {sm jm wm tm xm km em : Nat} (v : IV h sm jm wm tm xm km em) (n : Int32) : PR 85 155 [.int n] h := by
  refine (mxc.mono (k_end v.sc n) (by decide)).post ?_
  intro r g hg
  by_cases hc : ¬ n < 0 ∧ n ≤ mj_I h 20 1
  · rw [if_pos hc] at hg
    obtain ⟨rfl, rfl⟩ := hg
    refine ⟨_, rfl, ?_⟩
    have r1 : Rw h (mj_setI h 20 1 n) [20, 21, 33, 51] := ((Rw.rf h _).set (by decide))
    have i33 : mj_I (mj_setI h 20 1 n) 33 = mj_I h 33 := mj_I_other (by decide)
    have i51 : mj_I (mj_setI h 20 1 n) 51 = mj_I h 51 := mj_I_other (by decide)
    refine (mxc.mono (c_end (h := mj_setI h 20 1 n) (v.mw.1.to rfl rfl) n) (by decide)).post ?_
    intro r k hk
    rw [if_pos (by rw [i33, v.tp.2.1]; rw [v.tp.2.2.1] at hc; exact hc)] at hk
    obtain ⟨rfl, rfl⟩ := hk
    have r2 := r1.set (a := 33) (j := 28) (x := n) (by decide)
    have j33 : ∀ q, ¬ q = 28 → mj_I (mj_setI (mj_setI h 20 1 n) 33 28 n) 33 q = mj_I h 33 q := fun q hq => (mj_I_ne hq).trans (congrFun i33 q)
    refine ⟨rfl, IV.nx (sm := sm) (jm := jm) (wm := wm) (tm := n.toNatClampNeg) (xm := xm) (km := km) (em := em) ⟨MW_rw v.mw r2 (by decide), CJ_rw v.cj r2 (Fr_lt v.cj.2.2.1 (by decide)), v.l63, ?_, SS_rw v.2.2.2.2.1 r2 v.l63 (by decide), WW_rw v.2.2.2.2.2.1 r2 v.l63 (by decide), ?_, BB_rw v.bb r2 v.l63 (by decide) (j33 40 (by decide)) (j33 41 (by decide)) (fun i hi => by rw [j33 0 (by decide)]; exact v.bb.2.2.2 i hi), LL_rw v.ll r2 v.l63 (by decide) (j33 46 (by decide))⟩ ((B0.rf h).rw r2 (by decide))⟩
    · unfold CO
      rw [j33 7 (by decide), j33 8 (by decide), j33 21 (by decide), j33 0 (by decide), r2.i (by decide)]
      exact v.2.2.2.1
    · rw [v.tp.2.2.1] at hc
      have ht := v.tp.1
      have hin : mIn n (tm + 1) := in_le ht hc
      obtain ⟨t, ht2, rfl⟩ := mIn_of hin (by omega)
      rw [nI_clamp (by omega)]
      refine ⟨by omega, mj_I_at _ _ _ _, (congrFun (mj_I_other (by decide)) _).trans (mj_I_at _ _ _ _), fun q hq => ?_⟩
      obtain ⟨e1, x, hx, ex⟩ := v.tp.2.2.2 q (by omega)
      have e51 : mj_I (mj_setI (mj_setI h 20 1 (nI t)) 33 28 (nI t)) 51 q = mj_I h 51 q := (congrFun (mj_I_other (by decide)) q).trans (congrFun i51 q)
      refine ⟨?_, x, hx, e51.trans ex⟩
      rw [e51]
      exact ((congrFun (mj_I_other (by decide)) _).trans (congrFun (mj_I_other (by decide)) _)).trans e1
  · rw [if_neg hc] at hg
    obtain ⟨rfl, eg⟩ := hg
    have eg := eg.symm
    subst eg
    refine ⟨_, rfl, ?_⟩
    refine (mxc.mono (c_end v.mw.1 n) (by decide)).post ?_
    intro r k hk
    rw [if_neg (by rw [v.tp.2.1]; rw [v.tp.2.2.1] at hc; exact hc)] at hk
    obtain ⟨rfl, rfl⟩ := hk
    exact ⟨rfl, v.nx (B0.rf _)⟩
