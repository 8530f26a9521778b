/-! QUESTIONS asked of both -/
section
variable {h : mj_H} {sm jm wm tm xm km em : Nat}
theorem IV.mw (v : IV h sm jm wm tm xm km em) : MW h jm := v.1
theorem IV.cj (v : IV h sm jm wm tm xm km em) : CJ h jm := v.2.1
theorem IV.sc (v : IV h sm jm wm tm xm km em) : SC h := v.2.1.1
theorem IV.l63 (v : IV h sm jm wm tm xm km em) : 63 ≤ h.1 := v.2.2.1
theorem IV.jm20 (v : IV h sm jm wm tm xm km em) : jm ≤ 20 := v.1.2.2.1
theorem IV.sm6 (v : IV h sm jm wm tm xm km em) : sm ≤ 6 := v.2.2.2.1.1.1
theorem IV.esm (v : IV h sm jm wm tm xm km em) : mj_I h 33 7 = nI sm := v.2.2.2.1.1.2.1
theorem IV.esc (v : IV h sm jm wm tm xm km em) : mj_I h 8 10 = nI sm := v.2.2.2.1.1.2.2
theorem IV.ejm (v : IV h sm jm wm tm xm km em) : mj_I h 33 8 = nI jm := v.2.2.2.1.2.1.1
theorem IV.ejc (v : IV h sm jm wm tm xm km em) : mj_I h 8 11 = nI jm := v.2.2.2.1.2.1.2
theorem IV.wm10 (v : IV h sm jm wm tm xm km em) : wm ≤ 10 := v.2.2.2.1.2.2.1.1
theorem IV.ewm (v : IV h sm jm wm tm xm km em) : mj_I h 33 21 = nI wm := v.2.2.2.1.2.2.1.2.1
theorem IV.ewc (v : IV h sm jm wm tm xm km em) : mj_I h 8 12 = nI wm := v.2.2.2.1.2.2.1.2.2
theorem IV.now (v : IV h sm jm wm tm xm km em) : mj_I h 8 9 = mj_I h 33 0 := v.2.2.2.1.2.2.2.1
theorem IV.win (v : IV h sm jm wm tm xm km em) {w : Nat} (hw : w < wm) : WC h w jm ∧ RowOk h w := v.2.2.2.2.2.1.1 w hw
theorem IV.pv (v : IV h sm jm wm tm xm km em) : PV h := v.2.2.2.2.2.1.2.2
theorem IV.nn (v : IV h sm jm wm tm xm km em) : ∀ i, i < wm → WN h i jm := fun i hi => (v.win hi).1.2.2.2.2
theorem IV.tp (v : IV h sm jm wm tm xm km em) : TP h tm := v.2.2.2.2.2.2.1
theorem IV.bb (v : IV h sm jm wm tm xm km em) : BBs h jm xm km := v.2.2.2.2.2.2.2.1
theorem IV.ll (v : IV h sm jm wm tm xm km em) : LLs h em := v.2.2.2.2.2.2.2.2
theorem IV.nx {k g : mj_H} (v : IV k sm jm wm tm xm km em) (b : B0 g k) : NX g k := ⟨⟨sm, jm, wm, tm, xm, km, em, v⟩, b⟩
end
theorem win_ce {h g : mj_H} (e : CE h g) (w : Nat) : wj g w = wj h w ∧ wlo g w = wlo h w ∧ Wd g w = Wd h w ∧ wg g w = wg h w := win_to (e.i (by decide)) (e.i (by decide)) (e.i (by decide)) (e.i (by decide)) w
theorem win_cf {h g : mj_H} (e : CF h g) (w : Nat) : wj g w = wj h w ∧ wlo g w = wlo h w ∧ Wd g w = Wd h w ∧ wg g w = wg h w := win_to (e.i (by decide)) (e.i (by decide)) (e.i (by decide)) (e.i (by decide)) w
theorem win_lr {h g : mj_H} {jm u : Nat} (h63 : 63 ≤ h.1) (hw : 63 ≤ wA h u) (l : LRe h g jm u) (w : Nat) : wj g w = wj h w ∧ wlo g w = wlo h w ∧ Wd g w = Wd h w ∧ wg g w = wg h w := by
  obtain ⟨Y, X, ⟨hX, h6X⟩, c, e, _⟩ := l
  have ei : ∀ a, a = 36 ∨ a = 45 ∨ a = 46 ∨ a = 47 → mj_I g a = mj_I h a := fun a ha => ef_i e h63 (by omega) (by simp; omega)
  exact win_to (ei 36 (by simp)) (ei 45 (by simp)) (ei 46 (by simp)) (ei 47 (by simp)) w
theorem mdb_eq {h g : mj_H} (e : ∀ j z, vd g j z = vd h j z) (j s k : Nat) (b : Int32) : mdb g j s k b = mdb h j s k b := by
  have q : mdk g j s k ↔ mdk h j s k := by unfold mdk; rw [e, e]
  unfold mdb
  by_cases z : mdk h j s k
  · rw [if_pos z, if_pos (q.mpr z)]
  · rw [if_neg z, if_neg (fun y => z (q.mp y))]
theorem MDB_eq {h g : mj_H} (e : ∀ j z, vd g j z = vd h j z) (j s : Nat) : MDB g j s = MDB h j s := by
  unfold MDB
  rw [mdb_eq e, mdb_eq e, mdb_eq e, mdb_eq e, mdb_eq e, mdb_eq e]
theorem CK_T {G : Gd} {T T' : Nat → Nat} {n : Nat} (e : T = T') (p : Nat) (r : List Bx6) : CK G T n p r = CK G T' n p r := by rw [e]
theorem k_mendedI {h : mj_H} {jm : Nat} (c : CJ h jm) (h_jm : jm ≤ 20) (e_jm : mj_I h 8 11 = nI jm) (u v : Int32) (hn : ¬ (mIn u jm ∧ mIn v 729)) : mxc 1 89 [.ref 8, .int u, .int v] h (fun r h' => r = some (.int (-1)) ∧ h' = h) := by
  by_cases hu : mIn u jm
  · obtain ⟨j, hj, rfl⟩ := mIn_of hu (by omega)
    exact k_mendedS c h_jm e_jm hj v (fun z => hn ⟨hu, z⟩)
  · exact k_mended0 c.1 h_jm e_jm u v hu
theorem pr_verdict {h : mj_H} {sm jm wm tm xm km em : Nat} (v : IV h sm jm wm tm xm km em) (j : Int32) (s : Int32) : PR 74 133 [.int j, .int s] h := by
  by_cases hc : mIn j jm ∧ mIn s 729
  · obtain ⟨a, ha, rfl⟩ := mIn_of hc.1 (by have := v.jm20; omega)
    obtain ⟨z, hz, rfl⟩ := mIn_of hc.2 (by decide)
    refine ((k_verdictV v.cj v.jm20 v.ejc ha hz).mono (by decide)).post ?_
    rintro _ g ⟨rfl, q⟩
    refine ⟨_, rfl, ?_⟩
    have vg := IV_cq v q
    refine ((c_verdict vg.mw vg.ejm (nI a) (nI z)).mono (by decide)).post ?_
    intro r k hk
    rw [if_pos hc, nI_clamp (by have := v.jm20; omega), nI_clamp (by omega)] at hk
    obtain ⟨rfl, hm⟩ := hk
    exact ⟨by rw [q.2.eV], (IV_mv vg hm).nx ((B0.cg q.2.cg (by decide)).rw hm.2.1 (by decide))⟩
  · refine (mxc.mono (k_verdictI v.cj v.jm20 v.ejc j s hc) (by decide)).post ?_
    rintro _ g ⟨rfl, eg⟩
    have eg := eg.symm
    subst eg
    refine ⟨_, rfl, ?_⟩
    refine ((c_verdict v.mw v.ejm j s).mono (by decide)).post ?_
    intro r k hk
    rw [if_neg hc] at hk
    obtain ⟨rfl, rfl⟩ := hk
    exact ⟨rfl, v.nx (B0.rf _)⟩
theorem pr_by {h : mj_H} {sm jm wm tm xm km em : Nat} (v : IV h sm jm wm tm xm km em) (j : Int32) (s : Int32) : PR 76 135 [.int j, .int s] h := by
  by_cases hc : mIn j jm ∧ mIn s 729
  · obtain ⟨a, ha, rfl⟩ := mIn_of hc.1 (by have := v.jm20; omega)
    obtain ⟨z, hz, rfl⟩ := mIn_of hc.2 (by decide)
    refine ((k_byV v.cj v.jm20 v.ejc ha hz).mono (by decide)).post ?_
    rintro _ g ⟨rfl, q⟩
    refine ⟨_, rfl, ?_⟩
    have vg := IV_cq v q
    refine ((c_by vg.mw vg.ejm (nI a) (nI z)).mono (by decide)).post ?_
    intro r k hk
    rw [if_pos hc, nI_clamp (by have := v.jm20; omega), nI_clamp (by omega)] at hk
    obtain ⟨rfl, hm⟩ := hk
    exact ⟨by rw [q.2.eM, q.2.eG], (IV_mv vg hm).nx ((B0.cg q.2.cg (by decide)).rw hm.2.1 (by decide))⟩
  · refine (mxc.mono (k_byI v.cj v.jm20 v.ejc j s hc) (by decide)).post ?_
    rintro _ g ⟨rfl, eg⟩
    have eg := eg.symm
    subst eg
    refine ⟨_, rfl, ?_⟩
    refine ((c_by v.mw v.ejm j s).mono (by decide)).post ?_
    intro r k hk
    rw [if_neg hc] at hk
    obtain ⟨rfl, rfl⟩ := hk
    exact ⟨rfl, v.nx (B0.rf _)⟩
theorem pr_ticks {h : mj_H} {sm jm wm tm xm km em : Nat} (v : IV h sm jm wm tm xm km em) (j : Int32) (s : Int32) : PR 77 136 [.int j, .int s] h := by
  by_cases hc : mIn j jm ∧ mIn s 729
  · obtain ⟨a, ha, rfl⟩ := mIn_of hc.1 (by have := v.jm20; omega)
    obtain ⟨z, hz, rfl⟩ := mIn_of hc.2 (by decide)
    refine ((k_ticksV v.cj v.jm20 v.ejc ha hz).mono (by decide)).post ?_
    rintro _ g ⟨rfl, q⟩
    refine ⟨_, rfl, ?_⟩
    have vg := IV_cq v q
    refine ((c_ticks vg.mw vg.ejm (nI a) (nI z)).mono (by decide)).post ?_
    intro r k hk
    rw [if_pos hc, nI_clamp (by have := v.jm20; omega), nI_clamp (by omega)] at hk
    obtain ⟨rfl, hm⟩ := hk
    exact ⟨by rw [q.2.eM, q.2.eG], (IV_mv vg hm).nx ((B0.cg q.2.cg (by decide)).rw hm.2.1 (by decide))⟩
  · refine (mxc.mono (k_ticksI v.cj v.jm20 v.ejc j s hc) (by decide)).post ?_
    rintro _ g ⟨rfl, eg⟩
    have eg := eg.symm
    subst eg
    refine ⟨_, rfl, ?_⟩
    refine ((c_ticks v.mw v.ejm j s).mono (by decide)).post ?_
    intro r k hk
    rw [if_neg hc] at hk
    obtain ⟨rfl, rfl⟩ := hk
    exact ⟨rfl, v.nx (B0.rf _)⟩
theorem pr_mended {h : mj_H} {sm jm wm tm xm km em : Nat} (v : IV h sm jm wm tm xm km em) (j : Int32) (s : Int32) : PR 89 162 [.int j, .int s] h := by
  by_cases hc : mIn j jm ∧ mIn s 729
  · obtain ⟨a, ha, rfl⟩ := mIn_of hc.1 (by have := v.jm20; omega)
    obtain ⟨z, hz, rfl⟩ := mIn_of hc.2 (by decide)
    refine ((k_mendedN v.cj v.jm20 v.ejc ha hz).mono (by decide)).post ?_
    rintro _ g ⟨rfl, q⟩
    refine ⟨_, rfl, ?_⟩
    have vg := IV_cq v q
    refine ((c_mended vg.mw vg.ejm (nI a) (nI z)).mono (by decide)).post ?_
    intro r k hk
    rw [if_pos hc, nI_clamp (by have := v.jm20; omega), nI_clamp (by omega)] at hk
    obtain ⟨rfl, hm⟩ := hk
    exact ⟨by rw [MDB_eq q.2.eV], (IV_mv vg hm).nx ((B0.cg q.2.cg (by decide)).rw hm.2.1 (by decide))⟩
  · refine (mxc.mono (k_mendedI v.cj v.jm20 v.ejc j s hc) (by decide)).post ?_
    rintro _ g ⟨rfl, eg⟩
    have eg := eg.symm
    subst eg
    refine ⟨_, rfl, ?_⟩
    refine ((c_mended v.mw v.ejm j s).mono (by decide)).post ?_
    intro r k hk
    rw [if_neg hc] at hk
    obtain ⟨rfl, rfl⟩ := hk
    exact ⟨rfl, v.nx (B0.rf _)⟩
theorem pr_ring {h : mj_H} {sm jm wm tm xm km em : Nat} (v : IV h sm jm wm tm xm km em) (j : Int32) (s : Int32) (r : Int32) (w : Int32) : PR 75 134 [.int j, .int s, .int r, .int w] h := by
  by_cases hc : (mIn j jm ∧ mIn s 729) ∧ mIn r (rgs h j.toNatClampNeg)
  · obtain ⟨a, ha, rfl⟩ := mIn_of hc.1.1 (by have := v.jm20; omega)
    obtain ⟨z, hz, rfl⟩ := mIn_of hc.1.2 (by decide)
    have hc2 := hc
    rw [nI_clamp (by have := v.jm20; omega)] at hc2
    have hrg : rgs h a ≤ 6 := by obtain ⟨rg, e8, hrg, _⟩ := (v.cj.2.2.1 a ha).2; rw [rgs_eq e8 hrg]; exact hrg.2
    obtain ⟨t, ht, rfl⟩ := mIn_of hc2.2 (by omega)
    refine ((k_ringV v.cj v.jm20 v.ejc ha hz ht w).mono (by decide)).post ?_
    rintro _ g ⟨rfl, q⟩
    refine ⟨_, rfl, ?_⟩
    have vg := IV_cq v q
    refine ((c_ring vg.mw vg.ejm (nI a) (nI z) (nI t) w).mono (by decide)).post ?_
    intro r1 k hk
    have hcg : mIn (nI t) (rgs g (nI a).toNatClampNeg) := by rw [nI_clamp (by have := v.jm20; omega), q.2.eG]; exact hc2.2
    by_cases hw : nI 0 ≤ w ∧ w ≤ nI 3
    · rw [if_pos ⟨hc2.1, hcg, hw⟩, nI_clamp (show a < 2 ^ 31 by have := v.jm20; omega), nI_clamp (show z < 2 ^ 31 by omega), nI_clamp (show t < 2 ^ 31 by omega), q.2.eM, q.2.eG] at hk
      obtain ⟨rfl, hm⟩ := hk
      exact ⟨by rw [if_pos hw], (IV_mv vg hm).nx ((B0.cg q.2.cg (by decide)).rw hm.2.1 (by decide))⟩
    · rw [if_neg (fun z => hw z.2.2)] at hk
      obtain ⟨rfl, rfl⟩ := hk
      exact ⟨by rw [if_neg hw], vg.nx (B0.cg q.2.cg (by decide))⟩
  · have hcl : mxc 30 75 [.ref 8, .int j, .int s, .int r, .int w] h (fun r1 h' => r1 = some (.int (-1000000)) ∧ h' = h) := by
      by_cases hj : mIn j jm
      · obtain ⟨a, ha, rfl⟩ := mIn_of hj (by have := v.jm20; omega)
        rw [nI_clamp (by have := v.jm20; omega)] at hc
        by_cases hs : mIn s 729
        · exact (k_ringR v.cj v.jm20 v.ejc ha s r w (fun z => hc ⟨⟨hj, hs⟩, z⟩)).mono (by decide)
        · exact (k_ringS v.cj v.jm20 v.ejc ha s r w hs).mono (by decide)
      · exact (k_ring0 v.cj v.jm20 v.ejc j s r w hj).mono (by decide)
    refine hcl.post ?_
    rintro _ g ⟨rfl, eg⟩
    have eg := eg.symm
    subst eg
    refine ⟨_, rfl, ?_⟩
    refine ((c_ring v.mw v.ejm j s r w).mono (by decide)).post ?_
    intro r1 k hk
    rw [if_neg (fun z => hc ⟨z.1, z.2.1⟩)] at hk
    obtain ⟨rfl, rfl⟩ := hk
    exact ⟨rfl, v.nx (B0.rf _)⟩
theorem pr_good {h : mj_H} {sm jm wm tm xm km em : Nat} (v : IV h sm jm wm tm xm km em) (w : Int32) : PR 79 144 [.int w] h := by
  by_cases hc : mIn w wm
  · obtain ⟨u, hu, rfl⟩ := mIn_of hc (by have := v.wm10; omega)
    have hw := v.win hu
    refine (mxc.mono (k_goodN v.cj hw.1 v.wm10 v.ewc hu) (by decide)).post ?_
    rintro _ g ⟨rfl, q⟩
    refine ⟨_, rfl, ?_⟩
    have vg := IV_cq v q
    have bg := B0.cg q.2.cg (by decide)
    obtain ⟨ej, el, eW, eg⟩ := win_ce q.2 u
    refine (mxc.mono (c_good vg.mw vg.wm10 vg.ewm vg.nn (nI u)) (by decide)).post ?_
    intro r k hk
    rw [if_pos hc, nI_clamp (by have := v.wm10; omega)] at hk
    obtain ⟨rfl, hm⟩ := hk
    exact ⟨by unfold GW; rw [eg, eW], (IV_sq vg hm).nx (bg.rw hm.2.1 (by decide))⟩
  · refine (mxc.mono (k_good0 v.sc v.wm10 v.ewc w hc) (by decide)).post ?_
    rintro _ g ⟨rfl, eg⟩
    have eg := eg.symm
    subst eg
    refine ⟨_, rfl, ?_⟩
    refine (mxc.mono (c_good v.mw v.wm10 v.ewm v.nn w) (by decide)).post ?_
    intro r k hk
    rw [if_neg hc] at hk
    obtain ⟨rfl, rfl⟩ := hk
    exact ⟨rfl, v.nx (B0.rf _)⟩
theorem pr_leaves {h : mj_H} {sm jm wm tm xm km em : Nat} (v : IV h sm jm wm tm xm km em) (w : Int32) : PR 80 148 [.int w] h := by
  by_cases hc : mIn w wm
  · obtain ⟨u, hu, rfl⟩ := mIn_of hc (by have := v.wm10; omega)
    have hw := v.win hu
    refine (mxc.mono (k_leavesN v.cj hw.1 v.l63 hw.2 v.pv v.wm10 v.ewc hu) (by decide)).post ?_
    rintro _ g ⟨rfl, q⟩
    refine ⟨_, rfl, ?_⟩
    obtain ⟨vg, bg⟩ := IV_lr v hu q
    obtain ⟨ej, el, eW, eg⟩ := win_lr v.l63 hw.1.1.2.2.1 q u
    refine (mxc.mono (c_leaves vg.mw vg.wm10 vg.ewm vg.nn (nI u)) (by decide)).post ?_
    intro r k hk
    rw [if_pos hc, nI_clamp (by have := v.wm10; omega)] at hk
    obtain ⟨rfl, hm⟩ := hk
    exact ⟨by unfold LW; rw [eg, eW], (IV_sq vg hm).nx (bg.rw hm.2.1 (by decide))⟩
  · refine (mxc.mono (k_leaves0 v.sc v.wm10 v.ewc w hc) (by decide)).post ?_
    rintro _ g ⟨rfl, eg⟩
    have eg := eg.symm
    subst eg
    refine ⟨_, rfl, ?_⟩
    refine (mxc.mono (c_leaves v.mw v.wm10 v.ewm v.nn w) (by decide)).post ?_
    intro r k hk
    rw [if_neg hc] at hk
    obtain ⟨rfl, rfl⟩ := hk
    exact ⟨rfl, v.nx (B0.rf _)⟩
theorem pr_proof {h : mj_H} {sm jm wm tm xm km em : Nat} (v : IV h sm jm wm tm xm km em) (w : Int32) (i : Int32) : PR 81 151 [.int w, .int i] h := by
  by_cases hc : mIn w wm
  · obtain ⟨u, hu, rfl⟩ := mIn_of hc (by have := v.wm10; omega)
    have hw := v.win hu
    refine (mxc.mono (k_proofN v.cj hw.1 v.l63 hw.2 v.pv v.wm10 v.ewc hu i) (by decide)).post ?_
    rintro _ g ⟨rfl, q⟩
    refine ⟨_, rfl, ?_⟩
    obtain ⟨vg, bg⟩ := IV_lr v hu q
    obtain ⟨ej, el, eW, eg⟩ := win_lr v.l63 hw.1.1.2.2.1 q u
    refine (mxc.mono (c_proof vg.mw vg.wm10 vg.ewm vg.nn (nI u) i) (by decide)).post ?_
    intro r k hk
    rw [if_pos hc, nI_clamp (by have := v.wm10; omega)] at hk
    obtain ⟨rfl, hm⟩ := hk
    exact ⟨by unfold PW; rw [eg, eW], (IV_sq vg hm).nx (bg.rw hm.2.1 (by decide))⟩
  · refine (mxc.mono (k_proof0 v.sc v.wm10 v.ewc w hc i) (by decide)).post ?_
    rintro _ g ⟨rfl, eg⟩
    have eg := eg.symm
    subst eg
    refine ⟨_, rfl, ?_⟩
    refine (mxc.mono (c_proof v.mw v.wm10 v.ewm v.nn w i) (by decide)).post ?_
    intro r k hk
    rw [if_neg hc] at hk
    obtain ⟨rfl, rfl⟩ := hk
    exact ⟨rfl, v.nx (B0.rf _)⟩
/-- the tape's numbers -/
def tpT (h : mj_H) (q : Nat) : Nat := (mj_I h 51 q).toNatClampNeg
theorem tpe {h : mj_H} {tm : Nat} (t : TP h tm) (q : Nat) (hq : q < tm) : mj_I h 21 q = nI (tpT h q) ∧ mj_I h 51 q = nI (tpT h q) ∧ tpT h q ≤ 31 := by
  obtain ⟨e, x, hx, ex⟩ := t.2.2.2 q hq
  have : tpT h q = x := by unfold tpT; rw [ex, nI_clamp (by omega)]
  rw [this]
  exact ⟨e.trans ex, ex, hx⟩
theorem pr_check {h : mj_H} {sm jm wm tm xm km em : Nat} (v : IV h sm jm wm tm xm km em) (w : Int32) : PR 86 157 [.int w] h := by
  by_cases hc : mIn w wm
  · obtain ⟨u, hu, rfl⟩ := mIn_of hc (by have := v.wm10; omega)
    have hw := v.win hu
    refine (mxc.mono (k_checkN v.cj hw.1 v.wm10 v.ewc hu (T := tpT h) v.tp.1 v.tp.2.2.1 (fun q hq => ⟨(tpe v.tp q hq).1, (tpe v.tp q hq).2.2⟩)) (by decide)).post ?_
    rintro _ g ⟨rfl, c2, q⟩
    refine ⟨_, rfl, ?_⟩
    have vg := IV_cf v c2 q
    have e51 : mj_I g 51 = mj_I h 51 := q.i (by decide)
    have bg := B0.cg q.cg (by decide)
    obtain ⟨ej, el, eW, eg⟩ := win_cf q u
    refine (mxc.mono (c_check vg.mw vg.wm10 vg.ewm vg.nn (nI u) (T := tpT h) vg.tp.1 vg.tp.2.1 (fun q hq => ⟨(congrFun e51 q).trans (tpe v.tp q hq).2.1, (tpe v.tp q hq).2.2⟩)) (by decide)).post ?_
    intro r k hk
    rw [if_pos hc, nI_clamp (by have := v.wm10; omega)] at hk
    obtain ⟨rfl, hm⟩ := hk
    exact ⟨by unfold CW; rw [eg, eW], (IV_sq vg hm).nx (bg.rw hm.2.1 (by decide))⟩
  · refine (mxc.mono (k_check0 v.sc v.wm10 v.ewc w hc) (by decide)).post ?_
    rintro _ g ⟨rfl, eg⟩
    have eg := eg.symm
    subst eg
    refine ⟨_, rfl, ?_⟩
    refine (mxc.mono (c_check v.mw v.wm10 v.ewm v.nn w (T := tpT h) v.tp.1 v.tp.2.1 (fun q hq => ⟨(tpe v.tp q hq).2.1, (tpe v.tp q hq).2.2⟩)) (by decide)).post ?_
    intro r k hk
    rw [if_neg hc] at hk
    obtain ⟨rfl, rfl⟩ := hk
    exact ⟨rfl, v.nx (B0.rf _)⟩
