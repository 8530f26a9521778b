/-! CALLS that make: stuffs -/
theorem sBd_cg {f g : Nat → Int32} (e : ∀ i, i < 8 → f i = g i) (h : sBd g) : sBd f := by
  unfold sBd
  rw [e 0 (by decide), e 1 (by decide), e 2 (by decide), e 3 (by decide), e 4 (by decide), e 5 (by decide), e 6 (by decide), e 7 (by decide)]
  exact h
theorem IV_al {h g : mj_H} {sm jm wm tm xm km em : Nat} (v : IV h sm jm wm tm xm km em) (e : EF [] [] h g) (c : CJ g jm) : IV g sm jm wm tm xm km em := by
  have h63 := v.l63
  have ki : ∀ q, q < 63 → mj_I g q = mj_I h q := fun q hq => ef_i e h63 hq (by simp)
  refine ⟨MW_ef v.mw e h63 (by simp) (by simp), c, Nat.le_trans h63 e.1, ?_, al_SS v.2.2.2.2.1 h63 e (by simp) (by simp), al_WW v.2.2.2.2.2.1 h63 e (by simp) (by simp), TP_i v.tp (ki 20 (by decide)) (ki 21 (by decide)) (ki 51 (by decide)) (congrFun (ki 33 (by decide)) 28), al_BB v.bb h63 e (by simp) (by simp) (congrFun (ki 33 (by decide)) 40) (congrFun (ki 33 (by decide)) 41) (congrFun (ki 33 (by decide)) 0), LL_i v.ll e h63 (by simp) (by simp) (congrFun (ki 33 (by decide)) 46)⟩
  unfold CO
  rw [ki 33 (by decide), ki 8 (by decide)]
  exact v.2.2.2.1
theorem Nw.ef {h g : mj_H} (n : Nw h g) (hr : ∀ x i, x < h.1 → mj_R g x i = mj_R h x i) : EF [] [] h g := ⟨n.1, n.2.1, fun x hx _ => n.2.2.1 x hx, fun x hx i _ => hr x i hx, fun x _ hx => n.2.2.2.1 x hx⟩
def H8 (h : mj_H) (a1 a2 a3 a4 a5 a6 a7 a8 : Int32) : mj_H := mj_setI (mj_setI (mj_setI (mj_setI (mj_setI (mj_setI (mj_setI (mj_setI (mj_new h 12 8) h.1 0 a1) h.1 1 a2) h.1 2 a3) h.1 3 a4) h.1 4 a5) h.1 5 a6) h.1 6 a7) h.1 7 a8
theorem H8_nw (h : mj_H) (a1 a2 a3 a4 a5 a6 a7 a8 : Int32) : Nw h (H8 h a1 a2 a3 a4 a5 a6 a7 a8) := by
  unfold H8
  exact ((((((((new_nw h 12 8).setI (by omega)).setI (by omega)).setI (by omega)).setI (by omega)).setI (by omega)).setI (by omega)).setI (by omega)).setI (by omega)
theorem H8_sc {h : mj_H} (C : SC h) (h63 : 63 ≤ h.1) (a1 a2 a3 a4 a5 a6 a7 a8 : Int32) : SC (H8 h a1 a2 a3 a4 a5 a6 a7 a8) := by
  have r : Rw (mj_new h 12 8) (H8 h a1 a2 a3 a4 a5 a6 a7 a8) [h.1] := by
    unfold H8
    exact ((((((((Rw.rf _ _).set (by simp)).set (by simp)).set (by simp)).set (by simp)).set (by simp)).set (by simp)).set (by simp)).set (by simp)
  exact r.sc (SC_new C h63 12 8) (fun a ha q => by simp only [List.mem_cons, List.not_mem_nil, or_false] at q; omega)
theorem H8_r {h : mj_H} {a1 a2 a3 a4 a5 a6 a7 a8 : Int32} (x i : Nat) (hx : x < h.1) : mj_R (H8 h a1 a2 a3 a4 a5 a6 a7 a8) x i = mj_R h x i := by
  unfold H8
  rw [mj_R_setI, mj_R_setI, mj_R_setI, mj_R_setI, mj_R_setI, mj_R_setI, mj_R_setI, mj_R_setI, mj_R_new (by omega)]
/-- eight numbers, by their place -/
def n8 (a1 a2 a3 a4 a5 a6 a7 a8 : Int32) (i : Nat) : Int32 := [a1, a2, a3, a4, a5, a6, a7, a8].getD i 0
theorem H8_i {h : mj_H} {a1 a2 a3 a4 a5 a6 a7 a8 : Int32} (i : Nat) (hi : i < 8) : mj_I (H8 h a1 a2 a3 a4 a5 a6 a7 a8) h.1 i = n8 a1 a2 a3 a4 a5 a6 a7 a8 i := by
  have hc : i = 0 ∨ i = 1 ∨ i = 2 ∨ i = 3 ∨ i = 4 ∨ i = 5 ∨ i = 6 ∨ i = 7 := by omega
  unfold H8
  rcases hc with rfl | rfl | rfl | rfl | rfl | rfl | rfl | rfl
  · rw [mj_I_ne (by decide), mj_I_ne (by decide), mj_I_ne (by decide), mj_I_ne (by decide), mj_I_ne (by decide), mj_I_ne (by decide), mj_I_ne (by decide), mj_I_at]; rfl
  · rw [mj_I_ne (by decide), mj_I_ne (by decide), mj_I_ne (by decide), mj_I_ne (by decide), mj_I_ne (by decide), mj_I_ne (by decide), mj_I_at]; rfl
  · rw [mj_I_ne (by decide), mj_I_ne (by decide), mj_I_ne (by decide), mj_I_ne (by decide), mj_I_ne (by decide), mj_I_at]; rfl
  · rw [mj_I_ne (by decide), mj_I_ne (by decide), mj_I_ne (by decide), mj_I_ne (by decide), mj_I_at]; rfl
  · rw [mj_I_ne (by decide), mj_I_ne (by decide), mj_I_ne (by decide), mj_I_at]; rfl
  · rw [mj_I_ne (by decide), mj_I_ne (by decide), mj_I_at]; rfl
  · rw [mj_I_ne (by decide), mj_I_at]; rfl
  · rw [mj_I_at]; rfl
theorem pr_stuff {h : mj_H} {sm jm wm tm xm km em : Nat} (v : IV h sm jm wm tm xm km em) (a1 a2 a3 a4 a5 a6 a7 a8 : Int32) : PR 69 119 [.int a1, .int a2, .int a3, .int a4, .int a5, .int a6, .int a7, .int a8] h := by
  have h63 := v.l63
  have h6 := v.sm6
  by_cases hs : sm = 6
  · refine (mxc.mono (k_stuffF v.sc (by rw [v.esc, hs]) a1 a2 a3 a4 a5 a6 a7 a8) (by decide)).post ?_
    rintro _ g ⟨rfl, eg⟩
    have eg := eg.symm
    subst eg
    refine ⟨_, rfl, ?_⟩
    refine (mxc.mono (c_stuff v.mw.1 a1 a2 a3 a4 a5 a6 a7 a8 h6 v.esm) (by decide)).post ?_
    intro r k hk
    rw [if_neg (fun q => q.2.2.2.2.2.2.2.2 hs)] at hk
    obtain ⟨rfl, rfl⟩ := hk
    exact ⟨rfl, v.nx (B0.rf _)⟩
  · by_cases hb : (1 ≤ a1 ∧ a1 ≤ 100) ∧ (1 ≤ a2 ∧ a2 ≤ 100) ∧ (0 ≤ a3 ∧ a3 ≤ 300) ∧ (50 ≤ a4 ∧ a4 ≤ 900) ∧ (1 ≤ a5 ∧ a5 ≤ 100) ∧ (50 ≤ a6 ∧ a6 ≤ 999) ∧ (0 ≤ a7 ∧ a7 ≤ 500) ∧ (1 ≤ a8 ∧ a8 ≤ 500)
    · refine (mxc.mono (k_stuffV v.sc h63 (show sm < 6 by omega) v.esc a1 a2 a3 a4 a5 a6 a7 a8 hb) (by decide)).post ?_
      rintro _ g ⟨rfl, eg⟩
      refine ⟨_, rfl, ?_⟩
      obtain ⟨g8, eg8⟩ : ∃ g8, g8 = H8 h a1 a2 a3 a4 a5 a6 a7 a8 := ⟨_, rfl⟩
      have l8 : g8.1 = h.1 + 1 := by rw [eg8]; rfl
      have s8 : g8.2.1 = h.2.1 + 8 := by rw [eg8]; rfl
      obtain ⟨g0, eg0⟩ : ∃ g0, g0 = mj_setR (mj_setR (mj_new g8 6 2) (h.1 + 1) 0 (some h.1)) 9 sm (some (h.1 + 1)) := ⟨_, rfl⟩
      have eg : g = mj_setI g0 8 10 (nI (sm + 1)) := by rw [eg, eg0, eg8]; rfl
      have n8' : Nw h g8 := by rw [eg8]; exact H8_nw h a1 a2 a3 a4 a5 a6 a7 a8
      have nw : Nw h g0 := by rw [eg0]; exact ((n8'.new 6 2).setR (by simp)).setR (by simp)
      have C0 : SC g0 := by rw [eg0]; exact SC_setR (SC_setRd (SC_new (by rw [eg8]; exact H8_sc v.sc h63 _ _ _ _ _ _ _ _) (by omega) 6 2) (by omega)) (fun e he q => ccR_n e he (by simp [q.1]))
      have c0 : CJ g0 jm := CJ_nw v.cj nw h63 C0
      have l0 : g0.1 = h.1 + 2 := by rw [eg0]; show g8.1 + 1 = _; omega
      have s0 : g0.2.1 = h.2.1 + 10 := by rw [eg0]; show g8.2.1 + 2 = _; omega
      have rg : Rw g0 g [8] := by rw [eg]; exact (Rw.rf _ _).set (by decide)
      have cg : CJ g jm := CJ_rw c0 rg (Fr_lt c0.2.2.1 (by decide))
      have r0 : ∀ x i, x < h.1 → ¬ (x = 9 ∧ i = sm) → mj_R g x i = mj_R h x i := fun x i hx hn => by
        have e8 : mj_R g8 x i = mj_R h x i := by rw [eg8]; exact H8_r x i hx
        rw [rg.2.2.2.2.1, eg0, mj_R_set]
        by_cases q : x = 9
        · rw [if_pos q, if_neg (fun w => hn ⟨q, w⟩), mj_R_other (by omega), mj_R_new (by omega)]; exact e8
        · rw [if_neg q, mj_R_other (by omega), mj_R_new (by omega)]; exact e8
      have e1 : EF [8] [(9, sm)] h g := ⟨by rw [rg.1, l0]; omega, fun x hx => by rw [rg.2.2.1]; exact nw.2.1 x hx, fun x hx hn => by rw [rg.i hn]; exact nw.2.2.1 x hx, fun x hx i hn => r0 x i hx (fun q => hn (by rw [q.1, q.2]; simp)), fun x _ hx => by rw [rg.2.2.2.1]; exact nw.2.2.2.1 x hx⟩
      have g33 : mj_I g 33 = mj_I h 33 := e1.2.2.1 33 (by omega) (by decide)
      have g34 : mj_I g 34 = mj_I h 34 := e1.2.2.1 34 (by omega) (by decide)
      refine (mxc.mono (c_stuff (h := g) (MW_ef v.mw e1 h63 (by decide) (by simp)).1 a1 a2 a3 a4 a5 a6 a7 a8 h6 (by rw [g33]; exact v.esm)) (by decide)).post ?_
      intro r k hk
      rw [if_pos ⟨hb.1, hb.2.1, hb.2.2.1, hb.2.2.2.1, hb.2.2.2.2.1, hb.2.2.2.2.2.1, hb.2.2.2.2.2.2.1, hb.2.2.2.2.2.2.2, hs⟩] at hk
      obtain ⟨rfl, ek⟩ := hk
      have r2 : Rw g k [33, 34] := by rw [ek]; exact (((((((((Rw.rf g _).set (by decide)).set (by decide)).set (by decide)).set (by decide)).set (by decide)).set (by decide)).set (by decide)).set (by decide)).set (by decide)
      have e2 : EF [8, 33, 34] [(9, sm)] h k := (e1.mono (fun x _ q => by simp only [List.mem_cons, List.not_mem_nil, or_false] at q ⊢; omega) (fun x _ q => q)).trans ((r2.ef [(9, sm)]).mono (fun x _ q => by simp only [List.mem_cons, List.not_mem_nil, or_false] at q ⊢; omega) (fun x _ q => q))
      have i33 : ∀ q, ¬ q = 7 → mj_I k 33 q = mj_I h 33 q := fun q hq => by rw [ek, mj_I_ne hq, mj_I_other (by decide), mj_I_other (by decide), mj_I_other (by decide), mj_I_other (by decide), mj_I_other (by decide), mj_I_other (by decide), mj_I_other (by decide), mj_I_other (by decide), g33]
      have ki : ∀ q, q < 63 → q ∉ [8, 33, 34] → mj_I k q = mj_I h q := fun q hq hn => ef_i e2 h63 hq hn
      have k34 : ∀ s i, i < 8 → mj_I k 34 (8 * s + i) = if s = sm then n8 a1 a2 a3 a4 a5 a6 a7 a8 i else mj_I h 34 (8 * s + i) := fun s i hi => by
        by_cases q : s = sm
        · subst q
          rw [if_pos rfl, ek, mj_I_other (by decide)]
          have hc : i = 0 ∨ i = 1 ∨ i = 2 ∨ i = 3 ∨ i = 4 ∨ i = 5 ∨ i = 6 ∨ i = 7 := by omega
          rcases hc with rfl | rfl | rfl | rfl | rfl | rfl | rfl | rfl
          · rw [mj_I_ne (by omega), mj_I_ne (by omega), mj_I_ne (by omega), mj_I_ne (by omega), mj_I_ne (by omega), mj_I_ne (by omega), mj_I_ne (by omega)]; exact mj_I_at _ _ _ _
          · rw [mj_I_ne (by omega), mj_I_ne (by omega), mj_I_ne (by omega), mj_I_ne (by omega), mj_I_ne (by omega), mj_I_ne (by omega)]; exact mj_I_at _ _ _ _
          · rw [mj_I_ne (by omega), mj_I_ne (by omega), mj_I_ne (by omega), mj_I_ne (by omega), mj_I_ne (by omega)]; exact mj_I_at _ _ _ _
          · rw [mj_I_ne (by omega), mj_I_ne (by omega), mj_I_ne (by omega), mj_I_ne (by omega)]; exact mj_I_at _ _ _ _
          · rw [mj_I_ne (by omega), mj_I_ne (by omega), mj_I_ne (by omega)]; exact mj_I_at _ _ _ _
          · rw [mj_I_ne (by omega), mj_I_ne (by omega)]; exact mj_I_at _ _ _ _
          · rw [mj_I_ne (by omega)]; exact mj_I_at _ _ _ _
          · exact mj_I_at _ _ _ _
        · rw [if_neg q, ek, mj_I_other (by decide), mj_I_ne (by omega), mj_I_ne (by omega), mj_I_ne (by omega), mj_I_ne (by omega), mj_I_ne (by omega), mj_I_ne (by omega), mj_I_ne (by omega), mj_I_ne (by omega), g34]
      have kr : mj_R k 9 sm = some (h.1 + 1) := by rw [r2.2.2.2.2.1, rg.2.2.2.2.1, eg0]; exact mj_R_at _ _ _ _
      have kK1 : mj_K k (h.1 + 1) = (6, 2) := by
        rw [r2.2.2.1, rg.2.2.1, eg0]
        show mj_K (mj_new g8 6 2) (h.1 + 1) = _
        rw [← l8]
        exact mj_K_newA g8 6 2
      have kR1 : mj_R k (h.1 + 1) 0 = some h.1 := by rw [r2.2.2.2.2.1, rg.2.2.2.2.1, eg0, mj_R_other (by omega)]; exact mj_R_at _ _ _ _
      have kK0 : mj_K k h.1 = (12, 8) := by
        rw [r2.2.2.1, rg.2.2.1, eg0]
        show mj_K (mj_new g8 6 2) h.1 = _
        rw [mj_K_new (by omega), eg8]
        exact mj_K_newA h 12 8
      have kI0 : ∀ i, i < 8 → mj_I k h.1 i = n8 a1 a2 a3 a4 a5 a6 a7 a8 i := fun i hi => by
        rw [r2.i (by simp; omega), rg.i (by simp; omega), eg0, mj_I_setR, mj_I_setR, mj_I_new (by omega), eg8]
        exact H8_i i hi
      have kI1 : mj_I k (h.1 + 1) 1 = 0 := by
        rw [r2.i (by simp; omega), rg.i (by simp; omega), eg0, mj_I_setR, mj_I_setR, ← l8]
        exact mj_I_newA g8 6 2 1
      have hS := v.2.2.2.2.1
      have esA : ∀ s, s < sm → sA k s = sA h s := fun s h1 => by unfold sA; rw [ef_r e2 h63 (by decide) (by simp; omega)]
      have sAn : sA k sm = h.1 + 1 := by unfold sA; rw [kr]; rfl
      have lk : k.1 = h.1 + 2 := by rw [r2.1, rg.1, l0]
      refine ⟨rfl, IV.nx (sm := sm + 1) (jm := jm) (wm := wm) (tm := tm) (xm := xm) (km := km) (em := em) ⟨MW_rw (MW_ef v.mw e1 h63 (by decide) (by simp)) r2 (by decide), CJ_rw cg r2 (Fr_lt cg.2.2.1 (by decide)), Nat.le_trans h63 e2.1, ?_, ⟨fun s hs' => ?_, fun s t hs' ht => ?_, fun q hq => by rw [ki 35 (by decide) (by decide)]; exact hS.2.2 q (by omega)⟩, al_WW v.2.2.2.2.2.1 h63 e2 (by decide) (by simp), TP_i v.tp (ki 20 (by decide) (by decide)) (ki 21 (by decide) (by decide)) (ki 51 (by decide) (by decide)) (i33 28 (by decide)), al_BB v.bb h63 e2 (by decide) (by simp) (i33 40 (by decide)) (i33 41 (by decide)) (i33 0 (by decide)), LL_i v.ll e2 h63 (by decide) (by simp) (i33 46 (by decide))⟩ (B0.ef e2 h63 (by decide) (by omega) (by rw [r2.2.1, rg.2.1, s0]; omega))⟩
      · have hv := v.2.2.2.1
        have g8i : ∀ q, ¬ q = 10 → mj_I k 8 q = mj_I h 8 q := fun q hq => by rw [r2.i (by decide), eg, mj_I_ne hq]; exact congrFun (nw.2.2.1 8 (by omega)) q
        unfold CO
        rw [i33 8 (by decide), i33 21 (by decide), i33 0 (by decide), g8i 11 (by decide), g8i 12 (by decide), g8i 9 (by decide)]
        exact ⟨⟨by omega, by rw [ek]; exact mj_I_at _ _ _ _, by rw [r2.i (by decide), eg]; exact mj_I_at _ _ _ _⟩, hv.2⟩
      · by_cases q : s = sm
        · subst q
          have sMn : sM k s = h.1 := by unfold sM; rw [sAn, kR1]; rfl
          unfold SS
          rw [sAn, sMn]
          refine ⟨⟨kr, kK1, by omega, by omega⟩, ⟨kR1, kK0, h63, by omega⟩, fun i hi => by rw [kI0 i hi, k34 s i hi, if_pos rfl], fun o ho => ?_, ?_⟩
          · rw [kI1, ki 35 (by decide) (by decide), hS.2.2 (6 * s + o) (by omega)]
            refine iff_of_false ?_ (fun z => z rfl)
            show ¬ BitVec.getLsbD 0#32 o = true
            simp
          · exact sBd_cg (g := n8 a1 a2 a3 a4 a5 a6 a7 a8) (fun i hi => (k34 s i hi).trans (if_pos rfl)) hb
        · have hsl : s < sm := by omega
          obtain ⟨k1, k2, k3, k4, k5⟩ := hS.1 s hsl
          have er : mj_R k 9 s = mj_R h 9 s := ef_r e2 h63 (by decide) (by simp; omega)
          have eM : sM k s = sM h s := by unfold sM; rw [esA s hsl, e2.2.2.2.1 _ k1.2.2.2 0 (by have := k1.2.2.1; simp; omega)]
          unfold SS
          rw [esA s hsl, eM, er, e2.2.1 _ k1.2.2.2, e2.2.1 _ k2.2.2.2, e2.2.2.2.1 _ k1.2.2.2 0 (by have := k1.2.2.1; simp; omega), e2.2.2.1 _ k1.2.2.2 (by have := k1.2.2.1; simp; omega), e2.2.2.1 _ k2.2.2.2 (by have := k2.2.2.1; simp; omega), ki 35 (by decide) (by decide)]
          refine ⟨⟨k1.1, k1.2.1, k1.2.2.1, by have := k1.2.2.2; omega⟩, ⟨k2.1, k2.2.1, k2.2.2.1, by have := k2.2.2.2; omega⟩, fun i hi => by rw [k34 s i hi, if_neg q]; exact k3 i hi, k4, ?_⟩
          exact sBd_cg (fun i hi => (k34 s i hi).trans (if_neg q)) k5
      · by_cases q1 : s = sm
        · by_cases q2 : t = sm
          · intro _; omega
          · rw [q1, sAn, esA t (by omega)]
            intro z
            have := (hS.1 t (by omega)).1.2.2.2
            omega
        · by_cases q2 : t = sm
          · rw [q2, sAn, esA s (by omega)]
            intro z
            have := (hS.1 s (by omega)).1.2.2.2
            omega
          · rw [esA s (by omega), esA t (by omega)]
            exact hS.2.1 s t (by omega) (by omega)
    · refine (mxc.mono (k_stuffI v.sc h63 (show sm < 6 by omega) v.esc a1 a2 a3 a4 a5 a6 a7 a8 hb) (by decide)).post ?_
      rintro _ g ⟨rfl, eg⟩
      refine ⟨_, rfl, ?_⟩
      have eg : g = H8 h a1 a2 a3 a4 a5 a6 a7 a8 := eg
      have nw : Nw h g := by rw [eg]; exact H8_nw h a1 a2 a3 a4 a5 a6 a7 a8
      have ee : EF [] [] h g := nw.ef (fun x i hx => by rw [eg]; exact H8_r x i hx)
      have vg := IV_al v ee (CJ_nw v.cj nw h63 (by rw [eg]; exact H8_sc v.sc h63 _ _ _ _ _ _ _ _))
      refine (mxc.mono (c_stuff vg.mw.1 a1 a2 a3 a4 a5 a6 a7 a8 h6 vg.esm) (by decide)).post ?_
      intro r k hk
      rw [if_neg (fun q => hb ⟨q.1, q.2.1, q.2.2.1, q.2.2.2.1, q.2.2.2.2.1, q.2.2.2.2.2.1, q.2.2.2.2.2.2.1, q.2.2.2.2.2.2.2.1⟩)] at hk
      obtain ⟨rfl, rfl⟩ := hk
      exact ⟨rfl, vg.nx (B0.ef ee h63 (by simp) (by rw [eg]; show h.1 + 1 ≤ _; omega) (by rw [eg]; show h.2.1 + 8 ≤ _; omega))⟩
