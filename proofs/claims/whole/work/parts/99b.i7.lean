/-! CALLS that change: bars -/
theorem pr_bar {h : mj_H} {sm jm wm tm xm km em : Nat} (v : IV h sm jm wm tm xm km em) (x y : Int32) : PR 70 120 [.int x, .int y] h := by
  have h6 := v.sm6
  have S := v.2.2.2.2.1
  by_cases hx : mIn x sm
  · obtain ⟨a, ha, rfl⟩ := mIn_of hx (by omega)
    have ea := nI_clamp (show a < 2 ^ 31 by omega)
    have hA := S.1 a ha
    by_cases hy : mIn y sm
    · obtain ⟨b, hb, rfl⟩ := mIn_of hy (by omega)
      have eb := nI_clamp (show b < 2 ^ 31 by omega)
      have hB := S.1 b hb
      have hbit := hA.2.2.2.1 b (by omega)
      by_cases hz : mj_I h 35 (6 * a + b) = 0
      · have hnb : ¬ ibit (mj_I h (sA h a) 1) b = true := fun q => hbit.mp q hz
        refine (mxc.mono (k_barV v.sc h6 v.esc ha hb hA hB hnb) (by decide)).post ?_
        rintro _ g ⟨rfl, eg⟩
        refine ⟨_, rfl, ?_⟩
        obtain ⟨g1, eg1⟩ : ∃ g1, g1 = mj_setI h (sA h a) 1 (mj_I h (sA h a) 1 ||| (1 <<< (nI b &&& 31))) := ⟨_, rfl⟩
        rw [← eg1] at eg
        have h63 := v.l63
        have a63 := hA.1.2.2.1
        have b63 := hB.1.2.2.1
        have r1 : Rw h g [sA h a, sA h b] := by rw [eg, eg1]; exact ((Rw.rf h _).set (by simp)).set (by simp)
        have ri : ∀ q, q < 63 → mj_I g q = mj_I h q := fun q hq => r1.i (by simp; omega)
        refine (mxc.mono (c_bar (h := g) (r1.sm v.mw.1) (nI a) (nI b) h6 (by rw [ri 33 (by decide)]; exact v.esm)) (by decide)).post ?_
        intro r k hk
        rw [if_pos (by rw [ri 35 (by decide), ea, eb]; exact ⟨hx, hy, hz⟩), ea, eb] at hk
        obtain ⟨rfl, ek⟩ := hk
        have r2 : Rw g k [35] := by rw [ek]; exact ((Rw.rf g _).set (by decide)).set (by decide)
        have r3 : Rw h k [sA h a, sA h b, 35] := (r1.mono (by simp)).trans (r2.mono (by simp))
        have ki : ∀ q, q < 63 → q ≠ 35 → mj_I k q = mj_I h q := fun q hq h5 => r3.i (by simp; omega)
        have fr : ∀ s, s < sm → Fr h jm [sA h s] := fun s hs => Fr_o v.cj (S.1 s hs).1.2.1 (by decide) (S.1 s hs).1.2.2.1
        have ck : CJ k jm := CJ_rw v.cj r3 (fun q hq => by
          simp only [List.mem_cons, List.not_mem_nil, or_false] at hq
          rcases hq with e | e | e
          · exact fr a ha q (by simp [e])
          · exact fr b hb q (by simp [e])
          · exact Fr_lt v.cj.2.2.1 (as := [35]) (by decide) q (by simp [e]))
        have esA : ∀ s, sA k s = sA h s := fun s => by unfold sA; rw [r3.2.2.2.2.1]
        have esM : ∀ s, sM k s = sM h s := fun s => by unfold sM; rw [esA, r3.2.2.2.2.1]
        have k35 : ∀ q, mj_I k 35 q = if q = 6 * b + a then nI 1 else if q = 6 * a + b then nI 1 else mj_I h 35 q := fun q => by
          rw [ek]
          refine mj_I_if rfl ?_
          exact mj_I_if rfl (congrFun (ri 35 (by decide)) q)
        have kb : ∀ s, s < sm → ∀ o, o < 6 → (ibit (mj_I k (sA h s) 1) o = true ↔ ibit (mj_I h (sA h s) 1) o = true ∨ (s = a ∧ o = b) ∨ (s = b ∧ o = a)) := fun s hs o ho => by
          have e0 : mj_I k (sA h s) = mj_I g (sA h s) := r2.i (by have := (S.1 s hs).1.2.2.1; simp; omega)
          have inj : ∀ t, t < sm → (sA h s = sA h t ↔ s = t) := fun t ht => ⟨S.2.1 s t hs ht, fun e => by rw [e]⟩
          have e1 : ibit (mj_I g1 (sA h s) 1) o = true ↔ ibit (mj_I h (sA h s) 1) o = true ∨ (s = a ∧ o = b) := by
            rw [eg1, mj_I_set]
            by_cases q : s = a
            · rw [if_pos (by rw [q]), if_pos rfl, ib_or _ (by omega) (by omega), Bool.or_eq_true, decide_eq_true_iff, q]
              simp
            · rw [if_neg (fun z => q ((inj a ha).mp z))]
              simp [q]
          rw [e0, eg, mj_I_set]
          by_cases q : s = b
          · rw [if_pos (by rw [q]), if_pos rfl, ib_or _ (by omega) (by omega), Bool.or_eq_true, decide_eq_true_iff]
            rw [q] at e1
            rw [e1, q]
            simp only [true_and]
            exact or_assoc
          · rw [if_neg (fun z => q ((inj b hb).mp z)), e1]
            simp [q]
        refine ⟨rfl, IV.nx (sm := sm) (jm := jm) (wm := wm) (tm := tm) (xm := xm) (km := km) (em := em) ⟨MW_rw (MW_ef v.mw (r1.ef []) h63 (fun q hq => by simp only [List.mem_cons, List.not_mem_nil, or_false] at hq; omega) (by simp)) r2 (by decide), ck, by rw [r3.1]; exact h63, ?_, ⟨fun s hs => ?_, fun s t hs ht => by rw [esA, esA]; exact S.2.1 s t hs ht, fun q hq => by rw [k35, if_neg (by omega), if_neg (by omega)]; exact S.2.2 q hq⟩, ?_, TP_i v.tp (ki 20 (by decide) (by decide)) (ki 21 (by decide) (by decide)) (ki 51 (by decide) (by decide)) (congrFun (ki 33 (by decide) (by decide)) 28), ?_, LL_rw v.ll r3 h63 (fun q hq => by simp only [List.mem_cons, List.not_mem_nil, or_false] at hq ⊢; omega) (congrFun (ki 33 (by decide) (by decide)) 46)⟩ ((B0.rf h).rw r3 (by simp; omega))⟩
        · unfold CO
          rw [ki 33 (by decide) (by decide), ki 8 (by decide) (by decide)]
          exact v.2.2.2.1
        · obtain ⟨k1, k2, k3, k4, k5⟩ := S.1 s hs
          have iM : mj_I k (sM h s) = mj_I h (sM h s) := r3.i (fun q => by
            simp only [List.mem_cons, List.not_mem_nil, or_false] at q
            rcases q with q | q | q
            · have := k2.2.1; rw [q, hA.1.2.1] at this; cases this
            · have := k2.2.1; rw [q, hB.1.2.1] at this; cases this
            · have := k2.2.2.1; omega)
          unfold SS
          rw [esA, esM, iM, r3.2.2.2.2.1, r3.2.2.1, r3.1, ki 34 (by decide) (by decide)]
          refine ⟨k1, k2, k3, fun o ho => ?_, k5⟩
          rw [kb s hs o ho, k4 o ho, k35]
          have hn1 : ¬ nI 1 = 0 := by decide
          by_cases q1 : 6 * s + o = 6 * b + a
          · rw [if_pos q1]
            exact iff_of_true (Or.inr (Or.inr ⟨by omega, by omega⟩)) hn1
          · rw [if_neg q1]
            by_cases q2 : 6 * s + o = 6 * a + b
            · rw [if_pos q2]
              exact iff_of_true (Or.inr (Or.inl ⟨by omega, by omega⟩)) hn1
            · rw [if_neg q2]
              constructor
              · rintro (z | z | z)
                · exact z
                · exact absurd (by rw [z.1, z.2]) q2
                · exact absurd (by rw [z.1, z.2]) q1
              · exact Or.inl
        · refine ⟨fun u hu => ?_, fun u u' hu hu' => ?_, PV_ef v.2.2.2.2.2.1.2.2 (r3.ef []) h63 (by simp)⟩
          · have ku := (v.win hu).1
            have q := WC_ef v.2.2.2.2.2.1.1 (r3.ef []) h63 (fun q hq _ => by simp only [List.mem_cons, List.not_mem_nil, or_false] at hq; omega) (by simp) hu (fun z => by
              simp only [List.mem_cons, List.not_mem_nil, or_false] at z
              have k9 := ku.1.2.1
              rcases z with z | z | z
              · rw [z, hA.1.2.1] at k9; cases k9
              · rw [z, hB.1.2.1] at k9; cases k9
              · have := ku.1.2.2.1; omega) (by simp) (fun Y h6 _ hn z => by
              obtain ⟨n, hn1, _⟩ := hn
              simp only [List.mem_cons, List.not_mem_nil, or_false] at z
              rcases z with z | z | z
              · rw [z, hA.1.2.1] at hn1; cases hn1
              · rw [z, hB.1.2.1] at hn1; cases hn1
              · omega)
            exact ⟨q.1, q.2.1⟩
          · have eA : ∀ u, wA k u = wA h u := fun u => by unfold wA; rw [r3.2.2.2.2.1]
            rw [eA, eA]
            exact v.2.2.2.2.2.1.2.1 u u' hu hu'
        · refine ⟨BK_to v.bb.1 h63 (r3.ef []) (fun q hq => ?_) (by simp), by rw [ki 33 (by decide) (by decide)]; exact v.bb.2.1, by rw [ki 33 (by decide) (by decide)]; exact v.bb.2.2.1, by rw [ki 33 (by decide) (by decide), ki 57 (by decide) (by decide)]; exact v.bb.2.2.2⟩
          simp only [List.mem_cons, List.not_mem_nil, or_false] at hq
          refine ⟨by simp; omega, fun _ _ z => ?_⟩
          rcases hq with e | e | e
          · rw [e, hA.1.2.1] at z; cases z
          · rw [e, hB.1.2.1] at z; cases z
          · omega
      · refine (mxc.mono (k_barB v.sc h6 v.esc ha hb hA hB (hbit.mpr hz)) (by decide)).post ?_
        rintro _ g ⟨rfl, eg⟩
        have eg := eg.symm
        subst eg
        refine ⟨_, rfl, ?_⟩
        refine (mxc.mono (c_bar v.mw.1 (nI a) (nI b) h6 v.esm) (by decide)).post ?_
        intro r k hk
        rw [if_neg (by rw [ea, eb]; exact fun q => hz q.2.2)] at hk
        obtain ⟨rfl, rfl⟩ := hk
        exact ⟨rfl, v.nx (B0.rf _)⟩
    · refine (mxc.mono (k_bar1 v.sc h6 v.esc ha hA y hy) (by decide)).post ?_
      rintro _ g ⟨rfl, eg⟩
      have eg := eg.symm
      subst eg
      refine ⟨_, rfl, ?_⟩
      refine (mxc.mono (c_bar v.mw.1 (nI a) y h6 v.esm) (by decide)).post ?_
      intro r k hk
      rw [if_neg (fun q => hy q.2.1)] at hk
      obtain ⟨rfl, rfl⟩ := hk
      exact ⟨rfl, v.nx (B0.rf _)⟩
  · have hcl : mxc 1 70 [.ref 8, .int x, .int y] h (fun r h' => r = some (.int (nI 0)) ∧ h' = h) := by
      by_cases hy : mIn y sm
      · obtain ⟨b, hb, rfl⟩ := mIn_of hy (by omega)
        exact k_bar2 v.sc h6 v.esc x hb (S.1 b hb) hx
      · exact k_bar0 v.sc h6 v.esc x y hx hy
    refine (mxc.mono hcl (by decide)).post ?_
    rintro _ g ⟨rfl, eg⟩
    have eg := eg.symm
    subst eg
    refine ⟨_, rfl, ?_⟩
    refine (mxc.mono (c_bar v.mw.1 x y h6 v.esm) (by decide)).post ?_
    intro r k hk
    rw [if_neg (fun q => hx q.1)] at hk
    obtain ⟨rfl, rfl⟩ := hk
    exact ⟨rfl, v.nx (B0.rf _)⟩
