/-! CLASS AND REFERENCE ALIKE: rows and orders -/
/-- what every call keeps: the script, the law's row, and how much it may make -/
def B0 (h g : mj_H) : Prop := g.1 ≤ h.1 + 5 ∧ g.2.1 ≤ h.2.1 + 12000 ∧ mj_K g 7 = mj_K h 7 ∧ mj_I g 7 = mj_I h 7 ∧ mj_K g 62 = mj_K h 62
def NX (h k : mj_H) : Prop := (∃ sm jm wm tm xm km em, IV k sm jm wm tm xm km em) ∧ B0 h k
theorem B0.rf (h : mj_H) : B0 h h := ⟨by omega, by omega, rfl, rfl, rfl⟩
theorem B0.rw {h g k : mj_H} {as : List Nat} (b : B0 h g) (r : Rw g k as) (h7 : 7 ∉ as) : B0 h k := ⟨by rw [r.1]; exact b.1, by rw [r.2.1]; exact b.2.1, by rw [r.2.2.1]; exact b.2.2.1, by rw [r.i h7]; exact b.2.2.2.1, by rw [r.2.2.1]; exact b.2.2.2.2⟩
theorem B0.ef {is : List Nat} {rs : List (Nat × Nat)} {h g : mj_H} (e : EF is rs h g) (h63 : 63 ≤ h.1) (h7 : 7 ∉ is) (b1 : g.1 ≤ h.1 + 5) (b2 : g.2.1 ≤ h.2.1 + 12000) : B0 h g := ⟨b1, b2, e.2.1 7 (by omega), e.2.2.1 7 (by omega) h7, e.2.1 62 (by omega)⟩
theorem B0.cg {as : List Nat} {h g : mj_H} (e : Cg as h g) (h7 : 7 ∉ as) : B0 h g := ⟨by rw [e.1]; omega, by rw [e.2.1]; omega, e.k 7, e.i h7, e.k 62⟩
theorem IV_lr {h g : mj_H} {sm jm wm tm xm km em w : Nat} (v : IV h sm jm wm tm xm km em) (hw : w < wm) (l : LRe h g jm w) : IV g sm jm wm tm xm km em ∧ B0 h g := by
  obtain ⟨v1, v2, v3, v4, v5, v6, v7, v8, v9⟩ := v
  obtain ⟨Y, X, ⟨hX, h6X⟩, c, e, hf, b1, b2, hRD, hPV⟩ := l
  have kw := (v6.1 w hw).1
  have h6w := kw.1.2.2.1
  have hlw := kw.1.2.2.2
  have hXn : ∀ n k, (n, k) ≠ (12, 9261) → ∀ a, a < h.1 → mj_K h a = (n, k) → a ≠ X := fun n k hn a ha hk q => by
    rcases hX with z | z
    · omega
    · rw [← q, hk] at z; exact hn z
  have hni : ∀ a, a < 63 → a ∉ [12, 13, 14, 15, 16, 17, 18, 19] → a ∉ [X, wA h w, 12, 13, 14, 15, 16, 17, 18, 19] := fun a ha hn q => by
    simp only [List.mem_cons, List.not_mem_nil, or_false] at q hn
    omega
  have ei : ∀ a, a < 63 → a ∉ [12, 13, 14, 15, 16, 17, 18, 19] → mj_I g a = mj_I h a := fun a ha hn => ef_i e v3 ha (hni a ha hn)
  have hmem : ∀ a, a ∈ [X, wA h w, 12, 13, 14, 15, 16, 17, 18, 19] → a = X ∨ a = wA h w ∨ (12 ≤ a ∧ a ≤ 19) := fun a ha => by
    simp only [List.mem_cons, List.not_mem_nil, or_false] at ha
    omega
  have hmr : ∀ x : Nat × Nat, x ∈ [(12, 4), (8, 8), (wA h w, 3)] → x = (12, 4) ∨ x = (8, 8) ∨ x = (wA h w, 3) := fun x hx => by
    simpa only [List.mem_cons, List.not_mem_nil, or_false] using hx
  have ew : ∀ u, wA g u = wA h u := fun u => by unfold wA; rw [ef_r e v3 (by decide) (fun q => by have := hmr _ q; simp only [Prod.mk.injEq] at this; omega)]
  refine ⟨⟨MW_ef v1 e v3 (fun a ha => by have := hmem a ha; omega) (fun x hx => ?_), c, Nat.le_trans v3 e.1, ?_, SS_ef v5 e v3 (fun a ha hl => ?_) (fun x hx hl => ?_), ⟨fun u hu => ?_, fun u u' hu hu' => by rw [ew, ew]; exact v6.2.1 u u' hu hu', hPV⟩, TP_i v7 (ei 20 (by decide) (by decide)) (ei 21 (by decide) (by decide)) (ei 51 (by decide) (by decide)) (congrFun (ei 33 (by decide) (by decide)) 28), ⟨BK_to v8.1 v3 e (fun a ha => ?_) (fun x hx => ?_), ?_, ?_, ?_⟩, LL_i v9 e v3 (fun a ha q => ?_) (fun q => ?_) (congrFun (ei 33 (by decide) (by decide)) 46)⟩, B0.ef e v3 (hni 7 (by decide) (by decide)) (by omega) (by omega)⟩
  · rcases hmr x hx with q | q | q <;> rw [q] <;> first | decide | (show wA h w ≠ 33; omega)
  · unfold CO
    rw [ei 33 (by decide) (by decide), ei 8 (by decide) (by decide)]
    exact v4
  · rcases hmem a ha with q | q | q
    · refine ⟨by omega, by omega, fun _ => ⟨fun z => hXn 6 2 (by decide) a hl z q, fun z => hXn 12 8 (by decide) a hl z q⟩⟩
    · refine ⟨by omega, by omega, fun _ => ⟨fun z => ?_, fun z => ?_⟩⟩ <;> (rw [q, kw.1.2.1] at z; cases z)
    · exact ⟨by omega, by omega, fun z => by omega⟩
  · rcases hmr x hx with q | q | q
    · rw [q]; exact ⟨by decide, fun z => absurd z (by decide)⟩
    · rw [q]; exact ⟨by decide, fun z => absurd z (by decide)⟩
    · rw [q]
      refine ⟨by show wA h w ≠ 9; omega, fun _ z => ?_⟩
      have z' : mj_K h (wA h w) = (6, 2) := z
      rw [kw.1.2.1] at z'
      cases z'
  · by_cases uw : u = w
    · subst uw
      have e36 := ei 36 (by decide) (by decide)
      have e45 := ei 45 (by decide) (by decide)
      have e46 := ei 46 (by decide) (by decide)
      have e47 := ei 47 (by decide) (by decide)
      obtain ⟨ej, el, eW, eg⟩ := win_to e36 e45 e46 e47 u
      have ePW : PW g u = PW h u := by unfold PW; rw [eg, eW]
      refine ⟨WC_to kw e.1 (ef_r e v3 (by decide) (fun q => by have := hmr _ q; simp only [Prod.mk.injEq] at this; omega)) (e.2.1 _ hlw) (e.2.2.2.1 _ hlw 0 (fun q => by have := hmr _ q; simp only [Prod.mk.injEq] at this; omega)) (hf 1 (by decide) (by decide) (by decide)) (hf 2 (by decide) (by decide) (by decide)) (fun j => by unfold jA; rw [ef_r e v3 (by decide) (fun q => by have := hmr _ q; simp only [Prod.mk.injEq] at this; omega)]) e36 e45 e46 e47, Or.inr ⟨Y, ?_⟩⟩
      unfold RowD
      rw [ew, ePW, eg, el, eW]
      exact hRD
    · have ku := (v6.1 u hu).1
      have hwu : wA h u ≠ wA h w := fun z => uw (v6.2.1 u w hu hw z)
      have q := WC_ef v6.1 e v3 (fun a ha _ => by have := hmem a ha; omega) (fun x hx _ => by rcases hmr x hx with q | q | q <;> rw [q] <;> first | decide | (constructor <;> (show wA h w ≠ _; omega))) hu (fun q => by have := hmem _ q; have := hXn 9 7 (by decide) _ ku.1.2.2.2 ku.1.2.1; have := ku.1.2.2.1; omega) (fun i q => by have := hmr _ q; simp only [Prod.mk.injEq] at this; have := ku.1.2.2.1; omega) (fun Y' h6 hl hn q => by
        obtain ⟨n, hn1, hn2⟩ := hn
        have := hmem _ q
        have h1 : Y' ≠ X := hXn 12 n (fun z => by injection z with _ z; omega) Y' hl hn1
        have h2 : Y' ≠ wA h w := fun z => by rw [z, kw.1.2.1] at hn1; cases hn1
        omega)
      exact ⟨q.1, q.2.1⟩
  · rcases hmem a ha with q | q | q
    · exact ⟨by simp; omega, fun _ hl z => hXn 4 3 (by decide) a hl z q⟩
    · exact ⟨by simp; omega, fun _ _ z => by rw [q, kw.1.2.1] at z; cases z⟩
    · exact ⟨by simp; omega, fun z => by omega⟩
  · rcases hmr x hx with q | q | q
    · rw [q]; exact ⟨by decide, by decide, fun z => absurd z (by decide)⟩
    · rw [q]; exact ⟨by decide, by decide, fun z => absurd z (by decide)⟩
    · rw [q]
      refine ⟨by show wA h w ≠ 23; omega, by show wA h w ≠ 10; omega, fun _ _ z => ?_⟩
      have z' : mj_K h (wA h w) = (4, 3) := z
      rw [kw.1.2.1] at z'
      cases z'
  · rw [ei 33 (by decide) (by decide)]; exact v8.2.1
  · rw [ei 33 (by decide) (by decide)]; exact v8.2.2.1
  · rw [ei 33 (by decide) (by decide), ei 57 (by decide) (by decide)]; exact v8.2.2.2
  · have := hmem a ha
    simp only [List.mem_cons, List.not_mem_nil, or_false] at q
    omega
  · have := hmr _ q
    simp only [Prod.mk.injEq] at this
    omega
theorem IV_oe {h g : mj_H} {sm jm wm tm xm km em : Nat} (v : IV h sm jm wm tm xm km em) (o : OE h g jm em) : IV g sm jm wm tm xm km em ∧ B0 h g := by
  obtain ⟨v1, v2, v3, v4, v5, v6, v7, v8, v9⟩ := v
  obtain ⟨c, ⟨Rt, hRt, h6R, e⟩, hf, e7, hPN, b1, b2, hRt2⟩ := o
  have hRn : ∀ n k, (n, k) ≠ (12, 2048) → ∀ a, a < h.1 → mj_K h a = (n, k) → a ≠ Rt := fun n k hn a ha hk q => by
    rcases hRt with z | z
    · omega
    · rw [← q, hk] at z; exact hn z
  have hmem : ∀ a, a ∈ [28, 31, 32, Rt] → a = 28 ∨ a = 31 ∨ a = 32 ∨ a = Rt := fun a ha => by
    simpa only [List.mem_cons, List.not_mem_nil, or_false] using ha
  have ei : ∀ a, a < 63 → a ∉ [28, 31, 32] → mj_I g a = mj_I h a := fun a ha hn => ef_i e v3 ha (fun q => by have := hmem a q; simp only [List.mem_cons, List.not_mem_nil, or_false] at hn; omega)
  have hmr : ∀ x : Nat × Nat, x ∈ [(28, 4)] → x = (28, 4) := fun x hx => by simpa only [List.mem_cons, List.not_mem_nil, or_false] using hx
  have ew : ∀ u, wA g u = wA h u := fun u => by unfold wA; rw [ef_r e v3 (by decide) (by simp)]
  refine ⟨⟨MW_ef v1 e v3 (fun a ha => by have := hmem a ha; omega) (by decide), c, Nat.le_trans v3 e.1, ?_, SS_ef v5 e v3 (fun a ha hl => ?_) (fun x hx hl => ?_), ⟨fun u hu => ?_, fun u u' hu hu' => by rw [ew, ew]; exact v6.2.1 u u' hu hu', PV_ef v6.2.2 e v3 (fun x hx _ => ?_)⟩, TP_i v7 (ei 20 (by decide) (by decide)) (ei 21 (by decide) (by decide)) (ei 51 (by decide) (by decide)) (congrFun (ei 33 (by decide) (by decide)) 28), ⟨BK_to v8.1 v3 e (fun a ha => ?_) (fun x hx => ?_), ?_, ?_, ?_⟩, ⟨DL_to v9.1 (hf 5 (by decide) (by decide)) (ei 29 (by decide) (by decide)) (ei 30 (by decide) (by decide)) (ei 58 (by decide) (by decide)) (ei 59 (by decide) (by decide)), (congrFun (ei 33 (by decide) (by decide)) 46).trans v9.2.1, Or.inl ⟨e7, PN_to hPN (by funext a b; exact chg_to (ei 58 (by decide) (by decide)) (ei 59 (by decide) (by decide)) a b) rfl rfl⟩, hRt2⟩⟩, B0.ef e v3 (by simp; omega) (by omega) (by omega)⟩
  · unfold CO
    rw [ei 33 (by decide) (by decide), ei 8 (by decide) (by decide)]
    exact v4
  · rcases hmem a ha with q | q | q | q
    · exact ⟨by omega, by omega, fun z => by omega⟩
    · exact ⟨by omega, by omega, fun z => by omega⟩
    · exact ⟨by omega, by omega, fun z => by omega⟩
    · exact ⟨by omega, by omega, fun _ => ⟨fun z => hRn 6 2 (by decide) a hl z q, fun z => hRn 12 8 (by decide) a hl z q⟩⟩
  · rw [hmr x hx]; exact ⟨by decide, fun z => absurd z (by decide)⟩
  · have ku := (v6.1 u hu).1
    have q := WC_ef v6.1 e v3 (fun a ha _ => by have := hmem a ha; omega) (fun x hx _ => by rw [hmr x hx]; decide) hu (fun q => by have := hmem _ q; have := hRn 9 7 (by decide) _ ku.1.2.2.2 ku.1.2.1; have := ku.1.2.2.1; omega) (fun i q => by have := hmr _ q; simp only [Prod.mk.injEq] at this; have := ku.1.2.2.1; omega) (fun Y' h6 hl hn q => by
      obtain ⟨n, hn1, hn2⟩ := hn
      have := hmem _ q
      have h1 : Y' ≠ Rt := hRn 12 n (fun z => by injection z with _ z; omega) Y' hl hn1
      omega)
    exact ⟨q.1, q.2.1⟩
  · rw [hmr x hx]; exact ⟨by decide, fun z => absurd z (by decide)⟩
  · rcases hmem a ha with q | q | q | q
    · exact ⟨by rw [q]; decide, fun z => by omega⟩
    · exact ⟨by rw [q]; decide, fun z => by omega⟩
    · exact ⟨by rw [q]; decide, fun z => by omega⟩
    · exact ⟨by simp; omega, fun _ hl z => hRn 4 3 (by decide) a hl z q⟩
  · rw [hmr x hx]; exact ⟨by decide, by decide, fun z => absurd z (by decide)⟩
  · rw [ei 33 (by decide) (by decide)]; exact v8.2.1
  · rw [ei 33 (by decide) (by decide)]; exact v8.2.2.1
  · rw [ei 33 (by decide) (by decide), ei 57 (by decide) (by decide)]; exact v8.2.2.2
/-- class and reference asked alike: they answer alike, and stand alike behind it -/
def PR (mc mm : Nat) (as : List Value) (h : mj_H) : Prop := mxc 30 mc (.ref 8 :: as) h (fun r g => ∃ v, r = some (.int v) ∧ mxc 30 mm (.ref 33 :: as) g (fun r' k => r' = some (.int v) ∧ NX h k))
