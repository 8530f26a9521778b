/-! CLASS AND REFERENCE ALIKE -/
/-- the tape: the class's as the reference's -/
def TP (h : mj_H) (tm : Nat) : Prop := tm ≤ 500 ∧ mj_I h 33 28 = nI tm ∧ mj_I h 20 1 = nI tm ∧ ∀ q, q < tm → mj_I h 21 q = mj_I h 51 q ∧ ∃ t, t ≤ 31 ∧ mj_I h 51 q = nI t
def CO (h : mj_H) (sm jm wm : Nat) : Prop := (sm ≤ 6 ∧ mj_I h 33 7 = nI sm ∧ mj_I h 8 10 = nI sm) ∧ (mj_I h 33 8 = nI jm ∧ mj_I h 8 11 = nI jm) ∧ (wm ≤ 10 ∧ mj_I h 33 21 = nI wm ∧ mj_I h 8 12 = nI wm) ∧ mj_I h 8 9 = mj_I h 33 0 ∧ 0 ≤ (mj_I h 33 0).toInt ∧ (mj_I h 33 0).toInt ≤ 1000
def SSs (h : mj_H) (sm : Nat) : Prop := (∀ s, s < sm → SS h s sm) ∧ (∀ s t, s < sm → t < sm → sA h s = sA h t → s = t) ∧ ∀ q, 6 * sm ≤ q → mj_I h 35 q = 0
def WWs (h : mj_H) (wm jm : Nat) : Prop := (∀ w, w < wm → WC h w jm ∧ RowOk h w) ∧ (∀ w v, w < wm → v < wm → wA h w = wA h v → w = v) ∧ PV h
def BBs (h : mj_H) (jm xm km : Nat) : Prop := BK h jm xm km ∧ mj_I h 33 40 = nI xm ∧ mj_I h 33 41 = nI km ∧ ∀ i, i < km → mj_I h 57 i ≤ mj_I h 33 0
def LLs (h : mj_H) (em : Nat) : Prop := DL h em ∧ mj_I h 33 46 = nI em ∧ FlOk h em ∧ RtOk h
/-- class and reference stand alike -/
def IV (h : mj_H) (sm jm wm tm xm km em : Nat) : Prop := MW h jm ∧ CJ h jm ∧ 63 ≤ h.1 ∧ CO h sm jm wm ∧ SSs h sm ∧ WWs h wm jm ∧ TP h tm ∧ BBs h jm xm km ∧ LLs h em
theorem ef_i {is : List Nat} {rs : List (Nat × Nat)} {h g : mj_H} (e : EF is rs h g) (h63 : 63 ≤ h.1) {a : Nat} (ha : a < 63) (hn : a ∉ is) : mj_I g a = mj_I h a := e.2.2.1 a (by omega) hn
theorem ef_r {is : List Nat} {rs : List (Nat × Nat)} {h g : mj_H} (e : EF is rs h g) (h63 : 63 ≤ h.1) {a i : Nat} (ha : a < 63) (hn : (a, i) ∉ rs) : mj_R g a i = mj_R h a i := e.2.2.2.1 a (by omega) i hn
theorem MW_ef {is : List Nat} {rs : List (Nat × Nat)} {h g : mj_H} {jm : Nat} (w : MW h jm) (e : EF is rs h g) (h63 : 63 ≤ h.1) (hi : ∀ a ∈ is, a < 33 ∨ 63 ≤ a) (hr : ∀ x ∈ rs, x.1 ≠ 33) : MW g jm := by
  obtain ⟨w1, w2, w3, w4, w5⟩ := w
  have ei : ∀ a, 33 ≤ a → a < 62 → mj_I g a = mj_I h a := fun a h1 h2 => ef_i e h63 (by omega) (fun q => by have := hi a q; omega)
  refine ⟨⟨?_, fun x hx => ?_⟩, fun a ha q hq => ?_, w3, fun j hj => (w4 j hj).to (ei 36 (by decide) (by decide)), fun j hj z hz => ?_⟩
  · rw [e.2.1 33 (by omega)]; exact w1.1
  · have hk : x.2.1 < 62 ∧ 33 ≤ x.2.1 := by revert x; decide
    rw [ef_r e h63 (by decide) (fun q => hr _ q rfl), e.2.1 _ (by omega)]
    exact w1.2 x hx
  · rw [ei a (by revert a; decide) (by revert a; decide)]
    exact w2 a ha q hq
  · rw [ei 44 (by decide) (by decide), vd_eq (ei 36 (by decide) (by decide))]
    exact w5 j hj z hz
theorem SS_ef {is : List Nat} {rs : List (Nat × Nat)} {h g : mj_H} {sm : Nat} (w : SSs h sm) (e : EF is rs h g) (h63 : 63 ≤ h.1) (hi : ∀ a ∈ is, a < h.1 → a ≠ 34 ∧ a ≠ 35 ∧ (63 ≤ a → mj_K h a ≠ (6, 2) ∧ mj_K h a ≠ (12, 8))) (hr : ∀ x ∈ rs, x.1 < h.1 → x.1 ≠ 9 ∧ (63 ≤ x.1 → mj_K h x.1 ≠ (6, 2))) : SSs g sm := by
  obtain ⟨w1, w2, w3⟩ := w
  have er : ∀ s, mj_R g 9 s = mj_R h 9 s := fun s => ef_r e h63 (by decide) (fun q => (hr _ q (by show 9 < h.1; omega)).1 rfl)
  have eA : ∀ s, sA g s = sA h s := fun s => by unfold sA; rw [er]
  have e34 : mj_I g 34 = mj_I h 34 := ef_i e h63 (by decide) (fun q => (hi _ q (by omega)).1 rfl)
  have e35 : mj_I g 35 = mj_I h 35 := ef_i e h63 (by decide) (fun q => (hi _ q (by omega)).2.1 rfl)
  refine ⟨fun s hs => ?_, fun s t hs ht => by rw [eA, eA]; exact w2 s t hs ht, fun q hq => by rw [e35]; exact w3 q hq⟩
  obtain ⟨k1, k2, k3, k4, k5⟩ := w1 s hs
  have rA : ∀ i, mj_R g (sA h s) i = mj_R h (sA h s) i := fun i => e.2.2.2.1 _ k1.2.2.2 i (fun q => (hr _ q k1.2.2.2).2 k1.2.2.1 k1.2.1)
  have eM : sM g s = sM h s := by unfold sM; rw [eA, rA]
  have iA : mj_I g (sA h s) = mj_I h (sA h s) := e.2.2.1 _ k1.2.2.2 (fun q => ((hi _ q k1.2.2.2).2.2 k1.2.2.1).1 k1.2.1)
  have iM : mj_I g (sM h s) = mj_I h (sM h s) := e.2.2.1 _ k2.2.2.2 (fun q => ((hi _ q k2.2.2.2).2.2 k2.2.2.1).2 k2.2.1)
  unfold SS
  rw [eA, eM, er, rA, iA, iM, e34, e35, e.2.1 _ k1.2.2.2, e.2.1 _ k2.2.2.2]
  exact ⟨⟨k1.1, k1.2.1, k1.2.2.1, Nat.lt_of_lt_of_le k1.2.2.2 e.1⟩, ⟨k2.1, k2.2.1, k2.2.2.1, Nat.lt_of_lt_of_le k2.2.2.2 e.1⟩, k3, k4, k5⟩
theorem RowD_to {h g : mj_H} {w Y : Nat} (d : RowD h h w Y) (eA : wA g w = wA h w) (ePW : PW g w = PW h w) (eg : wg g w = wg h w) (el : wlo g w = wlo h w) (eW : Wd g w = Wd h w) (hl : h.1 ≤ g.1) (r3 : mj_R g (wA h w) 3 = mj_R h (wA h w) 3) (kY : mj_K g Y = mj_K h Y) (iY : mj_I g Y = mj_I h Y) (iA : mj_I g (wA h w) = mj_I h (wA h w)) : RowD g g w Y := by
  obtain ⟨d1, d2, d3, d4, d5, x, d6, d7⟩ := d
  unfold RowD
  rw [eA, ePW, eg, el, eW, r3, kY, iY]
  refine ⟨d1, d2, d3, Nat.lt_of_lt_of_le d4 hl, d5, x, ?_, d7⟩
  unfold BSw at d6 ⊢
  rw [iA]
  exact d6
theorem WC_ef {is : List Nat} {rs : List (Nat × Nat)} {h g : mj_H} {wm jm : Nat} (w : ∀ v, v < wm → WC h v jm ∧ RowOk h v) (e : EF is rs h g) (h63 : 63 ≤ h.1) (hi : ∀ a ∈ is, a < h.1 → a ≠ 36 ∧ a ≠ 45 ∧ a ≠ 46 ∧ a ≠ 47) (hr : ∀ x ∈ rs, x.1 < h.1 → x.1 ≠ 10 ∧ x.1 ≠ 11) {v : Nat} (hv : v < wm) (hvi : wA h v ∉ is) (hvr : ∀ i, (wA h v, i) ∉ rs) (hY : ∀ Y, 63 ≤ Y → Y < h.1 → (∃ n, mj_K h Y = (12, n) ∧ n ≤ 431) → Y ∉ is) : WC g v jm ∧ RowOk g v ∧ wA g v = wA h v := by
  obtain ⟨k1, k2⟩ := w v hv
  have er : ∀ a i, a = 10 ∨ a = 11 → mj_R g a i = mj_R h a i := fun a i ha => ef_r e h63 (by omega) (fun q => by have := hr _ q (by show a < h.1; omega); dsimp only at this; omega)
  have eA : wA g v = wA h v := by unfold wA; rw [er 11 v (Or.inr rfl)]
  have hl := k1.1.2.2.2
  have e36 := ef_i (a := 36) e h63 (by decide) (fun q => (hi _ q (by omega)).1 rfl)
  have e45 := ef_i (a := 45) e h63 (by decide) (fun q => (hi _ q (by omega)).2.1 rfl)
  have e46 := ef_i (a := 46) e h63 (by decide) (fun q => (hi _ q (by omega)).2.2.1 rfl)
  have e47 := ef_i (a := 47) e h63 (by decide) (fun q => (hi _ q (by omega)).2.2.2 rfl)
  have iA : mj_I g (wA h v) = mj_I h (wA h v) := e.2.2.1 _ hl hvi
  have rA : ∀ i, mj_R g (wA h v) i = mj_R h (wA h v) i := fun i => e.2.2.2.1 _ hl i (hvr i)
  obtain ⟨ej, el, eW, eg⟩ := win_to e36 e45 e46 e47 v
  have ePW : PW g v = PW h v := by unfold PW; rw [eg, eW]
  refine ⟨WC_to k1 e.1 (er 11 v (Or.inr rfl)) (e.2.1 _ hl) (rA 0) (congrFun iA 1) (congrFun iA 2) (fun j => by unfold jA; rw [er 10 j (Or.inl rfl)]) e36 e45 e46 e47, ?_, eA⟩
  rcases k2 with q | ⟨Y, q⟩
  · left
    rw [eA, rA, iA]
    exact q
  · right
    have hp := PW_l216 k1.2.2.2.2
    have hYi := hY Y q.2.2.1 q.2.2.2.1 ⟨_, q.2.1, by omega⟩
    exact ⟨Y, RowD_to q eA ePW eg el eW e.1 (rA 3) (e.2.1 _ q.2.2.2.1) (e.2.2.1 _ q.2.2.2.1 hYi) iA⟩
theorem PV_ef {is : List Nat} {rs : List (Nat × Nat)} {h g : mj_H} (v : PV h) (e : EF is rs h g) (h63 : 63 ≤ h.1) (hr : ∀ x ∈ rs, x.1 < h.1 → x.1 ≠ 8 ∧ (63 ≤ x.1 → mj_K h x.1 ≠ (5, 1))) : PV g := by
  have e8 : mj_R g 8 8 = mj_R h 8 8 := ef_r e h63 (by decide) (fun q => (hr _ q (by show 8 < h.1; omega)).1 rfl)
  rcases v with q | ⟨Pv, X, q1, q2⟩
  · exact Or.inl (e8.trans q)
  · obtain ⟨a1, a2, a3, a4, a5, a6, a7⟩ := q2
    exact Or.inr ⟨Pv, X, e8.trans q1, (e.2.1 _ a5).trans a1, (e.2.2.2.1 _ a5 0 (fun z => (hr _ z a5).2 a4 a1)).trans a2, (e.2.1 _ a7).trans a3, a4, Nat.lt_of_lt_of_le a5 e.1, a6, Nat.lt_of_lt_of_le a7 e.1⟩
theorem TP_i {h g : mj_H} {tm : Nat} (t : TP h tm) (e20 : mj_I g 20 = mj_I h 20) (e21 : mj_I g 21 = mj_I h 21) (e51 : mj_I g 51 = mj_I h 51) (e33 : mj_I g 33 28 = mj_I h 33 28) : TP g tm := by
  unfold TP
  rw [e20, e21, e51, e33]
  exact t
theorem PN_to {h g : mj_H} {c c' : Nat → Nat → Nat} {n : Nat} (p : PN h c n) (ec : c' = c) (e6 : mj_I g 28 6 = mj_I h 28 6) (e31 : mj_I g 31 = mj_I h 31) : PN g c' n := by
  obtain ⟨b, p1, p2, p3⟩ := p
  subst ec
  exact ⟨b, p1, e6.trans p2, fun q hq => (congrFun e31 q).trans (p3 q hq)⟩
theorem RtOk_ef {is : List Nat} {rs : List (Nat × Nat)} {h g : mj_H} (v : RtOk h) (e : EF is rs h g) (h63 : 63 ≤ h.1) (hr : (28, 4) ∉ rs) : RtOk g := by
  have e8 : mj_R g 28 4 = mj_R h 28 4 := ef_r e h63 (by decide) hr
  rcases v with q | ⟨Rt, a1, a2, a3, a4⟩
  · exact Or.inl (e8.trans q)
  · exact Or.inr ⟨Rt, e8.trans a1, (e.2.1 _ a4).trans a2, a3, Nat.lt_of_lt_of_le a4 e.1⟩
theorem LL_i {is : List Nat} {rs : List (Nat × Nat)} {h g : mj_H} {em : Nat} (l : LLs h em) (e : EF is rs h g) (h63 : 63 ≤ h.1) (hi : ∀ a ∈ is, a ∉ [28, 29, 30, 31, 58, 59]) (hr : (28, 4) ∉ rs) (e46 : mj_I g 33 46 = mj_I h 33 46) : LLs g em := by
  obtain ⟨l1, l2, l3, l4⟩ := l
  have ei : ∀ a, a ∈ [28, 29, 30, 31, 58, 59] → mj_I g a = mj_I h a := fun a ha => ef_i e h63 (by revert a; decide) (fun q => hi a q ha)
  refine ⟨DL_to l1 (congrFun (ei 28 (by decide)) 5) (ei 29 (by decide)) (ei 30 (by decide)) (ei 58 (by decide)) (ei 59 (by decide)), e46.trans l2, ?_, RtOk_ef l4 e h63 hr⟩
  rcases l3 with ⟨q1, q2⟩ | q
  · exact Or.inl ⟨(congrFun (ei 28 (by decide)) 7).trans q1, PN_to q2 (by funext a b; exact chg_to (ei 58 (by decide)) (ei 59 (by decide)) a b) (congrFun (ei 28 (by decide)) 6) (ei 31 (by decide))⟩
  · exact Or.inr ((congrFun (ei 28 (by decide)) 7).trans q)
/-- a question to the class keeps all alike -/
theorem IV_q {h g : mj_H} {sm jm wm tm xm km em : Nat} (v : IV h sm jm wm tm xm km em) (e : EF [12, 13, 14, 15, 16, 17, 18, 19, 24] [(12, 4)] h g) (c : CJ g jm) : IV g sm jm wm tm xm km em := by
  obtain ⟨v1, v2, v3, v4, v5, v6, v7, v8, v9⟩ := v
  have ei : ∀ a, a < 63 → a ∉ [12, 13, 14, 15, 16, 17, 18, 19, 24] → mj_I g a = mj_I h a := fun a ha hn => ef_i e v3 ha hn
  refine ⟨MW_ef v1 e v3 (by decide) (by decide), c, Nat.le_trans v3 e.1, ?_, SS_ef v5 e v3 ?_ ?_, ⟨fun w hw => ?_, fun w u hw hu => ?_, PV_ef v6.2.2 e v3 ?_⟩, TP_i v7 (ei 20 (by decide) (by decide)) (ei 21 (by decide) (by decide)) (ei 51 (by decide) (by decide)) (congrFun (ei 33 (by decide) (by decide)) 28), ⟨BK_to v8.1 v3 e ?_ ?_, ?_, ?_, ?_⟩, LL_i v9 e v3 (by decide) (by decide) (congrFun (ei 33 (by decide) (by decide)) 46)⟩
  · unfold CO
    rw [ei 33 (by decide) (by decide), ei 8 (by decide) (by decide)]
    exact v4
  · intro a ha _
    simp only [List.mem_cons, List.not_mem_nil, or_false] at ha
    exact ⟨by omega, by omega, fun z => by omega⟩
  · intro x hx _
    simp only [List.mem_cons, List.not_mem_nil, or_false] at hx
    rw [hx]
    exact ⟨by decide, fun z => absurd z (by decide)⟩
  · have k := (v6.1 w hw).1.1.2.2.1
    have q := WC_ef v6.1 e v3 (by intro a ha _; simp only [List.mem_cons, List.not_mem_nil, or_false] at ha; omega) (by intro x hx _; simp only [List.mem_cons, List.not_mem_nil, or_false] at hx; rw [hx]; decide) hw (by simp; omega) (fun i z => by simp only [List.mem_cons, List.not_mem_nil, or_false, Prod.mk.injEq] at z; omega) (fun Y h6 _ _ => by simp; omega)
    exact ⟨q.1, q.2.1⟩
  · have eA : ∀ w, wA g w = wA h w := fun w => by unfold wA; rw [ef_r e v3 (by decide) (by simp)]
    rw [eA, eA]
    exact v6.2.1 w u hw hu
  · intro x hx _
    simp only [List.mem_cons, List.not_mem_nil, or_false] at hx
    rw [hx]
    exact ⟨by decide, fun z => absurd z (by decide)⟩
  · intro a ha
    simp only [List.mem_cons, List.not_mem_nil, or_false] at ha
    exact ⟨by simp; omega, fun z => by omega⟩
  · intro x hx
    simp only [List.mem_cons, List.not_mem_nil, or_false] at hx
    rw [hx]
    exact ⟨by decide, by decide, fun z => absurd z (by decide)⟩
  · rw [ei 33 (by decide) (by decide)]; exact v8.2.1
  · rw [ei 33 (by decide) (by decide)]; exact v8.2.2.1
  · rw [ei 33 (by decide) (by decide), ei 57 (by decide) (by decide)]; exact v8.2.2.2
/-- a question to the reference keeps all alike -/
theorem IV_m {h g : mj_H} {sm jm wm tm xm km em : Nat} (v : IV h sm jm wm tm xm km em) (r : Rw h g [33, 39, 40, 41, 42, 43, 44, 48, 49, 50, 60, 61]) (hM : MW g jm) (hf : ∀ q, q ∉ [1, 14, 15, 17, 22, 26, 29, 30, 31, 32, 33, 47] → mj_I g 33 q = mj_I h 33 q) : IV g sm jm wm tm xm km em := by
  obtain ⟨v1, v2, v3, v4, v5, v6, v7, v8, v9⟩ := v
  have e := r.ef []
  have ei : ∀ a, a ∉ [33, 39, 40, 41, 42, 43, 44, 48, 49, 50, 60, 61] → mj_I g a = mj_I h a := fun a hn => r.i hn
  have c : CJ g jm := CJ_rw v2 r (Fr_lt v2.2.2.1 (by decide))
  refine ⟨hM, c, by rw [r.1]; exact v3, ?_, SS_ef v5 e v3 ?_ (by simp), ⟨fun w hw => ?_, fun w u hw hu => ?_, PV_ef v6.2.2 e v3 (by simp)⟩, TP_i v7 (ei 20 (by decide)) (ei 21 (by decide)) (ei 51 (by decide)) (hf 28 (by decide)), ⟨BK_to v8.1 v3 e ?_ (by simp), ?_, ?_, ?_⟩, LL_i v9 e v3 (by decide) (by simp) (hf 46 (by decide))⟩
  · unfold CO
    rw [ei 8 (by decide), hf 7 (by decide), hf 8 (by decide), hf 21 (by decide), hf 0 (by decide)]
    exact v4
  · intro a ha _
    simp only [List.mem_cons, List.not_mem_nil, or_false] at ha
    exact ⟨by omega, by omega, fun z => by omega⟩
  · have k := (v6.1 w hw).1.1.2.2.1
    have q := WC_ef v6.1 e v3 (by intro a ha _; simp only [List.mem_cons, List.not_mem_nil, or_false] at ha; omega) (by simp) hw (by simp; omega) (by simp) (fun Y h6 _ _ => by simp; omega)
    exact ⟨q.1, q.2.1⟩
  · have eA : ∀ w, wA g w = wA h w := fun w => by unfold wA; rw [r.2.2.2.2.1]
    rw [eA, eA]
    exact v6.2.1 w u hw hu
  · intro a ha
    simp only [List.mem_cons, List.not_mem_nil, or_false] at ha
    exact ⟨by simp; omega, fun z => by omega⟩
  · rw [hf 40 (by decide)]; exact v8.2.1
  · rw [hf 41 (by decide)]; exact v8.2.2.1
  · rw [hf 0 (by decide), ei 57 (by decide)]; exact v8.2.2.2
theorem IV_sq {h g : mj_H} {sm jm wm tm xm km em : Nat} (v : IV h sm jm wm tm xm km em) (q : SQ h g jm) : IV g sm jm wm tm xm km em := IV_m v q.2.1 q.1 q.2.2
theorem IV_mv {h g : mj_H} {sm jm wm tm xm km em : Nat} (v : IV h sm jm wm tm xm km em) (q : MV h g jm) : IV g sm jm wm tm xm km em := IV_m v (q.2.1.mono (by decide)) q.1 (fun i hi => q.2.2 i (fun z => hi (by rw [z]; decide)) (fun z => hi (by rw [z]; decide)) (fun z => hi (by rw [z]; decide)))
theorem IV_cq {h g : mj_H} {sm jm wm tm xm km em : Nat} (v : IV h sm jm wm tm xm km em) (q : CQ h g jm) : IV g sm jm wm tm xm km em := IV_q v (q.2.cg.ef.mono (fun x _ z => by simp only [List.mem_cons, List.not_mem_nil, or_false] at z ⊢; omega) (fun x _ z => z)) q.1
theorem IV_cf {h g : mj_H} {sm jm wm tm xm km em : Nat} (v : IV h sm jm wm tm xm km em) (c : CJ g jm) (q : CF h g) : IV g sm jm wm tm xm km em := IV_q v (q.cg.ef.mono (fun x _ z => by simp only [List.mem_cons, List.not_mem_nil, or_false] at z ⊢; omega) (fun x _ z => z)) c
theorem IV_24 {h g : mj_H} {sm jm wm tm xm km em : Nat} (v : IV h sm jm wm tm xm km em) (r : Rw h g [24]) : IV g sm jm wm tm xm km em := IV_q v ((r.ef [(12, 4)]).mono (fun x _ z => by simp only [List.mem_cons, List.not_mem_nil, or_false] at z ⊢; omega) (fun x _ z => z)) (CJ_rw v.2.1 r (Fr_lt v.2.1.2.2.1 (by decide)))
