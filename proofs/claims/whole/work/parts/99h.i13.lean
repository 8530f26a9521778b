/-! CALLS: what is told -/
theorem IV_setJ {h : mj_H} {sm jm wm tm xm km em : Nat} (v : IV h sm jm wm tm xm km em) (x : Int64) : IV (mj_setJ h 62 0 x) sm jm wm tm xm km em := by
  obtain ⟨v1, ⟨c1, c2, c3, c4, c5, c6⟩, v3, v4, v5, v6, v7, v8, v9⟩ := v
  have l : ∀ D z, 63 ≤ D → lb (mj_setJ h 62 0 x) D z = lb h D z := fun D z hD => by
    unfold lb
    rw [show mj_J (mj_setJ h 62 0 x) D = mj_J h D from mj_J_other (by omega)]
  refine ⟨v1, ⟨c1, c2, c3, c4, fun j hj z hz => ?_, ?_⟩, v3, v4, v5, v6, v7, v8, v9⟩
  · have q := c5 j hj z hz
    rw [← l _ z (c3 j hj).1.2.2.2.1.2.2.1, ← l _ z (c3 j hj).1.2.2.1.2.2.1] at q
    exact q
  · rcases c6 with q | ⟨j, z, hj, hz, hs, b1, b2, b3, b4, b5, b6⟩
    · exact Or.inl q
    · rw [← l _ z (c3 j hj).1.2.2.1.2.2.1] at b6
      exact Or.inr ⟨j, z, hj, hz, hs, b1, b2, b3, b4, b5, b6⟩
theorem told_v {h : mj_H} {sm jm wm tm xm km em j w : Nat} (v : IV h sm jm wm tm xm km em) (hK : mj_K h 62 = (13, 1)) (hj : j < jm) (hw : w ≤ 8) : mj_told h [.ref 62, .int (nI w), .int (nI j), .ref 8] = some ([.int 0], mj_setJ h 62 0 (mj_I h (jU h j) w).toInt64) := by
  have h20 := v.jm20
  have hc := (v.cj.2.2.1 j hj).1
  have q1 : ¬ nI j < 0 ∧ nI j < mj_I h 8 11 := by
    rw [v.ejc]
    exact (mIn_lt (by omega)).mpr ⟨nI_pos (by omega), by rw [nI_clamp (by omega)]; exact hj⟩
  have q2 : mj_inb h 10 (nI j) = true := mj_inbN v.sc.k10 (by omega) (by decide)
  have q3 : ¬ (nI w < 0 ∨ 8 < nI w) := by
    rintro (z | z)
    · exact nI_pos (by omega) z
    · have z1 : (8 : Int32).toInt < (nI w).toInt := Int32.lt_iff_toInt_lt.mp z
      rw [nI_toInt (by omega), show (8 : Int32).toInt = 8 from rfl] at z1
      omega
  have q4 : mj_inb h (jU h j) (nI w) = true := mj_inbN hc.2.1.2.1 (by omega) (by decide)
  unfold mj_told
  dsimp only
  rw [if_pos ⟨by rw [v.sc.k8], by rw [hK], by rw [hK]; decide, by decide⟩, if_pos q1, v.sc.r8_1]
  dsimp only
  rw [if_pos ⟨by rw [v.sc.k10], q2⟩, nI_clamp (by omega), hc.1.1]
  dsimp only
  unfold mj_toldQ
  rw [if_neg q3, if_pos (by rw [hc.1.2.1]), hc.2.1.1]
  dsimp only
  rw [if_pos ⟨by rw [hc.2.1.2.1], q4⟩, nI_clamp (by omega)]
theorem told_t {h : mj_H} {sm jm wm tm xm km em : Nat} (v : IV h sm jm wm tm xm km em) (hK : mj_K h 62 = (13, 1)) (j w : Int32) (hn : ¬ (mIn j jm ∧ (0 ≤ w ∧ w ≤ 8))) : mj_told h [.ref 62, .int w, .int j, .ref 8] = some ([.int 1], mj_new h 19 6) := by
  have h20 := v.jm20
  unfold mj_told
  dsimp only
  rw [if_pos ⟨by rw [v.sc.k8], by rw [hK], by rw [hK]; decide, by decide⟩]
  by_cases hj : mIn j jm
  · have hw : w < 0 ∨ 8 < w := by
      by_cases z : w < 0
      · exact Or.inl z
      · right
        have z1 : 0 ≤ w := Int32.not_lt.mp z
        exact Int32.not_le.mp (fun z2 => hn ⟨hj, z1, z2⟩)
    rw [if_pos (by rw [v.ejc]; exact (mIn_lt (by omega)).mpr hj)]
    obtain ⟨a, ha, rfl⟩ := mIn_of hj (by omega)
    have hc := (v.cj.2.2.1 a ha).1
    rw [v.sc.r8_1]
    dsimp only
    rw [if_pos ⟨by rw [v.sc.k10], mj_inbN v.sc.k10 (by omega) (by decide)⟩, nI_clamp (by omega), hc.1.1]
    dsimp only
    unfold mj_toldQ
    rw [if_pos hw]
    rfl
  · rw [if_neg (by rw [v.ejc]; exact fun q => hj ((mIn_lt (by omega)).mp q))]
    rfl
/-- what is told: class by the law's own method, reference by its own, alike -/
def PT (j w : Int32) (h : mj_H) : Prop := ∃ v g, mj_told h [.ref 62, .int w, .int j, .ref 8] = some ([.int v], g) ∧ mxc 30 122 [.ref 33, .int j, .int w] g (fun r k => ∃ u, r = some (.int u) ∧ NX h k ∧ mj_K k 62 = (13, 1) ∧ mj_K k 33 = (11, 48) ∧ mxc 30 114 [.ref 33] k (fun r' k' => r' = some (.int v) ∧ k' = k) ∧ (v = 0 → mj_J k 62 0 = u.toInt64))
theorem pr_told {h : mj_H} {sm jm wm tm xm km em : Nat} (v : IV h sm jm wm tm xm km em) (hK : mj_K h 62 = (13, 1)) (j w : Int32) : PT j w h := by
  have h20 := v.jm20
  have h63 := v.l63
  have fin : ∀ {g : mj_H} {b : Nat}, IV g sm jm wm tm xm km em → B0 h g → NX h (mj_setI g 33 1 (nI b)) ∧ mj_K (mj_setI g 33 1 (nI b)) 62 = (13, 1) ∧ SM (mj_setI g 33 1 (nI b)) := fun {g b} vg bg => by
    have r : Rw g (mj_setI g 33 1 (nI b)) [33] := (Rw.rf g _).set (by decide)
    have M := MW_rw vg.mw r (by decide)
    exact ⟨(IV_m vg (r.mono (by decide)) M (fun q hq => mj_I_ne (fun e => hq (by rw [e]; decide)))).nx (bg.rw r (by decide)), by show mj_K g 62 = _; rw [bg.2.2.2.2]; exact hK, M.1⟩
  by_cases hc : mIn j jm ∧ (0 ≤ w ∧ w ≤ 8)
  · have hc' := hc
    obtain ⟨hj, hw⟩ := hc'
    obtain ⟨a, ha, rfl⟩ := mIn_of hj (by omega)
    have hw9 : mIn w 9 := (mIn_lt (by decide)).mp ⟨Int32.not_lt.mpr hw.1, by
      have z := Int32.le_iff_toInt_le.mp hw.2
      rw [Int32.lt_iff_toInt_lt, nI_toInt (by decide)]
      rw [show (8 : Int32).toInt = 8 from rfl] at z
      omega⟩
    obtain ⟨b, hb, rfl⟩ := mIn_of hw9 (by decide)
    have vg := IV_setJ v (mj_I h (jU h a) b).toInt64
    refine ⟨_, _, told_v v hK ha (by omega), ?_⟩
    refine (mxc.mono (c_told vg.mw.1 (nI a) (nI b) h20 vg.ejm) (by decide)).post ?_
    intro r k hk
    rw [if_pos hc, nI_clamp (by omega), nI_clamp (by omega)] at hk
    obtain ⟨rfl, rfl⟩ := hk
    obtain ⟨f1, f2, f3⟩ := fin (b := 0) vg ⟨by show h.1 ≤ _; omega, by show h.2.1 ≤ _; omega, rfl, rfl, rfl⟩
    refine ⟨_, rfl, f1, f2, f3.1, (mxc.mono (c_thrown f3) (by decide)).post ?_, fun _ => ?_⟩
    · rintro r k ⟨rfl, rfl⟩
      exact ⟨by rw [mj_I_at]; rfl, rfl⟩
    · show mj_u (mj_J h) 62 0 _ 62 0 = _
      unfold mj_u
      rw [if_pos rfl, if_pos rfl, (v.cj.2.2.1 a ha).1.2.2.2.2.1 b (by omega)]
      rfl
  · have nw : Nw h (mj_new h 19 6) := Nw.new ⟨Nat.le_refl _, fun _ _ => rfl, fun _ _ => rfl, fun _ _ => rfl, fun _ _ _ _ _ _ _ _ => rfl⟩ 19 6
    have ee : EF [] [] h (mj_new h 19 6) := nw.ef (fun x i hx => congrFun (mj_R_new (by omega)) i)
    have vg := IV_al v ee (CJ_nw v.cj nw h63 (v.sc.to (fun x hx => mj_K_new (by omega)) (fun e he => congrFun (mj_R_new (by have := ccR33 e he; omega)) _) (fun x hx => mj_I_new (by omega))))
    refine ⟨_, _, told_t v hK j w hc, ?_⟩
    refine (mxc.mono (c_told vg.mw.1 j w h20 vg.ejm) (by decide)).post ?_
    intro r k hk
    rw [if_neg hc] at hk
    obtain ⟨rfl, rfl⟩ := hk
    obtain ⟨f1, f2, f3⟩ := fin (b := 1) vg (B0.ef ee h63 (by simp) (by show h.1 + 1 ≤ _; omega) (by show h.2.1 + 6 ≤ _; omega))
    refine ⟨_, rfl, f1, f2, f3.1, (mxc.mono (c_thrown f3) (by decide)).post ?_, fun q => absurd q (by decide)⟩
    rintro r k ⟨rfl, rfl⟩
    exact ⟨by rw [mj_I_at]; rfl, rfl⟩
