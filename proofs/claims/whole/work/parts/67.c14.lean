/-! EDGES of windows; what one step mends -/
theorem inB_iW {h : mj_H} {w jm : Nat} (hN : WN h w jm) {o : Nat} : inB (zz (wlo h w) 0 0 0) (zz (wlo h w) (Wd h w 0) (Wd h w 1) (Wd h w 2)) o ↔ iW (wlo h w) (whi h w) o := by
  have hL := hN.lb
  rw [inB_zz hL hN.bx]
  have h0 := hN.2.2 0 (by decide)
  have h1 := hN.2.2 1 (by decide)
  have h2 := hN.2.2 2 (by decide)
  have w0 : Wd h w 0 = whi h w 0 - wlo h w 0 := rfl
  have w1 : Wd h w 1 = whi h w 1 - wlo h w 1 := rfl
  have w2 : Wd h w 2 = whi h w 2 - wlo h w 2 := rfl
  constructor
  · rintro ⟨t, p, l, a1, a2, a3, a4, a5, a6, rfl⟩
    exact ⟨wlo h w 0 + t, wlo h w 1 + p, wlo h w 2 + l, by omega, by omega, by omega, by omega, by omega, by omega, by unfold zz sO; omega⟩
  · rintro ⟨t, p, l, a1, a2, a3, a4, a5, a6, rfl⟩
    exact ⟨t - wlo h w 0, p - wlo h w 1, l - wlo h w 2, by omega, by omega, by omega, by omega, by omega, by omega, by unfold zz sO; omega⟩
/-- what the search for an edge has found so far, of all below o -/
def EdI (h : mj_H) (w s o : Nat) (best : Option Nat) (lst : Int32) : Prop := Eb (gdV h (wj h w)) s (wlo h w) (whi h w) best ∧ (∀ b, best = some b → lst = nI (sts s b) ∧ b < o ∧ b < 729) ∧ ∀ o', o' < o → iW (wlo h w) (whi h w) o' → Ed (gdV h (wj h w)) s best o'
theorem EdI.skip {h : mj_H} {w s o : Nat} {best : Option Nat} {lst : Int32} (e : EdI h w s o best lst) (hk : iW (wlo h w) (whi h w) o → Ed (gdV h (wj h w)) s best o) : EdI h w s (o + 1) best lst :=
  ⟨e.1, fun b hb => ⟨(e.2.1 b hb).1, by have := (e.2.1 b hb).2.1; omega, (e.2.1 b hb).2.2⟩, fun o' h1 h2 => by
    by_cases q : o' = o
    · rw [q] at h2 ⊢; exact hk h2
    · exact e.2.2 o' (by omega) h2⟩
theorem EdI.take {h : mj_H} {w s o : Nat} {best : Option Nat} {lst : Int32} (e : EdI h w s o best lst) (hi : iW (wlo h w) (whi h w) o) (ho : o < 729) (hv : gdV h (wj h w) o ≠ gdV h (wj h w) s) (hl : ∀ b, best = some b → sts s o < sts s b) : EdI h w s (o + 1) (some o) (nI (sts s o)) := by
  refine ⟨fun b hb => ?_, fun b hb => ?_, fun o' h1 h2 hne => ⟨o, rfl, ?_⟩⟩
  · cases hb; exact ⟨hi, hv⟩
  · cases hb; exact ⟨rfl, by omega, ho⟩
  · by_cases q : o' = o
    · right; rw [q]; exact ⟨rfl, Nat.le_refl _⟩
    · obtain ⟨b, hb, h5⟩ := e.2.2 o' (by omega) h2 hne
      have := hl b hb
      left
      omega
theorem gdV_ne {h : mj_H} {j a b : Nat} : gdV h j a ≠ gdV h j b ↔ ¬ ((vd h j a = 0) ↔ (vd h j b = 0)) := by
  unfold gdV
  rw [Ne, decide_eq_decide]
theorem if_ne {P Q : Prop} {i : Decidable P} {k : Decidable Q} : ((@ite Int32 P i 1 0) = @ite Int32 Q k 1 0) ↔ (P ↔ Q) := by
  by_cases hp : P
  · rw [if_pos hp]
    by_cases hq : Q
    · rw [if_pos hq]; simp [hp, hq]
    · rw [if_neg hq]; simp [hp, hq]
  · rw [if_neg hp]
    by_cases hq : Q
    · rw [if_pos hq]; simp [hp, hq]
    · rw [if_neg hq]; simp [hp, hq]
set_option maxRecDepth 20000 in
theorem kedge_l {h : mj_H} {jm w : Nat} (hw : WC h w jm) {s : Nat} (hs : s < 729) : ∀ (n o : Nat) (best : Option Nat) (nea lst : Int32) (g : mj_H), o + n = zz (wlo h w) (Wd h w 0) (Wd h w 1) (Wd h w 2) + 1 → CQ h g jm → EdI h w s o best lst → ∀ v8 v9 : Value, nea = ckA best → mx 4 88 60 [.ref 8, .int (nI w), .int (nI s), .ref (wA h w), .int (if vd h (wj h w) s = 0 then 1 else 0), .int nea, .int lst, .int (nI o), v8, v9] [] g (fun r h' => ∃ best, ED (gdV h (wj h w)) s (wlo h w) (whi h w) best ∧ r = some (.int (ckA best)) ∧ CQ h h' jm) := by
  have hN := hw.2.2.2.2
  have hL := hN.lb
  have h63 := hw.1.2.2.1
  have zx := zz_ hL (t := 0) (p := 0) (l := 0) (by omega) (by omega) (by omega)
  have zy := zz_ hL (t := Wd h w 0) (p := Wd h w 1) (l := Wd h w 2) (by omega) (by omega) (by omega)
  intro n
  induction n with
  | zero =>
    intro o best nea lst g ho q hE v8 v9 hnea
    subst hnea
    have C := q.1.1
    have kw : mj_K g (wA h w) = (9, 7) := (q.2.k _).trans hw.1.2.1
    have rw0 : mj_R g (wA h w) 0 = some (jA h (wj h w)) := (congrFun (q.2.r (by omega)) 0).trans hw.2.1
    have iw1 : mj_I g (wA h w) 1 = nI (zz (wlo h w) 0 0 0) := (congrFun (q.2.i (by omega)) 1).trans hw.2.2.1
    have iw2 : mj_I g (wA h w) 2 = nI (zz (wlo h w) (Wd h w 0) (Wd h w 1) (Wd h w 2)) := (congrFun (q.2.i (by omega)) 2).trans hw.2.2.2.1
    cases best with
    | none =>
      refine x_iload f_88_60 rfl ?_
      refine x_aload_n f_88_62 rfl ?_
      refine x_getI f_88_63 kw (by decide) ?_
      refine x_topi (w := nI (zz (wlo h w) (Wd h w 0) (Wd h w 1) (Wd h w 2))) iw2 ?_
      refine x_icmpN_gt (t := 150) f_88_66 (by decide) (by omega) (by omega) (fun c_1 => ?_) (fun c_1 => by omega)
      refine x_iload f_88_150 rfl ?_
      refine x_retI f_88_152 rfl ?_
      exact ⟨none, ⟨hE.1, fun o' ho => hE.2.2 o' (by have := inB_le ((inB_iW hN).mpr ho); omega) ho⟩, rfl, q⟩
    | some b =>
      obtain ⟨rfl, hb1, hb2⟩ := hE.2.1 b rfl
      have hb3 := sts_lt hs hb2
      refine x_iload f_88_60 rfl ?_
      refine x_aload_n f_88_62 rfl ?_
      refine x_getI f_88_63 kw (by decide) ?_
      refine x_topi (w := nI (zz (wlo h w) (Wd h w 0) (Wd h w 1) (Wd h w 2))) iw2 ?_
      refine x_icmpN_gt (t := 150) f_88_66 (by decide) (by omega) (by omega) (fun c_1 => ?_) (fun c_1 => by omega)
      refine x_iload f_88_150 rfl ?_
      refine x_retI f_88_152 rfl ?_
      exact ⟨(some b), ⟨hE.1, fun o' ho => hE.2.2 o' (by have := inB_le ((inB_iW hN).mpr ho); omega) ho⟩, rfl, q⟩
  | succ n ih =>
    intro o best nea lst g ho q hE v8 v9 hnea
    subst hnea
    have ih : ∀ (o : Nat) (best : Option Nat) (lst : Int32) (g : mj_H), o + n = zz (wlo h w) (Wd h w 0) (Wd h w 1) (Wd h w 2) + 1 → CQ h g jm → EdI h w s o best lst → ∀ v8 v9 : Value, mx 4 88 60 [.ref 8, .int (nI w), .int (nI s), .ref (wA h w), .int (if vd h (wj h w) s = 0 then 1 else 0), .int (ckA best), .int lst, .int (nI o), v8, v9] [] g (fun r h' => ∃ best, ED (gdV h (wj h w)) s (wlo h w) (whi h w) best ∧ r = some (.int (ckA best)) ∧ CQ h h' jm) := fun o best lst g a b c v8 v9 => ih o best _ lst g a b c v8 v9 rfl
    have C := q.1.1
    have kw : mj_K g (wA h w) = (9, 7) := (q.2.k _).trans hw.1.2.1
    have rw0 : mj_R g (wA h w) 0 = some (jA h (wj h w)) := (congrFun (q.2.r (by omega)) 0).trans hw.2.1
    have iw1 : mj_I g (wA h w) 1 = nI (zz (wlo h w) 0 0 0) := (congrFun (q.2.i (by omega)) 1).trans hw.2.2.1
    have iw2 : mj_I g (wA h w) 2 = nI (zz (wlo h w) (Wd h w 0) (Wd h w 1) (Wd h w 2)) := (congrFun (q.2.i (by omega)) 2).trans hw.2.2.2.1
    cases best with
    | none =>
      refine x_iload f_88_60 rfl ?_
      refine x_aload_n f_88_62 rfl ?_
      refine x_getI f_88_63 kw (by decide) ?_
      refine x_topi (w := nI (zz (wlo h w) (Wd h w 0) (Wd h w 1) (Wd h w 2))) iw2 ?_
      refine x_icmpN_gt (t := 150) f_88_66 (by decide) (by have := sts_lt hs (show o < 729 by omega); omega) (by have := sts_lt hs (show o < 729 by omega); omega) (fun c_1 => by omega) (fun c_1 => ?_)
      refine x_iload_n f_88_69 rfl ?_
      refine x_iload f_88_70 rfl ?_
      refine x_callSe f_88_72 (k_stepsBetween C (s := s) (o := o) hs (by omega)) (by omega) rfl rfl rfl (Nat.le_of_ble_eq_true rfl) rfl ?_
      refine x_istore (ls1 := [.ref 8, .int (nI w), .int (nI s), .ref (wA h w), .int (if vd h (wj h w) s = 0 then 1 else 0), .int (-1), .int lst, .int (nI o), .int (nI (sts s o)), v9]) f_88_75 (Nat.le_of_ble_eq_true rfl) rfl ?_
      refine x_iload f_88_77 rfl ?_
      refine x_iconst (v := -1) f_88_79 (by decide) ?_
      refine x_icmp_eq (t := 90) f_88_80 (by decide) (fun c_1 => ?_) (fun c_1 => absurd rfl c_1)
      refine x_iconst (v := nI 1) f_88_90 (by decide) ?_
      refine x_goto (t := 95) f_88_91 (by decide) ?_
      refine x_istore (ls1 := [.ref 8, .int (nI w), .int (nI s), .ref (wA h w), .int (if vd h (wj h w) s = 0 then 1 else 0), .int (-1), .int lst, .int (nI o), .int (nI (sts s o)), .int (nI 1)]) f_88_95 (Nat.le_of_ble_eq_true rfl) rfl ?_
      refine x_iload f_88_97 rfl ?_
      refine x_ifN_eq (t := 144) f_88_99 (by decide) (by decide) (fun c_2 => by omega) (fun c_2 => ?_)
      refine x_aload_n f_88_102 rfl ?_
      refine x_getI f_88_103 kw (by decide) ?_
      refine x_topi (w := nI (zz (wlo h w) 0 0 0)) iw1 ?_
      refine x_aload_n f_88_106 rfl ?_
      refine x_getI f_88_107 kw (by decide) ?_
      refine x_topi (w := nI (zz (wlo h w) (Wd h w 0) (Wd h w 1) (Wd h w 2))) iw2 ?_
      refine x_iload f_88_110 rfl ?_
      refine x_callSe f_88_112 (k_isIn C zx.1 zy.1 (by omega)) (by omega) rfl rfl rfl (Nat.le_of_ble_eq_true rfl) rfl ?_
      refine x_ifB_eq (t := 144) f_88_115 (by decide) (fun c_i => ?_) (fun c_i => ?_)
      · refine x_iinc (v := nI (o + 1)) (ls1 := [.ref 8, .int (nI w), .int (nI s), .ref (wA h w), .int (if vd h (wj h w) s = 0 then 1 else 0), .int (-1), .int lst, .int (nI (o + 1)), .int (nI (sts s o)), .int (nI 1)]) f_88_144 rfl (by exact nI_add _ 1) rfl ?_
        refine x_goto (t := 60) f_88_147 (by decide) ?_
        exact ih (o + 1) none _ g (by omega) q (hE.skip (fun hi => absurd (inb_iff.mpr ((inB_iW hN).mpr hi)) c_i)) _ _
      · refine x_aload_n f_88_118 rfl ?_
        refine x_getR f_88_119 C.k8 (by decide) C.r8_3 ?_
        refine x_aload_n f_88_122 rfl ?_
        refine x_getR f_88_123 kw (by decide) rw0 ?_
        refine x_iload f_88_126 rfl ?_
        refine x_callV f_88_128 (k_mg q hN.2.1 (z := o) (by omega)) (by omega) C.k12 (by decide) rfl rfl (Nat.le_of_ble_eq_true rfl) rfl ?_
        rintro _ g1 ⟨rfl, q1⟩
        refine x_iload f_88_131 rfl ?_
        refine x_icmp_eq (t := 144) f_88_133 (by decide) (fun c_v => ?_) (fun c_v => ?_)
        · refine x_iinc (v := nI (o + 1)) (ls1 := [.ref 8, .int (nI w), .int (nI s), .ref (wA h w), .int (if vd h (wj h w) s = 0 then 1 else 0), .int (-1), .int lst, .int (nI (o + 1)), .int (nI (sts s o)), .int (nI 1)]) f_88_144 rfl (by exact nI_add _ 1) rfl ?_
          refine x_goto (t := 60) f_88_147 (by decide) ?_
          exact ih (o + 1) none _ g1 (by omega) q1 (hE.skip (fun _ hne => absurd (if_ne.mp c_v) (gdV_ne.mp hne))) _ _
        · refine x_iload f_88_136 rfl ?_
          refine x_istore (ls1 := [.ref 8, .int (nI w), .int (nI s), .ref (wA h w), .int (if vd h (wj h w) s = 0 then 1 else 0), .int (nI o), .int lst, .int (nI o), .int (nI (sts s o)), .int (nI 1)]) f_88_138 (Nat.le_of_ble_eq_true rfl) rfl ?_
          refine x_iload f_88_140 rfl ?_
          refine x_istore (ls1 := [.ref 8, .int (nI w), .int (nI s), .ref (wA h w), .int (if vd h (wj h w) s = 0 then 1 else 0), .int (nI o), .int (nI (sts s o)), .int (nI o), .int (nI (sts s o)), .int (nI 1)]) f_88_142 (Nat.le_of_ble_eq_true rfl) rfl ?_
          refine x_iinc (v := nI (o + 1)) (ls1 := [.ref 8, .int (nI w), .int (nI s), .ref (wA h w), .int (if vd h (wj h w) s = 0 then 1 else 0), .int (nI o), .int (nI (sts s o)), .int (nI (o + 1)), .int (nI (sts s o)), .int (nI 1)]) f_88_144 rfl (by exact nI_add _ 1) rfl ?_
          refine x_goto (t := 60) f_88_147 (by decide) ?_
          exact ih (o + 1) (some o) _ g1 (by omega) q1 (hE.take ((inB_iW hN).mp (inb_iff.mp c_i)) (by omega) (gdV_ne.mpr (fun z => c_v (if_ne.mpr z))) (fun b' hb => by cases hb)) _ _
    | some b =>
      obtain ⟨rfl, hb1, hb2⟩ := hE.2.1 b rfl
      have hb3 := sts_lt hs hb2
      refine x_iload f_88_60 rfl ?_
      refine x_aload_n f_88_62 rfl ?_
      refine x_getI f_88_63 kw (by decide) ?_
      refine x_topi (w := nI (zz (wlo h w) (Wd h w 0) (Wd h w 1) (Wd h w 2))) iw2 ?_
      refine x_icmpN_gt (t := 150) f_88_66 (by decide) (by have := sts_lt hs (show o < 729 by omega); omega) (by have := sts_lt hs (show o < 729 by omega); omega) (fun c_1 => by omega) (fun c_1 => ?_)
      refine x_iload_n f_88_69 rfl ?_
      refine x_iload f_88_70 rfl ?_
      refine x_callSe f_88_72 (k_stepsBetween C (s := s) (o := o) hs (by omega)) (by omega) rfl rfl rfl (Nat.le_of_ble_eq_true rfl) rfl ?_
      refine x_istore (ls1 := [.ref 8, .int (nI w), .int (nI s), .ref (wA h w), .int (if vd h (wj h w) s = 0 then 1 else 0), .int (nI b), .int (nI (sts s b)), .int (nI o), .int (nI (sts s o)), v9]) f_88_75 (Nat.le_of_ble_eq_true rfl) rfl ?_
      refine x_iload f_88_77 rfl ?_
      refine x_iconst (v := -1) f_88_79 (by decide) ?_
      refine x_icmp_eq (t := 90) f_88_80 (by decide) (fun c_1 => absurd c_1 (nI_ne_m1 (by omega))) (fun c_1 => ?_)
      refine x_iload f_88_83 rfl ?_
      refine x_iload f_88_85 rfl ?_
      refine x_icmpN_ge (t := 94) f_88_87 (by decide) (by have := sts_lt hs (show o < 729 by omega); omega) (by have := sts_lt hs (show o < 729 by omega); omega) (fun c_l => ?_) (fun c_l => ?_)
      · refine x_iconst (v := nI 0) f_88_94 (by decide) ?_
        refine x_istore (ls1 := [.ref 8, .int (nI w), .int (nI s), .ref (wA h w), .int (if vd h (wj h w) s = 0 then 1 else 0), .int (nI b), .int (nI (sts s b)), .int (nI o), .int (nI (sts s o)), .int (nI 0)]) f_88_95 (Nat.le_of_ble_eq_true rfl) rfl ?_
        refine x_iload f_88_97 rfl ?_
        refine x_ifN_eq (t := 144) f_88_99 (by decide) (by decide) (fun c_2 => ?_) (fun c_2 => by omega)
        refine x_iinc (v := nI (o + 1)) (ls1 := [.ref 8, .int (nI w), .int (nI s), .ref (wA h w), .int (if vd h (wj h w) s = 0 then 1 else 0), .int (nI b), .int (nI (sts s b)), .int (nI (o + 1)), .int (nI (sts s o)), .int (nI 0)]) f_88_144 rfl (by exact nI_add _ 1) rfl ?_
        refine x_goto (t := 60) f_88_147 (by decide) ?_
        exact ih (o + 1) (some b) _ g (by omega) q (hE.skip (fun _ _ => ⟨b, rfl, by have := hE.2.1 b rfl; omega⟩)) _ _
      · refine x_iconst (v := nI 1) f_88_90 (by decide) ?_
        refine x_goto (t := 95) f_88_91 (by decide) ?_
        refine x_istore (ls1 := [.ref 8, .int (nI w), .int (nI s), .ref (wA h w), .int (if vd h (wj h w) s = 0 then 1 else 0), .int (nI b), .int (nI (sts s b)), .int (nI o), .int (nI (sts s o)), .int (nI 1)]) f_88_95 (Nat.le_of_ble_eq_true rfl) rfl ?_
        refine x_iload f_88_97 rfl ?_
        refine x_ifN_eq (t := 144) f_88_99 (by decide) (by decide) (fun c_3 => by omega) (fun c_3 => ?_)
        refine x_aload_n f_88_102 rfl ?_
        refine x_getI f_88_103 kw (by decide) ?_
        refine x_topi (w := nI (zz (wlo h w) 0 0 0)) iw1 ?_
        refine x_aload_n f_88_106 rfl ?_
        refine x_getI f_88_107 kw (by decide) ?_
        refine x_topi (w := nI (zz (wlo h w) (Wd h w 0) (Wd h w 1) (Wd h w 2))) iw2 ?_
        refine x_iload f_88_110 rfl ?_
        refine x_callSe f_88_112 (k_isIn C zx.1 zy.1 (by omega)) (by omega) rfl rfl rfl (Nat.le_of_ble_eq_true rfl) rfl ?_
        refine x_ifB_eq (t := 144) f_88_115 (by decide) (fun c_i => ?_) (fun c_i => ?_)
        · refine x_iinc (v := nI (o + 1)) (ls1 := [.ref 8, .int (nI w), .int (nI s), .ref (wA h w), .int (if vd h (wj h w) s = 0 then 1 else 0), .int (nI b), .int (nI (sts s b)), .int (nI (o + 1)), .int (nI (sts s o)), .int (nI 1)]) f_88_144 rfl (by exact nI_add _ 1) rfl ?_
          refine x_goto (t := 60) f_88_147 (by decide) ?_
          exact ih (o + 1) (some b) _ g (by omega) q (hE.skip (fun hi => absurd (inb_iff.mpr ((inB_iW hN).mpr hi)) c_i)) _ _
        · refine x_aload_n f_88_118 rfl ?_
          refine x_getR f_88_119 C.k8 (by decide) C.r8_3 ?_
          refine x_aload_n f_88_122 rfl ?_
          refine x_getR f_88_123 kw (by decide) rw0 ?_
          refine x_iload f_88_126 rfl ?_
          refine x_callV f_88_128 (k_mg q hN.2.1 (z := o) (by omega)) (by omega) C.k12 (by decide) rfl rfl (Nat.le_of_ble_eq_true rfl) rfl ?_
          rintro _ g1 ⟨rfl, q1⟩
          refine x_iload f_88_131 rfl ?_
          refine x_icmp_eq (t := 144) f_88_133 (by decide) (fun c_v => ?_) (fun c_v => ?_)
          · refine x_iinc (v := nI (o + 1)) (ls1 := [.ref 8, .int (nI w), .int (nI s), .ref (wA h w), .int (if vd h (wj h w) s = 0 then 1 else 0), .int (nI b), .int (nI (sts s b)), .int (nI (o + 1)), .int (nI (sts s o)), .int (nI 1)]) f_88_144 rfl (by exact nI_add _ 1) rfl ?_
            refine x_goto (t := 60) f_88_147 (by decide) ?_
            exact ih (o + 1) (some b) _ g1 (by omega) q1 (hE.skip (fun _ hne => absurd (if_ne.mp c_v) (gdV_ne.mp hne))) _ _
          · refine x_iload f_88_136 rfl ?_
            refine x_istore (ls1 := [.ref 8, .int (nI w), .int (nI s), .ref (wA h w), .int (if vd h (wj h w) s = 0 then 1 else 0), .int (nI o), .int (nI (sts s b)), .int (nI o), .int (nI (sts s o)), .int (nI 1)]) f_88_138 (Nat.le_of_ble_eq_true rfl) rfl ?_
            refine x_iload f_88_140 rfl ?_
            refine x_istore (ls1 := [.ref 8, .int (nI w), .int (nI s), .ref (wA h w), .int (if vd h (wj h w) s = 0 then 1 else 0), .int (nI o), .int (nI (sts s o)), .int (nI o), .int (nI (sts s o)), .int (nI 1)]) f_88_142 (Nat.le_of_ble_eq_true rfl) rfl ?_
            refine x_iinc (v := nI (o + 1)) (ls1 := [.ref 8, .int (nI w), .int (nI s), .ref (wA h w), .int (if vd h (wj h w) s = 0 then 1 else 0), .int (nI o), .int (nI (sts s o)), .int (nI (o + 1)), .int (nI (sts s o)), .int (nI 1)]) f_88_144 rfl (by exact nI_add _ 1) rfl ?_
            refine x_goto (t := 60) f_88_147 (by decide) ?_
            exact ih (o + 1) (some o) _ g1 (by omega) q1 (hE.take ((inB_iW hN).mp (inb_iff.mp c_i)) (by omega) (gdV_ne.mpr (fun z => c_v (if_ne.mpr z))) (fun b' hb => by cases hb; omega)) _ _
set_option maxRecDepth 20000 in
theorem k_edgeN {h : mj_H} {jm w wm : Nat} (c : CJ h jm) (hw : WC h w jm) (h_wm : wm ≤ 10) (e_wm : mj_I h 8 12 = nI wm) (h_w : w < wm) {s : Nat} (hs : s < 729) (hi : inB (zz (wlo h w) 0 0 0) (zz (wlo h w) (Wd h w 0) (Wd h w 1) (Wd h w 2)) s) : mxc 4 88 [.ref 8, .int (nI w), .int (nI s)] h (fun r h' => ∃ best, ED (gdV h (wj h w)) s (wlo h w) (whi h w) best ∧ r = some (.int (ckA best)) ∧ CQ h h' jm) := by
  have q := CQ.rf c
  have C := c.1
  have hN := hw.2.2.2.2
  have hL := hN.lb
  have h63 := hw.1.2.2.1
  have zx := zz_ hL (t := 0) (p := 0) (l := 0) (by omega) (by omega) (by omega)
  have zy := zz_ hL (t := Wd h w 0) (p := Wd h w 1) (l := Wd h w 2) (by omega) (by omega) (by omega)
  have kw := hw.1.2.1
  have iw1 := hw.2.2.1
  have iw2 := hw.2.2.2.1
  have rw0 := hw.2.1
  show mx 4 88 0 [.ref 8, .int (nI w), .int (nI s), mj_unset, mj_unset, mj_unset, mj_unset, mj_unset, mj_unset, mj_unset] [] h _
  refine x_aload_n f_88_0 rfl ?_
  refine x_iload_n f_88_1 rfl ?_
  refine x_callVe f_88_2 (k_windowAt C h_wm e_wm h_w hw.1.1) (by omega) C.k8 (by decide) rfl rfl (Nat.le_of_ble_eq_true rfl) rfl ?_
  refine x_astore_n (ls1 := [.ref 8, .int (nI w), .int (nI s), .ref (wA h w), mj_unset, mj_unset, mj_unset, mj_unset, mj_unset, mj_unset]) f_88_5 (Nat.le_of_ble_eq_true rfl) rfl ?_
  refine x_aload_n f_88_6 rfl ?_
  refine x_ifnull f_88_7 ?_
  refine x_iload_n f_88_10 rfl ?_
  refine x_callSe f_88_11 (k_isSetting _ _) (by omega) rfl rfl rfl (Nat.le_of_ble_eq_true rfl) rfl ?_
  refine x_ifB_eq (t := 32) f_88_14 (by decide) (fun c_1 => absurd (mIn_nI hs (by decide)) c_1) (fun c_1 => ?_)
  refine x_aload_n f_88_17 rfl ?_
  refine x_getI f_88_18 kw (by decide) ?_
  refine x_topi (w := nI (zz (wlo h w) 0 0 0)) iw1 ?_
  refine x_aload_n f_88_21 rfl ?_
  refine x_getI f_88_22 kw (by decide) ?_
  refine x_topi (w := nI (zz (wlo h w) (Wd h w 0) (Wd h w 1) (Wd h w 2))) iw2 ?_
  refine x_iload_n f_88_25 rfl ?_
  refine x_callSe f_88_26 (k_isIn C zx.1 zy.1 (by omega)) (by omega) rfl rfl rfl (Nat.le_of_ble_eq_true rfl) rfl ?_
  refine x_ifB_ne (t := 34) f_88_29 (by decide) (fun c_2 => ?_) (fun c_2 => absurd (inb_iff.mpr hi) c_2)
  refine x_aload_n f_88_34 rfl ?_
  refine x_getR f_88_35 C.k8 (by decide) C.r8_3 ?_
  refine x_aload_n f_88_38 rfl ?_
  refine x_getR f_88_39 kw (by decide) rw0 ?_
  refine x_iload_n f_88_42 rfl ?_
  refine x_callV f_88_43 (k_mg q hN.2.1 (z := s) (by omega)) (by omega) C.k12 (by decide) rfl rfl (Nat.le_of_ble_eq_true rfl) rfl ?_
  rintro _ g1 ⟨rfl, q1⟩
  have iw1 : mj_I g1 (wA h w) 1 = nI (zz (wlo h w) 0 0 0) := (congrFun (q1.2.i (by omega)) 1).trans iw1
  have kw := (q1.2.k (wA h w)).trans kw
  refine x_istore (ls1 := [.ref 8, .int (nI w), .int (nI s), .ref (wA h w), .int (if vd h (wj h w) s = 0 then 1 else 0), mj_unset, mj_unset, mj_unset, mj_unset, mj_unset]) f_88_46 (Nat.le_of_ble_eq_true rfl) rfl ?_
  refine x_iconst (v := -1) f_88_48 (by decide) ?_
  refine x_istore (ls1 := [.ref 8, .int (nI w), .int (nI s), .ref (wA h w), .int (if vd h (wj h w) s = 0 then 1 else 0), .int (-1), mj_unset, mj_unset, mj_unset, mj_unset]) f_88_49 (Nat.le_of_ble_eq_true rfl) rfl ?_
  refine x_iconst (v := nI 0) f_88_51 (by decide) ?_
  refine x_istore (ls1 := [.ref 8, .int (nI w), .int (nI s), .ref (wA h w), .int (if vd h (wj h w) s = 0 then 1 else 0), .int (-1), .int (nI 0), mj_unset, mj_unset, mj_unset]) f_88_52 (Nat.le_of_ble_eq_true rfl) rfl ?_
  refine x_aload_n f_88_54 rfl ?_
  refine x_getI f_88_55 kw (by decide) ?_
  refine x_topi (w := nI (zz (wlo h w) 0 0 0)) iw1 ?_
  refine x_istore (ls1 := [.ref 8, .int (nI w), .int (nI s), .ref (wA h w), .int (if vd h (wj h w) s = 0 then 1 else 0), .int (-1), .int (nI 0), .int (nI (zz (wlo h w) 0 0 0)), mj_unset, mj_unset]) f_88_58 (Nat.le_of_ble_eq_true rfl) rfl ?_
  exact kedge_l hw hs (zz (wlo h w) (Wd h w 0) (Wd h w 1) (Wd h w 2) + 1 - (zz (wlo h w) 0 0 0)) _ none _ _ g1 (by have := zz_le (wlo h w) (Wd h w 0) (Wd h w 1) (Wd h w 2); omega) q1 ⟨fun b hb => (by cases hb), fun b hb => (by cases hb), fun o ho hi => absurd (inB_le ((inB_iW hN).mpr hi)).1 (by omega)⟩ _ _ rfl
set_option maxRecDepth 20000 in
theorem k_edgeO {h : mj_H} {jm w wm : Nat} (c : CJ h jm) (hw : WC h w jm) (h_wm : wm ≤ 10) (e_wm : mj_I h 8 12 = nI wm) (h_w : w < wm) {s : Nat} (hs : s < 729) (hi : ¬ inB (zz (wlo h w) 0 0 0) (zz (wlo h w) (Wd h w 0) (Wd h w 1) (Wd h w 2)) s) : mxc 2 88 [.ref 8, .int (nI w), .int (nI s)] h (fun r h' => r = some (.int (-1)) ∧ h' = h) := by
  have q := CQ.rf c
  have C := c.1
  have hN := hw.2.2.2.2
  have hL := hN.lb
  have h63 := hw.1.2.2.1
  have zx := zz_ hL (t := 0) (p := 0) (l := 0) (by omega) (by omega) (by omega)
  have zy := zz_ hL (t := Wd h w 0) (p := Wd h w 1) (l := Wd h w 2) (by omega) (by omega) (by omega)
  have kw := hw.1.2.1
  have iw1 := hw.2.2.1
  have iw2 := hw.2.2.2.1
  have rw0 := hw.2.1
  show mx 2 88 0 [.ref 8, .int (nI w), .int (nI s), mj_unset, mj_unset, mj_unset, mj_unset, mj_unset, mj_unset, mj_unset] [] h _
  refine x_aload_n f_88_0 rfl ?_
  refine x_iload_n f_88_1 rfl ?_
  refine x_callVe f_88_2 (k_windowAt C h_wm e_wm h_w hw.1.1) (by omega) C.k8 (by decide) rfl rfl (Nat.le_of_ble_eq_true rfl) rfl ?_
  refine x_astore_n (ls1 := [.ref 8, .int (nI w), .int (nI s), .ref (wA h w), mj_unset, mj_unset, mj_unset, mj_unset, mj_unset, mj_unset]) f_88_5 (Nat.le_of_ble_eq_true rfl) rfl ?_
  refine x_aload_n f_88_6 rfl ?_
  refine x_ifnull f_88_7 ?_
  refine x_iload_n f_88_10 rfl ?_
  refine x_callSe f_88_11 (k_isSetting _ _) (by omega) rfl rfl rfl (Nat.le_of_ble_eq_true rfl) rfl ?_
  refine x_ifB_eq (t := 32) f_88_14 (by decide) (fun c_1 => absurd (mIn_nI hs (by decide)) c_1) (fun c_1 => ?_)
  refine x_aload_n f_88_17 rfl ?_
  refine x_getI f_88_18 kw (by decide) ?_
  refine x_topi (w := nI (zz (wlo h w) 0 0 0)) iw1 ?_
  refine x_aload_n f_88_21 rfl ?_
  refine x_getI f_88_22 kw (by decide) ?_
  refine x_topi (w := nI (zz (wlo h w) (Wd h w 0) (Wd h w 1) (Wd h w 2))) iw2 ?_
  refine x_iload_n f_88_25 rfl ?_
  refine x_callSe f_88_26 (k_isIn C zx.1 zy.1 (by omega)) (by omega) rfl rfl rfl (Nat.le_of_ble_eq_true rfl) rfl ?_
  refine x_ifB_ne (t := 34) f_88_29 (by decide) (fun c_2 => absurd (inb_iff.mp c_2) hi) (fun c_2 => ?_)
  refine x_iconst (v := -1) f_88_32 (by decide) ?_
  refine x_retI f_88_33 rfl ?_
  exact ⟨rfl, rfl⟩
set_option maxRecDepth 20000 in
theorem k_edgeS {h : mj_H} {jm w wm : Nat} (c : CJ h jm) (hw : WC h w jm) (h_wm : wm ≤ 10) (e_wm : mj_I h 8 12 = nI wm) (h_w : w < wm) (v : Int32) (hs : ¬ mIn v 729) : mxc 1 88 [.ref 8, .int (nI w), .int v] h (fun r h' => r = some (.int (-1)) ∧ h' = h) := by
  have q := CQ.rf c
  have C := c.1
  have hN := hw.2.2.2.2
  have hL := hN.lb
  have h63 := hw.1.2.2.1
  have zx := zz_ hL (t := 0) (p := 0) (l := 0) (by omega) (by omega) (by omega)
  have zy := zz_ hL (t := Wd h w 0) (p := Wd h w 1) (l := Wd h w 2) (by omega) (by omega) (by omega)
  have kw := hw.1.2.1
  have iw1 := hw.2.2.1
  have iw2 := hw.2.2.2.1
  have rw0 := hw.2.1
  show mx 1 88 0 [.ref 8, .int (nI w), .int v, mj_unset, mj_unset, mj_unset, mj_unset, mj_unset, mj_unset, mj_unset] [] h _
  refine x_aload_n f_88_0 rfl ?_
  refine x_iload_n f_88_1 rfl ?_
  refine x_callVe f_88_2 (k_windowAt C h_wm e_wm h_w hw.1.1) (by omega) C.k8 (by decide) rfl rfl (Nat.le_of_ble_eq_true rfl) rfl ?_
  refine x_astore_n (ls1 := [.ref 8, .int (nI w), .int v, .ref (wA h w), mj_unset, mj_unset, mj_unset, mj_unset, mj_unset, mj_unset]) f_88_5 (Nat.le_of_ble_eq_true rfl) rfl ?_
  refine x_aload_n f_88_6 rfl ?_
  refine x_ifnull f_88_7 ?_
  refine x_iload_n f_88_10 rfl ?_
  refine x_callSe f_88_11 (k_isSetting _ _) (by omega) rfl rfl rfl (Nat.le_of_ble_eq_true rfl) rfl ?_
  refine x_ifB_eq (t := 32) f_88_14 (by decide) (fun c_1 => ?_) (fun c_1 => absurd c_1 hs)
  refine x_iconst (v := -1) f_88_32 (by decide) ?_
  refine x_retI f_88_33 rfl ?_
  exact ⟨rfl, rfl⟩
set_option maxRecDepth 20000 in
theorem k_edge0 {h : mj_H} (C : SC h) {wm : Nat} (h_wm : wm ≤ 10) (e_wm : mj_I h 8 12 = nI wm) (v s : Int32) (hin : ¬ mIn v wm) : mxc 1 88 [.ref 8, .int v, .int s] h (fun r h' => r = some (.int (-1)) ∧ h' = h) := by
  show mx 1 88 0 [.ref 8, .int v, .int s, mj_unset, mj_unset, mj_unset, mj_unset, mj_unset, mj_unset, mj_unset] [] h _
  refine x_aload_n f_88_0 rfl ?_
  refine x_iload_n f_88_1 rfl ?_
  refine x_callVe f_88_2 (k_windowAt0 C _ h_wm e_wm hin) (by omega) C.k8 (by decide) rfl rfl (Nat.le_of_ble_eq_true rfl) rfl ?_
  refine x_astore_nN (ls1 := [.ref 8, .int v, .int s, .null, mj_unset, mj_unset, mj_unset, mj_unset, mj_unset, mj_unset]) f_88_5 (Nat.le_of_ble_eq_true rfl) rfl ?_
  refine x_aload_nN f_88_6 rfl ?_
  refine x_ifnullN (t := 32) f_88_7 (by decide) ?_
  refine x_iconst (v := -1) f_88_32 (by decide) ?_
  refine x_retI f_88_33 rfl ?_
  exact ⟨rfl, rfl⟩
theorem md_0 {h : mj_H} {j s : Nat} : mdk h j s 0 ↔ ¬ mm_pt s 0 = 0 ∧ vd h j (s - 81) = 0 := by simp [mdk]; omega
theorem md_1 {h : mj_H} {j s : Nat} : mdk h j s 1 ↔ ¬ 8 ≤ mm_pt s 0 ∧ vd h j (s + 81) = 0 := by simp [mdk]; omega
theorem md_2 {h : mj_H} {j s : Nat} : mdk h j s 2 ↔ ¬ mm_pt s 1 = 0 ∧ vd h j (s - 9) = 0 := by simp [mdk]; omega
theorem md_3 {h : mj_H} {j s : Nat} : mdk h j s 3 ↔ ¬ 8 ≤ mm_pt s 1 ∧ vd h j (s + 9) = 0 := by simp [mdk]; omega
theorem md_4 {h : mj_H} {j s : Nat} : mdk h j s 4 ↔ ¬ mm_pt s 2 = 0 ∧ vd h j (s - 1) = 0 := by simp [mdk]; omega
theorem md_5 {h : mj_H} {j s : Nat} : mdk h j s 5 ↔ ¬ 8 ≤ mm_pt s 2 ∧ vd h j (s + 1) = 0 := by simp [mdk]; omega
set_option maxRecDepth 20000 in
theorem kmend_0 {h : mj_H} {jm j s : Nat} (hj : j < jm) (hs : s < 729) {Q : Option Value → mj_H → Prop} {b : Int32} {v6 : Value} {g : mj_H} (q : CQ h g jm) (K : ∀ g', CQ h g' jm → ∀ b', b' = mdb h j s 1 (mdb h j s 0 b) → ∀ v6 : Value, mx 4 89 25 [.ref 8, .int (nI j), .int (nI s), .ref (jA h j), .int b', .int (nI 1), v6] [] g' Q) : mx 4 89 25 [.ref 8, .int (nI j), .int (nI s), .ref (jA h j), .int b, .int (nI 0), v6] [] g Q := by
  have a0 : mm_pt s 0 = s / 81 := rfl
  have a1 : mm_pt s 1 = s / 9 % 9 := rfl
  have a2 : mm_pt s 2 = s % 9 := rfl
  refine x_iload f_89_25 rfl ?_
  refine x_iconst (v := nI 3) f_89_27 (by decide) ?_
  refine x_icmpN_ge (t := 117) f_89_28 (by decide) (by decide) (by decide) (fun c_1 => by omega) (fun c_1 => ?_)
  refine x_iload_n f_89_31 rfl ?_
  refine x_iload f_89_32 rfl ?_
  refine x_callSe f_89_34 (k_along q.1.1 (z := s) (a := 0) (by omega) (by decide)) (by omega) rfl rfl rfl (Nat.le_of_ble_eq_true rfl) rfl ?_
  refine x_istore (ls1 := [.ref 8, .int (nI j), .int (nI s), .ref (jA h j), .int b, .int (nI 0), .int (nI (mm_pt s 0))]) f_89_37 (Nat.le_of_ble_eq_true rfl) rfl ?_
  refine x_iload f_89_39 rfl ?_
  refine x_ifN_le (t := 74) f_89_41 (by decide) (by omega) (fun c_a => ?_) (fun c_a => ?_)
  · refine x_iload f_89_74 rfl ?_
    refine x_bipush (v := nI 8) f_89_76 (by decide) ?_
    refine x_icmpN_ge (t := 111) f_89_78 (by decide) (by omega) (by decide) (fun c_b => ?_) (fun c_b => ?_)
    · refine x_iinc (v := nI 1) (ls1 := [.ref 8, .int (nI j), .int (nI s), .ref (jA h j), .int b, .int (nI 1), .int (nI (mm_pt s 0))]) f_89_111 rfl (by decide) rfl ?_
      refine x_goto (t := 25) f_89_114 (by decide) ?_
      exact K _ q _ (by unfold mdb; rw [if_neg (fun z => (md_1.mp z).1 c_b), if_neg (fun z => (md_0.mp z).1 c_a)]) _
    · refine x_aload_n f_89_81 rfl ?_
      refine x_getR f_89_82 q.1.1.k8 (by decide) q.1.1.r8_3 ?_
      refine x_aload_n f_89_85 rfl ?_
      refine x_iload_n f_89_86 rfl ?_
      refine x_gets f_89_87 ?_
      refine x_iload f_89_90 rfl ?_
      refine x_iald (j := 0) f_89_92 q.1.1.k2 (by omega) (by decide) ?_
      refine x_topi (w := nI 81) (q.1.1.v2_0) ?_
      refine x_iaddN f_89_93 ?_
      refine x_callV f_89_94 (k_mg q hj (z := (s + 81)) (by omega)) (by omega) q.1.1.k12 (by decide) rfl rfl (Nat.le_of_ble_eq_true rfl) rfl ?_
      rintro _ g1 ⟨rfl, q1⟩
      refine x_ifB_eq (t := 111) f_89_97 (by decide) (fun c_u => ?_) (fun c_u => ?_)
      · refine x_iinc (v := nI 1) (ls1 := [.ref 8, .int (nI j), .int (nI s), .ref (jA h j), .int b, .int (nI 1), .int (nI (mm_pt s 0))]) f_89_111 rfl (by decide) rfl ?_
        refine x_goto (t := 25) f_89_114 (by decide) ?_
        exact K _ q1 _ (by unfold mdb; rw [if_neg (fun z => c_u (md_1.mp z).2), if_neg (fun z => (md_0.mp z).1 c_a)]) _
      · refine x_iload f_89_100 rfl ?_
        refine x_iconst (v := nI 2) f_89_102 (by decide) ?_
        refine x_iconst (v := nI 2) f_89_103 (by decide) ?_
        refine x_iload f_89_104 rfl ?_
        refine x_imulN f_89_106 ?_
        refine x_ishl f_89_107 ?_
        refine x_ior f_89_108 ?_
        refine x_istore (ls1 := [.ref 8, .int (nI j), .int (nI s), .ref (jA h j), .int (b ||| ((nI 2) <<< ((nI (2 * 0)) &&& 31))), .int (nI 0), .int (nI (mm_pt s 0))]) f_89_109 (Nat.le_of_ble_eq_true rfl) rfl ?_
        refine x_iinc (v := nI 1) (ls1 := [.ref 8, .int (nI j), .int (nI s), .ref (jA h j), .int (b ||| ((nI 2) <<< ((nI (2 * 0)) &&& 31))), .int (nI 1), .int (nI (mm_pt s 0))]) f_89_111 rfl (by decide) rfl ?_
        refine x_goto (t := 25) f_89_114 (by decide) ?_
        exact K _ q1 _ (by unfold mdb; rw [if_pos (md_1.mpr ⟨c_b, c_u⟩), if_neg (fun z => (md_0.mp z).1 c_a)]; rfl) _
  · refine x_aload_n f_89_44 rfl ?_
    refine x_getR f_89_45 q.1.1.k8 (by decide) q.1.1.r8_3 ?_
    refine x_aload_n f_89_48 rfl ?_
    refine x_iload_n f_89_49 rfl ?_
    refine x_gets f_89_50 ?_
    refine x_iload f_89_53 rfl ?_
    refine x_iald (j := 0) f_89_55 q.1.1.k2 (by omega) (by decide) ?_
    refine x_topi (w := nI 81) (q.1.1.v2_0) ?_
    refine x_isubN f_89_56 (by omega) ?_
    refine x_callV f_89_57 (k_mg q hj (z := (s - 81)) (by omega)) (by omega) q.1.1.k12 (by decide) rfl rfl (Nat.le_of_ble_eq_true rfl) rfl ?_
    rintro _ g1 ⟨rfl, q1⟩
    refine x_ifB_eq (t := 74) f_89_60 (by decide) (fun c_d => ?_) (fun c_d => ?_)
    · refine x_iload f_89_74 rfl ?_
      refine x_bipush (v := nI 8) f_89_76 (by decide) ?_
      refine x_icmpN_ge (t := 111) f_89_78 (by decide) (by omega) (by decide) (fun c_b => ?_) (fun c_b => ?_)
      · refine x_iinc (v := nI 1) (ls1 := [.ref 8, .int (nI j), .int (nI s), .ref (jA h j), .int b, .int (nI 1), .int (nI (mm_pt s 0))]) f_89_111 rfl (by decide) rfl ?_
        refine x_goto (t := 25) f_89_114 (by decide) ?_
        exact K _ q1 _ (by unfold mdb; rw [if_neg (fun z => (md_1.mp z).1 c_b), if_neg (fun z => c_d (md_0.mp z).2)]) _
      · refine x_aload_n f_89_81 rfl ?_
        refine x_getR f_89_82 q1.1.1.k8 (by decide) q1.1.1.r8_3 ?_
        refine x_aload_n f_89_85 rfl ?_
        refine x_iload_n f_89_86 rfl ?_
        refine x_gets f_89_87 ?_
        refine x_iload f_89_90 rfl ?_
        refine x_iald (j := 0) f_89_92 q1.1.1.k2 (by omega) (by decide) ?_
        refine x_topi (w := nI 81) (q1.1.1.v2_0) ?_
        refine x_iaddN f_89_93 ?_
        refine x_callV f_89_94 (k_mg q1 hj (z := (s + 81)) (by omega)) (by omega) q1.1.1.k12 (by decide) rfl rfl (Nat.le_of_ble_eq_true rfl) rfl ?_
        rintro _ g2 ⟨rfl, q2⟩
        refine x_ifB_eq (t := 111) f_89_97 (by decide) (fun c_u => ?_) (fun c_u => ?_)
        · refine x_iinc (v := nI 1) (ls1 := [.ref 8, .int (nI j), .int (nI s), .ref (jA h j), .int b, .int (nI 1), .int (nI (mm_pt s 0))]) f_89_111 rfl (by decide) rfl ?_
          refine x_goto (t := 25) f_89_114 (by decide) ?_
          exact K _ q2 _ (by unfold mdb; rw [if_neg (fun z => c_u (md_1.mp z).2), if_neg (fun z => c_d (md_0.mp z).2)]) _
        · refine x_iload f_89_100 rfl ?_
          refine x_iconst (v := nI 2) f_89_102 (by decide) ?_
          refine x_iconst (v := nI 2) f_89_103 (by decide) ?_
          refine x_iload f_89_104 rfl ?_
          refine x_imulN f_89_106 ?_
          refine x_ishl f_89_107 ?_
          refine x_ior f_89_108 ?_
          refine x_istore (ls1 := [.ref 8, .int (nI j), .int (nI s), .ref (jA h j), .int (b ||| ((nI 2) <<< ((nI (2 * 0)) &&& 31))), .int (nI 0), .int (nI (mm_pt s 0))]) f_89_109 (Nat.le_of_ble_eq_true rfl) rfl ?_
          refine x_iinc (v := nI 1) (ls1 := [.ref 8, .int (nI j), .int (nI s), .ref (jA h j), .int (b ||| ((nI 2) <<< ((nI (2 * 0)) &&& 31))), .int (nI 1), .int (nI (mm_pt s 0))]) f_89_111 rfl (by decide) rfl ?_
          refine x_goto (t := 25) f_89_114 (by decide) ?_
          exact K _ q2 _ (by unfold mdb; rw [if_pos (md_1.mpr ⟨c_b, c_u⟩), if_neg (fun z => c_d (md_0.mp z).2)]; rfl) _
    · refine x_iload f_89_63 rfl ?_
      refine x_iconst (v := nI 1) f_89_65 (by decide) ?_
      refine x_iconst (v := nI 2) f_89_66 (by decide) ?_
      refine x_iload f_89_67 rfl ?_
      refine x_imulN f_89_69 ?_
      refine x_ishl f_89_70 ?_
      refine x_ior f_89_71 ?_
      refine x_istore (ls1 := [.ref 8, .int (nI j), .int (nI s), .ref (jA h j), .int (b ||| ((nI 1) <<< ((nI (2 * 0)) &&& 31))), .int (nI 0), .int (nI (mm_pt s 0))]) f_89_72 (Nat.le_of_ble_eq_true rfl) rfl ?_
      refine x_iload f_89_74 rfl ?_
      refine x_bipush (v := nI 8) f_89_76 (by decide) ?_
      refine x_icmpN_ge (t := 111) f_89_78 (by decide) (by omega) (by decide) (fun c_b => ?_) (fun c_b => ?_)
      · refine x_iinc (v := nI 1) (ls1 := [.ref 8, .int (nI j), .int (nI s), .ref (jA h j), .int (b ||| ((nI 1) <<< ((nI (2 * 0)) &&& 31))), .int (nI 1), .int (nI (mm_pt s 0))]) f_89_111 rfl (by decide) rfl ?_
        refine x_goto (t := 25) f_89_114 (by decide) ?_
        exact K _ q1 _ (by unfold mdb; rw [if_neg (fun z => (md_1.mp z).1 c_b), if_pos (md_0.mpr ⟨c_a, c_d⟩)]; rfl) _
      · refine x_aload_n f_89_81 rfl ?_
        refine x_getR f_89_82 q1.1.1.k8 (by decide) q1.1.1.r8_3 ?_
        refine x_aload_n f_89_85 rfl ?_
        refine x_iload_n f_89_86 rfl ?_
        refine x_gets f_89_87 ?_
        refine x_iload f_89_90 rfl ?_
        refine x_iald (j := 0) f_89_92 q1.1.1.k2 (by omega) (by decide) ?_
        refine x_topi (w := nI 81) (q1.1.1.v2_0) ?_
        refine x_iaddN f_89_93 ?_
        refine x_callV f_89_94 (k_mg q1 hj (z := (s + 81)) (by omega)) (by omega) q1.1.1.k12 (by decide) rfl rfl (Nat.le_of_ble_eq_true rfl) rfl ?_
        rintro _ g2 ⟨rfl, q2⟩
        refine x_ifB_eq (t := 111) f_89_97 (by decide) (fun c_u => ?_) (fun c_u => ?_)
        · refine x_iinc (v := nI 1) (ls1 := [.ref 8, .int (nI j), .int (nI s), .ref (jA h j), .int (b ||| ((nI 1) <<< ((nI (2 * 0)) &&& 31))), .int (nI 1), .int (nI (mm_pt s 0))]) f_89_111 rfl (by decide) rfl ?_
          refine x_goto (t := 25) f_89_114 (by decide) ?_
          exact K _ q2 _ (by unfold mdb; rw [if_neg (fun z => c_u (md_1.mp z).2), if_pos (md_0.mpr ⟨c_a, c_d⟩)]; rfl) _
        · refine x_iload f_89_100 rfl ?_
          refine x_iconst (v := nI 2) f_89_102 (by decide) ?_
          refine x_iconst (v := nI 2) f_89_103 (by decide) ?_
          refine x_iload f_89_104 rfl ?_
          refine x_imulN f_89_106 ?_
          refine x_ishl f_89_107 ?_
          refine x_ior f_89_108 ?_
          refine x_istore (ls1 := [.ref 8, .int (nI j), .int (nI s), .ref (jA h j), .int ((b ||| ((nI 1) <<< ((nI (2 * 0)) &&& 31))) ||| ((nI 2) <<< ((nI (2 * 0)) &&& 31))), .int (nI 0), .int (nI (mm_pt s 0))]) f_89_109 (Nat.le_of_ble_eq_true rfl) rfl ?_
          refine x_iinc (v := nI 1) (ls1 := [.ref 8, .int (nI j), .int (nI s), .ref (jA h j), .int ((b ||| ((nI 1) <<< ((nI (2 * 0)) &&& 31))) ||| ((nI 2) <<< ((nI (2 * 0)) &&& 31))), .int (nI 1), .int (nI (mm_pt s 0))]) f_89_111 rfl (by decide) rfl ?_
          refine x_goto (t := 25) f_89_114 (by decide) ?_
          exact K _ q2 _ (by unfold mdb; rw [if_pos (md_1.mpr ⟨c_b, c_u⟩), if_pos (md_0.mpr ⟨c_a, c_d⟩)]; rfl) _
set_option maxRecDepth 20000 in
theorem kmend_1 {h : mj_H} {jm j s : Nat} (hj : j < jm) (hs : s < 729) {Q : Option Value → mj_H → Prop} {b : Int32} {v6 : Value} {g : mj_H} (q : CQ h g jm) (K : ∀ g', CQ h g' jm → ∀ b', b' = mdb h j s 3 (mdb h j s 2 b) → ∀ v6 : Value, mx 4 89 25 [.ref 8, .int (nI j), .int (nI s), .ref (jA h j), .int b', .int (nI 2), v6] [] g' Q) : mx 4 89 25 [.ref 8, .int (nI j), .int (nI s), .ref (jA h j), .int b, .int (nI 1), v6] [] g Q := by
  have a0 : mm_pt s 0 = s / 81 := rfl
  have a1 : mm_pt s 1 = s / 9 % 9 := rfl
  have a2 : mm_pt s 2 = s % 9 := rfl
  refine x_iload f_89_25 rfl ?_
  refine x_iconst (v := nI 3) f_89_27 (by decide) ?_
  refine x_icmpN_ge (t := 117) f_89_28 (by decide) (by decide) (by decide) (fun c_1 => by omega) (fun c_1 => ?_)
  refine x_iload_n f_89_31 rfl ?_
  refine x_iload f_89_32 rfl ?_
  refine x_callSe f_89_34 (k_along q.1.1 (z := s) (a := 1) (by omega) (by decide)) (by omega) rfl rfl rfl (Nat.le_of_ble_eq_true rfl) rfl ?_
  refine x_istore (ls1 := [.ref 8, .int (nI j), .int (nI s), .ref (jA h j), .int b, .int (nI 1), .int (nI (mm_pt s 1))]) f_89_37 (Nat.le_of_ble_eq_true rfl) rfl ?_
  refine x_iload f_89_39 rfl ?_
  refine x_ifN_le (t := 74) f_89_41 (by decide) (by omega) (fun c_a => ?_) (fun c_a => ?_)
  · refine x_iload f_89_74 rfl ?_
    refine x_bipush (v := nI 8) f_89_76 (by decide) ?_
    refine x_icmpN_ge (t := 111) f_89_78 (by decide) (by omega) (by decide) (fun c_b => ?_) (fun c_b => ?_)
    · refine x_iinc (v := nI 2) (ls1 := [.ref 8, .int (nI j), .int (nI s), .ref (jA h j), .int b, .int (nI 2), .int (nI (mm_pt s 1))]) f_89_111 rfl (by decide) rfl ?_
      refine x_goto (t := 25) f_89_114 (by decide) ?_
      exact K _ q _ (by unfold mdb; rw [if_neg (fun z => (md_3.mp z).1 c_b), if_neg (fun z => (md_2.mp z).1 c_a)]) _
    · refine x_aload_n f_89_81 rfl ?_
      refine x_getR f_89_82 q.1.1.k8 (by decide) q.1.1.r8_3 ?_
      refine x_aload_n f_89_85 rfl ?_
      refine x_iload_n f_89_86 rfl ?_
      refine x_gets f_89_87 ?_
      refine x_iload f_89_90 rfl ?_
      refine x_iald (j := 1) f_89_92 q.1.1.k2 (by omega) (by decide) ?_
      refine x_topi (w := nI 9) (q.1.1.v2_1) ?_
      refine x_iaddN f_89_93 ?_
      refine x_callV f_89_94 (k_mg q hj (z := (s + 9)) (by omega)) (by omega) q.1.1.k12 (by decide) rfl rfl (Nat.le_of_ble_eq_true rfl) rfl ?_
      rintro _ g1 ⟨rfl, q1⟩
      refine x_ifB_eq (t := 111) f_89_97 (by decide) (fun c_u => ?_) (fun c_u => ?_)
      · refine x_iinc (v := nI 2) (ls1 := [.ref 8, .int (nI j), .int (nI s), .ref (jA h j), .int b, .int (nI 2), .int (nI (mm_pt s 1))]) f_89_111 rfl (by decide) rfl ?_
        refine x_goto (t := 25) f_89_114 (by decide) ?_
        exact K _ q1 _ (by unfold mdb; rw [if_neg (fun z => c_u (md_3.mp z).2), if_neg (fun z => (md_2.mp z).1 c_a)]) _
      · refine x_iload f_89_100 rfl ?_
        refine x_iconst (v := nI 2) f_89_102 (by decide) ?_
        refine x_iconst (v := nI 2) f_89_103 (by decide) ?_
        refine x_iload f_89_104 rfl ?_
        refine x_imulN f_89_106 ?_
        refine x_ishl f_89_107 ?_
        refine x_ior f_89_108 ?_
        refine x_istore (ls1 := [.ref 8, .int (nI j), .int (nI s), .ref (jA h j), .int (b ||| ((nI 2) <<< ((nI (2 * 1)) &&& 31))), .int (nI 1), .int (nI (mm_pt s 1))]) f_89_109 (Nat.le_of_ble_eq_true rfl) rfl ?_
        refine x_iinc (v := nI 2) (ls1 := [.ref 8, .int (nI j), .int (nI s), .ref (jA h j), .int (b ||| ((nI 2) <<< ((nI (2 * 1)) &&& 31))), .int (nI 2), .int (nI (mm_pt s 1))]) f_89_111 rfl (by decide) rfl ?_
        refine x_goto (t := 25) f_89_114 (by decide) ?_
        exact K _ q1 _ (by unfold mdb; rw [if_pos (md_3.mpr ⟨c_b, c_u⟩), if_neg (fun z => (md_2.mp z).1 c_a)]; rfl) _
  · refine x_aload_n f_89_44 rfl ?_
    refine x_getR f_89_45 q.1.1.k8 (by decide) q.1.1.r8_3 ?_
    refine x_aload_n f_89_48 rfl ?_
    refine x_iload_n f_89_49 rfl ?_
    refine x_gets f_89_50 ?_
    refine x_iload f_89_53 rfl ?_
    refine x_iald (j := 1) f_89_55 q.1.1.k2 (by omega) (by decide) ?_
    refine x_topi (w := nI 9) (q.1.1.v2_1) ?_
    refine x_isubN f_89_56 (by omega) ?_
    refine x_callV f_89_57 (k_mg q hj (z := (s - 9)) (by omega)) (by omega) q.1.1.k12 (by decide) rfl rfl (Nat.le_of_ble_eq_true rfl) rfl ?_
    rintro _ g1 ⟨rfl, q1⟩
    refine x_ifB_eq (t := 74) f_89_60 (by decide) (fun c_d => ?_) (fun c_d => ?_)
    · refine x_iload f_89_74 rfl ?_
      refine x_bipush (v := nI 8) f_89_76 (by decide) ?_
      refine x_icmpN_ge (t := 111) f_89_78 (by decide) (by omega) (by decide) (fun c_b => ?_) (fun c_b => ?_)
      · refine x_iinc (v := nI 2) (ls1 := [.ref 8, .int (nI j), .int (nI s), .ref (jA h j), .int b, .int (nI 2), .int (nI (mm_pt s 1))]) f_89_111 rfl (by decide) rfl ?_
        refine x_goto (t := 25) f_89_114 (by decide) ?_
        exact K _ q1 _ (by unfold mdb; rw [if_neg (fun z => (md_3.mp z).1 c_b), if_neg (fun z => c_d (md_2.mp z).2)]) _
      · refine x_aload_n f_89_81 rfl ?_
        refine x_getR f_89_82 q1.1.1.k8 (by decide) q1.1.1.r8_3 ?_
        refine x_aload_n f_89_85 rfl ?_
        refine x_iload_n f_89_86 rfl ?_
        refine x_gets f_89_87 ?_
        refine x_iload f_89_90 rfl ?_
        refine x_iald (j := 1) f_89_92 q1.1.1.k2 (by omega) (by decide) ?_
        refine x_topi (w := nI 9) (q1.1.1.v2_1) ?_
        refine x_iaddN f_89_93 ?_
        refine x_callV f_89_94 (k_mg q1 hj (z := (s + 9)) (by omega)) (by omega) q1.1.1.k12 (by decide) rfl rfl (Nat.le_of_ble_eq_true rfl) rfl ?_
        rintro _ g2 ⟨rfl, q2⟩
        refine x_ifB_eq (t := 111) f_89_97 (by decide) (fun c_u => ?_) (fun c_u => ?_)
        · refine x_iinc (v := nI 2) (ls1 := [.ref 8, .int (nI j), .int (nI s), .ref (jA h j), .int b, .int (nI 2), .int (nI (mm_pt s 1))]) f_89_111 rfl (by decide) rfl ?_
          refine x_goto (t := 25) f_89_114 (by decide) ?_
          exact K _ q2 _ (by unfold mdb; rw [if_neg (fun z => c_u (md_3.mp z).2), if_neg (fun z => c_d (md_2.mp z).2)]) _
        · refine x_iload f_89_100 rfl ?_
          refine x_iconst (v := nI 2) f_89_102 (by decide) ?_
          refine x_iconst (v := nI 2) f_89_103 (by decide) ?_
          refine x_iload f_89_104 rfl ?_
          refine x_imulN f_89_106 ?_
          refine x_ishl f_89_107 ?_
          refine x_ior f_89_108 ?_
          refine x_istore (ls1 := [.ref 8, .int (nI j), .int (nI s), .ref (jA h j), .int (b ||| ((nI 2) <<< ((nI (2 * 1)) &&& 31))), .int (nI 1), .int (nI (mm_pt s 1))]) f_89_109 (Nat.le_of_ble_eq_true rfl) rfl ?_
          refine x_iinc (v := nI 2) (ls1 := [.ref 8, .int (nI j), .int (nI s), .ref (jA h j), .int (b ||| ((nI 2) <<< ((nI (2 * 1)) &&& 31))), .int (nI 2), .int (nI (mm_pt s 1))]) f_89_111 rfl (by decide) rfl ?_
          refine x_goto (t := 25) f_89_114 (by decide) ?_
          exact K _ q2 _ (by unfold mdb; rw [if_pos (md_3.mpr ⟨c_b, c_u⟩), if_neg (fun z => c_d (md_2.mp z).2)]; rfl) _
    · refine x_iload f_89_63 rfl ?_
      refine x_iconst (v := nI 1) f_89_65 (by decide) ?_
      refine x_iconst (v := nI 2) f_89_66 (by decide) ?_
      refine x_iload f_89_67 rfl ?_
      refine x_imulN f_89_69 ?_
      refine x_ishl f_89_70 ?_
      refine x_ior f_89_71 ?_
      refine x_istore (ls1 := [.ref 8, .int (nI j), .int (nI s), .ref (jA h j), .int (b ||| ((nI 1) <<< ((nI (2 * 1)) &&& 31))), .int (nI 1), .int (nI (mm_pt s 1))]) f_89_72 (Nat.le_of_ble_eq_true rfl) rfl ?_
      refine x_iload f_89_74 rfl ?_
      refine x_bipush (v := nI 8) f_89_76 (by decide) ?_
      refine x_icmpN_ge (t := 111) f_89_78 (by decide) (by omega) (by decide) (fun c_b => ?_) (fun c_b => ?_)
      · refine x_iinc (v := nI 2) (ls1 := [.ref 8, .int (nI j), .int (nI s), .ref (jA h j), .int (b ||| ((nI 1) <<< ((nI (2 * 1)) &&& 31))), .int (nI 2), .int (nI (mm_pt s 1))]) f_89_111 rfl (by decide) rfl ?_
        refine x_goto (t := 25) f_89_114 (by decide) ?_
        exact K _ q1 _ (by unfold mdb; rw [if_neg (fun z => (md_3.mp z).1 c_b), if_pos (md_2.mpr ⟨c_a, c_d⟩)]; rfl) _
      · refine x_aload_n f_89_81 rfl ?_
        refine x_getR f_89_82 q1.1.1.k8 (by decide) q1.1.1.r8_3 ?_
        refine x_aload_n f_89_85 rfl ?_
        refine x_iload_n f_89_86 rfl ?_
        refine x_gets f_89_87 ?_
        refine x_iload f_89_90 rfl ?_
        refine x_iald (j := 1) f_89_92 q1.1.1.k2 (by omega) (by decide) ?_
        refine x_topi (w := nI 9) (q1.1.1.v2_1) ?_
        refine x_iaddN f_89_93 ?_
        refine x_callV f_89_94 (k_mg q1 hj (z := (s + 9)) (by omega)) (by omega) q1.1.1.k12 (by decide) rfl rfl (Nat.le_of_ble_eq_true rfl) rfl ?_
        rintro _ g2 ⟨rfl, q2⟩
        refine x_ifB_eq (t := 111) f_89_97 (by decide) (fun c_u => ?_) (fun c_u => ?_)
        · refine x_iinc (v := nI 2) (ls1 := [.ref 8, .int (nI j), .int (nI s), .ref (jA h j), .int (b ||| ((nI 1) <<< ((nI (2 * 1)) &&& 31))), .int (nI 2), .int (nI (mm_pt s 1))]) f_89_111 rfl (by decide) rfl ?_
          refine x_goto (t := 25) f_89_114 (by decide) ?_
          exact K _ q2 _ (by unfold mdb; rw [if_neg (fun z => c_u (md_3.mp z).2), if_pos (md_2.mpr ⟨c_a, c_d⟩)]; rfl) _
        · refine x_iload f_89_100 rfl ?_
          refine x_iconst (v := nI 2) f_89_102 (by decide) ?_
          refine x_iconst (v := nI 2) f_89_103 (by decide) ?_
          refine x_iload f_89_104 rfl ?_
          refine x_imulN f_89_106 ?_
          refine x_ishl f_89_107 ?_
          refine x_ior f_89_108 ?_
          refine x_istore (ls1 := [.ref 8, .int (nI j), .int (nI s), .ref (jA h j), .int ((b ||| ((nI 1) <<< ((nI (2 * 1)) &&& 31))) ||| ((nI 2) <<< ((nI (2 * 1)) &&& 31))), .int (nI 1), .int (nI (mm_pt s 1))]) f_89_109 (Nat.le_of_ble_eq_true rfl) rfl ?_
          refine x_iinc (v := nI 2) (ls1 := [.ref 8, .int (nI j), .int (nI s), .ref (jA h j), .int ((b ||| ((nI 1) <<< ((nI (2 * 1)) &&& 31))) ||| ((nI 2) <<< ((nI (2 * 1)) &&& 31))), .int (nI 2), .int (nI (mm_pt s 1))]) f_89_111 rfl (by decide) rfl ?_
          refine x_goto (t := 25) f_89_114 (by decide) ?_
          exact K _ q2 _ (by unfold mdb; rw [if_pos (md_3.mpr ⟨c_b, c_u⟩), if_pos (md_2.mpr ⟨c_a, c_d⟩)]; rfl) _
set_option maxRecDepth 20000 in
theorem kmend_2 {h : mj_H} {jm j s : Nat} (hj : j < jm) (hs : s < 729) {Q : Option Value → mj_H → Prop} {b : Int32} {v6 : Value} {g : mj_H} (q : CQ h g jm) (K : ∀ g', CQ h g' jm → ∀ b', b' = mdb h j s 5 (mdb h j s 4 b) → ∀ v6 : Value, mx 4 89 25 [.ref 8, .int (nI j), .int (nI s), .ref (jA h j), .int b', .int (nI 3), v6] [] g' Q) : mx 4 89 25 [.ref 8, .int (nI j), .int (nI s), .ref (jA h j), .int b, .int (nI 2), v6] [] g Q := by
  have a0 : mm_pt s 0 = s / 81 := rfl
  have a1 : mm_pt s 1 = s / 9 % 9 := rfl
  have a2 : mm_pt s 2 = s % 9 := rfl
  refine x_iload f_89_25 rfl ?_
  refine x_iconst (v := nI 3) f_89_27 (by decide) ?_
  refine x_icmpN_ge (t := 117) f_89_28 (by decide) (by decide) (by decide) (fun c_1 => by omega) (fun c_1 => ?_)
  refine x_iload_n f_89_31 rfl ?_
  refine x_iload f_89_32 rfl ?_
  refine x_callSe f_89_34 (k_along q.1.1 (z := s) (a := 2) (by omega) (by decide)) (by omega) rfl rfl rfl (Nat.le_of_ble_eq_true rfl) rfl ?_
  refine x_istore (ls1 := [.ref 8, .int (nI j), .int (nI s), .ref (jA h j), .int b, .int (nI 2), .int (nI (mm_pt s 2))]) f_89_37 (Nat.le_of_ble_eq_true rfl) rfl ?_
  refine x_iload f_89_39 rfl ?_
  refine x_ifN_le (t := 74) f_89_41 (by decide) (by omega) (fun c_a => ?_) (fun c_a => ?_)
  · refine x_iload f_89_74 rfl ?_
    refine x_bipush (v := nI 8) f_89_76 (by decide) ?_
    refine x_icmpN_ge (t := 111) f_89_78 (by decide) (by omega) (by decide) (fun c_b => ?_) (fun c_b => ?_)
    · refine x_iinc (v := nI 3) (ls1 := [.ref 8, .int (nI j), .int (nI s), .ref (jA h j), .int b, .int (nI 3), .int (nI (mm_pt s 2))]) f_89_111 rfl (by decide) rfl ?_
      refine x_goto (t := 25) f_89_114 (by decide) ?_
      exact K _ q _ (by unfold mdb; rw [if_neg (fun z => (md_5.mp z).1 c_b), if_neg (fun z => (md_4.mp z).1 c_a)]) _
    · refine x_aload_n f_89_81 rfl ?_
      refine x_getR f_89_82 q.1.1.k8 (by decide) q.1.1.r8_3 ?_
      refine x_aload_n f_89_85 rfl ?_
      refine x_iload_n f_89_86 rfl ?_
      refine x_gets f_89_87 ?_
      refine x_iload f_89_90 rfl ?_
      refine x_iald (j := 2) f_89_92 q.1.1.k2 (by omega) (by decide) ?_
      refine x_topi (w := nI 1) (q.1.1.v2_2) ?_
      refine x_iaddN f_89_93 ?_
      refine x_callV f_89_94 (k_mg q hj (z := (s + 1)) (by omega)) (by omega) q.1.1.k12 (by decide) rfl rfl (Nat.le_of_ble_eq_true rfl) rfl ?_
      rintro _ g1 ⟨rfl, q1⟩
      refine x_ifB_eq (t := 111) f_89_97 (by decide) (fun c_u => ?_) (fun c_u => ?_)
      · refine x_iinc (v := nI 3) (ls1 := [.ref 8, .int (nI j), .int (nI s), .ref (jA h j), .int b, .int (nI 3), .int (nI (mm_pt s 2))]) f_89_111 rfl (by decide) rfl ?_
        refine x_goto (t := 25) f_89_114 (by decide) ?_
        exact K _ q1 _ (by unfold mdb; rw [if_neg (fun z => c_u (md_5.mp z).2), if_neg (fun z => (md_4.mp z).1 c_a)]) _
      · refine x_iload f_89_100 rfl ?_
        refine x_iconst (v := nI 2) f_89_102 (by decide) ?_
        refine x_iconst (v := nI 2) f_89_103 (by decide) ?_
        refine x_iload f_89_104 rfl ?_
        refine x_imulN f_89_106 ?_
        refine x_ishl f_89_107 ?_
        refine x_ior f_89_108 ?_
        refine x_istore (ls1 := [.ref 8, .int (nI j), .int (nI s), .ref (jA h j), .int (b ||| ((nI 2) <<< ((nI (2 * 2)) &&& 31))), .int (nI 2), .int (nI (mm_pt s 2))]) f_89_109 (Nat.le_of_ble_eq_true rfl) rfl ?_
        refine x_iinc (v := nI 3) (ls1 := [.ref 8, .int (nI j), .int (nI s), .ref (jA h j), .int (b ||| ((nI 2) <<< ((nI (2 * 2)) &&& 31))), .int (nI 3), .int (nI (mm_pt s 2))]) f_89_111 rfl (by decide) rfl ?_
        refine x_goto (t := 25) f_89_114 (by decide) ?_
        exact K _ q1 _ (by unfold mdb; rw [if_pos (md_5.mpr ⟨c_b, c_u⟩), if_neg (fun z => (md_4.mp z).1 c_a)]; rfl) _
  · refine x_aload_n f_89_44 rfl ?_
    refine x_getR f_89_45 q.1.1.k8 (by decide) q.1.1.r8_3 ?_
    refine x_aload_n f_89_48 rfl ?_
    refine x_iload_n f_89_49 rfl ?_
    refine x_gets f_89_50 ?_
    refine x_iload f_89_53 rfl ?_
    refine x_iald (j := 2) f_89_55 q.1.1.k2 (by omega) (by decide) ?_
    refine x_topi (w := nI 1) (q.1.1.v2_2) ?_
    refine x_isubN f_89_56 (by omega) ?_
    refine x_callV f_89_57 (k_mg q hj (z := (s - 1)) (by omega)) (by omega) q.1.1.k12 (by decide) rfl rfl (Nat.le_of_ble_eq_true rfl) rfl ?_
    rintro _ g1 ⟨rfl, q1⟩
    refine x_ifB_eq (t := 74) f_89_60 (by decide) (fun c_d => ?_) (fun c_d => ?_)
    · refine x_iload f_89_74 rfl ?_
      refine x_bipush (v := nI 8) f_89_76 (by decide) ?_
      refine x_icmpN_ge (t := 111) f_89_78 (by decide) (by omega) (by decide) (fun c_b => ?_) (fun c_b => ?_)
      · refine x_iinc (v := nI 3) (ls1 := [.ref 8, .int (nI j), .int (nI s), .ref (jA h j), .int b, .int (nI 3), .int (nI (mm_pt s 2))]) f_89_111 rfl (by decide) rfl ?_
        refine x_goto (t := 25) f_89_114 (by decide) ?_
        exact K _ q1 _ (by unfold mdb; rw [if_neg (fun z => (md_5.mp z).1 c_b), if_neg (fun z => c_d (md_4.mp z).2)]) _
      · refine x_aload_n f_89_81 rfl ?_
        refine x_getR f_89_82 q1.1.1.k8 (by decide) q1.1.1.r8_3 ?_
        refine x_aload_n f_89_85 rfl ?_
        refine x_iload_n f_89_86 rfl ?_
        refine x_gets f_89_87 ?_
        refine x_iload f_89_90 rfl ?_
        refine x_iald (j := 2) f_89_92 q1.1.1.k2 (by omega) (by decide) ?_
        refine x_topi (w := nI 1) (q1.1.1.v2_2) ?_
        refine x_iaddN f_89_93 ?_
        refine x_callV f_89_94 (k_mg q1 hj (z := (s + 1)) (by omega)) (by omega) q1.1.1.k12 (by decide) rfl rfl (Nat.le_of_ble_eq_true rfl) rfl ?_
        rintro _ g2 ⟨rfl, q2⟩
        refine x_ifB_eq (t := 111) f_89_97 (by decide) (fun c_u => ?_) (fun c_u => ?_)
        · refine x_iinc (v := nI 3) (ls1 := [.ref 8, .int (nI j), .int (nI s), .ref (jA h j), .int b, .int (nI 3), .int (nI (mm_pt s 2))]) f_89_111 rfl (by decide) rfl ?_
          refine x_goto (t := 25) f_89_114 (by decide) ?_
          exact K _ q2 _ (by unfold mdb; rw [if_neg (fun z => c_u (md_5.mp z).2), if_neg (fun z => c_d (md_4.mp z).2)]) _
        · refine x_iload f_89_100 rfl ?_
          refine x_iconst (v := nI 2) f_89_102 (by decide) ?_
          refine x_iconst (v := nI 2) f_89_103 (by decide) ?_
          refine x_iload f_89_104 rfl ?_
          refine x_imulN f_89_106 ?_
          refine x_ishl f_89_107 ?_
          refine x_ior f_89_108 ?_
          refine x_istore (ls1 := [.ref 8, .int (nI j), .int (nI s), .ref (jA h j), .int (b ||| ((nI 2) <<< ((nI (2 * 2)) &&& 31))), .int (nI 2), .int (nI (mm_pt s 2))]) f_89_109 (Nat.le_of_ble_eq_true rfl) rfl ?_
          refine x_iinc (v := nI 3) (ls1 := [.ref 8, .int (nI j), .int (nI s), .ref (jA h j), .int (b ||| ((nI 2) <<< ((nI (2 * 2)) &&& 31))), .int (nI 3), .int (nI (mm_pt s 2))]) f_89_111 rfl (by decide) rfl ?_
          refine x_goto (t := 25) f_89_114 (by decide) ?_
          exact K _ q2 _ (by unfold mdb; rw [if_pos (md_5.mpr ⟨c_b, c_u⟩), if_neg (fun z => c_d (md_4.mp z).2)]; rfl) _
    · refine x_iload f_89_63 rfl ?_
      refine x_iconst (v := nI 1) f_89_65 (by decide) ?_
      refine x_iconst (v := nI 2) f_89_66 (by decide) ?_
      refine x_iload f_89_67 rfl ?_
      refine x_imulN f_89_69 ?_
      refine x_ishl f_89_70 ?_
      refine x_ior f_89_71 ?_
      refine x_istore (ls1 := [.ref 8, .int (nI j), .int (nI s), .ref (jA h j), .int (b ||| ((nI 1) <<< ((nI (2 * 2)) &&& 31))), .int (nI 2), .int (nI (mm_pt s 2))]) f_89_72 (Nat.le_of_ble_eq_true rfl) rfl ?_
      refine x_iload f_89_74 rfl ?_
      refine x_bipush (v := nI 8) f_89_76 (by decide) ?_
      refine x_icmpN_ge (t := 111) f_89_78 (by decide) (by omega) (by decide) (fun c_b => ?_) (fun c_b => ?_)
      · refine x_iinc (v := nI 3) (ls1 := [.ref 8, .int (nI j), .int (nI s), .ref (jA h j), .int (b ||| ((nI 1) <<< ((nI (2 * 2)) &&& 31))), .int (nI 3), .int (nI (mm_pt s 2))]) f_89_111 rfl (by decide) rfl ?_
        refine x_goto (t := 25) f_89_114 (by decide) ?_
        exact K _ q1 _ (by unfold mdb; rw [if_neg (fun z => (md_5.mp z).1 c_b), if_pos (md_4.mpr ⟨c_a, c_d⟩)]; rfl) _
      · refine x_aload_n f_89_81 rfl ?_
        refine x_getR f_89_82 q1.1.1.k8 (by decide) q1.1.1.r8_3 ?_
        refine x_aload_n f_89_85 rfl ?_
        refine x_iload_n f_89_86 rfl ?_
        refine x_gets f_89_87 ?_
        refine x_iload f_89_90 rfl ?_
        refine x_iald (j := 2) f_89_92 q1.1.1.k2 (by omega) (by decide) ?_
        refine x_topi (w := nI 1) (q1.1.1.v2_2) ?_
        refine x_iaddN f_89_93 ?_
        refine x_callV f_89_94 (k_mg q1 hj (z := (s + 1)) (by omega)) (by omega) q1.1.1.k12 (by decide) rfl rfl (Nat.le_of_ble_eq_true rfl) rfl ?_
        rintro _ g2 ⟨rfl, q2⟩
        refine x_ifB_eq (t := 111) f_89_97 (by decide) (fun c_u => ?_) (fun c_u => ?_)
        · refine x_iinc (v := nI 3) (ls1 := [.ref 8, .int (nI j), .int (nI s), .ref (jA h j), .int (b ||| ((nI 1) <<< ((nI (2 * 2)) &&& 31))), .int (nI 3), .int (nI (mm_pt s 2))]) f_89_111 rfl (by decide) rfl ?_
          refine x_goto (t := 25) f_89_114 (by decide) ?_
          exact K _ q2 _ (by unfold mdb; rw [if_neg (fun z => c_u (md_5.mp z).2), if_pos (md_4.mpr ⟨c_a, c_d⟩)]; rfl) _
        · refine x_iload f_89_100 rfl ?_
          refine x_iconst (v := nI 2) f_89_102 (by decide) ?_
          refine x_iconst (v := nI 2) f_89_103 (by decide) ?_
          refine x_iload f_89_104 rfl ?_
          refine x_imulN f_89_106 ?_
          refine x_ishl f_89_107 ?_
          refine x_ior f_89_108 ?_
          refine x_istore (ls1 := [.ref 8, .int (nI j), .int (nI s), .ref (jA h j), .int ((b ||| ((nI 1) <<< ((nI (2 * 2)) &&& 31))) ||| ((nI 2) <<< ((nI (2 * 2)) &&& 31))), .int (nI 2), .int (nI (mm_pt s 2))]) f_89_109 (Nat.le_of_ble_eq_true rfl) rfl ?_
          refine x_iinc (v := nI 3) (ls1 := [.ref 8, .int (nI j), .int (nI s), .ref (jA h j), .int ((b ||| ((nI 1) <<< ((nI (2 * 2)) &&& 31))) ||| ((nI 2) <<< ((nI (2 * 2)) &&& 31))), .int (nI 3), .int (nI (mm_pt s 2))]) f_89_111 rfl (by decide) rfl ?_
          refine x_goto (t := 25) f_89_114 (by decide) ?_
          exact K _ q2 _ (by unfold mdb; rw [if_pos (md_5.mpr ⟨c_b, c_u⟩), if_pos (md_4.mpr ⟨c_a, c_d⟩)]; rfl) _
set_option maxRecDepth 20000 in
theorem k_mendedN {h : mj_H} {jm j s : Nat} (c : CJ h jm) (h_jm : jm ≤ 20) (e_jm : mj_I h 8 11 = nI jm) (hj : j < jm) (hs : s < 729) : mxc 4 89 [.ref 8, .int (nI j), .int (nI s)] h (fun r h' => r = some (.int (MDB h j s)) ∧ CQ h h' jm) := by
  have C := c.1
  have hc := (c.2.2.1 j hj).1
  show mx 4 89 0 [.ref 8, .int (nI j), .int (nI s), mj_unset, mj_unset, mj_unset, mj_unset] [] h _
  refine x_aload_n f_89_0 rfl ?_
  refine x_iload_n f_89_1 rfl ?_
  refine x_callVe f_89_2 (k_jobAt C h_jm e_jm hj hc.1.1) (by omega) C.k8 (by decide) rfl rfl (Nat.le_of_ble_eq_true rfl) rfl ?_
  refine x_astore_n (ls1 := [.ref 8, .int (nI j), .int (nI s), .ref (jA h j), mj_unset, mj_unset, mj_unset]) f_89_5 (Nat.le_of_ble_eq_true rfl) rfl ?_
  refine x_aload_n f_89_6 rfl ?_
  refine x_ifnull f_89_7 ?_
  refine x_iload_n f_89_10 rfl ?_
  refine x_callSe f_89_11 (k_isSetting _ _) (by omega) rfl rfl rfl (Nat.le_of_ble_eq_true rfl) rfl ?_
  refine x_ifB_ne (t := 19) f_89_14 (by decide) (fun c_1 => ?_) (fun c_1 => absurd (mIn_nI hs (by decide)) c_1)
  refine x_iconst (v := nI 0) f_89_19 (by decide) ?_
  refine x_istore (ls1 := [.ref 8, .int (nI j), .int (nI s), .ref (jA h j), .int (nI 0), mj_unset, mj_unset]) f_89_20 (Nat.le_of_ble_eq_true rfl) rfl ?_
  refine x_iconst (v := nI 0) f_89_22 (by decide) ?_
  refine x_istore (ls1 := [.ref 8, .int (nI j), .int (nI s), .ref (jA h j), .int (nI 0), .int (nI 0), mj_unset]) f_89_23 (Nat.le_of_ble_eq_true rfl) rfl ?_
  refine kmend_0 hj hs (CQ.rf c) (fun g1 q1 b1 e1 v1 => kmend_1 hj hs q1 (fun g2 q2 b2 e2 v2 => kmend_2 hj hs q2 (fun g3 q3 b3 e3 v3 => ?_)))
  subst e1
  subst e2
  subst e3
  refine x_iload f_89_25 rfl ?_
  refine x_iconst (v := nI 3) f_89_27 (by decide) ?_
  refine x_icmpN_ge (t := 117) f_89_28 (by decide) (by decide) (by decide) (fun c_1 => ?_) (fun c_1 => by omega)
  refine x_iload f_89_117 rfl ?_
  refine x_retI f_89_119 rfl ?_
  exact ⟨rfl, q3⟩
set_option maxRecDepth 20000 in
theorem k_mendedS {h : mj_H} {jm j : Nat} (c : CJ h jm) (h_jm : jm ≤ 20) (e_jm : mj_I h 8 11 = nI jm) (hj : j < jm) (v : Int32) (hs : ¬ mIn v 729) : mxc 1 89 [.ref 8, .int (nI j), .int v] h (fun r h' => r = some (.int (-1)) ∧ h' = h) := by
  have C := c.1
  have hc := (c.2.2.1 j hj).1
  show mx 1 89 0 [.ref 8, .int (nI j), .int v, mj_unset, mj_unset, mj_unset, mj_unset] [] h _
  refine x_aload_n f_89_0 rfl ?_
  refine x_iload_n f_89_1 rfl ?_
  refine x_callVe f_89_2 (k_jobAt C h_jm e_jm hj hc.1.1) (by omega) C.k8 (by decide) rfl rfl (Nat.le_of_ble_eq_true rfl) rfl ?_
  refine x_astore_n (ls1 := [.ref 8, .int (nI j), .int v, .ref (jA h j), mj_unset, mj_unset, mj_unset]) f_89_5 (Nat.le_of_ble_eq_true rfl) rfl ?_
  refine x_aload_n f_89_6 rfl ?_
  refine x_ifnull f_89_7 ?_
  refine x_iload_n f_89_10 rfl ?_
  refine x_callSe f_89_11 (k_isSetting _ _) (by omega) rfl rfl rfl (Nat.le_of_ble_eq_true rfl) rfl ?_
  refine x_ifB_ne (t := 19) f_89_14 (by decide) (fun c_1 => absurd c_1 hs) (fun c_1 => ?_)
  refine x_iconst (v := -1) f_89_17 (by decide) ?_
  refine x_retI f_89_18 rfl ?_
  exact ⟨rfl, rfl⟩
set_option maxRecDepth 20000 in
theorem k_mended0 {h : mj_H} (C : SC h) {jm : Nat} (h_jm : jm ≤ 20) (e_jm : mj_I h 8 11 = nI jm) (v s : Int32) (hin : ¬ mIn v jm) : mxc 1 89 [.ref 8, .int v, .int s] h (fun r h' => r = some (.int (-1)) ∧ h' = h) := by
  show mx 1 89 0 [.ref 8, .int v, .int s, mj_unset, mj_unset, mj_unset, mj_unset] [] h _
  refine x_aload_n f_89_0 rfl ?_
  refine x_iload_n f_89_1 rfl ?_
  refine x_callVe f_89_2 (k_jobAt0 C _ h_jm e_jm hin) (by omega) C.k8 (by decide) rfl rfl (Nat.le_of_ble_eq_true rfl) rfl ?_
  refine x_astore_nN (ls1 := [.ref 8, .int v, .int s, .null, mj_unset, mj_unset, mj_unset]) f_89_5 (Nat.le_of_ble_eq_true rfl) rfl ?_
  refine x_aload_nN f_89_6 rfl ?_
  refine x_ifnullN (t := 17) f_89_7 (by decide) ?_
  refine x_iconst (v := -1) f_89_17 (by decide) ?_
  refine x_retI f_89_18 rfl ?_
  exact ⟨rfl, rfl⟩
