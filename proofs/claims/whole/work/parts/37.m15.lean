theorem f_147_7 : mj_fetch 147 7 = some (.iload_n 2, 0, 0) := by decide +kernel
theorem f_147_8 : mj_fetch 147 8 = some (.ldc 53, 46656, 0) := by decide +kernel
theorem f_147_10 : mj_fetch 147 10 = some (.if_icmp .ge 16, 0, 0) := by decide +kernel
theorem f_147_13 : mj_fetch 147 13 = some (.aload_n 0, 0, 0) := by decide +kernel
theorem f_147_14 : mj_fetch 147 14 = some (.getfield 54, 11, 23) := by decide +kernel
theorem f_147_17 : mj_fetch 147 17 = some (.iload_n 2, 0, 0) := by decide +kernel
theorem f_147_18 : mj_fetch 147 18 = some (.iconst 0, 0, 0) := by decide +kernel
theorem f_147_19 : mj_fetch 147 19 = some (.iastore, 0, 0) := by decide +kernel
theorem f_147_20 : mj_fetch 147 20 = some (.iinc 2 1, 0, 0) := by decide +kernel
theorem f_147_23 : mj_fetch 147 23 = some (.goto (-16), 0, 0) := by decide +kernel
theorem f_147_26 : mj_fetch 147 26 = some (.aload_n 0, 0, 0) := by decide +kernel
theorem f_147_27 : mj_fetch 147 27 = some (.iconst 0, 0, 0) := by decide +kernel
theorem f_147_28 : mj_fetch 147 28 = some (.aload_n 0, 0, 0) := by decide +kernel
theorem f_147_29 : mj_fetch 147 29 = some (.iconst 0, 0, 0) := by decide +kernel
theorem f_147_30 : mj_fetch 147 30 = some (.invokevirtual 188, 143, 0) := by decide +kernel
theorem f_147_33 : mj_fetch 147 33 = some (.iconst 0, 0, 0) := by decide +kernel
theorem f_147_34 : mj_fetch 147 34 = some (.aload_n 0, 0, 0) := by decide +kernel
theorem f_147_35 : mj_fetch 147 35 = some (.iconst 1, 0, 0) := by decide +kernel
theorem f_147_36 : mj_fetch 147 36 = some (.invokevirtual 188, 143, 0) := by decide +kernel
theorem f_147_39 : mj_fetch 147 39 = some (.iconst 0, 0, 0) := by decide +kernel
theorem f_147_40 : mj_fetch 147 40 = some (.aload_n 0, 0, 0) := by decide +kernel
theorem f_147_41 : mj_fetch 147 41 = some (.iconst 2, 0, 0) := by decide +kernel
theorem f_147_42 : mj_fetch 147 42 = some (.invokevirtual 188, 143, 0) := by decide +kernel
theorem f_147_45 : mj_fetch 147 45 = some (.invokevirtual 201, 145, 0) := by decide +kernel
theorem f_147_48 : mj_fetch 147 48 = some (.ireturn, 0, 0) := by decide +kernel
theorem f_147_0 : mj_fetch 147 0 = some (.aload_n 0, 0, 0) := by decide +kernel
theorem f_147_1 : mj_fetch 147 1 = some (.iload_n 1, 0, 0) := by decide +kernel
theorem f_147_2 : mj_fetch 147 2 = some (.putfield 179, 11, 22) := by decide +kernel
theorem f_147_5 : mj_fetch 147 5 = some (.iconst 0, 0, 0) := by decide +kernel
theorem f_147_6 : mj_fetch 147 6 = some (.istore_n 2, 0, 0) := by decide +kernel
theorem f_148_0 : mj_fetch 148 0 = some (.aload_n 0, 0, 0) := by decide +kernel
theorem f_148_1 : mj_fetch 148 1 = some (.iload_n 1, 0, 0) := by decide +kernel
theorem f_148_2 : mj_fetch 148 2 = some (.invokevirtual 185, 137, 0) := by decide +kernel
theorem f_148_5 : mj_fetch 148 5 = some (.ifCond .eq 11, 0, 0) := by decide +kernel
theorem f_148_8 : mj_fetch 148 8 = some (.aload_n 0, 0, 0) := by decide +kernel
theorem f_148_9 : mj_fetch 148 9 = some (.iload_n 1, 0, 0) := by decide +kernel
theorem f_148_10 : mj_fetch 148 10 = some (.invokevirtual 208, 147, 0) := by decide +kernel
theorem f_148_13 : mj_fetch 148 13 = some (.goto 4, 0, 0) := by decide +kernel
theorem f_148_16 : mj_fetch 148 16 = some (.iconst (-1), 0, 0) := by decide +kernel
theorem f_148_17 : mj_fetch 148 17 = some (.ireturn, 0, 0) := by decide +kernel
theorem f_144_0 : mj_fetch 144 0 = some (.aload_n 0, 0, 0) := by decide +kernel
theorem f_144_1 : mj_fetch 144 1 = some (.iload_n 1, 0, 0) := by decide +kernel
theorem f_144_2 : mj_fetch 144 2 = some (.invokevirtual 185, 137, 0) := by decide +kernel
theorem f_144_5 : mj_fetch 144 5 = some (.ifCond .ne 5, 0, 0) := by decide +kernel
theorem f_144_8 : mj_fetch 144 8 = some (.iconst (-1), 0, 0) := by decide +kernel
theorem f_144_9 : mj_fetch 144 9 = some (.ireturn, 0, 0) := by decide +kernel
theorem f_144_10 : mj_fetch 144 10 = some (.aload_n 0, 0, 0) := by decide +kernel
theorem f_144_11 : mj_fetch 144 11 = some (.iload_n 1, 0, 0) := by decide +kernel
theorem f_144_12 : mj_fetch 144 12 = some (.putfield 179, 11, 22) := by decide +kernel
theorem f_144_15 : mj_fetch 144 15 = some (.aload_n 0, 0, 0) := by decide +kernel
theorem f_144_16 : mj_fetch 144 16 = some (.iconst 0, 0, 0) := by decide +kernel
theorem f_144_17 : mj_fetch 144 17 = some (.aload_n 0, 0, 0) := by decide +kernel
theorem f_144_18 : mj_fetch 144 18 = some (.iconst 0, 0, 0) := by decide +kernel
theorem f_144_19 : mj_fetch 144 19 = some (.invokevirtual 188, 143, 0) := by decide +kernel
theorem f_144_22 : mj_fetch 144 22 = some (.iconst 0, 0, 0) := by decide +kernel
theorem f_144_23 : mj_fetch 144 23 = some (.aload_n 0, 0, 0) := by decide +kernel
theorem f_144_24 : mj_fetch 144 24 = some (.iconst 1, 0, 0) := by decide +kernel
theorem f_144_25 : mj_fetch 144 25 = some (.invokevirtual 188, 143, 0) := by decide +kernel
theorem f_144_28 : mj_fetch 144 28 = some (.iconst 0, 0, 0) := by decide +kernel
theorem f_144_29 : mj_fetch 144 29 = some (.aload_n 0, 0, 0) := by decide +kernel
theorem f_144_30 : mj_fetch 144 30 = some (.iconst 2, 0, 0) := by decide +kernel
theorem f_144_31 : mj_fetch 144 31 = some (.invokevirtual 188, 143, 0) := by decide +kernel
theorem f_144_34 : mj_fetch 144 34 = some (.invokevirtual 191, 141, 0) := by decide +kernel
theorem f_144_37 : mj_fetch 144 37 = some (.ireturn, 0, 0) := by decide +kernel
/-- what a question may change in the model: what it keeps, and what it works with -/
def SQ (h g : mj_H) (jm : Nat) : Prop := MW g jm ∧ Rw h g [33, 39, 40, 41, 42, 43, 44, 48, 49, 50, 60, 61] ∧ ∀ q, q ∉ [1, 14, 15, 17, 22, 26, 29, 30, 31, 32, 33, 47] → mj_I g 33 q = mj_I h 33 q
theorem SQ.rf {h : mj_H} {jm : Nat} (w : MW h jm) : SQ h h jm := ⟨w, Rw.rf _ _, fun _ _ => rfl⟩
theorem SQ.trans {h g k : mj_H} {jm : Nat} (a : SQ h g jm) (b : SQ g k jm) : SQ h k jm := ⟨b.1, a.2.1.trans b.2.1, fun q hq => (b.2.2 q hq).trans (a.2.2 q hq)⟩
theorem SQ.me {h g : mj_H} {jm : Nat} (w : MW g jm) (e : ME h g) : SQ h g jm := ⟨w, e.1.mono (by decide), fun q hq => e.2 q (fun z => hq (by rw [z]; decide)) (fun z => hq (by rw [z]; decide)) (fun z => hq (by rw [z]; decide))⟩
theorem SQ.mv {h g : mj_H} {jm : Nat} (a : MV h g jm) : SQ h g jm := SQ.me a.1 (ME_MV a)
theorem MW_rw {h g : mj_H} {jm : Nat} {as : List Nat} (w : MW h jm) (r : Rw h g as) (hd : ∀ a, a ∈ [36, 39, 41, 42, 43, 44] → a ∉ as) : MW g jm := by
  have e36 : mj_I g 36 = mj_I h 36 := r.i (hd 36 (by decide))
  have e44 : mj_I g 44 = mj_I h 44 := r.i (hd 44 (by decide))
  refine ⟨r.sm w.1, fun a ha q hq => ?_, w.2.2.1, fun j hj => (w.2.2.2.1 j hj).to e36, fun j hj z hz => by rw [e44, vd_eq e36]; exact w.2.2.2.2 j hj z hz⟩
  rw [r.i (hd a (by simp only [List.mem_cons, List.not_mem_nil, or_false] at ha ⊢; omega))]
  exact w.2.1 a ha q hq
theorem SQ.set33 {h g : mj_H} {jm i : Nat} {x : Int32} (a : SQ h g jm) (hi : i ∈ [1, 14, 15, 17, 22, 26, 29, 30, 31, 32, 33, 47]) : SQ h (mj_setI g 33 i x) jm :=
  ⟨MW_33 a.1, a.2.1.set (by decide), fun q hq => (mj_I_ne (fun z => hq (by rw [z]; exact hi))).trans (a.2.2 q hq)⟩
theorem SQ.rows {h g k : mj_H} {jm : Nat} {as : List Nat} (a : SQ h g jm) (r : Rw g k as) (hd : ∀ a, a ∈ as → a ∈ [48, 49, 50, 60, 61]) : SQ h k jm := by
  refine ⟨MW_rw a.1 r (fun b hb q => ?_), a.2.1.trans (r.mono (fun b hb => ?_)), fun q hq => ?_⟩
  · have := hd b q
    simp only [List.mem_cons, List.not_mem_nil, or_false] at this hb
    omega
  · have := hd b hb
    simp only [List.mem_cons, List.not_mem_nil, or_false] at this ⊢
    omega
  · rw [r.i (fun z => by have := hd 33 z; revert this; decide)]
    exact a.2.2 q hq
def Wd (h : mj_H) (w : Nat) : Nat → Nat := fun a => whi h w a - wlo h w a
/-- the least proof of a window: how many leaves, how it begins -/
def LW (h : mj_H) (w : Nat) : Nat × Nat := LV (wg h w) 0 (Wd h w 0) 0 (Wd h w 1) 0 (Wd h w 2)
theorem c_wideC {g : mj_H} {jm w : Nat} {G : Gd} {W : Nat → Nat} (hC : CL g jm w G W) (hWd : ∀ a, a < 3 → whi g w a - wlo g w a = W a) {a : Nat} (ha : a < 3) : mxc 0 143 [.ref 33, .int (nI a)] g (fun r h' => r = some (.int (nI (W a))) ∧ h' = g) := by
  rw [← hWd a ha]
  exact c_wide hC.1.1 hC.2.1 hC.2.2.1 hC.2.2.2.1 ha
theorem Wd_5 {h : mj_H} {w jm : Nat} (hN : WN h w jm) : Wd h w 0 ≤ 5 ∧ Wd h w 1 ≤ 5 ∧ Wd h w 2 ≤ 5 := by
  have a0 := hN.2.2 0 (by decide)
  have a1 := hN.2.2 1 (by decide)
  have a2 := hN.2.2 2 (by decide)
  unfold Wd
  omega

set_option maxRecDepth 20000 in
theorem prove_l {h : mj_H} {w : Nat} {Q : Option Value → mj_H → Prop} (K : ∀ g : mj_H, SM g → Rw h g [48] → (∀ q, q < 46656 → mj_I g 48 q = 0) → mx 23 147 26 [.ref 33, .int (nI w), .int (nI 46656)] [] g Q) :
    ∀ (n k : Nat) (g : mj_H), k + n = 46656 → SM g → Rw h g [48] → (∀ q, q < k → mj_I g 48 q = 0) → mx 23 147 7 [.ref 33, .int (nI w), .int (nI k)] [] g Q := by
  intro n
  induction n with
  | zero =>
    intro k g hk S hR hz
    have hkk : k = 46656 := by omega
    subst hkk
    refine x_iload_n f_147_7 rfl ?_
    refine x_ldc (v := nI 46656) f_147_8 (by decide) ?_
    refine x_icmpN_ge (t := 26) f_147_10 (by decide) (by decide) (by decide) (fun c_1 => ?_) (fun c_1 => by omega)
    exact K g S hR hz
  | succ n ih =>
    intro k g hk S hR hz
    refine x_iload_n f_147_7 rfl ?_
    refine x_ldc (v := nI 46656) f_147_8 (by decide) ?_
    refine x_icmpN_ge (t := 26) f_147_10 (by decide) (by omega) (by decide) (fun c_1 => by omega) (fun c_1 => ?_)
    refine x_aload_n f_147_13 rfl ?_
    refine x_getR f_147_14 S.k33 (by decide) S.r23 ?_
    refine x_iload_n f_147_17 rfl ?_
    refine x_iconst (v := nI 0) f_147_18 (by decide) ?_
    refine x_iast (j := k) f_147_19 S.k48 (by decide) (by omega) (by decide) ?_
    refine x_iinc (v := nI (k + 1)) (ls1 := [.ref 33, .int (nI w), .int (nI (k + 1))]) f_147_20 rfl (by exact nI_add _ 1) rfl ?_
    refine x_goto (t := 7) f_147_23 (by decide) ?_
    refine ih (k + 1) _ (by omega) S (hR.set (by decide)) (fun q hq => ?_)
    by_cases hqk : q = k
    · subst hqk; exact mj_I_at _ _ _ _
    · exact (mj_I_ne hqk).trans (hz q (by omega))
set_option maxRecDepth 20000 in
set_option maxHeartbeats 4000000 in
theorem c_prove {h : mj_H} {jm w : Nat} (hW : MW h jm) (hw : w < 10) (hN : WN h w jm) : mxc 23 147 [.ref 33, .int (nI w)] h (fun r h' => r = some (.int (nI (LW h w).1)) ∧ CL h' jm w (wg h w) (Wd h w) ∧ ST h' 0 (Wd h w 0) 0 (Wd h w 1) 0 (Wd h w 2) ∧ SQ h h' jm) := by
  have S : SM h := hW.1
  show mx 23 147 0 [.ref 33, .int (nI w), mj_unset] [] h _
  refine x_aload_n f_147_0 rfl ?_
  refine x_iload_n f_147_1 rfl ?_
  refine x_putI f_147_2 S.k33 (by decide) ?_
  refine x_iconst (v := nI 0) f_147_5 (by decide) ?_
  refine x_istore_n (ls1 := [.ref 33, .int (nI w), .int (nI 0)]) f_147_6 (Nat.le_of_ble_eq_true rfl) rfl ?_
  refine prove_l (h := mj_setI h 33 22 (nI w)) ?_ 46656 0 _ (by omega) S (Rw.rf _ _) (fun q hq => by omega)
  intro g S hR hz
  have r2 : Rw h g [33, 48] := ((Rw.rf h [33, 48]).set (by decide)).trans (hR.mono (by decide))
  have e36 : mj_I g 36 = mj_I h 36 := r2.i (by decide)
  have e45 : mj_I g 45 = mj_I h 45 := r2.i (by decide)
  have e46 : mj_I g 46 = mj_I h 46 := r2.i (by decide)
  have e47 : mj_I g 47 = mj_I h 47 := r2.i (by decide)
  have hw5 := Wd_5 hN
  have a0 := hN.2.2 0 (by decide)
  have a1 := hN.2.2 1 (by decide)
  have a2 := hN.2.2 2 (by decide)
  have hWd : ∀ a, a < 3 → whi g w a - wlo g w a = Wd h w a := fun a _ => by unfold Wd whi wlo; rw [e46, e47]
  have hz2 : ∀ a b c d e f, BX (Wd h w) a b c d e f → mj_I g 48 (bx a b c d e f) = 0 := fun a b c d e f hB => hz _ (bx_lt (by unfold BX at hB; omega))
  have hC : CL g jm w (wg h w) (Wd h w) := by
    refine ⟨MW_rw (MW_33 hW) hR (by decide), hw, ?_, WN_to e45 e46 e47 hN, fun t p l => wg_to e36 e45 e46 w t p l, fun a ha => ?_, fun a b c d e f hB => Or.inl (hz2 a b c d e f hB), fun a b c d e f hB hs => absurd (hz2 a b c d e f hB) hs⟩
    · rw [hR.i (by decide)]; exact mj_I_at _ _ _ _
    · have q := hN.2.2 a ha
      have eq : wlo g w a = wlo h w a := by unfold wlo; rw [e46]
      rw [eq]
      unfold Wd
      omega
  refine x_aload_n f_147_26 rfl ?_
  refine x_iconst (v := nI 0) f_147_27 (by decide) ?_
  refine x_aload_n f_147_28 rfl ?_
  refine x_iconst (v := nI 0) f_147_29 (by decide) ?_
  refine x_callVe f_147_30 (c_wideC hC hWd (by decide)) (by omega) S.k33 (by decide) rfl rfl (Nat.le_of_ble_eq_true rfl) rfl ?_
  refine x_iconst (v := nI 0) f_147_33 (by decide) ?_
  refine x_aload_n f_147_34 rfl ?_
  refine x_iconst (v := nI 1) f_147_35 (by decide) ?_
  refine x_callVe f_147_36 (c_wideC hC hWd (by decide)) (by omega) S.k33 (by decide) rfl rfl (Nat.le_of_ble_eq_true rfl) rfl ?_
  refine x_iconst (v := nI 0) f_147_39 (by decide) ?_
  refine x_aload_n f_147_40 rfl ?_
  refine x_iconst (v := nI 2) f_147_41 (by decide) ?_
  refine x_callVe f_147_42 (c_wideC hC hWd (by decide)) (by omega) S.k33 (by decide) rfl rfl (Nat.le_of_ble_eq_true rfl) rfl ?_
  refine x_callV f_147_45 (leaves_all (Wd_5 hN) 15 0 (Wd h w 0) 0 (Wd h w 1) 0 (Wd h w 2) g (by unfold BX; omega) (by unfold spn; omega) hC) (by omega) S.k33 (by decide) rfl rfl (Nat.le_of_ble_eq_true rfl) rfl ?_
  rintro _ g2 ⟨rfl, hC2, hE2, t48, t49, _, _⟩
  refine x_retI f_147_48 rfl ?_
  refine ⟨rfl, hC2, ?_, ?_⟩
  · exact fun q => absurd (t48.symm.trans q) (nI_ne0 (LV_pos _ _ _ _ _ _ _) (by have := LV_216 (wg h w) (Nat.zero_le (Wd h w 0)) (Nat.zero_le (Wd h w 1)) (Nat.zero_le (Wd h w 2)) hw5.1 hw5.2.1 hw5.2.2; omega))
  · exact (((SQ.rf hW).set33 (by decide)).rows hR (by decide)).trans (SQ.me hC2.1 hE2)
set_option maxRecDepth 20000 in
theorem c_leaves {h : mj_H} {jm wm : Nat} (hW : MW h jm) (h_wm : wm ≤ 10) (e_wm : mj_I h 33 21 = nI wm) (hNN : ∀ i, i < wm → WN h i jm) (w : Int32) : mxc 24 148 [.ref 33, .int w] h (fun r h' => if mIn w wm then r = some (.int (nI (LW h w.toNatClampNeg).1)) ∧ SQ h h' jm else r = some (.int (-1)) ∧ h' = h) := by
  have S : SM h := hW.1
  show mx 24 148 0 [.ref 33, .int w] [] h _
  refine x_aload_n f_148_0 rfl ?_
  refine x_iload_n f_148_1 rfl ?_
  refine x_callVe f_148_2 (c_isWindow hW.1 _ (n := wm) (by omega) e_wm) (by omega) S.k33 (by decide) rfl rfl (Nat.le_of_ble_eq_true rfl) rfl ?_
  refine x_ifB_eq (t := 16) f_148_5 (by decide) (fun c_1 => ?_) (fun c_1 => ?_)
  · refine x_iconst (v := -1) f_148_16 (by decide) ?_
    refine x_retI f_148_17 rfl ?_
    exact mj_qF c_1 ⟨rfl, rfl⟩
  · obtain ⟨i, h_i, rfl⟩ := mIn_of c_1 (by omega)
    have hN := hNN i h_i
    simp only [nI_clamp (show i < 2 ^ 31 by omega)]
    refine x_aload_n f_148_8 rfl ?_
    refine x_iload_n f_148_9 rfl ?_
    refine x_callV f_148_10 (c_prove hW (by omega) hN) (by omega) S.k33 (by decide) rfl rfl (Nat.le_of_ble_eq_true rfl) rfl ?_
    rintro _ g ⟨rfl, _, _, hq⟩
    refine x_goto (t := 17) f_148_13 (by decide) ?_
    refine x_retI f_148_17 rfl ?_
    exact mj_qT c_1 ⟨rfl, hq⟩
/-- how many settings of a window are good -/
def GW (h : mj_H) (w : Nat) : Nat := gcN (wg h w) 0 (Wd h w 0) 0 (Wd h w 1) 0 (Wd h w 2)
set_option maxRecDepth 20000 in
theorem c_good {h : mj_H} {jm wm : Nat} (hW : MW h jm) (h_wm : wm ≤ 10) (e_wm : mj_I h 33 21 = nI wm) (hNN : ∀ i, i < wm → WN h i jm) (w : Int32) : mxc 7 144 [.ref 33, .int w] h (fun r h' => if mIn w wm then r = some (.int (nI (GW h w.toNatClampNeg))) ∧ SQ h h' jm else r = some (.int (-1)) ∧ h' = h) := by
  have S : SM h := hW.1
  show mx 7 144 0 [.ref 33, .int w] [] h _
  refine x_aload_n f_144_0 rfl ?_
  refine x_iload_n f_144_1 rfl ?_
  refine x_callVe f_144_2 (c_isWindow hW.1 _ (n := wm) (by omega) e_wm) (by omega) S.k33 (by decide) rfl rfl (Nat.le_of_ble_eq_true rfl) rfl ?_
  refine x_ifB_ne (t := 10) f_144_5 (by decide) (fun c_1 => ?_) (fun c_1 => ?_)
  · obtain ⟨i, h_i, rfl⟩ := mIn_of c_1 (by omega)
    have hN := hNN i h_i
    simp only [nI_clamp (show i < 2 ^ 31 by omega)]
    refine x_aload_n f_144_10 rfl ?_
    refine x_iload_n f_144_11 rfl ?_
    refine x_putI f_144_12 S.k33 (by decide) ?_
    have hC : MW (mj_setI h 33 22 (nI i)) jm := MW_33 hW
    have e_at : mj_I (mj_setI h 33 22 (nI i)) 33 22 = nI i := mj_I_at _ _ _ _
    have e36 : mj_I (mj_setI h 33 22 (nI i)) 36 = mj_I h 36 := mj_I_other (by decide)
    have e45 : mj_I (mj_setI h 33 22 (nI i)) 45 = mj_I h 45 := mj_I_other (by decide)
    have e46 : mj_I (mj_setI h 33 22 (nI i)) 46 = mj_I h 46 := mj_I_other (by decide)
    have e47 : mj_I (mj_setI h 33 22 (nI i)) 47 = mj_I h 47 := mj_I_other (by decide)
    have hN2 : WN (mj_setI h 33 22 (nI i)) i jm := WN_to e45 e46 e47 hN
    have b0 := hN2.2.2 0 (by decide)
    have b1 := hN2.2.2 1 (by decide)
    have b2 := hN2.2.2 2 (by decide)
    refine x_aload_n f_144_15 rfl ?_
    refine x_iconst (v := nI 0) f_144_16 (by decide) ?_
    refine x_aload_n f_144_17 rfl ?_
    refine x_iconst (v := nI 0) f_144_18 (by decide) ?_
    refine x_callVe f_144_19 (c_wide hC.1 (by omega) e_at hN2 (by decide)) (by omega) S.k33 (by decide) rfl rfl (Nat.le_of_ble_eq_true rfl) rfl ?_
    refine x_iconst (v := nI 0) f_144_22 (by decide) ?_
    refine x_aload_n f_144_23 rfl ?_
    refine x_iconst (v := nI 1) f_144_24 (by decide) ?_
    refine x_callVe f_144_25 (c_wide hC.1 (by omega) e_at hN2 (by decide)) (by omega) S.k33 (by decide) rfl rfl (Nat.le_of_ble_eq_true rfl) rfl ?_
    refine x_iconst (v := nI 0) f_144_28 (by decide) ?_
    refine x_aload_n f_144_29 rfl ?_
    refine x_iconst (v := nI 2) f_144_30 (by decide) ?_
    refine x_callVe f_144_31 (c_wide hC.1 (by omega) e_at hN2 (by decide)) (by omega) S.k33 (by decide) rfl rfl (Nat.le_of_ble_eq_true rfl) rfl ?_
    refine x_callV f_144_34 (c_goodIn (by omega) e_at hN2 hC (by omega) (by omega) (by omega) (by omega) (by omega) (by omega)) (by omega) S.k33 (by decide) rfl rfl (Nat.le_of_ble_eq_true rfl) rfl ?_
    rintro _ g ⟨rfl, hv⟩
    refine x_retI f_144_37 rfl ?_
    refine mj_qT c_1 ⟨?_, ((SQ.rf hW).set33 (by decide)).trans (SQ.mv hv)⟩
    rw [gc_eq (wg_to e36 e45 e46 i)]
    unfold whi wlo
    rw [e46, e47]
    rfl
  · refine x_iconst (v := -1) f_144_8 (by decide) ?_
    refine x_retI f_144_9 rfl ?_
    exact mj_qF c_1 ⟨rfl, rfl⟩
