/-! THE PROVER: the row of a least proof -/
theorem mj_K_new {h : mj_H} {k n a : Nat} (ha : a ≠ h.1) : mj_K (mj_new h k n) a = mj_K h a := if_neg ha
theorem mj_K_newA (h : mj_H) (k n : Nat) : mj_K (mj_new h k n) h.1 = (k, n) := if_pos rfl
theorem mj_I_new {h : mj_H} {k n a : Nat} (ha : a ≠ h.1) : mj_I (mj_new h k n) a = mj_I h a := funext fun _ => if_neg ha
theorem mj_I_newA (h : mj_H) (k n i : Nat) : mj_I (mj_new h k n) h.1 i = 0 := if_pos rfl
theorem mj_J_new {h : mj_H} {k n a : Nat} (ha : a ≠ h.1) : mj_J (mj_new h k n) a = mj_J h a := funext fun _ => if_neg ha
theorem mj_J_newA (h : mj_H) (k n i : Nat) : mj_J (mj_new h k n) h.1 i = 0 := if_pos rfl
theorem mj_R_new {h : mj_H} {k n a : Nat} (ha : a ≠ h.1) : mj_R (mj_new h k n) a = mj_R h a := funext fun _ => if_neg ha
theorem mj_R_newA (h : mj_H) (k n i : Nat) : mj_R (mj_new h k n) h.1 i = none := if_pos rfl
theorem SC_new {h : mj_H} (C : SC h) (h63 : 63 ≤ h.1) (k n : Nat) : SC (mj_new h k n) := C.to (fun a ha => mj_K_new (by omega)) (fun e he => by
    have : e.1 < 33 := by revert e; decide
    rw [mj_R_new (by omega)]) (fun a ha => mj_I_new (by omega))
/-- the number of a stretch -/
def sx (a b : Nat) : Nat := sB b + (b - a)
/-- the rows of the boxes of a pile, one behind the other -/
def PFb (G : Gd) (B : Bx6) : List Nat := PF G B.1 B.2.1 B.2.2.1 B.2.2.2.1 B.2.2.2.2.1 B.2.2.2.2.2
def PFs (G : Gd) : List Bx6 → List Nat
  | [] => []
  | B :: r => PFb G B ++ PFs G r
theorem PF_fl {G : Gd} {W : Nat → Nat} {a b c d e f : Nat} (hB : BX W a b c d e f) (hW : W 0 ≤ 5 ∧ W 1 ≤ 5 ∧ W 2 ≤ 5) (r : List Bx6) : PFs G ((a, b, c, d, e, f) :: r) = (LV G a b c d e f).2 :: PFs G (fl (LV G a b c d e f).2 a b c d e f r) := by
  unfold BX at hB
  show PF G a b c d e f ++ PFs G r = _
  rcases LV_cut G (show a ≤ b by omega) (show c ≤ d by omega) (show e ≤ f by omega) (by omega) (by omega) (by omega) with q | ⟨_, ⟨i, i1, i2, _⟩ | ⟨i, i1, i2, _⟩ | ⟨i, i1, i2, _⟩⟩
  · rw [PF_leaf q.1]
    unfold fl
    rw [if_pos q.1]
    rfl
  · rw [PF_c0 (by omega) (by omega) (by omega) (by omega) (by omega) (by omega) i1 i2, i2]
    unfold fl
    rw [if_neg (by omega), if_pos (by omega), if_pos (by omega), show 2 + i - 2 = i by omega]
    show [2 + i] ++ PF G a (a + i) c d e f ++ PF G (a + i + 1) b c d e f ++ PFs G r = (2 + i) :: (PF G a (a + i) c d e f ++ (PF G (a + i + 1) b c d e f ++ PFs G r))
    simp
  · rw [PF_c1 (by omega) (by omega) (by omega) (by omega) (by omega) (by omega) i1 i2, i2]
    unfold fl
    rw [if_neg (by omega), if_neg (by omega), if_pos (by omega), if_pos (by omega), show 10 + i - 10 = i by omega]
    show [10 + i] ++ PF G a b c (c + i) e f ++ PF G a b (c + i + 1) d e f ++ PFs G r = (10 + i) :: (PF G a b c (c + i) e f ++ (PF G a b (c + i + 1) d e f ++ PFs G r))
    simp
  · rw [PF_c2 (by omega) (by omega) (by omega) (by omega) (by omega) (by omega) i1 i2, i2]
    unfold fl
    rw [if_neg (by omega), if_neg (by omega), if_neg (by omega), if_pos (by omega), if_pos (by omega), show 18 + i - 18 = i by omega]
    show [18 + i] ++ PF G a b c d e (e + i) ++ PF G a b c d (e + i + 1) f ++ PFs G r = (18 + i) :: (PF G a b c d e (e + i) ++ (PF G a b c d (e + i + 1) f ++ PFs G r))
    simp
set_option maxRecDepth 20000 in
theorem k_stretchAt0 {h : mj_H} (C : SC h) {A : Nat} (hA : mj_K h A = (9, 7)) {L W : Nat → Nat} (hL : LB L W) (i1 : mj_I h A 1 = nI (zz L 0 0 0)) {a b c d e f : Nat} (hB : BX W a b c d e f) : mxc 1 45 [.ref A, .int (nI (zz L a c e)), .int (nI (zz L b d f)), .int (nI 0)] h (fun r h' => r = some (.int (nI (sx a b))) ∧ h' = h) := by
  unfold BX at hB
  have z0 := zz_ hL (t := 0) (p := 0) (l := 0) (by omega) (by omega) (by omega)
  have zx := zz_ hL (t := a) (p := c) (l := e) (by omega) (by omega) (by omega)
  have zy := zz_ hL (t := b) (p := d) (l := f) (by omega) (by omega) (by omega)
  have b0 := hL 0 (by decide)
  have b1 := hL 1 (by decide)
  have b2 := hL 2 (by decide)
  show mx 1 45 0 [.ref A, .int (nI (zz L a c e)), .int (nI (zz L b d f)), .int (nI 0), mj_unset] [] h _
  refine x_iload_n f_45_0 rfl ?_
  refine x_iload_n f_45_1 rfl ?_
  refine x_callSe f_45_2 (k_along C (z := (zz L b d f)) (a := 0) zy.1 (by decide)) (by omega) rfl rfl rfl (Nat.le_of_ble_eq_true rfl) rfl ?_
  refine x_aload_n f_45_5 rfl ?_
  refine x_getI f_45_6 hA (by decide) ?_
  refine x_topi (w := nI (zz L 0 0 0)) i1 ?_
  refine x_iload_n f_45_9 rfl ?_
  refine x_callSe f_45_10 (k_along C (z := (zz L 0 0 0)) (a := 0) z0.1 (by decide)) (by omega) rfl rfl rfl (Nat.le_of_ble_eq_true rfl) rfl ?_
  refine x_isubN f_45_13 (by omega) ?_
  refine x_istore (ls1 := [.ref A, .int (nI (zz L a c e)), .int (nI (zz L b d f)), .int (nI 0), .int (nI ((mm_pt (zz L b d f) 0) - (mm_pt (zz L 0 0 0) 0)))]) f_45_14 (Nat.le_of_ble_eq_true rfl) rfl ?_
  refine x_gets f_45_16 ?_
  refine x_iload f_45_19 rfl ?_
  refine x_iald (j := ((mm_pt (zz L b d f) 0) - (mm_pt (zz L 0 0 0) 0))) f_45_21 C.k4 (by omega) (by decide) ?_
  refine x_topi (w := nI (sB b)) (by rw [show (mm_pt (zz L b d f) 0) - (mm_pt (zz L 0 0 0) 0) = b by omega]; exact C.vB (by omega)) ?_
  refine x_iload_n f_45_22 rfl ?_
  refine x_iload_n f_45_23 rfl ?_
  refine x_callSe f_45_24 (k_along C (z := (zz L b d f)) (a := 0) zy.1 (by decide)) (by omega) rfl rfl rfl (Nat.le_of_ble_eq_true rfl) rfl ?_
  refine x_iaddN f_45_27 ?_
  refine x_iload_n f_45_28 rfl ?_
  refine x_iload_n f_45_29 rfl ?_
  refine x_callSe f_45_30 (k_along C (z := (zz L a c e)) (a := 0) zx.1 (by decide)) (by omega) rfl rfl rfl (Nat.le_of_ble_eq_true rfl) rfl ?_
  refine x_isubN f_45_33 (by omega) ?_
  refine x_retI f_45_34 rfl ?_
  exact ⟨by unfold sx; rw [show ((sB b) + (mm_pt (zz L b d f) 0)) - (mm_pt (zz L a c e) 0) = sB b + (b - a) by omega], rfl⟩
set_option maxRecDepth 20000 in
theorem k_stretchAt1 {h : mj_H} (C : SC h) {A : Nat} (hA : mj_K h A = (9, 7)) {L W : Nat → Nat} (hL : LB L W) (i1 : mj_I h A 1 = nI (zz L 0 0 0)) {a b c d e f : Nat} (hB : BX W a b c d e f) : mxc 1 45 [.ref A, .int (nI (zz L a c e)), .int (nI (zz L b d f)), .int (nI 1)] h (fun r h' => r = some (.int (nI (sx c d))) ∧ h' = h) := by
  unfold BX at hB
  have z0 := zz_ hL (t := 0) (p := 0) (l := 0) (by omega) (by omega) (by omega)
  have zx := zz_ hL (t := a) (p := c) (l := e) (by omega) (by omega) (by omega)
  have zy := zz_ hL (t := b) (p := d) (l := f) (by omega) (by omega) (by omega)
  have b0 := hL 0 (by decide)
  have b1 := hL 1 (by decide)
  have b2 := hL 2 (by decide)
  show mx 1 45 0 [.ref A, .int (nI (zz L a c e)), .int (nI (zz L b d f)), .int (nI 1), mj_unset] [] h _
  refine x_iload_n f_45_0 rfl ?_
  refine x_iload_n f_45_1 rfl ?_
  refine x_callSe f_45_2 (k_along C (z := (zz L b d f)) (a := 1) zy.1 (by decide)) (by omega) rfl rfl rfl (Nat.le_of_ble_eq_true rfl) rfl ?_
  refine x_aload_n f_45_5 rfl ?_
  refine x_getI f_45_6 hA (by decide) ?_
  refine x_topi (w := nI (zz L 0 0 0)) i1 ?_
  refine x_iload_n f_45_9 rfl ?_
  refine x_callSe f_45_10 (k_along C (z := (zz L 0 0 0)) (a := 1) z0.1 (by decide)) (by omega) rfl rfl rfl (Nat.le_of_ble_eq_true rfl) rfl ?_
  refine x_isubN f_45_13 (by omega) ?_
  refine x_istore (ls1 := [.ref A, .int (nI (zz L a c e)), .int (nI (zz L b d f)), .int (nI 1), .int (nI ((mm_pt (zz L b d f) 1) - (mm_pt (zz L 0 0 0) 1)))]) f_45_14 (Nat.le_of_ble_eq_true rfl) rfl ?_
  refine x_gets f_45_16 ?_
  refine x_iload f_45_19 rfl ?_
  refine x_iald (j := ((mm_pt (zz L b d f) 1) - (mm_pt (zz L 0 0 0) 1))) f_45_21 C.k4 (by omega) (by decide) ?_
  refine x_topi (w := nI (sB d)) (by rw [show (mm_pt (zz L b d f) 1) - (mm_pt (zz L 0 0 0) 1) = d by omega]; exact C.vB (by omega)) ?_
  refine x_iload_n f_45_22 rfl ?_
  refine x_iload_n f_45_23 rfl ?_
  refine x_callSe f_45_24 (k_along C (z := (zz L b d f)) (a := 1) zy.1 (by decide)) (by omega) rfl rfl rfl (Nat.le_of_ble_eq_true rfl) rfl ?_
  refine x_iaddN f_45_27 ?_
  refine x_iload_n f_45_28 rfl ?_
  refine x_iload_n f_45_29 rfl ?_
  refine x_callSe f_45_30 (k_along C (z := (zz L a c e)) (a := 1) zx.1 (by decide)) (by omega) rfl rfl rfl (Nat.le_of_ble_eq_true rfl) rfl ?_
  refine x_isubN f_45_33 (by omega) ?_
  refine x_retI f_45_34 rfl ?_
  exact ⟨by unfold sx; rw [show ((sB d) + (mm_pt (zz L b d f) 1)) - (mm_pt (zz L a c e) 1) = sB d + (d - c) by omega], rfl⟩
set_option maxRecDepth 20000 in
theorem k_stretchAt2 {h : mj_H} (C : SC h) {A : Nat} (hA : mj_K h A = (9, 7)) {L W : Nat → Nat} (hL : LB L W) (i1 : mj_I h A 1 = nI (zz L 0 0 0)) {a b c d e f : Nat} (hB : BX W a b c d e f) : mxc 1 45 [.ref A, .int (nI (zz L a c e)), .int (nI (zz L b d f)), .int (nI 2)] h (fun r h' => r = some (.int (nI (sx e f))) ∧ h' = h) := by
  unfold BX at hB
  have z0 := zz_ hL (t := 0) (p := 0) (l := 0) (by omega) (by omega) (by omega)
  have zx := zz_ hL (t := a) (p := c) (l := e) (by omega) (by omega) (by omega)
  have zy := zz_ hL (t := b) (p := d) (l := f) (by omega) (by omega) (by omega)
  have b0 := hL 0 (by decide)
  have b1 := hL 1 (by decide)
  have b2 := hL 2 (by decide)
  show mx 1 45 0 [.ref A, .int (nI (zz L a c e)), .int (nI (zz L b d f)), .int (nI 2), mj_unset] [] h _
  refine x_iload_n f_45_0 rfl ?_
  refine x_iload_n f_45_1 rfl ?_
  refine x_callSe f_45_2 (k_along C (z := (zz L b d f)) (a := 2) zy.1 (by decide)) (by omega) rfl rfl rfl (Nat.le_of_ble_eq_true rfl) rfl ?_
  refine x_aload_n f_45_5 rfl ?_
  refine x_getI f_45_6 hA (by decide) ?_
  refine x_topi (w := nI (zz L 0 0 0)) i1 ?_
  refine x_iload_n f_45_9 rfl ?_
  refine x_callSe f_45_10 (k_along C (z := (zz L 0 0 0)) (a := 2) z0.1 (by decide)) (by omega) rfl rfl rfl (Nat.le_of_ble_eq_true rfl) rfl ?_
  refine x_isubN f_45_13 (by omega) ?_
  refine x_istore (ls1 := [.ref A, .int (nI (zz L a c e)), .int (nI (zz L b d f)), .int (nI 2), .int (nI ((mm_pt (zz L b d f) 2) - (mm_pt (zz L 0 0 0) 2)))]) f_45_14 (Nat.le_of_ble_eq_true rfl) rfl ?_
  refine x_gets f_45_16 ?_
  refine x_iload f_45_19 rfl ?_
  refine x_iald (j := ((mm_pt (zz L b d f) 2) - (mm_pt (zz L 0 0 0) 2))) f_45_21 C.k4 (by omega) (by decide) ?_
  refine x_topi (w := nI (sB f)) (by rw [show (mm_pt (zz L b d f) 2) - (mm_pt (zz L 0 0 0) 2) = f by omega]; exact C.vB (by omega)) ?_
  refine x_iload_n f_45_22 rfl ?_
  refine x_iload_n f_45_23 rfl ?_
  refine x_callSe f_45_24 (k_along C (z := (zz L b d f)) (a := 2) zy.1 (by decide)) (by omega) rfl rfl rfl (Nat.le_of_ble_eq_true rfl) rfl ?_
  refine x_iaddN f_45_27 ?_
  refine x_iload_n f_45_28 rfl ?_
  refine x_iload_n f_45_29 rfl ?_
  refine x_callSe f_45_30 (k_along C (z := (zz L a c e)) (a := 2) zx.1 (by decide)) (by omega) rfl rfl rfl (Nat.le_of_ble_eq_true rfl) rfl ?_
  refine x_isubN f_45_33 (by omega) ?_
  refine x_retI f_45_34 rfl ?_
  exact ⟨by unfold sx; rw [show ((sB f) + (mm_pt (zz L b d f) 2)) - (mm_pt (zz L a c e) 2) = sB f + (f - e) by omega], rfl⟩
set_option maxRecDepth 20000 in
theorem k_cellAt {h : mj_H} (C : SC h) {A : Nat} (hA : mj_K h A = (9, 7)) {L W : Nat → Nat} (hL : LB L W) (i1 : mj_I h A 1 = nI (zz L 0 0 0)) {a b c d e f : Nat} (hB : BX W a b c d e f) : mxc 2 46 [.ref A, .int (nI (zz L a c e)), .int (nI (zz L b d f))] h (fun r h' => r = some (.int (nI (ix (sx a b) (sx c d) (sx e f)))) ∧ h' = h) := by
  show mx 2 46 0 [.ref A, .int (nI (zz L a c e)), .int (nI (zz L b d f))] [] h _
  refine x_aload_n f_46_0 rfl ?_
  refine x_iload_n f_46_1 rfl ?_
  refine x_iload_n f_46_2 rfl ?_
  refine x_iconst (v := nI 0) f_46_3 (by decide) ?_
  refine x_callSe f_46_4 (k_stretchAt0 C hA hL i1 hB) (by omega) rfl rfl rfl (Nat.le_of_ble_eq_true rfl) rfl ?_
  refine x_aload_n f_46_7 rfl ?_
  refine x_iload_n f_46_8 rfl ?_
  refine x_iload_n f_46_9 rfl ?_
  refine x_iconst (v := nI 1) f_46_10 (by decide) ?_
  refine x_callSe f_46_11 (k_stretchAt1 C hA hL i1 hB) (by omega) rfl rfl rfl (Nat.le_of_ble_eq_true rfl) rfl ?_
  refine x_aload_n f_46_14 rfl ?_
  refine x_iload_n f_46_15 rfl ?_
  refine x_iload_n f_46_16 rfl ?_
  refine x_iconst (v := nI 2) f_46_17 (by decide) ?_
  refine x_callSe f_46_18 (k_stretchAt2 C hA hL i1 hB) (by omega) rfl rfl rfl (Nat.le_of_ble_eq_true rfl) rfl ?_
  refine x_callSe f_46_21 (k_cellOf _ _ _ _) (by omega) rfl rfl rfl (Nat.le_of_ble_eq_true rfl) rfl ?_
  refine x_retI f_46_24 rfl ?_
  exact ⟨rfl, rfl⟩
theorem FD.box {f' : Nat → Int32} {G : Gd} {W : Nat → Nat} (hW : W 0 ≤ 5 ∧ W 1 ≤ 5 ∧ W 2 ≤ 5) (hD : FD f' G (sB (W 0 + 1)) (sB (W 1 + 1)) (sB (W 2 + 1)) (sB (W 0 + 1)) 0 0) {a b c d e f : Nat} (hB : BX W a b c d e f) : ix (sx a b) (sx c d) (sx e f) < 9261 ∧ f' (ix (sx a b) (sx c d) (sx e f)) = nI (enc (LV G a b c d e f)) := by
  unfold BX at hB
  have s1 := st_2 b (by omega) a (by omega)
  have s2 := st_2 d (by omega) c (by omega)
  have s3 := st_2 f (by omega) e (by omega)
  have r1 := st_4 (W 0 + 1) (by omega) b (by omega) a (by omega)
  have r2 := st_4 (W 1 + 1) (by omega) d (by omega) c (by omega)
  have r3 := st_4 (W 2 + 1) (by omega) f (by omega) e (by omega)
  refine ⟨by unfold ix sx; omega, ?_⟩
  have k := hD _ _ _ r1 r2 r3 (Or.inl r1)
  unfold Ok LSx at k
  rw [s1.2.1, s1.2.2, s2.2.1, s2.2.2, s3.2.1, s3.2.2, show b - (b - a) = a by omega, show d - (d - c) = c by omega, show f - (f - e) = e by omega] at k
  exact k
set_option maxRecDepth 20000 in
set_option maxHeartbeats 1000000 in
theorem krow_l {h : mj_H} {Pv X A Y : Nat} {G : Gd} {L W : Nat → Nat} (hL : LB L W) (h63P : 63 ≤ Pv) (h63X : 63 ≤ X) (h63A : 63 ≤ A) (h63Y : 63 ≤ Y) (hXY : X ≠ Y) (hAY : A ≠ Y) (hPv0 : mj_K h Pv = (5, 1)) (hPX0 : mj_R h Pv 0 = some X) (hX0 : mj_K h X = (12, 9261)) (hA0 : mj_K h A = (9, 7)) (i10 : mj_I h A 1 = nI (zz L 0 0 0)) (l : List Nat) (hY0 : mj_K h Y = (12, l.length)) (hl : l.length ≤ 500)
  (hD : FD (mj_I h X) G (sB (W 0 + 1)) (sB (W 1 + 1)) (sB (W 2 + 1)) (sB (W 0 + 1)) 0 0) {v3 : Value} :
  ∀ (n k : Nat) (g : mj_H) (r : List Bx6), k + n = l.length → SC g → Rw h g [17, 18, 19, Y] → WK g L W r → l.drop k = PFs G r → (∀ q, q < k → mj_I g Y q = nI (l.getD q 0)) → mx 3 41 49 [.ref Pv, .ref 17, .ref A, v3, .ref Y, .int (nI k)] [] g (fun r1 h' => r1 = some (.ref Y) ∧ Rw h h' [17, 18, 19, Y] ∧ SC h' ∧ ∀ q, q < l.length → mj_I h' Y q = nI (l.getD q 0)) := by
  have b0 := hL 0 (by decide)
  have b1 := hL 1 (by decide)
  have b2 := hL 2 (by decide)
  have hW5 : W 0 ≤ 5 ∧ W 1 ≤ 5 ∧ W 2 ≤ 5 := by omega
  have hXn : X ∉ [17, 18, 19, Y] := by simp; omega
  have hYw : Y ∉ [17, 18, 19] := by simp; omega
  intro n
  induction n with
  | zero =>
    intro k g r hk C hR hW hrest hpre
    have hY := (congrFun hR.2.2.1 Y).trans hY0
    refine x_iload f_41_49 rfl ?_
    refine x_aload f_41_51 rfl ?_
    refine x_alen f_41_53 hY (by decide) ?_
    refine x_icmpN_ge (t := 104) f_41_54 (by decide) (by omega) (by omega) (fun c_1 => ?_) (fun c_1 => by omega)
    refine x_aload f_41_104 rfl ?_
    refine x_retA f_41_106 rfl rfl ?_
    exact ⟨rfl, hR, C, fun q hq => hpre q (by omega)⟩
  | succ n ih =>
    intro k g r hk C hR hW hrest hpre
    have hPv := (congrFun hR.2.2.1 Pv).trans hPv0
    have hX := (congrFun hR.2.2.1 X).trans hX0
    have hA := (congrFun hR.2.2.1 A).trans hA0
    have hY := (congrFun hR.2.2.1 Y).trans hY0
    have hPX : mj_R g Pv 0 = some X := by rw [hR.2.2.2.2.1]; exact hPX0
    have i1 := (congrFun (hR.i (a := A) (by simp; omega)) 1).trans i10
    cases r with
    | nil =>
      have := congrArg List.length hrest
      rw [List.length_drop] at this
      have h0 : (PFs G []).length = 0 := rfl
      omega
    | cons B r =>
      obtain ⟨ba, bb, bc, bd, be, bf⟩ := B
      have hBB := hW.2.2.2.1
      unfold BX at hBB
      dsimp only at hBB
      refine x_iload f_41_49 rfl ?_
      refine x_aload f_41_51 rfl ?_
      refine x_alen f_41_53 hY (by decide) ?_
      refine x_icmpN_ge (t := 104) f_41_54 (by decide) (by omega) (by omega) (fun c_1 => by omega) (fun c_1 => ?_)
      refine x_aload_n f_41_57 rfl ?_
      refine x_callV f_41_58 (k_advance C (m := r.length) hW.1 (by have := hW.2.2.1; omega)) (by omega) C.k17 (by decide) rfl rfl (Nat.le_of_ble_eq_true rfl) rfl ?_
      rintro _ g1 ⟨rfl, hR1, e2, e3, e4⟩
      have C1 : SC g1 := hR1.sc C (by decide)
      have e3 : mj_I g1 17 3 = nI (zz L ba bc be) := e3.trans hW.2.1.1
      have e4 : mj_I g1 17 4 = nI (zz L bb bd bf) := e4.trans hW.2.1.2.1
      have hPv1 := (congrFun hR1.2.2.1 Pv).trans hPv
      have hX1 := (congrFun hR1.2.2.1 X).trans hX
      have hA1 := (congrFun hR1.2.2.1 A).trans hA
      have hY1 := (congrFun hR1.2.2.1 Y).trans hY
      have hPX1 : mj_R g1 Pv 0 = some X := by rw [hR1.2.2.2.2.1]; exact hPX
      have i11 := (congrFun (hR1.i (a := A) (by simp; omega)) 1).trans i1
      have hcb := hD.box hW5 hW.2.2.2.1
      have hcell := hcb.1
      have ec : mj_I g1 X (ix (sx ba bb) (sx bc bd) (sx be bf)) = nI (enc (LV G ba bb bc bd be bf)) := (congrFun ((hR1.i (a := X) (by simp; omega)).trans (hR.i hXn)) _).trans hcb.2
      have hlv2 := LV_32 G (a := ba) (b := bb) (c := bc) (d := bd) (e := be) (f := bf) (by omega) (by omega) (by omega) (by omega) (by omega) (by omega)
      have hlv1 := LV_216 G (a := ba) (b := bb) (c := bc) (d := bd) (e := be) (f := bf) (by omega) (by omega) (by omega) (by omega) (by omega) (by omega)
      have de : enc (LV G ba bb bc bd be bf) = 32 * (LV G ba bb bc bd be bf).1 + (LV G ba bb bc bd be bf).2 := rfl
      have hem : enc (LV G ba bb bc bd be bf) % 32 = (LV G ba bb bc bd be bf).2 := enc_mod (by omega)
      have hn31 : enc (LV G ba bb bc bd be bf) % 32 ≤ 31 := by omega
      have hhd : (LV G ba bb bc bd be bf).2 = l.getD k 0 := by
        have := hrest
        rw [PF_fl hW.2.2.2.1 hW5, List.drop_eq_getElem_cons (by omega)] at this
        rw [List.getD_eq_getElem?_getD, List.getElem?_eq_getElem (by omega)]
        exact (List.cons.inj this).1.symm
      refine x_ifN_eq (t := 104) f_41_61 (by decide) (by decide) (fun c_2 => by omega) (fun c_2 => ?_)
      refine x_aload f_41_64 rfl ?_
      refine x_iload f_41_66 rfl ?_
      refine x_aload_n f_41_68 rfl ?_
      refine x_getR f_41_69 hPv1 (by decide) hPX1 ?_
      refine x_aload_n f_41_72 rfl ?_
      refine x_aload_n f_41_73 rfl ?_
      refine x_getI f_41_74 C1.k17 (by decide) ?_
      refine x_topi (w := nI (zz L ba bc be)) e3 ?_
      refine x_aload_n f_41_77 rfl ?_
      refine x_getI f_41_78 C1.k17 (by decide) ?_
      refine x_topi (w := nI (zz L bb bd bf)) e4 ?_
      refine x_callSe f_41_81 (k_cellAt C1 hA1 hL i11 hW.2.2.2.1) (by omega) rfl rfl rfl (Nat.le_of_ble_eq_true rfl) rfl ?_
      refine x_iald (j := (ix (sx ba bb) (sx bc bd) (sx be bf))) f_41_84 hX1 hcell (by decide) ?_
      refine x_topi (w := nI (enc (LV G ba bb bc bd be bf))) ec ?_
      refine x_bipush (v := nI 32) f_41_85 (by decide) ?_
      refine x_iremN f_41_87 (by omega) (by decide) (by decide) ?_
      refine x_iast (j := k) f_41_88 hY1 (by omega) (by omega) (by omega) ?_
      have C2 : SC (mj_setI g1 Y k (nI (enc (LV G ba bb bc bd be bf) % 32))) := Rw.sc ((Rw.rf g1 [Y]).set (by simp)) C1 (by simp; omega)
      have e32 : mj_I (mj_setI g1 Y k (nI (enc (LV G ba bb bc bd be bf) % 32))) 17 3 = nI (zz L ba bc be) := (congrFun (mj_I_other (by omega)) 3).trans e3
      have e42 : mj_I (mj_setI g1 Y k (nI (enc (LV G ba bb bc bd be bf) % 32))) 17 4 = nI (zz L bb bd bf) := (congrFun (mj_I_other (by omega)) 4).trans e4
      have hW2 : WK (mj_setI g1 Y k (nI (enc (LV G ba bb bc bd be bf) % 32))) L W r := ⟨(congrFun (mj_I_other (by omega)) 2).trans e2, PL_i ((mj_I_other (by omega)).trans (hR1.i (by decide))) ((mj_I_other (by omega)).trans (hR1.i (by decide))) hW.2.1.2.2, hW.2.2.2.2⟩
      refine x_aload_n f_41_89 rfl ?_
      refine x_aload f_41_90 rfl ?_
      refine x_iload f_41_92 rfl ?_
      refine x_iald (j := k) f_41_94 hY1 (by omega) (by omega) ?_
      refine x_topi (w := nI ((enc (LV G ba bb bc bd be bf)) % 32)) (mj_I_at _ _ _ _) ?_
      refine x_callV f_41_95 (k_follow C2 hL hW.2.2.2.1 e32 e42 hW2 hW.2.2.1 (n := ((enc (LV G ba bb bc bd be bf)) % 32)) hn31) (by omega) C1.k17 (by decide) rfl rfl (Nat.le_of_ble_eq_true rfl) rfl ?_
      rintro _ g3 ⟨rfl, hR3, hW3⟩
      rw [hem] at hW3
      have C3 : SC g3 := hR3.sc C2 (by decide)
      refine x_iinc (v := nI (k + 1)) (ls1 := [.ref Pv, .ref 17, .ref A, v3, .ref Y, .int (nI (k + 1))]) f_41_98 rfl (by exact nI_add _ 1) rfl ?_
      refine x_goto (t := 49) f_41_101 (by decide) ?_
      refine ih (k + 1) g3 _ (by omega) C3 (((hR.trans (hR1.mono (by simp))).trans (((Rw.rf g1 [Y]).set (by simp)).mono (by simp))).trans (hR3.mono (by simp))) hW3 ?_ (fun q hq => ?_)
      · have := hrest
        rw [PF_fl hW.2.2.2.1 hW5] at this
        rw [List.drop_eq_getElem_cons (by omega)] at this
        exact (List.cons.inj this).2
      · rw [hR3.i hYw]
        by_cases e : q = k
        · rw [e]
          refine (mj_I_at _ _ _ _).trans ?_
          rw [enc_mod (by omega), hhd]
        · exact (mj_I_ne e).trans ((congrFun (hR1.i (by simp; omega)) q).trans (hpre q (by omega)))
