/-! instructions that read or write objects, write arrays, make cells -/
theorem mj_u_same {α : Type} {f : Nat → Nat → α} {a j : Nat} {x : α} : mj_u f a j x a = fun i => if i = j then x else f a i := by
  funext i; simp [mj_u]
theorem mj_u_other {α : Type} {f : Nat → Nat → α} {a j b : Nat} {x : α} (h : b ≠ a) : mj_u f a j x b = f b := by
  funext i; simp [mj_u, h]
section MJW
variable {G : mj_G} {p : Program} {l : Launch} {e : Env} {R : Room} {s : State} {m : MethodId} {args : Array Value} {below : List Frame} {meth : Method} {c : Code} {Q : State → Prop} {mid : Nat} {H : Heap} {locs : List Loc} {la : Array Slot} {cells slots pc : Nat} {h h' : mj_H} {r : List Value}
theorem mj_fs_at {B : Nat → Nat} {kd k j : Nat} (hj : j < mj_nf kd) : (mj_fs B h kd k)[j]? = some (mj_rl B (mj_fv h kd k j)) := by
  unfold mj_fs
  rw [List.getElem?_map, List.getElem?_range hj]
  rfl
theorem mj_q_get (cx : mj_Cx G mid p R s m args meth c) (hW : mj_WH G h H) {k kd j x : Nat} (hk : (mj_K h k).1 = kd) (h12 : kd < 12) (hj : j < mj_nf kd) (hok : (mj_hasF (mj_own mid) x kd j 0 || mj_hasF (mj_own mid) x kd j 1) = true) (hd : decode (mj_b mid) pc = .ok (.getfield x, 3))
    (kk : W p l e R s m args below meth c H locs cells slots Q (F0 m (pc + 3) la (mj_rl (mj_Bg G) (mj_fv h kd k j) :: r))) : W p l e R s m args below meth c H locs cells slots Q (F0 m pc la (.ref (mj_Bg G k) :: r)) := by
  obtain ⟨hx, hb, -, -, hown, hts, -, -, hT, hE, -, -⟩ := cx
  have h9 := (hW.obj hk h12).2.2
  rw [Bool.or_eq_true] at hok
  rcases hok with hok | hok
  · have hl := mj_fl_at hok
    simp only [mj_flok, if_true, Bool.and_eq_true, decide_eq_true_eq] at hl
    obtain ⟨⟨⟨hl, -⟩, -⟩, hC⟩ := hl
    exact va_get (D := mj_D G) (ci := kd) (C := (mj_kc kd).1) (T := (mj_kc kd).2.1) (N := (mj_kc kd).2.2) hx hb hts (mj_lay_in h12) hown hT.1 (mj_one h9) 0 rfl (mj_kc_at h12) j hj (hts _ (mj_in_tb hl)) (fun y hy => by rw [← hC]; exact hy) (mj_fs_at hj) hd kk
  · have hl := mj_fl_at hok
    simp only [mj_flok, Nat.succ_ne_self, if_false, Bool.and_eq_true, decide_eq_true_eq, show ¬ (1 = 0) by decide] at hl
    obtain ⟨⟨⟨hl, -⟩, -⟩, hC⟩ := hl
    exact va_getN (D := mj_D G) (ci := kd) (C := (mj_kc kd).1) (T := (mj_kc kd).2.1) (N := (mj_kc kd).2.2) hx hb hts (mj_lay_in h12) hown hT.1 (mj_one h9) 0 rfl (mj_kc_at h12) j hj (va_Nw.use rfl (hT.2.1 _ (mj_inN_n hl))) (fun y hy => by rw [← hC]; exact hy) (mj_fs_at hj) hd kk
/-- a field written -/
theorem mj_q_put (cx : mj_Cx G mid p R s m args meth c) (hW : mj_WH G h H) (hS : va_S (mj_A G) s.heap H locs) {k kd j x : Nat} {v : Value} (hk : (mj_K h k).1 = kd) (h12 : kd < 12) (hj : j < mj_nf kd) (hn : narrow (mj_ty kd j) v = v) (hfit : fits (mj_ty kd j) v = true)
    (hok : ((mj_hasF (mj_own mid) x kd j 0 && (!mj_fin kd j || ((mj_y mid).name == "<init>" && Nat.beq (mj_own mid) kd))) || (mj_hasF (mj_own mid) x kd j 1 && !mj_fin kd j)) = true) (hd : decode (mj_b mid) pc = .ok (.putfield x, 3))
    (e1 : h'.1 = h.1) (eK : mj_K h' = mj_K h) (eI : ∀ a, a ≠ k → mj_I h' a = mj_I h a) (eJ : ∀ a, a ≠ k → mj_J h' a = mj_J h a) (eR : ∀ a, a ≠ k → mj_R h' a = mj_R h a) (hv : ∀ i, mj_rl (mj_Bg G) (mj_fv h' kd k i) = if i = j then v else mj_rl (mj_Bg G) (mj_fv h kd k i))
    (kk : ∀ (H1 : Heap) (locs1 : List Loc), mj_WH G h' H1 → va_S (mj_A G) s.heap H1 locs1 → W p l e R s m args below meth c H1 locs1 cells slots Q (F0 m (pc + 3) la r)) : W p l e R s m args below meth c H locs cells slots Q (F0 m pc la (v :: .ref (mj_Bg G k) :: r)) := by
  obtain ⟨hx, hb, -, -, hown, hts, -, hnm, hT, hE, -, -⟩ := cx
  obtain ⟨h8, hlt, rr, h1, cell, q1, q2, q3, q4⟩ := hW.obj hk h12
  have hc := mj_kc_at h12
  have hr : rr = mj_kc kd := Option.some.inj (h1.symm.trans hc)
  subst hr
  have hap := va_apart (own := mj_cn (mj_own mid)) hts (mj_lay_in h12) (mj_ty kd) (mj_ty_ok h12) (mj_nm_ok h12) hT.1 hc
  obtain ⟨hSl, hfc, kC, hkC, hkind⟩ := hT.1.1 kd _ hc
  obtain ⟨cf, kf, fi, f, hi, hsl⟩ := hSl j hj
  have hst := (u_facts hfc hkC (u_lays hts (mj_lay_in h12) hj) hi).1
  have hlay := hts _ (mj_lay_in h12 _ (u_in_lay hj))
  have fin : ∀ H' : Heap, H'[mj_Bg G k]? = some (cell.setSlot f.slot v) → H'.size = H.size → (∀ q, q ≠ mj_Bg G k → H'[q]? = H[q]?) → W p l e R s m args below meth c H' (locs ++ [⟨mj_Bg G k, f.slot⟩]) cells slots Q (F0 m (pc + 3) la r) := by
    intro H' g1 g2 g3
    rw [hsl] at g1 ⊢
    refine kk H' _ (hW.upd h8 e1 eK eI eJ eR g2 g3 ?_) (hS.put g2 g3 (mj_A_of h8))
    have hcell : mj_cell (mj_cy G) (mj_Bg G) h' k = .inr (kd, mj_fs (mj_Bg G) h' kd k) := by
      unfold mj_cell
      rw [eK, if_pos (by omega), hk]
    rw [hcell]
    refine ⟨_, hc, t_OB.to (V := updV (vp_V (mj_fs (mj_Bg G) h kd k)) j v) ⟨_, g1, q2, q3, t_set q4 hap hj v⟩ (fun i hi2 => ?_)⟩
    have a1 : vp_V (mj_fs (mj_Bg G) h' kd k) i = mj_rl (mj_Bg G) (mj_fv h' kd k i) := by
      unfold vp_V
      rw [List.getD_eq_getElem?_getD, mj_fs_at hi2]; rfl
    have a2 : vp_V (mj_fs (mj_Bg G) h kd k) i = mj_rl (mj_Bg G) (mj_fv h kd k i) := by
      unfold vp_V
      rw [List.getD_eq_getElem?_getD, mj_fs_at hi2]; rfl
    rw [a1, hv]
    unfold updV
    rw [a2]
  rw [Bool.or_eq_true, Bool.and_eq_true, Bool.and_eq_true] at hok
  rcases hok with ⟨hok, hf⟩ | ⟨hok, hf⟩
  · have hl := mj_fl_at hok
    simp only [mj_flok, if_true, Bool.and_eq_true, decide_eq_true_eq] at hl
    obtain ⟨⟨⟨hl, -⟩, -⟩, hC⟩ := hl
    have hlink := hts _ (mj_in_tb hl)
    cases hfin : mj_fin kd j with
    | false =>
      unfold u_lay at hlay
      rw [if_neg (by show ¬ mj_fin kd j = true; rw [hfin]; decide)] at hlay
      have h6 := u_store hfc hkC hkind hlay hi (mj_ty_ok h12 j hj) hn hfit
      exact W.putK hx hb (f := f) ⟨hown, hlink, ⟨_, _, _, by rw [← hC]; exact hi⟩, hst⟩ (by rw [q2]; exact h6) q1 q3 (by rw [hsl]; exact k2_hasslot (q4 j hj)) rfl rfl hd fin
    | true =>
      rw [hfin] at hf
      simp only [Bool.not_true, Bool.false_or, Bool.and_eq_true, beq_iff_eq] at hf
      obtain ⟨hf1, hf2⟩ := hf
      unfold u_lay at hlay
      rw [if_pos (show ((mj_kc kd).2.1 j).2.2.2 = true from hfin)] at hlay
      have hcf : m.cls = cf := by
        obtain ⟨_, _, c', _, _, _, -, -, hf', -, -, -, hown2, -⟩ := Cond.laysFinal_spec hlay
        have g1 : c' = cf := by have := hi.symm.trans hf'; simp at this; exact this.1.symm
        rw [hC] at hown2
        have g2 : mj_cn (mj_own mid) = (mj_kc kd).1 := by
          rw [Nat.eq_of_beq_eq_true hf2]
          match kd, h12 with
          | 0, _ => rfl | 1, _ => rfl | 2, _ => rfl | 3, _ => rfl | 4, _ => rfl | 5, _ => rfl | 6, _ => rfl | 7, _ => rfl | 8, _ => rfl | 9, _ => rfl | 10, _ => rfl | 11, _ => rfl
          | n + 12, h => exact absurd h (by omega)
        rw [← g2] at hown2
        rw [← g1]; exact Option.some.inj (hown.symm.trans hown2)
      have h6 := u_fits hfc hkC hkind (Or.inr hlay) hi (mj_ty_ok h12 j hj) hn hfit
      exact W.putFinK hx hb hown hlink (by rw [← hC]; exact hi) hst hcf (by rw [hnm]; exact hf1) (by rw [q2]; exact h6) q1 q3 (by rw [hsl]; exact k2_hasslot (q4 j hj)) rfl rfl hd fin
  · have hl := mj_fl_at hok
    simp only [mj_flok, if_false, Bool.and_eq_true, decide_eq_true_eq, show ¬ (1 = 0) by decide] at hl
    obtain ⟨⟨⟨hl, -⟩, -⟩, hC⟩ := hl
    have hlink : (Cond.fieldLinkNest (mj_cn (mj_own mid)) x (mj_kc kd).1 ((mj_kc kd).2.1 j).2.1 ((mj_kc kd).2.1 j).2.2.1 RX10).before args s = true := va_Nw.use rfl (hT.2.1 _ (mj_inN_n hl))
    have hfin : mj_fin kd j = false := by simpa using hf
    unfold u_lay at hlay
    rw [if_neg (by show ¬ mj_fin kd j = true; rw [hfin]; decide)] at hlay
    have h6 := u_store hfc hkC hkind hlay hi (mj_ty_ok h12 j hj) hn hfit
    exact va_WputK hx hb (f := f) hown hlink (by rw [← hC]; exact hi) hst (by rw [q2]; exact h6) q1 q3 (by rw [hsl]; exact k2_hasslot (q4 j hj)) rfl rfl hd fin
theorem mj_q_iast (cx : mj_Cx G mid p R s m args meth c) (hW : mj_WH G h H) (hS : va_S (mj_A G) s.heap H locs) {k : Nat} {i x : Int32} (h8 : 8 ≤ k) (hk : (mj_K h k).1 = 12) (hi : mj_inb h k i = true) (hd : decode (mj_b mid) pc = .ok (.iastore, 1))
    (kk : ∀ (H1 : Heap) (locs1 : List Loc), mj_WH G (mj_setI h k i.toNatClampNeg x) H1 → va_S (mj_A G) s.heap H1 locs1 → W p l e R s m args below meth c H1 locs1 cells slots Q (F0 m (pc + 1) la r)) : W p l e R s m args below meth c H locs cells slots Q (F0 m pc la (.int x :: .int i :: .ref (mj_Bg G k) :: r)) := by
  obtain ⟨hx, hb, -, -, hown, hts, -, -, hT, hE, -, -⟩ := cx
  have h9 := (hW.arr h8 (by omega) (by omega)).2
  rw [mj_cell12 hk] at h9
  have hin := mj_inb_in hi
  refine W.iast hx hb h9 ((hT.1.2 0 _ rfl).1 _ (fun j => .int (mj_I h k j))) (fun q => by cases q) (by show ¬ (i < 0 ∨ (arrV _ _ _).slots.size ≤ _); rw [arrV_size]; exact hin) rfl rfl hd fun H1 e1 z oq => ?_
  refine kk H1 _ (hW.upd h8 rfl rfl (fun a ha => mj_u_other ha) (fun _ _ => rfl) (fun _ _ => rfl) z oq ?_) (hS.put z oq (mj_A_of h8))
  rw [mj_cell12 (h := mj_setI h k i.toNatClampNeg x) hk]
  show H1[mj_Bg G k]? = some (vp_cell _ _)
  rw [e1]
  show some ((vp_cell _ (_, .inl _)).setSlot _ _) = _
  rw [vp_cell_i, vp_cell_i, arrV_store]
  congr 2
  funext q
  show updV _ _ _ q = .int (mj_u (mj_I h) k i.toNatClampNeg x k q)
  rw [mj_u_same]
  by_cases hq : q = i.toNatClampNeg
  · simp [updV, hq]
  · simp [updV, hq]
theorem mj_q_zast (cx : mj_Cx G mid p R s m args meth c) (hW : mj_WH G h H) (hS : va_S (mj_A G) s.heap H locs) {k : Nat} {i x : Int32} (hk : (mj_K h k).1 = 14) (hx01 : x = 0 ∨ x = 1) (hi : mj_inb h k i = true) (hd : decode (mj_b mid) pc = .ok (.bastore, 1))
    (kk : ∀ (H1 : Heap) (locs1 : List Loc), mj_WH G (mj_setI h k i.toNatClampNeg x) H1 → va_S (mj_A G) s.heap H1 locs1 → W p l e R s m args below meth c H1 locs1 cells slots Q (F0 m (pc + 1) la r)) : W p l e R s m args below meth c H locs cells slots Q (F0 m pc la (.int x :: .int i :: .ref (mj_Bg G k) :: r)) := by
  obtain ⟨hx, hb, -, -, hown, hts, -, -, hT, hE, -, -⟩ := cx
  have h8 : 8 ≤ k := Nat.not_lt.mp fun q => by have := hW.low q; omega
  have h9 := (hW.arr h8 (by omega) (by omega)).2
  rw [mj_cell14 hk] at h9
  have hin := mj_inb_in hi
  have hnar : narrow .boolean (.int x) = .int x := by rcases hx01 with rfl | rfl <;> rfl
  refine W.zast hx hb h9 ((hT.1.2 2 _ rfl).1 _ (fun j => .int (mj_I h k j))) (fun q => by cases q) (by show ¬ (i < 0 ∨ (arrV _ _ _).slots.size ≤ _); rw [arrV_size]; exact hin) rfl rfl hd fun H1 e1 z oq => ?_
  refine kk H1 _ (hW.upd h8 rfl rfl (fun a ha => mj_u_other ha) (fun _ _ => rfl) (fun _ _ => rfl) z oq ?_) (hS.put z oq (mj_A_of h8))
  rw [mj_cell14 (h := mj_setI h k i.toNatClampNeg x) hk]
  show H1[mj_Bg G k]? = some (vp_cell _ _)
  rw [e1, hnar]
  show some ((vp_cell _ (_, .inl _)).setSlot _ _) = _
  rw [vp_cell_i, vp_cell_i, arrV_store]
  congr 2
  funext q
  show updV _ _ _ q = .int (mj_u (mj_I h) k i.toNatClampNeg x k q)
  rw [mj_u_same]
  by_cases hq : q = i.toNatClampNeg
  · simp [updV, hq]
  · simp [updV, hq]
theorem mj_q_last (cx : mj_Cx G mid p R s m args meth c) (hW : mj_WH G h H) (hS : va_S (mj_A G) s.heap H locs) {k : Nat} {i : Int32} {x : Int64} (hk : (mj_K h k).1 = 13) (hi : mj_inb h k i = true) (hd : decode (mj_b mid) pc = .ok (.lastore, 1))
    (kk : ∀ (H1 : Heap) (locs1 : List Loc), mj_WH G (mj_setJ h k i.toNatClampNeg x) H1 → va_S (mj_A G) s.heap H1 locs1 → W p l e R s m args below meth c H1 locs1 cells slots Q (F0 m (pc + 1) la r)) : W p l e R s m args below meth c H locs cells slots Q (F0 m pc la (.long x :: .int i :: .ref (mj_Bg G k) :: r)) := by
  obtain ⟨hx, hb, -, -, hown, hts, -, -, hT, hE, -, -⟩ := cx
  have h8 : 8 ≤ k := Nat.not_lt.mp fun q => by have := hW.low q; omega
  have h9 := (hW.arr h8 (by omega) (by omega)).2
  rw [mj_cell13 hk] at h9
  have hin := mj_inb_in hi
  refine W.last hx hb h9 ((hT.1.2 1 _ rfl).1 _ (fun j => .long (mj_J h k j))) (fun q => by cases q) (by show ¬ (i < 0 ∨ (arrV _ _ _).slots.size ≤ _); rw [arrV_size]; exact hin) rfl rfl hd fun H1 e1 z oq => ?_
  refine kk H1 _ (hW.upd h8 rfl rfl (fun _ _ => rfl) (fun a ha => mj_u_other ha) (fun _ _ => rfl) z oq ?_) (hS.put z oq (mj_A_of h8))
  rw [mj_cell13 (h := mj_setJ h k i.toNatClampNeg x) hk]
  show H1[mj_Bg G k]? = some (vp_cell _ _)
  rw [e1]
  show some ((vp_cell _ (_, .inr (.inl _))).setSlot _ _) = _
  rw [vp_cell_l, vp_cell_l, arrV_store]
  congr 2
  funext q
  show updV _ _ _ q = .long (mj_u (mj_J h) k i.toNatClampNeg x k q)
  rw [mj_u_same]
  by_cases hq : q = i.toNatClampNeg
  · simp [updV, hq]
  · simp [updV, hq]
theorem mj_q_rast (cx : mj_Cx G mid p R s m args meth c) (hW : mj_WH G h H) (hS : va_S (mj_A G) s.heap H locs) {k v : Nat} {i : Int32} (hk : 15 ≤ (mj_K h k).1) (hk2 : (mj_K h k).1 ≤ 18) (hv : (mj_K h v).1 = mj_elt (mj_K h k).1) (hi : mj_inb h k i = true) (hd : decode (mj_b mid) pc = .ok (.aastore, 1))
    (kk : ∀ (H1 : Heap) (locs1 : List Loc), mj_WH G (mj_setR h k i.toNatClampNeg (some v)) H1 → va_S (mj_A G) s.heap H1 locs1 → W p l e R s m args below meth c H1 locs1 cells slots Q (F0 m (pc + 1) la r)) : W p l e R s m args below meth c H locs cells slots Q (F0 m pc la (.ref (mj_Bg G v) :: .int i :: .ref (mj_Bg G k) :: r)) := by
  obtain ⟨hx, hb, -, -, hown, hts, -, -, hT, hE, -, -⟩ := cx
  have h8 : 8 ≤ k := Nat.not_lt.mp fun q => by have := hW.low q; omega
  have h9 := (hW.arr h8 (by omega) (by omega)).2
  rw [mj_cellR hk] at h9
  have hin := mj_inb_in hi
  have ht := mj_tys_at (cy := mj_cy G) hk hk2
  obtain ⟨-, -, rr, hr', cellV, g1, g2, g3, -⟩ := hW.obj hv ht.2
  have hc := mj_kc_at ht.2
  have hcls := (hT.1.1 _ _ hc).2
  obtain ⟨kA, comp, k1, k2, k3, -⟩ := (hT.1.2 _ _ ht.1).2
  have hcomp : comp = (mj_D G).1 (mj_elt (mj_K h k).1) := Option.some.inj (k3.symm.trans hcls.1)
  subst hcomp
  obtain ⟨kC, hkC, -⟩ := hcls.2
  refine W.aast hx hb h9 (fun q h => by cases h) (fun h => by cases h) k1 k2 rfl hkC ⟨fun q => hin (Or.inl q), by show _ < (arrV _ _ _).slots.size; rw [arrV_size]; exact Nat.not_le.mp fun q => hin (Or.inr q)⟩ g1 (fun q h => by rw [g3] at h; cases h) (by rw [g2]; exact hkC) (by rw [g2]; exact va_assign hcls) rfl rfl hd fun H1 e1 z oq => ?_
  refine kk H1 _ (hW.upd h8 rfl rfl (fun _ _ => rfl) (fun _ _ => rfl) (fun a ha => mj_u_other ha) z oq ?_) (hS.put z oq (mj_A_of h8))
  rw [mj_cellR (h := mj_setR h k i.toNatClampNeg (some v)) hk]
  show H1[mj_Bg G k]? = some (vp_cell _ _)
  rw [e1]
  show some ((vp_cell _ (_, .inr (.inr (.inr (.inr _))))).setSlot _ _) = _
  rw [vp_cell_q, vp_cell_q, arrV_store]
  congr 2
  funext q
  show updV _ _ _ q = va_rf ((mj_u (mj_R h) k i.toNatClampNeg (some v) k q).map (mj_Bg G))
  rw [mj_u_same]
  by_cases hq : q = i.toNatClampNeg
  · simp [updV, hq, va_rf]
  · simp [updV, hq]
/-- a new object -/
theorem mj_q_new (cx : mj_Cx G mid p R s m args meth c) (hW : mj_WH G h H) (hS : va_S (mj_A G) s.heap H locs) {kd x : Nat} (h12 : kd < 12) (hok : mj_hasC mj_cls (mj_own mid) x kd = true) (hc1 : cells + 1 ≤ R.cells) (hc2 : slots + mj_nf kd ≤ R.slots) (hd : decode (mj_b mid) pc = .ok (.new x, 3))
    (kk : ∀ (H1 : Heap), mj_WH G (mj_new h kd (mj_nf kd)) H1 → va_S (mj_A G) s.heap H1 locs → W p l e R s m args below meth c H1 locs (cells + 1) (slots + mj_nf kd) Q (F0 m (pc + 3) la (.ref (mj_Bg G h.1) :: r))) : W p l e R s m args below meth c H locs cells slots Q (F0 m pc la r) := by
  obtain ⟨hx, hb, -, -, hown, hts, -, -, hT, hE, -, -⟩ := cx
  have hok2 := List.all_eq_true.mp mj_cls_ok _ (mj_has_mem hok)
  simp only [mj_clok, h12, if_true, Bool.and_eq_true] at hok2
  obtain ⟨⟨o1, o2⟩, o3⟩ := hok2
  have hKn := hT.1.1 kd _ (mj_kc_at h12)
  have hbs : H.size = mj_Bg G h.1 := by rw [mj_Bg8 hW.2.2.1]; have := hW.2.1; have := hW.2.2.1; omega
  refine W.newcK hx hb hown (hts _ (mj_in_tb o1)) (hts _ (mj_in_tb o2)) (hts _ (mj_in_tb o3)) rfl hd hc1 hc2 hKn.2.1 hbs fun H1 kC hkC e1 z1 oq => ?_
  refine kk H1 (hW.grow (by rw [z1, hbs]) (fun q hq => oq q (by rw [← hbs]; exact hq)) (Or.inr ?_)) ⟨Nat.le_trans hS.1 (by rw [z1, hbs]; omega), fun q h1 h2 => (oq q (by rw [← hbs]; exact Nat.lt_of_lt_of_le h1 hS.1)).trans (hS.2.1 q h1 h2), hS.2.2⟩
  have hk1 : (mj_K (mj_new h kd (mj_nf kd)) h.1).1 = kd := by simp [mj_new, mj_K]
  have hcell : mj_cell (mj_cy G) (mj_Bg G) (mj_new h kd (mj_nf kd)) h.1 = .inr (kd, mj_fs (mj_Bg G) (mj_new h kd (mj_nf kd)) kd h.1) := by
    unfold mj_cell
    rw [if_pos (by rw [hk1]; exact h12), hk1]
  rw [hcell]
  refine ⟨_, mj_kc_at h12, (u_born (mj_ty kd) hts (mj_lay_in h12) hKn hkC e1 (mj_ty_ok h12)).to fun j hj => ?_⟩
  have a1 : vp_V (mj_fs (mj_Bg G) (mj_new h kd (mj_nf kd)) kd h.1) j = mj_rl (mj_Bg G) (mj_fv (mj_new h kd (mj_nf kd)) kd h.1 j) := by
    unfold vp_V
    rw [List.getD_eq_getElem?_getD, mj_fs_at hj]; rfl
  rw [a1, mj_dflt kd h12 j hj]
  unfold mj_fv
  cases mj_isR (mj_ty kd j) with
  | true => simp [mj_R, mj_new, va_rf, mj_rl]
  | false => simp [mj_I, mj_new, mj_rl]
end MJW
