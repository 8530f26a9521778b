/-! THE LEAST ROW of a window: asked for -/
set_option maxRecDepth 20000 in
theorem k_pinit {h : mj_H} {A : Nat} (hA : mj_K h A = (5, 1)) (hl : A < h.1) : mxc 0 37 [.ref A] h (fun r h' => r = none ∧ h' = mj_setR (mj_new h 12 9261) A 0 (some h.1)) := by
  show mx 0 37 0 [.ref A] [] h _
  refine x_aload_n f_37_0 rfl ?_
  refine x_init f_37_1 (Nat.le_of_ble_eq_true rfl) ?_
  refine x_aload_n f_37_4 rfl ?_
  refine x_sipush (v := nI 9261) f_37_5 (by decide) ?_
  refine x_newa f_37_8 (by decide) ?_
  refine x_putR f_37_10 ((mj_K_new (by omega)).trans hA) (by decide) ?_
  refine x_retV f_37_13 rfl ?_
  exact ⟨rfl, rfl⟩
set_option maxRecDepth 20000 in
set_option maxHeartbeats 2000000 in
theorem k_leastRow {h : mj_H} {jm w : Nat} (c : CJ h jm) (hw : WC h w jm) (h63h : 63 ≤ h.1) (ro : RowOk h w) (pv : PV h) : mxc 5 104 [.ref 8, .ref (wA h w)] h (fun r h' => ∃ Y X, r = some (.ref Y) ∧ ((h.1 ≤ X ∨ mj_K h X = (12, 9261)) ∧ 63 ≤ X) ∧ LRq h h' jm w Y X 3 9800) := by
  have hwl := hw.1.2.2.2
  have h63 := hw.1.2.2.1
  have k83 : mj_K (mj_setR (mj_new (mj_new h 5 1) 12 9261) h.1 0 (some (mj_new h 5 1).1)) 8 = (10, 13) := by
    show mj_K (mj_new (mj_new h 5 1) 12 9261) 8 = _
    rw [mj_K_new (by show 8 ≠ h.1 + 1; omega), mj_K_new (by omega)]
    exact c.1.k8
  show mx 5 104 0 [.ref 8, .ref (wA h w), mj_unset] [] h _
  rcases ro with hn | ⟨Y, hr⟩
  · rcases pv with r88 | ⟨Pv, X, r88, pv⟩
    · skip
      refine x_aload_n f_104_0 rfl ?_
      refine x_getN f_104_1 hw.1.2.1 (by decide) hn.1 ?_
      refine x_astore_nN (ls1 := [.ref 8, .ref (wA h w), .null]) f_104_4 (Nat.le_of_ble_eq_true rfl) rfl ?_
      refine x_aload_nN f_104_5 rfl ?_
      refine x_ifnonnullN f_104_6 ?_
      refine x_aload_n f_104_9 rfl ?_
      refine x_getN f_104_10 c.1.k8 (by decide) r88 ?_
      refine x_ifnonnullN f_104_13 ?_
      refine x_aload_n f_104_16 rfl ?_
      refine x_new f_104_17 (by decide) rfl ?_
      refine x_dup f_104_20 rfl ?_
      refine x_callI f_104_21 (k_pinit (mj_K_newA h 5 1) (Nat.lt_succ_self _)) (by omega) rfl rfl rfl (Nat.le_of_ble_eq_true rfl) rfl ?_
      rintro _ _ ⟨rfl, rfl⟩
      refine x_putR f_104_24 k83 (by decide) ?_
      refine x_nameH (fun h3 eh3 => ?_)
      have l3 : h3.1 = h.1 + 2 := by rw [eh3]; rfl
      have s3 : h3.2.1 = h.2.1 + 1 + 9261 := by rw [eh3]; rfl
      have nw : Nw h h3 := by rw [eh3]; exact (((new_nw h 5 1).new 12 9261).setR (by simp)).setR (Or.inl rfl)
      have C3 : SC h3 := by rw [eh3]; exact SC_setR (SC_setRd (SC_new (SC_new c.1 h63h 5 1) (by show 63 ≤ h.1 + 1; omega) 12 9261) (by omega)) (by decide)
      have c3 : CJ h3 jm := CJ_nw c nw h63h C3
      have rw_ : ∀ a i, a < h.1 → a ≠ 8 → mj_R h3 a i = mj_R h a i := by
        intro a i ha h8
        rw [eh3, mj_R_other h8, mj_R_other (by omega), mj_R_new (by show a ≠ h.1 + 1; omega), mj_R_new (by omega)]
      have rA : wA h3 w = wA h w := by unfold wA; rw [rw_ 11 w (by omega) (by decide)]
      have jA3 : ∀ j, jA h3 j = jA h j := fun j => by unfold jA; rw [rw_ 10 j (by omega) (by decide)]
      have e36 := nw.2.2.1 36 (by omega)
      have e45 := nw.2.2.1 45 (by omega)
      have e46 := nw.2.2.1 46 (by omega)
      have e47 := nw.2.2.1 47 (by omega)
      have eAi := nw.2.2.1 (wA h w) hwl
      have hw3 : WC h3 w jm := WC_to hw nw.1 (rw_ 11 w (by omega) (by decide)) (nw.2.1 _ hwl) (rw_ _ 0 hwl (by omega)) (congrFun eAi 1) (congrFun eAi 2) jA3 e36 e45 e46 e47
      obtain ⟨ej, el, eW, eg⟩ := win_to e36 e45 e46 e47 w
      have ePW : PW h3 w = PW h w := by unfold PW; rw [eg, eW]
      have pv3 : PVd h3 h.1 (h.1 + 1) := by
        refine ⟨?_, ?_, ?_, h63h, by omega, by omega, by omega⟩
        · rw [eh3]
          show mj_K (mj_new (mj_new h 5 1) 12 9261) h.1 = _
          rw [mj_K_new (by show h.1 ≠ h.1 + 1; omega)]
          exact mj_K_newA h 5 1
        · rw [eh3, mj_R_other (by omega)]
          exact mj_R_at _ _ _ _
        · rw [eh3]
          exact mj_K_newA (mj_new h 5 1) 12 9261
      have r883 : mj_R h3 8 8 = some h.1 := by rw [eh3]; exact mj_R_at _ _ _ _
      rw [← rA]
      refine (kleast_27 c3 hw3 (by omega) r883 pv3 (by rw [rA, eAi]; exact hn.2.1) (by rw [rA, eAi]; exact hn.2.2.1) (by rw [rA, eAi]; exact hn.2.2.2) _).post ?_
      rintro _ g ⟨Y, rfl, q⟩
      unfold LRq RowD at q
      rw [rA, ePW, eg, el, eW] at q
      obtain ⟨q1, q2, q3, q4, q5, q6, q7⟩ := q
      refine ⟨Y, h.1 + 1, rfl, ⟨Or.inl (by omega), by omega⟩, q1, ?_, fun i h4 h5 h6 => (q3 i h4 h5 h6).trans (congrFun eAi i), by omega, by omega, q6, q7⟩
      refine EF.trans ⟨nw.1, nw.2.1, fun a ha _ => nw.2.2.1 a ha, fun a ha i hr => ?_, fun a _ ha => nw.2.2.2.1 a ha⟩ q2
      by_cases q8 : a = 8
      · subst q8
        have : ¬ i = 8 := fun z => hr (by rw [z]; simp)
        rw [eh3, mj_R_ne this, mj_R_other (by omega), mj_R_new (by show 8 ≠ h.1 + 1; omega), mj_R_new (by omega)]
      · exact rw_ a i ha q8
    · skip
      refine x_aload_n f_104_0 rfl ?_
      refine x_getN f_104_1 hw.1.2.1 (by decide) hn.1 ?_
      refine x_astore_nN (ls1 := [.ref 8, .ref (wA h w), .null]) f_104_4 (Nat.le_of_ble_eq_true rfl) rfl ?_
      refine x_aload_nN f_104_5 rfl ?_
      refine x_ifnonnullN f_104_6 ?_
      refine x_aload_n f_104_9 rfl ?_
      refine x_getR f_104_10 c.1.k8 (by decide) r88 ?_
      refine x_ifnonnull (t := 27) f_104_13 (by decide) ?_
      refine (kleast_27 c hw h63h r88 pv hn.2.1 hn.2.2.1 hn.2.2.2 _).post ?_
      rintro _ g ⟨Y, rfl, q⟩
      exact ⟨Y, X, rfl, ⟨Or.inr pv.2.2.1, pv.2.2.2.2.2.1⟩, q.1, q.2.1, q.2.2.1, by have := q.2.2.2.1; omega, by have := q.2.2.2.2.1; omega, q.2.2.2.2.2⟩
  · skip
    refine x_aload_n f_104_0 rfl ?_
    refine x_getR f_104_1 hw.1.2.1 (by decide) hr.1 ?_
    refine x_astore_n (ls1 := [.ref 8, .ref (wA h w), .ref Y]) f_104_4 (Nat.le_of_ble_eq_true rfl) rfl ?_
    refine x_aload_n f_104_5 rfl ?_
    refine x_ifnonnull (t := 65) f_104_6 (by decide) ?_
    refine x_aload_n f_104_65 rfl ?_
    refine x_retA f_104_66 rfl rfl ?_
    exact ⟨Y, h.1, rfl, ⟨Or.inl (Nat.le_refl _), h63h⟩, c, EF.rf _ _ _, fun _ _ _ _ => rfl, by omega, by omega, hr, pv⟩
