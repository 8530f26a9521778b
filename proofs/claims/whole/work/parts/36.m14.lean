theorem f_145_0 : mj_fetch 145 0 = some (.iload_n 1, 0, 0) := by decide +kernel
theorem f_145_1 : mj_fetch 145 1 = some (.iload_n 2, 0, 0) := by decide +kernel
theorem f_145_2 : mj_fetch 145 2 = some (.iload_n 3, 0, 0) := by decide +kernel
theorem f_145_3 : mj_fetch 145 3 = some (.iload 4, 0, 0) := by decide +kernel
theorem f_145_5 : mj_fetch 145 5 = some (.iload 5, 0, 0) := by decide +kernel
theorem f_145_7 : mj_fetch 145 7 = some (.iload 6, 0, 0) := by decide +kernel
theorem f_145_9 : mj_fetch 145 9 = some (.invokestatic 195, 139, 0) := by decide +kernel
theorem f_145_12 : mj_fetch 145 12 = some (.istore 7, 0, 0) := by decide +kernel
theorem f_145_14 : mj_fetch 145 14 = some (.aload_n 0, 0, 0) := by decide +kernel
theorem f_145_15 : mj_fetch 145 15 = some (.getfield 54, 11, 23) := by decide +kernel
theorem f_145_18 : mj_fetch 145 18 = some (.iload 7, 0, 0) := by decide +kernel
theorem f_145_20 : mj_fetch 145 20 = some (.iaload, 0, 0) := by decide +kernel
theorem f_145_21 : mj_fetch 145 21 = some (.ifCond .le 11, 0, 0) := by decide +kernel
theorem f_145_24 : mj_fetch 145 24 = some (.aload_n 0, 0, 0) := by decide +kernel
theorem f_145_25 : mj_fetch 145 25 = some (.getfield 54, 11, 23) := by decide +kernel
theorem f_145_28 : mj_fetch 145 28 = some (.iload 7, 0, 0) := by decide +kernel
theorem f_145_30 : mj_fetch 145 30 = some (.iaload, 0, 0) := by decide +kernel
theorem f_145_31 : mj_fetch 145 31 = some (.ireturn, 0, 0) := by decide +kernel
theorem f_145_32 : mj_fetch 145 32 = some (.aload_n 0, 0, 0) := by decide +kernel
theorem f_145_33 : mj_fetch 145 33 = some (.iload_n 1, 0, 0) := by decide +kernel
theorem f_145_34 : mj_fetch 145 34 = some (.iload_n 2, 0, 0) := by decide +kernel
theorem f_145_35 : mj_fetch 145 35 = some (.iload_n 3, 0, 0) := by decide +kernel
theorem f_145_36 : mj_fetch 145 36 = some (.iload 4, 0, 0) := by decide +kernel
theorem f_145_38 : mj_fetch 145 38 = some (.iload 5, 0, 0) := by decide +kernel
theorem f_145_40 : mj_fetch 145 40 = some (.iload 6, 0, 0) := by decide +kernel
theorem f_145_42 : mj_fetch 145 42 = some (.invokevirtual 191, 141, 0) := by decide +kernel
theorem f_145_45 : mj_fetch 145 45 = some (.istore 8, 0, 0) := by decide +kernel
theorem f_145_47 : mj_fetch 145 47 = some (.iload 8, 0, 0) := by decide +kernel
theorem f_145_49 : mj_fetch 145 49 = some (.ifCond .eq 20, 0, 0) := by decide +kernel
theorem f_145_52 : mj_fetch 145 52 = some (.iload 8, 0, 0) := by decide +kernel
theorem f_145_54 : mj_fetch 145 54 = some (.iload_n 1, 0, 0) := by decide +kernel
theorem f_145_55 : mj_fetch 145 55 = some (.iload_n 2, 0, 0) := by decide +kernel
theorem f_145_56 : mj_fetch 145 56 = some (.iload_n 3, 0, 0) := by decide +kernel
theorem f_145_57 : mj_fetch 145 57 = some (.iload 4, 0, 0) := by decide +kernel
theorem f_145_59 : mj_fetch 145 59 = some (.iload 5, 0, 0) := by decide +kernel
theorem f_145_61 : mj_fetch 145 61 = some (.iload 6, 0, 0) := by decide +kernel
theorem f_145_63 : mj_fetch 145 63 = some (.invokestatic 198, 142, 0) := by decide +kernel
theorem f_145_66 : mj_fetch 145 66 = some (.if_icmp .ne 30, 0, 0) := by decide +kernel
theorem f_145_69 : mj_fetch 145 69 = some (.aload_n 0, 0, 0) := by decide +kernel
theorem f_145_70 : mj_fetch 145 70 = some (.getfield 57, 11, 24) := by decide +kernel
theorem f_145_73 : mj_fetch 145 73 = some (.iload 7, 0, 0) := by decide +kernel
theorem f_145_75 : mj_fetch 145 75 = some (.iload 8, 0, 0) := by decide +kernel
theorem f_145_77 : mj_fetch 145 77 = some (.ifCond .ne 7, 0, 0) := by decide +kernel
theorem f_145_80 : mj_fetch 145 80 = some (.iconst 1, 0, 0) := by decide +kernel
theorem f_145_81 : mj_fetch 145 81 = some (.goto 4, 0, 0) := by decide +kernel
theorem f_145_84 : mj_fetch 145 84 = some (.iconst 0, 0, 0) := by decide +kernel
theorem f_145_85 : mj_fetch 145 85 = some (.iastore, 0, 0) := by decide +kernel
theorem f_145_86 : mj_fetch 145 86 = some (.aload_n 0, 0, 0) := by decide +kernel
theorem f_145_87 : mj_fetch 145 87 = some (.getfield 54, 11, 23) := by decide +kernel
theorem f_145_90 : mj_fetch 145 90 = some (.iload 7, 0, 0) := by decide +kernel
theorem f_145_92 : mj_fetch 145 92 = some (.iconst 1, 0, 0) := by decide +kernel
theorem f_145_93 : mj_fetch 145 93 = some (.iastore, 0, 0) := by decide +kernel
theorem f_145_94 : mj_fetch 145 94 = some (.iconst 1, 0, 0) := by decide +kernel
theorem f_145_95 : mj_fetch 145 95 = some (.ireturn, 0, 0) := by decide +kernel
theorem f_145_163 : mj_fetch 145 163 = some (.iload_n 3, 0, 0) := by decide +kernel
theorem f_145_164 : mj_fetch 145 164 = some (.istore 10, 0, 0) := by decide +kernel
theorem f_145_226 : mj_fetch 145 226 = some (.iload 5, 0, 0) := by decide +kernel
theorem f_145_228 : mj_fetch 145 228 = some (.istore 10, 0, 0) := by decide +kernel
theorem f_145_290 : mj_fetch 145 290 = some (.aload_n 0, 0, 0) := by decide +kernel
theorem f_145_291 : mj_fetch 145 291 = some (.getfield 54, 11, 23) := by decide +kernel
theorem f_145_294 : mj_fetch 145 294 = some (.iload 7, 0, 0) := by decide +kernel
theorem f_145_296 : mj_fetch 145 296 = some (.iload 9, 0, 0) := by decide +kernel
theorem f_145_298 : mj_fetch 145 298 = some (.iastore, 0, 0) := by decide +kernel
theorem f_145_299 : mj_fetch 145 299 = some (.iload 9, 0, 0) := by decide +kernel
theorem f_145_301 : mj_fetch 145 301 = some (.ireturn, 0, 0) := by decide +kernel
theorem f_145_96 : mj_fetch 145 96 = some (.sipush 1000, 0, 0) := by decide +kernel
theorem f_145_99 : mj_fetch 145 99 = some (.istore 9, 0, 0) := by decide +kernel
theorem f_145_101 : mj_fetch 145 101 = some (.iload_n 1, 0, 0) := by decide +kernel
theorem f_145_102 : mj_fetch 145 102 = some (.istore 10, 0, 0) := by decide +kernel
theorem gc_eq {h : mj_H} {w : Nat} {G : Gd} (hG : ∀ t p l, wg h w t p l = G t p l) (a b c d e f : Nat) : gc h w a b c d e f = gcN G a b c d e f := by
  unfold gc gcN g1
  simp only [hG]
theorem sz_eq {a b c d e f : Nat} (h1 : a ≤ b) (h2 : c ≤ d) (h3 : e ≤ f) : (nI b - nI a + nI 1) * (nI d - nI c + nI 1) * (nI f - nI e + nI 1) = nI (szN a b c d e f) := by
  rw [pk_sub h1, pk_sub h2, pk_sub h3, nI_add, nI_add, nI_add, pk_mul, pk_mul]
  unfold szN
  rw [show b - a + 1 = b + 1 - a by omega, show d - c + 1 = d + 1 - c by omega, show f - e + 1 = f + 1 - e by omega]
theorem MO.put48 {g : mj_H} {G : Gd} {W : Nat → Nat} (o : MO g G W) (hW5 : W 0 ≤ 5 ∧ W 1 ≤ 5 ∧ W 2 ≤ 5) {a b c d e f : Nat} (hd : a ≤ 5 ∧ b ≤ 5 ∧ c ≤ 5 ∧ d ≤ 5 ∧ e ≤ 5 ∧ f ≤ 5) (h49 : mj_I g 49 (bx a b c d e f) = nI (LV G a b c d e f).2) : MO (mj_setI g 48 (bx a b c d e f) (nI (LV G a b c d e f).1)) G W := by
  intro a1 b1 c1 d1 e1 f1 hB
  have e49 : mj_I (mj_setI g 48 (bx a b c d e f) (nI (LV G a b c d e f).1)) 49 = mj_I g 49 := mj_I_other (by decide)
  rw [e49]
  by_cases hq : bx a1 b1 c1 d1 e1 f1 = bx a b c d e f
  · obtain ⟨q1, q2, q3, q4, q5, q6⟩ := bx_inj (by unfold BX at hB; omega) hd hq
    subst q1; subst q2; subst q3; subst q4; subst q5; subst q6
    right
    exact ⟨mj_I_at _ _ _ _, h49⟩
  · rw [mj_I_ne hq]
    exact o a1 b1 c1 d1 e1 f1 hB
theorem MC.put_u {g : mj_H} {G : Gd} {W : Nat → Nat} (o : MC g G W) (hW5 : W 0 ≤ 5 ∧ W 1 ≤ 5 ∧ W 2 ≤ 5) {a b c d e f : Nat} (hd : a ≤ 5 ∧ b ≤ 5 ∧ c ≤ 5 ∧ d ≤ 5 ∧ e ≤ 5 ∧ f ≤ 5) {x : Int32} (hx : ¬ x = 0) (hu : NU G a b c d e f → (∀ i, a ≤ i → i < b → ST g a i c d e f ∧ ST g (i + 1) b c d e f) ∧ (∀ i, c ≤ i → i < d → ST g a b c i e f ∧ ST g a b (i + 1) d e f) ∧ ∀ i, e ≤ i → i < f → ST g a b c d e i ∧ ST g a b c d (i + 1) f) : MC (mj_setI g 48 (bx a b c d e f) x) G W := by
  have up : ∀ {a1 b1 c1 d1 e1 f1 : Nat}, ST g a1 b1 c1 d1 e1 f1 → ST (mj_setI g 48 (bx a b c d e f) x) a1 b1 c1 d1 e1 f1 := fun q => Mn.set hx _ q
  intro a1 b1 c1 d1 e1 f1 hB hS hN
  have key : (∀ i, a1 ≤ i → i < b1 → ST g a1 i c1 d1 e1 f1 ∧ ST g (i + 1) b1 c1 d1 e1 f1) ∧ (∀ i, c1 ≤ i → i < d1 → ST g a1 b1 c1 i e1 f1 ∧ ST g a1 b1 (i + 1) d1 e1 f1) ∧ ∀ i, e1 ≤ i → i < f1 → ST g a1 b1 c1 d1 e1 i ∧ ST g a1 b1 c1 d1 (i + 1) f1 := by
    by_cases hq : bx a1 b1 c1 d1 e1 f1 = bx a b c d e f
    · obtain ⟨q1, q2, q3, q4, q5, q6⟩ := bx_inj (by unfold BX at hB; omega) hd hq
      subst q1; subst q2; subst q3; subst q4; subst q5; subst q6
      exact hu hN
    · refine o a1 b1 c1 d1 e1 f1 hB ?_ hN
      unfold ST at hS ⊢
      rw [mj_I_ne hq] at hS
      exact hS
  exact ⟨fun i h1 h2 => ⟨up (key.1 i h1 h2).1, up (key.1 i h1 h2).2⟩, fun i h1 h2 => ⟨up (key.2.1 i h1 h2).1, up (key.2.1 i h1 h2).2⟩, fun i h1 h2 => ⟨up (key.2.2 i h1 h2).1, up (key.2.2 i h1 h2).2⟩⟩
theorem MO_MV {h g : mj_H} {jm : Nat} {G : Gd} {W : Nat → Nat} (a : MV h g jm) (o : MO h G W) : MO g G W := by
  have e48 : mj_I g 48 = mj_I h 48 := a.2.1.i (by decide)
  have e49 : mj_I g 49 = mj_I h 49 := a.2.1.i (by decide)
  unfold MO
  rw [e48, e49]
  exact o
theorem FRX_MV {h g : mj_H} {jm s : Nat} (a : MV h g jm) : FRX h g s := fun _ _ _ _ _ _ _ _ => ⟨congrFun (a.2.1.i (by decide)) _, congrFun (a.2.1.i (by decide)) _⟩

set_option maxRecDepth 20000 in
set_option maxHeartbeats 4000000 in
theorem leaves_0 {jm w : Nat} {G : Gd} {W : Nat → Nat} (hW5 : W 0 ≤ 5 ∧ W 1 ≤ 5 ∧ W 2 ≤ 5) : LvP jm w G W 0 := by
  intro a b c d e f h hB hsp hC
  have hd5 : a ≤ 5 ∧ b ≤ 5 ∧ c ≤ 5 ∧ d ≤ 5 ∧ e ≤ 5 ∧ f ≤ 5 := by unfold BX at hB; omega
  have hB : a ≤ b ∧ b ≤ W 0 ∧ c ≤ d ∧ d ≤ W 1 ∧ e ≤ f ∧ f ≤ W 2 := hB
  have S : SM h := hC.1.1
  have w0 := (hC.2.2.2.2.2.1 0 (by decide)).1
  have w1 := (hC.2.2.2.2.2.1 1 (by decide)).1
  have w2 := (hC.2.2.2.2.2.1 2 (by decide)).1
  have hbl := bx_lt hd5
  have hLp := LV_pos G a b c d e f
  have hLl := LV_216 G hB.1 hB.2.2.1 hB.2.2.2.2.1 (by omega) (by omega) (by omega)
  have hgl := gcN_le G (a := a) (b := b) (c := c) (d := d) (e := e) (f := f) (by omega) (by omega) (by omega)
  have hsl := sz_216 (a := a) (b := b) (c := c) (d := d) (e := e) (f := f) (by omega) (by omega) (by omega)
  show mx (7 + 0) 145 0 [.ref 33, .int (nI a), .int (nI b), .int (nI c), .int (nI d), .int (nI e), .int (nI f), mj_unset, mj_unset, mj_unset, mj_unset] [] h _
  rcases hC.2.2.2.2.2.2.1 a b c d e f hB with hm | hm
  · skip
    refine x_iload_n f_145_0 rfl ?_
    refine x_iload_n f_145_1 rfl ?_
    refine x_iload_n f_145_2 rfl ?_
    refine x_iload f_145_3 rfl ?_
    refine x_iload f_145_5 rfl ?_
    refine x_iload f_145_7 rfl ?_
    refine x_callSe f_145_9 (c_boxOf _ _ _ _ _ _ _) (by omega) rfl rfl rfl (Nat.le_of_ble_eq_true rfl) rfl ?_
    refine x_istore (ls1 := [.ref 33, .int (nI a), .int (nI b), .int (nI c), .int (nI d), .int (nI e), .int (nI f), .int (nI (bx a b c d e f)), mj_unset, mj_unset, mj_unset]) f_145_12 (Nat.le_of_ble_eq_true rfl) rfl ?_
    refine x_aload_n f_145_14 rfl ?_
    refine x_getR f_145_15 S.k33 (by decide) S.r23 ?_
    refine x_iload f_145_18 rfl ?_
    refine x_iald (j := (bx a b c d e f)) f_145_20 S.k48 (by omega) (by decide) ?_
    refine x_topi (w := nI 0) hm ?_
    refine x_ifN_le (t := 32) f_145_21 (by decide) (by decide) (fun c_1 => ?_) (fun c_1 => by omega)
    refine x_aload_n f_145_32 rfl ?_
    refine x_iload_n f_145_33 rfl ?_
    refine x_iload_n f_145_34 rfl ?_
    refine x_iload_n f_145_35 rfl ?_
    refine x_iload f_145_36 rfl ?_
    refine x_iload f_145_38 rfl ?_
    refine x_iload f_145_40 rfl ?_
    refine x_callV f_145_42 (c_goodIn hC.2.1 hC.2.2.1 hC.2.2.2.1 hC.1 (by omega) (by omega) (by omega) (by omega) (by omega) (by omega)) (by omega) S.k33 (by decide) rfl rfl (Nat.le_of_ble_eq_true rfl) rfl ?_
    rintro _ g ⟨rfl, hv⟩
    have hgc := gc_eq hC.2.2.2.2.1 a b c d e f
    have S : SM g := hv.1.1
    have hCg : CL g jm w G W := hC.to hv.1 (ME_MV hv) (MO_MV hv hC.2.2.2.2.2.2.1) (MC.eq (hv.2.1.i (by decide)) hC.2.2.2.2.2.2.2)
    refine x_topi (w := nI (gcN G a b c d e f)) (by rw [hgc]) ?_
    refine x_istore (ls1 := [.ref 33, .int (nI a), .int (nI b), .int (nI c), .int (nI d), .int (nI e), .int (nI f), .int (nI (bx a b c d e f)), .int (nI (gcN G a b c d e f)), mj_unset, mj_unset]) f_145_45 (Nat.le_of_ble_eq_true rfl) rfl ?_
    refine x_iload f_145_47 rfl ?_
    refine x_ifN_eq (t := 69) f_145_49 (by decide) (by omega) (fun c_0 => ?_) (fun c_0 => ?_)
    · refine x_aload_n f_145_69 rfl ?_
      refine x_getR f_145_70 S.k33 (by decide) S.r24 ?_
      refine x_iload f_145_73 rfl ?_
      refine x_iload f_145_75 rfl ?_
      refine x_ifN_ne (t := 84) f_145_77 (by decide) (by omega) (fun c_u => ?_) (fun c_u => ?_)
      · refine x_iconst (v := nI 0) f_145_84 (by decide) ?_
        refine x_iast (j := (bx a b c d e f)) f_145_85 S.k49 (by decide) (by omega) (by decide) ?_
        refine x_aload_n f_145_86 rfl ?_
        refine x_getR f_145_87 S.k33 (by decide) S.r23 ?_
        refine x_iload f_145_90 rfl ?_
        refine x_iconst (v := nI 1) f_145_92 (by decide) ?_
        refine x_iast (j := (bx a b c d e f)) f_145_93 S.k48 (by decide) (by omega) (by decide) ?_
        refine x_iconst (v := nI 1) f_145_94 (by decide) ?_
        refine x_retI f_145_95 rfl ?_
        exact absurd c_0 c_u
      · refine x_iconst (v := nI 1) f_145_80 (by decide) ?_
        refine x_goto (t := 85) f_145_81 (by decide) ?_
        refine x_iast (j := (bx a b c d e f)) f_145_85 S.k49 (by decide) (by omega) (by decide) ?_
        refine x_aload_n f_145_86 rfl ?_
        refine x_getR f_145_87 S.k33 (by decide) S.r23 ?_
        refine x_iload f_145_90 rfl ?_
        refine x_iconst (v := nI 1) f_145_92 (by decide) ?_
        refine x_iast (j := (bx a b c d e f)) f_145_93 S.k48 (by decide) (by omega) (by decide) ?_
        refine x_iconst (v := nI 1) f_145_94 (by decide) ?_
        refine x_retI f_145_95 rfl ?_
        have hL : LV G a b c d e f = (1, 1) := by
          rw [LV_eq G (by unfold spn; omega), if_pos c_0]
        have e49 : mj_I (mj_setI g 49 (bx a b c d e f) (nI 1)) 49 (bx a b c d e f) = nI (LV G a b c d e f).2 := by rw [hL]; exact mj_I_at _ _ _ _
        have e48 : mj_I g 48 (bx a b c d e f) = 0 := (congrFun (hv.2.1.i (by decide)) _).trans hm
        have hC2 := hCg.to (MW_o hCg.1 (by decide)) ((ME.rf g).set (Or.inr rfl)) (hCg.2.2.2.2.2.2.1.set49 (x := nI 1) e48) (MC.eq (mj_I_other (by decide)) hCg.2.2.2.2.2.2.2)
        have hC3 := hC2.to (MW_o hC2.1 (by decide)) ((ME.rf _).set (Or.inl rfl)) (hC2.2.2.2.2.2.2.1.put48 hW5 hd5 e49) (hC2.2.2.2.2.2.2.2.put_u hW5 hd5 (nI_ne0 (LV_pos G _ _ _ _ _ _) (by omega)) (fun q => absurd c_0 q.1))
        rw [hL] at hC3 e49 ⊢
        refine ⟨rfl, hC3, ((ME_MV hv).set (Or.inr rfl)).set (Or.inl rfl), mj_I_at _ _ _ _, (congrFun (mj_I_other (by decide)) _).trans e49, ((FRX_MV hv).set hd5 (Or.inr rfl)).set hd5 (Or.inl rfl), ((Mn.eq (hv.2.1.i (by decide))).trans (Mn.eq (mj_I_other (by decide)))).trans (Mn.set (by decide))⟩
    · refine x_iload f_145_52 rfl ?_
      refine x_iload_n f_145_54 rfl ?_
      refine x_iload_n f_145_55 rfl ?_
      refine x_iload_n f_145_56 rfl ?_
      refine x_iload f_145_57 rfl ?_
      refine x_iload f_145_59 rfl ?_
      refine x_iload f_145_61 rfl ?_
      refine x_callSe f_145_63 (c_sizeOf _ _ _ _ _ _ _) (by omega) rfl rfl rfl (Nat.le_of_ble_eq_true rfl) rfl ?_
      refine x_topi (w := nI (szN a b c d e f)) (sz_eq hB.1 hB.2.2.1 hB.2.2.2.2.1) ?_
      refine x_icmpN_ne (t := 96) f_145_66 (by decide) (by omega) (by omega) (fun c_z => ?_) (fun c_z => ?_)
      · have e1 : b = a := by unfold spn at hsp; omega
        have e2 : d = c := by unfold spn at hsp; omega
        have e3 : f = e := by unfold spn at hsp; omega
        subst e1
        subst e2
        subst e3
        exact absurd (gcN_one G b d f) (fun q => q.elim c_0 c_z)
      · refine x_aload_n f_145_69 rfl ?_
        refine x_getR f_145_70 S.k33 (by decide) S.r24 ?_
        refine x_iload f_145_73 rfl ?_
        refine x_iload f_145_75 rfl ?_
        refine x_ifN_ne (t := 84) f_145_77 (by decide) (by omega) (fun c_u => ?_) (fun c_u => ?_)
        · refine x_iconst (v := nI 0) f_145_84 (by decide) ?_
          refine x_iast (j := (bx a b c d e f)) f_145_85 S.k49 (by decide) (by omega) (by decide) ?_
          refine x_aload_n f_145_86 rfl ?_
          refine x_getR f_145_87 S.k33 (by decide) S.r23 ?_
          refine x_iload f_145_90 rfl ?_
          refine x_iconst (v := nI 1) f_145_92 (by decide) ?_
          refine x_iast (j := (bx a b c d e f)) f_145_93 S.k48 (by decide) (by omega) (by decide) ?_
          refine x_iconst (v := nI 1) f_145_94 (by decide) ?_
          refine x_retI f_145_95 rfl ?_
          have hL : LV G a b c d e f = (1, 0) := by
            rw [LV_eq G (by unfold spn; omega), if_neg c_0, if_pos c_z]
          have e49 : mj_I (mj_setI g 49 (bx a b c d e f) (nI 0)) 49 (bx a b c d e f) = nI (LV G a b c d e f).2 := by rw [hL]; exact mj_I_at _ _ _ _
          have e48 : mj_I g 48 (bx a b c d e f) = 0 := (congrFun (hv.2.1.i (by decide)) _).trans hm
          have hC2 := hCg.to (MW_o hCg.1 (by decide)) ((ME.rf g).set (Or.inr rfl)) (hCg.2.2.2.2.2.2.1.set49 (x := nI 0) e48) (MC.eq (mj_I_other (by decide)) hCg.2.2.2.2.2.2.2)
          have hC3 := hC2.to (MW_o hC2.1 (by decide)) ((ME.rf _).set (Or.inl rfl)) (hC2.2.2.2.2.2.2.1.put48 hW5 hd5 e49) (hC2.2.2.2.2.2.2.2.put_u hW5 hd5 (nI_ne0 (LV_pos G _ _ _ _ _ _) (by omega)) (fun q => absurd c_z q.2))
          rw [hL] at hC3 e49 ⊢
          refine ⟨rfl, hC3, ((ME_MV hv).set (Or.inr rfl)).set (Or.inl rfl), mj_I_at _ _ _ _, (congrFun (mj_I_other (by decide)) _).trans e49, ((FRX_MV hv).set hd5 (Or.inr rfl)).set hd5 (Or.inl rfl), ((Mn.eq (hv.2.1.i (by decide))).trans (Mn.eq (mj_I_other (by decide)))).trans (Mn.set (by decide))⟩
        · refine x_iconst (v := nI 1) f_145_80 (by decide) ?_
          refine x_goto (t := 85) f_145_81 (by decide) ?_
          refine x_iast (j := (bx a b c d e f)) f_145_85 S.k49 (by decide) (by omega) (by decide) ?_
          refine x_aload_n f_145_86 rfl ?_
          refine x_getR f_145_87 S.k33 (by decide) S.r23 ?_
          refine x_iload f_145_90 rfl ?_
          refine x_iconst (v := nI 1) f_145_92 (by decide) ?_
          refine x_iast (j := (bx a b c d e f)) f_145_93 S.k48 (by decide) (by omega) (by decide) ?_
          refine x_iconst (v := nI 1) f_145_94 (by decide) ?_
          refine x_retI f_145_95 rfl ?_
          exact absurd c_u c_0
  · skip
    refine x_iload_n f_145_0 rfl ?_
    refine x_iload_n f_145_1 rfl ?_
    refine x_iload_n f_145_2 rfl ?_
    refine x_iload f_145_3 rfl ?_
    refine x_iload f_145_5 rfl ?_
    refine x_iload f_145_7 rfl ?_
    refine x_callSe f_145_9 (c_boxOf _ _ _ _ _ _ _) (by omega) rfl rfl rfl (Nat.le_of_ble_eq_true rfl) rfl ?_
    refine x_istore (ls1 := [.ref 33, .int (nI a), .int (nI b), .int (nI c), .int (nI d), .int (nI e), .int (nI f), .int (nI (bx a b c d e f)), mj_unset, mj_unset, mj_unset]) f_145_12 (Nat.le_of_ble_eq_true rfl) rfl ?_
    refine x_aload_n f_145_14 rfl ?_
    refine x_getR f_145_15 S.k33 (by decide) S.r23 ?_
    refine x_iload f_145_18 rfl ?_
    refine x_iald (j := (bx a b c d e f)) f_145_20 S.k48 (by omega) (by decide) ?_
    refine x_topi (w := nI ((LV G a b c d e f).1)) hm.1 ?_
    refine x_ifN_le (t := 32) f_145_21 (by decide) (by omega) (fun c_1 => by omega) (fun c_1 => ?_)
    refine x_aload_n f_145_24 rfl ?_
    refine x_getR f_145_25 S.k33 (by decide) S.r23 ?_
    refine x_iload f_145_28 rfl ?_
    refine x_iald (j := (bx a b c d e f)) f_145_30 S.k48 (by omega) (by decide) ?_
    refine x_topi (w := nI ((LV G a b c d e f).1)) hm.1 ?_
    refine x_retI f_145_31 rfl ?_
    exact ⟨rfl, hC, ME.rf _, hm.1, hm.2, FRX.rf _ _, Mn.rf _⟩
set_option maxRecDepth 20000 in
set_option maxHeartbeats 4000000 in
theorem leaves_s {jm w s : Nat} {G : Gd} {W : Nat → Nat} (hW5 : W 0 ≤ 5 ∧ W 1 ≤ 5 ∧ W 2 ≤ 5) (IH : LvP jm w G W s) : LvP jm w G W (s + 1) := by
  intro a b c d e f h hB hsp hC
  have hd5 : a ≤ 5 ∧ b ≤ 5 ∧ c ≤ 5 ∧ d ≤ 5 ∧ e ≤ 5 ∧ f ≤ 5 := by unfold BX at hB; omega
  have hB : a ≤ b ∧ b ≤ W 0 ∧ c ≤ d ∧ d ≤ W 1 ∧ e ≤ f ∧ f ≤ W 2 := hB
  have S : SM h := hC.1.1
  have w0 := (hC.2.2.2.2.2.1 0 (by decide)).1
  have w1 := (hC.2.2.2.2.2.1 1 (by decide)).1
  have w2 := (hC.2.2.2.2.2.1 2 (by decide)).1
  have hbl := bx_lt hd5
  have hLp := LV_pos G a b c d e f
  have hLl := LV_216 G hB.1 hB.2.2.1 hB.2.2.2.2.1 (by omega) (by omega) (by omega)
  have hgl := gcN_le G (a := a) (b := b) (c := c) (d := d) (e := e) (f := f) (by omega) (by omega) (by omega)
  have hsl := sz_216 (a := a) (b := b) (c := c) (d := d) (e := e) (f := f) (by omega) (by omega) (by omega)
  show mx (7 + (s + 1)) 145 0 [.ref 33, .int (nI a), .int (nI b), .int (nI c), .int (nI d), .int (nI e), .int (nI f), mj_unset, mj_unset, mj_unset, mj_unset] [] h _
  rcases hC.2.2.2.2.2.2.1 a b c d e f hB with hm | hm
  · skip
    refine x_iload_n f_145_0 rfl ?_
    refine x_iload_n f_145_1 rfl ?_
    refine x_iload_n f_145_2 rfl ?_
    refine x_iload f_145_3 rfl ?_
    refine x_iload f_145_5 rfl ?_
    refine x_iload f_145_7 rfl ?_
    refine x_callSe f_145_9 (c_boxOf _ _ _ _ _ _ _) (by omega) rfl rfl rfl (Nat.le_of_ble_eq_true rfl) rfl ?_
    refine x_istore (ls1 := [.ref 33, .int (nI a), .int (nI b), .int (nI c), .int (nI d), .int (nI e), .int (nI f), .int (nI (bx a b c d e f)), mj_unset, mj_unset, mj_unset]) f_145_12 (Nat.le_of_ble_eq_true rfl) rfl ?_
    refine x_aload_n f_145_14 rfl ?_
    refine x_getR f_145_15 S.k33 (by decide) S.r23 ?_
    refine x_iload f_145_18 rfl ?_
    refine x_iald (j := (bx a b c d e f)) f_145_20 S.k48 (by omega) (by decide) ?_
    refine x_topi (w := nI 0) hm ?_
    refine x_ifN_le (t := 32) f_145_21 (by decide) (by decide) (fun c_1 => ?_) (fun c_1 => by omega)
    refine x_aload_n f_145_32 rfl ?_
    refine x_iload_n f_145_33 rfl ?_
    refine x_iload_n f_145_34 rfl ?_
    refine x_iload_n f_145_35 rfl ?_
    refine x_iload f_145_36 rfl ?_
    refine x_iload f_145_38 rfl ?_
    refine x_iload f_145_40 rfl ?_
    refine x_callV f_145_42 (c_goodIn hC.2.1 hC.2.2.1 hC.2.2.2.1 hC.1 (by omega) (by omega) (by omega) (by omega) (by omega) (by omega)) (by omega) S.k33 (by decide) rfl rfl (Nat.le_of_ble_eq_true rfl) rfl ?_
    rintro _ g ⟨rfl, hv⟩
    have hgc := gc_eq hC.2.2.2.2.1 a b c d e f
    have S : SM g := hv.1.1
    have hCg : CL g jm w G W := hC.to hv.1 (ME_MV hv) (MO_MV hv hC.2.2.2.2.2.2.1) (MC.eq (hv.2.1.i (by decide)) hC.2.2.2.2.2.2.2)
    refine x_topi (w := nI (gcN G a b c d e f)) (by rw [hgc]) ?_
    refine x_istore (ls1 := [.ref 33, .int (nI a), .int (nI b), .int (nI c), .int (nI d), .int (nI e), .int (nI f), .int (nI (bx a b c d e f)), .int (nI (gcN G a b c d e f)), mj_unset, mj_unset]) f_145_45 (Nat.le_of_ble_eq_true rfl) rfl ?_
    refine x_iload f_145_47 rfl ?_
    refine x_ifN_eq (t := 69) f_145_49 (by decide) (by omega) (fun c_0 => ?_) (fun c_0 => ?_)
    · refine x_aload_n f_145_69 rfl ?_
      refine x_getR f_145_70 S.k33 (by decide) S.r24 ?_
      refine x_iload f_145_73 rfl ?_
      refine x_iload f_145_75 rfl ?_
      refine x_ifN_ne (t := 84) f_145_77 (by decide) (by omega) (fun c_u => ?_) (fun c_u => ?_)
      · refine x_iconst (v := nI 0) f_145_84 (by decide) ?_
        refine x_iast (j := (bx a b c d e f)) f_145_85 S.k49 (by decide) (by omega) (by decide) ?_
        refine x_aload_n f_145_86 rfl ?_
        refine x_getR f_145_87 S.k33 (by decide) S.r23 ?_
        refine x_iload f_145_90 rfl ?_
        refine x_iconst (v := nI 1) f_145_92 (by decide) ?_
        refine x_iast (j := (bx a b c d e f)) f_145_93 S.k48 (by decide) (by omega) (by decide) ?_
        refine x_iconst (v := nI 1) f_145_94 (by decide) ?_
        refine x_retI f_145_95 rfl ?_
        exact absurd c_0 c_u
      · refine x_iconst (v := nI 1) f_145_80 (by decide) ?_
        refine x_goto (t := 85) f_145_81 (by decide) ?_
        refine x_iast (j := (bx a b c d e f)) f_145_85 S.k49 (by decide) (by omega) (by decide) ?_
        refine x_aload_n f_145_86 rfl ?_
        refine x_getR f_145_87 S.k33 (by decide) S.r23 ?_
        refine x_iload f_145_90 rfl ?_
        refine x_iconst (v := nI 1) f_145_92 (by decide) ?_
        refine x_iast (j := (bx a b c d e f)) f_145_93 S.k48 (by decide) (by omega) (by decide) ?_
        refine x_iconst (v := nI 1) f_145_94 (by decide) ?_
        refine x_retI f_145_95 rfl ?_
        have hL : LV G a b c d e f = (1, 1) := by
          rw [LV_eq G (by unfold spn; omega), if_pos c_0]
        have e49 : mj_I (mj_setI g 49 (bx a b c d e f) (nI 1)) 49 (bx a b c d e f) = nI (LV G a b c d e f).2 := by rw [hL]; exact mj_I_at _ _ _ _
        have e48 : mj_I g 48 (bx a b c d e f) = 0 := (congrFun (hv.2.1.i (by decide)) _).trans hm
        have hC2 := hCg.to (MW_o hCg.1 (by decide)) ((ME.rf g).set (Or.inr rfl)) (hCg.2.2.2.2.2.2.1.set49 (x := nI 1) e48) (MC.eq (mj_I_other (by decide)) hCg.2.2.2.2.2.2.2)
        have hC3 := hC2.to (MW_o hC2.1 (by decide)) ((ME.rf _).set (Or.inl rfl)) (hC2.2.2.2.2.2.2.1.put48 hW5 hd5 e49) (hC2.2.2.2.2.2.2.2.put_u hW5 hd5 (nI_ne0 (LV_pos G _ _ _ _ _ _) (by omega)) (fun q => absurd c_0 q.1))
        rw [hL] at hC3 e49 ⊢
        refine ⟨rfl, hC3, ((ME_MV hv).set (Or.inr rfl)).set (Or.inl rfl), mj_I_at _ _ _ _, (congrFun (mj_I_other (by decide)) _).trans e49, ((FRX_MV hv).set hd5 (Or.inr rfl)).set hd5 (Or.inl rfl), ((Mn.eq (hv.2.1.i (by decide))).trans (Mn.eq (mj_I_other (by decide)))).trans (Mn.set (by decide))⟩
    · refine x_iload f_145_52 rfl ?_
      refine x_iload_n f_145_54 rfl ?_
      refine x_iload_n f_145_55 rfl ?_
      refine x_iload_n f_145_56 rfl ?_
      refine x_iload f_145_57 rfl ?_
      refine x_iload f_145_59 rfl ?_
      refine x_iload f_145_61 rfl ?_
      refine x_callSe f_145_63 (c_sizeOf _ _ _ _ _ _ _) (by omega) rfl rfl rfl (Nat.le_of_ble_eq_true rfl) rfl ?_
      refine x_topi (w := nI (szN a b c d e f)) (sz_eq hB.1 hB.2.2.1 hB.2.2.2.2.1) ?_
      refine x_icmpN_ne (t := 96) f_145_66 (by decide) (by omega) (by omega) (fun c_z => ?_) (fun c_z => ?_)
      · refine x_sipush (v := nI 1000) f_145_96 (by decide) ?_
        refine x_istore (ls1 := [.ref 33, .int (nI a), .int (nI b), .int (nI c), .int (nI d), .int (nI e), .int (nI f), .int (nI (bx a b c d e f)), .int (nI (gcN G a b c d e f)), .int (nI 1000), mj_unset]) f_145_99 (Nat.le_of_ble_eq_true rfl) rfl ?_
        refine x_iload_n f_145_101 rfl ?_
        refine x_istore (ls1 := [.ref 33, .int (nI a), .int (nI b), .int (nI c), .int (nI d), .int (nI e), .int (nI f), .int (nI (bx a b c d e f)), .int (nI (gcN G a b c d e f)), .int (nI 1000), .int (nI a)]) f_145_102 (Nat.le_of_ble_eq_true rfl) rfl ?_
        have e48 : mj_I g 48 (bx a b c d e f) = 0 := (congrFun (hv.2.1.i (by decide)) _).trans hm
        obtain ⟨x0, hx0⟩ := nI_any (mj_I g 49 (bx a b c d e f))
        rw [show 7 + (s + 1) = 8 + s by omega]
        refine leaves_l0 IH hB hW5 hsp (b - a) a (1000, x0) g (by omega) (Nat.le_refl _) hCg (ME_MV hv) e48 hx0 (Nat.le_refl _) (FRX_MV hv) (Mn.rf g) (fun i q1 q2 => by omega) ?_
        intro g1 x1 hx1 hC1 hE1 k48 k49 kx hX1 hM1 hP1
        refine x_iload_n f_145_163 rfl ?_
        refine x_istore (ls1 := [.ref 33, .int (nI a), .int (nI b), .int (nI c), .int (nI d), .int (nI e), .int (nI f), .int (nI (bx a b c d e f)), .int (nI (gcN G a b c d e f)), .int (nI x1.1), .int (nI c)]) f_145_164 (Nat.le_of_ble_eq_true rfl) rfl ?_
        refine leaves_l1 IH hB hW5 hsp (d - c) c x1 g1 (by omega) (Nat.le_refl _) hC1 hE1 k48 k49 kx hX1 (Mn.rf g1) (fun i q1 q2 => by omega) ?_
        intro g2 x2 hx2 hC2 hE2 l48 l49 lx hX2 hM2 hP2
        refine x_iload f_145_226 rfl ?_
        refine x_istore (ls1 := [.ref 33, .int (nI a), .int (nI b), .int (nI c), .int (nI d), .int (nI e), .int (nI f), .int (nI (bx a b c d e f)), .int (nI (gcN G a b c d e f)), .int (nI x2.1), .int (nI e)]) f_145_228 (Nat.le_of_ble_eq_true rfl) rfl ?_
        refine leaves_l2 IH hB hW5 hsp (f - e) e x2 g2 (by omega) (Nat.le_refl _) hC2 hE2 l48 l49 lx hX2 (Mn.rf g2) (fun i q1 q2 => by omega) ?_
        intro g3 x3 hx3 hC3 hE3 m48 m49 mx3 hX3 hM3 hP3
        have hL : LV G a b c d e f = x3 := by
          rw [LV_fo3 G hB.1 hB.2.2.1 hB.2.2.2.2.1 (by omega) (by omega) (by omega) c_0 c_z x0, hx3, hx2, hx1]
          rfl
        have S : SM g3 := hC3.1.1
        refine x_aload_n f_145_290 rfl ?_
        refine x_getR f_145_291 S.k33 (by decide) S.r23 ?_
        refine x_iload f_145_294 rfl ?_
        refine x_iload f_145_296 rfl ?_
        refine x_iast (j := bx a b c d e f) f_145_298 S.k48 (by decide) (bx_lt hd5) (by decide) ?_
        refine x_iload f_145_299 rfl ?_
        refine x_retI f_145_301 rfl ?_
        rw [← hL] at m49 ⊢
        exact ⟨rfl, hC3.to (MW_o hC3.1 (by decide)) ((ME.rf _).set (Or.inl rfl)) (hC3.2.2.2.2.2.2.1.put48 hW5 hd5 m49) (hC3.2.2.2.2.2.2.2.put_u hW5 hd5 (nI_ne0 (LV_pos G _ _ _ _ _ _) (by omega)) (fun _ => ⟨fun i q1 q2 => ⟨hM3 _ (hM2 _ (hP1 i q1 q2).1), hM3 _ (hM2 _ (hP1 i q1 q2).2)⟩, fun i q1 q2 => ⟨hM3 _ (hP2 i q1 q2).1, hM3 _ (hP2 i q1 q2).2⟩, hP3⟩)), hE3.set (Or.inl rfl), mj_I_at _ _ _ _, (congrFun (mj_I_other (by decide)) _).trans m49, hX3.set hd5 (Or.inl rfl), ((((Mn.eq (hv.2.1.i (by decide))).trans hM1).trans hM2).trans hM3).trans (Mn.set (nI_ne0 (LV_pos G _ _ _ _ _ _) (by omega)))⟩
      · refine x_aload_n f_145_69 rfl ?_
        refine x_getR f_145_70 S.k33 (by decide) S.r24 ?_
        refine x_iload f_145_73 rfl ?_
        refine x_iload f_145_75 rfl ?_
        refine x_ifN_ne (t := 84) f_145_77 (by decide) (by omega) (fun c_u => ?_) (fun c_u => ?_)
        · refine x_iconst (v := nI 0) f_145_84 (by decide) ?_
          refine x_iast (j := (bx a b c d e f)) f_145_85 S.k49 (by decide) (by omega) (by decide) ?_
          refine x_aload_n f_145_86 rfl ?_
          refine x_getR f_145_87 S.k33 (by decide) S.r23 ?_
          refine x_iload f_145_90 rfl ?_
          refine x_iconst (v := nI 1) f_145_92 (by decide) ?_
          refine x_iast (j := (bx a b c d e f)) f_145_93 S.k48 (by decide) (by omega) (by decide) ?_
          refine x_iconst (v := nI 1) f_145_94 (by decide) ?_
          refine x_retI f_145_95 rfl ?_
          have hL : LV G a b c d e f = (1, 0) := by
            rw [LV_eq G (by unfold spn; omega), if_neg c_0, if_pos c_z]
          have e49 : mj_I (mj_setI g 49 (bx a b c d e f) (nI 0)) 49 (bx a b c d e f) = nI (LV G a b c d e f).2 := by rw [hL]; exact mj_I_at _ _ _ _
          have e48 : mj_I g 48 (bx a b c d e f) = 0 := (congrFun (hv.2.1.i (by decide)) _).trans hm
          have hC2 := hCg.to (MW_o hCg.1 (by decide)) ((ME.rf g).set (Or.inr rfl)) (hCg.2.2.2.2.2.2.1.set49 (x := nI 0) e48) (MC.eq (mj_I_other (by decide)) hCg.2.2.2.2.2.2.2)
          have hC3 := hC2.to (MW_o hC2.1 (by decide)) ((ME.rf _).set (Or.inl rfl)) (hC2.2.2.2.2.2.2.1.put48 hW5 hd5 e49) (hC2.2.2.2.2.2.2.2.put_u hW5 hd5 (nI_ne0 (LV_pos G _ _ _ _ _ _) (by omega)) (fun q => absurd c_z q.2))
          rw [hL] at hC3 e49 ⊢
          refine ⟨rfl, hC3, ((ME_MV hv).set (Or.inr rfl)).set (Or.inl rfl), mj_I_at _ _ _ _, (congrFun (mj_I_other (by decide)) _).trans e49, ((FRX_MV hv).set hd5 (Or.inr rfl)).set hd5 (Or.inl rfl), ((Mn.eq (hv.2.1.i (by decide))).trans (Mn.eq (mj_I_other (by decide)))).trans (Mn.set (by decide))⟩
        · refine x_iconst (v := nI 1) f_145_80 (by decide) ?_
          refine x_goto (t := 85) f_145_81 (by decide) ?_
          refine x_iast (j := (bx a b c d e f)) f_145_85 S.k49 (by decide) (by omega) (by decide) ?_
          refine x_aload_n f_145_86 rfl ?_
          refine x_getR f_145_87 S.k33 (by decide) S.r23 ?_
          refine x_iload f_145_90 rfl ?_
          refine x_iconst (v := nI 1) f_145_92 (by decide) ?_
          refine x_iast (j := (bx a b c d e f)) f_145_93 S.k48 (by decide) (by omega) (by decide) ?_
          refine x_iconst (v := nI 1) f_145_94 (by decide) ?_
          refine x_retI f_145_95 rfl ?_
          exact absurd c_u c_0
  · skip
    refine x_iload_n f_145_0 rfl ?_
    refine x_iload_n f_145_1 rfl ?_
    refine x_iload_n f_145_2 rfl ?_
    refine x_iload f_145_3 rfl ?_
    refine x_iload f_145_5 rfl ?_
    refine x_iload f_145_7 rfl ?_
    refine x_callSe f_145_9 (c_boxOf _ _ _ _ _ _ _) (by omega) rfl rfl rfl (Nat.le_of_ble_eq_true rfl) rfl ?_
    refine x_istore (ls1 := [.ref 33, .int (nI a), .int (nI b), .int (nI c), .int (nI d), .int (nI e), .int (nI f), .int (nI (bx a b c d e f)), mj_unset, mj_unset, mj_unset]) f_145_12 (Nat.le_of_ble_eq_true rfl) rfl ?_
    refine x_aload_n f_145_14 rfl ?_
    refine x_getR f_145_15 S.k33 (by decide) S.r23 ?_
    refine x_iload f_145_18 rfl ?_
    refine x_iald (j := (bx a b c d e f)) f_145_20 S.k48 (by omega) (by decide) ?_
    refine x_topi (w := nI ((LV G a b c d e f).1)) hm.1 ?_
    refine x_ifN_le (t := 32) f_145_21 (by decide) (by omega) (fun c_1 => by omega) (fun c_1 => ?_)
    refine x_aload_n f_145_24 rfl ?_
    refine x_getR f_145_25 S.k33 (by decide) S.r23 ?_
    refine x_iload f_145_28 rfl ?_
    refine x_iald (j := (bx a b c d e f)) f_145_30 S.k48 (by omega) (by decide) ?_
    refine x_topi (w := nI ((LV G a b c d e f).1)) hm.1 ?_
    refine x_retI f_145_31 rfl ?_
    exact ⟨rfl, hC, ME.rf _, hm.1, hm.2, FRX.rf _ _, Mn.rf _⟩
theorem leaves_all {jm w : Nat} {G : Gd} {W : Nat → Nat} (hW5 : W 0 ≤ 5 ∧ W 1 ≤ 5 ∧ W 2 ≤ 5) : ∀ s, LvP jm w G W s
  | 0 => leaves_0 hW5
  | s + 1 => leaves_s hW5 (leaves_all hW5 s)

