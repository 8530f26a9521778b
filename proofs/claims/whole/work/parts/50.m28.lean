theorem f_172_0 : mj_fetch 172 0 = some (.aload_n 0, 0, 0) := by decide +kernel
theorem f_172_1 : mj_fetch 172 1 = some (.getfield 264, 11, 47) := by decide +kernel
theorem f_172_4 : mj_fetch 172 4 = some (.iconst (-1), 0, 0) := by decide +kernel
theorem f_172_5 : mj_fetch 172 5 = some (.if_icmp .eq 12, 0, 0) := by decide +kernel
theorem f_172_17 : mj_fetch 172 17 = some (.iload_n 1, 0, 0) := by decide +kernel
theorem f_172_18 : mj_fetch 172 18 = some (.aload_n 0, 0, 0) := by decide +kernel
theorem f_172_19 : mj_fetch 172 19 = some (.getfield 261, 11, 46) := by decide +kernel
theorem f_172_22 : mj_fetch 172 22 = some (.if_icmp .ne 41, 0, 0) := by decide +kernel
theorem f_172_25 : mj_fetch 172 25 = some (.aload_n 0, 0, 0) := by decide +kernel
theorem f_172_26 : mj_fetch 172 26 = some (.iload_n 3, 0, 0) := by decide +kernel
theorem f_172_27 : mj_fetch 172 27 = some (.putfield 264, 11, 47) := by decide +kernel
theorem f_172_30 : mj_fetch 172 30 = some (.iconst 0, 0, 0) := by decide +kernel
theorem f_172_31 : mj_fetch 172 31 = some (.istore 4, 0, 0) := by decide +kernel
theorem f_172_8 : mj_fetch 172 8 = some (.iload_n 3, 0, 0) := by decide +kernel
theorem f_172_9 : mj_fetch 172 9 = some (.aload_n 0, 0, 0) := by decide +kernel
theorem f_172_10 : mj_fetch 172 10 = some (.getfield 264, 11, 47) := by decide +kernel
theorem f_172_13 : mj_fetch 172 13 = some (.if_icmp .lt 4, 0, 0) := by decide +kernel
theorem f_172_16 : mj_fetch 172 16 = some (.return_, 0, 0) := by decide +kernel
theorem f_172_63 : mj_fetch 172 63 = some (.iconst 0, 0, 0) := by decide +kernel
theorem f_172_64 : mj_fetch 172 64 = some (.istore 4, 0, 0) := by decide +kernel
theorem f_173_35 : mj_fetch 173 35 = some (.iload_n 1, 0, 0) := by decide +kernel
theorem f_173_36 : mj_fetch 173 36 = some (.iconst (-1), 0, 0) := by decide +kernel
theorem f_173_37 : mj_fetch 173 37 = some (.if_icmp .ne 10, 0, 0) := by decide +kernel
theorem f_173_40 : mj_fetch 173 40 = some (.aload_n 0, 0, 0) := by decide +kernel
theorem f_173_41 : mj_fetch 173 41 = some (.getfield 264, 11, 47) := by decide +kernel
theorem f_173_44 : mj_fetch 173 44 = some (.goto 9, 0, 0) := by decide +kernel
theorem f_173_47 : mj_fetch 173 47 = some (.aload_n 0, 0, 0) := by decide +kernel
theorem f_173_48 : mj_fetch 173 48 = some (.getfield 93, 11, 45) := by decide +kernel
theorem f_173_51 : mj_fetch 173 51 = some (.iload_n 1, 0, 0) := by decide +kernel
theorem f_173_52 : mj_fetch 173 52 = some (.iaload, 0, 0) := by decide +kernel
theorem f_173_53 : mj_fetch 173 53 = some (.ireturn, 0, 0) := by decide +kernel
theorem f_173_0 : mj_fetch 173 0 = some (.iload_n 1, 0, 0) := by decide +kernel
theorem f_173_1 : mj_fetch 173 1 = some (.iconst (-1), 0, 0) := by decide +kernel
theorem f_173_2 : mj_fetch 173 2 = some (.aload_n 0, 0, 0) := by decide +kernel
theorem f_173_3 : mj_fetch 173 3 = some (.getfield 261, 11, 46) := by decide +kernel
theorem f_173_6 : mj_fetch 173 6 = some (.iconst 1, 0, 0) := by decide +kernel
theorem f_173_7 : mj_fetch 173 7 = some (.isub, 0, 0) := by decide +kernel
theorem f_173_8 : mj_fetch 173 8 = some (.invokestatic 100, 112, 0) := by decide +kernel
theorem f_173_11 : mj_fetch 173 11 = some (.ifCond .eq 10, 0, 0) := by decide +kernel
theorem f_173_14 : mj_fetch 173 14 = some (.aload_n 0, 0, 0) := by decide +kernel
theorem f_173_15 : mj_fetch 173 15 = some (.getfield 261, 11, 46) := by decide +kernel
theorem f_173_18 : mj_fetch 173 18 = some (.ifCond .ne 5, 0, 0) := by decide +kernel
theorem f_173_21 : mj_fetch 173 21 = some (.iconst (-1), 0, 0) := by decide +kernel
theorem f_173_22 : mj_fetch 173 22 = some (.ireturn, 0, 0) := by decide +kernel
theorem f_173_23 : mj_fetch 173 23 = some (.aload_n 0, 0, 0) := by decide +kernel
theorem f_173_24 : mj_fetch 173 24 = some (.iconst (-1), 0, 0) := by decide +kernel
theorem f_173_25 : mj_fetch 173 25 = some (.putfield 264, 11, 47) := by decide +kernel
theorem f_173_28 : mj_fetch 173 28 = some (.aload_n 0, 0, 0) := by decide +kernel
theorem f_173_29 : mj_fetch 173 29 = some (.iconst 0, 0, 0) := by decide +kernel
theorem f_173_30 : mj_fetch 173 30 = some (.iconst 0, 0, 0) := by decide +kernel
theorem f_173_31 : mj_fetch 173 31 = some (.iconst 0, 0, 0) := by decide +kernel
theorem f_173_32 : mj_fetch 173 32 = some (.invokevirtual 270, 172, 0) := by decide +kernel
set_option maxRecDepth 20000 in
set_option maxHeartbeats 4000000 in
theorem arr_0 {h : mj_H} {n : Nat} (hn : n ≤ 8) (e_n : mj_I h 33 46 = nI n) (hEI : ∀ a, a < n → EI h a) : ArP h n 0 := by
  intro p k m sum g best hk hsum hA hpr hnd hlt hM htr hS hbf
  subst hk
  have S := hA.1
  have e46 : mj_I g 33 46 = nI n := (hA.2.2 46 (by decide)).trans e_n
  have hc70 : ∀ a b, a < n → b < n → chg h a b ≤ 70 := fun a b ha hb => chg_le (hEI a ha) (hEI b hb)
  have hb70 := cst_bd hc70 p hlt
  have hpl : p.length ≤ 8 := by omega
  cases best with
  | none =>
    show mx (2 + 0) 172 0 [.ref 33, .int (nI p.length), .int (nI m), .int (nI sum), mj_unset] [] g _
    refine x_aload_n f_172_0 rfl ?_
    refine x_getI f_172_1 S.k33 (by decide) ?_
    refine x_topi (w := -1) hS ?_
    refine x_iconst (v := -1) f_172_4 (by decide) ?_
    refine x_icmp_eq (t := 17) f_172_5 (by decide) (fun c_1 => ?_) (fun c_1 => absurd rfl c_1)
    refine x_iload_n f_172_17 rfl ?_
    refine x_aload_n f_172_18 rfl ?_
    refine x_getI f_172_19 S.k33 (by decide) ?_
    refine x_topi (w := nI n) e46 ?_
    refine x_icmpN_ne (t := 63) f_172_22 (by decide) (by omega) (by omega) (fun c_1 => by omega) (fun c_1 => ?_)
    refine x_aload_n f_172_25 rfl ?_
    refine x_iload_n f_172_26 rfl ?_
    refine x_putI f_172_27 S.k33 (by decide) ?_
    refine x_iconst (v := nI 0) f_172_30 (by decide) ?_
    refine x_istore (ls1 := [.ref 33, .int (nI p.length), .int (nI m), .int (nI sum), .int (nI 0)]) f_172_31 (Nat.le_of_ble_eq_true rfl) rfl ?_
    refine arr_cp (h := h) (g0 := g) (p := p) (x := nI sum) hn e_n (by omega) ?_ n 0 _ (Nat.zero_add _) hA.set47 (fun q hq => (congrFun (mj_I_other (by decide)) q).trans (htr q hq)) (fun q => congrFun (mj_I_other (by decide)) q) (mj_I_at _ _ _ _) (fun q hq => absurd hq (Nat.not_lt_zero _))
    intro g2 hA2 h60 e47 h61
    refine ⟨rfl, hA2, fun q _ => h60 q, some p, ⟨by rw [e47, hsum], ⟨by omega, hnd, hlt⟩, h61⟩, fun l hl => ?_, fun l hl hp => ?_, fun b2 hb => ?_⟩
    · obtain ⟨b2, hb, hq⟩ := hl
      exact absurd hb (by simp)
    · rw [Pm_eq hl hp (by omega)]; exact ⟨p, rfl, Or.inr ⟨rfl, lx_rf p⟩⟩
    · cases hb; exact Or.inr (List.prefix_refl _)
  | some b =>
    have hbb := cst_bd hc70 b hS.2.1.2.2
    have hbl := hS.2.1.1
    show mx (2 + 0) 172 0 [.ref 33, .int (nI p.length), .int (nI m), .int (nI sum), mj_unset] [] g _
    refine x_aload_n f_172_0 rfl ?_
    refine x_getI f_172_1 S.k33 (by decide) ?_
    refine x_topi (w := nI (cst (chg h) b)) hS.1 ?_
    refine x_iconst (v := -1) f_172_4 (by decide) ?_
    refine x_icmp_eq (t := 17) f_172_5 (by decide) (fun c_1 => absurd c_1 (nI_ne_m1 (by omega))) (fun c_1 => ?_)
    refine x_iload_n f_172_8 rfl ?_
    refine x_aload_n f_172_9 rfl ?_
    refine x_getI f_172_10 S.k33 (by decide) ?_
    refine x_topi (w := nI (cst (chg h) b)) hS.1 ?_
    refine x_icmpN_lt (t := 17) f_172_13 (by decide) (by omega) (by omega) (fun c_lt => ?_) (fun c_lt => ?_)
    · refine x_iload_n f_172_17 rfl ?_
      refine x_aload_n f_172_18 rfl ?_
      refine x_getI f_172_19 S.k33 (by decide) ?_
      refine x_topi (w := nI n) e46 ?_
      refine x_icmpN_ne (t := 63) f_172_22 (by decide) (by omega) (by omega) (fun c_1 => by omega) (fun c_1 => ?_)
      refine x_aload_n f_172_25 rfl ?_
      refine x_iload_n f_172_26 rfl ?_
      refine x_putI f_172_27 S.k33 (by decide) ?_
      refine x_iconst (v := nI 0) f_172_30 (by decide) ?_
      refine x_istore (ls1 := [.ref 33, .int (nI p.length), .int (nI m), .int (nI sum), .int (nI 0)]) f_172_31 (Nat.le_of_ble_eq_true rfl) rfl ?_
      refine arr_cp (h := h) (g0 := g) (p := p) (x := nI sum) hn e_n (by omega) ?_ n 0 _ (Nat.zero_add _) hA.set47 (fun q hq => (congrFun (mj_I_other (by decide)) q).trans (htr q hq)) (fun q => congrFun (mj_I_other (by decide)) q) (mj_I_at _ _ _ _) (fun q hq => absurd hq (Nat.not_lt_zero _))
      intro g2 hA2 h60 e47 h61
      refine ⟨rfl, hA2, fun q _ => h60 q, some p, ⟨by rw [e47, hsum], ⟨by omega, hnd, hlt⟩, h61⟩, fun l hl => ?_, fun l hl hp => ?_, fun b2 hb => ?_⟩
      · obtain ⟨b2, hb, hq⟩ := hl
        cases hb
        exact ⟨p, rfl, Or.inl (by omega)⟩
      · rw [Pm_eq hl hp (by omega)]; exact ⟨p, rfl, Or.inr ⟨rfl, lx_rf p⟩⟩
      · cases hb; exact Or.inr (List.prefix_refl _)
    · refine x_retV f_172_16 rfl ?_
      refine ⟨rfl, hA, fun q _ => rfl, some b, hS, fun l q => q, fun l hl hp => ?_, fun b2 hb => Or.inl hb⟩
      obtain ⟨t, rfl⟩ := hp
      have c1 := cst_le (chg h) p t
      refine ⟨b, rfl, ?_⟩
      by_cases hc : cst (chg h) b < cst (chg h) (p ++ t)
      · exact Or.inl hc
      · exact Or.inr ⟨by omega, bf_lx (bf_app t (hbf b rfl))⟩
set_option maxRecDepth 20000 in
set_option maxHeartbeats 4000000 in
theorem arr_s {h : mj_H} {n r : Nat} (hn : n ≤ 8) (e_n : mj_I h 33 46 = nI n) (hEI : ∀ a, a < n → EI h a) (IH : ArP h n r) : ArP h n (r + 1) := by
  intro p k m sum g best hk hsum hA hpr hnd hlt hM htr hS hbf
  subst hk
  have S := hA.1
  have e46 : mj_I g 33 46 = nI n := (hA.2.2 46 (by decide)).trans e_n
  have hc70 : ∀ a b, a < n → b < n → chg h a b ≤ 70 := fun a b ha hb => chg_le (hEI a ha) (hEI b hb)
  have hb70 := cst_bd hc70 p hlt
  have hpl : p.length ≤ 8 := by omega
  cases best with
  | none =>
    show mx (2 + (r + 1)) 172 0 [.ref 33, .int (nI p.length), .int (nI m), .int (nI sum), mj_unset] [] g _
    refine x_aload_n f_172_0 rfl ?_
    refine x_getI f_172_1 S.k33 (by decide) ?_
    refine x_topi (w := -1) hS ?_
    refine x_iconst (v := -1) f_172_4 (by decide) ?_
    refine x_icmp_eq (t := 17) f_172_5 (by decide) (fun c_1 => ?_) (fun c_1 => absurd rfl c_1)
    refine x_iload_n f_172_17 rfl ?_
    refine x_aload_n f_172_18 rfl ?_
    refine x_getI f_172_19 S.k33 (by decide) ?_
    refine x_topi (w := nI n) e46 ?_
    refine x_icmpN_ne (t := 63) f_172_22 (by decide) (by omega) (by omega) (fun c_1 => ?_) (fun c_1 => by omega)
    refine x_iconst (v := nI 0) f_172_63 (by decide) ?_
    refine x_istore (ls1 := [.ref 33, .int (nI p.length), .int (nI m), .int (nI sum), .int (nI 0)]) f_172_64 (Nat.le_of_ble_eq_true rfl) rfl ?_
    exact arr_l IH hn e_n hEI hsum hpr hnd hlt hM n 0 g none (Nat.zero_add _) hA htr (fun _ _ => rfl) hS (fun b2 hb => Or.inl (hbf b2 hb)) (fun _ q => q) (fun l hl hq => by obtain ⟨i2, _, q1, _⟩ := hq; omega) (fun b2 hb => Or.inl hb)
  | some b =>
    have hbb := cst_bd hc70 b hS.2.1.2.2
    have hbl := hS.2.1.1
    show mx (2 + (r + 1)) 172 0 [.ref 33, .int (nI p.length), .int (nI m), .int (nI sum), mj_unset] [] g _
    refine x_aload_n f_172_0 rfl ?_
    refine x_getI f_172_1 S.k33 (by decide) ?_
    refine x_topi (w := nI (cst (chg h) b)) hS.1 ?_
    refine x_iconst (v := -1) f_172_4 (by decide) ?_
    refine x_icmp_eq (t := 17) f_172_5 (by decide) (fun c_1 => absurd c_1 (nI_ne_m1 (by omega))) (fun c_1 => ?_)
    refine x_iload_n f_172_8 rfl ?_
    refine x_aload_n f_172_9 rfl ?_
    refine x_getI f_172_10 S.k33 (by decide) ?_
    refine x_topi (w := nI (cst (chg h) b)) hS.1 ?_
    refine x_icmpN_lt (t := 17) f_172_13 (by decide) (by omega) (by omega) (fun c_lt => ?_) (fun c_lt => ?_)
    · refine x_iload_n f_172_17 rfl ?_
      refine x_aload_n f_172_18 rfl ?_
      refine x_getI f_172_19 S.k33 (by decide) ?_
      refine x_topi (w := nI n) e46 ?_
      refine x_icmpN_ne (t := 63) f_172_22 (by decide) (by omega) (by omega) (fun c_1 => ?_) (fun c_1 => by omega)
      refine x_iconst (v := nI 0) f_172_63 (by decide) ?_
      refine x_istore (ls1 := [.ref 33, .int (nI p.length), .int (nI m), .int (nI sum), .int (nI 0)]) f_172_64 (Nat.le_of_ble_eq_true rfl) rfl ?_
      exact arr_l IH hn e_n hEI hsum hpr hnd hlt hM n 0 g (some b) (Nat.zero_add _) hA htr (fun _ _ => rfl) hS (fun b2 hb => Or.inl (hbf b2 hb)) (fun _ q => q) (fun l hl hq => by obtain ⟨i2, _, q1, _⟩ := hq; omega) (fun b2 hb => Or.inl hb)
    · refine x_retV f_172_16 rfl ?_
      refine ⟨rfl, hA, fun q _ => rfl, some b, hS, fun l q => q, fun l hl hp => ?_, fun b2 hb => Or.inl hb⟩
      obtain ⟨t, rfl⟩ := hp
      have c1 := cst_le (chg h) p t
      refine ⟨b, rfl, ?_⟩
      by_cases hc : cst (chg h) b < cst (chg h) (p ++ t)
      · exact Or.inl hc
      · exact Or.inr ⟨by omega, bf_lx (bf_app t (hbf b rfl))⟩
theorem arr_all {h : mj_H} {n : Nat} (hn : n ≤ 8) (e_n : mj_I h 33 46 = nI n) (hEI : ∀ a, a < n → EI h a) : ∀ r, ArP h n r
  | 0 => arr_0 hn e_n hEI
  | r + 1 => arr_s hn e_n hEI (arr_all hn e_n hEI r)
theorem AE.sq {h g : mj_H} {jm : Nat} (hW : MW h jm) (a : AE h g) : SQ h g jm := ⟨MW_rw hW a.2.1 (by decide), a.2.1.mono (by decide), fun q hq => a.2.2 q (fun z => hq (by rw [z]; decide))⟩
theorem Mk_nil : Mk 0 [] := ⟨by decide, fun i _ => by simp⟩
/-- what is answered of an order -/
def osA (c : Nat → Nat → Nat) (b : List Nat) (i : Int32) : Int32 := if i = -1 then nI (cst c b) else nI (b.getD i.toNatClampNeg 0)

theorem hPex (n : Nat) : ∃ l, Pm n l := ⟨List.range n, List.length_range, List.nodup_range, fun x hx => List.mem_range.mp hx⟩
theorem ord_in {i : Int32} {n : Nat} (hn : n ≤ 8) (h1 : (-1 : Int32) ≤ i) (h2 : i ≤ nI n - nI 1) (h3 : ¬ i = -1) : mIn i n := by
  refine (mIn_iff (by omega)).mp ⟨?_, h2⟩
  rw [Int32.le_iff_toInt_le] at h1 ⊢
  rw [← Int32.toInt_inj] at h3
  have e1 : (-1 : Int32).toInt = -1 := rfl
  have e0 : (0 : Int32).toInt = 0 := rfl
  omega
set_option maxRecDepth 20000 in
set_option maxHeartbeats 4000000 in
theorem c_order {h : mj_H} {jm n : Nat} (hW : MW h jm) (hn : n ≤ 8) (e_n : mj_I h 33 46 = nI n) (hEI : ∀ a, a < n → EI h a) (i : Int32) : mxc 11 173 [.ref 33, .int i] h (fun r h' => if (-1 ≤ i ∧ i ≤ nI n - nI 1) ∧ ¬ n = 0 then ∃ b, OS (chg h) n b ∧ r = some (.int (osA (chg h) b i)) ∧ SQ h h' jm else r = some (.int (-1)) ∧ h' = h) := by
  have S : SM h := hW.1
  have hA0 : AE h (mj_setI h 33 47 (-1)) := ⟨S, (Rw.rf h _).set (by decide), fun q hq => mj_I_ne hq⟩
  show mx 11 173 0 [.ref 33, .int i] [] h _
  refine x_iload_n f_173_0 rfl ?_
  refine x_iconst (v := -1) f_173_1 (by decide) ?_
  refine x_aload_n f_173_2 rfl ?_
  refine x_getI f_173_3 S.k33 (by decide) ?_
  refine x_topi (w := nI n) e_n ?_
  refine x_iconst (v := nI 1) f_173_6 (by decide) ?_
  refine x_isub f_173_7 ?_
  refine x_callSe f_173_8 (c_in _ _ _ _) (by omega) rfl rfl rfl (Nat.le_of_ble_eq_true rfl) rfl ?_
  refine x_ifB_eq (t := 21) f_173_11 (by decide) (fun c_r => ?_) (fun c_r => ?_)
  · refine x_iconst (v := -1) f_173_21 (by decide) ?_
    refine x_retI f_173_22 rfl ?_
    exact mj_qF (fun q => c_r q.1) ⟨rfl, rfl⟩
  · refine x_aload_n f_173_14 rfl ?_
    refine x_getI f_173_15 S.k33 (by decide) ?_
    refine x_topi (w := nI n) e_n ?_
    refine x_ifN_ne (t := 23) f_173_18 (by decide) (by omega) (fun c_n => ?_) (fun c_n => ?_)
    · refine x_aload_n f_173_23 rfl ?_
      refine x_iconst (v := -1) f_173_24 (by decide) ?_
      refine x_putI f_173_25 S.k33 (by decide) ?_
      refine x_aload_n f_173_28 rfl ?_
      refine x_iconst (v := nI 0) f_173_29 (by decide) ?_
      refine x_iconst (v := nI 0) f_173_30 (by decide) ?_
      refine x_iconst (v := nI 0) f_173_31 (by decide) ?_
      refine x_callV f_173_32 (arr_all hn e_n hEI n [] 0 0 0 _ none rfl rfl hA0 (Nat.zero_add _) List.nodup_nil (fun x hx => absurd hx (by simp)) Mk_nil (fun q hq => absurd hq (Nat.not_lt_zero _)) (mj_I_at _ _ _ _) (fun b hb => absurd hb (by simp))) (by omega) S.k33 (by decide) rfl rfl (Nat.le_of_ble_eq_true rfl) rfl ?_
      rintro _ g ⟨rfl, hA, _, best, hS, _, cov, _⟩
      have S := hA.1
      cases best with
      | none => exact absurd (hPex n) (fun ⟨l, hl⟩ => by obtain ⟨b, hb, _⟩ := cov l hl (List.nil_prefix); exact absurd hb (by simp))
      | some b =>
        refine x_iload_n f_173_35 rfl ?_
        refine x_iconst (v := -1) f_173_36 (by decide) ?_
        refine x_icmp_ne (t := 47) f_173_37 (by decide) (fun c_i => ?_) (fun c_i => ?_)
        · obtain ⟨j, h_j, rfl⟩ := mIn_of (ord_in hn c_r.1 c_r.2 c_i) (by omega)
          refine x_aload_n f_173_47 rfl ?_
          refine x_getR f_173_48 S.k33 (by decide) S.r45 ?_
          refine x_iload_n f_173_51 rfl ?_
          refine x_iald (j := j) f_173_52 S.k61 (by omega) (by decide) ?_
          refine x_topi (w := nI (b.getD j 0)) (hS.2.2 j h_j) ?_
          refine x_retI f_173_53 rfl ?_
          refine mj_qT ⟨c_r, c_n⟩ ⟨b, ⟨hS.2.1, fun l hl => cov l hl (List.nil_prefix)⟩, ?_, AE.sq hW hA⟩
          unfold osA
          rw [if_neg c_i, nI_clamp (show j < 2 ^ 31 by omega)]
        · refine x_aload_n f_173_40 rfl ?_
          refine x_getI f_173_41 S.k33 (by decide) ?_
          refine x_topi (w := nI (cst (chg h) b)) hS.1 ?_
          refine x_goto (t := 53) f_173_44 (by decide) ?_
          refine x_retI f_173_53 rfl ?_
          refine mj_qT ⟨c_r, c_n⟩ ⟨b, ⟨hS.2.1, fun l hl => cov l hl (List.nil_prefix)⟩, ?_, AE.sq hW hA⟩
          unfold osA
          rw [if_pos c_i]
    · refine x_iconst (v := -1) f_173_21 (by decide) ?_
      refine x_retI f_173_22 rfl ?_
      exact mj_qF (fun q => q.2 c_n) ⟨rfl, rfl⟩
