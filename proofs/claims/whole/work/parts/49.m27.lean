theorem f_172_33 : mj_fetch 172 33 = some (.iload 4, 0, 0) := by decide +kernel
theorem f_172_35 : mj_fetch 172 35 = some (.aload_n 0, 0, 0) := by decide +kernel
theorem f_172_36 : mj_fetch 172 36 = some (.getfield 261, 11, 46) := by decide +kernel
theorem f_172_39 : mj_fetch 172 39 = some (.if_icmp .ge 23, 0, 0) := by decide +kernel
theorem f_172_42 : mj_fetch 172 42 = some (.aload_n 0, 0, 0) := by decide +kernel
theorem f_172_43 : mj_fetch 172 43 = some (.getfield 93, 11, 45) := by decide +kernel
theorem f_172_46 : mj_fetch 172 46 = some (.iload 4, 0, 0) := by decide +kernel
theorem f_172_48 : mj_fetch 172 48 = some (.aload_n 0, 0, 0) := by decide +kernel
theorem f_172_49 : mj_fetch 172 49 = some (.getfield 90, 11, 44) := by decide +kernel
theorem f_172_52 : mj_fetch 172 52 = some (.iload 4, 0, 0) := by decide +kernel
theorem f_172_54 : mj_fetch 172 54 = some (.iaload, 0, 0) := by decide +kernel
theorem f_172_55 : mj_fetch 172 55 = some (.iastore, 0, 0) := by decide +kernel
theorem f_172_56 : mj_fetch 172 56 = some (.iinc 4 1, 0, 0) := by decide +kernel
theorem f_172_59 : mj_fetch 172 59 = some (.goto (-26), 0, 0) := by decide +kernel
theorem f_172_62 : mj_fetch 172 62 = some (.return_, 0, 0) := by decide +kernel
theorem f_172_66 : mj_fetch 172 66 = some (.iload 4, 0, 0) := by decide +kernel
theorem f_172_68 : mj_fetch 172 68 = some (.aload_n 0, 0, 0) := by decide +kernel
theorem f_172_69 : mj_fetch 172 69 = some (.getfield 261, 11, 46) := by decide +kernel
theorem f_172_72 : mj_fetch 172 72 = some (.if_icmp .ge 63, 0, 0) := by decide +kernel
theorem f_172_75 : mj_fetch 172 75 = some (.iload_n 2, 0, 0) := by decide +kernel
theorem f_172_76 : mj_fetch 172 76 = some (.iload 4, 0, 0) := by decide +kernel
theorem f_172_78 : mj_fetch 172 78 = some (.ishr, 0, 0) := by decide +kernel
theorem f_172_79 : mj_fetch 172 79 = some (.iconst 1, 0, 0) := by decide +kernel
theorem f_172_80 : mj_fetch 172 80 = some (.iand, 0, 0) := by decide +kernel
theorem f_172_81 : mj_fetch 172 81 = some (.ifCond .ne 48, 0, 0) := by decide +kernel
theorem f_172_84 : mj_fetch 172 84 = some (.aload_n 0, 0, 0) := by decide +kernel
theorem f_172_85 : mj_fetch 172 85 = some (.getfield 90, 11, 44) := by decide +kernel
theorem f_172_88 : mj_fetch 172 88 = some (.iload_n 1, 0, 0) := by decide +kernel
theorem f_172_89 : mj_fetch 172 89 = some (.iload 4, 0, 0) := by decide +kernel
theorem f_172_91 : mj_fetch 172 91 = some (.iastore, 0, 0) := by decide +kernel
theorem f_172_92 : mj_fetch 172 92 = some (.aload_n 0, 0, 0) := by decide +kernel
theorem f_172_93 : mj_fetch 172 93 = some (.iload_n 1, 0, 0) := by decide +kernel
theorem f_172_94 : mj_fetch 172 94 = some (.iconst 1, 0, 0) := by decide +kernel
theorem f_172_95 : mj_fetch 172 95 = some (.iadd, 0, 0) := by decide +kernel
theorem f_172_96 : mj_fetch 172 96 = some (.iload_n 2, 0, 0) := by decide +kernel
theorem f_172_97 : mj_fetch 172 97 = some (.iconst 1, 0, 0) := by decide +kernel
theorem f_172_98 : mj_fetch 172 98 = some (.iload 4, 0, 0) := by decide +kernel
theorem f_172_100 : mj_fetch 172 100 = some (.ishl, 0, 0) := by decide +kernel
theorem f_172_101 : mj_fetch 172 101 = some (.ior, 0, 0) := by decide +kernel
theorem f_172_102 : mj_fetch 172 102 = some (.iload_n 3, 0, 0) := by decide +kernel
theorem f_172_103 : mj_fetch 172 103 = some (.iload_n 1, 0, 0) := by decide +kernel
theorem f_172_104 : mj_fetch 172 104 = some (.ifCond .ne 7, 0, 0) := by decide +kernel
theorem f_172_107 : mj_fetch 172 107 = some (.iconst 0, 0, 0) := by decide +kernel
theorem f_172_108 : mj_fetch 172 108 = some (.goto 17, 0, 0) := by decide +kernel
theorem f_172_111 : mj_fetch 172 111 = some (.aload_n 0, 0, 0) := by decide +kernel
theorem f_172_112 : mj_fetch 172 112 = some (.aload_n 0, 0, 0) := by decide +kernel
theorem f_172_113 : mj_fetch 172 113 = some (.getfield 90, 11, 44) := by decide +kernel
theorem f_172_116 : mj_fetch 172 116 = some (.iload_n 1, 0, 0) := by decide +kernel
theorem f_172_117 : mj_fetch 172 117 = some (.iconst 1, 0, 0) := by decide +kernel
theorem f_172_118 : mj_fetch 172 118 = some (.isub, 0, 0) := by decide +kernel
theorem f_172_119 : mj_fetch 172 119 = some (.iaload, 0, 0) := by decide +kernel
theorem f_172_120 : mj_fetch 172 120 = some (.iload 4, 0, 0) := by decide +kernel
theorem f_172_122 : mj_fetch 172 122 = some (.invokevirtual 267, 171, 0) := by decide +kernel
theorem f_172_125 : mj_fetch 172 125 = some (.iadd, 0, 0) := by decide +kernel
theorem f_172_126 : mj_fetch 172 126 = some (.invokevirtual 270, 172, 0) := by decide +kernel
theorem f_172_129 : mj_fetch 172 129 = some (.iinc 4 1, 0, 0) := by decide +kernel
theorem f_172_132 : mj_fetch 172 132 = some (.goto (-66), 0, 0) := by decide +kernel
theorem f_172_135 : mj_fetch 172 135 = some (.return_, 0, 0) := by decide +kernel
def AE (h g : mj_H) : Prop := SM g ∧ Rw h g [33, 60, 61] ∧ ∀ q, ¬ q = 47 → mj_I g 33 q = mj_I h 33 q
theorem AE.set {h g : mj_H} (a : AE h g) {b j : Nat} {x : Int32} (hb : b = 60 ∨ b = 61) : AE h (mj_setI g b j x) := by
  rcases hb with rfl | rfl
  · exact ⟨a.1, a.2.1.set (by decide), fun q hq => (congrFun (mj_I_other (by decide)) q).trans (a.2.2 q hq)⟩
  · exact ⟨a.1, a.2.1.set (by decide), fun q hq => (congrFun (mj_I_other (by decide)) q).trans (a.2.2 q hq)⟩
theorem AE.set47 {h g : mj_H} (a : AE h g) {x : Int32} : AE h (mj_setI g 33 47 x) := ⟨a.1, a.2.1.set (by decide), fun q hq => (mj_I_ne hq).trans (a.2.2 q hq)⟩
theorem EI_to {h g : mj_H} (e : mj_I g 59 = mj_I h 59) {a : Nat} (k : EI h a) : EI g a := by unfold EI es; rw [e]; exact k
theorem chg_to {h g : mj_H} (e8 : mj_I g 58 = mj_I h 58) (e9 : mj_I g 59 = mj_I h 59) (a b : Nat) : chg g a b = chg h a b := by unfold chg es; rw [e8, e9]
theorem c_changeA {h g : mj_H} (A : AE h g) {a b : Nat} (ha : a < 8) (hb : b < 8) (hA : EI h a) (hB : EI h b) : mxc 1 171 [.ref 33, .int (nI a), .int (nI b)] g (fun r h' => r = some (.int (nI (chg h a b))) ∧ h' = g) := by
  have e9 : mj_I g 59 = mj_I h 59 := A.2.1.i (by decide)
  have q := c_change A.1 ha hb (EI_to e9 hA) (EI_to e9 hB)
  rw [chg_to (A.2.1.i (by decide)) e9] at q
  exact q
def ArS (h g : mj_H) (n : Nat) : Option (List Nat) → Prop
  | none => mj_I g 33 47 = -1
  | some b => mj_I g 33 47 = nI (cst (chg h) b) ∧ Pm n b ∧ ∀ q, q < n → mj_I g 61 q = nI (b.getD q 0)
def Tr (g : mj_H) (p : List Nat) : Prop := ∀ q, q < p.length → mj_I g 60 q = nI (p.getD q 0)
/-- behind an arranging of all that begins with p -/
def ArQ (h g h' : mj_H) (n : Nat) (p : List Nat) (best : Option (List Nat)) : Prop := AE h h' ∧ (∀ q, q < p.length → mj_I h' 60 q = mj_I g 60 q) ∧ ∃ best', ArS h h' n best' ∧ (∀ l, Dq (chg h) best l → Dq (chg h) best' l) ∧ (∀ l, Pm n l → p <+: l → Dq (chg h) best' l) ∧ ∀ b, best' = some b → best = some b ∨ p <+: b
def ArP (h : mj_H) (n r : Nat) : Prop := ∀ (p : List Nat) (k m sum : Nat) (g : mj_H) (best : Option (List Nat)), k = p.length → sum = cst (chg h) p → AE h g → p.length + r = n → p.Nodup → (∀ x, x ∈ p → x < n) → Mk m p → Tr g p → ArS h g n best → (∀ b, best = some b → bf b p) →
  mxc (2 + r) 172 [.ref 33, .int (nI k), .int (nI m), .int (nI sum)] g (fun r h' => r = none ∧ ArQ h g h' n p best)
theorem getD_ap1 {p : List Nat} {i q : Nat} (hq : q < p.length) : (p ++ [i]).getD q 0 = p.getD q 0 := getD_apL hq
theorem getD_ap2 {p : List Nat} {i : Nat} : (p ++ [i]).getD p.length 0 = i := by
  rw [getD_apR (Nat.le_refl _), Nat.sub_self]
  rfl
theorem Tr.snoc {g : mj_H} {p : List Nat} {i : Nat} (t : Tr g p) : Tr (mj_setI g 60 p.length (nI i)) (p ++ [i]) := by
  intro q hq
  rw [List.length_append] at hq
  by_cases h : q = p.length
  · subst h; rw [mj_I_at, getD_ap2]
  · have hq2 : q < p.length := by simp only [List.length_cons, List.length_nil] at hq; omega
    rw [mj_I_ne h, t q hq2, getD_ap1 hq2]
theorem Pm_pre {n : Nat} {p l : List Nat} (hl : Pm n l) (hp : p <+: l) (hn : p.length < n) : ∃ i r, i < n ∧ l = p ++ i :: r ∧ i ∉ p := by
  obtain ⟨t, rfl⟩ := hp
  cases t with
  | nil => have := hl.1; simp at this; omega
  | cons i r =>
    refine ⟨i, r, hl.2.2 i (by simp), rfl, fun hi => ?_⟩
    have := (List.nodup_append.mp hl.2.1).2.2 i hi i (by simp)
    exact this rfl
theorem Pm_eq {n : Nat} {p l : List Nat} (hl : Pm n l) (hp : p <+: l) (hn : p.length = n) : l = p := (hp.eq_of_length (hn.trans hl.1.symm)).symm

set_option maxRecDepth 20000 in
theorem arr_cp {h g0 : mj_H} {n k m sum : Nat} {p : List Nat} {d : Nat} (hn : n ≤ 8) (e_n : mj_I h 33 46 = nI n) (hpn : p.length = n) {x : Int32} {Q : Option Value → mj_H → Prop} (K : ∀ g, AE h g → (∀ q, mj_I g 60 q = mj_I g0 60 q) → mj_I g 33 47 = x → (∀ q, q < n → mj_I g 61 q = nI (p.getD q 0)) → Q none g) :
    ∀ (c i : Nat) (g : mj_H), i + c = n → AE h g → Tr g p → (∀ q, mj_I g 60 q = mj_I g0 60 q) → mj_I g 33 47 = x → (∀ q, q < i → mj_I g 61 q = nI (p.getD q 0)) → mx d 172 33 [.ref 33, .int (nI k), .int (nI m), .int (nI sum), .int (nI i)] [] g Q := by
  intro c
  induction c with
  | zero =>
    intro i g hi hA htr h60 e47 h61
    have hii : i = n := by omega
    subst hii
    have S := hA.1
    have e46 : mj_I g 33 46 = nI i := (hA.2.2 46 (by decide)).trans e_n
    refine x_iload f_172_33 rfl ?_
    refine x_aload_n f_172_35 rfl ?_
    refine x_getI f_172_36 S.k33 (by decide) ?_
    refine x_topi (w := nI i) e46 ?_
    refine x_icmpN_ge (t := 62) f_172_39 (by decide) (by omega) (by omega) (fun c_1 => ?_) (fun c_1 => by omega)
    refine x_retV f_172_62 rfl ?_
    exact K g hA h60 e47 h61
  | succ c ih =>
    intro i g hi hA htr h60 e47 h61
    have S := hA.1
    have e46 : mj_I g 33 46 = nI n := (hA.2.2 46 (by decide)).trans e_n
    refine x_iload f_172_33 rfl ?_
    refine x_aload_n f_172_35 rfl ?_
    refine x_getI f_172_36 S.k33 (by decide) ?_
    refine x_topi (w := nI n) e46 ?_
    refine x_icmpN_ge (t := 62) f_172_39 (by decide) (by omega) (by omega) (fun c_1 => by omega) (fun c_1 => ?_)
    refine x_aload_n f_172_42 rfl ?_
    refine x_getR f_172_43 S.k33 (by decide) S.r45 ?_
    refine x_iload f_172_46 rfl ?_
    refine x_aload_n f_172_48 rfl ?_
    refine x_getR f_172_49 S.k33 (by decide) S.r44 ?_
    refine x_iload f_172_52 rfl ?_
    refine x_iald (j := i) f_172_54 S.k60 (by omega) (by decide) ?_
    refine x_topi (w := nI (p.getD i 0)) (htr i (by omega)) ?_
    refine x_iast (j := i) f_172_55 S.k61 (by decide) (by omega) (by decide) ?_
    refine x_iinc (v := nI (i + 1)) (ls1 := [.ref 33, .int (nI k), .int (nI m), .int (nI sum), .int (nI (i + 1))]) f_172_56 rfl (by exact nI_add _ 1) rfl ?_
    refine x_goto (t := 33) f_172_59 (by decide) ?_
    refine ih (i + 1) _ (by omega) (hA.set (Or.inr rfl)) (fun q hq => (congrFun (mj_I_other (by decide)) q).trans (htr q hq)) (fun q => (congrFun (mj_I_other (by decide)) q).trans (h60 q)) ((congrFun (mj_I_other (by decide)) 47).trans e47) (fun q hq => ?_)
    by_cases hqk : q = i
    · subst hqk; exact mj_I_at _ _ _ _
    · exact (mj_I_ne hqk).trans (h61 q (by omega))
set_option maxRecDepth 20000 in
set_option maxHeartbeats 4000000 in
theorem arr_l {h g0 : mj_H} {n m sum r : Nat} {p : List Nat} {best0 : Option (List Nat)} (IH : ArP h n r) (hn : n ≤ 8) (e_n : mj_I h 33 46 = nI n) (hEI : ∀ a, a < n → EI h a) (hsum : sum = cst (chg h) p) (hpr : p.length + (r + 1) = n) (hnd : p.Nodup) (hlt : ∀ x, x ∈ p → x < n) (hM : Mk m p) :
    ∀ (c i : Nat) (g : mj_H) (best : Option (List Nat)), i + c = n → AE h g → Tr g p → (∀ q, q < p.length → mj_I g 60 q = mj_I g0 60 q) → ArS h g n best → (∀ b, best = some b → bf b p ∨ ∃ i' r', i' < i ∧ b = p ++ i' :: r') → (∀ l, Dq (chg h) best0 l → Dq (chg h) best l) → (∀ l, Pm n l → (∃ i' r', i' < i ∧ l = p ++ i' :: r') → Dq (chg h) best l) → (∀ b, best = some b → best0 = some b ∨ p <+: b) →
    mx (2 + (r + 1)) 172 66 [.ref 33, .int (nI p.length), .int (nI m), .int (nI sum), .int (nI i)] [] g (fun r h' => r = none ∧ ArQ h g0 h' n p best0) := by
  intro c
  induction c with
  | zero =>
    intro i g best hi hA htr h60 hS hbf mono cov new
    have hii : i = n := by omega
    subst hii
    have S := hA.1
    have e46 : mj_I g 33 46 = nI i := (hA.2.2 46 (by decide)).trans e_n
    refine x_iload f_172_66 rfl ?_
    refine x_aload_n f_172_68 rfl ?_
    refine x_getI f_172_69 S.k33 (by decide) ?_
    refine x_topi (w := nI i) e46 ?_
    refine x_icmpN_ge (t := 135) f_172_72 (by decide) (by omega) (by omega) (fun c_1 => ?_) (fun c_1 => by omega)
    refine x_retV f_172_135 rfl ?_
    refine ⟨rfl, hA, h60, best, hS, mono, fun l hl hp => ?_, new⟩
    obtain ⟨i2, r2, q1, q2, _⟩ := Pm_pre hl hp (by omega)
    exact cov l hl ⟨i2, r2, q1, q2⟩
  | succ c ih =>
    intro i g best hi hA htr h60 hS hbf mono cov new
    have S := hA.1
    have e46 : mj_I g 33 46 = nI n := (hA.2.2 46 (by decide)).trans e_n
    have hlast : ¬ p.length = 0 → p.getD (p.length - 1) 0 < n := by
      intro q
      rw [List.getD_eq_getElem?_getD, List.getElem?_eq_getElem (by omega)]
      exact hlt _ (List.getElem_mem _)
    have hc70 : ∀ a b, a < n → b < n → chg h a b ≤ 70 := fun a b ha hb => chg_le (hEI a ha) (hEI b hb)
    have hb70 := cst_bd hc70 p hlt
    refine x_iload f_172_66 rfl ?_
    refine x_aload_n f_172_68 rfl ?_
    refine x_getI f_172_69 S.k33 (by decide) ?_
    refine x_topi (w := nI n) e46 ?_
    refine x_icmpN_ge (t := 135) f_172_72 (by decide) (by omega) (by omega) (fun c_1 => by omega) (fun c_1 => ?_)
    refine x_iload_n f_172_75 rfl ?_
    refine x_iload f_172_76 rfl ?_
    refine x_ishr f_172_78 ?_
    refine x_iconst (v := nI 1) f_172_79 (by decide) ?_
    refine x_iand f_172_80 ?_
    refine x_topi (w := if m.testBit i = true then 1 else 0) (bit_at hM.1 (by omega)) ?_
    refine x_ifB_ne (t := 129) f_172_81 (by decide) (fun c_u => ?_) (fun c_u => ?_)
    · refine x_iinc (v := nI (i + 1)) (ls1 := [.ref 33, .int (nI p.length), .int (nI m), .int (nI sum), .int (nI (i + 1))]) f_172_129 rfl (by exact nI_add _ 1) rfl ?_
      refine x_goto (t := 66) f_172_132 (by decide) ?_
      refine ih (i + 1) g best (by omega) hA htr h60 hS (fun b hb => ?_) mono (fun l hl hq => ?_) new
      · rcases hbf b hb with q | ⟨i2, r2, q1, q2⟩
        · exact Or.inl q
        · exact Or.inr ⟨i2, r2, by omega, q2⟩
      · obtain ⟨i2, r2, q1, q2⟩ := hq
        by_cases hi2 : i2 = i
        · subst hi2
          exfalso
          have hm := (hM.2 i2 (by omega)).mp c_u
          rw [q2] at hl
          exact (List.nodup_append.mp hl.2.1).2.2 i2 hm i2 (by simp) rfl
        · exact cov l hl ⟨i2, r2, by omega, q2⟩
    · have hi_p : i ∉ p := fun z => c_u ((hM.2 i (by omega)).mpr z)
      have hnd2 : (p ++ [i]).Nodup := by
        rw [List.nodup_append]
        refine ⟨hnd, by simp, fun a ha b hb => ?_⟩
        rw [List.mem_singleton] at hb
        intro e
        exact hi_p (hb ▸ e ▸ ha)
      have hlt2 : ∀ x, x ∈ p ++ [i] → x < n := by
        intro x hx
        rw [List.mem_append, List.mem_singleton] at hx
        rcases hx with hx | hx
        · exact hlt x hx
        · omega
      have hS1 : ArS h (mj_setI g 60 p.length (nI i)) n best := by
        cases best with
        | none => exact (congrFun (mj_I_other (by decide)) 47).trans hS
        | some b => exact ⟨(congrFun (mj_I_other (by decide)) 47).trans hS.1, hS.2.1, fun q hq => (congrFun (mj_I_other (by decide)) q).trans (hS.2.2 q hq)⟩
      have hbf1 : ∀ b, best = some b → bf b (p ++ [i]) := by
        intro b hb
        rcases hbf b hb with q | ⟨i2, r2, q1, q2⟩
        · exact bf_app [i] q
        · rw [q2]; exact bf_pre q1 r2 p
      refine x_aload_n f_172_84 rfl ?_
      refine x_getR f_172_85 S.k33 (by decide) S.r44 ?_
      refine x_iload_n f_172_88 rfl ?_
      refine x_iload f_172_89 rfl ?_
      refine x_iast (j := p.length) f_172_91 S.k60 (by decide) (by omega) (by decide) ?_
      refine x_aload_n f_172_92 rfl ?_
      refine x_iload_n f_172_93 rfl ?_
      refine x_iconst (v := nI 1) f_172_94 (by decide) ?_
      refine x_iaddN f_172_95 ?_
      refine x_iload_n f_172_96 rfl ?_
      refine x_iconst (v := nI 1) f_172_97 (by decide) ?_
      refine x_iload f_172_98 rfl ?_
      refine x_ishl f_172_100 ?_
      refine x_ior f_172_101 ?_
      refine x_topi (w := nI (m ||| 2 ^ i)) (bit_or hM.1 (by omega)) ?_
      refine x_iload_n f_172_102 rfl ?_
      refine x_iload_n f_172_103 rfl ?_
      refine x_ifN_ne (t := 111) f_172_104 (by decide) (by omega) (fun c_k => ?_) (fun c_k => ?_)
      · refine x_aload_n f_172_111 rfl ?_
        refine x_aload_n f_172_112 rfl ?_
        refine x_getR f_172_113 S.k33 (by decide) S.r44 ?_
        refine x_iload_n f_172_116 rfl ?_
        refine x_iconst (v := nI 1) f_172_117 (by decide) ?_
        refine x_isubN f_172_118 (by omega) ?_
        refine x_iald (j := (p.length - 1)) f_172_119 S.k60 (by omega) (by decide) ?_
        refine x_topi (w := nI (p.getD (p.length - 1) 0)) ((mj_I_ne (by omega)).trans (htr _ (by omega))) ?_
        refine x_iload f_172_120 rfl ?_
        refine x_callVe f_172_122 (c_changeA (hA.set (Or.inl rfl)) (Nat.lt_of_lt_of_le (hlast c_k) hn) (by omega) (hEI _ (hlast c_k)) (hEI _ (by omega))) (by omega) S.k33 (by decide) rfl rfl (Nat.le_of_ble_eq_true rfl) rfl ?_
        refine x_iaddN f_172_125 ?_
        refine x_callV f_172_126 (IH (p ++ [i]) (p.length + 1) (m ||| 2 ^ i) (sum + (chg h (p.getD (p.length - 1) 0) i)) _ best (by simp) (by rw [hsum]; exact cst_snoc c_k) (hA.set (Or.inl rfl)) (by simp only [List.length_append, List.length_cons, List.length_nil]; omega) hnd2 hlt2 (hM.snoc (by omega)) htr.snoc hS1 hbf1) (by omega) S.k33 (by decide) rfl rfl (Nat.le_of_ble_eq_true rfl) rfl ?_
        rintro _ g2 ⟨rfl, hA2, htr2, best2, hS2, mono2, cov2, new2⟩
        refine x_iinc (v := nI (i + 1)) (ls1 := [.ref 33, .int (nI p.length), .int (nI m), .int (nI sum), .int (nI (i + 1))]) f_172_129 rfl (by exact nI_add _ 1) rfl ?_
        refine x_goto (t := 66) f_172_132 (by decide) ?_
        refine ih (i + 1) g2 best2 (by omega) hA2 (fun q hq => ?_) (fun q hq => ?_) hS2 (fun b hb => ?_) (fun l hl => mono2 l (mono l hl)) (fun l hl hq => ?_) (fun b hb => ?_)
        · rw [htr2 q (by simp only [List.length_append, List.length_cons, List.length_nil]; omega), mj_I_ne (by omega)]; exact htr q hq
        · rw [htr2 q (by simp only [List.length_append, List.length_cons, List.length_nil]; omega), mj_I_ne (by omega)]; exact h60 q hq
        · rcases new2 b hb with q | ⟨t, ht⟩
          · rcases hbf b q with q | ⟨i2, r2, q1, q2⟩
            · exact Or.inl q
            · exact Or.inr ⟨i2, r2, by omega, q2⟩
          · exact Or.inr ⟨i, t, by omega, by rw [← ht, List.append_assoc]; rfl⟩
        · obtain ⟨i2, r2, q1, q2⟩ := hq
          by_cases hi2 : i2 = i
          · subst hi2
            exact cov2 l hl ⟨r2, by rw [q2, List.append_assoc]; rfl⟩
          · exact mono2 l (cov l hl ⟨i2, r2, by omega, q2⟩)
        · rcases new2 b hb with q | ⟨t, ht⟩
          · exact new b q
          · exact Or.inr ⟨[i] ++ t, by rw [← List.append_assoc]; exact ht⟩
      · refine x_iconst (v := nI 0) f_172_107 (by decide) ?_
        refine x_goto (t := 125) f_172_108 (by decide) ?_
        refine x_iaddN f_172_125 ?_
        refine x_callV f_172_126 (IH (p ++ [i]) (p.length + 1) (m ||| 2 ^ i) (sum + 0) _ best (by simp) (by rw [hsum]; exact cst_snoc0 c_k) (hA.set (Or.inl rfl)) (by simp only [List.length_append, List.length_cons, List.length_nil]; omega) hnd2 hlt2 (hM.snoc (by omega)) htr.snoc hS1 hbf1) (by omega) S.k33 (by decide) rfl rfl (Nat.le_of_ble_eq_true rfl) rfl ?_
        rintro _ g2 ⟨rfl, hA2, htr2, best2, hS2, mono2, cov2, new2⟩
        refine x_iinc (v := nI (i + 1)) (ls1 := [.ref 33, .int (nI p.length), .int (nI m), .int (nI sum), .int (nI (i + 1))]) f_172_129 rfl (by exact nI_add _ 1) rfl ?_
        refine x_goto (t := 66) f_172_132 (by decide) ?_
        refine ih (i + 1) g2 best2 (by omega) hA2 (fun q hq => ?_) (fun q hq => ?_) hS2 (fun b hb => ?_) (fun l hl => mono2 l (mono l hl)) (fun l hl hq => ?_) (fun b hb => ?_)
        · rw [htr2 q (by simp only [List.length_append, List.length_cons, List.length_nil]; omega), mj_I_ne (by omega)]; exact htr q hq
        · rw [htr2 q (by simp only [List.length_append, List.length_cons, List.length_nil]; omega), mj_I_ne (by omega)]; exact h60 q hq
        · rcases new2 b hb with q | ⟨t, ht⟩
          · rcases hbf b q with q | ⟨i2, r2, q1, q2⟩
            · exact Or.inl q
            · exact Or.inr ⟨i2, r2, by omega, q2⟩
          · exact Or.inr ⟨i, t, by omega, by rw [← ht, List.append_assoc]; rfl⟩
        · obtain ⟨i2, r2, q1, q2⟩ := hq
          by_cases hi2 : i2 = i
          · subst hi2
            exact cov2 l hl ⟨r2, by rw [q2, List.append_assoc]; rfl⟩
          · exact mono2 l (cov l hl ⟨i2, r2, by omega, q2⟩)
        · rcases new2 b hb with q | ⟨t, ht⟩
          · exact new b q
          · exact Or.inr ⟨[i] ++ t, by rw [← List.append_assoc]; exact ht⟩
