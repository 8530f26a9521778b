theorem f_159_97 : mj_fetch 159 97 = some (.iload 8, 0, 0) := by decide +kernel
theorem f_159_99 : mj_fetch 159 99 = some (.aload_n 0, 0, 0) := by decide +kernel
theorem f_159_100 : mj_fetch 159 100 = some (.iconst 2, 0, 0) := by decide +kernel
theorem f_159_101 : mj_fetch 159 101 = some (.invokevirtual 188, 143, 0) := by decide +kernel
theorem f_159_104 : mj_fetch 159 104 = some (.if_icmp .gt 24, 0, 0) := by decide +kernel
theorem f_159_107 : mj_fetch 159 107 = some (.aload_n 0, 0, 0) := by decide +kernel
theorem f_159_108 : mj_fetch 159 108 = some (.iload_n 3, 0, 0) := by decide +kernel
theorem f_159_109 : mj_fetch 159 109 = some (.iload 4, 0, 0) := by decide +kernel
theorem f_159_111 : mj_fetch 159 111 = some (.iload 5, 0, 0) := by decide +kernel
theorem f_159_113 : mj_fetch 159 113 = some (.iload 6, 0, 0) := by decide +kernel
theorem f_159_115 : mj_fetch 159 115 = some (.iload 7, 0, 0) := by decide +kernel
theorem f_159_117 : mj_fetch 159 117 = some (.iload 8, 0, 0) := by decide +kernel
theorem f_159_119 : mj_fetch 159 119 = some (.invokevirtual 243, 158, 0) := by decide +kernel
theorem f_159_122 : mj_fetch 159 122 = some (.iinc 8 1, 0, 0) := by decide +kernel
theorem f_159_125 : mj_fetch 159 125 = some (.goto (-28), 0, 0) := by decide +kernel
theorem f_159_83 : mj_fetch 159 83 = some (.iload 7, 0, 0) := by decide +kernel
theorem f_159_85 : mj_fetch 159 85 = some (.aload_n 0, 0, 0) := by decide +kernel
theorem f_159_86 : mj_fetch 159 86 = some (.iconst 2, 0, 0) := by decide +kernel
theorem f_159_87 : mj_fetch 159 87 = some (.invokevirtual 188, 143, 0) := by decide +kernel
theorem f_159_90 : mj_fetch 159 90 = some (.if_icmp .gt 44, 0, 0) := by decide +kernel
theorem f_159_128 : mj_fetch 159 128 = some (.iinc 7 1, 0, 0) := by decide +kernel
theorem f_159_131 : mj_fetch 159 131 = some (.goto (-48), 0, 0) := by decide +kernel
theorem f_159_93 : mj_fetch 159 93 = some (.iload 7, 0, 0) := by decide +kernel
theorem f_159_95 : mj_fetch 159 95 = some (.istore 8, 0, 0) := by decide +kernel
theorem f_159_70 : mj_fetch 159 70 = some (.iload 6, 0, 0) := by decide +kernel
theorem f_159_72 : mj_fetch 159 72 = some (.aload_n 0, 0, 0) := by decide +kernel
theorem f_159_73 : mj_fetch 159 73 = some (.iconst 1, 0, 0) := by decide +kernel
theorem f_159_74 : mj_fetch 159 74 = some (.invokevirtual 188, 143, 0) := by decide +kernel
theorem f_159_77 : mj_fetch 159 77 = some (.if_icmp .gt 63, 0, 0) := by decide +kernel
theorem f_159_134 : mj_fetch 159 134 = some (.iinc 6 1, 0, 0) := by decide +kernel
theorem f_159_137 : mj_fetch 159 137 = some (.goto (-67), 0, 0) := by decide +kernel
theorem f_159_80 : mj_fetch 159 80 = some (.iconst 0, 0, 0) := by decide +kernel
theorem f_159_81 : mj_fetch 159 81 = some (.istore 7, 0, 0) := by decide +kernel
theorem f_159_56 : mj_fetch 159 56 = some (.iload 5, 0, 0) := by decide +kernel
theorem f_159_58 : mj_fetch 159 58 = some (.aload_n 0, 0, 0) := by decide +kernel
theorem f_159_59 : mj_fetch 159 59 = some (.iconst 1, 0, 0) := by decide +kernel
theorem f_159_60 : mj_fetch 159 60 = some (.invokevirtual 188, 143, 0) := by decide +kernel
theorem f_159_63 : mj_fetch 159 63 = some (.if_icmp .gt 83, 0, 0) := by decide +kernel
theorem f_159_140 : mj_fetch 159 140 = some (.iinc 5 1, 0, 0) := by decide +kernel
theorem f_159_143 : mj_fetch 159 143 = some (.goto (-87), 0, 0) := by decide +kernel
theorem f_159_66 : mj_fetch 159 66 = some (.iload 5, 0, 0) := by decide +kernel
theorem f_159_68 : mj_fetch 159 68 = some (.istore 6, 0, 0) := by decide +kernel
theorem f_159_43 : mj_fetch 159 43 = some (.iload 4, 0, 0) := by decide +kernel
theorem f_159_45 : mj_fetch 159 45 = some (.aload_n 0, 0, 0) := by decide +kernel
theorem f_159_46 : mj_fetch 159 46 = some (.iconst 0, 0, 0) := by decide +kernel
theorem f_159_47 : mj_fetch 159 47 = some (.invokevirtual 188, 143, 0) := by decide +kernel
theorem f_159_50 : mj_fetch 159 50 = some (.if_icmp .gt 102, 0, 0) := by decide +kernel
theorem f_159_146 : mj_fetch 159 146 = some (.iinc 4 1, 0, 0) := by decide +kernel
theorem f_159_149 : mj_fetch 159 149 = some (.goto (-106), 0, 0) := by decide +kernel
theorem f_159_53 : mj_fetch 159 53 = some (.iconst 0, 0, 0) := by decide +kernel
theorem f_159_54 : mj_fetch 159 54 = some (.istore 5, 0, 0) := by decide +kernel
theorem f_159_31 : mj_fetch 159 31 = some (.iload_n 3, 0, 0) := by decide +kernel
theorem f_159_32 : mj_fetch 159 32 = some (.aload_n 0, 0, 0) := by decide +kernel
theorem f_159_33 : mj_fetch 159 33 = some (.iconst 0, 0, 0) := by decide +kernel
theorem f_159_34 : mj_fetch 159 34 = some (.invokevirtual 188, 143, 0) := by decide +kernel
theorem f_159_37 : mj_fetch 159 37 = some (.if_icmp .gt 121, 0, 0) := by decide +kernel
theorem f_159_152 : mj_fetch 159 152 = some (.iinc 3 1, 0, 0) := by decide +kernel
theorem f_159_155 : mj_fetch 159 155 = some (.goto (-124), 0, 0) := by decide +kernel
theorem f_159_40 : mj_fetch 159 40 = some (.iload_n 3, 0, 0) := by decide +kernel
theorem f_159_41 : mj_fetch 159 41 = some (.istore 4, 0, 0) := by decide +kernel
theorem f_159_158 : mj_fetch 159 158 = some (.aload_n 0, 0, 0) := by decide +kernel
theorem f_159_159 : mj_fetch 159 159 = some (.getfield 234, 11, 33) := by decide +kernel
theorem f_159_162 : mj_fetch 159 162 = some (.ifCond .ne 7, 0, 0) := by decide +kernel
theorem f_159_165 : mj_fetch 159 165 = some (.iconst (-1), 0, 0) := by decide +kernel
theorem f_159_166 : mj_fetch 159 166 = some (.goto 30, 0, 0) := by decide +kernel
theorem f_159_196 : mj_fetch 159 196 = some (.ireturn, 0, 0) := by decide +kernel
theorem f_159_169 : mj_fetch 159 169 = some (.iload_n 2, 0, 0) := by decide +kernel
theorem f_159_170 : mj_fetch 159 170 = some (.ifCond .ne 10, 0, 0) := by decide +kernel
theorem f_159_173 : mj_fetch 159 173 = some (.aload_n 0, 0, 0) := by decide +kernel
theorem f_159_174 : mj_fetch 159 174 = some (.getfield 237, 11, 31) := by decide +kernel
theorem f_159_177 : mj_fetch 159 177 = some (.goto 19, 0, 0) := by decide +kernel
theorem f_159_180 : mj_fetch 159 180 = some (.iload_n 2, 0, 0) := by decide +kernel
theorem f_159_181 : mj_fetch 159 181 = some (.iconst 1, 0, 0) := by decide +kernel
theorem f_159_182 : mj_fetch 159 182 = some (.if_icmp .ne 10, 0, 0) := by decide +kernel
theorem f_159_185 : mj_fetch 159 185 = some (.aload_n 0, 0, 0) := by decide +kernel
theorem f_159_186 : mj_fetch 159 186 = some (.getfield 240, 11, 32) := by decide +kernel
theorem f_159_189 : mj_fetch 159 189 = some (.goto 7, 0, 0) := by decide +kernel
theorem f_159_192 : mj_fetch 159 192 = some (.aload_n 0, 0, 0) := by decide +kernel
theorem f_159_193 : mj_fetch 159 193 = some (.getfield 234, 11, 33) := by decide +kernel
theorem f_159_0 : mj_fetch 159 0 = some (.aload_n 0, 0, 0) := by decide +kernel
theorem f_159_1 : mj_fetch 159 1 = some (.iload_n 1, 0, 0) := by decide +kernel
theorem f_159_2 : mj_fetch 159 2 = some (.invokevirtual 185, 137, 0) := by decide +kernel
theorem f_159_5 : mj_fetch 159 5 = some (.ifCond .eq 12, 0, 0) := by decide +kernel
theorem f_159_8 : mj_fetch 159 8 = some (.iload_n 2, 0, 0) := by decide +kernel
theorem f_159_9 : mj_fetch 159 9 = some (.iconst 0, 0, 0) := by decide +kernel
theorem f_159_10 : mj_fetch 159 10 = some (.iconst 2, 0, 0) := by decide +kernel
theorem f_159_11 : mj_fetch 159 11 = some (.invokestatic 100, 112, 0) := by decide +kernel
theorem f_159_14 : mj_fetch 159 14 = some (.ifCond .ne 5, 0, 0) := by decide +kernel
theorem f_159_17 : mj_fetch 159 17 = some (.iconst (-1), 0, 0) := by decide +kernel
theorem f_159_18 : mj_fetch 159 18 = some (.ireturn, 0, 0) := by decide +kernel
theorem f_159_19 : mj_fetch 159 19 = some (.aload_n 0, 0, 0) := by decide +kernel
theorem f_159_20 : mj_fetch 159 20 = some (.iload_n 1, 0, 0) := by decide +kernel
theorem f_159_21 : mj_fetch 159 21 = some (.putfield 179, 11, 22) := by decide +kernel
theorem f_159_24 : mj_fetch 159 24 = some (.aload_n 0, 0, 0) := by decide +kernel
theorem f_159_25 : mj_fetch 159 25 = some (.iconst 0, 0, 0) := by decide +kernel
theorem f_159_26 : mj_fetch 159 26 = some (.putfield 234, 11, 33) := by decide +kernel
theorem f_159_29 : mj_fetch 159 29 = some (.iconst 0, 0, 0) := by decide +kernel
theorem f_159_30 : mj_fetch 159 30 = some (.istore_n 3, 0, 0) := by decide +kernel
theorem Dm.up {G : Gd} {L : Nat → Nat} {x x' : Nat × Nat × Nat} {a b c d e f : Nat} (d1 : Dm G L x a b c d e f) (m : ∀ y, kle y x → kle y x') : Dm G L x' a b c d e f := fun q => m _ (d1 q)

set_option maxRecDepth 20000 in
set_option maxHeartbeats 4000000 in
theorem great_5 {h : mj_H} {jm w : Nat} {z : Int32} {G : Gd} {L W : Nat → Nat} {a b c d e : Nat} (hO0 : a ≤ b ∧ b ≤ W 0) (hO1 : c ≤ d ∧ d ≤ W 1) (hO2 : e ≤ W 2) {Q : Option Value → mj_H → Prop} :
    ∀ (n I0 : Nat) (x : Nat × Nat × Nat) (g : mj_H), I0 + n = W 2 + 1 → e ≤ I0 → GI g jm w G L W → GE h g jm → BS g x → Bs G L W x → (∀ (g : mj_H) (x' : Nat × Nat × Nat), GI g jm w G L W → GE h g jm → BS g x' → Bs G L W x' → (∀ y, kle y x → kle y x') → (∀ f', BX W a b c d e f' → I0 ≤ f' → Dm G L x' a b c d e f') → mx 8 159 128 [.ref 33, .int (nI w), .int z, .int (nI a), .int (nI b), .int (nI c), .int (nI d), .int (nI e), .int (nI (W 2 + 1))] [] g Q) → mx 8 159 97 [.ref 33, .int (nI w), .int z, .int (nI a), .int (nI b), .int (nI c), .int (nI d), .int (nI e), .int (nI I0)] [] g Q := by
  intro n
  induction n with
  | zero =>
    intro I0 x g  hI hst hG hE hS hBs K
    have hi : I0 = W 2 + 1 := by omega
    subst hi
    have S := hG.1.1
    have a0 := hG.2.2.2.2.2 0 (by decide)
    have a1 := hG.2.2.2.2.2 1 (by decide)
    have a2 := hG.2.2.2.2.2 2 (by decide)
    refine x_iload f_159_97 rfl ?_
    refine x_aload_n f_159_99 rfl ?_
    refine x_iconst (v := nI 2) f_159_100 (by decide) ?_
    refine x_callVe f_159_101 (c_wideG hG (by decide)) (by omega) S.k33 (by decide) rfl rfl (Nat.le_of_ble_eq_true rfl) rfl ?_
    refine x_icmpN_gt (t := 128) f_159_104 (by decide) (by omega) (by omega) (fun c_1 => ?_) (fun c_1 => by omega)
    exact K g x hG hE hS hBs (fun _ q => q) (fun f' hb hi => by unfold BX at hb; omega)
  | succ n ih =>
    intro I0 x g  hI hst hG hE hS hBs K
    have S := hG.1.1
    have a0 := hG.2.2.2.2.2 0 (by decide)
    have a1 := hG.2.2.2.2.2 1 (by decide)
    have a2 := hG.2.2.2.2.2 2 (by decide)
    refine x_iload f_159_97 rfl ?_
    refine x_aload_n f_159_99 rfl ?_
    refine x_iconst (v := nI 2) f_159_100 (by decide) ?_
    refine x_callVe f_159_101 (c_wideG hG (by decide)) (by omega) S.k33 (by decide) rfl rfl (Nat.le_of_ble_eq_true rfl) rfl ?_
    refine x_icmpN_gt (t := 128) f_159_104 (by decide) (by omega) (by omega) (fun c_1 => by omega) (fun c_1 => ?_)
    refine x_aload_n f_159_107 rfl ?_
    refine x_iload_n f_159_108 rfl ?_
    refine x_iload f_159_109 rfl ?_
    refine x_iload f_159_111 rfl ?_
    refine x_iload f_159_113 rfl ?_
    refine x_iload f_159_115 rfl ?_
    refine x_iload f_159_117 rfl ?_
    refine x_callV f_159_119 (c_offer hG (by unfold BX; omega) hS hBs) (by omega) S.k33 (by decide) rfl rfl (Nat.le_of_ble_eq_true rfl) rfl ?_
    rintro _ g2 ⟨rfl, hE2, x2, hS2, hBs2, mono2, dm2⟩
    refine x_iinc (v := nI (I0 + 1)) (ls1 := [.ref 33, .int (nI w), .int z, .int (nI a), .int (nI b), .int (nI c), .int (nI d), .int (nI e), .int (nI (I0 + 1))]) f_159_122 rfl (by exact nI_add _ 1) rfl ?_
    refine x_goto (t := 97) f_159_125 (by decide) ?_
    refine ih (I0 + 1) x2 g2 (by omega) (by omega) (hG.to hE2) (hE.trans hE2) hS2 hBs2 ?_
    intro g x3 hG hE hS hBs mono3 cov3
    refine K g x3 hG hE hS hBs (fun y q => mono3 y (mono2 q)) (fun f' hb hi => ?_)
    by_cases hq : f' = I0
    · subst hq
      exact (dm2).up mono3
    · exact cov3 f' hb (by omega)
set_option maxRecDepth 20000 in
set_option maxHeartbeats 4000000 in
theorem great_4 {h : mj_H} {jm w : Nat} {z : Int32} {G : Gd} {L W : Nat → Nat} {a b c d : Nat} (hO0 : a ≤ b ∧ b ≤ W 0) (hO1 : c ≤ d ∧ d ≤ W 1) {Q : Option Value → mj_H → Prop} :
    ∀ (n I0 : Nat) (x : Nat × Nat × Nat) (g : mj_H) (v5 : Value), I0 + n = W 2 + 1 → 0 ≤ I0 → GI g jm w G L W → GE h g jm → BS g x → Bs G L W x → (∀ (g : mj_H) (x' : Nat × Nat × Nat) (v5 : Value), GI g jm w G L W → GE h g jm → BS g x' → Bs G L W x' → (∀ y, kle y x → kle y x') → (∀ e' f', BX W a b c d e' f' → I0 ≤ e' → Dm G L x' a b c d e' f') → mx 8 159 134 [.ref 33, .int (nI w), .int z, .int (nI a), .int (nI b), .int (nI c), .int (nI d), .int (nI (W 2 + 1)), v5] [] g Q) → mx 8 159 83 [.ref 33, .int (nI w), .int z, .int (nI a), .int (nI b), .int (nI c), .int (nI d), .int (nI I0), v5] [] g Q := by
  intro n
  induction n with
  | zero =>
    intro I0 x g v5 hI hst hG hE hS hBs K
    have hi : I0 = W 2 + 1 := by omega
    subst hi
    have S := hG.1.1
    have a0 := hG.2.2.2.2.2 0 (by decide)
    have a1 := hG.2.2.2.2.2 1 (by decide)
    have a2 := hG.2.2.2.2.2 2 (by decide)
    refine x_iload f_159_83 rfl ?_
    refine x_aload_n f_159_85 rfl ?_
    refine x_iconst (v := nI 2) f_159_86 (by decide) ?_
    refine x_callVe f_159_87 (c_wideG hG (by decide)) (by omega) S.k33 (by decide) rfl rfl (Nat.le_of_ble_eq_true rfl) rfl ?_
    refine x_icmpN_gt (t := 134) f_159_90 (by decide) (by omega) (by omega) (fun c_1 => ?_) (fun c_1 => by omega)
    exact K g x v5 hG hE hS hBs (fun _ q => q) (fun e' f' hb hi => by unfold BX at hb; omega)
  | succ n ih =>
    intro I0 x g v5 hI hst hG hE hS hBs K
    have S := hG.1.1
    have a0 := hG.2.2.2.2.2 0 (by decide)
    have a1 := hG.2.2.2.2.2 1 (by decide)
    have a2 := hG.2.2.2.2.2 2 (by decide)
    refine x_iload f_159_83 rfl ?_
    refine x_aload_n f_159_85 rfl ?_
    refine x_iconst (v := nI 2) f_159_86 (by decide) ?_
    refine x_callVe f_159_87 (c_wideG hG (by decide)) (by omega) S.k33 (by decide) rfl rfl (Nat.le_of_ble_eq_true rfl) rfl ?_
    refine x_icmpN_gt (t := 134) f_159_90 (by decide) (by omega) (by omega) (fun c_1 => by omega) (fun c_1 => ?_)
    refine x_iload f_159_93 rfl ?_
    refine x_istore (ls1 := [.ref 33, .int (nI w), .int z, .int (nI a), .int (nI b), .int (nI c), .int (nI d), .int (nI I0), .int (nI I0)]) f_159_95 (Nat.le_of_ble_eq_true rfl) rfl ?_
    refine great_5 (h := h) (by omega) (by omega) (by omega) (W 2 + 1 - I0) I0 x g  (by omega) (by omega) hG hE hS hBs ?_
    intro g x2  hG hE hS hBs mono2 cov2
    refine x_iinc (v := nI (I0 + 1)) (ls1 := [.ref 33, .int (nI w), .int z, .int (nI a), .int (nI b), .int (nI c), .int (nI d), .int (nI (I0 + 1)), .int (nI (W 2 + 1))]) f_159_128 rfl (by exact nI_add _ 1) rfl ?_
    refine x_goto (t := 83) f_159_131 (by decide) ?_
    refine ih (I0 + 1) x2 g _ (by omega) (by omega) hG hE hS hBs ?_
    intro g x3 v5 hG hE hS hBs mono3 cov3
    refine K g x3 v5 hG hE hS hBs (fun y q => mono3 y (mono2 y q)) (fun e' f' hb hi => ?_)
    by_cases hq : e' = I0
    · subst hq
      exact (cov2 f' hb (by unfold BX at hb; omega)).up mono3
    · exact cov3 e' f' hb (by omega)
set_option maxRecDepth 20000 in
set_option maxHeartbeats 4000000 in
theorem great_3 {h : mj_H} {jm w : Nat} {z : Int32} {G : Gd} {L W : Nat → Nat} {a b c : Nat} (hO0 : a ≤ b ∧ b ≤ W 0) (hO1 : c ≤ W 1) {Q : Option Value → mj_H → Prop} :
    ∀ (n I0 : Nat) (x : Nat × Nat × Nat) (g : mj_H) (v4 v5 : Value), I0 + n = W 1 + 1 → c ≤ I0 → GI g jm w G L W → GE h g jm → BS g x → Bs G L W x → (∀ (g : mj_H) (x' : Nat × Nat × Nat) (v4 v5 : Value), GI g jm w G L W → GE h g jm → BS g x' → Bs G L W x' → (∀ y, kle y x → kle y x') → (∀ d' e' f', BX W a b c d' e' f' → I0 ≤ d' → Dm G L x' a b c d' e' f') → mx 8 159 140 [.ref 33, .int (nI w), .int z, .int (nI a), .int (nI b), .int (nI c), .int (nI (W 1 + 1)), v4, v5] [] g Q) → mx 8 159 70 [.ref 33, .int (nI w), .int z, .int (nI a), .int (nI b), .int (nI c), .int (nI I0), v4, v5] [] g Q := by
  intro n
  induction n with
  | zero =>
    intro I0 x g v4 v5 hI hst hG hE hS hBs K
    have hi : I0 = W 1 + 1 := by omega
    subst hi
    have S := hG.1.1
    have a0 := hG.2.2.2.2.2 0 (by decide)
    have a1 := hG.2.2.2.2.2 1 (by decide)
    have a2 := hG.2.2.2.2.2 2 (by decide)
    refine x_iload f_159_70 rfl ?_
    refine x_aload_n f_159_72 rfl ?_
    refine x_iconst (v := nI 1) f_159_73 (by decide) ?_
    refine x_callVe f_159_74 (c_wideG hG (by decide)) (by omega) S.k33 (by decide) rfl rfl (Nat.le_of_ble_eq_true rfl) rfl ?_
    refine x_icmpN_gt (t := 140) f_159_77 (by decide) (by omega) (by omega) (fun c_1 => ?_) (fun c_1 => by omega)
    exact K g x v4 v5 hG hE hS hBs (fun _ q => q) (fun d' e' f' hb hi => by unfold BX at hb; omega)
  | succ n ih =>
    intro I0 x g v4 v5 hI hst hG hE hS hBs K
    have S := hG.1.1
    have a0 := hG.2.2.2.2.2 0 (by decide)
    have a1 := hG.2.2.2.2.2 1 (by decide)
    have a2 := hG.2.2.2.2.2 2 (by decide)
    refine x_iload f_159_70 rfl ?_
    refine x_aload_n f_159_72 rfl ?_
    refine x_iconst (v := nI 1) f_159_73 (by decide) ?_
    refine x_callVe f_159_74 (c_wideG hG (by decide)) (by omega) S.k33 (by decide) rfl rfl (Nat.le_of_ble_eq_true rfl) rfl ?_
    refine x_icmpN_gt (t := 140) f_159_77 (by decide) (by omega) (by omega) (fun c_1 => by omega) (fun c_1 => ?_)
    refine x_iconst (v := nI 0) f_159_80 (by decide) ?_
    refine x_istore (ls1 := [.ref 33, .int (nI w), .int z, .int (nI a), .int (nI b), .int (nI c), .int (nI I0), .int (nI 0), v5]) f_159_81 (Nat.le_of_ble_eq_true rfl) rfl ?_
    refine great_4 (h := h) (by omega) (by omega) (W 2 + 1 - 0) 0 x g _ (by omega) (by omega) hG hE hS hBs ?_
    intro g x2 v5 hG hE hS hBs mono2 cov2
    refine x_iinc (v := nI (I0 + 1)) (ls1 := [.ref 33, .int (nI w), .int z, .int (nI a), .int (nI b), .int (nI c), .int (nI (I0 + 1)), .int (nI (W 2 + 1)), v5]) f_159_134 rfl (by exact nI_add _ 1) rfl ?_
    refine x_goto (t := 70) f_159_137 (by decide) ?_
    refine ih (I0 + 1) x2 g _ _ (by omega) (by omega) hG hE hS hBs ?_
    intro g x3 v4 v5 hG hE hS hBs mono3 cov3
    refine K g x3 v4 v5 hG hE hS hBs (fun y q => mono3 y (mono2 y q)) (fun d' e' f' hb hi => ?_)
    by_cases hq : d' = I0
    · subst hq
      exact (cov2 e' f' hb (by unfold BX at hb; omega)).up mono3
    · exact cov3 d' e' f' hb (by omega)
set_option maxRecDepth 20000 in
set_option maxHeartbeats 4000000 in
theorem great_2 {h : mj_H} {jm w : Nat} {z : Int32} {G : Gd} {L W : Nat → Nat} {a b : Nat} (hO0 : a ≤ b ∧ b ≤ W 0) {Q : Option Value → mj_H → Prop} :
    ∀ (n I0 : Nat) (x : Nat × Nat × Nat) (g : mj_H) (v3 v4 v5 : Value), I0 + n = W 1 + 1 → 0 ≤ I0 → GI g jm w G L W → GE h g jm → BS g x → Bs G L W x → (∀ (g : mj_H) (x' : Nat × Nat × Nat) (v3 v4 v5 : Value), GI g jm w G L W → GE h g jm → BS g x' → Bs G L W x' → (∀ y, kle y x → kle y x') → (∀ c' d' e' f', BX W a b c' d' e' f' → I0 ≤ c' → Dm G L x' a b c' d' e' f') → mx 8 159 146 [.ref 33, .int (nI w), .int z, .int (nI a), .int (nI b), .int (nI (W 1 + 1)), v3, v4, v5] [] g Q) → mx 8 159 56 [.ref 33, .int (nI w), .int z, .int (nI a), .int (nI b), .int (nI I0), v3, v4, v5] [] g Q := by
  intro n
  induction n with
  | zero =>
    intro I0 x g v3 v4 v5 hI hst hG hE hS hBs K
    have hi : I0 = W 1 + 1 := by omega
    subst hi
    have S := hG.1.1
    have a0 := hG.2.2.2.2.2 0 (by decide)
    have a1 := hG.2.2.2.2.2 1 (by decide)
    have a2 := hG.2.2.2.2.2 2 (by decide)
    refine x_iload f_159_56 rfl ?_
    refine x_aload_n f_159_58 rfl ?_
    refine x_iconst (v := nI 1) f_159_59 (by decide) ?_
    refine x_callVe f_159_60 (c_wideG hG (by decide)) (by omega) S.k33 (by decide) rfl rfl (Nat.le_of_ble_eq_true rfl) rfl ?_
    refine x_icmpN_gt (t := 146) f_159_63 (by decide) (by omega) (by omega) (fun c_1 => ?_) (fun c_1 => by omega)
    exact K g x v3 v4 v5 hG hE hS hBs (fun _ q => q) (fun c' d' e' f' hb hi => by unfold BX at hb; omega)
  | succ n ih =>
    intro I0 x g v3 v4 v5 hI hst hG hE hS hBs K
    have S := hG.1.1
    have a0 := hG.2.2.2.2.2 0 (by decide)
    have a1 := hG.2.2.2.2.2 1 (by decide)
    have a2 := hG.2.2.2.2.2 2 (by decide)
    refine x_iload f_159_56 rfl ?_
    refine x_aload_n f_159_58 rfl ?_
    refine x_iconst (v := nI 1) f_159_59 (by decide) ?_
    refine x_callVe f_159_60 (c_wideG hG (by decide)) (by omega) S.k33 (by decide) rfl rfl (Nat.le_of_ble_eq_true rfl) rfl ?_
    refine x_icmpN_gt (t := 146) f_159_63 (by decide) (by omega) (by omega) (fun c_1 => by omega) (fun c_1 => ?_)
    refine x_iload f_159_66 rfl ?_
    refine x_istore (ls1 := [.ref 33, .int (nI w), .int z, .int (nI a), .int (nI b), .int (nI I0), .int (nI I0), v4, v5]) f_159_68 (Nat.le_of_ble_eq_true rfl) rfl ?_
    refine great_3 (h := h) (by omega) (by omega) (W 1 + 1 - I0) I0 x g _ _ (by omega) (by omega) hG hE hS hBs ?_
    intro g x2 v4 v5 hG hE hS hBs mono2 cov2
    refine x_iinc (v := nI (I0 + 1)) (ls1 := [.ref 33, .int (nI w), .int z, .int (nI a), .int (nI b), .int (nI (I0 + 1)), .int (nI (W 1 + 1)), v4, v5]) f_159_140 rfl (by exact nI_add _ 1) rfl ?_
    refine x_goto (t := 56) f_159_143 (by decide) ?_
    refine ih (I0 + 1) x2 g _ _ _ (by omega) (by omega) hG hE hS hBs ?_
    intro g x3 v3 v4 v5 hG hE hS hBs mono3 cov3
    refine K g x3 v3 v4 v5 hG hE hS hBs (fun y q => mono3 y (mono2 y q)) (fun c' d' e' f' hb hi => ?_)
    by_cases hq : c' = I0
    · subst hq
      exact (cov2 d' e' f' hb (by unfold BX at hb; omega)).up mono3
    · exact cov3 c' d' e' f' hb (by omega)
set_option maxRecDepth 20000 in
set_option maxHeartbeats 4000000 in
theorem great_1 {h : mj_H} {jm w : Nat} {z : Int32} {G : Gd} {L W : Nat → Nat} {a : Nat} (hO0 : a ≤ W 0) {Q : Option Value → mj_H → Prop} :
    ∀ (n I0 : Nat) (x : Nat × Nat × Nat) (g : mj_H) (v2 v3 v4 v5 : Value), I0 + n = W 0 + 1 → a ≤ I0 → GI g jm w G L W → GE h g jm → BS g x → Bs G L W x → (∀ (g : mj_H) (x' : Nat × Nat × Nat) (v2 v3 v4 v5 : Value), GI g jm w G L W → GE h g jm → BS g x' → Bs G L W x' → (∀ y, kle y x → kle y x') → (∀ b' c' d' e' f', BX W a b' c' d' e' f' → I0 ≤ b' → Dm G L x' a b' c' d' e' f') → mx 8 159 152 [.ref 33, .int (nI w), .int z, .int (nI a), .int (nI (W 0 + 1)), v2, v3, v4, v5] [] g Q) → mx 8 159 43 [.ref 33, .int (nI w), .int z, .int (nI a), .int (nI I0), v2, v3, v4, v5] [] g Q := by
  intro n
  induction n with
  | zero =>
    intro I0 x g v2 v3 v4 v5 hI hst hG hE hS hBs K
    have hi : I0 = W 0 + 1 := by omega
    subst hi
    have S := hG.1.1
    have a0 := hG.2.2.2.2.2 0 (by decide)
    have a1 := hG.2.2.2.2.2 1 (by decide)
    have a2 := hG.2.2.2.2.2 2 (by decide)
    refine x_iload f_159_43 rfl ?_
    refine x_aload_n f_159_45 rfl ?_
    refine x_iconst (v := nI 0) f_159_46 (by decide) ?_
    refine x_callVe f_159_47 (c_wideG hG (by decide)) (by omega) S.k33 (by decide) rfl rfl (Nat.le_of_ble_eq_true rfl) rfl ?_
    refine x_icmpN_gt (t := 152) f_159_50 (by decide) (by omega) (by omega) (fun c_1 => ?_) (fun c_1 => by omega)
    exact K g x v2 v3 v4 v5 hG hE hS hBs (fun _ q => q) (fun b' c' d' e' f' hb hi => by unfold BX at hb; omega)
  | succ n ih =>
    intro I0 x g v2 v3 v4 v5 hI hst hG hE hS hBs K
    have S := hG.1.1
    have a0 := hG.2.2.2.2.2 0 (by decide)
    have a1 := hG.2.2.2.2.2 1 (by decide)
    have a2 := hG.2.2.2.2.2 2 (by decide)
    refine x_iload f_159_43 rfl ?_
    refine x_aload_n f_159_45 rfl ?_
    refine x_iconst (v := nI 0) f_159_46 (by decide) ?_
    refine x_callVe f_159_47 (c_wideG hG (by decide)) (by omega) S.k33 (by decide) rfl rfl (Nat.le_of_ble_eq_true rfl) rfl ?_
    refine x_icmpN_gt (t := 152) f_159_50 (by decide) (by omega) (by omega) (fun c_1 => by omega) (fun c_1 => ?_)
    refine x_iconst (v := nI 0) f_159_53 (by decide) ?_
    refine x_istore (ls1 := [.ref 33, .int (nI w), .int z, .int (nI a), .int (nI I0), .int (nI 0), v3, v4, v5]) f_159_54 (Nat.le_of_ble_eq_true rfl) rfl ?_
    refine great_2 (h := h) (by omega) (W 1 + 1 - 0) 0 x g _ _ _ (by omega) (by omega) hG hE hS hBs ?_
    intro g x2 v3 v4 v5 hG hE hS hBs mono2 cov2
    refine x_iinc (v := nI (I0 + 1)) (ls1 := [.ref 33, .int (nI w), .int z, .int (nI a), .int (nI (I0 + 1)), .int (nI (W 1 + 1)), v3, v4, v5]) f_159_146 rfl (by exact nI_add _ 1) rfl ?_
    refine x_goto (t := 43) f_159_149 (by decide) ?_
    refine ih (I0 + 1) x2 g _ _ _ _ (by omega) (by omega) hG hE hS hBs ?_
    intro g x3 v2 v3 v4 v5 hG hE hS hBs mono3 cov3
    refine K g x3 v2 v3 v4 v5 hG hE hS hBs (fun y q => mono3 y (mono2 y q)) (fun b' c' d' e' f' hb hi => ?_)
    by_cases hq : b' = I0
    · subst hq
      exact (cov2 c' d' e' f' hb (by unfold BX at hb; omega)).up mono3
    · exact cov3 b' c' d' e' f' hb (by omega)
set_option maxRecDepth 20000 in
set_option maxHeartbeats 4000000 in
theorem great_0 {h : mj_H} {jm w : Nat} {z : Int32} {G : Gd} {L W : Nat → Nat}   {Q : Option Value → mj_H → Prop} :
    ∀ (n I0 : Nat) (x : Nat × Nat × Nat) (g : mj_H) (v1 v2 v3 v4 v5 : Value), I0 + n = W 0 + 1 → 0 ≤ I0 → GI g jm w G L W → GE h g jm → BS g x → Bs G L W x → (∀ (g : mj_H) (x' : Nat × Nat × Nat) (v1 v2 v3 v4 v5 : Value), GI g jm w G L W → GE h g jm → BS g x' → Bs G L W x' → (∀ y, kle y x → kle y x') → (∀ a' b' c' d' e' f', BX W a' b' c' d' e' f' → I0 ≤ a' → Dm G L x' a' b' c' d' e' f') → mx 8 159 158 [.ref 33, .int (nI w), .int z, .int (nI (W 0 + 1)), v1, v2, v3, v4, v5] [] g Q) → mx 8 159 31 [.ref 33, .int (nI w), .int z, .int (nI I0), v1, v2, v3, v4, v5] [] g Q := by
  intro n
  induction n with
  | zero =>
    intro I0 x g v1 v2 v3 v4 v5 hI hst hG hE hS hBs K
    have hi : I0 = W 0 + 1 := by omega
    subst hi
    have S := hG.1.1
    have a0 := hG.2.2.2.2.2 0 (by decide)
    have a1 := hG.2.2.2.2.2 1 (by decide)
    have a2 := hG.2.2.2.2.2 2 (by decide)
    refine x_iload_n f_159_31 rfl ?_
    refine x_aload_n f_159_32 rfl ?_
    refine x_iconst (v := nI 0) f_159_33 (by decide) ?_
    refine x_callVe f_159_34 (c_wideG hG (by decide)) (by omega) S.k33 (by decide) rfl rfl (Nat.le_of_ble_eq_true rfl) rfl ?_
    refine x_icmpN_gt (t := 158) f_159_37 (by decide) (by omega) (by omega) (fun c_1 => ?_) (fun c_1 => by omega)
    exact K g x v1 v2 v3 v4 v5 hG hE hS hBs (fun _ q => q) (fun a' b' c' d' e' f' hb hi => by unfold BX at hb; omega)
  | succ n ih =>
    intro I0 x g v1 v2 v3 v4 v5 hI hst hG hE hS hBs K
    have S := hG.1.1
    have a0 := hG.2.2.2.2.2 0 (by decide)
    have a1 := hG.2.2.2.2.2 1 (by decide)
    have a2 := hG.2.2.2.2.2 2 (by decide)
    refine x_iload_n f_159_31 rfl ?_
    refine x_aload_n f_159_32 rfl ?_
    refine x_iconst (v := nI 0) f_159_33 (by decide) ?_
    refine x_callVe f_159_34 (c_wideG hG (by decide)) (by omega) S.k33 (by decide) rfl rfl (Nat.le_of_ble_eq_true rfl) rfl ?_
    refine x_icmpN_gt (t := 158) f_159_37 (by decide) (by omega) (by omega) (fun c_1 => by omega) (fun c_1 => ?_)
    refine x_iload_n f_159_40 rfl ?_
    refine x_istore (ls1 := [.ref 33, .int (nI w), .int z, .int (nI I0), .int (nI I0), v2, v3, v4, v5]) f_159_41 (Nat.le_of_ble_eq_true rfl) rfl ?_
    refine great_1 (h := h) (by omega) (W 0 + 1 - I0) I0 x g _ _ _ _ (by omega) (by omega) hG hE hS hBs ?_
    intro g x2 v2 v3 v4 v5 hG hE hS hBs mono2 cov2
    refine x_iinc (v := nI (I0 + 1)) (ls1 := [.ref 33, .int (nI w), .int z, .int (nI (I0 + 1)), .int (nI (W 0 + 1)), v2, v3, v4, v5]) f_159_152 rfl (by exact nI_add _ 1) rfl ?_
    refine x_goto (t := 31) f_159_155 (by decide) ?_
    refine ih (I0 + 1) x2 g _ _ _ _ _ (by omega) (by omega) hG hE hS hBs ?_
    intro g x3 v1 v2 v3 v4 v5 hG hE hS hBs mono3 cov3
    refine K g x3 v1 v2 v3 v4 v5 hG hE hS hBs (fun y q => mono3 y (mono2 y q)) (fun a' b' c' d' e' f' hb hi => ?_)
    by_cases hq : a' = I0
    · subst hq
      exact (cov2 b' c' d' e' f' hb (by unfold BX at hb; omega)).up mono3
    · exact cov3 a' b' c' d' e' f' hb (by omega)
/-- what is answered of the greatest good box -/
def gbA (x : Nat × Nat × Nat) (z : Int32) : Int32 := if x.1 = 0 then -1 else if z = 0 then nI x.2.1 else if z = nI 1 then nI x.2.2 else nI x.1
set_option maxRecDepth 20000 in
set_option maxHeartbeats 4000000 in
theorem c_greatest {h : mj_H} {jm wm : Nat} (hW : MW h jm) (h_wm : wm ≤ 10) (e_wm : mj_I h 33 21 = nI wm) (hNN : ∀ i, i < wm → WN h i jm) (w : Int32) (z : Int32) : mxc 8 159 [.ref 33, .int w, .int z] h (fun r h' => if mIn w wm ∧ (nI 0 ≤ z ∧ z ≤ nI 2) then ∃ x, GB (wg h w.toNatClampNeg) (wlo h w.toNatClampNeg) (Wd h w.toNatClampNeg) x ∧ r = some (.int (gbA x z)) ∧ SQ h h' jm else r = some (.int (-1)) ∧ h' = h) := by
  have S : SM h := hW.1
  show mx 8 159 0 [.ref 33, .int w, .int z, mj_unset, mj_unset, mj_unset, mj_unset, mj_unset, mj_unset] [] h _
  refine x_aload_n f_159_0 rfl ?_
  refine x_iload_n f_159_1 rfl ?_
  refine x_callVe f_159_2 (c_isWindow hW.1 _ (n := wm) (by omega) e_wm) (by omega) S.k33 (by decide) rfl rfl (Nat.le_of_ble_eq_true rfl) rfl ?_
  refine x_ifB_eq (t := 17) f_159_5 (by decide) (fun c_1 => ?_) (fun c_1 => ?_)
  · refine x_iconst (v := -1) f_159_17 (by decide) ?_
    refine x_retI f_159_18 rfl ?_
    exact mj_qF (by first | exact fun q => c_1 (q.1) | exact fun q => (q.1) c_1) ⟨rfl, rfl⟩
  · refine x_iload_n f_159_8 rfl ?_
    refine x_iconst (v := nI 0) f_159_9 (by decide) ?_
    refine x_iconst (v := nI 2) f_159_10 (by decide) ?_
    refine x_callSe f_159_11 (c_in _ _ _ _) (by omega) rfl rfl rfl (Nat.le_of_ble_eq_true rfl) rfl ?_
    refine x_ifB_ne (t := 19) f_159_14 (by decide) (fun c_2 => ?_) (fun c_2 => ?_)
    · obtain ⟨i, h_i, rfl⟩ := mIn_of c_1 (by omega)
      have hN := hNN i h_i
      simp only [nI_clamp (show i < 2 ^ 31 by omega)]
      refine x_aload_n f_159_19 rfl ?_
      refine x_iload_n f_159_20 rfl ?_
      refine x_putI f_159_21 S.k33 (by decide) ?_
      refine x_aload_n f_159_24 rfl ?_
      refine x_iconst (v := nI 0) f_159_25 (by decide) ?_
      refine x_putI f_159_26 S.k33 (by decide) ?_
      have hG : GI (mj_setI (mj_setI h 33 22 (nI i)) 33 33 (nI 0)) jm i (wg h i) (wlo h i) (Wd h i) := by
        have e36 : mj_I (mj_setI (mj_setI h 33 22 (nI i)) 33 33 (nI 0)) 36 = mj_I h 36 := (mj_I_other (by decide)).trans (mj_I_other (by decide))
        have e45 : mj_I (mj_setI (mj_setI h 33 22 (nI i)) 33 33 (nI 0)) 45 = mj_I h 45 := (mj_I_other (by decide)).trans (mj_I_other (by decide))
        have e46 : mj_I (mj_setI (mj_setI h 33 22 (nI i)) 33 33 (nI 0)) 46 = mj_I h 46 := (mj_I_other (by decide)).trans (mj_I_other (by decide))
        have e47 : mj_I (mj_setI (mj_setI h 33 22 (nI i)) 33 33 (nI 0)) 47 = mj_I h 47 := (mj_I_other (by decide)).trans (mj_I_other (by decide))
        refine ⟨MW_33 (MW_33 hW), by omega, (mj_I_ne (by decide)).trans (mj_I_at _ _ _ _), WN_to e45 e46 e47 hN, fun t p l => wg_to e36 e45 e46 i t p l, fun a ha => ?_⟩
        have qa := hN.2.2 a ha
        have eq : wlo (mj_setI (mj_setI h 33 22 (nI i)) 33 33 (nI 0)) i a = wlo h i a := by unfold wlo; rw [e46]
        have eq2 : whi (mj_setI (mj_setI h 33 22 (nI i)) 33 33 (nI 0)) i a = whi h i a := by unfold whi; rw [e47]
        rw [eq, eq2]
        unfold Wd
        omega
      have hw5 := Wd_5 hN
      refine x_iconst (v := nI 0) f_159_29 (by decide) ?_
      refine x_istore_n (ls1 := [.ref 33, .int (nI i), .int z, .int (nI 0), mj_unset, mj_unset, mj_unset, mj_unset, mj_unset]) f_159_30 (Nat.le_of_ble_eq_true rfl) rfl ?_
      have S := hG.1.1
      refine great_0 (h := mj_setI (mj_setI h 33 22 (nI i)) 33 33 (nI 0)) (G := wg h i) (L := wlo h i) (W := Wd h i) (Wd h i 0 + 1) 0 (0, 0, 0) _ _ _ _ _ _ (by omega) (Nat.zero_le _) hG (GE.rf hG.1) ⟨mj_I_at _ _ _ _, by decide, Or.inl rfl⟩ (Or.inl rfl) ?_
      intro g x v1 v2 v3 v4 v5 hG hE hS hBs mono cov
      have S := hG.1.1
      obtain ⟨m, X, Y⟩ := x
      have e33 : mj_I g 33 33 = nI m := hS.1
      have m216 : m ≤ 216 := hS.2.1
      have hsq : SQ h g jm := (((SQ.rf hW).set33 (by decide)).set33 (by decide)).trans hE.sq
      rcases hS.2.2 with hm | ⟨e31, e32, hX, hY⟩
      · replace hm : m = 0 := hm
        refine x_aload_n f_159_158 rfl ?_
        refine x_getI f_159_159 S.k33 (by decide) ?_
        refine x_topi (w := nI m) e33 ?_
        refine x_ifN_ne (t := 169) f_159_162 (by decide) (by omega) (fun c_m0 => by omega) (fun c_m0 => ?_)
        refine x_iconst (v := -1) f_159_165 (by decide) ?_
        refine x_goto (t := 196) f_159_166 (by decide) ?_
        refine x_retI f_159_196 rfl ?_
        refine mj_qT ⟨c_1, c_2⟩ ⟨(m, X, Y), ⟨hBs, fun a b c d e f hb => cov a b c d e f hb (Nat.zero_le _)⟩, ?_, hsq⟩
        show some (Value.int (-1)) = some (.int (gbA (m, X, Y) z))
        unfold gbA
        rw [if_pos hm]
      · replace e31 : mj_I g 33 31 = nI X := e31
        replace e32 : mj_I g 33 32 = nI Y := e32
        by_cases hm : m = 0
        · refine x_aload_n f_159_158 rfl ?_
          refine x_getI f_159_159 S.k33 (by decide) ?_
          refine x_topi (w := nI m) e33 ?_
          refine x_ifN_ne (t := 169) f_159_162 (by decide) (by omega) (fun c_m0 => by omega) (fun c_m0 => ?_)
          refine x_iconst (v := -1) f_159_165 (by decide) ?_
          refine x_goto (t := 196) f_159_166 (by decide) ?_
          refine x_retI f_159_196 rfl ?_
          refine mj_qT ⟨c_1, c_2⟩ ⟨(m, X, Y), ⟨hBs, fun a b c d e f hb => cov a b c d e f hb (Nat.zero_le _)⟩, ?_, hsq⟩
          show some (Value.int (-1)) = some (.int (gbA (m, X, Y) z))
          unfold gbA
          rw [if_pos hm]
        · refine x_aload_n f_159_158 rfl ?_
          refine x_getI f_159_159 S.k33 (by decide) ?_
          refine x_topi (w := nI m) e33 ?_
          refine x_ifN_ne (t := 169) f_159_162 (by decide) (by omega) (fun c_m0 => ?_) (fun c_m0 => by omega)
          refine x_iload_n f_159_169 rfl ?_
          refine x_if_ne (t := 180) f_159_170 (by decide) (fun c_z0 => ?_) (fun c_z0 => ?_)
          · refine x_iload_n f_159_180 rfl ?_
            refine x_iconst (v := nI 1) f_159_181 (by decide) ?_
            refine x_icmp_ne (t := 192) f_159_182 (by decide) (fun c_z1 => ?_) (fun c_z1 => ?_)
            · refine x_aload_n f_159_192 rfl ?_
              refine x_getI f_159_193 S.k33 (by decide) ?_
              refine x_topi (w := nI m) e33 ?_
              refine x_retI f_159_196 rfl ?_
              refine mj_qT ⟨c_1, c_2⟩ ⟨(m, X, Y), ⟨hBs, fun a b c d e f hb => cov a b c d e f hb (Nat.zero_le _)⟩, ?_, hsq⟩
              unfold gbA
              rw [if_neg hm, if_neg c_z0, if_neg c_z1]
            · refine x_aload_n f_159_185 rfl ?_
              refine x_getI f_159_186 S.k33 (by decide) ?_
              refine x_topi (w := nI Y) e32 ?_
              refine x_goto (t := 196) f_159_189 (by decide) ?_
              refine x_retI f_159_196 rfl ?_
              refine mj_qT ⟨c_1, c_2⟩ ⟨(m, X, Y), ⟨hBs, fun a b c d e f hb => cov a b c d e f hb (Nat.zero_le _)⟩, ?_, hsq⟩
              unfold gbA
              rw [if_neg hm, if_neg c_z0, if_pos c_z1]
          · refine x_aload_n f_159_173 rfl ?_
            refine x_getI f_159_174 S.k33 (by decide) ?_
            refine x_topi (w := nI X) e31 ?_
            refine x_goto (t := 196) f_159_177 (by decide) ?_
            refine x_retI f_159_196 rfl ?_
            refine mj_qT ⟨c_1, c_2⟩ ⟨(m, X, Y), ⟨hBs, fun a b c d e f hb => cov a b c d e f hb (Nat.zero_le _)⟩, ?_, hsq⟩
            unfold gbA
            rw [if_neg hm, if_pos c_z0]
    · refine x_iconst (v := -1) f_159_17 (by decide) ?_
      refine x_retI f_159_18 rfl ?_
      exact mj_qF (by first | exact fun q => c_2 (q.2) | exact fun q => (q.2) c_2) ⟨rfl, rfl⟩
