theorem f_160_0 : mj_fetch 160 0 = some (.iconst 0, 0, 0) := by decide +kernel
theorem f_160_1 : mj_fetch 160 1 = some (.istore_n 2, 0, 0) := by decide +kernel
theorem f_160_2 : mj_fetch 160 2 = some (.iconst 0, 0, 0) := by decide +kernel
theorem f_160_3 : mj_fetch 160 3 = some (.istore_n 3, 0, 0) := by decide +kernel
theorem f_160_4 : mj_fetch 160 4 = some (.iload_n 3, 0, 0) := by decide +kernel
theorem f_160_5 : mj_fetch 160 5 = some (.iconst 3, 0, 0) := by decide +kernel
theorem f_160_6 : mj_fetch 160 6 = some (.if_icmp .ge 26, 0, 0) := by decide +kernel
theorem f_160_9 : mj_fetch 160 9 = some (.iload_n 2, 0, 0) := by decide +kernel
theorem f_160_10 : mj_fetch 160 10 = some (.iload_n 0, 0, 0) := by decide +kernel
theorem f_160_11 : mj_fetch 160 11 = some (.iload_n 3, 0, 0) := by decide +kernel
theorem f_160_12 : mj_fetch 160 12 = some (.invokestatic 137, 125, 0) := by decide +kernel
theorem f_160_15 : mj_fetch 160 15 = some (.iload_n 1, 0, 0) := by decide +kernel
theorem f_160_16 : mj_fetch 160 16 = some (.iload_n 3, 0, 0) := by decide +kernel
theorem f_160_17 : mj_fetch 160 17 = some (.invokestatic 137, 125, 0) := by decide +kernel
theorem f_160_20 : mj_fetch 160 20 = some (.isub, 0, 0) := by decide +kernel
theorem f_160_21 : mj_fetch 160 21 = some (.invokestatic 246, 0, 4) := by decide +kernel
theorem f_160_24 : mj_fetch 160 24 = some (.iadd, 0, 0) := by decide +kernel
theorem f_160_25 : mj_fetch 160 25 = some (.istore_n 2, 0, 0) := by decide +kernel
theorem f_160_26 : mj_fetch 160 26 = some (.iinc 3 1, 0, 0) := by decide +kernel
theorem f_160_29 : mj_fetch 160 29 = some (.goto (-25), 0, 0) := by decide +kernel
theorem f_160_32 : mj_fetch 160 32 = some (.iload_n 2, 0, 0) := by decide +kernel
theorem f_160_33 : mj_fetch 160 33 = some (.ireturn, 0, 0) := by decide +kernel
theorem f_161_140 : mj_fetch 161 140 = some (.iload 7, 0, 0) := by decide +kernel
theorem f_161_142 : mj_fetch 161 142 = some (.aload_n 0, 0, 0) := by decide +kernel
theorem f_161_143 : mj_fetch 161 143 = some (.getfield 50, 11, 20) := by decide +kernel
theorem f_161_146 : mj_fetch 161 146 = some (.iconst 3, 0, 0) := by decide +kernel
theorem f_161_147 : mj_fetch 161 147 = some (.iload_n 1, 0, 0) := by decide +kernel
theorem f_161_148 : mj_fetch 161 148 = some (.imul, 0, 0) := by decide +kernel
theorem f_161_149 : mj_fetch 161 149 = some (.iconst 2, 0, 0) := by decide +kernel
theorem f_161_150 : mj_fetch 161 150 = some (.iadd, 0, 0) := by decide +kernel
theorem f_161_151 : mj_fetch 161 151 = some (.iaload, 0, 0) := by decide +kernel
theorem f_161_152 : mj_fetch 161 152 = some (.if_icmp .gt 94, 0, 0) := by decide +kernel
theorem f_161_155 : mj_fetch 161 155 = some (.iload 5, 0, 0) := by decide +kernel
theorem f_161_157 : mj_fetch 161 157 = some (.iload 6, 0, 0) := by decide +kernel
theorem f_161_159 : mj_fetch 161 159 = some (.iload 7, 0, 0) := by decide +kernel
theorem f_161_161 : mj_fetch 161 161 = some (.invokestatic 129, 124, 0) := by decide +kernel
theorem f_161_164 : mj_fetch 161 164 = some (.istore 8, 0, 0) := by decide +kernel
theorem f_161_166 : mj_fetch 161 166 = some (.aload_n 0, 0, 0) := by decide +kernel
theorem f_161_167 : mj_fetch 161 167 = some (.iload_n 3, 0, 0) := by decide +kernel
theorem f_161_168 : mj_fetch 161 168 = some (.iload 8, 0, 0) := by decide +kernel
theorem f_161_170 : mj_fetch 161 170 = some (.invokevirtual 172, 131, 0) := by decide +kernel
theorem f_161_173 : mj_fetch 161 173 = some (.ifCond .ne 7, 0, 0) := by decide +kernel
theorem f_161_176 : mj_fetch 161 176 = some (.iconst 1, 0, 0) := by decide +kernel
theorem f_161_177 : mj_fetch 161 177 = some (.goto 4, 0, 0) := by decide +kernel
theorem f_161_180 : mj_fetch 161 180 = some (.iconst 0, 0, 0) := by decide +kernel
theorem f_161_181 : mj_fetch 161 181 = some (.aload_n 0, 0, 0) := by decide +kernel
theorem f_161_182 : mj_fetch 161 182 = some (.iload_n 3, 0, 0) := by decide +kernel
theorem f_161_183 : mj_fetch 161 183 = some (.iload_n 2, 0, 0) := by decide +kernel
theorem f_161_184 : mj_fetch 161 184 = some (.invokevirtual 172, 131, 0) := by decide +kernel
theorem f_161_187 : mj_fetch 161 187 = some (.ifCond .ne 7, 0, 0) := by decide +kernel
theorem f_161_190 : mj_fetch 161 190 = some (.iconst 1, 0, 0) := by decide +kernel
theorem f_161_191 : mj_fetch 161 191 = some (.goto 4, 0, 0) := by decide +kernel
theorem f_161_194 : mj_fetch 161 194 = some (.iconst 0, 0, 0) := by decide +kernel
theorem f_161_195 : mj_fetch 161 195 = some (.if_icmp .eq 7, 0, 0) := by decide +kernel
theorem f_161_198 : mj_fetch 161 198 = some (.iconst 1, 0, 0) := by decide +kernel
theorem f_161_199 : mj_fetch 161 199 = some (.goto 4, 0, 0) := by decide +kernel
theorem f_161_202 : mj_fetch 161 202 = some (.iconst 0, 0, 0) := by decide +kernel
theorem f_161_203 : mj_fetch 161 203 = some (.istore 9, 0, 0) := by decide +kernel
theorem f_161_205 : mj_fetch 161 205 = some (.iload 9, 0, 0) := by decide +kernel
theorem f_161_207 : mj_fetch 161 207 = some (.ifCond .eq 29, 0, 0) := by decide +kernel
theorem f_161_210 : mj_fetch 161 210 = some (.iload 4, 0, 0) := by decide +kernel
theorem f_161_212 : mj_fetch 161 212 = some (.iconst (-1), 0, 0) := by decide +kernel
theorem f_161_213 : mj_fetch 161 213 = some (.if_icmp .eq 18, 0, 0) := by decide +kernel
theorem f_161_231 : mj_fetch 161 231 = some (.iload 8, 0, 0) := by decide +kernel
theorem f_161_233 : mj_fetch 161 233 = some (.goto 5, 0, 0) := by decide +kernel
theorem f_161_236 : mj_fetch 161 236 = some (.iload 4, 0, 0) := by decide +kernel
theorem f_161_238 : mj_fetch 161 238 = some (.istore 4, 0, 0) := by decide +kernel
theorem f_161_240 : mj_fetch 161 240 = some (.iinc 7 1, 0, 0) := by decide +kernel
theorem f_161_243 : mj_fetch 161 243 = some (.goto (-103), 0, 0) := by decide +kernel
theorem f_161_216 : mj_fetch 161 216 = some (.iload_n 2, 0, 0) := by decide +kernel
theorem f_161_217 : mj_fetch 161 217 = some (.iload 8, 0, 0) := by decide +kernel
theorem f_161_219 : mj_fetch 161 219 = some (.invokestatic 249, 160, 0) := by decide +kernel
theorem f_161_222 : mj_fetch 161 222 = some (.iload_n 2, 0, 0) := by decide +kernel
theorem f_161_223 : mj_fetch 161 223 = some (.iload 4, 0, 0) := by decide +kernel
theorem f_161_225 : mj_fetch 161 225 = some (.invokestatic 249, 160, 0) := by decide +kernel
theorem f_161_228 : mj_fetch 161 228 = some (.if_icmp .ge 8, 0, 0) := by decide +kernel
theorem nI_abs {x y : Nat} (hx : x < 2 ^ 30) (hy : y < 2 ^ 30) : (if 0 ≤ nI x - nI y then nI x - nI y else 0 - (nI x - nI y)) = nI ((x - y) + (y - x)) := by
  by_cases h : y ≤ x
  · rw [pk_sub h, if_pos (by rw [Int32.le_iff_toInt_le, nI_toInt (by omega)]; exact Int.natCast_nonneg _), show x - y + (y - x) = x - y by omega]
  · have e : (nI x - nI y).toInt = (x : Int) - y := pk_sub_toInt (by omega) (by omega)
    have e0 : (0 : Int32).toInt = 0 := rfl
    rw [if_neg (by rw [Int32.le_iff_toInt_le, e, e0]; omega), show x - y + (y - x) = y - x by omega, ← pk_sub (show x ≤ y by omega)]
    rw [Int32.zero_sub, Int32.neg_sub]
def ad (x y : Nat) : Nat := (x - y) + (y - x)
/-- the steps between two settings -/
def sts (s o : Nat) : Nat := ad (mm_pt s 0 + 1) (mm_pt o 0 + 1) + ad (mm_pt s 1 + 1) (mm_pt o 1 + 1) + ad (mm_pt s 2 + 1) (mm_pt o 2 + 1)
theorem ad_lt {x y : Nat} (hx : x ≤ 10) (hy : y ≤ 10) : ad x y ≤ 10 := by unfold ad; omega
theorem c_inN (h : mj_H) {v lo hi : Nat} (h1 : v < 2 ^ 31) (h2 : lo < 2 ^ 31) (h3 : hi < 2 ^ 31) : mxc 0 112 [.int (nI v), .int (nI lo), .int (nI hi)] h (fun r h' => r = some (.int (if lo ≤ v ∧ v ≤ hi then 1 else 0)) ∧ h' = h) := by
  refine (c_in h (nI v) (nI lo) (nI hi)).post ?_
  rintro _ _ ⟨rfl, rfl⟩
  refine ⟨?_, rfl⟩
  simp only [nI_leI h2 h1, nI_leI h1 h3]

set_option maxRecDepth 20000 in
theorem c_steps (h : mj_H) {s o : Nat} (hs : s < 729) (ho : o < 729) : mxc 1 160 [.int (nI s), .int (nI o)] h (fun r h' => r = some (.int (nI (sts s o))) ∧ h' = h) := by
  have p0 := mm_pt_lt s 0 hs
  have p1 := mm_pt_lt s 1 hs
  have p2 := mm_pt_lt s 2 hs
  have q0 := mm_pt_lt o 0 ho
  have q1 := mm_pt_lt o 1 ho
  have q2 := mm_pt_lt o 2 ho
  show mx 1 160 0 [.int (nI s), .int (nI o), mj_unset, mj_unset] [] h _
  refine x_iconst (v := nI 0) f_160_0 (by decide) ?_
  refine x_istore_n (ls1 := [.int (nI s), .int (nI o), .int (nI 0), mj_unset]) f_160_1 (Nat.le_of_ble_eq_true rfl) rfl ?_
  refine x_iconst (v := nI 0) f_160_2 (by decide) ?_
  refine x_istore_n (ls1 := [.int (nI s), .int (nI o), .int (nI 0), .int (nI 0)]) f_160_3 (Nat.le_of_ble_eq_true rfl) rfl ?_
  refine x_iload_n f_160_4 rfl ?_
  refine x_iconst (v := nI 3) f_160_5 (by decide) ?_
  refine x_icmpN_ge (t := 32) f_160_6 (by decide) (by decide) (by decide) (fun c_1 => by omega) (fun c_1 => ?_)
  refine x_iload_n f_160_9 rfl ?_
  refine x_iload_n f_160_10 rfl ?_
  refine x_iload_n f_160_11 rfl ?_
  refine x_callSe f_160_12 (c_part _ _ _ (by omega) (by decide)) (by omega) rfl rfl rfl (Nat.le_of_ble_eq_true rfl) rfl ?_
  refine x_iload_n f_160_15 rfl ?_
  refine x_iload_n f_160_16 rfl ?_
  refine x_callSe f_160_17 (c_part _ _ _ (by omega) (by decide)) (by omega) rfl rfl rfl (Nat.le_of_ble_eq_true rfl) rfl ?_
  refine x_isub f_160_20 ?_
  refine x_abs f_160_21 (Nat.le_of_ble_eq_true rfl) ?_
  refine x_topi (w := nI (ad (mm_pt s 0 + 1) (mm_pt o 0 + 1))) (nI_abs (by omega) (by omega)) ?_
  refine x_iaddN f_160_24 ?_
  refine x_istore_n (ls1 := [.int (nI s), .int (nI o), .int (nI (0 + (ad (mm_pt s 0 + 1) (mm_pt o 0 + 1)))), .int (nI 0)]) f_160_25 (Nat.le_of_ble_eq_true rfl) rfl ?_
  refine x_iinc (v := nI 1) (ls1 := [.int (nI s), .int (nI o), .int (nI (0 + (ad (mm_pt s 0 + 1) (mm_pt o 0 + 1)))), .int (nI 1)]) f_160_26 rfl (by decide) rfl ?_
  refine x_goto (t := 4) f_160_29 (by decide) ?_
  refine x_iload_n f_160_4 rfl ?_
  refine x_iconst (v := nI 3) f_160_5 (by decide) ?_
  refine x_icmpN_ge (t := 32) f_160_6 (by decide) (by decide) (by decide) (fun c_2 => by omega) (fun c_2 => ?_)
  refine x_iload_n f_160_9 rfl ?_
  refine x_iload_n f_160_10 rfl ?_
  refine x_iload_n f_160_11 rfl ?_
  refine x_callSe f_160_12 (c_part _ _ _ (by omega) (by decide)) (by omega) rfl rfl rfl (Nat.le_of_ble_eq_true rfl) rfl ?_
  refine x_iload_n f_160_15 rfl ?_
  refine x_iload_n f_160_16 rfl ?_
  refine x_callSe f_160_17 (c_part _ _ _ (by omega) (by decide)) (by omega) rfl rfl rfl (Nat.le_of_ble_eq_true rfl) rfl ?_
  refine x_isub f_160_20 ?_
  refine x_abs f_160_21 (Nat.le_of_ble_eq_true rfl) ?_
  refine x_topi (w := nI (ad (mm_pt s 1 + 1) (mm_pt o 1 + 1))) (nI_abs (by omega) (by omega)) ?_
  refine x_iaddN f_160_24 ?_
  refine x_istore_n (ls1 := [.int (nI s), .int (nI o), .int (nI ((0 + (ad (mm_pt s 0 + 1) (mm_pt o 0 + 1))) + (ad (mm_pt s 1 + 1) (mm_pt o 1 + 1)))), .int (nI 1)]) f_160_25 (Nat.le_of_ble_eq_true rfl) rfl ?_
  refine x_iinc (v := nI 2) (ls1 := [.int (nI s), .int (nI o), .int (nI ((0 + (ad (mm_pt s 0 + 1) (mm_pt o 0 + 1))) + (ad (mm_pt s 1 + 1) (mm_pt o 1 + 1)))), .int (nI 2)]) f_160_26 rfl (by decide) rfl ?_
  refine x_goto (t := 4) f_160_29 (by decide) ?_
  refine x_iload_n f_160_4 rfl ?_
  refine x_iconst (v := nI 3) f_160_5 (by decide) ?_
  refine x_icmpN_ge (t := 32) f_160_6 (by decide) (by decide) (by decide) (fun c_3 => by omega) (fun c_3 => ?_)
  refine x_iload_n f_160_9 rfl ?_
  refine x_iload_n f_160_10 rfl ?_
  refine x_iload_n f_160_11 rfl ?_
  refine x_callSe f_160_12 (c_part _ _ _ (by omega) (by decide)) (by omega) rfl rfl rfl (Nat.le_of_ble_eq_true rfl) rfl ?_
  refine x_iload_n f_160_15 rfl ?_
  refine x_iload_n f_160_16 rfl ?_
  refine x_callSe f_160_17 (c_part _ _ _ (by omega) (by decide)) (by omega) rfl rfl rfl (Nat.le_of_ble_eq_true rfl) rfl ?_
  refine x_isub f_160_20 ?_
  refine x_abs f_160_21 (Nat.le_of_ble_eq_true rfl) ?_
  refine x_topi (w := nI (ad (mm_pt s 2 + 1) (mm_pt o 2 + 1))) (nI_abs (by omega) (by omega)) ?_
  refine x_iaddN f_160_24 ?_
  refine x_istore_n (ls1 := [.int (nI s), .int (nI o), .int (nI (((0 + (ad (mm_pt s 0 + 1) (mm_pt o 0 + 1))) + (ad (mm_pt s 1 + 1) (mm_pt o 1 + 1))) + (ad (mm_pt s 2 + 1) (mm_pt o 2 + 1)))), .int (nI 2)]) f_160_25 (Nat.le_of_ble_eq_true rfl) rfl ?_
  refine x_iinc (v := nI 3) (ls1 := [.int (nI s), .int (nI o), .int (nI (((0 + (ad (mm_pt s 0 + 1) (mm_pt o 0 + 1))) + (ad (mm_pt s 1 + 1) (mm_pt o 1 + 1))) + (ad (mm_pt s 2 + 1) (mm_pt o 2 + 1)))), .int (nI 3)]) f_160_26 rfl (by decide) rfl ?_
  refine x_goto (t := 4) f_160_29 (by decide) ?_
  refine x_iload_n f_160_4 rfl ?_
  refine x_iconst (v := nI 3) f_160_5 (by decide) ?_
  refine x_icmpN_ge (t := 32) f_160_6 (by decide) (by decide) (by decide) (fun c_4 => ?_) (fun c_4 => by omega)
  refine x_iload_n f_160_32 rfl ?_
  refine x_retI f_160_33 rfl ?_
  exact ⟨by rw [Nat.zero_add]; rfl, rfl⟩
theorem sts_lt {s o : Nat} (hs : s < 729) (ho : o < 729) : sts s o ≤ 30 := by
  have p0 := mm_pt_lt s 0 hs
  have p1 := mm_pt_lt s 1 hs
  have p2 := mm_pt_lt s 2 hs
  have q0 := mm_pt_lt o 0 ho
  have q1 := mm_pt_lt o 1 ho
  have q2 := mm_pt_lt o 2 ho
  have a0 := ad_lt (show mm_pt s 0 + 1 ≤ 10 by omega) (show mm_pt o 0 + 1 ≤ 10 by omega)
  have a1 := ad_lt (show mm_pt s 1 + 1 ≤ 10 by omega) (show mm_pt o 1 + 1 ≤ 10 by omega)
  have a2 := ad_lt (show mm_pt s 2 + 1 ≤ 10 by omega) (show mm_pt o 2 + 1 ≤ 10 by omega)
  unfold sts
  omega
/-! THE NEAREST SETTING WITH ANOTHER ANSWER -/
def sO (t p l : Nat) : Nat := 81 * (t - 1) + 9 * (p - 1) + (l - 1)
/-- V: which settings are good -/
def Ed (V : Nat → Bool) (s : Nat) (best : Option Nat) (o : Nat) : Prop := V o ≠ V s → ∃ b, best = some b ∧ (sts s b < sts s o ∨ (sts s b = sts s o ∧ b ≤ o))
def iW (L H : Nat → Nat) (o : Nat) : Prop := ∃ t p l, L 0 ≤ t ∧ t ≤ H 0 ∧ L 1 ≤ p ∧ p ≤ H 1 ∧ L 2 ≤ l ∧ l ≤ H 2 ∧ o = sO t p l
def Eb (V : Nat → Bool) (s : Nat) (L H : Nat → Nat) (best : Option Nat) : Prop := ∀ b, best = some b → iW L H b ∧ V b ≠ V s
/-- the setting of the window that answers otherwise in the fewest steps, the lowest of such -/
def ED (V : Nat → Bool) (s : Nat) (L H : Nat → Nat) (best : Option Nat) : Prop := Eb V s L H best ∧ ∀ o, iW L H o → Ed V s best o
theorem ED_one {V : Nat → Bool} {s : Nat} {L H : Nat → Nat} {x y : Option Nat} (hx : ED V s L H x) (hy : ED V s L H y) : x = y := by
  cases x with
  | none =>
    cases y with
    | none => rfl
    | some b =>
      have k := hy.1 b rfl
      obtain ⟨c, hc, _⟩ := hx.2 b k.1 k.2
      exact absurd hc (by simp)
  | some a =>
    have ka := hx.1 a rfl
    obtain ⟨c, hc, h1⟩ := hy.2 a ka.1 ka.2
    subst hc
    have kc := hy.1 c rfl
    obtain ⟨d, hd, h2⟩ := hx.2 c kc.1 kc.2
    have : a = d := Option.some.inj hd
    subst this
    have : a = c := by omega
    rw [this]
theorem Ed_new {V : Nat → Bool} {s o : Nat} {best : Option Nat} (hb : ∀ b, best = some b → sts s o < sts s b) {o' : Nat} (h : Ed V s best o') : Ed V s (some o) o' := by
  intro q
  obtain ⟨b, hb1, hb2⟩ := h q
  have := hb b hb1
  exact ⟨o, rfl, by omega⟩
def gdV (h : mj_H) (j : Nat) : Nat → Bool := fun z => decide (vd h j z = 0)

set_option maxRecDepth 20000 in
set_option maxHeartbeats 4000000 in
theorem edge_l3 {h : mj_H} {jm w s t p : Nat} (hw : w < 10) (hN : WN h w jm) (hs : s < 729) (ht : wlo h w 0 ≤ t ∧ t ≤ whi h w 0) (hp : wlo h w 1 ≤ p ∧ p ≤ whi h w 1) {Q : Option Value → mj_H → Prop} :
    ∀ (n l : Nat) (best : Option Nat) (g : mj_H) (v8 v9 : Value), l + n = whi h w 2 + 1 → wlo h w 2 ≤ l → MV h g jm → Eb (gdV h (wj h w)) s (wlo h w) (whi h w) best → (∀ b, best = some b → b < sO t p l) →
    (∀ (g : mj_H) (best' : Option Nat) (v8 v9 : Value), MV h g jm → Eb (gdV h (wj h w)) s (wlo h w) (whi h w) best' → (∀ b, best' = some b → b < sO t p (whi h w 2 + 1)) → (∀ o, Ed (gdV h (wj h w)) s best o → Ed (gdV h (wj h w)) s best' o) → (∀ l', l ≤ l' → l' ≤ whi h w 2 → Ed (gdV h (wj h w)) s best' (sO t p l')) → mx 6 161 246 [.ref 33, .int (nI w), .int (nI s), .int (nI (wj h w)), .int (ckA best'), .int (nI t), .int (nI p), .int (nI (whi h w 2 + 1)), v8, v9] [] g Q) → mx 6 161 140 [.ref 33, .int (nI w), .int (nI s), .int (nI (wj h w)), .int (ckA best), .int (nI t), .int (nI p), .int (nI l), v8, v9] [] g Q := by
  intro n
  induction n with
  | zero =>
    intro l best g v8 v9 hl hl1 hv hEb hlt K
    have hi : l = whi h w 2 + 1 := by omega
    subst hi
    have S := hv.1.1
    have e46 : mj_I g 46 = mj_I h 46 := hv.2.1.i (by decide)
    have e47 : mj_I g 47 = mj_I h 47 := hv.2.1.i (by decide)
    have a0 := hN.2.2 0 (by decide)
    have a1 := hN.2.2 1 (by decide)
    have a2 := hN.2.2 2 (by decide)
    have k460 : mj_I g 46 (3 * w) = nI (wlo h w 0) := by rw [e46]; exact a0.1
    have k461 : mj_I g 46 (3 * w + 1) = nI (wlo h w 1) := by rw [e46]; exact a1.1
    have k462 : mj_I g 46 (3 * w + 2) = nI (wlo h w 2) := by rw [e46]; exact a2.1
    have k470 : mj_I g 47 (3 * w) = nI (whi h w 0) := by rw [e47]; exact a0.2.1
    have k471 : mj_I g 47 (3 * w + 1) = nI (whi h w 1) := by rw [e47]; exact a1.2.1
    have k472 : mj_I g 47 (3 * w + 2) = nI (whi h w 2) := by rw [e47]; exact a2.2.1
    refine x_iload f_161_140 rfl ?_
    refine x_aload_n f_161_142 rfl ?_
    refine x_getR f_161_143 S.k33 (by decide) S.r20 ?_
    refine x_iconst (v := nI 3) f_161_146 (by decide) ?_
    refine x_iload_n f_161_147 rfl ?_
    refine x_imulN f_161_148 ?_
    refine x_iconst (v := nI 2) f_161_149 (by decide) ?_
    refine x_iaddN f_161_150 ?_
    refine x_iald (j := ((3 * w) + 2)) f_161_151 S.k47 (by omega) (by decide) ?_
    refine x_topi (w := nI (whi h w 2)) k472 ?_
    refine x_icmpN_gt (t := 246) f_161_152 (by decide) (by omega) (by omega) (fun c_1 => ?_) (fun c_1 => by omega)
    exact K g best v8 v9 hv hEb hlt (fun _ q => q) (fun l' h1 h2 => by omega)
  | succ n ih =>
    intro l best g v8 v9 hl hl1 hv hEb hlt K
    have S := hv.1.1
    have e46 : mj_I g 46 = mj_I h 46 := hv.2.1.i (by decide)
    have e47 : mj_I g 47 = mj_I h 47 := hv.2.1.i (by decide)
    have a0 := hN.2.2 0 (by decide)
    have a1 := hN.2.2 1 (by decide)
    have a2 := hN.2.2 2 (by decide)
    have k460 : mj_I g 46 (3 * w) = nI (wlo h w 0) := by rw [e46]; exact a0.1
    have k461 : mj_I g 46 (3 * w + 1) = nI (wlo h w 1) := by rw [e46]; exact a1.1
    have k462 : mj_I g 46 (3 * w + 2) = nI (wlo h w 2) := by rw [e46]; exact a2.1
    have k470 : mj_I g 47 (3 * w) = nI (whi h w 0) := by rw [e47]; exact a0.2.1
    have k471 : mj_I g 47 (3 * w + 1) = nI (whi h w 1) := by rw [e47]; exact a1.2.1
    have k472 : mj_I g 47 (3 * w + 2) = nI (whi h w 2) := by rw [e47]; exact a2.2.1
    have hO : sO t p l < 729 := by unfold sO; omega
    have hsucc : sO t p l < sO t p (l + 1) := by unfold sO; omega
    have hset : (81 : Int32) * ((nI t) - 1) + 9 * ((nI p) - 1) + (nI l) - 1 = nI (sO t p l) := by
      have q := mm_set (t - 1) (p - 1) (l - 1)
      rw [show t - 1 + 1 = t by omega, show p - 1 + 1 = p by omega, show l - 1 + 1 = l by omega] at q
      exact q
    have s1 := sts_lt hs hO
    cases best with
    | none =>
      show mx 6 161 140 [.ref 33, .int (nI w), .int (nI s), .int (nI (wj h w)), .int (-1), .int (nI t), .int (nI p), .int (nI l), v8, v9] [] g Q
      refine x_iload f_161_140 rfl ?_
      refine x_aload_n f_161_142 rfl ?_
      refine x_getR f_161_143 S.k33 (by decide) S.r20 ?_
      refine x_iconst (v := nI 3) f_161_146 (by decide) ?_
      refine x_iload_n f_161_147 rfl ?_
      refine x_imulN f_161_148 ?_
      refine x_iconst (v := nI 2) f_161_149 (by decide) ?_
      refine x_iaddN f_161_150 ?_
      refine x_iald (j := ((3 * w) + 2)) f_161_151 S.k47 (by omega) (by decide) ?_
      refine x_topi (w := nI (whi h w 2)) k472 ?_
      refine x_icmpN_gt (t := 246) f_161_152 (by decide) (by omega) (by omega) (fun c_1 => by omega) (fun c_1 => ?_)
      refine x_iload f_161_155 rfl ?_
      refine x_iload f_161_157 rfl ?_
      refine x_iload f_161_159 rfl ?_
      refine x_callSe f_161_161 (c_settingOf _ _ _ _) (by omega) rfl rfl rfl (Nat.le_of_ble_eq_true rfl) rfl ?_
      refine x_topi (w := nI (sO t p l)) hset ?_
      refine x_istore (ls1 := [.ref 33, .int (nI w), .int (nI s), .int (nI (wj h w)), .int (-1), .int (nI t), .int (nI p), .int (nI l), .int (nI (sO t p l)), v9]) f_161_164 (Nat.le_of_ble_eq_true rfl) rfl ?_
      refine x_aload_n f_161_166 rfl ?_
      refine x_iload_n f_161_167 rfl ?_
      refine x_iload f_161_168 rfl ?_
      refine x_callV f_161_170 (c_verdictOf hv.1 hN.2.1 hO) (by omega) S.k33 (by decide) rfl rfl (Nat.le_of_ble_eq_true rfl) rfl ?_
      rintro _ g1 ⟨rfl, hv1⟩
      have S := hv1.1.1
      have l1 := vd_le g (wj h w) (sO t p l)
      refine x_ifN_ne (t := 180) f_161_173 (by decide) (by omega) (fun c_o => ?_) (fun c_o => ?_)
      · refine x_iconst (v := nI 0) f_161_180 (by decide) ?_
        refine x_aload_n f_161_181 rfl ?_
        refine x_iload_n f_161_182 rfl ?_
        refine x_iload_n f_161_183 rfl ?_
        refine x_callV f_161_184 (c_verdictOf hv1.1 hN.2.1 hs) (by omega) S.k33 (by decide) rfl rfl (Nat.le_of_ble_eq_true rfl) rfl ?_
        rintro _ g2 ⟨rfl, hv2⟩
        have S := hv2.1.1
        have l2 := vd_le g1 (wj h w) s
        refine x_ifN_ne (t := 194) f_161_187 (by decide) (by omega) (fun c_s => ?_) (fun c_s => ?_)
        · refine x_iconst (v := nI 0) f_161_194 (by decide) ?_
          refine x_icmpN_eq (t := 202) f_161_195 (by decide) (by decide) (by decide) (fun c_2 => ?_) (fun c_2 => by omega)
          refine x_iconst (v := nI 0) f_161_202 (by decide) ?_
          refine x_istore (ls1 := [.ref 33, .int (nI w), .int (nI s), .int (nI (wj h w)), .int (-1), .int (nI t), .int (nI p), .int (nI l), .int (nI (sO t p l)), .int (nI 0)]) f_161_203 (Nat.le_of_ble_eq_true rfl) rfl ?_
          refine x_iload f_161_205 rfl ?_
          refine x_ifN_eq (t := 236) f_161_207 (by decide) (by decide) (fun c_3 => ?_) (fun c_3 => by omega)
          refine x_iload f_161_236 rfl ?_
          refine x_istore (ls1 := [.ref 33, .int (nI w), .int (nI s), .int (nI (wj h w)), .int (-1), .int (nI t), .int (nI p), .int (nI l), .int (nI (sO t p l)), .int (nI 0)]) f_161_238 (Nat.le_of_ble_eq_true rfl) rfl ?_
          refine x_iinc (v := nI (l + 1)) (ls1 := [.ref 33, .int (nI w), .int (nI s), .int (nI (wj h w)), .int (-1), .int (nI t), .int (nI p), .int (nI (l + 1)), .int (nI (sO t p l)), .int (nI 0)]) f_161_240 rfl (by exact nI_add _ 1) rfl ?_
          refine x_goto (t := 140) f_161_243 (by decide) ?_
          have vO : gdV h (wj h w) (sO t p l) = decide (vd g (wj h w) (sO t p l) = 0) := by unfold gdV; rw [MV_vd hv]
          have vS : gdV h (wj h w) s = decide (vd g1 (wj h w) s = 0) := by unfold gdV; rw [MV_vd (hv.trans hv1)]
          simp only [c_o, c_s, decide_true, decide_false] at vO vS
          refine ih (l + 1) (none) g2 _ _ (by omega) (by omega) ((hv.trans hv1).trans hv2) hEb (fun b hb => Nat.lt_trans (hlt b hb) hsucc) ?_
          intro g best3 v8 v9 hv hEb hlt mono3 cov3
          refine K g best3 v8 v9 hv hEb hlt mono3 (fun l' h1 h2 => ?_)
          by_cases hq : l' = l
          · subst hq; exact mono3 _ (fun q => absurd (vO.trans vS.symm) q)
          · exact cov3 l' (by omega) h2
        · refine x_iconst (v := nI 1) f_161_190 (by decide) ?_
          refine x_goto (t := 195) f_161_191 (by decide) ?_
          refine x_icmpN_eq (t := 202) f_161_195 (by decide) (by decide) (by decide) (fun c_4 => by omega) (fun c_4 => ?_)
          refine x_iconst (v := nI 1) f_161_198 (by decide) ?_
          refine x_goto (t := 203) f_161_199 (by decide) ?_
          refine x_istore (ls1 := [.ref 33, .int (nI w), .int (nI s), .int (nI (wj h w)), .int (-1), .int (nI t), .int (nI p), .int (nI l), .int (nI (sO t p l)), .int (nI 1)]) f_161_203 (Nat.le_of_ble_eq_true rfl) rfl ?_
          refine x_iload f_161_205 rfl ?_
          refine x_ifN_eq (t := 236) f_161_207 (by decide) (by decide) (fun c_5 => by omega) (fun c_5 => ?_)
          refine x_iload f_161_210 rfl ?_
          refine x_iconst (v := -1) f_161_212 (by decide) ?_
          refine x_icmp_eq (t := 231) f_161_213 (by decide) (fun c_b => ?_) (fun c_b => absurd rfl c_b)
          refine x_iload f_161_231 rfl ?_
          refine x_goto (t := 238) f_161_233 (by decide) ?_
          refine x_istore (ls1 := [.ref 33, .int (nI w), .int (nI s), .int (nI (wj h w)), .int (nI (sO t p l)), .int (nI t), .int (nI p), .int (nI l), .int (nI (sO t p l)), .int (nI 1)]) f_161_238 (Nat.le_of_ble_eq_true rfl) rfl ?_
          refine x_iinc (v := nI (l + 1)) (ls1 := [.ref 33, .int (nI w), .int (nI s), .int (nI (wj h w)), .int (nI (sO t p l)), .int (nI t), .int (nI p), .int (nI (l + 1)), .int (nI (sO t p l)), .int (nI 1)]) f_161_240 rfl (by exact nI_add _ 1) rfl ?_
          refine x_goto (t := 140) f_161_243 (by decide) ?_
          have vO : gdV h (wj h w) (sO t p l) = decide (vd g (wj h w) (sO t p l) = 0) := by unfold gdV; rw [MV_vd hv]
          have vS : gdV h (wj h w) s = decide (vd g1 (wj h w) s = 0) := by unfold gdV; rw [MV_vd (hv.trans hv1)]
          simp only [c_o, c_s, decide_true, decide_false] at vO vS
          refine ih (l + 1) (some (sO t p l)) g2 _ _ (by omega) (by omega) ((hv.trans hv1).trans hv2) (fun b hb => by cases hb; exact ⟨⟨t, p, l, by omega, by omega, by omega, by omega, by omega, by omega, rfl⟩, by rw [vO, vS]; decide⟩) (fun b hb => by cases hb; exact hsucc) ?_
          intro g best3 v8 v9 hv hEb hlt mono3 cov3
          refine K g best3 v8 v9 hv hEb hlt (fun o q => mono3 o (Ed_new (fun c hc => absurd hc (by simp)) q)) (fun l' h1 h2 => ?_)
          by_cases hq : l' = l
          · subst hq; exact mono3 _ (fun _ => ⟨_, rfl, Or.inr ⟨rfl, Nat.le_refl _⟩⟩)
          · exact cov3 l' (by omega) h2
      · refine x_iconst (v := nI 1) f_161_176 (by decide) ?_
        refine x_goto (t := 181) f_161_177 (by decide) ?_
        refine x_aload_n f_161_181 rfl ?_
        refine x_iload_n f_161_182 rfl ?_
        refine x_iload_n f_161_183 rfl ?_
        refine x_callV f_161_184 (c_verdictOf hv1.1 hN.2.1 hs) (by omega) S.k33 (by decide) rfl rfl (Nat.le_of_ble_eq_true rfl) rfl ?_
        rintro _ g2 ⟨rfl, hv2⟩
        have S := hv2.1.1
        have l2 := vd_le g1 (wj h w) s
        refine x_ifN_ne (t := 194) f_161_187 (by decide) (by omega) (fun c_s => ?_) (fun c_s => ?_)
        · refine x_iconst (v := nI 0) f_161_194 (by decide) ?_
          refine x_icmpN_eq (t := 202) f_161_195 (by decide) (by decide) (by decide) (fun c_6 => by omega) (fun c_6 => ?_)
          refine x_iconst (v := nI 1) f_161_198 (by decide) ?_
          refine x_goto (t := 203) f_161_199 (by decide) ?_
          refine x_istore (ls1 := [.ref 33, .int (nI w), .int (nI s), .int (nI (wj h w)), .int (-1), .int (nI t), .int (nI p), .int (nI l), .int (nI (sO t p l)), .int (nI 1)]) f_161_203 (Nat.le_of_ble_eq_true rfl) rfl ?_
          refine x_iload f_161_205 rfl ?_
          refine x_ifN_eq (t := 236) f_161_207 (by decide) (by decide) (fun c_7 => by omega) (fun c_7 => ?_)
          refine x_iload f_161_210 rfl ?_
          refine x_iconst (v := -1) f_161_212 (by decide) ?_
          refine x_icmp_eq (t := 231) f_161_213 (by decide) (fun c_b => ?_) (fun c_b => absurd rfl c_b)
          refine x_iload f_161_231 rfl ?_
          refine x_goto (t := 238) f_161_233 (by decide) ?_
          refine x_istore (ls1 := [.ref 33, .int (nI w), .int (nI s), .int (nI (wj h w)), .int (nI (sO t p l)), .int (nI t), .int (nI p), .int (nI l), .int (nI (sO t p l)), .int (nI 1)]) f_161_238 (Nat.le_of_ble_eq_true rfl) rfl ?_
          refine x_iinc (v := nI (l + 1)) (ls1 := [.ref 33, .int (nI w), .int (nI s), .int (nI (wj h w)), .int (nI (sO t p l)), .int (nI t), .int (nI p), .int (nI (l + 1)), .int (nI (sO t p l)), .int (nI 1)]) f_161_240 rfl (by exact nI_add _ 1) rfl ?_
          refine x_goto (t := 140) f_161_243 (by decide) ?_
          have vO : gdV h (wj h w) (sO t p l) = decide (vd g (wj h w) (sO t p l) = 0) := by unfold gdV; rw [MV_vd hv]
          have vS : gdV h (wj h w) s = decide (vd g1 (wj h w) s = 0) := by unfold gdV; rw [MV_vd (hv.trans hv1)]
          simp only [c_o, c_s, decide_true, decide_false] at vO vS
          refine ih (l + 1) (some (sO t p l)) g2 _ _ (by omega) (by omega) ((hv.trans hv1).trans hv2) (fun b hb => by cases hb; exact ⟨⟨t, p, l, by omega, by omega, by omega, by omega, by omega, by omega, rfl⟩, by rw [vO, vS]; decide⟩) (fun b hb => by cases hb; exact hsucc) ?_
          intro g best3 v8 v9 hv hEb hlt mono3 cov3
          refine K g best3 v8 v9 hv hEb hlt (fun o q => mono3 o (Ed_new (fun c hc => absurd hc (by simp)) q)) (fun l' h1 h2 => ?_)
          by_cases hq : l' = l
          · subst hq; exact mono3 _ (fun _ => ⟨_, rfl, Or.inr ⟨rfl, Nat.le_refl _⟩⟩)
          · exact cov3 l' (by omega) h2
        · refine x_iconst (v := nI 1) f_161_190 (by decide) ?_
          refine x_goto (t := 195) f_161_191 (by decide) ?_
          refine x_icmpN_eq (t := 202) f_161_195 (by decide) (by decide) (by decide) (fun c_8 => ?_) (fun c_8 => by omega)
          refine x_iconst (v := nI 0) f_161_202 (by decide) ?_
          refine x_istore (ls1 := [.ref 33, .int (nI w), .int (nI s), .int (nI (wj h w)), .int (-1), .int (nI t), .int (nI p), .int (nI l), .int (nI (sO t p l)), .int (nI 0)]) f_161_203 (Nat.le_of_ble_eq_true rfl) rfl ?_
          refine x_iload f_161_205 rfl ?_
          refine x_ifN_eq (t := 236) f_161_207 (by decide) (by decide) (fun c_9 => ?_) (fun c_9 => by omega)
          refine x_iload f_161_236 rfl ?_
          refine x_istore (ls1 := [.ref 33, .int (nI w), .int (nI s), .int (nI (wj h w)), .int (-1), .int (nI t), .int (nI p), .int (nI l), .int (nI (sO t p l)), .int (nI 0)]) f_161_238 (Nat.le_of_ble_eq_true rfl) rfl ?_
          refine x_iinc (v := nI (l + 1)) (ls1 := [.ref 33, .int (nI w), .int (nI s), .int (nI (wj h w)), .int (-1), .int (nI t), .int (nI p), .int (nI (l + 1)), .int (nI (sO t p l)), .int (nI 0)]) f_161_240 rfl (by exact nI_add _ 1) rfl ?_
          refine x_goto (t := 140) f_161_243 (by decide) ?_
          have vO : gdV h (wj h w) (sO t p l) = decide (vd g (wj h w) (sO t p l) = 0) := by unfold gdV; rw [MV_vd hv]
          have vS : gdV h (wj h w) s = decide (vd g1 (wj h w) s = 0) := by unfold gdV; rw [MV_vd (hv.trans hv1)]
          simp only [c_o, c_s, decide_true, decide_false] at vO vS
          refine ih (l + 1) (none) g2 _ _ (by omega) (by omega) ((hv.trans hv1).trans hv2) hEb (fun b hb => Nat.lt_trans (hlt b hb) hsucc) ?_
          intro g best3 v8 v9 hv hEb hlt mono3 cov3
          refine K g best3 v8 v9 hv hEb hlt mono3 (fun l' h1 h2 => ?_)
          by_cases hq : l' = l
          · subst hq; exact mono3 _ (fun q => absurd (vO.trans vS.symm) q)
          · exact cov3 l' (by omega) h2
    | some b =>
      have hb7 : b < 729 := Nat.lt_trans (hlt b rfl) hO
      have s2 := sts_lt hs hb7
      show mx 6 161 140 [.ref 33, .int (nI w), .int (nI s), .int (nI (wj h w)), .int (nI b), .int (nI t), .int (nI p), .int (nI l), v8, v9] [] g Q
      refine x_iload f_161_140 rfl ?_
      refine x_aload_n f_161_142 rfl ?_
      refine x_getR f_161_143 S.k33 (by decide) S.r20 ?_
      refine x_iconst (v := nI 3) f_161_146 (by decide) ?_
      refine x_iload_n f_161_147 rfl ?_
      refine x_imulN f_161_148 ?_
      refine x_iconst (v := nI 2) f_161_149 (by decide) ?_
      refine x_iaddN f_161_150 ?_
      refine x_iald (j := ((3 * w) + 2)) f_161_151 S.k47 (by omega) (by decide) ?_
      refine x_topi (w := nI (whi h w 2)) k472 ?_
      refine x_icmpN_gt (t := 246) f_161_152 (by decide) (by omega) (by omega) (fun c_1 => by omega) (fun c_1 => ?_)
      refine x_iload f_161_155 rfl ?_
      refine x_iload f_161_157 rfl ?_
      refine x_iload f_161_159 rfl ?_
      refine x_callSe f_161_161 (c_settingOf _ _ _ _) (by omega) rfl rfl rfl (Nat.le_of_ble_eq_true rfl) rfl ?_
      refine x_topi (w := nI (sO t p l)) hset ?_
      refine x_istore (ls1 := [.ref 33, .int (nI w), .int (nI s), .int (nI (wj h w)), .int (nI b), .int (nI t), .int (nI p), .int (nI l), .int (nI (sO t p l)), v9]) f_161_164 (Nat.le_of_ble_eq_true rfl) rfl ?_
      refine x_aload_n f_161_166 rfl ?_
      refine x_iload_n f_161_167 rfl ?_
      refine x_iload f_161_168 rfl ?_
      refine x_callV f_161_170 (c_verdictOf hv.1 hN.2.1 hO) (by omega) S.k33 (by decide) rfl rfl (Nat.le_of_ble_eq_true rfl) rfl ?_
      rintro _ g1 ⟨rfl, hv1⟩
      have S := hv1.1.1
      have l1 := vd_le g (wj h w) (sO t p l)
      refine x_ifN_ne (t := 180) f_161_173 (by decide) (by omega) (fun c_o => ?_) (fun c_o => ?_)
      · refine x_iconst (v := nI 0) f_161_180 (by decide) ?_
        refine x_aload_n f_161_181 rfl ?_
        refine x_iload_n f_161_182 rfl ?_
        refine x_iload_n f_161_183 rfl ?_
        refine x_callV f_161_184 (c_verdictOf hv1.1 hN.2.1 hs) (by omega) S.k33 (by decide) rfl rfl (Nat.le_of_ble_eq_true rfl) rfl ?_
        rintro _ g2 ⟨rfl, hv2⟩
        have S := hv2.1.1
        have l2 := vd_le g1 (wj h w) s
        refine x_ifN_ne (t := 194) f_161_187 (by decide) (by omega) (fun c_s => ?_) (fun c_s => ?_)
        · refine x_iconst (v := nI 0) f_161_194 (by decide) ?_
          refine x_icmpN_eq (t := 202) f_161_195 (by decide) (by decide) (by decide) (fun c_2 => ?_) (fun c_2 => by omega)
          refine x_iconst (v := nI 0) f_161_202 (by decide) ?_
          refine x_istore (ls1 := [.ref 33, .int (nI w), .int (nI s), .int (nI (wj h w)), .int (nI b), .int (nI t), .int (nI p), .int (nI l), .int (nI (sO t p l)), .int (nI 0)]) f_161_203 (Nat.le_of_ble_eq_true rfl) rfl ?_
          refine x_iload f_161_205 rfl ?_
          refine x_ifN_eq (t := 236) f_161_207 (by decide) (by decide) (fun c_3 => ?_) (fun c_3 => by omega)
          refine x_iload f_161_236 rfl ?_
          refine x_istore (ls1 := [.ref 33, .int (nI w), .int (nI s), .int (nI (wj h w)), .int (nI b), .int (nI t), .int (nI p), .int (nI l), .int (nI (sO t p l)), .int (nI 0)]) f_161_238 (Nat.le_of_ble_eq_true rfl) rfl ?_
          refine x_iinc (v := nI (l + 1)) (ls1 := [.ref 33, .int (nI w), .int (nI s), .int (nI (wj h w)), .int (nI b), .int (nI t), .int (nI p), .int (nI (l + 1)), .int (nI (sO t p l)), .int (nI 0)]) f_161_240 rfl (by exact nI_add _ 1) rfl ?_
          refine x_goto (t := 140) f_161_243 (by decide) ?_
          have vO : gdV h (wj h w) (sO t p l) = decide (vd g (wj h w) (sO t p l) = 0) := by unfold gdV; rw [MV_vd hv]
          have vS : gdV h (wj h w) s = decide (vd g1 (wj h w) s = 0) := by unfold gdV; rw [MV_vd (hv.trans hv1)]
          simp only [c_o, c_s, decide_true, decide_false] at vO vS
          refine ih (l + 1) (some b) g2 _ _ (by omega) (by omega) ((hv.trans hv1).trans hv2) hEb (fun b hb => Nat.lt_trans (hlt b hb) hsucc) ?_
          intro g best3 v8 v9 hv hEb hlt mono3 cov3
          refine K g best3 v8 v9 hv hEb hlt mono3 (fun l' h1 h2 => ?_)
          by_cases hq : l' = l
          · subst hq; exact mono3 _ (fun q => absurd (vO.trans vS.symm) q)
          · exact cov3 l' (by omega) h2
        · refine x_iconst (v := nI 1) f_161_190 (by decide) ?_
          refine x_goto (t := 195) f_161_191 (by decide) ?_
          refine x_icmpN_eq (t := 202) f_161_195 (by decide) (by decide) (by decide) (fun c_4 => by omega) (fun c_4 => ?_)
          refine x_iconst (v := nI 1) f_161_198 (by decide) ?_
          refine x_goto (t := 203) f_161_199 (by decide) ?_
          refine x_istore (ls1 := [.ref 33, .int (nI w), .int (nI s), .int (nI (wj h w)), .int (nI b), .int (nI t), .int (nI p), .int (nI l), .int (nI (sO t p l)), .int (nI 1)]) f_161_203 (Nat.le_of_ble_eq_true rfl) rfl ?_
          refine x_iload f_161_205 rfl ?_
          refine x_ifN_eq (t := 236) f_161_207 (by decide) (by decide) (fun c_5 => by omega) (fun c_5 => ?_)
          refine x_iload f_161_210 rfl ?_
          refine x_iconst (v := -1) f_161_212 (by decide) ?_
          refine x_icmp_eq (t := 231) f_161_213 (by decide) (fun c_b => absurd c_b (nI_ne_m1 (by omega))) (fun c_b => ?_)
          refine x_iload_n f_161_216 rfl ?_
          refine x_iload f_161_217 rfl ?_
          refine x_callSe f_161_219 (c_steps _ hs hO) (by omega) rfl rfl rfl (Nat.le_of_ble_eq_true rfl) rfl ?_
          refine x_iload_n f_161_222 rfl ?_
          refine x_iload f_161_223 rfl ?_
          refine x_callSe f_161_225 (c_steps _ hs hb7) (by omega) rfl rfl rfl (Nat.le_of_ble_eq_true rfl) rfl ?_
          refine x_icmpN_ge (t := 236) f_161_228 (by decide) (by omega) (by omega) (fun c_st => ?_) (fun c_st => ?_)
          · refine x_iload f_161_236 rfl ?_
            refine x_istore (ls1 := [.ref 33, .int (nI w), .int (nI s), .int (nI (wj h w)), .int (nI b), .int (nI t), .int (nI p), .int (nI l), .int (nI (sO t p l)), .int (nI 1)]) f_161_238 (Nat.le_of_ble_eq_true rfl) rfl ?_
            refine x_iinc (v := nI (l + 1)) (ls1 := [.ref 33, .int (nI w), .int (nI s), .int (nI (wj h w)), .int (nI b), .int (nI t), .int (nI p), .int (nI (l + 1)), .int (nI (sO t p l)), .int (nI 1)]) f_161_240 rfl (by exact nI_add _ 1) rfl ?_
            refine x_goto (t := 140) f_161_243 (by decide) ?_
            have vO : gdV h (wj h w) (sO t p l) = decide (vd g (wj h w) (sO t p l) = 0) := by unfold gdV; rw [MV_vd hv]
            have vS : gdV h (wj h w) s = decide (vd g1 (wj h w) s = 0) := by unfold gdV; rw [MV_vd (hv.trans hv1)]
            simp only [c_o, c_s, decide_true, decide_false] at vO vS
            refine ih (l + 1) (some b) g2 _ _ (by omega) (by omega) ((hv.trans hv1).trans hv2) hEb (fun b hb => Nat.lt_trans (hlt b hb) hsucc) ?_
            intro g best3 v8 v9 hv hEb hlt3 mono3 cov3
            refine K g best3 v8 v9 hv hEb hlt3 mono3 (fun l' h1 h2 => ?_)
            by_cases hq : l' = l
            · subst hq; exact mono3 _ (fun _ => ⟨b, rfl, by have := hlt b rfl; omega⟩)
            · exact cov3 l' (by omega) h2
          · refine x_iload f_161_231 rfl ?_
            refine x_goto (t := 238) f_161_233 (by decide) ?_
            refine x_istore (ls1 := [.ref 33, .int (nI w), .int (nI s), .int (nI (wj h w)), .int (nI (sO t p l)), .int (nI t), .int (nI p), .int (nI l), .int (nI (sO t p l)), .int (nI 1)]) f_161_238 (Nat.le_of_ble_eq_true rfl) rfl ?_
            refine x_iinc (v := nI (l + 1)) (ls1 := [.ref 33, .int (nI w), .int (nI s), .int (nI (wj h w)), .int (nI (sO t p l)), .int (nI t), .int (nI p), .int (nI (l + 1)), .int (nI (sO t p l)), .int (nI 1)]) f_161_240 rfl (by exact nI_add _ 1) rfl ?_
            refine x_goto (t := 140) f_161_243 (by decide) ?_
            have vO : gdV h (wj h w) (sO t p l) = decide (vd g (wj h w) (sO t p l) = 0) := by unfold gdV; rw [MV_vd hv]
            have vS : gdV h (wj h w) s = decide (vd g1 (wj h w) s = 0) := by unfold gdV; rw [MV_vd (hv.trans hv1)]
            simp only [c_o, c_s, decide_true, decide_false] at vO vS
            refine ih (l + 1) (some (sO t p l)) g2 _ _ (by omega) (by omega) ((hv.trans hv1).trans hv2) (fun b hb => by cases hb; exact ⟨⟨t, p, l, by omega, by omega, by omega, by omega, by omega, by omega, rfl⟩, by rw [vO, vS]; decide⟩) (fun b hb => by cases hb; exact hsucc) ?_
            intro g best3 v8 v9 hv hEb hlt mono3 cov3
            refine K g best3 v8 v9 hv hEb hlt (fun o q => mono3 o (Ed_new (fun c hc => by cases hc; omega) q)) (fun l' h1 h2 => ?_)
            by_cases hq : l' = l
            · subst hq; exact mono3 _ (fun _ => ⟨_, rfl, Or.inr ⟨rfl, Nat.le_refl _⟩⟩)
            · exact cov3 l' (by omega) h2
      · refine x_iconst (v := nI 1) f_161_176 (by decide) ?_
        refine x_goto (t := 181) f_161_177 (by decide) ?_
        refine x_aload_n f_161_181 rfl ?_
        refine x_iload_n f_161_182 rfl ?_
        refine x_iload_n f_161_183 rfl ?_
        refine x_callV f_161_184 (c_verdictOf hv1.1 hN.2.1 hs) (by omega) S.k33 (by decide) rfl rfl (Nat.le_of_ble_eq_true rfl) rfl ?_
        rintro _ g2 ⟨rfl, hv2⟩
        have S := hv2.1.1
        have l2 := vd_le g1 (wj h w) s
        refine x_ifN_ne (t := 194) f_161_187 (by decide) (by omega) (fun c_s => ?_) (fun c_s => ?_)
        · refine x_iconst (v := nI 0) f_161_194 (by decide) ?_
          refine x_icmpN_eq (t := 202) f_161_195 (by decide) (by decide) (by decide) (fun c_6 => by omega) (fun c_6 => ?_)
          refine x_iconst (v := nI 1) f_161_198 (by decide) ?_
          refine x_goto (t := 203) f_161_199 (by decide) ?_
          refine x_istore (ls1 := [.ref 33, .int (nI w), .int (nI s), .int (nI (wj h w)), .int (nI b), .int (nI t), .int (nI p), .int (nI l), .int (nI (sO t p l)), .int (nI 1)]) f_161_203 (Nat.le_of_ble_eq_true rfl) rfl ?_
          refine x_iload f_161_205 rfl ?_
          refine x_ifN_eq (t := 236) f_161_207 (by decide) (by decide) (fun c_7 => by omega) (fun c_7 => ?_)
          refine x_iload f_161_210 rfl ?_
          refine x_iconst (v := -1) f_161_212 (by decide) ?_
          refine x_icmp_eq (t := 231) f_161_213 (by decide) (fun c_b => absurd c_b (nI_ne_m1 (by omega))) (fun c_b => ?_)
          refine x_iload_n f_161_216 rfl ?_
          refine x_iload f_161_217 rfl ?_
          refine x_callSe f_161_219 (c_steps _ hs hO) (by omega) rfl rfl rfl (Nat.le_of_ble_eq_true rfl) rfl ?_
          refine x_iload_n f_161_222 rfl ?_
          refine x_iload f_161_223 rfl ?_
          refine x_callSe f_161_225 (c_steps _ hs hb7) (by omega) rfl rfl rfl (Nat.le_of_ble_eq_true rfl) rfl ?_
          refine x_icmpN_ge (t := 236) f_161_228 (by decide) (by omega) (by omega) (fun c_st => ?_) (fun c_st => ?_)
          · refine x_iload f_161_236 rfl ?_
            refine x_istore (ls1 := [.ref 33, .int (nI w), .int (nI s), .int (nI (wj h w)), .int (nI b), .int (nI t), .int (nI p), .int (nI l), .int (nI (sO t p l)), .int (nI 1)]) f_161_238 (Nat.le_of_ble_eq_true rfl) rfl ?_
            refine x_iinc (v := nI (l + 1)) (ls1 := [.ref 33, .int (nI w), .int (nI s), .int (nI (wj h w)), .int (nI b), .int (nI t), .int (nI p), .int (nI (l + 1)), .int (nI (sO t p l)), .int (nI 1)]) f_161_240 rfl (by exact nI_add _ 1) rfl ?_
            refine x_goto (t := 140) f_161_243 (by decide) ?_
            have vO : gdV h (wj h w) (sO t p l) = decide (vd g (wj h w) (sO t p l) = 0) := by unfold gdV; rw [MV_vd hv]
            have vS : gdV h (wj h w) s = decide (vd g1 (wj h w) s = 0) := by unfold gdV; rw [MV_vd (hv.trans hv1)]
            simp only [c_o, c_s, decide_true, decide_false] at vO vS
            refine ih (l + 1) (some b) g2 _ _ (by omega) (by omega) ((hv.trans hv1).trans hv2) hEb (fun b hb => Nat.lt_trans (hlt b hb) hsucc) ?_
            intro g best3 v8 v9 hv hEb hlt3 mono3 cov3
            refine K g best3 v8 v9 hv hEb hlt3 mono3 (fun l' h1 h2 => ?_)
            by_cases hq : l' = l
            · subst hq; exact mono3 _ (fun _ => ⟨b, rfl, by have := hlt b rfl; omega⟩)
            · exact cov3 l' (by omega) h2
          · refine x_iload f_161_231 rfl ?_
            refine x_goto (t := 238) f_161_233 (by decide) ?_
            refine x_istore (ls1 := [.ref 33, .int (nI w), .int (nI s), .int (nI (wj h w)), .int (nI (sO t p l)), .int (nI t), .int (nI p), .int (nI l), .int (nI (sO t p l)), .int (nI 1)]) f_161_238 (Nat.le_of_ble_eq_true rfl) rfl ?_
            refine x_iinc (v := nI (l + 1)) (ls1 := [.ref 33, .int (nI w), .int (nI s), .int (nI (wj h w)), .int (nI (sO t p l)), .int (nI t), .int (nI p), .int (nI (l + 1)), .int (nI (sO t p l)), .int (nI 1)]) f_161_240 rfl (by exact nI_add _ 1) rfl ?_
            refine x_goto (t := 140) f_161_243 (by decide) ?_
            have vO : gdV h (wj h w) (sO t p l) = decide (vd g (wj h w) (sO t p l) = 0) := by unfold gdV; rw [MV_vd hv]
            have vS : gdV h (wj h w) s = decide (vd g1 (wj h w) s = 0) := by unfold gdV; rw [MV_vd (hv.trans hv1)]
            simp only [c_o, c_s, decide_true, decide_false] at vO vS
            refine ih (l + 1) (some (sO t p l)) g2 _ _ (by omega) (by omega) ((hv.trans hv1).trans hv2) (fun b hb => by cases hb; exact ⟨⟨t, p, l, by omega, by omega, by omega, by omega, by omega, by omega, rfl⟩, by rw [vO, vS]; decide⟩) (fun b hb => by cases hb; exact hsucc) ?_
            intro g best3 v8 v9 hv hEb hlt mono3 cov3
            refine K g best3 v8 v9 hv hEb hlt (fun o q => mono3 o (Ed_new (fun c hc => by cases hc; omega) q)) (fun l' h1 h2 => ?_)
            by_cases hq : l' = l
            · subst hq; exact mono3 _ (fun _ => ⟨_, rfl, Or.inr ⟨rfl, Nat.le_refl _⟩⟩)
            · exact cov3 l' (by omega) h2
        · refine x_iconst (v := nI 1) f_161_190 (by decide) ?_
          refine x_goto (t := 195) f_161_191 (by decide) ?_
          refine x_icmpN_eq (t := 202) f_161_195 (by decide) (by decide) (by decide) (fun c_8 => ?_) (fun c_8 => by omega)
          refine x_iconst (v := nI 0) f_161_202 (by decide) ?_
          refine x_istore (ls1 := [.ref 33, .int (nI w), .int (nI s), .int (nI (wj h w)), .int (nI b), .int (nI t), .int (nI p), .int (nI l), .int (nI (sO t p l)), .int (nI 0)]) f_161_203 (Nat.le_of_ble_eq_true rfl) rfl ?_
          refine x_iload f_161_205 rfl ?_
          refine x_ifN_eq (t := 236) f_161_207 (by decide) (by decide) (fun c_9 => ?_) (fun c_9 => by omega)
          refine x_iload f_161_236 rfl ?_
          refine x_istore (ls1 := [.ref 33, .int (nI w), .int (nI s), .int (nI (wj h w)), .int (nI b), .int (nI t), .int (nI p), .int (nI l), .int (nI (sO t p l)), .int (nI 0)]) f_161_238 (Nat.le_of_ble_eq_true rfl) rfl ?_
          refine x_iinc (v := nI (l + 1)) (ls1 := [.ref 33, .int (nI w), .int (nI s), .int (nI (wj h w)), .int (nI b), .int (nI t), .int (nI p), .int (nI (l + 1)), .int (nI (sO t p l)), .int (nI 0)]) f_161_240 rfl (by exact nI_add _ 1) rfl ?_
          refine x_goto (t := 140) f_161_243 (by decide) ?_
          have vO : gdV h (wj h w) (sO t p l) = decide (vd g (wj h w) (sO t p l) = 0) := by unfold gdV; rw [MV_vd hv]
          have vS : gdV h (wj h w) s = decide (vd g1 (wj h w) s = 0) := by unfold gdV; rw [MV_vd (hv.trans hv1)]
          simp only [c_o, c_s, decide_true, decide_false] at vO vS
          refine ih (l + 1) (some b) g2 _ _ (by omega) (by omega) ((hv.trans hv1).trans hv2) hEb (fun b hb => Nat.lt_trans (hlt b hb) hsucc) ?_
          intro g best3 v8 v9 hv hEb hlt mono3 cov3
          refine K g best3 v8 v9 hv hEb hlt mono3 (fun l' h1 h2 => ?_)
          by_cases hq : l' = l
          · subst hq; exact mono3 _ (fun q => absurd (vO.trans vS.symm) q)
          · exact cov3 l' (by omega) h2
