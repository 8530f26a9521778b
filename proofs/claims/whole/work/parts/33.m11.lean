theorem f_141_26 : mj_fetch 141 26 = some (.iload 10, 0, 0) := by decide +kernel
theorem f_141_28 : mj_fetch 141 28 = some (.iload 6, 0, 0) := by decide +kernel
theorem f_141_30 : mj_fetch 141 30 = some (.if_icmp .gt 32, 0, 0) := by decide +kernel
theorem f_141_33 : mj_fetch 141 33 = some (.iload 7, 0, 0) := by decide +kernel
theorem f_141_35 : mj_fetch 141 35 = some (.aload_n 0, 0, 0) := by decide +kernel
theorem f_141_36 : mj_fetch 141 36 = some (.iload 8, 0, 0) := by decide +kernel
theorem f_141_38 : mj_fetch 141 38 = some (.iload 9, 0, 0) := by decide +kernel
theorem f_141_40 : mj_fetch 141 40 = some (.iload 10, 0, 0) := by decide +kernel
theorem f_141_42 : mj_fetch 141 42 = some (.invokevirtual 182, 140, 0) := by decide +kernel
theorem f_141_45 : mj_fetch 141 45 = some (.ifCond .eq 7, 0, 0) := by decide +kernel
theorem f_141_48 : mj_fetch 141 48 = some (.iconst 1, 0, 0) := by decide +kernel
theorem f_141_49 : mj_fetch 141 49 = some (.goto 4, 0, 0) := by decide +kernel
theorem f_141_52 : mj_fetch 141 52 = some (.iconst 0, 0, 0) := by decide +kernel
theorem f_141_53 : mj_fetch 141 53 = some (.iadd, 0, 0) := by decide +kernel
theorem f_141_54 : mj_fetch 141 54 = some (.istore 7, 0, 0) := by decide +kernel
theorem f_141_56 : mj_fetch 141 56 = some (.iinc 10 1, 0, 0) := by decide +kernel
theorem f_141_59 : mj_fetch 141 59 = some (.goto (-33), 0, 0) := by decide +kernel
theorem f_141_15 : mj_fetch 141 15 = some (.iload 9, 0, 0) := by decide +kernel
theorem f_141_17 : mj_fetch 141 17 = some (.iload 4, 0, 0) := by decide +kernel
theorem f_141_19 : mj_fetch 141 19 = some (.if_icmp .gt 49, 0, 0) := by decide +kernel
theorem f_141_22 : mj_fetch 141 22 = some (.iload 5, 0, 0) := by decide +kernel
theorem f_141_24 : mj_fetch 141 24 = some (.istore 10, 0, 0) := by decide +kernel
theorem f_141_62 : mj_fetch 141 62 = some (.iinc 9 1, 0, 0) := by decide +kernel
theorem f_141_65 : mj_fetch 141 65 = some (.goto (-50), 0, 0) := by decide +kernel
theorem f_141_6 : mj_fetch 141 6 = some (.iload 8, 0, 0) := by decide +kernel
theorem f_141_8 : mj_fetch 141 8 = some (.iload_n 2, 0, 0) := by decide +kernel
theorem f_141_9 : mj_fetch 141 9 = some (.if_icmp .gt 65, 0, 0) := by decide +kernel
theorem f_141_12 : mj_fetch 141 12 = some (.iload_n 3, 0, 0) := by decide +kernel
theorem f_141_13 : mj_fetch 141 13 = some (.istore 9, 0, 0) := by decide +kernel
theorem f_141_68 : mj_fetch 141 68 = some (.iinc 8 1, 0, 0) := by decide +kernel
theorem f_141_71 : mj_fetch 141 71 = some (.goto (-65), 0, 0) := by decide +kernel
theorem f_141_0 : mj_fetch 141 0 = some (.iconst 0, 0, 0) := by decide +kernel
theorem f_141_1 : mj_fetch 141 1 = some (.istore 7, 0, 0) := by decide +kernel
theorem f_141_3 : mj_fetch 141 3 = some (.iload_n 1, 0, 0) := by decide +kernel
theorem f_141_4 : mj_fetch 141 4 = some (.istore 8, 0, 0) := by decide +kernel
theorem f_141_74 : mj_fetch 141 74 = some (.iload 7, 0, 0) := by decide +kernel
theorem f_141_76 : mj_fetch 141 76 = some (.ireturn, 0, 0) := by decide +kernel
/-- a sum over n places from x on -/
def sm (f : Nat → Nat) : Nat → Nat → Nat
  | 0, _ => 0
  | n + 1, x => f x + sm f n (x + 1)
theorem sm_le {f : Nat → Nat} {m : Nat} (hf : ∀ x, f x ≤ m) : ∀ n x, sm f n x ≤ n * m
  | 0, x => by show 0 ≤ _; omega
  | n + 1, x => by
    have h1 := sm_le hf n (x + 1)
    have h2 := hf x
    show f x + sm f n (x + 1) ≤ (n + 1) * m
    rw [Nat.succ_mul]
    omega
def g1 (h : mj_H) (w t p : Nat) (l : Nat) : Nat := if wg h w t p l = true then 1 else 0
/-- how many settings of a box are good -/
def gc (h : mj_H) (w a b c d e f : Nat) : Nat := sm (fun t => sm (fun p => sm (g1 h w t p) (f + 1 - e) e) (d + 1 - c) c) (b + 1 - a) a
theorem MV_at {h g : mj_H} {jm : Nat} (a : MV h g jm) {i : Nat} {x : Int32} (h1 : ¬ i = 14) (h2 : ¬ i = 15) (h3 : ¬ i = 17) (e : mj_I h 33 i = x) : mj_I g 33 i = x := (a.2.2 i h1 h2 h3).trans e

set_option maxRecDepth 20000 in
set_option maxHeartbeats 4000000 in
theorem goodIn_l3 {h : mj_H} {w jm : Nat} (hw : w < 10) (e_at : mj_I h 33 22 = nI w) (hN : WN h w jm) {a b c d e f : Nat} {t p : Nat} (ht9 : wlo h w 0 + t ≤ 9) (hp9 : wlo h w 1 + p ≤ 9) (hf9 : wlo h w 2 + f ≤ 9) {Q : Option Value → mj_H → Prop} :
    ∀ (n l N : Nat) (g : mj_H), l + n = f + 1 → MV h g jm → (∀ g, MV h g jm → mx 6 141 62 [.ref 33, .int (nI a), .int (nI b), .int (nI c), .int (nI d), .int (nI e), .int (nI f), .int (nI (N + sm (g1 h w t p) n l)), .int (nI t), .int (nI p), .int (nI (f + 1))] [] g Q) → mx 6 141 26 [.ref 33, .int (nI a), .int (nI b), .int (nI c), .int (nI d), .int (nI e), .int (nI f), .int (nI N), .int (nI t), .int (nI p), .int (nI l)] [] g Q := by
  intro n
  induction n with
  | zero =>
    intro l N g hl hv K
    have hll : l = f + 1 := by omega
    subst hll
    refine x_iload f_141_26 rfl ?_
    refine x_iload f_141_28 rfl ?_
    refine x_icmpN_gt (t := 62) f_141_30 (by decide) (by omega) (by omega) (fun c_1 => ?_) (fun c_1 => by omega)
    exact K g hv
  | succ n ih =>
    intro l N g hl hv K
    have S := hv.1.1
    have e46 : mj_I g 46 = mj_I h 46 := hv.2.1.i (by decide)
    have ew : ∀ a, wlo g w a = wlo h w a := fun a => by unfold wlo; rw [e46]
    have ht9 : wlo g w 0 + t ≤ 9 := by rw [ew]; exact ht9
    have hp9 : wlo g w 1 + p ≤ 9 := by rw [ew]; exact hp9
    have hl9 : wlo g w 2 + l ≤ 9 := by rw [ew]; omega
    refine x_iload f_141_26 rfl ?_
    refine x_iload f_141_28 rfl ?_
    refine x_icmpN_gt (t := 62) f_141_30 (by decide) (by omega) (by omega) (fun c_1 => by omega) (fun c_1 => ?_)
    refine x_iload f_141_33 rfl ?_
    refine x_aload_n f_141_35 rfl ?_
    refine x_iload f_141_36 rfl ?_
    refine x_iload f_141_38 rfl ?_
    refine x_iload f_141_40 rfl ?_
    refine x_callV f_141_42 (c_isGood hv.1 hw (MV_at hv (by decide) (by decide) (by decide) e_at) (MV_WN hv hN) ht9 hp9 hl9) (by omega) S.k33 (by decide) rfl rfl (Nat.le_of_ble_eq_true rfl) rfl ?_
    rintro _ g2 ⟨rfl, hv2⟩
    refine x_ifB_eq (t := 52) f_141_45 (by decide) (fun c_w => ?_) (fun c_w => ?_)
    · refine x_iconst (v := nI 0) f_141_52 (by decide) ?_
      refine x_iaddN f_141_53 ?_
      refine x_istore (ls1 := [.ref 33, .int (nI a), .int (nI b), .int (nI c), .int (nI d), .int (nI e), .int (nI f), .int (nI (N + 0)), .int (nI t), .int (nI p), .int (nI l)]) f_141_54 (Nat.le_of_ble_eq_true rfl) rfl ?_
      refine x_iinc (v := nI (l + 1)) (ls1 := [.ref 33, .int (nI a), .int (nI b), .int (nI c), .int (nI d), .int (nI e), .int (nI f), .int (nI (N + 0)), .int (nI t), .int (nI p), .int (nI (l + 1))]) f_141_56 rfl (by exact nI_add _ 1) rfl ?_
      refine x_goto (t := 26) f_141_59 (by decide) ?_
      have hG : g1 h w t p l = 0 := by
        unfold g1
        rw [← wg_MV hv]
        exact if_neg c_w
      refine ih (l + 1) (N + 0) g2 (by omega) (hv.trans hv2) ?_
      intro g3 hv3
      have q := K g3 hv3
      rw [show N + sm (g1 h w t p) (n + 1) l = N + 0 + sm (g1 h w t p) n (l + 1) by show N + (g1 h w t p l + sm (g1 h w t p) n (l + 1)) = _; rw [hG]; omega] at q
      exact q
    · refine x_iconst (v := nI 1) f_141_48 (by decide) ?_
      refine x_goto (t := 53) f_141_49 (by decide) ?_
      refine x_iaddN f_141_53 ?_
      refine x_istore (ls1 := [.ref 33, .int (nI a), .int (nI b), .int (nI c), .int (nI d), .int (nI e), .int (nI f), .int (nI (N + 1)), .int (nI t), .int (nI p), .int (nI l)]) f_141_54 (Nat.le_of_ble_eq_true rfl) rfl ?_
      refine x_iinc (v := nI (l + 1)) (ls1 := [.ref 33, .int (nI a), .int (nI b), .int (nI c), .int (nI d), .int (nI e), .int (nI f), .int (nI (N + 1)), .int (nI t), .int (nI p), .int (nI (l + 1))]) f_141_56 rfl (by exact nI_add _ 1) rfl ?_
      refine x_goto (t := 26) f_141_59 (by decide) ?_
      have hG : g1 h w t p l = 1 := by
        unfold g1
        rw [← wg_MV hv]
        exact if_pos c_w
      refine ih (l + 1) (N + 1) g2 (by omega) (hv.trans hv2) ?_
      intro g3 hv3
      have q := K g3 hv3
      rw [show N + sm (g1 h w t p) (n + 1) l = N + 1 + sm (g1 h w t p) n (l + 1) by show N + (g1 h w t p l + sm (g1 h w t p) n (l + 1)) = _; rw [hG]; omega] at q
      exact q
set_option maxRecDepth 20000 in
set_option maxHeartbeats 4000000 in
theorem goodIn_l2 {h : mj_H} {w jm : Nat} (hw : w < 10) (e_at : mj_I h 33 22 = nI w) (hN : WN h w jm) {a b c d e f : Nat} (hef : e ≤ f + 1) {t : Nat} (ht9 : wlo h w 0 + t ≤ 9) (hd9 : wlo h w 1 + d ≤ 9) (hf9 : wlo h w 2 + f ≤ 9) {Q : Option Value → mj_H → Prop} :
    ∀ (n p N : Nat) (g : mj_H) (v10 : Value), p + n = d + 1 → MV h g jm → (∀ g, MV h g jm → ∀ v10 : Value, mx 6 141 68 [.ref 33, .int (nI a), .int (nI b), .int (nI c), .int (nI d), .int (nI e), .int (nI f), .int (nI (N + sm (fun p => sm (g1 h w t p) (f + 1 - e) e) n p)), .int (nI t), .int (nI (d + 1)), v10] [] g Q) → mx 6 141 15 [.ref 33, .int (nI a), .int (nI b), .int (nI c), .int (nI d), .int (nI e), .int (nI f), .int (nI N), .int (nI t), .int (nI p), v10] [] g Q := by
  intro n
  induction n with
  | zero =>
    intro p N g v10 hl hv K
    have hll : p = d + 1 := by omega
    subst hll
    refine x_iload f_141_15 rfl ?_
    refine x_iload f_141_17 rfl ?_
    refine x_icmpN_gt (t := 68) f_141_19 (by decide) (by omega) (by omega) (fun c_1 => ?_) (fun c_1 => by omega)
    exact K g hv v10
  | succ n ih =>
    intro p N g v10 hl hv K
    refine x_iload f_141_15 rfl ?_
    refine x_iload f_141_17 rfl ?_
    refine x_icmpN_gt (t := 68) f_141_19 (by decide) (by omega) (by omega) (fun c_1 => by omega) (fun c_1 => ?_)
    refine x_iload f_141_22 rfl ?_
    refine x_istore (ls1 := [.ref 33, .int (nI a), .int (nI b), .int (nI c), .int (nI d), .int (nI e), .int (nI f), .int (nI N), .int (nI t), .int (nI p), .int (nI e)]) f_141_24 (Nat.le_of_ble_eq_true rfl) rfl ?_
    refine goodIn_l3 hw e_at hN ht9 (by omega) hf9 (f + 1 - e) e N g (by omega) hv ?_
    intro g hv
    refine x_iinc (v := nI (p + 1)) (ls1 := [.ref 33, .int (nI a), .int (nI b), .int (nI c), .int (nI d), .int (nI e), .int (nI f), .int (nI (N + sm (g1 h w t p) (f + 1 - e) e)), .int (nI t), .int (nI (p + 1)), .int (nI (f + 1))]) f_141_62 rfl (by exact nI_add _ 1) rfl ?_
    refine x_goto (t := 15) f_141_65 (by decide) ?_
    refine ih (p + 1) (N + sm (g1 h w t p) (f + 1 - e) e) g _ (by omega) hv ?_
    intro g hv v10
    have q := K g hv v10
    rw [show N + sm (fun p => sm (g1 h w t p) (f + 1 - e) e) (n + 1) p = N + sm (g1 h w t p) (f + 1 - e) e + sm (fun p => sm (g1 h w t p) (f + 1 - e) e) n (p + 1) by show N + (sm (g1 h w t p) (f + 1 - e) e + _) = _; omega] at q
    exact q
set_option maxRecDepth 20000 in
set_option maxHeartbeats 4000000 in
theorem goodIn_l1 {h : mj_H} {w jm : Nat} (hw : w < 10) (e_at : mj_I h 33 22 = nI w) (hN : WN h w jm) {a b c d e f : Nat} (hcd : c ≤ d + 1) (hef : e ≤ f + 1) (hb9 : wlo h w 0 + b ≤ 9) (hd9 : wlo h w 1 + d ≤ 9) (hf9 : wlo h w 2 + f ≤ 9) {Q : Option Value → mj_H → Prop} :
    ∀ (n t N : Nat) (g : mj_H) (v9 v10 : Value), t + n = b + 1 → MV h g jm → (∀ g, MV h g jm → ∀ v9 v10 : Value, mx 6 141 74 [.ref 33, .int (nI a), .int (nI b), .int (nI c), .int (nI d), .int (nI e), .int (nI f), .int (nI (N + sm (fun t => sm (fun p => sm (g1 h w t p) (f + 1 - e) e) (d + 1 - c) c) n t)), .int (nI (b + 1)), v9, v10] [] g Q) → mx 6 141 6 [.ref 33, .int (nI a), .int (nI b), .int (nI c), .int (nI d), .int (nI e), .int (nI f), .int (nI N), .int (nI t), v9, v10] [] g Q := by
  intro n
  induction n with
  | zero =>
    intro t N g v9 v10 hl hv K
    have hll : t = b + 1 := by omega
    subst hll
    refine x_iload f_141_6 rfl ?_
    refine x_iload_n f_141_8 rfl ?_
    refine x_icmpN_gt (t := 74) f_141_9 (by decide) (by omega) (by omega) (fun c_1 => ?_) (fun c_1 => by omega)
    exact K g hv v9 v10
  | succ n ih =>
    intro t N g v9 v10 hl hv K
    refine x_iload f_141_6 rfl ?_
    refine x_iload_n f_141_8 rfl ?_
    refine x_icmpN_gt (t := 74) f_141_9 (by decide) (by omega) (by omega) (fun c_1 => by omega) (fun c_1 => ?_)
    refine x_iload_n f_141_12 rfl ?_
    refine x_istore (ls1 := [.ref 33, .int (nI a), .int (nI b), .int (nI c), .int (nI d), .int (nI e), .int (nI f), .int (nI N), .int (nI t), .int (nI c), v10]) f_141_13 (Nat.le_of_ble_eq_true rfl) rfl ?_
    refine goodIn_l2 hw e_at hN hef (by omega) hd9 hf9 (d + 1 - c) c N g _ (by omega) hv ?_
    intro g hv v10
    refine x_iinc (v := nI (t + 1)) (ls1 := [.ref 33, .int (nI a), .int (nI b), .int (nI c), .int (nI d), .int (nI e), .int (nI f), .int (nI (N + sm (fun p => sm (g1 h w t p) (f + 1 - e) e) (d + 1 - c) c)), .int (nI (t + 1)), .int (nI (d + 1)), v10]) f_141_68 rfl (by exact nI_add _ 1) rfl ?_
    refine x_goto (t := 6) f_141_71 (by decide) ?_
    refine ih (t + 1) (N + sm (fun p => sm (g1 h w t p) (f + 1 - e) e) (d + 1 - c) c) g _ _ (by omega) hv ?_
    intro g hv v9 v10
    have q := K g hv v9 v10
    rw [show N + sm (fun t => sm (fun p => sm (g1 h w t p) (f + 1 - e) e) (d + 1 - c) c) (n + 1) t = N + sm (fun p => sm (g1 h w t p) (f + 1 - e) e) (d + 1 - c) c + sm (fun t => sm (fun p => sm (g1 h w t p) (f + 1 - e) e) (d + 1 - c) c) n (t + 1) by show N + (sm (fun p => sm (g1 h w t p) (f + 1 - e) e) (d + 1 - c) c + _) = _; omega] at q
    exact q
set_option maxRecDepth 20000 in
theorem c_goodIn {h : mj_H} {w jm : Nat} (hw : w < 10) (e_at : mj_I h 33 22 = nI w) (hN : WN h w jm) {a b c d e f : Nat} (hW : MW h jm) (hab : a ≤ b + 1) (hcd : c ≤ d + 1) (hef : e ≤ f + 1) (hb9 : wlo h w 0 + b ≤ 9) (hd9 : wlo h w 1 + d ≤ 9) (hf9 : wlo h w 2 + f ≤ 9) : mxc 6 141 [.ref 33, .int (nI a), .int (nI b), .int (nI c), .int (nI d), .int (nI e), .int (nI f)] h (fun r h' => r = some (.int (nI (gc h w a b c d e f))) ∧ MV h h' jm) := by
  show mx 6 141 0 [.ref 33, .int (nI a), .int (nI b), .int (nI c), .int (nI d), .int (nI e), .int (nI f), mj_unset, mj_unset, mj_unset, mj_unset] [] h _
  refine x_iconst (v := nI 0) f_141_0 (by decide) ?_
  refine x_istore (ls1 := [.ref 33, .int (nI a), .int (nI b), .int (nI c), .int (nI d), .int (nI e), .int (nI f), .int (nI 0), mj_unset, mj_unset, mj_unset]) f_141_1 (Nat.le_of_ble_eq_true rfl) rfl ?_
  refine x_iload_n f_141_3 rfl ?_
  refine x_istore (ls1 := [.ref 33, .int (nI a), .int (nI b), .int (nI c), .int (nI d), .int (nI e), .int (nI f), .int (nI 0), .int (nI a), mj_unset, mj_unset]) f_141_4 (Nat.le_of_ble_eq_true rfl) rfl ?_
  refine goodIn_l1 hw e_at hN hcd hef hb9 hd9 hf9 (b + 1 - a) a 0 h _ _ (by omega) (MV.rf hW) ?_
  intro g hv v9 v10
  refine x_iload f_141_74 rfl ?_
  refine x_retI f_141_76 rfl ?_
  exact ⟨by rw [Nat.zero_add]; rfl, hv⟩
