/-! THE PROVER: the least cut of a box -/
theorem lr_S (lo up : Nat → Nat × Nat) (base n k : Nat) (x : Nat × Nat) : lr lo up base (n + 1) k x = if enc x < 96 then x else if enc (lo k) = enc (up k) ∧ enc (lo k) < 64 then lo k else lr lo up base n (k + 1) (bt x (base + k) ((lo k).1 + (up k).1)) := rfl
theorem enc_mk (a b : Nat) : enc (a, b) = 32 * a + b := rfl
set_option maxRecDepth 20000 in
theorem kleast_l0 {h : mj_H} (C : SC h) {Pv X : Nat} (hPv : mj_K h Pv = (5, 1)) (hPX : mj_R h Pv 0 = some X) (hX : mj_K h X = (12, 9261)) {v4 : Value} {cl t : Nat} (ht : t < 21) (hc : cl < 9261) {lo up : Nat → Nat × Nat} (hq : ∀ k, k < sS t → (t - (sB (sH t - sS t + k) + k)) * 441 ≤ cl ∧ (k + 1) * 441 ≤ cl ∧ mj_I h X (cl - (t - (sB (sH t - sS t + k) + k)) * 441) = nI (enc (lo k)) ∧ mj_I h X (cl - (k + 1) * 441) = nI (enc (up k)) ∧ (lo k).1 ≤ 216 ∧ (lo k).2 < 32 ∧ (up k).1 ≤ 216 ∧ (up k).2 < 32) (Y : Nat × Nat) : ∀ (n k : Nat) (x : Nat × Nat) (ls : Nat), ls = enc x → k + n = sS t → x.1 ≤ 1000 → x.2 < 32 → lr lo up 2 n k x = Y → ∀ v9 v10 v11 v12 : Value, mx 0 40 27 [.ref Pv, .int (nI 0), .int (nI cl), .int (nI t), v4, .int (nI ls), .int (nI 441), .int (nI ((sH t) - (sS t))), .int (nI (k + 1)), v9, v10, v11, v12] [] h (fun r h' => r = some (.int (nI (enc Y))) ∧ h' = h) := by
  intro n
  have st1 := st_1 t ht
  induction n with
  | zero =>
    intro k x ls hls hn hx hx2 e v9 v10 v11 v12
    have dx : enc x = 32 * x.1 + x.2 := rfl
    refine x_iload f_40_27 rfl ?_
    refine x_gets f_40_29 ?_
    refine x_iload_n f_40_32 rfl ?_
    refine x_iald (j := t) f_40_33 C.k6 (by omega) (by decide) ?_
    refine x_topi (w := nI (sS t)) (C.vS ht) ?_
    refine x_icmpN_gt (t := 157) f_40_34 (by decide) (by omega) (by omega) (fun c_1 => ?_) (fun c_1 => by omega)
    refine x_iload f_40_157 rfl ?_
    refine x_retI f_40_159 rfl ?_
    exact ⟨by rw [← e, hls]; rfl, rfl⟩
  | succ n ih =>
    intro k x ls hls hn hx hx2 e v9 v10 v11 v12
    have hk : k < sS t := by omega
    have st5 := st_5 t ht k hk
    have q := hq k hk
    have eI : (((sB ((((sH t) - (sS t)) + (k + 1)) - 1)) + (k + 1)) - 1) = sB (sH t - sS t + k) + k := by
      rw [show ((sH t) - (sS t)) + (k + 1) - 1 = sH t - sS t + k by omega]
      omega
    have hi1 : (t - (((sB ((((sH t) - (sS t)) + (k + 1)) - 1)) + (k + 1)) - 1)) * 441 ≤ cl := by rw [eI]; exact q.1
    have hi2 : (k + 1) * 441 ≤ cl := q.2.1
    have iL : mj_I h X (cl - ((t - (((sB ((((sH t) - (sS t)) + (k + 1)) - 1)) + (k + 1)) - 1)) * 441)) = nI (enc (lo k)) := by rw [eI]; exact q.2.2.1
    have iU : mj_I h X (cl - ((k + 1) * 441)) = nI (enc (up k)) := q.2.2.2.1
    have dl : enc (lo k) = 32 * (lo k).1 + (lo k).2 := rfl
    have du : enc (up k) = 32 * (up k).1 + (up k).2 := rfl
    have dx : enc x = 32 * x.1 + x.2 := rfl
    have e1 : (enc (lo k)) / 32 = (lo k).1 := enc_div q.2.2.2.2.2.1
    have e2 : (enc (up k)) / 32 = (up k).1 := enc_div q.2.2.2.2.2.2.2
    have e3 : enc x / 32 = x.1 := enc_div hx2
    refine x_iload f_40_27 rfl ?_
    refine x_gets f_40_29 ?_
    refine x_iload_n f_40_32 rfl ?_
    refine x_iald (j := t) f_40_33 C.k6 (by omega) (by decide) ?_
    refine x_topi (w := nI (sS t)) (C.vS ht) ?_
    refine x_icmpN_gt (t := 157) f_40_34 (by decide) (by omega) (by omega) (fun c_1 => by omega) (fun c_1 => ?_)
    refine x_iload f_40_37 rfl ?_
    refine x_bipush (v := nI 96) f_40_39 (by decide) ?_
    refine x_icmpN_lt (t := 157) f_40_41 (by decide) (by omega) (by decide) (fun c_9 => ?_) (fun c_9 => ?_)
    · refine x_iload f_40_157 rfl ?_
      refine x_retI f_40_159 rfl ?_
      rw [lr_S, if_pos (by omega)] at e
      exact ⟨by rw [← e, hls], rfl⟩
    · refine x_gets f_40_44 ?_
      refine x_iload f_40_47 rfl ?_
      refine x_iload f_40_49 rfl ?_
      refine x_iaddN f_40_51 ?_
      refine x_iconst (v := nI 1) f_40_52 (by decide) ?_
      refine x_isubN f_40_53 (by omega) ?_
      refine x_iald (j := ((((sH t) - (sS t)) + (k + 1)) - 1)) f_40_54 C.k4 (by omega) (by decide) ?_
      refine x_topi (w := nI (sB ((((sH t) - (sS t)) + (k + 1)) - 1))) (C.vB (by omega)) ?_
      refine x_iload f_40_55 rfl ?_
      refine x_iaddN f_40_57 ?_
      refine x_iconst (v := nI 1) f_40_58 (by decide) ?_
      refine x_isubN f_40_59 (by omega) ?_
      refine x_istore (ls1 := [.ref Pv, .int (nI 0), .int (nI cl), .int (nI t), v4, .int (nI ls), .int (nI 441), .int (nI ((sH t) - (sS t))), .int (nI (k + 1)), .int (nI (((sB ((((sH t) - (sS t)) + (k + 1)) - 1)) + (k + 1)) - 1)), v10, v11, v12]) f_40_60 (Nat.le_of_ble_eq_true rfl) rfl ?_
      refine x_aload_n f_40_62 rfl ?_
      refine x_getR f_40_63 hPv (by decide) hPX ?_
      refine x_iload_n f_40_66 rfl ?_
      refine x_iload_n f_40_67 rfl ?_
      refine x_iload f_40_68 rfl ?_
      refine x_isubN f_40_70 (by omega) ?_
      refine x_iload f_40_71 rfl ?_
      refine x_imulN f_40_73 ?_
      refine x_isubN f_40_74 hi1 ?_
      refine x_iald (j := (cl - ((t - (((sB ((((sH t) - (sS t)) + (k + 1)) - 1)) + (k + 1)) - 1)) * 441))) f_40_75 hX (by omega) (by decide) ?_
      refine x_topi (w := nI (enc (lo k))) iL ?_
      refine x_istore (ls1 := [.ref Pv, .int (nI 0), .int (nI cl), .int (nI t), v4, .int (nI ls), .int (nI 441), .int (nI ((sH t) - (sS t))), .int (nI (k + 1)), .int (nI (((sB ((((sH t) - (sS t)) + (k + 1)) - 1)) + (k + 1)) - 1)), .int (nI (enc (lo k))), v11, v12]) f_40_76 (Nat.le_of_ble_eq_true rfl) rfl ?_
      refine x_aload_n f_40_78 rfl ?_
      refine x_getR f_40_79 hPv (by decide) hPX ?_
      refine x_iload_n f_40_82 rfl ?_
      refine x_iload f_40_83 rfl ?_
      refine x_iload f_40_85 rfl ?_
      refine x_imulN f_40_87 ?_
      refine x_isubN f_40_88 hi2 ?_
      refine x_iald (j := (cl - ((k + 1) * 441))) f_40_89 hX (by omega) (by decide) ?_
      refine x_topi (w := nI (enc (up k))) iU ?_
      refine x_istore (ls1 := [.ref Pv, .int (nI 0), .int (nI cl), .int (nI t), v4, .int (nI ls), .int (nI 441), .int (nI ((sH t) - (sS t))), .int (nI (k + 1)), .int (nI (((sB ((((sH t) - (sS t)) + (k + 1)) - 1)) + (k + 1)) - 1)), .int (nI (enc (lo k))), .int (nI (enc (up k))), v12]) f_40_90 (Nat.le_of_ble_eq_true rfl) rfl ?_
      refine x_iload f_40_92 rfl ?_
      refine x_iload f_40_94 rfl ?_
      refine x_icmpN_ne (t := 109) f_40_96 (by decide) (by omega) (by omega) (fun c_e => ?_) (fun c_e => ?_)
      · refine x_iload f_40_109 rfl ?_
        refine x_bipush (v := nI 32) f_40_111 (by decide) ?_
        refine x_idivN f_40_113 (by omega) (by decide) (by decide) ?_
        refine x_iload f_40_114 rfl ?_
        refine x_bipush (v := nI 32) f_40_116 (by decide) ?_
        refine x_idivN f_40_118 (by omega) (by decide) (by decide) ?_
        refine x_iaddN f_40_119 ?_
        refine x_istore (ls1 := [.ref Pv, .int (nI 0), .int (nI cl), .int (nI t), v4, .int (nI ls), .int (nI 441), .int (nI ((sH t) - (sS t))), .int (nI (k + 1)), .int (nI (((sB ((((sH t) - (sS t)) + (k + 1)) - 1)) + (k + 1)) - 1)), .int (nI (enc (lo k))), .int (nI (enc (up k))), .int (nI (((enc (lo k)) / 32) + ((enc (up k)) / 32)))]) f_40_120 (Nat.le_of_ble_eq_true rfl) rfl ?_
        refine x_iload f_40_122 rfl ?_
        refine x_iload f_40_124 rfl ?_
        refine x_bipush (v := nI 32) f_40_126 (by decide) ?_
        refine x_idivN f_40_128 (by omega) (by decide) (by decide) ?_
        refine x_icmpN_ge (t := 151) f_40_129 (by decide) (by omega) (by omega) (fun c_l => ?_) (fun c_l => ?_)
        · refine x_iinc (v := nI (k + 1 + 1)) (ls1 := [.ref Pv, .int (nI 0), .int (nI cl), .int (nI t), v4, .int (nI ls), .int (nI 441), .int (nI ((sH t) - (sS t))), .int (nI (k + 1 + 1)), .int (nI (((sB ((((sH t) - (sS t)) + (k + 1)) - 1)) + (k + 1)) - 1)), .int (nI (enc (lo k))), .int (nI (enc (up k))), .int (nI (((enc (lo k)) / 32) + ((enc (up k)) / 32)))]) f_40_151 rfl (by exact nI_add _ 1) rfl ?_
          refine x_goto (t := 27) f_40_154 (by decide) ?_
          have hbt : bt x (2 + k) ((lo k).1 + (up k).1) = x := if_neg (by omega)
          rw [lr_S, if_neg (by omega), if_neg (fun z => c_e z.1), hbt] at e
          refine ih (k + 1) x _ hls (by omega) hx hx2 e _ _ _ _
        · refine x_iload f_40_132 rfl ?_
          refine x_bipush (v := nI 32) f_40_134 (by decide) ?_
          refine x_imulN f_40_136 ?_
          refine x_iconst (v := nI 2) f_40_137 (by decide) ?_
          refine x_iaddN f_40_138 ?_
          refine x_bipush (v := nI 8) f_40_139 (by decide) ?_
          refine x_iload_n f_40_141 rfl ?_
          refine x_imulN f_40_142 ?_
          refine x_iaddN f_40_143 ?_
          refine x_iload f_40_144 rfl ?_
          refine x_iaddN f_40_146 ?_
          refine x_iconst (v := nI 1) f_40_147 (by decide) ?_
          refine x_isubN f_40_148 (by omega) ?_
          refine x_istore (ls1 := [.ref Pv, .int (nI 0), .int (nI cl), .int (nI t), v4, .int (nI ((((((((enc (lo k)) / 32) + ((enc (up k)) / 32)) * 32) + 2) + (8 * 0)) + (k + 1)) - 1)), .int (nI 441), .int (nI ((sH t) - (sS t))), .int (nI (k + 1)), .int (nI (((sB ((((sH t) - (sS t)) + (k + 1)) - 1)) + (k + 1)) - 1)), .int (nI (enc (lo k))), .int (nI (enc (up k))), .int (nI (((enc (lo k)) / 32) + ((enc (up k)) / 32)))]) f_40_149 (Nat.le_of_ble_eq_true rfl) rfl ?_
          refine x_iinc (v := nI (k + 1 + 1)) (ls1 := [.ref Pv, .int (nI 0), .int (nI cl), .int (nI t), v4, .int (nI ((((((((enc (lo k)) / 32) + ((enc (up k)) / 32)) * 32) + 2) + (8 * 0)) + (k + 1)) - 1)), .int (nI 441), .int (nI ((sH t) - (sS t))), .int (nI (k + 1 + 1)), .int (nI (((sB ((((sH t) - (sS t)) + (k + 1)) - 1)) + (k + 1)) - 1)), .int (nI (enc (lo k))), .int (nI (enc (up k))), .int (nI (((enc (lo k)) / 32) + ((enc (up k)) / 32)))]) f_40_151 rfl (by exact nI_add _ 1) rfl ?_
          refine x_goto (t := 27) f_40_154 (by decide) ?_
          have hbt : bt x (2 + k) ((lo k).1 + (up k).1) = ((lo k).1 + (up k).1, 2 + k) := if_pos (by omega)
          rw [lr_S, if_neg (by omega), if_neg (fun z => c_e z.1), hbt] at e
          refine ih (k + 1) ((lo k).1 + (up k).1, 2 + k) _ (by rw [e1, e2, enc_mk ((lo k).1 + (up k).1)]; omega) (by omega) (by dsimp only; omega) (by dsimp only; omega) e _ _ _ _
      · refine x_iload f_40_99 rfl ?_
        refine x_bipush (v := nI 64) f_40_101 (by decide) ?_
        refine x_icmpN_ge (t := 109) f_40_103 (by decide) (by omega) (by decide) (fun c_64 => ?_) (fun c_64 => ?_)
        · refine x_iload f_40_109 rfl ?_
          refine x_bipush (v := nI 32) f_40_111 (by decide) ?_
          refine x_idivN f_40_113 (by omega) (by decide) (by decide) ?_
          refine x_iload f_40_114 rfl ?_
          refine x_bipush (v := nI 32) f_40_116 (by decide) ?_
          refine x_idivN f_40_118 (by omega) (by decide) (by decide) ?_
          refine x_iaddN f_40_119 ?_
          refine x_istore (ls1 := [.ref Pv, .int (nI 0), .int (nI cl), .int (nI t), v4, .int (nI ls), .int (nI 441), .int (nI ((sH t) - (sS t))), .int (nI (k + 1)), .int (nI (((sB ((((sH t) - (sS t)) + (k + 1)) - 1)) + (k + 1)) - 1)), .int (nI (enc (lo k))), .int (nI (enc (up k))), .int (nI (((enc (lo k)) / 32) + ((enc (up k)) / 32)))]) f_40_120 (Nat.le_of_ble_eq_true rfl) rfl ?_
          refine x_iload f_40_122 rfl ?_
          refine x_iload f_40_124 rfl ?_
          refine x_bipush (v := nI 32) f_40_126 (by decide) ?_
          refine x_idivN f_40_128 (by omega) (by decide) (by decide) ?_
          refine x_icmpN_ge (t := 151) f_40_129 (by decide) (by omega) (by omega) (fun c_l => ?_) (fun c_l => ?_)
          · refine x_iinc (v := nI (k + 1 + 1)) (ls1 := [.ref Pv, .int (nI 0), .int (nI cl), .int (nI t), v4, .int (nI ls), .int (nI 441), .int (nI ((sH t) - (sS t))), .int (nI (k + 1 + 1)), .int (nI (((sB ((((sH t) - (sS t)) + (k + 1)) - 1)) + (k + 1)) - 1)), .int (nI (enc (lo k))), .int (nI (enc (up k))), .int (nI (((enc (lo k)) / 32) + ((enc (up k)) / 32)))]) f_40_151 rfl (by exact nI_add _ 1) rfl ?_
            refine x_goto (t := 27) f_40_154 (by decide) ?_
            have hbt : bt x (2 + k) ((lo k).1 + (up k).1) = x := if_neg (by omega)
            rw [lr_S, if_neg (by omega), if_neg (fun z => absurd z.2 (by omega)), hbt] at e
            refine ih (k + 1) x _ hls (by omega) hx hx2 e _ _ _ _
          · refine x_iload f_40_132 rfl ?_
            refine x_bipush (v := nI 32) f_40_134 (by decide) ?_
            refine x_imulN f_40_136 ?_
            refine x_iconst (v := nI 2) f_40_137 (by decide) ?_
            refine x_iaddN f_40_138 ?_
            refine x_bipush (v := nI 8) f_40_139 (by decide) ?_
            refine x_iload_n f_40_141 rfl ?_
            refine x_imulN f_40_142 ?_
            refine x_iaddN f_40_143 ?_
            refine x_iload f_40_144 rfl ?_
            refine x_iaddN f_40_146 ?_
            refine x_iconst (v := nI 1) f_40_147 (by decide) ?_
            refine x_isubN f_40_148 (by omega) ?_
            refine x_istore (ls1 := [.ref Pv, .int (nI 0), .int (nI cl), .int (nI t), v4, .int (nI ((((((((enc (lo k)) / 32) + ((enc (up k)) / 32)) * 32) + 2) + (8 * 0)) + (k + 1)) - 1)), .int (nI 441), .int (nI ((sH t) - (sS t))), .int (nI (k + 1)), .int (nI (((sB ((((sH t) - (sS t)) + (k + 1)) - 1)) + (k + 1)) - 1)), .int (nI (enc (lo k))), .int (nI (enc (up k))), .int (nI (((enc (lo k)) / 32) + ((enc (up k)) / 32)))]) f_40_149 (Nat.le_of_ble_eq_true rfl) rfl ?_
            refine x_iinc (v := nI (k + 1 + 1)) (ls1 := [.ref Pv, .int (nI 0), .int (nI cl), .int (nI t), v4, .int (nI ((((((((enc (lo k)) / 32) + ((enc (up k)) / 32)) * 32) + 2) + (8 * 0)) + (k + 1)) - 1)), .int (nI 441), .int (nI ((sH t) - (sS t))), .int (nI (k + 1 + 1)), .int (nI (((sB ((((sH t) - (sS t)) + (k + 1)) - 1)) + (k + 1)) - 1)), .int (nI (enc (lo k))), .int (nI (enc (up k))), .int (nI (((enc (lo k)) / 32) + ((enc (up k)) / 32)))]) f_40_151 rfl (by exact nI_add _ 1) rfl ?_
            refine x_goto (t := 27) f_40_154 (by decide) ?_
            have hbt : bt x (2 + k) ((lo k).1 + (up k).1) = ((lo k).1 + (up k).1, 2 + k) := if_pos (by omega)
            rw [lr_S, if_neg (by omega), if_neg (fun z => absurd z.2 (by omega)), hbt] at e
            refine ih (k + 1) ((lo k).1 + (up k).1, 2 + k) _ (by rw [e1, e2, enc_mk ((lo k).1 + (up k).1)]; omega) (by omega) (by dsimp only; omega) (by dsimp only; omega) e _ _ _ _
        · refine x_iload f_40_106 rfl ?_
          refine x_retI f_40_108 rfl ?_
          rw [lr_S, if_neg (by omega), if_pos ⟨c_e, by omega⟩] at e
          exact ⟨by rw [← e], rfl⟩
set_option maxRecDepth 20000 in
theorem k_leastOn0 {h : mj_H} (C : SC h) {Pv X : Nat} (hPv : mj_K h Pv = (5, 1)) (hPX : mj_R h Pv 0 = some X) (hX : mj_K h X = (12, 9261)) {cl t : Nat} (ht : t < 21) (hc : cl < 9261) {lo up : Nat → Nat × Nat} (hq : ∀ k, k < sS t → (t - (sB (sH t - sS t + k) + k)) * 441 ≤ cl ∧ (k + 1) * 441 ≤ cl ∧ mj_I h X (cl - (t - (sB (sH t - sS t + k) + k)) * 441) = nI (enc (lo k)) ∧ mj_I h X (cl - (k + 1) * 441) = nI (enc (up k)) ∧ (lo k).1 ≤ 216 ∧ (lo k).2 < 32 ∧ (up k).1 ≤ 216 ∧ (up k).2 < 32) {x : Nat × Nat} {ls : Nat} (hls : ls = enc x) (hx : x.1 ≤ 1000) (hx2 : x.2 < 32) : mxc 0 40 [.ref Pv, .int (nI 0), .int (nI cl), .int (nI t), .int (nI ls)] h (fun r h' => r = some (.int (nI (enc (lr lo up 2 (sS t) 0 x)))) ∧ h' = h) := by
  have st1 := st_1 t ht
  show mx 0 40 0 [.ref Pv, .int (nI 0), .int (nI cl), .int (nI t), .int (nI ls), mj_unset, mj_unset, mj_unset, mj_unset, mj_unset, mj_unset, mj_unset, mj_unset] [] h _
  refine x_iload f_40_0 rfl ?_
  refine x_istore (ls1 := [.ref Pv, .int (nI 0), .int (nI cl), .int (nI t), .int (nI ls), .int (nI ls), mj_unset, mj_unset, mj_unset, mj_unset, mj_unset, mj_unset, mj_unset]) f_40_2 (Nat.le_of_ble_eq_true rfl) rfl ?_
  refine x_gets f_40_4 ?_
  refine x_iload_n f_40_7 rfl ?_
  refine x_iald (j := 0) f_40_8 C.k3 (by omega) (by decide) ?_
  refine x_topi (w := nI 441) (C.v3_0) ?_
  refine x_istore (ls1 := [.ref Pv, .int (nI 0), .int (nI cl), .int (nI t), .int (nI ls), .int (nI ls), .int (nI 441), mj_unset, mj_unset, mj_unset, mj_unset, mj_unset, mj_unset]) f_40_9 (Nat.le_of_ble_eq_true rfl) rfl ?_
  refine x_gets f_40_11 ?_
  refine x_iload_n f_40_14 rfl ?_
  refine x_iald (j := t) f_40_15 C.k5 (by omega) (by decide) ?_
  refine x_topi (w := nI (sH t)) (C.vH ht) ?_
  refine x_gets f_40_16 ?_
  refine x_iload_n f_40_19 rfl ?_
  refine x_iald (j := t) f_40_20 C.k6 (by omega) (by decide) ?_
  refine x_topi (w := nI (sS t)) (C.vS ht) ?_
  refine x_isubN f_40_21 (by omega) ?_
  refine x_istore (ls1 := [.ref Pv, .int (nI 0), .int (nI cl), .int (nI t), .int (nI ls), .int (nI ls), .int (nI 441), .int (nI ((sH t) - (sS t))), mj_unset, mj_unset, mj_unset, mj_unset, mj_unset]) f_40_22 (Nat.le_of_ble_eq_true rfl) rfl ?_
  refine x_iconst (v := nI 1) f_40_24 (by decide) ?_
  refine x_istore (ls1 := [.ref Pv, .int (nI 0), .int (nI cl), .int (nI t), .int (nI ls), .int (nI ls), .int (nI 441), .int (nI ((sH t) - (sS t))), .int (nI 1), mj_unset, mj_unset, mj_unset, mj_unset]) f_40_25 (Nat.le_of_ble_eq_true rfl) rfl ?_
  exact kleast_l0 C hPv hPX hX ht hc hq _ (sS t) 0 x ls hls (Nat.zero_add _) hx hx2 rfl _ _ _ _
set_option maxRecDepth 20000 in
theorem kleast_l1 {h : mj_H} (C : SC h) {Pv X : Nat} (hPv : mj_K h Pv = (5, 1)) (hPX : mj_R h Pv 0 = some X) (hX : mj_K h X = (12, 9261)) {v4 : Value} {cl t : Nat} (ht : t < 21) (hc : cl < 9261) {lo up : Nat → Nat × Nat} (hq : ∀ k, k < sS t → (t - (sB (sH t - sS t + k) + k)) * 21 ≤ cl ∧ (k + 1) * 21 ≤ cl ∧ mj_I h X (cl - (t - (sB (sH t - sS t + k) + k)) * 21) = nI (enc (lo k)) ∧ mj_I h X (cl - (k + 1) * 21) = nI (enc (up k)) ∧ (lo k).1 ≤ 216 ∧ (lo k).2 < 32 ∧ (up k).1 ≤ 216 ∧ (up k).2 < 32) (Y : Nat × Nat) : ∀ (n k : Nat) (x : Nat × Nat) (ls : Nat), ls = enc x → k + n = sS t → x.1 ≤ 1000 → x.2 < 32 → lr lo up 10 n k x = Y → ∀ v9 v10 v11 v12 : Value, mx 0 40 27 [.ref Pv, .int (nI 1), .int (nI cl), .int (nI t), v4, .int (nI ls), .int (nI 21), .int (nI ((sH t) - (sS t))), .int (nI (k + 1)), v9, v10, v11, v12] [] h (fun r h' => r = some (.int (nI (enc Y))) ∧ h' = h) := by
  intro n
  have st1 := st_1 t ht
  induction n with
  | zero =>
    intro k x ls hls hn hx hx2 e v9 v10 v11 v12
    have dx : enc x = 32 * x.1 + x.2 := rfl
    refine x_iload f_40_27 rfl ?_
    refine x_gets f_40_29 ?_
    refine x_iload_n f_40_32 rfl ?_
    refine x_iald (j := t) f_40_33 C.k6 (by omega) (by decide) ?_
    refine x_topi (w := nI (sS t)) (C.vS ht) ?_
    refine x_icmpN_gt (t := 157) f_40_34 (by decide) (by omega) (by omega) (fun c_1 => ?_) (fun c_1 => by omega)
    refine x_iload f_40_157 rfl ?_
    refine x_retI f_40_159 rfl ?_
    exact ⟨by rw [← e, hls]; rfl, rfl⟩
  | succ n ih =>
    intro k x ls hls hn hx hx2 e v9 v10 v11 v12
    have hk : k < sS t := by omega
    have st5 := st_5 t ht k hk
    have q := hq k hk
    have eI : (((sB ((((sH t) - (sS t)) + (k + 1)) - 1)) + (k + 1)) - 1) = sB (sH t - sS t + k) + k := by
      rw [show ((sH t) - (sS t)) + (k + 1) - 1 = sH t - sS t + k by omega]
      omega
    have hi1 : (t - (((sB ((((sH t) - (sS t)) + (k + 1)) - 1)) + (k + 1)) - 1)) * 21 ≤ cl := by rw [eI]; exact q.1
    have hi2 : (k + 1) * 21 ≤ cl := q.2.1
    have iL : mj_I h X (cl - ((t - (((sB ((((sH t) - (sS t)) + (k + 1)) - 1)) + (k + 1)) - 1)) * 21)) = nI (enc (lo k)) := by rw [eI]; exact q.2.2.1
    have iU : mj_I h X (cl - ((k + 1) * 21)) = nI (enc (up k)) := q.2.2.2.1
    have dl : enc (lo k) = 32 * (lo k).1 + (lo k).2 := rfl
    have du : enc (up k) = 32 * (up k).1 + (up k).2 := rfl
    have dx : enc x = 32 * x.1 + x.2 := rfl
    have e1 : (enc (lo k)) / 32 = (lo k).1 := enc_div q.2.2.2.2.2.1
    have e2 : (enc (up k)) / 32 = (up k).1 := enc_div q.2.2.2.2.2.2.2
    have e3 : enc x / 32 = x.1 := enc_div hx2
    refine x_iload f_40_27 rfl ?_
    refine x_gets f_40_29 ?_
    refine x_iload_n f_40_32 rfl ?_
    refine x_iald (j := t) f_40_33 C.k6 (by omega) (by decide) ?_
    refine x_topi (w := nI (sS t)) (C.vS ht) ?_
    refine x_icmpN_gt (t := 157) f_40_34 (by decide) (by omega) (by omega) (fun c_1 => by omega) (fun c_1 => ?_)
    refine x_iload f_40_37 rfl ?_
    refine x_bipush (v := nI 96) f_40_39 (by decide) ?_
    refine x_icmpN_lt (t := 157) f_40_41 (by decide) (by omega) (by decide) (fun c_9 => ?_) (fun c_9 => ?_)
    · refine x_iload f_40_157 rfl ?_
      refine x_retI f_40_159 rfl ?_
      rw [lr_S, if_pos (by omega)] at e
      exact ⟨by rw [← e, hls], rfl⟩
    · refine x_gets f_40_44 ?_
      refine x_iload f_40_47 rfl ?_
      refine x_iload f_40_49 rfl ?_
      refine x_iaddN f_40_51 ?_
      refine x_iconst (v := nI 1) f_40_52 (by decide) ?_
      refine x_isubN f_40_53 (by omega) ?_
      refine x_iald (j := ((((sH t) - (sS t)) + (k + 1)) - 1)) f_40_54 C.k4 (by omega) (by decide) ?_
      refine x_topi (w := nI (sB ((((sH t) - (sS t)) + (k + 1)) - 1))) (C.vB (by omega)) ?_
      refine x_iload f_40_55 rfl ?_
      refine x_iaddN f_40_57 ?_
      refine x_iconst (v := nI 1) f_40_58 (by decide) ?_
      refine x_isubN f_40_59 (by omega) ?_
      refine x_istore (ls1 := [.ref Pv, .int (nI 1), .int (nI cl), .int (nI t), v4, .int (nI ls), .int (nI 21), .int (nI ((sH t) - (sS t))), .int (nI (k + 1)), .int (nI (((sB ((((sH t) - (sS t)) + (k + 1)) - 1)) + (k + 1)) - 1)), v10, v11, v12]) f_40_60 (Nat.le_of_ble_eq_true rfl) rfl ?_
      refine x_aload_n f_40_62 rfl ?_
      refine x_getR f_40_63 hPv (by decide) hPX ?_
      refine x_iload_n f_40_66 rfl ?_
      refine x_iload_n f_40_67 rfl ?_
      refine x_iload f_40_68 rfl ?_
      refine x_isubN f_40_70 (by omega) ?_
      refine x_iload f_40_71 rfl ?_
      refine x_imulN f_40_73 ?_
      refine x_isubN f_40_74 hi1 ?_
      refine x_iald (j := (cl - ((t - (((sB ((((sH t) - (sS t)) + (k + 1)) - 1)) + (k + 1)) - 1)) * 21))) f_40_75 hX (by omega) (by decide) ?_
      refine x_topi (w := nI (enc (lo k))) iL ?_
      refine x_istore (ls1 := [.ref Pv, .int (nI 1), .int (nI cl), .int (nI t), v4, .int (nI ls), .int (nI 21), .int (nI ((sH t) - (sS t))), .int (nI (k + 1)), .int (nI (((sB ((((sH t) - (sS t)) + (k + 1)) - 1)) + (k + 1)) - 1)), .int (nI (enc (lo k))), v11, v12]) f_40_76 (Nat.le_of_ble_eq_true rfl) rfl ?_
      refine x_aload_n f_40_78 rfl ?_
      refine x_getR f_40_79 hPv (by decide) hPX ?_
      refine x_iload_n f_40_82 rfl ?_
      refine x_iload f_40_83 rfl ?_
      refine x_iload f_40_85 rfl ?_
      refine x_imulN f_40_87 ?_
      refine x_isubN f_40_88 hi2 ?_
      refine x_iald (j := (cl - ((k + 1) * 21))) f_40_89 hX (by omega) (by decide) ?_
      refine x_topi (w := nI (enc (up k))) iU ?_
      refine x_istore (ls1 := [.ref Pv, .int (nI 1), .int (nI cl), .int (nI t), v4, .int (nI ls), .int (nI 21), .int (nI ((sH t) - (sS t))), .int (nI (k + 1)), .int (nI (((sB ((((sH t) - (sS t)) + (k + 1)) - 1)) + (k + 1)) - 1)), .int (nI (enc (lo k))), .int (nI (enc (up k))), v12]) f_40_90 (Nat.le_of_ble_eq_true rfl) rfl ?_
      refine x_iload f_40_92 rfl ?_
      refine x_iload f_40_94 rfl ?_
      refine x_icmpN_ne (t := 109) f_40_96 (by decide) (by omega) (by omega) (fun c_e => ?_) (fun c_e => ?_)
      · refine x_iload f_40_109 rfl ?_
        refine x_bipush (v := nI 32) f_40_111 (by decide) ?_
        refine x_idivN f_40_113 (by omega) (by decide) (by decide) ?_
        refine x_iload f_40_114 rfl ?_
        refine x_bipush (v := nI 32) f_40_116 (by decide) ?_
        refine x_idivN f_40_118 (by omega) (by decide) (by decide) ?_
        refine x_iaddN f_40_119 ?_
        refine x_istore (ls1 := [.ref Pv, .int (nI 1), .int (nI cl), .int (nI t), v4, .int (nI ls), .int (nI 21), .int (nI ((sH t) - (sS t))), .int (nI (k + 1)), .int (nI (((sB ((((sH t) - (sS t)) + (k + 1)) - 1)) + (k + 1)) - 1)), .int (nI (enc (lo k))), .int (nI (enc (up k))), .int (nI (((enc (lo k)) / 32) + ((enc (up k)) / 32)))]) f_40_120 (Nat.le_of_ble_eq_true rfl) rfl ?_
        refine x_iload f_40_122 rfl ?_
        refine x_iload f_40_124 rfl ?_
        refine x_bipush (v := nI 32) f_40_126 (by decide) ?_
        refine x_idivN f_40_128 (by omega) (by decide) (by decide) ?_
        refine x_icmpN_ge (t := 151) f_40_129 (by decide) (by omega) (by omega) (fun c_l => ?_) (fun c_l => ?_)
        · refine x_iinc (v := nI (k + 1 + 1)) (ls1 := [.ref Pv, .int (nI 1), .int (nI cl), .int (nI t), v4, .int (nI ls), .int (nI 21), .int (nI ((sH t) - (sS t))), .int (nI (k + 1 + 1)), .int (nI (((sB ((((sH t) - (sS t)) + (k + 1)) - 1)) + (k + 1)) - 1)), .int (nI (enc (lo k))), .int (nI (enc (up k))), .int (nI (((enc (lo k)) / 32) + ((enc (up k)) / 32)))]) f_40_151 rfl (by exact nI_add _ 1) rfl ?_
          refine x_goto (t := 27) f_40_154 (by decide) ?_
          have hbt : bt x (10 + k) ((lo k).1 + (up k).1) = x := if_neg (by omega)
          rw [lr_S, if_neg (by omega), if_neg (fun z => c_e z.1), hbt] at e
          refine ih (k + 1) x _ hls (by omega) hx hx2 e _ _ _ _
        · refine x_iload f_40_132 rfl ?_
          refine x_bipush (v := nI 32) f_40_134 (by decide) ?_
          refine x_imulN f_40_136 ?_
          refine x_iconst (v := nI 2) f_40_137 (by decide) ?_
          refine x_iaddN f_40_138 ?_
          refine x_bipush (v := nI 8) f_40_139 (by decide) ?_
          refine x_iload_n f_40_141 rfl ?_
          refine x_imulN f_40_142 ?_
          refine x_iaddN f_40_143 ?_
          refine x_iload f_40_144 rfl ?_
          refine x_iaddN f_40_146 ?_
          refine x_iconst (v := nI 1) f_40_147 (by decide) ?_
          refine x_isubN f_40_148 (by omega) ?_
          refine x_istore (ls1 := [.ref Pv, .int (nI 1), .int (nI cl), .int (nI t), v4, .int (nI ((((((((enc (lo k)) / 32) + ((enc (up k)) / 32)) * 32) + 2) + (8 * 1)) + (k + 1)) - 1)), .int (nI 21), .int (nI ((sH t) - (sS t))), .int (nI (k + 1)), .int (nI (((sB ((((sH t) - (sS t)) + (k + 1)) - 1)) + (k + 1)) - 1)), .int (nI (enc (lo k))), .int (nI (enc (up k))), .int (nI (((enc (lo k)) / 32) + ((enc (up k)) / 32)))]) f_40_149 (Nat.le_of_ble_eq_true rfl) rfl ?_
          refine x_iinc (v := nI (k + 1 + 1)) (ls1 := [.ref Pv, .int (nI 1), .int (nI cl), .int (nI t), v4, .int (nI ((((((((enc (lo k)) / 32) + ((enc (up k)) / 32)) * 32) + 2) + (8 * 1)) + (k + 1)) - 1)), .int (nI 21), .int (nI ((sH t) - (sS t))), .int (nI (k + 1 + 1)), .int (nI (((sB ((((sH t) - (sS t)) + (k + 1)) - 1)) + (k + 1)) - 1)), .int (nI (enc (lo k))), .int (nI (enc (up k))), .int (nI (((enc (lo k)) / 32) + ((enc (up k)) / 32)))]) f_40_151 rfl (by exact nI_add _ 1) rfl ?_
          refine x_goto (t := 27) f_40_154 (by decide) ?_
          have hbt : bt x (10 + k) ((lo k).1 + (up k).1) = ((lo k).1 + (up k).1, 10 + k) := if_pos (by omega)
          rw [lr_S, if_neg (by omega), if_neg (fun z => c_e z.1), hbt] at e
          refine ih (k + 1) ((lo k).1 + (up k).1, 10 + k) _ (by rw [e1, e2, enc_mk ((lo k).1 + (up k).1)]; omega) (by omega) (by dsimp only; omega) (by dsimp only; omega) e _ _ _ _
      · refine x_iload f_40_99 rfl ?_
        refine x_bipush (v := nI 64) f_40_101 (by decide) ?_
        refine x_icmpN_ge (t := 109) f_40_103 (by decide) (by omega) (by decide) (fun c_64 => ?_) (fun c_64 => ?_)
        · refine x_iload f_40_109 rfl ?_
          refine x_bipush (v := nI 32) f_40_111 (by decide) ?_
          refine x_idivN f_40_113 (by omega) (by decide) (by decide) ?_
          refine x_iload f_40_114 rfl ?_
          refine x_bipush (v := nI 32) f_40_116 (by decide) ?_
          refine x_idivN f_40_118 (by omega) (by decide) (by decide) ?_
          refine x_iaddN f_40_119 ?_
          refine x_istore (ls1 := [.ref Pv, .int (nI 1), .int (nI cl), .int (nI t), v4, .int (nI ls), .int (nI 21), .int (nI ((sH t) - (sS t))), .int (nI (k + 1)), .int (nI (((sB ((((sH t) - (sS t)) + (k + 1)) - 1)) + (k + 1)) - 1)), .int (nI (enc (lo k))), .int (nI (enc (up k))), .int (nI (((enc (lo k)) / 32) + ((enc (up k)) / 32)))]) f_40_120 (Nat.le_of_ble_eq_true rfl) rfl ?_
          refine x_iload f_40_122 rfl ?_
          refine x_iload f_40_124 rfl ?_
          refine x_bipush (v := nI 32) f_40_126 (by decide) ?_
          refine x_idivN f_40_128 (by omega) (by decide) (by decide) ?_
          refine x_icmpN_ge (t := 151) f_40_129 (by decide) (by omega) (by omega) (fun c_l => ?_) (fun c_l => ?_)
          · refine x_iinc (v := nI (k + 1 + 1)) (ls1 := [.ref Pv, .int (nI 1), .int (nI cl), .int (nI t), v4, .int (nI ls), .int (nI 21), .int (nI ((sH t) - (sS t))), .int (nI (k + 1 + 1)), .int (nI (((sB ((((sH t) - (sS t)) + (k + 1)) - 1)) + (k + 1)) - 1)), .int (nI (enc (lo k))), .int (nI (enc (up k))), .int (nI (((enc (lo k)) / 32) + ((enc (up k)) / 32)))]) f_40_151 rfl (by exact nI_add _ 1) rfl ?_
            refine x_goto (t := 27) f_40_154 (by decide) ?_
            have hbt : bt x (10 + k) ((lo k).1 + (up k).1) = x := if_neg (by omega)
            rw [lr_S, if_neg (by omega), if_neg (fun z => absurd z.2 (by omega)), hbt] at e
            refine ih (k + 1) x _ hls (by omega) hx hx2 e _ _ _ _
          · refine x_iload f_40_132 rfl ?_
            refine x_bipush (v := nI 32) f_40_134 (by decide) ?_
            refine x_imulN f_40_136 ?_
            refine x_iconst (v := nI 2) f_40_137 (by decide) ?_
            refine x_iaddN f_40_138 ?_
            refine x_bipush (v := nI 8) f_40_139 (by decide) ?_
            refine x_iload_n f_40_141 rfl ?_
            refine x_imulN f_40_142 ?_
            refine x_iaddN f_40_143 ?_
            refine x_iload f_40_144 rfl ?_
            refine x_iaddN f_40_146 ?_
            refine x_iconst (v := nI 1) f_40_147 (by decide) ?_
            refine x_isubN f_40_148 (by omega) ?_
            refine x_istore (ls1 := [.ref Pv, .int (nI 1), .int (nI cl), .int (nI t), v4, .int (nI ((((((((enc (lo k)) / 32) + ((enc (up k)) / 32)) * 32) + 2) + (8 * 1)) + (k + 1)) - 1)), .int (nI 21), .int (nI ((sH t) - (sS t))), .int (nI (k + 1)), .int (nI (((sB ((((sH t) - (sS t)) + (k + 1)) - 1)) + (k + 1)) - 1)), .int (nI (enc (lo k))), .int (nI (enc (up k))), .int (nI (((enc (lo k)) / 32) + ((enc (up k)) / 32)))]) f_40_149 (Nat.le_of_ble_eq_true rfl) rfl ?_
            refine x_iinc (v := nI (k + 1 + 1)) (ls1 := [.ref Pv, .int (nI 1), .int (nI cl), .int (nI t), v4, .int (nI ((((((((enc (lo k)) / 32) + ((enc (up k)) / 32)) * 32) + 2) + (8 * 1)) + (k + 1)) - 1)), .int (nI 21), .int (nI ((sH t) - (sS t))), .int (nI (k + 1 + 1)), .int (nI (((sB ((((sH t) - (sS t)) + (k + 1)) - 1)) + (k + 1)) - 1)), .int (nI (enc (lo k))), .int (nI (enc (up k))), .int (nI (((enc (lo k)) / 32) + ((enc (up k)) / 32)))]) f_40_151 rfl (by exact nI_add _ 1) rfl ?_
            refine x_goto (t := 27) f_40_154 (by decide) ?_
            have hbt : bt x (10 + k) ((lo k).1 + (up k).1) = ((lo k).1 + (up k).1, 10 + k) := if_pos (by omega)
            rw [lr_S, if_neg (by omega), if_neg (fun z => absurd z.2 (by omega)), hbt] at e
            refine ih (k + 1) ((lo k).1 + (up k).1, 10 + k) _ (by rw [e1, e2, enc_mk ((lo k).1 + (up k).1)]; omega) (by omega) (by dsimp only; omega) (by dsimp only; omega) e _ _ _ _
        · refine x_iload f_40_106 rfl ?_
          refine x_retI f_40_108 rfl ?_
          rw [lr_S, if_neg (by omega), if_pos ⟨c_e, by omega⟩] at e
          exact ⟨by rw [← e], rfl⟩
set_option maxRecDepth 20000 in
theorem k_leastOn1 {h : mj_H} (C : SC h) {Pv X : Nat} (hPv : mj_K h Pv = (5, 1)) (hPX : mj_R h Pv 0 = some X) (hX : mj_K h X = (12, 9261)) {cl t : Nat} (ht : t < 21) (hc : cl < 9261) {lo up : Nat → Nat × Nat} (hq : ∀ k, k < sS t → (t - (sB (sH t - sS t + k) + k)) * 21 ≤ cl ∧ (k + 1) * 21 ≤ cl ∧ mj_I h X (cl - (t - (sB (sH t - sS t + k) + k)) * 21) = nI (enc (lo k)) ∧ mj_I h X (cl - (k + 1) * 21) = nI (enc (up k)) ∧ (lo k).1 ≤ 216 ∧ (lo k).2 < 32 ∧ (up k).1 ≤ 216 ∧ (up k).2 < 32) {x : Nat × Nat} {ls : Nat} (hls : ls = enc x) (hx : x.1 ≤ 1000) (hx2 : x.2 < 32) : mxc 0 40 [.ref Pv, .int (nI 1), .int (nI cl), .int (nI t), .int (nI ls)] h (fun r h' => r = some (.int (nI (enc (lr lo up 10 (sS t) 0 x)))) ∧ h' = h) := by
  have st1 := st_1 t ht
  show mx 0 40 0 [.ref Pv, .int (nI 1), .int (nI cl), .int (nI t), .int (nI ls), mj_unset, mj_unset, mj_unset, mj_unset, mj_unset, mj_unset, mj_unset, mj_unset] [] h _
  refine x_iload f_40_0 rfl ?_
  refine x_istore (ls1 := [.ref Pv, .int (nI 1), .int (nI cl), .int (nI t), .int (nI ls), .int (nI ls), mj_unset, mj_unset, mj_unset, mj_unset, mj_unset, mj_unset, mj_unset]) f_40_2 (Nat.le_of_ble_eq_true rfl) rfl ?_
  refine x_gets f_40_4 ?_
  refine x_iload_n f_40_7 rfl ?_
  refine x_iald (j := 1) f_40_8 C.k3 (by omega) (by decide) ?_
  refine x_topi (w := nI 21) (C.v3_1) ?_
  refine x_istore (ls1 := [.ref Pv, .int (nI 1), .int (nI cl), .int (nI t), .int (nI ls), .int (nI ls), .int (nI 21), mj_unset, mj_unset, mj_unset, mj_unset, mj_unset, mj_unset]) f_40_9 (Nat.le_of_ble_eq_true rfl) rfl ?_
  refine x_gets f_40_11 ?_
  refine x_iload_n f_40_14 rfl ?_
  refine x_iald (j := t) f_40_15 C.k5 (by omega) (by decide) ?_
  refine x_topi (w := nI (sH t)) (C.vH ht) ?_
  refine x_gets f_40_16 ?_
  refine x_iload_n f_40_19 rfl ?_
  refine x_iald (j := t) f_40_20 C.k6 (by omega) (by decide) ?_
  refine x_topi (w := nI (sS t)) (C.vS ht) ?_
  refine x_isubN f_40_21 (by omega) ?_
  refine x_istore (ls1 := [.ref Pv, .int (nI 1), .int (nI cl), .int (nI t), .int (nI ls), .int (nI ls), .int (nI 21), .int (nI ((sH t) - (sS t))), mj_unset, mj_unset, mj_unset, mj_unset, mj_unset]) f_40_22 (Nat.le_of_ble_eq_true rfl) rfl ?_
  refine x_iconst (v := nI 1) f_40_24 (by decide) ?_
  refine x_istore (ls1 := [.ref Pv, .int (nI 1), .int (nI cl), .int (nI t), .int (nI ls), .int (nI ls), .int (nI 21), .int (nI ((sH t) - (sS t))), .int (nI 1), mj_unset, mj_unset, mj_unset, mj_unset]) f_40_25 (Nat.le_of_ble_eq_true rfl) rfl ?_
  exact kleast_l1 C hPv hPX hX ht hc hq _ (sS t) 0 x ls hls (Nat.zero_add _) hx hx2 rfl _ _ _ _
set_option maxRecDepth 20000 in
theorem kleast_l2 {h : mj_H} (C : SC h) {Pv X : Nat} (hPv : mj_K h Pv = (5, 1)) (hPX : mj_R h Pv 0 = some X) (hX : mj_K h X = (12, 9261)) {v4 : Value} {cl t : Nat} (ht : t < 21) (hc : cl < 9261) {lo up : Nat → Nat × Nat} (hq : ∀ k, k < sS t → (t - (sB (sH t - sS t + k) + k)) * 1 ≤ cl ∧ (k + 1) * 1 ≤ cl ∧ mj_I h X (cl - (t - (sB (sH t - sS t + k) + k)) * 1) = nI (enc (lo k)) ∧ mj_I h X (cl - (k + 1) * 1) = nI (enc (up k)) ∧ (lo k).1 ≤ 216 ∧ (lo k).2 < 32 ∧ (up k).1 ≤ 216 ∧ (up k).2 < 32) (Y : Nat × Nat) : ∀ (n k : Nat) (x : Nat × Nat) (ls : Nat), ls = enc x → k + n = sS t → x.1 ≤ 1000 → x.2 < 32 → lr lo up 18 n k x = Y → ∀ v9 v10 v11 v12 : Value, mx 0 40 27 [.ref Pv, .int (nI 2), .int (nI cl), .int (nI t), v4, .int (nI ls), .int (nI 1), .int (nI ((sH t) - (sS t))), .int (nI (k + 1)), v9, v10, v11, v12] [] h (fun r h' => r = some (.int (nI (enc Y))) ∧ h' = h) := by
  intro n
  have st1 := st_1 t ht
  induction n with
  | zero =>
    intro k x ls hls hn hx hx2 e v9 v10 v11 v12
    have dx : enc x = 32 * x.1 + x.2 := rfl
    refine x_iload f_40_27 rfl ?_
    refine x_gets f_40_29 ?_
    refine x_iload_n f_40_32 rfl ?_
    refine x_iald (j := t) f_40_33 C.k6 (by omega) (by decide) ?_
    refine x_topi (w := nI (sS t)) (C.vS ht) ?_
    refine x_icmpN_gt (t := 157) f_40_34 (by decide) (by omega) (by omega) (fun c_1 => ?_) (fun c_1 => by omega)
    refine x_iload f_40_157 rfl ?_
    refine x_retI f_40_159 rfl ?_
    exact ⟨by rw [← e, hls]; rfl, rfl⟩
  | succ n ih =>
    intro k x ls hls hn hx hx2 e v9 v10 v11 v12
    have hk : k < sS t := by omega
    have st5 := st_5 t ht k hk
    have q := hq k hk
    have eI : (((sB ((((sH t) - (sS t)) + (k + 1)) - 1)) + (k + 1)) - 1) = sB (sH t - sS t + k) + k := by
      rw [show ((sH t) - (sS t)) + (k + 1) - 1 = sH t - sS t + k by omega]
      omega
    have hi1 : (t - (((sB ((((sH t) - (sS t)) + (k + 1)) - 1)) + (k + 1)) - 1)) * 1 ≤ cl := by rw [eI]; exact q.1
    have hi2 : (k + 1) * 1 ≤ cl := q.2.1
    have iL : mj_I h X (cl - ((t - (((sB ((((sH t) - (sS t)) + (k + 1)) - 1)) + (k + 1)) - 1)) * 1)) = nI (enc (lo k)) := by rw [eI]; exact q.2.2.1
    have iU : mj_I h X (cl - ((k + 1) * 1)) = nI (enc (up k)) := q.2.2.2.1
    have dl : enc (lo k) = 32 * (lo k).1 + (lo k).2 := rfl
    have du : enc (up k) = 32 * (up k).1 + (up k).2 := rfl
    have dx : enc x = 32 * x.1 + x.2 := rfl
    have e1 : (enc (lo k)) / 32 = (lo k).1 := enc_div q.2.2.2.2.2.1
    have e2 : (enc (up k)) / 32 = (up k).1 := enc_div q.2.2.2.2.2.2.2
    have e3 : enc x / 32 = x.1 := enc_div hx2
    refine x_iload f_40_27 rfl ?_
    refine x_gets f_40_29 ?_
    refine x_iload_n f_40_32 rfl ?_
    refine x_iald (j := t) f_40_33 C.k6 (by omega) (by decide) ?_
    refine x_topi (w := nI (sS t)) (C.vS ht) ?_
    refine x_icmpN_gt (t := 157) f_40_34 (by decide) (by omega) (by omega) (fun c_1 => by omega) (fun c_1 => ?_)
    refine x_iload f_40_37 rfl ?_
    refine x_bipush (v := nI 96) f_40_39 (by decide) ?_
    refine x_icmpN_lt (t := 157) f_40_41 (by decide) (by omega) (by decide) (fun c_9 => ?_) (fun c_9 => ?_)
    · refine x_iload f_40_157 rfl ?_
      refine x_retI f_40_159 rfl ?_
      rw [lr_S, if_pos (by omega)] at e
      exact ⟨by rw [← e, hls], rfl⟩
    · refine x_gets f_40_44 ?_
      refine x_iload f_40_47 rfl ?_
      refine x_iload f_40_49 rfl ?_
      refine x_iaddN f_40_51 ?_
      refine x_iconst (v := nI 1) f_40_52 (by decide) ?_
      refine x_isubN f_40_53 (by omega) ?_
      refine x_iald (j := ((((sH t) - (sS t)) + (k + 1)) - 1)) f_40_54 C.k4 (by omega) (by decide) ?_
      refine x_topi (w := nI (sB ((((sH t) - (sS t)) + (k + 1)) - 1))) (C.vB (by omega)) ?_
      refine x_iload f_40_55 rfl ?_
      refine x_iaddN f_40_57 ?_
      refine x_iconst (v := nI 1) f_40_58 (by decide) ?_
      refine x_isubN f_40_59 (by omega) ?_
      refine x_istore (ls1 := [.ref Pv, .int (nI 2), .int (nI cl), .int (nI t), v4, .int (nI ls), .int (nI 1), .int (nI ((sH t) - (sS t))), .int (nI (k + 1)), .int (nI (((sB ((((sH t) - (sS t)) + (k + 1)) - 1)) + (k + 1)) - 1)), v10, v11, v12]) f_40_60 (Nat.le_of_ble_eq_true rfl) rfl ?_
      refine x_aload_n f_40_62 rfl ?_
      refine x_getR f_40_63 hPv (by decide) hPX ?_
      refine x_iload_n f_40_66 rfl ?_
      refine x_iload_n f_40_67 rfl ?_
      refine x_iload f_40_68 rfl ?_
      refine x_isubN f_40_70 (by omega) ?_
      refine x_iload f_40_71 rfl ?_
      refine x_imulN f_40_73 ?_
      refine x_isubN f_40_74 hi1 ?_
      refine x_iald (j := (cl - ((t - (((sB ((((sH t) - (sS t)) + (k + 1)) - 1)) + (k + 1)) - 1)) * 1))) f_40_75 hX (by omega) (by decide) ?_
      refine x_topi (w := nI (enc (lo k))) iL ?_
      refine x_istore (ls1 := [.ref Pv, .int (nI 2), .int (nI cl), .int (nI t), v4, .int (nI ls), .int (nI 1), .int (nI ((sH t) - (sS t))), .int (nI (k + 1)), .int (nI (((sB ((((sH t) - (sS t)) + (k + 1)) - 1)) + (k + 1)) - 1)), .int (nI (enc (lo k))), v11, v12]) f_40_76 (Nat.le_of_ble_eq_true rfl) rfl ?_
      refine x_aload_n f_40_78 rfl ?_
      refine x_getR f_40_79 hPv (by decide) hPX ?_
      refine x_iload_n f_40_82 rfl ?_
      refine x_iload f_40_83 rfl ?_
      refine x_iload f_40_85 rfl ?_
      refine x_imulN f_40_87 ?_
      refine x_isubN f_40_88 hi2 ?_
      refine x_iald (j := (cl - ((k + 1) * 1))) f_40_89 hX (by omega) (by decide) ?_
      refine x_topi (w := nI (enc (up k))) iU ?_
      refine x_istore (ls1 := [.ref Pv, .int (nI 2), .int (nI cl), .int (nI t), v4, .int (nI ls), .int (nI 1), .int (nI ((sH t) - (sS t))), .int (nI (k + 1)), .int (nI (((sB ((((sH t) - (sS t)) + (k + 1)) - 1)) + (k + 1)) - 1)), .int (nI (enc (lo k))), .int (nI (enc (up k))), v12]) f_40_90 (Nat.le_of_ble_eq_true rfl) rfl ?_
      refine x_iload f_40_92 rfl ?_
      refine x_iload f_40_94 rfl ?_
      refine x_icmpN_ne (t := 109) f_40_96 (by decide) (by omega) (by omega) (fun c_e => ?_) (fun c_e => ?_)
      · refine x_iload f_40_109 rfl ?_
        refine x_bipush (v := nI 32) f_40_111 (by decide) ?_
        refine x_idivN f_40_113 (by omega) (by decide) (by decide) ?_
        refine x_iload f_40_114 rfl ?_
        refine x_bipush (v := nI 32) f_40_116 (by decide) ?_
        refine x_idivN f_40_118 (by omega) (by decide) (by decide) ?_
        refine x_iaddN f_40_119 ?_
        refine x_istore (ls1 := [.ref Pv, .int (nI 2), .int (nI cl), .int (nI t), v4, .int (nI ls), .int (nI 1), .int (nI ((sH t) - (sS t))), .int (nI (k + 1)), .int (nI (((sB ((((sH t) - (sS t)) + (k + 1)) - 1)) + (k + 1)) - 1)), .int (nI (enc (lo k))), .int (nI (enc (up k))), .int (nI (((enc (lo k)) / 32) + ((enc (up k)) / 32)))]) f_40_120 (Nat.le_of_ble_eq_true rfl) rfl ?_
        refine x_iload f_40_122 rfl ?_
        refine x_iload f_40_124 rfl ?_
        refine x_bipush (v := nI 32) f_40_126 (by decide) ?_
        refine x_idivN f_40_128 (by omega) (by decide) (by decide) ?_
        refine x_icmpN_ge (t := 151) f_40_129 (by decide) (by omega) (by omega) (fun c_l => ?_) (fun c_l => ?_)
        · refine x_iinc (v := nI (k + 1 + 1)) (ls1 := [.ref Pv, .int (nI 2), .int (nI cl), .int (nI t), v4, .int (nI ls), .int (nI 1), .int (nI ((sH t) - (sS t))), .int (nI (k + 1 + 1)), .int (nI (((sB ((((sH t) - (sS t)) + (k + 1)) - 1)) + (k + 1)) - 1)), .int (nI (enc (lo k))), .int (nI (enc (up k))), .int (nI (((enc (lo k)) / 32) + ((enc (up k)) / 32)))]) f_40_151 rfl (by exact nI_add _ 1) rfl ?_
          refine x_goto (t := 27) f_40_154 (by decide) ?_
          have hbt : bt x (18 + k) ((lo k).1 + (up k).1) = x := if_neg (by omega)
          rw [lr_S, if_neg (by omega), if_neg (fun z => c_e z.1), hbt] at e
          refine ih (k + 1) x _ hls (by omega) hx hx2 e _ _ _ _
        · refine x_iload f_40_132 rfl ?_
          refine x_bipush (v := nI 32) f_40_134 (by decide) ?_
          refine x_imulN f_40_136 ?_
          refine x_iconst (v := nI 2) f_40_137 (by decide) ?_
          refine x_iaddN f_40_138 ?_
          refine x_bipush (v := nI 8) f_40_139 (by decide) ?_
          refine x_iload_n f_40_141 rfl ?_
          refine x_imulN f_40_142 ?_
          refine x_iaddN f_40_143 ?_
          refine x_iload f_40_144 rfl ?_
          refine x_iaddN f_40_146 ?_
          refine x_iconst (v := nI 1) f_40_147 (by decide) ?_
          refine x_isubN f_40_148 (by omega) ?_
          refine x_istore (ls1 := [.ref Pv, .int (nI 2), .int (nI cl), .int (nI t), v4, .int (nI ((((((((enc (lo k)) / 32) + ((enc (up k)) / 32)) * 32) + 2) + (8 * 2)) + (k + 1)) - 1)), .int (nI 1), .int (nI ((sH t) - (sS t))), .int (nI (k + 1)), .int (nI (((sB ((((sH t) - (sS t)) + (k + 1)) - 1)) + (k + 1)) - 1)), .int (nI (enc (lo k))), .int (nI (enc (up k))), .int (nI (((enc (lo k)) / 32) + ((enc (up k)) / 32)))]) f_40_149 (Nat.le_of_ble_eq_true rfl) rfl ?_
          refine x_iinc (v := nI (k + 1 + 1)) (ls1 := [.ref Pv, .int (nI 2), .int (nI cl), .int (nI t), v4, .int (nI ((((((((enc (lo k)) / 32) + ((enc (up k)) / 32)) * 32) + 2) + (8 * 2)) + (k + 1)) - 1)), .int (nI 1), .int (nI ((sH t) - (sS t))), .int (nI (k + 1 + 1)), .int (nI (((sB ((((sH t) - (sS t)) + (k + 1)) - 1)) + (k + 1)) - 1)), .int (nI (enc (lo k))), .int (nI (enc (up k))), .int (nI (((enc (lo k)) / 32) + ((enc (up k)) / 32)))]) f_40_151 rfl (by exact nI_add _ 1) rfl ?_
          refine x_goto (t := 27) f_40_154 (by decide) ?_
          have hbt : bt x (18 + k) ((lo k).1 + (up k).1) = ((lo k).1 + (up k).1, 18 + k) := if_pos (by omega)
          rw [lr_S, if_neg (by omega), if_neg (fun z => c_e z.1), hbt] at e
          refine ih (k + 1) ((lo k).1 + (up k).1, 18 + k) _ (by rw [e1, e2, enc_mk ((lo k).1 + (up k).1)]; omega) (by omega) (by dsimp only; omega) (by dsimp only; omega) e _ _ _ _
      · refine x_iload f_40_99 rfl ?_
        refine x_bipush (v := nI 64) f_40_101 (by decide) ?_
        refine x_icmpN_ge (t := 109) f_40_103 (by decide) (by omega) (by decide) (fun c_64 => ?_) (fun c_64 => ?_)
        · refine x_iload f_40_109 rfl ?_
          refine x_bipush (v := nI 32) f_40_111 (by decide) ?_
          refine x_idivN f_40_113 (by omega) (by decide) (by decide) ?_
          refine x_iload f_40_114 rfl ?_
          refine x_bipush (v := nI 32) f_40_116 (by decide) ?_
          refine x_idivN f_40_118 (by omega) (by decide) (by decide) ?_
          refine x_iaddN f_40_119 ?_
          refine x_istore (ls1 := [.ref Pv, .int (nI 2), .int (nI cl), .int (nI t), v4, .int (nI ls), .int (nI 1), .int (nI ((sH t) - (sS t))), .int (nI (k + 1)), .int (nI (((sB ((((sH t) - (sS t)) + (k + 1)) - 1)) + (k + 1)) - 1)), .int (nI (enc (lo k))), .int (nI (enc (up k))), .int (nI (((enc (lo k)) / 32) + ((enc (up k)) / 32)))]) f_40_120 (Nat.le_of_ble_eq_true rfl) rfl ?_
          refine x_iload f_40_122 rfl ?_
          refine x_iload f_40_124 rfl ?_
          refine x_bipush (v := nI 32) f_40_126 (by decide) ?_
          refine x_idivN f_40_128 (by omega) (by decide) (by decide) ?_
          refine x_icmpN_ge (t := 151) f_40_129 (by decide) (by omega) (by omega) (fun c_l => ?_) (fun c_l => ?_)
          · refine x_iinc (v := nI (k + 1 + 1)) (ls1 := [.ref Pv, .int (nI 2), .int (nI cl), .int (nI t), v4, .int (nI ls), .int (nI 1), .int (nI ((sH t) - (sS t))), .int (nI (k + 1 + 1)), .int (nI (((sB ((((sH t) - (sS t)) + (k + 1)) - 1)) + (k + 1)) - 1)), .int (nI (enc (lo k))), .int (nI (enc (up k))), .int (nI (((enc (lo k)) / 32) + ((enc (up k)) / 32)))]) f_40_151 rfl (by exact nI_add _ 1) rfl ?_
            refine x_goto (t := 27) f_40_154 (by decide) ?_
            have hbt : bt x (18 + k) ((lo k).1 + (up k).1) = x := if_neg (by omega)
            rw [lr_S, if_neg (by omega), if_neg (fun z => absurd z.2 (by omega)), hbt] at e
            refine ih (k + 1) x _ hls (by omega) hx hx2 e _ _ _ _
          · refine x_iload f_40_132 rfl ?_
            refine x_bipush (v := nI 32) f_40_134 (by decide) ?_
            refine x_imulN f_40_136 ?_
            refine x_iconst (v := nI 2) f_40_137 (by decide) ?_
            refine x_iaddN f_40_138 ?_
            refine x_bipush (v := nI 8) f_40_139 (by decide) ?_
            refine x_iload_n f_40_141 rfl ?_
            refine x_imulN f_40_142 ?_
            refine x_iaddN f_40_143 ?_
            refine x_iload f_40_144 rfl ?_
            refine x_iaddN f_40_146 ?_
            refine x_iconst (v := nI 1) f_40_147 (by decide) ?_
            refine x_isubN f_40_148 (by omega) ?_
            refine x_istore (ls1 := [.ref Pv, .int (nI 2), .int (nI cl), .int (nI t), v4, .int (nI ((((((((enc (lo k)) / 32) + ((enc (up k)) / 32)) * 32) + 2) + (8 * 2)) + (k + 1)) - 1)), .int (nI 1), .int (nI ((sH t) - (sS t))), .int (nI (k + 1)), .int (nI (((sB ((((sH t) - (sS t)) + (k + 1)) - 1)) + (k + 1)) - 1)), .int (nI (enc (lo k))), .int (nI (enc (up k))), .int (nI (((enc (lo k)) / 32) + ((enc (up k)) / 32)))]) f_40_149 (Nat.le_of_ble_eq_true rfl) rfl ?_
            refine x_iinc (v := nI (k + 1 + 1)) (ls1 := [.ref Pv, .int (nI 2), .int (nI cl), .int (nI t), v4, .int (nI ((((((((enc (lo k)) / 32) + ((enc (up k)) / 32)) * 32) + 2) + (8 * 2)) + (k + 1)) - 1)), .int (nI 1), .int (nI ((sH t) - (sS t))), .int (nI (k + 1 + 1)), .int (nI (((sB ((((sH t) - (sS t)) + (k + 1)) - 1)) + (k + 1)) - 1)), .int (nI (enc (lo k))), .int (nI (enc (up k))), .int (nI (((enc (lo k)) / 32) + ((enc (up k)) / 32)))]) f_40_151 rfl (by exact nI_add _ 1) rfl ?_
            refine x_goto (t := 27) f_40_154 (by decide) ?_
            have hbt : bt x (18 + k) ((lo k).1 + (up k).1) = ((lo k).1 + (up k).1, 18 + k) := if_pos (by omega)
            rw [lr_S, if_neg (by omega), if_neg (fun z => absurd z.2 (by omega)), hbt] at e
            refine ih (k + 1) ((lo k).1 + (up k).1, 18 + k) _ (by rw [e1, e2, enc_mk ((lo k).1 + (up k).1)]; omega) (by omega) (by dsimp only; omega) (by dsimp only; omega) e _ _ _ _
        · refine x_iload f_40_106 rfl ?_
          refine x_retI f_40_108 rfl ?_
          rw [lr_S, if_neg (by omega), if_pos ⟨c_e, by omega⟩] at e
          exact ⟨by rw [← e], rfl⟩
set_option maxRecDepth 20000 in
theorem k_leastOn2 {h : mj_H} (C : SC h) {Pv X : Nat} (hPv : mj_K h Pv = (5, 1)) (hPX : mj_R h Pv 0 = some X) (hX : mj_K h X = (12, 9261)) {cl t : Nat} (ht : t < 21) (hc : cl < 9261) {lo up : Nat → Nat × Nat} (hq : ∀ k, k < sS t → (t - (sB (sH t - sS t + k) + k)) * 1 ≤ cl ∧ (k + 1) * 1 ≤ cl ∧ mj_I h X (cl - (t - (sB (sH t - sS t + k) + k)) * 1) = nI (enc (lo k)) ∧ mj_I h X (cl - (k + 1) * 1) = nI (enc (up k)) ∧ (lo k).1 ≤ 216 ∧ (lo k).2 < 32 ∧ (up k).1 ≤ 216 ∧ (up k).2 < 32) {x : Nat × Nat} {ls : Nat} (hls : ls = enc x) (hx : x.1 ≤ 1000) (hx2 : x.2 < 32) : mxc 0 40 [.ref Pv, .int (nI 2), .int (nI cl), .int (nI t), .int (nI ls)] h (fun r h' => r = some (.int (nI (enc (lr lo up 18 (sS t) 0 x)))) ∧ h' = h) := by
  have st1 := st_1 t ht
  show mx 0 40 0 [.ref Pv, .int (nI 2), .int (nI cl), .int (nI t), .int (nI ls), mj_unset, mj_unset, mj_unset, mj_unset, mj_unset, mj_unset, mj_unset, mj_unset] [] h _
  refine x_iload f_40_0 rfl ?_
  refine x_istore (ls1 := [.ref Pv, .int (nI 2), .int (nI cl), .int (nI t), .int (nI ls), .int (nI ls), mj_unset, mj_unset, mj_unset, mj_unset, mj_unset, mj_unset, mj_unset]) f_40_2 (Nat.le_of_ble_eq_true rfl) rfl ?_
  refine x_gets f_40_4 ?_
  refine x_iload_n f_40_7 rfl ?_
  refine x_iald (j := 2) f_40_8 C.k3 (by omega) (by decide) ?_
  refine x_topi (w := nI 1) (C.v3_2) ?_
  refine x_istore (ls1 := [.ref Pv, .int (nI 2), .int (nI cl), .int (nI t), .int (nI ls), .int (nI ls), .int (nI 1), mj_unset, mj_unset, mj_unset, mj_unset, mj_unset, mj_unset]) f_40_9 (Nat.le_of_ble_eq_true rfl) rfl ?_
  refine x_gets f_40_11 ?_
  refine x_iload_n f_40_14 rfl ?_
  refine x_iald (j := t) f_40_15 C.k5 (by omega) (by decide) ?_
  refine x_topi (w := nI (sH t)) (C.vH ht) ?_
  refine x_gets f_40_16 ?_
  refine x_iload_n f_40_19 rfl ?_
  refine x_iald (j := t) f_40_20 C.k6 (by omega) (by decide) ?_
  refine x_topi (w := nI (sS t)) (C.vS ht) ?_
  refine x_isubN f_40_21 (by omega) ?_
  refine x_istore (ls1 := [.ref Pv, .int (nI 2), .int (nI cl), .int (nI t), .int (nI ls), .int (nI ls), .int (nI 1), .int (nI ((sH t) - (sS t))), mj_unset, mj_unset, mj_unset, mj_unset, mj_unset]) f_40_22 (Nat.le_of_ble_eq_true rfl) rfl ?_
  refine x_iconst (v := nI 1) f_40_24 (by decide) ?_
  refine x_istore (ls1 := [.ref Pv, .int (nI 2), .int (nI cl), .int (nI t), .int (nI ls), .int (nI ls), .int (nI 1), .int (nI ((sH t) - (sS t))), .int (nI 1), mj_unset, mj_unset, mj_unset, mj_unset]) f_40_25 (Nat.le_of_ble_eq_true rfl) rfl ?_
  exact kleast_l2 C hPv hPX hX ht hc hq _ (sS t) 0 x ls hls (Nat.zero_add _) hx hx2 rfl _ _ _ _
