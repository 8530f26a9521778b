theorem f_112_0 : mj_fetch 112 0 = some (.iload_n 0, 0, 0) := by decide +kernel
theorem f_112_1 : mj_fetch 112 1 = some (.iload_n 1, 0, 0) := by decide +kernel
theorem f_112_2 : mj_fetch 112 2 = some (.if_icmp .lt 12, 0, 0) := by decide +kernel
theorem f_112_5 : mj_fetch 112 5 = some (.iload_n 0, 0, 0) := by decide +kernel
theorem f_112_6 : mj_fetch 112 6 = some (.iload_n 2, 0, 0) := by decide +kernel
theorem f_112_7 : mj_fetch 112 7 = some (.if_icmp .gt 7, 0, 0) := by decide +kernel
theorem f_112_10 : mj_fetch 112 10 = some (.iconst 1, 0, 0) := by decide +kernel
theorem f_112_11 : mj_fetch 112 11 = some (.goto 4, 0, 0) := by decide +kernel
theorem f_112_14 : mj_fetch 112 14 = some (.iconst 0, 0, 0) := by decide +kernel
theorem f_112_15 : mj_fetch 112 15 = some (.ireturn, 0, 0) := by decide +kernel
theorem f_116_0 : mj_fetch 116 0 = some (.iload_n 1, 0, 0) := by decide +kernel
theorem f_116_1 : mj_fetch 116 1 = some (.iconst 0, 0, 0) := by decide +kernel
theorem f_116_2 : mj_fetch 116 2 = some (.aload_n 0, 0, 0) := by decide +kernel
theorem f_116_3 : mj_fetch 116 3 = some (.getfield 107, 11, 7) := by decide +kernel
theorem f_116_6 : mj_fetch 116 6 = some (.iconst 1, 0, 0) := by decide +kernel
theorem f_116_7 : mj_fetch 116 7 = some (.isub, 0, 0) := by decide +kernel
theorem f_116_8 : mj_fetch 116 8 = some (.invokestatic 100, 112, 0) := by decide +kernel
theorem f_116_11 : mj_fetch 116 11 = some (.ireturn, 0, 0) := by decide +kernel
theorem f_117_0 : mj_fetch 117 0 = some (.iload_n 1, 0, 0) := by decide +kernel
theorem f_117_1 : mj_fetch 117 1 = some (.iconst 0, 0, 0) := by decide +kernel
theorem f_117_2 : mj_fetch 117 2 = some (.aload_n 0, 0, 0) := by decide +kernel
theorem f_117_3 : mj_fetch 117 3 = some (.getfield 110, 11, 8) := by decide +kernel
theorem f_117_6 : mj_fetch 117 6 = some (.iconst 1, 0, 0) := by decide +kernel
theorem f_117_7 : mj_fetch 117 7 = some (.isub, 0, 0) := by decide +kernel
theorem f_117_8 : mj_fetch 117 8 = some (.invokestatic 100, 112, 0) := by decide +kernel
theorem f_117_11 : mj_fetch 117 11 = some (.ireturn, 0, 0) := by decide +kernel
theorem f_137_0 : mj_fetch 137 0 = some (.iload_n 1, 0, 0) := by decide +kernel
theorem f_137_1 : mj_fetch 137 1 = some (.iconst 0, 0, 0) := by decide +kernel
theorem f_137_2 : mj_fetch 137 2 = some (.aload_n 0, 0, 0) := by decide +kernel
theorem f_137_3 : mj_fetch 137 3 = some (.getfield 176, 11, 21) := by decide +kernel
theorem f_137_6 : mj_fetch 137 6 = some (.iconst 1, 0, 0) := by decide +kernel
theorem f_137_7 : mj_fetch 137 7 = some (.isub, 0, 0) := by decide +kernel
theorem f_137_8 : mj_fetch 137 8 = some (.invokestatic 100, 112, 0) := by decide +kernel
theorem f_137_11 : mj_fetch 137 11 = some (.ireturn, 0, 0) := by decide +kernel
theorem f_118_0 : mj_fetch 118 0 = some (.iload_n 0, 0, 0) := by decide +kernel
theorem f_118_1 : mj_fetch 118 1 = some (.iconst 0, 0, 0) := by decide +kernel
theorem f_118_2 : mj_fetch 118 2 = some (.sipush 728, 0, 0) := by decide +kernel
theorem f_118_5 : mj_fetch 118 5 = some (.invokestatic 100, 112, 0) := by decide +kernel
theorem f_118_8 : mj_fetch 118 8 = some (.ireturn, 0, 0) := by decide +kernel
set_option maxRecDepth 20000 in
theorem c_in (h : mj_H) (v lo hi : Int32) : mxc 0 112 [.int v, .int lo, .int hi] h (fun r h' => r = some (.int (if lo ≤ v ∧ v ≤ hi then 1 else 0)) ∧ h' = h) := by
  show mx 0 112 0 [.int v, .int lo, .int hi] [] h _
  refine x_iload_n f_112_0 rfl ?_
  refine x_iload_n f_112_1 rfl ?_
  refine x_icmp_lt (t := 14) f_112_2 (by decide) (fun c_1 => ?_) (fun c_1 => ?_)
  · refine x_iconst (v := nI 0) f_112_14 (by decide) ?_
    refine x_retZ f_112_15 rfl (by decide) ?_
    exact ⟨mj_if0 (by simp only [Int32.lt_iff_toInt_lt, Int32.le_iff_toInt_le, ← Int32.toInt_inj] at *; omega), rfl⟩
  · refine x_iload_n f_112_5 rfl ?_
    refine x_iload_n f_112_6 rfl ?_
    refine x_icmp_gt (t := 14) f_112_7 (by decide) (fun c_2 => ?_) (fun c_2 => ?_)
    · refine x_iconst (v := nI 0) f_112_14 (by decide) ?_
      refine x_retZ f_112_15 rfl (by decide) ?_
      exact ⟨mj_if0 (by simp only [Int32.lt_iff_toInt_lt, Int32.le_iff_toInt_le, ← Int32.toInt_inj] at *; omega), rfl⟩
    · refine x_iconst (v := nI 1) f_112_10 (by decide) ?_
      refine x_goto (t := 15) f_112_11 (by decide) ?_
      refine x_retZ f_112_15 rfl (by decide) ?_
      exact ⟨mj_if1 (by simp only [Int32.lt_iff_toInt_lt, Int32.le_iff_toInt_le, ← Int32.toInt_inj] at *; omega), rfl⟩
set_option maxRecDepth 20000 in
theorem c_isStuff {h : mj_H} (S : SM h) (s : Int32) {n : Nat} (hn : n < 2 ^ 30) (e : mj_I h 33 7 = nI n) : mxc 1 116 [.ref 33, .int s] h (fun r h' => r = some (.int (if mIn s n then 1 else 0)) ∧ h' = h) := by
  show mx 1 116 0 [.ref 33, .int s] [] h _
  refine x_iload_n f_116_0 rfl ?_
  refine x_iconst (v := nI 0) f_116_1 (by decide) ?_
  refine x_aload_n f_116_2 rfl ?_
  refine x_getI f_116_3 S.k33 (by decide) ?_
  refine x_iconst (v := nI 1) f_116_6 (by decide) ?_
  refine x_isub f_116_7 ?_
  refine x_callS f_116_8 (c_in _ _ _ _) (by omega) rfl rfl rfl (Nat.le_of_ble_eq_true rfl) rfl ?_
  rintro _ _ ⟨rfl, rfl⟩
  refine x_retZ f_116_11 rfl mj_b01 ?_
  refine ⟨?_, rfl⟩
  rw [e]
  simp only [show nI 0 = (0 : Int32) from rfl, show nI 1 = (1 : Int32) from rfl, mIn_iff hn]
set_option maxRecDepth 20000 in
theorem c_isJob {h : mj_H} (S : SM h) (s : Int32) {n : Nat} (hn : n < 2 ^ 30) (e : mj_I h 33 8 = nI n) : mxc 1 117 [.ref 33, .int s] h (fun r h' => r = some (.int (if mIn s n then 1 else 0)) ∧ h' = h) := by
  show mx 1 117 0 [.ref 33, .int s] [] h _
  refine x_iload_n f_117_0 rfl ?_
  refine x_iconst (v := nI 0) f_117_1 (by decide) ?_
  refine x_aload_n f_117_2 rfl ?_
  refine x_getI f_117_3 S.k33 (by decide) ?_
  refine x_iconst (v := nI 1) f_117_6 (by decide) ?_
  refine x_isub f_117_7 ?_
  refine x_callS f_117_8 (c_in _ _ _ _) (by omega) rfl rfl rfl (Nat.le_of_ble_eq_true rfl) rfl ?_
  rintro _ _ ⟨rfl, rfl⟩
  refine x_retZ f_117_11 rfl mj_b01 ?_
  refine ⟨?_, rfl⟩
  rw [e]
  simp only [show nI 0 = (0 : Int32) from rfl, show nI 1 = (1 : Int32) from rfl, mIn_iff hn]
set_option maxRecDepth 20000 in
theorem c_isWindow {h : mj_H} (S : SM h) (s : Int32) {n : Nat} (hn : n < 2 ^ 30) (e : mj_I h 33 21 = nI n) : mxc 1 137 [.ref 33, .int s] h (fun r h' => r = some (.int (if mIn s n then 1 else 0)) ∧ h' = h) := by
  show mx 1 137 0 [.ref 33, .int s] [] h _
  refine x_iload_n f_137_0 rfl ?_
  refine x_iconst (v := nI 0) f_137_1 (by decide) ?_
  refine x_aload_n f_137_2 rfl ?_
  refine x_getI f_137_3 S.k33 (by decide) ?_
  refine x_iconst (v := nI 1) f_137_6 (by decide) ?_
  refine x_isub f_137_7 ?_
  refine x_callS f_137_8 (c_in _ _ _ _) (by omega) rfl rfl rfl (Nat.le_of_ble_eq_true rfl) rfl ?_
  rintro _ _ ⟨rfl, rfl⟩
  refine x_retZ f_137_11 rfl mj_b01 ?_
  refine ⟨?_, rfl⟩
  rw [e]
  simp only [show nI 0 = (0 : Int32) from rfl, show nI 1 = (1 : Int32) from rfl, mIn_iff hn]
set_option maxRecDepth 20000 in
theorem c_isSetting (h : mj_H) (s : Int32) : mxc 1 118 [.int s] h (fun r h' => r = some (.int (if mIn s 729 then 1 else 0)) ∧ h' = h) := by
  show mx 1 118 0 [.int s] [] h _
  refine x_iload_n f_118_0 rfl ?_
  refine x_iconst (v := nI 0) f_118_1 (by decide) ?_
  refine x_sipush (v := nI 728) f_118_2 (by decide) ?_
  refine x_callS f_118_5 (c_in _ _ _ _) (by omega) rfl rfl rfl (Nat.le_of_ble_eq_true rfl) rfl ?_
  rintro _ _ ⟨rfl, rfl⟩
  refine x_retZ f_118_8 rfl mj_b01 ?_
  refine ⟨?_, rfl⟩
  simp only [show nI 0 = (0 : Int32) from rfl, show nI 728 = nI 729 - 1 by decide, mIn_iff (s := s) (n := 729) (by decide)]
