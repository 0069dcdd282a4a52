/-! ===== the tape: its end ===== -/
theorem nxF_nx (T : Nat × (Nat → Nat)) : ∀ f p, T.1 ≤ p + f → ¬ (nxF T f p < T.1 ∧ T.2 (nxF T f p) = 32)
  | 0, p, h => fun q => by
    have : p < T.1 := q.1
    omega
  | f + 1, p, h => by
    by_cases g : p < T.1 ∧ T.2 p = 32
    · have := nxF_nx T f (p + 1) (by omega)
      show ¬ ((if p < T.1 ∧ T.2 p = 32 then nxF T f (p + 1) else p) < T.1 ∧ T.2 (if p < T.1 ∧ T.2 p = 32 then nxF T f (p + 1) else p) = 32)
      rw [if_pos g]; exact this
    · show ¬ ((if p < T.1 ∧ T.2 p = 32 then nxF T f (p + 1) else p) < T.1 ∧ T.2 (if p < T.1 ∧ T.2 p = 32 then nxF T f (p + 1) else p) = 32)
      rw [if_neg g]; exact g
theorem nx_nx (T : Nat × (Nat → Nat)) (p : Nat) : nx T (nx T p) = nx T p := nx_e (nxF_nx T _ p (by omega))

theorem c_X4_clear (l : Launch) (D : va_G) (cA : Nat → ClassId) (b : Nat) (M : Nat → Nat → Int32) (L : Nat → Nat → Int64)  : fm_Met l D cA b yX4_clear cX4_clear 1 none 0 0 0 0 [.ref (b + 29)] LAY M L LAY (fm_pvx (fm_up M 29 1 0) L) := by
  refine fm_start RX4 rfl (by decide) (Nat.le_of_ble_eq_true rfl) ?_
  intro pq eq sq mq aq bq tq cq hC hin
  refine g_aload_n hC dX4_clear_0 rfl 0 rfl ?_
  refine g_iconst (v := 0) hC dX4_clear_1 rfl ?_
  refine g_putI (ci := 4) (i := 1) (k := 29) hC fm_in4 tyX4 tyX4_ok nmX4 rfl ly_29 rfl (by decide) fw_122 rfl rfl rfl dX4_clear_2 ?_
  refine g_vret hC rfl dX4_clear_5 ?_
  exact ⟨rfl, rfl, rfl⟩

theorem c_X7_end (l : Launch) (D : va_G) (cA : Nat → ClassId) (b : Nat) (M : Nat → Nat → Int32) (L : Nat → Nat → Int64) (T : Nat × (Nat → Nat)) (p : Nat) (e : Bool) (hT : pR M T) (hk : pOK T) (hp : M 58 19 = nI p) (hle : p ≤ T.1) : fm_Met l D cA b yX7_end cX7_end 2 (some .int) 1 20 0 0 [.ref (b + 58), .int (bi (e = true))] LAY M L LAY (fm_pm (fun r M' L' => (e = true → r = 0 ∧ M' = fm_up M 58 18 0) ∧ (¬ e = true → r = -20 - nI (nx T p) ∧ M' = fm_up (fm_up M 58 19 (nI (nx T p))) 58 18 0) ∧ L' = L)) := by
  refine fm_start RX7 rfl (by decide) (Nat.le_of_ble_eq_true rfl) ?_
  intro pq eq sq mq aq bq tq cq hC hin
  refine g_iload_n hC dX7_end_0 rfl 1 rfl ?_
  refine g_ifb_ne hC 9 dX7_end_1 rfl (fun c_1 => ?_) (fun c_1 => ?_)
  · skip
    refine g_aload_n hC dX7_end_9 rfl 0 rfl ?_
    refine g_iconst (v := 0) hC dX7_end_10 rfl ?_
    refine g_putI (ci := 7) (i := 18) (k := 58) hC fm_in7 tyX7 tyX7_ok nmX7 rfl ly_58 rfl (by decide) fw_638 rfl rfl rfl dX7_end_11 ?_
    refine g_iload_n hC dX7_end_14 rfl 1 rfl ?_
    refine g_ifb_eq hC 22 dX7_end_15 rfl (fun c_2 => ?_) (fun c_2 => ?_)
    · skip
      refine g_bipush (v := (-20)) hC dX7_end_22 rfl ?_
      refine g_aload_n hC dX7_end_24 rfl 0 rfl ?_
      refine g_getI (ci := 7) (i := 19) (k := 58) hC fm_in7 rfl ly_58 rfl (by decide) fw_639 dX7_end_25 ?_
      refine g_top (y := M 58 19) (by simp [fm_up, fm_row, upd]) ?_
      refine g_isub hC dX7_end_28 ?_
      refine g_zret (ty := .int) hC rfl rfl dX7_end_29 ?_
      exact absurd c_1 c_2
    · skip
      refine g_iconst (v := 0) hC dX7_end_18 rfl ?_
      refine g_goto hC 29 dX7_end_19 rfl ?_
      refine g_zret (ty := .int) hC rfl rfl dX7_end_29 ?_
      exact ⟨_, rfl, fun _ => ⟨rfl, rfl⟩, fun q => absurd c_1 q, rfl⟩
  · skip
    refine g_aload_n hC dX7_end_4 rfl 0 rfl ?_
    refine g_callV hC (k := 58) (ci := 7) (as := []) (rest := []) (c_X7_nextByte l D cA b M L T p hT hk hp hle) ⟨fw_804, fw_806, fs_20, fw_9, fw_807⟩ ⟨rfl, hd_X7_nextByte⟩ rfl ly_58 ⟨Nat.le_of_ble_eq_true rfl, Nat.le_of_ble_eq_true rfl⟩ ⟨Nat.le_of_ble_eq_true rfl, Nat.le_of_ble_eq_true rfl⟩ rfl rfl (Nat.le_of_ble_eq_true rfl) dX7_end_5 (g_rix ?_)
    refine g_pop hC dX7_end_8 rfl ?_
    refine g_aload_n hC dX7_end_9 rfl 0 rfl ?_
    refine g_iconst (v := 0) hC dX7_end_10 rfl ?_
    refine g_putI (ci := 7) (i := 18) (k := 58) hC fm_in7 tyX7 tyX7_ok nmX7 rfl ly_58 rfl (by decide) fw_638 rfl rfl rfl dX7_end_11 ?_
    refine g_iload_n hC dX7_end_14 rfl 1 rfl ?_
    refine g_ifb_eq hC 22 dX7_end_15 rfl (fun c_4 => ?_) (fun c_4 => ?_)
    · skip
      refine g_bipush (v := (-20)) hC dX7_end_22 rfl ?_
      refine g_aload_n hC dX7_end_24 rfl 0 rfl ?_
      refine g_getI (ci := 7) (i := 19) (k := 58) hC fm_in7 rfl ly_58 rfl (by decide) fw_639 dX7_end_25 ?_
      refine g_top (y := nI (nx T p)) (by simp [fm_up, fm_row, upd]) ?_
      refine g_isub hC dX7_end_28 ?_
      refine g_zret (ty := .int) hC rfl rfl dX7_end_29 ?_
      exact ⟨_, rfl, fun q => absurd q c_1, fun _ => ⟨rfl, rfl⟩, rfl⟩
    · skip
      refine g_iconst (v := 0) hC dX7_end_18 rfl ?_
      refine g_goto hC 29 dX7_end_19 rfl ?_
      refine g_zret (ty := .int) hC rfl rfl dX7_end_29 ?_
      exact absurd c_4 c_1
