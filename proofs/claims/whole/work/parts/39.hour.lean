/-! ===== the tape: the number of an hour, the class ===== -/
theorem ch_rng {T : Nat × (Nat → Nat)} (hk : pOK T) (q : Nat) : -1 ≤ (chI T q).toInt ∧ (chI T q).toInt ≤ 126 := by
  have h2 := hk.2 q
  unfold chI
  by_cases h : q < T.1
  · rw [if_pos h, nI_toInt (by have := h2 h; omega)]; have := h2 h; omega
  · rw [if_neg h]; decide
theorem ch48 {T : Nat × (Nat → Nat)} (hk : pOK T) (q : Nat) : (chI T q - 48).toInt = (chI T q).toInt - 48 := by
  have := ch_rng hk q
  rw [← oI_of (chI T q), show (48 : Int32) = Int32.ofInt 48 from rfl, oI_sub, oI_t (by omega) (by omega), oI_t (by omega) (by omega)]
theorem oI_sub48 (x : Int32) : x - 48 = Int32.ofInt (x.toInt - 48) := by
  rw [← oI_sub, oI_of]
  rfl
theorem oI_neg48 (x : Int32) : 0 - (x - 48) = Int32.ofInt (-(x.toInt - 48)) := by
  rw [oI_sub48, oI_neg]
/-- the number written from place p: the number and the place behind, or the place of the fault -/
def rhS (T : Nat × (Nat → Nat)) (p : Nat) : (Int × Nat) ⊕ Nat :=
  if chI T (nx T p) = nI 45 then (if 0 ≤ (chI T (nx T (nx T p + 1))).toInt - 48 ∧ (chI T (nx T (nx T p + 1))).toInt - 48 ≤ 2 then .inl (-((chI T (nx T (nx T p + 1))).toInt - 48), (nx T (nx T p + 1)) + 1) else .inr (nx T (nx T p + 1)))
  else if chI T (nx T p) = nI 43 then (if 0 ≤ (chI T (nx T (nx T p + 1))).toInt - 48 ∧ (chI T (nx T (nx T p + 1))).toInt - 48 ≤ 5 then .inl ((chI T (nx T (nx T p + 1))).toInt - 48, (nx T (nx T p + 1)) + 1) else .inr (nx T (nx T p + 1)))
  else .inr (nx T p)

theorem c_X4_readHourNumber (l : Launch) (D : va_G) (cA : Nat → ClassId) (b : Nat) (M : Nat → Nat → Int32) (L : Nat → Nat → Int64) (T : Nat × (Nat → Nat)) (p : Nat) (h : Nat) (hT : pC M T) (hk : pOK T) (hp : M 29 2 = nI p) (hle : p ≤ T.1) (hh : h < 24) : fm_Met l D cA b yX4_readHourNumber cX4_readHourNumber 5 (some .int) 2 41 0 0 [.ref (b + 29), .int (nI h)] LAY M L LAY (fm_pm (fun r M' L' => (∀ q, rhS T p = .inr q → r = -20 - nI q) ∧ (∀ z e, rhS T p = .inl (z, e) → r = 0 ∧ M' 32 h = Int32.ofInt z ∧ M' 29 2 = nI e) ∧ (∀ i, i ≠ 2 → M' 29 i = M 29 i) ∧ (∀ q, q ≠ 29 → q ≠ 32 → M' q = M q) ∧ (∀ j, j ≠ h → M' 32 j = M 32 j) ∧ L' = L)) := by
  refine fm_start RX4 rfl (by decide) (Nat.le_of_ble_eq_true rfl) ?_
  intro pq eq sq mq aq bq tq cq hC hin
  have nl := nx_le hle
  obtain ⟨t1, t2⟩ := id hk
  refine g_aload_n hC dX4_readHourNumber_0 rfl 0 rfl ?_
  refine g_bipush (v := 45) hC dX4_readHourNumber_1 rfl ?_
  refine g_callV hC (k := 29) (ci := 4) (as := [.int 45]) (rest := []) (c_X4_passes l D cA b M L T p 45 hT hk hp hle (by decide)) ⟨fw_340, fw_342, fs_5, fw_5, fw_343⟩ ⟨rfl, hd_X4_passes⟩ rfl ly_29 ⟨Nat.le_of_ble_eq_true rfl, Nat.le_of_ble_eq_true rfl⟩ ⟨Nat.le_of_ble_eq_true rfl, Nat.le_of_ble_eq_true rfl⟩ rfl rfl (Nat.le_of_ble_eq_true rfl) dX4_readHourNumber_3 (g_rix ?_)
  refine g_istore_n hC [(2, .int (bi (chI T (nx T p) = nI 45))), (0, .ref (b + 29)), (1, .int (nI h))] dX4_readHourNumber_6 rfl (by decide) rfl ?_
  refine g_iload_n hC dX4_readHourNumber_7 rfl 0 rfl ?_
  refine g_ifb_ne hC 25 dX4_readHourNumber_8 rfl (fun c_2 => ?_) (fun c_2 => ?_)
  · skip
    have hm := c_2
    refine g_iload_n hC dX4_readHourNumber_25 rfl 0 rfl ?_
    refine g_top (y := 1) (bi_1 hm).symm ?_
    refine g_if_eq_T (X := 1) hC rfl 33 dX4_readHourNumber_26 rfl (fun c_3 => absurd c_3 (by omega)) (fun _ => ?_)
    refine g_iconst (v := 2) hC dX4_readHourNumber_29 rfl ?_
    refine g_goto hC 34 dX4_readHourNumber_30 rfl ?_
    refine g_istore_n hC [(3, .int 2), (2, .int (bi (chI T (nx T p) = nI 45))), (0, .ref (b + 29)), (1, .int (nI h))] dX4_readHourNumber_34 rfl (by decide) rfl ?_
    rw [show psN T p 45 = nx T p + 1 from if_pos hm]
    have pl1 : nx T p < T.1 := ch_lt (by decide) hm
    have nl2 := nx_le (T := T) (p := nx T p + 1) (by omega)
    have hT1 : pC (fm_up M 29 2 (nI (nx T p + 1))) T := pC_m hT (fun i i1 i2 => by simp [fm_up, fm_row, upd, i1]) (by simp [fm_up, fm_row, upd])
    refine g_aload_n hC dX4_readHourNumber_35 rfl 2 rfl ?_
    refine g_callV hC (k := 29) (ci := 4) (as := []) (rest := []) (c_X4_next l D cA b (fm_up M 29 2 (nI (nx T p + 1))) L T (nx T p + 1) hT1 hk fm_ups (by omega)) ⟨fw_321, fw_323, fs_2, fw_5, fw_324⟩ ⟨rfl, hd_X4_next⟩ rfl ly_29 ⟨Nat.le_of_ble_eq_true rfl, Nat.le_of_ble_eq_true rfl⟩ ⟨Nat.le_of_ble_eq_true rfl, Nat.le_of_ble_eq_true rfl⟩ rfl rfl (Nat.le_of_ble_eq_true rfl) dX4_readHourNumber_36 (g_rix ?_)
    refine g_bipush (v := 48) hC dX4_readHourNumber_39 rfl ?_
    refine g_isub hC dX4_readHourNumber_41 ?_
    refine g_top (y := chI T (nx T (nx T p + 1)) - 48) rfl ?_
    refine g_istore hC [(4, .int (chI T (nx T (nx T p + 1)) - 48)), (3, .int 2), (2, .int (bi (chI T (nx T p) = nI 45))), (0, .ref (b + 29)), (1, .int (nI h))] dX4_readHourNumber_42 (by decide) rfl ?_
    refine g_iload hC dX4_readHourNumber_44 0 rfl ?_
    refine g_if_lt_T (X := (chI T (nx T (nx T p + 1))).toInt - 48) hC (ch48 hk _) 55 dX4_readHourNumber_46 rfl (fun c_5 => ?_) (fun c_5 => ?_)
    · skip
      refine g_aload_n hC dX4_readHourNumber_55 rfl 3 rfl ?_
      refine g_callV hC (k := 29) (ci := 4) (as := []) (rest := []) (c_X4_faultHere l D cA b (fm_up (fm_up M 29 2 (nI (nx T p + 1))) 29 2 (nI (nx T (nx T p + 1)))) L (nx T (nx T p + 1)) fm_ups) ⟨fw_328, fw_330, fs_3, fw_5, fw_331⟩ ⟨rfl, hd_X4_faultHere⟩ rfl ly_29 ⟨Nat.le_of_ble_eq_true rfl, Nat.le_of_ble_eq_true rfl⟩ ⟨Nat.le_of_ble_eq_true rfl, Nat.le_of_ble_eq_true rfl⟩ rfl rfl (Nat.le_of_ble_eq_true rfl) dX4_readHourNumber_56 (g_rix ?_)
      refine g_zret (ty := .int) hC rfl rfl dX4_readHourNumber_59 ?_
      have e0 : rhS T p = .inr (nx T (nx T p + 1)) := by unfold rhS; rw [if_pos hm, if_neg (by omega)]
      exact ⟨_, rfl, (fun q hq1 => (by rw [e0] at hq1; cases hq1; rfl)), (fun z e hq1 => (by rw [e0] at hq1; cases hq1)), (fun i i1 => (by simp [fm_up, fm_row, upd, i1])), (fun q q1 q2 => (by simp [fm_up, fm_row, upd, q1, q2])), (fun j hj => (by simp [fm_up, fm_row, upd, hj])), rfl⟩
    · skip
      refine g_iload hC dX4_readHourNumber_49 0 rfl ?_
      refine g_iload_n hC dX4_readHourNumber_51 rfl 1 rfl ?_
      refine g_icmp_le_T (X := (chI T (nx T (nx T p + 1))).toInt - 48) (Y := 2) hC (ch48 hk _) rfl 60 dX4_readHourNumber_52 rfl (fun c_7 => ?_) (fun c_7 => ?_)
      · skip
        refine g_aload_n hC dX4_readHourNumber_60 rfl 3 rfl ?_
        refine g_dup hC dX4_readHourNumber_61 rfl ?_
        refine g_getI (ci := 4) (i := 2) (k := 29) hC fm_in4 rfl ly_29 rfl (by decide) fw_124 dX4_readHourNumber_62 ?_
        refine g_top (y := nI (nx T (nx T p + 1))) (by simp [fm_up, fm_row, upd]) ?_
        refine g_iconst (v := 1) hC dX4_readHourNumber_65 rfl ?_
        refine g_iadd hC dX4_readHourNumber_66 ?_
        refine g_top (y := nI ((nx T (nx T p + 1)) + 1)) (nI_add _ _) ?_
        refine g_putI (ci := 4) (i := 2) (k := 29) hC fm_in4 tyX4 tyX4_ok nmX4 rfl ly_29 rfl (by decide) fw_124 rfl rfl rfl dX4_readHourNumber_67 ?_
        refine g_aload_n hC dX4_readHourNumber_70 rfl 3 rfl ?_
        refine g_getR (ci := 4) (i := 5) (k := 29) (t := 32) hC fm_in4 rfl ly_29 rfl (by decide) fw_128 dX4_readHourNumber_71 ?_
        refine g_iload_n hC dX4_readHourNumber_74 rfl 4 rfl ?_
        refine g_iload_n hC dX4_readHourNumber_75 rfl 2 rfl ?_
        refine g_top (y := 1) (bi_1 hm).symm ?_
        refine g_if_eq_T (X := 1) hC rfl 85 dX4_readHourNumber_76 rfl (fun c_8 => absurd c_8 (by omega)) (fun _ => ?_)
        refine g_iload hC dX4_readHourNumber_79 0 rfl ?_
        refine g_ineg hC dX4_readHourNumber_81 ?_
        refine g_goto hC 87 dX4_readHourNumber_82 rfl ?_
        refine g_iastN (j := h) (k := 32) hC ly_32 rfl (by omega) (by decide) dX4_readHourNumber_87 ?_
        refine g_iconst (v := 0) hC dX4_readHourNumber_88 rfl ?_
        refine g_zret (ty := .int) hC rfl rfl dX4_readHourNumber_89 ?_
        have e0 : rhS T p = .inl (-((chI T (nx T (nx T p + 1))).toInt - 48), (nx T (nx T p + 1)) + 1) := by unfold rhS; rw [if_pos hm, if_pos (by omega)]
        exact ⟨_, rfl, (fun q hq1 => (by rw [e0] at hq1; cases hq1)), (fun z e hq1 => (by rw [e0] at hq1; cases hq1; exact ⟨rfl, (by rw [fm_ups]; exact oI_neg48 _), (by rw [fm_upn (by decide), fm_ups])⟩)), (fun i i1 => (by simp [fm_up, fm_row, upd, i1])), (fun q q1 q2 => (by simp [fm_up, fm_row, upd, q1, q2])), (fun j hj => (by simp [fm_up, fm_row, upd, hj])), rfl⟩
      · skip
        refine g_aload_n hC dX4_readHourNumber_55 rfl 3 rfl ?_
        refine g_callV hC (k := 29) (ci := 4) (as := []) (rest := []) (c_X4_faultHere l D cA b (fm_up (fm_up M 29 2 (nI (nx T p + 1))) 29 2 (nI (nx T (nx T p + 1)))) L (nx T (nx T p + 1)) fm_ups) ⟨fw_328, fw_330, fs_3, fw_5, fw_331⟩ ⟨rfl, hd_X4_faultHere⟩ rfl ly_29 ⟨Nat.le_of_ble_eq_true rfl, Nat.le_of_ble_eq_true rfl⟩ ⟨Nat.le_of_ble_eq_true rfl, Nat.le_of_ble_eq_true rfl⟩ rfl rfl (Nat.le_of_ble_eq_true rfl) dX4_readHourNumber_56 (g_rix ?_)
        refine g_zret (ty := .int) hC rfl rfl dX4_readHourNumber_59 ?_
        have e0 : rhS T p = .inr (nx T (nx T p + 1)) := by unfold rhS; rw [if_pos hm, if_neg (by omega)]
        exact ⟨_, rfl, (fun q hq1 => (by rw [e0] at hq1; cases hq1; rfl)), (fun z e hq1 => (by rw [e0] at hq1; cases hq1)), (fun i i1 => (by simp [fm_up, fm_row, upd, i1])), (fun q q1 q2 => (by simp [fm_up, fm_row, upd, q1, q2])), (fun j hj => (by simp [fm_up, fm_row, upd, hj])), rfl⟩
  · skip
    have hm := c_2
    refine g_aload_n hC dX4_readHourNumber_11 rfl 1 rfl ?_
    refine g_bipush (v := 43) hC dX4_readHourNumber_12 rfl ?_
    refine g_callV hC (k := 29) (ci := 4) (as := [.int 43]) (rest := []) (c_X4_passes l D cA b (fm_up M 29 2 (nI (psN T p 45))) L T (psN T p 45) 43 (pC_m hT (fun i i1 i2 => by simp [fm_up, fm_row, upd, i1]) (by simp [fm_up, fm_row, upd])) hk fm_ups (ps_le hle (by decide)) (by decide)) ⟨fw_340, fw_342, fs_5, fw_5, fw_343⟩ ⟨rfl, hd_X4_passes⟩ rfl ly_29 ⟨Nat.le_of_ble_eq_true rfl, Nat.le_of_ble_eq_true rfl⟩ ⟨Nat.le_of_ble_eq_true rfl, Nat.le_of_ble_eq_true rfl⟩ rfl rfl (Nat.le_of_ble_eq_true rfl) dX4_readHourNumber_14 (g_rix ?_)
    rw [show psN T p 45 = nx T p from if_neg hm, nx_nx]
    refine g_ifb_ne hC 25 dX4_readHourNumber_17 rfl (fun c_11 => ?_) (fun c_11 => ?_)
    · skip
      have hq := c_11
      refine g_iload_n hC dX4_readHourNumber_25 rfl 0 rfl ?_
      refine g_top (y := 0) (bi_0 hm).symm ?_
      refine g_if_eq_T (X := 0) hC rfl 33 dX4_readHourNumber_26 rfl (fun _ => ?_) (fun c_12 => absurd c_12 (by omega))
      refine g_iconst (v := 5) hC dX4_readHourNumber_33 rfl ?_
      refine g_istore_n hC [(3, .int 5), (2, .int (bi (chI T (nx T p) = nI 45))), (0, .ref (b + 29)), (1, .int (nI h))] dX4_readHourNumber_34 rfl (by decide) rfl ?_
      rw [show psN T (nx T p) 43 = nx T p + 1 from (if_pos (by rw [nx_nx]; exact hq)).trans (by rw [nx_nx])]
      have pl1 : nx T p < T.1 := ch_lt (by decide) hq
      have nl2 := nx_le (T := T) (p := nx T p + 1) (by omega)
      have hT1 : pC (fm_up (fm_up M 29 2 (nI (nx T p))) 29 2 (nI (nx T p + 1))) T := pC_m hT (fun i i1 i2 => by simp [fm_up, fm_row, upd, i1]) (by simp [fm_up, fm_row, upd])
      refine g_aload_n hC dX4_readHourNumber_35 rfl 2 rfl ?_
      refine g_callV hC (k := 29) (ci := 4) (as := []) (rest := []) (c_X4_next l D cA b (fm_up (fm_up M 29 2 (nI (nx T p))) 29 2 (nI (nx T p + 1))) L T (nx T p + 1) hT1 hk fm_ups (by omega)) ⟨fw_321, fw_323, fs_2, fw_5, fw_324⟩ ⟨rfl, hd_X4_next⟩ rfl ly_29 ⟨Nat.le_of_ble_eq_true rfl, Nat.le_of_ble_eq_true rfl⟩ ⟨Nat.le_of_ble_eq_true rfl, Nat.le_of_ble_eq_true rfl⟩ rfl rfl (Nat.le_of_ble_eq_true rfl) dX4_readHourNumber_36 (g_rix ?_)
      refine g_bipush (v := 48) hC dX4_readHourNumber_39 rfl ?_
      refine g_isub hC dX4_readHourNumber_41 ?_
      refine g_top (y := chI T (nx T (nx T p + 1)) - 48) rfl ?_
      refine g_istore hC [(4, .int (chI T (nx T (nx T p + 1)) - 48)), (3, .int 5), (2, .int (bi (chI T (nx T p) = nI 45))), (0, .ref (b + 29)), (1, .int (nI h))] dX4_readHourNumber_42 (by decide) rfl ?_
      refine g_iload hC dX4_readHourNumber_44 0 rfl ?_
      refine g_if_lt_T (X := (chI T (nx T (nx T p + 1))).toInt - 48) hC (ch48 hk _) 55 dX4_readHourNumber_46 rfl (fun c_14 => ?_) (fun c_14 => ?_)
      · skip
        refine g_aload_n hC dX4_readHourNumber_55 rfl 3 rfl ?_
        refine g_callV hC (k := 29) (ci := 4) (as := []) (rest := []) (c_X4_faultHere l D cA b (fm_up (fm_up (fm_up M 29 2 (nI (nx T p))) 29 2 (nI (nx T p + 1))) 29 2 (nI (nx T (nx T p + 1)))) L (nx T (nx T p + 1)) fm_ups) ⟨fw_328, fw_330, fs_3, fw_5, fw_331⟩ ⟨rfl, hd_X4_faultHere⟩ rfl ly_29 ⟨Nat.le_of_ble_eq_true rfl, Nat.le_of_ble_eq_true rfl⟩ ⟨Nat.le_of_ble_eq_true rfl, Nat.le_of_ble_eq_true rfl⟩ rfl rfl (Nat.le_of_ble_eq_true rfl) dX4_readHourNumber_56 (g_rix ?_)
        refine g_zret (ty := .int) hC rfl rfl dX4_readHourNumber_59 ?_
        have e0 : rhS T p = .inr (nx T (nx T p + 1)) := by unfold rhS; rw [if_neg hm, if_pos hq, if_neg (by omega)]
        exact ⟨_, rfl, (fun q hq1 => (by rw [e0] at hq1; cases hq1; rfl)), (fun z e hq1 => (by rw [e0] at hq1; cases hq1)), (fun i i1 => (by simp [fm_up, fm_row, upd, i1])), (fun q q1 q2 => (by simp [fm_up, fm_row, upd, q1, q2])), (fun j hj => (by simp [fm_up, fm_row, upd, hj])), rfl⟩
      · skip
        refine g_iload hC dX4_readHourNumber_49 0 rfl ?_
        refine g_iload_n hC dX4_readHourNumber_51 rfl 1 rfl ?_
        refine g_icmp_le_T (X := (chI T (nx T (nx T p + 1))).toInt - 48) (Y := 5) hC (ch48 hk _) rfl 60 dX4_readHourNumber_52 rfl (fun c_16 => ?_) (fun c_16 => ?_)
        · skip
          refine g_aload_n hC dX4_readHourNumber_60 rfl 3 rfl ?_
          refine g_dup hC dX4_readHourNumber_61 rfl ?_
          refine g_getI (ci := 4) (i := 2) (k := 29) hC fm_in4 rfl ly_29 rfl (by decide) fw_124 dX4_readHourNumber_62 ?_
          refine g_top (y := nI (nx T (nx T p + 1))) (by simp [fm_up, fm_row, upd]) ?_
          refine g_iconst (v := 1) hC dX4_readHourNumber_65 rfl ?_
          refine g_iadd hC dX4_readHourNumber_66 ?_
          refine g_top (y := nI ((nx T (nx T p + 1)) + 1)) (nI_add _ _) ?_
          refine g_putI (ci := 4) (i := 2) (k := 29) hC fm_in4 tyX4 tyX4_ok nmX4 rfl ly_29 rfl (by decide) fw_124 rfl rfl rfl dX4_readHourNumber_67 ?_
          refine g_aload_n hC dX4_readHourNumber_70 rfl 3 rfl ?_
          refine g_getR (ci := 4) (i := 5) (k := 29) (t := 32) hC fm_in4 rfl ly_29 rfl (by decide) fw_128 dX4_readHourNumber_71 ?_
          refine g_iload_n hC dX4_readHourNumber_74 rfl 4 rfl ?_
          refine g_iload_n hC dX4_readHourNumber_75 rfl 2 rfl ?_
          refine g_top (y := 0) (bi_0 hm).symm ?_
          refine g_if_eq_T (X := 0) hC rfl 85 dX4_readHourNumber_76 rfl (fun _ => ?_) (fun c_17 => absurd c_17 (by omega))
          refine g_iload hC dX4_readHourNumber_85 0 rfl ?_
          refine g_iastN (j := h) (k := 32) hC ly_32 rfl (by omega) (by decide) dX4_readHourNumber_87 ?_
          refine g_iconst (v := 0) hC dX4_readHourNumber_88 rfl ?_
          refine g_zret (ty := .int) hC rfl rfl dX4_readHourNumber_89 ?_
          have e0 : rhS T p = .inl ((chI T (nx T (nx T p + 1))).toInt - 48, (nx T (nx T p + 1)) + 1) := by unfold rhS; rw [if_neg hm, if_pos hq, if_pos (by omega)]
          exact ⟨_, rfl, (fun q hq1 => (by rw [e0] at hq1; cases hq1)), (fun z e hq1 => (by rw [e0] at hq1; cases hq1; exact ⟨rfl, (by rw [fm_ups]; exact oI_sub48 _), (by rw [fm_upn (by decide), fm_ups])⟩)), (fun i i1 => (by simp [fm_up, fm_row, upd, i1])), (fun q q1 q2 => (by simp [fm_up, fm_row, upd, q1, q2])), (fun j hj => (by simp [fm_up, fm_row, upd, hj])), rfl⟩
        · skip
          refine g_aload_n hC dX4_readHourNumber_55 rfl 3 rfl ?_
          refine g_callV hC (k := 29) (ci := 4) (as := []) (rest := []) (c_X4_faultHere l D cA b (fm_up (fm_up (fm_up M 29 2 (nI (nx T p))) 29 2 (nI (nx T p + 1))) 29 2 (nI (nx T (nx T p + 1)))) L (nx T (nx T p + 1)) fm_ups) ⟨fw_328, fw_330, fs_3, fw_5, fw_331⟩ ⟨rfl, hd_X4_faultHere⟩ rfl ly_29 ⟨Nat.le_of_ble_eq_true rfl, Nat.le_of_ble_eq_true rfl⟩ ⟨Nat.le_of_ble_eq_true rfl, Nat.le_of_ble_eq_true rfl⟩ rfl rfl (Nat.le_of_ble_eq_true rfl) dX4_readHourNumber_56 (g_rix ?_)
          refine g_zret (ty := .int) hC rfl rfl dX4_readHourNumber_59 ?_
          have e0 : rhS T p = .inr (nx T (nx T p + 1)) := by unfold rhS; rw [if_neg hm, if_pos hq, if_neg (by omega)]
          exact ⟨_, rfl, (fun q hq1 => (by rw [e0] at hq1; cases hq1; rfl)), (fun z e hq1 => (by rw [e0] at hq1; cases hq1)), (fun i i1 => (by simp [fm_up, fm_row, upd, i1])), (fun q q1 q2 => (by simp [fm_up, fm_row, upd, q1, q2])), (fun j hj => (by simp [fm_up, fm_row, upd, hj])), rfl⟩
    · skip
      have hq := c_11
      refine g_aload_n hC dX4_readHourNumber_20 rfl 1 rfl ?_
      refine g_callV hC (k := 29) (ci := 4) (as := []) (rest := []) (c_X4_faultHere l D cA b (fm_up (fm_up M 29 2 (nI (nx T p))) 29 2 (nI (psN T (nx T p) 43))) L (nx T p) (by rw [show psN T (nx T p) 43 = nx T p from (if_neg (by rw [nx_nx]; exact hq)).trans (nx_nx T p), fm_ups])) ⟨fw_328, fw_330, fs_3, fw_5, fw_331⟩ ⟨rfl, hd_X4_faultHere⟩ rfl ly_29 ⟨Nat.le_of_ble_eq_true rfl, Nat.le_of_ble_eq_true rfl⟩ ⟨Nat.le_of_ble_eq_true rfl, Nat.le_of_ble_eq_true rfl⟩ rfl rfl (Nat.le_of_ble_eq_true rfl) dX4_readHourNumber_21 (g_rix ?_)
      refine g_zret (ty := .int) hC rfl rfl dX4_readHourNumber_24 ?_
      have e0 : rhS T p = .inr (nx T p) := by unfold rhS; rw [if_neg hm, if_neg hq]
      exact ⟨_, rfl, (fun q hq1 => (by rw [e0] at hq1; cases hq1; rfl)), (fun z e hq1 => (by rw [e0] at hq1; cases hq1)), (fun i i1 => (by simp [fm_up, fm_row, upd, i1])), (fun q q1 q2 => (by simp [fm_up, fm_row, upd, q1, q2])), (fun j hj => (by simp [fm_up, fm_row, upd, hj])), rfl⟩
