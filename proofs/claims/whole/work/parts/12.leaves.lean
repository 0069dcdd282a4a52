/-! ===== leaves: tests of numbers ===== -/
theorem c_X6_isWithin (l : Launch) (D : va_G) (cA : Nat → ClassId) (b : Nat) (lay : List fm_E) (M : Nat → Nat → Int32) (L : Nat → Nat → Int64) (x : Int32) (h : Int32)  : fm_Met l D cA b yX6_isWithin cX6_isWithin 2 (some .boolean) 0 0 0 0 [.int x, .int h] lay M L lay (fm_pi (bi (0 ≤ x.toInt ∧ x.toInt ≤ h.toInt)) M L) := by
  refine fm_start RX6 rfl (by decide) (Nat.le_of_ble_eq_true rfl) ?_
  intro p e s m args below meth c hC hin
  refine g_iload_n hC dX6_isWithin_0 rfl 0 rfl ?_
  refine g_if_lt_T (X := x.toInt) hC rfl 13 dX6_isWithin_1 rfl (fun c_1 => ?_) (fun c_1 => ?_)
  · skip
    refine g_iconst (v := 0) hC dX6_isWithin_13 rfl ?_
    refine g_zret (ty := .boolean) hC rfl rfl dX6_isWithin_14 ⟨congrArg (fun z => some (Value.int z)) ?_, rfl, rfl⟩
    exact bi_0 (by omega)
  · skip
    refine g_iload_n hC dX6_isWithin_4 rfl 0 rfl ?_
    refine g_iload_n hC dX6_isWithin_5 rfl 1 rfl ?_
    refine g_icmp_gt_T (X := x.toInt) (Y := h.toInt) hC rfl rfl 13 dX6_isWithin_6 rfl (fun c_2 => ?_) (fun c_2 => ?_)
    · skip
      refine g_iconst (v := 0) hC dX6_isWithin_13 rfl ?_
      refine g_zret (ty := .boolean) hC rfl rfl dX6_isWithin_14 ⟨congrArg (fun z => some (Value.int z)) ?_, rfl, rfl⟩
      exact bi_0 (by omega)
    · skip
      refine g_iconst (v := 1) hC dX6_isWithin_9 rfl ?_
      refine g_goto hC 14 dX6_isWithin_10 rfl ?_
      refine g_zret (ty := .boolean) hC rfl rfl dX6_isWithin_14 ⟨congrArg (fun z => some (Value.int z)) ?_, rfl, rfl⟩
      exact bi_1 (by omega)

theorem c_X6_isHour (l : Launch) (D : va_G) (cA : Nat → ClassId) (b : Nat) (lay : List fm_E) (M : Nat → Nat → Int32) (L : Nat → Nat → Int64) (x : Int32)  : fm_Met l D cA b yX6_isHour cX6_isHour 1 (some .boolean) 0 0 0 0 [.int x] lay M L lay (fm_pi (bi (0 ≤ x.toInt ∧ x.toInt < 24)) M L) := by
  refine fm_start RX6 rfl (by decide) (Nat.le_of_ble_eq_true rfl) ?_
  intro p e s m args below meth c hC hin
  refine g_iload_n hC dX6_isHour_0 rfl 0 rfl ?_
  refine g_if_lt_T (X := x.toInt) hC rfl 14 dX6_isHour_1 rfl (fun c_1 => ?_) (fun c_1 => ?_)
  · skip
    refine g_iconst (v := 0) hC dX6_isHour_14 rfl ?_
    refine g_zret (ty := .boolean) hC rfl rfl dX6_isHour_15 ⟨congrArg (fun z => some (Value.int z)) ?_, rfl, rfl⟩
    exact bi_0 (by omega)
  · skip
    refine g_iload_n hC dX6_isHour_4 rfl 0 rfl ?_
    refine g_bipush (v := 24) hC dX6_isHour_5 rfl ?_
    refine g_icmp_ge_T (X := x.toInt) (Y := 24) hC rfl rfl 14 dX6_isHour_7 rfl (fun c_2 => ?_) (fun c_2 => ?_)
    · skip
      refine g_iconst (v := 0) hC dX6_isHour_14 rfl ?_
      refine g_zret (ty := .boolean) hC rfl rfl dX6_isHour_15 ⟨congrArg (fun z => some (Value.int z)) ?_, rfl, rfl⟩
      exact bi_0 (by omega)
    · skip
      refine g_iconst (v := 1) hC dX6_isHour_10 rfl ?_
      refine g_goto hC 15 dX6_isHour_11 rfl ?_
      refine g_zret (ty := .boolean) hC rfl rfl dX6_isHour_15 ⟨congrArg (fun z => some (Value.int z)) ?_, rfl, rfl⟩
      exact bi_1 (by omega)

theorem c_X6_isSheet (l : Launch) (D : va_G) (cA : Nat → ClassId) (b : Nat) (lay : List fm_E) (M : Nat → Nat → Int32) (L : Nat → Nat → Int64) (x : Int32)  : fm_Met l D cA b yX6_isSheet cX6_isSheet 1 (some .boolean) 0 0 0 0 [.int x] lay M L lay (fm_pi (bi (0 ≤ x.toInt ∧ x.toInt < 4)) M L) := by
  refine fm_start RX6 rfl (by decide) (Nat.le_of_ble_eq_true rfl) ?_
  intro p e s m args below meth c hC hin
  refine g_iload_n hC dX6_isSheet_0 rfl 0 rfl ?_
  refine g_if_lt_T (X := x.toInt) hC rfl 13 dX6_isSheet_1 rfl (fun c_1 => ?_) (fun c_1 => ?_)
  · skip
    refine g_iconst (v := 0) hC dX6_isSheet_13 rfl ?_
    refine g_zret (ty := .boolean) hC rfl rfl dX6_isSheet_14 ⟨congrArg (fun z => some (Value.int z)) ?_, rfl, rfl⟩
    exact bi_0 (by omega)
  · skip
    refine g_iload_n hC dX6_isSheet_4 rfl 0 rfl ?_
    refine g_iconst (v := 4) hC dX6_isSheet_5 rfl ?_
    refine g_icmp_ge_T (X := x.toInt) (Y := 4) hC rfl rfl 13 dX6_isSheet_6 rfl (fun c_2 => ?_) (fun c_2 => ?_)
    · skip
      refine g_iconst (v := 0) hC dX6_isSheet_13 rfl ?_
      refine g_zret (ty := .boolean) hC rfl rfl dX6_isSheet_14 ⟨congrArg (fun z => some (Value.int z)) ?_, rfl, rfl⟩
      exact bi_0 (by omega)
    · skip
      refine g_iconst (v := 1) hC dX6_isSheet_9 rfl ?_
      refine g_goto hC 14 dX6_isSheet_10 rfl ?_
      refine g_zret (ty := .boolean) hC rfl rfl dX6_isSheet_14 ⟨congrArg (fun z => some (Value.int z)) ?_, rfl, rfl⟩
      exact bi_1 (by omega)

theorem c_X6_isLane (l : Launch) (D : va_G) (cA : Nat → ClassId) (b : Nat) (lay : List fm_E) (M : Nat → Nat → Int32) (L : Nat → Nat → Int64) (x : Int32)  : fm_Met l D cA b yX6_isLane cX6_isLane 1 (some .boolean) 0 0 0 0 [.int x] lay M L lay (fm_pi (bi (0 ≤ x.toInt ∧ x.toInt ≤ 2)) M L) := by
  refine fm_start RX6 rfl (by decide) (Nat.le_of_ble_eq_true rfl) ?_
  intro p e s m args below meth c hC hin
  refine g_iload_n hC dX6_isLane_0 rfl 0 rfl ?_
  refine g_if_lt_T (X := x.toInt) hC rfl 13 dX6_isLane_1 rfl (fun c_1 => ?_) (fun c_1 => ?_)
  · skip
    refine g_iconst (v := 0) hC dX6_isLane_13 rfl ?_
    refine g_zret (ty := .boolean) hC rfl rfl dX6_isLane_14 ⟨congrArg (fun z => some (Value.int z)) ?_, rfl, rfl⟩
    exact bi_0 (by omega)
  · skip
    refine g_iload_n hC dX6_isLane_4 rfl 0 rfl ?_
    refine g_iconst (v := 2) hC dX6_isLane_5 rfl ?_
    refine g_icmp_gt_T (X := x.toInt) (Y := 2) hC rfl rfl 13 dX6_isLane_6 rfl (fun c_2 => ?_) (fun c_2 => ?_)
    · skip
      refine g_iconst (v := 0) hC dX6_isLane_13 rfl ?_
      refine g_zret (ty := .boolean) hC rfl rfl dX6_isLane_14 ⟨congrArg (fun z => some (Value.int z)) ?_, rfl, rfl⟩
      exact bi_0 (by omega)
    · skip
      refine g_iconst (v := 1) hC dX6_isLane_9 rfl ?_
      refine g_goto hC 14 dX6_isLane_10 rfl ?_
      refine g_zret (ty := .boolean) hC rfl rfl dX6_isLane_14 ⟨congrArg (fun z => some (Value.int z)) ?_, rfl, rfl⟩
      exact bi_1 (by omega)

theorem c_X6_isNumber (l : Launch) (D : va_G) (cA : Nat → ClassId) (b : Nat) (lay : List fm_E) (M : Nat → Nat → Int32) (L : Nat → Nat → Int64) (x : Int64)  : fm_Met l D cA b yX6_isNumber cX6_isNumber 2 (some .boolean) 0 0 0 0 [.long x] lay M L lay (fm_pi (bi (-2 ≤ x.toInt ∧ x.toInt ≤ 5)) M L) := by
  refine fm_start RX6 rfl (by decide) (Nat.le_of_ble_eq_true rfl) ?_
  intro p e s m args below meth c hC hin
  refine g_lload_n hC dX6_isNumber_0 rfl 0 rfl ?_
  refine g_ldc2 (v := (-2)) hC fw_381 dX6_isNumber_1 ?_
  refine g_lcmp hC dX6_isNumber_4 ?_
  refine g_cmp_lt_T (X := x.toInt) (Y := (-2)) hC rfl rfl 20 dX6_isNumber_5 rfl (fun c_1 => ?_) (fun c_1 => ?_)
  · skip
    refine g_iconst (v := 0) hC dX6_isNumber_20 rfl ?_
    refine g_zret (ty := .boolean) hC rfl rfl dX6_isNumber_21 ⟨congrArg (fun z => some (Value.int z)) ?_, rfl, rfl⟩
    exact bi_0 (by omega)
  · skip
    refine g_lload_n hC dX6_isNumber_8 rfl 0 rfl ?_
    refine g_ldc2 (v := 5) hC fw_382 dX6_isNumber_9 ?_
    refine g_lcmp hC dX6_isNumber_12 ?_
    refine g_cmp_gt_T (X := x.toInt) (Y := 5) hC rfl rfl 20 dX6_isNumber_13 rfl (fun c_2 => ?_) (fun c_2 => ?_)
    · skip
      refine g_iconst (v := 0) hC dX6_isNumber_20 rfl ?_
      refine g_zret (ty := .boolean) hC rfl rfl dX6_isNumber_21 ⟨congrArg (fun z => some (Value.int z)) ?_, rfl, rfl⟩
      exact bi_0 (by omega)
    · skip
      refine g_iconst (v := 1) hC dX6_isNumber_16 rfl ?_
      refine g_goto hC 21 dX6_isNumber_17 rfl ?_
      refine g_zret (ty := .boolean) hC rfl rfl dX6_isNumber_21 ⟨congrArg (fun z => some (Value.int z)) ?_, rfl, rfl⟩
      exact bi_1 (by omega)

theorem c_X4_isSign (l : Launch) (D : va_G) (cA : Nat → ClassId) (b : Nat) (lay : List fm_E) (M : Nat → Nat → Int32) (L : Nat → Nat → Int64) (x : Int32)  : fm_Met l D cA b yX4_isSign cX4_isSign 1 (some .boolean) 0 0 0 0 [.int x] lay M L lay (fm_pi (bi (32 ≤ x.toInt ∧ x.toInt ≤ 126)) M L) := by
  refine fm_start RX4 rfl (by decide) (Nat.le_of_ble_eq_true rfl) ?_
  intro p e s m args below meth c hC hin
  refine g_iload_n hC dX4_isSign_0 rfl 0 rfl ?_
  refine g_bipush (v := 32) hC dX4_isSign_1 rfl ?_
  refine g_icmp_lt_T (X := x.toInt) (Y := 32) hC rfl rfl 16 dX4_isSign_3 rfl (fun c_1 => ?_) (fun c_1 => ?_)
  · skip
    refine g_iconst (v := 0) hC dX4_isSign_16 rfl ?_
    refine g_zret (ty := .boolean) hC rfl rfl dX4_isSign_17 ⟨congrArg (fun z => some (Value.int z)) ?_, rfl, rfl⟩
    exact bi_0 (by omega)
  · skip
    refine g_iload_n hC dX4_isSign_6 rfl 0 rfl ?_
    refine g_bipush (v := 126) hC dX4_isSign_7 rfl ?_
    refine g_icmp_gt_T (X := x.toInt) (Y := 126) hC rfl rfl 16 dX4_isSign_9 rfl (fun c_2 => ?_) (fun c_2 => ?_)
    · skip
      refine g_iconst (v := 0) hC dX4_isSign_16 rfl ?_
      refine g_zret (ty := .boolean) hC rfl rfl dX4_isSign_17 ⟨congrArg (fun z => some (Value.int z)) ?_, rfl, rfl⟩
      exact bi_0 (by omega)
    · skip
      refine g_iconst (v := 1) hC dX4_isSign_12 rfl ?_
      refine g_goto hC 17 dX4_isSign_13 rfl ?_
      refine g_zret (ty := .boolean) hC rfl rfl dX4_isSign_17 ⟨congrArg (fun z => some (Value.int z)) ?_, rfl, rfl⟩
      exact bi_1 (by omega)

theorem c_X4_isFigure (l : Launch) (D : va_G) (cA : Nat → ClassId) (b : Nat) (lay : List fm_E) (M : Nat → Nat → Int32) (L : Nat → Nat → Int64) (x : Int32)  : fm_Met l D cA b yX4_isFigure cX4_isFigure 1 (some .boolean) 0 0 0 0 [.int x] lay M L lay (fm_pi (bi (48 ≤ x.toInt ∧ x.toInt ≤ 57)) M L) := by
  refine fm_start RX4 rfl (by decide) (Nat.le_of_ble_eq_true rfl) ?_
  intro p e s m args below meth c hC hin
  refine g_iload_n hC dX4_isFigure_0 rfl 0 rfl ?_
  refine g_bipush (v := 48) hC dX4_isFigure_1 rfl ?_
  refine g_icmp_lt_T (X := x.toInt) (Y := 48) hC rfl rfl 16 dX4_isFigure_3 rfl (fun c_1 => ?_) (fun c_1 => ?_)
  · skip
    refine g_iconst (v := 0) hC dX4_isFigure_16 rfl ?_
    refine g_zret (ty := .boolean) hC rfl rfl dX4_isFigure_17 ⟨congrArg (fun z => some (Value.int z)) ?_, rfl, rfl⟩
    exact bi_0 (by omega)
  · skip
    refine g_iload_n hC dX4_isFigure_6 rfl 0 rfl ?_
    refine g_bipush (v := 57) hC dX4_isFigure_7 rfl ?_
    refine g_icmp_gt_T (X := x.toInt) (Y := 57) hC rfl rfl 16 dX4_isFigure_9 rfl (fun c_2 => ?_) (fun c_2 => ?_)
    · skip
      refine g_iconst (v := 0) hC dX4_isFigure_16 rfl ?_
      refine g_zret (ty := .boolean) hC rfl rfl dX4_isFigure_17 ⟨congrArg (fun z => some (Value.int z)) ?_, rfl, rfl⟩
      exact bi_0 (by omega)
    · skip
      refine g_iconst (v := 1) hC dX4_isFigure_12 rfl ?_
      refine g_goto hC 17 dX4_isFigure_13 rfl ?_
      refine g_zret (ty := .boolean) hC rfl rfl dX4_isFigure_17 ⟨congrArg (fun z => some (Value.int z)) ?_, rfl, rfl⟩
      exact bi_1 (by omega)

theorem c_X7_in (l : Launch) (D : va_G) (cA : Nat → ClassId) (b : Nat) (lay : List fm_E) (M : Nat → Nat → Int32) (L : Nat → Nat → Int64) (x : Int64) (u : Int64) (v : Int64)  : fm_Met l D cA b yX7_in cX7_in 6 (some .boolean) 0 0 0 0 [.long x, .long u, .long v] lay M L lay (fm_pi (bi (u.toInt ≤ x.toInt ∧ x.toInt ≤ v.toInt)) M L) := by
  refine fm_start RX7 rfl (by decide) (Nat.le_of_ble_eq_true rfl) ?_
  intro p e s m args below meth c hC hin
  refine g_lload_n hC dX7_in_0 rfl 0 rfl ?_
  refine g_lload_n hC dX7_in_1 rfl 1 rfl ?_
  refine g_lcmp hC dX7_in_2 ?_
  refine g_cmp_lt_T (X := x.toInt) (Y := u.toInt) hC rfl rfl 17 dX7_in_3 rfl (fun c_1 => ?_) (fun c_1 => ?_)
  · skip
    refine g_iconst (v := 0) hC dX7_in_17 rfl ?_
    refine g_zret (ty := .boolean) hC rfl rfl dX7_in_18 ⟨congrArg (fun z => some (Value.int z)) ?_, rfl, rfl⟩
    exact bi_0 (by omega)
  · skip
    refine g_lload_n hC dX7_in_6 rfl 0 rfl ?_
    refine g_lload hC dX7_in_7 2 rfl ?_
    refine g_lcmp hC dX7_in_9 ?_
    refine g_cmp_gt_T (X := x.toInt) (Y := v.toInt) hC rfl rfl 17 dX7_in_10 rfl (fun c_2 => ?_) (fun c_2 => ?_)
    · skip
      refine g_iconst (v := 0) hC dX7_in_17 rfl ?_
      refine g_zret (ty := .boolean) hC rfl rfl dX7_in_18 ⟨congrArg (fun z => some (Value.int z)) ?_, rfl, rfl⟩
      exact bi_0 (by omega)
    · skip
      refine g_iconst (v := 1) hC dX7_in_13 rfl ?_
      refine g_goto hC 18 dX7_in_14 rfl ?_
      refine g_zret (ty := .boolean) hC rfl rfl dX7_in_18 ⟨congrArg (fun z => some (Value.int z)) ?_, rfl, rfl⟩
      exact bi_1 (by omega)
