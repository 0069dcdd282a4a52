/-! ===== leaves: tests of numbers ===== -/
theorem c_X6_isWithin (l : Launch) (D : va_G) (cA : Nat → ClassId) (b : Nat) (lay : List fm_E) (M : Nat → Nat → Int32) (L : Nat → Nat → Int64) (x : Int32) (h : Int32) (X : Int) (H : Int) (hX : x.toInt = X) (hH : h.toInt = H) : fm_Met l D cA b yX6_isWithin cX6_isWithin 2 (some .boolean) 0 0 0 0 [.int x, .int h] lay M L lay (fm_pi (bi (0 ≤ X ∧ X ≤ H)) M L) := by
  refine fm_start RX6 rfl (by decide) (Nat.le_of_ble_eq_true rfl) ?_
  intro pq eq sq mq aq bq tq cq hC hin
  refine g_iload_n hC dX6_isWithin_0 rfl 0 rfl ?_
  refine g_if_lt_T (X := X) hC hX 13 dX6_isWithin_1 rfl (fun c_1 => ?_) (fun c_1 => ?_)
  · skip
    refine g_iconst (v := 0) hC dX6_isWithin_13 rfl ?_
    refine g_zret (ty := .boolean) hC rfl rfl dX6_isWithin_14 ⟨congrArg (fun z => some (Value.int z)) ?_, rfl, rfl⟩
    exact bi_0 (by omega)
  · skip
    refine g_iload_n hC dX6_isWithin_4 rfl 0 rfl ?_
    refine g_iload_n hC dX6_isWithin_5 rfl 1 rfl ?_
    refine g_icmp_gt_T (X := X) (Y := H) hC hX hH 13 dX6_isWithin_6 rfl (fun c_2 => ?_) (fun c_2 => ?_)
    · skip
      refine g_iconst (v := 0) hC dX6_isWithin_13 rfl ?_
      refine g_zret (ty := .boolean) hC rfl rfl dX6_isWithin_14 ⟨congrArg (fun z => some (Value.int z)) ?_, rfl, rfl⟩
      exact bi_0 (by omega)
    · skip
      refine g_iconst (v := 1) hC dX6_isWithin_9 rfl ?_
      refine g_goto hC 14 dX6_isWithin_10 rfl ?_
      refine g_zret (ty := .boolean) hC rfl rfl dX6_isWithin_14 ⟨congrArg (fun z => some (Value.int z)) ?_, rfl, rfl⟩
      exact bi_1 (by omega)

theorem c_X6_isHour (l : Launch) (D : va_G) (cA : Nat → ClassId) (b : Nat) (lay : List fm_E) (M : Nat → Nat → Int32) (L : Nat → Nat → Int64) (x : Int32) (X : Int) (hX : x.toInt = X) : fm_Met l D cA b yX6_isHour cX6_isHour 1 (some .boolean) 0 0 0 0 [.int x] lay M L lay (fm_pi (bi (0 ≤ X ∧ X < 24)) M L) := by
  refine fm_start RX6 rfl (by decide) (Nat.le_of_ble_eq_true rfl) ?_
  intro pq eq sq mq aq bq tq cq hC hin
  refine g_iload_n hC dX6_isHour_0 rfl 0 rfl ?_
  refine g_if_lt_T (X := X) hC hX 14 dX6_isHour_1 rfl (fun c_1 => ?_) (fun c_1 => ?_)
  · skip
    refine g_iconst (v := 0) hC dX6_isHour_14 rfl ?_
    refine g_zret (ty := .boolean) hC rfl rfl dX6_isHour_15 ⟨congrArg (fun z => some (Value.int z)) ?_, rfl, rfl⟩
    exact bi_0 (by omega)
  · skip
    refine g_iload_n hC dX6_isHour_4 rfl 0 rfl ?_
    refine g_bipush (v := 24) hC dX6_isHour_5 rfl ?_
    refine g_icmp_ge_T (X := X) (Y := 24) hC hX rfl 14 dX6_isHour_7 rfl (fun c_2 => ?_) (fun c_2 => ?_)
    · skip
      refine g_iconst (v := 0) hC dX6_isHour_14 rfl ?_
      refine g_zret (ty := .boolean) hC rfl rfl dX6_isHour_15 ⟨congrArg (fun z => some (Value.int z)) ?_, rfl, rfl⟩
      exact bi_0 (by omega)
    · skip
      refine g_iconst (v := 1) hC dX6_isHour_10 rfl ?_
      refine g_goto hC 15 dX6_isHour_11 rfl ?_
      refine g_zret (ty := .boolean) hC rfl rfl dX6_isHour_15 ⟨congrArg (fun z => some (Value.int z)) ?_, rfl, rfl⟩
      exact bi_1 (by omega)

theorem c_X6_isSheet (l : Launch) (D : va_G) (cA : Nat → ClassId) (b : Nat) (lay : List fm_E) (M : Nat → Nat → Int32) (L : Nat → Nat → Int64) (x : Int32) (X : Int) (hX : x.toInt = X) : fm_Met l D cA b yX6_isSheet cX6_isSheet 1 (some .boolean) 0 0 0 0 [.int x] lay M L lay (fm_pi (bi (0 ≤ X ∧ X < 4)) M L) := by
  refine fm_start RX6 rfl (by decide) (Nat.le_of_ble_eq_true rfl) ?_
  intro pq eq sq mq aq bq tq cq hC hin
  refine g_iload_n hC dX6_isSheet_0 rfl 0 rfl ?_
  refine g_if_lt_T (X := X) hC hX 13 dX6_isSheet_1 rfl (fun c_1 => ?_) (fun c_1 => ?_)
  · skip
    refine g_iconst (v := 0) hC dX6_isSheet_13 rfl ?_
    refine g_zret (ty := .boolean) hC rfl rfl dX6_isSheet_14 ⟨congrArg (fun z => some (Value.int z)) ?_, rfl, rfl⟩
    exact bi_0 (by omega)
  · skip
    refine g_iload_n hC dX6_isSheet_4 rfl 0 rfl ?_
    refine g_iconst (v := 4) hC dX6_isSheet_5 rfl ?_
    refine g_icmp_ge_T (X := X) (Y := 4) hC hX rfl 13 dX6_isSheet_6 rfl (fun c_2 => ?_) (fun c_2 => ?_)
    · skip
      refine g_iconst (v := 0) hC dX6_isSheet_13 rfl ?_
      refine g_zret (ty := .boolean) hC rfl rfl dX6_isSheet_14 ⟨congrArg (fun z => some (Value.int z)) ?_, rfl, rfl⟩
      exact bi_0 (by omega)
    · skip
      refine g_iconst (v := 1) hC dX6_isSheet_9 rfl ?_
      refine g_goto hC 14 dX6_isSheet_10 rfl ?_
      refine g_zret (ty := .boolean) hC rfl rfl dX6_isSheet_14 ⟨congrArg (fun z => some (Value.int z)) ?_, rfl, rfl⟩
      exact bi_1 (by omega)

theorem c_X6_isLane (l : Launch) (D : va_G) (cA : Nat → ClassId) (b : Nat) (lay : List fm_E) (M : Nat → Nat → Int32) (L : Nat → Nat → Int64) (x : Int32) (X : Int) (hX : x.toInt = X) : fm_Met l D cA b yX6_isLane cX6_isLane 1 (some .boolean) 0 0 0 0 [.int x] lay M L lay (fm_pi (bi (0 ≤ X ∧ X ≤ 2)) M L) := by
  refine fm_start RX6 rfl (by decide) (Nat.le_of_ble_eq_true rfl) ?_
  intro pq eq sq mq aq bq tq cq hC hin
  refine g_iload_n hC dX6_isLane_0 rfl 0 rfl ?_
  refine g_if_lt_T (X := X) hC hX 13 dX6_isLane_1 rfl (fun c_1 => ?_) (fun c_1 => ?_)
  · skip
    refine g_iconst (v := 0) hC dX6_isLane_13 rfl ?_
    refine g_zret (ty := .boolean) hC rfl rfl dX6_isLane_14 ⟨congrArg (fun z => some (Value.int z)) ?_, rfl, rfl⟩
    exact bi_0 (by omega)
  · skip
    refine g_iload_n hC dX6_isLane_4 rfl 0 rfl ?_
    refine g_iconst (v := 2) hC dX6_isLane_5 rfl ?_
    refine g_icmp_gt_T (X := X) (Y := 2) hC hX rfl 13 dX6_isLane_6 rfl (fun c_2 => ?_) (fun c_2 => ?_)
    · skip
      refine g_iconst (v := 0) hC dX6_isLane_13 rfl ?_
      refine g_zret (ty := .boolean) hC rfl rfl dX6_isLane_14 ⟨congrArg (fun z => some (Value.int z)) ?_, rfl, rfl⟩
      exact bi_0 (by omega)
    · skip
      refine g_iconst (v := 1) hC dX6_isLane_9 rfl ?_
      refine g_goto hC 14 dX6_isLane_10 rfl ?_
      refine g_zret (ty := .boolean) hC rfl rfl dX6_isLane_14 ⟨congrArg (fun z => some (Value.int z)) ?_, rfl, rfl⟩
      exact bi_1 (by omega)

theorem c_X6_isNumber (l : Launch) (D : va_G) (cA : Nat → ClassId) (b : Nat) (lay : List fm_E) (M : Nat → Nat → Int32) (L : Nat → Nat → Int64) (x : Int64) (X : Int) (hX : x.toInt = X) : fm_Met l D cA b yX6_isNumber cX6_isNumber 2 (some .boolean) 0 0 0 0 [.long x] lay M L lay (fm_pi (bi (-2 ≤ X ∧ X ≤ 5)) M L) := by
  refine fm_start RX6 rfl (by decide) (Nat.le_of_ble_eq_true rfl) ?_
  intro pq eq sq mq aq bq tq cq hC hin
  refine g_lload_n hC dX6_isNumber_0 rfl 0 rfl ?_
  refine g_ldc2 (v := (-2)) hC fw_381 dX6_isNumber_1 ?_
  refine g_lcmp hC dX6_isNumber_4 ?_
  refine g_cmp_lt_T (X := X) (Y := (-2)) hC hX rfl 20 dX6_isNumber_5 rfl (fun c_1 => ?_) (fun c_1 => ?_)
  · skip
    refine g_iconst (v := 0) hC dX6_isNumber_20 rfl ?_
    refine g_zret (ty := .boolean) hC rfl rfl dX6_isNumber_21 ⟨congrArg (fun z => some (Value.int z)) ?_, rfl, rfl⟩
    exact bi_0 (by omega)
  · skip
    refine g_lload_n hC dX6_isNumber_8 rfl 0 rfl ?_
    refine g_ldc2 (v := 5) hC fw_382 dX6_isNumber_9 ?_
    refine g_lcmp hC dX6_isNumber_12 ?_
    refine g_cmp_gt_T (X := X) (Y := 5) hC hX rfl 20 dX6_isNumber_13 rfl (fun c_2 => ?_) (fun c_2 => ?_)
    · skip
      refine g_iconst (v := 0) hC dX6_isNumber_20 rfl ?_
      refine g_zret (ty := .boolean) hC rfl rfl dX6_isNumber_21 ⟨congrArg (fun z => some (Value.int z)) ?_, rfl, rfl⟩
      exact bi_0 (by omega)
    · skip
      refine g_iconst (v := 1) hC dX6_isNumber_16 rfl ?_
      refine g_goto hC 21 dX6_isNumber_17 rfl ?_
      refine g_zret (ty := .boolean) hC rfl rfl dX6_isNumber_21 ⟨congrArg (fun z => some (Value.int z)) ?_, rfl, rfl⟩
      exact bi_1 (by omega)

theorem c_X4_isSign (l : Launch) (D : va_G) (cA : Nat → ClassId) (b : Nat) (lay : List fm_E) (M : Nat → Nat → Int32) (L : Nat → Nat → Int64) (x : Int32) (X : Int) (hX : x.toInt = X) : fm_Met l D cA b yX4_isSign cX4_isSign 1 (some .boolean) 0 0 0 0 [.int x] lay M L lay (fm_pi (bi (32 ≤ X ∧ X ≤ 126)) M L) := by
  refine fm_start RX4 rfl (by decide) (Nat.le_of_ble_eq_true rfl) ?_
  intro pq eq sq mq aq bq tq cq hC hin
  refine g_iload_n hC dX4_isSign_0 rfl 0 rfl ?_
  refine g_bipush (v := 32) hC dX4_isSign_1 rfl ?_
  refine g_icmp_lt_T (X := X) (Y := 32) hC hX rfl 16 dX4_isSign_3 rfl (fun c_1 => ?_) (fun c_1 => ?_)
  · skip
    refine g_iconst (v := 0) hC dX4_isSign_16 rfl ?_
    refine g_zret (ty := .boolean) hC rfl rfl dX4_isSign_17 ⟨congrArg (fun z => some (Value.int z)) ?_, rfl, rfl⟩
    exact bi_0 (by omega)
  · skip
    refine g_iload_n hC dX4_isSign_6 rfl 0 rfl ?_
    refine g_bipush (v := 126) hC dX4_isSign_7 rfl ?_
    refine g_icmp_gt_T (X := X) (Y := 126) hC hX rfl 16 dX4_isSign_9 rfl (fun c_2 => ?_) (fun c_2 => ?_)
    · skip
      refine g_iconst (v := 0) hC dX4_isSign_16 rfl ?_
      refine g_zret (ty := .boolean) hC rfl rfl dX4_isSign_17 ⟨congrArg (fun z => some (Value.int z)) ?_, rfl, rfl⟩
      exact bi_0 (by omega)
    · skip
      refine g_iconst (v := 1) hC dX4_isSign_12 rfl ?_
      refine g_goto hC 17 dX4_isSign_13 rfl ?_
      refine g_zret (ty := .boolean) hC rfl rfl dX4_isSign_17 ⟨congrArg (fun z => some (Value.int z)) ?_, rfl, rfl⟩
      exact bi_1 (by omega)

theorem c_X4_isFigure (l : Launch) (D : va_G) (cA : Nat → ClassId) (b : Nat) (lay : List fm_E) (M : Nat → Nat → Int32) (L : Nat → Nat → Int64) (x : Int32) (X : Int) (hX : x.toInt = X) : fm_Met l D cA b yX4_isFigure cX4_isFigure 1 (some .boolean) 0 0 0 0 [.int x] lay M L lay (fm_pi (bi (48 ≤ X ∧ X ≤ 57)) M L) := by
  refine fm_start RX4 rfl (by decide) (Nat.le_of_ble_eq_true rfl) ?_
  intro pq eq sq mq aq bq tq cq hC hin
  refine g_iload_n hC dX4_isFigure_0 rfl 0 rfl ?_
  refine g_bipush (v := 48) hC dX4_isFigure_1 rfl ?_
  refine g_icmp_lt_T (X := X) (Y := 48) hC hX rfl 16 dX4_isFigure_3 rfl (fun c_1 => ?_) (fun c_1 => ?_)
  · skip
    refine g_iconst (v := 0) hC dX4_isFigure_16 rfl ?_
    refine g_zret (ty := .boolean) hC rfl rfl dX4_isFigure_17 ⟨congrArg (fun z => some (Value.int z)) ?_, rfl, rfl⟩
    exact bi_0 (by omega)
  · skip
    refine g_iload_n hC dX4_isFigure_6 rfl 0 rfl ?_
    refine g_bipush (v := 57) hC dX4_isFigure_7 rfl ?_
    refine g_icmp_gt_T (X := X) (Y := 57) hC hX rfl 16 dX4_isFigure_9 rfl (fun c_2 => ?_) (fun c_2 => ?_)
    · skip
      refine g_iconst (v := 0) hC dX4_isFigure_16 rfl ?_
      refine g_zret (ty := .boolean) hC rfl rfl dX4_isFigure_17 ⟨congrArg (fun z => some (Value.int z)) ?_, rfl, rfl⟩
      exact bi_0 (by omega)
    · skip
      refine g_iconst (v := 1) hC dX4_isFigure_12 rfl ?_
      refine g_goto hC 17 dX4_isFigure_13 rfl ?_
      refine g_zret (ty := .boolean) hC rfl rfl dX4_isFigure_17 ⟨congrArg (fun z => some (Value.int z)) ?_, rfl, rfl⟩
      exact bi_1 (by omega)

theorem c_X7_in (l : Launch) (D : va_G) (cA : Nat → ClassId) (b : Nat) (lay : List fm_E) (M : Nat → Nat → Int32) (L : Nat → Nat → Int64) (x : Int64) (u : Int64) (v : Int64) (X : Int) (U : Int) (V : Int) (hX : x.toInt = X) (hU : u.toInt = U) (hV : v.toInt = V) : fm_Met l D cA b yX7_in cX7_in 6 (some .boolean) 0 0 0 0 [.long x, .long u, .long v] lay M L lay (fm_pi (bi (U ≤ X ∧ X ≤ V)) M L) := by
  refine fm_start RX7 rfl (by decide) (Nat.le_of_ble_eq_true rfl) ?_
  intro pq eq sq mq aq bq tq cq hC hin
  refine g_lload_n hC dX7_in_0 rfl 0 rfl ?_
  refine g_lload_n hC dX7_in_1 rfl 1 rfl ?_
  refine g_lcmp hC dX7_in_2 ?_
  refine g_cmp_lt_T (X := X) (Y := U) hC hX hU 17 dX7_in_3 rfl (fun c_1 => ?_) (fun c_1 => ?_)
  · skip
    refine g_iconst (v := 0) hC dX7_in_17 rfl ?_
    refine g_zret (ty := .boolean) hC rfl rfl dX7_in_18 ⟨congrArg (fun z => some (Value.int z)) ?_, rfl, rfl⟩
    exact bi_0 (by omega)
  · skip
    refine g_lload_n hC dX7_in_6 rfl 0 rfl ?_
    refine g_lload hC dX7_in_7 2 rfl ?_
    refine g_lcmp hC dX7_in_9 ?_
    refine g_cmp_gt_T (X := X) (Y := V) hC hX hV 17 dX7_in_10 rfl (fun c_2 => ?_) (fun c_2 => ?_)
    · skip
      refine g_iconst (v := 0) hC dX7_in_17 rfl ?_
      refine g_zret (ty := .boolean) hC rfl rfl dX7_in_18 ⟨congrArg (fun z => some (Value.int z)) ?_, rfl, rfl⟩
      exact bi_0 (by omega)
    · skip
      refine g_iconst (v := 1) hC dX7_in_13 rfl ?_
      refine g_goto hC 18 dX7_in_14 rfl ?_
      refine g_zret (ty := .boolean) hC rfl rfl dX7_in_18 ⟨congrArg (fun z => some (Value.int z)) ?_, rfl, rfl⟩
      exact bi_1 (by omega)

theorem c_X7_isHour (l : Launch) (D : va_G) (cA : Nat → ClassId) (b : Nat) (lay : List fm_E) (M : Nat → Nat → Int32) (L : Nat → Nat → Int64) (x : Int32) (X : Int) (hX : x.toInt = X) : fm_Met l D cA b yX7_isHour cX7_isHour 1 (some .boolean) 1 25 0 0 [.int x] lay M L lay (fm_pi (bi (0 ≤ X ∧ X ≤ 23)) M L) := by
  refine fm_start RX7 rfl (by decide) (Nat.le_of_ble_eq_true rfl) ?_
  intro pq eq sq mq aq bq tq cq hC hin
  refine g_iload_n hC dX7_isHour_0 rfl 0 rfl ?_
  refine g_i2l (v := x.toInt64) hC dX7_isHour_1 rfl ?_
  refine g_lconst (v := 0) hC dX7_isHour_2 rfl ?_
  refine g_ldc2 (v := 23) hC fw_731 dX7_isHour_3 ?_
  refine g_callS hC (as := [.long x.toInt64, .long 0, .long 23]) (rest := []) (c_X7_in l D cA b lay M L x.toInt64 0 23 X 0 23 ((ic_w _).trans hX) rfl rfl) ⟨fw_725, fw_726, fw_9, fw_727⟩ hd_X7_in ⟨Nat.le_of_ble_eq_true rfl, Nat.le_of_ble_eq_true rfl⟩ ⟨Nat.le_of_ble_eq_true rfl, Nat.le_of_ble_eq_true rfl⟩ rfl rfl (Nat.le_of_ble_eq_true rfl) dX7_isHour_6 (g_rix ?_)
  refine g_zret (ty := .boolean) hC rfl bi_nar dX7_isHour_9 ⟨congrArg (fun z => some (Value.int z)) ?_, rfl, rfl⟩
  rfl

theorem c_X7_isNumber (l : Launch) (D : va_G) (cA : Nat → ClassId) (b : Nat) (lay : List fm_E) (M : Nat → Nat → Int32) (L : Nat → Nat → Int64) (x : Int64) (X : Int) (hX : x.toInt = X) : fm_Met l D cA b yX7_isNumber cX7_isNumber 2 (some .boolean) 1 25 0 0 [.long x] lay M L lay (fm_pi (bi (-2 ≤ X ∧ X ≤ 5)) M L) := by
  refine fm_start RX7 rfl (by decide) (Nat.le_of_ble_eq_true rfl) ?_
  intro pq eq sq mq aq bq tq cq hC hin
  refine g_lload_n hC dX7_isNumber_0 rfl 0 rfl ?_
  refine g_ldc2 (v := (-2)) hC fw_844 dX7_isNumber_1 ?_
  refine g_ldc2 (v := 5) hC fw_835 dX7_isNumber_4 ?_
  refine g_callS hC (as := [.long x, .long (-2), .long 5]) (rest := []) (c_X7_in l D cA b lay M L x (-2) 5 X (-2) 5 (hX) rfl rfl) ⟨fw_725, fw_726, fw_9, fw_727⟩ hd_X7_in ⟨Nat.le_of_ble_eq_true rfl, Nat.le_of_ble_eq_true rfl⟩ ⟨Nat.le_of_ble_eq_true rfl, Nat.le_of_ble_eq_true rfl⟩ rfl rfl (Nat.le_of_ble_eq_true rfl) dX7_isNumber_7 (g_rix ?_)
  refine g_zret (ty := .boolean) hC rfl bi_nar dX7_isNumber_10 ⟨congrArg (fun z => some (Value.int z)) ?_, rfl, rfl⟩
  rfl

theorem c_X7_isSheet (l : Launch) (D : va_G) (cA : Nat → ClassId) (b : Nat) (lay : List fm_E) (M : Nat → Nat → Int32) (L : Nat → Nat → Int64) (x : Int32) (y : Int32) (X : Int) (Y : Int) (hX : x.toInt = X) (hY : y.toInt = Y) : fm_Met l D cA b yX7_isSheet cX7_isSheet 2 (some .boolean) 1 25 0 0 [.int x, .int y] lay M L lay (fm_pi (bi ((0 ≤ X ∧ X < 4) ∧ (0 ≤ Y ∧ Y ≤ 2))) M L) := by
  refine fm_start RX7 rfl (by decide) (Nat.le_of_ble_eq_true rfl) ?_
  intro pq eq sq mq aq bq tq cq hC hin
  refine g_iload_n hC dX7_isSheet_0 rfl 0 rfl ?_
  refine g_i2l (v := x.toInt64) hC dX7_isSheet_1 rfl ?_
  refine g_lconst (v := 0) hC dX7_isSheet_2 rfl ?_
  refine g_ldc2 (v := 3) hC fw_724 dX7_isSheet_3 ?_
  refine g_callS hC (as := [.long x.toInt64, .long 0, .long 3]) (rest := []) (c_X7_in l D cA b lay M L x.toInt64 0 3 X 0 3 ((ic_w _).trans hX) rfl rfl) ⟨fw_725, fw_726, fw_9, fw_727⟩ hd_X7_in ⟨Nat.le_of_ble_eq_true rfl, Nat.le_of_ble_eq_true rfl⟩ ⟨Nat.le_of_ble_eq_true rfl, Nat.le_of_ble_eq_true rfl⟩ rfl rfl (Nat.le_of_ble_eq_true rfl) dX7_isSheet_6 (g_rix ?_)
  refine g_ifb_eq hC 28 dX7_isSheet_9 rfl (fun c_2 => ?_) (fun c_2 => ?_)
  · skip
    refine g_iconst (v := 0) hC dX7_isSheet_28 rfl ?_
    refine g_zret (ty := .boolean) hC rfl rfl dX7_isSheet_29 ⟨congrArg (fun z => some (Value.int z)) ?_, rfl, rfl⟩
    exact bi_0 (by omega)
  · skip
    refine g_iload_n hC dX7_isSheet_12 rfl 1 rfl ?_
    refine g_i2l (v := y.toInt64) hC dX7_isSheet_13 rfl ?_
    refine g_lconst (v := 0) hC dX7_isSheet_14 rfl ?_
    refine g_ldc2 (v := 2) hC fw_836 dX7_isSheet_15 ?_
    refine g_callS hC (as := [.long y.toInt64, .long 0, .long 2]) (rest := []) (c_X7_in l D cA b lay M L y.toInt64 0 2 Y 0 2 ((ic_w _).trans hY) rfl rfl) ⟨fw_725, fw_726, fw_9, fw_727⟩ hd_X7_in ⟨Nat.le_of_ble_eq_true rfl, Nat.le_of_ble_eq_true rfl⟩ ⟨Nat.le_of_ble_eq_true rfl, Nat.le_of_ble_eq_true rfl⟩ rfl rfl (Nat.le_of_ble_eq_true rfl) dX7_isSheet_18 (g_rix ?_)
    refine g_ifb_eq hC 28 dX7_isSheet_21 rfl (fun c_4 => ?_) (fun c_4 => ?_)
    · skip
      refine g_iconst (v := 0) hC dX7_isSheet_28 rfl ?_
      refine g_zret (ty := .boolean) hC rfl rfl dX7_isSheet_29 ⟨congrArg (fun z => some (Value.int z)) ?_, rfl, rfl⟩
      exact bi_0 (by omega)
    · skip
      refine g_iconst (v := 1) hC dX7_isSheet_24 rfl ?_
      refine g_goto hC 29 dX7_isSheet_25 rfl ?_
      refine g_zret (ty := .boolean) hC rfl rfl dX7_isSheet_29 ⟨congrArg (fun z => some (Value.int z)) ?_, rfl, rfl⟩
      exact bi_1 (by omega)
