/-! ===== what is worth what, in numbers ===== -/
def apN (a c : Nat) : Nat := if (a - c) + (c - a) ≤ 12 then (a - c) + (c - a) else 24 - ((a - c) + (c - a))
def wN (kd h w hour k : Nat) : Nat := if kd = 0 then (if apN h hour = 0 then w else 0) else if kd = 1 then (if apN h hour ≤ 1 then w else 0) else if kd = 2 then w - 3 * apN h hour else (w - 3 * apN h hour) / 2 ^ k
theorem wN_le (kd h w hour k : Nat) : wN kd h w hour k ≤ w := by
  unfold wN
  have := Nat.div_le_self (w - 3 * apN h hour) (2 ^ k)
  split
  · split <;> omega
  · split
    · split <;> omega
    · split <;> omega
theorem apN_le {a c : Nat} (h : a < 24) (h2 : c < 24) : apN a c ≤ 12 := by unfold apN; split <;> omega
/-- the first place of the most, and the most: of f's first n numbers those above 0 -/
def argm (f : Nat → Nat) : Nat → Int32 × Nat
  | 0 => (-4, 0)
  | n + 1 => if (argm f n).2 < f n then (nI n, f n) else argm f n
theorem argm_t {f : Nat → Nat} {n : Nat} {x : Int32} {v : Nat} (h : argm f n = (x, v)) (c : v < f n) : argm f (n + 1) = (nI n, f n) := by simp [argm, h, c]
theorem argm_f {f : Nat → Nat} {n : Nat} {x : Int32} {v : Nat} (h : argm f n = (x, v)) (c : ¬ v < f n) : argm f (n + 1) = (x, v) := by simp [argm, h, c]
def favN (kd h w m : Nat) : Int32 := if m = 1 then (argm (fun hh => wN kd h w hh 0) 24).1 else -4
def perC (M : Nat → Nat → Int32) (c kd h w m : Nat) : Prop := M c 0 = nI kd ∧ M c 1 = nI h ∧ M c 2 = nI w ∧ M c 3 = nI m ∧ kd < 4 ∧ h < 24 ∧ w < 100 ∧ m < 2
abbrev be (M : Nat → Nat → Int32) (c : Nat) (k h w m : Int32) : Nat → Nat → Int32 := fm_up (fm_up (fm_up (fm_up M c 0 k) c 1 h) c 2 w) c 3 m
theorem ap_1 : ∀ a, a < 24 → ∀ c, c < 24 → (if 0 ≤ nI a - nI c then nI a - nI c else 0 - (nI a - nI c)) = nI ((a - c) + (c - a)) := by decide +kernel
theorem ap_2 : ∀ d, d < 24 → (if 24 - nI d < nI d then 24 - nI d else nI d) = nI (if d ≤ 12 then d else 24 - d) := by decide +kernel
theorem ap_3 : ∀ d, d < 24 → 24 - nI d = nI (24 - d) := by decide +kernel
theorem ap_4 : ∀ w, w < 100 → ∀ d, d < 13 → (if nI w - nI (3 * d) < 0 then (0 : Int32) else nI w - nI (3 * d)) = nI (w - 3 * d) := by decide +kernel
theorem ap_5 : ∀ w, w < 100 → ∀ k, k < 5 → nI w >>> (nI k &&& 31) = nI (w / 2 ^ k) := by decide +kernel
theorem ap_6 : ∀ a, a < 24 → ∀ c, c < 24 → c < a → nI a - nI c = nI ((a - c) + (c - a)) := by decide +kernel
theorem ap_7 : ∀ a, a < 24 → ∀ c, c < 24 → ¬ c < a → nI c - nI a = nI ((a - c) + (c - a)) := by decide +kernel
theorem ap_8 : ∀ w, w < 100 → ∀ d, d < 13 → 3 * d < w → nI w - nI (3 * d) = nI (w - 3 * d) := by decide +kernel
theorem ap_9 : ∀ w, w < 100 → nI w / 2 = nI (w / 2) := by decide +kernel

theorem c_X6_apart (l : Launch) (D : va_G) (cA : Nat → ClassId) (b : Nat) (M : Nat → Nat → Int32) (L : Nat → Nat → Int64) (a : Nat) (c : Nat) (ha : a < 24) (hc2 : c < 24) : fm_Met l D cA b yX6_apart cX6_apart 3 (some .int) 1 21 0 0 [.int (nI a), .int (nI c)] LAY M L LAY (fm_pi (nI (apN a c)) M L) := by
  refine fm_start RX6 rfl (by decide) (Nat.le_of_ble_eq_true rfl) ?_
  intro pq eq sq mq aq bq tq cq hC hin
  refine g_iload_n hC dX6_apart_0 rfl 0 rfl ?_
  refine g_iload_n hC dX6_apart_1 rfl 1 rfl ?_
  refine g_isub hC dX6_apart_2 ?_
  refine g_abs hC fw_258 fw_259 fw_10 fw_260 (Nat.le_of_ble_eq_true rfl) (Nat.le_of_ble_eq_true rfl) (Nat.zero_le _) (Nat.zero_le _) dX6_apart_3 ?_
  refine g_top (y := nI ((a - c) + (c - a))) (ap_1 a ha c hc2) ?_
  refine g_istore_n hC [(2, .int (nI ((a - c) + (c - a)))), (0, .int (nI a)), (1, .int (nI c))] dX6_apart_6 rfl (by decide) rfl ?_
  refine g_iload_n hC dX6_apart_7 rfl 0 rfl ?_
  refine g_bipush (v := 24) hC dX6_apart_8 rfl ?_
  refine g_iload_n hC dX6_apart_10 rfl 0 rfl ?_
  refine g_isub hC dX6_apart_11 ?_
  refine g_min hC fw_261 fw_262 fw_10 fw_263 (Nat.le_of_ble_eq_true rfl) (Nat.le_of_ble_eq_true rfl) (Nat.zero_le _) (Nat.zero_le _) dX6_apart_12 ?_
  refine g_top (y := nI (apN a c)) (ap_2 _ (by omega)) ?_
  refine g_zret (ty := .int) hC rfl rfl dX6_apart_15 ⟨congrArg (fun z => some (Value.int z)) ?_, rfl, rfl⟩
  rfl

theorem c_X7_apart (l : Launch) (D : va_G) (cA : Nat → ClassId) (b : Nat) (M : Nat → Nat → Int32) (L : Nat → Nat → Int64) (a : Nat) (c : Nat) (ha : a < 24) (hc2 : c < 24) : fm_Met l D cA b yX7_apart cX7_apart 3 (some .int) 0 0 0 0 [.int (nI a), .int (nI c)] LAY M L LAY (fm_pi (nI (apN a c)) M L) := by
  refine fm_start RX7 rfl (by decide) (Nat.le_of_ble_eq_true rfl) ?_
  intro pq eq sq mq aq bq tq cq hC hin
  refine g_iload_n hC dX7_apart_0 rfl 0 rfl ?_
  refine g_iload_n hC dX7_apart_1 rfl 1 rfl ?_
  refine g_icmp_le_T (X := ((a : Nat) : Int)) (Y := ((c : Nat) : Int)) hC (nI_toInt (by omega)) (nI_toInt (by omega)) 11 dX7_apart_2 rfl (fun c_1 => ?_) (fun c_1 => ?_)
  · skip
    refine g_iload_n hC dX7_apart_11 rfl 1 rfl ?_
    refine g_iload_n hC dX7_apart_12 rfl 0 rfl ?_
    refine g_isub hC dX7_apart_13 ?_
    refine g_top (y := nI ((a - c) + (c - a))) (ap_7 a ha c hc2 (by omega)) ?_
    refine g_istore_n hC [(2, .int (nI ((a - c) + (c - a)))), (0, .int (nI a)), (1, .int (nI c))] dX7_apart_14 rfl (by decide) rfl ?_
    refine g_iload_n hC dX7_apart_15 rfl 0 rfl ?_
    refine g_bipush (v := 12) hC dX7_apart_16 rfl ?_
    refine g_icmp_le_T (X := (((a - c) + (c - a) : Nat) : Int)) (Y := 12) hC (nI_toInt (by omega)) rfl 28 dX7_apart_18 rfl (fun c_2 => ?_) (fun c_2 => ?_)
    · skip
      refine g_iload_n hC dX7_apart_28 rfl 0 rfl ?_
      refine g_zret (ty := .int) hC rfl rfl dX7_apart_29 ⟨congrArg (fun z => some (Value.int z)) ?_, rfl, rfl⟩
      exact congrArg nI (by unfold apN; split <;> omega)
    · skip
      refine g_bipush (v := 24) hC dX7_apart_21 rfl ?_
      refine g_iload_n hC dX7_apart_23 rfl 0 rfl ?_
      refine g_isub hC dX7_apart_24 ?_
      refine g_goto hC 29 dX7_apart_25 rfl ?_
      refine g_zret (ty := .int) hC rfl rfl dX7_apart_29 ⟨congrArg (fun z => some (Value.int z)) ?_, rfl, rfl⟩
      rw [ap_3 _ (by omega)]
      exact congrArg nI (by unfold apN; split <;> omega)
  · skip
    refine g_iload_n hC dX7_apart_5 rfl 0 rfl ?_
    refine g_iload_n hC dX7_apart_6 rfl 1 rfl ?_
    refine g_isub hC dX7_apart_7 ?_
    refine g_top (y := nI ((a - c) + (c - a))) (ap_6 a ha c hc2 (by omega)) ?_
    refine g_goto hC 14 dX7_apart_8 rfl ?_
    refine g_istore_n hC [(2, .int (nI ((a - c) + (c - a)))), (0, .int (nI a)), (1, .int (nI c))] dX7_apart_14 rfl (by decide) rfl ?_
    refine g_iload_n hC dX7_apart_15 rfl 0 rfl ?_
    refine g_bipush (v := 12) hC dX7_apart_16 rfl ?_
    refine g_icmp_le_T (X := (((a - c) + (c - a) : Nat) : Int)) (Y := 12) hC (nI_toInt (by omega)) rfl 28 dX7_apart_18 rfl (fun c_3 => ?_) (fun c_3 => ?_)
    · skip
      refine g_iload_n hC dX7_apart_28 rfl 0 rfl ?_
      refine g_zret (ty := .int) hC rfl rfl dX7_apart_29 ⟨congrArg (fun z => some (Value.int z)) ?_, rfl, rfl⟩
      exact congrArg nI (by unfold apN; split <;> omega)
    · skip
      refine g_bipush (v := 24) hC dX7_apart_21 rfl ?_
      refine g_iload_n hC dX7_apart_23 rfl 0 rfl ?_
      refine g_isub hC dX7_apart_24 ?_
      refine g_goto hC 29 dX7_apart_25 rfl ?_
      refine g_zret (ty := .int) hC rfl rfl dX7_apart_29 ⟨congrArg (fun z => some (Value.int z)) ?_, rfl, rfl⟩
      rw [ap_3 _ (by omega)]
      exact congrArg nI (by unfold apN; split <;> omega)

theorem c_X1_become (l : Launch) (D : va_G) (cA : Nat → ClassId) (b : Nat) (M : Nat → Nat → Int32) (L : Nat → Nat → Int64) (c : Nat) (k : Int32) (h : Int32) (w : Int32) (m : Int32) (hc : LAY[c]? = some (0, 1, [0, 0, 0, 0])) : fm_Met l D cA b yX1_become cX1_become 5 none 0 0 0 0 [.ref (b + c), .int k, .int h, .int w, .int m] LAY M L LAY (fm_pvx (be M c k h w m) L) := by
  refine fm_start RX1 rfl (by decide) (Nat.le_of_ble_eq_true rfl) ?_
  intro pq eq sq mq aq bq tq cq hC hin
  refine g_aload_n hC dX1_become_0 rfl 0 rfl ?_
  refine g_iload_n hC dX1_become_1 rfl 1 rfl ?_
  refine g_putI (ci := 1) (i := 0) (k := c) hC fm_in1 tyX1 tyX1_ok nmX1 rfl hc rfl (by decide) fw_33 rfl rfl rfl dX1_become_2 ?_
  refine g_aload_n hC dX1_become_5 rfl 0 rfl ?_
  refine g_iload_n hC dX1_become_6 rfl 2 rfl ?_
  refine g_putI (ci := 1) (i := 1) (k := c) hC fm_in1 tyX1 tyX1_ok nmX1 rfl hc rfl (by decide) fw_35 rfl rfl rfl dX1_become_7 ?_
  refine g_aload_n hC dX1_become_10 rfl 0 rfl ?_
  refine g_iload_n hC dX1_become_11 rfl 3 rfl ?_
  refine g_putI (ci := 1) (i := 2) (k := c) hC fm_in1 tyX1 tyX1_ok nmX1 rfl hc rfl (by decide) fw_37 rfl rfl rfl dX1_become_12 ?_
  refine g_aload_n hC dX1_become_15 rfl 0 rfl ?_
  refine g_iload hC dX1_become_16 4 rfl ?_
  refine g_putI (ci := 1) (i := 3) (k := c) hC fm_in1 tyX1 tyX1_ok nmX1 rfl hc rfl (by decide) fw_40 rfl rfl rfl dX1_become_18 ?_
  refine g_vret hC rfl dX1_become_21 ?_
  exact ⟨rfl, rfl, rfl⟩

theorem c_X1_becomeLike (l : Launch) (D : va_G) (cA : Nat → ClassId) (b : Nat) (M : Nat → Nat → Int32) (L : Nat → Nat → Int64) (c : Nat) (c2 : Nat) (hc : LAY[c]? = some (0, 1, [0, 0, 0, 0])) (hc2 : LAY[c2]? = some (0, 1, [0, 0, 0, 0])) : fm_Met l D cA b yX1_becomeLike cX1_becomeLike 2 none 1 24 0 0 [.ref (b + c), .ref (b + c2)] LAY M L LAY (fm_pvx (be M c (M c2 0) (M c2 1) (M c2 2) (M c2 3)) L) := by
  refine fm_start RX1 rfl (by decide) (Nat.le_of_ble_eq_true rfl) ?_
  intro pq eq sq mq aq bq tq cq hC hin
  refine g_aload_n hC dX1_becomeLike_0 rfl 0 rfl ?_
  refine g_aload_n hC dX1_becomeLike_1 rfl 1 rfl ?_
  refine g_getI (ci := 1) (i := 0) (k := c2) hC fm_in1 rfl hc2 rfl (by decide) fw_33 dX1_becomeLike_2 ?_
  refine g_aload_n hC dX1_becomeLike_5 rfl 1 rfl ?_
  refine g_getI (ci := 1) (i := 1) (k := c2) hC fm_in1 rfl hc2 rfl (by decide) fw_35 dX1_becomeLike_6 ?_
  refine g_aload_n hC dX1_becomeLike_9 rfl 1 rfl ?_
  refine g_getI (ci := 1) (i := 2) (k := c2) hC fm_in1 rfl hc2 rfl (by decide) fw_37 dX1_becomeLike_10 ?_
  refine g_aload_n hC dX1_becomeLike_13 rfl 1 rfl ?_
  refine g_getI (ci := 1) (i := 3) (k := c2) hC fm_in1 rfl hc2 rfl (by decide) fw_40 dX1_becomeLike_14 ?_
  refine g_callV hC (k := c) (ci := 1) (as := [.int (M c2 0), .int (M c2 1), .int (M c2 2), .int (M c2 3)]) (rest := []) (c_X1_become l D cA b M L c (M c2 0) (M c2 1) (M c2 2) (M c2 3) hc) ⟨fw_357, fw_232, fw_233, fw_3, fw_234⟩ ⟨rfl, hd_X1_become⟩ rfl hc ⟨Nat.le_of_ble_eq_true rfl, Nat.le_of_ble_eq_true rfl⟩ ⟨Nat.le_of_ble_eq_true rfl, Nat.le_of_ble_eq_true rfl⟩ rfl rfl (Nat.le_of_ble_eq_true rfl) dX1_becomeLike_17 (g_rvx ?_)
  refine g_vret hC rfl dX1_becomeLike_20 ?_
  exact ⟨rfl, rfl, rfl⟩

theorem c_X1_cookWorth (l : Launch) (D : va_G) (cA : Nat → ClassId) (b : Nat) (M : Nat → Nat → Int32) (L : Nat → Nat → Int64) (c : Nat) (kd : Nat) (h : Nat) (w : Nat) (m : Nat) (d : Nat) (hc : LAY[c]? = some (0, 1, [0, 0, 0, 0])) (hp : perC M c kd h w m) (hd : d < 13) : fm_Met l D cA b yX1_cookWorth cX1_cookWorth 2 (some .int) 1 21 0 0 [.ref (b + c), .int (nI d)] LAY M L LAY (fm_pi (nI (w - 3 * d)) M L) := by
  refine fm_start RX1 rfl (by decide) (Nat.le_of_ble_eq_true rfl) ?_
  intro pq eq sq mq aq bq tq cq hC hin
  obtain ⟨q0, q1, q2, q3, b0, b1, b2, b3⟩ := id hp
  refine g_aload_n hC dX1_cookWorth_0 rfl 0 rfl ?_
  refine g_getI (ci := 1) (i := 2) (k := c) hC fm_in1 rfl hc rfl (by decide) fw_37 dX1_cookWorth_1 ?_
  refine g_top (y := nI w) q2 ?_
  refine g_iconst (v := 3) hC dX1_cookWorth_4 rfl ?_
  refine g_iload_n hC dX1_cookWorth_5 rfl 1 rfl ?_
  refine g_imul hC dX1_cookWorth_6 ?_
  refine g_top (y := nI (3 * d)) (pk_mul _ _) ?_
  refine g_isub hC dX1_cookWorth_7 ?_
  refine g_iconst (v := 0) hC dX1_cookWorth_8 rfl ?_
  refine g_max hC fw_268 fw_269 fw_10 fw_270 (Nat.le_of_ble_eq_true rfl) (Nat.le_of_ble_eq_true rfl) (Nat.zero_le _) (Nat.zero_le _) dX1_cookWorth_9 ?_
  refine g_top (y := nI (w - 3 * d)) (ap_4 w b2 d hd) ?_
  refine g_zret (ty := .int) hC rfl rfl dX1_cookWorth_12 ⟨congrArg (fun z => some (Value.int z)) ?_, rfl, rfl⟩
  rfl

theorem c_X1_worthOf (l : Launch) (D : va_G) (cA : Nat → ClassId) (b : Nat) (M : Nat → Nat → Int32) (L : Nat → Nat → Int64) (c : Nat) (kd : Nat) (h : Nat) (w : Nat) (m : Nat) (hour : Nat) (kk : Nat) (hc : LAY[c]? = some (0, 1, [0, 0, 0, 0])) (hp : perC M c kd h w m) (hh : hour < 24) (hk : kk < 5) : fm_Met l D cA b yX1_worthOf cX1_worthOf 4 (some .int) 2 43 0 0 [.ref (b + c), .int (nI hour), .int (nI kk)] LAY M L LAY (fm_pi (nI (wN kd h w hour kk)) M L) := by
  refine fm_start RX1 rfl (by decide) (Nat.le_of_ble_eq_true rfl) ?_
  intro pq eq sq mq aq bq tq cq hC hin
  obtain ⟨q0, q1, q2, q3, b0, b1, b2, b3⟩ := id hp
  refine g_aload_n hC dX1_worthOf_0 rfl 0 rfl ?_
  refine g_getI (ci := 1) (i := 1) (k := c) hC fm_in1 rfl hc rfl (by decide) fw_35 dX1_worthOf_1 ?_
  refine g_top (y := nI h) q1 ?_
  refine g_iload_n hC dX1_worthOf_4 rfl 1 rfl ?_
  refine g_callSN hC (as := [.int (nI h), .int (nI hour)]) (rest := []) (host := "JarMinutes") (c_X6_apart l D cA b M L h hour b1 hh) ⟨List.mem_of_getElem? (i := 5) rfl, fw_256, fw_1, fw_257⟩ hd_X6_apart ⟨Nat.le_of_ble_eq_true rfl, Nat.le_of_ble_eq_true rfl⟩ ⟨Nat.le_of_ble_eq_true rfl, Nat.le_of_ble_eq_true rfl⟩ rfl rfl (Nat.le_of_ble_eq_true rfl) dX1_worthOf_5 (g_rix ?_)
  have ap_1 := apN_le b1 hh
  refine g_istore_n hC [(3, .int (nI (apN h hour))), (0, .ref (b + c)), (1, .int (nI hour)), (2, .int (nI kk))] dX1_worthOf_8 rfl (by decide) rfl ?_
  refine g_aload_n hC dX1_worthOf_9 rfl 1 rfl ?_
  refine g_getI (ci := 1) (i := 0) (k := c) hC fm_in1 rfl hc rfl (by decide) fw_33 dX1_worthOf_10 ?_
  refine g_top (y := nI kd) q0 ?_
  have t_2 : (nI kd).toInt = ((kd : Nat) : Int) := (nI_toInt (by omega))
  by_cases c_2_0 : ((kd : Nat) : Int) = 0
  · refine g_tabIn hC 40 dX1_worthOf_13 (by rw [t_2]; omega) (by rw [t_2]; omega) (by rw [t_2, c_2_0]; rfl) rfl ?_
    refine g_iload_n hC dX1_worthOf_40 rfl 0 rfl ?_
    refine g_if_ne_T (X := ((apN h hour : Nat) : Int)) hC (nI_toInt (by omega)) 51 dX1_worthOf_41 rfl (fun c_3 => ?_) (fun c_3 => ?_)
    · skip
      refine g_iconst (v := 0) hC dX1_worthOf_51 rfl ?_
      refine g_zret (ty := .int) hC rfl rfl dX1_worthOf_52 ⟨congrArg (fun z => some (Value.int z)) ?_, rfl, rfl⟩
      show nI 0 = _
      exact congrArg nI (by unfold wN; rw [if_pos (show kd = 0 by omega), if_neg (by omega)])
    · skip
      refine g_aload_n hC dX1_worthOf_44 rfl 1 rfl ?_
      refine g_getI (ci := 1) (i := 2) (k := c) hC fm_in1 rfl hc rfl (by decide) fw_37 dX1_worthOf_45 ?_
      refine g_top (y := nI w) q2 ?_
      refine g_goto hC 52 dX1_worthOf_48 rfl ?_
      refine g_zret (ty := .int) hC rfl rfl dX1_worthOf_52 ⟨congrArg (fun z => some (Value.int z)) ?_, rfl, rfl⟩
      exact congrArg nI (by unfold wN; rw [if_pos (show kd = 0 by omega), if_pos (by omega)])
  by_cases c_2_1 : ((kd : Nat) : Int) = 1
  · refine g_tabIn hC 53 dX1_worthOf_13 (by rw [t_2]; omega) (by rw [t_2]; omega) (by rw [t_2, c_2_1]; rfl) rfl ?_
    refine g_iload_n hC dX1_worthOf_53 rfl 0 rfl ?_
    refine g_iconst (v := 1) hC dX1_worthOf_54 rfl ?_
    refine g_icmp_gt_T (X := ((apN h hour : Nat) : Int)) (Y := 1) hC (nI_toInt (by omega)) rfl 65 dX1_worthOf_55 rfl (fun c_4 => ?_) (fun c_4 => ?_)
    · skip
      refine g_iconst (v := 0) hC dX1_worthOf_65 rfl ?_
      refine g_zret (ty := .int) hC rfl rfl dX1_worthOf_66 ⟨congrArg (fun z => some (Value.int z)) ?_, rfl, rfl⟩
      show nI 0 = _
      exact congrArg nI (by unfold wN; rw [if_neg (show ¬ kd = 0 by omega), if_pos (show kd = 1 by omega), if_neg (by omega)])
    · skip
      refine g_aload_n hC dX1_worthOf_58 rfl 1 rfl ?_
      refine g_getI (ci := 1) (i := 2) (k := c) hC fm_in1 rfl hc rfl (by decide) fw_37 dX1_worthOf_59 ?_
      refine g_top (y := nI w) q2 ?_
      refine g_goto hC 66 dX1_worthOf_62 rfl ?_
      refine g_zret (ty := .int) hC rfl rfl dX1_worthOf_66 ⟨congrArg (fun z => some (Value.int z)) ?_, rfl, rfl⟩
      exact congrArg nI (by unfold wN; rw [if_neg (show ¬ kd = 0 by omega), if_pos (show kd = 1 by omega), if_pos (by omega)])
  by_cases c_2_2 : ((kd : Nat) : Int) = 2
  · refine g_tabIn hC 67 dX1_worthOf_13 (by rw [t_2]; omega) (by rw [t_2]; omega) (by rw [t_2, c_2_2]; rfl) rfl ?_
    refine g_aload_n hC dX1_worthOf_67 rfl 1 rfl ?_
    refine g_iload_n hC dX1_worthOf_68 rfl 0 rfl ?_
    refine g_callV hC (k := c) (ci := 1) (as := [.int (nI (apN h hour))]) (rest := []) (c_X1_cookWorth l D cA b M L c kd h w m (apN h hour) hc hp (by omega)) ⟨fw_264, fw_266, fs_0, fw_3, fw_267⟩ ⟨rfl, hd_X1_cookWorth⟩ rfl hc ⟨Nat.le_of_ble_eq_true rfl, Nat.le_of_ble_eq_true rfl⟩ ⟨Nat.le_of_ble_eq_true rfl, Nat.le_of_ble_eq_true rfl⟩ rfl rfl (Nat.le_of_ble_eq_true rfl) dX1_worthOf_69 (g_rix ?_)
    refine g_zret (ty := .int) hC rfl rfl dX1_worthOf_72 ⟨congrArg (fun z => some (Value.int z)) ?_, rfl, rfl⟩
    exact congrArg nI (by unfold wN; rw [if_neg (by omega), if_neg (by omega), if_pos (by omega)])
  refine g_tabOut hC 73 dX1_worthOf_13 (by rw [t_2]; omega) rfl ?_
  refine g_aload_n hC dX1_worthOf_73 rfl 1 rfl ?_
  refine g_iload_n hC dX1_worthOf_74 rfl 0 rfl ?_
  refine g_callV hC (k := c) (ci := 1) (as := [.int (nI (apN h hour))]) (rest := []) (c_X1_cookWorth l D cA b M L c kd h w m (apN h hour) hc hp (by omega)) ⟨fw_264, fw_266, fs_0, fw_3, fw_267⟩ ⟨rfl, hd_X1_cookWorth⟩ rfl hc ⟨Nat.le_of_ble_eq_true rfl, Nat.le_of_ble_eq_true rfl⟩ ⟨Nat.le_of_ble_eq_true rfl, Nat.le_of_ble_eq_true rfl⟩ rfl rfl (Nat.le_of_ble_eq_true rfl) dX1_worthOf_75 (g_rix ?_)
  refine g_iload_n hC dX1_worthOf_78 rfl 3 rfl ?_
  refine g_ishr hC dX1_worthOf_79 ?_
  refine g_zret (ty := .int) hC rfl rfl dX1_worthOf_80 ⟨congrArg (fun z => some (Value.int z)) ?_, rfl, rfl⟩
  rw [ap_5 _ (by omega) kk hk]
  exact congrArg nI (by unfold wN; rw [if_neg (by omega), if_neg (by omega), if_neg (by omega)])

theorem c_X1_favouriteHour (l : Launch) (D : va_G) (cA : Nat → ClassId) (b : Nat) (M : Nat → Nat → Int32) (L : Nat → Nat → Int64) (c : Nat) (kd : Nat) (h : Nat) (w : Nat) (m : Nat) (hc : LAY[c]? = some (0, 1, [0, 0, 0, 0])) (hp : perC M c kd h w m) : fm_Met l D cA b yX1_favouriteHour cX1_favouriteHour 5 (some .int) 3 66 0 0 [.ref (b + c)] LAY M L LAY (fm_pi (favN kd h w m) M L) := by
  refine fm_start RX1 rfl (by decide) (Nat.le_of_ble_eq_true rfl) ?_
  intro pq eq sq mq aq bq tq cq hC hin
  obtain ⟨q0, q1, q2, q3, b0, b1, b2, b3⟩ := id hp
  refine g_bipush (v := (-4)) hC dX1_favouriteHour_0 rfl ?_
  refine g_istore_n hC [(1, .int (-4)), (0, .ref (b + c))] dX1_favouriteHour_2 rfl (by decide) rfl ?_
  refine g_iconst (v := 0) hC dX1_favouriteHour_3 rfl ?_
  refine g_istore_n hC [(2, .int 0), (1, .int (-4)), (0, .ref (b + c))] dX1_favouriteHour_4 rfl (by decide) rfl ?_
  refine g_iconst (v := 0) hC dX1_favouriteHour_5 rfl ?_
  refine g_istore_n hC [(3, .int 0), (2, .int 0), (1, .int (-4)), (0, .ref (b + c))] dX1_favouriteHour_6 rfl (by decide) rfl ?_
  have lp_7_1 : ∀ (n : Nat) (f : Int32) (mo : Nat) (i : Nat), 24 - i < n → (i ≤ 24 ∧ argm (fun hh => wN kd h w hh 0) i = (f, mo) ∧ mo < 100 ∧ (m = 1 ∨ i = 0)) → fm_G pq l eq (fm_rm 3 66 0 0) sq mq aq bq tq cq D cA b 5 (MQ bq (fm_Q D cA b LAY (fm_pi (favN kd h w m) M L)) aq sq 0 0 (fun q => b ≤ q)) LAY M L 0 0 7 [(0, .ref (b + c)), (1, .int f), (2, .int (nI mo)), (3, .int (nI i))] [] := by
    intro n
    induction n with
    | zero => intro f mo i hm; exact absurd hm (Nat.not_lt_zero _)
    | succ n ih =>
      intro f mo i hm hinv
      obtain ⟨i1, i2, i3, i4⟩ := hinv
      refine g_iload_n hC dX1_favouriteHour_7 rfl 3 rfl ?_
      refine g_bipush (v := 24) hC dX1_favouriteHour_8 rfl ?_
      refine g_icmp_ge_T (X := ((i : Nat) : Int)) (Y := 24) hC (nI_toInt (by omega)) rfl 46 dX1_favouriteHour_10 rfl (fun c_2 => ?_) (fun c_2 => ?_)
      · skip
        refine g_iload_n hC dX1_favouriteHour_46 rfl 1 rfl ?_
        refine g_zret (ty := .int) hC rfl rfl dX1_favouriteHour_47 ⟨congrArg (fun z => some (Value.int z)) ?_, rfl, rfl⟩
        show f = favN kd h w m
        unfold favN
        have e24 : i = 24 ∨ ¬ m = 1 := by omega
        rcases e24 with q | q
        · have m1 : m = 1 := by omega
          rw [if_pos m1, ← q, i2]
        · have i0 : i = 0 := by omega
          subst i0
          rw [if_neg q]
          exact (congrArg Prod.fst i2).symm
      · skip
        refine g_aload_n hC dX1_favouriteHour_13 rfl 0 rfl ?_
        refine g_getI (ci := 1) (i := 3) (k := c) hC fm_in1 rfl hc rfl (by decide) fw_40 dX1_favouriteHour_14 ?_
        refine g_top (y := nI m) q3 ?_
        refine g_iconst (v := 1) hC dX1_favouriteHour_17 rfl ?_
        refine g_icmp_ne_T (X := ((m : Nat) : Int)) (Y := 1) hC (nI_toInt (by omega)) rfl 46 dX1_favouriteHour_18 rfl (fun c_3 => ?_) (fun c_3 => ?_)
        · skip
          refine g_iload_n hC dX1_favouriteHour_46 rfl 1 rfl ?_
          refine g_zret (ty := .int) hC rfl rfl dX1_favouriteHour_47 ⟨congrArg (fun z => some (Value.int z)) ?_, rfl, rfl⟩
          show f = favN kd h w m
          unfold favN
          have e24 : i = 24 ∨ ¬ m = 1 := by omega
          rcases e24 with q | q
          · have m1 : m = 1 := by omega
            rw [if_pos m1, ← q, i2]
          · have i0 : i = 0 := by omega
            subst i0
            rw [if_neg q]
            exact (congrArg Prod.fst i2).symm
        · skip
          refine g_aload_n hC dX1_favouriteHour_21 rfl 0 rfl ?_
          refine g_iload_n hC dX1_favouriteHour_22 rfl 3 rfl ?_
          refine g_iconst (v := 0) hC dX1_favouriteHour_23 rfl ?_
          refine g_callV hC (k := c) (ci := 1) (as := [.int (nI i), .int 0]) (rest := []) (c_X1_worthOf l D cA b M L c kd h w m i 0 hc hp (by omega) (by omega)) ⟨fw_487, fw_252, fw_253, fw_3, fw_254⟩ ⟨rfl, hd_X1_worthOf⟩ rfl hc ⟨Nat.le_of_ble_eq_true rfl, Nat.le_of_ble_eq_true rfl⟩ ⟨Nat.le_of_ble_eq_true rfl, Nat.le_of_ble_eq_true rfl⟩ rfl rfl (Nat.le_of_ble_eq_true rfl) dX1_favouriteHour_24 (g_rix ?_)
          have wb_4 := wN_le kd h w i 0
          refine g_istore hC [(4, .int (nI (wN kd h w i 0))), (0, .ref (b + c)), (1, .int f), (2, .int (nI mo)), (3, .int (nI i))] dX1_favouriteHour_27 (by decide) rfl ?_
          refine g_iload hC dX1_favouriteHour_29 0 rfl ?_
          refine g_iload_n hC dX1_favouriteHour_31 rfl 3 rfl ?_
          refine g_icmp_le_T (X := ((wN kd h w i 0 : Nat) : Int)) (Y := ((mo : Nat) : Int)) hC (nI_toInt (by omega)) (nI_toInt (by omega)) 40 dX1_favouriteHour_32 rfl (fun c_5 => ?_) (fun c_5 => ?_)
          · skip
            refine g_iinc hC [(3, .int (nI (i + 1))), (4, .int (nI (wN kd h w i 0))), (0, .ref (b + c)), (1, .int f), (2, .int (nI mo))] dX1_favouriteHour_40 4 rfl (by rw [show Int32.ofInt 1 = nI 1 from rfl, nI_add]) (by decide) rfl ?_
            refine g_goto hC 7 dX1_favouriteHour_43 rfl ?_
            exact g_sub [2, 3, 4, 0] rfl (ih f mo (i + 1) (by omega) (⟨by omega, argm_f i2 (by omega), by omega, by omega⟩))
          · skip
            refine g_iload hC dX1_favouriteHour_35 0 rfl ?_
            refine g_istore_n hC [(2, .int (nI (wN kd h w i 0))), (4, .int (nI (wN kd h w i 0))), (0, .ref (b + c)), (1, .int f), (3, .int (nI i))] dX1_favouriteHour_37 rfl (by decide) rfl ?_
            refine g_iload_n hC dX1_favouriteHour_38 rfl 4 rfl ?_
            refine g_istore_n hC [(1, .int (nI i)), (2, .int (nI (wN kd h w i 0))), (4, .int (nI (wN kd h w i 0))), (0, .ref (b + c)), (3, .int (nI i))] dX1_favouriteHour_39 rfl (by decide) rfl ?_
            refine g_iinc hC [(3, .int (nI (i + 1))), (1, .int (nI i)), (2, .int (nI (wN kd h w i 0))), (4, .int (nI (wN kd h w i 0))), (0, .ref (b + c))] dX1_favouriteHour_40 4 rfl (by rw [show Int32.ofInt 1 = nI 1 from rfl, nI_add]) (by decide) rfl ?_
            refine g_goto hC 7 dX1_favouriteHour_43 rfl ?_
            exact g_sub [4, 1, 2, 0] rfl (ih (nI i) (wN kd h w i 0) (i + 1) (by omega) (⟨by omega, argm_t i2 (by omega), by omega, by omega⟩))
  exact g_sub [3, 2, 1, 0] rfl (lp_7_1 (24 - 0 + 1) (-4) 0 0 (Nat.lt_succ_self _) (⟨by omega, rfl, by omega, Or.inr rfl⟩))
