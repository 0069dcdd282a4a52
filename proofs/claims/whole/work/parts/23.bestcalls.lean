/-! ===== best, share, spend: the class's calls ===== -/
def op_best (g : Sg) (e i : Int32) : Int32 := if (0 ≤ e.toInt ∧ e.toInt ≤ 1) ∧ (-1 ≤ i.toInt ∧ i.toInt < 24) then (if i.toInt < 0 then Int32.ofInt (bVal g.1 (decide (e.toInt = 1))) else Int32.ofInt (bRow g.1 (decide (e.toInt = 1)) i.toInt.toNat)) else -100000001
def op_share (g : Sg) (x : Int32) : Int32 := if 0 ≤ x.toInt ∧ x.toInt < g.1.1 7 0 then Int32.ofInt (bVal g.1 false) - Int32.ofInt (bVal (tw g.1 x.toInt) false) else -1
def spT (t : Tn) : Nat → Tn
  | 0 => t
  | n + 1 => dayT (spT t n) (bRow (spT t n) false)
def spS (t : Tn) : Nat → Int32
  | 0 => 0
  | n + 1 => spS t n + Int32.ofInt (gainS (spT t n) (bRow (spT t n) false))
def op_spend (g : Sg) (x : Int32) : Int32 × Sg := if 1 ≤ x.toInt ∧ x.toInt ≤ 30 then (if (g.1.1 7 6 : Int) + x.toInt ≤ 9999 then (spS g.1 x.toInt.toNat, (spT g.1 x.toInt.toNat, g.2)) else (-100000003, g)) else (-100000001, g)
theorem fb_sub9 {x : Int32} (h1 : -30 ≤ x.toInt) (h2 : x.toInt ≤ 30) : (9999 - x).toInt = 9999 - x.toInt := by
  rw [← oI_of x, show (9999 : Int32) = Int32.ofInt 9999 from rfl, oI_sub, oI_t (by omega) (by omega), oI_t (by omega) (by omega)]
theorem dayJ_le {t : Tn} (ht : tOK t) (l : Nat) : dayJ t l ≤ 99 := by
  have h1 : t.1 7 2 ≤ 99 := ht.2.2.2.2.2.1
  simp only [dayJ]
  (repeat' split) <;> omega
theorem tOK_day {t : Tn} (ht : tOK t) (hd : t.1 7 6 < 9999) (row : Nat → Int) : tOK (dayT t row) := by
  have hj := dayJ_le ht (lateS row 24).toNat
  obtain ⟨o1, o2, o3, o4, o5, o6, o7, o8, o9, o10, o11⟩ := ht
  refine ⟨fun j hj => ?_, fun j hj => ?_, fun q hq => ?_, ?_, ?_, ?_, ?_, ?_, ?_, ?_, ?_⟩
  · simpa [dayT, uN2] using o1 j (by simpa [dayT, uN2] using hj)
  · simpa [dayT, uN2] using o2 j (by simpa [dayT, uN2] using hj)
  · simpa [dayT, uN2] using o3 q hq
  · simpa [dayT, uN2] using o4
  · simpa [dayT, uN2] using o5
  · simpa [dayT, uN2] using hj
  · simpa [dayT, uN2] using o7
  · simpa [dayT, uN2] using o8
  · simpa [dayT, uN2] using o9
  · have e : (dayT t row).1 7 6 = t.1 7 6 + 1 := by simp [dayT, uN2]
    rw [e]; omega
  · simpa [dayT, uN2] using o11
theorem day_6 (t : Tn) (row : Nat → Int) : (dayT t row).1 7 6 = t.1 7 6 + 1 := by simp [dayT, uN2]
theorem sp_6 (t : Tn) : ∀ n, (spT t n).1 7 6 = t.1 7 6 + n
  | 0 => rfl
  | n + 1 => by
    have := sp_6 t n
    simp only [spT, day_6, this]; omega
theorem sp_ok {t : Tn} (ht : tOK t) : ∀ {n : Nat}, t.1 7 6 + n ≤ 9999 → tOK (spT t n)
  | 0, _ => ht
  | n + 1, h => tOK_day (sp_ok ht (by omega)) (by rw [sp_6]; omega) _
theorem CS_scr {M M' : Nat → Nat → Int32} {L L' : Nat → Nat → Int64} {g : Sg} (h : CS M L g) (hok : OK g) (e : ∀ k, k < 31 → M' k = M k) (e2 : ∀ k, 50 ≤ k → k < 58 → M' k = M k ∧ L' k = L k) : CS M' L' g :=
  CS_now h hok (t := g.1) (tC_cong h.1 (hok.1.2.2.2.1) (fun k _ h2 => e k (by omega))) (fun k _ h2 => e k h2) e2

theorem c_X6_best (l : Launch) (D : va_G) (cA : Nat → ClassId) (b : Nat) (M : Nat → Nat → Int32) (L : Nat → Nat → Int64) (g : Sg) (e : Int32) (i : Int32) (hS : CS M L g) (hok : OK g) : fm_Met l D cA b yX6_best cX6_best 4 (some .int) 5 119 0 0 [.ref (b + 0), .int e, .int i] LAY M L LAY (fm_pm (fun r M' L' => r = op_best g e i ∧ CS M' L' g ∧ fC M M' L L')) := by
  refine fm_start RX6 rfl (by decide) (Nat.le_of_ble_eq_true rfl) ?_
  intro pq eq sq mq aq bq tq cq hC hin
  obtain ⟨⟨n1, n2, n3, v0, v1, v2, v3, v4, v5, v6, v7, v8⟩, hS2⟩ := id hS
  obtain ⟨⟨o1, o2, o3, o4, o5, o6, o7, o8, o9, o10, o11⟩, hok2⟩ := id hok
  refine g_iload_n hC dX6_best_0 rfl 1 rfl ?_
  refine g_iconst (v := 1) hC dX6_best_1 rfl ?_
  refine g_callS hC (as := [.int e, .int 1]) (rest := []) (c_X6_isWithin l D cA b LAY M L e 1 e.toInt 1 rfl rfl) ⟨fw_228, fw_229, fw_1, fw_230⟩ hd_X6_isWithin ⟨Nat.le_of_ble_eq_true rfl, Nat.le_of_ble_eq_true rfl⟩ ⟨Nat.le_of_ble_eq_true rfl, Nat.le_of_ble_eq_true rfl⟩ rfl rfl (Nat.le_of_ble_eq_true rfl) dX6_best_2 (g_rix ?_)
  refine g_ifb_eq hC 19 dX6_best_5 rfl (fun c_2 => ?_) (fun c_2 => ?_)
  · skip
    refine g_ldc (v := (-100000001)) hC fw_290 dX6_best_19 ?_
    refine g_zret (ty := .int) hC rfl rfl dX6_best_21 ?_
    exact ⟨_, rfl, by unfold op_best; rw [if_neg (by omega)], hS, fC_rf⟩
  · skip
    refine g_iload_n hC dX6_best_8 rfl 2 rfl ?_
    refine g_iconst (v := (-1)) hC dX6_best_9 rfl ?_
    refine g_icmp_lt_T (X := i.toInt) (Y := (-1)) hC rfl rfl 19 dX6_best_10 rfl (fun c_3 => ?_) (fun c_3 => ?_)
    · skip
      refine g_ldc (v := (-100000001)) hC fw_290 dX6_best_19 ?_
      refine g_zret (ty := .int) hC rfl rfl dX6_best_21 ?_
      exact ⟨_, rfl, by unfold op_best; rw [if_neg (by omega)], hS, fC_rf⟩
    · skip
      refine g_iload_n hC dX6_best_13 rfl 2 rfl ?_
      refine g_bipush (v := 24) hC dX6_best_14 rfl ?_
      refine g_icmp_lt_T (X := i.toInt) (Y := 24) hC rfl rfl 22 dX6_best_16 rfl (fun c_4 => ?_) (fun c_4 => ?_)
      · skip
        refine g_aload_n hC dX6_best_22 rfl 0 rfl ?_
        refine g_getR (ci := 6) (i := 4) (k := 0) (t := 41) hC fm_in6 rfl ly_0 rfl (by decide) fw_200 dX6_best_23 ?_
        refine g_aload_n hC dX6_best_26 rfl 0 rfl ?_
        refine g_getR (ci := 6) (i := 0) (k := 0) (t := 1) hC fm_in6 rfl ly_0 rfl (by decide) fw_196 dX6_best_27 ?_
        refine g_iconst (v := (-1)) hC dX6_best_30 rfl ?_
        refine g_iload_n hC dX6_best_31 rfl 1 rfl ?_
        refine g_iconst (v := 1) hC dX6_best_32 rfl ?_
        refine g_icmp_ne_T (X := e.toInt) (Y := 1) hC rfl rfl 40 dX6_best_33 rfl (fun c_5 => ?_) (fun c_5 => ?_)
        · skip
          refine g_iconst (v := 0) hC dX6_best_40 rfl ?_
          refine g_callV hC (k := 41) (ci := 2) (as := [.ref (b + 1), .int (-1), .int 0]) (rest := []) (c_X2_mostGain l D cA b M L g.1 (-1) false hS.1 hok.1) ⟨fw_442, fw_443, fw_444, fw_6, fw_445⟩ ⟨rfl, hd_X2_mostGain⟩ rfl ly_41 ⟨Nat.le_of_ble_eq_true rfl, Nat.le_of_ble_eq_true rfl⟩ ⟨Nat.le_of_ble_eq_true rfl, Nat.le_of_ble_eq_true rfl⟩ rfl rfl (Nat.le_of_ble_eq_true rfl) dX6_best_41 (g_rm (fun r_6 M_6 L_6 h_6 => ?_))
          rw [tw_none g.1 (show (-1 : Int32).toInt < 0 by decide)] at h_6
          obtain ⟨q1_6, q2_6, q3_6, q4_6, q5_6⟩ := h_6
          rw [q1_6, q3_6]
          refine g_istore_n hC [(3, .int (Int32.ofInt (bVal g.1 false))), (0, .ref (b + 0)), (1, .int e), (2, .int i)] dX6_best_44 rfl (by decide) rfl ?_
          refine g_iload_n hC dX6_best_45 rfl 3 rfl ?_
          refine g_if_ge_T (X := i.toInt) hC rfl 51 dX6_best_46 rfl (fun c_7 => ?_) (fun c_7 => ?_)
          · skip
            refine g_aload_n hC dX6_best_51 rfl 1 rfl ?_
            refine g_getR (ci := 6) (i := 4) (k := 0) (t := 41) hC fm_in6 rfl ly_0 rfl (by decide) fw_200 dX6_best_52 ?_
            refine g_callV hC (k := 41) (ci := 2) (as := []) (rest := []) (c_X2_findRow l D cA b M_6 L g.1 false hok.1 q4_6 q5_6) ⟨fw_459, fw_460, fw_461, fw_6, fw_462⟩ ⟨rfl, hd_X2_findRow⟩ rfl ly_41 ⟨Nat.le_of_ble_eq_true rfl, Nat.le_of_ble_eq_true rfl⟩ ⟨Nat.le_of_ble_eq_true rfl, Nat.le_of_ble_eq_true rfl⟩ rfl rfl (Nat.le_of_ble_eq_true rfl) dX6_best_55 (g_rv (fun M_8 L_8 h_8 => ?_))
            obtain ⟨p1_8, p2_8, p3_8⟩ := h_8
            rw [p3_8]
            refine g_aload_n hC dX6_best_58 rfl 1 rfl ?_
            refine g_getR (ci := 6) (i := 4) (k := 0) (t := 41) hC fm_in6 rfl ly_0 rfl (by decide) fw_200 dX6_best_59 ?_
            refine g_getR (ci := 2) (i := 2) (k := 41) (t := 44) hC fm_in2 rfl ly_41 rfl (by decide) fw_153 dX6_best_62 ?_
            refine g_iload_n hC dX6_best_65 rfl 3 rfl ?_
            refine g_ialdN (j := i.toInt.toNat) (k := 44) hC ly_44 (ic_nI (by omega)) (by omega) (by decide) dX6_best_66 ?_
            refine g_top (y := Int32.ofInt (bRow g.1 false i.toInt.toNat)) (p1_8 _ (by omega)).1 ?_
            refine g_zret (ty := .int) hC rfl rfl dX6_best_67 ?_
            exact ⟨_, rfl, by unfold op_best; rw [if_pos (by omega), if_neg (by omega), show decide (e.toInt = 1) = false by simp [c_5]], CS_scr hS hok (fun q h1 => (p2_8 q (by omega)).trans (q2_6 q (by omega) (by omega))) (fun q h1 h2 => ⟨(p2_8 q (by omega)).trans (q2_6 q (by omega) (by omega)), rfl⟩), fun q hq => ⟨(p2_8 q (by omega)).trans (q2_6 q (by omega) (by omega)), rfl⟩⟩
          · skip
            refine g_iload_n hC dX6_best_49 rfl 0 rfl ?_
            refine g_zret (ty := .int) hC rfl rfl dX6_best_50 ?_
            exact ⟨_, rfl, by unfold op_best; rw [if_pos (by omega), if_pos (by omega), show decide (e.toInt = 1) = false by simp [c_5]], CS_scr hS hok (fun q h1 => q2_6 q (by omega) (by omega)) (fun q h1 h2 => ⟨q2_6 q (by omega) (by omega), rfl⟩), fun q hq => ⟨q2_6 q (by omega) (by omega), rfl⟩⟩
        · skip
          refine g_iconst (v := 1) hC dX6_best_36 rfl ?_
          refine g_goto hC 41 dX6_best_37 rfl ?_
          refine g_callV hC (k := 41) (ci := 2) (as := [.ref (b + 1), .int (-1), .int 1]) (rest := []) (c_X2_mostGain l D cA b M L g.1 (-1) true hS.1 hok.1) ⟨fw_442, fw_443, fw_444, fw_6, fw_445⟩ ⟨rfl, hd_X2_mostGain⟩ rfl ly_41 ⟨Nat.le_of_ble_eq_true rfl, Nat.le_of_ble_eq_true rfl⟩ ⟨Nat.le_of_ble_eq_true rfl, Nat.le_of_ble_eq_true rfl⟩ rfl rfl (Nat.le_of_ble_eq_true rfl) dX6_best_41 (g_rm (fun r_9 M_9 L_9 h_9 => ?_))
          rw [tw_none g.1 (show (-1 : Int32).toInt < 0 by decide)] at h_9
          obtain ⟨q1_9, q2_9, q3_9, q4_9, q5_9⟩ := h_9
          rw [q1_9, q3_9]
          refine g_istore_n hC [(3, .int (Int32.ofInt (bVal g.1 true))), (0, .ref (b + 0)), (1, .int e), (2, .int i)] dX6_best_44 rfl (by decide) rfl ?_
          refine g_iload_n hC dX6_best_45 rfl 3 rfl ?_
          refine g_if_ge_T (X := i.toInt) hC rfl 51 dX6_best_46 rfl (fun c_10 => ?_) (fun c_10 => ?_)
          · skip
            refine g_aload_n hC dX6_best_51 rfl 1 rfl ?_
            refine g_getR (ci := 6) (i := 4) (k := 0) (t := 41) hC fm_in6 rfl ly_0 rfl (by decide) fw_200 dX6_best_52 ?_
            refine g_callV hC (k := 41) (ci := 2) (as := []) (rest := []) (c_X2_findRow l D cA b M_9 L g.1 true hok.1 q4_9 q5_9) ⟨fw_459, fw_460, fw_461, fw_6, fw_462⟩ ⟨rfl, hd_X2_findRow⟩ rfl ly_41 ⟨Nat.le_of_ble_eq_true rfl, Nat.le_of_ble_eq_true rfl⟩ ⟨Nat.le_of_ble_eq_true rfl, Nat.le_of_ble_eq_true rfl⟩ rfl rfl (Nat.le_of_ble_eq_true rfl) dX6_best_55 (g_rv (fun M_11 L_11 h_11 => ?_))
            obtain ⟨p1_11, p2_11, p3_11⟩ := h_11
            rw [p3_11]
            refine g_aload_n hC dX6_best_58 rfl 1 rfl ?_
            refine g_getR (ci := 6) (i := 4) (k := 0) (t := 41) hC fm_in6 rfl ly_0 rfl (by decide) fw_200 dX6_best_59 ?_
            refine g_getR (ci := 2) (i := 2) (k := 41) (t := 44) hC fm_in2 rfl ly_41 rfl (by decide) fw_153 dX6_best_62 ?_
            refine g_iload_n hC dX6_best_65 rfl 3 rfl ?_
            refine g_ialdN (j := i.toInt.toNat) (k := 44) hC ly_44 (ic_nI (by omega)) (by omega) (by decide) dX6_best_66 ?_
            refine g_top (y := Int32.ofInt (bRow g.1 true i.toInt.toNat)) (p1_11 _ (by omega)).1 ?_
            refine g_zret (ty := .int) hC rfl rfl dX6_best_67 ?_
            exact ⟨_, rfl, by unfold op_best; rw [if_pos (by omega), if_neg (by omega), show decide (e.toInt = 1) = true by simp [c_5]], CS_scr hS hok (fun q h1 => (p2_11 q (by omega)).trans (q2_9 q (by omega) (by omega))) (fun q h1 h2 => ⟨(p2_11 q (by omega)).trans (q2_9 q (by omega) (by omega)), rfl⟩), fun q hq => ⟨(p2_11 q (by omega)).trans (q2_9 q (by omega) (by omega)), rfl⟩⟩
          · skip
            refine g_iload_n hC dX6_best_49 rfl 0 rfl ?_
            refine g_zret (ty := .int) hC rfl rfl dX6_best_50 ?_
            exact ⟨_, rfl, by unfold op_best; rw [if_pos (by omega), if_pos (by omega), show decide (e.toInt = 1) = true by simp [c_5]], CS_scr hS hok (fun q h1 => q2_9 q (by omega) (by omega)) (fun q h1 h2 => ⟨q2_9 q (by omega) (by omega), rfl⟩), fun q hq => ⟨q2_9 q (by omega) (by omega), rfl⟩⟩
      · skip
        refine g_ldc (v := (-100000001)) hC fw_290 dX6_best_19 ?_
        refine g_zret (ty := .int) hC rfl rfl dX6_best_21 ?_
        exact ⟨_, rfl, by unfold op_best; rw [if_neg (by omega)], hS, fC_rf⟩

theorem c_X6_share (l : Launch) (D : va_G) (cA : Nat → ClassId) (b : Nat) (M : Nat → Nat → Int32) (L : Nat → Nat → Int64) (g : Sg) (x : Int32) (hS : CS M L g) (hok : OK g) : fm_Met l D cA b yX6_share cX6_share 4 (some .int) 5 119 0 0 [.ref (b + 0), .int x] LAY M L LAY (fm_pm (fun r M' L' => r = op_share g x ∧ CS M' L' g ∧ fC M M' L L')) := by
  refine fm_start RX6 rfl (by decide) (Nat.le_of_ble_eq_true rfl) ?_
  intro pq eq sq mq aq bq tq cq hC hin
  obtain ⟨⟨n1, n2, n3, v0, v1, v2, v3, v4, v5, v6, v7, v8⟩, hS2⟩ := id hS
  obtain ⟨⟨o1, o2, o3, o4, o5, o6, o7, o8, o9, o10, o11⟩, hok2⟩ := id hok
  refine g_aload_n hC dX6_share_0 rfl 0 rfl ?_
  refine g_getR (ci := 6) (i := 0) (k := 0) (t := 1) hC fm_in6 rfl ly_0 rfl (by decide) fw_196 dX6_share_1 ?_
  refine g_iload_n hC dX6_share_4 rfl 1 rfl ?_
  refine g_callV hC (k := 1) (ci := 5) (as := [.int x]) (rest := []) (c_X5_hasPerson l D cA b M L g x hS hok) ⟨fw_239, fw_240, fw_241, fw_2, fw_242⟩ ⟨rfl, hd_X5_hasPerson⟩ rfl ly_1 ⟨Nat.le_of_ble_eq_true rfl, Nat.le_of_ble_eq_true rfl⟩ ⟨Nat.le_of_ble_eq_true rfl, Nat.le_of_ble_eq_true rfl⟩ rfl rfl (Nat.le_of_ble_eq_true rfl) dX6_share_5 (g_rix ?_)
  refine g_ifb_ne hC 13 dX6_share_8 rfl (fun c_2 => ?_) (fun c_2 => ?_)
  · skip
    refine g_aload_n hC dX6_share_13 rfl 0 rfl ?_
    refine g_getR (ci := 6) (i := 4) (k := 0) (t := 41) hC fm_in6 rfl ly_0 rfl (by decide) fw_200 dX6_share_14 ?_
    refine g_aload_n hC dX6_share_17 rfl 0 rfl ?_
    refine g_getR (ci := 6) (i := 0) (k := 0) (t := 1) hC fm_in6 rfl ly_0 rfl (by decide) fw_196 dX6_share_18 ?_
    refine g_iconst (v := (-1)) hC dX6_share_21 rfl ?_
    refine g_iconst (v := 0) hC dX6_share_22 rfl ?_
    refine g_callV hC (k := 41) (ci := 2) (as := [.ref (b + 1), .int (-1), .int 0]) (rest := []) (c_X2_mostGain l D cA b M L g.1 (-1) false hS.1 hok.1) ⟨fw_442, fw_443, fw_444, fw_6, fw_445⟩ ⟨rfl, hd_X2_mostGain⟩ rfl ly_41 ⟨Nat.le_of_ble_eq_true rfl, Nat.le_of_ble_eq_true rfl⟩ ⟨Nat.le_of_ble_eq_true rfl, Nat.le_of_ble_eq_true rfl⟩ rfl rfl (Nat.le_of_ble_eq_true rfl) dX6_share_23 (g_rm (fun r_3 M_3 L_3 h_3 => ?_))
    rw [tw_none g.1 (show (-1 : Int32).toInt < 0 by decide)] at h_3
    obtain ⟨q1_3, q2_3, q3_3, q4_3, q5_3⟩ := h_3
    rw [q1_3, q3_3]
    have hT_3 : tC M_3 1 g.1 := tC_cong hS.1 o4 (fun q q1 q2 => q2_3 q (by omega) (by omega))
    refine g_istore_n hC [(2, .int (Int32.ofInt (bVal g.1 false))), (0, .ref (b + 0)), (1, .int x)] dX6_share_26 rfl (by decide) rfl ?_
    refine g_aload_n hC dX6_share_27 rfl 1 rfl ?_
    refine g_getR (ci := 6) (i := 4) (k := 0) (t := 41) hC fm_in6 rfl ly_0 rfl (by decide) fw_200 dX6_share_28 ?_
    refine g_aload_n hC dX6_share_31 rfl 1 rfl ?_
    refine g_getR (ci := 6) (i := 0) (k := 0) (t := 1) hC fm_in6 rfl ly_0 rfl (by decide) fw_196 dX6_share_32 ?_
    refine g_iload_n hC dX6_share_35 rfl 2 rfl ?_
    refine g_iconst (v := 0) hC dX6_share_36 rfl ?_
    refine g_callV hC (k := 41) (ci := 2) (as := [.ref (b + 1), .int x, .int 0]) (rest := []) (c_X2_mostGain l D cA b M_3 L g.1 x false hT_3 hok.1) ⟨fw_442, fw_443, fw_444, fw_6, fw_445⟩ ⟨rfl, hd_X2_mostGain⟩ rfl ly_41 ⟨Nat.le_of_ble_eq_true rfl, Nat.le_of_ble_eq_true rfl⟩ ⟨Nat.le_of_ble_eq_true rfl, Nat.le_of_ble_eq_true rfl⟩ rfl rfl (Nat.le_of_ble_eq_true rfl) dX6_share_37 (g_rm (fun r_4 M_4 L_4 h_4 => ?_))
    obtain ⟨q1_4, q2_4, q3_4, q4_4, q5_4⟩ := h_4
    rw [q1_4, q3_4]
    refine g_istore_n hC [(3, .int (Int32.ofInt (bVal (tw g.1 x.toInt) false))), (2, .int (Int32.ofInt (bVal g.1 false))), (0, .ref (b + 0)), (1, .int x)] dX6_share_40 rfl (by decide) rfl ?_
    refine g_iload_n hC dX6_share_41 rfl 1 rfl ?_
    refine g_iload_n hC dX6_share_42 rfl 0 rfl ?_
    refine g_isub hC dX6_share_43 ?_
    refine g_zret (ty := .int) hC rfl rfl dX6_share_44 ?_
    exact ⟨_, rfl, by unfold op_share; rw [if_pos (by omega)], CS_scr hS hok (fun q h1 => (q2_4 q (by omega) (by omega)).trans (q2_3 q (by omega) (by omega))) (fun q h1 h2 => ⟨(q2_4 q (by omega) (by omega)).trans (q2_3 q (by omega) (by omega)), rfl⟩), fun q hq => ⟨(q2_4 q (by omega) (by omega)).trans (q2_3 q (by omega) (by omega)), rfl⟩⟩
  · skip
    refine g_iconst (v := (-1)) hC dX6_share_11 rfl ?_
    refine g_zret (ty := .int) hC rfl rfl dX6_share_12 ?_
    exact ⟨_, rfl, by unfold op_share; rw [if_neg (by omega)], hS, fC_rf⟩

theorem c_X6_spend (l : Launch) (D : va_G) (cA : Nat → ClassId) (b : Nat) (M : Nat → Nat → Int32) (L : Nat → Nat → Int64) (g : Sg) (x : Int32) (hS : CS M L g) (hok : OK g) : fm_Met l D cA b yX6_spend cX6_spend 4 (some .int) 6 137 0 0 [.ref (b + 0), .int x] LAY M L LAY (fm_pm (fun r M' L' => r = (op_spend g x).1 ∧ CS M' L' (op_spend g x).2 ∧ fC M M' L L')) := by
  refine fm_start RX6 rfl (by decide) (Nat.le_of_ble_eq_true rfl) ?_
  intro pq eq sq mq aq bq tq cq hC hin
  obtain ⟨⟨n1, n2, n3, v0, v1, v2, v3, v4, v5, v6, v7, v8⟩, hS2⟩ := id hS
  obtain ⟨⟨o1, o2, o3, o4, o5, o6, o7, o8, o9, o10, o11⟩, hok2⟩ := id hok
  refine g_iload_n hC dX6_spend_0 rfl 1 rfl ?_
  refine g_iconst (v := 1) hC dX6_spend_1 rfl ?_
  refine g_icmp_lt_T (X := x.toInt) (Y := 1) hC rfl rfl 11 dX6_spend_2 rfl (fun c_1 => ?_) (fun c_1 => ?_)
  · skip
    refine g_ldc (v := (-100000001)) hC fw_290 dX6_spend_11 ?_
    refine g_zret (ty := .int) hC rfl rfl dX6_spend_13 ?_
    have e0 : op_spend g x = (-100000001, g) := by unfold op_spend; rw [if_neg (by omega)]
    exact ⟨_, rfl, by rw [e0], by rw [e0]; exact hS, fC_rf⟩
  · skip
    refine g_iload_n hC dX6_spend_5 rfl 1 rfl ?_
    refine g_bipush (v := 30) hC dX6_spend_6 rfl ?_
    refine g_icmp_le_T (X := x.toInt) (Y := 30) hC rfl rfl 14 dX6_spend_8 rfl (fun c_2 => ?_) (fun c_2 => ?_)
    · skip
      refine g_aload_n hC dX6_spend_14 rfl 0 rfl ?_
      refine g_getR (ci := 6) (i := 0) (k := 0) (t := 1) hC fm_in6 rfl ly_0 rfl (by decide) fw_196 dX6_spend_15 ?_
      refine g_getI (ci := 5) (i := 11) (k := 1) hC fm_in5 rfl ly_1 rfl (by decide) fw_79 dX6_spend_18 ?_
      refine g_top (y := nI (g.1.1 7 6)) v6 ?_
      refine g_sipush (v := 9999) hC dX6_spend_21 rfl ?_
      refine g_iload_n hC dX6_spend_24 rfl 1 rfl ?_
      refine g_isub hC dX6_spend_25 ?_
      refine g_top (y := 9999 - x) rfl ?_
      refine g_icmp_le_T (X := ((g.1.1 7 6 : Nat) : Int)) (Y := 9999 - x.toInt) hC (nI_toInt (by omega)) (by have := ic_rng x; rw [fb_sub9 (by omega) (by omega)]) 32 dX6_spend_26 rfl (fun c_3 => ?_) (fun c_3 => ?_)
      · skip
        refine g_iconst (v := 0) hC dX6_spend_32 rfl ?_
        refine g_istore_n hC [(2, .int 0), (0, .ref (b + 0)), (1, .int x)] dX6_spend_33 rfl (by decide) rfl ?_
        refine g_iconst (v := 0) hC dX6_spend_34 rfl ?_
        refine g_istore_n hC [(3, .int 0), (2, .int 0), (0, .ref (b + 0)), (1, .int x)] dX6_spend_35 rfl (by decide) rfl ?_
        have lp_36_4 : ∀ (n_4 : Nat) (M1 : Nat → Nat → Int32) (i : Nat), x.toInt.toNat - i < n_4 → (i ≤ x.toInt.toNat ∧ CS M1 L (spT g.1 i, g.2) ∧ fC M M1 L L) → fm_G pq l eq (fm_rm 6 137 0 0) sq mq aq bq tq cq D cA b 4 (MQ bq (fm_Q D cA b LAY (fm_pm (fun r M' L' => r = (op_spend g x).1 ∧ CS M' L' (op_spend g x).2 ∧ fC M M' L L'))) aq sq 0 0 (fun q => b ≤ q)) LAY M1 L 0 0 36 [(0, .ref (b + 0)), (1, .int x), (2, .int (spS g.1 i)), (3, .int (nI i))] [] := by
          intro n_4
          induction n_4 with
          | zero => intro M1 i hm_4; exact absurd hm_4 (Nat.not_lt_zero _)
          | succ n_4 ih_4 =>
            intro M1 i hm_4 hinv_4
            obtain ⟨s1, s2, s3⟩ := hinv_4
            have s6 := sp_6 g.1 i
            have hti : tOK (spT g.1 i) := sp_ok hok.1 (by omega)
            have hoki : OK (spT g.1 i, g.2) := ⟨hti, hok.2⟩
            refine g_iload_n hC dX6_spend_36 rfl 3 rfl ?_
            refine g_iload_n hC dX6_spend_37 rfl 1 rfl ?_
            refine g_icmp_ge_T (X := ((i : Nat) : Int)) (Y := x.toInt) hC (nI_toInt (by omega)) rfl 85 dX6_spend_38 rfl (fun c_5 => ?_) (fun c_5 => ?_)
            · skip
              refine g_iload_n hC dX6_spend_85 rfl 2 rfl ?_
              refine g_zret (ty := .int) hC rfl rfl dX6_spend_86 ?_
              have ei : x.toInt.toNat = i := by omega
              have e0 : op_spend g x = (spS g.1 i, (spT g.1 i, g.2)) := by unfold op_spend; rw [if_pos (by omega), if_pos (by omega), ei]
              exact ⟨_, rfl, by rw [e0], by rw [e0]; exact s2, s3⟩
            · skip
              refine g_aload_n hC dX6_spend_41 rfl 0 rfl ?_
              refine g_getR (ci := 6) (i := 4) (k := 0) (t := 41) hC fm_in6 rfl ly_0 rfl (by decide) fw_200 dX6_spend_42 ?_
              refine g_aload_n hC dX6_spend_45 rfl 0 rfl ?_
              refine g_getR (ci := 6) (i := 0) (k := 0) (t := 1) hC fm_in6 rfl ly_0 rfl (by decide) fw_196 dX6_spend_46 ?_
              refine g_iconst (v := (-1)) hC dX6_spend_49 rfl ?_
              refine g_iconst (v := 0) hC dX6_spend_50 rfl ?_
              refine g_callV hC (k := 41) (ci := 2) (as := [.ref (b + 1), .int (-1), .int 0]) (rest := []) (c_X2_mostGain l D cA b M1 L (spT g.1 i) (-1) false s2.1 hti) ⟨fw_442, fw_443, fw_444, fw_6, fw_445⟩ ⟨rfl, hd_X2_mostGain⟩ rfl ly_41 ⟨Nat.le_of_ble_eq_true rfl, Nat.le_of_ble_eq_true rfl⟩ ⟨Nat.le_of_ble_eq_true rfl, Nat.le_of_ble_eq_true rfl⟩ rfl rfl (Nat.le_of_ble_eq_true rfl) dX6_spend_51 (g_rm (fun r_6 M_6 L_6 h_6 => ?_))
              rw [tw_none (spT g.1 i) (show (-1 : Int32).toInt < 0 by decide)] at h_6
              obtain ⟨q1_6, q2_6, q3_6, q4_6, q5_6⟩ := h_6
              rw [q1_6, q3_6]
              refine g_pop hC dX6_spend_54 rfl ?_
              refine g_aload_n hC dX6_spend_55 rfl 0 rfl ?_
              refine g_getR (ci := 6) (i := 4) (k := 0) (t := 41) hC fm_in6 rfl ly_0 rfl (by decide) fw_200 dX6_spend_56 ?_
              refine g_callV hC (k := 41) (ci := 2) (as := []) (rest := []) (c_X2_findRow l D cA b M_6 L (spT g.1 i) false hti q4_6 q5_6) ⟨fw_459, fw_460, fw_461, fw_6, fw_462⟩ ⟨rfl, hd_X2_findRow⟩ rfl ly_41 ⟨Nat.le_of_ble_eq_true rfl, Nat.le_of_ble_eq_true rfl⟩ ⟨Nat.le_of_ble_eq_true rfl, Nat.le_of_ble_eq_true rfl⟩ rfl rfl (Nat.le_of_ble_eq_true rfl) dX6_spend_59 (g_rv (fun M_7 L_7 h_7 => ?_))
              obtain ⟨p1_7, p2_7, p3_7⟩ := h_7
              rw [p3_7]
              refine g_iload_n hC dX6_spend_62 rfl 2 rfl ?_
              refine g_aload_n hC dX6_spend_63 rfl 0 rfl ?_
              refine g_getR (ci := 6) (i := 0) (k := 0) (t := 1) hC fm_in6 rfl ly_0 rfl (by decide) fw_196 dX6_spend_64 ?_
              refine g_aload_n hC dX6_spend_67 rfl 0 rfl ?_
              refine g_getR (ci := 6) (i := 4) (k := 0) (t := 41) hC fm_in6 rfl ly_0 rfl (by decide) fw_200 dX6_spend_68 ?_
              refine g_getR (ci := 2) (i := 2) (k := 41) (t := 44) hC fm_in2 rfl ly_41 rfl (by decide) fw_153 dX6_spend_71 ?_
              refine g_callV hC (k := 1) (ci := 5) (as := [.ref (b + 44)]) (rest := [.int (spS g.1 i)]) (c_X5_liveDay l D cA b M_7 L (spT g.1 i) 44 (bRow (spT g.1 i) false) (tC_cong s2.1 hti.2.2.2.1 (fun q z1 z2 => (p2_7 q (by omega)).trans (q2_6 q (by omega) (by omega)))) hti ly_44 p1_7 (bRow_end _ _) (by omega) (by decide)) ⟨fw_432, fw_433, fw_434, fw_2, fw_435⟩ ⟨rfl, hd_X5_liveDay⟩ rfl ly_1 ⟨Nat.le_of_ble_eq_true rfl, Nat.le_of_ble_eq_true rfl⟩ ⟨Nat.le_of_ble_eq_true rfl, Nat.le_of_ble_eq_true rfl⟩ rfl rfl (Nat.le_of_ble_eq_true rfl) dX6_spend_74 (g_rm (fun r_8 M_8 L_8 h_8 => ?_))
              obtain ⟨d1_8, d2_8, d3_8, d4_8⟩ := h_8
              rw [d1_8, d4_8]
              refine g_iadd hC dX6_spend_77 ?_
              refine g_top (y := spS g.1 (i + 1)) rfl ?_
              refine g_istore_n hC [(2, .int (spS g.1 (i + 1))), (0, .ref (b + 0)), (1, .int x), (3, .int (nI i))] dX6_spend_78 rfl (by decide) rfl ?_
              refine g_iinc hC [(3, .int (nI (i + 1))), (2, .int (spS g.1 (i + 1))), (0, .ref (b + 0)), (1, .int x)] dX6_spend_79 3 rfl (by rw [show Int32.ofInt 1 = nI 1 from rfl, nI_add]) (by decide) rfl ?_
              refine g_goto hC 36 dX6_spend_82 rfl ?_
              exact g_sub [2, 3, 1, 0] rfl (ih_4 M_8 (i + 1) (by omega) (⟨by omega, CS_now s2 hoki (t := dayT (spT g.1 i) (bRow (spT g.1 i) false)) d2_8 (fun q h1 h2 => (d3_8 q (by omega)).trans ((p2_7 q (by omega)).trans (q2_6 q (by omega) (by omega)))) (fun q h1 h2 => ⟨(d3_8 q (by omega)).trans ((p2_7 q (by omega)).trans (q2_6 q (by omega) (by omega))), rfl⟩), fun q hq => ⟨((d3_8 q (by omega)).trans ((p2_7 q (by omega)).trans (q2_6 q (by omega) (by omega)))).trans (s3 q hq).1, rfl⟩⟩))
        exact g_sub [2, 3, 1, 0] rfl (lp_36_4 (x.toInt.toNat - 0 + 1) M 0 (Nat.lt_succ_self _) (⟨by omega, hS, fC_rf⟩))
      · skip
        refine g_ldc (v := (-100000003)) hC fw_431 dX6_spend_29 ?_
        refine g_zret (ty := .int) hC rfl rfl dX6_spend_31 ?_
        have e0 : op_spend g x = (-100000003, g) := by unfold op_spend; rw [if_pos (by omega), if_neg (by omega)]
        exact ⟨_, rfl, by rw [e0], by rw [e0]; exact hS, fC_rf⟩
    · skip
      refine g_ldc (v := (-100000001)) hC fw_290 dX6_spend_11 ?_
      refine g_zret (ty := .int) hC rfl rfl dX6_spend_13 ?_
      have e0 : op_spend g x = (-100000001, g) := by unfold op_spend; rw [if_neg (by omega)]
      exact ⟨_, rfl, by rw [e0], by rw [e0]; exact hS, fC_rf⟩
