/-! ===== the planner's table ===== -/
theorem mE_le {t : Tn} (ht : tOK t) (e : Bool) : mE t e ≤ 99 := by
  have : t.1 7 2 ≤ 99 := ht.2.2.2.2.2.1
  unfold mE; split <;> omega
theorem encC_0 {t : Tn} {e : Bool} {q : Nat} : encC (bV t e 0 q) = if q ≤ mE t e then 0 else -100000000 := by
  rw [bV_e]
  show encC (if q ≤ mE t e then some 0 else none) = _
  split <;> rfl
theorem mE_tw (t : Tn) (e : Bool) (u : Int) : mE (tw t u) e = mE t e := by
  unfold mE; rw [tw_n t u (by omega)]
theorem mt_24 {t : Tn} {e : Bool} {M : Nat → Nat → Int32} (h : ∀ q, q < 100 → M 43 (2400 + q) = if q ≤ mE t e then 0 else -100000000) : mtC t e M 24 := fun q hq => by
  rw [show 24 - 24 = 0 from rfl, encC_0]; exact h q hq
theorem mt_row {t : Tn} {e : Bool} {M : Nat → Nat → Int32} {h late : Nat} (hh : h < 24) (hl : late = mlS t h + 1) (q : ∀ q, q < 100 → M 43 (h * 100 + q) = if q < late then encC (bestO (cand t (bV t e (23 - h)) h q) 8) else -100000000) : mtC t e M h := fun j hj => by
  rw [q j hj, bV_s hh]
  by_cases c : j < late
  · rw [if_pos c, if_pos (by omega)]
  · rw [if_neg c, if_neg (by omega)]; rfl
theorem mt_keep {t : Tn} {e : Bool} {M : Nat → Nat → Int32} {h i : Nat} {v : Int32} (q : mtC t e M h) (hi : i < h * 100) : mtC t e (fm_up M 43 i v) h := fun j hj => by
  rw [fm_upv, if_neg (by omega)]; exact q j hj

theorem c_X2_mostGain (l : Launch) (D : va_G) (cA : Nat → ClassId) (b : Nat) (M : Nat → Nat → Int32) (L : Nat → Nat → Int64) (t : Tn) (u : Int32) (e : Bool) (hT : tC M 1 t) (hto : tOK t) : fm_Met l D cA b yX2_mostGain cX2_mostGain 8 (some .int) 4 92 0 0 [.ref (b + 41), .ref (b + 1), .int u, .int (bi (e = true))] LAY M L LAY (fm_pm (fun r M' L' => r = Int32.ofInt (bVal (tw t u.toInt) e) ∧ (∀ q, q ≠ 42 → q ≠ 43 → M' q = M q) ∧ L' = L ∧ (∀ h, h < 24 → gaC (tw t u.toInt) M' h 8) ∧ (∀ h, h ≤ 24 → mtC (tw t u.toInt) e M' h))) := by
  refine fm_start RX2 rfl (by decide) (Nat.le_of_ble_eq_true rfl) ?_
  intro pq eq sq mq aq bq tq cq hC hin
  obtain ⟨n1, n2, n3, v0, v1, v2, v3, v4, v5, v6, v7, v8⟩ := id hT
  obtain ⟨o1, o2, o3, o4, o5, o6, o7, o8, o9, o10, o11⟩ := id hto
  have hto2 := tw_ok hto u.toInt
  refine g_iconst (v := 0) hC dX2_mostGain_0 rfl ?_
  refine g_istore hC [(4, .int 0), (0, .ref (b + 41)), (1, .ref (b + 1)), (2, .int u), (3, .int (bi (e = true)))] dX2_mostGain_1 (by decide) rfl ?_
  have lp_3_1 : ∀ (n_1 : Nat) (M1 : Nat → Nat → Int32) (h : Nat), 24 - h < n_1 → (h ≤ 24 ∧ (∀ q, q ≠ 42 → M1 q = M q) ∧ (∀ q, q < h → gaC (tw t u.toInt) M1 q 8)) → fm_G pq l eq (fm_rm 4 92 0 0) sq mq aq bq tq cq D cA b 8 (MQ bq (fm_Q D cA b LAY (fm_pm (fun r M' L' => r = Int32.ofInt (bVal (tw t u.toInt) e) ∧ (∀ q, q ≠ 42 → q ≠ 43 → M' q = M q) ∧ L' = L ∧ (∀ h, h < 24 → gaC (tw t u.toInt) M' h 8) ∧ (∀ h, h ≤ 24 → mtC (tw t u.toInt) e M' h)))) aq sq 0 0 (fun q => b ≤ q)) LAY M1 L 0 0 3 [(0, .ref (b + 41)), (1, .ref (b + 1)), (2, .int u), (3, .int (bi (e = true))), (4, .int (nI h))] [] := by
    intro n_1
    induction n_1 with
    | zero => intro M1 h hm_1; exact absurd hm_1 (Nat.not_lt_zero _)
    | succ n_1 ih_1 =>
      intro M1 h hm_1 hinv_1
      obtain ⟨a1, a2, a3⟩ := hinv_1
      refine g_iload hC dX2_mostGain_3 4 rfl ?_
      refine g_bipush (v := 24) hC dX2_mostGain_5 rfl ?_
      refine g_icmp_ge_T (X := ((h : Nat) : Int)) (Y := 24) hC (nI_toInt (by omega)) rfl 57 dX2_mostGain_7 rfl (fun c_2 => ?_) (fun c_2 => ?_)
      · skip
        refine g_aload_n hC dX2_mostGain_57 rfl 0 rfl ?_
        refine g_getR (ci := 2) (i := 1) (k := 41) (t := 43) hC fm_in2 rfl ly_41 rfl (by decide) fw_151 dX2_mostGain_58 ?_
        refine g_ldc (v := (-100000000)) hC fw_447 dX2_mostGain_61 ?_
        refine g_callS hC (as := [.ref (b + 43), .int (-100000000)]) (rest := []) (c_J7_fill_53178 l D cA b LAY M1 L 43 2500 (-100000000) ly_43 (by omega)) ⟨fw_448, fw_54, fw_4, fw_55⟩ hd_J7_fill_53178 ⟨Nat.le_of_ble_eq_true rfl, Nat.le_of_ble_eq_true rfl⟩ ⟨Nat.le_of_ble_eq_true rfl, Nat.le_of_ble_eq_true rfl⟩ rfl rfl (Nat.le_of_ble_eq_true rfl) dX2_mostGain_63 (g_rv (fun M_3 L_3 h_3 => ?_))
        obtain ⟨f1, f2, f3⟩ := h_3
        rw [f3]
        refine g_iload_n hC dX2_mostGain_66 rfl 3 rfl ?_
        refine g_ifb_eq hC 74 dX2_mostGain_67 rfl (fun c_4 => ?_) (fun c_4 => ?_)
        · skip
          refine g_aload_n hC dX2_mostGain_74 rfl 1 rfl ?_
          refine g_bipush (v := 24) hC dX2_mostGain_75 rfl ?_
          refine g_callV hC (k := 1) (ci := 5) (as := [.int 24]) (rest := []) (c_X5_mostLateAt l D cA b M_3 L t 24 (tC_cong hT o4 (fun q q1 q2 => by rw [f1 q (by omega)]; exact a2 q (by omega))) hto (by omega)) ⟨fw_449, fw_413, fw_414, fw_2, fw_415⟩ ⟨rfl, hd_X5_mostLateAt⟩ rfl ly_1 ⟨Nat.le_of_ble_eq_true rfl, Nat.le_of_ble_eq_true rfl⟩ ⟨Nat.le_of_ble_eq_true rfl, Nat.le_of_ble_eq_true rfl⟩ rfl rfl (Nat.le_of_ble_eq_true rfl) dX2_mostGain_77 (g_rix ?_)
          have mb_5 := mlS_le t 24
          refine g_top (y := nI (mE t e)) (by unfold mE; rw [if_neg c_4, ml24 hto]) ?_
          have me := mE_le hto e
          refine g_istore hC [(4, .int (nI (mE t e))), (0, .ref (b + 41)), (1, .ref (b + 1)), (2, .int u), (3, .int (bi (e = true)))] dX2_mostGain_80 (by decide) rfl ?_
          refine g_iconst (v := 0) hC dX2_mostGain_82 rfl ?_
          refine g_istore hC [(5, .int 0), (4, .int (nI (mE t e))), (0, .ref (b + 41)), (1, .ref (b + 1)), (2, .int u), (3, .int (bi (e = true)))] dX2_mostGain_83 (by decide) rfl ?_
          have lp_85_6 : ∀ (n_6 : Nat) (M3 : Nat → Nat → Int32) (late : Nat), 101 - late < n_6 → (late ≤ mE t e + 1 ∧ (∀ q, q ≠ 43 → M3 q = M_3 q) ∧ (∀ q, q < 100 → M3 43 (2400 + q) = if q < late then 0 else -100000000) ∧ (∀ q, q < 2400 → M3 43 q = -100000000)) → fm_G pq l eq (fm_rm 4 92 0 0) sq mq aq bq tq cq D cA b 8 (MQ bq (fm_Q D cA b LAY (fm_pm (fun r M' L' => r = Int32.ofInt (bVal (tw t u.toInt) e) ∧ (∀ q, q ≠ 42 → q ≠ 43 → M' q = M q) ∧ L' = L ∧ (∀ h, h < 24 → gaC (tw t u.toInt) M' h 8) ∧ (∀ h, h ≤ 24 → mtC (tw t u.toInt) e M' h)))) aq sq 0 0 (fun q => b ≤ q)) LAY M3 L 0 0 85 [(0, .ref (b + 41)), (1, .ref (b + 1)), (2, .int u), (3, .int (bi (e = true))), (4, .int (nI (mE t e))), (5, .int (nI late))] [] := by
            intro n_6
            induction n_6 with
            | zero => intro M3 late hm_6; exact absurd hm_6 (Nat.not_lt_zero _)
            | succ n_6 ih_6 =>
              intro M3 late hm_6 hinv_6
              obtain ⟨d1, d3, d7, d8⟩ := hinv_6
              have me := mE_le hto e
              refine g_iload hC dX2_mostGain_85 5 rfl ?_
              refine g_iload hC dX2_mostGain_87 4 rfl ?_
              refine g_icmp_gt_T (X := ((late : Nat) : Int)) (Y := ((mE t e : Nat) : Int)) hC (nI_toInt (by omega)) (nI_toInt (by omega)) 117 dX2_mostGain_89 rfl (fun c_7 => ?_) (fun c_7 => ?_)
              · skip
                refine g_bipush (v := 23) hC dX2_mostGain_117 rfl ?_
                refine g_top (y := nI 24 + (-1)) (by decide) ?_
                refine g_istore hC [(5, .int (nI 24 + (-1))), (0, .ref (b + 41)), (1, .ref (b + 1)), (2, .int u), (3, .int (bi (e = true))), (4, .int (nI (mE t e)))] dX2_mostGain_119 (by decide) rfl ?_
                have lp_121_8 : ∀ (n_8 : Nat) (M4 : Nat → Nat → Int32) (n : Nat), n < n_8 → (n ≤ 24 ∧ (∀ q, q ≠ 42 → q ≠ 43 → M4 q = M q) ∧ (∀ q, q < 24 → gaC (tw t u.toInt) M4 q 8) ∧ (∀ h, n ≤ h → h ≤ 24 → mtC (tw t u.toInt) e M4 h) ∧ (∀ h, h < n → ∀ q, q < 100 → M4 43 (h * 100 + q) = -100000000)) → fm_G pq l eq (fm_rm 4 92 0 0) sq mq aq bq tq cq D cA b 8 (MQ bq (fm_Q D cA b LAY (fm_pm (fun r M' L' => r = Int32.ofInt (bVal (tw t u.toInt) e) ∧ (∀ q, q ≠ 42 → q ≠ 43 → M' q = M q) ∧ L' = L ∧ (∀ h, h < 24 → gaC (tw t u.toInt) M' h 8) ∧ (∀ h, h ≤ 24 → mtC (tw t u.toInt) e M' h)))) aq sq 0 0 (fun q => b ≤ q)) LAY M4 L 0 0 121 [(0, .ref (b + 41)), (1, .ref (b + 1)), (2, .int u), (3, .int (bi (e = true))), (5, .int (nI n + (-1)))] [] := by
                  intro n_8
                  induction n_8 with
                  | zero => intro M4 n hm_8; exact absurd hm_8 (Nat.not_lt_zero _)
                  | succ n_8 ih_8 =>
                    intro M4 n hm_8 hinv_8
                    obtain ⟨b1, b2, b3, b4, b5⟩ := hinv_8
                    refine g_iload hC dX2_mostGain_121 4 rfl ?_
                    refine g_if_lt_T (X := ((n : Nat) : Int) - 1) hC (m1_t (by omega)) 184 dX2_mostGain_123 rfl (fun c_9 => ?_) (fun c_9 => ?_)
                    · skip
                      refine g_aload_n hC dX2_mostGain_184 rfl 0 rfl ?_
                      refine g_getR (ci := 2) (i := 1) (k := 41) (t := 43) hC fm_in2 rfl ly_41 rfl (by decide) fw_151 dX2_mostGain_185 ?_
                      refine g_iconst (v := 0) hC dX2_mostGain_188 rfl ?_
                      refine g_ialdN (j := 0) (k := 43) hC ly_43 rfl (by decide) (by decide) dX2_mostGain_189 ?_
                      refine g_zret (ty := .int) hC rfl rfl dX2_mostGain_190 ?_
                      have z : M4 43 0 = encC (bV (tw t u.toInt) e 24 0) := b4 0 (by omega) (by omega) 0 (by omega)
                      exact ⟨_, rfl, by rw [z, bVal_is]; rfl, b2, rfl, b3, fun w hw => b4 w (by omega) hw⟩
                    · skip
                      obtain ⟨h, rfl⟩ : ∃ h, n = h + 1 := ⟨n - 1, by omega⟩
                      rw [pk_m1 h]
                      refine g_aload_n hC dX2_mostGain_126 rfl 1 rfl ?_
                      refine g_iload hC dX2_mostGain_127 4 rfl ?_
                      refine g_callV hC (k := 1) (ci := 5) (as := [.int (nI h)]) (rest := []) (c_X5_mostLateAt l D cA b M4 L t h (tC_cong hT o4 (fun q q1 q2 => b2 q (by omega) (by omega))) hto (by omega)) ⟨fw_449, fw_413, fw_414, fw_2, fw_415⟩ ⟨rfl, hd_X5_mostLateAt⟩ rfl ly_1 ⟨Nat.le_of_ble_eq_true rfl, Nat.le_of_ble_eq_true rfl⟩ ⟨Nat.le_of_ble_eq_true rfl, Nat.le_of_ble_eq_true rfl⟩ rfl rfl (Nat.le_of_ble_eq_true rfl) dX2_mostGain_129 (g_rix ?_)
                      have mb_10 := mlS_le t h
                      refine g_istore hC [(6, .int (nI (mlS t h))), (0, .ref (b + 41)), (1, .ref (b + 1)), (2, .int u), (3, .int (bi (e = true))), (5, .int (nI h))] dX2_mostGain_132 (by decide) rfl ?_
                      refine g_iconst (v := 0) hC dX2_mostGain_134 rfl ?_
                      refine g_istore hC [(7, .int 0), (6, .int (nI (mlS t h))), (0, .ref (b + 41)), (1, .ref (b + 1)), (2, .int u), (3, .int (bi (e = true))), (5, .int (nI h))] dX2_mostGain_135 (by decide) rfl ?_
                      have lp_137_11 : ∀ (n_11 : Nat) (M5 : Nat → Nat → Int32) (late : Nat), 101 - late < n_11 → (late ≤ mlS t h + 1 ∧ (∀ q, q ≠ 42 → q ≠ 43 → M5 q = M q) ∧ (∀ q, q < 24 → gaC (tw t u.toInt) M5 q 8) ∧ (∀ w, h + 1 ≤ w → w ≤ 24 → mtC (tw t u.toInt) e M5 w) ∧ (∀ q, q < 100 → M5 43 (h * 100 + q) = if q < late then encC (bestO (cand (tw t u.toInt) (bV (tw t u.toInt) e (23 - h)) h q) 8) else -100000000) ∧ (∀ w, w < h → ∀ q, q < 100 → M5 43 (w * 100 + q) = -100000000)) → fm_G pq l eq (fm_rm 4 92 0 0) sq mq aq bq tq cq D cA b 8 (MQ bq (fm_Q D cA b LAY (fm_pm (fun r M' L' => r = Int32.ofInt (bVal (tw t u.toInt) e) ∧ (∀ q, q ≠ 42 → q ≠ 43 → M' q = M q) ∧ L' = L ∧ (∀ h, h < 24 → gaC (tw t u.toInt) M' h 8) ∧ (∀ h, h ≤ 24 → mtC (tw t u.toInt) e M' h)))) aq sq 0 0 (fun q => b ≤ q)) LAY M5 L 0 0 137 [(0, .ref (b + 41)), (1, .ref (b + 1)), (2, .int u), (3, .int (bi (e = true))), (5, .int (nI h)), (6, .int (nI (mlS t h))), (7, .int (nI late))] [] := by
                        intro n_11
                        induction n_11 with
                        | zero => intro M5 late hm_11; exact absurd hm_11 (Nat.not_lt_zero _)
                        | succ n_11 ih_11 =>
                          intro M5 late hm_11 hinv_11
                          obtain ⟨y1, y2, y3, y4, y5, y6⟩ := hinv_11
                          have mj := mlS_le t h
                          have mw := mlS_tw t u.toInt h
                          refine g_iload hC dX2_mostGain_137 6 rfl ?_
                          refine g_iload hC dX2_mostGain_139 5 rfl ?_
                          refine g_icmp_gt_T (X := ((late : Nat) : Int)) (Y := ((mlS t h : Nat) : Int)) hC (nI_toInt (by omega)) (nI_toInt (by omega)) 178 dX2_mostGain_141 rfl (fun c_12 => ?_) (fun c_12 => ?_)
                          · skip
                            refine g_iinc hC [(5, .int (nI h + (-1))), (0, .ref (b + 41)), (1, .ref (b + 1)), (2, .int u), (3, .int (bi (e = true))), (6, .int (nI (mlS t h))), (7, .int (nI late))] dX2_mostGain_178 4 rfl (congrArg (fun z => nI h + z) (by decide : Int32.ofInt (-1) = (-1 : Int32))) (by decide) rfl ?_
                            refine g_goto hC 121 dX2_mostGain_181 rfl ?_
                            exact g_sub [1, 2, 3, 4, 0] rfl (ih_8 M5 h (by omega) (⟨by omega, y2, y3, fun w w1 w2 => if ew : w = h then (by rw [ew]; exact mt_row (by omega) (show late = mlS (tw t u.toInt) h + 1 by omega) y5) else y4 w (by omega) w2, fun w w1 q hq => y6 w w1 q hq⟩))
                          · skip
                            refine g_iload hC dX2_mostGain_144 6 rfl ?_
                            refine g_bipush (v := 100) hC dX2_mostGain_146 rfl ?_
                            refine g_icmp_ge_T (X := ((late : Nat) : Int)) (Y := 100) hC (nI_toInt (by omega)) rfl 178 dX2_mostGain_148 rfl (fun c_13 => ?_) (fun c_13 => ?_)
                            · skip
                              refine g_iinc hC [(5, .int (nI h + (-1))), (0, .ref (b + 41)), (1, .ref (b + 1)), (2, .int u), (3, .int (bi (e = true))), (6, .int (nI (mlS t h))), (7, .int (nI late))] dX2_mostGain_178 4 rfl (congrArg (fun z => nI h + z) (by decide : Int32.ofInt (-1) = (-1 : Int32))) (by decide) rfl ?_
                              refine g_goto hC 121 dX2_mostGain_181 rfl ?_
                              exact g_sub [1, 2, 3, 4, 0] rfl (ih_8 M5 h (by omega) (⟨by omega, y2, y3, fun w w1 w2 => if ew : w = h then (by rw [ew]; exact mt_row (by omega) (show late = mlS (tw t u.toInt) h + 1 by omega) y5) else y4 w (by omega) w2, fun w w1 q hq => y6 w w1 q hq⟩))
                            · skip
                              refine g_aload_n hC dX2_mostGain_151 rfl 0 rfl ?_
                              refine g_getR (ci := 2) (i := 1) (k := 41) (t := 43) hC fm_in2 rfl ly_41 rfl (by decide) fw_151 dX2_mostGain_152 ?_
                              refine g_iload hC dX2_mostGain_155 4 rfl ?_
                              refine g_bipush (v := 100) hC dX2_mostGain_157 rfl ?_
                              refine g_imul hC dX2_mostGain_159 ?_
                              refine g_top (y := nI (h * 100)) (pk_mul _ _) ?_
                              refine g_iload hC dX2_mostGain_160 6 rfl ?_
                              refine g_iadd hC dX2_mostGain_162 ?_
                              refine g_top (y := nI ((h * 100) + late)) (nI_add _ _) ?_
                              refine g_aload_n hC dX2_mostGain_163 rfl 0 rfl ?_
                              refine g_iload hC dX2_mostGain_164 4 rfl ?_
                              refine g_iload hC dX2_mostGain_166 6 rfl ?_
                              refine g_callV hC (k := 41) (ci := 2) (as := [.int (nI h), .int (nI late)]) (rest := [.int (nI ((h * 100) + late)), .ref (b + 43)]) (c_X2_mostFrom l D cA b M5 L (tw t u.toInt) e h late hto2 y3 (y4 (h + 1) (by omega) (by omega)) (by omega) (by omega)) ⟨fw_450, fw_452, fs_7, fw_6, fw_453⟩ ⟨rfl, hd_X2_mostFrom⟩ rfl ly_41 ⟨Nat.le_of_ble_eq_true rfl, Nat.le_of_ble_eq_true rfl⟩ ⟨Nat.le_of_ble_eq_true rfl, Nat.le_of_ble_eq_true rfl⟩ rfl rfl (Nat.le_of_ble_eq_true rfl) dX2_mostGain_168 (g_rix ?_)
                              refine g_iastN (j := (h * 100) + late) (k := 43) hC ly_43 rfl (by omega) (by decide) dX2_mostGain_171 ?_
                              refine g_iinc hC [(7, .int (nI (late + 1))), (0, .ref (b + 41)), (1, .ref (b + 1)), (2, .int u), (3, .int (bi (e = true))), (5, .int (nI h)), (6, .int (nI (mlS t h)))] dX2_mostGain_172 6 rfl (by rw [show Int32.ofInt 1 = nI 1 from rfl, nI_add]) (by decide) rfl ?_
                              refine g_goto hC 137 dX2_mostGain_175 rfl ?_
                              exact g_sub [1, 2, 3, 4, 5, 6, 0] rfl (ih_11 (fm_up M5 43 ((h * 100) + late) (encC (bestO (cand (tw t u.toInt) (bV (tw t u.toInt) e (23 - h)) h late) 8))) (late + 1) (by omega) (⟨by omega, fun q q1 q2 => by rw [fm_upn q2]; exact y2 q q1 q2, fun q hq v hv => by rw [fm_upn (by omega)]; exact y3 q hq v hv, fun w w1 w2 => mt_keep (y4 w w1 w2) (by omega), fun q hq => by rw [fm_upv]; by_cases ee : q = late; rw [if_pos (by omega), if_pos (by omega), ee]; rw [if_neg (by omega), y5 q hq]; by_cases e3 : q < late; rw [if_pos e3, if_pos (by omega)]; rw [if_neg e3, if_neg (by omega)], fun w w1 q hq => by rw [fm_upv, if_neg (by omega)]; exact y6 w w1 q hq⟩))
                      exact g_sub [2, 3, 4, 5, 6, 1, 0] rfl (lp_137_11 (101 - 0 + 1) M4 0 (Nat.lt_succ_self _) (⟨by omega, b2, b3, b4, fun q hq => by rw [b5 h (by omega) q hq, if_neg (by omega)], fun w w1 q hq => b5 w (by omega) q hq⟩))
                have eL : late = mE t e + 1 := by omega
                exact g_sub [1, 2, 3, 4, 0] rfl (lp_121_8 (24 + 1) M3 24 (Nat.lt_succ_self _) (⟨by omega, fun q q1 q2 => by rw [d3 q q2, f1 q q2]; exact a2 q q1, fun q hq v hv => by rw [d3 42 (by omega), f1 42 (by omega)]; exact a3 q (by omega) v hv, fun h h1 h2 => by rw [show h = 24 by omega]; exact mt_24 (fun q hq => by rw [mE_tw, d7 q hq, eL]; by_cases c : q ≤ mE t e; rw [if_pos (by omega), if_pos c]; rw [if_neg (by omega), if_neg c]), fun h h1 q hq => d8 _ (by omega)⟩))
              · skip
                refine g_iload hC dX2_mostGain_92 5 rfl ?_
                refine g_bipush (v := 100) hC dX2_mostGain_94 rfl ?_
                refine g_icmp_ge_T (X := ((late : Nat) : Int)) (Y := 100) hC (nI_toInt (by omega)) rfl 117 dX2_mostGain_96 rfl (fun c_15 => ?_) (fun c_15 => ?_)
                · skip
                  refine g_bipush (v := 23) hC dX2_mostGain_117 rfl ?_
                  refine g_top (y := nI 24 + (-1)) (by decide) ?_
                  refine g_istore hC [(5, .int (nI 24 + (-1))), (0, .ref (b + 41)), (1, .ref (b + 1)), (2, .int u), (3, .int (bi (e = true))), (4, .int (nI (mE t e)))] dX2_mostGain_119 (by decide) rfl ?_
                  have lp_121_16 : ∀ (n_16 : Nat) (M4 : Nat → Nat → Int32) (n : Nat), n < n_16 → (n ≤ 24 ∧ (∀ q, q ≠ 42 → q ≠ 43 → M4 q = M q) ∧ (∀ q, q < 24 → gaC (tw t u.toInt) M4 q 8) ∧ (∀ h, n ≤ h → h ≤ 24 → mtC (tw t u.toInt) e M4 h) ∧ (∀ h, h < n → ∀ q, q < 100 → M4 43 (h * 100 + q) = -100000000)) → fm_G pq l eq (fm_rm 4 92 0 0) sq mq aq bq tq cq D cA b 8 (MQ bq (fm_Q D cA b LAY (fm_pm (fun r M' L' => r = Int32.ofInt (bVal (tw t u.toInt) e) ∧ (∀ q, q ≠ 42 → q ≠ 43 → M' q = M q) ∧ L' = L ∧ (∀ h, h < 24 → gaC (tw t u.toInt) M' h 8) ∧ (∀ h, h ≤ 24 → mtC (tw t u.toInt) e M' h)))) aq sq 0 0 (fun q => b ≤ q)) LAY M4 L 0 0 121 [(0, .ref (b + 41)), (1, .ref (b + 1)), (2, .int u), (3, .int (bi (e = true))), (5, .int (nI n + (-1)))] [] := by
                    intro n_16
                    induction n_16 with
                    | zero => intro M4 n hm_16; exact absurd hm_16 (Nat.not_lt_zero _)
                    | succ n_16 ih_16 =>
                      intro M4 n hm_16 hinv_16
                      obtain ⟨b1, b2, b3, b4, b5⟩ := hinv_16
                      refine g_iload hC dX2_mostGain_121 4 rfl ?_
                      refine g_if_lt_T (X := ((n : Nat) : Int) - 1) hC (m1_t (by omega)) 184 dX2_mostGain_123 rfl (fun c_17 => ?_) (fun c_17 => ?_)
                      · skip
                        refine g_aload_n hC dX2_mostGain_184 rfl 0 rfl ?_
                        refine g_getR (ci := 2) (i := 1) (k := 41) (t := 43) hC fm_in2 rfl ly_41 rfl (by decide) fw_151 dX2_mostGain_185 ?_
                        refine g_iconst (v := 0) hC dX2_mostGain_188 rfl ?_
                        refine g_ialdN (j := 0) (k := 43) hC ly_43 rfl (by decide) (by decide) dX2_mostGain_189 ?_
                        refine g_zret (ty := .int) hC rfl rfl dX2_mostGain_190 ?_
                        have z : M4 43 0 = encC (bV (tw t u.toInt) e 24 0) := b4 0 (by omega) (by omega) 0 (by omega)
                        exact ⟨_, rfl, by rw [z, bVal_is]; rfl, b2, rfl, b3, fun w hw => b4 w (by omega) hw⟩
                      · skip
                        obtain ⟨h, rfl⟩ : ∃ h, n = h + 1 := ⟨n - 1, by omega⟩
                        rw [pk_m1 h]
                        refine g_aload_n hC dX2_mostGain_126 rfl 1 rfl ?_
                        refine g_iload hC dX2_mostGain_127 4 rfl ?_
                        refine g_callV hC (k := 1) (ci := 5) (as := [.int (nI h)]) (rest := []) (c_X5_mostLateAt l D cA b M4 L t h (tC_cong hT o4 (fun q q1 q2 => b2 q (by omega) (by omega))) hto (by omega)) ⟨fw_449, fw_413, fw_414, fw_2, fw_415⟩ ⟨rfl, hd_X5_mostLateAt⟩ rfl ly_1 ⟨Nat.le_of_ble_eq_true rfl, Nat.le_of_ble_eq_true rfl⟩ ⟨Nat.le_of_ble_eq_true rfl, Nat.le_of_ble_eq_true rfl⟩ rfl rfl (Nat.le_of_ble_eq_true rfl) dX2_mostGain_129 (g_rix ?_)
                        have mb_18 := mlS_le t h
                        refine g_istore hC [(6, .int (nI (mlS t h))), (0, .ref (b + 41)), (1, .ref (b + 1)), (2, .int u), (3, .int (bi (e = true))), (5, .int (nI h))] dX2_mostGain_132 (by decide) rfl ?_
                        refine g_iconst (v := 0) hC dX2_mostGain_134 rfl ?_
                        refine g_istore hC [(7, .int 0), (6, .int (nI (mlS t h))), (0, .ref (b + 41)), (1, .ref (b + 1)), (2, .int u), (3, .int (bi (e = true))), (5, .int (nI h))] dX2_mostGain_135 (by decide) rfl ?_
                        have lp_137_19 : ∀ (n_19 : Nat) (M5 : Nat → Nat → Int32) (late : Nat), 101 - late < n_19 → (late ≤ mlS t h + 1 ∧ (∀ q, q ≠ 42 → q ≠ 43 → M5 q = M q) ∧ (∀ q, q < 24 → gaC (tw t u.toInt) M5 q 8) ∧ (∀ w, h + 1 ≤ w → w ≤ 24 → mtC (tw t u.toInt) e M5 w) ∧ (∀ q, q < 100 → M5 43 (h * 100 + q) = if q < late then encC (bestO (cand (tw t u.toInt) (bV (tw t u.toInt) e (23 - h)) h q) 8) else -100000000) ∧ (∀ w, w < h → ∀ q, q < 100 → M5 43 (w * 100 + q) = -100000000)) → fm_G pq l eq (fm_rm 4 92 0 0) sq mq aq bq tq cq D cA b 8 (MQ bq (fm_Q D cA b LAY (fm_pm (fun r M' L' => r = Int32.ofInt (bVal (tw t u.toInt) e) ∧ (∀ q, q ≠ 42 → q ≠ 43 → M' q = M q) ∧ L' = L ∧ (∀ h, h < 24 → gaC (tw t u.toInt) M' h 8) ∧ (∀ h, h ≤ 24 → mtC (tw t u.toInt) e M' h)))) aq sq 0 0 (fun q => b ≤ q)) LAY M5 L 0 0 137 [(0, .ref (b + 41)), (1, .ref (b + 1)), (2, .int u), (3, .int (bi (e = true))), (5, .int (nI h)), (6, .int (nI (mlS t h))), (7, .int (nI late))] [] := by
                          intro n_19
                          induction n_19 with
                          | zero => intro M5 late hm_19; exact absurd hm_19 (Nat.not_lt_zero _)
                          | succ n_19 ih_19 =>
                            intro M5 late hm_19 hinv_19
                            obtain ⟨y1, y2, y3, y4, y5, y6⟩ := hinv_19
                            have mj := mlS_le t h
                            have mw := mlS_tw t u.toInt h
                            refine g_iload hC dX2_mostGain_137 6 rfl ?_
                            refine g_iload hC dX2_mostGain_139 5 rfl ?_
                            refine g_icmp_gt_T (X := ((late : Nat) : Int)) (Y := ((mlS t h : Nat) : Int)) hC (nI_toInt (by omega)) (nI_toInt (by omega)) 178 dX2_mostGain_141 rfl (fun c_20 => ?_) (fun c_20 => ?_)
                            · skip
                              refine g_iinc hC [(5, .int (nI h + (-1))), (0, .ref (b + 41)), (1, .ref (b + 1)), (2, .int u), (3, .int (bi (e = true))), (6, .int (nI (mlS t h))), (7, .int (nI late))] dX2_mostGain_178 4 rfl (congrArg (fun z => nI h + z) (by decide : Int32.ofInt (-1) = (-1 : Int32))) (by decide) rfl ?_
                              refine g_goto hC 121 dX2_mostGain_181 rfl ?_
                              exact g_sub [1, 2, 3, 4, 0] rfl (ih_16 M5 h (by omega) (⟨by omega, y2, y3, fun w w1 w2 => if ew : w = h then (by rw [ew]; exact mt_row (by omega) (show late = mlS (tw t u.toInt) h + 1 by omega) y5) else y4 w (by omega) w2, fun w w1 q hq => y6 w w1 q hq⟩))
                            · skip
                              refine g_iload hC dX2_mostGain_144 6 rfl ?_
                              refine g_bipush (v := 100) hC dX2_mostGain_146 rfl ?_
                              refine g_icmp_ge_T (X := ((late : Nat) : Int)) (Y := 100) hC (nI_toInt (by omega)) rfl 178 dX2_mostGain_148 rfl (fun _ => ?_) (fun c_21 => absurd c_21 (by omega))
                              refine g_iinc hC [(5, .int (nI h + (-1))), (0, .ref (b + 41)), (1, .ref (b + 1)), (2, .int u), (3, .int (bi (e = true))), (6, .int (nI (mlS t h))), (7, .int (nI late))] dX2_mostGain_178 4 rfl (congrArg (fun z => nI h + z) (by decide : Int32.ofInt (-1) = (-1 : Int32))) (by decide) rfl ?_
                              refine g_goto hC 121 dX2_mostGain_181 rfl ?_
                              exact g_sub [1, 2, 3, 4, 0] rfl (ih_16 M5 h (by omega) (⟨by omega, y2, y3, fun w w1 w2 => if ew : w = h then (by rw [ew]; exact mt_row (by omega) (show late = mlS (tw t u.toInt) h + 1 by omega) y5) else y4 w (by omega) w2, fun w w1 q hq => y6 w w1 q hq⟩))
                        exact g_sub [2, 3, 4, 5, 6, 1, 0] rfl (lp_137_19 (101 - 0 + 1) M4 0 (Nat.lt_succ_self _) (⟨by omega, b2, b3, b4, fun q hq => by rw [b5 h (by omega) q hq, if_neg (by omega)], fun w w1 q hq => b5 w (by omega) q hq⟩))
                  have eL : late = mE t e + 1 := by omega
                  exact g_sub [1, 2, 3, 4, 0] rfl (lp_121_16 (24 + 1) M3 24 (Nat.lt_succ_self _) (⟨by omega, fun q q1 q2 => by rw [d3 q q2, f1 q q2]; exact a2 q q1, fun q hq v hv => by rw [d3 42 (by omega), f1 42 (by omega)]; exact a3 q (by omega) v hv, fun h h1 h2 => by rw [show h = 24 by omega]; exact mt_24 (fun q hq => by rw [mE_tw, d7 q hq, eL]; by_cases c : q ≤ mE t e; rw [if_pos (by omega), if_pos c]; rw [if_neg (by omega), if_neg c]), fun h h1 q hq => d8 _ (by omega)⟩))
                · skip
                  refine g_aload_n hC dX2_mostGain_99 rfl 0 rfl ?_
                  refine g_getR (ci := 2) (i := 1) (k := 41) (t := 43) hC fm_in2 rfl ly_41 rfl (by decide) fw_151 dX2_mostGain_100 ?_
                  refine g_sipush (v := 2400) hC dX2_mostGain_103 rfl ?_
                  refine g_iload hC dX2_mostGain_106 5 rfl ?_
                  refine g_iadd hC dX2_mostGain_108 ?_
                  refine g_top (y := nI (2400 + late)) (nI_add _ _) ?_
                  refine g_iconst (v := 0) hC dX2_mostGain_109 rfl ?_
                  refine g_iastN (j := 2400 + late) (k := 43) hC ly_43 rfl (by omega) (by decide) dX2_mostGain_110 ?_
                  refine g_iinc hC [(5, .int (nI (late + 1))), (0, .ref (b + 41)), (1, .ref (b + 1)), (2, .int u), (3, .int (bi (e = true))), (4, .int (nI (mE t e)))] dX2_mostGain_111 5 rfl (by rw [show Int32.ofInt 1 = nI 1 from rfl, nI_add]) (by decide) rfl ?_
                  refine g_goto hC 85 dX2_mostGain_114 rfl ?_
                  exact g_sub [1, 2, 3, 4, 5, 0] rfl (ih_6 (fm_up M3 43 (2400 + late) 0) (late + 1) (by omega) (⟨by omega, fun q hq => by rw [fm_upn hq]; exact d3 q hq, fun q hq => by rw [fm_upv]; by_cases ee : q = late; rw [if_pos (by omega), if_pos (by omega)]; rw [if_neg (by omega), d7 q hq]; by_cases e3 : q < late; rw [if_pos e3, if_pos (by omega)]; rw [if_neg e3, if_neg (by omega)], fun q hq => by rw [fm_upv, if_neg (by omega)]; exact d8 q hq⟩))
          exact g_sub [2, 3, 4, 5, 1, 0] rfl (lp_85_6 (101 - 0 + 1) M_3 0 (Nat.lt_succ_self _) (⟨by omega, fun q _ => rfl, fun q hq => by rw [f2 _ (by omega), if_neg (by omega)], fun q hq => f2 q (by omega)⟩))
        · skip
          refine g_iconst (v := 0) hC dX2_mostGain_70 rfl ?_
          refine g_goto hC 80 dX2_mostGain_71 rfl ?_
          refine g_top (y := nI (mE t e)) (by unfold mE; rw [if_pos c_4]; rfl) ?_
          have me := mE_le hto e
          refine g_istore hC [(4, .int (nI (mE t e))), (0, .ref (b + 41)), (1, .ref (b + 1)), (2, .int u), (3, .int (bi (e = true)))] dX2_mostGain_80 (by decide) rfl ?_
          refine g_iconst (v := 0) hC dX2_mostGain_82 rfl ?_
          refine g_istore hC [(5, .int 0), (4, .int (nI (mE t e))), (0, .ref (b + 41)), (1, .ref (b + 1)), (2, .int u), (3, .int (bi (e = true)))] dX2_mostGain_83 (by decide) rfl ?_
          have lp_85_22 : ∀ (n_22 : Nat) (M3 : Nat → Nat → Int32) (late : Nat), 101 - late < n_22 → (late ≤ mE t e + 1 ∧ (∀ q, q ≠ 43 → M3 q = M_3 q) ∧ (∀ q, q < 100 → M3 43 (2400 + q) = if q < late then 0 else -100000000) ∧ (∀ q, q < 2400 → M3 43 q = -100000000)) → fm_G pq l eq (fm_rm 4 92 0 0) sq mq aq bq tq cq D cA b 8 (MQ bq (fm_Q D cA b LAY (fm_pm (fun r M' L' => r = Int32.ofInt (bVal (tw t u.toInt) e) ∧ (∀ q, q ≠ 42 → q ≠ 43 → M' q = M q) ∧ L' = L ∧ (∀ h, h < 24 → gaC (tw t u.toInt) M' h 8) ∧ (∀ h, h ≤ 24 → mtC (tw t u.toInt) e M' h)))) aq sq 0 0 (fun q => b ≤ q)) LAY M3 L 0 0 85 [(0, .ref (b + 41)), (1, .ref (b + 1)), (2, .int u), (3, .int (bi (e = true))), (4, .int (nI (mE t e))), (5, .int (nI late))] [] := by
            intro n_22
            induction n_22 with
            | zero => intro M3 late hm_22; exact absurd hm_22 (Nat.not_lt_zero _)
            | succ n_22 ih_22 =>
              intro M3 late hm_22 hinv_22
              obtain ⟨d1, d3, d7, d8⟩ := hinv_22
              have me := mE_le hto e
              refine g_iload hC dX2_mostGain_85 5 rfl ?_
              refine g_iload hC dX2_mostGain_87 4 rfl ?_
              refine g_icmp_gt_T (X := ((late : Nat) : Int)) (Y := ((mE t e : Nat) : Int)) hC (nI_toInt (by omega)) (nI_toInt (by omega)) 117 dX2_mostGain_89 rfl (fun c_23 => ?_) (fun c_23 => ?_)
              · skip
                refine g_bipush (v := 23) hC dX2_mostGain_117 rfl ?_
                refine g_top (y := nI 24 + (-1)) (by decide) ?_
                refine g_istore hC [(5, .int (nI 24 + (-1))), (0, .ref (b + 41)), (1, .ref (b + 1)), (2, .int u), (3, .int (bi (e = true))), (4, .int (nI (mE t e)))] dX2_mostGain_119 (by decide) rfl ?_
                have lp_121_24 : ∀ (n_24 : Nat) (M4 : Nat → Nat → Int32) (n : Nat), n < n_24 → (n ≤ 24 ∧ (∀ q, q ≠ 42 → q ≠ 43 → M4 q = M q) ∧ (∀ q, q < 24 → gaC (tw t u.toInt) M4 q 8) ∧ (∀ h, n ≤ h → h ≤ 24 → mtC (tw t u.toInt) e M4 h) ∧ (∀ h, h < n → ∀ q, q < 100 → M4 43 (h * 100 + q) = -100000000)) → fm_G pq l eq (fm_rm 4 92 0 0) sq mq aq bq tq cq D cA b 8 (MQ bq (fm_Q D cA b LAY (fm_pm (fun r M' L' => r = Int32.ofInt (bVal (tw t u.toInt) e) ∧ (∀ q, q ≠ 42 → q ≠ 43 → M' q = M q) ∧ L' = L ∧ (∀ h, h < 24 → gaC (tw t u.toInt) M' h 8) ∧ (∀ h, h ≤ 24 → mtC (tw t u.toInt) e M' h)))) aq sq 0 0 (fun q => b ≤ q)) LAY M4 L 0 0 121 [(0, .ref (b + 41)), (1, .ref (b + 1)), (2, .int u), (3, .int (bi (e = true))), (5, .int (nI n + (-1)))] [] := by
                  intro n_24
                  induction n_24 with
                  | zero => intro M4 n hm_24; exact absurd hm_24 (Nat.not_lt_zero _)
                  | succ n_24 ih_24 =>
                    intro M4 n hm_24 hinv_24
                    obtain ⟨b1, b2, b3, b4, b5⟩ := hinv_24
                    refine g_iload hC dX2_mostGain_121 4 rfl ?_
                    refine g_if_lt_T (X := ((n : Nat) : Int) - 1) hC (m1_t (by omega)) 184 dX2_mostGain_123 rfl (fun c_25 => ?_) (fun c_25 => ?_)
                    · skip
                      refine g_aload_n hC dX2_mostGain_184 rfl 0 rfl ?_
                      refine g_getR (ci := 2) (i := 1) (k := 41) (t := 43) hC fm_in2 rfl ly_41 rfl (by decide) fw_151 dX2_mostGain_185 ?_
                      refine g_iconst (v := 0) hC dX2_mostGain_188 rfl ?_
                      refine g_ialdN (j := 0) (k := 43) hC ly_43 rfl (by decide) (by decide) dX2_mostGain_189 ?_
                      refine g_zret (ty := .int) hC rfl rfl dX2_mostGain_190 ?_
                      have z : M4 43 0 = encC (bV (tw t u.toInt) e 24 0) := b4 0 (by omega) (by omega) 0 (by omega)
                      exact ⟨_, rfl, by rw [z, bVal_is]; rfl, b2, rfl, b3, fun w hw => b4 w (by omega) hw⟩
                    · skip
                      obtain ⟨h, rfl⟩ : ∃ h, n = h + 1 := ⟨n - 1, by omega⟩
                      rw [pk_m1 h]
                      refine g_aload_n hC dX2_mostGain_126 rfl 1 rfl ?_
                      refine g_iload hC dX2_mostGain_127 4 rfl ?_
                      refine g_callV hC (k := 1) (ci := 5) (as := [.int (nI h)]) (rest := []) (c_X5_mostLateAt l D cA b M4 L t h (tC_cong hT o4 (fun q q1 q2 => b2 q (by omega) (by omega))) hto (by omega)) ⟨fw_449, fw_413, fw_414, fw_2, fw_415⟩ ⟨rfl, hd_X5_mostLateAt⟩ rfl ly_1 ⟨Nat.le_of_ble_eq_true rfl, Nat.le_of_ble_eq_true rfl⟩ ⟨Nat.le_of_ble_eq_true rfl, Nat.le_of_ble_eq_true rfl⟩ rfl rfl (Nat.le_of_ble_eq_true rfl) dX2_mostGain_129 (g_rix ?_)
                      have mb_26 := mlS_le t h
                      refine g_istore hC [(6, .int (nI (mlS t h))), (0, .ref (b + 41)), (1, .ref (b + 1)), (2, .int u), (3, .int (bi (e = true))), (5, .int (nI h))] dX2_mostGain_132 (by decide) rfl ?_
                      refine g_iconst (v := 0) hC dX2_mostGain_134 rfl ?_
                      refine g_istore hC [(7, .int 0), (6, .int (nI (mlS t h))), (0, .ref (b + 41)), (1, .ref (b + 1)), (2, .int u), (3, .int (bi (e = true))), (5, .int (nI h))] dX2_mostGain_135 (by decide) rfl ?_
                      have lp_137_27 : ∀ (n_27 : Nat) (M5 : Nat → Nat → Int32) (late : Nat), 101 - late < n_27 → (late ≤ mlS t h + 1 ∧ (∀ q, q ≠ 42 → q ≠ 43 → M5 q = M q) ∧ (∀ q, q < 24 → gaC (tw t u.toInt) M5 q 8) ∧ (∀ w, h + 1 ≤ w → w ≤ 24 → mtC (tw t u.toInt) e M5 w) ∧ (∀ q, q < 100 → M5 43 (h * 100 + q) = if q < late then encC (bestO (cand (tw t u.toInt) (bV (tw t u.toInt) e (23 - h)) h q) 8) else -100000000) ∧ (∀ w, w < h → ∀ q, q < 100 → M5 43 (w * 100 + q) = -100000000)) → fm_G pq l eq (fm_rm 4 92 0 0) sq mq aq bq tq cq D cA b 8 (MQ bq (fm_Q D cA b LAY (fm_pm (fun r M' L' => r = Int32.ofInt (bVal (tw t u.toInt) e) ∧ (∀ q, q ≠ 42 → q ≠ 43 → M' q = M q) ∧ L' = L ∧ (∀ h, h < 24 → gaC (tw t u.toInt) M' h 8) ∧ (∀ h, h ≤ 24 → mtC (tw t u.toInt) e M' h)))) aq sq 0 0 (fun q => b ≤ q)) LAY M5 L 0 0 137 [(0, .ref (b + 41)), (1, .ref (b + 1)), (2, .int u), (3, .int (bi (e = true))), (5, .int (nI h)), (6, .int (nI (mlS t h))), (7, .int (nI late))] [] := by
                        intro n_27
                        induction n_27 with
                        | zero => intro M5 late hm_27; exact absurd hm_27 (Nat.not_lt_zero _)
                        | succ n_27 ih_27 =>
                          intro M5 late hm_27 hinv_27
                          obtain ⟨y1, y2, y3, y4, y5, y6⟩ := hinv_27
                          have mj := mlS_le t h
                          have mw := mlS_tw t u.toInt h
                          refine g_iload hC dX2_mostGain_137 6 rfl ?_
                          refine g_iload hC dX2_mostGain_139 5 rfl ?_
                          refine g_icmp_gt_T (X := ((late : Nat) : Int)) (Y := ((mlS t h : Nat) : Int)) hC (nI_toInt (by omega)) (nI_toInt (by omega)) 178 dX2_mostGain_141 rfl (fun c_28 => ?_) (fun c_28 => ?_)
                          · skip
                            refine g_iinc hC [(5, .int (nI h + (-1))), (0, .ref (b + 41)), (1, .ref (b + 1)), (2, .int u), (3, .int (bi (e = true))), (6, .int (nI (mlS t h))), (7, .int (nI late))] dX2_mostGain_178 4 rfl (congrArg (fun z => nI h + z) (by decide : Int32.ofInt (-1) = (-1 : Int32))) (by decide) rfl ?_
                            refine g_goto hC 121 dX2_mostGain_181 rfl ?_
                            exact g_sub [1, 2, 3, 4, 0] rfl (ih_24 M5 h (by omega) (⟨by omega, y2, y3, fun w w1 w2 => if ew : w = h then (by rw [ew]; exact mt_row (by omega) (show late = mlS (tw t u.toInt) h + 1 by omega) y5) else y4 w (by omega) w2, fun w w1 q hq => y6 w w1 q hq⟩))
                          · skip
                            refine g_iload hC dX2_mostGain_144 6 rfl ?_
                            refine g_bipush (v := 100) hC dX2_mostGain_146 rfl ?_
                            refine g_icmp_ge_T (X := ((late : Nat) : Int)) (Y := 100) hC (nI_toInt (by omega)) rfl 178 dX2_mostGain_148 rfl (fun c_29 => ?_) (fun c_29 => ?_)
                            · skip
                              refine g_iinc hC [(5, .int (nI h + (-1))), (0, .ref (b + 41)), (1, .ref (b + 1)), (2, .int u), (3, .int (bi (e = true))), (6, .int (nI (mlS t h))), (7, .int (nI late))] dX2_mostGain_178 4 rfl (congrArg (fun z => nI h + z) (by decide : Int32.ofInt (-1) = (-1 : Int32))) (by decide) rfl ?_
                              refine g_goto hC 121 dX2_mostGain_181 rfl ?_
                              exact g_sub [1, 2, 3, 4, 0] rfl (ih_24 M5 h (by omega) (⟨by omega, y2, y3, fun w w1 w2 => if ew : w = h then (by rw [ew]; exact mt_row (by omega) (show late = mlS (tw t u.toInt) h + 1 by omega) y5) else y4 w (by omega) w2, fun w w1 q hq => y6 w w1 q hq⟩))
                            · skip
                              refine g_aload_n hC dX2_mostGain_151 rfl 0 rfl ?_
                              refine g_getR (ci := 2) (i := 1) (k := 41) (t := 43) hC fm_in2 rfl ly_41 rfl (by decide) fw_151 dX2_mostGain_152 ?_
                              refine g_iload hC dX2_mostGain_155 4 rfl ?_
                              refine g_bipush (v := 100) hC dX2_mostGain_157 rfl ?_
                              refine g_imul hC dX2_mostGain_159 ?_
                              refine g_top (y := nI (h * 100)) (pk_mul _ _) ?_
                              refine g_iload hC dX2_mostGain_160 6 rfl ?_
                              refine g_iadd hC dX2_mostGain_162 ?_
                              refine g_top (y := nI ((h * 100) + late)) (nI_add _ _) ?_
                              refine g_aload_n hC dX2_mostGain_163 rfl 0 rfl ?_
                              refine g_iload hC dX2_mostGain_164 4 rfl ?_
                              refine g_iload hC dX2_mostGain_166 6 rfl ?_
                              refine g_callV hC (k := 41) (ci := 2) (as := [.int (nI h), .int (nI late)]) (rest := [.int (nI ((h * 100) + late)), .ref (b + 43)]) (c_X2_mostFrom l D cA b M5 L (tw t u.toInt) e h late hto2 y3 (y4 (h + 1) (by omega) (by omega)) (by omega) (by omega)) ⟨fw_450, fw_452, fs_7, fw_6, fw_453⟩ ⟨rfl, hd_X2_mostFrom⟩ rfl ly_41 ⟨Nat.le_of_ble_eq_true rfl, Nat.le_of_ble_eq_true rfl⟩ ⟨Nat.le_of_ble_eq_true rfl, Nat.le_of_ble_eq_true rfl⟩ rfl rfl (Nat.le_of_ble_eq_true rfl) dX2_mostGain_168 (g_rix ?_)
                              refine g_iastN (j := (h * 100) + late) (k := 43) hC ly_43 rfl (by omega) (by decide) dX2_mostGain_171 ?_
                              refine g_iinc hC [(7, .int (nI (late + 1))), (0, .ref (b + 41)), (1, .ref (b + 1)), (2, .int u), (3, .int (bi (e = true))), (5, .int (nI h)), (6, .int (nI (mlS t h)))] dX2_mostGain_172 6 rfl (by rw [show Int32.ofInt 1 = nI 1 from rfl, nI_add]) (by decide) rfl ?_
                              refine g_goto hC 137 dX2_mostGain_175 rfl ?_
                              exact g_sub [1, 2, 3, 4, 5, 6, 0] rfl (ih_27 (fm_up M5 43 ((h * 100) + late) (encC (bestO (cand (tw t u.toInt) (bV (tw t u.toInt) e (23 - h)) h late) 8))) (late + 1) (by omega) (⟨by omega, fun q q1 q2 => by rw [fm_upn q2]; exact y2 q q1 q2, fun q hq v hv => by rw [fm_upn (by omega)]; exact y3 q hq v hv, fun w w1 w2 => mt_keep (y4 w w1 w2) (by omega), fun q hq => by rw [fm_upv]; by_cases ee : q = late; rw [if_pos (by omega), if_pos (by omega), ee]; rw [if_neg (by omega), y5 q hq]; by_cases e3 : q < late; rw [if_pos e3, if_pos (by omega)]; rw [if_neg e3, if_neg (by omega)], fun w w1 q hq => by rw [fm_upv, if_neg (by omega)]; exact y6 w w1 q hq⟩))
                      exact g_sub [2, 3, 4, 5, 6, 1, 0] rfl (lp_137_27 (101 - 0 + 1) M4 0 (Nat.lt_succ_self _) (⟨by omega, b2, b3, b4, fun q hq => by rw [b5 h (by omega) q hq, if_neg (by omega)], fun w w1 q hq => b5 w (by omega) q hq⟩))
                have eL : late = mE t e + 1 := by omega
                exact g_sub [1, 2, 3, 4, 0] rfl (lp_121_24 (24 + 1) M3 24 (Nat.lt_succ_self _) (⟨by omega, fun q q1 q2 => by rw [d3 q q2, f1 q q2]; exact a2 q q1, fun q hq v hv => by rw [d3 42 (by omega), f1 42 (by omega)]; exact a3 q (by omega) v hv, fun h h1 h2 => by rw [show h = 24 by omega]; exact mt_24 (fun q hq => by rw [mE_tw, d7 q hq, eL]; by_cases c : q ≤ mE t e; rw [if_pos (by omega), if_pos c]; rw [if_neg (by omega), if_neg c]), fun h h1 q hq => d8 _ (by omega)⟩))
              · skip
                refine g_iload hC dX2_mostGain_92 5 rfl ?_
                refine g_bipush (v := 100) hC dX2_mostGain_94 rfl ?_
                refine g_icmp_ge_T (X := ((late : Nat) : Int)) (Y := 100) hC (nI_toInt (by omega)) rfl 117 dX2_mostGain_96 rfl (fun c_31 => ?_) (fun c_31 => ?_)
                · skip
                  refine g_bipush (v := 23) hC dX2_mostGain_117 rfl ?_
                  refine g_top (y := nI 24 + (-1)) (by decide) ?_
                  refine g_istore hC [(5, .int (nI 24 + (-1))), (0, .ref (b + 41)), (1, .ref (b + 1)), (2, .int u), (3, .int (bi (e = true))), (4, .int (nI (mE t e)))] dX2_mostGain_119 (by decide) rfl ?_
                  have lp_121_32 : ∀ (n_32 : Nat) (M4 : Nat → Nat → Int32) (n : Nat), n < n_32 → (n ≤ 24 ∧ (∀ q, q ≠ 42 → q ≠ 43 → M4 q = M q) ∧ (∀ q, q < 24 → gaC (tw t u.toInt) M4 q 8) ∧ (∀ h, n ≤ h → h ≤ 24 → mtC (tw t u.toInt) e M4 h) ∧ (∀ h, h < n → ∀ q, q < 100 → M4 43 (h * 100 + q) = -100000000)) → fm_G pq l eq (fm_rm 4 92 0 0) sq mq aq bq tq cq D cA b 8 (MQ bq (fm_Q D cA b LAY (fm_pm (fun r M' L' => r = Int32.ofInt (bVal (tw t u.toInt) e) ∧ (∀ q, q ≠ 42 → q ≠ 43 → M' q = M q) ∧ L' = L ∧ (∀ h, h < 24 → gaC (tw t u.toInt) M' h 8) ∧ (∀ h, h ≤ 24 → mtC (tw t u.toInt) e M' h)))) aq sq 0 0 (fun q => b ≤ q)) LAY M4 L 0 0 121 [(0, .ref (b + 41)), (1, .ref (b + 1)), (2, .int u), (3, .int (bi (e = true))), (5, .int (nI n + (-1)))] [] := by
                    intro n_32
                    induction n_32 with
                    | zero => intro M4 n hm_32; exact absurd hm_32 (Nat.not_lt_zero _)
                    | succ n_32 ih_32 =>
                      intro M4 n hm_32 hinv_32
                      obtain ⟨b1, b2, b3, b4, b5⟩ := hinv_32
                      refine g_iload hC dX2_mostGain_121 4 rfl ?_
                      refine g_if_lt_T (X := ((n : Nat) : Int) - 1) hC (m1_t (by omega)) 184 dX2_mostGain_123 rfl (fun c_33 => ?_) (fun c_33 => ?_)
                      · skip
                        refine g_aload_n hC dX2_mostGain_184 rfl 0 rfl ?_
                        refine g_getR (ci := 2) (i := 1) (k := 41) (t := 43) hC fm_in2 rfl ly_41 rfl (by decide) fw_151 dX2_mostGain_185 ?_
                        refine g_iconst (v := 0) hC dX2_mostGain_188 rfl ?_
                        refine g_ialdN (j := 0) (k := 43) hC ly_43 rfl (by decide) (by decide) dX2_mostGain_189 ?_
                        refine g_zret (ty := .int) hC rfl rfl dX2_mostGain_190 ?_
                        have z : M4 43 0 = encC (bV (tw t u.toInt) e 24 0) := b4 0 (by omega) (by omega) 0 (by omega)
                        exact ⟨_, rfl, by rw [z, bVal_is]; rfl, b2, rfl, b3, fun w hw => b4 w (by omega) hw⟩
                      · skip
                        obtain ⟨h, rfl⟩ : ∃ h, n = h + 1 := ⟨n - 1, by omega⟩
                        rw [pk_m1 h]
                        refine g_aload_n hC dX2_mostGain_126 rfl 1 rfl ?_
                        refine g_iload hC dX2_mostGain_127 4 rfl ?_
                        refine g_callV hC (k := 1) (ci := 5) (as := [.int (nI h)]) (rest := []) (c_X5_mostLateAt l D cA b M4 L t h (tC_cong hT o4 (fun q q1 q2 => b2 q (by omega) (by omega))) hto (by omega)) ⟨fw_449, fw_413, fw_414, fw_2, fw_415⟩ ⟨rfl, hd_X5_mostLateAt⟩ rfl ly_1 ⟨Nat.le_of_ble_eq_true rfl, Nat.le_of_ble_eq_true rfl⟩ ⟨Nat.le_of_ble_eq_true rfl, Nat.le_of_ble_eq_true rfl⟩ rfl rfl (Nat.le_of_ble_eq_true rfl) dX2_mostGain_129 (g_rix ?_)
                        have mb_34 := mlS_le t h
                        refine g_istore hC [(6, .int (nI (mlS t h))), (0, .ref (b + 41)), (1, .ref (b + 1)), (2, .int u), (3, .int (bi (e = true))), (5, .int (nI h))] dX2_mostGain_132 (by decide) rfl ?_
                        refine g_iconst (v := 0) hC dX2_mostGain_134 rfl ?_
                        refine g_istore hC [(7, .int 0), (6, .int (nI (mlS t h))), (0, .ref (b + 41)), (1, .ref (b + 1)), (2, .int u), (3, .int (bi (e = true))), (5, .int (nI h))] dX2_mostGain_135 (by decide) rfl ?_
                        have lp_137_35 : ∀ (n_35 : Nat) (M5 : Nat → Nat → Int32) (late : Nat), 101 - late < n_35 → (late ≤ mlS t h + 1 ∧ (∀ q, q ≠ 42 → q ≠ 43 → M5 q = M q) ∧ (∀ q, q < 24 → gaC (tw t u.toInt) M5 q 8) ∧ (∀ w, h + 1 ≤ w → w ≤ 24 → mtC (tw t u.toInt) e M5 w) ∧ (∀ q, q < 100 → M5 43 (h * 100 + q) = if q < late then encC (bestO (cand (tw t u.toInt) (bV (tw t u.toInt) e (23 - h)) h q) 8) else -100000000) ∧ (∀ w, w < h → ∀ q, q < 100 → M5 43 (w * 100 + q) = -100000000)) → fm_G pq l eq (fm_rm 4 92 0 0) sq mq aq bq tq cq D cA b 8 (MQ bq (fm_Q D cA b LAY (fm_pm (fun r M' L' => r = Int32.ofInt (bVal (tw t u.toInt) e) ∧ (∀ q, q ≠ 42 → q ≠ 43 → M' q = M q) ∧ L' = L ∧ (∀ h, h < 24 → gaC (tw t u.toInt) M' h 8) ∧ (∀ h, h ≤ 24 → mtC (tw t u.toInt) e M' h)))) aq sq 0 0 (fun q => b ≤ q)) LAY M5 L 0 0 137 [(0, .ref (b + 41)), (1, .ref (b + 1)), (2, .int u), (3, .int (bi (e = true))), (5, .int (nI h)), (6, .int (nI (mlS t h))), (7, .int (nI late))] [] := by
                          intro n_35
                          induction n_35 with
                          | zero => intro M5 late hm_35; exact absurd hm_35 (Nat.not_lt_zero _)
                          | succ n_35 ih_35 =>
                            intro M5 late hm_35 hinv_35
                            obtain ⟨y1, y2, y3, y4, y5, y6⟩ := hinv_35
                            have mj := mlS_le t h
                            have mw := mlS_tw t u.toInt h
                            refine g_iload hC dX2_mostGain_137 6 rfl ?_
                            refine g_iload hC dX2_mostGain_139 5 rfl ?_
                            refine g_icmp_gt_T (X := ((late : Nat) : Int)) (Y := ((mlS t h : Nat) : Int)) hC (nI_toInt (by omega)) (nI_toInt (by omega)) 178 dX2_mostGain_141 rfl (fun c_36 => ?_) (fun c_36 => ?_)
                            · skip
                              refine g_iinc hC [(5, .int (nI h + (-1))), (0, .ref (b + 41)), (1, .ref (b + 1)), (2, .int u), (3, .int (bi (e = true))), (6, .int (nI (mlS t h))), (7, .int (nI late))] dX2_mostGain_178 4 rfl (congrArg (fun z => nI h + z) (by decide : Int32.ofInt (-1) = (-1 : Int32))) (by decide) rfl ?_
                              refine g_goto hC 121 dX2_mostGain_181 rfl ?_
                              exact g_sub [1, 2, 3, 4, 0] rfl (ih_32 M5 h (by omega) (⟨by omega, y2, y3, fun w w1 w2 => if ew : w = h then (by rw [ew]; exact mt_row (by omega) (show late = mlS (tw t u.toInt) h + 1 by omega) y5) else y4 w (by omega) w2, fun w w1 q hq => y6 w w1 q hq⟩))
                            · skip
                              refine g_iload hC dX2_mostGain_144 6 rfl ?_
                              refine g_bipush (v := 100) hC dX2_mostGain_146 rfl ?_
                              refine g_icmp_ge_T (X := ((late : Nat) : Int)) (Y := 100) hC (nI_toInt (by omega)) rfl 178 dX2_mostGain_148 rfl (fun _ => ?_) (fun c_37 => absurd c_37 (by omega))
                              refine g_iinc hC [(5, .int (nI h + (-1))), (0, .ref (b + 41)), (1, .ref (b + 1)), (2, .int u), (3, .int (bi (e = true))), (6, .int (nI (mlS t h))), (7, .int (nI late))] dX2_mostGain_178 4 rfl (congrArg (fun z => nI h + z) (by decide : Int32.ofInt (-1) = (-1 : Int32))) (by decide) rfl ?_
                              refine g_goto hC 121 dX2_mostGain_181 rfl ?_
                              exact g_sub [1, 2, 3, 4, 0] rfl (ih_32 M5 h (by omega) (⟨by omega, y2, y3, fun w w1 w2 => if ew : w = h then (by rw [ew]; exact mt_row (by omega) (show late = mlS (tw t u.toInt) h + 1 by omega) y5) else y4 w (by omega) w2, fun w w1 q hq => y6 w w1 q hq⟩))
                        exact g_sub [2, 3, 4, 5, 6, 1, 0] rfl (lp_137_35 (101 - 0 + 1) M4 0 (Nat.lt_succ_self _) (⟨by omega, b2, b3, b4, fun q hq => by rw [b5 h (by omega) q hq, if_neg (by omega)], fun w w1 q hq => b5 w (by omega) q hq⟩))
                  have eL : late = mE t e + 1 := by omega
                  exact g_sub [1, 2, 3, 4, 0] rfl (lp_121_32 (24 + 1) M3 24 (Nat.lt_succ_self _) (⟨by omega, fun q q1 q2 => by rw [d3 q q2, f1 q q2]; exact a2 q q1, fun q hq v hv => by rw [d3 42 (by omega), f1 42 (by omega)]; exact a3 q (by omega) v hv, fun h h1 h2 => by rw [show h = 24 by omega]; exact mt_24 (fun q hq => by rw [mE_tw, d7 q hq, eL]; by_cases c : q ≤ mE t e; rw [if_pos (by omega), if_pos c]; rw [if_neg (by omega), if_neg c]), fun h h1 q hq => d8 _ (by omega)⟩))
                · skip
                  refine g_aload_n hC dX2_mostGain_99 rfl 0 rfl ?_
                  refine g_getR (ci := 2) (i := 1) (k := 41) (t := 43) hC fm_in2 rfl ly_41 rfl (by decide) fw_151 dX2_mostGain_100 ?_
                  refine g_sipush (v := 2400) hC dX2_mostGain_103 rfl ?_
                  refine g_iload hC dX2_mostGain_106 5 rfl ?_
                  refine g_iadd hC dX2_mostGain_108 ?_
                  refine g_top (y := nI (2400 + late)) (nI_add _ _) ?_
                  refine g_iconst (v := 0) hC dX2_mostGain_109 rfl ?_
                  refine g_iastN (j := 2400 + late) (k := 43) hC ly_43 rfl (by omega) (by decide) dX2_mostGain_110 ?_
                  refine g_iinc hC [(5, .int (nI (late + 1))), (0, .ref (b + 41)), (1, .ref (b + 1)), (2, .int u), (3, .int (bi (e = true))), (4, .int (nI (mE t e)))] dX2_mostGain_111 5 rfl (by rw [show Int32.ofInt 1 = nI 1 from rfl, nI_add]) (by decide) rfl ?_
                  refine g_goto hC 85 dX2_mostGain_114 rfl ?_
                  exact g_sub [1, 2, 3, 4, 5, 0] rfl (ih_22 (fm_up M3 43 (2400 + late) 0) (late + 1) (by omega) (⟨by omega, fun q hq => by rw [fm_upn hq]; exact d3 q hq, fun q hq => by rw [fm_upv]; by_cases ee : q = late; rw [if_pos (by omega), if_pos (by omega)]; rw [if_neg (by omega), d7 q hq]; by_cases e3 : q < late; rw [if_pos e3, if_pos (by omega)]; rw [if_neg e3, if_neg (by omega)], fun q hq => by rw [fm_upv, if_neg (by omega)]; exact d8 q hq⟩))
          exact g_sub [2, 3, 4, 5, 1, 0] rfl (lp_85_22 (101 - 0 + 1) M_3 0 (Nat.lt_succ_self _) (⟨by omega, fun q _ => rfl, fun q hq => by rw [f2 _ (by omega), if_neg (by omega)], fun q hq => f2 q (by omega)⟩))
      · skip
        refine g_iconst (v := 0) hC dX2_mostGain_10 rfl ?_
        refine g_istore hC [(5, .int 0), (0, .ref (b + 41)), (1, .ref (b + 1)), (2, .int u), (3, .int (bi (e = true))), (4, .int (nI h))] dX2_mostGain_11 (by decide) rfl ?_
        have lp_13_38 : ∀ (n_38 : Nat) (M2 : Nat → Nat → Int32) (i : Nat), 8 - i < n_38 → (i ≤ 8 ∧ (∀ q, q ≠ 42 → M2 q = M q) ∧ gaC (tw t u.toInt) M2 h i ∧ (∀ q, q < h → gaC (tw t u.toInt) M2 q 8)) → fm_G pq l eq (fm_rm 4 92 0 0) sq mq aq bq tq cq D cA b 8 (MQ bq (fm_Q D cA b LAY (fm_pm (fun r M' L' => r = Int32.ofInt (bVal (tw t u.toInt) e) ∧ (∀ q, q ≠ 42 → q ≠ 43 → M' q = M q) ∧ L' = L ∧ (∀ h, h < 24 → gaC (tw t u.toInt) M' h 8) ∧ (∀ h, h ≤ 24 → mtC (tw t u.toInt) e M' h)))) aq sq 0 0 (fun q => b ≤ q)) LAY M2 L 0 0 13 [(0, .ref (b + 41)), (1, .ref (b + 1)), (2, .int u), (3, .int (bi (e = true))), (4, .int (nI h)), (5, .int (nI i))] [] := by
          intro n_38
          induction n_38 with
          | zero => intro M2 i hm_38; exact absurd hm_38 (Nat.not_lt_zero _)
          | succ n_38 ih_38 =>
            intro M2 i hm_38 hinv_38
            obtain ⟨a4, a5, a6, a7⟩ := hinv_38
            have hT2 : tC M2 1 t := tC_cong hT o4 (fun q q1 q2 => a5 q (by omega))
            refine g_iload hC dX2_mostGain_13 5 rfl ?_
            refine g_bipush (v := 8) hC dX2_mostGain_15 rfl ?_
            refine g_icmp_ge_T (X := ((i : Nat) : Int)) (Y := 8) hC (nI_toInt (by omega)) rfl 51 dX2_mostGain_17 rfl (fun c_39 => ?_) (fun c_39 => ?_)
            · skip
              refine g_iinc hC [(4, .int (nI (h + 1))), (0, .ref (b + 41)), (1, .ref (b + 1)), (2, .int u), (3, .int (bi (e = true))), (5, .int (nI i))] dX2_mostGain_51 4 rfl (by rw [show Int32.ofInt 1 = nI 1 from rfl, nI_add]) (by decide) rfl ?_
              refine g_goto hC 3 dX2_mostGain_54 rfl ?_
              exact g_sub [1, 2, 3, 4, 0] rfl (ih_1 M2 (h + 1) (by omega) (⟨by omega, a5, fun q hq => if ee : q = h then (by rw [ee]; rw [show i = 8 by omega] at a6; exact a6) else a7 q (by omega)⟩))
            · skip
              refine g_aload_n hC dX2_mostGain_20 rfl 0 rfl ?_
              refine g_getR (ci := 2) (i := 0) (k := 41) (t := 42) hC fm_in2 rfl ly_41 rfl (by decide) fw_150 dX2_mostGain_21 ?_
              refine g_iload hC dX2_mostGain_24 4 rfl ?_
              refine g_bipush (v := 8) hC dX2_mostGain_26 rfl ?_
              refine g_imul hC dX2_mostGain_28 ?_
              refine g_top (y := nI (h * 8)) (pk_mul _ _) ?_
              refine g_iload hC dX2_mostGain_29 5 rfl ?_
              refine g_iadd hC dX2_mostGain_31 ?_
              refine g_top (y := nI ((h * 8) + i)) (nI_add _ _) ?_
              refine g_aload_n hC dX2_mostGain_32 rfl 1 rfl ?_
              refine g_iload hC dX2_mostGain_33 4 rfl ?_
              refine g_iload hC dX2_mostGain_35 5 rfl ?_
              refine g_bipush (v := (-2)) hC dX2_mostGain_37 rfl ?_
              refine g_iadd hC dX2_mostGain_39 ?_
              refine g_top (y := Int32.ofInt ((i : Int) - 2)) (m2_o _) ?_
              refine g_iload_n hC dX2_mostGain_40 rfl 2 rfl ?_
              refine g_callV hC (k := 1) (ci := 5) (as := [.int (nI h), .int (Int32.ofInt ((i : Int) - 2)), .int u]) (rest := [.int (nI ((h * 8) + i)), .ref (b + 42)]) (c_X5_gainAt l D cA b M2 L t h (Int32.ofInt ((i : Int) - 2)) u hT2 hto (by omega) (by rw [oI_t (by omega) (by omega)]; omega)) ⟨fw_446, fw_400, fw_401, fw_2, fw_402⟩ ⟨rfl, hd_X5_gainAt⟩ rfl ly_1 ⟨Nat.le_of_ble_eq_true rfl, Nat.le_of_ble_eq_true rfl⟩ ⟨Nat.le_of_ble_eq_true rfl, Nat.le_of_ble_eq_true rfl⟩ rfl rfl (Nat.le_of_ble_eq_true rfl) dX2_mostGain_41 (g_rix ?_)
              have ge_40 : (Int32.ofInt ((i : Int) - 2)).toInt = (i : Int) - 2 := oI_t (by omega) (by omega)
              rw [ge_40]
              refine g_iastN (j := (h * 8) + i) (k := 42) hC ly_42 rfl (by omega) (by decide) dX2_mostGain_44 ?_
              refine g_iinc hC [(5, .int (nI (i + 1))), (0, .ref (b + 41)), (1, .ref (b + 1)), (2, .int u), (3, .int (bi (e = true))), (4, .int (nI h))] dX2_mostGain_45 5 rfl (by rw [show Int32.ofInt 1 = nI 1 from rfl, nI_add]) (by decide) rfl ?_
              refine g_goto hC 13 dX2_mostGain_48 rfl ?_
              exact g_sub [1, 2, 3, 4, 5, 0] rfl (ih_38 (fm_up M2 42 ((h * 8) + i) (Int32.ofInt (gA (tw t u.toInt) h ((i : Int) - 2)))) (i + 1) (by omega) (⟨by omega, fun q hq => by rw [fm_upn hq]; exact a5 q hq, gc_up a6 rfl, fun q hq => gc_keep (a7 q hq) hq rfl⟩))
        exact g_sub [1, 2, 3, 4, 5, 0] rfl (lp_13_38 (8 - 0 + 1) M1 0 (Nat.lt_succ_self _) (⟨by omega, a2, fun v hv => by omega, a3⟩))
  exact g_sub [1, 2, 3, 4, 0] rfl (lp_3_1 (24 - 0 + 1) M 0 (Nat.lt_succ_self _) (⟨by omega, fun q _ => rfl, fun q hq => by omega⟩))
