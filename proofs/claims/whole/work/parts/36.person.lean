/-! ===== the tape: the class reads a person ===== -/
theorem pC_m {M M' : Nat → Nat → Int32} {T : Nat × (Nat → Nat)} (h : pC M T) (a : ∀ i, i ≠ 2 → i ≠ 3 → M' 29 i = M 29 i) (c : M' 30 = M 30) : pC M' T := by
  unfold pC
  rw [a 1 (by decide) (by decide), c]; exact h
theorem kd_lt {T : Nat × (Nat → Nat)} {q : Nat} (h : 0 ≤ (kdI (chI T q)).toInt) : q < T.1 := by
  refine Classical.byContradiction fun n => ?_
  unfold chI at h
  rw [if_neg n] at h
  exact absurd h (by decide)
theorem rn_ge {T : Nat × (Nat → Nat)} {p mo n : Nat} {r : Int32} (h1 : rnOk T p mo → r = nI (rnV T p)) (h2 : ¬ rnOk T p mo → r = -20 - nI n) (hm : mo < 1000) (hn : n ≤ 140) : 0 ≤ r.toInt ↔ rnOk T p mo := by
  by_cases q : rnOk T p mo
  · have := q.2
    rw [h1 q, nI_toInt (by omega)]
    exact ⟨fun _ => q, fun _ => by omega⟩
  · rw [h2 q, nI_oI, show (-20 : Int32) = Int32.ofInt (-20) from rfl, oI_sub, oI_t (by omega) (by omega)]
    exact ⟨fun z => absurd z (by omega), fun z => absurd z q⟩

theorem c_X4_readPerson (l : Launch) (D : va_G) (cA : Nat → ClassId) (b : Nat) (M : Nat → Nat → Int32) (L : Nat → Nat → Int64) (T : Nat × (Nat → Nat)) (p : Nat) (c : Nat) (hT : pC M T) (hk : pOK T) (hp : M 29 2 = nI p) (hle : p ≤ T.1) (hc : LAY[c]? = some (0, 1, [0, 0, 0, 0])) (hcn : 33 ≤ c ∧ c < 41) : fm_Met l D cA b yX4_readPerson cX4_readPerson 5 (some .int) 2 43 0 0 [.ref (b + 29), .ref (b + c)] LAY M L LAY (fm_pm (fun r M' L' => (∀ q, rpS T p = .inr q → r = -20 - nI q) ∧ (∀ k h w m e, rpS T p = .inl (k, h, w, m, e) → r = 0 ∧ M' c 0 = nI k ∧ M' c 1 = nI h ∧ M' c 2 = nI w ∧ M' c 3 = nI m ∧ M' 29 2 = nI e) ∧ (∀ i, i ≠ 2 → i ≠ 3 → M' 29 i = M 29 i) ∧ (∀ q, q ≠ 29 → q ≠ c → M' q = M q) ∧ L' = L)) := by
  refine fm_start RX4 rfl (by decide) (Nat.le_of_ble_eq_true rfl) ?_
  intro pq eq sq mq aq bq tq cq hC hin
  have nl := nx_le hle
  obtain ⟨t1, t2⟩ := id hk
  refine g_aload_n hC dX4_readPerson_0 rfl 0 rfl ?_
  refine g_callV hC (k := 29) (ci := 4) (as := []) (rest := []) (c_X4_next l D cA b M L T p hT hk hp hle) ⟨fw_321, fw_323, fs_2, fw_5, fw_324⟩ ⟨rfl, hd_X4_next⟩ rfl ly_29 ⟨Nat.le_of_ble_eq_true rfl, Nat.le_of_ble_eq_true rfl⟩ ⟨Nat.le_of_ble_eq_true rfl, Nat.le_of_ble_eq_true rfl⟩ rfl rfl (Nat.le_of_ble_eq_true rfl) dX4_readPerson_1 (g_rix ?_)
  refine g_callS hC (as := [.int (chI T (nx T p))]) (rest := []) (c_X4_kindOf l D cA b (fm_up M 29 2 (nI (nx T p))) L (chI T (nx T p))) ⟨fw_325, fw_326, fw_5, fw_327⟩ hd_X4_kindOf ⟨Nat.le_of_ble_eq_true rfl, Nat.le_of_ble_eq_true rfl⟩ ⟨Nat.le_of_ble_eq_true rfl, Nat.le_of_ble_eq_true rfl⟩ rfl rfl (Nat.le_of_ble_eq_true rfl) dX4_readPerson_4 (g_rix ?_)
  refine g_istore_n hC [(2, .int (kdI (chI T (nx T p)))), (0, .ref (b + 29)), (1, .ref (b + c))] dX4_readPerson_7 rfl (by decide) rfl ?_
  refine g_iload_n hC dX4_readPerson_8 rfl 0 rfl ?_
  refine g_if_ge_T (X := (kdI (chI T (nx T p))).toInt) hC rfl 17 dX4_readPerson_9 rfl (fun c_3 => ?_) (fun c_3 => ?_)
  · skip
    have kl := kd_lt (T := T) (q := nx T p) c_3
    refine g_aload_n hC dX4_readPerson_17 rfl 1 rfl ?_
    refine g_dup hC dX4_readPerson_18 rfl ?_
    refine g_getI (ci := 4) (i := 2) (k := 29) hC fm_in4 rfl ly_29 rfl (by decide) fw_124 dX4_readPerson_19 ?_
    refine g_top (y := nI (nx T p)) (by simp [fm_up, fm_row, upd]) ?_
    refine g_iconst (v := 1) hC dX4_readPerson_22 rfl ?_
    refine g_iadd hC dX4_readPerson_23 ?_
    refine g_top (y := nI ((nx T p) + 1)) (nI_add _ _) ?_
    refine g_putI (ci := 4) (i := 2) (k := 29) hC fm_in4 tyX4 tyX4_ok nmX4 rfl ly_29 rfl (by decide) fw_124 rfl rfl rfl dX4_readPerson_24 ?_
    have hT1 : pC (fm_up (fm_up M 29 2 (nI (nx T p))) 29 2 (nI ((nx T p) + 1))) T := pC_m hT (fun i i1 i2 => by simp [fm_up, fm_row, upd, i1]) (by simp [fm_up, fm_row, upd])
    refine g_aload_n hC dX4_readPerson_27 rfl 1 rfl ?_
    refine g_bipush (v := 23) hC dX4_readPerson_28 rfl ?_
    refine g_callV hC (k := 29) (ci := 4) (as := [.int 23]) (rest := []) (c_X4_readNumber l D cA b (fm_up (fm_up M 29 2 (nI (nx T p))) 29 2 (nI ((nx T p) + 1))) L T (nx T p + 1) 23 hT1 hk fm_ups (by omega) (by decide)) ⟨fw_332, fw_334, fs_4, fw_5, fw_335⟩ ⟨rfl, hd_X4_readNumber⟩ rfl ly_29 ⟨Nat.le_of_ble_eq_true rfl, Nat.le_of_ble_eq_true rfl⟩ ⟨Nat.le_of_ble_eq_true rfl, Nat.le_of_ble_eq_true rfl⟩ rfl rfl (Nat.le_of_ble_eq_true rfl) dX4_readPerson_30 (g_rm (fun r_4 M_4 L_4 h_4 => ?_))
    obtain ⟨r1_4, r2_4, r3_4, r4_4, r5_4, r6_4, r7_4⟩ := h_4
    rw [r7_4]
    have g_4 : 0 ≤ (r_4).toInt ↔ rnOk T (nx T p + 1) 23 := rn_ge r1_4 r2_4 (by decide) (by have := nx_le (T := T) (p := (nx T p + 1)) (by omega); omega)
    have en_4 := rnE_le (T := T) (p := (nx T p + 1)) (by omega)
    have hT_4 : pC M_4 T := pC_m hT1 r5_4 (r6_4 30 (by decide))
    refine g_istore_n hC [(3, .int r_4), (2, .int (kdI (chI T (nx T p)))), (0, .ref (b + 29)), (1, .ref (b + c))] dX4_readPerson_33 rfl (by decide) rfl ?_
    refine g_iload_n hC dX4_readPerson_34 rfl 0 rfl ?_
    refine g_if_ge_T (X := r_4.toInt) hC rfl 40 dX4_readPerson_35 rfl (fun c_5 => ?_) (fun c_5 => ?_)
    · skip
      have oka : rnOk T (nx T p + 1) 23 := g_4.mp c_5
      rw [r1_4 oka]
      have ola := oka.2
      refine g_aload_n hC dX4_readPerson_40 rfl 2 rfl ?_
      refine g_bipush (v := 119) hC dX4_readPerson_41 rfl ?_
      refine g_callV hC (k := 29) (ci := 4) (as := [.int 119]) (rest := []) (c_X4_passes l D cA b M_4 L T (rnE T (nx T p + 1)) 119 hT_4 hk r3_4 en_4.2 (by decide)) ⟨fw_340, fw_342, fs_5, fw_5, fw_343⟩ ⟨rfl, hd_X4_passes⟩ rfl ly_29 ⟨Nat.le_of_ble_eq_true rfl, Nat.le_of_ble_eq_true rfl⟩ ⟨Nat.le_of_ble_eq_true rfl, Nat.le_of_ble_eq_true rfl⟩ rfl rfl (Nat.le_of_ble_eq_true rfl) dX4_readPerson_43 (g_rix ?_)
      have pl3 : (psN T (rnE T (nx T p + 1)) 119) ≤ T.1 := ps_le en_4.2 (by decide)
      have hT2 : pC (fm_up M_4 29 2 (nI (psN T (rnE T (nx T p + 1)) 119))) T := pC_m hT_4 (fun i i1 i2 => fm_upx i1) (fm_upn (by decide))
      refine g_ifb_eq hC 58 dX4_readPerson_46 rfl (fun c_7 => ?_) (fun c_7 => ?_)
      · skip
        have hw := c_7
        refine g_iconst (v := 1) hC dX4_readPerson_58 rfl ?_
        refine g_istore hC [(4, .int 1), (3, .int (nI (rnV T (nx T p + 1)))), (2, .int (kdI (chI T (nx T p)))), (0, .ref (b + 29)), (1, .ref (b + c))] dX4_readPerson_59 (by decide) rfl ?_
        refine g_iload hC dX4_readPerson_61 0 rfl ?_
        refine g_if_ge_T (X := 1) hC rfl 69 dX4_readPerson_63 rfl (fun _ => ?_) (fun c_8 => absurd c_8 (by omega))
        refine g_aload_n hC dX4_readPerson_69 rfl 4 rfl ?_
        refine g_iload_n hC dX4_readPerson_70 rfl 2 rfl ?_
        refine g_iload_n hC dX4_readPerson_71 rfl 1 rfl ?_
        refine g_iload hC dX4_readPerson_72 0 rfl ?_
        refine g_aload_n hC dX4_readPerson_74 rfl 3 rfl ?_
        refine g_bipush (v := 45) hC dX4_readPerson_75 rfl ?_
        refine g_callV hC (k := 29) (ci := 4) (as := [.int 45]) (rest := [.int 1, .int (nI (rnV T (nx T p + 1))), .int (kdI (chI T (nx T p))), .ref (b + c)]) (c_X4_passes l D cA b (fm_up M_4 29 2 (nI (psN T (rnE T (nx T p + 1)) 119))) L T (psN T (rnE T (nx T p + 1)) 119) 45 hT2 hk fm_ups pl3 (by decide)) ⟨fw_340, fw_342, fs_5, fw_5, fw_343⟩ ⟨rfl, hd_X4_passes⟩ rfl ly_29 ⟨Nat.le_of_ble_eq_true rfl, Nat.le_of_ble_eq_true rfl⟩ ⟨Nat.le_of_ble_eq_true rfl, Nat.le_of_ble_eq_true rfl⟩ rfl rfl (Nat.le_of_ble_eq_true rfl) dX4_readPerson_77 (g_rix ?_)
        refine g_ifb_eq hC 87 dX4_readPerson_80 rfl (fun c_10 => ?_) (fun c_10 => ?_)
        · skip
          have hm := c_10
          refine g_iconst (v := 1) hC dX4_readPerson_87 rfl ?_
          refine g_callV hC (k := c) (ci := 1) (as := [.int (kdI (chI T (nx T p))), .int (nI (rnV T (nx T p + 1))), .int 1, .int 1]) (rest := []) (c_X1_become l D cA b (fm_up (fm_up M_4 29 2 (nI (psN T (rnE T (nx T p + 1)) 119))) 29 2 (nI (psN T (psN T (rnE T (nx T p + 1)) 119) 45))) L c (kdI (chI T (nx T p))) (nI (rnV T (nx T p + 1))) 1 1 hc) ⟨fw_344, fw_232, fw_233, fw_3, fw_234⟩ ⟨rfl, hd_X1_become⟩ rfl hc ⟨Nat.le_of_ble_eq_true rfl, Nat.le_of_ble_eq_true rfl⟩ ⟨Nat.le_of_ble_eq_true rfl, Nat.le_of_ble_eq_true rfl⟩ rfl rfl (Nat.le_of_ble_eq_true rfl) dX4_readPerson_88 (g_rvx ?_)
          refine g_iconst (v := 0) hC dX4_readPerson_91 rfl ?_
          refine g_zret (ty := .int) hC rfl rfl dX4_readPerson_92 ?_
          have e0 : rpS T p = .inl ((kdI (chI T (nx T p))).toInt.toNat, rnV T (nx T p + 1), 1, 1, psN T (psN T (rnE T (nx T p + 1)) 119) 45) := by unfold rpS; rw [if_neg (by omega), if_neg (fun q => q oka), if_neg hw, if_neg hm]
          exact ⟨_, rfl, (fun q hq => (by rw [e0] at hq; cases hq)), (fun k h w m e hq => (by rw [e0] at hq; cases hq; exact ⟨rfl, be_0.trans (ic_nI (by omega)), be_1, be_2, be_3, by rw [be_n (by omega), fm_ups]⟩)), (fun i i1 i2 => (by rw [be_n (by omega), fm_upx i1, fm_upx i1, r5_4 i i1 i2, fm_upx i1, fm_upx i1])), (fun q q1 q2 => (by rw [be_n q2, fm_upn q1, fm_upn q1, r6_4 q q1, fm_upn q1, fm_upn q1])), rfl⟩
        · skip
          have hm := c_10
          refine g_iconst (v := 0) hC dX4_readPerson_83 rfl ?_
          refine g_goto hC 88 dX4_readPerson_84 rfl ?_
          refine g_callV hC (k := c) (ci := 1) (as := [.int (kdI (chI T (nx T p))), .int (nI (rnV T (nx T p + 1))), .int 1, .int 0]) (rest := []) (c_X1_become l D cA b (fm_up (fm_up M_4 29 2 (nI (psN T (rnE T (nx T p + 1)) 119))) 29 2 (nI (psN T (psN T (rnE T (nx T p + 1)) 119) 45))) L c (kdI (chI T (nx T p))) (nI (rnV T (nx T p + 1))) 1 0 hc) ⟨fw_344, fw_232, fw_233, fw_3, fw_234⟩ ⟨rfl, hd_X1_become⟩ rfl hc ⟨Nat.le_of_ble_eq_true rfl, Nat.le_of_ble_eq_true rfl⟩ ⟨Nat.le_of_ble_eq_true rfl, Nat.le_of_ble_eq_true rfl⟩ rfl rfl (Nat.le_of_ble_eq_true rfl) dX4_readPerson_88 (g_rvx ?_)
          refine g_iconst (v := 0) hC dX4_readPerson_91 rfl ?_
          refine g_zret (ty := .int) hC rfl rfl dX4_readPerson_92 ?_
          have e0 : rpS T p = .inl ((kdI (chI T (nx T p))).toInt.toNat, rnV T (nx T p + 1), 1, 0, psN T (psN T (rnE T (nx T p + 1)) 119) 45) := by unfold rpS; rw [if_neg (by omega), if_neg (fun q => q oka), if_neg hw, if_pos hm]
          exact ⟨_, rfl, (fun q hq => (by rw [e0] at hq; cases hq)), (fun k h w m e hq => (by rw [e0] at hq; cases hq; exact ⟨rfl, be_0.trans (ic_nI (by omega)), be_1, be_2, be_3, by rw [be_n (by omega), fm_ups]⟩)), (fun i i1 i2 => (by rw [be_n (by omega), fm_upx i1, fm_upx i1, r5_4 i i1 i2, fm_upx i1, fm_upx i1])), (fun q q1 q2 => (by rw [be_n q2, fm_upn q1, fm_upn q1, r6_4 q q1, fm_upn q1, fm_upn q1])), rfl⟩
      · skip
        have hw := c_7
        refine g_aload_n hC dX4_readPerson_49 rfl 2 rfl ?_
        refine g_bipush (v := 99) hC dX4_readPerson_50 rfl ?_
        refine g_callV hC (k := 29) (ci := 4) (as := [.int 99]) (rest := []) (c_X4_readNumber l D cA b (fm_up M_4 29 2 (nI (psN T (rnE T (nx T p + 1)) 119))) L T (psN T (rnE T (nx T p + 1)) 119) 99 hT2 hk fm_ups pl3 (by decide)) ⟨fw_332, fw_334, fs_4, fw_5, fw_335⟩ ⟨rfl, hd_X4_readNumber⟩ rfl ly_29 ⟨Nat.le_of_ble_eq_true rfl, Nat.le_of_ble_eq_true rfl⟩ ⟨Nat.le_of_ble_eq_true rfl, Nat.le_of_ble_eq_true rfl⟩ rfl rfl (Nat.le_of_ble_eq_true rfl) dX4_readPerson_52 (g_rm (fun r_13 M_13 L_13 h_13 => ?_))
        obtain ⟨r1_13, r2_13, r3_13, r4_13, r5_13, r6_13, r7_13⟩ := h_13
        rw [r7_13]
        have g_13 : 0 ≤ (r_13).toInt ↔ rnOk T (psN T (rnE T (nx T p + 1)) 119) 99 := rn_ge r1_13 r2_13 (by decide) (by have := nx_le (T := T) (p := (psN T (rnE T (nx T p + 1)) 119)) (by omega); omega)
        have en_13 := rnE_le (T := T) (p := (psN T (rnE T (nx T p + 1)) 119)) (by omega)
        have hT_13 : pC M_13 T := pC_m hT2 r5_13 (r6_13 30 (by decide))
        refine g_goto hC 59 dX4_readPerson_55 rfl ?_
        refine g_istore hC [(4, .int r_13), (3, .int (nI (rnV T (nx T p + 1)))), (2, .int (kdI (chI T (nx T p)))), (0, .ref (b + 29)), (1, .ref (b + c))] dX4_readPerson_59 (by decide) rfl ?_
        refine g_iload hC dX4_readPerson_61 0 rfl ?_
        refine g_if_ge_T (X := r_13.toInt) hC rfl 69 dX4_readPerson_63 rfl (fun c_14 => ?_) (fun c_14 => ?_)
        · skip
          have okb : rnOk T (psN T (rnE T (nx T p + 1)) 119) 99 := g_13.mp c_14
          rw [r1_13 okb]
          have olb := okb.2
          refine g_aload_n hC dX4_readPerson_69 rfl 4 rfl ?_
          refine g_iload_n hC dX4_readPerson_70 rfl 2 rfl ?_
          refine g_iload_n hC dX4_readPerson_71 rfl 1 rfl ?_
          refine g_iload hC dX4_readPerson_72 0 rfl ?_
          refine g_aload_n hC dX4_readPerson_74 rfl 3 rfl ?_
          refine g_bipush (v := 45) hC dX4_readPerson_75 rfl ?_
          refine g_callV hC (k := 29) (ci := 4) (as := [.int 45]) (rest := [.int (nI (rnV T (psN T (rnE T (nx T p + 1)) 119))), .int (nI (rnV T (nx T p + 1))), .int (kdI (chI T (nx T p))), .ref (b + c)]) (c_X4_passes l D cA b M_13 L T (rnE T (psN T (rnE T (nx T p + 1)) 119)) 45 hT_13 hk r3_13 en_13.2 (by decide)) ⟨fw_340, fw_342, fs_5, fw_5, fw_343⟩ ⟨rfl, hd_X4_passes⟩ rfl ly_29 ⟨Nat.le_of_ble_eq_true rfl, Nat.le_of_ble_eq_true rfl⟩ ⟨Nat.le_of_ble_eq_true rfl, Nat.le_of_ble_eq_true rfl⟩ rfl rfl (Nat.le_of_ble_eq_true rfl) dX4_readPerson_77 (g_rix ?_)
          refine g_ifb_eq hC 87 dX4_readPerson_80 rfl (fun c_16 => ?_) (fun c_16 => ?_)
          · skip
            have hm := c_16
            refine g_iconst (v := 1) hC dX4_readPerson_87 rfl ?_
            refine g_callV hC (k := c) (ci := 1) (as := [.int (kdI (chI T (nx T p))), .int (nI (rnV T (nx T p + 1))), .int (nI (rnV T (psN T (rnE T (nx T p + 1)) 119))), .int 1]) (rest := []) (c_X1_become l D cA b (fm_up M_13 29 2 (nI (psN T (rnE T (psN T (rnE T (nx T p + 1)) 119)) 45))) L c (kdI (chI T (nx T p))) (nI (rnV T (nx T p + 1))) (nI (rnV T (psN T (rnE T (nx T p + 1)) 119))) 1 hc) ⟨fw_344, fw_232, fw_233, fw_3, fw_234⟩ ⟨rfl, hd_X1_become⟩ rfl hc ⟨Nat.le_of_ble_eq_true rfl, Nat.le_of_ble_eq_true rfl⟩ ⟨Nat.le_of_ble_eq_true rfl, Nat.le_of_ble_eq_true rfl⟩ rfl rfl (Nat.le_of_ble_eq_true rfl) dX4_readPerson_88 (g_rvx ?_)
            refine g_iconst (v := 0) hC dX4_readPerson_91 rfl ?_
            refine g_zret (ty := .int) hC rfl rfl dX4_readPerson_92 ?_
            have e0 : rpS T p = .inl ((kdI (chI T (nx T p))).toInt.toNat, rnV T (nx T p + 1), rnV T (psN T (rnE T (nx T p + 1)) 119), 1, psN T (rnE T (psN T (rnE T (nx T p + 1)) 119)) 45) := by unfold rpS; rw [if_neg (by omega), if_neg (fun q => q oka), if_pos hw, if_neg (fun q => q okb), if_neg hm]
            exact ⟨_, rfl, (fun q hq => (by rw [e0] at hq; cases hq)), (fun k h w m e hq => (by rw [e0] at hq; cases hq; exact ⟨rfl, be_0.trans (ic_nI (by omega)), be_1, be_2, be_3, by rw [be_n (by omega), fm_ups]⟩)), (fun i i1 i2 => (by rw [be_n (by omega), fm_upx i1, r5_13 i i1 i2, fm_upx i1, r5_4 i i1 i2, fm_upx i1, fm_upx i1])), (fun q q1 q2 => (by rw [be_n q2, fm_upn q1, r6_13 q q1, fm_upn q1, r6_4 q q1, fm_upn q1, fm_upn q1])), rfl⟩
          · skip
            have hm := c_16
            refine g_iconst (v := 0) hC dX4_readPerson_83 rfl ?_
            refine g_goto hC 88 dX4_readPerson_84 rfl ?_
            refine g_callV hC (k := c) (ci := 1) (as := [.int (kdI (chI T (nx T p))), .int (nI (rnV T (nx T p + 1))), .int (nI (rnV T (psN T (rnE T (nx T p + 1)) 119))), .int 0]) (rest := []) (c_X1_become l D cA b (fm_up M_13 29 2 (nI (psN T (rnE T (psN T (rnE T (nx T p + 1)) 119)) 45))) L c (kdI (chI T (nx T p))) (nI (rnV T (nx T p + 1))) (nI (rnV T (psN T (rnE T (nx T p + 1)) 119))) 0 hc) ⟨fw_344, fw_232, fw_233, fw_3, fw_234⟩ ⟨rfl, hd_X1_become⟩ rfl hc ⟨Nat.le_of_ble_eq_true rfl, Nat.le_of_ble_eq_true rfl⟩ ⟨Nat.le_of_ble_eq_true rfl, Nat.le_of_ble_eq_true rfl⟩ rfl rfl (Nat.le_of_ble_eq_true rfl) dX4_readPerson_88 (g_rvx ?_)
            refine g_iconst (v := 0) hC dX4_readPerson_91 rfl ?_
            refine g_zret (ty := .int) hC rfl rfl dX4_readPerson_92 ?_
            have e0 : rpS T p = .inl ((kdI (chI T (nx T p))).toInt.toNat, rnV T (nx T p + 1), rnV T (psN T (rnE T (nx T p + 1)) 119), 0, psN T (rnE T (psN T (rnE T (nx T p + 1)) 119)) 45) := by unfold rpS; rw [if_neg (by omega), if_neg (fun q => q oka), if_pos hw, if_neg (fun q => q okb), if_pos hm]
            exact ⟨_, rfl, (fun q hq => (by rw [e0] at hq; cases hq)), (fun k h w m e hq => (by rw [e0] at hq; cases hq; exact ⟨rfl, be_0.trans (ic_nI (by omega)), be_1, be_2, be_3, by rw [be_n (by omega), fm_ups]⟩)), (fun i i1 i2 => (by rw [be_n (by omega), fm_upx i1, r5_13 i i1 i2, fm_upx i1, r5_4 i i1 i2, fm_upx i1, fm_upx i1])), (fun q q1 q2 => (by rw [be_n q2, fm_upn q1, r6_13 q q1, fm_upn q1, r6_4 q q1, fm_upn q1, fm_upn q1])), rfl⟩
        · skip
          have nkb : ¬ rnOk T (psN T (rnE T (nx T p + 1)) 119) 99 := fun q => absurd (g_13.mpr q) (by omega)
          refine g_iload hC dX4_readPerson_66 0 rfl ?_
          refine g_zret (ty := .int) hC rfl rfl dX4_readPerson_68 ?_
          have e0 : rpS T p = .inr (nx T (psN T (rnE T (nx T p + 1)) 119)) := by unfold rpS; rw [if_neg (by omega), if_neg (fun q => q oka), if_pos hw, if_pos (show ¬ (fig T (nx T (psN T (rnE T (nx T p + 1)) 119)) ∧ rnV T (psN T (rnE T (nx T p + 1)) 119) ≤ 99) from nkb)]
          exact ⟨_, rfl, (fun q hq => (by rw [e0] at hq; cases hq; exact r2_13 nkb)), (fun k h w m e hq => (by rw [e0] at hq; cases hq)), (fun i i1 i2 => (by rw [r5_13 i i1 i2, fm_upx i1, r5_4 i i1 i2, fm_upx i1, fm_upx i1])), (fun q q1 q2 => (by rw [r6_13 q q1, fm_upn q1, r6_4 q q1, fm_upn q1, fm_upn q1])), rfl⟩
    · skip
      have nka : ¬ rnOk T (nx T p + 1) 23 := fun q => absurd (g_4.mpr q) (by omega)
      refine g_iload_n hC dX4_readPerson_38 rfl 0 rfl ?_
      refine g_zret (ty := .int) hC rfl rfl dX4_readPerson_39 ?_
      have e0 : rpS T p = .inr (nx T (nx T p + 1)) := by unfold rpS; rw [if_neg (by omega), if_pos (show ¬ (fig T (nx T (nx T p + 1)) ∧ rnV T (nx T p + 1) ≤ 23) from nka)]
      exact ⟨_, rfl, (fun q hq => (by rw [e0] at hq; cases hq; exact r2_4 nka)), (fun k h w m e hq => (by rw [e0] at hq; cases hq)), (fun i i1 i2 => (by rw [r5_4 i i1 i2, fm_upx i1, fm_upx i1])), (fun q q1 q2 => (by rw [r6_4 q q1, fm_upn q1, fm_upn q1])), rfl⟩
  · skip
    refine g_aload_n hC dX4_readPerson_12 rfl 1 rfl ?_
    refine g_callV hC (k := 29) (ci := 4) (as := []) (rest := []) (c_X4_faultHere l D cA b (fm_up M 29 2 (nI (nx T p))) L (nx T p) fm_ups) ⟨fw_328, fw_330, fs_3, fw_5, fw_331⟩ ⟨rfl, hd_X4_faultHere⟩ rfl ly_29 ⟨Nat.le_of_ble_eq_true rfl, Nat.le_of_ble_eq_true rfl⟩ ⟨Nat.le_of_ble_eq_true rfl, Nat.le_of_ble_eq_true rfl⟩ rfl rfl (Nat.le_of_ble_eq_true rfl) dX4_readPerson_13 (g_rix ?_)
    refine g_zret (ty := .int) hC rfl rfl dX4_readPerson_16 ?_
    have e0 : rpS T p = .inr (nx T p) := by unfold rpS; rw [if_pos (by omega)]
    exact ⟨_, rfl, (fun q hq => (by rw [e0] at hq; cases hq; rfl)), (fun k h w m e hq => (by rw [e0] at hq; cases hq)), (fun i i1 i2 => fm_upx i1), (fun q q1 q2 => fm_upn q1), rfl⟩
