/-! ===== the tape: the check reads a person ===== -/
theorem pR_m {M M' : Nat → Nat → Int32} {T : Nat × (Nat → Nat)} (h : pR M T) (a : ∀ i, i ≠ 19 → M' 58 i = M 58 i) (c : M' 67 = M 67) : pR M' T := by
  unfold pR
  rw [a 18 (by decide), c]; exact h
theorem rn_ge2 {T : Nat × (Nat → Nat)} {p mo : Nat} {r : Int32} {X Y : Prop} (h1 : rnOk T p mo → r = nI (rnV T p) ∧ X) (h2 : ¬ rnOk T p mo → r = -1 ∧ Y) (hm : mo < 1000) : 0 ≤ r.toInt ↔ rnOk T p mo := by
  by_cases q : rnOk T p mo
  · have := q.2
    rw [(h1 q).1, nI_toInt (by omega)]
    exact ⟨fun _ => q, fun _ => by omega⟩
  · rw [(h2 q).1]
    exact ⟨fun z => absurd z (by decide), fun z => absurd z q⟩

theorem c_X7_readOne (l : Launch) (D : va_G) (cA : Nat → ClassId) (b : Nat) (M : Nat → Nat → Int32) (L : Nat → Nat → Int64) (T : Nat × (Nat → Nat)) (p : Nat) (a : Nat) (hT : pR M T) (hk : pOK T) (hp : M 58 19 = nI p) (hle : p ≤ T.1) (ha : a + 4 ≤ 32) : fm_Met l D cA b yX7_readOne cX7_readOne 3 (some .boolean) 2 48 0 0 [.ref (b + 58), .int (nI a)] LAY M L LAY (fm_pm (fun r M' L' => (∀ q, rpS T p = .inr q → r = 0 ∧ M' 58 19 = nI q) ∧ (∀ k h w m e, rpS T p = .inl (k, h, w, m, e) → r = 1 ∧ M' 68 a = nI k ∧ M' 68 (a + 1) = nI h ∧ M' 68 (a + 2) = nI w ∧ M' 68 (a + 3) = nI m ∧ M' 58 19 = nI e) ∧ (∀ i, i ≠ 19 → M' 58 i = M 58 i) ∧ (∀ q, q ≠ 58 → q ≠ 68 → M' q = M q) ∧ (∀ j, (j < a ∨ a + 4 ≤ j) → M' 68 j = M 68 j) ∧ L' = L)) := by
  refine fm_start RX7 rfl (by decide) (Nat.le_of_ble_eq_true rfl) ?_
  intro pq eq sq mq aq bq tq cq hC hin
  have nl := nx_le hle
  obtain ⟨t1, t2⟩ := id hk
  refine g_aload_n hC dX7_readOne_0 rfl 0 rfl ?_
  refine g_callV hC (k := 58) (ci := 7) (as := []) (rest := []) (c_X7_nextByte l D cA b M L T p hT hk hp hle) ⟨fw_804, fw_806, fs_20, fw_9, fw_807⟩ ⟨rfl, hd_X7_nextByte⟩ rfl ly_58 ⟨Nat.le_of_ble_eq_true rfl, Nat.le_of_ble_eq_true rfl⟩ ⟨Nat.le_of_ble_eq_true rfl, Nat.le_of_ble_eq_true rfl⟩ rfl rfl (Nat.le_of_ble_eq_true rfl) dX7_readOne_1 (g_rix ?_)
  refine g_istore_n hC [(2, .int (chI T (nx T p))), (0, .ref (b + 58)), (1, .int (nI a))] dX7_readOne_4 rfl (by decide) rfl ?_
  refine g_aload_n hC dX7_readOne_5 rfl 1 rfl ?_
  refine g_getR (ci := 7) (i := 21) (k := 58) (t := 68) hC fm_in7 rfl ly_58 rfl (by decide) fw_641 dX7_readOne_6 ?_
  refine g_iload_n hC dX7_readOne_9 rfl 2 rfl ?_
  refine g_iload_n hC dX7_readOne_10 rfl 0 rfl ?_
  refine g_bipush (v := 99) hC dX7_readOne_11 rfl ?_
  refine g_icmp_ne_T (X := (chI T (nx T p)).toInt) (Y := 99) hC rfl rfl 20 dX7_readOne_13 rfl (fun c_2 => ?_) (fun c_2 => ?_)
  · skip
    refine g_iload_n hC dX7_readOne_20 rfl 0 rfl ?_
    refine g_bipush (v := 108) hC dX7_readOne_21 rfl ?_
    refine g_icmp_ne_T (X := (chI T (nx T p)).toInt) (Y := 108) hC rfl rfl 30 dX7_readOne_23 rfl (fun c_3 => ?_) (fun c_3 => ?_)
    · skip
      refine g_iload_n hC dX7_readOne_30 rfl 0 rfl ?_
      refine g_bipush (v := 107) hC dX7_readOne_31 rfl ?_
      refine g_icmp_ne_T (X := (chI T (nx T p)).toInt) (Y := 107) hC rfl rfl 40 dX7_readOne_33 rfl (fun c_4 => ?_) (fun c_4 => ?_)
      · skip
        refine g_iload_n hC dX7_readOne_40 rfl 0 rfl ?_
        refine g_bipush (v := 112) hC dX7_readOne_41 rfl ?_
        refine g_icmp_ne_T (X := (chI T (nx T p)).toInt) (Y := 112) hC rfl rfl 50 dX7_readOne_43 rfl (fun c_5 => ?_) (fun c_5 => ?_)
        · skip
          refine g_iconst (v := (-1)) hC dX7_readOne_50 rfl ?_
          refine g_top (y := kdI (chI T (nx T p))) (by unfold kdI; (repeat' split) <;> first | rfl | (exfalso; omega)) ?_
          refine g_iastN (j := a) (k := 68) hC ly_68 rfl (by omega) (by decide) dX7_readOne_51 ?_
          refine g_aload_n hC dX7_readOne_52 rfl 1 rfl ?_
          refine g_getR (ci := 7) (i := 21) (k := 58) (t := 68) hC fm_in7 rfl ly_58 rfl (by decide) fw_641 dX7_readOne_53 ?_
          refine g_iload_n hC dX7_readOne_56 rfl 2 rfl ?_
          refine g_ialdN (j := a) (k := 68) hC ly_68 rfl (by omega) (by decide) dX7_readOne_57 ?_
          refine g_top (y := kdI (chI T (nx T p))) (by simp [fm_up, fm_row, upd]) ?_
          refine g_if_ge_T (X := (kdI (chI T (nx T p))).toInt) hC rfl 63 dX7_readOne_58 rfl (fun c_6 => ?_) (fun c_6 => ?_)
          · skip
            have kl := kd_lt (T := T) (q := nx T p) c_6
            refine g_aload_n hC dX7_readOne_63 rfl 1 rfl ?_
            refine g_dup hC dX7_readOne_64 rfl ?_
            refine g_getI (ci := 7) (i := 19) (k := 58) hC fm_in7 rfl ly_58 rfl (by decide) fw_639 dX7_readOne_65 ?_
            refine g_top (y := nI (nx T p)) (by simp [fm_up, fm_row, upd]) ?_
            refine g_iconst (v := 1) hC dX7_readOne_68 rfl ?_
            refine g_iadd hC dX7_readOne_69 ?_
            refine g_top (y := nI ((nx T p) + 1)) (nI_add _ _) ?_
            refine g_putI (ci := 7) (i := 19) (k := 58) hC fm_in7 tyX7 tyX7_ok nmX7 rfl ly_58 rfl (by decide) fw_639 rfl rfl rfl dX7_readOne_70 ?_
            refine g_aload_n hC dX7_readOne_73 rfl 1 rfl ?_
            refine g_getR (ci := 7) (i := 21) (k := 58) (t := 68) hC fm_in7 rfl ly_58 rfl (by decide) fw_641 dX7_readOne_74 ?_
            refine g_iload_n hC dX7_readOne_77 rfl 2 rfl ?_
            refine g_iconst (v := 1) hC dX7_readOne_78 rfl ?_
            refine g_iadd hC dX7_readOne_79 ?_
            refine g_top (y := nI (a + 1)) (nI_add _ _) ?_
            have hT1 : pR (fm_up (fm_up (fm_up M 58 19 (nI (nx T p))) 68 a (kdI (chI T (nx T p)))) 58 19 (nI ((nx T p) + 1))) T := pR_m hT (fun i i1 => by simp [fm_up, fm_row, upd, i1]) (by simp [fm_up, fm_row, upd])
            refine g_aload_n hC dX7_readOne_80 rfl 1 rfl ?_
            refine g_bipush (v := 23) hC dX7_readOne_81 rfl ?_
            refine g_callV hC (k := 58) (ci := 7) (as := [.int 23]) (rest := [.int (nI (a + 1)), .ref (b + 68)]) (c_X7_readNumber l D cA b (fm_up (fm_up (fm_up M 58 19 (nI (nx T p))) 68 a (kdI (chI T (nx T p)))) 58 19 (nI ((nx T p) + 1))) L T (nx T p + 1) 23 hT1 hk fm_ups (by omega) (by decide)) ⟨fw_808, fw_810, fs_21, fw_9, fw_811⟩ ⟨rfl, hd_X7_readNumber⟩ rfl ly_58 ⟨Nat.le_of_ble_eq_true rfl, Nat.le_of_ble_eq_true rfl⟩ ⟨Nat.le_of_ble_eq_true rfl, Nat.le_of_ble_eq_true rfl⟩ rfl rfl (Nat.le_of_ble_eq_true rfl) dX7_readOne_83 (g_rm (fun r_7 M_7 L_7 h_7 => ?_))
            obtain ⟨r1_7, r2_7, r5_7, r6_7, r7_7⟩ := h_7
            rw [r7_7]
            have g_7 : 0 ≤ (r_7).toInt ↔ rnOk T (nx T p + 1) 23 := rn_ge2 r1_7 r2_7 (by decide)
            have en_7 := rnE_le (T := T) (p := (nx T p + 1)) (by omega)
            have hT_7 : pR M_7 T := pR_m hT1 r5_7 (r6_7 67 (by decide))
            refine g_iastN (j := a + 1) (k := 68) hC ly_68 rfl (by omega) (by decide) dX7_readOne_86 ?_
            refine g_aload_n hC dX7_readOne_87 rfl 1 rfl ?_
            refine g_getR (ci := 7) (i := 21) (k := 58) (t := 68) hC fm_in7 rfl ly_58 rfl (by decide) fw_641 dX7_readOne_88 ?_
            refine g_iload_n hC dX7_readOne_91 rfl 2 rfl ?_
            refine g_iconst (v := 1) hC dX7_readOne_92 rfl ?_
            refine g_iadd hC dX7_readOne_93 ?_
            refine g_top (y := nI (a + 1)) (nI_add _ _) ?_
            refine g_ialdN (j := a + 1) (k := 68) hC ly_68 rfl (by omega) (by decide) dX7_readOne_94 ?_
            refine g_top (y := r_7) (by simp [fm_up, fm_row, upd]) ?_
            refine g_if_ge_T (X := r_7.toInt) hC rfl 100 dX7_readOne_95 rfl (fun c_8 => ?_) (fun c_8 => ?_)
            · skip
              have oka : rnOk T (nx T p + 1) 23 := g_7.mp c_8
              have rva := (r1_7 oka).1
              have rpa := (r1_7 oka).2
              refine g_aload_n hC dX7_readOne_100 rfl 1 rfl ?_
              refine g_getR (ci := 7) (i := 21) (k := 58) (t := 68) hC fm_in7 rfl ly_58 rfl (by decide) fw_641 dX7_readOne_101 ?_
              refine g_iload_n hC dX7_readOne_104 rfl 2 rfl ?_
              refine g_iconst (v := 2) hC dX7_readOne_105 rfl ?_
              refine g_iadd hC dX7_readOne_106 ?_
              refine g_top (y := nI (a + 2)) (nI_add _ _) ?_
              refine g_aload_n hC dX7_readOne_107 rfl 1 rfl ?_
              refine g_bipush (v := 119) hC dX7_readOne_108 rfl ?_
              refine g_callV hC (k := 58) (ci := 7) (as := [.int 119]) (rest := [.int (nI (a + 2)), .ref (b + 68)]) (c_X7_takes l D cA b (fm_up M_7 68 (a + 1) r_7) L T (rnE T (nx T p + 1)) 119 (pR_m hT_7 (fun i i1 => by simp [fm_up, fm_row, upd]) (by simp [fm_up, fm_row, upd])) hk (by rw [fm_upn (by decide)]; exact rpa) en_7.2 (by decide)) ⟨fw_815, fw_817, fs_22, fw_9, fw_818⟩ ⟨rfl, hd_X7_takes⟩ rfl ly_58 ⟨Nat.le_of_ble_eq_true rfl, Nat.le_of_ble_eq_true rfl⟩ ⟨Nat.le_of_ble_eq_true rfl, Nat.le_of_ble_eq_true rfl⟩ rfl rfl (Nat.le_of_ble_eq_true rfl) dX7_readOne_110 (g_rix ?_)
              have pl3 : (psN T (rnE T (nx T p + 1)) 119) ≤ T.1 := ps_le en_7.2 (by decide)
              have hT2 : pR (fm_up (fm_up M_7 68 (a + 1) r_7) 58 19 (nI (psN T (rnE T (nx T p + 1)) 119))) T := pR_m hT_7 (fun i i1 => by simp [fm_up, fm_row, upd, i1]) (by simp [fm_up, fm_row, upd])
              refine g_ifb_eq hC 125 dX7_readOne_113 rfl (fun c_10 => ?_) (fun c_10 => ?_)
              · skip
                have hw := c_10
                refine g_iconst (v := 1) hC dX7_readOne_125 rfl ?_
                refine g_iastN (j := a + 2) (k := 68) hC ly_68 rfl (by omega) (by decide) dX7_readOne_126 ?_
                refine g_aload_n hC dX7_readOne_127 rfl 1 rfl ?_
                refine g_getR (ci := 7) (i := 21) (k := 58) (t := 68) hC fm_in7 rfl ly_58 rfl (by decide) fw_641 dX7_readOne_128 ?_
                refine g_iload_n hC dX7_readOne_131 rfl 2 rfl ?_
                refine g_iconst (v := 2) hC dX7_readOne_132 rfl ?_
                refine g_iadd hC dX7_readOne_133 ?_
                refine g_top (y := nI (a + 2)) (nI_add _ _) ?_
                refine g_ialdN (j := a + 2) (k := 68) hC ly_68 rfl (by omega) (by decide) dX7_readOne_134 ?_
                refine g_top (y := 1) (by simp [fm_up, fm_row, upd]) ?_
                refine g_if_ge_T (X := 1) hC rfl 140 dX7_readOne_135 rfl (fun _ => ?_) (fun c_11 => absurd c_11 (by omega))
                refine g_aload_n hC dX7_readOne_140 rfl 1 rfl ?_
                refine g_getR (ci := 7) (i := 21) (k := 58) (t := 68) hC fm_in7 rfl ly_58 rfl (by decide) fw_641 dX7_readOne_141 ?_
                refine g_iload_n hC dX7_readOne_144 rfl 2 rfl ?_
                refine g_iconst (v := 3) hC dX7_readOne_145 rfl ?_
                refine g_iadd hC dX7_readOne_146 ?_
                refine g_top (y := nI (a + 3)) (nI_add _ _) ?_
                refine g_aload_n hC dX7_readOne_147 rfl 1 rfl ?_
                refine g_bipush (v := 45) hC dX7_readOne_148 rfl ?_
                refine g_callV hC (k := 58) (ci := 7) (as := [.int 45]) (rest := [.int (nI (a + 3)), .ref (b + 68)]) (c_X7_takes l D cA b (fm_up (fm_up (fm_up M_7 68 (a + 1) r_7) 58 19 (nI (psN T (rnE T (nx T p + 1)) 119))) 68 (a + 2) 1) L T (psN T (rnE T (nx T p + 1)) 119) 45 (pR_m hT2 (fun i i1 => by simp [fm_up, fm_row, upd]) (by simp [fm_up, fm_row, upd])) hk (by rw [fm_upn (by decide)]; exact fm_ups) pl3 (by decide)) ⟨fw_815, fw_817, fs_22, fw_9, fw_818⟩ ⟨rfl, hd_X7_takes⟩ rfl ly_58 ⟨Nat.le_of_ble_eq_true rfl, Nat.le_of_ble_eq_true rfl⟩ ⟨Nat.le_of_ble_eq_true rfl, Nat.le_of_ble_eq_true rfl⟩ rfl rfl (Nat.le_of_ble_eq_true rfl) dX7_readOne_150 (g_rix ?_)
                refine g_ifb_eq hC 160 dX7_readOne_153 rfl (fun c_13 => ?_) (fun c_13 => ?_)
                · skip
                  have hm := c_13
                  refine g_iconst (v := 1) hC dX7_readOne_160 rfl ?_
                  refine g_iastN (j := a + 3) (k := 68) hC ly_68 rfl (by omega) (by decide) dX7_readOne_161 ?_
                  refine g_iconst (v := 1) hC dX7_readOne_162 rfl ?_
                  refine g_zret (ty := .boolean) hC rfl rfl dX7_readOne_163 ?_
                  have e0 : rpS T p = .inl ((kdI (chI T (nx T p))).toInt.toNat, rnV T (nx T p + 1), 1, 1, psN T (psN T (rnE T (nx T p + 1)) 119) 45) := by unfold rpS; rw [if_neg (by omega), if_neg (fun q => q oka), if_neg hw, if_neg hm]
                  exact ⟨_, rfl, (fun q hq => (by rw [e0] at hq; cases hq)), (fun k h w m e hq => (by rw [e0] at hq; cases hq; exact ⟨rfl, (by rw [fm_upx (by omega), fm_upn (by decide), fm_upx (by omega), fm_upn (by decide), fm_upx (by omega), r6_7 68 (by decide), fm_upn (by decide), fm_ups]; exact ic_nI (by omega)), (by rw [fm_upx (by omega), fm_upn (by decide), fm_upx (by omega), fm_upn (by decide), fm_ups]; exact rva), (by rw [fm_upx (by omega), fm_upn (by decide), fm_ups]; rfl), (by rw [fm_ups]; rfl), (by rw [fm_upn (by decide), fm_ups])⟩)), (fun i i1 => (by rw [fm_upn (by decide), fm_upx i1, fm_upn (by decide), fm_upx i1, fm_upn (by decide), r5_7 i i1, fm_upx i1, fm_upn (by decide), fm_upx i1])), (fun q q1 q2 => (by rw [fm_upn q2, fm_upn q1, fm_upn q2, fm_upn q1, fm_upn q2, r6_7 q q1, fm_upn q1, fm_upn q2, fm_upn q1])), (fun j hj => (by rw [fm_upx (by omega), fm_upn (by decide), fm_upx (by omega), fm_upn (by decide), fm_upx (by omega), r6_7 68 (by decide), fm_upn (by decide), fm_upx (by omega), fm_upn (by decide)])), rfl⟩
                · skip
                  have hm := c_13
                  refine g_iconst (v := 0) hC dX7_readOne_156 rfl ?_
                  refine g_goto hC 161 dX7_readOne_157 rfl ?_
                  refine g_iastN (j := a + 3) (k := 68) hC ly_68 rfl (by omega) (by decide) dX7_readOne_161 ?_
                  refine g_iconst (v := 1) hC dX7_readOne_162 rfl ?_
                  refine g_zret (ty := .boolean) hC rfl rfl dX7_readOne_163 ?_
                  have e0 : rpS T p = .inl ((kdI (chI T (nx T p))).toInt.toNat, rnV T (nx T p + 1), 1, 0, psN T (psN T (rnE T (nx T p + 1)) 119) 45) := by unfold rpS; rw [if_neg (by omega), if_neg (fun q => q oka), if_neg hw, if_pos hm]
                  exact ⟨_, rfl, (fun q hq => (by rw [e0] at hq; cases hq)), (fun k h w m e hq => (by rw [e0] at hq; cases hq; exact ⟨rfl, (by rw [fm_upx (by omega), fm_upn (by decide), fm_upx (by omega), fm_upn (by decide), fm_upx (by omega), r6_7 68 (by decide), fm_upn (by decide), fm_ups]; exact ic_nI (by omega)), (by rw [fm_upx (by omega), fm_upn (by decide), fm_upx (by omega), fm_upn (by decide), fm_ups]; exact rva), (by rw [fm_upx (by omega), fm_upn (by decide), fm_ups]; rfl), (by rw [fm_ups]; rfl), (by rw [fm_upn (by decide), fm_ups])⟩)), (fun i i1 => (by rw [fm_upn (by decide), fm_upx i1, fm_upn (by decide), fm_upx i1, fm_upn (by decide), r5_7 i i1, fm_upx i1, fm_upn (by decide), fm_upx i1])), (fun q q1 q2 => (by rw [fm_upn q2, fm_upn q1, fm_upn q2, fm_upn q1, fm_upn q2, r6_7 q q1, fm_upn q1, fm_upn q2, fm_upn q1])), (fun j hj => (by rw [fm_upx (by omega), fm_upn (by decide), fm_upx (by omega), fm_upn (by decide), fm_upx (by omega), r6_7 68 (by decide), fm_upn (by decide), fm_upx (by omega), fm_upn (by decide)])), rfl⟩
              · skip
                have hw := c_10
                refine g_aload_n hC dX7_readOne_116 rfl 1 rfl ?_
                refine g_bipush (v := 99) hC dX7_readOne_117 rfl ?_
                refine g_callV hC (k := 58) (ci := 7) (as := [.int 99]) (rest := [.int (nI (a + 2)), .ref (b + 68)]) (c_X7_readNumber l D cA b (fm_up (fm_up M_7 68 (a + 1) r_7) 58 19 (nI (psN T (rnE T (nx T p + 1)) 119))) L T (psN T (rnE T (nx T p + 1)) 119) 99 hT2 hk fm_ups pl3 (by decide)) ⟨fw_808, fw_810, fs_21, fw_9, fw_811⟩ ⟨rfl, hd_X7_readNumber⟩ rfl ly_58 ⟨Nat.le_of_ble_eq_true rfl, Nat.le_of_ble_eq_true rfl⟩ ⟨Nat.le_of_ble_eq_true rfl, Nat.le_of_ble_eq_true rfl⟩ rfl rfl (Nat.le_of_ble_eq_true rfl) dX7_readOne_119 (g_rm (fun r_14 M_14 L_14 h_14 => ?_))
                obtain ⟨r1_14, r2_14, r5_14, r6_14, r7_14⟩ := h_14
                rw [r7_14]
                have g_14 : 0 ≤ (r_14).toInt ↔ rnOk T (psN T (rnE T (nx T p + 1)) 119) 99 := rn_ge2 r1_14 r2_14 (by decide)
                have en_14 := rnE_le (T := T) (p := (psN T (rnE T (nx T p + 1)) 119)) (by omega)
                have hT_14 : pR M_14 T := pR_m hT2 r5_14 (r6_14 67 (by decide))
                refine g_goto hC 126 dX7_readOne_122 rfl ?_
                refine g_iastN (j := a + 2) (k := 68) hC ly_68 rfl (by omega) (by decide) dX7_readOne_126 ?_
                refine g_aload_n hC dX7_readOne_127 rfl 1 rfl ?_
                refine g_getR (ci := 7) (i := 21) (k := 58) (t := 68) hC fm_in7 rfl ly_58 rfl (by decide) fw_641 dX7_readOne_128 ?_
                refine g_iload_n hC dX7_readOne_131 rfl 2 rfl ?_
                refine g_iconst (v := 2) hC dX7_readOne_132 rfl ?_
                refine g_iadd hC dX7_readOne_133 ?_
                refine g_top (y := nI (a + 2)) (nI_add _ _) ?_
                refine g_ialdN (j := a + 2) (k := 68) hC ly_68 rfl (by omega) (by decide) dX7_readOne_134 ?_
                refine g_top (y := r_14) (by simp [fm_up, fm_row, upd]) ?_
                refine g_if_ge_T (X := r_14.toInt) hC rfl 140 dX7_readOne_135 rfl (fun c_15 => ?_) (fun c_15 => ?_)
                · skip
                  have okb : rnOk T (psN T (rnE T (nx T p + 1)) 119) 99 := g_14.mp c_15
                  have rvb := (r1_14 okb).1
                  have rpb := (r1_14 okb).2
                  refine g_aload_n hC dX7_readOne_140 rfl 1 rfl ?_
                  refine g_getR (ci := 7) (i := 21) (k := 58) (t := 68) hC fm_in7 rfl ly_58 rfl (by decide) fw_641 dX7_readOne_141 ?_
                  refine g_iload_n hC dX7_readOne_144 rfl 2 rfl ?_
                  refine g_iconst (v := 3) hC dX7_readOne_145 rfl ?_
                  refine g_iadd hC dX7_readOne_146 ?_
                  refine g_top (y := nI (a + 3)) (nI_add _ _) ?_
                  refine g_aload_n hC dX7_readOne_147 rfl 1 rfl ?_
                  refine g_bipush (v := 45) hC dX7_readOne_148 rfl ?_
                  refine g_callV hC (k := 58) (ci := 7) (as := [.int 45]) (rest := [.int (nI (a + 3)), .ref (b + 68)]) (c_X7_takes l D cA b (fm_up M_14 68 (a + 2) r_14) L T (rnE T (psN T (rnE T (nx T p + 1)) 119)) 45 (pR_m hT_14 (fun i i1 => by simp [fm_up, fm_row, upd]) (by simp [fm_up, fm_row, upd])) hk (by rw [fm_upn (by decide)]; exact rpb) en_14.2 (by decide)) ⟨fw_815, fw_817, fs_22, fw_9, fw_818⟩ ⟨rfl, hd_X7_takes⟩ rfl ly_58 ⟨Nat.le_of_ble_eq_true rfl, Nat.le_of_ble_eq_true rfl⟩ ⟨Nat.le_of_ble_eq_true rfl, Nat.le_of_ble_eq_true rfl⟩ rfl rfl (Nat.le_of_ble_eq_true rfl) dX7_readOne_150 (g_rix ?_)
                  refine g_ifb_eq hC 160 dX7_readOne_153 rfl (fun c_17 => ?_) (fun c_17 => ?_)
                  · skip
                    have hm := c_17
                    refine g_iconst (v := 1) hC dX7_readOne_160 rfl ?_
                    refine g_iastN (j := a + 3) (k := 68) hC ly_68 rfl (by omega) (by decide) dX7_readOne_161 ?_
                    refine g_iconst (v := 1) hC dX7_readOne_162 rfl ?_
                    refine g_zret (ty := .boolean) hC rfl rfl dX7_readOne_163 ?_
                    have e0 : rpS T p = .inl ((kdI (chI T (nx T p))).toInt.toNat, rnV T (nx T p + 1), rnV T (psN T (rnE T (nx T p + 1)) 119), 1, psN T (rnE T (psN T (rnE T (nx T p + 1)) 119)) 45) := by unfold rpS; rw [if_neg (by omega), if_neg (fun q => q oka), if_pos hw, if_neg (fun q => q okb), if_neg hm]
                    exact ⟨_, rfl, (fun q hq => (by rw [e0] at hq; cases hq)), (fun k h w m e hq => (by rw [e0] at hq; cases hq; exact ⟨rfl, (by rw [fm_upx (by omega), fm_upn (by decide), fm_upx (by omega), r6_14 68 (by decide), fm_upn (by decide), fm_upx (by omega), r6_7 68 (by decide), fm_upn (by decide), fm_ups]; exact ic_nI (by omega)), (by rw [fm_upx (by omega), fm_upn (by decide), fm_upx (by omega), r6_14 68 (by decide), fm_upn (by decide), fm_ups]; exact rva), (by rw [fm_upx (by omega), fm_upn (by decide), fm_ups]; exact rvb), (by rw [fm_ups]; rfl), (by rw [fm_upn (by decide), fm_ups])⟩)), (fun i i1 => (by rw [fm_upn (by decide), fm_upx i1, fm_upn (by decide), r5_14 i i1, fm_upx i1, fm_upn (by decide), r5_7 i i1, fm_upx i1, fm_upn (by decide), fm_upx i1])), (fun q q1 q2 => (by rw [fm_upn q2, fm_upn q1, fm_upn q2, r6_14 q q1, fm_upn q1, fm_upn q2, r6_7 q q1, fm_upn q1, fm_upn q2, fm_upn q1])), (fun j hj => (by rw [fm_upx (by omega), fm_upn (by decide), fm_upx (by omega), r6_14 68 (by decide), fm_upn (by decide), fm_upx (by omega), r6_7 68 (by decide), fm_upn (by decide), fm_upx (by omega), fm_upn (by decide)])), rfl⟩
                  · skip
                    have hm := c_17
                    refine g_iconst (v := 0) hC dX7_readOne_156 rfl ?_
                    refine g_goto hC 161 dX7_readOne_157 rfl ?_
                    refine g_iastN (j := a + 3) (k := 68) hC ly_68 rfl (by omega) (by decide) dX7_readOne_161 ?_
                    refine g_iconst (v := 1) hC dX7_readOne_162 rfl ?_
                    refine g_zret (ty := .boolean) hC rfl rfl dX7_readOne_163 ?_
                    have e0 : rpS T p = .inl ((kdI (chI T (nx T p))).toInt.toNat, rnV T (nx T p + 1), rnV T (psN T (rnE T (nx T p + 1)) 119), 0, psN T (rnE T (psN T (rnE T (nx T p + 1)) 119)) 45) := by unfold rpS; rw [if_neg (by omega), if_neg (fun q => q oka), if_pos hw, if_neg (fun q => q okb), if_pos hm]
                    exact ⟨_, rfl, (fun q hq => (by rw [e0] at hq; cases hq)), (fun k h w m e hq => (by rw [e0] at hq; cases hq; exact ⟨rfl, (by rw [fm_upx (by omega), fm_upn (by decide), fm_upx (by omega), r6_14 68 (by decide), fm_upn (by decide), fm_upx (by omega), r6_7 68 (by decide), fm_upn (by decide), fm_ups]; exact ic_nI (by omega)), (by rw [fm_upx (by omega), fm_upn (by decide), fm_upx (by omega), r6_14 68 (by decide), fm_upn (by decide), fm_ups]; exact rva), (by rw [fm_upx (by omega), fm_upn (by decide), fm_ups]; exact rvb), (by rw [fm_ups]; rfl), (by rw [fm_upn (by decide), fm_ups])⟩)), (fun i i1 => (by rw [fm_upn (by decide), fm_upx i1, fm_upn (by decide), r5_14 i i1, fm_upx i1, fm_upn (by decide), r5_7 i i1, fm_upx i1, fm_upn (by decide), fm_upx i1])), (fun q q1 q2 => (by rw [fm_upn q2, fm_upn q1, fm_upn q2, r6_14 q q1, fm_upn q1, fm_upn q2, r6_7 q q1, fm_upn q1, fm_upn q2, fm_upn q1])), (fun j hj => (by rw [fm_upx (by omega), fm_upn (by decide), fm_upx (by omega), r6_14 68 (by decide), fm_upn (by decide), fm_upx (by omega), r6_7 68 (by decide), fm_upn (by decide), fm_upx (by omega), fm_upn (by decide)])), rfl⟩
                · skip
                  have nkb : ¬ rnOk T (psN T (rnE T (nx T p + 1)) 119) 99 := fun q => absurd (g_14.mpr q) (by omega)
                  have rpb := (r2_14 nkb).2
                  refine g_iconst (v := 0) hC dX7_readOne_138 rfl ?_
                  refine g_zret (ty := .boolean) hC rfl rfl dX7_readOne_139 ?_
                  have e0 : rpS T p = .inr (nx T (psN T (rnE T (nx T p + 1)) 119)) := by unfold rpS; rw [if_neg (by omega), if_neg (fun q => q oka), if_pos hw, if_pos (show ¬ (fig T (nx T (psN T (rnE T (nx T p + 1)) 119)) ∧ rnV T (psN T (rnE T (nx T p + 1)) 119) ≤ 99) from nkb)]
                  exact ⟨_, rfl, (fun q hq => (by rw [e0] at hq; cases hq; exact ⟨rfl, (by rw [fm_upn (by decide)]; exact rpb)⟩)), (fun k h w m e hq => (by rw [e0] at hq; cases hq)), (fun i i1 => (by rw [fm_upn (by decide), r5_14 i i1, fm_upx i1, fm_upn (by decide), r5_7 i i1, fm_upx i1, fm_upn (by decide), fm_upx i1])), (fun q q1 q2 => (by rw [fm_upn q2, r6_14 q q1, fm_upn q1, fm_upn q2, r6_7 q q1, fm_upn q1, fm_upn q2, fm_upn q1])), (fun j hj => (by rw [fm_upx (by omega), r6_14 68 (by decide), fm_upn (by decide), fm_upx (by omega), r6_7 68 (by decide), fm_upn (by decide), fm_upx (by omega), fm_upn (by decide)])), rfl⟩
            · skip
              have nka : ¬ rnOk T (nx T p + 1) 23 := fun q => absurd (g_7.mpr q) (by omega)
              have rpa := (r2_7 nka).2
              refine g_iconst (v := 0) hC dX7_readOne_98 rfl ?_
              refine g_zret (ty := .boolean) hC rfl rfl dX7_readOne_99 ?_
              have e0 : rpS T p = .inr (nx T (nx T p + 1)) := by unfold rpS; rw [if_neg (by omega), if_pos (show ¬ (fig T (nx T (nx T p + 1)) ∧ rnV T (nx T p + 1) ≤ 23) from nka)]
              exact ⟨_, rfl, (fun q hq => (by rw [e0] at hq; cases hq; exact ⟨rfl, (by rw [fm_upn (by decide)]; exact rpa)⟩)), (fun k h w m e hq => (by rw [e0] at hq; cases hq)), (fun i i1 => (by rw [fm_upn (by decide), r5_7 i i1, fm_upx i1, fm_upn (by decide), fm_upx i1])), (fun q q1 q2 => (by rw [fm_upn q2, r6_7 q q1, fm_upn q1, fm_upn q2, fm_upn q1])), (fun j hj => (by rw [fm_upx (by omega), r6_7 68 (by decide), fm_upn (by decide), fm_upx (by omega), fm_upn (by decide)])), rfl⟩
          · skip
            refine g_iconst (v := 0) hC dX7_readOne_61 rfl ?_
            refine g_zret (ty := .boolean) hC rfl rfl dX7_readOne_62 ?_
            have e0 : rpS T p = .inr (nx T p) := by unfold rpS; rw [if_pos (by omega)]
            exact ⟨_, rfl, (fun q hq => (by rw [e0] at hq; cases hq; exact ⟨rfl, (by rw [fm_upn (by decide), fm_ups])⟩)), (fun k h w m e hq => (by rw [e0] at hq; cases hq)), (fun i i1 => (by rw [fm_upn (by decide), fm_upx i1])), (fun q q1 q2 => (by rw [fm_upn q2, fm_upn q1])), (fun j hj => (by rw [fm_upx (by omega), fm_upn (by decide)])), rfl⟩
        · skip
          refine g_iconst (v := 3) hC dX7_readOne_46 rfl ?_
          refine g_goto hC 51 dX7_readOne_47 rfl ?_
          refine g_top (y := kdI (chI T (nx T p))) (by unfold kdI; (repeat' split) <;> first | rfl | (exfalso; omega)) ?_
          refine g_iastN (j := a) (k := 68) hC ly_68 rfl (by omega) (by decide) dX7_readOne_51 ?_
          refine g_aload_n hC dX7_readOne_52 rfl 1 rfl ?_
          refine g_getR (ci := 7) (i := 21) (k := 58) (t := 68) hC fm_in7 rfl ly_58 rfl (by decide) fw_641 dX7_readOne_53 ?_
          refine g_iload_n hC dX7_readOne_56 rfl 2 rfl ?_
          refine g_ialdN (j := a) (k := 68) hC ly_68 rfl (by omega) (by decide) dX7_readOne_57 ?_
          refine g_top (y := kdI (chI T (nx T p))) (by simp [fm_up, fm_row, upd]) ?_
          refine g_if_ge_T (X := (kdI (chI T (nx T p))).toInt) hC rfl 63 dX7_readOne_58 rfl (fun c_18 => ?_) (fun c_18 => ?_)
          · skip
            have kl := kd_lt (T := T) (q := nx T p) c_18
            refine g_aload_n hC dX7_readOne_63 rfl 1 rfl ?_
            refine g_dup hC dX7_readOne_64 rfl ?_
            refine g_getI (ci := 7) (i := 19) (k := 58) hC fm_in7 rfl ly_58 rfl (by decide) fw_639 dX7_readOne_65 ?_
            refine g_top (y := nI (nx T p)) (by simp [fm_up, fm_row, upd]) ?_
            refine g_iconst (v := 1) hC dX7_readOne_68 rfl ?_
            refine g_iadd hC dX7_readOne_69 ?_
            refine g_top (y := nI ((nx T p) + 1)) (nI_add _ _) ?_
            refine g_putI (ci := 7) (i := 19) (k := 58) hC fm_in7 tyX7 tyX7_ok nmX7 rfl ly_58 rfl (by decide) fw_639 rfl rfl rfl dX7_readOne_70 ?_
            refine g_aload_n hC dX7_readOne_73 rfl 1 rfl ?_
            refine g_getR (ci := 7) (i := 21) (k := 58) (t := 68) hC fm_in7 rfl ly_58 rfl (by decide) fw_641 dX7_readOne_74 ?_
            refine g_iload_n hC dX7_readOne_77 rfl 2 rfl ?_
            refine g_iconst (v := 1) hC dX7_readOne_78 rfl ?_
            refine g_iadd hC dX7_readOne_79 ?_
            refine g_top (y := nI (a + 1)) (nI_add _ _) ?_
            have hT1 : pR (fm_up (fm_up (fm_up M 58 19 (nI (nx T p))) 68 a (kdI (chI T (nx T p)))) 58 19 (nI ((nx T p) + 1))) T := pR_m hT (fun i i1 => by simp [fm_up, fm_row, upd, i1]) (by simp [fm_up, fm_row, upd])
            refine g_aload_n hC dX7_readOne_80 rfl 1 rfl ?_
            refine g_bipush (v := 23) hC dX7_readOne_81 rfl ?_
            refine g_callV hC (k := 58) (ci := 7) (as := [.int 23]) (rest := [.int (nI (a + 1)), .ref (b + 68)]) (c_X7_readNumber l D cA b (fm_up (fm_up (fm_up M 58 19 (nI (nx T p))) 68 a (kdI (chI T (nx T p)))) 58 19 (nI ((nx T p) + 1))) L T (nx T p + 1) 23 hT1 hk fm_ups (by omega) (by decide)) ⟨fw_808, fw_810, fs_21, fw_9, fw_811⟩ ⟨rfl, hd_X7_readNumber⟩ rfl ly_58 ⟨Nat.le_of_ble_eq_true rfl, Nat.le_of_ble_eq_true rfl⟩ ⟨Nat.le_of_ble_eq_true rfl, Nat.le_of_ble_eq_true rfl⟩ rfl rfl (Nat.le_of_ble_eq_true rfl) dX7_readOne_83 (g_rm (fun r_19 M_19 L_19 h_19 => ?_))
            obtain ⟨r1_19, r2_19, r5_19, r6_19, r7_19⟩ := h_19
            rw [r7_19]
            have g_19 : 0 ≤ (r_19).toInt ↔ rnOk T (nx T p + 1) 23 := rn_ge2 r1_19 r2_19 (by decide)
            have en_19 := rnE_le (T := T) (p := (nx T p + 1)) (by omega)
            have hT_19 : pR M_19 T := pR_m hT1 r5_19 (r6_19 67 (by decide))
            refine g_iastN (j := a + 1) (k := 68) hC ly_68 rfl (by omega) (by decide) dX7_readOne_86 ?_
            refine g_aload_n hC dX7_readOne_87 rfl 1 rfl ?_
            refine g_getR (ci := 7) (i := 21) (k := 58) (t := 68) hC fm_in7 rfl ly_58 rfl (by decide) fw_641 dX7_readOne_88 ?_
            refine g_iload_n hC dX7_readOne_91 rfl 2 rfl ?_
            refine g_iconst (v := 1) hC dX7_readOne_92 rfl ?_
            refine g_iadd hC dX7_readOne_93 ?_
            refine g_top (y := nI (a + 1)) (nI_add _ _) ?_
            refine g_ialdN (j := a + 1) (k := 68) hC ly_68 rfl (by omega) (by decide) dX7_readOne_94 ?_
            refine g_top (y := r_19) (by simp [fm_up, fm_row, upd]) ?_
            refine g_if_ge_T (X := r_19.toInt) hC rfl 100 dX7_readOne_95 rfl (fun c_20 => ?_) (fun c_20 => ?_)
            · skip
              have oka : rnOk T (nx T p + 1) 23 := g_19.mp c_20
              have rva := (r1_19 oka).1
              have rpa := (r1_19 oka).2
              refine g_aload_n hC dX7_readOne_100 rfl 1 rfl ?_
              refine g_getR (ci := 7) (i := 21) (k := 58) (t := 68) hC fm_in7 rfl ly_58 rfl (by decide) fw_641 dX7_readOne_101 ?_
              refine g_iload_n hC dX7_readOne_104 rfl 2 rfl ?_
              refine g_iconst (v := 2) hC dX7_readOne_105 rfl ?_
              refine g_iadd hC dX7_readOne_106 ?_
              refine g_top (y := nI (a + 2)) (nI_add _ _) ?_
              refine g_aload_n hC dX7_readOne_107 rfl 1 rfl ?_
              refine g_bipush (v := 119) hC dX7_readOne_108 rfl ?_
              refine g_callV hC (k := 58) (ci := 7) (as := [.int 119]) (rest := [.int (nI (a + 2)), .ref (b + 68)]) (c_X7_takes l D cA b (fm_up M_19 68 (a + 1) r_19) L T (rnE T (nx T p + 1)) 119 (pR_m hT_19 (fun i i1 => by simp [fm_up, fm_row, upd]) (by simp [fm_up, fm_row, upd])) hk (by rw [fm_upn (by decide)]; exact rpa) en_19.2 (by decide)) ⟨fw_815, fw_817, fs_22, fw_9, fw_818⟩ ⟨rfl, hd_X7_takes⟩ rfl ly_58 ⟨Nat.le_of_ble_eq_true rfl, Nat.le_of_ble_eq_true rfl⟩ ⟨Nat.le_of_ble_eq_true rfl, Nat.le_of_ble_eq_true rfl⟩ rfl rfl (Nat.le_of_ble_eq_true rfl) dX7_readOne_110 (g_rix ?_)
              have pl3 : (psN T (rnE T (nx T p + 1)) 119) ≤ T.1 := ps_le en_19.2 (by decide)
              have hT2 : pR (fm_up (fm_up M_19 68 (a + 1) r_19) 58 19 (nI (psN T (rnE T (nx T p + 1)) 119))) T := pR_m hT_19 (fun i i1 => by simp [fm_up, fm_row, upd, i1]) (by simp [fm_up, fm_row, upd])
              refine g_ifb_eq hC 125 dX7_readOne_113 rfl (fun c_22 => ?_) (fun c_22 => ?_)
              · skip
                have hw := c_22
                refine g_iconst (v := 1) hC dX7_readOne_125 rfl ?_
                refine g_iastN (j := a + 2) (k := 68) hC ly_68 rfl (by omega) (by decide) dX7_readOne_126 ?_
                refine g_aload_n hC dX7_readOne_127 rfl 1 rfl ?_
                refine g_getR (ci := 7) (i := 21) (k := 58) (t := 68) hC fm_in7 rfl ly_58 rfl (by decide) fw_641 dX7_readOne_128 ?_
                refine g_iload_n hC dX7_readOne_131 rfl 2 rfl ?_
                refine g_iconst (v := 2) hC dX7_readOne_132 rfl ?_
                refine g_iadd hC dX7_readOne_133 ?_
                refine g_top (y := nI (a + 2)) (nI_add _ _) ?_
                refine g_ialdN (j := a + 2) (k := 68) hC ly_68 rfl (by omega) (by decide) dX7_readOne_134 ?_
                refine g_top (y := 1) (by simp [fm_up, fm_row, upd]) ?_
                refine g_if_ge_T (X := 1) hC rfl 140 dX7_readOne_135 rfl (fun _ => ?_) (fun c_23 => absurd c_23 (by omega))
                refine g_aload_n hC dX7_readOne_140 rfl 1 rfl ?_
                refine g_getR (ci := 7) (i := 21) (k := 58) (t := 68) hC fm_in7 rfl ly_58 rfl (by decide) fw_641 dX7_readOne_141 ?_
                refine g_iload_n hC dX7_readOne_144 rfl 2 rfl ?_
                refine g_iconst (v := 3) hC dX7_readOne_145 rfl ?_
                refine g_iadd hC dX7_readOne_146 ?_
                refine g_top (y := nI (a + 3)) (nI_add _ _) ?_
                refine g_aload_n hC dX7_readOne_147 rfl 1 rfl ?_
                refine g_bipush (v := 45) hC dX7_readOne_148 rfl ?_
                refine g_callV hC (k := 58) (ci := 7) (as := [.int 45]) (rest := [.int (nI (a + 3)), .ref (b + 68)]) (c_X7_takes l D cA b (fm_up (fm_up (fm_up M_19 68 (a + 1) r_19) 58 19 (nI (psN T (rnE T (nx T p + 1)) 119))) 68 (a + 2) 1) L T (psN T (rnE T (nx T p + 1)) 119) 45 (pR_m hT2 (fun i i1 => by simp [fm_up, fm_row, upd]) (by simp [fm_up, fm_row, upd])) hk (by rw [fm_upn (by decide)]; exact fm_ups) pl3 (by decide)) ⟨fw_815, fw_817, fs_22, fw_9, fw_818⟩ ⟨rfl, hd_X7_takes⟩ rfl ly_58 ⟨Nat.le_of_ble_eq_true rfl, Nat.le_of_ble_eq_true rfl⟩ ⟨Nat.le_of_ble_eq_true rfl, Nat.le_of_ble_eq_true rfl⟩ rfl rfl (Nat.le_of_ble_eq_true rfl) dX7_readOne_150 (g_rix ?_)
                refine g_ifb_eq hC 160 dX7_readOne_153 rfl (fun c_25 => ?_) (fun c_25 => ?_)
                · skip
                  have hm := c_25
                  refine g_iconst (v := 1) hC dX7_readOne_160 rfl ?_
                  refine g_iastN (j := a + 3) (k := 68) hC ly_68 rfl (by omega) (by decide) dX7_readOne_161 ?_
                  refine g_iconst (v := 1) hC dX7_readOne_162 rfl ?_
                  refine g_zret (ty := .boolean) hC rfl rfl dX7_readOne_163 ?_
                  have e0 : rpS T p = .inl ((kdI (chI T (nx T p))).toInt.toNat, rnV T (nx T p + 1), 1, 1, psN T (psN T (rnE T (nx T p + 1)) 119) 45) := by unfold rpS; rw [if_neg (by omega), if_neg (fun q => q oka), if_neg hw, if_neg hm]
                  exact ⟨_, rfl, (fun q hq => (by rw [e0] at hq; cases hq)), (fun k h w m e hq => (by rw [e0] at hq; cases hq; exact ⟨rfl, (by rw [fm_upx (by omega), fm_upn (by decide), fm_upx (by omega), fm_upn (by decide), fm_upx (by omega), r6_19 68 (by decide), fm_upn (by decide), fm_ups]; exact ic_nI (by omega)), (by rw [fm_upx (by omega), fm_upn (by decide), fm_upx (by omega), fm_upn (by decide), fm_ups]; exact rva), (by rw [fm_upx (by omega), fm_upn (by decide), fm_ups]; rfl), (by rw [fm_ups]; rfl), (by rw [fm_upn (by decide), fm_ups])⟩)), (fun i i1 => (by rw [fm_upn (by decide), fm_upx i1, fm_upn (by decide), fm_upx i1, fm_upn (by decide), r5_19 i i1, fm_upx i1, fm_upn (by decide), fm_upx i1])), (fun q q1 q2 => (by rw [fm_upn q2, fm_upn q1, fm_upn q2, fm_upn q1, fm_upn q2, r6_19 q q1, fm_upn q1, fm_upn q2, fm_upn q1])), (fun j hj => (by rw [fm_upx (by omega), fm_upn (by decide), fm_upx (by omega), fm_upn (by decide), fm_upx (by omega), r6_19 68 (by decide), fm_upn (by decide), fm_upx (by omega), fm_upn (by decide)])), rfl⟩
                · skip
                  have hm := c_25
                  refine g_iconst (v := 0) hC dX7_readOne_156 rfl ?_
                  refine g_goto hC 161 dX7_readOne_157 rfl ?_
                  refine g_iastN (j := a + 3) (k := 68) hC ly_68 rfl (by omega) (by decide) dX7_readOne_161 ?_
                  refine g_iconst (v := 1) hC dX7_readOne_162 rfl ?_
                  refine g_zret (ty := .boolean) hC rfl rfl dX7_readOne_163 ?_
                  have e0 : rpS T p = .inl ((kdI (chI T (nx T p))).toInt.toNat, rnV T (nx T p + 1), 1, 0, psN T (psN T (rnE T (nx T p + 1)) 119) 45) := by unfold rpS; rw [if_neg (by omega), if_neg (fun q => q oka), if_neg hw, if_pos hm]
                  exact ⟨_, rfl, (fun q hq => (by rw [e0] at hq; cases hq)), (fun k h w m e hq => (by rw [e0] at hq; cases hq; exact ⟨rfl, (by rw [fm_upx (by omega), fm_upn (by decide), fm_upx (by omega), fm_upn (by decide), fm_upx (by omega), r6_19 68 (by decide), fm_upn (by decide), fm_ups]; exact ic_nI (by omega)), (by rw [fm_upx (by omega), fm_upn (by decide), fm_upx (by omega), fm_upn (by decide), fm_ups]; exact rva), (by rw [fm_upx (by omega), fm_upn (by decide), fm_ups]; rfl), (by rw [fm_ups]; rfl), (by rw [fm_upn (by decide), fm_ups])⟩)), (fun i i1 => (by rw [fm_upn (by decide), fm_upx i1, fm_upn (by decide), fm_upx i1, fm_upn (by decide), r5_19 i i1, fm_upx i1, fm_upn (by decide), fm_upx i1])), (fun q q1 q2 => (by rw [fm_upn q2, fm_upn q1, fm_upn q2, fm_upn q1, fm_upn q2, r6_19 q q1, fm_upn q1, fm_upn q2, fm_upn q1])), (fun j hj => (by rw [fm_upx (by omega), fm_upn (by decide), fm_upx (by omega), fm_upn (by decide), fm_upx (by omega), r6_19 68 (by decide), fm_upn (by decide), fm_upx (by omega), fm_upn (by decide)])), rfl⟩
              · skip
                have hw := c_22
                refine g_aload_n hC dX7_readOne_116 rfl 1 rfl ?_
                refine g_bipush (v := 99) hC dX7_readOne_117 rfl ?_
                refine g_callV hC (k := 58) (ci := 7) (as := [.int 99]) (rest := [.int (nI (a + 2)), .ref (b + 68)]) (c_X7_readNumber l D cA b (fm_up (fm_up M_19 68 (a + 1) r_19) 58 19 (nI (psN T (rnE T (nx T p + 1)) 119))) L T (psN T (rnE T (nx T p + 1)) 119) 99 hT2 hk fm_ups pl3 (by decide)) ⟨fw_808, fw_810, fs_21, fw_9, fw_811⟩ ⟨rfl, hd_X7_readNumber⟩ rfl ly_58 ⟨Nat.le_of_ble_eq_true rfl, Nat.le_of_ble_eq_true rfl⟩ ⟨Nat.le_of_ble_eq_true rfl, Nat.le_of_ble_eq_true rfl⟩ rfl rfl (Nat.le_of_ble_eq_true rfl) dX7_readOne_119 (g_rm (fun r_26 M_26 L_26 h_26 => ?_))
                obtain ⟨r1_26, r2_26, r5_26, r6_26, r7_26⟩ := h_26
                rw [r7_26]
                have g_26 : 0 ≤ (r_26).toInt ↔ rnOk T (psN T (rnE T (nx T p + 1)) 119) 99 := rn_ge2 r1_26 r2_26 (by decide)
                have en_26 := rnE_le (T := T) (p := (psN T (rnE T (nx T p + 1)) 119)) (by omega)
                have hT_26 : pR M_26 T := pR_m hT2 r5_26 (r6_26 67 (by decide))
                refine g_goto hC 126 dX7_readOne_122 rfl ?_
                refine g_iastN (j := a + 2) (k := 68) hC ly_68 rfl (by omega) (by decide) dX7_readOne_126 ?_
                refine g_aload_n hC dX7_readOne_127 rfl 1 rfl ?_
                refine g_getR (ci := 7) (i := 21) (k := 58) (t := 68) hC fm_in7 rfl ly_58 rfl (by decide) fw_641 dX7_readOne_128 ?_
                refine g_iload_n hC dX7_readOne_131 rfl 2 rfl ?_
                refine g_iconst (v := 2) hC dX7_readOne_132 rfl ?_
                refine g_iadd hC dX7_readOne_133 ?_
                refine g_top (y := nI (a + 2)) (nI_add _ _) ?_
                refine g_ialdN (j := a + 2) (k := 68) hC ly_68 rfl (by omega) (by decide) dX7_readOne_134 ?_
                refine g_top (y := r_26) (by simp [fm_up, fm_row, upd]) ?_
                refine g_if_ge_T (X := r_26.toInt) hC rfl 140 dX7_readOne_135 rfl (fun c_27 => ?_) (fun c_27 => ?_)
                · skip
                  have okb : rnOk T (psN T (rnE T (nx T p + 1)) 119) 99 := g_26.mp c_27
                  have rvb := (r1_26 okb).1
                  have rpb := (r1_26 okb).2
                  refine g_aload_n hC dX7_readOne_140 rfl 1 rfl ?_
                  refine g_getR (ci := 7) (i := 21) (k := 58) (t := 68) hC fm_in7 rfl ly_58 rfl (by decide) fw_641 dX7_readOne_141 ?_
                  refine g_iload_n hC dX7_readOne_144 rfl 2 rfl ?_
                  refine g_iconst (v := 3) hC dX7_readOne_145 rfl ?_
                  refine g_iadd hC dX7_readOne_146 ?_
                  refine g_top (y := nI (a + 3)) (nI_add _ _) ?_
                  refine g_aload_n hC dX7_readOne_147 rfl 1 rfl ?_
                  refine g_bipush (v := 45) hC dX7_readOne_148 rfl ?_
                  refine g_callV hC (k := 58) (ci := 7) (as := [.int 45]) (rest := [.int (nI (a + 3)), .ref (b + 68)]) (c_X7_takes l D cA b (fm_up M_26 68 (a + 2) r_26) L T (rnE T (psN T (rnE T (nx T p + 1)) 119)) 45 (pR_m hT_26 (fun i i1 => by simp [fm_up, fm_row, upd]) (by simp [fm_up, fm_row, upd])) hk (by rw [fm_upn (by decide)]; exact rpb) en_26.2 (by decide)) ⟨fw_815, fw_817, fs_22, fw_9, fw_818⟩ ⟨rfl, hd_X7_takes⟩ rfl ly_58 ⟨Nat.le_of_ble_eq_true rfl, Nat.le_of_ble_eq_true rfl⟩ ⟨Nat.le_of_ble_eq_true rfl, Nat.le_of_ble_eq_true rfl⟩ rfl rfl (Nat.le_of_ble_eq_true rfl) dX7_readOne_150 (g_rix ?_)
                  refine g_ifb_eq hC 160 dX7_readOne_153 rfl (fun c_29 => ?_) (fun c_29 => ?_)
                  · skip
                    have hm := c_29
                    refine g_iconst (v := 1) hC dX7_readOne_160 rfl ?_
                    refine g_iastN (j := a + 3) (k := 68) hC ly_68 rfl (by omega) (by decide) dX7_readOne_161 ?_
                    refine g_iconst (v := 1) hC dX7_readOne_162 rfl ?_
                    refine g_zret (ty := .boolean) hC rfl rfl dX7_readOne_163 ?_
                    have e0 : rpS T p = .inl ((kdI (chI T (nx T p))).toInt.toNat, rnV T (nx T p + 1), rnV T (psN T (rnE T (nx T p + 1)) 119), 1, psN T (rnE T (psN T (rnE T (nx T p + 1)) 119)) 45) := by unfold rpS; rw [if_neg (by omega), if_neg (fun q => q oka), if_pos hw, if_neg (fun q => q okb), if_neg hm]
                    exact ⟨_, rfl, (fun q hq => (by rw [e0] at hq; cases hq)), (fun k h w m e hq => (by rw [e0] at hq; cases hq; exact ⟨rfl, (by rw [fm_upx (by omega), fm_upn (by decide), fm_upx (by omega), r6_26 68 (by decide), fm_upn (by decide), fm_upx (by omega), r6_19 68 (by decide), fm_upn (by decide), fm_ups]; exact ic_nI (by omega)), (by rw [fm_upx (by omega), fm_upn (by decide), fm_upx (by omega), r6_26 68 (by decide), fm_upn (by decide), fm_ups]; exact rva), (by rw [fm_upx (by omega), fm_upn (by decide), fm_ups]; exact rvb), (by rw [fm_ups]; rfl), (by rw [fm_upn (by decide), fm_ups])⟩)), (fun i i1 => (by rw [fm_upn (by decide), fm_upx i1, fm_upn (by decide), r5_26 i i1, fm_upx i1, fm_upn (by decide), r5_19 i i1, fm_upx i1, fm_upn (by decide), fm_upx i1])), (fun q q1 q2 => (by rw [fm_upn q2, fm_upn q1, fm_upn q2, r6_26 q q1, fm_upn q1, fm_upn q2, r6_19 q q1, fm_upn q1, fm_upn q2, fm_upn q1])), (fun j hj => (by rw [fm_upx (by omega), fm_upn (by decide), fm_upx (by omega), r6_26 68 (by decide), fm_upn (by decide), fm_upx (by omega), r6_19 68 (by decide), fm_upn (by decide), fm_upx (by omega), fm_upn (by decide)])), rfl⟩
                  · skip
                    have hm := c_29
                    refine g_iconst (v := 0) hC dX7_readOne_156 rfl ?_
                    refine g_goto hC 161 dX7_readOne_157 rfl ?_
                    refine g_iastN (j := a + 3) (k := 68) hC ly_68 rfl (by omega) (by decide) dX7_readOne_161 ?_
                    refine g_iconst (v := 1) hC dX7_readOne_162 rfl ?_
                    refine g_zret (ty := .boolean) hC rfl rfl dX7_readOne_163 ?_
                    have e0 : rpS T p = .inl ((kdI (chI T (nx T p))).toInt.toNat, rnV T (nx T p + 1), rnV T (psN T (rnE T (nx T p + 1)) 119), 0, psN T (rnE T (psN T (rnE T (nx T p + 1)) 119)) 45) := by unfold rpS; rw [if_neg (by omega), if_neg (fun q => q oka), if_pos hw, if_neg (fun q => q okb), if_pos hm]
                    exact ⟨_, rfl, (fun q hq => (by rw [e0] at hq; cases hq)), (fun k h w m e hq => (by rw [e0] at hq; cases hq; exact ⟨rfl, (by rw [fm_upx (by omega), fm_upn (by decide), fm_upx (by omega), r6_26 68 (by decide), fm_upn (by decide), fm_upx (by omega), r6_19 68 (by decide), fm_upn (by decide), fm_ups]; exact ic_nI (by omega)), (by rw [fm_upx (by omega), fm_upn (by decide), fm_upx (by omega), r6_26 68 (by decide), fm_upn (by decide), fm_ups]; exact rva), (by rw [fm_upx (by omega), fm_upn (by decide), fm_ups]; exact rvb), (by rw [fm_ups]; rfl), (by rw [fm_upn (by decide), fm_ups])⟩)), (fun i i1 => (by rw [fm_upn (by decide), fm_upx i1, fm_upn (by decide), r5_26 i i1, fm_upx i1, fm_upn (by decide), r5_19 i i1, fm_upx i1, fm_upn (by decide), fm_upx i1])), (fun q q1 q2 => (by rw [fm_upn q2, fm_upn q1, fm_upn q2, r6_26 q q1, fm_upn q1, fm_upn q2, r6_19 q q1, fm_upn q1, fm_upn q2, fm_upn q1])), (fun j hj => (by rw [fm_upx (by omega), fm_upn (by decide), fm_upx (by omega), r6_26 68 (by decide), fm_upn (by decide), fm_upx (by omega), r6_19 68 (by decide), fm_upn (by decide), fm_upx (by omega), fm_upn (by decide)])), rfl⟩
                · skip
                  have nkb : ¬ rnOk T (psN T (rnE T (nx T p + 1)) 119) 99 := fun q => absurd (g_26.mpr q) (by omega)
                  have rpb := (r2_26 nkb).2
                  refine g_iconst (v := 0) hC dX7_readOne_138 rfl ?_
                  refine g_zret (ty := .boolean) hC rfl rfl dX7_readOne_139 ?_
                  have e0 : rpS T p = .inr (nx T (psN T (rnE T (nx T p + 1)) 119)) := by unfold rpS; rw [if_neg (by omega), if_neg (fun q => q oka), if_pos hw, if_pos (show ¬ (fig T (nx T (psN T (rnE T (nx T p + 1)) 119)) ∧ rnV T (psN T (rnE T (nx T p + 1)) 119) ≤ 99) from nkb)]
                  exact ⟨_, rfl, (fun q hq => (by rw [e0] at hq; cases hq; exact ⟨rfl, (by rw [fm_upn (by decide)]; exact rpb)⟩)), (fun k h w m e hq => (by rw [e0] at hq; cases hq)), (fun i i1 => (by rw [fm_upn (by decide), r5_26 i i1, fm_upx i1, fm_upn (by decide), r5_19 i i1, fm_upx i1, fm_upn (by decide), fm_upx i1])), (fun q q1 q2 => (by rw [fm_upn q2, r6_26 q q1, fm_upn q1, fm_upn q2, r6_19 q q1, fm_upn q1, fm_upn q2, fm_upn q1])), (fun j hj => (by rw [fm_upx (by omega), r6_26 68 (by decide), fm_upn (by decide), fm_upx (by omega), r6_19 68 (by decide), fm_upn (by decide), fm_upx (by omega), fm_upn (by decide)])), rfl⟩
            · skip
              have nka : ¬ rnOk T (nx T p + 1) 23 := fun q => absurd (g_19.mpr q) (by omega)
              have rpa := (r2_19 nka).2
              refine g_iconst (v := 0) hC dX7_readOne_98 rfl ?_
              refine g_zret (ty := .boolean) hC rfl rfl dX7_readOne_99 ?_
              have e0 : rpS T p = .inr (nx T (nx T p + 1)) := by unfold rpS; rw [if_neg (by omega), if_pos (show ¬ (fig T (nx T (nx T p + 1)) ∧ rnV T (nx T p + 1) ≤ 23) from nka)]
              exact ⟨_, rfl, (fun q hq => (by rw [e0] at hq; cases hq; exact ⟨rfl, (by rw [fm_upn (by decide)]; exact rpa)⟩)), (fun k h w m e hq => (by rw [e0] at hq; cases hq)), (fun i i1 => (by rw [fm_upn (by decide), r5_19 i i1, fm_upx i1, fm_upn (by decide), fm_upx i1])), (fun q q1 q2 => (by rw [fm_upn q2, r6_19 q q1, fm_upn q1, fm_upn q2, fm_upn q1])), (fun j hj => (by rw [fm_upx (by omega), r6_19 68 (by decide), fm_upn (by decide), fm_upx (by omega), fm_upn (by decide)])), rfl⟩
          · skip
            refine g_iconst (v := 0) hC dX7_readOne_61 rfl ?_
            refine g_zret (ty := .boolean) hC rfl rfl dX7_readOne_62 ?_
            have e0 : rpS T p = .inr (nx T p) := by unfold rpS; rw [if_pos (by omega)]
            exact ⟨_, rfl, (fun q hq => (by rw [e0] at hq; cases hq; exact ⟨rfl, (by rw [fm_upn (by decide), fm_ups])⟩)), (fun k h w m e hq => (by rw [e0] at hq; cases hq)), (fun i i1 => (by rw [fm_upn (by decide), fm_upx i1])), (fun q q1 q2 => (by rw [fm_upn q2, fm_upn q1])), (fun j hj => (by rw [fm_upx (by omega), fm_upn (by decide)])), rfl⟩
      · skip
        refine g_iconst (v := 2) hC dX7_readOne_36 rfl ?_
        refine g_goto hC 51 dX7_readOne_37 rfl ?_
        refine g_top (y := kdI (chI T (nx T p))) (by unfold kdI; (repeat' split) <;> first | rfl | (exfalso; omega)) ?_
        refine g_iastN (j := a) (k := 68) hC ly_68 rfl (by omega) (by decide) dX7_readOne_51 ?_
        refine g_aload_n hC dX7_readOne_52 rfl 1 rfl ?_
        refine g_getR (ci := 7) (i := 21) (k := 58) (t := 68) hC fm_in7 rfl ly_58 rfl (by decide) fw_641 dX7_readOne_53 ?_
        refine g_iload_n hC dX7_readOne_56 rfl 2 rfl ?_
        refine g_ialdN (j := a) (k := 68) hC ly_68 rfl (by omega) (by decide) dX7_readOne_57 ?_
        refine g_top (y := kdI (chI T (nx T p))) (by simp [fm_up, fm_row, upd]) ?_
        refine g_if_ge_T (X := (kdI (chI T (nx T p))).toInt) hC rfl 63 dX7_readOne_58 rfl (fun c_30 => ?_) (fun c_30 => ?_)
        · skip
          have kl := kd_lt (T := T) (q := nx T p) c_30
          refine g_aload_n hC dX7_readOne_63 rfl 1 rfl ?_
          refine g_dup hC dX7_readOne_64 rfl ?_
          refine g_getI (ci := 7) (i := 19) (k := 58) hC fm_in7 rfl ly_58 rfl (by decide) fw_639 dX7_readOne_65 ?_
          refine g_top (y := nI (nx T p)) (by simp [fm_up, fm_row, upd]) ?_
          refine g_iconst (v := 1) hC dX7_readOne_68 rfl ?_
          refine g_iadd hC dX7_readOne_69 ?_
          refine g_top (y := nI ((nx T p) + 1)) (nI_add _ _) ?_
          refine g_putI (ci := 7) (i := 19) (k := 58) hC fm_in7 tyX7 tyX7_ok nmX7 rfl ly_58 rfl (by decide) fw_639 rfl rfl rfl dX7_readOne_70 ?_
          refine g_aload_n hC dX7_readOne_73 rfl 1 rfl ?_
          refine g_getR (ci := 7) (i := 21) (k := 58) (t := 68) hC fm_in7 rfl ly_58 rfl (by decide) fw_641 dX7_readOne_74 ?_
          refine g_iload_n hC dX7_readOne_77 rfl 2 rfl ?_
          refine g_iconst (v := 1) hC dX7_readOne_78 rfl ?_
          refine g_iadd hC dX7_readOne_79 ?_
          refine g_top (y := nI (a + 1)) (nI_add _ _) ?_
          have hT1 : pR (fm_up (fm_up (fm_up M 58 19 (nI (nx T p))) 68 a (kdI (chI T (nx T p)))) 58 19 (nI ((nx T p) + 1))) T := pR_m hT (fun i i1 => by simp [fm_up, fm_row, upd, i1]) (by simp [fm_up, fm_row, upd])
          refine g_aload_n hC dX7_readOne_80 rfl 1 rfl ?_
          refine g_bipush (v := 23) hC dX7_readOne_81 rfl ?_
          refine g_callV hC (k := 58) (ci := 7) (as := [.int 23]) (rest := [.int (nI (a + 1)), .ref (b + 68)]) (c_X7_readNumber l D cA b (fm_up (fm_up (fm_up M 58 19 (nI (nx T p))) 68 a (kdI (chI T (nx T p)))) 58 19 (nI ((nx T p) + 1))) L T (nx T p + 1) 23 hT1 hk fm_ups (by omega) (by decide)) ⟨fw_808, fw_810, fs_21, fw_9, fw_811⟩ ⟨rfl, hd_X7_readNumber⟩ rfl ly_58 ⟨Nat.le_of_ble_eq_true rfl, Nat.le_of_ble_eq_true rfl⟩ ⟨Nat.le_of_ble_eq_true rfl, Nat.le_of_ble_eq_true rfl⟩ rfl rfl (Nat.le_of_ble_eq_true rfl) dX7_readOne_83 (g_rm (fun r_31 M_31 L_31 h_31 => ?_))
          obtain ⟨r1_31, r2_31, r5_31, r6_31, r7_31⟩ := h_31
          rw [r7_31]
          have g_31 : 0 ≤ (r_31).toInt ↔ rnOk T (nx T p + 1) 23 := rn_ge2 r1_31 r2_31 (by decide)
          have en_31 := rnE_le (T := T) (p := (nx T p + 1)) (by omega)
          have hT_31 : pR M_31 T := pR_m hT1 r5_31 (r6_31 67 (by decide))
          refine g_iastN (j := a + 1) (k := 68) hC ly_68 rfl (by omega) (by decide) dX7_readOne_86 ?_
          refine g_aload_n hC dX7_readOne_87 rfl 1 rfl ?_
          refine g_getR (ci := 7) (i := 21) (k := 58) (t := 68) hC fm_in7 rfl ly_58 rfl (by decide) fw_641 dX7_readOne_88 ?_
          refine g_iload_n hC dX7_readOne_91 rfl 2 rfl ?_
          refine g_iconst (v := 1) hC dX7_readOne_92 rfl ?_
          refine g_iadd hC dX7_readOne_93 ?_
          refine g_top (y := nI (a + 1)) (nI_add _ _) ?_
          refine g_ialdN (j := a + 1) (k := 68) hC ly_68 rfl (by omega) (by decide) dX7_readOne_94 ?_
          refine g_top (y := r_31) (by simp [fm_up, fm_row, upd]) ?_
          refine g_if_ge_T (X := r_31.toInt) hC rfl 100 dX7_readOne_95 rfl (fun c_32 => ?_) (fun c_32 => ?_)
          · skip
            have oka : rnOk T (nx T p + 1) 23 := g_31.mp c_32
            have rva := (r1_31 oka).1
            have rpa := (r1_31 oka).2
            refine g_aload_n hC dX7_readOne_100 rfl 1 rfl ?_
            refine g_getR (ci := 7) (i := 21) (k := 58) (t := 68) hC fm_in7 rfl ly_58 rfl (by decide) fw_641 dX7_readOne_101 ?_
            refine g_iload_n hC dX7_readOne_104 rfl 2 rfl ?_
            refine g_iconst (v := 2) hC dX7_readOne_105 rfl ?_
            refine g_iadd hC dX7_readOne_106 ?_
            refine g_top (y := nI (a + 2)) (nI_add _ _) ?_
            refine g_aload_n hC dX7_readOne_107 rfl 1 rfl ?_
            refine g_bipush (v := 119) hC dX7_readOne_108 rfl ?_
            refine g_callV hC (k := 58) (ci := 7) (as := [.int 119]) (rest := [.int (nI (a + 2)), .ref (b + 68)]) (c_X7_takes l D cA b (fm_up M_31 68 (a + 1) r_31) L T (rnE T (nx T p + 1)) 119 (pR_m hT_31 (fun i i1 => by simp [fm_up, fm_row, upd]) (by simp [fm_up, fm_row, upd])) hk (by rw [fm_upn (by decide)]; exact rpa) en_31.2 (by decide)) ⟨fw_815, fw_817, fs_22, fw_9, fw_818⟩ ⟨rfl, hd_X7_takes⟩ rfl ly_58 ⟨Nat.le_of_ble_eq_true rfl, Nat.le_of_ble_eq_true rfl⟩ ⟨Nat.le_of_ble_eq_true rfl, Nat.le_of_ble_eq_true rfl⟩ rfl rfl (Nat.le_of_ble_eq_true rfl) dX7_readOne_110 (g_rix ?_)
            have pl3 : (psN T (rnE T (nx T p + 1)) 119) ≤ T.1 := ps_le en_31.2 (by decide)
            have hT2 : pR (fm_up (fm_up M_31 68 (a + 1) r_31) 58 19 (nI (psN T (rnE T (nx T p + 1)) 119))) T := pR_m hT_31 (fun i i1 => by simp [fm_up, fm_row, upd, i1]) (by simp [fm_up, fm_row, upd])
            refine g_ifb_eq hC 125 dX7_readOne_113 rfl (fun c_34 => ?_) (fun c_34 => ?_)
            · skip
              have hw := c_34
              refine g_iconst (v := 1) hC dX7_readOne_125 rfl ?_
              refine g_iastN (j := a + 2) (k := 68) hC ly_68 rfl (by omega) (by decide) dX7_readOne_126 ?_
              refine g_aload_n hC dX7_readOne_127 rfl 1 rfl ?_
              refine g_getR (ci := 7) (i := 21) (k := 58) (t := 68) hC fm_in7 rfl ly_58 rfl (by decide) fw_641 dX7_readOne_128 ?_
              refine g_iload_n hC dX7_readOne_131 rfl 2 rfl ?_
              refine g_iconst (v := 2) hC dX7_readOne_132 rfl ?_
              refine g_iadd hC dX7_readOne_133 ?_
              refine g_top (y := nI (a + 2)) (nI_add _ _) ?_
              refine g_ialdN (j := a + 2) (k := 68) hC ly_68 rfl (by omega) (by decide) dX7_readOne_134 ?_
              refine g_top (y := 1) (by simp [fm_up, fm_row, upd]) ?_
              refine g_if_ge_T (X := 1) hC rfl 140 dX7_readOne_135 rfl (fun _ => ?_) (fun c_35 => absurd c_35 (by omega))
              refine g_aload_n hC dX7_readOne_140 rfl 1 rfl ?_
              refine g_getR (ci := 7) (i := 21) (k := 58) (t := 68) hC fm_in7 rfl ly_58 rfl (by decide) fw_641 dX7_readOne_141 ?_
              refine g_iload_n hC dX7_readOne_144 rfl 2 rfl ?_
              refine g_iconst (v := 3) hC dX7_readOne_145 rfl ?_
              refine g_iadd hC dX7_readOne_146 ?_
              refine g_top (y := nI (a + 3)) (nI_add _ _) ?_
              refine g_aload_n hC dX7_readOne_147 rfl 1 rfl ?_
              refine g_bipush (v := 45) hC dX7_readOne_148 rfl ?_
              refine g_callV hC (k := 58) (ci := 7) (as := [.int 45]) (rest := [.int (nI (a + 3)), .ref (b + 68)]) (c_X7_takes l D cA b (fm_up (fm_up (fm_up M_31 68 (a + 1) r_31) 58 19 (nI (psN T (rnE T (nx T p + 1)) 119))) 68 (a + 2) 1) L T (psN T (rnE T (nx T p + 1)) 119) 45 (pR_m hT2 (fun i i1 => by simp [fm_up, fm_row, upd]) (by simp [fm_up, fm_row, upd])) hk (by rw [fm_upn (by decide)]; exact fm_ups) pl3 (by decide)) ⟨fw_815, fw_817, fs_22, fw_9, fw_818⟩ ⟨rfl, hd_X7_takes⟩ rfl ly_58 ⟨Nat.le_of_ble_eq_true rfl, Nat.le_of_ble_eq_true rfl⟩ ⟨Nat.le_of_ble_eq_true rfl, Nat.le_of_ble_eq_true rfl⟩ rfl rfl (Nat.le_of_ble_eq_true rfl) dX7_readOne_150 (g_rix ?_)
              refine g_ifb_eq hC 160 dX7_readOne_153 rfl (fun c_37 => ?_) (fun c_37 => ?_)
              · skip
                have hm := c_37
                refine g_iconst (v := 1) hC dX7_readOne_160 rfl ?_
                refine g_iastN (j := a + 3) (k := 68) hC ly_68 rfl (by omega) (by decide) dX7_readOne_161 ?_
                refine g_iconst (v := 1) hC dX7_readOne_162 rfl ?_
                refine g_zret (ty := .boolean) hC rfl rfl dX7_readOne_163 ?_
                have e0 : rpS T p = .inl ((kdI (chI T (nx T p))).toInt.toNat, rnV T (nx T p + 1), 1, 1, psN T (psN T (rnE T (nx T p + 1)) 119) 45) := by unfold rpS; rw [if_neg (by omega), if_neg (fun q => q oka), if_neg hw, if_neg hm]
                exact ⟨_, rfl, (fun q hq => (by rw [e0] at hq; cases hq)), (fun k h w m e hq => (by rw [e0] at hq; cases hq; exact ⟨rfl, (by rw [fm_upx (by omega), fm_upn (by decide), fm_upx (by omega), fm_upn (by decide), fm_upx (by omega), r6_31 68 (by decide), fm_upn (by decide), fm_ups]; exact ic_nI (by omega)), (by rw [fm_upx (by omega), fm_upn (by decide), fm_upx (by omega), fm_upn (by decide), fm_ups]; exact rva), (by rw [fm_upx (by omega), fm_upn (by decide), fm_ups]; rfl), (by rw [fm_ups]; rfl), (by rw [fm_upn (by decide), fm_ups])⟩)), (fun i i1 => (by rw [fm_upn (by decide), fm_upx i1, fm_upn (by decide), fm_upx i1, fm_upn (by decide), r5_31 i i1, fm_upx i1, fm_upn (by decide), fm_upx i1])), (fun q q1 q2 => (by rw [fm_upn q2, fm_upn q1, fm_upn q2, fm_upn q1, fm_upn q2, r6_31 q q1, fm_upn q1, fm_upn q2, fm_upn q1])), (fun j hj => (by rw [fm_upx (by omega), fm_upn (by decide), fm_upx (by omega), fm_upn (by decide), fm_upx (by omega), r6_31 68 (by decide), fm_upn (by decide), fm_upx (by omega), fm_upn (by decide)])), rfl⟩
              · skip
                have hm := c_37
                refine g_iconst (v := 0) hC dX7_readOne_156 rfl ?_
                refine g_goto hC 161 dX7_readOne_157 rfl ?_
                refine g_iastN (j := a + 3) (k := 68) hC ly_68 rfl (by omega) (by decide) dX7_readOne_161 ?_
                refine g_iconst (v := 1) hC dX7_readOne_162 rfl ?_
                refine g_zret (ty := .boolean) hC rfl rfl dX7_readOne_163 ?_
                have e0 : rpS T p = .inl ((kdI (chI T (nx T p))).toInt.toNat, rnV T (nx T p + 1), 1, 0, psN T (psN T (rnE T (nx T p + 1)) 119) 45) := by unfold rpS; rw [if_neg (by omega), if_neg (fun q => q oka), if_neg hw, if_pos hm]
                exact ⟨_, rfl, (fun q hq => (by rw [e0] at hq; cases hq)), (fun k h w m e hq => (by rw [e0] at hq; cases hq; exact ⟨rfl, (by rw [fm_upx (by omega), fm_upn (by decide), fm_upx (by omega), fm_upn (by decide), fm_upx (by omega), r6_31 68 (by decide), fm_upn (by decide), fm_ups]; exact ic_nI (by omega)), (by rw [fm_upx (by omega), fm_upn (by decide), fm_upx (by omega), fm_upn (by decide), fm_ups]; exact rva), (by rw [fm_upx (by omega), fm_upn (by decide), fm_ups]; rfl), (by rw [fm_ups]; rfl), (by rw [fm_upn (by decide), fm_ups])⟩)), (fun i i1 => (by rw [fm_upn (by decide), fm_upx i1, fm_upn (by decide), fm_upx i1, fm_upn (by decide), r5_31 i i1, fm_upx i1, fm_upn (by decide), fm_upx i1])), (fun q q1 q2 => (by rw [fm_upn q2, fm_upn q1, fm_upn q2, fm_upn q1, fm_upn q2, r6_31 q q1, fm_upn q1, fm_upn q2, fm_upn q1])), (fun j hj => (by rw [fm_upx (by omega), fm_upn (by decide), fm_upx (by omega), fm_upn (by decide), fm_upx (by omega), r6_31 68 (by decide), fm_upn (by decide), fm_upx (by omega), fm_upn (by decide)])), rfl⟩
            · skip
              have hw := c_34
              refine g_aload_n hC dX7_readOne_116 rfl 1 rfl ?_
              refine g_bipush (v := 99) hC dX7_readOne_117 rfl ?_
              refine g_callV hC (k := 58) (ci := 7) (as := [.int 99]) (rest := [.int (nI (a + 2)), .ref (b + 68)]) (c_X7_readNumber l D cA b (fm_up (fm_up M_31 68 (a + 1) r_31) 58 19 (nI (psN T (rnE T (nx T p + 1)) 119))) L T (psN T (rnE T (nx T p + 1)) 119) 99 hT2 hk fm_ups pl3 (by decide)) ⟨fw_808, fw_810, fs_21, fw_9, fw_811⟩ ⟨rfl, hd_X7_readNumber⟩ rfl ly_58 ⟨Nat.le_of_ble_eq_true rfl, Nat.le_of_ble_eq_true rfl⟩ ⟨Nat.le_of_ble_eq_true rfl, Nat.le_of_ble_eq_true rfl⟩ rfl rfl (Nat.le_of_ble_eq_true rfl) dX7_readOne_119 (g_rm (fun r_38 M_38 L_38 h_38 => ?_))
              obtain ⟨r1_38, r2_38, r5_38, r6_38, r7_38⟩ := h_38
              rw [r7_38]
              have g_38 : 0 ≤ (r_38).toInt ↔ rnOk T (psN T (rnE T (nx T p + 1)) 119) 99 := rn_ge2 r1_38 r2_38 (by decide)
              have en_38 := rnE_le (T := T) (p := (psN T (rnE T (nx T p + 1)) 119)) (by omega)
              have hT_38 : pR M_38 T := pR_m hT2 r5_38 (r6_38 67 (by decide))
              refine g_goto hC 126 dX7_readOne_122 rfl ?_
              refine g_iastN (j := a + 2) (k := 68) hC ly_68 rfl (by omega) (by decide) dX7_readOne_126 ?_
              refine g_aload_n hC dX7_readOne_127 rfl 1 rfl ?_
              refine g_getR (ci := 7) (i := 21) (k := 58) (t := 68) hC fm_in7 rfl ly_58 rfl (by decide) fw_641 dX7_readOne_128 ?_
              refine g_iload_n hC dX7_readOne_131 rfl 2 rfl ?_
              refine g_iconst (v := 2) hC dX7_readOne_132 rfl ?_
              refine g_iadd hC dX7_readOne_133 ?_
              refine g_top (y := nI (a + 2)) (nI_add _ _) ?_
              refine g_ialdN (j := a + 2) (k := 68) hC ly_68 rfl (by omega) (by decide) dX7_readOne_134 ?_
              refine g_top (y := r_38) (by simp [fm_up, fm_row, upd]) ?_
              refine g_if_ge_T (X := r_38.toInt) hC rfl 140 dX7_readOne_135 rfl (fun c_39 => ?_) (fun c_39 => ?_)
              · skip
                have okb : rnOk T (psN T (rnE T (nx T p + 1)) 119) 99 := g_38.mp c_39
                have rvb := (r1_38 okb).1
                have rpb := (r1_38 okb).2
                refine g_aload_n hC dX7_readOne_140 rfl 1 rfl ?_
                refine g_getR (ci := 7) (i := 21) (k := 58) (t := 68) hC fm_in7 rfl ly_58 rfl (by decide) fw_641 dX7_readOne_141 ?_
                refine g_iload_n hC dX7_readOne_144 rfl 2 rfl ?_
                refine g_iconst (v := 3) hC dX7_readOne_145 rfl ?_
                refine g_iadd hC dX7_readOne_146 ?_
                refine g_top (y := nI (a + 3)) (nI_add _ _) ?_
                refine g_aload_n hC dX7_readOne_147 rfl 1 rfl ?_
                refine g_bipush (v := 45) hC dX7_readOne_148 rfl ?_
                refine g_callV hC (k := 58) (ci := 7) (as := [.int 45]) (rest := [.int (nI (a + 3)), .ref (b + 68)]) (c_X7_takes l D cA b (fm_up M_38 68 (a + 2) r_38) L T (rnE T (psN T (rnE T (nx T p + 1)) 119)) 45 (pR_m hT_38 (fun i i1 => by simp [fm_up, fm_row, upd]) (by simp [fm_up, fm_row, upd])) hk (by rw [fm_upn (by decide)]; exact rpb) en_38.2 (by decide)) ⟨fw_815, fw_817, fs_22, fw_9, fw_818⟩ ⟨rfl, hd_X7_takes⟩ rfl ly_58 ⟨Nat.le_of_ble_eq_true rfl, Nat.le_of_ble_eq_true rfl⟩ ⟨Nat.le_of_ble_eq_true rfl, Nat.le_of_ble_eq_true rfl⟩ rfl rfl (Nat.le_of_ble_eq_true rfl) dX7_readOne_150 (g_rix ?_)
                refine g_ifb_eq hC 160 dX7_readOne_153 rfl (fun c_41 => ?_) (fun c_41 => ?_)
                · skip
                  have hm := c_41
                  refine g_iconst (v := 1) hC dX7_readOne_160 rfl ?_
                  refine g_iastN (j := a + 3) (k := 68) hC ly_68 rfl (by omega) (by decide) dX7_readOne_161 ?_
                  refine g_iconst (v := 1) hC dX7_readOne_162 rfl ?_
                  refine g_zret (ty := .boolean) hC rfl rfl dX7_readOne_163 ?_
                  have e0 : rpS T p = .inl ((kdI (chI T (nx T p))).toInt.toNat, rnV T (nx T p + 1), rnV T (psN T (rnE T (nx T p + 1)) 119), 1, psN T (rnE T (psN T (rnE T (nx T p + 1)) 119)) 45) := by unfold rpS; rw [if_neg (by omega), if_neg (fun q => q oka), if_pos hw, if_neg (fun q => q okb), if_neg hm]
                  exact ⟨_, rfl, (fun q hq => (by rw [e0] at hq; cases hq)), (fun k h w m e hq => (by rw [e0] at hq; cases hq; exact ⟨rfl, (by rw [fm_upx (by omega), fm_upn (by decide), fm_upx (by omega), r6_38 68 (by decide), fm_upn (by decide), fm_upx (by omega), r6_31 68 (by decide), fm_upn (by decide), fm_ups]; exact ic_nI (by omega)), (by rw [fm_upx (by omega), fm_upn (by decide), fm_upx (by omega), r6_38 68 (by decide), fm_upn (by decide), fm_ups]; exact rva), (by rw [fm_upx (by omega), fm_upn (by decide), fm_ups]; exact rvb), (by rw [fm_ups]; rfl), (by rw [fm_upn (by decide), fm_ups])⟩)), (fun i i1 => (by rw [fm_upn (by decide), fm_upx i1, fm_upn (by decide), r5_38 i i1, fm_upx i1, fm_upn (by decide), r5_31 i i1, fm_upx i1, fm_upn (by decide), fm_upx i1])), (fun q q1 q2 => (by rw [fm_upn q2, fm_upn q1, fm_upn q2, r6_38 q q1, fm_upn q1, fm_upn q2, r6_31 q q1, fm_upn q1, fm_upn q2, fm_upn q1])), (fun j hj => (by rw [fm_upx (by omega), fm_upn (by decide), fm_upx (by omega), r6_38 68 (by decide), fm_upn (by decide), fm_upx (by omega), r6_31 68 (by decide), fm_upn (by decide), fm_upx (by omega), fm_upn (by decide)])), rfl⟩
                · skip
                  have hm := c_41
                  refine g_iconst (v := 0) hC dX7_readOne_156 rfl ?_
                  refine g_goto hC 161 dX7_readOne_157 rfl ?_
                  refine g_iastN (j := a + 3) (k := 68) hC ly_68 rfl (by omega) (by decide) dX7_readOne_161 ?_
                  refine g_iconst (v := 1) hC dX7_readOne_162 rfl ?_
                  refine g_zret (ty := .boolean) hC rfl rfl dX7_readOne_163 ?_
                  have e0 : rpS T p = .inl ((kdI (chI T (nx T p))).toInt.toNat, rnV T (nx T p + 1), rnV T (psN T (rnE T (nx T p + 1)) 119), 0, psN T (rnE T (psN T (rnE T (nx T p + 1)) 119)) 45) := by unfold rpS; rw [if_neg (by omega), if_neg (fun q => q oka), if_pos hw, if_neg (fun q => q okb), if_pos hm]
                  exact ⟨_, rfl, (fun q hq => (by rw [e0] at hq; cases hq)), (fun k h w m e hq => (by rw [e0] at hq; cases hq; exact ⟨rfl, (by rw [fm_upx (by omega), fm_upn (by decide), fm_upx (by omega), r6_38 68 (by decide), fm_upn (by decide), fm_upx (by omega), r6_31 68 (by decide), fm_upn (by decide), fm_ups]; exact ic_nI (by omega)), (by rw [fm_upx (by omega), fm_upn (by decide), fm_upx (by omega), r6_38 68 (by decide), fm_upn (by decide), fm_ups]; exact rva), (by rw [fm_upx (by omega), fm_upn (by decide), fm_ups]; exact rvb), (by rw [fm_ups]; rfl), (by rw [fm_upn (by decide), fm_ups])⟩)), (fun i i1 => (by rw [fm_upn (by decide), fm_upx i1, fm_upn (by decide), r5_38 i i1, fm_upx i1, fm_upn (by decide), r5_31 i i1, fm_upx i1, fm_upn (by decide), fm_upx i1])), (fun q q1 q2 => (by rw [fm_upn q2, fm_upn q1, fm_upn q2, r6_38 q q1, fm_upn q1, fm_upn q2, r6_31 q q1, fm_upn q1, fm_upn q2, fm_upn q1])), (fun j hj => (by rw [fm_upx (by omega), fm_upn (by decide), fm_upx (by omega), r6_38 68 (by decide), fm_upn (by decide), fm_upx (by omega), r6_31 68 (by decide), fm_upn (by decide), fm_upx (by omega), fm_upn (by decide)])), rfl⟩
              · skip
                have nkb : ¬ rnOk T (psN T (rnE T (nx T p + 1)) 119) 99 := fun q => absurd (g_38.mpr q) (by omega)
                have rpb := (r2_38 nkb).2
                refine g_iconst (v := 0) hC dX7_readOne_138 rfl ?_
                refine g_zret (ty := .boolean) hC rfl rfl dX7_readOne_139 ?_
                have e0 : rpS T p = .inr (nx T (psN T (rnE T (nx T p + 1)) 119)) := by unfold rpS; rw [if_neg (by omega), if_neg (fun q => q oka), if_pos hw, if_pos (show ¬ (fig T (nx T (psN T (rnE T (nx T p + 1)) 119)) ∧ rnV T (psN T (rnE T (nx T p + 1)) 119) ≤ 99) from nkb)]
                exact ⟨_, rfl, (fun q hq => (by rw [e0] at hq; cases hq; exact ⟨rfl, (by rw [fm_upn (by decide)]; exact rpb)⟩)), (fun k h w m e hq => (by rw [e0] at hq; cases hq)), (fun i i1 => (by rw [fm_upn (by decide), r5_38 i i1, fm_upx i1, fm_upn (by decide), r5_31 i i1, fm_upx i1, fm_upn (by decide), fm_upx i1])), (fun q q1 q2 => (by rw [fm_upn q2, r6_38 q q1, fm_upn q1, fm_upn q2, r6_31 q q1, fm_upn q1, fm_upn q2, fm_upn q1])), (fun j hj => (by rw [fm_upx (by omega), r6_38 68 (by decide), fm_upn (by decide), fm_upx (by omega), r6_31 68 (by decide), fm_upn (by decide), fm_upx (by omega), fm_upn (by decide)])), rfl⟩
          · skip
            have nka : ¬ rnOk T (nx T p + 1) 23 := fun q => absurd (g_31.mpr q) (by omega)
            have rpa := (r2_31 nka).2
            refine g_iconst (v := 0) hC dX7_readOne_98 rfl ?_
            refine g_zret (ty := .boolean) hC rfl rfl dX7_readOne_99 ?_
            have e0 : rpS T p = .inr (nx T (nx T p + 1)) := by unfold rpS; rw [if_neg (by omega), if_pos (show ¬ (fig T (nx T (nx T p + 1)) ∧ rnV T (nx T p + 1) ≤ 23) from nka)]
            exact ⟨_, rfl, (fun q hq => (by rw [e0] at hq; cases hq; exact ⟨rfl, (by rw [fm_upn (by decide)]; exact rpa)⟩)), (fun k h w m e hq => (by rw [e0] at hq; cases hq)), (fun i i1 => (by rw [fm_upn (by decide), r5_31 i i1, fm_upx i1, fm_upn (by decide), fm_upx i1])), (fun q q1 q2 => (by rw [fm_upn q2, r6_31 q q1, fm_upn q1, fm_upn q2, fm_upn q1])), (fun j hj => (by rw [fm_upx (by omega), r6_31 68 (by decide), fm_upn (by decide), fm_upx (by omega), fm_upn (by decide)])), rfl⟩
        · skip
          refine g_iconst (v := 0) hC dX7_readOne_61 rfl ?_
          refine g_zret (ty := .boolean) hC rfl rfl dX7_readOne_62 ?_
          have e0 : rpS T p = .inr (nx T p) := by unfold rpS; rw [if_pos (by omega)]
          exact ⟨_, rfl, (fun q hq => (by rw [e0] at hq; cases hq; exact ⟨rfl, (by rw [fm_upn (by decide), fm_ups])⟩)), (fun k h w m e hq => (by rw [e0] at hq; cases hq)), (fun i i1 => (by rw [fm_upn (by decide), fm_upx i1])), (fun q q1 q2 => (by rw [fm_upn q2, fm_upn q1])), (fun j hj => (by rw [fm_upx (by omega), fm_upn (by decide)])), rfl⟩
    · skip
      refine g_iconst (v := 1) hC dX7_readOne_26 rfl ?_
      refine g_goto hC 51 dX7_readOne_27 rfl ?_
      refine g_top (y := kdI (chI T (nx T p))) (by unfold kdI; (repeat' split) <;> first | rfl | (exfalso; omega)) ?_
      refine g_iastN (j := a) (k := 68) hC ly_68 rfl (by omega) (by decide) dX7_readOne_51 ?_
      refine g_aload_n hC dX7_readOne_52 rfl 1 rfl ?_
      refine g_getR (ci := 7) (i := 21) (k := 58) (t := 68) hC fm_in7 rfl ly_58 rfl (by decide) fw_641 dX7_readOne_53 ?_
      refine g_iload_n hC dX7_readOne_56 rfl 2 rfl ?_
      refine g_ialdN (j := a) (k := 68) hC ly_68 rfl (by omega) (by decide) dX7_readOne_57 ?_
      refine g_top (y := kdI (chI T (nx T p))) (by simp [fm_up, fm_row, upd]) ?_
      refine g_if_ge_T (X := (kdI (chI T (nx T p))).toInt) hC rfl 63 dX7_readOne_58 rfl (fun c_42 => ?_) (fun c_42 => ?_)
      · skip
        have kl := kd_lt (T := T) (q := nx T p) c_42
        refine g_aload_n hC dX7_readOne_63 rfl 1 rfl ?_
        refine g_dup hC dX7_readOne_64 rfl ?_
        refine g_getI (ci := 7) (i := 19) (k := 58) hC fm_in7 rfl ly_58 rfl (by decide) fw_639 dX7_readOne_65 ?_
        refine g_top (y := nI (nx T p)) (by simp [fm_up, fm_row, upd]) ?_
        refine g_iconst (v := 1) hC dX7_readOne_68 rfl ?_
        refine g_iadd hC dX7_readOne_69 ?_
        refine g_top (y := nI ((nx T p) + 1)) (nI_add _ _) ?_
        refine g_putI (ci := 7) (i := 19) (k := 58) hC fm_in7 tyX7 tyX7_ok nmX7 rfl ly_58 rfl (by decide) fw_639 rfl rfl rfl dX7_readOne_70 ?_
        refine g_aload_n hC dX7_readOne_73 rfl 1 rfl ?_
        refine g_getR (ci := 7) (i := 21) (k := 58) (t := 68) hC fm_in7 rfl ly_58 rfl (by decide) fw_641 dX7_readOne_74 ?_
        refine g_iload_n hC dX7_readOne_77 rfl 2 rfl ?_
        refine g_iconst (v := 1) hC dX7_readOne_78 rfl ?_
        refine g_iadd hC dX7_readOne_79 ?_
        refine g_top (y := nI (a + 1)) (nI_add _ _) ?_
        have hT1 : pR (fm_up (fm_up (fm_up M 58 19 (nI (nx T p))) 68 a (kdI (chI T (nx T p)))) 58 19 (nI ((nx T p) + 1))) T := pR_m hT (fun i i1 => by simp [fm_up, fm_row, upd, i1]) (by simp [fm_up, fm_row, upd])
        refine g_aload_n hC dX7_readOne_80 rfl 1 rfl ?_
        refine g_bipush (v := 23) hC dX7_readOne_81 rfl ?_
        refine g_callV hC (k := 58) (ci := 7) (as := [.int 23]) (rest := [.int (nI (a + 1)), .ref (b + 68)]) (c_X7_readNumber l D cA b (fm_up (fm_up (fm_up M 58 19 (nI (nx T p))) 68 a (kdI (chI T (nx T p)))) 58 19 (nI ((nx T p) + 1))) L T (nx T p + 1) 23 hT1 hk fm_ups (by omega) (by decide)) ⟨fw_808, fw_810, fs_21, fw_9, fw_811⟩ ⟨rfl, hd_X7_readNumber⟩ rfl ly_58 ⟨Nat.le_of_ble_eq_true rfl, Nat.le_of_ble_eq_true rfl⟩ ⟨Nat.le_of_ble_eq_true rfl, Nat.le_of_ble_eq_true rfl⟩ rfl rfl (Nat.le_of_ble_eq_true rfl) dX7_readOne_83 (g_rm (fun r_43 M_43 L_43 h_43 => ?_))
        obtain ⟨r1_43, r2_43, r5_43, r6_43, r7_43⟩ := h_43
        rw [r7_43]
        have g_43 : 0 ≤ (r_43).toInt ↔ rnOk T (nx T p + 1) 23 := rn_ge2 r1_43 r2_43 (by decide)
        have en_43 := rnE_le (T := T) (p := (nx T p + 1)) (by omega)
        have hT_43 : pR M_43 T := pR_m hT1 r5_43 (r6_43 67 (by decide))
        refine g_iastN (j := a + 1) (k := 68) hC ly_68 rfl (by omega) (by decide) dX7_readOne_86 ?_
        refine g_aload_n hC dX7_readOne_87 rfl 1 rfl ?_
        refine g_getR (ci := 7) (i := 21) (k := 58) (t := 68) hC fm_in7 rfl ly_58 rfl (by decide) fw_641 dX7_readOne_88 ?_
        refine g_iload_n hC dX7_readOne_91 rfl 2 rfl ?_
        refine g_iconst (v := 1) hC dX7_readOne_92 rfl ?_
        refine g_iadd hC dX7_readOne_93 ?_
        refine g_top (y := nI (a + 1)) (nI_add _ _) ?_
        refine g_ialdN (j := a + 1) (k := 68) hC ly_68 rfl (by omega) (by decide) dX7_readOne_94 ?_
        refine g_top (y := r_43) (by simp [fm_up, fm_row, upd]) ?_
        refine g_if_ge_T (X := r_43.toInt) hC rfl 100 dX7_readOne_95 rfl (fun c_44 => ?_) (fun c_44 => ?_)
        · skip
          have oka : rnOk T (nx T p + 1) 23 := g_43.mp c_44
          have rva := (r1_43 oka).1
          have rpa := (r1_43 oka).2
          refine g_aload_n hC dX7_readOne_100 rfl 1 rfl ?_
          refine g_getR (ci := 7) (i := 21) (k := 58) (t := 68) hC fm_in7 rfl ly_58 rfl (by decide) fw_641 dX7_readOne_101 ?_
          refine g_iload_n hC dX7_readOne_104 rfl 2 rfl ?_
          refine g_iconst (v := 2) hC dX7_readOne_105 rfl ?_
          refine g_iadd hC dX7_readOne_106 ?_
          refine g_top (y := nI (a + 2)) (nI_add _ _) ?_
          refine g_aload_n hC dX7_readOne_107 rfl 1 rfl ?_
          refine g_bipush (v := 119) hC dX7_readOne_108 rfl ?_
          refine g_callV hC (k := 58) (ci := 7) (as := [.int 119]) (rest := [.int (nI (a + 2)), .ref (b + 68)]) (c_X7_takes l D cA b (fm_up M_43 68 (a + 1) r_43) L T (rnE T (nx T p + 1)) 119 (pR_m hT_43 (fun i i1 => by simp [fm_up, fm_row, upd]) (by simp [fm_up, fm_row, upd])) hk (by rw [fm_upn (by decide)]; exact rpa) en_43.2 (by decide)) ⟨fw_815, fw_817, fs_22, fw_9, fw_818⟩ ⟨rfl, hd_X7_takes⟩ rfl ly_58 ⟨Nat.le_of_ble_eq_true rfl, Nat.le_of_ble_eq_true rfl⟩ ⟨Nat.le_of_ble_eq_true rfl, Nat.le_of_ble_eq_true rfl⟩ rfl rfl (Nat.le_of_ble_eq_true rfl) dX7_readOne_110 (g_rix ?_)
          have pl3 : (psN T (rnE T (nx T p + 1)) 119) ≤ T.1 := ps_le en_43.2 (by decide)
          have hT2 : pR (fm_up (fm_up M_43 68 (a + 1) r_43) 58 19 (nI (psN T (rnE T (nx T p + 1)) 119))) T := pR_m hT_43 (fun i i1 => by simp [fm_up, fm_row, upd, i1]) (by simp [fm_up, fm_row, upd])
          refine g_ifb_eq hC 125 dX7_readOne_113 rfl (fun c_46 => ?_) (fun c_46 => ?_)
          · skip
            have hw := c_46
            refine g_iconst (v := 1) hC dX7_readOne_125 rfl ?_
            refine g_iastN (j := a + 2) (k := 68) hC ly_68 rfl (by omega) (by decide) dX7_readOne_126 ?_
            refine g_aload_n hC dX7_readOne_127 rfl 1 rfl ?_
            refine g_getR (ci := 7) (i := 21) (k := 58) (t := 68) hC fm_in7 rfl ly_58 rfl (by decide) fw_641 dX7_readOne_128 ?_
            refine g_iload_n hC dX7_readOne_131 rfl 2 rfl ?_
            refine g_iconst (v := 2) hC dX7_readOne_132 rfl ?_
            refine g_iadd hC dX7_readOne_133 ?_
            refine g_top (y := nI (a + 2)) (nI_add _ _) ?_
            refine g_ialdN (j := a + 2) (k := 68) hC ly_68 rfl (by omega) (by decide) dX7_readOne_134 ?_
            refine g_top (y := 1) (by simp [fm_up, fm_row, upd]) ?_
            refine g_if_ge_T (X := 1) hC rfl 140 dX7_readOne_135 rfl (fun _ => ?_) (fun c_47 => absurd c_47 (by omega))
            refine g_aload_n hC dX7_readOne_140 rfl 1 rfl ?_
            refine g_getR (ci := 7) (i := 21) (k := 58) (t := 68) hC fm_in7 rfl ly_58 rfl (by decide) fw_641 dX7_readOne_141 ?_
            refine g_iload_n hC dX7_readOne_144 rfl 2 rfl ?_
            refine g_iconst (v := 3) hC dX7_readOne_145 rfl ?_
            refine g_iadd hC dX7_readOne_146 ?_
            refine g_top (y := nI (a + 3)) (nI_add _ _) ?_
            refine g_aload_n hC dX7_readOne_147 rfl 1 rfl ?_
            refine g_bipush (v := 45) hC dX7_readOne_148 rfl ?_
            refine g_callV hC (k := 58) (ci := 7) (as := [.int 45]) (rest := [.int (nI (a + 3)), .ref (b + 68)]) (c_X7_takes l D cA b (fm_up (fm_up (fm_up M_43 68 (a + 1) r_43) 58 19 (nI (psN T (rnE T (nx T p + 1)) 119))) 68 (a + 2) 1) L T (psN T (rnE T (nx T p + 1)) 119) 45 (pR_m hT2 (fun i i1 => by simp [fm_up, fm_row, upd]) (by simp [fm_up, fm_row, upd])) hk (by rw [fm_upn (by decide)]; exact fm_ups) pl3 (by decide)) ⟨fw_815, fw_817, fs_22, fw_9, fw_818⟩ ⟨rfl, hd_X7_takes⟩ rfl ly_58 ⟨Nat.le_of_ble_eq_true rfl, Nat.le_of_ble_eq_true rfl⟩ ⟨Nat.le_of_ble_eq_true rfl, Nat.le_of_ble_eq_true rfl⟩ rfl rfl (Nat.le_of_ble_eq_true rfl) dX7_readOne_150 (g_rix ?_)
            refine g_ifb_eq hC 160 dX7_readOne_153 rfl (fun c_49 => ?_) (fun c_49 => ?_)
            · skip
              have hm := c_49
              refine g_iconst (v := 1) hC dX7_readOne_160 rfl ?_
              refine g_iastN (j := a + 3) (k := 68) hC ly_68 rfl (by omega) (by decide) dX7_readOne_161 ?_
              refine g_iconst (v := 1) hC dX7_readOne_162 rfl ?_
              refine g_zret (ty := .boolean) hC rfl rfl dX7_readOne_163 ?_
              have e0 : rpS T p = .inl ((kdI (chI T (nx T p))).toInt.toNat, rnV T (nx T p + 1), 1, 1, psN T (psN T (rnE T (nx T p + 1)) 119) 45) := by unfold rpS; rw [if_neg (by omega), if_neg (fun q => q oka), if_neg hw, if_neg hm]
              exact ⟨_, rfl, (fun q hq => (by rw [e0] at hq; cases hq)), (fun k h w m e hq => (by rw [e0] at hq; cases hq; exact ⟨rfl, (by rw [fm_upx (by omega), fm_upn (by decide), fm_upx (by omega), fm_upn (by decide), fm_upx (by omega), r6_43 68 (by decide), fm_upn (by decide), fm_ups]; exact ic_nI (by omega)), (by rw [fm_upx (by omega), fm_upn (by decide), fm_upx (by omega), fm_upn (by decide), fm_ups]; exact rva), (by rw [fm_upx (by omega), fm_upn (by decide), fm_ups]; rfl), (by rw [fm_ups]; rfl), (by rw [fm_upn (by decide), fm_ups])⟩)), (fun i i1 => (by rw [fm_upn (by decide), fm_upx i1, fm_upn (by decide), fm_upx i1, fm_upn (by decide), r5_43 i i1, fm_upx i1, fm_upn (by decide), fm_upx i1])), (fun q q1 q2 => (by rw [fm_upn q2, fm_upn q1, fm_upn q2, fm_upn q1, fm_upn q2, r6_43 q q1, fm_upn q1, fm_upn q2, fm_upn q1])), (fun j hj => (by rw [fm_upx (by omega), fm_upn (by decide), fm_upx (by omega), fm_upn (by decide), fm_upx (by omega), r6_43 68 (by decide), fm_upn (by decide), fm_upx (by omega), fm_upn (by decide)])), rfl⟩
            · skip
              have hm := c_49
              refine g_iconst (v := 0) hC dX7_readOne_156 rfl ?_
              refine g_goto hC 161 dX7_readOne_157 rfl ?_
              refine g_iastN (j := a + 3) (k := 68) hC ly_68 rfl (by omega) (by decide) dX7_readOne_161 ?_
              refine g_iconst (v := 1) hC dX7_readOne_162 rfl ?_
              refine g_zret (ty := .boolean) hC rfl rfl dX7_readOne_163 ?_
              have e0 : rpS T p = .inl ((kdI (chI T (nx T p))).toInt.toNat, rnV T (nx T p + 1), 1, 0, psN T (psN T (rnE T (nx T p + 1)) 119) 45) := by unfold rpS; rw [if_neg (by omega), if_neg (fun q => q oka), if_neg hw, if_pos hm]
              exact ⟨_, rfl, (fun q hq => (by rw [e0] at hq; cases hq)), (fun k h w m e hq => (by rw [e0] at hq; cases hq; exact ⟨rfl, (by rw [fm_upx (by omega), fm_upn (by decide), fm_upx (by omega), fm_upn (by decide), fm_upx (by omega), r6_43 68 (by decide), fm_upn (by decide), fm_ups]; exact ic_nI (by omega)), (by rw [fm_upx (by omega), fm_upn (by decide), fm_upx (by omega), fm_upn (by decide), fm_ups]; exact rva), (by rw [fm_upx (by omega), fm_upn (by decide), fm_ups]; rfl), (by rw [fm_ups]; rfl), (by rw [fm_upn (by decide), fm_ups])⟩)), (fun i i1 => (by rw [fm_upn (by decide), fm_upx i1, fm_upn (by decide), fm_upx i1, fm_upn (by decide), r5_43 i i1, fm_upx i1, fm_upn (by decide), fm_upx i1])), (fun q q1 q2 => (by rw [fm_upn q2, fm_upn q1, fm_upn q2, fm_upn q1, fm_upn q2, r6_43 q q1, fm_upn q1, fm_upn q2, fm_upn q1])), (fun j hj => (by rw [fm_upx (by omega), fm_upn (by decide), fm_upx (by omega), fm_upn (by decide), fm_upx (by omega), r6_43 68 (by decide), fm_upn (by decide), fm_upx (by omega), fm_upn (by decide)])), rfl⟩
          · skip
            have hw := c_46
            refine g_aload_n hC dX7_readOne_116 rfl 1 rfl ?_
            refine g_bipush (v := 99) hC dX7_readOne_117 rfl ?_
            refine g_callV hC (k := 58) (ci := 7) (as := [.int 99]) (rest := [.int (nI (a + 2)), .ref (b + 68)]) (c_X7_readNumber l D cA b (fm_up (fm_up M_43 68 (a + 1) r_43) 58 19 (nI (psN T (rnE T (nx T p + 1)) 119))) L T (psN T (rnE T (nx T p + 1)) 119) 99 hT2 hk fm_ups pl3 (by decide)) ⟨fw_808, fw_810, fs_21, fw_9, fw_811⟩ ⟨rfl, hd_X7_readNumber⟩ rfl ly_58 ⟨Nat.le_of_ble_eq_true rfl, Nat.le_of_ble_eq_true rfl⟩ ⟨Nat.le_of_ble_eq_true rfl, Nat.le_of_ble_eq_true rfl⟩ rfl rfl (Nat.le_of_ble_eq_true rfl) dX7_readOne_119 (g_rm (fun r_50 M_50 L_50 h_50 => ?_))
            obtain ⟨r1_50, r2_50, r5_50, r6_50, r7_50⟩ := h_50
            rw [r7_50]
            have g_50 : 0 ≤ (r_50).toInt ↔ rnOk T (psN T (rnE T (nx T p + 1)) 119) 99 := rn_ge2 r1_50 r2_50 (by decide)
            have en_50 := rnE_le (T := T) (p := (psN T (rnE T (nx T p + 1)) 119)) (by omega)
            have hT_50 : pR M_50 T := pR_m hT2 r5_50 (r6_50 67 (by decide))
            refine g_goto hC 126 dX7_readOne_122 rfl ?_
            refine g_iastN (j := a + 2) (k := 68) hC ly_68 rfl (by omega) (by decide) dX7_readOne_126 ?_
            refine g_aload_n hC dX7_readOne_127 rfl 1 rfl ?_
            refine g_getR (ci := 7) (i := 21) (k := 58) (t := 68) hC fm_in7 rfl ly_58 rfl (by decide) fw_641 dX7_readOne_128 ?_
            refine g_iload_n hC dX7_readOne_131 rfl 2 rfl ?_
            refine g_iconst (v := 2) hC dX7_readOne_132 rfl ?_
            refine g_iadd hC dX7_readOne_133 ?_
            refine g_top (y := nI (a + 2)) (nI_add _ _) ?_
            refine g_ialdN (j := a + 2) (k := 68) hC ly_68 rfl (by omega) (by decide) dX7_readOne_134 ?_
            refine g_top (y := r_50) (by simp [fm_up, fm_row, upd]) ?_
            refine g_if_ge_T (X := r_50.toInt) hC rfl 140 dX7_readOne_135 rfl (fun c_51 => ?_) (fun c_51 => ?_)
            · skip
              have okb : rnOk T (psN T (rnE T (nx T p + 1)) 119) 99 := g_50.mp c_51
              have rvb := (r1_50 okb).1
              have rpb := (r1_50 okb).2
              refine g_aload_n hC dX7_readOne_140 rfl 1 rfl ?_
              refine g_getR (ci := 7) (i := 21) (k := 58) (t := 68) hC fm_in7 rfl ly_58 rfl (by decide) fw_641 dX7_readOne_141 ?_
              refine g_iload_n hC dX7_readOne_144 rfl 2 rfl ?_
              refine g_iconst (v := 3) hC dX7_readOne_145 rfl ?_
              refine g_iadd hC dX7_readOne_146 ?_
              refine g_top (y := nI (a + 3)) (nI_add _ _) ?_
              refine g_aload_n hC dX7_readOne_147 rfl 1 rfl ?_
              refine g_bipush (v := 45) hC dX7_readOne_148 rfl ?_
              refine g_callV hC (k := 58) (ci := 7) (as := [.int 45]) (rest := [.int (nI (a + 3)), .ref (b + 68)]) (c_X7_takes l D cA b (fm_up M_50 68 (a + 2) r_50) L T (rnE T (psN T (rnE T (nx T p + 1)) 119)) 45 (pR_m hT_50 (fun i i1 => by simp [fm_up, fm_row, upd]) (by simp [fm_up, fm_row, upd])) hk (by rw [fm_upn (by decide)]; exact rpb) en_50.2 (by decide)) ⟨fw_815, fw_817, fs_22, fw_9, fw_818⟩ ⟨rfl, hd_X7_takes⟩ rfl ly_58 ⟨Nat.le_of_ble_eq_true rfl, Nat.le_of_ble_eq_true rfl⟩ ⟨Nat.le_of_ble_eq_true rfl, Nat.le_of_ble_eq_true rfl⟩ rfl rfl (Nat.le_of_ble_eq_true rfl) dX7_readOne_150 (g_rix ?_)
              refine g_ifb_eq hC 160 dX7_readOne_153 rfl (fun c_53 => ?_) (fun c_53 => ?_)
              · skip
                have hm := c_53
                refine g_iconst (v := 1) hC dX7_readOne_160 rfl ?_
                refine g_iastN (j := a + 3) (k := 68) hC ly_68 rfl (by omega) (by decide) dX7_readOne_161 ?_
                refine g_iconst (v := 1) hC dX7_readOne_162 rfl ?_
                refine g_zret (ty := .boolean) hC rfl rfl dX7_readOne_163 ?_
                have e0 : rpS T p = .inl ((kdI (chI T (nx T p))).toInt.toNat, rnV T (nx T p + 1), rnV T (psN T (rnE T (nx T p + 1)) 119), 1, psN T (rnE T (psN T (rnE T (nx T p + 1)) 119)) 45) := by unfold rpS; rw [if_neg (by omega), if_neg (fun q => q oka), if_pos hw, if_neg (fun q => q okb), if_neg hm]
                exact ⟨_, rfl, (fun q hq => (by rw [e0] at hq; cases hq)), (fun k h w m e hq => (by rw [e0] at hq; cases hq; exact ⟨rfl, (by rw [fm_upx (by omega), fm_upn (by decide), fm_upx (by omega), r6_50 68 (by decide), fm_upn (by decide), fm_upx (by omega), r6_43 68 (by decide), fm_upn (by decide), fm_ups]; exact ic_nI (by omega)), (by rw [fm_upx (by omega), fm_upn (by decide), fm_upx (by omega), r6_50 68 (by decide), fm_upn (by decide), fm_ups]; exact rva), (by rw [fm_upx (by omega), fm_upn (by decide), fm_ups]; exact rvb), (by rw [fm_ups]; rfl), (by rw [fm_upn (by decide), fm_ups])⟩)), (fun i i1 => (by rw [fm_upn (by decide), fm_upx i1, fm_upn (by decide), r5_50 i i1, fm_upx i1, fm_upn (by decide), r5_43 i i1, fm_upx i1, fm_upn (by decide), fm_upx i1])), (fun q q1 q2 => (by rw [fm_upn q2, fm_upn q1, fm_upn q2, r6_50 q q1, fm_upn q1, fm_upn q2, r6_43 q q1, fm_upn q1, fm_upn q2, fm_upn q1])), (fun j hj => (by rw [fm_upx (by omega), fm_upn (by decide), fm_upx (by omega), r6_50 68 (by decide), fm_upn (by decide), fm_upx (by omega), r6_43 68 (by decide), fm_upn (by decide), fm_upx (by omega), fm_upn (by decide)])), rfl⟩
              · skip
                have hm := c_53
                refine g_iconst (v := 0) hC dX7_readOne_156 rfl ?_
                refine g_goto hC 161 dX7_readOne_157 rfl ?_
                refine g_iastN (j := a + 3) (k := 68) hC ly_68 rfl (by omega) (by decide) dX7_readOne_161 ?_
                refine g_iconst (v := 1) hC dX7_readOne_162 rfl ?_
                refine g_zret (ty := .boolean) hC rfl rfl dX7_readOne_163 ?_
                have e0 : rpS T p = .inl ((kdI (chI T (nx T p))).toInt.toNat, rnV T (nx T p + 1), rnV T (psN T (rnE T (nx T p + 1)) 119), 0, psN T (rnE T (psN T (rnE T (nx T p + 1)) 119)) 45) := by unfold rpS; rw [if_neg (by omega), if_neg (fun q => q oka), if_pos hw, if_neg (fun q => q okb), if_pos hm]
                exact ⟨_, rfl, (fun q hq => (by rw [e0] at hq; cases hq)), (fun k h w m e hq => (by rw [e0] at hq; cases hq; exact ⟨rfl, (by rw [fm_upx (by omega), fm_upn (by decide), fm_upx (by omega), r6_50 68 (by decide), fm_upn (by decide), fm_upx (by omega), r6_43 68 (by decide), fm_upn (by decide), fm_ups]; exact ic_nI (by omega)), (by rw [fm_upx (by omega), fm_upn (by decide), fm_upx (by omega), r6_50 68 (by decide), fm_upn (by decide), fm_ups]; exact rva), (by rw [fm_upx (by omega), fm_upn (by decide), fm_ups]; exact rvb), (by rw [fm_ups]; rfl), (by rw [fm_upn (by decide), fm_ups])⟩)), (fun i i1 => (by rw [fm_upn (by decide), fm_upx i1, fm_upn (by decide), r5_50 i i1, fm_upx i1, fm_upn (by decide), r5_43 i i1, fm_upx i1, fm_upn (by decide), fm_upx i1])), (fun q q1 q2 => (by rw [fm_upn q2, fm_upn q1, fm_upn q2, r6_50 q q1, fm_upn q1, fm_upn q2, r6_43 q q1, fm_upn q1, fm_upn q2, fm_upn q1])), (fun j hj => (by rw [fm_upx (by omega), fm_upn (by decide), fm_upx (by omega), r6_50 68 (by decide), fm_upn (by decide), fm_upx (by omega), r6_43 68 (by decide), fm_upn (by decide), fm_upx (by omega), fm_upn (by decide)])), rfl⟩
            · skip
              have nkb : ¬ rnOk T (psN T (rnE T (nx T p + 1)) 119) 99 := fun q => absurd (g_50.mpr q) (by omega)
              have rpb := (r2_50 nkb).2
              refine g_iconst (v := 0) hC dX7_readOne_138 rfl ?_
              refine g_zret (ty := .boolean) hC rfl rfl dX7_readOne_139 ?_
              have e0 : rpS T p = .inr (nx T (psN T (rnE T (nx T p + 1)) 119)) := by unfold rpS; rw [if_neg (by omega), if_neg (fun q => q oka), if_pos hw, if_pos (show ¬ (fig T (nx T (psN T (rnE T (nx T p + 1)) 119)) ∧ rnV T (psN T (rnE T (nx T p + 1)) 119) ≤ 99) from nkb)]
              exact ⟨_, rfl, (fun q hq => (by rw [e0] at hq; cases hq; exact ⟨rfl, (by rw [fm_upn (by decide)]; exact rpb)⟩)), (fun k h w m e hq => (by rw [e0] at hq; cases hq)), (fun i i1 => (by rw [fm_upn (by decide), r5_50 i i1, fm_upx i1, fm_upn (by decide), r5_43 i i1, fm_upx i1, fm_upn (by decide), fm_upx i1])), (fun q q1 q2 => (by rw [fm_upn q2, r6_50 q q1, fm_upn q1, fm_upn q2, r6_43 q q1, fm_upn q1, fm_upn q2, fm_upn q1])), (fun j hj => (by rw [fm_upx (by omega), r6_50 68 (by decide), fm_upn (by decide), fm_upx (by omega), r6_43 68 (by decide), fm_upn (by decide), fm_upx (by omega), fm_upn (by decide)])), rfl⟩
        · skip
          have nka : ¬ rnOk T (nx T p + 1) 23 := fun q => absurd (g_43.mpr q) (by omega)
          have rpa := (r2_43 nka).2
          refine g_iconst (v := 0) hC dX7_readOne_98 rfl ?_
          refine g_zret (ty := .boolean) hC rfl rfl dX7_readOne_99 ?_
          have e0 : rpS T p = .inr (nx T (nx T p + 1)) := by unfold rpS; rw [if_neg (by omega), if_pos (show ¬ (fig T (nx T (nx T p + 1)) ∧ rnV T (nx T p + 1) ≤ 23) from nka)]
          exact ⟨_, rfl, (fun q hq => (by rw [e0] at hq; cases hq; exact ⟨rfl, (by rw [fm_upn (by decide)]; exact rpa)⟩)), (fun k h w m e hq => (by rw [e0] at hq; cases hq)), (fun i i1 => (by rw [fm_upn (by decide), r5_43 i i1, fm_upx i1, fm_upn (by decide), fm_upx i1])), (fun q q1 q2 => (by rw [fm_upn q2, r6_43 q q1, fm_upn q1, fm_upn q2, fm_upn q1])), (fun j hj => (by rw [fm_upx (by omega), r6_43 68 (by decide), fm_upn (by decide), fm_upx (by omega), fm_upn (by decide)])), rfl⟩
      · skip
        refine g_iconst (v := 0) hC dX7_readOne_61 rfl ?_
        refine g_zret (ty := .boolean) hC rfl rfl dX7_readOne_62 ?_
        have e0 : rpS T p = .inr (nx T p) := by unfold rpS; rw [if_pos (by omega)]
        exact ⟨_, rfl, (fun q hq => (by rw [e0] at hq; cases hq; exact ⟨rfl, (by rw [fm_upn (by decide), fm_ups])⟩)), (fun k h w m e hq => (by rw [e0] at hq; cases hq)), (fun i i1 => (by rw [fm_upn (by decide), fm_upx i1])), (fun q q1 q2 => (by rw [fm_upn q2, fm_upn q1])), (fun j hj => (by rw [fm_upx (by omega), fm_upn (by decide)])), rfl⟩
  · skip
    refine g_iconst (v := 0) hC dX7_readOne_16 rfl ?_
    refine g_goto hC 51 dX7_readOne_17 rfl ?_
    refine g_top (y := kdI (chI T (nx T p))) (by unfold kdI; (repeat' split) <;> first | rfl | (exfalso; omega)) ?_
    refine g_iastN (j := a) (k := 68) hC ly_68 rfl (by omega) (by decide) dX7_readOne_51 ?_
    refine g_aload_n hC dX7_readOne_52 rfl 1 rfl ?_
    refine g_getR (ci := 7) (i := 21) (k := 58) (t := 68) hC fm_in7 rfl ly_58 rfl (by decide) fw_641 dX7_readOne_53 ?_
    refine g_iload_n hC dX7_readOne_56 rfl 2 rfl ?_
    refine g_ialdN (j := a) (k := 68) hC ly_68 rfl (by omega) (by decide) dX7_readOne_57 ?_
    refine g_top (y := kdI (chI T (nx T p))) (by simp [fm_up, fm_row, upd]) ?_
    refine g_if_ge_T (X := (kdI (chI T (nx T p))).toInt) hC rfl 63 dX7_readOne_58 rfl (fun c_54 => ?_) (fun c_54 => ?_)
    · skip
      have kl := kd_lt (T := T) (q := nx T p) c_54
      refine g_aload_n hC dX7_readOne_63 rfl 1 rfl ?_
      refine g_dup hC dX7_readOne_64 rfl ?_
      refine g_getI (ci := 7) (i := 19) (k := 58) hC fm_in7 rfl ly_58 rfl (by decide) fw_639 dX7_readOne_65 ?_
      refine g_top (y := nI (nx T p)) (by simp [fm_up, fm_row, upd]) ?_
      refine g_iconst (v := 1) hC dX7_readOne_68 rfl ?_
      refine g_iadd hC dX7_readOne_69 ?_
      refine g_top (y := nI ((nx T p) + 1)) (nI_add _ _) ?_
      refine g_putI (ci := 7) (i := 19) (k := 58) hC fm_in7 tyX7 tyX7_ok nmX7 rfl ly_58 rfl (by decide) fw_639 rfl rfl rfl dX7_readOne_70 ?_
      refine g_aload_n hC dX7_readOne_73 rfl 1 rfl ?_
      refine g_getR (ci := 7) (i := 21) (k := 58) (t := 68) hC fm_in7 rfl ly_58 rfl (by decide) fw_641 dX7_readOne_74 ?_
      refine g_iload_n hC dX7_readOne_77 rfl 2 rfl ?_
      refine g_iconst (v := 1) hC dX7_readOne_78 rfl ?_
      refine g_iadd hC dX7_readOne_79 ?_
      refine g_top (y := nI (a + 1)) (nI_add _ _) ?_
      have hT1 : pR (fm_up (fm_up (fm_up M 58 19 (nI (nx T p))) 68 a (kdI (chI T (nx T p)))) 58 19 (nI ((nx T p) + 1))) T := pR_m hT (fun i i1 => by simp [fm_up, fm_row, upd, i1]) (by simp [fm_up, fm_row, upd])
      refine g_aload_n hC dX7_readOne_80 rfl 1 rfl ?_
      refine g_bipush (v := 23) hC dX7_readOne_81 rfl ?_
      refine g_callV hC (k := 58) (ci := 7) (as := [.int 23]) (rest := [.int (nI (a + 1)), .ref (b + 68)]) (c_X7_readNumber l D cA b (fm_up (fm_up (fm_up M 58 19 (nI (nx T p))) 68 a (kdI (chI T (nx T p)))) 58 19 (nI ((nx T p) + 1))) L T (nx T p + 1) 23 hT1 hk fm_ups (by omega) (by decide)) ⟨fw_808, fw_810, fs_21, fw_9, fw_811⟩ ⟨rfl, hd_X7_readNumber⟩ rfl ly_58 ⟨Nat.le_of_ble_eq_true rfl, Nat.le_of_ble_eq_true rfl⟩ ⟨Nat.le_of_ble_eq_true rfl, Nat.le_of_ble_eq_true rfl⟩ rfl rfl (Nat.le_of_ble_eq_true rfl) dX7_readOne_83 (g_rm (fun r_55 M_55 L_55 h_55 => ?_))
      obtain ⟨r1_55, r2_55, r5_55, r6_55, r7_55⟩ := h_55
      rw [r7_55]
      have g_55 : 0 ≤ (r_55).toInt ↔ rnOk T (nx T p + 1) 23 := rn_ge2 r1_55 r2_55 (by decide)
      have en_55 := rnE_le (T := T) (p := (nx T p + 1)) (by omega)
      have hT_55 : pR M_55 T := pR_m hT1 r5_55 (r6_55 67 (by decide))
      refine g_iastN (j := a + 1) (k := 68) hC ly_68 rfl (by omega) (by decide) dX7_readOne_86 ?_
      refine g_aload_n hC dX7_readOne_87 rfl 1 rfl ?_
      refine g_getR (ci := 7) (i := 21) (k := 58) (t := 68) hC fm_in7 rfl ly_58 rfl (by decide) fw_641 dX7_readOne_88 ?_
      refine g_iload_n hC dX7_readOne_91 rfl 2 rfl ?_
      refine g_iconst (v := 1) hC dX7_readOne_92 rfl ?_
      refine g_iadd hC dX7_readOne_93 ?_
      refine g_top (y := nI (a + 1)) (nI_add _ _) ?_
      refine g_ialdN (j := a + 1) (k := 68) hC ly_68 rfl (by omega) (by decide) dX7_readOne_94 ?_
      refine g_top (y := r_55) (by simp [fm_up, fm_row, upd]) ?_
      refine g_if_ge_T (X := r_55.toInt) hC rfl 100 dX7_readOne_95 rfl (fun c_56 => ?_) (fun c_56 => ?_)
      · skip
        have oka : rnOk T (nx T p + 1) 23 := g_55.mp c_56
        have rva := (r1_55 oka).1
        have rpa := (r1_55 oka).2
        refine g_aload_n hC dX7_readOne_100 rfl 1 rfl ?_
        refine g_getR (ci := 7) (i := 21) (k := 58) (t := 68) hC fm_in7 rfl ly_58 rfl (by decide) fw_641 dX7_readOne_101 ?_
        refine g_iload_n hC dX7_readOne_104 rfl 2 rfl ?_
        refine g_iconst (v := 2) hC dX7_readOne_105 rfl ?_
        refine g_iadd hC dX7_readOne_106 ?_
        refine g_top (y := nI (a + 2)) (nI_add _ _) ?_
        refine g_aload_n hC dX7_readOne_107 rfl 1 rfl ?_
        refine g_bipush (v := 119) hC dX7_readOne_108 rfl ?_
        refine g_callV hC (k := 58) (ci := 7) (as := [.int 119]) (rest := [.int (nI (a + 2)), .ref (b + 68)]) (c_X7_takes l D cA b (fm_up M_55 68 (a + 1) r_55) L T (rnE T (nx T p + 1)) 119 (pR_m hT_55 (fun i i1 => by simp [fm_up, fm_row, upd]) (by simp [fm_up, fm_row, upd])) hk (by rw [fm_upn (by decide)]; exact rpa) en_55.2 (by decide)) ⟨fw_815, fw_817, fs_22, fw_9, fw_818⟩ ⟨rfl, hd_X7_takes⟩ rfl ly_58 ⟨Nat.le_of_ble_eq_true rfl, Nat.le_of_ble_eq_true rfl⟩ ⟨Nat.le_of_ble_eq_true rfl, Nat.le_of_ble_eq_true rfl⟩ rfl rfl (Nat.le_of_ble_eq_true rfl) dX7_readOne_110 (g_rix ?_)
        have pl3 : (psN T (rnE T (nx T p + 1)) 119) ≤ T.1 := ps_le en_55.2 (by decide)
        have hT2 : pR (fm_up (fm_up M_55 68 (a + 1) r_55) 58 19 (nI (psN T (rnE T (nx T p + 1)) 119))) T := pR_m hT_55 (fun i i1 => by simp [fm_up, fm_row, upd, i1]) (by simp [fm_up, fm_row, upd])
        refine g_ifb_eq hC 125 dX7_readOne_113 rfl (fun c_58 => ?_) (fun c_58 => ?_)
        · skip
          have hw := c_58
          refine g_iconst (v := 1) hC dX7_readOne_125 rfl ?_
          refine g_iastN (j := a + 2) (k := 68) hC ly_68 rfl (by omega) (by decide) dX7_readOne_126 ?_
          refine g_aload_n hC dX7_readOne_127 rfl 1 rfl ?_
          refine g_getR (ci := 7) (i := 21) (k := 58) (t := 68) hC fm_in7 rfl ly_58 rfl (by decide) fw_641 dX7_readOne_128 ?_
          refine g_iload_n hC dX7_readOne_131 rfl 2 rfl ?_
          refine g_iconst (v := 2) hC dX7_readOne_132 rfl ?_
          refine g_iadd hC dX7_readOne_133 ?_
          refine g_top (y := nI (a + 2)) (nI_add _ _) ?_
          refine g_ialdN (j := a + 2) (k := 68) hC ly_68 rfl (by omega) (by decide) dX7_readOne_134 ?_
          refine g_top (y := 1) (by simp [fm_up, fm_row, upd]) ?_
          refine g_if_ge_T (X := 1) hC rfl 140 dX7_readOne_135 rfl (fun _ => ?_) (fun c_59 => absurd c_59 (by omega))
          refine g_aload_n hC dX7_readOne_140 rfl 1 rfl ?_
          refine g_getR (ci := 7) (i := 21) (k := 58) (t := 68) hC fm_in7 rfl ly_58 rfl (by decide) fw_641 dX7_readOne_141 ?_
          refine g_iload_n hC dX7_readOne_144 rfl 2 rfl ?_
          refine g_iconst (v := 3) hC dX7_readOne_145 rfl ?_
          refine g_iadd hC dX7_readOne_146 ?_
          refine g_top (y := nI (a + 3)) (nI_add _ _) ?_
          refine g_aload_n hC dX7_readOne_147 rfl 1 rfl ?_
          refine g_bipush (v := 45) hC dX7_readOne_148 rfl ?_
          refine g_callV hC (k := 58) (ci := 7) (as := [.int 45]) (rest := [.int (nI (a + 3)), .ref (b + 68)]) (c_X7_takes l D cA b (fm_up (fm_up (fm_up M_55 68 (a + 1) r_55) 58 19 (nI (psN T (rnE T (nx T p + 1)) 119))) 68 (a + 2) 1) L T (psN T (rnE T (nx T p + 1)) 119) 45 (pR_m hT2 (fun i i1 => by simp [fm_up, fm_row, upd]) (by simp [fm_up, fm_row, upd])) hk (by rw [fm_upn (by decide)]; exact fm_ups) pl3 (by decide)) ⟨fw_815, fw_817, fs_22, fw_9, fw_818⟩ ⟨rfl, hd_X7_takes⟩ rfl ly_58 ⟨Nat.le_of_ble_eq_true rfl, Nat.le_of_ble_eq_true rfl⟩ ⟨Nat.le_of_ble_eq_true rfl, Nat.le_of_ble_eq_true rfl⟩ rfl rfl (Nat.le_of_ble_eq_true rfl) dX7_readOne_150 (g_rix ?_)
          refine g_ifb_eq hC 160 dX7_readOne_153 rfl (fun c_61 => ?_) (fun c_61 => ?_)
          · skip
            have hm := c_61
            refine g_iconst (v := 1) hC dX7_readOne_160 rfl ?_
            refine g_iastN (j := a + 3) (k := 68) hC ly_68 rfl (by omega) (by decide) dX7_readOne_161 ?_
            refine g_iconst (v := 1) hC dX7_readOne_162 rfl ?_
            refine g_zret (ty := .boolean) hC rfl rfl dX7_readOne_163 ?_
            have e0 : rpS T p = .inl ((kdI (chI T (nx T p))).toInt.toNat, rnV T (nx T p + 1), 1, 1, psN T (psN T (rnE T (nx T p + 1)) 119) 45) := by unfold rpS; rw [if_neg (by omega), if_neg (fun q => q oka), if_neg hw, if_neg hm]
            exact ⟨_, rfl, (fun q hq => (by rw [e0] at hq; cases hq)), (fun k h w m e hq => (by rw [e0] at hq; cases hq; exact ⟨rfl, (by rw [fm_upx (by omega), fm_upn (by decide), fm_upx (by omega), fm_upn (by decide), fm_upx (by omega), r6_55 68 (by decide), fm_upn (by decide), fm_ups]; exact ic_nI (by omega)), (by rw [fm_upx (by omega), fm_upn (by decide), fm_upx (by omega), fm_upn (by decide), fm_ups]; exact rva), (by rw [fm_upx (by omega), fm_upn (by decide), fm_ups]; rfl), (by rw [fm_ups]; rfl), (by rw [fm_upn (by decide), fm_ups])⟩)), (fun i i1 => (by rw [fm_upn (by decide), fm_upx i1, fm_upn (by decide), fm_upx i1, fm_upn (by decide), r5_55 i i1, fm_upx i1, fm_upn (by decide), fm_upx i1])), (fun q q1 q2 => (by rw [fm_upn q2, fm_upn q1, fm_upn q2, fm_upn q1, fm_upn q2, r6_55 q q1, fm_upn q1, fm_upn q2, fm_upn q1])), (fun j hj => (by rw [fm_upx (by omega), fm_upn (by decide), fm_upx (by omega), fm_upn (by decide), fm_upx (by omega), r6_55 68 (by decide), fm_upn (by decide), fm_upx (by omega), fm_upn (by decide)])), rfl⟩
          · skip
            have hm := c_61
            refine g_iconst (v := 0) hC dX7_readOne_156 rfl ?_
            refine g_goto hC 161 dX7_readOne_157 rfl ?_
            refine g_iastN (j := a + 3) (k := 68) hC ly_68 rfl (by omega) (by decide) dX7_readOne_161 ?_
            refine g_iconst (v := 1) hC dX7_readOne_162 rfl ?_
            refine g_zret (ty := .boolean) hC rfl rfl dX7_readOne_163 ?_
            have e0 : rpS T p = .inl ((kdI (chI T (nx T p))).toInt.toNat, rnV T (nx T p + 1), 1, 0, psN T (psN T (rnE T (nx T p + 1)) 119) 45) := by unfold rpS; rw [if_neg (by omega), if_neg (fun q => q oka), if_neg hw, if_pos hm]
            exact ⟨_, rfl, (fun q hq => (by rw [e0] at hq; cases hq)), (fun k h w m e hq => (by rw [e0] at hq; cases hq; exact ⟨rfl, (by rw [fm_upx (by omega), fm_upn (by decide), fm_upx (by omega), fm_upn (by decide), fm_upx (by omega), r6_55 68 (by decide), fm_upn (by decide), fm_ups]; exact ic_nI (by omega)), (by rw [fm_upx (by omega), fm_upn (by decide), fm_upx (by omega), fm_upn (by decide), fm_ups]; exact rva), (by rw [fm_upx (by omega), fm_upn (by decide), fm_ups]; rfl), (by rw [fm_ups]; rfl), (by rw [fm_upn (by decide), fm_ups])⟩)), (fun i i1 => (by rw [fm_upn (by decide), fm_upx i1, fm_upn (by decide), fm_upx i1, fm_upn (by decide), r5_55 i i1, fm_upx i1, fm_upn (by decide), fm_upx i1])), (fun q q1 q2 => (by rw [fm_upn q2, fm_upn q1, fm_upn q2, fm_upn q1, fm_upn q2, r6_55 q q1, fm_upn q1, fm_upn q2, fm_upn q1])), (fun j hj => (by rw [fm_upx (by omega), fm_upn (by decide), fm_upx (by omega), fm_upn (by decide), fm_upx (by omega), r6_55 68 (by decide), fm_upn (by decide), fm_upx (by omega), fm_upn (by decide)])), rfl⟩
        · skip
          have hw := c_58
          refine g_aload_n hC dX7_readOne_116 rfl 1 rfl ?_
          refine g_bipush (v := 99) hC dX7_readOne_117 rfl ?_
          refine g_callV hC (k := 58) (ci := 7) (as := [.int 99]) (rest := [.int (nI (a + 2)), .ref (b + 68)]) (c_X7_readNumber l D cA b (fm_up (fm_up M_55 68 (a + 1) r_55) 58 19 (nI (psN T (rnE T (nx T p + 1)) 119))) L T (psN T (rnE T (nx T p + 1)) 119) 99 hT2 hk fm_ups pl3 (by decide)) ⟨fw_808, fw_810, fs_21, fw_9, fw_811⟩ ⟨rfl, hd_X7_readNumber⟩ rfl ly_58 ⟨Nat.le_of_ble_eq_true rfl, Nat.le_of_ble_eq_true rfl⟩ ⟨Nat.le_of_ble_eq_true rfl, Nat.le_of_ble_eq_true rfl⟩ rfl rfl (Nat.le_of_ble_eq_true rfl) dX7_readOne_119 (g_rm (fun r_62 M_62 L_62 h_62 => ?_))
          obtain ⟨r1_62, r2_62, r5_62, r6_62, r7_62⟩ := h_62
          rw [r7_62]
          have g_62 : 0 ≤ (r_62).toInt ↔ rnOk T (psN T (rnE T (nx T p + 1)) 119) 99 := rn_ge2 r1_62 r2_62 (by decide)
          have en_62 := rnE_le (T := T) (p := (psN T (rnE T (nx T p + 1)) 119)) (by omega)
          have hT_62 : pR M_62 T := pR_m hT2 r5_62 (r6_62 67 (by decide))
          refine g_goto hC 126 dX7_readOne_122 rfl ?_
          refine g_iastN (j := a + 2) (k := 68) hC ly_68 rfl (by omega) (by decide) dX7_readOne_126 ?_
          refine g_aload_n hC dX7_readOne_127 rfl 1 rfl ?_
          refine g_getR (ci := 7) (i := 21) (k := 58) (t := 68) hC fm_in7 rfl ly_58 rfl (by decide) fw_641 dX7_readOne_128 ?_
          refine g_iload_n hC dX7_readOne_131 rfl 2 rfl ?_
          refine g_iconst (v := 2) hC dX7_readOne_132 rfl ?_
          refine g_iadd hC dX7_readOne_133 ?_
          refine g_top (y := nI (a + 2)) (nI_add _ _) ?_
          refine g_ialdN (j := a + 2) (k := 68) hC ly_68 rfl (by omega) (by decide) dX7_readOne_134 ?_
          refine g_top (y := r_62) (by simp [fm_up, fm_row, upd]) ?_
          refine g_if_ge_T (X := r_62.toInt) hC rfl 140 dX7_readOne_135 rfl (fun c_63 => ?_) (fun c_63 => ?_)
          · skip
            have okb : rnOk T (psN T (rnE T (nx T p + 1)) 119) 99 := g_62.mp c_63
            have rvb := (r1_62 okb).1
            have rpb := (r1_62 okb).2
            refine g_aload_n hC dX7_readOne_140 rfl 1 rfl ?_
            refine g_getR (ci := 7) (i := 21) (k := 58) (t := 68) hC fm_in7 rfl ly_58 rfl (by decide) fw_641 dX7_readOne_141 ?_
            refine g_iload_n hC dX7_readOne_144 rfl 2 rfl ?_
            refine g_iconst (v := 3) hC dX7_readOne_145 rfl ?_
            refine g_iadd hC dX7_readOne_146 ?_
            refine g_top (y := nI (a + 3)) (nI_add _ _) ?_
            refine g_aload_n hC dX7_readOne_147 rfl 1 rfl ?_
            refine g_bipush (v := 45) hC dX7_readOne_148 rfl ?_
            refine g_callV hC (k := 58) (ci := 7) (as := [.int 45]) (rest := [.int (nI (a + 3)), .ref (b + 68)]) (c_X7_takes l D cA b (fm_up M_62 68 (a + 2) r_62) L T (rnE T (psN T (rnE T (nx T p + 1)) 119)) 45 (pR_m hT_62 (fun i i1 => by simp [fm_up, fm_row, upd]) (by simp [fm_up, fm_row, upd])) hk (by rw [fm_upn (by decide)]; exact rpb) en_62.2 (by decide)) ⟨fw_815, fw_817, fs_22, fw_9, fw_818⟩ ⟨rfl, hd_X7_takes⟩ rfl ly_58 ⟨Nat.le_of_ble_eq_true rfl, Nat.le_of_ble_eq_true rfl⟩ ⟨Nat.le_of_ble_eq_true rfl, Nat.le_of_ble_eq_true rfl⟩ rfl rfl (Nat.le_of_ble_eq_true rfl) dX7_readOne_150 (g_rix ?_)
            refine g_ifb_eq hC 160 dX7_readOne_153 rfl (fun c_65 => ?_) (fun c_65 => ?_)
            · skip
              have hm := c_65
              refine g_iconst (v := 1) hC dX7_readOne_160 rfl ?_
              refine g_iastN (j := a + 3) (k := 68) hC ly_68 rfl (by omega) (by decide) dX7_readOne_161 ?_
              refine g_iconst (v := 1) hC dX7_readOne_162 rfl ?_
              refine g_zret (ty := .boolean) hC rfl rfl dX7_readOne_163 ?_
              have e0 : rpS T p = .inl ((kdI (chI T (nx T p))).toInt.toNat, rnV T (nx T p + 1), rnV T (psN T (rnE T (nx T p + 1)) 119), 1, psN T (rnE T (psN T (rnE T (nx T p + 1)) 119)) 45) := by unfold rpS; rw [if_neg (by omega), if_neg (fun q => q oka), if_pos hw, if_neg (fun q => q okb), if_neg hm]
              exact ⟨_, rfl, (fun q hq => (by rw [e0] at hq; cases hq)), (fun k h w m e hq => (by rw [e0] at hq; cases hq; exact ⟨rfl, (by rw [fm_upx (by omega), fm_upn (by decide), fm_upx (by omega), r6_62 68 (by decide), fm_upn (by decide), fm_upx (by omega), r6_55 68 (by decide), fm_upn (by decide), fm_ups]; exact ic_nI (by omega)), (by rw [fm_upx (by omega), fm_upn (by decide), fm_upx (by omega), r6_62 68 (by decide), fm_upn (by decide), fm_ups]; exact rva), (by rw [fm_upx (by omega), fm_upn (by decide), fm_ups]; exact rvb), (by rw [fm_ups]; rfl), (by rw [fm_upn (by decide), fm_ups])⟩)), (fun i i1 => (by rw [fm_upn (by decide), fm_upx i1, fm_upn (by decide), r5_62 i i1, fm_upx i1, fm_upn (by decide), r5_55 i i1, fm_upx i1, fm_upn (by decide), fm_upx i1])), (fun q q1 q2 => (by rw [fm_upn q2, fm_upn q1, fm_upn q2, r6_62 q q1, fm_upn q1, fm_upn q2, r6_55 q q1, fm_upn q1, fm_upn q2, fm_upn q1])), (fun j hj => (by rw [fm_upx (by omega), fm_upn (by decide), fm_upx (by omega), r6_62 68 (by decide), fm_upn (by decide), fm_upx (by omega), r6_55 68 (by decide), fm_upn (by decide), fm_upx (by omega), fm_upn (by decide)])), rfl⟩
            · skip
              have hm := c_65
              refine g_iconst (v := 0) hC dX7_readOne_156 rfl ?_
              refine g_goto hC 161 dX7_readOne_157 rfl ?_
              refine g_iastN (j := a + 3) (k := 68) hC ly_68 rfl (by omega) (by decide) dX7_readOne_161 ?_
              refine g_iconst (v := 1) hC dX7_readOne_162 rfl ?_
              refine g_zret (ty := .boolean) hC rfl rfl dX7_readOne_163 ?_
              have e0 : rpS T p = .inl ((kdI (chI T (nx T p))).toInt.toNat, rnV T (nx T p + 1), rnV T (psN T (rnE T (nx T p + 1)) 119), 0, psN T (rnE T (psN T (rnE T (nx T p + 1)) 119)) 45) := by unfold rpS; rw [if_neg (by omega), if_neg (fun q => q oka), if_pos hw, if_neg (fun q => q okb), if_pos hm]
              exact ⟨_, rfl, (fun q hq => (by rw [e0] at hq; cases hq)), (fun k h w m e hq => (by rw [e0] at hq; cases hq; exact ⟨rfl, (by rw [fm_upx (by omega), fm_upn (by decide), fm_upx (by omega), r6_62 68 (by decide), fm_upn (by decide), fm_upx (by omega), r6_55 68 (by decide), fm_upn (by decide), fm_ups]; exact ic_nI (by omega)), (by rw [fm_upx (by omega), fm_upn (by decide), fm_upx (by omega), r6_62 68 (by decide), fm_upn (by decide), fm_ups]; exact rva), (by rw [fm_upx (by omega), fm_upn (by decide), fm_ups]; exact rvb), (by rw [fm_ups]; rfl), (by rw [fm_upn (by decide), fm_ups])⟩)), (fun i i1 => (by rw [fm_upn (by decide), fm_upx i1, fm_upn (by decide), r5_62 i i1, fm_upx i1, fm_upn (by decide), r5_55 i i1, fm_upx i1, fm_upn (by decide), fm_upx i1])), (fun q q1 q2 => (by rw [fm_upn q2, fm_upn q1, fm_upn q2, r6_62 q q1, fm_upn q1, fm_upn q2, r6_55 q q1, fm_upn q1, fm_upn q2, fm_upn q1])), (fun j hj => (by rw [fm_upx (by omega), fm_upn (by decide), fm_upx (by omega), r6_62 68 (by decide), fm_upn (by decide), fm_upx (by omega), r6_55 68 (by decide), fm_upn (by decide), fm_upx (by omega), fm_upn (by decide)])), rfl⟩
          · skip
            have nkb : ¬ rnOk T (psN T (rnE T (nx T p + 1)) 119) 99 := fun q => absurd (g_62.mpr q) (by omega)
            have rpb := (r2_62 nkb).2
            refine g_iconst (v := 0) hC dX7_readOne_138 rfl ?_
            refine g_zret (ty := .boolean) hC rfl rfl dX7_readOne_139 ?_
            have e0 : rpS T p = .inr (nx T (psN T (rnE T (nx T p + 1)) 119)) := by unfold rpS; rw [if_neg (by omega), if_neg (fun q => q oka), if_pos hw, if_pos (show ¬ (fig T (nx T (psN T (rnE T (nx T p + 1)) 119)) ∧ rnV T (psN T (rnE T (nx T p + 1)) 119) ≤ 99) from nkb)]
            exact ⟨_, rfl, (fun q hq => (by rw [e0] at hq; cases hq; exact ⟨rfl, (by rw [fm_upn (by decide)]; exact rpb)⟩)), (fun k h w m e hq => (by rw [e0] at hq; cases hq)), (fun i i1 => (by rw [fm_upn (by decide), r5_62 i i1, fm_upx i1, fm_upn (by decide), r5_55 i i1, fm_upx i1, fm_upn (by decide), fm_upx i1])), (fun q q1 q2 => (by rw [fm_upn q2, r6_62 q q1, fm_upn q1, fm_upn q2, r6_55 q q1, fm_upn q1, fm_upn q2, fm_upn q1])), (fun j hj => (by rw [fm_upx (by omega), r6_62 68 (by decide), fm_upn (by decide), fm_upx (by omega), r6_55 68 (by decide), fm_upn (by decide), fm_upx (by omega), fm_upn (by decide)])), rfl⟩
      · skip
        have nka : ¬ rnOk T (nx T p + 1) 23 := fun q => absurd (g_55.mpr q) (by omega)
        have rpa := (r2_55 nka).2
        refine g_iconst (v := 0) hC dX7_readOne_98 rfl ?_
        refine g_zret (ty := .boolean) hC rfl rfl dX7_readOne_99 ?_
        have e0 : rpS T p = .inr (nx T (nx T p + 1)) := by unfold rpS; rw [if_neg (by omega), if_pos (show ¬ (fig T (nx T (nx T p + 1)) ∧ rnV T (nx T p + 1) ≤ 23) from nka)]
        exact ⟨_, rfl, (fun q hq => (by rw [e0] at hq; cases hq; exact ⟨rfl, (by rw [fm_upn (by decide)]; exact rpa)⟩)), (fun k h w m e hq => (by rw [e0] at hq; cases hq)), (fun i i1 => (by rw [fm_upn (by decide), r5_55 i i1, fm_upx i1, fm_upn (by decide), fm_upx i1])), (fun q q1 q2 => (by rw [fm_upn q2, r6_55 q q1, fm_upn q1, fm_upn q2, fm_upn q1])), (fun j hj => (by rw [fm_upx (by omega), r6_55 68 (by decide), fm_upn (by decide), fm_upx (by omega), fm_upn (by decide)])), rfl⟩
    · skip
      refine g_iconst (v := 0) hC dX7_readOne_61 rfl ?_
      refine g_zret (ty := .boolean) hC rfl rfl dX7_readOne_62 ?_
      have e0 : rpS T p = .inr (nx T p) := by unfold rpS; rw [if_pos (by omega)]
      exact ⟨_, rfl, (fun q hq => (by rw [e0] at hq; cases hq; exact ⟨rfl, (by rw [fm_upn (by decide), fm_ups])⟩)), (fun k h w m e hq => (by rw [e0] at hq; cases hq)), (fun i i1 => (by rw [fm_upn (by decide), fm_upx i1])), (fun q q1 q2 => (by rw [fm_upn q2, fm_upn q1])), (fun j hj => (by rw [fm_upx (by omega), fm_upn (by decide)])), rfl⟩
