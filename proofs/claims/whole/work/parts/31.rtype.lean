/-! ===== the check's type ===== -/
theorem tR_sl {M M' : Nat → Nat → Int32} {t : Tn} (h : tR M t) (e : ∀ q, 59 ≤ q → q < 67 → M' q = M q) (e2 : ∀ i, i ≤ 16 → M' 58 i = M 58 i) : tR M' t := by
  obtain ⟨h1, h2, h3, h4⟩ := h
  refine ⟨fun j hj => ?_, fun j hj => ?_, fun q hq => ?_, ?_⟩
  · rw [e 59 (by omega) (by omega), e 60 (by omega) (by omega), e 61 (by omega) (by omega), e 62 (by omega) (by omega)]; exact h1 j hj
  · rw [e 63 (by omega) (by omega), e 64 (by omega) (by omega)]; exact h2 j hj
  · rw [e 65 (by omega) (by omega), e 66 (by omega) (by omega)]; exact h3 q hq
  · rw [e2 4 (by omega), e2 7 (by omega), e2 10 (by omega), e2 11 (by omega), e2 12 (by omega), e2 13 (by omega), e2 14 (by omega), e2 15 (by omega), e2 16 (by omega)]; exact h4

theorem c_X7_type (l : Launch) (D : va_G) (cA : Nat → ClassId) (b : Nat) (M : Nat → Nat → Int32) (L : Nat → Nat → Int64) (g : Sg) (w : Int64) (n : Int32) (hS : RS M L g) (hok : OK g) : fm_Met l D cA b yX7_type cX7_type 5 (some .int) 1 25 0 0 [.ref (b + 58), .long w, .int n] LAY M L LAY (fm_pm (fun r M' L' => r = (op_type g w n).1 ∧ RS M' L' (op_type g w n).2 ∧ fR M M' L L')) := by
  refine fm_start RX7 rfl (by decide) (Nat.le_of_ble_eq_true rfl) ?_
  intro pq eq sq mq aq bq tq cq hC hin
  obtain ⟨⟨n1, n2, n3, v0, v1, v2, v3, v4, v5, v6, v7, v8⟩, hS2⟩ := id hS
  obtain ⟨⟨o1, o2, o3, o4, o5, o6, o7, o8, o9, o10, o11⟩, hok2⟩ := id hok
  obtain ⟨tp1, tp2⟩ := hS.2.2.2.1
  have tq1 : g.2.2.2.1.1 ≤ 140 := hok.2.2.2.1.1
  have nr := ic_rng n
  refine g_iload_n hC dX7_type_0 rfl 2 rfl ?_
  refine g_i2l (v := n.toInt64) hC dX7_type_1 rfl ?_
  refine g_lconst (v := 1) hC dX7_type_2 rfl ?_
  refine g_ldc2 (v := 8) hC fw_788 dX7_type_3 ?_
  refine g_callS hC (as := [.long n.toInt64, .long 1, .long 8]) (rest := []) (c_X7_in l D cA b LAY M L n.toInt64 1 8 n.toInt 1 8 ((ic_w _).trans rfl) rfl rfl) ⟨fw_725, fw_726, fw_9, fw_727⟩ hd_X7_in ⟨Nat.le_of_ble_eq_true rfl, Nat.le_of_ble_eq_true rfl⟩ ⟨Nat.le_of_ble_eq_true rfl, Nat.le_of_ble_eq_true rfl⟩ rfl rfl (Nat.le_of_ble_eq_true rfl) dX7_type_6 (g_rix ?_)
  refine g_ifb_ne hC 14 dX7_type_9 rfl (fun c_2 => ?_) (fun c_2 => ?_)
  · skip
    refine g_iload_n hC dX7_type_14 rfl 2 rfl ?_
    refine g_iconst (v := 1) hC dX7_type_15 rfl ?_
    refine g_isub hC dX7_type_16 ?_
    refine g_top (y := nI n.toInt.toNat + (-1)) (n_m1 (by omega)) ?_
    refine g_istore hC [(4, .int (nI n.toInt.toNat + (-1))), (0, .ref (b + 58)), (1, .long w), (3, .int n)] dX7_type_17 (by decide) rfl ?_
    have lp_19_3 : ∀ (n_3 : Nat) (k : Nat), k < n_3 → (k ≤ n.toInt.toNat ∧ ∀ j, k ≤ j → j < n.toInt.toNat → 32 ≤ byN w j ∧ byN w j ≤ 126) → fm_G pq l eq (fm_rm 1 25 0 0) sq mq aq bq tq cq D cA b 5 (MQ bq (fm_Q D cA b LAY (fm_pm (fun r M' L' => r = (op_type g w n).1 ∧ RS M' L' (op_type g w n).2 ∧ fR M M' L L'))) aq sq 0 0 (fun q => b ≤ q)) LAY M L 0 0 19 [(0, .ref (b + 58)), (1, .long w), (3, .int n), (4, .int (nI k + (-1)))] [] := by
      intro n_3
      induction n_3 with
      | zero => intro k hm_3; exact absurd hm_3 (Nat.not_lt_zero _)
      | succ n_3 ih_3 =>
        intro k hm_3 hinv_3
        obtain ⟨i1, i2⟩ := hinv_3
        refine g_iload hC dX7_type_19 3 rfl ?_
        refine g_if_lt_T (X := ((k : Nat) : Int) - 1) hC (m1_t (by omega)) 55 dX7_type_21 rfl (fun c_4 => ?_) (fun c_4 => ?_)
        · skip
          refine g_aload_n hC dX7_type_55 rfl 0 rfl ?_
          refine g_getI (ci := 7) (i := 18) (k := 58) hC fm_in7 rfl ly_58 rfl (by decide) fw_638 dX7_type_56 ?_
          refine g_top (y := nI g.2.2.2.1.1) tp1 ?_
          refine g_iload_n hC dX7_type_59 rfl 2 rfl ?_
          refine g_iadd hC dX7_type_60 ?_
          refine g_top (y := nI g.2.2.2.1.1 + n) rfl ?_
          refine g_sipush (v := 140) hC dX7_type_61 rfl ?_
          refine g_icmp_le_T (X := ((g.2.2.2.1.1 : Nat) : Int) + n.toInt) (Y := 140) hC (fb_addn (by omega) (by omega) (by omega)) rfl 70 dX7_type_64 rfl (fun c_5 => ?_) (fun c_5 => ?_)
          · skip
            refine g_iload_n hC dX7_type_70 rfl 2 rfl ?_
            refine g_iconst (v := 1) hC dX7_type_71 rfl ?_
            refine g_isub hC dX7_type_72 ?_
            refine g_top (y := nI n.toInt.toNat + (-1)) (n_m1 (by omega)) ?_
            refine g_istore hC [(4, .int (nI n.toInt.toNat + (-1))), (0, .ref (b + 58)), (1, .long w), (3, .int n)] dX7_type_73 (by decide) rfl ?_
            have lp_75_6 : ∀ (n_6 : Nat) (M1 : Nat → Nat → Int32) (k2 : Nat), k2 < n_6 → (k2 ≤ n.toInt.toNat ∧ (∀ q, q ≠ 58 → q ≠ 67 → M1 q = M q) ∧ M1 58 18 = nI (g.2.2.2.1.1 + (n.toInt.toNat - k2)) ∧ (∀ j, j < (g.2.2.2.1.1 + (n.toInt.toNat - k2)) → M1 67 j = nI (tyF g.2.2.2.1 w n.toInt.toNat j)) ∧ (∀ i, i ≠ 18 → M1 58 i = M 58 i)) → fm_G pq l eq (fm_rm 1 25 0 0) sq mq aq bq tq cq D cA b 5 (MQ bq (fm_Q D cA b LAY (fm_pm (fun r M' L' => r = (op_type g w n).1 ∧ RS M' L' (op_type g w n).2 ∧ fR M M' L L'))) aq sq 0 0 (fun q => b ≤ q)) LAY M1 L 0 0 75 [(0, .ref (b + 58)), (1, .long w), (3, .int n), (4, .int (nI k2 + (-1)))] [] := by
              intro n_6
              induction n_6 with
              | zero => intro M1 k2 hm_6; exact absurd hm_6 (Nat.not_lt_zero _)
              | succ n_6 ih_6 =>
                intro M1 k2 hm_6 hinv_6
                obtain ⟨j1, j2, j3, j4, j5⟩ := hinv_6
                refine g_iload hC dX7_type_75 3 rfl ?_
                refine g_if_lt_T (X := ((k2 : Nat) : Int) - 1) hC (m1_t (by omega)) 117 dX7_type_77 rfl (fun c_7 => ?_) (fun c_7 => ?_)
                · skip
                  refine g_aload_n hC dX7_type_117 rfl 0 rfl ?_
                  refine g_getI (ci := 7) (i := 18) (k := 58) hC fm_in7 rfl ly_58 rfl (by decide) fw_638 dX7_type_118 ?_
                  refine g_top (y := nI (g.2.2.2.1.1 + (n.toInt.toNat - k2))) j3 ?_
                  refine g_zret (ty := .int) hC rfl rfl dX7_type_121 ?_
                  have ek : k2 = 0 := by omega
                  subst ek
                  have e0 := ty_4 (g := g) (w := w) (n := n) (by omega) (fun j hj => i2 j (by omega) hj) (by omega)
                  refine ⟨_, rfl, by rw [e0, Nat.sub_zero], ?_, fun q hq => ⟨j2 q (by omega) (by omega), rfl⟩⟩
                  rw [e0]
                  refine ⟨tR_sl hS.1 (fun q q1 q2 => j2 q (by omega) (by omega)) (fun i hi => j5 i (by omega)), fun q => by rw [j2 72 (by decide) (by decide)]; exact hS.2.1 q, by rw [j5 26 (by decide)]; exact hS.2.2.1, ⟨j3, fun i hi => ?_⟩, fun q hq => ?_⟩
                  · exact j4 i (by have : i < g.2.2.2.1.1 + n.toInt.toNat := hi; omega)
                  · rw [j2 73 (by decide) (by decide), j2 74 (by decide) (by decide)]; exact hS.2.2.2.2 q hq
                · skip
                  obtain ⟨h, rfl⟩ : ∃ h, k2 = h + 1 := ⟨k2 - 1, by omega⟩
                  rw [pk_m1 h]
                  refine g_aload_n hC dX7_type_80 rfl 0 rfl ?_
                  refine g_getR (ci := 7) (i := 17) (k := 58) (t := 67) hC fm_in7 rfl ly_58 rfl (by decide) fw_637 dX7_type_81 ?_
                  refine g_aload_n hC dX7_type_84 rfl 0 rfl ?_
                  refine g_getI (ci := 7) (i := 18) (k := 58) hC fm_in7 rfl ly_58 rfl (by decide) fw_638 dX7_type_85 ?_
                  refine g_top (y := nI (g.2.2.2.1.1 + (n.toInt.toNat - (h + 1)))) j3 ?_
                  refine g_lload_n hC dX7_type_88 rfl 1 rfl ?_
                  refine g_bipush (v := 8) hC dX7_type_89 rfl ?_
                  refine g_iload hC dX7_type_91 3 rfl ?_
                  refine g_imul hC dX7_type_93 ?_
                  refine g_top (y := nI (8 * h)) (pk_mul _ _) ?_
                  refine g_lshr (v := w >>> ((nI (8 * h)).toInt64 &&& 63)) hC dX7_type_94 rfl ?_
                  refine g_ldc2 (v := 255) hC fw_789 dX7_type_95 ?_
                  refine g_land hC dX7_type_98 ?_
                  refine g_topL (y := (w >>> ((nI (8 * h)).toInt64 &&& 63)) &&& 255) rfl ?_
                  refine g_l2i (v := ((w >>> ((nI (8 * h)).toInt64 &&& 63)) &&& 255).toInt32) hC dX7_type_99 rfl ?_
                  refine g_top (y := nI (byN w h)) (by_3 w (by omega)) ?_
                  refine g_iastN (j := (g.2.2.2.1.1 + (n.toInt.toNat - (h + 1)))) (k := 67) hC ly_67 rfl (by omega) (by decide) dX7_type_100 ?_
                  refine g_aload_n hC dX7_type_101 rfl 0 rfl ?_
                  refine g_dup hC dX7_type_102 rfl ?_
                  refine g_getI (ci := 7) (i := 18) (k := 58) hC fm_in7 rfl ly_58 rfl (by decide) fw_638 dX7_type_103 ?_
                  refine g_top (y := nI (g.2.2.2.1.1 + (n.toInt.toNat - (h + 1)))) ((by simp [fm_up, fm_row, upd] : (fm_up M1 67 (g.2.2.2.1.1 + (n.toInt.toNat - (h + 1))) (nI (byN w h))) 58 18 = M1 58 18).trans j3) ?_
                  refine g_iconst (v := 1) hC dX7_type_106 rfl ?_
                  refine g_iadd hC dX7_type_107 ?_
                  refine g_top (y := nI ((g.2.2.2.1.1 + (n.toInt.toNat - (h + 1))) + 1)) (nI_add _ _) ?_
                  refine g_putI (ci := 7) (i := 18) (k := 58) hC fm_in7 tyX7 tyX7_ok nmX7 rfl ly_58 rfl (by decide) fw_638 rfl rfl rfl dX7_type_108 ?_
                  refine g_iinc hC [(4, .int (nI h + (-1))), (0, .ref (b + 58)), (1, .long w), (3, .int n)] dX7_type_111 3 rfl (congrArg (fun z => nI h + z) (by decide : Int32.ofInt (-1) = (-1 : Int32))) (by decide) rfl ?_
                  refine g_goto hC 75 dX7_type_114 rfl ?_
                  exact g_sub [1, 2, 3, 0] rfl (ih_6 (fm_up (fm_up M1 67 (g.2.2.2.1.1 + (n.toInt.toNat - (h + 1))) (nI (byN w h))) 58 18 (nI ((g.2.2.2.1.1 + (n.toInt.toNat - (h + 1))) + 1))) h (by omega) (⟨by omega, fun q q1 q2 => by rw [fm_upn q1, fm_upn q2]; exact j2 q q1 q2, by rw [fm_ups]; congr 1; omega, fun j hj => by rw [fm_upn (by decide), fm_upv]; by_cases e : j = (g.2.2.2.1.1 + (n.toInt.toNat - (h + 1))); rw [if_pos e]; unfold tyF; rw [if_neg (by omega)]; congr 2; omega; rw [if_neg e]; exact j4 j (by omega), fun i hi => by rw [fm_upx hi, fm_upn (by decide)]; exact j5 i hi⟩))
            exact g_sub [1, 2, 3, 0] rfl (lp_75_6 (n.toInt.toNat + 1) M n.toInt.toNat (Nat.lt_succ_self _) (⟨by omega, fun _ _ _ => rfl, by rw [Nat.sub_self]; exact tp1, fun j hj => by unfold tyF; rw [if_pos (by omega)]; exact tp2 j (by omega), fun _ _ => rfl⟩))
          · skip
            refine g_bipush (v := (-3)) hC dX7_type_67 rfl ?_
            refine g_zret (ty := .int) hC rfl rfl dX7_type_69 ?_
            have ek : k = 0 := by omega
            subst ek
            have e0 := ty_3 (g := g) (w := w) (n := n) (by omega) (fun j hj => i2 j (by omega) hj) (by omega)
            exact ⟨_, rfl, by rw [e0], by rw [e0]; exact hS, fR_rf⟩
        · skip
          obtain ⟨h, rfl⟩ : ∃ h, k = h + 1 := ⟨k - 1, by omega⟩
          rw [pk_m1 h]
          refine g_lload_n hC dX7_type_24 rfl 1 rfl ?_
          refine g_bipush (v := 8) hC dX7_type_25 rfl ?_
          refine g_iload hC dX7_type_27 3 rfl ?_
          refine g_imul hC dX7_type_29 ?_
          refine g_top (y := nI (8 * h)) (pk_mul _ _) ?_
          refine g_lshr (v := w >>> ((nI (8 * h)).toInt64 &&& 63)) hC dX7_type_30 rfl ?_
          refine g_ldc2 (v := 255) hC fw_789 dX7_type_31 ?_
          refine g_land hC dX7_type_34 ?_
          refine g_topL (y := (w >>> ((nI (8 * h)).toInt64 &&& 63)) &&& 255) rfl ?_
          refine g_ldc2 (v := 32) hC fw_790 dX7_type_35 ?_
          refine g_ldc2 (v := 126) hC fw_791 dX7_type_38 ?_
          refine g_callS hC (as := [.long ((w >>> ((nI (8 * h)).toInt64 &&& 63)) &&& 255), .long 32, .long 126]) (rest := []) (c_X7_in l D cA b LAY M L ((w >>> ((nI (8 * h)).toInt64 &&& 63)) &&& 255) 32 126 ((byN w h : Nat) : Int) 32 126 (by_2 w (by omega)) rfl rfl) ⟨fw_725, fw_726, fw_9, fw_727⟩ hd_X7_in ⟨Nat.le_of_ble_eq_true rfl, Nat.le_of_ble_eq_true rfl⟩ ⟨Nat.le_of_ble_eq_true rfl, Nat.le_of_ble_eq_true rfl⟩ rfl rfl (Nat.le_of_ble_eq_true rfl) dX7_type_41 (g_rix ?_)
          refine g_ifb_ne hC 49 dX7_type_44 rfl (fun c_9 => ?_) (fun c_9 => ?_)
          · skip
            refine g_iinc hC [(4, .int (nI h + (-1))), (0, .ref (b + 58)), (1, .long w), (3, .int n)] dX7_type_49 3 rfl (congrArg (fun z => nI h + z) (by decide : Int32.ofInt (-1) = (-1 : Int32))) (by decide) rfl ?_
            refine g_goto hC 19 dX7_type_52 rfl ?_
            exact g_sub [1, 2, 3, 0] rfl (ih_3 h (by omega) (⟨by omega, fun j hj hj2 => if e : j = h then (by rw [e]; omega) else i2 j (by omega) hj2⟩))
          · skip
            refine g_iconst (v := (-1)) hC dX7_type_47 rfl ?_
            refine g_zret (ty := .int) hC rfl rfl dX7_type_48 ?_
            have e0 := ty_2 (g := g) (w := w) (n := n) (by omega) (i := h) (by omega) (by omega)
            exact ⟨_, rfl, by rw [e0], by rw [e0]; exact hS, fR_rf⟩
    exact g_sub [1, 2, 3, 0] rfl (lp_19_3 (n.toInt.toNat + 1) n.toInt.toNat (Nat.lt_succ_self _) (⟨by omega, fun j hj hj2 => by omega⟩))
  · skip
    refine g_iconst (v := (-1)) hC dX7_type_12 rfl ?_
    refine g_zret (ty := .int) hC rfl rfl dX7_type_13 ?_
    have e0 := ty_1 (g := g) (w := w) (n := n) (by omega)
    exact ⟨_, rfl, by rw [e0], by rw [e0]; exact hS, fR_rf⟩
