/-! ===== the check's lots ===== -/
theorem RS_dT {M M' : Nat → Nat → Int32} {L : Nat → Nat → Int64} {g : Sg} {v : Nat} (hS : RS M L g) (hv : M' 58 16 = nI v) (ho : ∀ i, i ≠ 16 → M' 58 i = M 58 i) (hk : ∀ q, q ≠ 58 → q ≠ 71 → M' q = M q) : RS M' L (dT g.1 v, g.2) :=
  RS_now hS (tR_dT hS.1 hv ho (fun k h1 h2 => hk k (by omega) (by omega))) (fun i _ _ _ _ => ho i (by omega)) (fun k h => hk k (by omega) (by omega)) rfl

theorem c_X7_drawRow (l : Launch) (D : va_G) (cA : Nat → ClassId) (b : Nat) (M : Nat → Nat → Int32) (L : Nat → Nat → Int64) (g : Sg) (hS : RS M L g) (hok : OK g) : fm_Met l D cA b yX7_drawRow cX7_drawRow 5 none 2 47 0 0 [.ref (b + 58)] LAY M L LAY (fm_pv (fun M' L' => RS M' L' (tDn g.1, g.2) ∧ rowIs M' 71 (rwD g.1) ∧ (∀ q, q ≠ 58 → q ≠ 71 → M' q = M q) ∧ L' = L)) := by
  refine fm_start RX7 rfl (by decide) (Nat.le_of_ble_eq_true rfl) ?_
  intro pq eq sq mq aq bq tq cq hC hin
  obtain ⟨⟨n1, n2, n3, v0, v1, v2, v3, v4, v5, v6, v7, v8⟩, hS2⟩ := id hS
  obtain ⟨⟨o1, o2, o3, o4, o5, o6, o7, o8, o9, o10, o11⟩, hok2⟩ := id hok
  refine g_iconst (v := 0) hC dX7_drawRow_0 rfl ?_
  refine g_istore_n hC [(1, .int 0), (0, .ref (b + 58))] dX7_drawRow_1 rfl (by decide) rfl ?_
  refine g_iconst (v := 0) hC dX7_drawRow_2 rfl ?_
  refine g_istore_n hC [(2, .int 0), (1, .int 0), (0, .ref (b + 58))] dX7_drawRow_3 rfl (by decide) rfl ?_
  have lp_4_1 : ∀ (n_1 : Nat) (M1 : Nat → Nat → Int32) (h : Nat), 24 - h < n_1 → (h ≤ 24 ∧ (∀ q, q ≠ 58 → q ≠ 71 → M1 q = M q) ∧ (∀ i, i ≠ 16 → M1 58 i = M 58 i) ∧ M1 58 16 = nI (dwK (g.1.1 7 7) h) ∧ (∀ j, j < h → M1 71 j = Int32.ofInt (dR g.1 (g.1.1 7 7) j))) → fm_G pq l eq (fm_rm 2 47 0 0) sq mq aq bq tq cq D cA b 5 (MQ bq (fm_Q D cA b LAY (fm_pv (fun M' L' => RS M' L' (tDn g.1, g.2) ∧ rowIs M' 71 (rwD g.1) ∧ (∀ q, q ≠ 58 → q ≠ 71 → M' q = M q) ∧ L' = L))) aq sq 0 0 (fun q => b ≤ q)) LAY M1 L 0 0 4 [(0, .ref (b + 58)), (1, .int (Int32.ofInt (dL g.1 (g.1.1 7 7) h))), (2, .int (nI h))] [] := by
    intro n_1
    induction n_1 with
    | zero => intro M1 h hm_1; exact absurd hm_1 (Nat.not_lt_zero _)
    | succ n_1 ih_1 =>
      intro M1 h hm_1 hinv_1
      obtain ⟨m0, m1, m2, m3, m4⟩ := hinv_1
      have dk := dwK_lt o11 h
      have dk1 := dwK_lt o11 (h + 1)
      have db := dN_b (dwK (g.1.1 7 7) (h + 1))
      have lb := dL_b g.1 (g.1.1 7 7) h
      have mle := mlS_le g.1 (h + 1)
      have wml := wtS_ml hok.1 (h + 1)
      have m24 : h = 23 → mlS g.1 (h + 1) = g.1.1 7 2 := fun e => by rw [e]; exact ml_24 hok.1
      refine g_iload_n hC dX7_drawRow_4 rfl 2 rfl ?_
      refine g_bipush (v := 24) hC dX7_drawRow_5 rfl ?_
      refine g_icmp_ge_T (X := ((h : Nat) : Int)) (Y := 24) hC (nI_toInt (by omega)) rfl 119 dX7_drawRow_7 rfl (fun c_2 => ?_) (fun c_2 => ?_)
      · skip
        refine g_aload_n hC dX7_drawRow_119 rfl 0 rfl ?_
        refine g_aload_n hC dX7_drawRow_120 rfl 0 rfl ?_
        refine g_getR (ci := 7) (i := 25) (k := 58) (t := 71) hC fm_in7 rfl ly_58 rfl (by decide) fw_645 dX7_drawRow_121 ?_
        refine g_callV hC (k := 58) (ci := 7) (as := [.ref (b + 71)]) (rest := []) (c_X7_wrongOf l D cA b M1 L (tDn g.1, g.2) 71 (dR g.1 (g.1.1 7 7)) (by have m3 := m3; rw [show h = 24 by omega] at m3; exact RS_dT hS m3 m2 (fun q q1 q2 => m1 q q1 q2)) (⟨tOK_tDn hok.1, hok.2⟩) ly_71 (fun j hj => ⟨m4 j (by omega), dR_b _ _ _⟩)) ⟨fw_869, fw_871, fs_28, fw_9, fw_872⟩ ⟨rfl, hd_X7_wrongOf⟩ rfl ly_58 ⟨Nat.le_of_ble_eq_true rfl, Nat.le_of_ble_eq_true rfl⟩ ⟨Nat.le_of_ble_eq_true rfl, Nat.le_of_ble_eq_true rfl⟩ rfl rfl (Nat.le_of_ble_eq_true rfl) dX7_drawRow_124 (g_rix ?_)
        refine g_if_lt_T (X := (wrongS (tDn g.1, g.2).1 (dR g.1 (g.1.1 7 7))).toInt) hC rfl 151 dX7_drawRow_127 rfl (fun c_4 => ?_) (fun c_4 => ?_)
        · skip
          have hw : wrongS (tDn g.1) (dR g.1 (g.1.1 7 7)) = -4 := Classical.byContradiction fun q => absurd (wrong_neg q) (Int.not_le.mpr c_4)
          refine g_vret hC rfl dX7_drawRow_151 ?_
          exact ⟨rfl, (by have m3 := m3; rw [show h = 24 by omega] at m3; exact RS_dT hS m3 m2 (fun q q1 q2 => m1 q q1 q2)), by rw [rwD_y hw]; exact fun j hj => ⟨m4 j (by omega), dR_b _ _ _⟩, fun q q1 q2 => m1 q q1 q2, rfl⟩
        · skip
          have hw : ¬ wrongS (tDn g.1) (dR g.1 (g.1.1 7 7)) = -4 := fun q => by rw [q] at c_4; exact absurd c_4 (by decide)
          refine g_iconst (v := 0) hC dX7_drawRow_130 rfl ?_
          refine g_istore_n hC [(2, .int 0), (0, .ref (b + 58)), (1, .int (Int32.ofInt (dL g.1 (g.1.1 7 7) h)))] dX7_drawRow_131 rfl (by decide) rfl ?_
          have lp_132_5 : ∀ (n_5 : Nat) (M2 : Nat → Nat → Int32) (i : Nat), 24 - i < n_5 → (i ≤ 24 ∧ (∀ q, q ≠ 71 → M2 q = M1 q) ∧ (∀ j, j < i → M2 71 j = 0)) → fm_G pq l eq (fm_rm 2 47 0 0) sq mq aq bq tq cq D cA b 5 (MQ bq (fm_Q D cA b LAY (fm_pv (fun M' L' => RS M' L' (tDn g.1, g.2) ∧ rowIs M' 71 (rwD g.1) ∧ (∀ q, q ≠ 58 → q ≠ 71 → M' q = M q) ∧ L' = L))) aq sq 0 0 (fun q => b ≤ q)) LAY M2 L 0 0 132 [(0, .ref (b + 58)), (1, .int (Int32.ofInt (dL g.1 (g.1.1 7 7) h))), (2, .int (nI i))] [] := by
            intro n_5
            induction n_5 with
            | zero => intro M2 i hm_5; exact absurd hm_5 (Nat.not_lt_zero _)
            | succ n_5 ih_5 =>
              intro M2 i hm_5 hinv_5
              obtain ⟨z0, z1, z2⟩ := hinv_5
              refine g_iload_n hC dX7_drawRow_132 rfl 2 rfl ?_
              refine g_bipush (v := 24) hC dX7_drawRow_133 rfl ?_
              refine g_icmp_ge_T (X := ((i : Nat) : Int)) (Y := 24) hC (nI_toInt (by omega)) rfl 151 dX7_drawRow_135 rfl (fun c_6 => ?_) (fun c_6 => ?_)
              · skip
                refine g_vret hC rfl dX7_drawRow_151 ?_
                rw [show h = 24 by omega] at m3
                exact ⟨rfl, RS_dT hS ((congrFun (z1 58 (by omega)) 16).trans m3) (fun i hi => (congrFun (z1 58 (by omega)) i).trans (m2 i hi)) (fun q q1 q2 => (z1 q q2).trans (m1 q q1 q2)), by rw [rwD_n hw]; exact fun j hj => ⟨z2 j (by omega), (by decide : (-2 : Int) ≤ 0), (by decide : (0 : Int) ≤ 5)⟩, fun q q1 q2 => (z1 q q2).trans (m1 q q1 q2), rfl⟩
              · skip
                refine g_aload_n hC dX7_drawRow_138 rfl 0 rfl ?_
                refine g_getR (ci := 7) (i := 25) (k := 58) (t := 71) hC fm_in7 rfl ly_58 rfl (by decide) fw_645 dX7_drawRow_139 ?_
                refine g_iload_n hC dX7_drawRow_142 rfl 2 rfl ?_
                refine g_iconst (v := 0) hC dX7_drawRow_143 rfl ?_
                refine g_iastN (j := i) (k := 71) hC ly_71 rfl (by omega) (by decide) dX7_drawRow_144 ?_
                refine g_iinc hC [(2, .int (nI (i + 1))), (0, .ref (b + 58)), (1, .int (Int32.ofInt (dL g.1 (g.1.1 7 7) h)))] dX7_drawRow_145 2 rfl (by rw [show Int32.ofInt 1 = nI 1 from rfl, nI_add]) (by decide) rfl ?_
                refine g_goto hC 132 dX7_drawRow_148 rfl ?_
                exact g_sub [1, 2, 0] rfl (ih_5 (fm_up M2 71 i 0) (i + 1) (by omega) (⟨by omega, fun q q1 => by rw [fm_upn q1]; exact z1 q q1, fun j hj => by rw [fm_upv]; by_cases ee : j = i; rw [if_pos ee]; rw [if_neg ee]; exact z2 j (by omega)⟩))
          exact g_sub [1, 2, 0] rfl (lp_132_5 (24 - 0 + 1) M1 0 (Nat.lt_succ_self _) (⟨by omega, fun _ _ => rfl, fun j hj => by omega⟩))
      · skip
        refine g_aload_n hC dX7_drawRow_10 rfl 0 rfl ?_
        refine g_aload_n hC dX7_drawRow_11 rfl 0 rfl ?_
        refine g_getI (ci := 7) (i := 16) (k := 58) hC fm_in7 rfl ly_58 rfl (by decide) fw_636 dX7_drawRow_12 ?_
        refine g_top (y := nI (dwK (g.1.1 7 7) h)) m3 ?_
        refine g_i2l (v := (nI (dwK (g.1.1 7 7) h)).toInt64) hC dX7_drawRow_15 rfl ?_
        refine g_ldc2 (v := 1103515245) hC fw_930 dX7_drawRow_16 ?_
        refine g_lmul hC dX7_drawRow_19 ?_
        refine g_ldc2 (v := 12345) hC fw_931 dX7_drawRow_20 ?_
        refine g_ladd hC dX7_drawRow_23 ?_
        refine g_ldc2 (v := 2147483647) hC fw_932 dX7_drawRow_24 ?_
        refine g_land hC dX7_drawRow_27 ?_
        refine g_l2i (v := (((((nI (dwK (g.1.1 7 7) h)).toInt64) * 1103515245) + 12345) &&& 2147483647).toInt32) hC dX7_drawRow_28 rfl ?_
        refine g_top (y := nI (dwK (g.1.1 7 7) (h + 1))) (dwK_s _ _) ?_
        refine g_putI (ci := 7) (i := 16) (k := 58) hC fm_in7 tyX7 tyX7_ok nmX7 rfl ly_58 rfl (by decide) fw_636 rfl rfl rfl dX7_drawRow_29 ?_
        refine g_aload_n hC dX7_drawRow_32 rfl 0 rfl ?_
        refine g_getI (ci := 7) (i := 16) (k := 58) hC fm_in7 rfl ly_58 rfl (by decide) fw_636 dX7_drawRow_33 ?_
        refine g_top (y := nI (dwK (g.1.1 7 7) (h + 1))) (by simp [fm_up, fm_row, upd]) ?_
        refine g_ldc (v := 65536) hC fw_933 dX7_drawRow_36 ?_
        refine g_idiv hC dX7_drawRow_38 (by decide) ?_
        refine g_bipush (v := 8) hC dX7_drawRow_39 rfl ?_
        refine g_irem hC dX7_drawRow_41 (by decide) ?_
        refine g_bipush (v := (-2)) hC dX7_drawRow_42 rfl ?_
        refine g_iadd hC dX7_drawRow_44 ?_
        refine g_top (y := Int32.ofInt (dN (dwK (g.1.1 7 7) (h + 1)))) (dN_e dk1) ?_
        refine g_istore_n hC [(3, .int (Int32.ofInt (dN (dwK (g.1.1 7 7) (h + 1))))), (0, .ref (b + 58)), (1, .int (Int32.ofInt (dL g.1 (g.1.1 7 7) h))), (2, .int (nI h))] dX7_drawRow_45 rfl (by decide) rfl ?_
        refine g_iload_n hC dX7_drawRow_46 rfl 2 rfl ?_
        refine g_iload_n hC dX7_drawRow_47 rfl 0 rfl ?_
        refine g_iadd hC dX7_drawRow_48 ?_
        refine g_top (y := Int32.ofInt (dL g.1 (g.1.1 7 7) h + dN (dwK (g.1.1 7 7) (h + 1)))) (oI_add _ _) ?_
        refine g_i2l (v := (Int32.ofInt (dL g.1 (g.1.1 7 7) h + dN (dwK (g.1.1 7 7) (h + 1)))).toInt64) hC dX7_drawRow_49 rfl ?_
        refine g_lconst (v := 0) hC dX7_drawRow_50 rfl ?_
        refine g_aload_n hC dX7_drawRow_51 rfl 1 rfl ?_
        refine g_getI (ci := 7) (i := 10) (k := 58) hC fm_in7 rfl ly_58 rfl (by decide) fw_630 dX7_drawRow_52 ?_
        refine g_top (y := nI (g.1.1 7 2)) ((by simp [fm_up, fm_row, upd] : (fm_up M1 58 16 (nI (dwK (g.1.1 7 7) (h + 1)))) 58 10 = M1 58 10).trans ((m2 10 (by omega)).trans v2)) ?_
        refine g_i2l (v := (nI (g.1.1 7 2)).toInt64) hC dX7_drawRow_55 rfl ?_
        refine g_callS hC (as := [.long ((Int32.ofInt (dL g.1 (g.1.1 7 7) h + dN (dwK (g.1.1 7 7) (h + 1)))).toInt64), .long 0, .long ((nI (g.1.1 7 2)).toInt64)]) (rest := []) (c_X7_in l D cA b LAY (fm_up M1 58 16 (nI (dwK (g.1.1 7 7) (h + 1)))) L ((Int32.ofInt (dL g.1 (g.1.1 7 7) h + dN (dwK (g.1.1 7 7) (h + 1)))).toInt64) 0 ((nI (g.1.1 7 2)).toInt64) (dL g.1 (g.1.1 7 7) h + dN (dwK (g.1.1 7 7) (h + 1))) 0 ((g.1.1 7 2 : Nat) : Int) ((ic_w _).trans (oI_t (by omega) (by omega))) rfl ((ic_w _).trans (nI_toInt (by omega)))) ⟨fw_725, fw_726, fw_9, fw_727⟩ hd_X7_in ⟨Nat.le_of_ble_eq_true rfl, Nat.le_of_ble_eq_true rfl⟩ ⟨Nat.le_of_ble_eq_true rfl, Nat.le_of_ble_eq_true rfl⟩ rfl rfl (Nat.le_of_ble_eq_true rfl) dX7_drawRow_56 (g_rix ?_)
        refine g_ifb_eq hC 85 dX7_drawRow_59 rfl (fun c_8 => ?_) (fun c_8 => ?_)
        · skip
          refine g_iconst (v := 0) hC dX7_drawRow_85 rfl ?_
          refine g_istore hC [(4, .int 0), (3, .int (Int32.ofInt (dN (dwK (g.1.1 7 7) (h + 1))))), (0, .ref (b + 58)), (1, .int (Int32.ofInt (dL g.1 (g.1.1 7 7) h))), (2, .int (nI h))] dX7_drawRow_86 (by decide) rfl ?_
          refine g_aload_n hC dX7_drawRow_88 rfl 2 rfl ?_
          refine g_getR (ci := 7) (i := 25) (k := 58) (t := 71) hC fm_in7 rfl ly_58 rfl (by decide) fw_645 dX7_drawRow_89 ?_
          refine g_iload_n hC dX7_drawRow_92 rfl 4 rfl ?_
          refine g_iload hC dX7_drawRow_93 0 rfl ?_
          refine g_if_eq_T (X := 0) hC rfl 102 dX7_drawRow_95 rfl (fun _ => ?_) (fun c_9 => absurd c_9 (by omega))
          refine g_iconst (v := 0) hC dX7_drawRow_102 rfl ?_
          refine g_top (y := Int32.ofInt (dR g.1 (g.1.1 7 7) h)) (by rw [show dR g.1 (g.1.1 7 7) h = 0 from if_neg (by omega)]; rfl) ?_
          refine g_iastN (j := h) (k := 71) hC ly_71 rfl (by omega) (by decide) dX7_drawRow_103 ?_
          refine g_iload_n hC dX7_drawRow_104 rfl 3 rfl ?_
          refine g_aload_n hC dX7_drawRow_105 rfl 2 rfl ?_
          refine g_getR (ci := 7) (i := 25) (k := 58) (t := 71) hC fm_in7 rfl ly_58 rfl (by decide) fw_645 dX7_drawRow_106 ?_
          refine g_iload_n hC dX7_drawRow_109 rfl 4 rfl ?_
          refine g_ialdN (j := h) (k := 71) hC ly_71 rfl (by omega) (by decide) dX7_drawRow_110 ?_
          refine g_top (y := Int32.ofInt (dR g.1 (g.1.1 7 7) h)) (by simp [fm_up, fm_row, upd]) ?_
          refine g_iadd hC dX7_drawRow_111 ?_
          refine g_top (y := Int32.ofInt (dL g.1 (g.1.1 7 7) (h + 1))) (oI_add _ _) ?_
          refine g_istore_n hC [(1, .int (Int32.ofInt (dL g.1 (g.1.1 7 7) (h + 1)))), (4, .int 0), (3, .int (Int32.ofInt (dN (dwK (g.1.1 7 7) (h + 1))))), (0, .ref (b + 58)), (2, .int (nI h))] dX7_drawRow_112 rfl (by decide) rfl ?_
          refine g_iinc hC [(2, .int (nI (h + 1))), (1, .int (Int32.ofInt (dL g.1 (g.1.1 7 7) (h + 1)))), (4, .int 0), (3, .int (Int32.ofInt (dN (dwK (g.1.1 7 7) (h + 1))))), (0, .ref (b + 58))] dX7_drawRow_113 4 rfl (by rw [show Int32.ofInt 1 = nI 1 from rfl, nI_add]) (by decide) rfl ?_
          refine g_goto hC 4 dX7_drawRow_116 rfl ?_
          exact g_sub [4, 1, 0] rfl (ih_1 (fm_up (fm_up M1 58 16 (nI (dwK (g.1.1 7 7) (h + 1)))) 71 h (Int32.ofInt (dR g.1 (g.1.1 7 7) h))) (h + 1) (by omega) (⟨by omega, fun q q1 q2 => by rw [fm_upn q2, fm_upn q1]; exact m1 q q1 q2, fun i hi => by rw [fm_upn (by omega), fm_upx hi]; exact m2 i hi, by rw [fm_upn (by omega), fm_ups], fun j hj => by rw [fm_upv]; by_cases ee : j = h; rw [if_pos ee, ee]; rw [if_neg ee, fm_upn (by omega)]; exact m4 j (by omega)⟩))
        · skip
          refine g_iload_n hC dX7_drawRow_62 rfl 3 rfl ?_
          refine g_bipush (v := 23) hC dX7_drawRow_63 rfl ?_
          refine g_icmp_eq_T (X := ((h : Nat) : Int)) (Y := 23) hC (nI_toInt (by omega)) rfl 81 dX7_drawRow_65 rfl (fun c_10 => ?_) (fun c_10 => ?_)
          · skip
            refine g_iconst (v := 1) hC dX7_drawRow_81 rfl ?_
            refine g_goto hC 86 dX7_drawRow_82 rfl ?_
            refine g_istore hC [(4, .int 1), (3, .int (Int32.ofInt (dN (dwK (g.1.1 7 7) (h + 1))))), (0, .ref (b + 58)), (1, .int (Int32.ofInt (dL g.1 (g.1.1 7 7) h))), (2, .int (nI h))] dX7_drawRow_86 (by decide) rfl ?_
            refine g_aload_n hC dX7_drawRow_88 rfl 2 rfl ?_
            refine g_getR (ci := 7) (i := 25) (k := 58) (t := 71) hC fm_in7 rfl ly_58 rfl (by decide) fw_645 dX7_drawRow_89 ?_
            refine g_iload_n hC dX7_drawRow_92 rfl 4 rfl ?_
            refine g_iload hC dX7_drawRow_93 0 rfl ?_
            refine g_if_eq_T (X := 1) hC rfl 102 dX7_drawRow_95 rfl (fun c_11 => absurd c_11 (by omega)) (fun _ => ?_)
            refine g_iload_n hC dX7_drawRow_98 rfl 1 rfl ?_
            refine g_goto hC 103 dX7_drawRow_99 rfl ?_
            refine g_top (y := Int32.ofInt (dR g.1 (g.1.1 7 7) h)) (by rw [show dR g.1 (g.1.1 7 7) h = dN (dwK (g.1.1 7 7) (h + 1)) from if_pos (by omega)]) ?_
            refine g_iastN (j := h) (k := 71) hC ly_71 rfl (by omega) (by decide) dX7_drawRow_103 ?_
            refine g_iload_n hC dX7_drawRow_104 rfl 3 rfl ?_
            refine g_aload_n hC dX7_drawRow_105 rfl 2 rfl ?_
            refine g_getR (ci := 7) (i := 25) (k := 58) (t := 71) hC fm_in7 rfl ly_58 rfl (by decide) fw_645 dX7_drawRow_106 ?_
            refine g_iload_n hC dX7_drawRow_109 rfl 4 rfl ?_
            refine g_ialdN (j := h) (k := 71) hC ly_71 rfl (by omega) (by decide) dX7_drawRow_110 ?_
            refine g_top (y := Int32.ofInt (dR g.1 (g.1.1 7 7) h)) (by simp [fm_up, fm_row, upd]) ?_
            refine g_iadd hC dX7_drawRow_111 ?_
            refine g_top (y := Int32.ofInt (dL g.1 (g.1.1 7 7) (h + 1))) (oI_add _ _) ?_
            refine g_istore_n hC [(1, .int (Int32.ofInt (dL g.1 (g.1.1 7 7) (h + 1)))), (4, .int 1), (3, .int (Int32.ofInt (dN (dwK (g.1.1 7 7) (h + 1))))), (0, .ref (b + 58)), (2, .int (nI h))] dX7_drawRow_112 rfl (by decide) rfl ?_
            refine g_iinc hC [(2, .int (nI (h + 1))), (1, .int (Int32.ofInt (dL g.1 (g.1.1 7 7) (h + 1)))), (4, .int 1), (3, .int (Int32.ofInt (dN (dwK (g.1.1 7 7) (h + 1))))), (0, .ref (b + 58))] dX7_drawRow_113 4 rfl (by rw [show Int32.ofInt 1 = nI 1 from rfl, nI_add]) (by decide) rfl ?_
            refine g_goto hC 4 dX7_drawRow_116 rfl ?_
            exact g_sub [4, 1, 0] rfl (ih_1 (fm_up (fm_up M1 58 16 (nI (dwK (g.1.1 7 7) (h + 1)))) 71 h (Int32.ofInt (dR g.1 (g.1.1 7 7) h))) (h + 1) (by omega) (⟨by omega, fun q q1 q2 => by rw [fm_upn q2, fm_upn q1]; exact m1 q q1 q2, fun i hi => by rw [fm_upn (by omega), fm_upx hi]; exact m2 i hi, by rw [fm_upn (by omega), fm_ups], fun j hj => by rw [fm_upv]; by_cases ee : j = h; rw [if_pos ee, ee]; rw [if_neg ee, fm_upn (by omega)]; exact m4 j (by omega)⟩))
          · skip
            refine g_aload_n hC dX7_drawRow_68 rfl 1 rfl ?_
            refine g_iload_n hC dX7_drawRow_69 rfl 3 rfl ?_
            refine g_iconst (v := 1) hC dX7_drawRow_70 rfl ?_
            refine g_iadd hC dX7_drawRow_71 ?_
            refine g_top (y := nI (h + 1)) (nI_add _ _) ?_
            refine g_iload_n hC dX7_drawRow_72 rfl 2 rfl ?_
            refine g_iload_n hC dX7_drawRow_73 rfl 0 rfl ?_
            refine g_iadd hC dX7_drawRow_74 ?_
            refine g_top (y := Int32.ofInt (dL g.1 (g.1.1 7 7) h + dN (dwK (g.1.1 7 7) (h + 1)))) (oI_add _ _) ?_
            refine g_callV hC (k := 58) (ci := 7) (as := [.int (nI (h + 1)), .int (Int32.ofInt (dL g.1 (g.1.1 7 7) h + dN (dwK (g.1.1 7 7) (h + 1))))]) (rest := []) (c_X7_areCaught l D cA b (fm_up M1 58 16 (nI (dwK (g.1.1 7 7) (h + 1)))) L (dT g.1 (dwK (g.1.1 7 7) (h + 1)), g.2) (h + 1) (Int32.ofInt (dL g.1 (g.1.1 7 7) h + dN (dwK (g.1.1 7 7) (h + 1)))) (dL g.1 (g.1.1 7 7) h + dN (dwK (g.1.1 7 7) (h + 1))) (RS_dT hS (M' := fm_up M1 58 16 (nI (dwK (g.1.1 7 7) (h + 1)))) (by rw [fm_ups]) (fun i hi => by rw [fm_upx hi]; exact m2 i hi) (fun q q1 q2 => by rw [fm_upn q1]; exact m1 q q1 q2)) (⟨tOK_dT hok.1 dk1, hok.2⟩) (by omega) (oI_t (by omega) (by omega)) (by omega)) ⟨fw_873, fw_875, fs_29, fw_9, fw_876⟩ ⟨rfl, hd_X7_areCaught⟩ rfl ly_58 ⟨Nat.le_of_ble_eq_true rfl, Nat.le_of_ble_eq_true rfl⟩ ⟨Nat.le_of_ble_eq_true rfl, Nat.le_of_ble_eq_true rfl⟩ rfl rfl (Nat.le_of_ble_eq_true rfl) dX7_drawRow_75 (g_rix ?_)
            rw [wtS_dT]
            refine g_ifb_eq hC 85 dX7_drawRow_78 rfl (fun c_13 => ?_) (fun c_13 => ?_)
            · skip
              refine g_iconst (v := 0) hC dX7_drawRow_85 rfl ?_
              refine g_istore hC [(4, .int 0), (3, .int (Int32.ofInt (dN (dwK (g.1.1 7 7) (h + 1))))), (0, .ref (b + 58)), (1, .int (Int32.ofInt (dL g.1 (g.1.1 7 7) h))), (2, .int (nI h))] dX7_drawRow_86 (by decide) rfl ?_
              refine g_aload_n hC dX7_drawRow_88 rfl 2 rfl ?_
              refine g_getR (ci := 7) (i := 25) (k := 58) (t := 71) hC fm_in7 rfl ly_58 rfl (by decide) fw_645 dX7_drawRow_89 ?_
              refine g_iload_n hC dX7_drawRow_92 rfl 4 rfl ?_
              refine g_iload hC dX7_drawRow_93 0 rfl ?_
              refine g_if_eq_T (X := 0) hC rfl 102 dX7_drawRow_95 rfl (fun _ => ?_) (fun c_14 => absurd c_14 (by omega))
              refine g_iconst (v := 0) hC dX7_drawRow_102 rfl ?_
              refine g_top (y := Int32.ofInt (dR g.1 (g.1.1 7 7) h)) (by rw [show dR g.1 (g.1.1 7 7) h = 0 from if_neg (by omega)]; rfl) ?_
              refine g_iastN (j := h) (k := 71) hC ly_71 rfl (by omega) (by decide) dX7_drawRow_103 ?_
              refine g_iload_n hC dX7_drawRow_104 rfl 3 rfl ?_
              refine g_aload_n hC dX7_drawRow_105 rfl 2 rfl ?_
              refine g_getR (ci := 7) (i := 25) (k := 58) (t := 71) hC fm_in7 rfl ly_58 rfl (by decide) fw_645 dX7_drawRow_106 ?_
              refine g_iload_n hC dX7_drawRow_109 rfl 4 rfl ?_
              refine g_ialdN (j := h) (k := 71) hC ly_71 rfl (by omega) (by decide) dX7_drawRow_110 ?_
              refine g_top (y := Int32.ofInt (dR g.1 (g.1.1 7 7) h)) (by simp [fm_up, fm_row, upd]) ?_
              refine g_iadd hC dX7_drawRow_111 ?_
              refine g_top (y := Int32.ofInt (dL g.1 (g.1.1 7 7) (h + 1))) (oI_add _ _) ?_
              refine g_istore_n hC [(1, .int (Int32.ofInt (dL g.1 (g.1.1 7 7) (h + 1)))), (4, .int 0), (3, .int (Int32.ofInt (dN (dwK (g.1.1 7 7) (h + 1))))), (0, .ref (b + 58)), (2, .int (nI h))] dX7_drawRow_112 rfl (by decide) rfl ?_
              refine g_iinc hC [(2, .int (nI (h + 1))), (1, .int (Int32.ofInt (dL g.1 (g.1.1 7 7) (h + 1)))), (4, .int 0), (3, .int (Int32.ofInt (dN (dwK (g.1.1 7 7) (h + 1))))), (0, .ref (b + 58))] dX7_drawRow_113 4 rfl (by rw [show Int32.ofInt 1 = nI 1 from rfl, nI_add]) (by decide) rfl ?_
              refine g_goto hC 4 dX7_drawRow_116 rfl ?_
              exact g_sub [4, 1, 0] rfl (ih_1 (fm_up (fm_up M1 58 16 (nI (dwK (g.1.1 7 7) (h + 1)))) 71 h (Int32.ofInt (dR g.1 (g.1.1 7 7) h))) (h + 1) (by omega) (⟨by omega, fun q q1 q2 => by rw [fm_upn q2, fm_upn q1]; exact m1 q q1 q2, fun i hi => by rw [fm_upn (by omega), fm_upx hi]; exact m2 i hi, by rw [fm_upn (by omega), fm_ups], fun j hj => by rw [fm_upv]; by_cases ee : j = h; rw [if_pos ee, ee]; rw [if_neg ee, fm_upn (by omega)]; exact m4 j (by omega)⟩))
            · skip
              refine g_iconst (v := 1) hC dX7_drawRow_81 rfl ?_
              refine g_goto hC 86 dX7_drawRow_82 rfl ?_
              refine g_istore hC [(4, .int 1), (3, .int (Int32.ofInt (dN (dwK (g.1.1 7 7) (h + 1))))), (0, .ref (b + 58)), (1, .int (Int32.ofInt (dL g.1 (g.1.1 7 7) h))), (2, .int (nI h))] dX7_drawRow_86 (by decide) rfl ?_
              refine g_aload_n hC dX7_drawRow_88 rfl 2 rfl ?_
              refine g_getR (ci := 7) (i := 25) (k := 58) (t := 71) hC fm_in7 rfl ly_58 rfl (by decide) fw_645 dX7_drawRow_89 ?_
              refine g_iload_n hC dX7_drawRow_92 rfl 4 rfl ?_
              refine g_iload hC dX7_drawRow_93 0 rfl ?_
              refine g_if_eq_T (X := 1) hC rfl 102 dX7_drawRow_95 rfl (fun c_15 => absurd c_15 (by omega)) (fun _ => ?_)
              refine g_iload_n hC dX7_drawRow_98 rfl 1 rfl ?_
              refine g_goto hC 103 dX7_drawRow_99 rfl ?_
              refine g_top (y := Int32.ofInt (dR g.1 (g.1.1 7 7) h)) (by rw [show dR g.1 (g.1.1 7 7) h = dN (dwK (g.1.1 7 7) (h + 1)) from if_pos (by omega)]) ?_
              refine g_iastN (j := h) (k := 71) hC ly_71 rfl (by omega) (by decide) dX7_drawRow_103 ?_
              refine g_iload_n hC dX7_drawRow_104 rfl 3 rfl ?_
              refine g_aload_n hC dX7_drawRow_105 rfl 2 rfl ?_
              refine g_getR (ci := 7) (i := 25) (k := 58) (t := 71) hC fm_in7 rfl ly_58 rfl (by decide) fw_645 dX7_drawRow_106 ?_
              refine g_iload_n hC dX7_drawRow_109 rfl 4 rfl ?_
              refine g_ialdN (j := h) (k := 71) hC ly_71 rfl (by omega) (by decide) dX7_drawRow_110 ?_
              refine g_top (y := Int32.ofInt (dR g.1 (g.1.1 7 7) h)) (by simp [fm_up, fm_row, upd]) ?_
              refine g_iadd hC dX7_drawRow_111 ?_
              refine g_top (y := Int32.ofInt (dL g.1 (g.1.1 7 7) (h + 1))) (oI_add _ _) ?_
              refine g_istore_n hC [(1, .int (Int32.ofInt (dL g.1 (g.1.1 7 7) (h + 1)))), (4, .int 1), (3, .int (Int32.ofInt (dN (dwK (g.1.1 7 7) (h + 1))))), (0, .ref (b + 58)), (2, .int (nI h))] dX7_drawRow_112 rfl (by decide) rfl ?_
              refine g_iinc hC [(2, .int (nI (h + 1))), (1, .int (Int32.ofInt (dL g.1 (g.1.1 7 7) (h + 1)))), (4, .int 1), (3, .int (Int32.ofInt (dN (dwK (g.1.1 7 7) (h + 1))))), (0, .ref (b + 58))] dX7_drawRow_113 4 rfl (by rw [show Int32.ofInt 1 = nI 1 from rfl, nI_add]) (by decide) rfl ?_
              refine g_goto hC 4 dX7_drawRow_116 rfl ?_
              exact g_sub [4, 1, 0] rfl (ih_1 (fm_up (fm_up M1 58 16 (nI (dwK (g.1.1 7 7) (h + 1)))) 71 h (Int32.ofInt (dR g.1 (g.1.1 7 7) h))) (h + 1) (by omega) (⟨by omega, fun q q1 q2 => by rw [fm_upn q2, fm_upn q1]; exact m1 q q1 q2, fun i hi => by rw [fm_upn (by omega), fm_upx hi]; exact m2 i hi, by rw [fm_upn (by omega), fm_ups], fun j hj => by rw [fm_upv]; by_cases ee : j = h; rw [if_pos ee, ee]; rw [if_neg ee, fm_upn (by omega)]; exact m4 j (by omega)⟩))
  exact g_sub [2, 1, 0] rfl (lp_4_1 (24 - 0 + 1) M 0 (Nat.lt_succ_self _) (⟨by omega, fun _ _ _ => rfl, fun _ _ => rfl, v8.trans (by rw [dwK_0]), fun j hj => by omega⟩))

theorem c_X7_lots (l : Launch) (D : va_G) (cA : Nat → ClassId) (b : Nat) (M : Nat → Nat → Int32) (L : Nat → Nat → Int64) (g : Sg) (x : Int32) (hS : RS M L g) (hok : OK g) : fm_Met l D cA b yX7_lots cX7_lots 4 (some .int) 5 117 0 0 [.ref (b + 58), .int x] LAY M L LAY (fm_pm (fun r M' L' => r = (op_lots g x).1 ∧ RS M' L' (op_lots g x).2 ∧ fR M M' L L')) := by
  refine fm_start RX7 rfl (by decide) (Nat.le_of_ble_eq_true rfl) ?_
  intro pq eq sq mq aq bq tq cq hC hin
  obtain ⟨⟨n1, n2, n3, v0, v1, v2, v3, v4, v5, v6, v7, v8⟩, hS2⟩ := id hS
  obtain ⟨⟨o1, o2, o3, o4, o5, o6, o7, o8, o9, o10, o11⟩, hok2⟩ := id hok
  refine g_iload_n hC dX7_lots_0 rfl 1 rfl ?_
  refine g_i2l (v := x.toInt64) hC dX7_lots_1 rfl ?_
  refine g_lconst (v := 1) hC dX7_lots_2 rfl ?_
  refine g_ldc2 (v := 30) hC fw_905 dX7_lots_3 ?_
  refine g_callS hC (as := [.long x.toInt64, .long 1, .long 30]) (rest := []) (c_X7_in l D cA b LAY M L x.toInt64 1 30 x.toInt 1 30 ((ic_w _).trans rfl) rfl rfl) ⟨fw_725, fw_726, fw_9, fw_727⟩ hd_X7_in ⟨Nat.le_of_ble_eq_true rfl, Nat.le_of_ble_eq_true rfl⟩ ⟨Nat.le_of_ble_eq_true rfl, Nat.le_of_ble_eq_true rfl⟩ rfl rfl (Nat.le_of_ble_eq_true rfl) dX7_lots_6 (g_rix ?_)
  refine g_ifb_ne hC 15 dX7_lots_9 rfl (fun c_2 => ?_) (fun c_2 => ?_)
  · skip
    refine g_aload_n hC dX7_lots_15 rfl 0 rfl ?_
    refine g_getI (ci := 7) (i := 14) (k := 58) hC fm_in7 rfl ly_58 rfl (by decide) fw_634 dX7_lots_16 ?_
    refine g_top (y := nI (g.1.1 7 6)) v6 ?_
    refine g_iload_n hC dX7_lots_19 rfl 1 rfl ?_
    refine g_iadd hC dX7_lots_20 ?_
    refine g_top (y := nI (g.1.1 7 6) + x) rfl ?_
    refine g_sipush (v := 9999) hC dX7_lots_21 rfl ?_
    refine g_icmp_le_T (X := ((g.1.1 7 6 : Nat) : Int) + x.toInt) (Y := 9999) hC (fb_addn (by omega) (by omega) (by omega)) rfl 30 dX7_lots_24 rfl (fun c_3 => ?_) (fun c_3 => ?_)
    · skip
      refine g_iconst (v := 0) hC dX7_lots_30 rfl ?_
      refine g_istore_n hC [(2, .int 0), (0, .ref (b + 58)), (1, .int x)] dX7_lots_31 rfl (by decide) rfl ?_
      refine g_iconst (v := 0) hC dX7_lots_32 rfl ?_
      refine g_istore_n hC [(3, .int 0), (2, .int 0), (0, .ref (b + 58)), (1, .int x)] dX7_lots_33 rfl (by decide) rfl ?_
      have lp_34_4 : ∀ (n_4 : Nat) (M1 : Nat → Nat → Int32) (L1 : Nat → Nat → Int64) (i : Nat), x.toInt.toNat - i < n_4 → (i ≤ x.toInt.toNat ∧ RS M1 L1 (loT g.1 i, g.2) ∧ fR M M1 L L1) → fm_G pq l eq (fm_rm 5 117 0 0) sq mq aq bq tq cq D cA b 4 (MQ bq (fm_Q D cA b LAY (fm_pm (fun r M' L' => r = (op_lots g x).1 ∧ RS M' L' (op_lots g x).2 ∧ fR M M' L L'))) aq sq 0 0 (fun q => b ≤ q)) LAY M1 L1 0 0 34 [(0, .ref (b + 58)), (1, .int x), (2, .int (loS g.1 i)), (3, .int (nI i))] [] := by
        intro n_4
        induction n_4 with
        | zero => intro M1 L1 i hm_4; exact absurd hm_4 (Nat.not_lt_zero _)
        | succ n_4 ih_4 =>
          intro M1 L1 i hm_4 hinv_4
          obtain ⟨s1, s2, s3⟩ := hinv_4
          have s6 := lo_6 g.1 i
          have hti : tOK (loT g.1 i) := lo_ok hok.1 (by omega)
          have hoki : OK (loT g.1 i, g.2) := ⟨hti, hok.2⟩
          refine g_iload_n hC dX7_lots_34 rfl 3 rfl ?_
          refine g_iload_n hC dX7_lots_35 rfl 1 rfl ?_
          refine g_icmp_ge_T (X := ((i : Nat) : Int)) (Y := x.toInt) hC (nI_toInt (by omega)) rfl 60 dX7_lots_36 rfl (fun c_5 => ?_) (fun c_5 => ?_)
          · skip
            refine g_iload_n hC dX7_lots_60 rfl 2 rfl ?_
            refine g_zret (ty := .int) hC rfl rfl dX7_lots_61 ?_
            have ei : x.toInt.toNat = i := by omega
            have e0 : op_lots g x = (loS g.1 i, (loT g.1 i, g.2)) := by unfold op_lots; rw [if_pos (by omega), if_pos (by omega), ei]
            exact ⟨_, rfl, by rw [e0], by rw [e0]; exact s2, s3⟩
          · skip
            refine g_aload_n hC dX7_lots_39 rfl 0 rfl ?_
            refine g_callV hC (k := 58) (ci := 7) (as := []) (rest := []) (c_X7_drawRow l D cA b M1 L1 (loT g.1 i, g.2) s2 hoki) ⟨fw_926, fw_928, fs_33, fw_9, fw_929⟩ ⟨rfl, hd_X7_drawRow⟩ rfl ly_58 ⟨Nat.le_of_ble_eq_true rfl, Nat.le_of_ble_eq_true rfl⟩ ⟨Nat.le_of_ble_eq_true rfl, Nat.le_of_ble_eq_true rfl⟩ rfl rfl (Nat.le_of_ble_eq_true rfl) dX7_lots_40 (g_rv (fun M_6 L_6 h_6 => ?_))
            obtain ⟨p1_6, p2_6, p3_6, p4_6⟩ := h_6
            rw [p4_6]
            rw [p4_6] at p1_6
            refine g_iload_n hC dX7_lots_43 rfl 2 rfl ?_
            refine g_aload_n hC dX7_lots_44 rfl 0 rfl ?_
            refine g_aload_n hC dX7_lots_45 rfl 0 rfl ?_
            refine g_getR (ci := 7) (i := 25) (k := 58) (t := 71) hC fm_in7 rfl ly_58 rfl (by decide) fw_645 dX7_lots_46 ?_
            refine g_callV hC (k := 58) (ci := 7) (as := [.ref (b + 71)]) (rest := [.int (loS g.1 i)]) (c_X7_dayBy l D cA b M_6 L1 (tDn (loT g.1 i), g.2) 71 (rwD (loT g.1 i)) p1_6 (⟨tOK_tDn hti, hok.2⟩) ly_71 p2_6 (rwD_end _) (show (tDn (loT g.1 i)).1 7 6 < 9999 by rw [tDn_6]; omega) (by decide)) ⟨fw_887, fw_889, fs_30, fw_9, fw_890⟩ ⟨rfl, hd_X7_dayBy⟩ rfl ly_58 ⟨Nat.le_of_ble_eq_true rfl, Nat.le_of_ble_eq_true rfl⟩ ⟨Nat.le_of_ble_eq_true rfl, Nat.le_of_ble_eq_true rfl⟩ rfl rfl (Nat.le_of_ble_eq_true rfl) dX7_lots_49 (g_rm (fun r_7 M_7 L_7 h_7 => ?_))
            obtain ⟨d1_7, d2_7, d3_7⟩ := h_7
            rw [d1_7]
            refine g_iadd hC dX7_lots_52 ?_
            refine g_top (y := loS g.1 (i + 1)) rfl ?_
            refine g_istore_n hC [(2, .int (loS g.1 (i + 1))), (0, .ref (b + 58)), (1, .int x), (3, .int (nI i))] dX7_lots_53 rfl (by decide) rfl ?_
            refine g_iinc hC [(3, .int (nI (i + 1))), (2, .int (loS g.1 (i + 1))), (0, .ref (b + 58)), (1, .int x)] dX7_lots_54 3 rfl (by rw [show Int32.ofInt 1 = nI 1 from rfl, nI_add]) (by decide) rfl ?_
            refine g_goto hC 34 dX7_lots_57 rfl ?_
            exact g_sub [2, 3, 1, 0] rfl (ih_4 M_7 L_7 (i + 1) (by omega) (⟨by omega, d2_7, fun q hq => ⟨(d3_7 q (by omega)).1.trans ((p3_6 q (by omega) (by omega)).trans (s3 q hq).1), (d3_7 q (by omega)).2.trans (s3 q hq).2⟩⟩))
      exact g_sub [2, 3, 1, 0] rfl (lp_34_4 (x.toInt.toNat - 0 + 1) M L 0 (Nat.lt_succ_self _) (⟨by omega, hS, fR_rf⟩))
    · skip
      refine g_ldc (v := (-100000003)) hC fw_886 dX7_lots_27 ?_
      refine g_zret (ty := .int) hC rfl rfl dX7_lots_29 ?_
      have e0 : op_lots g x = (-100000003, g) := by unfold op_lots; rw [if_pos (by omega), if_neg (by omega)]
      exact ⟨_, rfl, by rw [e0], by rw [e0]; exact hS, fR_rf⟩
  · skip
    refine g_ldc (v := (-100000001)) hC fw_783 dX7_lots_12 ?_
    refine g_zret (ty := .int) hC rfl rfl dX7_lots_14 ?_
    have e0 : op_lots g x = (-100000001, g) := by unfold op_lots; rw [if_neg (by omega)]
    exact ⟨_, rfl, by rw [e0], by rw [e0]; exact hS, fR_rf⟩
