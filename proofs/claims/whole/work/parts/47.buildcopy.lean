/-! ===== sheets: build, copy, the class ===== -/

theorem c_X6_build (l : Launch) (D : va_G) (cA : Nat → ClassId) (b : Nat) (M : Nat → Nat → Int32) (L : Nat → Nat → Int64) (g : Sg) (x : Int32) (ln : Int32) (f : Int32) (hS : CS M L g) (hok : OK g) : fm_Met l D cA b yX6_build cX6_build 7 (some .int) 5 115 0 0 [.ref (b + 0), .int x, .int ln, .int f] LAY M L LAY (fm_pm (fun r M' L' => r = (op_build g x ln f).1 ∧ CS M' L' (op_build g x ln f).2 ∧ fC M M' L L')) := by
  refine fm_start RX6 rfl (by decide) (Nat.le_of_ble_eq_true rfl) ?_
  intro pq eq sq mq aq bq tq cq hC hin
  refine g_aload_n hC dX6_build_0 rfl 0 rfl ?_
  refine g_iload_n hC dX6_build_1 rfl 1 rfl ?_
  refine g_iload_n hC dX6_build_2 rfl 2 rfl ?_
  refine g_iload_n hC dX6_build_3 rfl 3 rfl ?_
  refine g_bipush (v := 24) hC dX6_build_4 rfl ?_
  refine g_callV hC (k := 0) (ci := 6) (as := [.int x, .int ln, .int f, .int 24]) (rest := []) (c_X6_rowRefusal l D cA b M L g x ln f 24 hS hok (by decide)) ⟨fw_532, fw_534, fs_11, fw_1, fw_535⟩ ⟨rfl, hd_X6_rowRefusal⟩ rfl ly_0 ⟨Nat.le_of_ble_eq_true rfl, Nat.le_of_ble_eq_true rfl⟩ ⟨Nat.le_of_ble_eq_true rfl, Nat.le_of_ble_eq_true rfl⟩ rfl rfl (Nat.le_of_ble_eq_true rfl) dX6_build_6 (g_rix ?_)
  refine g_istore hC [(4, .int (shR g.2.2.2.2 x.toInt ln.toInt f.toInt 24)), (0, .ref (b + 0)), (1, .int x), (2, .int ln), (3, .int f)] dX6_build_9 (by decide) rfl ?_
  refine g_iload hC dX6_build_11 0 rfl ?_
  refine g_if_eq_T (X := (shR g.2.2.2.2 x.toInt ln.toInt f.toInt 24).toInt) hC rfl 22 dX6_build_13 rfl (fun c_2 => ?_) (fun c_2 => ?_)
  · skip
    have z0 := shR_0 c_2
    obtain ⟨⟨z1, z2⟩, z3, z4, z5⟩ := z0
    have z6 := hok.2.2.2.2 x.toInt.toNat (by omega)
    have c0 := c_2
    obtain ⟨q, qb, qE⟩ : ∃ j9 : Nat, j9 < 4 ∧ x = nI j9 := ic_of (by omega) (by omega)
    subst qE
    have qt : (nI q).toInt = (q : Int) := nI_toInt (by omega)
    have qn : (nI q).toInt.toNat = q := by omega
    have qs := hS.2.2.2.2 q qb
    have qo := hok.2.2.2.2 q qb
    rw [qn] at z3 z5 z6
    obtain ⟨f0, f0b, f0E⟩ : ∃ j9 : Nat, j9 < 25 ∧ f = nI j9 := ic_of (by omega) (by omega)
    subst f0E
    have f0t : (nI f0).toInt = (f0 : Int) := nI_toInt (by omega)
    have f0n : (nI f0).toInt.toNat = f0 := by omega
    refine g_aload_n hC dX6_build_22 rfl 1 rfl ?_
    refine g_getR (ci := 6) (i := 6) (k := 0) (t := 48) hC fm_in6 rfl ly_0 rfl (by decide) fw_202 dX6_build_23 ?_
    refine g_iload_n hC dX6_build_26 rfl 2 rfl ?_
    refine g_aald5N (j := q) (t := 50 + 2 * q) (k := 48) hC ly_48 rfl (by omega) (by decide) (fm_z50 _ (by omega)) dX6_build_27 ?_
    refine g_getR (ci := 3) (i := 2) (k := 50 + 2 * q) (t := 51 + 2 * q) hC fm_in3 rfl (fm_she _ (by omega)) rfl (by decide) fw_188 dX6_build_28 ?_
    refine g_astore hC [(5, .ref (b + (51 + 2 * q))), (4, .int (shR g.2.2.2.2 (nI q).toInt ln.toInt (nI f0).toInt 24)), (0, .ref (b + 0)), (1, .int (nI q)), (2, .int ln), (3, .int (nI f0))] dX6_build_31 (by decide) rfl ?_
    refine g_iconst (v := 0) hC dX6_build_33 rfl ?_
    refine g_istore hC [(6, .int 0), (5, .ref (b + (51 + 2 * q))), (4, .int (shR g.2.2.2.2 (nI q).toInt ln.toInt (nI f0).toInt 24)), (0, .ref (b + 0)), (1, .int (nI q)), (2, .int ln), (3, .int (nI f0))] dX6_build_34 (by decide) rfl ?_
    have lp_36_3 : ∀ (n_3 : Nat) (i : Nat), 24 - i < n_3 → (i ≤ 24 ∧ (∀ h, h < i → -2 ≤ (g.2.2.2.2.2.2 q (f0 + h)).toInt ∧ (g.2.2.2.2.2.2 q (f0 + h)).toInt ≤ 5)) → fm_G pq l eq (fm_rm 5 115 0 0) sq mq aq bq tq cq D cA b 7 (MQ bq (fm_Q D cA b LAY (fm_pm (fun r M' L' => r = (op_build g (nI q) ln (nI f0)).1 ∧ CS M' L' (op_build g (nI q) ln (nI f0)).2 ∧ fC M M' L L'))) aq sq 0 0 (fun q => b ≤ q)) LAY M L 0 0 36 [(6, .int (nI i)), (5, .ref (b + (51 + 2 * q))), (4, .int (shR g.2.2.2.2 (nI q).toInt ln.toInt (nI f0).toInt 24)), (0, .ref (b + 0)), (1, .int (nI q)), (2, .int ln), (3, .int (nI f0))] [] := by
      intro n_3
      induction n_3 with
      | zero => intro i hm_3; exact absurd hm_3 (Nat.not_lt_zero _)
      | succ n_3 ih_3 =>
        intro i hm_3 hinv_3
        obtain ⟨i1, wl⟩ := hinv_3
        refine g_iload hC dX6_build_36 0 rfl ?_
        refine g_bipush (v := 24) hC dX6_build_38 rfl ?_
        refine g_icmp_ge_T (X := ((i : Nat) : Int)) (Y := 24) hC (nI_toInt (by omega)) rfl 65 dX6_build_40 rfl (fun c_4 => ?_) (fun c_4 => ?_)
        · skip
          refine g_iconst (v := 0) hC dX6_build_65 rfl ?_
          refine g_istore hC [(6, .int 0), (5, .ref (b + (51 + 2 * q))), (4, .int (shR g.2.2.2.2 (nI q).toInt ln.toInt (nI f0).toInt 24)), (0, .ref (b + 0)), (1, .int (nI q)), (2, .int ln), (3, .int (nI f0))] dX6_build_66 (by decide) rfl ?_
          have lp_68_5 : ∀ (n_5 : Nat) (M2 : Nat → Nat → Int32) (i2 : Nat), 24 - i2 < n_5 → (i2 ≤ 24 ∧ (∀ h, h ≠ 6 → M2 h = M h) ∧ (∀ j, j < i2 → M2 6 j = Int32.ofInt (g.2.2.2.2.2.2 q (f0 + j)).toInt)) → fm_G pq l eq (fm_rm 5 115 0 0) sq mq aq bq tq cq D cA b 7 (MQ bq (fm_Q D cA b LAY (fm_pm (fun r M' L' => r = (op_build g (nI q) ln (nI f0)).1 ∧ CS M' L' (op_build g (nI q) ln (nI f0)).2 ∧ fC M M' L L'))) aq sq 0 0 (fun q => b ≤ q)) LAY M2 L 0 0 68 [(6, .int (nI i2)), (5, .ref (b + (51 + 2 * q))), (4, .int (shR g.2.2.2.2 (nI q).toInt ln.toInt (nI f0).toInt 24)), (0, .ref (b + 0)), (1, .int (nI q)), (2, .int ln), (3, .int (nI f0))] [] := by
            intro n_5
            induction n_5 with
            | zero => intro M2 i2 hm_5; exact absurd hm_5 (Nat.not_lt_zero _)
            | succ n_5 ih_5 =>
              intro M2 i2 hm_5 hinv_5
              obtain ⟨y1, j2, j3⟩ := hinv_5
              refine g_iload hC dX6_build_68 0 rfl ?_
              refine g_bipush (v := 24) hC dX6_build_70 rfl ?_
              refine g_icmp_ge_T (X := ((i2 : Nat) : Int)) (Y := 24) hC (nI_toInt (by omega)) rfl 99 dX6_build_72 rfl (fun c_6 => ?_) (fun c_6 => ?_)
              · skip
                have ei : i2 = 24 := by omega
                subst ei
                have bu1 : ∀ h, (buT g (nI q) (nI f0)).2.1 h = (g.2.2.2.2.2.2 q (f0 + h)).toInt := fun h => by show (g.2.2.2.2.2.2 (nI q).toInt.toNat ((nI f0).toInt.toNat + h)).toInt = _; rw [qn, f0n]
                have hT9 : tC M2 1 (buT g (nI q) (nI f0)) := tC_plan hS.1 hok.1.2.2.2.1 (fun j hj => (j3 j hj).trans (congrArg Int32.ofInt (bu1 j)).symm) (fun k k1 k2 k3 => j2 k k3)
                have w2 : ∀ h, h < 24 → -2 ≤ (g.2.2.2.2.2.2 q (f0 + h)).toInt ∧ (g.2.2.2.2.2.2 q (f0 + h)).toInt ≤ 5 := fun h hh => wl h (by omega)
                have hto9 : tOK (buT g (nI q) (nI f0)) := ⟨hok.1.1, hok.1.2.1, fun h hh => ⟨(hok.1.2.2.1 h hh).1, by rw [bu1 h]; exact (w2 h hh).1, by rw [bu1 h]; exact (w2 h hh).2⟩, hok.1.2.2.2⟩
                have hr9 : rowIs M2 6 (buT g (nI q) (nI f0)).2.1 := fun h hh => ⟨by rw [bu1 h]; exact j3 h hh, by rw [bu1 h]; exact w2 h hh⟩
                refine g_aload_n hC dX6_build_99 rfl 3 rfl ?_
                refine g_getR (ci := 6) (i := 0) (k := 0) (t := 1) hC fm_in6 rfl ly_0 rfl (by decide) fw_196 dX6_build_100 ?_
                refine g_aload_n hC dX6_build_103 rfl 3 rfl ?_
                refine g_getR (ci := 6) (i := 0) (k := 0) (t := 1) hC fm_in6 rfl ly_0 rfl (by decide) fw_196 dX6_build_104 ?_
                refine g_getR (ci := 5) (i := 6) (k := 1) (t := 6) hC fm_in5 rfl ly_1 rfl (by decide) fw_69 dX6_build_107 ?_
                refine g_callV hC (k := 1) (ci := 5) (as := [.ref (b + 6)]) (rest := []) (c_X5_gainOf l D cA b M2 L (buT g (nI q) (nI f0)) 6 ((buT g (nI q) (nI f0)).2.1) hT9 hto9 ly_6 hr9) ⟨fw_395, fw_396, fw_397, fw_2, fw_398⟩ ⟨rfl, hd_X5_gainOf⟩ rfl ly_1 ⟨Nat.le_of_ble_eq_true rfl, Nat.le_of_ble_eq_true rfl⟩ ⟨Nat.le_of_ble_eq_true rfl, Nat.le_of_ble_eq_true rfl⟩ rfl rfl (Nat.le_of_ble_eq_true rfl) dX6_build_110 (g_rix ?_)
                refine g_zret (ty := .int) hC rfl rfl dX6_build_113 ?_
                have e0 : op_build g (nI q) ln (nI f0) = (Int32.ofInt (gainS (buT g (nI q) (nI f0)) (buT g (nI q) (nI f0)).2.1), (buT g (nI q) (nI f0), g.2)) := by unfold op_build; rw [if_neg (by omega), qn, f0n, if_pos (fun h hh => w2 h (by omega))]
                exact ⟨_, rfl, by rw [e0], by rw [e0]; exact CS_now hS hok hT9 (fun k k1 k2 => j2 k (by omega)) (fun k k1 k2 => ⟨j2 k (by omega), rfl⟩), fun k hk => ⟨j2 k (by omega), rfl⟩⟩
              · skip
                refine g_aload_n hC dX6_build_75 rfl 3 rfl ?_
                refine g_getR (ci := 6) (i := 0) (k := 0) (t := 1) hC fm_in6 rfl ly_0 rfl (by decide) fw_196 dX6_build_76 ?_
                refine g_getR (ci := 5) (i := 6) (k := 1) (t := 6) hC fm_in5 rfl ly_1 rfl (by decide) fw_69 dX6_build_79 ?_
                refine g_iload hC dX6_build_82 0 rfl ?_
                refine g_aload hC dX6_build_84 1 rfl ?_
                refine g_iload_n hC dX6_build_86 rfl 6 rfl ?_
                refine g_iload hC dX6_build_87 0 rfl ?_
                refine g_iadd hC dX6_build_89 ?_
                refine g_top (y := nI (f0 + i2)) (nI_add _ _) ?_
                refine g_laldN (j := f0 + i2) (k := 51 + 2 * q) hC (fm_itm _ (by omega)) rfl (by omega) (by decide) dX6_build_90 ?_
                refine g_topL (y := g.2.2.2.2.2.2 q (f0 + i2)) ((qs.2 (by omega)).2 (f0 + i2) (by omega)) ?_
                refine g_l2i (v := (g.2.2.2.2.2.2 q (f0 + i2)).toInt32) hC dX6_build_91 rfl ?_
                refine g_iastN (j := i2) (k := 6) hC ly_6 rfl (by omega) (by decide) dX6_build_92 ?_
                refine g_iinc hC [(6, .int (nI (i2 + 1))), (5, .ref (b + (51 + 2 * q))), (4, .int (shR g.2.2.2.2 (nI q).toInt ln.toInt (nI f0).toInt 24)), (0, .ref (b + 0)), (1, .int (nI q)), (2, .int ln), (3, .int (nI f0))] dX6_build_93 0 rfl (by rw [show Int32.ofInt 1 = nI 1 from rfl, nI_add]) (by decide) rfl ?_
                refine g_goto hC 68 dX6_build_96 rfl ?_
                exact g_sub [0, 1, 2, 3, 4, 5, 6] rfl (ih_5 (fm_up M2 6 i2 ((g.2.2.2.2.2.2 q (f0 + i2)).toInt32)) (i2 + 1) (by omega) (⟨by omega, fun h hh => (by rw [fm_upn hh]; exact j2 h hh), fun j hj => (by by_cases ej : j = i2; rw [ej, fm_ups]; exact l2i_s (wl i2 (by omega)).1 (wl i2 (by omega)).2; rw [fm_upx ej]; exact j3 j (by omega))⟩))
          exact g_sub [0, 1, 2, 3, 4, 5, 6] rfl (lp_68_5 (24 - 0 + 1) M 0 (Nat.lt_succ_self _) (⟨by decide, fun _ _ => rfl, fun h hh => absurd hh (Nat.not_lt_zero _)⟩))
        · skip
          refine g_aload hC dX6_build_43 1 rfl ?_
          refine g_iload_n hC dX6_build_45 rfl 6 rfl ?_
          refine g_iload hC dX6_build_46 0 rfl ?_
          refine g_iadd hC dX6_build_48 ?_
          refine g_top (y := nI (f0 + i)) (nI_add _ _) ?_
          refine g_laldN (j := f0 + i) (k := 51 + 2 * q) hC (fm_itm _ (by omega)) rfl (by omega) (by decide) dX6_build_49 ?_
          refine g_topL (y := g.2.2.2.2.2.2 q (f0 + i)) ((qs.2 (by omega)).2 (f0 + i) (by omega)) ?_
          refine g_callS hC (as := [.long (g.2.2.2.2.2.2 q (f0 + i))]) (rest := []) (c_X6_isNumber l D cA b LAY M L (g.2.2.2.2.2.2 q (f0 + i)) ((g.2.2.2.2.2.2 q (f0 + i)).toInt) rfl) ⟨fw_378, fw_379, fw_1, fw_380⟩ hd_X6_isNumber ⟨Nat.le_of_ble_eq_true rfl, Nat.le_of_ble_eq_true rfl⟩ ⟨Nat.le_of_ble_eq_true rfl, Nat.le_of_ble_eq_true rfl⟩ rfl rfl (Nat.le_of_ble_eq_true rfl) dX6_build_50 (g_rix ?_)
          refine g_ifb_ne hC 59 dX6_build_53 rfl (fun c_9 => ?_) (fun c_9 => ?_)
          · skip
            refine g_iinc hC [(6, .int (nI (i + 1))), (5, .ref (b + (51 + 2 * q))), (4, .int (shR g.2.2.2.2 (nI q).toInt ln.toInt (nI f0).toInt 24)), (0, .ref (b + 0)), (1, .int (nI q)), (2, .int ln), (3, .int (nI f0))] dX6_build_59 0 rfl (by rw [show Int32.ofInt 1 = nI 1 from rfl, nI_add]) (by decide) rfl ?_
            refine g_goto hC 36 dX6_build_62 rfl ?_
            exact g_sub [0, 1, 2, 3, 4, 5, 6] rfl (ih_3 (i + 1) (by omega) (⟨by omega, fun h hh => (by by_cases eh : h = i; rw [eh]; omega; exact wl h (by omega))⟩))
          · skip
            refine g_ldc (v := (-100000002)) hC fw_430 dX6_build_56 ?_
            refine g_zret (ty := .int) hC rfl rfl dX6_build_58 ?_
            have e0 : op_build g (nI q) ln (nI f0) = (-100000002, g) := by unfold op_build; rw [if_neg (by omega), qn, f0n, if_neg (fun z => absurd (z i (by omega)) (by omega))]
            exact ⟨_, rfl, by rw [e0], by rw [e0]; exact hS, fC_rf⟩
    exact g_sub [0, 1, 2, 3, 4, 5, 6] rfl (lp_36_3 (24 - 0 + 1) 0 (Nat.lt_succ_self _) (⟨by decide, fun h hh => absurd hh (Nat.not_lt_zero _)⟩))
  · skip
    have nz := c_2
    refine g_iload hC dX6_build_16 0 rfl ?_
    refine g_ldc (v := 100000000) hC fw_592 dX6_build_18 ?_
    refine g_isub hC dX6_build_20 ?_
    refine g_zret (ty := .int) hC rfl rfl dX6_build_21 ?_
    have e0 : op_build g x ln f = (shR g.2.2.2.2 x.toInt ln.toInt f.toInt 24 - 100000000, g) := by unfold op_build; rw [if_pos nz]
    exact ⟨_, rfl, by rw [e0], by rw [e0]; exact hS, fC_rf⟩

theorem c_X6_copy (l : Launch) (D : va_G) (cA : Nat → ClassId) (b : Nat) (M : Nat → Nat → Int32) (L : Nat → Nat → Int64) (g : Sg) (x : Int32) (i : Int32) (y : Int32) (j : Int32) (n : Int32) (hS : CS M L g) (hok : OK g) : fm_Met l D cA b yX6_copy cX6_copy 8 (some .int) 1 26 0 0 [.ref (b + 0), .int x, .int i, .int y, .int j, .int n] LAY M L LAY (fm_pm (fun r M' L' => r = (op_copy g x i y j n).1 ∧ CS M' L' (op_copy g x i y j n).2 ∧ fC M M' L L')) := by
  refine fm_start RX6 rfl (by decide) (Nat.le_of_ble_eq_true rfl) ?_
  intro pq eq sq mq aq bq tq cq hC hin
  refine g_iload_n hC dX6_copy_0 rfl 1 rfl ?_
  refine g_callS hC (as := [.int x]) (rest := []) (c_X6_isSheet l D cA b LAY M L x x.toInt rfl) ⟨fw_536, fw_537, fw_1, fw_538⟩ hd_X6_isSheet ⟨Nat.le_of_ble_eq_true rfl, Nat.le_of_ble_eq_true rfl⟩ ⟨Nat.le_of_ble_eq_true rfl, Nat.le_of_ble_eq_true rfl⟩ rfl rfl (Nat.le_of_ble_eq_true rfl) dX6_copy_1 (g_rix ?_)
  refine g_ifb_eq hC 14 dX6_copy_4 rfl (fun c_2 => ?_) (fun c_2 => ?_)
  · skip
    refine g_iconst (v := (-1)) hC dX6_copy_14 rfl ?_
    refine g_zret (ty := .int) hC rfl rfl dX6_copy_15 ?_
    have e0 : op_copy g x i y j n = (-1, g) := by unfold op_copy; rw [if_pos (by omega)]
    exact ⟨_, rfl, by rw [e0], by rw [e0]; exact hS, fC_rf⟩
  · skip
    refine g_iload_n hC dX6_copy_7 rfl 3 rfl ?_
    refine g_callS hC (as := [.int y]) (rest := []) (c_X6_isSheet l D cA b LAY M L y y.toInt rfl) ⟨fw_536, fw_537, fw_1, fw_538⟩ hd_X6_isSheet ⟨Nat.le_of_ble_eq_true rfl, Nat.le_of_ble_eq_true rfl⟩ ⟨Nat.le_of_ble_eq_true rfl, Nat.le_of_ble_eq_true rfl⟩ rfl rfl (Nat.le_of_ble_eq_true rfl) dX6_copy_8 (g_rix ?_)
    refine g_ifb_ne hC 16 dX6_copy_11 rfl (fun c_4 => ?_) (fun c_4 => ?_)
    · skip
      obtain ⟨q, qb, qE⟩ : ∃ j9 : Nat, j9 < 4 ∧ x = nI j9 := ic_of (by omega) (by omega)
      subst qE
      have qt : (nI q).toInt = (q : Int) := nI_toInt (by omega)
      have qn : (nI q).toInt.toNat = q := by omega
      have qs := hS.2.2.2.2 q qb
      have qo := hok.2.2.2.2 q qb
      obtain ⟨r, rb, rE⟩ : ∃ j9 : Nat, j9 < 4 ∧ y = nI j9 := ic_of (by omega) (by omega)
      subst rE
      have rt : (nI r).toInt = (r : Int) := nI_toInt (by omega)
      have rn : (nI r).toInt.toNat = r := by omega
      have rs := hS.2.2.2.2 r rb
      have ro := hok.2.2.2.2 r rb
      refine g_aload_n hC dX6_copy_16 rfl 0 rfl ?_
      refine g_getR (ci := 6) (i := 6) (k := 0) (t := 48) hC fm_in6 rfl ly_0 rfl (by decide) fw_202 dX6_copy_17 ?_
      refine g_iload_n hC dX6_copy_20 rfl 1 rfl ?_
      refine g_aald5N (j := q) (t := 50 + 2 * q) (k := 48) hC ly_48 rfl (by omega) (by decide) (fm_z50 _ (by omega)) dX6_copy_21 ?_
      refine g_astore hC [(6, .ref (b + (50 + 2 * q))), (0, .ref (b + 0)), (1, .int (nI q)), (2, .int i), (3, .int (nI r)), (4, .int j), (5, .int n)] dX6_copy_22 (by decide) rfl ?_
      refine g_aload_n hC dX6_copy_24 rfl 1 rfl ?_
      refine g_getR (ci := 6) (i := 6) (k := 0) (t := 48) hC fm_in6 rfl ly_0 rfl (by decide) fw_202 dX6_copy_25 ?_
      refine g_iload_n hC dX6_copy_28 rfl 4 rfl ?_
      refine g_aald5N (j := r) (t := 50 + 2 * r) (k := 48) hC ly_48 rfl (by omega) (by decide) (fm_z50 _ (by omega)) dX6_copy_29 ?_
      refine g_astore hC [(7, .ref (b + (50 + 2 * r))), (6, .ref (b + (50 + 2 * q))), (0, .ref (b + 0)), (1, .int (nI q)), (2, .int i), (3, .int (nI r)), (4, .int j), (5, .int n)] dX6_copy_30 (by decide) rfl ?_
      refine g_aload hC dX6_copy_32 1 rfl ?_
      refine g_getI (ci := 3) (i := 0) (k := 50 + 2 * q) hC fm_in3 rfl (fm_she _ (by omega)) rfl (by decide) fw_183 dX6_copy_34 ?_
      refine g_top (y := Int32.ofInt (g.2.2.2.2.1 q)) qs.1 ?_
      refine g_iconst (v := (-1)) hC dX6_copy_37 rfl ?_
      refine g_icmp_eq_T (X := g.2.2.2.2.1 q) (Y := (-1)) hC (oI_t (by omega) (by omega)) rfl 50 dX6_copy_38 rfl (fun c_5 => ?_) (fun c_5 => ?_)
      · skip
        refine g_bipush (v := (-11)) hC dX6_copy_50 rfl ?_
        refine g_zret (ty := .int) hC rfl rfl dX6_copy_52 ?_
        have e0 : op_copy g (nI q) i (nI r) j n = (-11, g) := by unfold op_copy; rw [if_neg (by omega), qn, rn, if_pos (by omega)]
        exact ⟨_, rfl, by rw [e0], by rw [e0]; exact hS, fC_rf⟩
      · skip
        refine g_aload hC dX6_copy_41 0 rfl ?_
        refine g_getI (ci := 3) (i := 0) (k := 50 + 2 * r) hC fm_in3 rfl (fm_she _ (by omega)) rfl (by decide) fw_183 dX6_copy_43 ?_
        refine g_top (y := Int32.ofInt (g.2.2.2.2.1 r)) rs.1 ?_
        refine g_iconst (v := (-1)) hC dX6_copy_46 rfl ?_
        refine g_icmp_ne_T (X := g.2.2.2.2.1 r) (Y := (-1)) hC (oI_t (by omega) (by omega)) rfl 53 dX6_copy_47 rfl (fun c_6 => ?_) (fun c_6 => ?_)
        · skip
          refine g_aload hC dX6_copy_53 1 rfl ?_
          refine g_getI (ci := 3) (i := 0) (k := 50 + 2 * q) hC fm_in3 rfl (fm_she _ (by omega)) rfl (by decide) fw_183 dX6_copy_55 ?_
          refine g_top (y := Int32.ofInt (g.2.2.2.2.1 q)) qs.1 ?_
          refine g_aload hC dX6_copy_58 0 rfl ?_
          refine g_getI (ci := 3) (i := 0) (k := 50 + 2 * r) hC fm_in3 rfl (fm_she _ (by omega)) rfl (by decide) fw_183 dX6_copy_60 ?_
          refine g_top (y := Int32.ofInt (g.2.2.2.2.1 r)) rs.1 ?_
          refine g_icmp_eq_T (X := g.2.2.2.2.1 q) (Y := g.2.2.2.2.1 r) hC (oI_t (by omega) (by omega)) (oI_t (by omega) (by omega)) 69 dX6_copy_63 rfl (fun c_7 => ?_) (fun c_7 => ?_)
          · skip
            refine g_aload hC dX6_copy_69 1 rfl ?_
            refine g_iload_n hC dX6_copy_71 rfl 4 rfl ?_
            refine g_iload hC dX6_copy_72 7 rfl ?_
            refine g_callV hC (k := 50 + 2 * q) (ci := 3) (as := [.int i, .int n]) (rest := []) (c_X3_hasRange l D cA b M L (50 + 2 * q) (g.2.2.2.2.2.1 q) (51 + 2 * q) i n i.toInt n.toInt (fm_she _ (by omega)) ((qs.2 (by omega)).1) qo.2.2 rfl rfl) ⟨fw_542, fw_543, fw_544, fw_8, fw_545⟩ ⟨rfl, hd_X3_hasRange⟩ rfl (fm_she _ (by omega)) ⟨Nat.le_of_ble_eq_true rfl, Nat.le_of_ble_eq_true rfl⟩ ⟨Nat.le_of_ble_eq_true rfl, Nat.le_of_ble_eq_true rfl⟩ rfl rfl (Nat.le_of_ble_eq_true rfl) dX6_copy_74 (g_rix ?_)
            refine g_ifb_eq hC 92 dX6_copy_77 rfl (fun c_9 => ?_) (fun c_9 => ?_)
            · skip
              refine g_bipush (v := (-13)) hC dX6_copy_92 rfl ?_
              refine g_zret (ty := .int) hC rfl rfl dX6_copy_94 ?_
              have e0 : op_copy g (nI q) i (nI r) j n = (-13, g) := by unfold op_copy; rw [if_neg (by omega), qn, rn, if_neg (by omega), if_neg (by omega), if_pos (by omega)]
              exact ⟨_, rfl, by rw [e0], by rw [e0]; exact hS, fC_rf⟩
            · skip
              refine g_aload hC dX6_copy_80 0 rfl ?_
              refine g_iload hC dX6_copy_82 6 rfl ?_
              refine g_iload hC dX6_copy_84 7 rfl ?_
              refine g_callV hC (k := 50 + 2 * r) (ci := 3) (as := [.int j, .int n]) (rest := []) (c_X3_hasRange l D cA b M L (50 + 2 * r) (g.2.2.2.2.2.1 r) (51 + 2 * r) j n j.toInt n.toInt (fm_she _ (by omega)) ((rs.2 (by omega)).1) ro.2.2 rfl rfl) ⟨fw_542, fw_543, fw_544, fw_8, fw_545⟩ ⟨rfl, hd_X3_hasRange⟩ rfl (fm_she _ (by omega)) ⟨Nat.le_of_ble_eq_true rfl, Nat.le_of_ble_eq_true rfl⟩ ⟨Nat.le_of_ble_eq_true rfl, Nat.le_of_ble_eq_true rfl⟩ rfl rfl (Nat.le_of_ble_eq_true rfl) dX6_copy_86 (g_rix ?_)
              refine g_ifb_ne hC 95 dX6_copy_89 rfl (fun c_11 => ?_) (fun c_11 => ?_)
              · skip
                obtain ⟨i0, i0b, i0E⟩ : ∃ j9 : Nat, j9 < 25 ∧ i = nI j9 := ic_of (by omega) (by omega)
                subst i0E
                have i0t : (nI i0).toInt = (i0 : Int) := nI_toInt (by omega)
                have i0n : (nI i0).toInt.toNat = i0 := by omega
                obtain ⟨j0, j0b, j0E⟩ : ∃ j9 : Nat, j9 < 25 ∧ j = nI j9 := ic_of (by omega) (by omega)
                subst j0E
                have j0t : (nI j0).toInt = (j0 : Int) := nI_toInt (by omega)
                have j0n : (nI j0).toInt.toNat = j0 := by omega
                obtain ⟨n0, n0b, n0E⟩ : ∃ j9 : Nat, j9 < 25 ∧ n = nI j9 := ic_of (by omega) (by omega)
                subst n0E
                have n0t : (nI n0).toInt = (n0 : Int) := nI_toInt (by omega)
                have n0n : (nI n0).toInt.toNat = n0 := by omega
                refine g_aload hC dX6_copy_95 1 rfl ?_
                refine g_getR (ci := 3) (i := 2) (k := 50 + 2 * q) (t := 51 + 2 * q) hC fm_in3 rfl (fm_she _ (by omega)) rfl (by decide) fw_188 dX6_copy_97 ?_
                refine g_iload_n hC dX6_copy_100 rfl 4 rfl ?_
                refine g_aload hC dX6_copy_101 0 rfl ?_
                refine g_getR (ci := 3) (i := 2) (k := 50 + 2 * r) (t := 51 + 2 * r) hC fm_in3 rfl (fm_she _ (by omega)) rfl (by decide) fw_188 dX6_copy_103 ?_
                refine g_iload hC dX6_copy_106 6 rfl ?_
                refine g_iload hC dX6_copy_108 7 rfl ?_
                refine g_copyL (k0 := 51 + 2 * q) (k1 := 51 + 2 * r) hC fw_371 fw_373 fw_372 fw_11 (fm_itm _ (by omega)) (fm_itm _ (by omega)) (nI_nn (by omega)) (nI_nn (by omega)) (nI_nn (by omega)) (by rw [nI_clamp (by omega), nI_clamp (by omega)]; omega) (by rw [nI_clamp (by omega), nI_clamp (by omega)]; omega) (Nat.le_of_ble_eq_true rfl) (Nat.le_of_ble_eq_true rfl) dX6_copy_110 ?_
                refine g_iload hC dX6_copy_113 7 rfl ?_
                refine g_zret (ty := .int) hC rfl rfl dX6_copy_115 ?_
                have e0 : op_copy g (nI q) (nI i0) (nI r) (nI j0) (nI n0) = (nI n0, shS g (shU g.2.2.2.2 r (g.2.2.2.2.1 r) (g.2.2.2.2.2.1 r) (fun k => if j0 ≤ k ∧ k < j0 + n0 then g.2.2.2.2.2.2 q (i0 + (k - j0)) else g.2.2.2.2.2.2 r k))) := by unfold op_copy; rw [if_neg (by omega), qn, rn, if_neg (by omega), if_neg (by omega), if_neg (by omega), i0n, j0n, n0n]
                exact ⟨_, rfl, by rw [e0], by rw [e0]; exact CS_sh hS hok (fun k hk => rfl) (sC_set hS.2.2.2.2 (fun k hk hkq => ⟨rfl, fm_rowL_n (by omega)⟩) rs.1 (fun z => ⟨(rs.2 z).1, fun k hk => (by rw [fm_rowL_s, nI_clamp (by omega), nI_clamp (by omega), nI_clamp (by omega)]; unfold va_cpy; by_cases e2 : j0 ≤ k ∧ k < j0 + n0; rw [if_pos e2, if_pos e2]; exact (qs.2 (by omega)).2 _ (by omega); rw [if_neg e2, if_neg e2]; exact (rs.2 z).2 k hk)⟩)), fun k hk => ⟨rfl, fm_rowL_n (by omega)⟩⟩
              · skip
                refine g_bipush (v := (-13)) hC dX6_copy_92 rfl ?_
                refine g_zret (ty := .int) hC rfl rfl dX6_copy_94 ?_
                have e0 : op_copy g (nI q) i (nI r) j n = (-13, g) := by unfold op_copy; rw [if_neg (by omega), qn, rn, if_neg (by omega), if_neg (by omega), if_pos (by omega)]
                exact ⟨_, rfl, by rw [e0], by rw [e0]; exact hS, fC_rf⟩
          · skip
            refine g_bipush (v := (-12)) hC dX6_copy_66 rfl ?_
            refine g_zret (ty := .int) hC rfl rfl dX6_copy_68 ?_
            have e0 : op_copy g (nI q) i (nI r) j n = (-12, g) := by unfold op_copy; rw [if_neg (by omega), qn, rn, if_neg (by omega), if_pos (by omega)]
            exact ⟨_, rfl, by rw [e0], by rw [e0]; exact hS, fC_rf⟩
        · skip
          refine g_bipush (v := (-11)) hC dX6_copy_50 rfl ?_
          refine g_zret (ty := .int) hC rfl rfl dX6_copy_52 ?_
          have e0 : op_copy g (nI q) i (nI r) j n = (-11, g) := by unfold op_copy; rw [if_neg (by omega), qn, rn, if_pos (by omega)]
          exact ⟨_, rfl, by rw [e0], by rw [e0]; exact hS, fC_rf⟩
    · skip
      refine g_iconst (v := (-1)) hC dX6_copy_14 rfl ?_
      refine g_zret (ty := .int) hC rfl rfl dX6_copy_15 ?_
      have e0 : op_copy g x i y j n = (-1, g) := by unfold op_copy; rw [if_pos (by omega)]
      exact ⟨_, rfl, by rw [e0], by rw [e0]; exact hS, fC_rf⟩
