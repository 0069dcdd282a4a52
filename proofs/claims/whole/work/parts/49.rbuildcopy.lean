/-! ===== sheets: build, copy, the check ===== -/
theorem g_ldc_w {p : Program} {l : Launch} {e : Env} {R : Room} {s : State} {m : MethodId} {args : Array Value} {below : List Frame} {meth : Method} {c : Code} {Q : State → Prop} {D : va_G} {cA : Nat → ClassId} {b nL : Nat} {lay : List fm_E} {M : Nat → Nat → Int32} {L : Nat → Nat → Int64} {cells slots pc : Nat} {lv : List (Nat × Value)} {st : List Value} {cc : ByteArray} {own : String} {ret : Option FieldType} {n0 : Nat} (hC : fm_C p s m args meth c D cA b cc nL own ret n0) {index : Nat} {v : Int32} (hc : Jvm.Cond.constant own index v ∈ fm_all) (hd : decode cc pc = .ok (.ldc_w index, 3)) (kk : fm_G p l e R s m args below meth c D cA b nL Q lay M L cells slots (pc + 3) lv (.int v :: st)) : fm_G p l e R s m args below meth c D cA b nL Q lay M L cells slots pc lv st := fun H locs ls hP hS hl => lv_ldcw hC.1.1 hC.1.2.1 hC.1.2.2.2.1 (hC.1.2.2.2.2 _ hc) hd (kk H locs ls hP hS hl)

theorem c_X7_build (l : Launch) (D : va_G) (cA : Nat → ClassId) (b : Nat) (M : Nat → Nat → Int32) (L : Nat → Nat → Int64) (g : Sg) (x : Int32) (ln : Int32) (f : Int32) (hS : RS M L g) (hok : OK g) : fm_Met l D cA b yX7_build cX7_build 6 (some .int) 4 95 0 0 [.ref (b + 58), .int x, .int ln, .int f] LAY M L LAY (fm_pm (fun r M' L' => r = (op_build g x ln f).1 ∧ RS M' L' (op_build g x ln f).2 ∧ fR M M' L L')) := by
  refine fm_start RX7 rfl (by decide) (Nat.le_of_ble_eq_true rfl) ?_
  intro pq eq sq mq aq bq tq cq hC hin
  refine g_iload_n hC dX7_build_0 rfl 1 rfl ?_
  refine g_iload_n hC dX7_build_1 rfl 2 rfl ?_
  refine g_callS hC (as := [.int x, .int ln]) (rest := []) (c_X7_isSheet l D cA b LAY M L x ln x.toInt ln.toInt rfl rfl) ⟨fw_954, fw_955, fw_9, fw_956⟩ hd_X7_isSheet ⟨Nat.le_of_ble_eq_true rfl, Nat.le_of_ble_eq_true rfl⟩ ⟨Nat.le_of_ble_eq_true rfl, Nat.le_of_ble_eq_true rfl⟩ rfl rfl (Nat.le_of_ble_eq_true rfl) dX7_build_2 (g_rix ?_)
  refine g_ifb_ne hC 11 dX7_build_5 rfl (fun c_2 => ?_) (fun c_2 => ?_)
  · skip
    obtain ⟨q, qb, qE⟩ : ∃ j9 : Nat, j9 < 4 ∧ x = nI j9 := ic_of (by omega) (by omega)
    subst qE
    have qt : (nI q).toInt = (q : Int) := nI_toInt (by omega)
    have qn : (nI q).toInt.toNat = q := by omega
    have qs := hS.2.2.2.2 q qb
    have qo := hok.2.2.2.2 q qb
    refine g_aload_n hC dX7_build_11 rfl 0 rfl ?_
    refine g_iload_n hC dX7_build_12 rfl 1 rfl ?_
    refine g_iload_n hC dX7_build_13 rfl 2 rfl ?_
    refine g_iload_n hC dX7_build_14 rfl 3 rfl ?_
    refine g_bipush (v := 24) hC dX7_build_15 rfl ?_
    refine g_callV hC (k := 58) (ci := 7) (as := [.int (nI q), .int ln, .int f, .int 24]) (rest := []) (c_X7_lacksRow l D cA b M L g q ln f 24 hS hok qb (by omega) (by decide)) ⟨fw_965, fw_967, fs_35, fw_9, fw_968⟩ ⟨rfl, hd_X7_lacksRow⟩ rfl ly_58 ⟨Nat.le_of_ble_eq_true rfl, Nat.le_of_ble_eq_true rfl⟩ ⟨Nat.le_of_ble_eq_true rfl, Nat.le_of_ble_eq_true rfl⟩ rfl rfl (Nat.le_of_ble_eq_true rfl) dX7_build_17 (g_rix ?_)
    refine g_istore hC [(4, .int (shR g.2.2.2.2 (nI q).toInt ln.toInt f.toInt 24)), (0, .ref (b + 58)), (1, .int (nI q)), (2, .int ln), (3, .int f)] dX7_build_20 (by decide) rfl ?_
    by_cases c0 : (shR g.2.2.2.2 (nI q).toInt ln.toInt f.toInt 24).toInt = 0
    · obtain ⟨⟨z1, z2⟩, z3, z4, z5⟩ := shR_0 c0
      rw [qn] at z3 z5
      rw [show shR g.2.2.2.2 (nI q).toInt ln.toInt f.toInt 24 = 0 from Int32.toInt_inj.mp c0]
      obtain ⟨f0, f0b, f0E⟩ : ∃ j9 : Nat, j9 < 25 ∧ f = nI j9 := ic_of (by omega) (by omega)
      subst f0E
      have f0t : (nI f0).toInt = (f0 : Int) := nI_toInt (by omega)
      have f0n : (nI f0).toInt.toNat = f0 := by omega
      refine g_iconst (v := 0) hC dX7_build_22 rfl ?_
      refine g_istore hC [(5, .int 0), (4, .int 0), (0, .ref (b + 58)), (1, .int (nI q)), (2, .int ln), (3, .int (nI f0))] dX7_build_23 (by decide) rfl ?_
      have lp_25_4 : ∀ (n_4 : Nat) (i : Nat) (no : Int32), 24 - i < n_4 → (i ≤ 24 ∧ ((no = 0 ∧ ∀ h, h < i → (-2 ≤ (g.2.2.2.2.2.2 q (f0 + h)).toInt ∧ (g.2.2.2.2.2.2 q (f0 + h)).toInt ≤ 5)) ∨ (no = -2 ∧ ∃ h, h < 24 ∧ ¬ (-2 ≤ (g.2.2.2.2.2.2 q (f0 + h)).toInt ∧ (g.2.2.2.2.2.2 q (f0 + h)).toInt ≤ 5)))) → fm_G pq l eq (fm_rm 4 95 0 0) sq mq aq bq tq cq D cA b 6 (MQ bq (fm_Q D cA b LAY (fm_pm (fun r M' L' => r = (op_build g (nI q) ln (nI f0)).1 ∧ RS M' L' (op_build g (nI q) ln (nI f0)).2 ∧ fR M M' L L'))) aq sq 0 0 (fun q => b ≤ q)) LAY M L 0 0 25 [(5, .int (nI i)), (4, .int no), (0, .ref (b + 58)), (1, .int (nI q)), (2, .int ln), (3, .int (nI f0))] [] := by
        intro n_4
        induction n_4 with
        | zero => intro i no hm_4; exact absurd hm_4 (Nat.not_lt_zero _)
        | succ n_4 ih_4 =>
          intro i no hm_4 hinv_4
          obtain ⟨i1, w1⟩ := hinv_4
          refine g_iload hC dX7_build_25 0 rfl ?_
          refine g_bipush (v := 24) hC dX7_build_27 rfl ?_
          refine g_icmp_ge_T (X := ((i : Nat) : Int)) (Y := 24) hC (nI_toInt (by omega)) rfl 71 dX7_build_29 rfl (fun c_5 => ?_) (fun c_5 => ?_)
          · skip
            refine g_iload hC dX7_build_71 1 rfl ?_
            refine g_if_ge_T (X := no.toInt) hC rfl 83 dX7_build_73 rfl (fun c_6 => ?_) (fun c_6 => ?_)
            · skip
              have w2 : ∀ h, h < 24 → (-2 ≤ (g.2.2.2.2.2.2 q (f0 + h)).toInt ∧ (g.2.2.2.2.2.2 q (f0 + h)).toInt ≤ 5) := by
                rcases w1 with ⟨w3, w4⟩ | ⟨w3, w4⟩
                · intro h hh
                  exact w4 h (by omega)
                · exfalso; rw [w3] at c_6; exact absurd c_6 (by decide)
              refine g_iconst (v := 0) hC dX7_build_83 rfl ?_
              refine g_istore hC [(5, .int 0), (4, .int no), (0, .ref (b + 58)), (1, .int (nI q)), (2, .int ln), (3, .int (nI f0))] dX7_build_84 (by decide) rfl ?_
              have lp_86_7 : ∀ (n_7 : Nat) (M2 : Nat → Nat → Int32) (i2 : Nat), 24 - i2 < n_7 → (i2 ≤ 24 ∧ (∀ h, h ≠ 66 → M2 h = M h) ∧ (∀ j, j < i2 → M2 66 j = Int32.ofInt (g.2.2.2.2.2.2 q (f0 + j)).toInt)) → fm_G pq l eq (fm_rm 4 95 0 0) sq mq aq bq tq cq D cA b 6 (MQ bq (fm_Q D cA b LAY (fm_pm (fun r M' L' => r = (op_build g (nI q) ln (nI f0)).1 ∧ RS M' L' (op_build g (nI q) ln (nI f0)).2 ∧ fR M M' L L'))) aq sq 0 0 (fun q => b ≤ q)) LAY M2 L 0 0 86 [(5, .int (nI i2)), (4, .int no), (0, .ref (b + 58)), (1, .int (nI q)), (2, .int ln), (3, .int (nI f0))] [] := by
                intro n_7
                induction n_7 with
                | zero => intro M2 i2 hm_7; exact absurd hm_7 (Nat.not_lt_zero _)
                | succ n_7 ih_7 =>
                  intro M2 i2 hm_7 hinv_7
                  obtain ⟨y1, j2, j3⟩ := hinv_7
                  refine g_iload hC dX7_build_86 0 rfl ?_
                  refine g_bipush (v := 24) hC dX7_build_88 rfl ?_
                  refine g_icmp_ge_T (X := ((i2 : Nat) : Int)) (Y := 24) hC (nI_toInt (by omega)) rfl 121 dX7_build_90 rfl (fun c_8 => ?_) (fun c_8 => ?_)
                  · skip
                    have ei : i2 = 24 := by omega
                    subst ei
                    have bu1 : ∀ h, (buT g (nI q) (nI f0)).2.1 h = (g.2.2.2.2.2.2 q (f0 + h)).toInt := fun h => by show (g.2.2.2.2.2.2 (nI q).toInt.toNat ((nI f0).toInt.toNat + h)).toInt = _; rw [qn, f0n]
                    have hto9 : tOK (buT g (nI q) (nI f0)) := ⟨hok.1.1, hok.1.2.1, fun h hh => ⟨(hok.1.2.2.1 h hh).1, by rw [bu1 h]; exact (w2 h hh).1, by rw [bu1 h]; exact (w2 h hh).2⟩, hok.1.2.2.2⟩
                    have hT9 : tR M2 (buT g (nI q) (nI f0)) := tR_plan hS.1 (fun j hj => (j3 j hj).trans (congrArg Int32.ofInt (bu1 j)).symm) (fun i _ _ _ _ => by rw [j2 58 (by decide)]) (fun k k1 k2 => j2 k (by omega))
                    have hS9 : RS M2 L ((buT g (nI q) (nI f0)), g.2) := RS_now hS hT9 (fun i _ _ _ _ => by rw [j2 58 (by decide)]) (fun k hk => j2 k (by omega)) rfl
                    have hok9 : OK ((buT g (nI q) (nI f0)), g.2) := ⟨hto9, hok.2⟩
                    have hr9 : rowIs M2 66 (buT g (nI q) (nI f0)).2.1 := fun h hh => ⟨(j3 h hh).trans (congrArg Int32.ofInt (bu1 h)).symm, by rw [bu1 h]; exact w2 h hh⟩
                    refine g_aload_n hC dX7_build_121 rfl 2 rfl ?_
                    refine g_aload_n hC dX7_build_122 rfl 2 rfl ?_
                    refine g_getR (ci := 7) (i := 9) (k := 58) (t := 66) hC fm_in7 rfl ly_58 rfl (by decide) fw_629 dX7_build_123 ?_
                    refine g_callV hC (k := 58) (ci := 7) (as := [.ref (b + 66)]) (rest := []) (c_X7_gainOf l D cA b M2 L ((buT g (nI q) (nI f0)), g.2) 66 ((buT g (nI q) (nI f0)).2.1) hS9 hok9 ly_66 hr9 (by decide)) ⟨fw_857, fw_859, fs_26, fw_9, fw_860⟩ ⟨rfl, hd_X7_gainOf⟩ rfl ly_58 ⟨Nat.le_of_ble_eq_true rfl, Nat.le_of_ble_eq_true rfl⟩ ⟨Nat.le_of_ble_eq_true rfl, Nat.le_of_ble_eq_true rfl⟩ rfl rfl (Nat.le_of_ble_eq_true rfl) dX7_build_126 (g_rm (fun r_9 M_9 L_9 h_9 => ?_))
                    refine g_zret (ty := .int) hC rfl rfl dX7_build_129 ?_
                    obtain ⟨q1, q2, q3⟩ := h_9
                    have e0 : op_build g (nI q) ln (nI f0) = (Int32.ofInt (gainS (buT g (nI q) (nI f0)) (buT g (nI q) (nI f0)).2.1), ((buT g (nI q) (nI f0)), g.2)) := by unfold op_build; rw [if_neg (by omega), qn, f0n, if_pos w2]
                    exact ⟨_, rfl, (by rw [e0]; exact q1), (by rw [e0]; exact RS_scr hS9 (fun a a1 a2 a3 => q2 a (by omega)) (by rw [q3])), fun k hk => ⟨by rw [q2 k (by omega)]; exact j2 k (by omega), by rw [q3]⟩⟩
                  · skip
                    refine g_aload_n hC dX7_build_93 rfl 2 rfl ?_
                    refine g_getR (ci := 7) (i := 9) (k := 58) (t := 66) hC fm_in7 rfl ly_58 rfl (by decide) fw_629 dX7_build_94 ?_
                    refine g_iload hC dX7_build_97 0 rfl ?_
                    refine g_aload_n hC dX7_build_99 rfl 2 rfl ?_
                    refine g_getR (ci := 7) (i := 30) (k := 58) (t := 75) hC fm_in7 rfl ly_58 rfl (by decide) fw_650 dX7_build_100 ?_
                    refine g_bipush (v := 24) hC dX7_build_103 rfl ?_
                    refine g_iload_n hC dX7_build_105 rfl 3 rfl ?_
                    refine g_imul hC dX7_build_106 ?_
                    refine g_top (y := nI (24 * q)) (pk_mul _ _) ?_
                    refine g_iload_n hC dX7_build_107 rfl 5 rfl ?_
                    refine g_iadd hC dX7_build_108 ?_
                    refine g_top (y := nI ((24 * q) + f0)) (nI_add _ _) ?_
                    refine g_iload hC dX7_build_109 0 rfl ?_
                    refine g_iadd hC dX7_build_111 ?_
                    refine g_top (y := nI (((24 * q) + f0) + i2)) (nI_add _ _) ?_
                    refine g_laldN (j := ((24 * q) + f0) + i2) (k := 75) hC ly_75 rfl (by omega) (by decide) dX7_build_112 ?_
                    refine g_topL (y := g.2.2.2.2.2.2 q (f0 + i2)) (by rw [show 24 * q + f0 + i2 = 24 * q + (f0 + i2) by omega]; exact (qs.2 (by omega)).2 (f0 + i2) (by omega)) ?_
                    refine g_l2i (v := (g.2.2.2.2.2.2 q (f0 + i2)).toInt32) hC dX7_build_113 rfl ?_
                    refine g_iastN (j := i2) (k := 66) hC ly_66 rfl (by omega) (by decide) dX7_build_114 ?_
                    refine g_iinc hC [(5, .int (nI (i2 + 1))), (4, .int no), (0, .ref (b + 58)), (1, .int (nI q)), (2, .int ln), (3, .int (nI f0))] dX7_build_115 0 rfl (by rw [show Int32.ofInt 1 = nI 1 from rfl, nI_add]) (by decide) rfl ?_
                    refine g_goto hC 86 dX7_build_118 rfl ?_
                    exact g_sub [0, 1, 2, 3, 4, 5] rfl (ih_7 (fm_up M2 66 i2 ((g.2.2.2.2.2.2 q (f0 + i2)).toInt32)) (i2 + 1) (by omega) (⟨by omega, fun h hh => (by rw [fm_upn hh]; exact j2 h hh), fun j hj => (by by_cases ej : j = i2; rw [ej, fm_ups]; exact l2i_s (w2 i2 (by omega)).1 (w2 i2 (by omega)).2; rw [fm_upx ej]; exact j3 j (by omega))⟩))
              exact g_sub [0, 1, 2, 3, 4, 5] rfl (lp_86_7 (24 - 0 + 1) M 0 (Nat.lt_succ_self _) (⟨by decide, fun _ _ => rfl, fun h hh => absurd hh (Nat.not_lt_zero _)⟩))
            · skip
              refine g_iload hC dX7_build_76 1 rfl ?_
              refine g_ldc_w (v := 100000000) hC fw_1000 dX7_build_78 ?_
              refine g_isub hC dX7_build_81 ?_
              refine g_zret (ty := .int) hC rfl rfl dX7_build_82 ?_
              rcases w1 with ⟨w3, w4⟩ | ⟨w3, h8, w5, w4⟩
              · exfalso; rw [w3] at c_6; exact absurd c_6 (by decide)
              · have e0 : op_build g (nI q) ln (nI f0) = (-100000002, g) := by unfold op_build; rw [if_neg (by omega), qn, f0n, if_neg (fun z => w4 (z h8 w5))]
                rw [w3]
                exact ⟨_, rfl, by rw [e0]; rfl, by rw [e0]; exact hS, fR_rf⟩
          · skip
            refine g_iload hC dX7_build_32 1 rfl ?_
            refine g_if_ne_T (X := no.toInt) hC rfl 71 dX7_build_34 rfl (fun c_10 => ?_) (fun c_10 => ?_)
            · skip
              have ne0 := c_10
              refine g_iload hC dX7_build_71 1 rfl ?_
              refine g_if_ge_T (X := no.toInt) hC rfl 83 dX7_build_73 rfl (fun c_11 => ?_) (fun c_11 => ?_)
              · skip
                have w2 : ∀ h, h < 24 → (-2 ≤ (g.2.2.2.2.2.2 q (f0 + h)).toInt ∧ (g.2.2.2.2.2.2 q (f0 + h)).toInt ≤ 5) := by
                  rcases w1 with ⟨w3, w4⟩ | ⟨w3, w4⟩
                  · intro h hh
                    rw [w3] at ne0; exact absurd rfl ne0
                  · exfalso; rw [w3] at c_11; exact absurd c_11 (by decide)
                refine g_iconst (v := 0) hC dX7_build_83 rfl ?_
                refine g_istore hC [(5, .int 0), (4, .int no), (0, .ref (b + 58)), (1, .int (nI q)), (2, .int ln), (3, .int (nI f0))] dX7_build_84 (by decide) rfl ?_
                have lp_86_12 : ∀ (n_12 : Nat) (M2 : Nat → Nat → Int32) (i2 : Nat), 24 - i2 < n_12 → (i2 ≤ 24 ∧ (∀ h, h ≠ 66 → M2 h = M h) ∧ (∀ j, j < i2 → M2 66 j = Int32.ofInt (g.2.2.2.2.2.2 q (f0 + j)).toInt)) → fm_G pq l eq (fm_rm 4 95 0 0) sq mq aq bq tq cq D cA b 6 (MQ bq (fm_Q D cA b LAY (fm_pm (fun r M' L' => r = (op_build g (nI q) ln (nI f0)).1 ∧ RS M' L' (op_build g (nI q) ln (nI f0)).2 ∧ fR M M' L L'))) aq sq 0 0 (fun q => b ≤ q)) LAY M2 L 0 0 86 [(5, .int (nI i2)), (4, .int no), (0, .ref (b + 58)), (1, .int (nI q)), (2, .int ln), (3, .int (nI f0))] [] := by
                  intro n_12
                  induction n_12 with
                  | zero => intro M2 i2 hm_12; exact absurd hm_12 (Nat.not_lt_zero _)
                  | succ n_12 ih_12 =>
                    intro M2 i2 hm_12 hinv_12
                    obtain ⟨y1, j2, j3⟩ := hinv_12
                    refine g_iload hC dX7_build_86 0 rfl ?_
                    refine g_bipush (v := 24) hC dX7_build_88 rfl ?_
                    refine g_icmp_ge_T (X := ((i2 : Nat) : Int)) (Y := 24) hC (nI_toInt (by omega)) rfl 121 dX7_build_90 rfl (fun c_13 => ?_) (fun c_13 => ?_)
                    · skip
                      have ei : i2 = 24 := by omega
                      subst ei
                      have bu1 : ∀ h, (buT g (nI q) (nI f0)).2.1 h = (g.2.2.2.2.2.2 q (f0 + h)).toInt := fun h => by show (g.2.2.2.2.2.2 (nI q).toInt.toNat ((nI f0).toInt.toNat + h)).toInt = _; rw [qn, f0n]
                      have hto9 : tOK (buT g (nI q) (nI f0)) := ⟨hok.1.1, hok.1.2.1, fun h hh => ⟨(hok.1.2.2.1 h hh).1, by rw [bu1 h]; exact (w2 h hh).1, by rw [bu1 h]; exact (w2 h hh).2⟩, hok.1.2.2.2⟩
                      have hT9 : tR M2 (buT g (nI q) (nI f0)) := tR_plan hS.1 (fun j hj => (j3 j hj).trans (congrArg Int32.ofInt (bu1 j)).symm) (fun i _ _ _ _ => by rw [j2 58 (by decide)]) (fun k k1 k2 => j2 k (by omega))
                      have hS9 : RS M2 L ((buT g (nI q) (nI f0)), g.2) := RS_now hS hT9 (fun i _ _ _ _ => by rw [j2 58 (by decide)]) (fun k hk => j2 k (by omega)) rfl
                      have hok9 : OK ((buT g (nI q) (nI f0)), g.2) := ⟨hto9, hok.2⟩
                      have hr9 : rowIs M2 66 (buT g (nI q) (nI f0)).2.1 := fun h hh => ⟨(j3 h hh).trans (congrArg Int32.ofInt (bu1 h)).symm, by rw [bu1 h]; exact w2 h hh⟩
                      refine g_aload_n hC dX7_build_121 rfl 2 rfl ?_
                      refine g_aload_n hC dX7_build_122 rfl 2 rfl ?_
                      refine g_getR (ci := 7) (i := 9) (k := 58) (t := 66) hC fm_in7 rfl ly_58 rfl (by decide) fw_629 dX7_build_123 ?_
                      refine g_callV hC (k := 58) (ci := 7) (as := [.ref (b + 66)]) (rest := []) (c_X7_gainOf l D cA b M2 L ((buT g (nI q) (nI f0)), g.2) 66 ((buT g (nI q) (nI f0)).2.1) hS9 hok9 ly_66 hr9 (by decide)) ⟨fw_857, fw_859, fs_26, fw_9, fw_860⟩ ⟨rfl, hd_X7_gainOf⟩ rfl ly_58 ⟨Nat.le_of_ble_eq_true rfl, Nat.le_of_ble_eq_true rfl⟩ ⟨Nat.le_of_ble_eq_true rfl, Nat.le_of_ble_eq_true rfl⟩ rfl rfl (Nat.le_of_ble_eq_true rfl) dX7_build_126 (g_rm (fun r_14 M_14 L_14 h_14 => ?_))
                      refine g_zret (ty := .int) hC rfl rfl dX7_build_129 ?_
                      obtain ⟨q1, q2, q3⟩ := h_14
                      have e0 : op_build g (nI q) ln (nI f0) = (Int32.ofInt (gainS (buT g (nI q) (nI f0)) (buT g (nI q) (nI f0)).2.1), ((buT g (nI q) (nI f0)), g.2)) := by unfold op_build; rw [if_neg (by omega), qn, f0n, if_pos w2]
                      exact ⟨_, rfl, (by rw [e0]; exact q1), (by rw [e0]; exact RS_scr hS9 (fun a a1 a2 a3 => q2 a (by omega)) (by rw [q3])), fun k hk => ⟨by rw [q2 k (by omega)]; exact j2 k (by omega), by rw [q3]⟩⟩
                    · skip
                      refine g_aload_n hC dX7_build_93 rfl 2 rfl ?_
                      refine g_getR (ci := 7) (i := 9) (k := 58) (t := 66) hC fm_in7 rfl ly_58 rfl (by decide) fw_629 dX7_build_94 ?_
                      refine g_iload hC dX7_build_97 0 rfl ?_
                      refine g_aload_n hC dX7_build_99 rfl 2 rfl ?_
                      refine g_getR (ci := 7) (i := 30) (k := 58) (t := 75) hC fm_in7 rfl ly_58 rfl (by decide) fw_650 dX7_build_100 ?_
                      refine g_bipush (v := 24) hC dX7_build_103 rfl ?_
                      refine g_iload_n hC dX7_build_105 rfl 3 rfl ?_
                      refine g_imul hC dX7_build_106 ?_
                      refine g_top (y := nI (24 * q)) (pk_mul _ _) ?_
                      refine g_iload_n hC dX7_build_107 rfl 5 rfl ?_
                      refine g_iadd hC dX7_build_108 ?_
                      refine g_top (y := nI ((24 * q) + f0)) (nI_add _ _) ?_
                      refine g_iload hC dX7_build_109 0 rfl ?_
                      refine g_iadd hC dX7_build_111 ?_
                      refine g_top (y := nI (((24 * q) + f0) + i2)) (nI_add _ _) ?_
                      refine g_laldN (j := ((24 * q) + f0) + i2) (k := 75) hC ly_75 rfl (by omega) (by decide) dX7_build_112 ?_
                      refine g_topL (y := g.2.2.2.2.2.2 q (f0 + i2)) (by rw [show 24 * q + f0 + i2 = 24 * q + (f0 + i2) by omega]; exact (qs.2 (by omega)).2 (f0 + i2) (by omega)) ?_
                      refine g_l2i (v := (g.2.2.2.2.2.2 q (f0 + i2)).toInt32) hC dX7_build_113 rfl ?_
                      refine g_iastN (j := i2) (k := 66) hC ly_66 rfl (by omega) (by decide) dX7_build_114 ?_
                      refine g_iinc hC [(5, .int (nI (i2 + 1))), (4, .int no), (0, .ref (b + 58)), (1, .int (nI q)), (2, .int ln), (3, .int (nI f0))] dX7_build_115 0 rfl (by rw [show Int32.ofInt 1 = nI 1 from rfl, nI_add]) (by decide) rfl ?_
                      refine g_goto hC 86 dX7_build_118 rfl ?_
                      exact g_sub [0, 1, 2, 3, 4, 5] rfl (ih_12 (fm_up M2 66 i2 ((g.2.2.2.2.2.2 q (f0 + i2)).toInt32)) (i2 + 1) (by omega) (⟨by omega, fun h hh => (by rw [fm_upn hh]; exact j2 h hh), fun j hj => (by by_cases ej : j = i2; rw [ej, fm_ups]; exact l2i_s (w2 i2 (by omega)).1 (w2 i2 (by omega)).2; rw [fm_upx ej]; exact j3 j (by omega))⟩))
                exact g_sub [0, 1, 2, 3, 4, 5] rfl (lp_86_12 (24 - 0 + 1) M 0 (Nat.lt_succ_self _) (⟨by decide, fun _ _ => rfl, fun h hh => absurd hh (Nat.not_lt_zero _)⟩))
              · skip
                refine g_iload hC dX7_build_76 1 rfl ?_
                refine g_ldc_w (v := 100000000) hC fw_1000 dX7_build_78 ?_
                refine g_isub hC dX7_build_81 ?_
                refine g_zret (ty := .int) hC rfl rfl dX7_build_82 ?_
                rcases w1 with ⟨w3, w4⟩ | ⟨w3, h8, w5, w4⟩
                · exfalso; rw [w3] at c_11; exact absurd c_11 (by decide)
                · have e0 : op_build g (nI q) ln (nI f0) = (-100000002, g) := by unfold op_build; rw [if_neg (by omega), qn, f0n, if_neg (fun z => w4 (z h8 w5))]
                  rw [w3]
                  exact ⟨_, rfl, by rw [e0]; rfl, by rw [e0]; exact hS, fR_rf⟩
            · skip
              have nz0 := c_10
              refine g_aload_n hC dX7_build_37 rfl 2 rfl ?_
              refine g_getR (ci := 7) (i := 30) (k := 58) (t := 75) hC fm_in7 rfl ly_58 rfl (by decide) fw_650 dX7_build_38 ?_
              refine g_bipush (v := 24) hC dX7_build_41 rfl ?_
              refine g_iload_n hC dX7_build_43 rfl 3 rfl ?_
              refine g_imul hC dX7_build_44 ?_
              refine g_top (y := nI (24 * q)) (pk_mul _ _) ?_
              refine g_iload_n hC dX7_build_45 rfl 5 rfl ?_
              refine g_iadd hC dX7_build_46 ?_
              refine g_top (y := nI ((24 * q) + f0)) (nI_add _ _) ?_
              refine g_iload hC dX7_build_47 0 rfl ?_
              refine g_iadd hC dX7_build_49 ?_
              refine g_top (y := nI (((24 * q) + f0) + i)) (nI_add _ _) ?_
              refine g_laldN (j := ((24 * q) + f0) + i) (k := 75) hC ly_75 rfl (by omega) (by decide) dX7_build_50 ?_
              refine g_topL (y := g.2.2.2.2.2.2 q (f0 + i)) (by rw [show 24 * q + f0 + i = 24 * q + (f0 + i) by omega]; exact (qs.2 (by omega)).2 (f0 + i) (by omega)) ?_
              refine g_callS hC (as := [.long (g.2.2.2.2.2.2 q (f0 + i))]) (rest := []) (c_X7_isNumber l D cA b LAY M L (g.2.2.2.2.2.2 q (f0 + i)) ((g.2.2.2.2.2.2 q (f0 + i)).toInt) rfl) ⟨fw_841, fw_842, fw_9, fw_843⟩ hd_X7_isNumber ⟨Nat.le_of_ble_eq_true rfl, Nat.le_of_ble_eq_true rfl⟩ ⟨Nat.le_of_ble_eq_true rfl, Nat.le_of_ble_eq_true rfl⟩ rfl rfl (Nat.le_of_ble_eq_true rfl) dX7_build_51 (g_rix ?_)
              refine g_ifb_eq hC 61 dX7_build_54 rfl (fun c_16 => ?_) (fun c_16 => ?_)
              · skip
                refine g_bipush (v := (-2)) hC dX7_build_61 rfl ?_
                refine g_istore hC [(4, .int (-2)), (5, .int (nI i)), (0, .ref (b + 58)), (1, .int (nI q)), (2, .int ln), (3, .int (nI f0))] dX7_build_63 (by decide) rfl ?_
                refine g_iinc hC [(5, .int (nI (i + 1))), (4, .int (-2)), (0, .ref (b + 58)), (1, .int (nI q)), (2, .int ln), (3, .int (nI f0))] dX7_build_65 1 rfl (by rw [show Int32.ofInt 1 = nI 1 from rfl, nI_add]) (by decide) rfl ?_
                refine g_goto hC 25 dX7_build_68 rfl ?_
                exact g_sub [0, 1, 2, 3, 4, 5] rfl (ih_4 (i + 1) (-2) (by omega) (⟨by omega, Or.inr ⟨rfl, i, by omega, by omega⟩⟩))
              · skip
                refine g_iconst (v := 0) hC dX7_build_57 rfl ?_
                refine g_goto hC 63 dX7_build_58 rfl ?_
                refine g_istore hC [(4, .int 0), (5, .int (nI i)), (0, .ref (b + 58)), (1, .int (nI q)), (2, .int ln), (3, .int (nI f0))] dX7_build_63 (by decide) rfl ?_
                refine g_iinc hC [(5, .int (nI (i + 1))), (4, .int 0), (0, .ref (b + 58)), (1, .int (nI q)), (2, .int ln), (3, .int (nI f0))] dX7_build_65 1 rfl (by rw [show Int32.ofInt 1 = nI 1 from rfl, nI_add]) (by decide) rfl ?_
                refine g_goto hC 25 dX7_build_68 rfl ?_
                exact g_sub [0, 1, 2, 3, 4, 5] rfl (ih_4 (i + 1) 0 (by omega) (⟨by omega, (by rcases w1 with ⟨w3, w4⟩ | ⟨w3, w4⟩; exact Or.inl ⟨rfl, fun h hh => (by by_cases eh : h = i; rw [eh]; omega; exact w4 h (by omega))⟩; (exfalso; rw [w3] at nz0; exact absurd nz0 (by decide)))⟩))
      exact g_sub [0, 1, 2, 3, 4, 5] rfl (lp_25_4 (24 - 0 + 1) 0 0 (Nat.lt_succ_self _) (⟨by decide, Or.inl ⟨rfl, fun h hh => absurd hh (Nat.not_lt_zero _)⟩⟩))
    · have sn := shR_n g.2.2.2.2 (nI q).toInt ln.toInt f.toInt 24
      refine g_iconst (v := 0) hC dX7_build_22 rfl ?_
      refine g_istore hC [(5, .int 0), (4, .int (shR g.2.2.2.2 (nI q).toInt ln.toInt f.toInt 24)), (0, .ref (b + 58)), (1, .int (nI q)), (2, .int ln), (3, .int f)] dX7_build_23 (by decide) rfl ?_
      refine g_iload hC dX7_build_25 0 rfl ?_
      refine g_bipush (v := 24) hC dX7_build_27 rfl ?_
      refine g_icmp_ge_T (X := 0) (Y := 24) hC rfl rfl 71 dX7_build_29 rfl (fun c_17 => absurd c_17 (by omega)) (fun _ => ?_)
      refine g_iload hC dX7_build_32 1 rfl ?_
      refine g_if_ne_T (X := (shR g.2.2.2.2 (nI q).toInt ln.toInt f.toInt 24).toInt) hC rfl 71 dX7_build_34 rfl (fun _ => ?_) (fun c_18 => absurd c_18 (by omega))
      refine g_iload hC dX7_build_71 1 rfl ?_
      refine g_if_ge_T (X := (shR g.2.2.2.2 (nI q).toInt ln.toInt f.toInt 24).toInt) hC rfl 83 dX7_build_73 rfl (fun c_19 => ?_) (fun c_19 => ?_)
      · skip
        exfalso; omega
      · skip
        refine g_iload hC dX7_build_76 1 rfl ?_
        refine g_ldc_w (v := 100000000) hC fw_1000 dX7_build_78 ?_
        refine g_isub hC dX7_build_81 ?_
        refine g_zret (ty := .int) hC rfl rfl dX7_build_82 ?_
        have e0 : op_build g (nI q) ln f = (shR g.2.2.2.2 (nI q).toInt ln.toInt f.toInt 24 - 100000000, g) := by unfold op_build; rw [if_pos c0]
        exact ⟨_, rfl, by rw [e0], by rw [e0]; exact hS, fR_rf⟩
  · skip
    refine g_ldc (v := (-100000001)) hC fw_783 dX7_build_8 ?_
    refine g_zret (ty := .int) hC rfl rfl dX7_build_10 ?_
    have s1 : shR g.2.2.2.2 x.toInt ln.toInt f.toInt 24 = -1 := by unfold shR; rw [if_pos (by omega)]
    have e0 : op_build g x ln f = (-100000001, g) := by unfold op_build; rw [s1]; exact if_pos (by decide)
    exact ⟨_, rfl, by rw [e0], by rw [e0]; exact hS, fR_rf⟩

theorem c_X7_copy (l : Launch) (D : va_G) (cA : Nat → ClassId) (b : Nat) (M : Nat → Nat → Int32) (L : Nat → Nat → Int64) (g : Sg) (x : Int32) (i : Int32) (y : Int32) (j : Int32) (n : Int32) (hS : RS M L g) (hok : OK g) : fm_Met l D cA b yX7_copy cX7_copy 7 (some .int) 1 25 0 0 [.ref (b + 58), .int x, .int i, .int y, .int j, .int n] LAY M L LAY (fm_pm (fun r M' L' => r = (op_copy g x i y j n).1 ∧ RS M' L' (op_copy g x i y j n).2 ∧ fR M M' L L')) := by
  refine fm_start RX7 rfl (by decide) (Nat.le_of_ble_eq_true rfl) ?_
  intro pq eq sq mq aq bq tq cq hC hin
  refine g_iload_n hC dX7_copy_0 rfl 1 rfl ?_
  refine g_i2l (v := x.toInt64) hC dX7_copy_1 rfl ?_
  refine g_lconst (v := 0) hC dX7_copy_2 rfl ?_
  refine g_ldc2 (v := 3) hC fw_724 dX7_copy_3 ?_
  refine g_callS hC (as := [.long x.toInt64, .long 0, .long 3]) (rest := []) (c_X7_in l D cA b LAY M L x.toInt64 0 3 x.toInt 0 3 ((ic_w _).trans rfl) rfl rfl) ⟨fw_725, fw_726, fw_9, fw_727⟩ hd_X7_in ⟨Nat.le_of_ble_eq_true rfl, Nat.le_of_ble_eq_true rfl⟩ ⟨Nat.le_of_ble_eq_true rfl, Nat.le_of_ble_eq_true rfl⟩ rfl rfl (Nat.le_of_ble_eq_true rfl) dX7_copy_6 (g_rix ?_)
  refine g_ifb_eq hC 24 dX7_copy_9 rfl (fun c_2 => ?_) (fun c_2 => ?_)
  · skip
    refine g_iconst (v := (-1)) hC dX7_copy_24 rfl ?_
    refine g_zret (ty := .int) hC rfl rfl dX7_copy_25 ?_
    have e0 : op_copy g x i y j n = (-1, g) := by unfold op_copy; rw [if_pos (by omega)]
    exact ⟨_, rfl, by rw [e0], by rw [e0]; exact hS, fR_rf⟩
  · skip
    refine g_iload_n hC dX7_copy_12 rfl 3 rfl ?_
    refine g_i2l (v := y.toInt64) hC dX7_copy_13 rfl ?_
    refine g_lconst (v := 0) hC dX7_copy_14 rfl ?_
    refine g_ldc2 (v := 3) hC fw_724 dX7_copy_15 ?_
    refine g_callS hC (as := [.long y.toInt64, .long 0, .long 3]) (rest := []) (c_X7_in l D cA b LAY M L y.toInt64 0 3 y.toInt 0 3 ((ic_w _).trans rfl) rfl rfl) ⟨fw_725, fw_726, fw_9, fw_727⟩ hd_X7_in ⟨Nat.le_of_ble_eq_true rfl, Nat.le_of_ble_eq_true rfl⟩ ⟨Nat.le_of_ble_eq_true rfl, Nat.le_of_ble_eq_true rfl⟩ rfl rfl (Nat.le_of_ble_eq_true rfl) dX7_copy_18 (g_rix ?_)
    refine g_ifb_ne hC 26 dX7_copy_21 rfl (fun c_4 => ?_) (fun c_4 => ?_)
    · skip
      obtain ⟨q, qb, qE⟩ : ∃ j9 : Nat, j9 < 4 ∧ x = nI j9 := ic_of (by omega) (by omega)
      subst qE
      have qt : (nI q).toInt = (q : Int) := nI_toInt (by omega)
      have qn : (nI q).toInt.toNat = q := by omega
      have qs := hS.2.2.2.2 q qb
      have qo := hok.2.2.2.2 q qb
      obtain ⟨u, ub, uE⟩ : ∃ j9 : Nat, j9 < 4 ∧ y = nI j9 := ic_of (by omega) (by omega)
      subst uE
      have ut : (nI u).toInt = (u : Int) := nI_toInt (by omega)
      have un : (nI u).toInt.toNat = u := by omega
      have us := hS.2.2.2.2 u ub
      have uo := hok.2.2.2.2 u ub
      refine g_aload_n hC dX7_copy_26 rfl 0 rfl ?_
      refine g_getR (ci := 7) (i := 28) (k := 58) (t := 73) hC fm_in7 rfl ly_58 rfl (by decide) fw_648 dX7_copy_27 ?_
      refine g_iload_n hC dX7_copy_30 rfl 1 rfl ?_
      refine g_ialdN (j := q) (k := 73) hC ly_73 rfl (by omega) (by decide) dX7_copy_31 ?_
      refine g_top (y := Int32.ofInt (g.2.2.2.2.1 q)) qs.1 ?_
      refine g_if_lt_T (X := g.2.2.2.2.1 q) hC (oI_t (by omega) (by omega)) 44 dX7_copy_32 rfl (fun c_5 => ?_) (fun c_5 => ?_)
      · skip
        refine g_bipush (v := (-11)) hC dX7_copy_44 rfl ?_
        refine g_zret (ty := .int) hC rfl rfl dX7_copy_46 ?_
        have e0 : op_copy g (nI q) i (nI u) j n = (-11, g) := by unfold op_copy; rw [if_neg (by omega), qn, un, if_pos (by omega)]
        exact ⟨_, rfl, by rw [e0], by rw [e0]; exact hS, fR_rf⟩
      · skip
        refine g_aload_n hC dX7_copy_35 rfl 0 rfl ?_
        refine g_getR (ci := 7) (i := 28) (k := 58) (t := 73) hC fm_in7 rfl ly_58 rfl (by decide) fw_648 dX7_copy_36 ?_
        refine g_iload_n hC dX7_copy_39 rfl 3 rfl ?_
        refine g_ialdN (j := u) (k := 73) hC ly_73 rfl (by omega) (by decide) dX7_copy_40 ?_
        refine g_top (y := Int32.ofInt (g.2.2.2.2.1 u)) us.1 ?_
        refine g_if_ge_T (X := g.2.2.2.2.1 u) hC (oI_t (by omega) (by omega)) 47 dX7_copy_41 rfl (fun c_6 => ?_) (fun c_6 => ?_)
        · skip
          refine g_aload_n hC dX7_copy_47 rfl 0 rfl ?_
          refine g_getR (ci := 7) (i := 28) (k := 58) (t := 73) hC fm_in7 rfl ly_58 rfl (by decide) fw_648 dX7_copy_48 ?_
          refine g_iload_n hC dX7_copy_51 rfl 1 rfl ?_
          refine g_ialdN (j := q) (k := 73) hC ly_73 rfl (by omega) (by decide) dX7_copy_52 ?_
          refine g_top (y := Int32.ofInt (g.2.2.2.2.1 q)) qs.1 ?_
          refine g_aload_n hC dX7_copy_53 rfl 0 rfl ?_
          refine g_getR (ci := 7) (i := 28) (k := 58) (t := 73) hC fm_in7 rfl ly_58 rfl (by decide) fw_648 dX7_copy_54 ?_
          refine g_iload_n hC dX7_copy_57 rfl 3 rfl ?_
          refine g_ialdN (j := u) (k := 73) hC ly_73 rfl (by omega) (by decide) dX7_copy_58 ?_
          refine g_top (y := Int32.ofInt (g.2.2.2.2.1 u)) us.1 ?_
          refine g_icmp_eq_T (X := g.2.2.2.2.1 q) (Y := g.2.2.2.2.1 u) hC (oI_t (by omega) (by omega)) (oI_t (by omega) (by omega)) 65 dX7_copy_59 rfl (fun c_7 => ?_) (fun c_7 => ?_)
          · skip
            refine g_iload hC dX7_copy_65 5 rfl ?_
            refine g_if_lt_T (X := n.toInt) hC rfl 111 dX7_copy_67 rfl (fun c_8 => ?_) (fun c_8 => ?_)
            · skip
              refine g_bipush (v := (-13)) hC dX7_copy_111 rfl ?_
              refine g_zret (ty := .int) hC rfl rfl dX7_copy_113 ?_
              have e0 : op_copy g (nI q) i (nI u) j n = (-13, g) := by unfold op_copy; rw [if_neg (by omega), qn, un, if_neg (by omega), if_neg (by omega), if_pos (by omega)]
              exact ⟨_, rfl, by rw [e0], by rw [e0]; exact hS, fR_rf⟩
            · skip
              refine g_iload_n hC dX7_copy_70 rfl 2 rfl ?_
              refine g_i2l (v := i.toInt64) hC dX7_copy_71 rfl ?_
              refine g_lconst (v := 0) hC dX7_copy_72 rfl ?_
              refine g_aload_n hC dX7_copy_73 rfl 0 rfl ?_
              refine g_getR (ci := 7) (i := 29) (k := 58) (t := 74) hC fm_in7 rfl ly_58 rfl (by decide) fw_649 dX7_copy_74 ?_
              refine g_iload_n hC dX7_copy_77 rfl 1 rfl ?_
              refine g_ialdN (j := q) (k := 74) hC ly_74 rfl (by omega) (by decide) dX7_copy_78 ?_
              refine g_top (y := nI (g.2.2.2.2.2.1 q)) (qs.2 (by omega)).1 ?_
              refine g_i2l (v := (nI (g.2.2.2.2.2.1 q)).toInt64) hC dX7_copy_79 rfl ?_
              refine g_iload hC dX7_copy_80 5 rfl ?_
              refine g_i2l (v := n.toInt64) hC dX7_copy_82 rfl ?_
              refine g_lsub hC dX7_copy_83 ?_
              refine g_topL (y := (nI (g.2.2.2.2.2.1 q)).toInt64 - n.toInt64) rfl ?_
              refine g_callS hC (as := [.long i.toInt64, .long 0, .long ((nI (g.2.2.2.2.2.1 q)).toInt64 - n.toInt64)]) (rest := []) (c_X7_in l D cA b LAY M L i.toInt64 0 ((nI (g.2.2.2.2.2.1 q)).toInt64 - n.toInt64) i.toInt 0 ((g.2.2.2.2.2.1 q : Int) - n.toInt) ((ic_w _).trans rfl) rfl (ls_n qo.2.2)) ⟨fw_725, fw_726, fw_9, fw_727⟩ hd_X7_in ⟨Nat.le_of_ble_eq_true rfl, Nat.le_of_ble_eq_true rfl⟩ ⟨Nat.le_of_ble_eq_true rfl, Nat.le_of_ble_eq_true rfl⟩ rfl rfl (Nat.le_of_ble_eq_true rfl) dX7_copy_84 (g_rix ?_)
              refine g_ifb_eq hC 111 dX7_copy_87 rfl (fun c_10 => ?_) (fun c_10 => ?_)
              · skip
                refine g_bipush (v := (-13)) hC dX7_copy_111 rfl ?_
                refine g_zret (ty := .int) hC rfl rfl dX7_copy_113 ?_
                have e0 : op_copy g (nI q) i (nI u) j n = (-13, g) := by unfold op_copy; rw [if_neg (by omega), qn, un, if_neg (by omega), if_neg (by omega), if_pos (by omega)]
                exact ⟨_, rfl, by rw [e0], by rw [e0]; exact hS, fR_rf⟩
              · skip
                refine g_iload hC dX7_copy_90 4 rfl ?_
                refine g_i2l (v := j.toInt64) hC dX7_copy_92 rfl ?_
                refine g_lconst (v := 0) hC dX7_copy_93 rfl ?_
                refine g_aload_n hC dX7_copy_94 rfl 0 rfl ?_
                refine g_getR (ci := 7) (i := 29) (k := 58) (t := 74) hC fm_in7 rfl ly_58 rfl (by decide) fw_649 dX7_copy_95 ?_
                refine g_iload_n hC dX7_copy_98 rfl 3 rfl ?_
                refine g_ialdN (j := u) (k := 74) hC ly_74 rfl (by omega) (by decide) dX7_copy_99 ?_
                refine g_top (y := nI (g.2.2.2.2.2.1 u)) (us.2 (by omega)).1 ?_
                refine g_i2l (v := (nI (g.2.2.2.2.2.1 u)).toInt64) hC dX7_copy_100 rfl ?_
                refine g_iload hC dX7_copy_101 5 rfl ?_
                refine g_i2l (v := n.toInt64) hC dX7_copy_103 rfl ?_
                refine g_lsub hC dX7_copy_104 ?_
                refine g_topL (y := (nI (g.2.2.2.2.2.1 u)).toInt64 - n.toInt64) rfl ?_
                refine g_callS hC (as := [.long j.toInt64, .long 0, .long ((nI (g.2.2.2.2.2.1 u)).toInt64 - n.toInt64)]) (rest := []) (c_X7_in l D cA b LAY M L j.toInt64 0 ((nI (g.2.2.2.2.2.1 u)).toInt64 - n.toInt64) j.toInt 0 ((g.2.2.2.2.2.1 u : Int) - n.toInt) ((ic_w _).trans rfl) rfl (ls_n uo.2.2)) ⟨fw_725, fw_726, fw_9, fw_727⟩ hd_X7_in ⟨Nat.le_of_ble_eq_true rfl, Nat.le_of_ble_eq_true rfl⟩ ⟨Nat.le_of_ble_eq_true rfl, Nat.le_of_ble_eq_true rfl⟩ rfl rfl (Nat.le_of_ble_eq_true rfl) dX7_copy_105 (g_rix ?_)
                refine g_ifb_ne hC 114 dX7_copy_108 rfl (fun c_12 => ?_) (fun c_12 => ?_)
                · skip
                  obtain ⟨i0, i0b, i0E⟩ : ∃ j9 : Nat, j9 < 25 ∧ i = nI j9 := ic_of (by omega) (by omega)
                  subst i0E
                  have i0t : (nI i0).toInt = (i0 : Int) := nI_toInt (by omega)
                  have i0n : (nI i0).toInt.toNat = i0 := by omega
                  obtain ⟨j0, j0b, j0E⟩ : ∃ j9 : Nat, j9 < 25 ∧ j = nI j9 := ic_of (by omega) (by omega)
                  subst j0E
                  have j0t : (nI j0).toInt = (j0 : Int) := nI_toInt (by omega)
                  have j0n : (nI j0).toInt.toNat = j0 := by omega
                  obtain ⟨n0, n0b, n0E⟩ : ∃ j9 : Nat, j9 < 25 ∧ n = nI j9 := ic_of (by omega) (by omega)
                  subst n0E
                  have n0t : (nI n0).toInt = (n0 : Int) := nI_toInt (by omega)
                  have n0n : (nI n0).toInt.toNat = n0 := by omega
                  refine g_iconst (v := 0) hC dX7_copy_114 rfl ?_
                  refine g_istore hC [(6, .int 0), (0, .ref (b + 58)), (1, .int (nI q)), (2, .int (nI i0)), (3, .int (nI u)), (4, .int (nI j0)), (5, .int (nI n0))] dX7_copy_115 (by decide) rfl ?_
                  have lp_117_13 : ∀ (n_13 : Nat) (L1 : Nat → Nat → Int64) (i1 : Nat), n0 - i1 < n_13 → (i1 ≤ n0 ∧ (∀ k, k ≠ 77 → L1 k = L k) ∧ (∀ k, k < i1 → L1 77 k = g.2.2.2.2.2.2 q (i0 + k))) → fm_G pq l eq (fm_rm 1 25 0 0) sq mq aq bq tq cq D cA b 7 (MQ bq (fm_Q D cA b LAY (fm_pm (fun r M' L' => r = (op_copy g (nI q) (nI i0) (nI u) (nI j0) (nI n0)).1 ∧ RS M' L' (op_copy g (nI q) (nI i0) (nI u) (nI j0) (nI n0)).2 ∧ fR M M' L L'))) aq sq 0 0 (fun q => b ≤ q)) LAY M L1 0 0 117 [(6, .int (nI i1)), (0, .ref (b + 58)), (1, .int (nI q)), (2, .int (nI i0)), (3, .int (nI u)), (4, .int (nI j0)), (5, .int (nI n0))] [] := by
                    intro n_13
                    induction n_13 with
                    | zero => intro L1 i1 hm_13; exact absurd hm_13 (Nat.not_lt_zero _)
                    | succ n_13 ih_13 =>
                      intro L1 i1 hm_13 hinv_13
                      obtain ⟨x1, x2, x3⟩ := hinv_13
                      refine g_iload hC dX7_copy_117 0 rfl ?_
                      refine g_iload hC dX7_copy_119 6 rfl ?_
                      refine g_icmp_ge_T (X := ((i1 : Nat) : Int)) (Y := ((n0 : Nat) : Int)) hC (nI_toInt (by omega)) (nI_toInt (by omega)) 151 dX7_copy_121 rfl (fun c_14 => ?_) (fun c_14 => ?_)
                      · skip
                        refine g_iconst (v := 0) hC dX7_copy_151 rfl ?_
                        refine g_istore hC [(6, .int 0), (0, .ref (b + 58)), (1, .int (nI q)), (2, .int (nI i0)), (3, .int (nI u)), (4, .int (nI j0)), (5, .int (nI n0))] dX7_copy_152 (by decide) rfl ?_
                        have lp_154_15 : ∀ (n_15 : Nat) (L2 : Nat → Nat → Int64) (i2 : Nat), n0 - i2 < n_15 → (i2 ≤ n0 ∧ (∀ k, k ≠ 75 → k ≠ 77 → L2 k = L k) ∧ (∀ k, k < 96 → L2 75 k = if 24 * u + j0 ≤ k ∧ k < 24 * u + j0 + i2 then g.2.2.2.2.2.2 q (i0 + (k - (24 * u + j0))) else L 75 k) ∧ (∀ k, k < n0 → L2 77 k = g.2.2.2.2.2.2 q (i0 + k))) → fm_G pq l eq (fm_rm 1 25 0 0) sq mq aq bq tq cq D cA b 7 (MQ bq (fm_Q D cA b LAY (fm_pm (fun r M' L' => r = (op_copy g (nI q) (nI i0) (nI u) (nI j0) (nI n0)).1 ∧ RS M' L' (op_copy g (nI q) (nI i0) (nI u) (nI j0) (nI n0)).2 ∧ fR M M' L L'))) aq sq 0 0 (fun q => b ≤ q)) LAY M L2 0 0 154 [(6, .int (nI i2)), (0, .ref (b + 58)), (1, .int (nI q)), (2, .int (nI i0)), (3, .int (nI u)), (4, .int (nI j0)), (5, .int (nI n0))] [] := by
                          intro n_15
                          induction n_15 with
                          | zero => intro L2 i2 hm_15; exact absurd hm_15 (Nat.not_lt_zero _)
                          | succ n_15 ih_15 =>
                            intro L2 i2 hm_15 hinv_15
                            obtain ⟨y1, y2, y3, y4⟩ := hinv_15
                            refine g_iload hC dX7_copy_154 0 rfl ?_
                            refine g_iload hC dX7_copy_156 6 rfl ?_
                            refine g_icmp_ge_T (X := ((i2 : Nat) : Int)) (Y := ((n0 : Nat) : Int)) hC (nI_toInt (by omega)) (nI_toInt (by omega)) 189 dX7_copy_158 rfl (fun c_16 => ?_) (fun c_16 => ?_)
                            · skip
                              refine g_iload hC dX7_copy_189 6 rfl ?_
                              refine g_zret (ty := .int) hC rfl rfl dX7_copy_191 ?_
                              have ei : i2 = n0 := by omega
                              subst ei
                              have e0 : op_copy g (nI q) (nI i0) (nI u) (nI j0) (nI i2) = (nI i2, shS g (shU g.2.2.2.2 u (g.2.2.2.2.1 u) (g.2.2.2.2.2.1 u) (fun k => if j0 ≤ k ∧ k < j0 + i2 then g.2.2.2.2.2.2 q (i0 + (k - j0)) else g.2.2.2.2.2.2 u k))) := by unfold op_copy; rw [if_neg (by omega), qn, un, if_neg (by omega), if_neg (by omega), if_neg (by omega), i0n, j0n, n0n]
                              exact ⟨_, rfl, by rw [e0], by rw [e0]; exact RS_sh hS (fun k _ _ => rfl) (sR_set hS.2.2.2.2 (fun k hk hkq => ⟨rfl, rfl, fun i hi => (by rw [y3 _ (by omega), if_neg (by omega)])⟩) us.1 (fun z => ⟨(us.2 z).1, fun k hk => (by rw [y3 _ (by omega)]; by_cases e2 : j0 ≤ k ∧ k < j0 + i2; rw [if_pos (by omega), if_pos e2]; exact congrArg (g.2.2.2.2.2.2 q) (by omega); rw [if_neg (by omega), if_neg e2]; exact (us.2 z).2 k hk)⟩)), fun k hk => ⟨rfl, (by rw [y2 k (by omega) (by omega)])⟩⟩
                            · skip
                              refine g_aload_n hC dX7_copy_161 rfl 1 rfl ?_
                              refine g_getR (ci := 7) (i := 30) (k := 58) (t := 75) hC fm_in7 rfl ly_58 rfl (by decide) fw_650 dX7_copy_162 ?_
                              refine g_bipush (v := 24) hC dX7_copy_165 rfl ?_
                              refine g_iload_n hC dX7_copy_167 rfl 4 rfl ?_
                              refine g_imul hC dX7_copy_168 ?_
                              refine g_top (y := nI (24 * u)) (pk_mul _ _) ?_
                              refine g_iload hC dX7_copy_169 5 rfl ?_
                              refine g_iadd hC dX7_copy_171 ?_
                              refine g_top (y := nI ((24 * u) + j0)) (nI_add _ _) ?_
                              refine g_iload hC dX7_copy_172 0 rfl ?_
                              refine g_iadd hC dX7_copy_174 ?_
                              refine g_top (y := nI (((24 * u) + j0) + i2)) (nI_add _ _) ?_
                              refine g_aload_n hC dX7_copy_175 rfl 1 rfl ?_
                              refine g_getR (ci := 7) (i := 32) (k := 58) (t := 77) hC fm_in7 rfl ly_58 rfl (by decide) fw_652 dX7_copy_176 ?_
                              refine g_iload hC dX7_copy_179 0 rfl ?_
                              refine g_laldN (j := i2) (k := 77) hC ly_77 rfl (by omega) (by decide) dX7_copy_181 ?_
                              refine g_topL (y := g.2.2.2.2.2.2 q (i0 + i2)) (y4 i2 (by omega)) ?_
                              refine g_lastN (j := ((24 * u) + j0) + i2) (k := 75) hC ly_75 rfl (by omega) (by decide) dX7_copy_182 ?_
                              refine g_iinc hC [(6, .int (nI (i2 + 1))), (0, .ref (b + 58)), (1, .int (nI q)), (2, .int (nI i0)), (3, .int (nI u)), (4, .int (nI j0)), (5, .int (nI n0))] dX7_copy_183 0 rfl (by rw [show Int32.ofInt 1 = nI 1 from rfl, nI_add]) (by decide) rfl ?_
                              refine g_goto hC 154 dX7_copy_186 rfl ?_
                              exact g_sub [0, 1, 2, 3, 4, 5, 6] rfl (ih_15 (fm_upL L2 75 (((24 * u) + j0) + i2) (g.2.2.2.2.2.2 q (i0 + i2))) (i2 + 1) (by omega) (⟨by omega, fun k hk hk2 => (by rw [fm_upLn hk]; exact y2 k hk hk2), fun k hk => (by rw [fm_upLv]; by_cases ek : k = 24 * u + j0 + i2; rw [if_pos ek, if_pos (by omega)]; exact congrArg (g.2.2.2.2.2.2 q) (by omega); rw [if_neg ek, y3 k hk]; by_cases e3 : 24 * u + j0 ≤ k ∧ k < 24 * u + j0 + i2; rw [if_pos e3, if_pos (by omega)]; rw [if_neg e3, if_neg (by omega)]), fun k hk => (by rw [fm_upLn (by decide)]; exact y4 k hk)⟩))
                        exact g_sub [0, 1, 2, 3, 4, 5, 6] rfl (lp_154_15 (n0 - 0 + 1) L1 0 (Nat.lt_succ_self _) (⟨Nat.zero_le _, fun k _ hk => x2 k hk, fun k hk => (by rw [if_neg (by omega), x2 75 (by decide)]), fun k hk => x3 k (by omega)⟩))
                      · skip
                        refine g_aload_n hC dX7_copy_124 rfl 1 rfl ?_
                        refine g_getR (ci := 7) (i := 32) (k := 58) (t := 77) hC fm_in7 rfl ly_58 rfl (by decide) fw_652 dX7_copy_125 ?_
                        refine g_iload hC dX7_copy_128 0 rfl ?_
                        refine g_aload_n hC dX7_copy_130 rfl 1 rfl ?_
                        refine g_getR (ci := 7) (i := 30) (k := 58) (t := 75) hC fm_in7 rfl ly_58 rfl (by decide) fw_650 dX7_copy_131 ?_
                        refine g_bipush (v := 24) hC dX7_copy_134 rfl ?_
                        refine g_iload_n hC dX7_copy_136 rfl 2 rfl ?_
                        refine g_imul hC dX7_copy_137 ?_
                        refine g_top (y := nI (24 * q)) (pk_mul _ _) ?_
                        refine g_iload_n hC dX7_copy_138 rfl 3 rfl ?_
                        refine g_iadd hC dX7_copy_139 ?_
                        refine g_top (y := nI ((24 * q) + i0)) (nI_add _ _) ?_
                        refine g_iload hC dX7_copy_140 0 rfl ?_
                        refine g_iadd hC dX7_copy_142 ?_
                        refine g_top (y := nI (((24 * q) + i0) + i1)) (nI_add _ _) ?_
                        refine g_laldN (j := ((24 * q) + i0) + i1) (k := 75) hC ly_75 rfl (by omega) (by decide) dX7_copy_143 ?_
                        refine g_topL (y := g.2.2.2.2.2.2 q (i0 + i1)) (by rw [show 24 * q + i0 + i1 = 24 * q + (i0 + i1) by omega, x2 75 (by decide)]; exact (qs.2 (by omega)).2 (i0 + i1) (by omega)) ?_
                        refine g_lastN (j := i1) (k := 77) hC ly_77 rfl (by omega) (by decide) dX7_copy_144 ?_
                        refine g_iinc hC [(6, .int (nI (i1 + 1))), (0, .ref (b + 58)), (1, .int (nI q)), (2, .int (nI i0)), (3, .int (nI u)), (4, .int (nI j0)), (5, .int (nI n0))] dX7_copy_145 0 rfl (by rw [show Int32.ofInt 1 = nI 1 from rfl, nI_add]) (by decide) rfl ?_
                        refine g_goto hC 117 dX7_copy_148 rfl ?_
                        exact g_sub [0, 1, 2, 3, 4, 5, 6] rfl (ih_13 (fm_upL L1 77 i1 (g.2.2.2.2.2.2 q (i0 + i1))) (i1 + 1) (by omega) (⟨by omega, fun k hk => (by rw [fm_upLn hk]; exact x2 k hk), fun k hk => (by rw [fm_upLv]; by_cases ek : k = i1; rw [if_pos ek, ek]; rw [if_neg ek]; exact x3 k (by omega))⟩))
                  exact g_sub [0, 1, 2, 3, 4, 5, 6] rfl (lp_117_13 (n0 - 0 + 1) L 0 (Nat.lt_succ_self _) (⟨Nat.zero_le _, fun _ _ => rfl, fun h hh => absurd hh (Nat.not_lt_zero _)⟩))
                · skip
                  refine g_bipush (v := (-13)) hC dX7_copy_111 rfl ?_
                  refine g_zret (ty := .int) hC rfl rfl dX7_copy_113 ?_
                  have e0 : op_copy g (nI q) i (nI u) j n = (-13, g) := by unfold op_copy; rw [if_neg (by omega), qn, un, if_neg (by omega), if_neg (by omega), if_pos (by omega)]
                  exact ⟨_, rfl, by rw [e0], by rw [e0]; exact hS, fR_rf⟩
          · skip
            refine g_bipush (v := (-12)) hC dX7_copy_62 rfl ?_
            refine g_zret (ty := .int) hC rfl rfl dX7_copy_64 ?_
            have e0 : op_copy g (nI q) i (nI u) j n = (-12, g) := by unfold op_copy; rw [if_neg (by omega), qn, un, if_neg (by omega), if_pos (by omega)]
            exact ⟨_, rfl, by rw [e0], by rw [e0]; exact hS, fR_rf⟩
        · skip
          refine g_bipush (v := (-11)) hC dX7_copy_44 rfl ?_
          refine g_zret (ty := .int) hC rfl rfl dX7_copy_46 ?_
          have e0 : op_copy g (nI q) i (nI u) j n = (-11, g) := by unfold op_copy; rw [if_neg (by omega), qn, un, if_pos (by omega)]
          exact ⟨_, rfl, by rw [e0], by rw [e0]; exact hS, fR_rf⟩
    · skip
      refine g_iconst (v := (-1)) hC dX7_copy_24 rfl ?_
      refine g_zret (ty := .int) hC rfl rfl dX7_copy_25 ?_
      have e0 : op_copy g x i y j n = (-1, g) := by unfold op_copy; rw [if_pos (by omega)]
      exact ⟨_, rfl, by rw [e0], by rw [e0]; exact hS, fR_rf⟩
