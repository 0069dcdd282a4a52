/-! ===== the check's tape: a number ===== -/

theorem c_X7_readNumber (l : Launch) (D : va_G) (cA : Nat → ClassId) (b : Nat) (M : Nat → Nat → Int32) (L : Nat → Nat → Int64) (T : Nat × (Nat → Nat)) (p : Nat) (mo : Nat) (hT : pR M T) (hk : pOK T) (hp : M 58 19 = nI p) (hle : p ≤ T.1) (hm : mo < 1000) : fm_Met l D cA b yX7_readNumber cX7_readNumber 4 (some .int) 1 25 0 0 [.ref (b + 58), .int (nI mo)] LAY M L LAY (fm_pm (fun r M' L' => (rnOk T p mo → r = nI (rnV T p) ∧ M' 58 19 = nI (rnE T p)) ∧ (¬ rnOk T p mo → r = -1 ∧ M' 58 19 = nI (nx T p)) ∧ (∀ i, i ≠ 19 → M' 58 i = M 58 i) ∧ (∀ q, q ≠ 58 → M' q = M q) ∧ L' = L)) := by
  refine fm_start RX7 rfl (by decide) (Nat.le_of_ble_eq_true rfl) ?_
  intro pq eq sq mq aq bq tq cq hC hin
  have nl := nx_le hle
  obtain ⟨t1, t2⟩ := id hk
  have tn := t2 (nx T p)
  refine g_aload_n hC dX7_readNumber_0 rfl 0 rfl ?_
  refine g_callV hC (k := 58) (ci := 7) (as := []) (rest := []) (c_X7_nextByte l D cA b M L T p hT hk hp hle) ⟨fw_804, fw_806, fs_20, fw_9, fw_807⟩ ⟨rfl, hd_X7_nextByte⟩ rfl ly_58 ⟨Nat.le_of_ble_eq_true rfl, Nat.le_of_ble_eq_true rfl⟩ ⟨Nat.le_of_ble_eq_true rfl, Nat.le_of_ble_eq_true rfl⟩ rfl rfl (Nat.le_of_ble_eq_true rfl) dX7_readNumber_1 (g_rix ?_)
  refine g_pop hC dX7_readNumber_4 rfl ?_
  refine g_aload_n hC dX7_readNumber_5 rfl 0 rfl ?_
  refine g_getI (ci := 7) (i := 19) (k := 58) hC fm_in7 rfl ly_58 rfl (by decide) fw_639 dX7_readNumber_6 ?_
  refine g_top (y := nI (nx T p)) (by simp [fm_up, fm_row, upd]) ?_
  refine g_istore_n hC [(2, .int (nI (nx T p))), (0, .ref (b + 58)), (1, .int (nI mo))] dX7_readNumber_9 rfl (by decide) rfl ?_
  refine g_iconst (v := 0) hC dX7_readNumber_10 rfl ?_
  refine g_istore_n hC [(3, .int 0), (2, .int (nI (nx T p))), (0, .ref (b + 58)), (1, .int (nI mo))] dX7_readNumber_11 rfl (by decide) rfl ?_
  have lp_12_2 : ∀ (n_2 : Nat) (M1 : Nat → Nat → Int32) (q : Nat) (E : Nat) (cv : Nat), T.1 - q < n_2 → (q ≤ T.1 ∧ M1 58 19 = nI q ∧ (∀ i, i ≠ 19 → M1 58 i = M 58 i) ∧ (∀ q, q ≠ 58 → M1 q = M q) ∧ rv T q E = rnV T p ∧ re T q = rnE T p ∧ (q = nx T p ∨ nx T p < q ∧ fig T (nx T p)) ∧ ((cv = E ∧ cv ≤ 999999) ∨ (99999 < cv ∧ 99999 < E ∧ cv ≤ 999999))) → fm_G pq l eq (fm_rm 1 25 0 0) sq mq aq bq tq cq D cA b 4 (MQ bq (fm_Q D cA b LAY (fm_pm (fun r M' L' => (rnOk T p mo → r = nI (rnV T p) ∧ M' 58 19 = nI (rnE T p)) ∧ (¬ rnOk T p mo → r = -1 ∧ M' 58 19 = nI (nx T p)) ∧ (∀ i, i ≠ 19 → M' 58 i = M 58 i) ∧ (∀ q, q ≠ 58 → M' q = M q) ∧ L' = L))) aq sq 0 0 (fun q => b ≤ q)) LAY M1 L 0 0 12 [(0, .ref (b + 58)), (1, .int (nI mo)), (2, .int (nI (nx T p))), (3, .int (nI cv))] [] := by
    intro n_2
    induction n_2 with
    | zero => intro M1 q E cv hm_2; exact absurd hm_2 (Nat.not_lt_zero _)
    | succ n_2 ih_2 =>
      intro M1 q E cv hm_2 hinv_2
      obtain ⟨i0, m2, i1, i2, i6, i7, i8, i9⟩ := hinv_2
      have m1 : M1 58 18 = nI T.1 := by rw [i1 18 (by decide)]; exact hT.1
      have m3 : ∀ i, i < T.1 → M1 67 i = nI (T.2 i) := fun i hi => by rw [i2 67 (by decide)]; exact hT.2 i hi
      have m4 := t2 q
      refine g_aload_n hC dX7_readNumber_12 rfl 0 rfl ?_
      refine g_getI (ci := 7) (i := 19) (k := 58) hC fm_in7 rfl ly_58 rfl (by decide) fw_639 dX7_readNumber_13 ?_
      refine g_top (y := nI q) m2 ?_
      refine g_aload_n hC dX7_readNumber_16 rfl 0 rfl ?_
      refine g_getI (ci := 7) (i := 18) (k := 58) hC fm_in7 rfl ly_58 rfl (by decide) fw_638 dX7_readNumber_17 ?_
      refine g_top (y := nI T.1) m1 ?_
      refine g_icmp_ge_T (X := ((q : Nat) : Int)) (Y := ((T.1 : Nat) : Int)) hC (nI_toInt (by omega)) (nI_toInt (by omega)) 86 dX7_readNumber_20 rfl (fun c_3 => ?_) (fun c_3 => ?_)
      · skip
        have nq : ¬ fig T q := fun z => by have := z.1; omega
        refine g_aload_n hC dX7_readNumber_86 rfl 0 rfl ?_
        refine g_getI (ci := 7) (i := 19) (k := 58) hC fm_in7 rfl ly_58 rfl (by decide) fw_639 dX7_readNumber_87 ?_
        refine g_top (y := nI q) m2 ?_
        refine g_iload_n hC dX7_readNumber_90 rfl 2 rfl ?_
        refine g_icmp_ne_T (X := ((q : Nat) : Int)) (Y := ((nx T p : Nat) : Int)) hC (nI_toInt (by omega)) (nI_toInt (by omega)) 96 dX7_readNumber_91 rfl (fun c_4 => ?_) (fun c_4 => ?_)
        · skip
          refine g_iload_n hC dX7_readNumber_96 rfl 3 rfl ?_
          refine g_iload_n hC dX7_readNumber_97 rfl 1 rfl ?_
          refine g_icmp_le_T (X := ((cv : Nat) : Int)) (Y := ((mo : Nat) : Int)) hC (nI_toInt (by omega)) (nI_toInt (by omega)) 108 dX7_readNumber_98 rfl (fun c_5 => ?_) (fun c_5 => ?_)
          · skip
            refine g_iload_n hC dX7_readNumber_108 rfl 3 rfl ?_
            refine g_zret (ty := .int) hC rfl rfl dX7_readNumber_109 ?_
            have ev : rnV T p = E := i6.symm.trans (rv_e nq)
            have ee : rnE T p = q := i7.symm.trans (re_e nq)
            have ff : fig T (nx T p) := by rcases i8 with z | z; exact absurd z (by omega); exact z.2
            exact ⟨_, rfl, fun _ => ⟨by rw [ev]; congr 1; omega, by rw [ee]; exact m2⟩, fun q => absurd ⟨ff, by omega⟩ q, i1, i2, rfl⟩
          · skip
            refine g_aload_n hC dX7_readNumber_101 rfl 0 rfl ?_
            refine g_iload_n hC dX7_readNumber_102 rfl 2 rfl ?_
            refine g_putI (ci := 7) (i := 19) (k := 58) hC fm_in7 tyX7 tyX7_ok nmX7 rfl ly_58 rfl (by decide) fw_639 rfl rfl rfl dX7_readNumber_103 ?_
            refine g_iconst (v := (-1)) hC dX7_readNumber_106 rfl ?_
            refine g_zret (ty := .int) hC rfl rfl dX7_readNumber_107 ?_
            have ev : rnV T p = E := i6.symm.trans (rv_e nq)
            have ee : rnE T p = q := i7.symm.trans (re_e nq)
            exact ⟨_, rfl, fun q => absurd q.2 (by omega), fun _ => ⟨rfl, fm_ups⟩, fun i hi => by rw [fm_upx hi]; exact i1 i hi, fun q hq => by rw [fm_upn hq]; exact i2 q hq, rfl⟩
        · skip
          refine g_iconst (v := (-1)) hC dX7_readNumber_94 rfl ?_
          refine g_zret (ty := .int) hC rfl rfl dX7_readNumber_95 ?_
          have nf : ¬ fig T (nx T p) := by rcases i8 with z | z; rw [← z]; exact nq; exact absurd z.1 (by omega)
          exact ⟨_, rfl, fun q => absurd q.1 nf, fun _ => ⟨rfl, by rw [m2]; congr 1; omega⟩, i1, i2, rfl⟩
      · skip
        refine g_aload_n hC dX7_readNumber_23 rfl 0 rfl ?_
        refine g_getR (ci := 7) (i := 17) (k := 58) (t := 67) hC fm_in7 rfl ly_58 rfl (by decide) fw_637 dX7_readNumber_24 ?_
        refine g_aload_n hC dX7_readNumber_27 rfl 0 rfl ?_
        refine g_getI (ci := 7) (i := 19) (k := 58) hC fm_in7 rfl ly_58 rfl (by decide) fw_639 dX7_readNumber_28 ?_
        refine g_top (y := nI q) m2 ?_
        refine g_ialdN (j := q) (k := 67) hC ly_67 rfl (by omega) (by decide) dX7_readNumber_31 ?_
        refine g_top (y := nI (T.2 q)) (m3 q (by omega)) ?_
        refine g_i2l (v := (nI (T.2 q)).toInt64) hC dX7_readNumber_32 rfl ?_
        refine g_ldc2 (v := 48) hC fw_812 dX7_readNumber_33 ?_
        refine g_ldc2 (v := 57) hC fw_813 dX7_readNumber_36 ?_
        refine g_callS hC (as := [.long ((nI (T.2 q)).toInt64), .long 48, .long 57]) (rest := []) (c_X7_in l D cA b LAY M1 L ((nI (T.2 q)).toInt64) 48 57 ((T.2 q : Nat) : Int) 48 57 ((ic_w _).trans (nI_toInt (by omega))) rfl rfl) ⟨fw_725, fw_726, fw_9, fw_727⟩ hd_X7_in ⟨Nat.le_of_ble_eq_true rfl, Nat.le_of_ble_eq_true rfl⟩ ⟨Nat.le_of_ble_eq_true rfl, Nat.le_of_ble_eq_true rfl⟩ rfl rfl (Nat.le_of_ble_eq_true rfl) dX7_readNumber_39 (g_rix ?_)
        refine g_ifb_eq hC 86 dX7_readNumber_42 rfl (fun c_7 => ?_) (fun c_7 => ?_)
        · skip
          have nq : ¬ fig T q := fun z => by have z1 := z.2.1; have z2 := z.2.2; omega
          refine g_aload_n hC dX7_readNumber_86 rfl 0 rfl ?_
          refine g_getI (ci := 7) (i := 19) (k := 58) hC fm_in7 rfl ly_58 rfl (by decide) fw_639 dX7_readNumber_87 ?_
          refine g_top (y := nI q) m2 ?_
          refine g_iload_n hC dX7_readNumber_90 rfl 2 rfl ?_
          refine g_icmp_ne_T (X := ((q : Nat) : Int)) (Y := ((nx T p : Nat) : Int)) hC (nI_toInt (by omega)) (nI_toInt (by omega)) 96 dX7_readNumber_91 rfl (fun c_8 => ?_) (fun c_8 => ?_)
          · skip
            refine g_iload_n hC dX7_readNumber_96 rfl 3 rfl ?_
            refine g_iload_n hC dX7_readNumber_97 rfl 1 rfl ?_
            refine g_icmp_le_T (X := ((cv : Nat) : Int)) (Y := ((mo : Nat) : Int)) hC (nI_toInt (by omega)) (nI_toInt (by omega)) 108 dX7_readNumber_98 rfl (fun c_9 => ?_) (fun c_9 => ?_)
            · skip
              refine g_iload_n hC dX7_readNumber_108 rfl 3 rfl ?_
              refine g_zret (ty := .int) hC rfl rfl dX7_readNumber_109 ?_
              have ev : rnV T p = E := i6.symm.trans (rv_e nq)
              have ee : rnE T p = q := i7.symm.trans (re_e nq)
              have ff : fig T (nx T p) := by rcases i8 with z | z; exact absurd z (by omega); exact z.2
              exact ⟨_, rfl, fun _ => ⟨by rw [ev]; congr 1; omega, by rw [ee]; exact m2⟩, fun q => absurd ⟨ff, by omega⟩ q, i1, i2, rfl⟩
            · skip
              refine g_aload_n hC dX7_readNumber_101 rfl 0 rfl ?_
              refine g_iload_n hC dX7_readNumber_102 rfl 2 rfl ?_
              refine g_putI (ci := 7) (i := 19) (k := 58) hC fm_in7 tyX7 tyX7_ok nmX7 rfl ly_58 rfl (by decide) fw_639 rfl rfl rfl dX7_readNumber_103 ?_
              refine g_iconst (v := (-1)) hC dX7_readNumber_106 rfl ?_
              refine g_zret (ty := .int) hC rfl rfl dX7_readNumber_107 ?_
              have ev : rnV T p = E := i6.symm.trans (rv_e nq)
              have ee : rnE T p = q := i7.symm.trans (re_e nq)
              exact ⟨_, rfl, fun q => absurd q.2 (by omega), fun _ => ⟨rfl, fm_ups⟩, fun i hi => by rw [fm_upx hi]; exact i1 i hi, fun q hq => by rw [fm_upn hq]; exact i2 q hq, rfl⟩
          · skip
            refine g_iconst (v := (-1)) hC dX7_readNumber_94 rfl ?_
            refine g_zret (ty := .int) hC rfl rfl dX7_readNumber_95 ?_
            have nf : ¬ fig T (nx T p) := by rcases i8 with z | z; rw [← z]; exact nq; exact absurd z.1 (by omega)
            exact ⟨_, rfl, fun q => absurd q.1 nf, fun _ => ⟨rfl, by rw [m2]; congr 1; omega⟩, i1, i2, rfl⟩
        · skip
          have fq : fig T q := ⟨by omega, by omega, by omega⟩
          refine g_iload_n hC dX7_readNumber_45 rfl 3 rfl ?_
          refine g_ldc (v := 99999) hC fw_814 dX7_readNumber_46 ?_
          refine g_icmp_le_T (X := ((cv : Nat) : Int)) (Y := 99999) hC (nI_toInt (by omega)) rfl 55 dX7_readNumber_48 rfl (fun c_10 => ?_) (fun c_10 => ?_)
          · skip
            refine g_bipush (v := 10) hC dX7_readNumber_55 rfl ?_
            refine g_iload_n hC dX7_readNumber_57 rfl 3 rfl ?_
            refine g_imul hC dX7_readNumber_58 ?_
            refine g_top (y := nI (10 * cv)) (pk_mul _ _) ?_
            refine g_aload_n hC dX7_readNumber_59 rfl 0 rfl ?_
            refine g_getR (ci := 7) (i := 17) (k := 58) (t := 67) hC fm_in7 rfl ly_58 rfl (by decide) fw_637 dX7_readNumber_60 ?_
            refine g_aload_n hC dX7_readNumber_63 rfl 0 rfl ?_
            refine g_getI (ci := 7) (i := 19) (k := 58) hC fm_in7 rfl ly_58 rfl (by decide) fw_639 dX7_readNumber_64 ?_
            refine g_top (y := nI q) m2 ?_
            refine g_ialdN (j := q) (k := 67) hC ly_67 rfl (by omega) (by decide) dX7_readNumber_67 ?_
            refine g_top (y := nI (T.2 q)) (m3 q (by omega)) ?_
            refine g_iadd hC dX7_readNumber_68 ?_
            refine g_top (y := nI ((10 * cv) + (T.2 q))) (nI_add _ _) ?_
            refine g_bipush (v := 48) hC dX7_readNumber_69 rfl ?_
            refine g_isub hC dX7_readNumber_71 ?_
            refine g_top (y := nI (((10 * cv) + (T.2 q)) - 48)) (sb48 (by omega)) ?_
            refine g_istore_n hC [(3, .int (nI (((10 * cv) + (T.2 q)) - 48))), (0, .ref (b + 58)), (1, .int (nI mo)), (2, .int (nI (nx T p)))] dX7_readNumber_72 rfl (by decide) rfl ?_
            refine g_aload_n hC dX7_readNumber_73 rfl 1 rfl ?_
            refine g_dup hC dX7_readNumber_74 rfl ?_
            refine g_getI (ci := 7) (i := 19) (k := 58) hC fm_in7 rfl ly_58 rfl (by decide) fw_639 dX7_readNumber_75 ?_
            refine g_top (y := nI q) m2 ?_
            refine g_iconst (v := 1) hC dX7_readNumber_78 rfl ?_
            refine g_iadd hC dX7_readNumber_79 ?_
            refine g_top (y := nI (q + 1)) (nI_add _ _) ?_
            refine g_putI (ci := 7) (i := 19) (k := 58) hC fm_in7 tyX7 tyX7_ok nmX7 rfl ly_58 rfl (by decide) fw_639 rfl rfl rfl dX7_readNumber_80 ?_
            refine g_goto hC 12 dX7_readNumber_83 rfl ?_
            exact g_sub [1, 2, 3, 0] rfl (ih_2 (fm_up M1 58 19 (nI (q + 1))) (q + 1) (10 * E + (T.2 q - 48)) (((10 * cv) + (T.2 q)) - 48) (by omega) (⟨by omega, fm_ups, fun i a => by rw [fm_upx a]; exact i1 i a, fun q a => by rw [fm_upn a]; exact i2 q a, (rv_s fq).symm.trans i6, (re_s fq).symm.trans i7, Or.inr ⟨by rcases i8 with z | z; omega; omega, by rcases i8 with z | z; rw [← z]; exact fq; exact z.2⟩, by have fq1 := fq.2.1; have fq2 := fq.2.2; omega⟩))
          · skip
            refine g_iload_n hC dX7_readNumber_51 rfl 3 rfl ?_
            refine g_goto hC 72 dX7_readNumber_52 rfl ?_
            refine g_istore_n hC [(3, .int (nI cv)), (0, .ref (b + 58)), (1, .int (nI mo)), (2, .int (nI (nx T p)))] dX7_readNumber_72 rfl (by decide) rfl ?_
            refine g_aload_n hC dX7_readNumber_73 rfl 1 rfl ?_
            refine g_dup hC dX7_readNumber_74 rfl ?_
            refine g_getI (ci := 7) (i := 19) (k := 58) hC fm_in7 rfl ly_58 rfl (by decide) fw_639 dX7_readNumber_75 ?_
            refine g_top (y := nI q) m2 ?_
            refine g_iconst (v := 1) hC dX7_readNumber_78 rfl ?_
            refine g_iadd hC dX7_readNumber_79 ?_
            refine g_top (y := nI (q + 1)) (nI_add _ _) ?_
            refine g_putI (ci := 7) (i := 19) (k := 58) hC fm_in7 tyX7 tyX7_ok nmX7 rfl ly_58 rfl (by decide) fw_639 rfl rfl rfl dX7_readNumber_80 ?_
            refine g_goto hC 12 dX7_readNumber_83 rfl ?_
            exact g_sub [1, 2, 3, 0] rfl (ih_2 (fm_up M1 58 19 (nI (q + 1))) (q + 1) (10 * E + (T.2 q - 48)) cv (by omega) (⟨by omega, fm_ups, fun i a => by rw [fm_upx a]; exact i1 i a, fun q a => by rw [fm_upn a]; exact i2 q a, (rv_s fq).symm.trans i6, (re_s fq).symm.trans i7, Or.inr ⟨by rcases i8 with z | z; omega; omega, by rcases i8 with z | z; rw [← z]; exact fq; exact z.2⟩, by have fq1 := fq.2.1; have fq2 := fq.2.2; omega⟩))
  exact g_sub [2, 3, 1, 0] rfl (lp_12_2 (T.1 - (nx T p) + 1) (fm_up M 58 19 (nI (nx T p))) (nx T p) 0 0 (Nat.lt_succ_self _) (⟨nl, fm_ups, fun i a => fm_upx a, fun q a => fm_upn a, rfl, rfl, Or.inl rfl, Or.inl ⟨rfl, by omega⟩⟩))
