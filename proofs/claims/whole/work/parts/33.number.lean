/-! ===== the tape: a number ===== -/
abbrev fig (T : Nat × (Nat → Nat)) (q : Nat) : Prop := q < T.1 ∧ 48 ≤ T.2 q ∧ T.2 q ≤ 57
def reF (T : Nat × (Nat → Nat)) : Nat → Nat → Nat
  | 0, q => q
  | f + 1, q => if fig T q then reF T f (q + 1) else q
def rvF (T : Nat × (Nat → Nat)) : Nat → Nat → Nat → Nat
  | 0, _, v => v
  | f + 1, q, v => if fig T q then rvF T f (q + 1) (10 * v + (T.2 q - 48)) else v
def re (T : Nat × (Nat → Nat)) (q : Nat) : Nat := reF T (T.1 - q) q
def rv (T : Nat × (Nat → Nat)) (q v : Nat) : Nat := rvF T (T.1 - q) q v
theorem re_s {T : Nat × (Nat → Nat)} {q : Nat} (h : fig T q) : re T q = re T (q + 1) := by
  have h1 : q < T.1 := h.1
  unfold re
  rw [show T.1 - q = (T.1 - (q + 1)) + 1 by omega]
  exact if_pos h
theorem re_e {T : Nat × (Nat → Nat)} {q : Nat} (h : ¬ fig T q) : re T q = q := by
  unfold re
  cases T.1 - q with
  | zero => rfl
  | succ f => exact if_neg h
theorem rv_s {T : Nat × (Nat → Nat)} {q v : Nat} (h : fig T q) : rv T q v = rv T (q + 1) (10 * v + (T.2 q - 48)) := by
  have h1 : q < T.1 := h.1
  unfold rv
  rw [show T.1 - q = (T.1 - (q + 1)) + 1 by omega]
  exact if_pos h
theorem rv_e {T : Nat × (Nat → Nat)} {q v : Nat} (h : ¬ fig T q) : rv T q v = v := by
  unfold rv
  cases T.1 - q with
  | zero => rfl
  | succ f => exact if_neg h
theorem ch_fig {T : Nat × (Nat → Nat)} (hk : pOK T) (q : Nat) : (48 ≤ (chI T q).toInt ∧ (chI T q).toInt ≤ 57) ↔ fig T q := by
  have h2 := hk.2 q
  unfold chI fig
  by_cases h : q < T.1
  · rw [if_pos h, nI_toInt (by have := h2 h; omega)]
    omega
  · rw [if_neg h, show (-1 : Int32).toInt = -1 from rfl]
    omega
def rnV (T : Nat × (Nat → Nat)) (p : Nat) : Nat := rv T (nx T p) 0
def rnE (T : Nat × (Nat → Nat)) (p : Nat) : Nat := re T (nx T p)
def rnOk (T : Nat × (Nat → Nat)) (p most : Nat) : Prop := fig T (nx T p) ∧ rnV T p ≤ most
theorem sb48 {a : Nat} (h : 48 ≤ a) : nI a - 48 = nI (a - 48) := by
  rw [nI_oI, show (48 : Int32) = Int32.ofInt 48 from rfl, oI_sub, nI_oI]
  congr 1
  omega
theorem reF_le (T : Nat × (Nat → Nat)) : ∀ f q, q ≤ T.1 → q ≤ reF T f q ∧ reF T f q ≤ T.1
  | 0, q, h => ⟨Nat.le_refl q, h⟩
  | f + 1, q, h => by
    by_cases g : fig T q
    · have h1 : q < T.1 := g.1
      have := reF_le T f (q + 1) (by omega)
      show q ≤ (if fig T q then reF T f (q + 1) else q) ∧ (if fig T q then reF T f (q + 1) else q) ≤ T.1
      rw [if_pos g]; omega
    · show q ≤ (if fig T q then reF T f (q + 1) else q) ∧ (if fig T q then reF T f (q + 1) else q) ≤ T.1
      rw [if_neg g]; omega
theorem rnE_le {T : Nat × (Nat → Nat)} {p : Nat} (h : p ≤ T.1) : nx T p ≤ rnE T p ∧ rnE T p ≤ T.1 := reF_le T _ _ (nx_le h)

theorem c_X4_faultHere (l : Launch) (D : va_G) (cA : Nat → ClassId) (b : Nat) (M : Nat → Nat → Int32) (L : Nat → Nat → Int64) (p : Nat) (hp : M 29 2 = nI p) : fm_Met l D cA b yX4_faultHere cX4_faultHere 1 (some .int) 0 0 0 0 [.ref (b + 29)] LAY M L LAY (fm_pi (-20 - nI p) M L) := by
  refine fm_start RX4 rfl (by decide) (Nat.le_of_ble_eq_true rfl) ?_
  intro pq eq sq mq aq bq tq cq hC hin
  refine g_bipush (v := (-20)) hC dX4_faultHere_0 rfl ?_
  refine g_aload_n hC dX4_faultHere_2 rfl 0 rfl ?_
  refine g_getI (ci := 4) (i := 2) (k := 29) hC fm_in4 rfl ly_29 rfl (by decide) fw_124 dX4_faultHere_3 ?_
  refine g_top (y := nI p) hp ?_
  refine g_isub hC dX4_faultHere_6 ?_
  refine g_zret (ty := .int) hC rfl rfl dX4_faultHere_7 ⟨congrArg (fun z => some (Value.int z)) ?_, rfl, rfl⟩
  rfl

theorem c_X4_readNumber (l : Launch) (D : va_G) (cA : Nat → ClassId) (b : Nat) (M : Nat → Nat → Int32) (L : Nat → Nat → Int64) (T : Nat × (Nat → Nat)) (p : Nat) (mo : Nat) (hT : pC M T) (hk : pOK T) (hp : M 29 2 = nI p) (hle : p ≤ T.1) (hm : mo < 1000) : fm_Met l D cA b yX4_readNumber cX4_readNumber 3 (some .int) 1 21 0 0 [.ref (b + 29), .int (nI mo)] LAY M L LAY (fm_pm (fun r M' L' => (rnOk T p mo → r = nI (rnV T p)) ∧ (¬ rnOk T p mo → r = -20 - nI (nx T p)) ∧ M' 29 2 = nI (rnE T p) ∧ (fig T (nx T p) → M' 29 3 = nI (nx T p)) ∧ (∀ i, i ≠ 2 → i ≠ 3 → M' 29 i = M 29 i) ∧ (∀ q, q ≠ 29 → M' q = M q) ∧ L' = L)) := by
  refine fm_start RX4 rfl (by decide) (Nat.le_of_ble_eq_true rfl) ?_
  intro pq eq sq mq aq bq tq cq hC hin
  have nl := nx_le hle
  obtain ⟨t1, t2⟩ := id hk
  have tn := t2 (nx T p)
  refine g_aload_n hC dX4_readNumber_0 rfl 0 rfl ?_
  refine g_callV hC (k := 29) (ci := 4) (as := []) (rest := []) (c_X4_next l D cA b M L T p hT hk hp hle) ⟨fw_321, fw_323, fs_2, fw_5, fw_324⟩ ⟨rfl, hd_X4_next⟩ rfl ly_29 ⟨Nat.le_of_ble_eq_true rfl, Nat.le_of_ble_eq_true rfl⟩ ⟨Nat.le_of_ble_eq_true rfl, Nat.le_of_ble_eq_true rfl⟩ rfl rfl (Nat.le_of_ble_eq_true rfl) dX4_readNumber_1 (g_rix ?_)
  refine g_callS hC (as := [.int (chI T (nx T p))]) (rest := []) (c_X4_isFigure l D cA b LAY (fm_up M 29 2 (nI (nx T p))) L (chI T (nx T p)) ((chI T (nx T p)).toInt) rfl) ⟨fw_336, fw_337, fw_5, fw_338⟩ hd_X4_isFigure ⟨Nat.le_of_ble_eq_true rfl, Nat.le_of_ble_eq_true rfl⟩ ⟨Nat.le_of_ble_eq_true rfl, Nat.le_of_ble_eq_true rfl⟩ rfl rfl (Nat.le_of_ble_eq_true rfl) dX4_readNumber_4 (g_rix ?_)
  refine g_ifb_ne hC 15 dX4_readNumber_7 rfl (fun c_3 => ?_) (fun c_3 => ?_)
  · skip
    have ff : fig T (nx T p) := (ch_fig hk _).mp c_3
    refine g_aload_n hC dX4_readNumber_15 rfl 0 rfl ?_
    refine g_aload_n hC dX4_readNumber_16 rfl 0 rfl ?_
    refine g_getI (ci := 4) (i := 2) (k := 29) hC fm_in4 rfl ly_29 rfl (by decide) fw_124 dX4_readNumber_17 ?_
    refine g_top (y := nI (nx T p)) (by simp [fm_up, fm_row, upd]) ?_
    refine g_putI (ci := 4) (i := 3) (k := 29) hC fm_in4 tyX4 tyX4_ok nmX4 rfl ly_29 rfl (by decide) fw_125 rfl rfl rfl dX4_readNumber_20 ?_
    refine g_iconst (v := 0) hC dX4_readNumber_23 rfl ?_
    refine g_istore_n hC [(2, .int 0), (0, .ref (b + 29)), (1, .int (nI mo))] dX4_readNumber_24 rfl (by decide) rfl ?_
    have lp_25_4 : ∀ (n_4 : Nat) (M1 : Nat → Nat → Int32) (q : Nat) (E : Nat), T.1 - q < n_4 → (q ≤ T.1 ∧ M1 29 2 = nI q ∧ (∀ i, i ≠ 2 → i ≠ 3 → M1 29 i = M 29 i) ∧ (∀ q, q ≠ 29 → M1 q = M q) ∧ M1 29 3 = nI (nx T p) ∧ rv T q E = rnV T p ∧ re T q = rnE T p) → fm_G pq l eq (fm_rm 1 21 0 0) sq mq aq bq tq cq D cA b 3 (MQ bq (fm_Q D cA b LAY (fm_pm (fun r M' L' => (rnOk T p mo → r = nI (rnV T p)) ∧ (¬ rnOk T p mo → r = -20 - nI (nx T p)) ∧ M' 29 2 = nI (rnE T p) ∧ (fig T (nx T p) → M' 29 3 = nI (nx T p)) ∧ (∀ i, i ≠ 2 → i ≠ 3 → M' 29 i = M 29 i) ∧ (∀ q, q ≠ 29 → M' q = M q) ∧ L' = L))) aq sq 0 0 (fun q => b ≤ q)) LAY M1 L 0 0 25 [(0, .ref (b + 29)), (1, .int (nI mo)), (2, .int (nI (min E 1000)))] [] := by
      intro n_4
      induction n_4 with
      | zero => intro M1 q E hm_4; exact absurd hm_4 (Nat.not_lt_zero _)
      | succ n_4 ih_4 =>
        intro M1 q E hm_4 hinv_4
        obtain ⟨i0, m2, i1, i2, i3, i6, i7⟩ := hinv_4
        have m1 : M1 29 1 = nI T.1 := by rw [i1 1 (by decide) (by decide)]; exact hT.1
        have m3 : ∀ i, i < T.1 → M1 30 i = nI (T.2 i) := fun i hi => by rw [i2 30 (by decide)]; exact hT.2 i hi
        have m4 := t2 q
        refine g_aload_n hC dX4_readNumber_25 rfl 0 rfl ?_
        refine g_getI (ci := 4) (i := 2) (k := 29) hC fm_in4 rfl ly_29 rfl (by decide) fw_124 dX4_readNumber_26 ?_
        refine g_top (y := nI q) m2 ?_
        refine g_aload_n hC dX4_readNumber_29 rfl 0 rfl ?_
        refine g_getI (ci := 4) (i := 1) (k := 29) hC fm_in4 rfl ly_29 rfl (by decide) fw_122 dX4_readNumber_30 ?_
        refine g_top (y := nI T.1) m1 ?_
        refine g_icmp_ge_T (X := ((q : Nat) : Int)) (Y := ((T.1 : Nat) : Int)) hC (nI_toInt (by omega)) (nI_toInt (by omega)) 88 dX4_readNumber_33 rfl (fun c_5 => ?_) (fun c_5 => ?_)
        · skip
          have nq : ¬ fig T q := fun z => by have := z.1; omega
          refine g_iload_n hC dX4_readNumber_88 rfl 2 rfl ?_
          refine g_iload_n hC dX4_readNumber_89 rfl 1 rfl ?_
          refine g_icmp_le_T (X := ((min E 1000 : Nat) : Int)) (Y := ((mo : Nat) : Int)) hC (nI_toInt (by omega)) (nI_toInt (by omega)) 103 dX4_readNumber_90 rfl (fun c_6 => ?_) (fun c_6 => ?_)
          · skip
            refine g_iload_n hC dX4_readNumber_103 rfl 2 rfl ?_
            refine g_zret (ty := .int) hC rfl rfl dX4_readNumber_104 ?_
            have ev : rnV T p = E := i6.symm.trans (rv_e nq)
            have ee : rnE T p = q := i7.symm.trans (re_e nq)
            exact ⟨_, rfl, fun _ => by rw [ev, show min E 1000 = E by omega], fun q => absurd ⟨ff, by omega⟩ q, by rw [ee]; exact m2, fun _ => i3, i1, i2, rfl⟩
          · skip
            refine g_bipush (v := (-20)) hC dX4_readNumber_93 rfl ?_
            refine g_aload_n hC dX4_readNumber_95 rfl 0 rfl ?_
            refine g_getI (ci := 4) (i := 3) (k := 29) hC fm_in4 rfl ly_29 rfl (by decide) fw_125 dX4_readNumber_96 ?_
            refine g_top (y := nI (nx T p)) i3 ?_
            refine g_isub hC dX4_readNumber_99 ?_
            refine g_goto hC 104 dX4_readNumber_100 rfl ?_
            refine g_zret (ty := .int) hC rfl rfl dX4_readNumber_104 ?_
            have ev : rnV T p = E := i6.symm.trans (rv_e nq)
            have ee : rnE T p = q := i7.symm.trans (re_e nq)
            exact ⟨_, rfl, fun q => absurd q.2 (by omega), fun _ => rfl, by rw [ee]; exact m2, fun _ => i3, i1, i2, rfl⟩
        · skip
          refine g_aload_n hC dX4_readNumber_36 rfl 0 rfl ?_
          refine g_getR (ci := 4) (i := 0) (k := 29) (t := 30) hC fm_in4 rfl ly_29 rfl (by decide) fw_121 dX4_readNumber_37 ?_
          refine g_aload_n hC dX4_readNumber_40 rfl 0 rfl ?_
          refine g_getI (ci := 4) (i := 2) (k := 29) hC fm_in4 rfl ly_29 rfl (by decide) fw_124 dX4_readNumber_41 ?_
          refine g_top (y := nI q) m2 ?_
          refine g_caldN (j := q) (k := 30) hC ly_30 rfl (by omega) (by decide) dX4_readNumber_44 ?_
          refine g_top (y := nI (T.2 q)) (m3 q (by omega)) ?_
          refine g_callS hC (as := [.int (nI (T.2 q))]) (rest := []) (c_X4_isFigure l D cA b LAY M1 L (nI (T.2 q)) ((T.2 q : Nat) : Int) (nI_toInt (by omega))) ⟨fw_336, fw_337, fw_5, fw_338⟩ hd_X4_isFigure ⟨Nat.le_of_ble_eq_true rfl, Nat.le_of_ble_eq_true rfl⟩ ⟨Nat.le_of_ble_eq_true rfl, Nat.le_of_ble_eq_true rfl⟩ rfl rfl (Nat.le_of_ble_eq_true rfl) dX4_readNumber_45 (g_rix ?_)
          refine g_ifb_eq hC 88 dX4_readNumber_48 rfl (fun c_8 => ?_) (fun c_8 => ?_)
          · skip
            have nq : ¬ fig T q := fun z => by have z1 := z.2.1; have z2 := z.2.2; omega
            refine g_iload_n hC dX4_readNumber_88 rfl 2 rfl ?_
            refine g_iload_n hC dX4_readNumber_89 rfl 1 rfl ?_
            refine g_icmp_le_T (X := ((min E 1000 : Nat) : Int)) (Y := ((mo : Nat) : Int)) hC (nI_toInt (by omega)) (nI_toInt (by omega)) 103 dX4_readNumber_90 rfl (fun c_9 => ?_) (fun c_9 => ?_)
            · skip
              refine g_iload_n hC dX4_readNumber_103 rfl 2 rfl ?_
              refine g_zret (ty := .int) hC rfl rfl dX4_readNumber_104 ?_
              have ev : rnV T p = E := i6.symm.trans (rv_e nq)
              have ee : rnE T p = q := i7.symm.trans (re_e nq)
              exact ⟨_, rfl, fun _ => by rw [ev, show min E 1000 = E by omega], fun q => absurd ⟨ff, by omega⟩ q, by rw [ee]; exact m2, fun _ => i3, i1, i2, rfl⟩
            · skip
              refine g_bipush (v := (-20)) hC dX4_readNumber_93 rfl ?_
              refine g_aload_n hC dX4_readNumber_95 rfl 0 rfl ?_
              refine g_getI (ci := 4) (i := 3) (k := 29) hC fm_in4 rfl ly_29 rfl (by decide) fw_125 dX4_readNumber_96 ?_
              refine g_top (y := nI (nx T p)) i3 ?_
              refine g_isub hC dX4_readNumber_99 ?_
              refine g_goto hC 104 dX4_readNumber_100 rfl ?_
              refine g_zret (ty := .int) hC rfl rfl dX4_readNumber_104 ?_
              have ev : rnV T p = E := i6.symm.trans (rv_e nq)
              have ee : rnE T p = q := i7.symm.trans (re_e nq)
              exact ⟨_, rfl, fun q => absurd q.2 (by omega), fun _ => rfl, by rw [ee]; exact m2, fun _ => i3, i1, i2, rfl⟩
          · skip
            have fq : fig T q := ⟨by omega, by omega, by omega⟩
            refine g_iload_n hC dX4_readNumber_51 rfl 2 rfl ?_
            refine g_bipush (v := 10) hC dX4_readNumber_52 rfl ?_
            refine g_imul hC dX4_readNumber_54 ?_
            refine g_top (y := nI ((min E 1000) * 10)) (pk_mul _ _) ?_
            refine g_aload_n hC dX4_readNumber_55 rfl 0 rfl ?_
            refine g_getR (ci := 4) (i := 0) (k := 29) (t := 30) hC fm_in4 rfl ly_29 rfl (by decide) fw_121 dX4_readNumber_56 ?_
            refine g_aload_n hC dX4_readNumber_59 rfl 0 rfl ?_
            refine g_getI (ci := 4) (i := 2) (k := 29) hC fm_in4 rfl ly_29 rfl (by decide) fw_124 dX4_readNumber_60 ?_
            refine g_top (y := nI q) m2 ?_
            refine g_caldN (j := q) (k := 30) hC ly_30 rfl (by omega) (by decide) dX4_readNumber_63 ?_
            refine g_top (y := nI (T.2 q)) (m3 q (by omega)) ?_
            refine g_iadd hC dX4_readNumber_64 ?_
            refine g_top (y := nI (((min E 1000) * 10) + (T.2 q))) (nI_add _ _) ?_
            refine g_bipush (v := 48) hC dX4_readNumber_65 rfl ?_
            refine g_isub hC dX4_readNumber_67 ?_
            refine g_top (y := nI ((((min E 1000) * 10) + (T.2 q)) - 48)) (sb48 (by omega)) ?_
            refine g_sipush (v := 1000) hC dX4_readNumber_68 rfl ?_
            refine g_min hC fw_339 fw_262 fw_10 fw_263 (Nat.le_of_ble_eq_true rfl) (Nat.le_of_ble_eq_true rfl) (Nat.zero_le _) (Nat.zero_le _) dX4_readNumber_71 ?_
            refine g_top (y := nI (min (10 * E + (T.2 q - 48)) 1000)) ((min_nI (c := 1000) (by omega) (by decide)).trans (congrArg nI (by omega))) ?_
            refine g_istore_n hC [(2, .int (nI (min (10 * E + (T.2 q - 48)) 1000))), (0, .ref (b + 29)), (1, .int (nI mo))] dX4_readNumber_74 rfl (by decide) rfl ?_
            refine g_aload_n hC dX4_readNumber_75 rfl 1 rfl ?_
            refine g_dup hC dX4_readNumber_76 rfl ?_
            refine g_getI (ci := 4) (i := 2) (k := 29) hC fm_in4 rfl ly_29 rfl (by decide) fw_124 dX4_readNumber_77 ?_
            refine g_top (y := nI q) m2 ?_
            refine g_iconst (v := 1) hC dX4_readNumber_80 rfl ?_
            refine g_iadd hC dX4_readNumber_81 ?_
            refine g_top (y := nI (q + 1)) (nI_add _ _) ?_
            refine g_putI (ci := 4) (i := 2) (k := 29) hC fm_in4 tyX4 tyX4_ok nmX4 rfl ly_29 rfl (by decide) fw_124 rfl rfl rfl dX4_readNumber_82 ?_
            refine g_goto hC 25 dX4_readNumber_85 rfl ?_
            exact g_sub [1, 2, 0] rfl (ih_4 (fm_up M1 29 2 (nI (q + 1))) (q + 1) (10 * E + (T.2 q - 48)) (by omega) (⟨by omega, fm_ups, fun i a c => by rw [fm_upx a]; exact i1 i a c, fun q a => by rw [fm_upn a]; exact i2 q a, by rw [fm_upx (by decide)]; exact i3, (rv_s fq).symm.trans i6, (re_s fq).symm.trans i7⟩))
    exact g_sub [1, 2, 0] rfl (lp_25_4 (T.1 - (nx T p) + 1) (fm_up (fm_up M 29 2 (nI (nx T p))) 29 3 (nI (nx T p))) (nx T p) 0 (Nat.lt_succ_self _) (⟨nl, by rw [fm_upx (by decide), fm_ups], fun i a c => by rw [fm_upx c, fm_upx a], fun q a => by rw [fm_upn a, fm_upn a], fm_ups, rfl, rfl⟩))
  · skip
    have nf : ¬ fig T (nx T p) := fun q => c_3 ((ch_fig hk _).mpr q)
    refine g_aload_n hC dX4_readNumber_10 rfl 0 rfl ?_
    refine g_callV hC (k := 29) (ci := 4) (as := []) (rest := []) (c_X4_faultHere l D cA b (fm_up M 29 2 (nI (nx T p))) L (nx T p) fm_ups) ⟨fw_328, fw_330, fs_3, fw_5, fw_331⟩ ⟨rfl, hd_X4_faultHere⟩ rfl ly_29 ⟨Nat.le_of_ble_eq_true rfl, Nat.le_of_ble_eq_true rfl⟩ ⟨Nat.le_of_ble_eq_true rfl, Nat.le_of_ble_eq_true rfl⟩ rfl rfl (Nat.le_of_ble_eq_true rfl) dX4_readNumber_11 (g_rix ?_)
    refine g_zret (ty := .int) hC rfl rfl dX4_readNumber_14 ?_
    exact ⟨_, rfl, fun q => absurd q.1 nf, fun _ => rfl, by unfold rnE; rw [re_e nf, fm_ups], fun q => absurd q nf, fun i i1 i2 => fm_upx i1, fun q q1 => fm_upn q1, rfl⟩
