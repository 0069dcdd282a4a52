/-! ===== the tape: next, passes ===== -/
def nxF (T : Nat × (Nat → Nat)) : Nat → Nat → Nat
  | 0, p => p
  | f + 1, p => if p < T.1 ∧ T.2 p = 32 then nxF T f (p + 1) else p
def nx (T : Nat × (Nat → Nat)) (p : Nat) : Nat := nxF T (T.1 - p) p
theorem nx_s {T : Nat × (Nat → Nat)} {p : Nat} (h : p < T.1) (h2 : T.2 p = 32) : nx T p = nx T (p + 1) := by
  unfold nx
  rw [show T.1 - p = (T.1 - (p + 1)) + 1 by omega]
  show (if p < T.1 ∧ T.2 p = 32 then nxF T (T.1 - (p + 1)) (p + 1) else p) = _
  rw [if_pos ⟨h, h2⟩]
theorem nx_e {T : Nat × (Nat → Nat)} {p : Nat} (h : ¬ (p < T.1 ∧ T.2 p = 32)) : nx T p = p := by
  unfold nx
  cases T.1 - p with
  | zero => rfl
  | succ f => exact if_neg h
theorem nxF_le (T : Nat × (Nat → Nat)) : ∀ f p, p ≤ T.1 → nxF T f p ≤ T.1
  | 0, p, h => h
  | f + 1, p, h => by
    by_cases q : p < T.1 ∧ T.2 p = 32
    · show (if p < T.1 ∧ T.2 p = 32 then nxF T f (p + 1) else p) ≤ T.1
      rw [if_pos q]; exact nxF_le T f (p + 1) (by omega)
    · show (if p < T.1 ∧ T.2 p = 32 then nxF T f (p + 1) else p) ≤ T.1
      rw [if_neg q]; exact h
theorem nx_le {T : Nat × (Nat → Nat)} {p : Nat} (h : p ≤ T.1) : nx T p ≤ T.1 := nxF_le T _ p h
def chI (T : Nat × (Nat → Nat)) (q : Nat) : Int32 := if q < T.1 then nI (T.2 q) else -1
def psN (T : Nat × (Nat → Nat)) (p c : Nat) : Nat := if chI T (nx T p) = nI c then nx T p + 1 else nx T p
theorem ch_lt {T : Nat × (Nat → Nat)} {q c : Nat} (hc : c < 200) (h : chI T q = nI c) : q < T.1 := by
  refine Classical.byContradiction fun n => ?_
  unfold chI at h
  rw [if_neg n, ic_eq, nI_toInt (by omega)] at h
  have : (-1 : Int32).toInt = -1 := rfl
  omega
theorem ps_le {T : Nat × (Nat → Nat)} {p c : Nat} (h : p ≤ T.1) (hc : c < 200) : psN T p c ≤ T.1 := by
  have := nx_le h
  unfold psN
  split
  · exact ch_lt hc ‹_›
  · exact this
theorem fm_uu {M : Nat → Nat → Int32} {k i : Nat} {v x : Int32} : fm_up (fm_up M k i v) k i x = fm_up M k i x := by
  funext a
  by_cases e : a = k
  · subst e; funext j
    by_cases e2 : j = i
    · rw [e2, fm_ups, fm_ups]
    · rw [fm_upx e2, fm_upx e2, fm_upx e2]
  · rw [fm_upn e, fm_upn e, fm_upn e]

theorem c_X4_next (l : Launch) (D : va_G) (cA : Nat → ClassId) (b : Nat) (M : Nat → Nat → Int32) (L : Nat → Nat → Int64) (T : Nat × (Nat → Nat)) (p : Nat) (hT : pC M T) (hk : pOK T) (hp : M 29 2 = nI p) (hle : p ≤ T.1) : fm_Met l D cA b yX4_next cX4_next 1 (some .int) 0 0 0 0 [.ref (b + 29)] LAY M L LAY (fm_pi (chI T (nx T p)) (fm_up M 29 2 (nI (nx T p))) L) := by
  refine fm_start RX4 rfl (by decide) (Nat.le_of_ble_eq_true rfl) ?_
  intro pq eq sq mq aq bq tq cq hC hin
  obtain ⟨t1, t2⟩ := id hk
  have lp_0_1 : ∀ (n_1 : Nat) (M1 : Nat → Nat → Int32) (q : Nat), T.1 - q < n_1 → (M1 = fm_up M 29 2 (nI q) ∧ q ≤ T.1 ∧ nx T q = nx T p) → fm_G pq l eq (fm_rm 0 0 0 0) sq mq aq bq tq cq D cA b 1 (MQ bq (fm_Q D cA b LAY (fm_pi (chI T (nx T p)) (fm_up M 29 2 (nI (nx T p))) L)) aq sq 0 0 (fun q => b ≤ q)) LAY M1 L 0 0 0 [(0, .ref (b + 29))] [] := by
    intro n_1
    induction n_1 with
    | zero => intro M1 q hm_1; exact absurd hm_1 (Nat.not_lt_zero _)
    | succ n_1 ih_1 =>
      intro M1 q hm_1 hinv_1
      obtain ⟨i1, i2, i3⟩ := hinv_1
      have m1 : M1 29 1 = nI T.1 := by rw [i1, fm_upx (by decide)]; exact hT.1
      have m2 : M1 29 2 = nI q := by rw [i1, fm_ups]
      have m3 : ∀ i, i < T.1 → M1 30 i = nI (T.2 i) := fun i hi => by rw [i1, fm_upn (by decide)]; exact hT.2 i hi
      have m4 := t2 q
      refine g_aload_n hC dX4_next_0 rfl 0 rfl ?_
      refine g_getI (ci := 4) (i := 2) (k := 29) hC fm_in4 rfl ly_29 rfl (by decide) fw_124 dX4_next_1 ?_
      refine g_top (y := nI q) m2 ?_
      refine g_aload_n hC dX4_next_4 rfl 0 rfl ?_
      refine g_getI (ci := 4) (i := 1) (k := 29) hC fm_in4 rfl ly_29 rfl (by decide) fw_122 dX4_next_5 ?_
      refine g_top (y := nI T.1) m1 ?_
      refine g_icmp_ge_T (X := ((q : Nat) : Int)) (Y := ((T.1 : Nat) : Int)) hC (nI_toInt (by omega)) (nI_toInt (by omega)) 38 dX4_next_8 rfl (fun c_2 => ?_) (fun c_2 => ?_)
      · skip
        refine g_aload_n hC dX4_next_38 rfl 0 rfl ?_
        refine g_getI (ci := 4) (i := 2) (k := 29) hC fm_in4 rfl ly_29 rfl (by decide) fw_124 dX4_next_39 ?_
        refine g_top (y := nI q) m2 ?_
        refine g_aload_n hC dX4_next_42 rfl 0 rfl ?_
        refine g_getI (ci := 4) (i := 1) (k := 29) hC fm_in4 rfl ly_29 rfl (by decide) fw_122 dX4_next_43 ?_
        refine g_top (y := nI T.1) m1 ?_
        refine g_icmp_ge_T (X := ((q : Nat) : Int)) (Y := ((T.1 : Nat) : Int)) hC (nI_toInt (by omega)) (nI_toInt (by omega)) 61 dX4_next_46 rfl (fun _ => ?_) (fun c_3 => absurd c_3 (by omega))
        refine g_iconst (v := (-1)) hC dX4_next_61 rfl ?_
        refine g_zret (ty := .int) hC rfl rfl dX4_next_62 ⟨congrArg (fun z => some (Value.int z)) ?_, (i1.trans (by rw [show nx T p = q from i3.symm.trans (nx_e (by omega))])), rfl⟩
        rw [show nx T p = q from i3.symm.trans (nx_e (by omega))]
        unfold chI
        rw [if_neg (by omega)]
      · skip
        refine g_aload_n hC dX4_next_11 rfl 0 rfl ?_
        refine g_getR (ci := 4) (i := 0) (k := 29) (t := 30) hC fm_in4 rfl ly_29 rfl (by decide) fw_121 dX4_next_12 ?_
        refine g_aload_n hC dX4_next_15 rfl 0 rfl ?_
        refine g_getI (ci := 4) (i := 2) (k := 29) hC fm_in4 rfl ly_29 rfl (by decide) fw_124 dX4_next_16 ?_
        refine g_top (y := nI q) m2 ?_
        refine g_caldN (j := q) (k := 30) hC ly_30 rfl (by omega) (by decide) dX4_next_19 ?_
        refine g_top (y := nI (T.2 q)) (m3 q (by omega)) ?_
        refine g_bipush (v := 32) hC dX4_next_20 rfl ?_
        refine g_icmp_ne_T (X := ((T.2 q : Nat) : Int)) (Y := 32) hC (nI_toInt (by omega)) rfl 38 dX4_next_22 rfl (fun c_4 => ?_) (fun c_4 => ?_)
        · skip
          refine g_aload_n hC dX4_next_38 rfl 0 rfl ?_
          refine g_getI (ci := 4) (i := 2) (k := 29) hC fm_in4 rfl ly_29 rfl (by decide) fw_124 dX4_next_39 ?_
          refine g_top (y := nI q) m2 ?_
          refine g_aload_n hC dX4_next_42 rfl 0 rfl ?_
          refine g_getI (ci := 4) (i := 1) (k := 29) hC fm_in4 rfl ly_29 rfl (by decide) fw_122 dX4_next_43 ?_
          refine g_top (y := nI T.1) m1 ?_
          refine g_icmp_ge_T (X := ((q : Nat) : Int)) (Y := ((T.1 : Nat) : Int)) hC (nI_toInt (by omega)) (nI_toInt (by omega)) 61 dX4_next_46 rfl (fun c_5 => absurd c_5 (by omega)) (fun _ => ?_)
          refine g_aload_n hC dX4_next_49 rfl 0 rfl ?_
          refine g_getR (ci := 4) (i := 0) (k := 29) (t := 30) hC fm_in4 rfl ly_29 rfl (by decide) fw_121 dX4_next_50 ?_
          refine g_aload_n hC dX4_next_53 rfl 0 rfl ?_
          refine g_getI (ci := 4) (i := 2) (k := 29) hC fm_in4 rfl ly_29 rfl (by decide) fw_124 dX4_next_54 ?_
          refine g_top (y := nI q) m2 ?_
          refine g_caldN (j := q) (k := 30) hC ly_30 rfl (by omega) (by decide) dX4_next_57 ?_
          refine g_top (y := nI (T.2 q)) (m3 q (by omega)) ?_
          refine g_goto hC 62 dX4_next_58 rfl ?_
          refine g_zret (ty := .int) hC rfl rfl dX4_next_62 ⟨congrArg (fun z => some (Value.int z)) ?_, (i1.trans (by rw [show nx T p = q from i3.symm.trans (nx_e (by omega))])), rfl⟩
          rw [show nx T p = q from i3.symm.trans (nx_e (by omega))]
          unfold chI
          rw [if_pos (by omega)]
        · skip
          refine g_aload_n hC dX4_next_25 rfl 0 rfl ?_
          refine g_dup hC dX4_next_26 rfl ?_
          refine g_getI (ci := 4) (i := 2) (k := 29) hC fm_in4 rfl ly_29 rfl (by decide) fw_124 dX4_next_27 ?_
          refine g_top (y := nI q) m2 ?_
          refine g_iconst (v := 1) hC dX4_next_30 rfl ?_
          refine g_iadd hC dX4_next_31 ?_
          refine g_top (y := nI (q + 1)) (nI_add _ _) ?_
          refine g_putI (ci := 4) (i := 2) (k := 29) hC fm_in4 tyX4 tyX4_ok nmX4 rfl ly_29 rfl (by decide) fw_124 rfl rfl rfl dX4_next_32 ?_
          refine g_goto hC 0 dX4_next_35 rfl ?_
          exact g_sub [0] rfl (ih_1 (fm_up M1 29 2 (nI (q + 1))) (q + 1) (by omega) (⟨by rw [i1, fm_uu], by omega, (nx_s (by omega) (by omega)).symm.trans i3⟩))
  exact g_sub [0] rfl (lp_0_1 (T.1 - p + 1) M p (Nat.lt_succ_self _) (⟨by rw [← hp]; exact fm_same.symm, hle, rfl⟩))

theorem c_X7_nextByte (l : Launch) (D : va_G) (cA : Nat → ClassId) (b : Nat) (M : Nat → Nat → Int32) (L : Nat → Nat → Int64) (T : Nat × (Nat → Nat)) (p : Nat) (hT : pR M T) (hk : pOK T) (hp : M 58 19 = nI p) (hle : p ≤ T.1) : fm_Met l D cA b yX7_nextByte cX7_nextByte 1 (some .int) 0 0 0 0 [.ref (b + 58)] LAY M L LAY (fm_pi (chI T (nx T p)) (fm_up M 58 19 (nI (nx T p))) L) := by
  refine fm_start RX7 rfl (by decide) (Nat.le_of_ble_eq_true rfl) ?_
  intro pq eq sq mq aq bq tq cq hC hin
  obtain ⟨t1, t2⟩ := id hk
  have lp_0_1 : ∀ (n_1 : Nat) (M1 : Nat → Nat → Int32) (q : Nat), T.1 - q < n_1 → (M1 = fm_up M 58 19 (nI q) ∧ q ≤ T.1 ∧ nx T q = nx T p) → fm_G pq l eq (fm_rm 0 0 0 0) sq mq aq bq tq cq D cA b 1 (MQ bq (fm_Q D cA b LAY (fm_pi (chI T (nx T p)) (fm_up M 58 19 (nI (nx T p))) L)) aq sq 0 0 (fun q => b ≤ q)) LAY M1 L 0 0 0 [(0, .ref (b + 58))] [] := by
    intro n_1
    induction n_1 with
    | zero => intro M1 q hm_1; exact absurd hm_1 (Nat.not_lt_zero _)
    | succ n_1 ih_1 =>
      intro M1 q hm_1 hinv_1
      obtain ⟨i1, i2, i3⟩ := hinv_1
      have m1 : M1 58 18 = nI T.1 := by rw [i1, fm_upx (by decide)]; exact hT.1
      have m2 : M1 58 19 = nI q := by rw [i1, fm_ups]
      have m3 : ∀ i, i < T.1 → M1 67 i = nI (T.2 i) := fun i hi => by rw [i1, fm_upn (by decide)]; exact hT.2 i hi
      have m4 := t2 q
      refine g_aload_n hC dX7_nextByte_0 rfl 0 rfl ?_
      refine g_getI (ci := 7) (i := 19) (k := 58) hC fm_in7 rfl ly_58 rfl (by decide) fw_639 dX7_nextByte_1 ?_
      refine g_top (y := nI q) m2 ?_
      refine g_aload_n hC dX7_nextByte_4 rfl 0 rfl ?_
      refine g_getI (ci := 7) (i := 18) (k := 58) hC fm_in7 rfl ly_58 rfl (by decide) fw_638 dX7_nextByte_5 ?_
      refine g_top (y := nI T.1) m1 ?_
      refine g_icmp_ge_T (X := ((q : Nat) : Int)) (Y := ((T.1 : Nat) : Int)) hC (nI_toInt (by omega)) (nI_toInt (by omega)) 38 dX7_nextByte_8 rfl (fun c_2 => ?_) (fun c_2 => ?_)
      · skip
        refine g_aload_n hC dX7_nextByte_38 rfl 0 rfl ?_
        refine g_getI (ci := 7) (i := 19) (k := 58) hC fm_in7 rfl ly_58 rfl (by decide) fw_639 dX7_nextByte_39 ?_
        refine g_top (y := nI q) m2 ?_
        refine g_aload_n hC dX7_nextByte_42 rfl 0 rfl ?_
        refine g_getI (ci := 7) (i := 18) (k := 58) hC fm_in7 rfl ly_58 rfl (by decide) fw_638 dX7_nextByte_43 ?_
        refine g_top (y := nI T.1) m1 ?_
        refine g_icmp_ge_T (X := ((q : Nat) : Int)) (Y := ((T.1 : Nat) : Int)) hC (nI_toInt (by omega)) (nI_toInt (by omega)) 61 dX7_nextByte_46 rfl (fun _ => ?_) (fun c_3 => absurd c_3 (by omega))
        refine g_iconst (v := (-1)) hC dX7_nextByte_61 rfl ?_
        refine g_zret (ty := .int) hC rfl rfl dX7_nextByte_62 ⟨congrArg (fun z => some (Value.int z)) ?_, (i1.trans (by rw [show nx T p = q from i3.symm.trans (nx_e (by omega))])), rfl⟩
        rw [show nx T p = q from i3.symm.trans (nx_e (by omega))]
        unfold chI
        rw [if_neg (by omega)]
      · skip
        refine g_aload_n hC dX7_nextByte_11 rfl 0 rfl ?_
        refine g_getR (ci := 7) (i := 17) (k := 58) (t := 67) hC fm_in7 rfl ly_58 rfl (by decide) fw_637 dX7_nextByte_12 ?_
        refine g_aload_n hC dX7_nextByte_15 rfl 0 rfl ?_
        refine g_getI (ci := 7) (i := 19) (k := 58) hC fm_in7 rfl ly_58 rfl (by decide) fw_639 dX7_nextByte_16 ?_
        refine g_top (y := nI q) m2 ?_
        refine g_ialdN (j := q) (k := 67) hC ly_67 rfl (by omega) (by decide) dX7_nextByte_19 ?_
        refine g_top (y := nI (T.2 q)) (m3 q (by omega)) ?_
        refine g_bipush (v := 32) hC dX7_nextByte_20 rfl ?_
        refine g_icmp_ne_T (X := ((T.2 q : Nat) : Int)) (Y := 32) hC (nI_toInt (by omega)) rfl 38 dX7_nextByte_22 rfl (fun c_4 => ?_) (fun c_4 => ?_)
        · skip
          refine g_aload_n hC dX7_nextByte_38 rfl 0 rfl ?_
          refine g_getI (ci := 7) (i := 19) (k := 58) hC fm_in7 rfl ly_58 rfl (by decide) fw_639 dX7_nextByte_39 ?_
          refine g_top (y := nI q) m2 ?_
          refine g_aload_n hC dX7_nextByte_42 rfl 0 rfl ?_
          refine g_getI (ci := 7) (i := 18) (k := 58) hC fm_in7 rfl ly_58 rfl (by decide) fw_638 dX7_nextByte_43 ?_
          refine g_top (y := nI T.1) m1 ?_
          refine g_icmp_ge_T (X := ((q : Nat) : Int)) (Y := ((T.1 : Nat) : Int)) hC (nI_toInt (by omega)) (nI_toInt (by omega)) 61 dX7_nextByte_46 rfl (fun c_5 => absurd c_5 (by omega)) (fun _ => ?_)
          refine g_aload_n hC dX7_nextByte_49 rfl 0 rfl ?_
          refine g_getR (ci := 7) (i := 17) (k := 58) (t := 67) hC fm_in7 rfl ly_58 rfl (by decide) fw_637 dX7_nextByte_50 ?_
          refine g_aload_n hC dX7_nextByte_53 rfl 0 rfl ?_
          refine g_getI (ci := 7) (i := 19) (k := 58) hC fm_in7 rfl ly_58 rfl (by decide) fw_639 dX7_nextByte_54 ?_
          refine g_top (y := nI q) m2 ?_
          refine g_ialdN (j := q) (k := 67) hC ly_67 rfl (by omega) (by decide) dX7_nextByte_57 ?_
          refine g_top (y := nI (T.2 q)) (m3 q (by omega)) ?_
          refine g_goto hC 62 dX7_nextByte_58 rfl ?_
          refine g_zret (ty := .int) hC rfl rfl dX7_nextByte_62 ⟨congrArg (fun z => some (Value.int z)) ?_, (i1.trans (by rw [show nx T p = q from i3.symm.trans (nx_e (by omega))])), rfl⟩
          rw [show nx T p = q from i3.symm.trans (nx_e (by omega))]
          unfold chI
          rw [if_pos (by omega)]
        · skip
          refine g_aload_n hC dX7_nextByte_25 rfl 0 rfl ?_
          refine g_dup hC dX7_nextByte_26 rfl ?_
          refine g_getI (ci := 7) (i := 19) (k := 58) hC fm_in7 rfl ly_58 rfl (by decide) fw_639 dX7_nextByte_27 ?_
          refine g_top (y := nI q) m2 ?_
          refine g_iconst (v := 1) hC dX7_nextByte_30 rfl ?_
          refine g_iadd hC dX7_nextByte_31 ?_
          refine g_top (y := nI (q + 1)) (nI_add _ _) ?_
          refine g_putI (ci := 7) (i := 19) (k := 58) hC fm_in7 tyX7 tyX7_ok nmX7 rfl ly_58 rfl (by decide) fw_639 rfl rfl rfl dX7_nextByte_32 ?_
          refine g_goto hC 0 dX7_nextByte_35 rfl ?_
          exact g_sub [0] rfl (ih_1 (fm_up M1 58 19 (nI (q + 1))) (q + 1) (by omega) (⟨by rw [i1, fm_uu], by omega, (nx_s (by omega) (by omega)).symm.trans i3⟩))
  exact g_sub [0] rfl (lp_0_1 (T.1 - p + 1) M p (Nat.lt_succ_self _) (⟨by rw [← hp]; exact fm_same.symm, hle, rfl⟩))

theorem c_X4_passes (l : Launch) (D : va_G) (cA : Nat → ClassId) (b : Nat) (M : Nat → Nat → Int32) (L : Nat → Nat → Int64) (T : Nat × (Nat → Nat)) (p : Nat) (c : Nat) (hT : pC M T) (hk : pOK T) (hp : M 29 2 = nI p) (hle : p ≤ T.1) (hc : c < 200) : fm_Met l D cA b yX4_passes cX4_passes 2 (some .boolean) 1 20 0 0 [.ref (b + 29), .int (nI c)] LAY M L LAY (fm_pi (bi (chI T (nx T p) = nI c)) (fm_up M 29 2 (nI (psN T p c))) L) := by
  refine fm_start RX4 rfl (by decide) (Nat.le_of_ble_eq_true rfl) ?_
  intro pq eq sq mq aq bq tq cq hC hin
  have nl := nx_le hle
  obtain ⟨t1, t2⟩ := id hk
  refine g_aload_n hC dX4_passes_0 rfl 0 rfl ?_
  refine g_callV hC (k := 29) (ci := 4) (as := []) (rest := []) (c_X4_next l D cA b M L T p hT hk hp hle) ⟨fw_321, fw_323, fs_2, fw_5, fw_324⟩ ⟨rfl, hd_X4_next⟩ rfl ly_29 ⟨Nat.le_of_ble_eq_true rfl, Nat.le_of_ble_eq_true rfl⟩ ⟨Nat.le_of_ble_eq_true rfl, Nat.le_of_ble_eq_true rfl⟩ rfl rfl (Nat.le_of_ble_eq_true rfl) dX4_passes_1 (g_rix ?_)
  refine g_iload_n hC dX4_passes_4 rfl 1 rfl ?_
  refine g_icmp_eq_T (X := (chI T (nx T p)).toInt) (Y := ((c : Nat) : Int)) hC rfl (nI_toInt (by omega)) 10 dX4_passes_5 rfl (fun c_2 => ?_) (fun c_2 => ?_)
  · skip
    refine g_aload_n hC dX4_passes_10 rfl 0 rfl ?_
    refine g_dup hC dX4_passes_11 rfl ?_
    refine g_getI (ci := 4) (i := 2) (k := 29) hC fm_in4 rfl ly_29 rfl (by decide) fw_124 dX4_passes_12 ?_
    refine g_top (y := nI (nx T p)) (by simp [fm_up, fm_row, upd]) ?_
    refine g_iconst (v := 1) hC dX4_passes_15 rfl ?_
    refine g_iadd hC dX4_passes_16 ?_
    refine g_top (y := nI ((nx T p) + 1)) (nI_add _ _) ?_
    refine g_putI (ci := 4) (i := 2) (k := 29) hC fm_in4 tyX4 tyX4_ok nmX4 rfl ly_29 rfl (by decide) fw_124 rfl rfl rfl dX4_passes_17 ?_
    refine g_iconst (v := 1) hC dX4_passes_20 rfl ?_
    refine g_zret (ty := .boolean) hC rfl rfl dX4_passes_21 ⟨congrArg (fun z => some (Value.int z)) ?_, (by unfold psN; rw [if_pos (by rw [ic_eq, nI_toInt (by omega)]; omega), fm_uu]), rfl⟩
    exact bi_1 (by rw [ic_eq, nI_toInt (by omega)]; omega)
  · skip
    refine g_iconst (v := 0) hC dX4_passes_8 rfl ?_
    refine g_zret (ty := .boolean) hC rfl rfl dX4_passes_9 ⟨congrArg (fun z => some (Value.int z)) ?_, (by unfold psN; rw [if_neg (fun q => by rw [ic_eq, nI_toInt (by omega)] at q; omega)]), rfl⟩
    exact bi_0 (fun q => by rw [ic_eq, nI_toInt (by omega)] at q; omega)

theorem c_X7_takes (l : Launch) (D : va_G) (cA : Nat → ClassId) (b : Nat) (M : Nat → Nat → Int32) (L : Nat → Nat → Int64) (T : Nat × (Nat → Nat)) (p : Nat) (c : Nat) (hT : pR M T) (hk : pOK T) (hp : M 58 19 = nI p) (hle : p ≤ T.1) (hc : c < 200) : fm_Met l D cA b yX7_takes cX7_takes 3 (some .boolean) 1 20 0 0 [.ref (b + 58), .int (nI c)] LAY M L LAY (fm_pi (bi (chI T (nx T p) = nI c)) (fm_up M 58 19 (nI (psN T p c))) L) := by
  refine fm_start RX7 rfl (by decide) (Nat.le_of_ble_eq_true rfl) ?_
  intro pq eq sq mq aq bq tq cq hC hin
  have nl := nx_le hle
  obtain ⟨t1, t2⟩ := id hk
  refine g_aload_n hC dX7_takes_0 rfl 0 rfl ?_
  refine g_callV hC (k := 58) (ci := 7) (as := []) (rest := []) (c_X7_nextByte l D cA b M L T p hT hk hp hle) ⟨fw_804, fw_806, fs_20, fw_9, fw_807⟩ ⟨rfl, hd_X7_nextByte⟩ rfl ly_58 ⟨Nat.le_of_ble_eq_true rfl, Nat.le_of_ble_eq_true rfl⟩ ⟨Nat.le_of_ble_eq_true rfl, Nat.le_of_ble_eq_true rfl⟩ rfl rfl (Nat.le_of_ble_eq_true rfl) dX7_takes_1 (g_rix ?_)
  refine g_iload_n hC dX7_takes_4 rfl 1 rfl ?_
  refine g_icmp_ne_T (X := (chI T (nx T p)).toInt) (Y := ((c : Nat) : Int)) hC rfl (nI_toInt (by omega)) 12 dX7_takes_5 rfl (fun c_2 => ?_) (fun c_2 => ?_)
  · skip
    refine g_iconst (v := 0) hC dX7_takes_12 rfl ?_
    refine g_istore_n hC [(2, .int 0), (0, .ref (b + 58)), (1, .int (nI c))] dX7_takes_13 rfl (by decide) rfl ?_
    refine g_aload_n hC dX7_takes_14 rfl 1 rfl ?_
    refine g_dup hC dX7_takes_15 rfl ?_
    refine g_getI (ci := 7) (i := 19) (k := 58) hC fm_in7 rfl ly_58 rfl (by decide) fw_639 dX7_takes_16 ?_
    refine g_top (y := nI (nx T p)) (by simp [fm_up, fm_row, upd]) ?_
    refine g_iload_n hC dX7_takes_19 rfl 0 rfl ?_
    refine g_if_eq_T (X := 0) hC rfl 27 dX7_takes_20 rfl (fun _ => ?_) (fun c_3 => absurd c_3 (by omega))
    refine g_iconst (v := 0) hC dX7_takes_27 rfl ?_
    refine g_iadd hC dX7_takes_28 ?_
    refine g_top (y := nI ((nx T p) + 0)) (nI_add _ _) ?_
    refine g_putI (ci := 7) (i := 19) (k := 58) hC fm_in7 tyX7 tyX7_ok nmX7 rfl ly_58 rfl (by decide) fw_639 rfl rfl rfl dX7_takes_29 ?_
    refine g_iload_n hC dX7_takes_32 rfl 0 rfl ?_
    refine g_zret (ty := .boolean) hC rfl rfl dX7_takes_33 ⟨congrArg (fun z => some (Value.int z)) ?_, (by unfold psN; rw [if_neg (fun q => by rw [ic_eq, nI_toInt (by omega)] at q; omega), fm_uu, Nat.add_zero]), rfl⟩
    exact bi_0 (fun q => by rw [ic_eq, nI_toInt (by omega)] at q; omega)
  · skip
    refine g_iconst (v := 1) hC dX7_takes_8 rfl ?_
    refine g_goto hC 13 dX7_takes_9 rfl ?_
    refine g_istore_n hC [(2, .int 1), (0, .ref (b + 58)), (1, .int (nI c))] dX7_takes_13 rfl (by decide) rfl ?_
    refine g_aload_n hC dX7_takes_14 rfl 1 rfl ?_
    refine g_dup hC dX7_takes_15 rfl ?_
    refine g_getI (ci := 7) (i := 19) (k := 58) hC fm_in7 rfl ly_58 rfl (by decide) fw_639 dX7_takes_16 ?_
    refine g_top (y := nI (nx T p)) (by simp [fm_up, fm_row, upd]) ?_
    refine g_iload_n hC dX7_takes_19 rfl 0 rfl ?_
    refine g_if_eq_T (X := 1) hC rfl 27 dX7_takes_20 rfl (fun c_4 => absurd c_4 (by omega)) (fun _ => ?_)
    refine g_iconst (v := 1) hC dX7_takes_23 rfl ?_
    refine g_goto hC 28 dX7_takes_24 rfl ?_
    refine g_iadd hC dX7_takes_28 ?_
    refine g_top (y := nI ((nx T p) + 1)) (nI_add _ _) ?_
    refine g_putI (ci := 7) (i := 19) (k := 58) hC fm_in7 tyX7 tyX7_ok nmX7 rfl ly_58 rfl (by decide) fw_639 rfl rfl rfl dX7_takes_29 ?_
    refine g_iload_n hC dX7_takes_32 rfl 0 rfl ?_
    refine g_zret (ty := .boolean) hC rfl rfl dX7_takes_33 ⟨congrArg (fun z => some (Value.int z)) ?_, (by unfold psN; rw [if_pos (by rw [ic_eq, nI_toInt (by omega)]; omega), fm_uu]), rfl⟩
    exact bi_1 (by rw [ic_eq, nI_toInt (by omega)]; omega)
