/-! ===== sheets: the calls, the check ===== -/
theorem sR_set {M M' : Nat → Nat → Int32} {L L' : Nat → Nat → Int64} {S : Shs} {q n : Nat} {v : Int} {X : Nat → Int64} (h : sR M L S) (e : ∀ r, r < 4 → r ≠ q → M' 73 r = M 73 r ∧ M' 74 r = M 74 r ∧ ∀ i, i < 24 → L' 75 (24 * r + i) = L 75 (24 * r + i)) (a : M' 73 q = Int32.ofInt v) (c : 0 ≤ v → M' 74 q = nI n ∧ ∀ i, i < 24 → L' 75 (24 * q + i) = X i) : sR M' L' (shU S q v n X) := fun r hr => by
  by_cases e1 : r = q
  · subst e1
    simp only [shU, uF_s]
    exact ⟨a, c⟩
  · simp only [shU, uF_n e1]
    obtain ⟨x1, x2, x3⟩ := e r hr e1
    rw [x1, x2]
    exact ⟨(h r hr).1, fun z => ⟨((h r hr).2 z).1, fun i hi => by rw [x3 i hi]; exact ((h r hr).2 z).2 i hi⟩⟩
theorem RS_sh {M M' : Nat → Nat → Int32} {L L' : Nat → Nat → Int64} {g : Sg} (h : RS M L g) {S : Shs} (e : ∀ k, k ≠ 73 → k ≠ 74 → M' k = M k) (s : sR M' L' S) : RS M' L' (shS g S) := by
  obtain ⟨h1, h2, h3, h4, h5⟩ := h
  refine ⟨tR_cong h1 (fun k k1 k2 => e k (by omega) (by omega)), fun z => ?_, ?_, ⟨?_, fun i hi => ?_⟩, s⟩
  · rw [e 72 (by decide) (by decide)]; exact h2 z
  · rw [e 58 (by decide) (by decide)]; exact h3
  · rw [e 58 (by decide) (by decide)]; exact h4.1
  · rw [e 67 (by decide) (by decide)]; exact h4.2 i hi
theorem ls_n {cnt : Nat} {n : Int32} (h : cnt ≤ 24) : ((nI cnt).toInt64 - n.toInt64).toInt = (cnt : Int) - n.toInt := by
  have := ic_rng n
  rw [Int64.toInt_sub, ic_w, ic_w, nI_toInt (by omega), Int.bmod_eq_of_le (by omega) (by omega)]

theorem c_X7_asLane (l : Launch) (D : va_G) (cA : Nat → ClassId) (b : Nat) (M : Nat → Nat → Int32) (L : Nat → Nat → Int64) (ln : Int32) (v : Int64)  : fm_Met l D cA b yX7_asLane cX7_asLane 3 (some .long) 0 0 0 0 [.int ln, .long v] LAY M L LAY (fm_pl (fun r M' L' => r = asL ln.toInt v ∧ M' = M ∧ L' = L)) := by
  refine fm_start RX7 rfl (by decide) (Nat.le_of_ble_eq_true rfl) ?_
  intro pq eq sq mq aq bq tq cq hC hin
  refine g_iload_n hC dX7_asLane_0 rfl 0 rfl ?_
  refine g_if_ne_T (X := ln.toInt) hC rfl 14 dX7_asLane_1 rfl (fun c_1 => ?_) (fun c_1 => ?_)
  · skip
    refine g_iload_n hC dX7_asLane_14 rfl 0 rfl ?_
    refine g_iconst (v := 1) hC dX7_asLane_15 rfl ?_
    refine g_icmp_ne_T (X := ln.toInt) (Y := 1) hC rfl rfl 29 dX7_asLane_16 rfl (fun c_2 => ?_) (fun c_2 => ?_)
    · skip
      refine g_lload_n hC dX7_asLane_29 rfl 1 rfl ?_
      refine g_lret hC rfl dX7_asLane_30 ?_
      refine ⟨_, rfl, ?_, rfl, rfl⟩
      unfold asL
      rw [if_neg (by omega), if_neg (by omega)]
    · skip
      refine g_lload_n hC dX7_asLane_19 rfl 1 rfl ?_
      refine g_bipush (v := 32) hC dX7_asLane_20 rfl ?_
      refine g_lshl (v := v <<< ((32 : Int32).toInt64 &&& 63)) hC dX7_asLane_22 rfl ?_
      refine g_bipush (v := 32) hC dX7_asLane_23 rfl ?_
      refine g_lshr (v := (v <<< ((32 : Int32).toInt64 &&& 63)) >>> ((32 : Int32).toInt64 &&& 63)) hC dX7_asLane_25 rfl ?_
      refine g_goto hC 30 dX7_asLane_26 rfl ?_
      refine g_lret hC rfl dX7_asLane_30 ?_
      refine ⟨_, rfl, ?_, rfl, rfl⟩
      unfold asL
      rw [if_neg (by omega), if_pos (by omega)]; exact asL_1 v
  · skip
    refine g_lload_n hC dX7_asLane_4 rfl 1 rfl ?_
    refine g_bipush (v := 56) hC dX7_asLane_5 rfl ?_
    refine g_lshl (v := v <<< ((56 : Int32).toInt64 &&& 63)) hC dX7_asLane_7 rfl ?_
    refine g_bipush (v := 56) hC dX7_asLane_8 rfl ?_
    refine g_lshr (v := (v <<< ((56 : Int32).toInt64 &&& 63)) >>> ((56 : Int32).toInt64 &&& 63)) hC dX7_asLane_10 rfl ?_
    refine g_goto hC 30 dX7_asLane_11 rfl ?_
    refine g_lret hC rfl dX7_asLane_30 ?_
    refine ⟨_, rfl, ?_, rfl, rfl⟩
    unfold asL
    rw [if_pos (by omega)]; exact asL_0 v

theorem c_X7_lacksRow (l : Launch) (D : va_G) (cA : Nat → ClassId) (b : Nat) (M : Nat → Nat → Int32) (L : Nat → Nat → Int64) (g : Sg) (q : Nat) (ln : Int32) (f : Int32) (w : Nat) (hS : RS M L g) (hok : OK g) (qb : q < 4) (hl : 0 ≤ ln.toInt ∧ ln.toInt ≤ 2) (hw : w ≤ 24) : fm_Met l D cA b yX7_lacksRow cX7_lacksRow 5 (some .int) 1 25 0 0 [.ref (b + 58), .int (nI q), .int ln, .int f, .int (nI w)] LAY M L LAY (fm_pi (shR g.2.2.2.2 (nI q).toInt ln.toInt f.toInt w) M L) := by
  refine fm_start RX7 rfl (by decide) (Nat.le_of_ble_eq_true rfl) ?_
  intro pq eq sq mq aq bq tq cq hC hin
  have qt : (nI q).toInt = (q : Int) := nI_toInt (by omega)
  have qn : (nI q).toInt.toNat = q := by omega
  have qs := hS.2.2.2.2 q qb
  have qo := hok.2.2.2.2 q qb
  refine g_aload_n hC dX7_lacksRow_0 rfl 0 rfl ?_
  refine g_getR (ci := 7) (i := 28) (k := 58) (t := 73) hC fm_in7 rfl ly_58 rfl (by decide) fw_648 dX7_lacksRow_1 ?_
  refine g_iload_n hC dX7_lacksRow_4 rfl 1 rfl ?_
  refine g_ialdN (j := q) (k := 73) hC ly_73 rfl (by omega) (by decide) dX7_lacksRow_5 ?_
  refine g_top (y := Int32.ofInt (g.2.2.2.2.1 q)) qs.1 ?_
  refine g_iload_n hC dX7_lacksRow_6 rfl 2 rfl ?_
  refine g_icmp_eq_T (X := g.2.2.2.2.1 q) (Y := ln.toInt) hC (oI_t (by omega) (by omega)) rfl 27 dX7_lacksRow_7 rfl (fun c_1 => ?_) (fun c_1 => ?_)
  · skip
    refine g_iload_n hC dX7_lacksRow_27 rfl 3 rfl ?_
    refine g_i2l (v := f.toInt64) hC dX7_lacksRow_28 rfl ?_
    refine g_lconst (v := 0) hC dX7_lacksRow_29 rfl ?_
    refine g_aload_n hC dX7_lacksRow_30 rfl 0 rfl ?_
    refine g_getR (ci := 7) (i := 29) (k := 58) (t := 74) hC fm_in7 rfl ly_58 rfl (by decide) fw_649 dX7_lacksRow_31 ?_
    refine g_iload_n hC dX7_lacksRow_34 rfl 1 rfl ?_
    refine g_ialdN (j := q) (k := 74) hC ly_74 rfl (by omega) (by decide) dX7_lacksRow_35 ?_
    refine g_top (y := nI (g.2.2.2.2.2.1 q)) (qs.2 (by omega)).1 ?_
    refine g_iload hC dX7_lacksRow_36 4 rfl ?_
    refine g_isub hC dX7_lacksRow_38 ?_
    refine g_top (y := nI (g.2.2.2.2.2.1 q) - nI w) rfl ?_
    refine g_i2l (v := (nI (g.2.2.2.2.2.1 q) - nI w).toInt64) hC dX7_lacksRow_39 rfl ?_
    refine g_callS hC (as := [.long f.toInt64, .long 0, .long ((nI (g.2.2.2.2.2.1 q) - nI w).toInt64)]) (rest := []) (c_X7_in l D cA b LAY M L f.toInt64 0 ((nI (g.2.2.2.2.2.1 q) - nI w).toInt64) f.toInt 0 ((g.2.2.2.2.2.1 q : Int) - (w : Int)) ((ic_w _).trans rfl) rfl ((ic_w _).trans (sb_n qo.2.2 (nI_toInt (by omega)) (by omega)))) ⟨fw_725, fw_726, fw_9, fw_727⟩ hd_X7_in ⟨Nat.le_of_ble_eq_true rfl, Nat.le_of_ble_eq_true rfl⟩ ⟨Nat.le_of_ble_eq_true rfl, Nat.le_of_ble_eq_true rfl⟩ rfl rfl (Nat.le_of_ble_eq_true rfl) dX7_lacksRow_40 (g_rix ?_)
    refine g_ifb_eq hC 50 dX7_lacksRow_43 rfl (fun c_3 => ?_) (fun c_3 => ?_)
    · skip
      refine g_bipush (v := (-13)) hC dX7_lacksRow_50 rfl ?_
      refine g_zret (ty := .int) hC rfl rfl dX7_lacksRow_52 ⟨congrArg (fun z => some (Value.int z)) ?_, rfl, rfl⟩
      unfold shR; rw [if_neg (by omega), qn, if_neg (by omega), if_neg (by omega), if_neg (by omega)]
    · skip
      refine g_iconst (v := 0) hC dX7_lacksRow_46 rfl ?_
      refine g_goto hC 52 dX7_lacksRow_47 rfl ?_
      refine g_zret (ty := .int) hC rfl rfl dX7_lacksRow_52 ⟨congrArg (fun z => some (Value.int z)) ?_, rfl, rfl⟩
      unfold shR; rw [if_neg (by omega), qn, if_neg (by omega), if_neg (by omega), if_pos (by omega)]
  · skip
    refine g_aload_n hC dX7_lacksRow_10 rfl 0 rfl ?_
    refine g_getR (ci := 7) (i := 28) (k := 58) (t := 73) hC fm_in7 rfl ly_58 rfl (by decide) fw_648 dX7_lacksRow_11 ?_
    refine g_iload_n hC dX7_lacksRow_14 rfl 1 rfl ?_
    refine g_ialdN (j := q) (k := 73) hC ly_73 rfl (by omega) (by decide) dX7_lacksRow_15 ?_
    refine g_top (y := Int32.ofInt (g.2.2.2.2.1 q)) qs.1 ?_
    refine g_if_ge_T (X := g.2.2.2.2.1 q) hC (oI_t (by omega) (by omega)) 24 dX7_lacksRow_16 rfl (fun c_4 => ?_) (fun c_4 => ?_)
    · skip
      refine g_bipush (v := (-12)) hC dX7_lacksRow_24 rfl ?_
      refine g_zret (ty := .int) hC rfl rfl dX7_lacksRow_26 ⟨congrArg (fun z => some (Value.int z)) ?_, rfl, rfl⟩
      unfold shR; rw [if_neg (by omega), qn, if_neg (by omega), if_pos (by omega)]
    · skip
      refine g_bipush (v := (-11)) hC dX7_lacksRow_19 rfl ?_
      refine g_goto hC 26 dX7_lacksRow_21 rfl ?_
      refine g_zret (ty := .int) hC rfl rfl dX7_lacksRow_26 ⟨congrArg (fun z => some (Value.int z)) ?_, rfl, rfl⟩
      unfold shR; rw [if_neg (by omega), qn, if_pos (by omega)]

theorem c_X7_sheet (l : Launch) (D : va_G) (cA : Nat → ClassId) (b : Nat) (M : Nat → Nat → Int32) (L : Nat → Nat → Int64) (g : Sg) (x : Int32) (ln : Int32) (n : Int32) (hS : RS M L g) (hok : OK g) : fm_Met l D cA b yX7_sheet cX7_sheet 5 (some .int) 2 46 0 0 [.ref (b + 58), .int x, .int ln, .int n] LAY M L LAY (fm_pm (fun r M' L' => r = (op_sheet g x ln n).1 ∧ RS M' L' (op_sheet g x ln n).2 ∧ fR M M' L L')) := by
  refine fm_start RX7 rfl (by decide) (Nat.le_of_ble_eq_true rfl) ?_
  intro pq eq sq mq aq bq tq cq hC hin
  refine g_iload_n hC dX7_sheet_0 rfl 1 rfl ?_
  refine g_iload_n hC dX7_sheet_1 rfl 2 rfl ?_
  refine g_callS hC (as := [.int x, .int ln]) (rest := []) (c_X7_isSheet l D cA b LAY M L x ln x.toInt ln.toInt rfl rfl) ⟨fw_954, fw_955, fw_9, fw_956⟩ hd_X7_isSheet ⟨Nat.le_of_ble_eq_true rfl, Nat.le_of_ble_eq_true rfl⟩ ⟨Nat.le_of_ble_eq_true rfl, Nat.le_of_ble_eq_true rfl⟩ rfl rfl (Nat.le_of_ble_eq_true rfl) dX7_sheet_2 (g_rix ?_)
  refine g_ifb_eq hC 14 dX7_sheet_5 rfl (fun c_2 => ?_) (fun c_2 => ?_)
  · skip
    refine g_iconst (v := (-1)) hC dX7_sheet_14 rfl ?_
    refine g_zret (ty := .int) hC rfl rfl dX7_sheet_15 ?_
    have e0 : op_sheet g x ln n = (-1, g) := by unfold op_sheet; rw [if_pos (by omega)]
    exact ⟨_, rfl, by rw [e0], by rw [e0]; exact hS, fR_rf⟩
  · skip
    refine g_iload_n hC dX7_sheet_8 rfl 3 rfl ?_
    refine g_bipush (v := 24) hC dX7_sheet_9 rfl ?_
    refine g_icmp_le_T (X := n.toInt) (Y := 24) hC rfl rfl 16 dX7_sheet_11 rfl (fun c_3 => ?_) (fun c_3 => ?_)
    · skip
      refine g_iload_n hC dX7_sheet_16 rfl 3 rfl ?_
      refine g_if_ge_T (X := n.toInt) hC rfl 23 dX7_sheet_17 rfl (fun c_4 => ?_) (fun c_4 => ?_)
      · skip
        obtain ⟨q, qb, qE⟩ : ∃ j9 : Nat, j9 < 4 ∧ x = nI j9 := ic_of (by omega) (by omega)
        subst qE
        have qt : (nI q).toInt = (q : Int) := nI_toInt (by omega)
        have qn : (nI q).toInt.toNat = q := by omega
        have qs := hS.2.2.2.2 q qb
        have qo := hok.2.2.2.2 q qb
        obtain ⟨n0, n0b, n0E⟩ : ∃ j9 : Nat, j9 < 25 ∧ n = nI j9 := ic_of (by omega) (by omega)
        subst n0E
        have n0t : (nI n0).toInt = (n0 : Int) := nI_toInt (by omega)
        have n0n : (nI n0).toInt.toNat = n0 := by omega
        refine g_aload_n hC dX7_sheet_23 rfl 0 rfl ?_
        refine g_getR (ci := 7) (i := 28) (k := 58) (t := 73) hC fm_in7 rfl ly_58 rfl (by decide) fw_648 dX7_sheet_24 ?_
        refine g_iload_n hC dX7_sheet_27 rfl 1 rfl ?_
        refine g_iload_n hC dX7_sheet_28 rfl 2 rfl ?_
        refine g_iastN (j := q) (k := 73) hC ly_73 rfl (by omega) (by decide) dX7_sheet_29 ?_
        refine g_aload_n hC dX7_sheet_30 rfl 0 rfl ?_
        refine g_getR (ci := 7) (i := 29) (k := 58) (t := 74) hC fm_in7 rfl ly_58 rfl (by decide) fw_649 dX7_sheet_31 ?_
        refine g_iload_n hC dX7_sheet_34 rfl 1 rfl ?_
        refine g_iload_n hC dX7_sheet_35 rfl 3 rfl ?_
        refine g_iastN (j := q) (k := 74) hC ly_74 rfl (by omega) (by decide) dX7_sheet_36 ?_
        refine g_iconst (v := 0) hC dX7_sheet_37 rfl ?_
        refine g_istore hC [(4, .int 0), (0, .ref (b + 58)), (1, .int (nI q)), (2, .int ln), (3, .int (nI n0))] dX7_sheet_38 (by decide) rfl ?_
        have lp_40_5 : ∀ (n_5 : Nat) (L1 : Nat → Nat → Int64) (i : Nat), 24 - i < n_5 → (i ≤ 24 ∧ (∀ r, r ≠ 75 → L1 r = L r) ∧ (∀ k, ¬ (24 * q ≤ k ∧ k < 24 * q + 24) → L1 75 k = L 75 k) ∧ (∀ j, j < i → L1 75 (24 * q + j) = 0)) → fm_G pq l eq (fm_rm 2 46 0 0) sq mq aq bq tq cq D cA b 5 (MQ bq (fm_Q D cA b LAY (fm_pm (fun r M' L' => r = (op_sheet g (nI q) ln (nI n0)).1 ∧ RS M' L' (op_sheet g (nI q) ln (nI n0)).2 ∧ fR M M' L L'))) aq sq 0 0 (fun q => b ≤ q)) LAY (fm_up (fm_up M 73 q ln) 74 q (nI n0)) L1 0 0 40 [(4, .int (nI i)), (0, .ref (b + 58)), (1, .int (nI q)), (2, .int ln), (3, .int (nI n0))] [] := by
          intro n_5
          induction n_5 with
          | zero => intro L1 i hm_5; exact absurd hm_5 (Nat.not_lt_zero _)
          | succ n_5 ih_5 =>
            intro L1 i hm_5 hinv_5
            obtain ⟨j1, j2, j3, j4⟩ := hinv_5
            refine g_iload hC dX7_sheet_40 0 rfl ?_
            refine g_bipush (v := 24) hC dX7_sheet_42 rfl ?_
            refine g_icmp_ge_T (X := ((i : Nat) : Int)) (Y := 24) hC (nI_toInt (by omega)) rfl 66 dX7_sheet_44 rfl (fun c_6 => ?_) (fun c_6 => ?_)
            · skip
              refine g_iload_n hC dX7_sheet_66 rfl 4 rfl ?_
              refine g_zret (ty := .int) hC rfl rfl dX7_sheet_67 ?_
              have ei : i = 24 := by omega
              subst ei
              have e0 : op_sheet g (nI q) ln (nI n0) = (nI n0, shS g (shU g.2.2.2.2 q ln.toInt n0 (fun _ => 0))) := by unfold op_sheet; rw [if_neg (by omega), if_neg (by omega), qn, n0n]
              exact ⟨_, rfl, by rw [e0], by rw [e0]; exact RS_sh hS (fun r r1 r2 => by rw [fm_upn r2, fm_upn r1]) (sR_set hS.2.2.2.2 (fun r hr hrq => ⟨by rw [fm_upn (by decide), fm_upx hrq], by rw [fm_upx hrq, fm_upn (by decide)], fun i hi => j3 _ (by omega)⟩) (by rw [fm_upn (by decide), fm_ups, oI_of]) (fun _ => ⟨by rw [fm_ups], fun i hi => j4 i hi⟩)), fun r hr => ⟨by rw [fm_upn (by omega), fm_upn (by omega)], j2 r (by omega)⟩⟩
            · skip
              refine g_aload_n hC dX7_sheet_47 rfl 1 rfl ?_
              refine g_getR (ci := 7) (i := 30) (k := 58) (t := 75) hC fm_in7 rfl ly_58 rfl (by decide) fw_650 dX7_sheet_48 ?_
              refine g_bipush (v := 24) hC dX7_sheet_51 rfl ?_
              refine g_iload_n hC dX7_sheet_53 rfl 2 rfl ?_
              refine g_imul hC dX7_sheet_54 ?_
              refine g_top (y := nI (24 * q)) (pk_mul _ _) ?_
              refine g_iload hC dX7_sheet_55 0 rfl ?_
              refine g_iadd hC dX7_sheet_57 ?_
              refine g_top (y := nI ((24 * q) + i)) (nI_add _ _) ?_
              refine g_lconst (v := 0) hC dX7_sheet_58 rfl ?_
              refine g_lastN (j := (24 * q) + i) (k := 75) hC ly_75 rfl (by omega) (by decide) dX7_sheet_59 ?_
              refine g_iinc hC [(4, .int (nI (i + 1))), (0, .ref (b + 58)), (1, .int (nI q)), (2, .int ln), (3, .int (nI n0))] dX7_sheet_60 0 rfl (by rw [show Int32.ofInt 1 = nI 1 from rfl, nI_add]) (by decide) rfl ?_
              refine g_goto hC 40 dX7_sheet_63 rfl ?_
              exact g_sub [0, 1, 2, 3, 4] rfl (ih_5 (fm_upL L1 75 ((24 * q) + i) 0) (i + 1) (by omega) (⟨by omega, fun r hr => (by rw [fm_upLn hr]; exact j2 r hr), fun k hk => (by rw [fm_upLv, if_neg (by omega)]; exact j3 k hk), fun j hj => (by rw [fm_upLv]; by_cases ej : j = i; rw [if_pos (by omega)]; rw [if_neg (by omega)]; exact j4 j (by omega))⟩))
        exact g_sub [0, 1, 2, 3, 4] rfl (lp_40_5 (24 - 0 + 1) L 0 (Nat.lt_succ_self _) (⟨by decide, fun _ _ => rfl, fun _ _ => rfl, fun j hj => absurd hj (Nat.not_lt_zero _)⟩))
      · skip
        refine g_bipush (v := (-14)) hC dX7_sheet_20 rfl ?_
        refine g_zret (ty := .int) hC rfl rfl dX7_sheet_22 ?_
        have e0 : op_sheet g x ln n = (-14, g) := by unfold op_sheet; rw [if_neg (by omega), if_pos (by omega)]
        exact ⟨_, rfl, by rw [e0], by rw [e0]; exact hS, fR_rf⟩
    · skip
      refine g_iconst (v := (-1)) hC dX7_sheet_14 rfl ?_
      refine g_zret (ty := .int) hC rfl rfl dX7_sheet_15 ?_
      have e0 : op_sheet g x ln n = (-1, g) := by unfold op_sheet; rw [if_pos (by omega)]
      exact ⟨_, rfl, by rw [e0], by rw [e0]; exact hS, fR_rf⟩

theorem c_X7_drop (l : Launch) (D : va_G) (cA : Nat → ClassId) (b : Nat) (M : Nat → Nat → Int32) (L : Nat → Nat → Int64) (g : Sg) (x : Int32) (hS : RS M L g) (hok : OK g) : fm_Met l D cA b yX7_drop cX7_drop 2 (some .int) 1 25 0 0 [.ref (b + 58), .int x] LAY M L LAY (fm_pm (fun r M' L' => r = (op_drop g x).1 ∧ RS M' L' (op_drop g x).2 ∧ fR M M' L L')) := by
  refine fm_start RX7 rfl (by decide) (Nat.le_of_ble_eq_true rfl) ?_
  intro pq eq sq mq aq bq tq cq hC hin
  refine g_iload_n hC dX7_drop_0 rfl 1 rfl ?_
  refine g_i2l (v := x.toInt64) hC dX7_drop_1 rfl ?_
  refine g_lconst (v := 0) hC dX7_drop_2 rfl ?_
  refine g_ldc2 (v := 3) hC fw_724 dX7_drop_3 ?_
  refine g_callS hC (as := [.long x.toInt64, .long 0, .long 3]) (rest := []) (c_X7_in l D cA b LAY M L x.toInt64 0 3 x.toInt 0 3 ((ic_w _).trans rfl) rfl rfl) ⟨fw_725, fw_726, fw_9, fw_727⟩ hd_X7_in ⟨Nat.le_of_ble_eq_true rfl, Nat.le_of_ble_eq_true rfl⟩ ⟨Nat.le_of_ble_eq_true rfl, Nat.le_of_ble_eq_true rfl⟩ rfl rfl (Nat.le_of_ble_eq_true rfl) dX7_drop_6 (g_rix ?_)
  refine g_ifb_ne hC 14 dX7_drop_9 rfl (fun c_2 => ?_) (fun c_2 => ?_)
  · skip
    obtain ⟨q, qb, qE⟩ : ∃ j9 : Nat, j9 < 4 ∧ x = nI j9 := ic_of (by omega) (by omega)
    subst qE
    have qt : (nI q).toInt = (q : Int) := nI_toInt (by omega)
    have qn : (nI q).toInt.toNat = q := by omega
    have qs := hS.2.2.2.2 q qb
    have qo := hok.2.2.2.2 q qb
    refine g_aload_n hC dX7_drop_14 rfl 0 rfl ?_
    refine g_getR (ci := 7) (i := 28) (k := 58) (t := 73) hC fm_in7 rfl ly_58 rfl (by decide) fw_648 dX7_drop_15 ?_
    refine g_iload_n hC dX7_drop_18 rfl 1 rfl ?_
    refine g_ialdN (j := q) (k := 73) hC ly_73 rfl (by omega) (by decide) dX7_drop_19 ?_
    refine g_top (y := Int32.ofInt (g.2.2.2.2.1 q)) qs.1 ?_
    refine g_if_ge_T (X := g.2.2.2.2.1 q) hC (oI_t (by omega) (by omega)) 26 dX7_drop_20 rfl (fun c_3 => ?_) (fun c_3 => ?_)
    · skip
      refine g_aload_n hC dX7_drop_26 rfl 0 rfl ?_
      refine g_getR (ci := 7) (i := 28) (k := 58) (t := 73) hC fm_in7 rfl ly_58 rfl (by decide) fw_648 dX7_drop_27 ?_
      refine g_iload_n hC dX7_drop_30 rfl 1 rfl ?_
      refine g_iconst (v := (-1)) hC dX7_drop_31 rfl ?_
      refine g_iastN (j := q) (k := 73) hC ly_73 rfl (by omega) (by decide) dX7_drop_32 ?_
      refine g_aload_n hC dX7_drop_33 rfl 0 rfl ?_
      refine g_getR (ci := 7) (i := 29) (k := 58) (t := 74) hC fm_in7 rfl ly_58 rfl (by decide) fw_649 dX7_drop_34 ?_
      refine g_iload_n hC dX7_drop_37 rfl 1 rfl ?_
      refine g_ialdN (j := q) (k := 74) hC ly_74 rfl (by omega) (by decide) dX7_drop_38 ?_
      refine g_top (y := nI (g.2.2.2.2.2.1 q)) ((by simp [fm_up, fm_row, upd] : (fm_up M 73 q (-1)) 74 q = M 74 q).trans (qs.2 (by omega)).1) ?_
      refine g_zret (ty := .int) hC rfl rfl dX7_drop_39 ?_
      have e0 : op_drop g (nI q) = (nI (g.2.2.2.2.2.1 q), shS g (shU g.2.2.2.2 q (-1) (g.2.2.2.2.2.1 q) (g.2.2.2.2.2.2 q))) := by unfold op_drop; rw [if_neg (by omega), qn, if_neg (by omega)]
      exact ⟨_, rfl, by rw [e0], by rw [e0]; exact RS_sh hS (fun r r1 r2 => by rw [fm_upn r1]) (sR_set hS.2.2.2.2 (fun r hr hrq => ⟨by rw [fm_upx hrq], by rw [fm_upn (by decide)], fun i hi => rfl⟩) (by rw [fm_ups]; rfl) (fun z => absurd z (by decide))), fun r hr => ⟨by rw [fm_upn (by omega)], rfl⟩⟩
    · skip
      refine g_bipush (v := (-11)) hC dX7_drop_23 rfl ?_
      refine g_zret (ty := .int) hC rfl rfl dX7_drop_25 ?_
      have e0 : op_drop g (nI q) = (-11, g) := by unfold op_drop; rw [if_neg (by omega), qn, if_pos (by omega)]
      exact ⟨_, rfl, by rw [e0], by rw [e0]; exact hS, fR_rf⟩
  · skip
    refine g_iconst (v := (-1)) hC dX7_drop_12 rfl ?_
    refine g_zret (ty := .int) hC rfl rfl dX7_drop_13 ?_
    have e0 : op_drop g x = (-1, g) := by unfold op_drop; rw [if_pos (by omega)]
    exact ⟨_, rfl, by rw [e0], by rw [e0]; exact hS, fR_rf⟩

theorem c_X7_item (l : Launch) (D : va_G) (cA : Nat → ClassId) (b : Nat) (M : Nat → Nat → Int32) (L : Nat → Nat → Int64) (g : Sg) (x : Int32) (ln : Int32) (i : Int32) (v : Int64) (hS : RS M L g) (hok : OK g) : fm_Met l D cA b yX7_item cX7_item 7 (some .int) 2 49 0 0 [.ref (b + 58), .int x, .int ln, .int i, .long v] LAY M L LAY (fm_pm (fun r M' L' => r = (op_item g x ln i v).1 ∧ RS M' L' (op_item g x ln i v).2 ∧ fR M M' L L')) := by
  refine fm_start RX7 rfl (by decide) (Nat.le_of_ble_eq_true rfl) ?_
  intro pq eq sq mq aq bq tq cq hC hin
  refine g_iload_n hC dX7_item_0 rfl 1 rfl ?_
  refine g_iload_n hC dX7_item_1 rfl 2 rfl ?_
  refine g_callS hC (as := [.int x, .int ln]) (rest := []) (c_X7_isSheet l D cA b LAY M L x ln x.toInt ln.toInt rfl rfl) ⟨fw_954, fw_955, fw_9, fw_956⟩ hd_X7_isSheet ⟨Nat.le_of_ble_eq_true rfl, Nat.le_of_ble_eq_true rfl⟩ ⟨Nat.le_of_ble_eq_true rfl, Nat.le_of_ble_eq_true rfl⟩ rfl rfl (Nat.le_of_ble_eq_true rfl) dX7_item_2 (g_rix ?_)
  refine g_ifb_ne hC 10 dX7_item_5 rfl (fun c_2 => ?_) (fun c_2 => ?_)
  · skip
    obtain ⟨q, qb, qE⟩ : ∃ j9 : Nat, j9 < 4 ∧ x = nI j9 := ic_of (by omega) (by omega)
    subst qE
    have qt : (nI q).toInt = (q : Int) := nI_toInt (by omega)
    have qn : (nI q).toInt.toNat = q := by omega
    have qs := hS.2.2.2.2 q qb
    have qo := hok.2.2.2.2 q qb
    refine g_aload_n hC dX7_item_10 rfl 0 rfl ?_
    refine g_iload_n hC dX7_item_11 rfl 1 rfl ?_
    refine g_iload_n hC dX7_item_12 rfl 2 rfl ?_
    refine g_iload_n hC dX7_item_13 rfl 3 rfl ?_
    refine g_iconst (v := 1) hC dX7_item_14 rfl ?_
    refine g_callV hC (k := 58) (ci := 7) (as := [.int (nI q), .int ln, .int i, .int 1]) (rest := []) (c_X7_lacksRow l D cA b M L g q ln i 1 hS hok qb (by omega) (by decide)) ⟨fw_965, fw_967, fs_35, fw_9, fw_968⟩ ⟨rfl, hd_X7_lacksRow⟩ rfl ly_58 ⟨Nat.le_of_ble_eq_true rfl, Nat.le_of_ble_eq_true rfl⟩ ⟨Nat.le_of_ble_eq_true rfl, Nat.le_of_ble_eq_true rfl⟩ rfl rfl (Nat.le_of_ble_eq_true rfl) dX7_item_15 (g_rix ?_)
    refine g_istore hC [(6, .int (shR g.2.2.2.2 (nI q).toInt ln.toInt i.toInt 1)), (0, .ref (b + 58)), (1, .int (nI q)), (2, .int ln), (3, .int i), (4, .long v)] dX7_item_18 (by decide) rfl ?_
    refine g_iload hC dX7_item_20 0 rfl ?_
    refine g_if_ge_T (X := (shR g.2.2.2.2 (nI q).toInt ln.toInt i.toInt 1).toInt) hC rfl 28 dX7_item_22 rfl (fun c_4 => ?_) (fun c_4 => ?_)
    · skip
      have c0 : (shR g.2.2.2.2 (nI q).toInt ln.toInt i.toInt 1).toInt = 0 := by have := shR_n g.2.2.2.2 (nI q).toInt ln.toInt i.toInt 1; omega
      obtain ⟨⟨z1, z2⟩, z3, z4, z5⟩ := shR_0 c0
      rw [qn] at z3 z5
      obtain ⟨i0, i0b, i0E⟩ : ∃ j9 : Nat, j9 < 25 ∧ i = nI j9 := ic_of (by omega) (by omega)
      subst i0E
      have i0t : (nI i0).toInt = (i0 : Int) := nI_toInt (by omega)
      have i0n : (nI i0).toInt.toNat = i0 := by omega
      refine g_aload_n hC dX7_item_28 rfl 1 rfl ?_
      refine g_getR (ci := 7) (i := 30) (k := 58) (t := 75) hC fm_in7 rfl ly_58 rfl (by decide) fw_650 dX7_item_29 ?_
      refine g_bipush (v := 24) hC dX7_item_32 rfl ?_
      refine g_iload_n hC dX7_item_34 rfl 2 rfl ?_
      refine g_imul hC dX7_item_35 ?_
      refine g_top (y := nI (24 * q)) (pk_mul _ _) ?_
      refine g_iload_n hC dX7_item_36 rfl 4 rfl ?_
      refine g_iadd hC dX7_item_37 ?_
      refine g_top (y := nI ((24 * q) + i0)) (nI_add _ _) ?_
      refine g_iload_n hC dX7_item_38 rfl 3 rfl ?_
      refine g_lload hC dX7_item_39 5 rfl ?_
      refine g_callS hC (as := [.int ln, .long v]) (rest := [.int (nI ((24 * q) + i0)), .ref (b + 75)]) (c_X7_asLane l D cA b M L ln v) ⟨fw_969, fw_970, fw_9, fw_971⟩ hd_X7_asLane ⟨Nat.le_of_ble_eq_true rfl, Nat.le_of_ble_eq_true rfl⟩ ⟨Nat.le_of_ble_eq_true rfl, Nat.le_of_ble_eq_true rfl⟩ rfl rfl (Nat.le_of_ble_eq_true rfl) dX7_item_41 (g_rl (fun r_5 M_5 L_5 h_5 => ?_))
      obtain ⟨e1_5, e2_5, e3_5⟩ := h_5
      rw [e1_5, e2_5, e3_5]
      refine g_lastN (j := (24 * q) + i0) (k := 75) hC ly_75 rfl (by omega) (by decide) dX7_item_44 ?_
      refine g_iconst (v := 1) hC dX7_item_45 rfl ?_
      refine g_zret (ty := .int) hC rfl rfl dX7_item_46 ?_
      have e0 : op_item g (nI q) ln (nI i0) v = (1, shS g (shU g.2.2.2.2 q (g.2.2.2.2.1 q) (g.2.2.2.2.2.1 q) (fun j => if j = i0 then asL ln.toInt v else g.2.2.2.2.2.2 q j))) := by unfold op_item; rw [if_neg (by omega), qn, i0n]
      exact ⟨_, rfl, by rw [e0], by rw [e0]; exact RS_sh hS (fun r r1 r2 => rfl) (sR_set hS.2.2.2.2 (fun r hr hrq => ⟨rfl, rfl, fun i hi => by rw [fm_upLv, if_neg (by omega)]⟩) qs.1 (fun z => ⟨(qs.2 z).1, fun j hj => (by rw [fm_upLv]; by_cases ej : j = i0; rw [if_pos (by omega), if_pos ej]; rw [if_neg (by omega), if_neg ej]; exact (qs.2 z).2 j hj)⟩)), fun r hr => ⟨rfl, fm_upLn (by omega)⟩⟩
    · skip
      have nz : (shR g.2.2.2.2 (nI q).toInt ln.toInt i.toInt 1).toInt ≠ 0 := by omega
      refine g_iload hC dX7_item_25 0 rfl ?_
      refine g_zret (ty := .int) hC rfl rfl dX7_item_27 ?_
      have e0 : op_item g (nI q) ln i v = (shR g.2.2.2.2 (nI q).toInt ln.toInt i.toInt 1, g) := by unfold op_item; rw [if_pos nz]
      exact ⟨_, rfl, by rw [e0], by rw [e0]; exact hS, fR_rf⟩
  · skip
    refine g_iconst (v := (-1)) hC dX7_item_8 rfl ?_
    refine g_zret (ty := .int) hC rfl rfl dX7_item_9 ?_
    have s1 : shR g.2.2.2.2 x.toInt ln.toInt i.toInt 1 = -1 := by unfold shR; rw [if_pos (by omega)]
    have e0 : op_item g x ln i v = (-1, g) := by unfold op_item; rw [s1]; exact if_pos (by decide)
    exact ⟨_, rfl, by rw [e0], by rw [e0]; exact hS, fR_rf⟩

theorem c_X7_film (l : Launch) (D : va_G) (cA : Nat → ClassId) (b : Nat) (M : Nat → Nat → Int32) (L : Nat → Nat → Int64) (g : Sg) (x : Int32) (ln : Int32) (f : Int32) (hS : RS M L g) (hok : OK g) : fm_Met l D cA b yX7_film cX7_film 6 (some .int) 2 49 0 0 [.ref (b + 58), .int x, .int ln, .int f] LAY M L LAY (fm_pm (fun r M' L' => r = (op_film g x ln f).1 ∧ RS M' L' (op_film g x ln f).2 ∧ fR M M' L L')) := by
  refine fm_start RX7 rfl (by decide) (Nat.le_of_ble_eq_true rfl) ?_
  intro pq eq sq mq aq bq tq cq hC hin
  obtain ⟨⟨n1, n2, n3, v0, v1, v2, v3, v4, v5, v6, v7, v8⟩, hS2⟩ := id hS
  obtain ⟨⟨o1, o2, o3, o4, o5, o6, o7, o8, o9, o10, o11⟩, hok2⟩ := id hok
  refine g_iload_n hC dX7_film_0 rfl 1 rfl ?_
  refine g_iload_n hC dX7_film_1 rfl 2 rfl ?_
  refine g_callS hC (as := [.int x, .int ln]) (rest := []) (c_X7_isSheet l D cA b LAY M L x ln x.toInt ln.toInt rfl rfl) ⟨fw_954, fw_955, fw_9, fw_956⟩ hd_X7_isSheet ⟨Nat.le_of_ble_eq_true rfl, Nat.le_of_ble_eq_true rfl⟩ ⟨Nat.le_of_ble_eq_true rfl, Nat.le_of_ble_eq_true rfl⟩ rfl rfl (Nat.le_of_ble_eq_true rfl) dX7_film_2 (g_rix ?_)
  refine g_ifb_ne hC 10 dX7_film_5 rfl (fun c_2 => ?_) (fun c_2 => ?_)
  · skip
    obtain ⟨q, qb, qE⟩ : ∃ j9 : Nat, j9 < 4 ∧ x = nI j9 := ic_of (by omega) (by omega)
    subst qE
    have qt : (nI q).toInt = (q : Int) := nI_toInt (by omega)
    have qn : (nI q).toInt.toNat = q := by omega
    have qs := hS.2.2.2.2 q qb
    have qo := hok.2.2.2.2 q qb
    refine g_aload_n hC dX7_film_10 rfl 0 rfl ?_
    refine g_iload_n hC dX7_film_11 rfl 1 rfl ?_
    refine g_iload_n hC dX7_film_12 rfl 2 rfl ?_
    refine g_iload_n hC dX7_film_13 rfl 3 rfl ?_
    refine g_bipush (v := 24) hC dX7_film_14 rfl ?_
    refine g_callV hC (k := 58) (ci := 7) (as := [.int (nI q), .int ln, .int f, .int 24]) (rest := []) (c_X7_lacksRow l D cA b M L g q ln f 24 hS hok qb (by omega) (by decide)) ⟨fw_965, fw_967, fs_35, fw_9, fw_968⟩ ⟨rfl, hd_X7_lacksRow⟩ rfl ly_58 ⟨Nat.le_of_ble_eq_true rfl, Nat.le_of_ble_eq_true rfl⟩ ⟨Nat.le_of_ble_eq_true rfl, Nat.le_of_ble_eq_true rfl⟩ rfl rfl (Nat.le_of_ble_eq_true rfl) dX7_film_16 (g_rix ?_)
    refine g_istore hC [(4, .int (shR g.2.2.2.2 (nI q).toInt ln.toInt f.toInt 24)), (0, .ref (b + 58)), (1, .int (nI q)), (2, .int ln), (3, .int f)] dX7_film_19 (by decide) rfl ?_
    refine g_iload hC dX7_film_21 0 rfl ?_
    refine g_if_ge_T (X := (shR g.2.2.2.2 (nI q).toInt ln.toInt f.toInt 24).toInt) hC rfl 29 dX7_film_23 rfl (fun c_4 => ?_) (fun c_4 => ?_)
    · skip
      have c0 : (shR g.2.2.2.2 (nI q).toInt ln.toInt f.toInt 24).toInt = 0 := by have := shR_n g.2.2.2.2 (nI q).toInt ln.toInt f.toInt 24; omega
      obtain ⟨⟨z1, z2⟩, z3, z4, z5⟩ := shR_0 c0
      rw [qn] at z3 z5
      obtain ⟨f0, f0b, f0E⟩ : ∃ j9 : Nat, j9 < 25 ∧ f = nI j9 := ic_of (by omega) (by omega)
      subst f0E
      have f0t : (nI f0).toInt = (f0 : Int) := nI_toInt (by omega)
      have f0n : (nI f0).toInt.toNat = f0 := by omega
      refine g_iconst (v := 0) hC dX7_film_29 rfl ?_
      refine g_istore hC [(5, .int 0), (4, .int (shR g.2.2.2.2 (nI q).toInt ln.toInt (nI f0).toInt 24)), (0, .ref (b + 58)), (1, .int (nI q)), (2, .int ln), (3, .int (nI f0))] dX7_film_30 (by decide) rfl ?_
      have lp_32_5 : ∀ (n_5 : Nat) (L1 : Nat → Nat → Int64) (i : Nat), 24 - i < n_5 → (i ≤ 24 ∧ (∀ r, r ≠ 75 → L1 r = L r) ∧ (∀ k, ¬ (24 * q ≤ k ∧ k < 24 * q + 24) → L1 75 k = L 75 k) ∧ (∀ j, j < 24 → L1 75 (24 * q + j) = if f0 ≤ j ∧ j < f0 + i then (Int32.ofInt (g.1.2.1 (j - f0))).toInt64 else L 75 (24 * q + j))) → fm_G pq l eq (fm_rm 2 49 0 0) sq mq aq bq tq cq D cA b 6 (MQ bq (fm_Q D cA b LAY (fm_pm (fun r M' L' => r = (op_film g (nI q) ln (nI f0)).1 ∧ RS M' L' (op_film g (nI q) ln (nI f0)).2 ∧ fR M M' L L'))) aq sq 0 0 (fun q => b ≤ q)) LAY M L1 0 0 32 [(5, .int (nI i)), (4, .int (shR g.2.2.2.2 (nI q).toInt ln.toInt (nI f0).toInt 24)), (0, .ref (b + 58)), (1, .int (nI q)), (2, .int ln), (3, .int (nI f0))] [] := by
        intro n_5
        induction n_5 with
        | zero => intro L1 i hm_5; exact absurd hm_5 (Nat.not_lt_zero _)
        | succ n_5 ih_5 =>
          intro L1 i hm_5 hinv_5
          obtain ⟨j1, j2, j3, j4⟩ := hinv_5
          refine g_iload hC dX7_film_32 0 rfl ?_
          refine g_bipush (v := 24) hC dX7_film_34 rfl ?_
          refine g_icmp_ge_T (X := ((i : Nat) : Int)) (Y := 24) hC (nI_toInt (by omega)) rfl 67 dX7_film_36 rfl (fun c_6 => ?_) (fun c_6 => ?_)
          · skip
            refine g_bipush (v := 24) hC dX7_film_67 rfl ?_
            refine g_zret (ty := .int) hC rfl rfl dX7_film_69 ?_
            have ei : i = 24 := by omega
            subst ei
            have e0 : op_film g (nI q) ln (nI f0) = (24, shS g (shU g.2.2.2.2 q (g.2.2.2.2.1 q) (g.2.2.2.2.2.1 q) (fun j => if f0 ≤ j ∧ j < f0 + 24 then (Int32.ofInt (g.1.2.1 (j - f0))).toInt64 else g.2.2.2.2.2.2 q j))) := by unfold op_film; rw [if_neg (by omega), qn, f0n]
            exact ⟨_, rfl, by rw [e0], by rw [e0]; exact RS_sh hS (fun r r1 r2 => rfl) (sR_set hS.2.2.2.2 (fun r hr hrq => ⟨rfl, rfl, fun i hi => j3 _ (by omega)⟩) qs.1 (fun z => ⟨(qs.2 z).1, fun j hj => (by rw [j4 j hj, (qs.2 z).2 j hj])⟩)), fun r hr => ⟨rfl, j2 r (by omega)⟩⟩
          · skip
            refine g_aload_n hC dX7_film_39 rfl 2 rfl ?_
            refine g_getR (ci := 7) (i := 30) (k := 58) (t := 75) hC fm_in7 rfl ly_58 rfl (by decide) fw_650 dX7_film_40 ?_
            refine g_bipush (v := 24) hC dX7_film_43 rfl ?_
            refine g_iload_n hC dX7_film_45 rfl 3 rfl ?_
            refine g_imul hC dX7_film_46 ?_
            refine g_top (y := nI (24 * q)) (pk_mul _ _) ?_
            refine g_iload_n hC dX7_film_47 rfl 5 rfl ?_
            refine g_iadd hC dX7_film_48 ?_
            refine g_top (y := nI ((24 * q) + f0)) (nI_add _ _) ?_
            refine g_iload hC dX7_film_49 0 rfl ?_
            refine g_iadd hC dX7_film_51 ?_
            refine g_top (y := nI (((24 * q) + f0) + i)) (nI_add _ _) ?_
            refine g_aload_n hC dX7_film_52 rfl 2 rfl ?_
            refine g_getR (ci := 7) (i := 9) (k := 58) (t := 66) hC fm_in7 rfl ly_58 rfl (by decide) fw_629 dX7_film_53 ?_
            refine g_iload hC dX7_film_56 0 rfl ?_
            refine g_ialdN (j := i) (k := 66) hC ly_66 rfl (by omega) (by decide) dX7_film_58 ?_
            refine g_top (y := Int32.ofInt (g.1.2.1 i)) (n3 i (by omega)).2 ?_
            refine g_i2l (v := (Int32.ofInt (g.1.2.1 i)).toInt64) hC dX7_film_59 rfl ?_
            refine g_lastN (j := ((24 * q) + f0) + i) (k := 75) hC ly_75 rfl (by omega) (by decide) dX7_film_60 ?_
            refine g_iinc hC [(5, .int (nI (i + 1))), (4, .int (shR g.2.2.2.2 (nI q).toInt ln.toInt (nI f0).toInt 24)), (0, .ref (b + 58)), (1, .int (nI q)), (2, .int ln), (3, .int (nI f0))] dX7_film_61 0 rfl (by rw [show Int32.ofInt 1 = nI 1 from rfl, nI_add]) (by decide) rfl ?_
            refine g_goto hC 32 dX7_film_64 rfl ?_
            exact g_sub [0, 1, 2, 3, 4, 5] rfl (ih_5 (fm_upL L1 75 (((24 * q) + f0) + i) ((Int32.ofInt (g.1.2.1 i)).toInt64)) (i + 1) (by omega) (⟨by omega, fun r hr => (by rw [fm_upLn hr]; exact j2 r hr), fun k hk => (by rw [fm_upLv, if_neg (by omega)]; exact j3 k hk), fun j hj => (by rw [fm_upLv]; by_cases ej : j = f0 + i; rw [if_pos (by omega), if_pos (by omega), show j - f0 = i by omega]; rw [if_neg (by omega), j4 j hj]; by_cases e2 : f0 ≤ j ∧ j < f0 + i; rw [if_pos e2, if_pos (by omega)]; rw [if_neg e2, if_neg (by omega)])⟩))
      exact g_sub [0, 1, 2, 3, 4, 5] rfl (lp_32_5 (24 - 0 + 1) L 0 (Nat.lt_succ_self _) (⟨by decide, fun _ _ => rfl, fun _ _ => rfl, fun j hj => (by rw [if_neg (by omega)])⟩))
    · skip
      have nz : (shR g.2.2.2.2 (nI q).toInt ln.toInt f.toInt 24).toInt ≠ 0 := by omega
      refine g_iload hC dX7_film_26 0 rfl ?_
      refine g_zret (ty := .int) hC rfl rfl dX7_film_28 ?_
      have e0 : op_film g (nI q) ln f = (shR g.2.2.2.2 (nI q).toInt ln.toInt f.toInt 24, g) := by unfold op_film; rw [if_pos nz]
      exact ⟨_, rfl, by rw [e0], by rw [e0]; exact hS, fR_rf⟩
  · skip
    refine g_iconst (v := (-1)) hC dX7_film_8 rfl ?_
    refine g_zret (ty := .int) hC rfl rfl dX7_film_9 ?_
    have s1 : shR g.2.2.2.2 x.toInt ln.toInt f.toInt 24 = -1 := by unfold shR; rw [if_pos (by omega)]
    have e0 : op_film g x ln f = (-1, g) := by unfold op_film; rw [s1]; exact if_pos (by decide)
    exact ⟨_, rfl, by rw [e0], by rw [e0]; exact hS, fR_rf⟩
