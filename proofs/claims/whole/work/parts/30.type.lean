/-! ===== type ===== -/
theorem sh_u : ∀ i, i < 8 → ((nI (8 * i)).toInt64.toUInt64 &&& Int64.toUInt64 63) = UInt64.ofNat (8 * i) := by decide +kernel
theorem sh_s : ∀ i, i < 8 → ((nI (8 * i)).toInt64 &&& 63) = Int64.ofNat (8 * i) := by decide +kernel
theorem sh_a : ∀ i, i < 8 → ((UInt64.ofNat (8 * i)) % 64).toBitVec.toNat = 8 * i := by decide +kernel
theorem sh_b : ∀ i, i < 8 → ((Int64.ofNat (8 * i)).toBitVec.smod 64#64).toNat = 8 * i := by decide +kernel
theorem by_c (w : Int64) {i : Nat} (hi : i < 8) : (((w.toUInt64 >>> UInt64.ofNat (8 * i)).toInt64).toInt32 &&& 255).toBitVec.toNat = (w.toBitVec.toNat >>> (8 * i)) % 256 := by
  have e1 : (w.toUInt64 >>> UInt64.ofNat (8 * i)).toBitVec.toNat = w.toBitVec.toNat >>> (8 * i) := by
    show (w.toBitVec >>> ((UInt64.ofNat (8 * i)) % 64).toBitVec).toNat = _
    rw [BitVec.ushiftRight_eq', BitVec.toNat_ushiftRight, sh_a i hi]
  show (((w.toUInt64 >>> UInt64.ofNat (8 * i)).toBitVec.signExtend 32) &&& 255#32).toNat = _
  rw [BitVec.signExtend_eq_setWidth_of_le _ (by decide), BitVec.toNat_and, BitVec.toNat_setWidth, e1]
  show _ &&& (2 ^ 8 - 1) = _
  rw [Nat.and_two_pow_sub_one_eq_mod]
  omega
theorem by_r (w : Int64) {i : Nat} (hi : i < 8) : ((w >>> (Int64.ofNat (8 * i))) &&& 255).toBitVec.toNat = (w.toBitVec.toNat >>> (8 * i)) % 256 := by
  have hv : (w >>> (Int64.ofNat (8 * i))).toBitVec = w.toBitVec.sshiftRight (8 * i) := by
    show w.toBitVec.sshiftRight' ((Int64.ofNat (8 * i)).toBitVec.smod 64#64) = _
    rw [BitVec.sshiftRight_eq', sh_b i hi]
  show ((w >>> (Int64.ofNat (8 * i))).toBitVec &&& 255#64).toNat = _
  rw [hv, BitVec.toNat_and]
  show _ &&& (2 ^ 8 - 1) = _
  rw [Nat.and_two_pow_sub_one_eq_mod]
  refine Nat.eq_of_testBit_eq fun j => ?_
  rw [Nat.testBit_mod_two_pow, show (256 : Nat) = 2 ^ 8 from rfl, Nat.testBit_mod_two_pow, Nat.testBit_shiftRight]
  by_cases hj : j < 8
  · simp only [hj, decide_true, Bool.true_and]
    show (w.toBitVec.sshiftRight (8 * i)).getLsbD j = w.toBitVec.getLsbD (8 * i + j)
    rw [BitVec.getLsbD_sshiftRight]
    have : ¬ 64 ≤ j := by omega
    simp [this, show 8 * i + j < 64 by omega]
  · simp [hj]
theorem by_ex : ∃ f : Int64 → Nat → Nat, ∀ w i, i < 8 → f w i < 256 ∧ ((w.toUInt64 >>> ((nI (8 * i)).toInt64.toUInt64 &&& Int64.toUInt64 63)).toInt64).toInt32 &&& 255 = nI (f w i) ∧ ((w >>> ((nI (8 * i)).toInt64 &&& 63)) &&& 255).toInt = (f w i : Int) ∧ ((w >>> ((nI (8 * i)).toInt64 &&& 63)) &&& 255).toInt32 = nI (f w i) := by
  refine ⟨fun w i => (w.toBitVec.toNat >>> (8 * i)) % 256, fun w i hi => ?_⟩
  have h1 := by_c w hi
  have h2 := by_r w hi
  have hb : (w.toBitVec.toNat >>> (8 * i)) % 256 < 256 := Nat.mod_lt _ (by decide)
  dsimp only
  rw [sh_u i hi, sh_s i hi]
  generalize (w.toBitVec.toNat >>> (8 * i)) % 256 = n at h1 h2 hb
  have e2 : ((w >>> (Int64.ofNat (8 * i))) &&& 255).toInt = (n : Int) := by
    show ((w >>> (Int64.ofNat (8 * i))) &&& 255).toBitVec.toInt = _
    rw [BitVec.toInt_eq_toNat_of_lt (by omega), h2]
  refine ⟨hb, ?_, e2, ?_⟩
  · rw [ic_eq, nI_oI, oI_t (by omega) (by omega)]
    show (((w.toUInt64 >>> UInt64.ofNat (8 * i)).toInt64).toInt32 &&& 255).toBitVec.toInt = _
    rw [BitVec.toInt_eq_toNat_of_lt (by omega), h1]
  · rw [ic_eq, nI_oI, oI_t (by omega) (by omega), Int64.toInt_toInt32, e2, Int.bmod_eq_of_le (by omega) (by omega)]
noncomputable def byN : Int64 → Nat → Nat := Classical.choose by_ex
theorem by_lt (w : Int64) {i : Nat} (hi : i < 8) : byN w i < 256 := (Classical.choose_spec by_ex w i hi).1
theorem by_1 (w : Int64) {i : Nat} (hi : i < 8) : ((w.toUInt64 >>> ((nI (8 * i)).toInt64.toUInt64 &&& Int64.toUInt64 63)).toInt64).toInt32 &&& 255 = nI (byN w i) := (Classical.choose_spec by_ex w i hi).2.1
theorem by_2 (w : Int64) {i : Nat} (hi : i < 8) : ((w >>> ((nI (8 * i)).toInt64 &&& 63)) &&& 255).toInt = (byN w i : Int) := (Classical.choose_spec by_ex w i hi).2.2.1
theorem by_3 (w : Int64) {i : Nat} (hi : i < 8) : ((w >>> ((nI (8 * i)).toInt64 &&& 63)) &&& 255).toInt32 = nI (byN w i) := (Classical.choose_spec by_ex w i hi).2.2.2
noncomputable def tyF (T : Nat × (Nat → Nat)) (w : Int64) (n : Nat) : Nat → Nat := fun k => if k < T.1 then T.2 k else byN w (n - 1 - (k - T.1))
noncomputable def op_type (g : Sg) (w : Int64) (n : Int32) : Int32 × Sg := if 1 ≤ n.toInt ∧ n.toInt ≤ 8 then (if ∀ i, i < n.toInt.toNat → 32 ≤ byN w i ∧ byN w i ≤ 126 then (if g.2.2.2.1.1 + n.toInt.toNat ≤ 140 then (nI (g.2.2.2.1.1 + n.toInt.toNat), (g.1, g.2.1, g.2.2.1, (g.2.2.2.1.1 + n.toInt.toNat, tyF g.2.2.2.1 w n.toInt.toNat), g.2.2.2.2)) else (-3, g)) else (-1, g)) else (-1, g)
theorem ty_1 {g : Sg} {w : Int64} {n : Int32} (h : ¬ (1 ≤ n.toInt ∧ n.toInt ≤ 8)) : op_type g w n = (-1, g) := by unfold op_type; rw [if_neg h]
theorem ty_2 {g : Sg} {w : Int64} {n : Int32} (h : 1 ≤ n.toInt ∧ n.toInt ≤ 8) {i : Nat} (hi : i < n.toInt.toNat) (hb : ¬ (32 ≤ byN w i ∧ byN w i ≤ 126)) : op_type g w n = (-1, g) := by
  unfold op_type; rw [if_pos h, if_neg (fun q => hb (q i hi))]
theorem ty_3 {g : Sg} {w : Int64} {n : Int32} (h : 1 ≤ n.toInt ∧ n.toInt ≤ 8) (hb : ∀ i, i < n.toInt.toNat → 32 ≤ byN w i ∧ byN w i ≤ 126) (hf : ¬ g.2.2.2.1.1 + n.toInt.toNat ≤ 140) : op_type g w n = (-3, g) := by
  unfold op_type; rw [if_pos h, if_pos hb, if_neg hf]
theorem ty_4 {g : Sg} {w : Int64} {n : Int32} (h : 1 ≤ n.toInt ∧ n.toInt ≤ 8) (hb : ∀ i, i < n.toInt.toNat → 32 ≤ byN w i ∧ byN w i ≤ 126) (hf : g.2.2.2.1.1 + n.toInt.toNat ≤ 140) : op_type g w n = (nI (g.2.2.2.1.1 + n.toInt.toNat), (g.1, g.2.1, g.2.2.1, (g.2.2.2.1.1 + n.toInt.toNat, tyF g.2.2.2.1 w n.toInt.toNat), g.2.2.2.2)) := by
  unfold op_type; rw [if_pos h, if_pos hb, if_pos hf]
theorem n_m1 {n : Int32} (h : 0 ≤ n.toInt) : n - 1 = nI n.toInt.toNat + (-1) :=
  (Int32.sub_eq_add_neg n 1).trans (congrArg (fun z => z + (-1)) (ic_nI h))
theorem c_b : ∀ x, x < 256 → ((nI x).toUInt32 % 65536).toInt32 = nI x := by decide +kernel
theorem c_nar : ∀ x, x < 256 → vp_nar .char (nI x) = nI x := by decide +kernel
theorem n140 {n : Int32} (h1 : 0 ≤ n.toInt) (h2 : n.toInt ≤ 8) : (140 - n).toInt = 140 - n.toInt := by
  rw [← oI_of n, show (140 : Int32) = Int32.ofInt 140 from rfl, oI_sub, oI_t (by omega) (by omega), oI_t (by omega) (by omega)]

theorem c_X6_byteOf (l : Launch) (D : va_G) (cA : Nat → ClassId) (b : Nat) (M : Nat → Nat → Int32) (L : Nat → Nat → Int64) (w : Int64) (i : Nat) (hi : i < 8) : fm_Met l D cA b yX6_byteOf cX6_byteOf 3 (some .int) 0 0 0 0 [.long w, .int (nI i)] LAY M L LAY (fm_pi (nI (byN w i)) M L) := by
  refine fm_start RX6 rfl (by decide) (Nat.le_of_ble_eq_true rfl) ?_
  intro pq eq sq mq aq bq tq cq hC hin
  refine g_lload_n hC dX6_byteOf_0 rfl 0 rfl ?_
  refine g_bipush (v := 8) hC dX6_byteOf_1 rfl ?_
  refine g_iload_n hC dX6_byteOf_3 rfl 1 rfl ?_
  refine g_imul hC dX6_byteOf_4 ?_
  refine g_top (y := nI (8 * i)) (pk_mul _ _) ?_
  refine g_lushr (v := (w.toUInt64 >>> ((nI (8 * i)).toInt64.toUInt64 &&& Int64.toUInt64 63)).toInt64) hC dX6_byteOf_5 rfl ?_
  refine g_l2i (v := ((w.toUInt64 >>> ((nI (8 * i)).toInt64.toUInt64 &&& Int64.toUInt64 63)).toInt64).toInt32) hC dX6_byteOf_6 rfl ?_
  refine g_sipush (v := 255) hC dX6_byteOf_7 rfl ?_
  refine g_iand hC dX6_byteOf_10 ?_
  refine g_top (y := nI (byN w i)) (by_1 w hi) ?_
  refine g_zret (ty := .int) hC rfl rfl dX6_byteOf_11 ⟨congrArg (fun z => some (Value.int z)) ?_, rfl, rfl⟩
  rfl

theorem c_X4_add (l : Launch) (D : va_G) (cA : Nat → ClassId) (b : Nat) (M : Nat → Nat → Int32) (L : Nat → Nat → Int64) (x : Nat) (n : Nat) (hx : x < 256) (hn : M 29 1 = nI n) (hn2 : n < 140) : fm_Met l D cA b yX4_add cX4_add 2 none 0 0 0 0 [.ref (b + 29), .int (nI x)] LAY M L LAY (fm_pvx (fm_up (fm_up M 30 n (nI x)) 29 1 (nI (n + 1))) L) := by
  refine fm_start RX4 rfl (by decide) (Nat.le_of_ble_eq_true rfl) ?_
  intro pq eq sq mq aq bq tq cq hC hin
  refine g_aload_n hC dX4_add_0 rfl 0 rfl ?_
  refine g_getI (ci := 4) (i := 1) (k := 29) hC fm_in4 rfl ly_29 rfl (by decide) fw_122 dX4_add_1 ?_
  refine g_top (y := nI n) hn ?_
  refine g_sipush (v := 140) hC dX4_add_4 rfl ?_
  refine g_icmp_ge_T (X := ((n : Nat) : Int)) (Y := 140) hC (nI_toInt (by omega)) rfl 31 dX4_add_7 rfl (fun c_1 => ?_) (fun c_1 => ?_)
  · skip
    refine g_vret hC rfl dX4_add_31 ?_
    exfalso; omega
  · skip
    refine g_aload_n hC dX4_add_10 rfl 0 rfl ?_
    refine g_getR (ci := 4) (i := 0) (k := 29) (t := 30) hC fm_in4 rfl ly_29 rfl (by decide) fw_121 dX4_add_11 ?_
    refine g_aload_n hC dX4_add_14 rfl 0 rfl ?_
    refine g_getI (ci := 4) (i := 1) (k := 29) hC fm_in4 rfl ly_29 rfl (by decide) fw_122 dX4_add_15 ?_
    refine g_top (y := nI n) hn ?_
    refine g_iload_n hC dX4_add_18 rfl 1 rfl ?_
    refine g_i2c (v := ((nI x).toUInt32 % 65536).toInt32) hC dX4_add_19 rfl ?_
    refine g_top (y := nI x) (c_b x hx) ?_
    refine g_castN (j := n) (k := 30) hC ly_30 rfl (by omega) (by decide) (c_nar x hx) dX4_add_20 ?_
    refine g_aload_n hC dX4_add_21 rfl 0 rfl ?_
    refine g_dup hC dX4_add_22 rfl ?_
    refine g_getI (ci := 4) (i := 1) (k := 29) hC fm_in4 rfl ly_29 rfl (by decide) fw_122 dX4_add_23 ?_
    refine g_top (y := nI n) ((by simp [fm_up, fm_row, upd] : (fm_up M 30 n (nI x)) 29 1 = M 29 1).trans hn) ?_
    refine g_iconst (v := 1) hC dX4_add_26 rfl ?_
    refine g_iadd hC dX4_add_27 ?_
    refine g_top (y := nI (n + 1)) (nI_add _ _) ?_
    refine g_putI (ci := 4) (i := 1) (k := 29) hC fm_in4 tyX4 tyX4_ok nmX4 rfl ly_29 rfl (by decide) fw_122 rfl rfl rfl dX4_add_28 ?_
    refine g_vret hC rfl dX4_add_31 ?_
    exact ⟨rfl, rfl, rfl⟩

theorem c_X6_type (l : Launch) (D : va_G) (cA : Nat → ClassId) (b : Nat) (M : Nat → Nat → Int32) (L : Nat → Nat → Int64) (g : Sg) (w : Int64) (n : Int32) (hS : CS M L g) (hok : OK g) : fm_Met l D cA b yX6_type cX6_type 5 (some .int) 1 22 0 0 [.ref (b + 0), .long w, .int n] LAY M L LAY (fm_pm (fun r M' L' => r = (op_type g w n).1 ∧ CS M' L' (op_type g w n).2 ∧ fC M M' L L')) := by
  refine fm_start RX6 rfl (by decide) (Nat.le_of_ble_eq_true rfl) ?_
  intro pq eq sq mq aq bq tq cq hC hin
  obtain ⟨⟨n1, n2, n3, v0, v1, v2, v3, v4, v5, v6, v7, v8⟩, hS2⟩ := id hS
  obtain ⟨⟨o1, o2, o3, o4, o5, o6, o7, o8, o9, o10, o11⟩, hok2⟩ := id hok
  obtain ⟨tp1, tp2⟩ := hS.2.2.2.1
  have tq1 : g.2.2.2.1.1 ≤ 140 := hok.2.2.2.1.1
  have nr := ic_rng n
  refine g_iload_n hC dX6_type_0 rfl 2 rfl ?_
  refine g_iconst (v := 1) hC dX6_type_1 rfl ?_
  refine g_icmp_lt_T (X := n.toInt) (Y := 1) hC rfl rfl 11 dX6_type_2 rfl (fun c_1 => ?_) (fun c_1 => ?_)
  · skip
    refine g_iconst (v := (-1)) hC dX6_type_11 rfl ?_
    refine g_zret (ty := .int) hC rfl rfl dX6_type_12 ?_
    have e0 := ty_1 (g := g) (w := w) (n := n) (by omega)
    exact ⟨_, rfl, by rw [e0], by rw [e0]; exact hS, fC_rf⟩
  · skip
    refine g_iload_n hC dX6_type_5 rfl 2 rfl ?_
    refine g_bipush (v := 8) hC dX6_type_6 rfl ?_
    refine g_icmp_le_T (X := n.toInt) (Y := 8) hC rfl rfl 13 dX6_type_8 rfl (fun c_2 => ?_) (fun c_2 => ?_)
    · skip
      refine g_iconst (v := 0) hC dX6_type_13 rfl ?_
      refine g_istore hC [(4, .int 0), (0, .ref (b + 0)), (1, .long w), (3, .int n)] dX6_type_14 (by decide) rfl ?_
      have lp_16_3 : ∀ (n_3 : Nat) (i : Nat), 8 - i < n_3 → (i ≤ n.toInt.toNat ∧ ∀ j, j < i → 32 ≤ byN w j ∧ byN w j ≤ 126) → fm_G pq l eq (fm_rm 1 22 0 0) sq mq aq bq tq cq D cA b 5 (MQ bq (fm_Q D cA b LAY (fm_pm (fun r M' L' => r = (op_type g w n).1 ∧ CS M' L' (op_type g w n).2 ∧ fC M M' L L'))) aq sq 0 0 (fun q => b ≤ q)) LAY M L 0 0 16 [(0, .ref (b + 0)), (1, .long w), (3, .int n), (4, .int (nI i))] [] := by
        intro n_3
        induction n_3 with
        | zero => intro i hm_3; exact absurd hm_3 (Nat.not_lt_zero _)
        | succ n_3 ih_3 =>
          intro i hm_3 hinv_3
          obtain ⟨i1, i2⟩ := hinv_3
          refine g_iload hC dX6_type_16 3 rfl ?_
          refine g_iload_n hC dX6_type_18 rfl 2 rfl ?_
          refine g_icmp_ge_T (X := ((i : Nat) : Int)) (Y := n.toInt) hC (nI_toInt (by omega)) rfl 42 dX6_type_19 rfl (fun c_4 => ?_) (fun c_4 => ?_)
          · skip
            refine g_aload_n hC dX6_type_42 rfl 0 rfl ?_
            refine g_getR (ci := 6) (i := 3) (k := 0) (t := 29) hC fm_in6 rfl ly_0 rfl (by decide) fw_199 dX6_type_43 ?_
            refine g_getI (ci := 4) (i := 1) (k := 29) hC fm_in4 rfl ly_29 rfl (by decide) fw_123 dX6_type_46 ?_
            refine g_top (y := nI g.2.2.2.1.1) tp1 ?_
            refine g_sipush (v := 140) hC dX6_type_49 rfl ?_
            refine g_iload_n hC dX6_type_52 rfl 2 rfl ?_
            refine g_isub hC dX6_type_53 ?_
            refine g_top (y := 140 - n) rfl ?_
            refine g_icmp_le_T (X := ((g.2.2.2.1.1 : Nat) : Int)) (Y := 140 - n.toInt) hC (nI_toInt (by omega)) (n140 (by omega) (by omega)) 60 dX6_type_54 rfl (fun c_5 => ?_) (fun c_5 => ?_)
            · skip
              refine g_iload_n hC dX6_type_60 rfl 2 rfl ?_
              refine g_iconst (v := 1) hC dX6_type_61 rfl ?_
              refine g_isub hC dX6_type_62 ?_
              refine g_top (y := nI n.toInt.toNat + (-1)) (n_m1 (by omega)) ?_
              refine g_istore hC [(4, .int (nI n.toInt.toNat + (-1))), (0, .ref (b + 0)), (1, .long w), (3, .int n)] dX6_type_63 (by decide) rfl ?_
              have lp_65_6 : ∀ (n_6 : Nat) (M1 : Nat → Nat → Int32) (k : Nat), k < n_6 → (k ≤ n.toInt.toNat ∧ (∀ q, q ≠ 29 → q ≠ 30 → M1 q = M q) ∧ M1 29 1 = nI (g.2.2.2.1.1 + (n.toInt.toNat - k)) ∧ (∀ j, j < (g.2.2.2.1.1 + (n.toInt.toNat - k)) → M1 30 j = nI (tyF g.2.2.2.1 w n.toInt.toNat j))) → fm_G pq l eq (fm_rm 1 22 0 0) sq mq aq bq tq cq D cA b 5 (MQ bq (fm_Q D cA b LAY (fm_pm (fun r M' L' => r = (op_type g w n).1 ∧ CS M' L' (op_type g w n).2 ∧ fC M M' L L'))) aq sq 0 0 (fun q => b ≤ q)) LAY M1 L 0 0 65 [(0, .ref (b + 0)), (1, .long w), (3, .int n), (4, .int (nI k + (-1)))] [] := by
                intro n_6
                induction n_6 with
                | zero => intro M1 k hm_6; exact absurd hm_6 (Nat.not_lt_zero _)
                | succ n_6 ih_6 =>
                  intro M1 k hm_6 hinv_6
                  obtain ⟨j1, j2, j3, j4⟩ := hinv_6
                  refine g_iload hC dX6_type_65 3 rfl ?_
                  refine g_if_lt_T (X := ((k : Nat) : Int) - 1) hC (m1_t (by omega)) 89 dX6_type_67 rfl (fun c_7 => ?_) (fun c_7 => ?_)
                  · skip
                    refine g_aload_n hC dX6_type_89 rfl 0 rfl ?_
                    refine g_getR (ci := 6) (i := 3) (k := 0) (t := 29) hC fm_in6 rfl ly_0 rfl (by decide) fw_199 dX6_type_90 ?_
                    refine g_getI (ci := 4) (i := 1) (k := 29) hC fm_in4 rfl ly_29 rfl (by decide) fw_123 dX6_type_93 ?_
                    refine g_top (y := nI (g.2.2.2.1.1 + (n.toInt.toNat - k))) j3 ?_
                    refine g_zret (ty := .int) hC rfl rfl dX6_type_96 ?_
                    have ek : k = 0 := by omega
                    subst ek
                    have e0 := ty_4 (g := g) (w := w) (n := n) (by omega) (fun j hj => i2 j (by omega)) (by omega)
                    refine ⟨_, rfl, by rw [e0, Nat.sub_zero], ?_, fun q hq => ⟨j2 q (by omega) (by omega), rfl⟩⟩
                    rw [e0]
                    refine ⟨tC_cong hS.1 o4 (fun q q1 q2 => j2 q (by omega) (by omega)), fun q => tC_cong (hS.2.1 q) (hok.2.1 q).2.2.2.1 (fun q q1 q2 => j2 q (by omega) (by omega)), by rw [j2 0 (by omega) (by omega)]; exact hS.2.2.1, ⟨j3, fun i hi => ?_⟩, sC_cong hS.2.2.2.2 (fun q q1 q2 => ⟨j2 q (by omega) (by omega), rfl⟩)⟩
                    exact j4 i (by have : i < g.2.2.2.1.1 + n.toInt.toNat := hi; omega)
                  · skip
                    obtain ⟨h, rfl⟩ : ∃ h, k = h + 1 := ⟨k - 1, by omega⟩
                    rw [pk_m1 h]
                    refine g_aload_n hC dX6_type_70 rfl 0 rfl ?_
                    refine g_getR (ci := 6) (i := 3) (k := 0) (t := 29) hC fm_in6 rfl ly_0 rfl (by decide) fw_199 dX6_type_71 ?_
                    refine g_lload_n hC dX6_type_74 rfl 1 rfl ?_
                    refine g_iload hC dX6_type_75 3 rfl ?_
                    refine g_callS hC (as := [.long w, .int (nI h)]) (rest := [.ref (b + 29)]) (c_X6_byteOf l D cA b M1 L w h (by omega)) ⟨fw_299, fw_300, fw_1, fw_301⟩ hd_X6_byteOf ⟨Nat.le_of_ble_eq_true rfl, Nat.le_of_ble_eq_true rfl⟩ ⟨Nat.le_of_ble_eq_true rfl, Nat.le_of_ble_eq_true rfl⟩ rfl rfl (Nat.le_of_ble_eq_true rfl) dX6_type_77 (g_rix ?_)
                    have bl_8 := by_lt w (i := h) (by omega)
                    refine g_callV hC (k := 29) (ci := 4) (as := [.int (nI (byN w h))]) (rest := []) (c_X4_add l D cA b M1 L (byN w h) (g.2.2.2.1.1 + (n.toInt.toNat - (h + 1))) (by omega) j3 (by omega)) ⟨fw_305, fw_306, fw_307, fw_5, fw_308⟩ ⟨rfl, hd_X4_add⟩ rfl ly_29 ⟨Nat.le_of_ble_eq_true rfl, Nat.le_of_ble_eq_true rfl⟩ ⟨Nat.le_of_ble_eq_true rfl, Nat.le_of_ble_eq_true rfl⟩ rfl rfl (Nat.le_of_ble_eq_true rfl) dX6_type_80 (g_rvx ?_)
                    refine g_iinc hC [(4, .int (nI h + (-1))), (0, .ref (b + 0)), (1, .long w), (3, .int n)] dX6_type_83 3 rfl (congrArg (fun z => nI h + z) (by decide : Int32.ofInt (-1) = (-1 : Int32))) (by decide) rfl ?_
                    refine g_goto hC 65 dX6_type_86 rfl ?_
                    exact g_sub [1, 2, 3, 0] rfl (ih_6 (fm_up (fm_up M1 30 (g.2.2.2.1.1 + (n.toInt.toNat - (h + 1))) (nI (byN w h))) 29 1 (nI ((g.2.2.2.1.1 + (n.toInt.toNat - (h + 1))) + 1))) h (by omega) (⟨by omega, fun q q1 q2 => by rw [fm_upn q1, fm_upn q2]; exact j2 q q1 q2, by rw [fm_ups]; congr 1; omega, fun j hj => by rw [fm_upn (by decide), fm_upv]; by_cases e : j = (g.2.2.2.1.1 + (n.toInt.toNat - (h + 1))); rw [if_pos e]; unfold tyF; rw [if_neg (by omega)]; congr 2; omega; rw [if_neg e]; exact j4 j (by omega)⟩))
              exact g_sub [1, 2, 3, 0] rfl (lp_65_6 (n.toInt.toNat + 1) M n.toInt.toNat (Nat.lt_succ_self _) (⟨by omega, fun _ _ _ => rfl, by rw [Nat.sub_self]; exact tp1, fun j hj => by unfold tyF; rw [if_pos (by omega)]; exact tp2 j (by omega)⟩))
            · skip
              refine g_bipush (v := (-3)) hC dX6_type_57 rfl ?_
              refine g_zret (ty := .int) hC rfl rfl dX6_type_59 ?_
              have e0 := ty_3 (g := g) (w := w) (n := n) (by omega) (fun j hj => i2 j (by omega)) (by omega)
              exact ⟨_, rfl, by rw [e0], by rw [e0]; exact hS, fC_rf⟩
          · skip
            refine g_lload_n hC dX6_type_22 rfl 1 rfl ?_
            refine g_iload hC dX6_type_23 3 rfl ?_
            refine g_callS hC (as := [.long w, .int (nI i)]) (rest := []) (c_X6_byteOf l D cA b M L w i (by omega)) ⟨fw_299, fw_300, fw_1, fw_301⟩ hd_X6_byteOf ⟨Nat.le_of_ble_eq_true rfl, Nat.le_of_ble_eq_true rfl⟩ ⟨Nat.le_of_ble_eq_true rfl, Nat.le_of_ble_eq_true rfl⟩ rfl rfl (Nat.le_of_ble_eq_true rfl) dX6_type_25 (g_rix ?_)
            have bl_10 := by_lt w (i := i) (by omega)
            refine g_callS hC (as := [.int (nI (byN w i))]) (rest := []) (c_X4_isSign l D cA b LAY M L (nI (byN w i)) ((byN w i : Nat) : Int) (nI_toInt (by omega))) ⟨fw_302, fw_303, fw_5, fw_304⟩ hd_X4_isSign ⟨Nat.le_of_ble_eq_true rfl, Nat.le_of_ble_eq_true rfl⟩ ⟨Nat.le_of_ble_eq_true rfl, Nat.le_of_ble_eq_true rfl⟩ rfl rfl (Nat.le_of_ble_eq_true rfl) dX6_type_28 (g_rix ?_)
            refine g_ifb_ne hC 36 dX6_type_31 rfl (fun c_12 => ?_) (fun c_12 => ?_)
            · skip
              refine g_iinc hC [(4, .int (nI (i + 1))), (0, .ref (b + 0)), (1, .long w), (3, .int n)] dX6_type_36 3 rfl (by rw [show Int32.ofInt 1 = nI 1 from rfl, nI_add]) (by decide) rfl ?_
              refine g_goto hC 16 dX6_type_39 rfl ?_
              exact g_sub [1, 2, 3, 0] rfl (ih_3 (i + 1) (by omega) (⟨by omega, fun j hj => if e : j = i then (by rw [e]; omega) else i2 j (by omega)⟩))
            · skip
              refine g_iconst (v := (-1)) hC dX6_type_34 rfl ?_
              refine g_zret (ty := .int) hC rfl rfl dX6_type_35 ?_
              have e0 := ty_2 (g := g) (w := w) (n := n) (by omega) (i := i) (by omega) (by omega)
              exact ⟨_, rfl, by rw [e0], by rw [e0]; exact hS, fC_rf⟩
      exact g_sub [1, 2, 3, 0] rfl (lp_16_3 (8 - 0 + 1) 0 (Nat.lt_succ_self _) (⟨by omega, fun j hj => by omega⟩))
    · skip
      refine g_iconst (v := (-1)) hC dX6_type_11 rfl ?_
      refine g_zret (ty := .int) hC rfl rfl dX6_type_12 ?_
      have e0 := ty_1 (g := g) (w := w) (n := n) (by omega)
      exact ⟨_, rfl, by rw [e0], by rw [e0]; exact hS, fC_rf⟩
