/-! ===== the planner ===== -/
def gaC (t : Tn) (M : Nat → Nat → Int32) (h n : Nat) : Prop := ∀ v, v < n → M 42 (h * 8 + v) = Int32.ofInt (gA t h ((v : Int) - 2))
def mtC (t : Tn) (e : Bool) (M : Nat → Nat → Int32) (h : Nat) : Prop := ∀ q, q < 100 → M 43 (h * 100 + q) = encC (bV t e (24 - h) q)
theorem m2_t {n : Nat} (h : n < 1000) : (nI n + (-2)).toInt = (n : Int) - 2 := by
  rw [nI_oI, show (-2 : Int32) = Int32.ofInt (-2) from rfl, oI_add, oI_t (by omega) (by omega)]; omega
theorem m2_n {n : Nat} (h : 2 ≤ n) : nI n + (-2) = nI (n - 2) := by
  rw [nI_oI, show (-2 : Int32) = Int32.ofInt (-2) from rfl, oI_add, nI_oI]; congr 1; omega
theorem m2_o (n : Nat) : nI n + (-2) = Int32.ofInt ((n : Int) - 2) := by
  rw [nI_oI, show (-2 : Int32) = Int32.ofInt (-2) from rfl, oI_add]; congr 1
theorem m1_t {n : Nat} (h : n < 1000) : (nI n + (-1)).toInt = (n : Int) - 1 := by
  rw [nI_oI, show (-1 : Int32) = Int32.ofInt (-1) from rfl, oI_add, oI_t (by omega) (by omega)]; omega
theorem mlF_tw (t : Tn) (u : Int) (h : Nat) : ∀ n, mlF (tw t u) h n = mlF t h n
  | 0 => by simp [mlF, tw]
  | n + 1 => by
    have := mlF_tw t u h n
    simp only [mlF, this, tw_n t u (show 4 ≠ 3 by omega), tw_n t u (show 5 ≠ 3 by omega)]
theorem mlS_tw (t : Tn) (u : Int) (h : Nat) : mlS (tw t u) h = mlS t h := by
  unfold mlS
  rw [mlF_tw, tw_n t u (by omega)]
theorem ml24 {t : Tn} (ht : tOK t) : mlS t 24 = t.1 7 2 := by
  have h : ∀ n, n ≤ t.1 7 1 → mlF t 24 n = t.1 7 2 := fun n => by
    induction n with
    | zero => intro _; rfl
    | succ n ih =>
      intro hn
      have := (ht.2.1 n (by omega)).1
      simp only [mlF]
      rw [if_neg (by omega), ih (by omega)]
  exact h _ (Nat.le_refl _)
theorem gc_up {t : Tn} {M : Nat → Nat → Int32} {h n : Nat} {v : Int32} (q : gaC t M h n) (hv : v = Int32.ofInt (gA t h ((n : Int) - 2))) : gaC t (fm_up M 42 (h * 8 + n) v) h (n + 1) := fun w hw => by
  by_cases e : w = n
  · subst e; rw [fm_upv, if_pos rfl, hv]
  · rw [fm_upv, if_neg (by omega)]; exact q w (by omega)
theorem gc_keep {t : Tn} {M : Nat → Nat → Int32} {h h2 n i : Nat} {v : Int32} (q : gaC t M h 8) (hh : h < h2) (hi : i = h2 * 8 + n) : gaC t (fm_up M 42 i v) h 8 := fun w hw => by
  rw [fm_upv, if_neg (by omega)]; exact q w hw
theorem bL_next {t : Tn} {e : Bool} {h : Nat} (hh : h < 24) : nI (bL t e h) + Int32.ofInt (bRow t e h) = nI (bL t e (h + 1)) := by
  obtain ⟨s1, s2, -⟩ := bL_step hh (bL_alive (t := t) (e := e) (h := h) (by omega))
  rw [nI_oI, oI_add, nI_oI]
  congr 1
  rw [s2]; unfold bRow; omega
theorem bV_e {t : Tn} {e : Bool} {q : Nat} : bV t e 0 q = if q ≤ (if e = true then 0 else t.1 7 2) then some 0 else none := by
  simp only [bV]
  cases e with
  | false => simp
  | true =>
    by_cases h : q = 0
    · subst h; simp
    · simp [h]
def mE (t : Tn) (e : Bool) : Nat := if e = true then 0 else t.1 7 2

theorem c_J7_fill_53178 (l : Launch) (D : va_G) (cA : Nat → ClassId) (b : Nat) (lay : List fm_E) (M : Nat → Nat → Int32) (L : Nat → Nat → Int64) (c : Nat) (n : Nat) (x : Int32) (hc : lay[c]? = some (1, n, [])) (hn : n < 1000000) : fm_Met l D cA b yJ7_fill_53178 cJ7_fill_53178 4 none 0 0 0 0 [.ref (b + c), .int x] lay M L lay (fm_pv (fun M' L' => (∀ q, q ≠ c → M' q = M q) ∧ (∀ j, j < n → M' c j = x) ∧ L' = L)) := by
  refine fm_start RJ7 rfl (by decide) (Nat.le_of_ble_eq_true rfl) ?_
  intro pq eq sq mq aq bq tq cq hC hin
  refine g_iconst (v := 0) hC dJ7_fill_53178_0 rfl ?_
  refine g_istore_n hC [(2, .int 0), (0, .ref (b + c)), (1, .int x)] dJ7_fill_53178_1 rfl (by decide) rfl ?_
  refine g_aload_n hC dJ7_fill_53178_2 rfl 1 rfl ?_
  refine g_alen1 (v := nI n) hC hc rfl dJ7_fill_53178_3 ?_
  refine g_istore_n hC [(3, .int (nI n)), (2, .int 0), (0, .ref (b + c)), (1, .int x)] dJ7_fill_53178_4 rfl (by decide) rfl ?_
  have lp_5_1 : ∀ (n_1 : Nat) (M1 : Nat → Nat → Int32) (i : Nat), n - i < n_1 → (i ≤ n ∧ (∀ q, q ≠ c → M1 q = M q) ∧ (∀ j, j < i → M1 c j = x)) → fm_G pq l eq (fm_rm 0 0 0 0) sq mq aq bq tq cq D cA b 4 (MQ bq (fm_Q D cA b lay (fm_pv (fun M' L' => (∀ q, q ≠ c → M' q = M q) ∧ (∀ j, j < n → M' c j = x) ∧ L' = L))) aq sq 0 0 (fun q => b ≤ q)) lay M1 L 0 0 5 [(0, .ref (b + c)), (1, .int x), (2, .int (nI i)), (3, .int (nI n))] [] := by
    intro n_1
    induction n_1 with
    | zero => intro M1 i hm_1; exact absurd hm_1 (Nat.not_lt_zero _)
    | succ n_1 ih_1 =>
      intro M1 i hm_1 hinv_1
      obtain ⟨i1, i2, i3⟩ := hinv_1
      refine g_iload_n hC dJ7_fill_53178_5 rfl 2 rfl ?_
      refine g_iload_n hC dJ7_fill_53178_6 rfl 3 rfl ?_
      refine g_icmp_ge_T (X := ((i : Nat) : Int)) (Y := ((n : Nat) : Int)) hC (nI_toInt (by omega)) (nI_toInt (by omega)) 20 dJ7_fill_53178_7 rfl (fun c_2 => ?_) (fun c_2 => ?_)
      · skip
        refine g_vret hC rfl dJ7_fill_53178_20 ?_
        exact ⟨rfl, i2, fun j hj => i3 j (by omega), rfl⟩
      · skip
        refine g_aload_n hC dJ7_fill_53178_10 rfl 0 rfl ?_
        refine g_iload_n hC dJ7_fill_53178_11 rfl 2 rfl ?_
        refine g_iload_n hC dJ7_fill_53178_12 rfl 1 rfl ?_
        refine g_iastN (j := i) (k := c) hC hc rfl (by omega) (by omega) dJ7_fill_53178_13 ?_
        refine g_iinc hC [(2, .int (nI (i + 1))), (0, .ref (b + c)), (1, .int x), (3, .int (nI n))] dJ7_fill_53178_14 2 rfl (by rw [show Int32.ofInt 1 = nI 1 from rfl, nI_add]) (by decide) rfl ?_
        refine g_goto hC 5 dJ7_fill_53178_17 rfl ?_
        exact g_sub [1, 2, 0, 3] rfl (ih_1 (fm_up M1 c i x) (i + 1) (by omega) (⟨by omega, fun q hq => by rw [fm_upn hq]; exact i2 q hq, fun j hj => by rw [fm_upv]; by_cases ej : j = i <;> simp only [ej, if_true, if_false] <;> first | rfl | exact i3 j (by omega)⟩))
  exact g_sub [2, 3, 1, 0] rfl (lp_5_1 (n - 0 + 1) M 0 (Nat.lt_succ_self _) (⟨by omega, fun _ _ => rfl, fun j hj => by omega⟩))

theorem c_X2_mostBy (l : Launch) (D : va_G) (cA : Nat → ClassId) (b : Nat) (M : Nat → Nat → Int32) (L : Nat → Nat → Int64) (t : Tn) (e : Bool) (hour : Nat) (late : Nat) (i : Nat) (hto : tOK t) (hG : ∀ h, h < 24 → gaC t M h 8) (hM : mtC t e M (hour + 1)) (hh : hour < 24) (hl : late < 100) (hi : i < 8) : fm_Met l D cA b yX2_mostBy cX2_mostBy 6 (some .int) 0 0 0 0 [.ref (b + 41), .int (nI hour), .int (nI late), .int (nI i)] LAY M L LAY (fm_pi (encC (cand t (bV t e (23 - hour)) hour late i)) M L) := by
  refine fm_start RX2 rfl (by decide) (Nat.le_of_ble_eq_true rfl) ?_
  intro pq eq sq mq aq bq tq cq hC hin
  have o6 : t.1 7 2 ≤ 99 := hto.2.2.2.2.2.1
  refine g_iload_n hC dX2_mostBy_0 rfl 2 rfl ?_
  refine g_iload_n hC dX2_mostBy_1 rfl 3 rfl ?_
  refine g_iadd hC dX2_mostBy_2 ?_
  refine g_top (y := nI (late + i)) (nI_add _ _) ?_
  refine g_bipush (v := (-2)) hC dX2_mostBy_3 rfl ?_
  refine g_iadd hC dX2_mostBy_5 ?_
  refine g_top (y := nI (late + i) + (-2)) rfl ?_
  refine g_istore hC [(4, .int (nI (late + i) + (-2))), (0, .ref (b + 41)), (1, .int (nI hour)), (2, .int (nI late)), (3, .int (nI i))] dX2_mostBy_6 (by decide) rfl ?_
  refine g_iload hC dX2_mostBy_8 0 rfl ?_
  refine g_if_lt_T (X := ((late + i : Nat) : Int) - 2) hC (m2_t (by omega)) 20 dX2_mostBy_10 rfl (fun c_1 => ?_) (fun c_1 => ?_)
  · skip
    refine g_ldc (v := (-100000000)) hC fw_447 dX2_mostBy_20 ?_
    refine g_zret (ty := .int) hC rfl rfl dX2_mostBy_22 ⟨congrArg (fun z => some (Value.int z)) ?_, rfl, rfl⟩
    show encC none = _
    congr 1
    unfold cand
    by_cases q2 : 2 ≤ late + i
    · rw [if_pos q2, bV_none (by omega)]
    · rw [if_neg q2]
  · skip
    refine g_iload hC dX2_mostBy_13 0 rfl ?_
    refine g_bipush (v := 100) hC dX2_mostBy_15 rfl ?_
    refine g_icmp_lt_T (X := ((late + i : Nat) : Int) - 2) (Y := 100) hC (m2_t (by omega)) rfl 23 dX2_mostBy_17 rfl (fun c_2 => ?_) (fun c_2 => ?_)
    · skip
      rw [m2_n (n := late + i) (by omega)]
      refine g_aload_n hC dX2_mostBy_23 rfl 1 rfl ?_
      refine g_getR (ci := 2) (i := 1) (k := 41) (t := 43) hC fm_in2 rfl ly_41 rfl (by decide) fw_151 dX2_mostBy_24 ?_
      refine g_iload_n hC dX2_mostBy_27 rfl 2 rfl ?_
      refine g_iconst (v := 1) hC dX2_mostBy_28 rfl ?_
      refine g_iadd hC dX2_mostBy_29 ?_
      refine g_top (y := nI (hour + 1)) (nI_add _ _) ?_
      refine g_bipush (v := 100) hC dX2_mostBy_30 rfl ?_
      refine g_imul hC dX2_mostBy_32 ?_
      refine g_top (y := nI ((hour + 1) * 100)) (pk_mul _ _) ?_
      refine g_iload hC dX2_mostBy_33 0 rfl ?_
      refine g_iadd hC dX2_mostBy_35 ?_
      refine g_top (y := nI (((hour + 1) * 100) + (late + i - 2))) (nI_add _ _) ?_
      refine g_ialdN (j := ((hour + 1) * 100) + (late + i - 2)) (k := 43) hC ly_43 rfl (by omega) (by decide) dX2_mostBy_36 ?_
      refine g_top (y := encC (bV t e (23 - hour) (late + i - 2))) (by rw [hM _ (by omega), show 24 - (hour + 1) = 23 - hour by omega]) ?_
      refine g_istore hC [(5, .int (encC (bV t e (23 - hour) (late + i - 2)))), (4, .int (nI (late + i - 2))), (0, .ref (b + 41)), (1, .int (nI hour)), (2, .int (nI late)), (3, .int (nI i))] dX2_mostBy_37 (by decide) rfl ?_
      refine g_iload hC dX2_mostBy_39 0 rfl ?_
      refine g_ldc (v := (-100000000)) hC fw_447 dX2_mostBy_41 ?_
      refine g_icmp_ne_T (X := (encC (bV t e (23 - hour) (late + i - 2))).toInt) (Y := (-100000000)) hC rfl rfl 51 dX2_mostBy_43 rfl (fun c_3 => ?_) (fun c_3 => ?_)
      · skip
        refine g_aload_n hC dX2_mostBy_51 rfl 2 rfl ?_
        refine g_getR (ci := 2) (i := 0) (k := 41) (t := 42) hC fm_in2 rfl ly_41 rfl (by decide) fw_150 dX2_mostBy_52 ?_
        refine g_iload_n hC dX2_mostBy_55 rfl 3 rfl ?_
        refine g_bipush (v := 8) hC dX2_mostBy_56 rfl ?_
        refine g_imul hC dX2_mostBy_58 ?_
        refine g_top (y := nI (hour * 8)) (pk_mul _ _) ?_
        refine g_iload_n hC dX2_mostBy_59 rfl 5 rfl ?_
        refine g_iadd hC dX2_mostBy_60 ?_
        refine g_top (y := nI ((hour * 8) + i)) (nI_add _ _) ?_
        refine g_ialdN (j := (hour * 8) + i) (k := 42) hC ly_42 rfl (by omega) (by decide) dX2_mostBy_61 ?_
        refine g_top (y := Int32.ofInt (gA t hour ((i : Int) - 2))) (hG hour hh i hi) ?_
        refine g_iload hC dX2_mostBy_62 0 rfl ?_
        refine g_iadd hC dX2_mostBy_64 ?_
        refine g_zret (ty := .int) hC rfl rfl dX2_mostBy_65 ⟨congrArg (fun z => some (Value.int z)) ?_, rfl, rfl⟩
        have hs : bV t e (23 - hour) (late + i - 2) ≠ none := fun q => c_3 ((encC_n (sm_bV hto (by omega))).mpr q)
        cases hb : bV t e (23 - hour) (late + i - 2) with
        | none => exact absurd hb hs
        | some y =>
          unfold cand
          rw [if_pos (by omega), hb]
          exact oI_add _ _
      · skip
        refine g_ldc (v := (-100000000)) hC fw_447 dX2_mostBy_46 ?_
        refine g_goto hC 65 dX2_mostBy_48 rfl ?_
        refine g_zret (ty := .int) hC rfl rfl dX2_mostBy_65 ⟨congrArg (fun z => some (Value.int z)) ?_, rfl, rfl⟩
        have hn := (encC_n (sm_bV hto (by omega))).mp c_3
        show encC none = _
        congr 1
        unfold cand
        rw [if_pos (by omega), hn]
    · skip
      refine g_ldc (v := (-100000000)) hC fw_447 dX2_mostBy_20 ?_
      refine g_zret (ty := .int) hC rfl rfl dX2_mostBy_22 ⟨congrArg (fun z => some (Value.int z)) ?_, rfl, rfl⟩
      show encC none = _
      congr 1
      unfold cand
      by_cases q2 : 2 ≤ late + i
      · rw [if_pos q2, bV_none (by omega)]
      · rw [if_neg q2]

theorem c_X2_mostFrom (l : Launch) (D : va_G) (cA : Nat → ClassId) (b : Nat) (M : Nat → Nat → Int32) (L : Nat → Nat → Int64) (t : Tn) (e : Bool) (hour : Nat) (late : Nat) (hto : tOK t) (hG : ∀ h, h < 24 → gaC t M h 8) (hM : mtC t e M (hour + 1)) (hh : hour < 24) (hl : late < 100) : fm_Met l D cA b yX2_mostFrom cX2_mostFrom 5 (some .int) 1 25 0 0 [.ref (b + 41), .int (nI hour), .int (nI late)] LAY M L LAY (fm_pi (encC (bestO (cand t (bV t e (23 - hour)) hour late) 8)) M L) := by
  refine fm_start RX2 rfl (by decide) (Nat.le_of_ble_eq_true rfl) ?_
  intro pq eq sq mq aq bq tq cq hC hin
  have o6 : t.1 7 2 ≤ 99 := hto.2.2.2.2.2.1
  refine g_ldc (v := (-100000000)) hC fw_447 dX2_mostFrom_0 ?_
  refine g_istore_n hC [(3, .int (-100000000)), (0, .ref (b + 41)), (1, .int (nI hour)), (2, .int (nI late))] dX2_mostFrom_2 rfl (by decide) rfl ?_
  refine g_iconst (v := 0) hC dX2_mostFrom_3 rfl ?_
  refine g_istore hC [(4, .int 0), (3, .int (-100000000)), (0, .ref (b + 41)), (1, .int (nI hour)), (2, .int (nI late))] dX2_mostFrom_4 (by decide) rfl ?_
  have lp_6_1 : ∀ (n_1 : Nat) (i : Nat), 8 - i < n_1 → (i ≤ 8) → fm_G pq l eq (fm_rm 1 25 0 0) sq mq aq bq tq cq D cA b 5 (MQ bq (fm_Q D cA b LAY (fm_pi (encC (bestO (cand t (bV t e (23 - hour)) hour late) 8)) M L)) aq sq 0 0 (fun q => b ≤ q)) LAY M L 0 0 6 [(0, .ref (b + 41)), (1, .int (nI hour)), (2, .int (nI late)), (3, .int (encC (bestO (cand t (bV t e (23 - hour)) hour late) i))), (4, .int (nI i))] [] := by
    intro n_1
    induction n_1 with
    | zero => intro i hm_1; exact absurd hm_1 (Nat.not_lt_zero _)
    | succ n_1 ih_1 =>
      intro i hm_1 hinv_1
      have i1 := hinv_1
      refine g_iload hC dX2_mostFrom_6 4 rfl ?_
      refine g_bipush (v := 8) hC dX2_mostFrom_8 rfl ?_
      refine g_icmp_ge_T (X := ((i : Nat) : Int)) (Y := 8) hC (nI_toInt (by omega)) rfl 32 dX2_mostFrom_10 rfl (fun c_2 => ?_) (fun c_2 => ?_)
      · skip
        refine g_iload_n hC dX2_mostFrom_32 rfl 3 rfl ?_
        refine g_zret (ty := .int) hC rfl rfl dX2_mostFrom_33 ⟨congrArg (fun z => some (Value.int z)) ?_, rfl, rfl⟩
        rw [show i = 8 by omega]
      · skip
        refine g_iload_n hC dX2_mostFrom_13 rfl 3 rfl ?_
        refine g_aload_n hC dX2_mostFrom_14 rfl 0 rfl ?_
        refine g_iload_n hC dX2_mostFrom_15 rfl 1 rfl ?_
        refine g_iload_n hC dX2_mostFrom_16 rfl 2 rfl ?_
        refine g_iload hC dX2_mostFrom_17 4 rfl ?_
        refine g_callV hC (k := 41) (ci := 2) (as := [.int (nI hour), .int (nI late), .int (nI i)]) (rest := [.int (encC (bestO (cand t (bV t e (23 - hour)) hour late) i))]) (c_X2_mostBy l D cA b M L t e hour late i hto hG hM hh hl (by omega)) ⟨fw_454, fw_456, fs_8, fw_6, fw_457⟩ ⟨rfl, hd_X2_mostBy⟩ rfl ly_41 ⟨Nat.le_of_ble_eq_true rfl, Nat.le_of_ble_eq_true rfl⟩ ⟨Nat.le_of_ble_eq_true rfl, Nat.le_of_ble_eq_true rfl⟩ rfl rfl (Nat.le_of_ble_eq_true rfl) dX2_mostFrom_19 (g_rix ?_)
        refine g_max hC fw_458 fw_269 fw_10 fw_270 (Nat.le_of_ble_eq_true rfl) (Nat.le_of_ble_eq_true rfl) (Nat.zero_le _) (Nat.zero_le _) dX2_mostFrom_22 ?_
        refine g_top (y := encC (bestO (cand t (bV t e (23 - hour)) hour late) (i + 1))) (encC_max (sm_best hto (by omega) (by omega) (by omega)) (sm_cand hto (by omega) (by omega) (by omega))) ?_
        refine g_istore_n hC [(3, .int (encC (bestO (cand t (bV t e (23 - hour)) hour late) (i + 1)))), (0, .ref (b + 41)), (1, .int (nI hour)), (2, .int (nI late)), (4, .int (nI i))] dX2_mostFrom_25 rfl (by decide) rfl ?_
        refine g_iinc hC [(4, .int (nI (i + 1))), (3, .int (encC (bestO (cand t (bV t e (23 - hour)) hour late) (i + 1)))), (0, .ref (b + 41)), (1, .int (nI hour)), (2, .int (nI late))] dX2_mostFrom_26 4 rfl (by rw [show Int32.ofInt 1 = nI 1 from rfl, nI_add]) (by decide) rfl ?_
        refine g_goto hC 6 dX2_mostFrom_29 rfl ?_
        exact g_sub [2, 3, 4, 1, 0] rfl (ih_1 (i + 1) (by omega) (by omega))
  exact g_sub [2, 3, 4, 1, 0] rfl (lp_6_1 (8 - 0 + 1) 0 (Nat.lt_succ_self _) (by omega))

theorem alive_ex {t : Tn} {e : Bool} {hour late : Nat} (hh : hour < 24) (hal : bV t e (24 - hour) late ≠ none) : ∃ i, i < 8 ∧ cand t (bV t e (23 - hour)) hour late i = bV t e (24 - hour) late := by
  cases q : bV t e (24 - hour) late with
  | none => exact absurd q hal
  | some x =>
    rw [bV_s hh] at q
    split at q
    · exact bestO_mem q
    · cases q

theorem c_X2_firstBest (l : Launch) (D : va_G) (cA : Nat → ClassId) (b : Nat) (M : Nat → Nat → Int32) (L : Nat → Nat → Int64) (t : Tn) (e : Bool) (hour : Nat) (late : Nat) (hto : tOK t) (hG : ∀ h, h < 24 → gaC t M h 8) (hM : mtC t e M (hour + 1)) (hM2 : mtC t e M hour) (hh : hour < 24) (hl : late < 100) (hal : bV t e (24 - hour) late ≠ none) : fm_Met l D cA b yX2_firstBest cX2_firstBest 5 (some .int) 1 25 0 0 [.ref (b + 41), .int (nI hour), .int (nI late)] LAY M L LAY (fm_pi (Int32.ofInt (((pk8 (cand t (bV t e (23 - hour)) hour late) (bV t e (24 - hour) late) : Nat) : Int) - 2)) M L) := by
  refine fm_start RX2 rfl (by decide) (Nat.le_of_ble_eq_true rfl) ?_
  intro pq eq sq mq aq bq tq cq hC hin
  have o6 : t.1 7 2 ≤ 99 := hto.2.2.2.2.2.1
  refine g_aload_n hC dX2_firstBest_0 rfl 0 rfl ?_
  refine g_getR (ci := 2) (i := 1) (k := 41) (t := 43) hC fm_in2 rfl ly_41 rfl (by decide) fw_151 dX2_firstBest_1 ?_
  refine g_iload_n hC dX2_firstBest_4 rfl 1 rfl ?_
  refine g_bipush (v := 100) hC dX2_firstBest_5 rfl ?_
  refine g_imul hC dX2_firstBest_7 ?_
  refine g_top (y := nI (hour * 100)) (pk_mul _ _) ?_
  refine g_iload_n hC dX2_firstBest_8 rfl 2 rfl ?_
  refine g_iadd hC dX2_firstBest_9 ?_
  refine g_top (y := nI ((hour * 100) + late)) (nI_add _ _) ?_
  refine g_ialdN (j := (hour * 100) + late) (k := 43) hC ly_43 rfl (by omega) (by decide) dX2_firstBest_10 ?_
  refine g_top (y := encC (bV t e (24 - hour) late)) (hM2 _ hl) ?_
  refine g_istore_n hC [(3, .int (encC (bV t e (24 - hour) late))), (0, .ref (b + 41)), (1, .int (nI hour)), (2, .int (nI late))] dX2_firstBest_11 rfl (by decide) rfl ?_
  refine g_iconst (v := 0) hC dX2_firstBest_12 rfl ?_
  refine g_istore hC [(4, .int 0), (3, .int (encC (bV t e (24 - hour) late))), (0, .ref (b + 41)), (1, .int (nI hour)), (2, .int (nI late))] dX2_firstBest_13 (by decide) rfl ?_
  have lp_15_1 : ∀ (n_1 : Nat) (i : Nat), 8 - i < n_1 → (i ≤ 8 ∧ ∀ j, j < i → cand t (bV t e (23 - hour)) hour late j ≠ bV t e (24 - hour) late) → fm_G pq l eq (fm_rm 1 25 0 0) sq mq aq bq tq cq D cA b 5 (MQ bq (fm_Q D cA b LAY (fm_pi (Int32.ofInt (((pk8 (cand t (bV t e (23 - hour)) hour late) (bV t e (24 - hour) late) : Nat) : Int) - 2)) M L)) aq sq 0 0 (fun q => b ≤ q)) LAY M L 0 0 15 [(0, .ref (b + 41)), (1, .int (nI hour)), (2, .int (nI late)), (3, .int (encC (bV t e (24 - hour) late))), (4, .int (nI i))] [] := by
    intro n_1
    induction n_1 with
    | zero => intro i hm_1; exact absurd hm_1 (Nat.not_lt_zero _)
    | succ n_1 ih_1 =>
      intro i hm_1 hinv_1
      obtain ⟨f1, f2⟩ := hinv_1
      refine g_iload hC dX2_firstBest_15 4 rfl ?_
      refine g_bipush (v := 8) hC dX2_firstBest_17 rfl ?_
      refine g_icmp_ge_T (X := ((i : Nat) : Int)) (Y := 8) hC (nI_toInt (by omega)) rfl 52 dX2_firstBest_19 rfl (fun c_2 => ?_) (fun c_2 => ?_)
      · skip
        refine g_iconst (v := 0) hC dX2_firstBest_52 rfl ?_
        refine g_zret (ty := .int) hC rfl rfl dX2_firstBest_53 ⟨congrArg (fun z => some (Value.int z)) ?_, rfl, rfl⟩
        exfalso
        obtain ⟨j, j1, j2⟩ := alive_ex hh hal
        first | exact f2 j (by omega) j2 | exact hal ((encC_n (sm_bV hto (by omega))).mp (by assumption))
      · skip
        refine g_iload_n hC dX2_firstBest_22 rfl 3 rfl ?_
        refine g_ldc (v := (-100000000)) hC fw_447 dX2_firstBest_23 ?_
        refine g_icmp_eq_T (X := (encC (bV t e (24 - hour) late)).toInt) (Y := (-100000000)) hC rfl rfl 52 dX2_firstBest_25 rfl (fun c_3 => ?_) (fun c_3 => ?_)
        · skip
          refine g_iconst (v := 0) hC dX2_firstBest_52 rfl ?_
          refine g_zret (ty := .int) hC rfl rfl dX2_firstBest_53 ⟨congrArg (fun z => some (Value.int z)) ?_, rfl, rfl⟩
          exfalso
          obtain ⟨j, j1, j2⟩ := alive_ex hh hal
          first | exact f2 j (by omega) j2 | exact hal ((encC_n (sm_bV hto (by omega))).mp (by assumption))
        · skip
          refine g_aload_n hC dX2_firstBest_28 rfl 0 rfl ?_
          refine g_iload_n hC dX2_firstBest_29 rfl 1 rfl ?_
          refine g_iload_n hC dX2_firstBest_30 rfl 2 rfl ?_
          refine g_iload hC dX2_firstBest_31 4 rfl ?_
          refine g_callV hC (k := 41) (ci := 2) (as := [.int (nI hour), .int (nI late), .int (nI i)]) (rest := []) (c_X2_mostBy l D cA b M L t e hour late i hto hG hM hh hl (by omega)) ⟨fw_454, fw_456, fs_8, fw_6, fw_457⟩ ⟨rfl, hd_X2_mostBy⟩ rfl ly_41 ⟨Nat.le_of_ble_eq_true rfl, Nat.le_of_ble_eq_true rfl⟩ ⟨Nat.le_of_ble_eq_true rfl, Nat.le_of_ble_eq_true rfl⟩ rfl rfl (Nat.le_of_ble_eq_true rfl) dX2_firstBest_33 (g_rix ?_)
          refine g_iload_n hC dX2_firstBest_36 rfl 3 rfl ?_
          refine g_icmp_ne_T (X := (encC (cand t (bV t e (23 - hour)) hour late i)).toInt) (Y := (encC (bV t e (24 - hour) late)).toInt) hC rfl rfl 46 dX2_firstBest_37 rfl (fun c_5 => ?_) (fun c_5 => ?_)
          · skip
            refine g_iinc hC [(4, .int (nI (i + 1))), (0, .ref (b + 41)), (1, .int (nI hour)), (2, .int (nI late)), (3, .int (encC (bV t e (24 - hour) late)))] dX2_firstBest_46 4 rfl (by rw [show Int32.ofInt 1 = nI 1 from rfl, nI_add]) (by decide) rfl ?_
            refine g_goto hC 15 dX2_firstBest_49 rfl ?_
            exact g_sub [1, 2, 3, 4, 0] rfl (ih_1 (i + 1) (by omega) (⟨by omega, fun j hj q => by rcases Nat.lt_or_ge j i with z | z; exact f2 j z q; exact c_5 ((encC_inj (sm_cand hto hh (by omega) (by omega)) (sm_bV hto (by omega))).mpr (by rw [show i = j by omega]; exact q))⟩))
          · skip
            refine g_iload hC dX2_firstBest_40 4 rfl ?_
            refine g_bipush (v := (-2)) hC dX2_firstBest_42 rfl ?_
            refine g_iadd hC dX2_firstBest_44 ?_
            refine g_zret (ty := .int) hC rfl rfl dX2_firstBest_45 ⟨congrArg (fun z => some (Value.int z)) ?_, rfl, rfl⟩
            rw [m2_o]
            congr 2
            rw [pk8_is (i := i) (by omega) ((encC_inj (sm_cand hto hh (by omega) (by omega)) (sm_bV hto (by omega))).mp c_5) f2]
  exact g_sub [2, 3, 4, 1, 0] rfl (lp_15_1 (8 - 0 + 1) 0 (Nat.lt_succ_self _) (⟨by omega, fun j hj => by omega⟩))

theorem c_X2_findRow (l : Launch) (D : va_G) (cA : Nat → ClassId) (b : Nat) (M : Nat → Nat → Int32) (L : Nat → Nat → Int64) (t : Tn) (e : Bool) (hto : tOK t) (hG : ∀ h, h < 24 → gaC t M h 8) (hMA : ∀ h, h ≤ 24 → mtC t e M h) : fm_Met l D cA b yX2_findRow cX2_findRow 4 none 2 49 0 0 [.ref (b + 41)] LAY M L LAY (fm_pv (fun M' L' => rowIs M' 44 (bRow t e) ∧ (∀ q, q ≠ 44 → M' q = M q) ∧ L' = L)) := by
  refine fm_start RX2 rfl (by decide) (Nat.le_of_ble_eq_true rfl) ?_
  intro pq eq sq mq aq bq tq cq hC hin
  have o6 : t.1 7 2 ≤ 99 := hto.2.2.2.2.2.1
  refine g_iconst (v := 0) hC dX2_findRow_0 rfl ?_
  refine g_istore_n hC [(1, .int 0), (0, .ref (b + 41))] dX2_findRow_1 rfl (by decide) rfl ?_
  refine g_iconst (v := 0) hC dX2_findRow_2 rfl ?_
  refine g_istore_n hC [(2, .int 0), (1, .int 0), (0, .ref (b + 41))] dX2_findRow_3 rfl (by decide) rfl ?_
  have lp_4_1 : ∀ (n_1 : Nat) (M1 : Nat → Nat → Int32) (h : Nat), 24 - h < n_1 → (h ≤ 24 ∧ (∀ q, q ≠ 44 → M1 q = M q) ∧ (∀ q, q < h → M1 44 q = Int32.ofInt (bRow t e q))) → fm_G pq l eq (fm_rm 2 49 0 0) sq mq aq bq tq cq D cA b 4 (MQ bq (fm_Q D cA b LAY (fm_pv (fun M' L' => rowIs M' 44 (bRow t e) ∧ (∀ q, q ≠ 44 → M' q = M q) ∧ L' = L))) aq sq 0 0 (fun q => b ≤ q)) LAY M1 L 0 0 4 [(0, .ref (b + 41)), (1, .int (nI (bL t e h))), (2, .int (nI h))] [] := by
    intro n_1
    induction n_1 with
    | zero => intro M1 h hm_1; exact absurd hm_1 (Nat.not_lt_zero _)
    | succ n_1 ih_1 =>
      intro M1 h hm_1 hinv_1
      obtain ⟨r1, r2, r3⟩ := hinv_1
      have bj := bL_jar (t := t) (e := e) (h := h) (by omega)
      refine g_iload_n hC dX2_findRow_4 rfl 2 rfl ?_
      refine g_bipush (v := 24) hC dX2_findRow_5 rfl ?_
      refine g_icmp_ge_T (X := ((h : Nat) : Int)) (Y := 24) hC (nI_toInt (by omega)) rfl 34 dX2_findRow_7 rfl (fun c_2 => ?_) (fun c_2 => ?_)
      · skip
        refine g_vret hC rfl dX2_findRow_34 ?_
        exact ⟨rfl, fun q hq => ⟨r3 q (by omega), bRow_b hq⟩, r2, rfl⟩
      · skip
        refine g_aload_n hC dX2_findRow_10 rfl 0 rfl ?_
        refine g_iload_n hC dX2_findRow_11 rfl 2 rfl ?_
        refine g_iload_n hC dX2_findRow_12 rfl 1 rfl ?_
        refine g_callV hC (k := 41) (ci := 2) (as := [.int (nI h), .int (nI (bL t e h))]) (rest := []) (c_X2_firstBest l D cA b M1 L t e h (bL t e h) hto (fun h hh v hv => by rw [r2 42 (by omega)]; exact hG h hh v hv) (fun q hq => by rw [r2 43 (by omega)]; exact hMA (h + 1) (by omega) q hq) (fun q hq => by rw [r2 43 (by omega)]; exact hMA h (by omega) q hq) (by omega) (by omega) (bL_alive (by omega))) ⟨fw_463, fw_465, fs_9, fw_6, fw_466⟩ ⟨rfl, hd_X2_firstBest⟩ rfl ly_41 ⟨Nat.le_of_ble_eq_true rfl, Nat.le_of_ble_eq_true rfl⟩ ⟨Nat.le_of_ble_eq_true rfl, Nat.le_of_ble_eq_true rfl⟩ rfl rfl (Nat.le_of_ble_eq_true rfl) dX2_findRow_13 (g_rix ?_)
        refine g_istore_n hC [(3, .int (Int32.ofInt (bRow t e h))), (0, .ref (b + 41)), (1, .int (nI (bL t e h))), (2, .int (nI h))] dX2_findRow_16 rfl (by decide) rfl ?_
        refine g_aload_n hC dX2_findRow_17 rfl 1 rfl ?_
        refine g_getR (ci := 2) (i := 2) (k := 41) (t := 44) hC fm_in2 rfl ly_41 rfl (by decide) fw_152 dX2_findRow_18 ?_
        refine g_iload_n hC dX2_findRow_21 rfl 3 rfl ?_
        refine g_iload_n hC dX2_findRow_22 rfl 0 rfl ?_
        refine g_iastN (j := h) (k := 44) hC ly_44 rfl (by omega) (by decide) dX2_findRow_23 ?_
        refine g_iload_n hC dX2_findRow_24 rfl 2 rfl ?_
        refine g_iload_n hC dX2_findRow_25 rfl 0 rfl ?_
        refine g_iadd hC dX2_findRow_26 ?_
        refine g_top (y := nI (bL t e (h + 1))) (bL_next (by omega)) ?_
        refine g_istore_n hC [(1, .int (nI (bL t e (h + 1)))), (3, .int (Int32.ofInt (bRow t e h))), (0, .ref (b + 41)), (2, .int (nI h))] dX2_findRow_27 rfl (by decide) rfl ?_
        refine g_iinc hC [(2, .int (nI (h + 1))), (1, .int (nI (bL t e (h + 1)))), (3, .int (Int32.ofInt (bRow t e h))), (0, .ref (b + 41))] dX2_findRow_28 3 rfl (by rw [show Int32.ofInt 1 = nI 1 from rfl, nI_add]) (by decide) rfl ?_
        refine g_goto hC 4 dX2_findRow_31 rfl ?_
        exact g_sub [3, 1, 0] rfl (ih_1 (fm_up M1 44 h (Int32.ofInt (bRow t e h))) (h + 1) (by omega) (⟨by omega, fun q hq => by rw [fm_upn hq]; exact r2 q hq, fun q hq => by rw [fm_upv]; by_cases eq : q = h <;> simp only [eq, if_true, if_false] <;> first | rfl | exact r3 q (by omega)⟩))
  exact g_sub [2, 1, 0] rfl (lp_4_1 (24 - 0 + 1) M 0 (Nat.lt_succ_self _) (⟨by omega, fun _ _ => rfl, fun q hq => by omega⟩))
