/-! ===== the tape: a plan ===== -/
theorem ch_lt2 {T : Nat × (Nat → Nat)} {q : Nat} (h : 0 ≤ (chI T q).toInt) : q < T.1 := by
  refine Classical.byContradiction fun n => ?_
  unfold chI at h
  rw [if_neg n] at h
  exact absurd h (by decide)
theorem rh_all {T : Nat × (Nat → Nat)} {p : Nat} (hle : p ≤ T.1) : (∃ x, rhS T p = .inr x ∧ x ≤ T.1 ∧ nx T x = x) ∨ (∃ z e, rhS T p = .inl (z, e) ∧ -2 ≤ z ∧ z ≤ 5 ∧ e ≤ T.1) := by
  unfold rhS
  by_cases c1 : chI T (nx T p) = nI 45
  · have l1 := ch_lt (by decide) c1
    have l2 := nx_le (T := T) (p := (nx T p + 1)) (by omega)
    rw [if_pos c1]
    by_cases c2 : 0 ≤ (chI T (nx T (nx T p + 1))).toInt - 48 ∧ (chI T (nx T (nx T p + 1))).toInt - 48 ≤ 2
    · rw [if_pos c2]
      have l3 := ch_lt2 (T := T) (q := (nx T (nx T p + 1))) (by omega)
      exact Or.inr ⟨_, _, rfl, by omega, by omega, by omega⟩
    · rw [if_neg c2]; exact Or.inl ⟨_, rfl, l2, nx_nx _ _⟩
  · rw [if_neg c1]
    by_cases c3 : chI T (nx T p) = nI 43
    · have l1 := ch_lt (by decide) c3
      have l2 := nx_le (T := T) (p := (nx T p + 1)) (by omega)
      rw [if_pos c3]
      by_cases c2 : 0 ≤ (chI T (nx T (nx T p + 1))).toInt - 48 ∧ (chI T (nx T (nx T p + 1))).toInt - 48 ≤ 5
      · rw [if_pos c2]
        have l3 := ch_lt2 (T := T) (q := (nx T (nx T p + 1))) (by omega)
        exact Or.inr ⟨_, _, rfl, by omega, by omega, by omega⟩
      · rw [if_neg c2]; exact Or.inl ⟨_, rfl, l2, nx_nx _ _⟩
    · rw [if_neg c3]; exact Or.inl ⟨_, rfl, nx_le hle, nx_nx _ _⟩
theorem ph_all {T : Nat × (Nat → Nat)} {p : Nat} {s : Int32} (hle : p ≤ T.1) : (∃ x, phS T p s = .inr x ∧ x ≤ T.1 ∧ nx T x = x) ∨ (∃ h z e, phS T p s = .inl (h, z, e) ∧ h < 24 ∧ -2 ≤ z ∧ z ≤ 5 ∧ e ≤ T.1) := by
  by_cases c1 : rnOk T p 23
  · have en := rnE_le (T := T) (p := p) hle
    have o := c1.2
    by_cases c2 : (bt s (rnV T p)).toInt = 1
    · rw [phS_2 c1 c2]; exact Or.inl ⟨_, rfl, nx_le hle, nx_nx _ _⟩
    · rcases rh_all (T := T) (p := rnE T p) en.2 with ⟨x, e0, a, c⟩ | ⟨z, e, e0, a, c, d⟩
      · rw [phS_3 c1 c2 e0]; exact Or.inl ⟨_, rfl, a, c⟩
      · rw [phS_4 c1 c2 e0]; exact Or.inr ⟨_, _, _, rfl, by omega, a, c, d⟩
  · rw [phS_1 c1]; exact Or.inl ⟨_, rfl, nx_le hle, nx_nx _ _⟩
def plE (T : Nat × (Nat → Nat)) (i p : Nat) (R : Nat → Int) : (Nat × (Nat → Int)) ⊕ Nat := if (chI T (nx T p)).toInt = -1 then .inl (i, R) else .inr (nx T p)
def plF (T : Nat × (Nat → Nat)) : Nat → Nat → Nat → Int32 → (Nat → Int) → (Nat × (Nat → Int)) ⊕ Nat
  | 0, i, p, _, R => plE T i p R
  | f + 1, i, p, s, R => match phS T p s with
    | .inr q => .inr q
    | .inl (h, z, e) => if f = 0 ∨ (chI T (nx T e)).toInt ≠ 44 then plE T (i + 1) e (uP R h z) else plF T f (i + 1) (nx T e + 1) (sb s h) (uP R h z)
def pl0 : Nat → Int := fun _ => 0
/-- the plan written on the tape: how many hours it tells, the numbers of all; or the place of the fault -/
def plT (T : Nat × (Nat → Nat)) : (Nat × (Nat → Int)) ⊕ Nat := if (chI T (nx T 0)).toInt = -1 then .inl (0, pl0) else plF T 24 0 (nx T 0) 0 pl0
theorem pl_1 {T : Nat × (Nat → Nat)} {f i p q : Nat} {s : Int32} {R : Nat → Int} (h : phS T p s = .inr q) : plF T (f + 1) i p s R = .inr q := by
  unfold plF; rw [h]
theorem pl_2 {T : Nat × (Nat → Nat)} {f i p h e : Nat} {z : Int} {s : Int32} {R : Nat → Int} (hh : phS T p s = .inl (h, z, e)) (c2 : f = 0 ∨ (chI T (nx T e)).toInt ≠ 44) : plF T (f + 1) i p s R = plE T (i + 1) e (uP R h z) := by
  unfold plF; rw [hh]; exact if_pos c2
theorem pl_3 {T : Nat × (Nat → Nat)} {f i p h e : Nat} {z : Int} {s : Int32} {R : Nat → Int} (hh : phS T p s = .inl (h, z, e)) (c2 : f ≠ 0) (c3 : (chI T (nx T e)).toInt = 44) : plF T (f + 1) i p s R = plF T f (i + 1) (nx T e + 1) (sb s h) (uP R h z) := by
  rw [show plF T (f + 1) i p s R = (if f = 0 ∨ (chI T (nx T e)).toInt ≠ 44 then plE T (i + 1) e (uP R h z) else plF T f (i + 1) (nx T e + 1) (sb s h) (uP R h z)) by rw [plF, hh]]
  exact if_neg (by omega)
theorem plE_nx {T : Nat × (Nat → Nat)} {i p : Nat} {R : Nat → Int} : plE T i (nx T p) R = plE T i p R := by unfold plE; rw [nx_nx]
theorem plE_ok {T : Nat × (Nat → Nat)} {i p : Nat} {R : Nat → Int} (hp : p ≤ T.1) (hR : ∀ j, j < 24 → -2 ≤ R j ∧ R j ≤ 5) : (∀ n R', plE T i p R = .inl (n, R') → n = i ∧ ∀ j, j < 24 → -2 ≤ R' j ∧ R' j ≤ 5) ∧ (∀ q, plE T i p R = .inr q → q ≤ T.1 ∧ nx T q = q) := by
  unfold plE
  by_cases c : (chI T (nx T p)).toInt = -1
  · rw [if_pos c]; exact ⟨fun n R' h => (by cases h; exact ⟨rfl, hR⟩), fun q h => (by cases h)⟩
  · rw [if_neg c]; exact ⟨fun n R' h => (by cases h), fun q h => (by cases h; exact ⟨nx_le hp, nx_nx _ _⟩)⟩
theorem pl_ok {T : Nat × (Nat → Nat)} : ∀ (f i p : Nat) (s : Int32) (R : Nat → Int), p ≤ T.1 → (∀ j, j < 24 → -2 ≤ R j ∧ R j ≤ 5) →
    (∀ n R', plF T f i p s R = .inl (n, R') → n ≤ i + f ∧ ∀ j, j < 24 → -2 ≤ R' j ∧ R' j ≤ 5) ∧ (∀ q, plF T f i p s R = .inr q → q ≤ T.1 ∧ nx T q = q)
  | 0, i, p, s, R, hp, hR => by
    have := plE_ok (i := i) hp hR
    exact ⟨fun n R' h => by have := this.1 n R' h; exact ⟨by omega, this.2⟩, this.2⟩
  | f + 1, i, p, s, R, hp, hR => by
    rcases ph_all (s := s) hp with ⟨x, e0, h1, h2⟩ | ⟨h, z, e, e0, hh, hz, hz2, he⟩
    · rw [pl_1 e0]
      exact ⟨fun n K' h => (by cases h), fun q h => (by cases h; exact ⟨h1, h2⟩)⟩
    · have hR2 : ∀ j, j < 24 → -2 ≤ uP R h z j ∧ uP R h z j ≤ 5 := fun j hj => by
        unfold uP
        split
        · exact ⟨hz, hz2⟩
        · exact hR j hj
      by_cases c2 : f = 0 ∨ (chI T (nx T e)).toInt ≠ 44
      · rw [pl_2 e0 c2]
        have := plE_ok (i := i + 1) he hR2
        exact ⟨fun n R' h => by have := this.1 n R' h; exact ⟨by omega, this.2⟩, this.2⟩
      · have c3 : (chI T (nx T e)).toInt = 44 := by omega
        rw [pl_3 e0 (by omega) c3]
        have hl : nx T e < T.1 := ch_lt (c := 44) (by decide) ((ch_i (by decide)).mp c3)
        have ih := pl_ok (T := T) f (i + 1) (nx T e + 1) (sb s h) (uP R h z) (by omega) hR2
        exact ⟨fun n K' h => by have := ih.1 n K' h; exact ⟨by omega, this.2⟩, ih.2⟩
theorem pl_all {T : Nat × (Nat → Nat)} : (∃ q, plT T = .inr q ∧ q ≤ T.1 ∧ nx T q = q) ∨ (∃ n R, plT T = .inl (n, R) ∧ n ≤ 24 ∧ ∀ j, j < 24 → -2 ≤ R j ∧ R j ≤ 5) := by
  have h0 : ∀ j, j < 24 → -2 ≤ pl0 j ∧ pl0 j ≤ 5 := fun j _ => ⟨(show (-2 : Int) ≤ 0 by decide), (show (0 : Int) ≤ 5 by decide)⟩
  unfold plT
  by_cases c : (chI T (nx T 0)).toInt = -1
  · rw [if_pos c]; exact Or.inr ⟨0, pl0, rfl, by decide, h0⟩
  · rw [if_neg c]
    have h := pl_ok (T := T) 24 0 (nx T 0) 0 pl0 (nx_le (Nat.zero_le _)) h0
    cases e : plF T 24 0 (nx T 0) 0 pl0 with
    | inr q => exact Or.inl ⟨q, rfl, h.2 q e⟩
    | inl v => exact Or.inr ⟨v.1, v.2, rfl, by have := (h.1 v.1 v.2 e).1; omega, (h.1 v.1 v.2 e).2⟩

theorem c_X4_readPlan (l : Launch) (D : va_G) (cA : Nat → ClassId) (b : Nat) (M : Nat → Nat → Int32) (L : Nat → Nat → Int64) (T : Nat × (Nat → Nat)) (hT : pC M T) (hk : pOK T) : fm_Met l D cA b yX4_readPlan cX4_readPlan 5 (some .int) 3 65 0 0 [.ref (b + 29)] LAY M L LAY (fm_pm (fun r M' L' => (∀ x, plT T = .inr x → r = -20 - nI x) ∧ (∀ n R, plT T = .inl (n, R) → r = nI n ∧ ∀ j, j < 24 → M' 32 j = Int32.ofInt (R j)) ∧ (∀ i, i ≠ 2 → i ≠ 3 → M' 29 i = M 29 i) ∧ (∀ q, q ≠ 29 → q ≠ 32 → M' q = M q) ∧ L' = L)) := by
  refine fm_start RX4 rfl (by decide) (Nat.le_of_ble_eq_true rfl) ?_
  intro pq eq sq mq aq bq tq cq hC hin
  have tl : T.1 ≤ 140 := hk.1
  refine g_aload_n hC dX4_readPlan_0 rfl 0 rfl ?_
  refine g_iconst (v := 0) hC dX4_readPlan_1 rfl ?_
  refine g_putI (ci := 4) (i := 2) (k := 29) hC fm_in4 tyX4 tyX4_ok nmX4 rfl ly_29 rfl (by decide) fw_124 rfl rfl rfl dX4_readPlan_2 ?_
  refine g_aload_n hC dX4_readPlan_5 rfl 0 rfl ?_
  refine g_getR (ci := 4) (i := 5) (k := 29) (t := 32) hC fm_in4 rfl ly_29 rfl (by decide) fw_128 dX4_readPlan_6 ?_
  refine g_iconst (v := 0) hC dX4_readPlan_9 rfl ?_
  refine g_callS hC (as := [.ref (b + 32), .int 0]) (rest := []) (c_J7_fill_53178 l D cA b LAY (fm_up M 29 2 0) L 32 24 0 ly_32 (by decide)) ⟨fw_366, fw_54, fw_4, fw_55⟩ hd_J7_fill_53178 ⟨Nat.le_of_ble_eq_true rfl, Nat.le_of_ble_eq_true rfl⟩ ⟨Nat.le_of_ble_eq_true rfl, Nat.le_of_ble_eq_true rfl⟩ rfl rfl (Nat.le_of_ble_eq_true rfl) dX4_readPlan_10 (g_rv (fun M_1 L_1 h_1 => ?_))
  obtain ⟨f1_1, f2_1, f3_1⟩ := h_1
  rw [f3_1]
  have hT_1 : pC M_1 T := pC_m hT (fun i i1 i2 => by rw [f1_1 29 (by decide), fm_upx i1]) (by rw [f1_1 30 (by decide), fm_upn (by decide)])
  refine g_aload_n hC dX4_readPlan_13 rfl 0 rfl ?_
  refine g_callV hC (k := 29) (ci := 4) (as := []) (rest := []) (c_X4_next l D cA b M_1 L T 0 hT_1 hk (by rw [f1_1 29 (by decide), fm_ups]; rfl) (Nat.zero_le _)) ⟨fw_321, fw_323, fs_2, fw_5, fw_324⟩ ⟨rfl, hd_X4_next⟩ rfl ly_29 ⟨Nat.le_of_ble_eq_true rfl, Nat.le_of_ble_eq_true rfl⟩ ⟨Nat.le_of_ble_eq_true rfl, Nat.le_of_ble_eq_true rfl⟩ rfl rfl (Nat.le_of_ble_eq_true rfl) dX4_readPlan_14 (g_rix ?_)
  refine g_iconst (v := (-1)) hC dX4_readPlan_17 rfl ?_
  refine g_icmp_ne_T (X := (chI T (nx T 0)).toInt) (Y := (-1)) hC rfl rfl 23 dX4_readPlan_18 rfl (fun c_3 => ?_) (fun c_3 => ?_)
  · skip
    refine g_iconst (v := 0) hC dX4_readPlan_23 rfl ?_
    refine g_istore_n hC [(1, .int 0), (0, .ref (b + 29))] dX4_readPlan_24 rfl (by decide) rfl ?_
    refine g_iconst (v := 0) hC dX4_readPlan_25 rfl ?_
    refine g_istore_n hC [(2, .int 0), (1, .int 0), (0, .ref (b + 29))] dX4_readPlan_26 rfl (by decide) rfl ?_
    have lp_27_4 : ∀ (n_4 : Nat) (M1 : Nat → Nat → Int32) (i : Nat) (s : Int32) (q : Nat) (R : Nat → Int), 24 - i < n_4 → (i < 24 ∧ q ≤ T.1 ∧ M1 29 2 = nI q ∧ (∀ i, i ≠ 2 → i ≠ 3 → M1 29 i = M 29 i) ∧ (∀ q, q ≠ 29 → q ≠ 32 → M1 q = M q) ∧ (∀ j, j < 24 → M1 32 j = Int32.ofInt (R j)) ∧ plF T (24 - i) i q s R = plT T) → fm_G pq l eq (fm_rm 3 65 0 0) sq mq aq bq tq cq D cA b 5 (MQ bq (fm_Q D cA b LAY (fm_pm (fun r M' L' => (∀ x, plT T = .inr x → r = -20 - nI x) ∧ (∀ n R, plT T = .inl (n, R) → r = nI n ∧ ∀ j, j < 24 → M' 32 j = Int32.ofInt (R j)) ∧ (∀ i, i ≠ 2 → i ≠ 3 → M' 29 i = M 29 i) ∧ (∀ q, q ≠ 29 → q ≠ 32 → M' q = M q) ∧ L' = L))) aq sq 0 0 (fun q => b ≤ q)) LAY M1 L 0 0 27 [(0, .ref (b + 29)), (1, .int s), (2, .int (nI i))] [] := by
      intro n_4
      induction n_4 with
      | zero => intro M1 i s q R hm_4; exact absurd hm_4 (Nat.not_lt_zero _)
      | succ n_4 ih_4 =>
        intro M1 i s q R hm_4 hinv_4
        obtain ⟨il, i0, m2, j1, j2, j3, hw⟩ := hinv_4
        have hT1 : pC M1 T := pC_m hT j1 (j2 30 (by decide) (by decide))
        refine g_iload_n hC dX4_readPlan_27 rfl 2 rfl ?_
        refine g_bipush (v := 24) hC dX4_readPlan_28 rfl ?_
        refine g_icmp_ge_T (X := ((i : Nat) : Int)) (Y := 24) hC (nI_toInt (by omega)) rfl 123 dX4_readPlan_30 rfl (fun c_5 => ?_) (fun c_5 => ?_)
        · skip
          refine g_aload_n hC dX4_readPlan_123 rfl 0 rfl ?_
          refine g_callV hC (k := 29) (ci := 4) (as := []) (rest := []) (c_X4_faultHere l D cA b M1 L q m2) ⟨fw_328, fw_330, fs_3, fw_5, fw_331⟩ ⟨rfl, hd_X4_faultHere⟩ rfl ly_29 ⟨Nat.le_of_ble_eq_true rfl, Nat.le_of_ble_eq_true rfl⟩ ⟨Nat.le_of_ble_eq_true rfl, Nat.le_of_ble_eq_true rfl⟩ rfl rfl (Nat.le_of_ble_eq_true rfl) dX4_readPlan_124 (g_rix ?_)
          refine g_zret (ty := .int) hC rfl rfl dX4_readPlan_127 ?_
          exfalso; omega
        · skip
          refine g_aload_n hC dX4_readPlan_33 rfl 0 rfl ?_
          refine g_bipush (v := 23) hC dX4_readPlan_34 rfl ?_
          refine g_callV hC (k := 29) (ci := 4) (as := [.int 23]) (rest := []) (c_X4_readNumber l D cA b M1 L T q 23 hT1 hk m2 i0 (by decide)) ⟨fw_332, fw_334, fs_4, fw_5, fw_335⟩ ⟨rfl, hd_X4_readNumber⟩ rfl ly_29 ⟨Nat.le_of_ble_eq_true rfl, Nat.le_of_ble_eq_true rfl⟩ ⟨Nat.le_of_ble_eq_true rfl, Nat.le_of_ble_eq_true rfl⟩ rfl rfl (Nat.le_of_ble_eq_true rfl) dX4_readPlan_36 (g_rm (fun r_7 M_7 L_7 h_7 => ?_))
          obtain ⟨r1_7, r2_7, r3_7, r4_7, r5_7, r6_7, r7_7⟩ := h_7
          rw [r7_7]
          have nlq := nx_le i0
          have g_7 : 0 ≤ (r_7).toInt ↔ rnOk T q 23 := rn_ge r1_7 r2_7 (by decide) (by omega)
          have en := rnE_le (T := T) (p := q) i0
          have hT_7 : pC M_7 T := pC_m hT1 r5_7 (r6_7 30 (by decide))
          refine g_istore_n hC [(3, .int r_7), (0, .ref (b + 29)), (1, .int s), (2, .int (nI i))] dX4_readPlan_39 rfl (by decide) rfl ?_
          refine g_iload_n hC dX4_readPlan_40 rfl 0 rfl ?_
          refine g_if_ge_T (X := r_7.toInt) hC rfl 46 dX4_readPlan_41 rfl (fun c_8 => ?_) (fun c_8 => ?_)
          · skip
            have ok : rnOk T q 23 := g_7.mp c_8
            have rl : rnV T q ≤ 23 := ok.2
            have m3 := r4_7 ok.1
            rw [r1_7 ok]
            refine g_iload_n hC dX4_readPlan_46 rfl 2 rfl ?_
            refine g_iload_n hC dX4_readPlan_47 rfl 0 rfl ?_
            refine g_ishr hC dX4_readPlan_48 ?_
            refine g_iconst (v := 1) hC dX4_readPlan_49 rfl ?_
            refine g_iand hC dX4_readPlan_50 ?_
            refine g_top (y := bt s (rnV T q)) rfl ?_
            refine g_if_eq_T (X := (bt s (rnV T q)).toInt) hC rfl 62 dX4_readPlan_51 rfl (fun c_9 => ?_) (fun c_9 => ?_)
            · skip
              have hb : (bt s (rnV T q)).toInt ≠ 1 := by omega
              refine g_iload_n hC dX4_readPlan_62 rfl 2 rfl ?_
              refine g_iconst (v := 1) hC dX4_readPlan_63 rfl ?_
              refine g_iload_n hC dX4_readPlan_64 rfl 0 rfl ?_
              refine g_ishl hC dX4_readPlan_65 ?_
              refine g_ior hC dX4_readPlan_66 ?_
              refine g_top (y := sb s (rnV T q)) rfl ?_
              refine g_istore_n hC [(1, .int (sb s (rnV T q))), (3, .int (nI (rnV T q))), (0, .ref (b + 29)), (2, .int (nI i))] dX4_readPlan_67 rfl (by decide) rfl ?_
              refine g_aload_n hC dX4_readPlan_68 rfl 2 rfl ?_
              refine g_iload_n hC dX4_readPlan_69 rfl 1 rfl ?_
              refine g_callV hC (k := 29) (ci := 4) (as := [.int (nI (rnV T q))]) (rest := []) (c_X4_readHourNumber l D cA b M_7 L T (rnE T q) (rnV T q) hT_7 hk r3_7 en.2 (by omega)) ⟨fw_367, fw_369, fs_6, fw_5, fw_370⟩ ⟨rfl, hd_X4_readHourNumber⟩ rfl ly_29 ⟨Nat.le_of_ble_eq_true rfl, Nat.le_of_ble_eq_true rfl⟩ ⟨Nat.le_of_ble_eq_true rfl, Nat.le_of_ble_eq_true rfl⟩ rfl rfl (Nat.le_of_ble_eq_true rfl) dX4_readPlan_70 (g_rm (fun r_10 M_10 L_10 h_10 => ?_))
              obtain ⟨u1_10, u2_10, u3_10, u4_10, u5_10, u6_10⟩ := h_10
              rw [u6_10]
              have hT_10 : pC M_10 T := pC_m hT_7 (fun i i1 i2 => u3_10 i i1) (u4_10 30 (by decide) (by decide))
              refine g_istore hC [(4, .int r_10), (1, .int (sb s (rnV T q))), (3, .int (nI (rnV T q))), (0, .ref (b + 29)), (2, .int (nI i))] dX4_readPlan_73 (by decide) rfl ?_
              refine g_iload hC dX4_readPlan_75 0 rfl ?_
              refine g_if_ge_T (X := r_10.toInt) hC rfl 83 dX4_readPlan_77 rfl (fun c_11 => ?_) (fun c_11 => ?_)
              · skip
                obtain ⟨z1, e1, e0, e2⟩ : ∃ z1 e1, rhS T (rnE T q) = .inl (z1, e1) ∧ e1 ≤ T.1 := by
                  rcases rh_all (T := T) (p := rnE T q) en.2 with ⟨x1, e0, x2, x3⟩ | ⟨z1, e1, e0, z2, z3, e2⟩
                  · exfalso; rw [u1_10 x1 e0, neg20 (by omega)] at c_11; omega
                  · exact ⟨z1, e1, e0, e2⟩
                obtain ⟨b0, b1, b5⟩ := u2_10 z1 e1 e0
                have p0 := phS_4 ok hb e0
                refine g_aload_n hC dX4_readPlan_83 rfl 3 rfl ?_
                refine g_callV hC (k := 29) (ci := 4) (as := []) (rest := []) (c_X4_next l D cA b M_10 L T e1 hT_10 hk b5 e2) ⟨fw_321, fw_323, fs_2, fw_5, fw_324⟩ ⟨rfl, hd_X4_next⟩ rfl ly_29 ⟨Nat.le_of_ble_eq_true rfl, Nat.le_of_ble_eq_true rfl⟩ ⟨Nat.le_of_ble_eq_true rfl, Nat.le_of_ble_eq_true rfl⟩ rfl rfl (Nat.le_of_ble_eq_true rfl) dX4_readPlan_84 (g_rix ?_)
                refine g_iconst (v := (-1)) hC dX4_readPlan_87 rfl ?_
                refine g_icmp_ne_T (X := (chI T (nx T e1)).toInt) (Y := (-1)) hC rfl rfl 95 dX4_readPlan_88 rfl (fun c_13 => ?_) (fun c_13 => ?_)
                · skip
                  refine g_iload_n hC dX4_readPlan_95 rfl 4 rfl ?_
                  refine g_iconst (v := 1) hC dX4_readPlan_96 rfl ?_
                  refine g_iadd hC dX4_readPlan_97 ?_
                  refine g_top (y := nI (i + 1)) (nI_add _ _) ?_
                  refine g_bipush (v := 24) hC dX4_readPlan_98 rfl ?_
                  refine g_icmp_eq_T (X := ((i + 1 : Nat) : Int)) (Y := 24) hC (nI_toInt (by omega)) rfl 112 dX4_readPlan_100 rfl (fun c_14 => ?_) (fun c_14 => ?_)
                  · skip
                    refine g_aload_n hC dX4_readPlan_112 rfl 3 rfl ?_
                    refine g_callV hC (k := 29) (ci := 4) (as := []) (rest := []) (c_X4_faultHere l D cA b (fm_up M_10 29 2 (nI (nx T e1))) L (nx T e1) fm_ups) ⟨fw_328, fw_330, fs_3, fw_5, fw_331⟩ ⟨rfl, hd_X4_faultHere⟩ rfl ly_29 ⟨Nat.le_of_ble_eq_true rfl, Nat.le_of_ble_eq_true rfl⟩ ⟨Nat.le_of_ble_eq_true rfl, Nat.le_of_ble_eq_true rfl⟩ rfl rfl (Nat.le_of_ble_eq_true rfl) dX4_readPlan_113 (g_rix ?_)
                    refine g_zret (ty := .int) hC rfl rfl dX4_readPlan_116 ?_
                    have e9 : plT T = .inr (nx T e1) := hw.symm.trans (by rw [show 24 - i = (23 - i) + 1 by omega, pl_2 p0 (by omega)]; unfold plE; rw [if_neg (by omega)])
                    exact ⟨_, rfl, (fun x hx => (by rw [e9] at hx; cases hx; rfl)), (fun n K9 hx => (by rw [e9] at hx; cases hx)), (fun i i1 i2 => (by (repeat rw [fm_upx i1]); rw [u3_10 i i1, r5_7 i i1 i2]; exact j1 i i1 i2)), (fun q q1 q2 => (by (repeat rw [fm_upn q1]); rw [u4_10 q q1 q2, r6_7 q q1]; exact j2 q q1 q2)), rfl⟩
                  · skip
                    refine g_aload_n hC dX4_readPlan_103 rfl 3 rfl ?_
                    refine g_bipush (v := 44) hC dX4_readPlan_104 rfl ?_
                    refine g_callV hC (k := 29) (ci := 4) (as := [.int 44]) (rest := []) (c_X4_passes l D cA b (fm_up M_10 29 2 (nI (nx T e1))) L T (nx T e1) 44 (pC_m hT_10 (fun i i1 i2 => fm_upx i1) (fm_upn (by decide))) hk fm_ups (nx_le e2) (by decide)) ⟨fw_340, fw_342, fs_5, fw_5, fw_343⟩ ⟨rfl, hd_X4_passes⟩ rfl ly_29 ⟨Nat.le_of_ble_eq_true rfl, Nat.le_of_ble_eq_true rfl⟩ ⟨Nat.le_of_ble_eq_true rfl, Nat.le_of_ble_eq_true rfl⟩ rfl rfl (Nat.le_of_ble_eq_true rfl) dX4_readPlan_106 (g_rix ?_)
                    rw [nx_nx]
                    refine g_ifb_ne hC 117 dX4_readPlan_109 rfl (fun c_17 => ?_) (fun c_17 => ?_)
                    · skip
                      have yq : chI T (nx T e1) = nI 44 := c_17
                      rw [show psN T (nx T e1) 44 = nx T e1 + 1 from (if_pos (by rw [nx_nx]; exact yq)).trans (by rw [nx_nx])]
                      have pl1 : nx T e1 < T.1 := ch_lt (by decide) yq
                      have yz : (chI T (nx T e1)).toInt = 44 := (ch_i (by decide)).mpr yq
                      refine g_iinc hC [(2, .int (nI (i + 1))), (4, .int r_10), (1, .int (sb s (rnV T q))), (3, .int (nI (rnV T q))), (0, .ref (b + 29))] dX4_readPlan_117 4 rfl (by rw [show Int32.ofInt 1 = nI 1 from rfl, nI_add]) (by decide) rfl ?_
                      refine g_goto hC 27 dX4_readPlan_120 rfl ?_
                      exact g_sub [4, 2, 0] rfl (ih_4 (fm_up (fm_up M_10 29 2 (nI (nx T e1))) 29 2 (nI (nx T e1 + 1))) (i + 1) (sb s (rnV T q)) (nx T e1 + 1) (uP R (rnV T q) z1) (by omega) (⟨by omega, by omega, fm_ups, (fun i i1 i2 => (by (repeat rw [fm_upx i1]); rw [u3_10 i i1, r5_7 i i1 i2]; exact j1 i i1 i2)), (fun q q1 q2 => (by (repeat rw [fm_upn q1]); rw [u4_10 q q1 q2, r6_7 q q1]; exact j2 q q1 q2)), (fun j hj => (by (repeat rw [fm_upn (show 32 ≠ 29 by decide)]); by_cases ej : j = rnV T q; rw [ej]; simp only [uP, if_true]; exact b1; rw [u5_10 j ej, r6_7 32 (by decide)]; simp only [uP, if_neg ej]; exact j3 j hj)), (show plF T (24 - (i + 1)) (i + 1) (nx T e1 + 1) (sb s (rnV T q)) (uP R (rnV T q) z1) = plT T from ((show plF T (24 - i) i q s R = _ by rw [show 24 - i = (23 - i) + 1 by omega, pl_3 p0 (by omega) (by omega), show 24 - (i + 1) = 23 - i by omega]).symm.trans hw))⟩))
                    · skip
                      have nq : ¬ chI T (nx T e1) = nI 44 := c_17
                      rw [show psN T (nx T e1) 44 = nx T e1 from (if_neg (by rw [nx_nx]; exact nq)).trans (nx_nx _ _)]
                      refine g_aload_n hC dX4_readPlan_112 rfl 3 rfl ?_
                      refine g_callV hC (k := 29) (ci := 4) (as := []) (rest := []) (c_X4_faultHere l D cA b (fm_up (fm_up M_10 29 2 (nI (nx T e1))) 29 2 (nI (nx T e1))) L (nx T e1) fm_ups) ⟨fw_328, fw_330, fs_3, fw_5, fw_331⟩ ⟨rfl, hd_X4_faultHere⟩ rfl ly_29 ⟨Nat.le_of_ble_eq_true rfl, Nat.le_of_ble_eq_true rfl⟩ ⟨Nat.le_of_ble_eq_true rfl, Nat.le_of_ble_eq_true rfl⟩ rfl rfl (Nat.le_of_ble_eq_true rfl) dX4_readPlan_113 (g_rix ?_)
                      refine g_zret (ty := .int) hC rfl rfl dX4_readPlan_116 ?_
                      have e9 : plT T = .inr (nx T e1) := hw.symm.trans (by rw [show 24 - i = (23 - i) + 1 by omega, pl_2 p0 (by right; exact fun z => nq ((ch_i (by decide)).mp z))]; unfold plE; rw [if_neg (by omega)])
                      exact ⟨_, rfl, (fun x hx => (by rw [e9] at hx; cases hx; rfl)), (fun n K9 hx => (by rw [e9] at hx; cases hx)), (fun i i1 i2 => (by (repeat rw [fm_upx i1]); rw [u3_10 i i1, r5_7 i i1 i2]; exact j1 i i1 i2)), (fun q q1 q2 => (by (repeat rw [fm_upn q1]); rw [u4_10 q q1 q2, r6_7 q q1]; exact j2 q q1 q2)), rfl⟩
                · skip
                  refine g_iload_n hC dX4_readPlan_91 rfl 4 rfl ?_
                  refine g_iconst (v := 1) hC dX4_readPlan_92 rfl ?_
                  refine g_iadd hC dX4_readPlan_93 ?_
                  refine g_top (y := nI (i + 1)) (nI_add _ _) ?_
                  refine g_zret (ty := .int) hC rfl rfl dX4_readPlan_94 ?_
                  have e9 : plT T = .inl (i + 1, uP R (rnV T q) z1) := hw.symm.trans (by rw [show 24 - i = (23 - i) + 1 by omega, pl_2 p0 (by omega)]; unfold plE; rw [if_pos (by omega)])
                  exact ⟨_, rfl, (fun x hx => (by rw [e9] at hx; cases hx)), (fun n K9 hx => (by rw [e9] at hx; cases hx; exact ⟨rfl, (fun j hj => (by (repeat rw [fm_upn (show 32 ≠ 29 by decide)]); by_cases ej : j = rnV T q; rw [ej]; simp only [uP, if_true]; exact b1; rw [u5_10 j ej, r6_7 32 (by decide)]; simp only [uP, if_neg ej]; exact j3 j hj))⟩)), (fun i i1 i2 => (by (repeat rw [fm_upx i1]); rw [u3_10 i i1, r5_7 i i1 i2]; exact j1 i i1 i2)), (fun q q1 q2 => (by (repeat rw [fm_upn q1]); rw [u4_10 q q1 q2, r6_7 q q1]; exact j2 q q1 q2)), rfl⟩
              · skip
                obtain ⟨x1, e0⟩ : ∃ x1, rhS T (rnE T q) = .inr x1 := by
                  rcases rh_all (T := T) (p := rnE T q) en.2 with ⟨x1, e0, x2, x3⟩ | ⟨z1, e1, e0, z2, z3, e2⟩
                  · exact ⟨x1, e0⟩
                  · exfalso; rw [(u2_10 _ _ e0).1] at c_11; exact absurd c_11 (by decide)
                have p0 := phS_3 ok hb e0
                refine g_iload hC dX4_readPlan_80 0 rfl ?_
                refine g_zret (ty := .int) hC rfl rfl dX4_readPlan_82 ?_
                have e9 : plT T = .inr x1 := hw.symm.trans (by rw [show 24 - i = (23 - i) + 1 by omega]; exact pl_1 p0)
                exact ⟨_, rfl, (fun x hx => (by rw [e9] at hx; cases hx; exact u1_10 x1 e0)), (fun n K9 hx => (by rw [e9] at hx; cases hx)), (fun i i1 i2 => (by (repeat rw [fm_upx i1]); rw [u3_10 i i1, r5_7 i i1 i2]; exact j1 i i1 i2)), (fun q q1 q2 => (by (repeat rw [fm_upn q1]); rw [u4_10 q q1 q2, r6_7 q q1]; exact j2 q q1 q2)), rfl⟩
            · skip
              refine g_bipush (v := (-20)) hC dX4_readPlan_54 rfl ?_
              refine g_aload_n hC dX4_readPlan_56 rfl 1 rfl ?_
              refine g_getI (ci := 4) (i := 3) (k := 29) hC fm_in4 rfl ly_29 rfl (by decide) fw_125 dX4_readPlan_57 ?_
              refine g_top (y := nI (nx T q)) m3 ?_
              refine g_isub hC dX4_readPlan_60 ?_
              refine g_zret (ty := .int) hC rfl rfl dX4_readPlan_61 ?_
              have e9 : plT T = .inr (nx T q) := hw.symm.trans (by rw [show 24 - i = (23 - i) + 1 by omega]; exact pl_1 (phS_2 ok (by have := bt_01 s (rnV T q); omega)))
              exact ⟨_, rfl, (fun x hx => (by rw [e9] at hx; cases hx; rfl)), (fun n K9 hx => (by rw [e9] at hx; cases hx)), (fun i i1 i2 => (by rw [r5_7 i i1 i2]; exact j1 i i1 i2)), (fun q q1 q2 => (by rw [r6_7 q q1]; exact j2 q q1 q2)), rfl⟩
          · skip
            have nk : ¬ rnOk T q 23 := fun z => absurd (g_7.mpr z) (by omega)
            refine g_iload_n hC dX4_readPlan_44 rfl 0 rfl ?_
            refine g_zret (ty := .int) hC rfl rfl dX4_readPlan_45 ?_
            have e9 : plT T = .inr (nx T q) := hw.symm.trans (by rw [show 24 - i = (23 - i) + 1 by omega]; exact pl_1 (phS_1 nk))
            exact ⟨_, rfl, (fun x hx => (by rw [e9] at hx; cases hx; exact r2_7 nk)), (fun n K9 hx => (by rw [e9] at hx; cases hx)), (fun i i1 i2 => (by rw [r5_7 i i1 i2]; exact j1 i i1 i2)), (fun q q1 q2 => (by rw [r6_7 q q1]; exact j2 q q1 q2)), rfl⟩
    exact g_sub [2, 1, 0] rfl (lp_27_4 (24 - 0 + 1) (fm_up M_1 29 2 (nI (nx T 0))) 0 0 (nx T 0) pl0 (Nat.lt_succ_self _) (⟨by decide, nx_le (Nat.zero_le _), fm_ups, fun i a c => (by rw [fm_upx a, f1_1 29 (by decide), fm_upx a]), fun q a c => (by rw [fm_upn a, f1_1 q c, fm_upn a]), fun j hj => (by rw [fm_upn (by decide)]; exact f2_1 j hj), (by unfold plT; rw [if_neg (by omega)])⟩))
  · skip
    refine g_iconst (v := 0) hC dX4_readPlan_21 rfl ?_
    refine g_zret (ty := .int) hC rfl rfl dX4_readPlan_22 ?_
    have e9 : plT T = .inl (0, pl0) := by unfold plT; rw [if_pos (by omega)]
    exact ⟨_, rfl, (fun x hx => (by rw [e9] at hx; cases hx)), (fun n K9 hx => (by rw [e9] at hx; cases hx; exact ⟨rfl, (fun j hj => (by rw [fm_upn (by decide)]; exact f2_1 j hj))⟩)), (fun i i1 i2 => (by rw [fm_upx i1, f1_1 29 (by decide), fm_upx i1])), (fun q q1 q2 => (by rw [fm_upn q1, f1_1 q q2, fm_upn q1])), rfl⟩

theorem c_X7_readPlan (l : Launch) (D : va_G) (cA : Nat → ClassId) (b : Nat) (M : Nat → Nat → Int32) (L : Nat → Nat → Int64) (T : Nat × (Nat → Nat)) (hT : pR M T) (hk : pOK T) : fm_Met l D cA b yX7_readPlan cX7_readPlan 2 (some .boolean) 3 72 0 0 [.ref (b + 58)] LAY M L LAY (fm_pm (fun r M' L' => (∀ x, plT T = .inr x → r = 0 ∧ M' 58 19 = nI x) ∧ (∀ n R, plT T = .inl (n, R) → r = 1 ∧ M' 58 20 = nI n ∧ ∀ j, j < 24 → M' 68 j = Int32.ofInt (R j)) ∧ (∀ i, i ≠ 19 → i ≠ 20 → i ≠ 22 → M' 58 i = M 58 i) ∧ (∀ q, q ≠ 58 → q ≠ 68 → M' q = M q) ∧ L' = L)) := by
  refine fm_start RX7 rfl (by decide) (Nat.le_of_ble_eq_true rfl) ?_
  intro pq eq sq mq aq bq tq cq hC hin
  have tl : T.1 ≤ 140 := hk.1
  refine g_aload_n hC dX7_readPlan_0 rfl 0 rfl ?_
  refine g_iconst (v := 0) hC dX7_readPlan_1 rfl ?_
  refine g_putI (ci := 7) (i := 19) (k := 58) hC fm_in7 tyX7 tyX7_ok nmX7 rfl ly_58 rfl (by decide) fw_639 rfl rfl rfl dX7_readPlan_2 ?_
  refine g_aload_n hC dX7_readPlan_5 rfl 0 rfl ?_
  refine g_iconst (v := 0) hC dX7_readPlan_6 rfl ?_
  refine g_putI (ci := 7) (i := 20) (k := 58) hC fm_in7 tyX7 tyX7_ok nmX7 rfl ly_58 rfl (by decide) fw_640 rfl rfl rfl dX7_readPlan_7 ?_
  refine g_aload_n hC dX7_readPlan_10 rfl 0 rfl ?_
  refine g_iconst (v := 0) hC dX7_readPlan_11 rfl ?_
  refine g_putI (ci := 7) (i := 22) (k := 58) hC fm_in7 tyX7 tyX7_ok nmX7 rfl ly_58 rfl (by decide) fw_642 rfl rfl rfl dX7_readPlan_12 ?_
  refine g_iconst (v := 0) hC dX7_readPlan_15 rfl ?_
  refine g_istore_n hC [(1, .int 0), (0, .ref (b + 58))] dX7_readPlan_16 rfl (by decide) rfl ?_
  have lp_17_1 : ∀ (n_1 : Nat) (My : Nat → Nat → Int32) (iy : Nat), 24 - iy < n_1 → (iy ≤ 24 ∧ (∀ q, q ≠ 68 → My q = (fm_up (fm_up (fm_up M 58 19 0) 58 20 0) 58 22 0) q) ∧ (∀ j, j < iy → My 68 j = 0)) → fm_G pq l eq (fm_rm 3 72 0 0) sq mq aq bq tq cq D cA b 2 (MQ bq (fm_Q D cA b LAY (fm_pm (fun r M' L' => (∀ x, plT T = .inr x → r = 0 ∧ M' 58 19 = nI x) ∧ (∀ n R, plT T = .inl (n, R) → r = 1 ∧ M' 58 20 = nI n ∧ ∀ j, j < 24 → M' 68 j = Int32.ofInt (R j)) ∧ (∀ i, i ≠ 19 → i ≠ 20 → i ≠ 22 → M' 58 i = M 58 i) ∧ (∀ q, q ≠ 58 → q ≠ 68 → M' q = M q) ∧ L' = L))) aq sq 0 0 (fun q => b ≤ q)) LAY My L 0 0 17 [(0, .ref (b + 58)), (1, .int (nI iy))] [] := by
    intro n_1
    induction n_1 with
    | zero => intro My iy hm_1; exact absurd hm_1 (Nat.not_lt_zero _)
    | succ n_1 ih_1 =>
      intro My iy hm_1 hinv_1
      obtain ⟨y1, y2, y3⟩ := hinv_1
      refine g_iload_n hC dX7_readPlan_17 rfl 1 rfl ?_
      refine g_bipush (v := 24) hC dX7_readPlan_18 rfl ?_
      refine g_icmp_ge_T (X := ((iy : Nat) : Int)) (Y := 24) hC (nI_toInt (by omega)) rfl 36 dX7_readPlan_20 rfl (fun c_2 => ?_) (fun c_2 => ?_)
      · skip
        refine g_aload_n hC dX7_readPlan_36 rfl 0 rfl ?_
        refine g_callV hC (k := 58) (ci := 7) (as := []) (rest := []) (c_X7_nextByte l D cA b My L T 0 (pR_mm hT (by rw [y2 58 (by decide), fm_upx (by decide), fm_upx (by decide), fm_upx (by decide)]) (by rw [y2 67 (by decide), fm_upn (by decide), fm_upn (by decide), fm_upn (by decide)])) hk (by rw [y2 58 (by decide), fm_upx (by decide), fm_upx (by decide), fm_ups]; rfl) (Nat.zero_le _)) ⟨fw_804, fw_806, fs_20, fw_9, fw_807⟩ ⟨rfl, hd_X7_nextByte⟩ rfl ly_58 ⟨Nat.le_of_ble_eq_true rfl, Nat.le_of_ble_eq_true rfl⟩ ⟨Nat.le_of_ble_eq_true rfl, Nat.le_of_ble_eq_true rfl⟩ rfl rfl (Nat.le_of_ble_eq_true rfl) dX7_readPlan_37 (g_rix ?_)
        refine g_if_ge_T (X := (chI T (nx T 0)).toInt) hC rfl 45 dX7_readPlan_40 rfl (fun c_4 => ?_) (fun c_4 => ?_)
        · skip
          refine g_iconst (v := 1) hC dX7_readPlan_45 rfl ?_
          refine g_istore_n hC [(1, .int 1), (0, .ref (b + 58))] dX7_readPlan_46 rfl (by decide) rfl ?_
          have lp_47_5 : ∀ (n_5 : Nat) (M1 : Nat → Nat → Int32) (y : Nat) (i : Nat) (s : Int32) (q : Nat) (R : Nat → Int), 2 * (24 - i) + y < n_5 → (y < 2 ∧ q ≤ T.1 ∧ M1 58 19 = nI q ∧ M1 58 20 = nI i ∧ M1 58 22 = s ∧ (∀ i, i ≠ 19 → i ≠ 20 → i ≠ 22 → M1 58 i = M 58 i) ∧ (∀ q, q ≠ 58 → q ≠ 68 → M1 q = M q) ∧ (∀ j, j < 24 → M1 68 j = Int32.ofInt (R j)) ∧ (y = 1 → i < 24 ∧ plF T (24 - i) i q s R = plT T) ∧ (y = 0 → plE T i q R = plT T)) → fm_G pq l eq (fm_rm 3 72 0 0) sq mq aq bq tq cq D cA b 2 (MQ bq (fm_Q D cA b LAY (fm_pm (fun r M' L' => (∀ x, plT T = .inr x → r = 0 ∧ M' 58 19 = nI x) ∧ (∀ n R, plT T = .inl (n, R) → r = 1 ∧ M' 58 20 = nI n ∧ ∀ j, j < 24 → M' 68 j = Int32.ofInt (R j)) ∧ (∀ i, i ≠ 19 → i ≠ 20 → i ≠ 22 → M' 58 i = M 58 i) ∧ (∀ q, q ≠ 58 → q ≠ 68 → M' q = M q) ∧ L' = L))) aq sq 0 0 (fun q => b ≤ q)) LAY M1 L 0 0 47 [(0, .ref (b + 58)), (1, .int (nI y))] [] := by
            intro n_5
            induction n_5 with
            | zero => intro M1 y i s q R hm_5; exact absurd hm_5 (Nat.not_lt_zero _)
            | succ n_5 ih_5 =>
              intro M1 y i s q R hm_5 hinv_5
              obtain ⟨il, i0, m2, m20, m22, j1, j2, j3, w1, w0⟩ := hinv_5
              have hT1 : pR M1 T := pR_mm hT (j1 18 (by decide) (by decide) (by decide)) (j2 67 (by decide) (by decide))
              refine g_iload_n hC dX7_readPlan_47 rfl 1 rfl ?_
              refine g_if_eq_T (X := ((y : Nat) : Int)) hC (nI_toInt (by omega)) 97 dX7_readPlan_48 rfl (fun c_6 => ?_) (fun c_6 => ?_)
              · skip
                refine g_aload_n hC dX7_readPlan_97 rfl 0 rfl ?_
                refine g_callV hC (k := 58) (ci := 7) (as := []) (rest := []) (c_X7_nextByte l D cA b M1 L T q hT1 hk m2 i0) ⟨fw_804, fw_806, fs_20, fw_9, fw_807⟩ ⟨rfl, hd_X7_nextByte⟩ rfl ly_58 ⟨Nat.le_of_ble_eq_true rfl, Nat.le_of_ble_eq_true rfl⟩ ⟨Nat.le_of_ble_eq_true rfl, Nat.le_of_ble_eq_true rfl⟩ rfl rfl (Nat.le_of_ble_eq_true rfl) dX7_readPlan_98 (g_rix ?_)
                refine g_if_ge_T (X := (chI T (nx T q)).toInt) hC rfl 108 dX7_readPlan_101 rfl (fun c_8 => ?_) (fun c_8 => ?_)
                · skip
                  refine g_iconst (v := 0) hC dX7_readPlan_108 rfl ?_
                  refine g_zret (ty := .boolean) hC rfl rfl dX7_readPlan_109 ?_
                  have e9 : plT T = .inr (nx T q) := (w0 (by omega)).symm.trans (by unfold plE; rw [if_neg (by omega)])
                  exact ⟨_, rfl, (fun x hx => (by rw [e9] at hx; cases hx; exact ⟨rfl, fm_ups⟩)), (fun n K9 hx => (by rw [e9] at hx; cases hx)), (fun i i1 i2 i3 => (by (repeat rw [fm_upx i1]); exact j1 i i1 i2 i3)), (fun q q1 q2 => (by (repeat rw [fm_upn q1]); exact j2 q q1 q2)), rfl⟩
                · skip
                  refine g_iconst (v := 1) hC dX7_readPlan_104 rfl ?_
                  refine g_goto hC 109 dX7_readPlan_105 rfl ?_
                  refine g_zret (ty := .boolean) hC rfl rfl dX7_readPlan_109 ?_
                  have cr := ch_rng hk (nx T q)
                  have e9 : plT T = .inl (i, R) := (w0 (by omega)).symm.trans (by unfold plE; rw [if_pos (by omega)])
                  exact ⟨_, rfl, (fun x hx => (by rw [e9] at hx; cases hx)), (fun n K9 hx => (by rw [e9] at hx; cases hx; exact ⟨rfl, (by rw [fm_upx (by decide)]; exact m20), (fun j hj => (by rw [fm_upn (by decide)]; exact j3 j hj))⟩)), (fun i i1 i2 i3 => (by (repeat rw [fm_upx i1]); exact j1 i i1 i2 i3)), (fun q q1 q2 => (by (repeat rw [fm_upn q1]); exact j2 q q1 q2)), rfl⟩
              · skip
                refine g_aload_n hC dX7_readPlan_51 rfl 0 rfl ?_
                refine g_callV hC (k := 58) (ci := 7) (as := []) (rest := []) (c_X7_readHour l D cA b M1 L T q s hT1 hk m2 i0 m22) ⟨fw_831, fw_833, fs_25, fw_9, fw_834⟩ ⟨rfl, hd_X7_readHour⟩ rfl ly_58 ⟨Nat.le_of_ble_eq_true rfl, Nat.le_of_ble_eq_true rfl⟩ ⟨Nat.le_of_ble_eq_true rfl, Nat.le_of_ble_eq_true rfl⟩ rfl rfl (Nat.le_of_ble_eq_true rfl) dX7_readPlan_52 (g_rm (fun r_9 M_9 L_9 h_9 => ?_))
                obtain ⟨a1_9, a2_9, a3_9, a4_9, a5_9⟩ := h_9
                rw [a5_9]
                have hT_9 : pR M_9 T := pR_mm hT1 (a3_9 18 (by decide) (by decide)) (a4_9 67 (by decide) (by decide))
                have s20 : M_9 58 20 = nI i := (a3_9 20 (by decide) (by decide)).trans m20
                refine g_if_ne_T (X := r_9.toInt) hC rfl 60 dX7_readPlan_55 rfl (fun c_10 => ?_) (fun c_10 => ?_)
                · skip
                  obtain ⟨h1, z1, e1, e0, h2, e2⟩ : ∃ h1 z1 e1, phS T q s = .inl (h1, z1, e1) ∧ h1 < 24 ∧ e1 ≤ T.1 := by
                    rcases ph_all (s := s) i0 with ⟨x1, e0, x2, x3⟩ | ⟨h1, z1, e1, e0, h2, z2, z3, e2⟩
                    · exfalso; rw [(a1_9 x1 e0).1] at c_10; exact c_10 rfl
                    · exact ⟨h1, z1, e1, e0, h2, e2⟩
                  obtain ⟨b0, b1, b5, b6, b7⟩ := a2_9 h1 z1 e1 e0
                  have il2 := (w1 (by omega)).1
                  refine g_aload_n hC dX7_readPlan_60 rfl 0 rfl ?_
                  refine g_dup hC dX7_readPlan_61 rfl ?_
                  refine g_getI (ci := 7) (i := 20) (k := 58) hC fm_in7 rfl ly_58 rfl (by decide) fw_640 dX7_readPlan_62 ?_
                  refine g_top (y := nI i) s20 ?_
                  refine g_iconst (v := 1) hC dX7_readPlan_65 rfl ?_
                  refine g_iadd hC dX7_readPlan_66 ?_
                  refine g_top (y := nI (i + 1)) (nI_add _ _) ?_
                  refine g_putI (ci := 7) (i := 20) (k := 58) hC fm_in7 tyX7 tyX7_ok nmX7 rfl ly_58 rfl (by decide) fw_640 rfl rfl rfl dX7_readPlan_67 ?_
                  refine g_aload_n hC dX7_readPlan_70 rfl 0 rfl ?_
                  refine g_getI (ci := 7) (i := 20) (k := 58) hC fm_in7 rfl ly_58 rfl (by decide) fw_640 dX7_readPlan_71 ?_
                  refine g_top (y := nI (i + 1)) (by simp [fm_up, fm_row, upd]) ?_
                  refine g_bipush (v := 24) hC dX7_readPlan_74 rfl ?_
                  refine g_icmp_ge_T (X := ((i + 1 : Nat) : Int)) (Y := 24) hC (nI_toInt (by omega)) rfl 92 dX7_readPlan_76 rfl (fun c_11 => ?_) (fun c_11 => ?_)
                  · skip
                    refine g_iconst (v := 0) hC dX7_readPlan_92 rfl ?_
                    refine g_istore_n hC [(1, .int 0), (0, .ref (b + 58))] dX7_readPlan_93 rfl (by decide) rfl ?_
                    refine g_goto hC 47 dX7_readPlan_94 rfl ?_
                    exact g_sub [1, 0] rfl (ih_5 (fm_up M_9 58 20 (nI (i + 1))) 0 (i + 1) (sb s h1) e1 (uP R h1 z1) (by have := (w1 (by omega)).1; omega) (⟨by omega, by omega, (by rw [fm_upx (by decide)]; exact b5), (by (repeat rw [fm_upx (show 20 ≠ 19 by decide)]); rw [fm_ups]), (by (repeat rw [fm_upx (by decide)]); exact b6), (fun i i1 i2 i3 => (by (repeat first | rw [fm_upx i1] | rw [fm_upx i2]); rw [a3_9 i i1 i3]; exact j1 i i1 i2 i3)), (fun q q1 q2 => (by (repeat rw [fm_upn q1]); rw [a4_9 q q1 q2]; exact j2 q q1 q2)), (fun j hj => (by (repeat rw [fm_upn (show 68 ≠ 58 by decide)]); by_cases ej : j = h1; rw [ej]; simp only [uP, if_true]; exact b1; rw [b7 j ej]; simp only [uP, if_neg ej]; exact j3 j hj)), (fun z => absurd z (by decide)), (fun _ => (show plE T (i + 1) e1 (uP R h1 z1) = plT T from (((show plF T (24 - i) i q s R = _ by rw [show 24 - i = (23 - i) + 1 by omega, pl_2 e0 (by omega)]).symm.trans (w1 (by omega)).2))))⟩))
                  · skip
                    refine g_aload_n hC dX7_readPlan_79 rfl 0 rfl ?_
                    refine g_bipush (v := 44) hC dX7_readPlan_80 rfl ?_
                    refine g_callV hC (k := 58) (ci := 7) (as := [.int 44]) (rest := []) (c_X7_takes l D cA b (fm_up M_9 58 20 (nI (i + 1))) L T e1 44 (pR_mm hT_9 (fm_upx (by decide)) (fm_upn (by decide))) hk (by rw [fm_upx (by decide)]; exact b5) e2 (by decide)) ⟨fw_815, fw_817, fs_22, fw_9, fw_818⟩ ⟨rfl, hd_X7_takes⟩ rfl ly_58 ⟨Nat.le_of_ble_eq_true rfl, Nat.le_of_ble_eq_true rfl⟩ ⟨Nat.le_of_ble_eq_true rfl, Nat.le_of_ble_eq_true rfl⟩ rfl rfl (Nat.le_of_ble_eq_true rfl) dX7_readPlan_82 (g_rix ?_)
                    refine g_ifb_eq hC 92 dX7_readPlan_85 rfl (fun c_13 => ?_) (fun c_13 => ?_)
                    · skip
                      have nq : ¬ chI T (nx T e1) = nI 44 := c_13
                      rw [show psN T e1 44 = nx T e1 from if_neg nq]
                      have nl1 := nx_le e2
                      have nz : (chI T (nx T e1)).toInt ≠ 44 := fun z => nq ((ch_i (by decide)).mp z)
                      refine g_iconst (v := 0) hC dX7_readPlan_92 rfl ?_
                      refine g_istore_n hC [(1, .int 0), (0, .ref (b + 58))] dX7_readPlan_93 rfl (by decide) rfl ?_
                      refine g_goto hC 47 dX7_readPlan_94 rfl ?_
                      exact g_sub [1, 0] rfl (ih_5 (fm_up (fm_up M_9 58 20 (nI (i + 1))) 58 19 (nI (nx T e1))) 0 (i + 1) (sb s h1) (nx T e1) (uP R h1 z1) (by have := (w1 (by omega)).1; omega) (⟨by omega, by omega, fm_ups, (by (repeat rw [fm_upx (show 20 ≠ 19 by decide)]); rw [fm_ups]), (by (repeat rw [fm_upx (by decide)]); exact b6), (fun i i1 i2 i3 => (by (repeat first | rw [fm_upx i1] | rw [fm_upx i2]); rw [a3_9 i i1 i3]; exact j1 i i1 i2 i3)), (fun q q1 q2 => (by (repeat rw [fm_upn q1]); rw [a4_9 q q1 q2]; exact j2 q q1 q2)), (fun j hj => (by (repeat rw [fm_upn (show 68 ≠ 58 by decide)]); by_cases ej : j = h1; rw [ej]; simp only [uP, if_true]; exact b1; rw [b7 j ej]; simp only [uP, if_neg ej]; exact j3 j hj)), (fun z => absurd z (by decide)), (fun _ => (show plE T (i + 1) (nx T e1) (uP R h1 z1) = plT T from (plE_nx.trans ((show plF T (24 - i) i q s R = _ by rw [show 24 - i = (23 - i) + 1 by omega, pl_2 e0 (by omega)]).symm.trans (w1 (by omega)).2))))⟩))
                    · skip
                      have yq : chI T (nx T e1) = nI 44 := c_13
                      rw [show psN T e1 44 = nx T e1 + 1 from if_pos yq]
                      have pl1 : nx T e1 < T.1 := ch_lt (by decide) yq
                      have yz : (chI T (nx T e1)).toInt = 44 := (ch_i (by decide)).mpr yq
                      refine g_iconst (v := 1) hC dX7_readPlan_88 rfl ?_
                      refine g_goto hC 93 dX7_readPlan_89 rfl ?_
                      refine g_istore_n hC [(1, .int 1), (0, .ref (b + 58))] dX7_readPlan_93 rfl (by decide) rfl ?_
                      refine g_goto hC 47 dX7_readPlan_94 rfl ?_
                      exact g_sub [1, 0] rfl (ih_5 (fm_up (fm_up M_9 58 20 (nI (i + 1))) 58 19 (nI (nx T e1 + 1))) 1 (i + 1) (sb s h1) (nx T e1 + 1) (uP R h1 z1) (by have := (w1 (by omega)).1; omega) (⟨by omega, by omega, fm_ups, (by (repeat rw [fm_upx (show 20 ≠ 19 by decide)]); rw [fm_ups]), (by (repeat rw [fm_upx (by decide)]); exact b6), (fun i i1 i2 i3 => (by (repeat first | rw [fm_upx i1] | rw [fm_upx i2]); rw [a3_9 i i1 i3]; exact j1 i i1 i2 i3)), (fun q q1 q2 => (by (repeat rw [fm_upn q1]); rw [a4_9 q q1 q2]; exact j2 q q1 q2)), (fun j hj => (by (repeat rw [fm_upn (show 68 ≠ 58 by decide)]); by_cases ej : j = h1; rw [ej]; simp only [uP, if_true]; exact b1; rw [b7 j ej]; simp only [uP, if_neg ej]; exact j3 j hj)), (fun _ => ⟨by omega, (show plF T (24 - (i + 1)) (i + 1) (nx T e1 + 1) (sb s h1) (uP R h1 z1) = plT T from ((show plF T (24 - i) i q s R = _ by rw [show 24 - i = (23 - i) + 1 by omega, pl_3 e0 (by omega) (by omega), show 24 - (i + 1) = 23 - i by omega]).symm.trans (w1 (by omega)).2))⟩), (fun z => absurd z (by decide))⟩))
                · skip
                  obtain ⟨x1, e0⟩ : ∃ x1, phS T q s = .inr x1 := by
                    rcases ph_all (s := s) i0 with ⟨x1, e0, x2, x3⟩ | ⟨h1, z1, e1, e0, h2, z2, z3, e2⟩
                    · exact ⟨x1, e0⟩
                    · exfalso; rw [(a2_9 _ _ _ e0).1] at c_10; exact absurd c_10 (by decide)
                  refine g_iconst (v := 0) hC dX7_readPlan_58 rfl ?_
                  refine g_zret (ty := .boolean) hC rfl rfl dX7_readPlan_59 ?_
                  have e9 : plT T = .inr x1 := (w1 (by omega)).2.symm.trans (by have := (w1 (by omega)).1; rw [show 24 - i = (23 - i) + 1 by omega]; exact pl_1 e0)
                  exact ⟨_, rfl, (fun x hx => (by rw [e9] at hx; cases hx; exact ⟨rfl, (a1_9 x1 e0).2⟩)), (fun n K9 hx => (by rw [e9] at hx; cases hx)), (fun i i1 i2 i3 => (by (repeat first | rw [fm_upx i1] | rw [fm_upx i2]); rw [a3_9 i i1 i3]; exact j1 i i1 i2 i3)), (fun q q1 q2 => (by (repeat rw [fm_upn q1]); rw [a4_9 q q1 q2]; exact j2 q q1 q2)), rfl⟩
          exact g_sub [1, 0] rfl (lp_47_5 (2 * (24 - 0) + 1 + 1) (fm_up My 58 19 (nI (nx T 0))) 1 0 0 (nx T 0) pl0 (Nat.lt_succ_self _) (⟨by decide, nx_le (Nat.zero_le _), fm_ups, (by rw [fm_upx (by decide), y2 58 (by decide), fm_upx (by decide), fm_ups]; rfl), (by rw [fm_upx (by decide), y2 58 (by decide), fm_ups]), (fun i i1 i2 i3 => (by rw [fm_upx i1, y2 58 (by decide), fm_upx i3, fm_upx i2, fm_upx i1])), (fun q q1 q2 => (by rw [fm_upn q1, y2 q q2, fm_upn q1, fm_upn q1, fm_upn q1])), (fun j hj => (by rw [fm_upn (by decide)]; exact y3 j (by omega))), (fun _ => ⟨by decide, (by unfold plT; rw [if_neg (by omega)])⟩), (fun z => absurd z (by decide))⟩))
        · skip
          refine g_iconst (v := 1) hC dX7_readPlan_43 rfl ?_
          refine g_zret (ty := .boolean) hC rfl rfl dX7_readPlan_44 ?_
          have cr := ch_rng hk (nx T 0)
          have e9 : plT T = .inl (0, pl0) := by unfold plT; rw [if_pos (by omega)]
          exact ⟨_, rfl, (fun x hx => (by rw [e9] at hx; cases hx)), (fun n K9 hx => (by rw [e9] at hx; cases hx; exact ⟨rfl, (by rw [fm_upx (by decide), y2 58 (by decide), fm_upx (by decide), fm_ups]; rfl), (fun j hj => (by rw [fm_upn (by decide)]; exact y3 j (by omega)))⟩)), (fun i i1 i2 i3 => (by rw [fm_upx i1, y2 58 (by decide), fm_upx i3, fm_upx i2, fm_upx i1])), (fun q q1 q2 => (by rw [fm_upn q1, y2 q q2, fm_upn q1, fm_upn q1, fm_upn q1])), rfl⟩
      · skip
        refine g_aload_n hC dX7_readPlan_23 rfl 0 rfl ?_
        refine g_getR (ci := 7) (i := 21) (k := 58) (t := 68) hC fm_in7 rfl ly_58 rfl (by decide) fw_641 dX7_readPlan_24 ?_
        refine g_iload_n hC dX7_readPlan_27 rfl 1 rfl ?_
        refine g_iconst (v := 0) hC dX7_readPlan_28 rfl ?_
        refine g_iastN (j := iy) (k := 68) hC ly_68 rfl (by omega) (by decide) dX7_readPlan_29 ?_
        refine g_iinc hC [(1, .int (nI (iy + 1))), (0, .ref (b + 58))] dX7_readPlan_30 1 rfl (by rw [show Int32.ofInt 1 = nI 1 from rfl, nI_add]) (by decide) rfl ?_
        refine g_goto hC 17 dX7_readPlan_33 rfl ?_
        exact g_sub [1, 0] rfl (ih_1 (fm_up My 68 iy 0) (iy + 1) (by omega) (⟨by omega, fun q hq => (by rw [fm_upn hq]; exact y2 q hq), fun j hj => (by by_cases ej : j = iy; rw [ej, fm_ups]; rw [fm_upx ej]; exact y3 j (by omega))⟩))
  exact g_sub [1, 0] rfl (lp_17_1 (24 - 0 + 1) (fm_up (fm_up (fm_up M 58 19 0) 58 20 0) 58 22 0) 0 (Nat.lt_succ_self _) (⟨by decide, fun _ _ => rfl, fun j hj => by omega⟩))
