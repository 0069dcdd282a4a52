/-! ===== the tape: a town ===== -/
theorem rp_all {T : Nat × (Nat → Nat)} {p : Nat} (hle : p ≤ T.1) : (∃ x, rpS T p = .inr x ∧ x ≤ T.1 ∧ nx T x = x) ∨ (∃ k h w m e, rpS T p = .inl (k, h, w, m, e) ∧ k < 4 ∧ h < 24 ∧ w < 100 ∧ m < 2 ∧ e ≤ T.1) := by
  unfold rpS
  have z := kd_rng (chI T (nx T p))
  by_cases c1 : (kdI (chI T (nx T p))).toInt < 0
  · rw [if_pos c1]; exact Or.inl ⟨_, rfl, nx_le hle, nx_nx _ _⟩
  · have kl := kd_lt (T := T) (q := nx T p) (by omega)
    rw [if_neg c1]
    by_cases c2 : ¬ (fig T (nx T (nx T p + 1)) ∧ rnV T (nx T p + 1) ≤ 23)
    · rw [if_pos c2]; exact Or.inl ⟨_, rfl, nx_le (by omega), nx_nx _ _⟩
    · rw [if_neg c2]
      have o1 := (Classical.not_not.mp c2).2
      have en := rnE_le (T := T) (p := (nx T p + 1)) (by omega)
      have pl3 : (psN T (rnE T (nx T p + 1)) 119) ≤ T.1 := ps_le en.2 (by decide)
      by_cases c3 : chI T (nx T (rnE T (nx T p + 1))) = nI 119
      · rw [if_pos c3]
        by_cases c4 : ¬ (fig T (nx T (psN T (rnE T (nx T p + 1)) 119)) ∧ rnV T (psN T (rnE T (nx T p + 1)) 119) ≤ 99)
        · rw [if_pos c4]; exact Or.inl ⟨_, rfl, nx_le pl3, nx_nx _ _⟩
        · rw [if_neg c4]
          have o2 := (Classical.not_not.mp c4).2
          have en3 := rnE_le (T := T) (p := (psN T (rnE T (nx T p + 1)) 119)) pl3
          exact Or.inr ⟨_, _, _, _, _, rfl, by omega, by omega, by omega, by split <;> omega, ps_le en3.2 (by decide)⟩
      · rw [if_neg c3]
        exact Or.inr ⟨_, _, _, _, _, rfl, by omega, by omega, by omega, by split <;> omega, ps_le pl3 (by decide)⟩
def pK (K : Nat → Nat → Nat) (i k h w m : Nat) : Nat → Nat → Nat := fun a j => if j = i then (if a = 0 then k else if a = 1 then h else if a = 2 then w else m) else K a j
def twF (T : Nat × (Nat → Nat)) : Nat → Nat → Nat → (Nat → Nat → Nat) → (Nat × (Nat → Nat → Nat)) ⊕ Nat
  | 0, _, p, _ => .inr (nx T p)
  | f + 1, i, p, K => match rpS T p with
    | .inr q => .inr q
    | .inl (k, h, w, m, e) =>
      if (chI T (nx T e)).toInt = -1 then .inl (i + 1, pK K i k h w m)
      else if f = 0 ∨ (chI T (nx T e)).toInt ≠ 44 then .inr (nx T e)
      else twF T f (i + 1) (nx T e + 1) (pK K i k h w m)
def tw0 : Nat → Nat → Nat := fun _ _ => 0
/-- the town written on the tape: how many people, their kinds, hours, weights, mays; or the place of the fault -/
def twT (T : Nat × (Nat → Nat)) : (Nat × (Nat → Nat → Nat)) ⊕ Nat := twF T 8 0 0 tw0
theorem tw_1 {T : Nat × (Nat → Nat)} {f i p q : Nat} {K : Nat → Nat → Nat} (h : rpS T p = .inr q) : twF T (f + 1) i p K = .inr q := by
  unfold twF; rw [h]
theorem tw_2 {T : Nat × (Nat → Nat)} {f i p k h w m e : Nat} {K : Nat → Nat → Nat} (hh : rpS T p = .inl (k, h, w, m, e)) (c : (chI T (nx T e)).toInt = -1) : twF T (f + 1) i p K = .inl (i + 1, pK K i k h w m) := by
  unfold twF; rw [hh]; exact if_pos c
theorem tw_3 {T : Nat × (Nat → Nat)} {f i p k h w m e : Nat} {K : Nat → Nat → Nat} (hh : rpS T p = .inl (k, h, w, m, e)) (c : (chI T (nx T e)).toInt ≠ -1) (c2 : f = 0 ∨ (chI T (nx T e)).toInt ≠ 44) : twF T (f + 1) i p K = .inr (nx T e) := by
  unfold twF; rw [hh]; exact (if_neg c).trans (if_pos c2)
theorem tw_4 {T : Nat × (Nat → Nat)} {f i p k h w m e : Nat} {K : Nat → Nat → Nat} (hh : rpS T p = .inl (k, h, w, m, e)) (c : (chI T (nx T e)).toInt ≠ -1) (c2 : f ≠ 0) (c3 : (chI T (nx T e)).toInt = 44) : twF T (f + 1) i p K = twF T f (i + 1) (nx T e + 1) (pK K i k h w m) := by
  rw [show twF T (f + 1) i p K = (if (chI T (nx T e)).toInt = -1 then .inl (i + 1, pK K i k h w m)
      else if f = 0 ∨ (chI T (nx T e)).toInt ≠ 44 then .inr (nx T e)
      else twF T f (i + 1) (nx T e + 1) (pK K i k h w m)) by rw [twF, hh]]
  exact (if_neg c).trans (if_neg (by omega))
/-- what a town written is: at most eight people, all in their bounds -/
theorem twq_ok {T : Nat × (Nat → Nat)} : ∀ (f i p : Nat) (K : Nat → Nat → Nat), p ≤ T.1 → (∀ j, j < i → K 0 j < 4 ∧ K 1 j < 24 ∧ K 2 j < 100 ∧ K 3 j < 2) →
    (∀ n K', twF T f i p K = .inl (n, K') → n ≤ i + f ∧ ∀ j, j < n → K' 0 j < 4 ∧ K' 1 j < 24 ∧ K' 2 j < 100 ∧ K' 3 j < 2) ∧ (∀ q, twF T f i p K = .inr q → q ≤ T.1 ∧ nx T q = q)
  | 0, i, p, K, hp, hK => ⟨fun n K' h => by simp [twF] at h, fun q h => by simp only [twF, Sum.inr.injEq] at h; subst h; exact ⟨nx_le hp, nx_nx _ _⟩⟩
  | f + 1, i, p, K, hp, hK => by
    rcases rp_all hp with ⟨x, e0, h1, h2⟩ | ⟨k, h, w, m, e, e0, hk, hh, hw, hm, he⟩
    · rw [tw_1 e0]
      exact ⟨fun n K' h => (by cases h), fun q h => (by cases h; exact ⟨h1, h2⟩)⟩
    · have hK2 : ∀ j, j < i + 1 → pK K i k h w m 0 j < 4 ∧ pK K i k h w m 1 j < 24 ∧ pK K i k h w m 2 j < 100 ∧ pK K i k h w m 3 j < 2 := fun j hj => by
        by_cases ej : j = i
        · simp [pK, ej]; exact ⟨hk, hh, hw, hm⟩
        · simp [pK, ej]; exact hK j (by omega)
      by_cases c : (chI T (nx T e)).toInt = -1
      · rw [tw_2 e0 c]
        exact ⟨fun n K' h => (by cases h; exact ⟨by omega, hK2⟩), fun q h => (by cases h)⟩
      · by_cases c2 : f = 0 ∨ (chI T (nx T e)).toInt ≠ 44
        · rw [tw_3 e0 c c2]
          exact ⟨fun n K' h => by (cases h), fun q h => by cases h; exact ⟨nx_le he, nx_nx _ _⟩⟩
        · have c3 : (chI T (nx T e)).toInt = 44 := by omega
          rw [tw_4 e0 c (by omega) c3]
          have hl : nx T e < T.1 := ch_lt (c := 44) (by decide) ((ch_i (by decide)).mp c3)
          have ih := twq_ok (T := T) f (i + 1) (nx T e + 1) (pK K i k h w m) (by omega) hK2
          exact ⟨fun n K' h => by have := ih.1 n K' h; exact ⟨by omega, this.2⟩, ih.2⟩
theorem tw_all {T : Nat × (Nat → Nat)} : (∃ q, twT T = .inr q ∧ q ≤ T.1 ∧ nx T q = q) ∨ (∃ n K, twT T = .inl (n, K) ∧ n ≤ 8 ∧ ∀ j, j < n → K 0 j < 4 ∧ K 1 j < 24 ∧ K 2 j < 100 ∧ K 3 j < 2) := by
  have h := twq_ok (T := T) 8 0 0 tw0 (Nat.zero_le _) (fun j hj => by omega)
  cases e : twT T with
  | inr q => exact Or.inl ⟨q, rfl, h.2 q e⟩
  | inl v => exact Or.inr ⟨v.1, v.2, rfl, by have := (h.1 v.1 v.2 e).1; omega, (h.1 v.1 v.2 e).2⟩

theorem neg20 {n : Nat} (h : n < 1000000) : (-20 - nI n).toInt = -20 - (n : Int) := by
  rw [nI_oI, show (-20 : Int32) = Int32.ofInt (-20) from rfl, oI_sub, oI_t (by omega) (by omega)]

theorem c_X4_readTown (l : Launch) (D : va_G) (cA : Nat → ClassId) (b : Nat) (M : Nat → Nat → Int32) (L : Nat → Nat → Int64) (T : Nat × (Nat → Nat)) (hT : pC M T) (hk : pOK T) : fm_Met l D cA b yX4_readTown cX4_readTown 3 (some .int) 3 67 0 0 [.ref (b + 29)] LAY M L LAY (fm_pm (fun r M' L' => (∀ x, twT T = .inr x → r = -20 - nI x) ∧ (∀ n K, twT T = .inl (n, K) → r = nI n ∧ ∀ j, j < n → M' (33 + j) 0 = nI (K 0 j) ∧ M' (33 + j) 1 = nI (K 1 j) ∧ M' (33 + j) 2 = nI (K 2 j) ∧ M' (33 + j) 3 = nI (K 3 j)) ∧ (∀ i, i ≠ 2 → i ≠ 3 → M' 29 i = M 29 i) ∧ (∀ q, q ≠ 29 → ¬ (33 ≤ q ∧ q < 41) → M' q = M q) ∧ L' = L)) := by
  refine fm_start RX4 rfl (by decide) (Nat.le_of_ble_eq_true rfl) ?_
  intro pq eq sq mq aq bq tq cq hC hin
  have tl : T.1 ≤ 140 := hk.1
  refine g_aload_n hC dX4_readTown_0 rfl 0 rfl ?_
  refine g_iconst (v := 0) hC dX4_readTown_1 rfl ?_
  refine g_putI (ci := 4) (i := 2) (k := 29) hC fm_in4 tyX4 tyX4_ok nmX4 rfl ly_29 rfl (by decide) fw_124 rfl rfl rfl dX4_readTown_2 ?_
  refine g_iconst (v := 0) hC dX4_readTown_5 rfl ?_
  refine g_istore_n hC [(1, .int 0), (0, .ref (b + 29))] dX4_readTown_6 rfl (by decide) rfl ?_
  have lp_7_1 : ∀ (n_1 : Nat) (M1 : Nat → Nat → Int32) (i : Nat) (q : Nat) (K : Nat → Nat → Nat), 8 - i < n_1 → (i < 8 ∧ q ≤ T.1 ∧ M1 29 2 = nI q ∧ (∀ i, i ≠ 2 → i ≠ 3 → M1 29 i = M 29 i) ∧ (∀ q, q ≠ 29 → ¬ (33 ≤ q ∧ q < 41) → M1 q = M q) ∧ (∀ j, j < i → M1 (33 + j) 0 = nI (K 0 j) ∧ M1 (33 + j) 1 = nI (K 1 j) ∧ M1 (33 + j) 2 = nI (K 2 j) ∧ M1 (33 + j) 3 = nI (K 3 j)) ∧ twF T (8 - i) i q K = twT T) → fm_G pq l eq (fm_rm 3 67 0 0) sq mq aq bq tq cq D cA b 3 (MQ bq (fm_Q D cA b LAY (fm_pm (fun r M' L' => (∀ x, twT T = .inr x → r = -20 - nI x) ∧ (∀ n K, twT T = .inl (n, K) → r = nI n ∧ ∀ j, j < n → M' (33 + j) 0 = nI (K 0 j) ∧ M' (33 + j) 1 = nI (K 1 j) ∧ M' (33 + j) 2 = nI (K 2 j) ∧ M' (33 + j) 3 = nI (K 3 j)) ∧ (∀ i, i ≠ 2 → i ≠ 3 → M' 29 i = M 29 i) ∧ (∀ q, q ≠ 29 → ¬ (33 ≤ q ∧ q < 41) → M' q = M q) ∧ L' = L))) aq sq 0 0 (fun q => b ≤ q)) LAY M1 L 0 0 7 [(0, .ref (b + 29)), (1, .int (nI i))] [] := by
    intro n_1
    induction n_1 with
    | zero => intro M1 i q K hm_1; exact absurd hm_1 (Nat.not_lt_zero _)
    | succ n_1 ih_1 =>
      intro M1 i q K hm_1 hinv_1
      obtain ⟨il, i0, m2, j1, j2, j3, hw⟩ := hinv_1
      have hT1 : pC M1 T := pC_m hT j1 (j2 30 (by decide) (by omega))
      refine g_iload_n hC dX4_readTown_7 rfl 1 rfl ?_
      refine g_bipush (v := 8) hC dX4_readTown_8 rfl ?_
      refine g_icmp_ge_T (X := ((i : Nat) : Int)) (Y := 8) hC (nI_toInt (by omega)) rfl 70 dX4_readTown_10 rfl (fun c_2 => ?_) (fun c_2 => ?_)
      · skip
        refine g_aload_n hC dX4_readTown_70 rfl 0 rfl ?_
        refine g_callV hC (k := 29) (ci := 4) (as := []) (rest := []) (c_X4_faultHere l D cA b M1 L q m2) ⟨fw_328, fw_330, fs_3, fw_5, fw_331⟩ ⟨rfl, hd_X4_faultHere⟩ rfl ly_29 ⟨Nat.le_of_ble_eq_true rfl, Nat.le_of_ble_eq_true rfl⟩ ⟨Nat.le_of_ble_eq_true rfl, Nat.le_of_ble_eq_true rfl⟩ rfl rfl (Nat.le_of_ble_eq_true rfl) dX4_readTown_71 (g_rix ?_)
        refine g_zret (ty := .int) hC rfl rfl dX4_readTown_74 ?_
        exfalso; omega
      · skip
        refine g_aload_n hC dX4_readTown_13 rfl 0 rfl ?_
        refine g_aload_n hC dX4_readTown_14 rfl 0 rfl ?_
        refine g_getR (ci := 4) (i := 4) (k := 29) (t := 31) hC fm_in4 rfl ly_29 rfl (by decide) fw_126 dX4_readTown_15 ?_
        refine g_iload_n hC dX4_readTown_18 rfl 1 rfl ?_
        refine g_aald4N (j := i) (t := 33 + i) (k := 31) hC ly_31 rfl (by omega) (by decide) (fm_z33 _ (by omega)) dX4_readTown_19 ?_
        refine g_callV hC (k := 29) (ci := 4) (as := [.ref (b + (33 + i))]) (rest := []) (c_X4_readPerson l D cA b M1 L T q (33 + i) hT1 hk m2 i0 (fm_per33 _ (by omega)) (by omega)) ⟨fw_317, fw_319, fs_1, fw_5, fw_320⟩ ⟨rfl, hd_X4_readPerson⟩ rfl ly_29 ⟨Nat.le_of_ble_eq_true rfl, Nat.le_of_ble_eq_true rfl⟩ ⟨Nat.le_of_ble_eq_true rfl, Nat.le_of_ble_eq_true rfl⟩ rfl rfl (Nat.le_of_ble_eq_true rfl) dX4_readTown_20 (g_rm (fun r_4 M_4 L_4 h_4 => ?_))
        obtain ⟨a1_4, a2_4, a3_4, a4_4, a5_4⟩ := h_4
        rw [a5_4]
        have hT_4 : pC M_4 T := pC_m hT1 a3_4 (a4_4 30 (by decide) (by omega))
        refine g_istore_n hC [(2, .int r_4), (0, .ref (b + 29)), (1, .int (nI i))] dX4_readTown_23 rfl (by decide) rfl ?_
        refine g_iload_n hC dX4_readTown_24 rfl 0 rfl ?_
        refine g_if_ge_T (X := r_4.toInt) hC rfl 30 dX4_readTown_25 rfl (fun c_5 => ?_) (fun c_5 => ?_)
        · skip
          obtain ⟨k1, h1, w1, m1, e1, e0, e2⟩ : ∃ k1 h1 w1 m1 e1, rpS T q = .inl (k1, h1, w1, m1, e1) ∧ e1 ≤ T.1 := by
            rcases rp_all i0 with ⟨x1, e0, x2, x3⟩ | ⟨k1, h1, w1, m1, e1, e0, k2, h2, w2, m2, e2⟩
            · exfalso; rw [a1_4 x1 e0, neg20 (by omega)] at c_5; omega
            · exact ⟨k1, h1, w1, m1, e1, e0, e2⟩
          obtain ⟨b0, b1, b2, b3, b4, b5⟩ := a2_4 k1 h1 w1 m1 e1 e0
          refine g_aload_n hC dX4_readTown_30 rfl 1 rfl ?_
          refine g_callV hC (k := 29) (ci := 4) (as := []) (rest := []) (c_X4_next l D cA b M_4 L T e1 hT_4 hk b5 e2) ⟨fw_321, fw_323, fs_2, fw_5, fw_324⟩ ⟨rfl, hd_X4_next⟩ rfl ly_29 ⟨Nat.le_of_ble_eq_true rfl, Nat.le_of_ble_eq_true rfl⟩ ⟨Nat.le_of_ble_eq_true rfl, Nat.le_of_ble_eq_true rfl⟩ rfl rfl (Nat.le_of_ble_eq_true rfl) dX4_readTown_31 (g_rix ?_)
          refine g_iconst (v := (-1)) hC dX4_readTown_34 rfl ?_
          refine g_icmp_ne_T (X := (chI T (nx T e1)).toInt) (Y := (-1)) hC rfl rfl 42 dX4_readTown_35 rfl (fun c_7 => ?_) (fun c_7 => ?_)
          · skip
            refine g_iload_n hC dX4_readTown_42 rfl 2 rfl ?_
            refine g_iconst (v := 1) hC dX4_readTown_43 rfl ?_
            refine g_iadd hC dX4_readTown_44 ?_
            refine g_top (y := nI (i + 1)) (nI_add _ _) ?_
            refine g_bipush (v := 8) hC dX4_readTown_45 rfl ?_
            refine g_icmp_eq_T (X := ((i + 1 : Nat) : Int)) (Y := 8) hC (nI_toInt (by omega)) rfl 59 dX4_readTown_47 rfl (fun c_8 => ?_) (fun c_8 => ?_)
            · skip
              refine g_aload_n hC dX4_readTown_59 rfl 1 rfl ?_
              refine g_callV hC (k := 29) (ci := 4) (as := []) (rest := []) (c_X4_faultHere l D cA b (fm_up M_4 29 2 (nI (nx T e1))) L (nx T e1) fm_ups) ⟨fw_328, fw_330, fs_3, fw_5, fw_331⟩ ⟨rfl, hd_X4_faultHere⟩ rfl ly_29 ⟨Nat.le_of_ble_eq_true rfl, Nat.le_of_ble_eq_true rfl⟩ ⟨Nat.le_of_ble_eq_true rfl, Nat.le_of_ble_eq_true rfl⟩ rfl rfl (Nat.le_of_ble_eq_true rfl) dX4_readTown_60 (g_rix ?_)
              refine g_zret (ty := .int) hC rfl rfl dX4_readTown_63 ?_
              have e9 : twT T = .inr (nx T e1) := hw.symm.trans (by rw [show 8 - i = (7 - i) + 1 by omega]; exact tw_3 e0 (by omega) (by omega))
              exact ⟨_, rfl, (fun x hx => (by rw [e9] at hx; cases hx; rfl)), (fun n K9 hx => (by rw [e9] at hx; cases hx)), (fun i i1 i2 => (by (repeat rw [fm_upx i1]); rw [a3_4 i i1 i2]; exact j1 i i1 i2)), (fun q q1 q2 => (by (repeat rw [fm_upn q1]); rw [a4_4 q q1 (by omega)]; exact j2 q q1 q2)), rfl⟩
            · skip
              refine g_aload_n hC dX4_readTown_50 rfl 1 rfl ?_
              refine g_bipush (v := 44) hC dX4_readTown_51 rfl ?_
              refine g_callV hC (k := 29) (ci := 4) (as := [.int 44]) (rest := []) (c_X4_passes l D cA b (fm_up M_4 29 2 (nI (nx T e1))) L T (nx T e1) 44 (pC_m hT_4 (fun i i1 i2 => fm_upx i1) (fm_upn (by decide))) hk fm_ups (nx_le e2) (by decide)) ⟨fw_340, fw_342, fs_5, fw_5, fw_343⟩ ⟨rfl, hd_X4_passes⟩ rfl ly_29 ⟨Nat.le_of_ble_eq_true rfl, Nat.le_of_ble_eq_true rfl⟩ ⟨Nat.le_of_ble_eq_true rfl, Nat.le_of_ble_eq_true rfl⟩ rfl rfl (Nat.le_of_ble_eq_true rfl) dX4_readTown_53 (g_rix ?_)
              rw [nx_nx]
              refine g_ifb_ne hC 64 dX4_readTown_56 rfl (fun c_11 => ?_) (fun c_11 => ?_)
              · skip
                have yq : chI T (nx T e1) = nI 44 := c_11
                rw [show psN T (nx T e1) 44 = nx T e1 + 1 from (if_pos (by rw [nx_nx]; exact yq)).trans (by rw [nx_nx])]
                have pl1 : nx T e1 < T.1 := ch_lt (by decide) yq
                have yz : (chI T (nx T e1)).toInt = 44 := (ch_i (by decide)).mpr yq
                refine g_iinc hC [(1, .int (nI (i + 1))), (2, .int r_4), (0, .ref (b + 29))] dX4_readTown_64 2 rfl (by rw [show Int32.ofInt 1 = nI 1 from rfl, nI_add]) (by decide) rfl ?_
                refine g_goto hC 7 dX4_readTown_67 rfl ?_
                exact g_sub [2, 0] rfl (ih_1 (fm_up (fm_up M_4 29 2 (nI (nx T e1))) 29 2 (nI (nx T e1 + 1))) (i + 1) (nx T e1 + 1) (pK K i k1 h1 w1 m1) (by omega) (⟨by omega, by omega, fm_ups, fun i i1 i2 => (by (repeat rw [fm_upx i1]); rw [a3_4 i i1 i2]; exact j1 i i1 i2), fun q q1 q2 => (by (repeat rw [fm_upn q1]); rw [a4_4 q q1 (by omega)]; exact j2 q q1 q2), (fun j hj => (by (repeat rw [fm_upn (show 33 + j ≠ 29 by omega)]); by_cases ej : j = i; subst ej; simp only [pK, if_true]; exact ⟨b1, b2, b3, b4⟩; rw [a4_4 (33 + j) (by omega) (by omega)]; simp only [pK, if_neg ej]; exact j3 j (by omega))), (show twF T (8 - (i + 1)) (i + 1) (nx T e1 + 1) (pK K i k1 h1 w1 m1) = twT T from ((show twF T (8 - i) i q K = _ by rw [show 8 - i = (7 - i) + 1 by omega, tw_4 e0 (by omega) (by omega) (by omega), show 8 - (i + 1) = 7 - i by omega]).symm.trans hw))⟩))
              · skip
                have nq : ¬ chI T (nx T e1) = nI 44 := c_11
                rw [show psN T (nx T e1) 44 = nx T e1 from (if_neg (by rw [nx_nx]; exact nq)).trans (nx_nx _ _)]
                refine g_aload_n hC dX4_readTown_59 rfl 1 rfl ?_
                refine g_callV hC (k := 29) (ci := 4) (as := []) (rest := []) (c_X4_faultHere l D cA b (fm_up (fm_up M_4 29 2 (nI (nx T e1))) 29 2 (nI (nx T e1))) L (nx T e1) fm_ups) ⟨fw_328, fw_330, fs_3, fw_5, fw_331⟩ ⟨rfl, hd_X4_faultHere⟩ rfl ly_29 ⟨Nat.le_of_ble_eq_true rfl, Nat.le_of_ble_eq_true rfl⟩ ⟨Nat.le_of_ble_eq_true rfl, Nat.le_of_ble_eq_true rfl⟩ rfl rfl (Nat.le_of_ble_eq_true rfl) dX4_readTown_60 (g_rix ?_)
                refine g_zret (ty := .int) hC rfl rfl dX4_readTown_63 ?_
                have e9 : twT T = .inr (nx T e1) := hw.symm.trans (by rw [show 8 - i = (7 - i) + 1 by omega]; exact tw_3 e0 (by omega) (by right; exact fun z => nq ((ch_i (by decide)).mp z)))
                exact ⟨_, rfl, (fun x hx => (by rw [e9] at hx; cases hx; rfl)), (fun n K9 hx => (by rw [e9] at hx; cases hx)), (fun i i1 i2 => (by (repeat rw [fm_upx i1]); rw [a3_4 i i1 i2]; exact j1 i i1 i2)), (fun q q1 q2 => (by (repeat rw [fm_upn q1]); rw [a4_4 q q1 (by omega)]; exact j2 q q1 q2)), rfl⟩
          · skip
            refine g_iload_n hC dX4_readTown_38 rfl 2 rfl ?_
            refine g_iconst (v := 1) hC dX4_readTown_39 rfl ?_
            refine g_iadd hC dX4_readTown_40 ?_
            refine g_top (y := nI (i + 1)) (nI_add _ _) ?_
            refine g_zret (ty := .int) hC rfl rfl dX4_readTown_41 ?_
            have e9 : twT T = .inl (i + 1, pK K i k1 h1 w1 m1) := hw.symm.trans (by rw [show 8 - i = (7 - i) + 1 by omega]; exact tw_2 e0 (by omega))
            exact ⟨_, rfl, (fun x hx => (by rw [e9] at hx; cases hx)), (fun n K9 hx => (by rw [e9] at hx; cases hx; exact ⟨rfl, (fun j hj => (by (repeat rw [fm_upn (show 33 + j ≠ 29 by omega)]); by_cases ej : j = i; subst ej; simp only [pK, if_true]; exact ⟨b1, b2, b3, b4⟩; rw [a4_4 (33 + j) (by omega) (by omega)]; simp only [pK, if_neg ej]; exact j3 j (by omega)))⟩)), (fun i i1 i2 => (by (repeat rw [fm_upx i1]); rw [a3_4 i i1 i2]; exact j1 i i1 i2)), (fun q q1 q2 => (by (repeat rw [fm_upn q1]); rw [a4_4 q q1 (by omega)]; exact j2 q q1 q2)), rfl⟩
        · skip
          obtain ⟨x1, e0⟩ : ∃ x1, rpS T q = .inr x1 := by
            rcases rp_all i0 with ⟨x1, e0, x2, x3⟩ | ⟨k1, h1, w1, m1, e1, e0, k2, h2, w2, m2, e2⟩
            · exact ⟨x1, e0⟩
            · exfalso; rw [(a2_4 _ _ _ _ _ e0).1] at c_5; exact absurd c_5 (by decide)
          refine g_iload_n hC dX4_readTown_28 rfl 0 rfl ?_
          refine g_zret (ty := .int) hC rfl rfl dX4_readTown_29 ?_
          have e9 : twT T = .inr x1 := hw.symm.trans (by rw [show 8 - i = (7 - i) + 1 by omega]; exact tw_1 e0)
          exact ⟨_, rfl, (fun x hx => (by rw [e9] at hx; cases hx; exact a1_4 x1 e0)), (fun n K9 hx => (by rw [e9] at hx; cases hx)), (fun i i1 i2 => (by (repeat rw [fm_upx i1]); rw [a3_4 i i1 i2]; exact j1 i i1 i2)), (fun q q1 q2 => (by (repeat rw [fm_upn q1]); rw [a4_4 q q1 (by omega)]; exact j2 q q1 q2)), rfl⟩
  exact g_sub [1, 0] rfl (lp_7_1 (8 - 0 + 1) (fm_up M 29 2 0) 0 0 tw0 (Nat.lt_succ_self _) (⟨by decide, Nat.zero_le _, fm_ups, fun i a c => fm_upx a, fun q a _ => fm_upn a, fun j hj => by omega, rfl⟩))

theorem c_X7_readTown (l : Launch) (D : va_G) (cA : Nat → ClassId) (b : Nat) (M : Nat → Nat → Int32) (L : Nat → Nat → Int64) (T : Nat × (Nat → Nat)) (hT : pR M T) (hk : pOK T) : fm_Met l D cA b yX7_readTown cX7_readTown 3 (some .boolean) 3 70 0 0 [.ref (b + 58)] LAY M L LAY (fm_pm (fun r M' L' => (∀ x, twT T = .inr x → r = 0 ∧ M' 58 19 = nI x) ∧ (∀ n K, twT T = .inl (n, K) → r = 1 ∧ M' 58 20 = nI n ∧ ∀ j, j < n → M' 68 (4 * j) = nI (K 0 j) ∧ M' 68 (4 * j + 1) = nI (K 1 j) ∧ M' 68 (4 * j + 2) = nI (K 2 j) ∧ M' 68 (4 * j + 3) = nI (K 3 j)) ∧ (∀ i, i ≠ 19 → i ≠ 20 → M' 58 i = M 58 i) ∧ (∀ q, q ≠ 58 → q ≠ 68 → M' q = M q) ∧ L' = L)) := by
  refine fm_start RX7 rfl (by decide) (Nat.le_of_ble_eq_true rfl) ?_
  intro pq eq sq mq aq bq tq cq hC hin
  have tl : T.1 ≤ 140 := hk.1
  refine g_aload_n hC dX7_readTown_0 rfl 0 rfl ?_
  refine g_iconst (v := 0) hC dX7_readTown_1 rfl ?_
  refine g_putI (ci := 7) (i := 19) (k := 58) hC fm_in7 tyX7 tyX7_ok nmX7 rfl ly_58 rfl (by decide) fw_639 rfl rfl rfl dX7_readTown_2 ?_
  refine g_iconst (v := 0) hC dX7_readTown_5 rfl ?_
  refine g_istore_n hC [(1, .int 0), (0, .ref (b + 58))] dX7_readTown_6 rfl (by decide) rfl ?_
  have lp_7_1 : ∀ (n_1 : Nat) (M1 : Nat → Nat → Int32) (i : Nat) (q : Nat) (K : Nat → Nat → Nat), 8 - i < n_1 → (i < 8 ∧ q ≤ T.1 ∧ M1 58 19 = nI q ∧ (∀ i, i ≠ 19 → i ≠ 20 → M1 58 i = M 58 i) ∧ (∀ q, q ≠ 58 → q ≠ 68 → M1 q = M q) ∧ (∀ j, j < i → M1 68 (4 * j) = nI (K 0 j) ∧ M1 68 (4 * j + 1) = nI (K 1 j) ∧ M1 68 (4 * j + 2) = nI (K 2 j) ∧ M1 68 (4 * j + 3) = nI (K 3 j)) ∧ twF T (8 - i) i q K = twT T) → fm_G pq l eq (fm_rm 3 70 0 0) sq mq aq bq tq cq D cA b 3 (MQ bq (fm_Q D cA b LAY (fm_pm (fun r M' L' => (∀ x, twT T = .inr x → r = 0 ∧ M' 58 19 = nI x) ∧ (∀ n K, twT T = .inl (n, K) → r = 1 ∧ M' 58 20 = nI n ∧ ∀ j, j < n → M' 68 (4 * j) = nI (K 0 j) ∧ M' 68 (4 * j + 1) = nI (K 1 j) ∧ M' 68 (4 * j + 2) = nI (K 2 j) ∧ M' 68 (4 * j + 3) = nI (K 3 j)) ∧ (∀ i, i ≠ 19 → i ≠ 20 → M' 58 i = M 58 i) ∧ (∀ q, q ≠ 58 → q ≠ 68 → M' q = M q) ∧ L' = L))) aq sq 0 0 (fun q => b ≤ q)) LAY M1 L 0 0 7 [(0, .ref (b + 58)), (1, .int (nI i))] [] := by
    intro n_1
    induction n_1 with
    | zero => intro M1 i q K hm_1; exact absurd hm_1 (Nat.not_lt_zero _)
    | succ n_1 ih_1 =>
      intro M1 i q K hm_1 hinv_1
      obtain ⟨il, i0, m2, j1, j2, j3, hw⟩ := hinv_1
      have hT1 : pR M1 T := pR_mm hT (j1 18 (by decide) (by decide)) (j2 67 (by decide) (by decide))
      refine g_iload_n hC dX7_readTown_7 rfl 1 rfl ?_
      refine g_bipush (v := 8) hC dX7_readTown_8 rfl ?_
      refine g_icmp_ge_T (X := ((i : Nat) : Int)) (Y := 8) hC (nI_toInt (by omega)) rfl 73 dX7_readTown_10 rfl (fun c_2 => ?_) (fun c_2 => ?_)
      · skip
        refine g_iconst (v := 0) hC dX7_readTown_73 rfl ?_
        refine g_zret (ty := .boolean) hC rfl rfl dX7_readTown_74 ?_
        exfalso; omega
      · skip
        refine g_aload_n hC dX7_readTown_13 rfl 0 rfl ?_
        refine g_iconst (v := 4) hC dX7_readTown_14 rfl ?_
        refine g_iload_n hC dX7_readTown_15 rfl 1 rfl ?_
        refine g_imul hC dX7_readTown_16 ?_
        refine g_top (y := nI (4 * i)) (pk_mul _ _) ?_
        refine g_callV hC (k := 58) (ci := 7) (as := [.int (nI (4 * i))]) (rest := []) (c_X7_readOne l D cA b M1 L T q (4 * i) hT1 hk m2 i0 (by omega)) ⟨fw_800, fw_802, fs_19, fw_9, fw_803⟩ ⟨rfl, hd_X7_readOne⟩ rfl ly_58 ⟨Nat.le_of_ble_eq_true rfl, Nat.le_of_ble_eq_true rfl⟩ ⟨Nat.le_of_ble_eq_true rfl, Nat.le_of_ble_eq_true rfl⟩ rfl rfl (Nat.le_of_ble_eq_true rfl) dX7_readTown_17 (g_rm (fun r_3 M_3 L_3 h_3 => ?_))
        obtain ⟨a1_3, a2_3, a3_3, a4_3, a6_3, a5_3⟩ := h_3
        rw [a5_3]
        have hT_3 : pR M_3 T := pR_m hT1 a3_3 (a4_3 67 (by decide) (by decide))
        refine g_if_ne_T (X := r_3.toInt) hC rfl 25 dX7_readTown_20 rfl (fun c_4 => ?_) (fun c_4 => ?_)
        · skip
          obtain ⟨k1, h1, w1, m1, e1, e0, e2⟩ : ∃ k1 h1 w1 m1 e1, rpS T q = .inl (k1, h1, w1, m1, e1) ∧ e1 ≤ T.1 := by
            rcases rp_all i0 with ⟨x1, e0, x2, x3⟩ | ⟨k1, h1, w1, m1, e1, e0, k2, h2, w2, m2, e2⟩
            · exfalso; rw [(a1_3 x1 e0).1] at c_4; exact c_4 rfl
            · exact ⟨k1, h1, w1, m1, e1, e0, e2⟩
          obtain ⟨b0, b1, b2, b3, b4, b5⟩ := a2_3 k1 h1 w1 m1 e1 e0
          refine g_aload_n hC dX7_readTown_25 rfl 0 rfl ?_
          refine g_iload_n hC dX7_readTown_26 rfl 1 rfl ?_
          refine g_iconst (v := 1) hC dX7_readTown_27 rfl ?_
          refine g_iadd hC dX7_readTown_28 ?_
          refine g_top (y := nI (i + 1)) (nI_add _ _) ?_
          refine g_putI (ci := 7) (i := 20) (k := 58) hC fm_in7 tyX7 tyX7_ok nmX7 rfl ly_58 rfl (by decide) fw_640 rfl rfl rfl dX7_readTown_29 ?_
          refine g_aload_n hC dX7_readTown_32 rfl 0 rfl ?_
          refine g_callV hC (k := 58) (ci := 7) (as := []) (rest := []) (c_X7_nextByte l D cA b (fm_up M_3 58 20 (nI (i + 1))) L T e1 (pR_mm hT_3 (fm_upx (by decide)) (fm_upn (by decide))) hk (by rw [fm_upx (by decide)]; exact b5) e2) ⟨fw_804, fw_806, fs_20, fw_9, fw_807⟩ ⟨rfl, hd_X7_nextByte⟩ rfl ly_58 ⟨Nat.le_of_ble_eq_true rfl, Nat.le_of_ble_eq_true rfl⟩ ⟨Nat.le_of_ble_eq_true rfl, Nat.le_of_ble_eq_true rfl⟩ rfl rfl (Nat.le_of_ble_eq_true rfl) dX7_readTown_33 (g_rix ?_)
          refine g_istore_n hC [(2, .int (chI T (nx T e1))), (0, .ref (b + 58)), (1, .int (nI i))] dX7_readTown_36 rfl (by decide) rfl ?_
          have cr := ch_rng hk (nx T e1)
          refine g_iload_n hC dX7_readTown_37 rfl 0 rfl ?_
          refine g_if_ge_T (X := (chI T (nx T e1)).toInt) hC rfl 43 dX7_readTown_38 rfl (fun c_6 => ?_) (fun c_6 => ?_)
          · skip
            refine g_iload_n hC dX7_readTown_43 rfl 0 rfl ?_
            refine g_bipush (v := 44) hC dX7_readTown_44 rfl ?_
            refine g_icmp_ne_T (X := (chI T (nx T e1)).toInt) (Y := 44) hC rfl rfl 55 dX7_readTown_46 rfl (fun c_7 => ?_) (fun c_7 => ?_)
            · skip
              refine g_iconst (v := 0) hC dX7_readTown_55 rfl ?_
              refine g_zret (ty := .boolean) hC rfl rfl dX7_readTown_56 ?_
              have e9 : twT T = .inr (nx T e1) := hw.symm.trans (by rw [show 8 - i = (7 - i) + 1 by omega]; exact tw_3 e0 (by omega) (by omega))
              exact ⟨_, rfl, (fun x hx => (by rw [e9] at hx; cases hx; exact ⟨rfl, fm_ups⟩)), (fun n K9 hx => (by rw [e9] at hx; cases hx)), (fun i i1 i2 => (by (repeat first | rw [fm_upx i1] | rw [fm_upx i2]); rw [a3_3 i i1]; exact j1 i i1 i2)), (fun q q1 q2 => (by (repeat rw [fm_upn q1]); rw [a4_3 q q1 q2]; exact j2 q q1 q2)), rfl⟩
            · skip
              refine g_iload_n hC dX7_readTown_49 rfl 2 rfl ?_
              refine g_bipush (v := 7) hC dX7_readTown_50 rfl ?_
              refine g_icmp_ne_T (X := ((i : Nat) : Int)) (Y := 7) hC (nI_toInt (by omega)) rfl 57 dX7_readTown_52 rfl (fun c_8 => ?_) (fun c_8 => ?_)
              · skip
                have pl1 : nx T e1 < T.1 := ch_lt (c := 44) (by decide) ((ch_i (by decide)).mp (by omega))
                refine g_aload_n hC dX7_readTown_57 rfl 1 rfl ?_
                refine g_dup hC dX7_readTown_58 rfl ?_
                refine g_getI (ci := 7) (i := 19) (k := 58) hC fm_in7 rfl ly_58 rfl (by decide) fw_639 dX7_readTown_59 ?_
                refine g_top (y := nI (nx T e1)) (by simp [fm_up, fm_row, upd]) ?_
                refine g_iconst (v := 1) hC dX7_readTown_62 rfl ?_
                refine g_iadd hC dX7_readTown_63 ?_
                refine g_top (y := nI ((nx T e1) + 1)) (nI_add _ _) ?_
                refine g_putI (ci := 7) (i := 19) (k := 58) hC fm_in7 tyX7 tyX7_ok nmX7 rfl ly_58 rfl (by decide) fw_639 rfl rfl rfl dX7_readTown_64 ?_
                refine g_iinc hC [(1, .int (nI (i + 1))), (2, .int (chI T (nx T e1))), (0, .ref (b + 58))] dX7_readTown_67 2 rfl (by rw [show Int32.ofInt 1 = nI 1 from rfl, nI_add]) (by decide) rfl ?_
                refine g_goto hC 7 dX7_readTown_70 rfl ?_
                exact g_sub [2, 0] rfl (ih_1 (fm_up (fm_up (fm_up M_3 58 20 (nI (i + 1))) 58 19 (nI (nx T e1))) 58 19 (nI ((nx T e1) + 1))) (i + 1) (nx T e1 + 1) (pK K i k1 h1 w1 m1) (by omega) (⟨by omega, by omega, fm_ups, fun i i1 i2 => (by (repeat first | rw [fm_upx i1] | rw [fm_upx i2]); rw [a3_3 i i1]; exact j1 i i1 i2), fun q q1 q2 => (by (repeat rw [fm_upn q1]); rw [a4_3 q q1 q2]; exact j2 q q1 q2), (fun j hj => (by (repeat rw [fm_upn (show 68 ≠ 58 by decide)]); by_cases ej : j = i; subst ej; simp only [pK, if_true]; exact ⟨b1, b2, b3, b4⟩; rw [a6_3 (4 * j) (by omega), a6_3 (4 * j + 1) (by omega), a6_3 (4 * j + 2) (by omega), a6_3 (4 * j + 3) (by omega)]; simp only [pK, if_neg ej]; exact j3 j (by omega))), (show twF T (8 - (i + 1)) (i + 1) (nx T e1 + 1) (pK K i k1 h1 w1 m1) = twT T from ((show twF T (8 - i) i q K = _ by rw [show 8 - i = (7 - i) + 1 by omega, tw_4 e0 (by omega) (by omega) (by omega), show 8 - (i + 1) = 7 - i by omega]).symm.trans hw))⟩))
              · skip
                refine g_iconst (v := 0) hC dX7_readTown_55 rfl ?_
                refine g_zret (ty := .boolean) hC rfl rfl dX7_readTown_56 ?_
                have e9 : twT T = .inr (nx T e1) := hw.symm.trans (by rw [show 8 - i = (7 - i) + 1 by omega]; exact tw_3 e0 (by omega) (by omega))
                exact ⟨_, rfl, (fun x hx => (by rw [e9] at hx; cases hx; exact ⟨rfl, fm_ups⟩)), (fun n K9 hx => (by rw [e9] at hx; cases hx)), (fun i i1 i2 => (by (repeat first | rw [fm_upx i1] | rw [fm_upx i2]); rw [a3_3 i i1]; exact j1 i i1 i2)), (fun q q1 q2 => (by (repeat rw [fm_upn q1]); rw [a4_3 q q1 q2]; exact j2 q q1 q2)), rfl⟩
          · skip
            refine g_iconst (v := 1) hC dX7_readTown_41 rfl ?_
            refine g_zret (ty := .boolean) hC rfl rfl dX7_readTown_42 ?_
            have e9 : twT T = .inl (i + 1, pK K i k1 h1 w1 m1) := hw.symm.trans (by rw [show 8 - i = (7 - i) + 1 by omega]; exact tw_2 e0 (by omega))
            exact ⟨_, rfl, (fun x hx => (by rw [e9] at hx; cases hx)), (fun n K9 hx => (by rw [e9] at hx; cases hx; exact ⟨rfl, (by rw [fm_upx (by decide), fm_ups]), (fun j hj => (by (repeat rw [fm_upn (show 68 ≠ 58 by decide)]); by_cases ej : j = i; subst ej; simp only [pK, if_true]; exact ⟨b1, b2, b3, b4⟩; rw [a6_3 (4 * j) (by omega), a6_3 (4 * j + 1) (by omega), a6_3 (4 * j + 2) (by omega), a6_3 (4 * j + 3) (by omega)]; simp only [pK, if_neg ej]; exact j3 j (by omega)))⟩)), (fun i i1 i2 => (by (repeat first | rw [fm_upx i1] | rw [fm_upx i2]); rw [a3_3 i i1]; exact j1 i i1 i2)), (fun q q1 q2 => (by (repeat rw [fm_upn q1]); rw [a4_3 q q1 q2]; exact j2 q q1 q2)), rfl⟩
        · skip
          obtain ⟨x1, e0⟩ : ∃ x1, rpS T q = .inr x1 := by
            rcases rp_all i0 with ⟨x1, e0, x2, x3⟩ | ⟨k1, h1, w1, m1, e1, e0, k2, h2, w2, m2, e2⟩
            · exact ⟨x1, e0⟩
            · exfalso; rw [(a2_3 _ _ _ _ _ e0).1] at c_4; exact absurd c_4 (by decide)
          refine g_iconst (v := 0) hC dX7_readTown_23 rfl ?_
          refine g_zret (ty := .boolean) hC rfl rfl dX7_readTown_24 ?_
          have e9 : twT T = .inr x1 := hw.symm.trans (by rw [show 8 - i = (7 - i) + 1 by omega]; exact tw_1 e0)
          exact ⟨_, rfl, (fun x hx => (by rw [e9] at hx; cases hx; exact ⟨rfl, (a1_3 x1 e0).2⟩)), (fun n K9 hx => (by rw [e9] at hx; cases hx)), (fun i i1 i2 => (by (repeat first | rw [fm_upx i1] | rw [fm_upx i2]); rw [a3_3 i i1]; exact j1 i i1 i2)), (fun q q1 q2 => (by (repeat rw [fm_upn q1]); rw [a4_3 q q1 q2]; exact j2 q q1 q2)), rfl⟩
  exact g_sub [1, 0] rfl (lp_7_1 (8 - 0 + 1) (fm_up M 58 19 0) 0 0 tw0 (Nat.lt_succ_self _) (⟨by decide, Nat.zero_le _, fm_ups, fun i a c => fm_upx a, fun q a _ => fm_upn a, fun j hj => by omega, rfl⟩))
