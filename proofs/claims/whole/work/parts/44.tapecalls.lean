/-! ===== town, plan: the calls ===== -/
def tnP (t : Tn) (n : Nat) (K : Nat → Nat → Nat) : Tn := ((fun a c => if a < 4 then K a c else if a = 7 ∧ c = 0 then n else t.1 a c), t.2)
def tpC (g : Sg) (t : Tn) : Sg := (t, g.2.1, g.2.2.1, (0, g.2.2.2.1.2), g.2.2.2.2)
def op_town (g : Sg) : Int32 × Sg := match twT g.2.2.2.1 with
  | .inr q => (-20 - nI q, tpC g g.1)
  | .inl (n, K) => (nI n, tpC g (tnP g.1 n K))
def op_plan (g : Sg) : Int32 × Sg := match plT g.2.2.2.1 with
  | .inr q => (-20 - nI q, tpC g g.1)
  | .inl (n, R) => (nI n, tpC g (g.1.1, R, g.1.2.2))
theorem CS_np {M M' : Nat → Nat → Int32} {L L' : Nat → Nat → Int64} {g : Sg} (h : CS M L g) (hok : OK g) {t : Tn} (hn : tC M' 1 t) (e : ∀ k, (k = 0 ∨ 15 ≤ k) → k < 29 → M' k = M k) (ep : M' 29 1 = 0) (e2 : ∀ k, 50 ≤ k → k < 58 → M' k = M k ∧ L' k = L k) : CS M' L' (tpC g t) := by
  obtain ⟨h1, h2, h3, h4, h5⟩ := h
  refine ⟨hn, fun q => tC_cong (h2 q) ((hok.2.1 q).2.2.2.1) (fun k k1 k2 => e k (by omega) (by omega)), ?_, ⟨ep, fun i hi => absurd hi (Nat.not_lt_zero _)⟩, sC_cong h5 e2⟩
  rw [e 0 (by omega) (by omega)]; exact h3
theorem RS_np {M M' : Nat → Nat → Int32} {L L' : Nat → Nat → Int64} {g : Sg} (h : RS M L g) {t : Tn} (hn : tR M' t) (e0 : M' 58 26 = M 58 26) (ep : M' 58 18 = 0) (e : ∀ k, (k = 72 ∨ k = 73 ∨ k = 74) → M' k = M k) (e2 : L' 75 = L 75) : RS M' L' (tpC g t) := by
  obtain ⟨h1, h2, h3, h4, h5⟩ := h
  refine ⟨hn, fun q => ?_, ?_, ⟨ep, fun i hi => absurd hi (Nat.not_lt_zero _)⟩, fun q hq => ?_⟩
  · rw [e 72 (by omega)]; exact h2 q
  · rw [e0]; exact h3
  · rw [e 73 (by omega), e 74 (by omega), e2]; exact h5 q hq
theorem tC_tnP {M M' : Nat → Nat → Int32} {t : Tn} {n : Nat} {K : Nat → Nat → Nat} (h : tC M 1 t) (hp : ∀ j, j < n → M' (7 + j) 0 = nI (K 0 j) ∧ M' (7 + j) 1 = nI (K 1 j) ∧ M' (7 + j) 2 = nI (K 2 j) ∧ M' (7 + j) 3 = nI (K 3 j)) (h1 : M' 1 1 = nI n) (h2 : ∀ i, i ≠ 1 → M' 1 i = M 1 i) (h3 : ∀ q, 3 ≤ q → q < 7 → M' q = M q) : tC M' 1 (tnP t n K) := by
  obtain ⟨n1, n2, n3, v0, v1, v2, v3, v4, v5, v6, v7, v8⟩ := h
  refine ⟨fun j hj => hp j hj, fun j hj => ?_, fun q hq => ?_, h1, ?_, ?_, ?_, ?_, ?_, ?_, ?_, ?_⟩
  · rw [h3 (1 + 2) (by omega) (by omega), h3 (1 + 3) (by omega) (by omega)]; exact n2 j hj
  · rw [h3 (1 + 4) (by omega) (by omega), h3 (1 + 5) (by omega) (by omega)]; exact n3 q hq
  · rw [h2 4 (by decide)]; exact v1
  · rw [h2 7 (by decide)]; exact v2
  · rw [h2 8 (by decide)]; exact v3
  · rw [h2 9 (by decide)]; exact v4
  · rw [h2 10 (by decide)]; exact v5
  · rw [h2 11 (by decide)]; exact v6
  · rw [h2 12 (by decide)]; exact v7
  · rw [h2 13 (by decide)]; exact v8
theorem tR_tnP {M M' : Nat → Nat → Int32} {t : Tn} {n : Nat} {K : Nat → Nat → Nat} (h : tR M t) (hp : ∀ j, j < n → M' 59 j = nI (K 0 j) ∧ M' 60 j = nI (K 1 j) ∧ M' 61 j = nI (K 2 j) ∧ M' 62 j = nI (K 3 j)) (h1 : M' 58 4 = nI n) (h2 : ∀ i, i ≠ 4 → i ≠ 18 → i ≠ 19 → i ≠ 20 → M' 58 i = M 58 i) (h3 : ∀ q, 63 ≤ q → q < 67 → M' q = M q) : tR M' (tnP t n K) := by
  obtain ⟨n1, n2, n3, v0, v1, v2, v3, v4, v5, v6, v7, v8⟩ := h
  refine ⟨fun j hj => hp j hj, fun j hj => ?_, fun q hq => ?_, h1, ?_, ?_, ?_, ?_, ?_, ?_, ?_, ?_⟩
  · rw [h3 63 (by omega) (by omega), h3 64 (by omega) (by omega)]; exact n2 j hj
  · rw [h3 65 (by omega) (by omega), h3 66 (by omega) (by omega)]; exact n3 q hq
  · rw [h2 7 (by decide) (by decide) (by decide) (by decide)]; exact v1
  · rw [h2 10 (by decide) (by decide) (by decide) (by decide)]; exact v2
  · rw [h2 11 (by decide) (by decide) (by decide) (by decide)]; exact v3
  · rw [h2 12 (by decide) (by decide) (by decide) (by decide)]; exact v4
  · rw [h2 13 (by decide) (by decide) (by decide) (by decide)]; exact v5
  · rw [h2 14 (by decide) (by decide) (by decide) (by decide)]; exact v6
  · rw [h2 15 (by decide) (by decide) (by decide) (by decide)]; exact v7
  · rw [h2 16 (by decide) (by decide) (by decide) (by decide)]; exact v8
theorem tC_plan {M M' : Nat → Nat → Int32} {t : Tn} {R : Nat → Int} (h : tC M 1 t) (ht : t.1 7 0 ≤ 8) (hp : ∀ j, j < 24 → M' 6 j = Int32.ofInt (R j)) (e : ∀ k, 1 ≤ k → k < 15 → k ≠ 6 → M' k = M k) : tC M' 1 (t.1, R, t.2.2) := by
  obtain ⟨n1, n2, n3, v⟩ := h
  refine ⟨fun j hj => ?_, fun j hj => ?_, fun q hq => ⟨?_, hp q hq⟩, ?_⟩
  · have hj2 : j < t.1 7 0 := hj
    rw [e (1 + 6 + j) (by omega) (by omega) (by omega)]; exact n1 j hj
  · rw [e (1 + 2) (by omega) (by omega) (by omega), e (1 + 3) (by omega) (by omega) (by omega)]; exact n2 j hj
  · rw [e (1 + 4) (by omega) (by omega) (by omega)]; exact (n3 q hq).1
  · rw [e 1 (by omega) (by omega) (by omega)]; exact v
theorem tR_plan {M M' : Nat → Nat → Int32} {t : Tn} {R : Nat → Int} (h : tR M t) (hp : ∀ j, j < 24 → M' 66 j = Int32.ofInt (R j)) (h2 : ∀ i, i ≠ 18 → i ≠ 19 → i ≠ 20 → i ≠ 22 → M' 58 i = M 58 i) (e : ∀ k, 59 ≤ k → k < 66 → M' k = M k) : tR M' (t.1, R, t.2.2) := by
  obtain ⟨n1, n2, n3, v0, v1, v2, v3, v4, v5, v6, v7, v8⟩ := h
  refine ⟨fun j hj => ?_, fun j hj => ?_, fun q hq => ⟨?_, hp q hq⟩, ?_, ?_, ?_, ?_, ?_, ?_, ?_, ?_, ?_⟩
  · rw [e 59 (by omega) (by omega), e 60 (by omega) (by omega), e 61 (by omega) (by omega), e 62 (by omega) (by omega)]; exact n1 j hj
  · rw [e 63 (by omega) (by omega), e 64 (by omega) (by omega)]; exact n2 j hj
  · rw [e 65 (by omega) (by omega)]; exact (n3 q hq).1
  · rw [h2 4 (by decide) (by decide) (by decide) (by decide)]; exact v0
  · rw [h2 7 (by decide) (by decide) (by decide) (by decide)]; exact v1
  · rw [h2 10 (by decide) (by decide) (by decide) (by decide)]; exact v2
  · rw [h2 11 (by decide) (by decide) (by decide) (by decide)]; exact v3
  · rw [h2 12 (by decide) (by decide) (by decide) (by decide)]; exact v4
  · rw [h2 13 (by decide) (by decide) (by decide) (by decide)]; exact v5
  · rw [h2 14 (by decide) (by decide) (by decide) (by decide)]; exact v6
  · rw [h2 15 (by decide) (by decide) (by decide) (by decide)]; exact v7
  · rw [h2 16 (by decide) (by decide) (by decide) (by decide)]; exact v8
theorem be_at2 {M Mx : Nat → Nat → Int32} {c a k : Nat} {f : Nat → Int32} (h : a < 4) (hk : f = Mx k) : be M c (f 0) (f 1) (f 2) (f 3) c a = Mx k a := by
  subst hk
  rcases (show a = 0 ∨ a = 1 ∨ a = 2 ∨ a = 3 by omega) with rfl | rfl | rfl | rfl
  · exact be_0
  · exact be_1
  · exact be_2
  · exact be_3

theorem c_X5_takePeople_t (l : Launch) (D : va_G) (cA : Nat → ClassId) (b : Nat) (M : Nat → Nat → Int32) (L : Nat → Nat → Int64) (n : Nat) (hn : n ≤ 8) : fm_Met l D cA b yX5_takePeople cX5_takePeople 4 none 2 45 0 0 [.ref (b + 1), .ref (b + 31), .int (nI n)] LAY M L LAY (fm_pv (fun M' L' => (∀ j, j < n → ∀ a, a < 4 → M' (7 + j) a = M (33 + j) a) ∧ M' 1 1 = nI n ∧ (∀ i, i ≠ 1 → M' 1 i = M 1 i) ∧ (∀ q, q ≠ 1 → ¬ (7 ≤ q ∧ q < 15) → M' q = M q) ∧ L' = L)) := by
  refine fm_start RX5 rfl (by decide) (Nat.le_of_ble_eq_true rfl) ?_
  intro pq eq sq mq aq bq tq cq hC hin
  refine g_iconst (v := 0) hC dX5_takePeople_0 rfl ?_
  refine g_istore_n hC [(3, .int 0), (0, .ref (b + 1)), (1, .ref (b + 31)), (2, .int (nI n))] dX5_takePeople_1 rfl (by decide) rfl ?_
  have lp_2_1 : ∀ (n_1 : Nat) (M1 : Nat → Nat → Int32) (i : Nat), n - i < n_1 → (i ≤ n ∧ (∀ j, j < i → ∀ a, a < 4 → M1 (7 + j) a = M (33 + j) a) ∧ (∀ q, ¬ (7 ≤ q ∧ q < 15) → M1 q = M q)) → fm_G pq l eq (fm_rm 2 45 0 0) sq mq aq bq tq cq D cA b 4 (MQ bq (fm_Q D cA b LAY (fm_pv (fun M' L' => (∀ j, j < n → ∀ a, a < 4 → M' (7 + j) a = M (33 + j) a) ∧ M' 1 1 = nI n ∧ (∀ i, i ≠ 1 → M' 1 i = M 1 i) ∧ (∀ q, q ≠ 1 → ¬ (7 ≤ q ∧ q < 15) → M' q = M q) ∧ L' = L))) aq sq 0 0 (fun q => b ≤ q)) LAY M1 L 0 0 2 [(0, .ref (b + 1)), (1, .ref (b + 31)), (2, .int (nI n)), (3, .int (nI i))] [] := by
    intro n_1
    induction n_1 with
    | zero => intro M1 i hm_1; exact absurd hm_1 (Nat.not_lt_zero _)
    | succ n_1 ih_1 =>
      intro M1 i hm_1 hinv_1
      obtain ⟨i1, i2, i3⟩ := hinv_1
      refine g_iload_n hC dX5_takePeople_2 rfl 3 rfl ?_
      refine g_iload_n hC dX5_takePeople_3 rfl 2 rfl ?_
      refine g_icmp_ge_T (X := ((i : Nat) : Int)) (Y := ((n : Nat) : Int)) hC (nI_toInt (by omega)) (nI_toInt (by omega)) 31 dX5_takePeople_4 rfl (fun c_2 => ?_) (fun c_2 => ?_)
      · skip
        refine g_aload_n hC dX5_takePeople_31 rfl 0 rfl ?_
        refine g_iload_n hC dX5_takePeople_32 rfl 2 rfl ?_
        refine g_putI (ci := 5) (i := 1) (k := 1) hC fm_in5 tyX5 tyX5_ok nmX5 rfl ly_1 rfl (by decide) fw_58 rfl rfl rfl dX5_takePeople_33 ?_
        refine g_vret hC rfl dX5_takePeople_36 ?_
        have ei : i = n := by omega
        subst ei
        exact ⟨rfl, fun j hj a ha => by rw [fm_upn (by omega)]; exact i2 j hj a ha, by rw [fm_ups], fun i hi => by rw [fm_upx hi, i3 1 (by omega)], fun q q1 q2 => by rw [fm_upn q1]; exact i3 q q2, rfl⟩
      · skip
        refine g_iload_n hC dX5_takePeople_7 rfl 3 rfl ?_
        refine g_bipush (v := 8) hC dX5_takePeople_8 rfl ?_
        refine g_icmp_ge_T (X := ((i : Nat) : Int)) (Y := 8) hC (nI_toInt (by omega)) rfl 31 dX5_takePeople_10 rfl (fun c_3 => ?_) (fun c_3 => ?_)
        · skip
          refine g_aload_n hC dX5_takePeople_31 rfl 0 rfl ?_
          refine g_iload_n hC dX5_takePeople_32 rfl 2 rfl ?_
          refine g_putI (ci := 5) (i := 1) (k := 1) hC fm_in5 tyX5 tyX5_ok nmX5 rfl ly_1 rfl (by decide) fw_58 rfl rfl rfl dX5_takePeople_33 ?_
          refine g_vret hC rfl dX5_takePeople_36 ?_
          have ei : i = n := by omega
          subst ei
          exact ⟨rfl, fun j hj a ha => by rw [fm_upn (by omega)]; exact i2 j hj a ha, by rw [fm_ups], fun i hi => by rw [fm_upx hi, i3 1 (by omega)], fun q q1 q2 => by rw [fm_upn q1]; exact i3 q q2, rfl⟩
        · skip
          refine g_aload_n hC dX5_takePeople_13 rfl 0 rfl ?_
          refine g_getR (ci := 5) (i := 0) (k := 1) (t := 2) hC fm_in5 rfl ly_1 rfl (by decide) fw_56 dX5_takePeople_14 ?_
          refine g_iload_n hC dX5_takePeople_17 rfl 3 rfl ?_
          refine g_aald4N (j := i) (t := 7 + i) (k := 2) hC ly_2 rfl (by omega) (by decide) (fm_z7 _ (by omega)) dX5_takePeople_18 ?_
          refine g_aload_n hC dX5_takePeople_19 rfl 1 rfl ?_
          refine g_iload_n hC dX5_takePeople_20 rfl 3 rfl ?_
          refine g_aald4N (j := i) (t := 33 + i) (k := 31) hC ly_31 rfl (by omega) (by decide) (fm_z33 _ (by omega)) dX5_takePeople_21 ?_
          refine g_callV hC (k := 7 + i) (ci := 1) (as := [.ref (b + (33 + i))]) (rest := []) (c_X1_becomeLike l D cA b M1 L (7 + i) (33 + i) (fm_per7 _ (by omega)) (fm_per33 _ (by omega))) ⟨fw_353, fw_354, fw_355, fw_3, fw_356⟩ ⟨rfl, hd_X1_becomeLike⟩ rfl (fm_per7 _ (by omega)) ⟨Nat.le_of_ble_eq_true rfl, Nat.le_of_ble_eq_true rfl⟩ ⟨Nat.le_of_ble_eq_true rfl, Nat.le_of_ble_eq_true rfl⟩ rfl rfl (Nat.le_of_ble_eq_true rfl) dX5_takePeople_22 (g_rvx ?_)
          refine g_iinc hC [(3, .int (nI (i + 1))), (0, .ref (b + 1)), (1, .ref (b + 31)), (2, .int (nI n))] dX5_takePeople_25 3 rfl (by rw [show Int32.ofInt 1 = nI 1 from rfl, nI_add]) (by decide) rfl ?_
          refine g_goto hC 2 dX5_takePeople_28 rfl ?_
          exact g_sub [1, 2, 3, 0] rfl (ih_1 (be M1 (7 + i) (M1 (33 + i) 0) (M1 (33 + i) 1) (M1 (33 + i) 2) (M1 (33 + i) 3)) (i + 1) (by omega) (⟨by omega, fun j hj a ha => if e : j = i then (by rw [e]; exact be_at2 ha (i3 (33 + i) (by omega))) else (by rw [be_n (by omega)]; exact i2 j (by omega) a ha), fun q hq => by rw [be_n (by omega)]; exact i3 q hq⟩))
  exact g_sub [1, 2, 3, 0] rfl (lp_2_1 (n - 0 + 1) M 0 (Nat.lt_succ_self _) (⟨by omega, fun j hj => by omega, fun _ _ => rfl⟩))

theorem c_X6_town (l : Launch) (D : va_G) (cA : Nat → ClassId) (b : Nat) (M : Nat → Nat → Int32) (L : Nat → Nat → Int64) (g : Sg) (hS : CS M L g) (hok : OK g) : fm_Met l D cA b yX6_town cX6_town 2 (some .int) 4 89 0 0 [.ref (b + 0)] LAY M L LAY (fm_pm (fun r M' L' => r = (op_town g).1 ∧ CS M' L' (op_town g).2 ∧ fC M M' L L')) := by
  refine fm_start RX6 rfl (by decide) (Nat.le_of_ble_eq_true rfl) ?_
  intro pq eq sq mq aq bq tq cq hC hin
  obtain ⟨⟨n1, n2, n3, v0, v1, v2, v3, v4, v5, v6, v7, v8⟩, hS2⟩ := id hS
  obtain ⟨⟨o1, o2, o3, o4, o5, o6, o7, o8, o9, o10, o11⟩, hok2⟩ := id hok
  have tl : g.2.2.2.1.1 ≤ 140 := hok.2.2.2.1.1
  refine g_aload_n hC dX6_town_0 rfl 0 rfl ?_
  refine g_getR (ci := 6) (i := 3) (k := 0) (t := 29) hC fm_in6 rfl ly_0 rfl (by decide) fw_199 dX6_town_1 ?_
  refine g_callV hC (k := 29) (ci := 4) (as := []) (rest := []) (c_X4_readTown l D cA b M L g.2.2.2.1 hS.2.2.2.1 hok.2.2.2.1) ⟨fw_313, fw_314, fw_315, fw_5, fw_316⟩ ⟨rfl, hd_X4_readTown⟩ rfl ly_29 ⟨Nat.le_of_ble_eq_true rfl, Nat.le_of_ble_eq_true rfl⟩ ⟨Nat.le_of_ble_eq_true rfl, Nat.le_of_ble_eq_true rfl⟩ rfl rfl (Nat.le_of_ble_eq_true rfl) dX6_town_4 (g_rm (fun r_1 M_1 L_1 h_1 => ?_))
  obtain ⟨a1_1, a2_1, a3_1, a4_1, a5_1⟩ := h_1
  rw [a5_1]
  rcases tw_all (T := g.2.2.2.1) with ⟨q0, e0, q1, q2⟩ | ⟨n0, K0, e0, n1, n2⟩
  · rw [a1_1 q0 e0]
    refine g_istore_n hC [(1, .int (-20 - nI q0)), (0, .ref (b + 0))] dX6_town_7 rfl (by decide) rfl ?_
    refine g_aload_n hC dX6_town_8 rfl 1 rfl ?_
    refine g_getR (ci := 6) (i := 3) (k := 0) (t := 29) hC fm_in6 rfl ly_0 rfl (by decide) fw_199 dX6_town_9 ?_
    refine g_callV hC (k := 29) (ci := 4) (as := []) (rest := []) (c_X4_clear l D cA b M_1 L) ⟨fw_345, fw_346, fw_347, fw_5, fw_348⟩ ⟨rfl, hd_X4_clear⟩ rfl ly_29 ⟨Nat.le_of_ble_eq_true rfl, Nat.le_of_ble_eq_true rfl⟩ ⟨Nat.le_of_ble_eq_true rfl, Nat.le_of_ble_eq_true rfl⟩ rfl rfl (Nat.le_of_ble_eq_true rfl) dX6_town_12 (g_rvx ?_)
    refine g_iload_n hC dX6_town_15 rfl 0 rfl ?_
    refine g_if_lt_T (X := -20 - ((q0 : Nat) : Int)) hC (neg20 (by omega)) 34 dX6_town_16 rfl (fun c_3 => ?_) (fun c_3 => ?_)
    · skip
      refine g_iload_n hC dX6_town_34 rfl 0 rfl ?_
      refine g_zret (ty := .int) hC rfl rfl dX6_town_35 ?_
      have eo : op_town g = (-20 - nI q0, tpC g g.1) := by unfold op_town; rw [e0]
      have fr : ∀ q, q ≠ 29 → ¬ (33 ≤ q ∧ q < 41) → (fm_up M_1 29 1 0) q = M q := fun q q1 q2 => (by rw [fm_upn q1]; exact a4_1 q q1 q2)
      exact ⟨_, rfl, (by rw [eo]), (by rw [eo]; exact CS_np hS hok (tC_cong hS.1 o4 (fun k k1 k2 => fr k (by omega) (by omega))) (fun k k1 k2 => fr k (by omega) (by omega)) fm_ups (fun k k1 k2 => ⟨fr k (by omega) (by omega), rfl⟩)), fun k hk => ⟨fr k (by omega) (by omega), rfl⟩⟩
    · skip
      exfalso; omega
  · obtain ⟨b0, b1⟩ := a2_1 n0 K0 e0
    rw [b0]
    refine g_istore_n hC [(1, .int (nI n0)), (0, .ref (b + 0))] dX6_town_7 rfl (by decide) rfl ?_
    refine g_aload_n hC dX6_town_8 rfl 1 rfl ?_
    refine g_getR (ci := 6) (i := 3) (k := 0) (t := 29) hC fm_in6 rfl ly_0 rfl (by decide) fw_199 dX6_town_9 ?_
    refine g_callV hC (k := 29) (ci := 4) (as := []) (rest := []) (c_X4_clear l D cA b M_1 L) ⟨fw_345, fw_346, fw_347, fw_5, fw_348⟩ ⟨rfl, hd_X4_clear⟩ rfl ly_29 ⟨Nat.le_of_ble_eq_true rfl, Nat.le_of_ble_eq_true rfl⟩ ⟨Nat.le_of_ble_eq_true rfl, Nat.le_of_ble_eq_true rfl⟩ rfl rfl (Nat.le_of_ble_eq_true rfl) dX6_town_12 (g_rvx ?_)
    refine g_iload_n hC dX6_town_15 rfl 0 rfl ?_
    refine g_if_lt_T (X := ((n0 : Nat) : Int)) hC (nI_toInt (by omega)) 34 dX6_town_16 rfl (fun c_5 => ?_) (fun c_5 => ?_)
    · skip
      exfalso; omega
    · skip
      refine g_aload_n hC dX6_town_19 rfl 1 rfl ?_
      refine g_getR (ci := 6) (i := 0) (k := 0) (t := 1) hC fm_in6 rfl ly_0 rfl (by decide) fw_196 dX6_town_20 ?_
      refine g_aload_n hC dX6_town_23 rfl 1 rfl ?_
      refine g_getR (ci := 6) (i := 3) (k := 0) (t := 29) hC fm_in6 rfl ly_0 rfl (by decide) fw_199 dX6_town_24 ?_
      refine g_getR (ci := 4) (i := 4) (k := 29) (t := 31) hC fm_in4 rfl ly_29 rfl (by decide) fw_127 dX6_town_27 ?_
      refine g_iload_n hC dX6_town_30 rfl 0 rfl ?_
      refine g_callV hC (k := 1) (ci := 5) (as := [.ref (b + 31), .int (nI n0)]) (rest := []) (c_X5_takePeople_t l D cA b (fm_up M_1 29 1 0) L n0 n1) ⟨fw_349, fw_350, fw_351, fw_2, fw_352⟩ ⟨rfl, hd_X5_takePeople⟩ rfl ly_1 ⟨Nat.le_of_ble_eq_true rfl, Nat.le_of_ble_eq_true rfl⟩ ⟨Nat.le_of_ble_eq_true rfl, Nat.le_of_ble_eq_true rfl⟩ rfl rfl (Nat.le_of_ble_eq_true rfl) dX6_town_31 (g_rv (fun M_6 L_6 h_6 => ?_))
      obtain ⟨u1_6, u2_6, u3_6, u4_6, u5_6⟩ := h_6
      rw [u5_6]
      refine g_iload_n hC dX6_town_34 rfl 0 rfl ?_
      refine g_zret (ty := .int) hC rfl rfl dX6_town_35 ?_
      have eo : op_town g = (nI n0, tpC g (tnP g.1 n0 K0)) := by unfold op_town; rw [e0]
      have fr : ∀ q, q ≠ 1 → ¬ (7 ≤ q ∧ q < 15) → q ≠ 29 → ¬ (33 ≤ q ∧ q < 41) → M_6 q = M q := fun q q1 q2 q3 q4 => (by rw [u4_6 q q1 q2, fm_upn q3]; exact a4_1 q q3 q4)
      have pp : ∀ j, j < n0 → ∀ a, a < 4 → M_6 (7 + j) a = M_1 (33 + j) a := fun j hj a ha => (by rw [u1_6 j hj a ha, fm_upn (by omega)])
      exact ⟨_, rfl, (by rw [eo]), (by rw [eo]; exact CS_np hS hok (tC_tnP hS.1 (fun j hj => (by rw [pp j hj 0 (by decide), pp j hj 1 (by decide), pp j hj 2 (by decide), pp j hj 3 (by decide)]; exact b1 j hj)) u2_6 (fun i hi => (by rw [u3_6 i hi, fm_upn (by decide), a4_1 1 (by decide) (by omega)])) (fun q q1 q2 => fr q (by omega) (by omega) (by omega) (by omega))) (fun k k1 k2 => fr k (by omega) (by omega) (by omega) (by omega)) (by rw [u4_6 29 (by decide) (by omega), fm_ups]) (fun k k1 k2 => ⟨fr k (by omega) (by omega) (by omega) (by omega), rfl⟩)), fun k hk => ⟨fr k (by omega) (by omega) (by omega) (by omega), rfl⟩⟩

theorem c_X6_plan (l : Launch) (D : va_G) (cA : Nat → ClassId) (b : Nat) (M : Nat → Nat → Int32) (L : Nat → Nat → Int64) (g : Sg) (hS : CS M L g) (hok : OK g) : fm_Met l D cA b yX6_plan cX6_plan 2 (some .int) 4 89 0 0 [.ref (b + 0)] LAY M L LAY (fm_pm (fun r M' L' => r = (op_plan g).1 ∧ CS M' L' (op_plan g).2 ∧ fC M M' L L')) := by
  refine fm_start RX6 rfl (by decide) (Nat.le_of_ble_eq_true rfl) ?_
  intro pq eq sq mq aq bq tq cq hC hin
  obtain ⟨⟨n1, n2, n3, v0, v1, v2, v3, v4, v5, v6, v7, v8⟩, hS2⟩ := id hS
  obtain ⟨⟨o1, o2, o3, o4, o5, o6, o7, o8, o9, o10, o11⟩, hok2⟩ := id hok
  have tl : g.2.2.2.1.1 ≤ 140 := hok.2.2.2.1.1
  refine g_aload_n hC dX6_plan_0 rfl 0 rfl ?_
  refine g_getR (ci := 6) (i := 3) (k := 0) (t := 29) hC fm_in6 rfl ly_0 rfl (by decide) fw_199 dX6_plan_1 ?_
  refine g_callV hC (k := 29) (ci := 4) (as := []) (rest := []) (c_X4_readPlan l D cA b M L g.2.2.2.1 hS.2.2.2.1 hok.2.2.2.1) ⟨fw_362, fw_363, fw_364, fw_5, fw_365⟩ ⟨rfl, hd_X4_readPlan⟩ rfl ly_29 ⟨Nat.le_of_ble_eq_true rfl, Nat.le_of_ble_eq_true rfl⟩ ⟨Nat.le_of_ble_eq_true rfl, Nat.le_of_ble_eq_true rfl⟩ rfl rfl (Nat.le_of_ble_eq_true rfl) dX6_plan_4 (g_rm (fun r_1 M_1 L_1 h_1 => ?_))
  obtain ⟨a1_1, a2_1, a3_1, a4_1, a5_1⟩ := h_1
  rw [a5_1]
  rcases pl_all (T := g.2.2.2.1) with ⟨q0, e0, q1, q2⟩ | ⟨n0, K0, e0, n1, n2⟩
  · rw [a1_1 q0 e0]
    refine g_istore_n hC [(1, .int (-20 - nI q0)), (0, .ref (b + 0))] dX6_plan_7 rfl (by decide) rfl ?_
    refine g_aload_n hC dX6_plan_8 rfl 1 rfl ?_
    refine g_getR (ci := 6) (i := 3) (k := 0) (t := 29) hC fm_in6 rfl ly_0 rfl (by decide) fw_199 dX6_plan_9 ?_
    refine g_callV hC (k := 29) (ci := 4) (as := []) (rest := []) (c_X4_clear l D cA b M_1 L) ⟨fw_345, fw_346, fw_347, fw_5, fw_348⟩ ⟨rfl, hd_X4_clear⟩ rfl ly_29 ⟨Nat.le_of_ble_eq_true rfl, Nat.le_of_ble_eq_true rfl⟩ ⟨Nat.le_of_ble_eq_true rfl, Nat.le_of_ble_eq_true rfl⟩ rfl rfl (Nat.le_of_ble_eq_true rfl) dX6_plan_12 (g_rvx ?_)
    refine g_iload_n hC dX6_plan_15 rfl 0 rfl ?_
    refine g_if_lt_T (X := -20 - ((q0 : Nat) : Int)) hC (neg20 (by omega)) 40 dX6_plan_16 rfl (fun c_3 => ?_) (fun c_3 => ?_)
    · skip
      refine g_iload_n hC dX6_plan_40 rfl 0 rfl ?_
      refine g_zret (ty := .int) hC rfl rfl dX6_plan_41 ?_
      have eo : op_plan g = (-20 - nI q0, tpC g g.1) := by unfold op_plan; rw [e0]
      have fr : ∀ q, q ≠ 29 → q ≠ 32 → (fm_up M_1 29 1 0) q = M q := fun q q1 q2 => (by rw [fm_upn q1]; exact a4_1 q q1 q2)
      exact ⟨_, rfl, (by rw [eo]), (by rw [eo]; exact CS_np hS hok (tC_cong hS.1 o4 (fun k k1 k2 => fr k (by omega) (by omega))) (fun k k1 k2 => fr k (by omega) (by omega)) fm_ups (fun k k1 k2 => ⟨fr k (by omega) (by omega), rfl⟩)), fun k hk => ⟨fr k (by omega) (by omega), rfl⟩⟩
    · skip
      exfalso; omega
  · obtain ⟨b0, b1⟩ := a2_1 n0 K0 e0
    rw [b0]
    refine g_istore_n hC [(1, .int (nI n0)), (0, .ref (b + 0))] dX6_plan_7 rfl (by decide) rfl ?_
    refine g_aload_n hC dX6_plan_8 rfl 1 rfl ?_
    refine g_getR (ci := 6) (i := 3) (k := 0) (t := 29) hC fm_in6 rfl ly_0 rfl (by decide) fw_199 dX6_plan_9 ?_
    refine g_callV hC (k := 29) (ci := 4) (as := []) (rest := []) (c_X4_clear l D cA b M_1 L) ⟨fw_345, fw_346, fw_347, fw_5, fw_348⟩ ⟨rfl, hd_X4_clear⟩ rfl ly_29 ⟨Nat.le_of_ble_eq_true rfl, Nat.le_of_ble_eq_true rfl⟩ ⟨Nat.le_of_ble_eq_true rfl, Nat.le_of_ble_eq_true rfl⟩ rfl rfl (Nat.le_of_ble_eq_true rfl) dX6_plan_12 (g_rvx ?_)
    refine g_iload_n hC dX6_plan_15 rfl 0 rfl ?_
    refine g_if_lt_T (X := ((n0 : Nat) : Int)) hC (nI_toInt (by omega)) 40 dX6_plan_16 rfl (fun c_5 => ?_) (fun c_5 => ?_)
    · skip
      exfalso; omega
    · skip
      refine g_aload_n hC dX6_plan_19 rfl 1 rfl ?_
      refine g_getR (ci := 6) (i := 3) (k := 0) (t := 29) hC fm_in6 rfl ly_0 rfl (by decide) fw_199 dX6_plan_20 ?_
      refine g_getR (ci := 4) (i := 5) (k := 29) (t := 32) hC fm_in4 rfl ly_29 rfl (by decide) fw_129 dX6_plan_23 ?_
      refine g_iconst (v := 0) hC dX6_plan_26 rfl ?_
      refine g_aload_n hC dX6_plan_27 rfl 1 rfl ?_
      refine g_getR (ci := 6) (i := 0) (k := 0) (t := 1) hC fm_in6 rfl ly_0 rfl (by decide) fw_196 dX6_plan_28 ?_
      refine g_getR (ci := 5) (i := 6) (k := 1) (t := 6) hC fm_in5 rfl ly_1 rfl (by decide) fw_69 dX6_plan_31 ?_
      refine g_iconst (v := 0) hC dX6_plan_34 rfl ?_
      refine g_bipush (v := 24) hC dX6_plan_35 rfl ?_
      refine g_copyI (k0 := 32) (k1 := 6) hC fw_371 fw_373 fw_372 fw_11 ly_32 ly_6 (by decide) (by decide) (by decide) (by decide) (by decide) (Nat.le_of_ble_eq_true rfl) (Nat.le_of_ble_eq_true rfl) dX6_plan_37 ?_
      obtain ⟨Mc, eMc⟩ : ∃ Mc, Mc = fm_row (fm_up M_1 29 1 0) 6 (va_cpy ((fm_up M_1 29 1 0) 32) ((fm_up M_1 29 1 0) 6) (0 : Int32).toNatClampNeg (0 : Int32).toNatClampNeg (24 : Int32).toNatClampNeg) := ⟨_, rfl⟩
      rw [← eMc]
      have c1 : ∀ j, j < 24 → Mc 6 j = Int32.ofInt (K0 j) := fun j hj => by
        rw [eMc]
        simp only [fm_row, if_true]
        first | exact (sb_cpy0 hj).trans (b1 j hj) | (rw [show (0 : Int32).toNatClampNeg = 0 from rfl, show (24 : Int32).toNatClampNeg = 24 from rfl, sb_cpy0 hj]; first | exact b1 j hj | (simp; exact b1 j hj))
      have c2 : ∀ q, q ≠ 6 → q ≠ 29 → q ≠ 32 → Mc q = M q := fun q q1 q2 q3 => by rw [eMc, fm_row_n q1, fm_upn q2]; exact a4_1 q q2 q3
      have c3 : Mc 29 1 = 0 := by rw [eMc, fm_row_n (by decide), fm_ups]
      refine g_iload_n hC dX6_plan_40 rfl 0 rfl ?_
      refine g_zret (ty := .int) hC rfl rfl dX6_plan_41 ?_
      have eo : op_plan g = (nI n0, tpC g (g.1.1, K0, g.1.2.2)) := by unfold op_plan; rw [e0]
      exact ⟨_, rfl, (by rw [eo]), (by rw [eo]; exact CS_np hS hok (tC_plan hS.1 o4 c1 (fun k k1 k2 k3 => c2 k k3 (by omega) (by omega))) (fun k k1 k2 => c2 k (by omega) (by omega) (by omega)) c3 (fun k k1 k2 => ⟨c2 k (by omega) (by omega) (by omega), rfl⟩)), fun k hk => ⟨c2 k (by omega) (by omega) (by omega), rfl⟩⟩

theorem c_X7_end_1 (l : Launch) (D : va_G) (cA : Nat → ClassId) (b : Nat) (M : Nat → Nat → Int32) (L : Nat → Nat → Int64)  : fm_Met l D cA b yX7_end cX7_end 2 (some .int) 1 20 0 0 [.ref (b + 58), .int 1] LAY M L LAY (fm_pi (0) (fm_up M 58 18 0) L) := by
  refine fm_start RX7 rfl (by decide) (Nat.le_of_ble_eq_true rfl) ?_
  intro pq eq sq mq aq bq tq cq hC hin
  refine g_iload_n hC dX7_end_0 rfl 1 rfl ?_
  refine g_if_ne_T (X := 1) hC rfl 9 dX7_end_1 rfl (fun _ => ?_) (fun c_1 => absurd c_1 (by omega))
  refine g_aload_n hC dX7_end_9 rfl 0 rfl ?_
  refine g_iconst (v := 0) hC dX7_end_10 rfl ?_
  refine g_putI (ci := 7) (i := 18) (k := 58) hC fm_in7 tyX7 tyX7_ok nmX7 rfl ly_58 rfl (by decide) fw_638 rfl rfl rfl dX7_end_11 ?_
  refine g_iload_n hC dX7_end_14 rfl 1 rfl ?_
  refine g_if_eq_T (X := 1) hC rfl 22 dX7_end_15 rfl (fun c_2 => absurd c_2 (by omega)) (fun _ => ?_)
  refine g_iconst (v := 0) hC dX7_end_18 rfl ?_
  refine g_goto hC 29 dX7_end_19 rfl ?_
  refine g_zret (ty := .int) hC rfl rfl dX7_end_29 ⟨congrArg (fun z => some (Value.int z)) ?_, rfl, rfl⟩
  rfl

theorem c_X7_end_0 (l : Launch) (D : va_G) (cA : Nat → ClassId) (b : Nat) (M : Nat → Nat → Int32) (L : Nat → Nat → Int64) (T : Nat × (Nat → Nat)) (p : Nat) (hT : pR M T) (hk : pOK T) (hp : M 58 19 = nI p) (hle : p ≤ T.1) : fm_Met l D cA b yX7_end cX7_end 2 (some .int) 1 20 0 0 [.ref (b + 58), .int 0] LAY M L LAY (fm_pi (-20 - nI (nx T p)) (fm_up (fm_up M 58 19 (nI (nx T p))) 58 18 0) L) := by
  refine fm_start RX7 rfl (by decide) (Nat.le_of_ble_eq_true rfl) ?_
  intro pq eq sq mq aq bq tq cq hC hin
  refine g_iload_n hC dX7_end_0 rfl 1 rfl ?_
  refine g_if_ne_T (X := 0) hC rfl 9 dX7_end_1 rfl (fun c_1 => absurd c_1 (by omega)) (fun _ => ?_)
  refine g_aload_n hC dX7_end_4 rfl 0 rfl ?_
  refine g_callV hC (k := 58) (ci := 7) (as := []) (rest := []) (c_X7_nextByte l D cA b M L T p hT hk hp hle) ⟨fw_804, fw_806, fs_20, fw_9, fw_807⟩ ⟨rfl, hd_X7_nextByte⟩ rfl ly_58 ⟨Nat.le_of_ble_eq_true rfl, Nat.le_of_ble_eq_true rfl⟩ ⟨Nat.le_of_ble_eq_true rfl, Nat.le_of_ble_eq_true rfl⟩ rfl rfl (Nat.le_of_ble_eq_true rfl) dX7_end_5 (g_rix ?_)
  refine g_pop hC dX7_end_8 rfl ?_
  refine g_aload_n hC dX7_end_9 rfl 0 rfl ?_
  refine g_iconst (v := 0) hC dX7_end_10 rfl ?_
  refine g_putI (ci := 7) (i := 18) (k := 58) hC fm_in7 tyX7 tyX7_ok nmX7 rfl ly_58 rfl (by decide) fw_638 rfl rfl rfl dX7_end_11 ?_
  refine g_iload_n hC dX7_end_14 rfl 1 rfl ?_
  refine g_if_eq_T (X := 0) hC rfl 22 dX7_end_15 rfl (fun _ => ?_) (fun c_3 => absurd c_3 (by omega))
  refine g_bipush (v := (-20)) hC dX7_end_22 rfl ?_
  refine g_aload_n hC dX7_end_24 rfl 0 rfl ?_
  refine g_getI (ci := 7) (i := 19) (k := 58) hC fm_in7 rfl ly_58 rfl (by decide) fw_639 dX7_end_25 ?_
  refine g_top (y := nI (nx T p)) (by simp [fm_up, fm_row, upd]) ?_
  refine g_isub hC dX7_end_28 ?_
  refine g_zret (ty := .int) hC rfl rfl dX7_end_29 ⟨congrArg (fun z => some (Value.int z)) ?_, rfl, rfl⟩
  rfl

theorem c_X7_add_n (l : Launch) (D : va_G) (cA : Nat → ClassId) (b : Nat) (M : Nat → Nat → Int32) (L : Nat → Nat → Int64) (n : Nat) (k : Int32) (h : Int32) (x : Int32) (y : Int32) (hn : M 58 4 = nI n) (hlt : n < 8) : fm_Met l D cA b yX7_add cX7_add 5 none 0 0 0 0 [.ref (b + 58), .int k, .int h, .int x, .int y] LAY M L LAY (fm_pvx (fm_up (fm_up (fm_up (fm_up (fm_up M 59 n k) 60 n h) 61 n x) 62 n y) 58 4 (nI (n + 1))) L) := by
  refine fm_start RX7 rfl (by decide) (Nat.le_of_ble_eq_true rfl) ?_
  intro pq eq sq mq aq bq tq cq hC hin
  refine g_aload_n hC dX7_add_0 rfl 0 rfl ?_
  refine g_getR (ci := 7) (i := 0) (k := 58) (t := 59) hC fm_in7 rfl ly_58 rfl (by decide) fw_620 dX7_add_1 ?_
  refine g_aload_n hC dX7_add_4 rfl 0 rfl ?_
  refine g_getI (ci := 7) (i := 4) (k := 58) hC fm_in7 rfl ly_58 rfl (by decide) fw_624 dX7_add_5 ?_
  refine g_top (y := nI n) hn ?_
  refine g_iload_n hC dX7_add_8 rfl 1 rfl ?_
  refine g_iastN (j := n) (k := 59) hC ly_59 rfl (by omega) (by decide) dX7_add_9 ?_
  refine g_aload_n hC dX7_add_10 rfl 0 rfl ?_
  refine g_getR (ci := 7) (i := 1) (k := 58) (t := 60) hC fm_in7 rfl ly_58 rfl (by decide) fw_621 dX7_add_11 ?_
  refine g_aload_n hC dX7_add_14 rfl 0 rfl ?_
  refine g_getI (ci := 7) (i := 4) (k := 58) hC fm_in7 rfl ly_58 rfl (by decide) fw_624 dX7_add_15 ?_
  refine g_top (y := nI n) (by simp [fm_up, fm_row, upd, hn]) ?_
  refine g_iload_n hC dX7_add_18 rfl 2 rfl ?_
  refine g_iastN (j := n) (k := 60) hC ly_60 rfl (by omega) (by decide) dX7_add_19 ?_
  refine g_aload_n hC dX7_add_20 rfl 0 rfl ?_
  refine g_getR (ci := 7) (i := 2) (k := 58) (t := 61) hC fm_in7 rfl ly_58 rfl (by decide) fw_622 dX7_add_21 ?_
  refine g_aload_n hC dX7_add_24 rfl 0 rfl ?_
  refine g_getI (ci := 7) (i := 4) (k := 58) hC fm_in7 rfl ly_58 rfl (by decide) fw_624 dX7_add_25 ?_
  refine g_top (y := nI n) (by simp [fm_up, fm_row, upd, hn]) ?_
  refine g_iload_n hC dX7_add_28 rfl 3 rfl ?_
  refine g_iastN (j := n) (k := 61) hC ly_61 rfl (by omega) (by decide) dX7_add_29 ?_
  refine g_aload_n hC dX7_add_30 rfl 0 rfl ?_
  refine g_getR (ci := 7) (i := 3) (k := 58) (t := 62) hC fm_in7 rfl ly_58 rfl (by decide) fw_623 dX7_add_31 ?_
  refine g_aload_n hC dX7_add_34 rfl 0 rfl ?_
  refine g_getI (ci := 7) (i := 4) (k := 58) hC fm_in7 rfl ly_58 rfl (by decide) fw_624 dX7_add_35 ?_
  refine g_top (y := nI n) (by simp [fm_up, fm_row, upd, hn]) ?_
  refine g_iload hC dX7_add_38 4 rfl ?_
  refine g_iastN (j := n) (k := 62) hC ly_62 rfl (by omega) (by decide) dX7_add_40 ?_
  refine g_aload_n hC dX7_add_41 rfl 0 rfl ?_
  refine g_dup hC dX7_add_42 rfl ?_
  refine g_getI (ci := 7) (i := 4) (k := 58) hC fm_in7 rfl ly_58 rfl (by decide) fw_624 dX7_add_43 ?_
  refine g_top (y := nI n) (by simp [fm_up, fm_row, upd, hn]) ?_
  refine g_iconst (v := 1) hC dX7_add_46 rfl ?_
  refine g_iadd hC dX7_add_47 ?_
  refine g_top (y := nI (n + 1)) (nI_add _ _) ?_
  refine g_putI (ci := 7) (i := 4) (k := 58) hC fm_in7 tyX7 tyX7_ok nmX7 rfl ly_58 rfl (by decide) fw_624 rfl rfl rfl dX7_add_48 ?_
  refine g_vret hC rfl dX7_add_51 ?_
  exact ⟨rfl, rfl, rfl⟩

theorem tR_cong2 {M M' : Nat → Nat → Int32} {t : Tn} (h : tR M t) (e0 : ∀ i, i < 17 → M' 58 i = M 58 i) (e : ∀ k, 59 ≤ k → k < 67 → M' k = M k) : tR M' t := by
  obtain ⟨n1, n2, n3, v0, v1, v2, v3, v4, v5, v6, v7, v8⟩ := h
  refine ⟨fun j hj => ?_, fun j hj => ?_, fun q hq => ?_, ?_, ?_, ?_, ?_, ?_, ?_, ?_, ?_, ?_⟩
  · rw [e 59 (by omega) (by omega), e 60 (by omega) (by omega), e 61 (by omega) (by omega), e 62 (by omega) (by omega)]; exact n1 j hj
  · rw [e 63 (by omega) (by omega), e 64 (by omega) (by omega)]; exact n2 j hj
  · rw [e 65 (by omega) (by omega), e 66 (by omega) (by omega)]; exact n3 q hq
  · rw [e0 4 (by decide)]; exact v0
  · rw [e0 7 (by decide)]; exact v1
  · rw [e0 10 (by decide)]; exact v2
  · rw [e0 11 (by decide)]; exact v3
  · rw [e0 12 (by decide)]; exact v4
  · rw [e0 13 (by decide)]; exact v5
  · rw [e0 14 (by decide)]; exact v6
  · rw [e0 15 (by decide)]; exact v7
  · rw [e0 16 (by decide)]; exact v8

theorem c_X7_town (l : Launch) (D : va_G) (cA : Nat → ClassId) (b : Nat) (M : Nat → Nat → Int32) (L : Nat → Nat → Int64) (g : Sg) (hS : RS M L g) (hok : OK g) : fm_Met l D cA b yX7_town cX7_town 3 (some .int) 4 92 0 0 [.ref (b + 58)] LAY M L LAY (fm_pm (fun r M' L' => r = (op_town g).1 ∧ RS M' L' (op_town g).2 ∧ fR M M' L L')) := by
  refine fm_start RX7 rfl (by decide) (Nat.le_of_ble_eq_true rfl) ?_
  intro pq eq sq mq aq bq tq cq hC hin
  obtain ⟨⟨n1, n2, n3, v0, v1, v2, v3, v4, v5, v6, v7, v8⟩, hS2⟩ := id hS
  obtain ⟨⟨o1, o2, o3, o4, o5, o6, o7, o8, o9, o10, o11⟩, hok2⟩ := id hok
  have tl : g.2.2.2.1.1 ≤ 140 := hok.2.2.2.1.1
  refine g_aload_n hC dX7_town_0 rfl 0 rfl ?_
  refine g_aload_n hC dX7_town_1 rfl 0 rfl ?_
  refine g_callV hC (k := 58) (ci := 7) (as := []) (rest := [.ref (b + 58)]) (c_X7_readTown l D cA b M L g.2.2.2.1 hS.2.2.2.1 hok.2.2.2.1) ⟨fw_796, fw_798, fs_18, fw_9, fw_799⟩ ⟨rfl, hd_X7_readTown⟩ rfl ly_58 ⟨Nat.le_of_ble_eq_true rfl, Nat.le_of_ble_eq_true rfl⟩ ⟨Nat.le_of_ble_eq_true rfl, Nat.le_of_ble_eq_true rfl⟩ rfl rfl (Nat.le_of_ble_eq_true rfl) dX7_town_2 (g_rm (fun r_1 M_1 L_1 h_1 => ?_))
  obtain ⟨a1_1, a2_1, a3_1, a4_1, a5_1⟩ := h_1
  rw [a5_1]
  rcases tw_all (T := g.2.2.2.1) with ⟨q0, e0, q1, q2⟩ | ⟨n0, K0, e0, n1, n2⟩
  · obtain ⟨b0, b1⟩ := a1_1 q0 e0
    rw [b0]
    refine g_callV hC (k := 58) (ci := 7) (as := [.int 0]) (rest := []) (c_X7_end_0 l D cA b M_1 L g.2.2.2.1 q0 (pR_mm hS.2.2.2.1 (a3_1 18 (by decide) (by decide)) (a4_1 67 (by decide) (by decide))) hok.2.2.2.1 b1 q1) ⟨fw_819, fw_821, fs_23, fw_9, fw_822⟩ ⟨rfl, hd_X7_end⟩ rfl ly_58 ⟨Nat.le_of_ble_eq_true rfl, Nat.le_of_ble_eq_true rfl⟩ ⟨Nat.le_of_ble_eq_true rfl, Nat.le_of_ble_eq_true rfl⟩ rfl rfl (Nat.le_of_ble_eq_true rfl) dX7_town_5 (g_rix ?_)
    rw [q2]
    refine g_istore_n hC [(1, .int (-20 - nI q0)), (0, .ref (b + 58))] dX7_town_8 rfl (by decide) rfl ?_
    refine g_iload_n hC dX7_town_9 rfl 0 rfl ?_
    refine g_if_ge_T (X := -20 - ((q0 : Nat) : Int)) hC (neg20 (by omega)) 15 dX7_town_10 rfl (fun c_3 => ?_) (fun c_3 => ?_)
    · skip
      exfalso; omega
    · skip
      refine g_iload_n hC dX7_town_13 rfl 0 rfl ?_
      refine g_zret (ty := .int) hC rfl rfl dX7_town_14 ?_
      have eo : op_town g = (-20 - nI q0, tpC g g.1) := by unfold op_town; rw [e0]
      have fr : ∀ q, q ≠ 58 → q ≠ 68 → (fm_up (fm_up M_1 58 19 (nI q0)) 58 18 0) q = M q := fun q q1 q2 => (by rw [fm_upn q1, fm_upn q1]; exact a4_1 q q1 q2)
      have f8 : ∀ i, i ≠ 18 → i ≠ 19 → i ≠ 20 → (fm_up (fm_up M_1 58 19 (nI q0)) 58 18 0) 58 i = M 58 i := fun i i1 i2 i3 => (by rw [fm_upx i1, fm_upx i2]; exact a3_1 i i2 i3)
      refine ⟨_, rfl, (by rw [eo]), (by rw [eo]; exact RS_np hS (tR_cong2 hS.1 (fun i i1 => f8 i (by omega) (by omega) (by omega)) (fun k k1 k2 => fr k (by omega) (by omega))) (f8 26 (by decide) (by decide) (by decide)) fm_ups (fun k hk => fr k (by omega) (by omega)) rfl), fun k hk => ⟨fr k (by omega) (by omega), rfl⟩⟩
  · obtain ⟨b0, b1, b2⟩ := a2_1 n0 K0 e0
    rw [b0]
    refine g_callV hC (k := 58) (ci := 7) (as := [.int 1]) (rest := []) (c_X7_end_1 l D cA b M_1 L) ⟨fw_819, fw_821, fs_23, fw_9, fw_822⟩ ⟨rfl, hd_X7_end⟩ rfl ly_58 ⟨Nat.le_of_ble_eq_true rfl, Nat.le_of_ble_eq_true rfl⟩ ⟨Nat.le_of_ble_eq_true rfl, Nat.le_of_ble_eq_true rfl⟩ rfl rfl (Nat.le_of_ble_eq_true rfl) dX7_town_5 (g_rix ?_)
    refine g_istore_n hC [(1, .int 0), (0, .ref (b + 58))] dX7_town_8 rfl (by decide) rfl ?_
    refine g_iload_n hC dX7_town_9 rfl 0 rfl ?_
    refine g_if_ge_T (X := 0) hC rfl 15 dX7_town_10 rfl (fun _ => ?_) (fun c_5 => absurd c_5 (by omega))
    refine g_aload_n hC dX7_town_15 rfl 1 rfl ?_
    refine g_iconst (v := 0) hC dX7_town_16 rfl ?_
    refine g_putI (ci := 7) (i := 4) (k := 58) hC fm_in7 tyX7 tyX7_ok nmX7 rfl ly_58 rfl (by decide) fw_624 rfl rfl rfl dX7_town_17 ?_
    refine g_iconst (v := 0) hC dX7_town_20 rfl ?_
    refine g_istore_n hC [(2, .int 0), (1, .int 0), (0, .ref (b + 58))] dX7_town_21 rfl (by decide) rfl ?_
    have lp_22_6 : ∀ (n_6 : Nat) (M1 : Nat → Nat → Int32) (i : Nat), n0 - i < n_6 → (i ≤ n0 ∧ M1 58 4 = nI i ∧ (∀ j, j < i → M1 59 j = nI (K0 0 j) ∧ M1 60 j = nI (K0 1 j) ∧ M1 61 j = nI (K0 2 j) ∧ M1 62 j = nI (K0 3 j)) ∧ (∀ i, i ≠ 4 → M1 58 i = (fm_up (fm_up M_1 58 18 0) 58 4 0) 58 i) ∧ (∀ q, q ≠ 58 → ¬ (59 ≤ q ∧ q < 63) → M1 q = (fm_up (fm_up M_1 58 18 0) 58 4 0) q)) → fm_G pq l eq (fm_rm 4 92 0 0) sq mq aq bq tq cq D cA b 3 (MQ bq (fm_Q D cA b LAY (fm_pm (fun r M' L' => r = (op_town g).1 ∧ RS M' L' (op_town g).2 ∧ fR M M' L L'))) aq sq 0 0 (fun q => b ≤ q)) LAY M1 L 0 0 22 [(0, .ref (b + 58)), (2, .int (nI i))] [] := by
      intro n_6
      induction n_6 with
      | zero => intro M1 i hm_6; exact absurd hm_6 (Nat.not_lt_zero _)
      | succ n_6 ih_6 =>
        intro M1 i hm_6 hinv_6
        obtain ⟨i0, m4, j3, j1, j2⟩ := hinv_6
        refine g_iload_n hC dX7_town_22 rfl 1 rfl ?_
        refine g_aload_n hC dX7_town_23 rfl 0 rfl ?_
        refine g_getI (ci := 7) (i := 20) (k := 58) hC fm_in7 rfl ly_58 rfl (by decide) fw_640 dX7_town_24 ?_
        refine g_top (y := nI n0) (by rw [j1 20 (by decide), fm_upx (by decide), fm_upx (by decide)]; exact b1) ?_
        refine g_icmp_ge_T (X := ((i : Nat) : Int)) (Y := ((n0 : Nat) : Int)) hC (nI_toInt (by omega)) (nI_toInt (by omega)) 78 dX7_town_27 rfl (fun c_7 => ?_) (fun c_7 => ?_)
        · skip
          refine g_aload_n hC dX7_town_78 rfl 0 rfl ?_
          refine g_getI (ci := 7) (i := 4) (k := 58) hC fm_in7 rfl ly_58 rfl (by decide) fw_624 dX7_town_79 ?_
          refine g_top (y := nI i) m4 ?_
          refine g_zret (ty := .int) hC rfl rfl dX7_town_82 ?_
          have eo : op_town g = (nI n0, tpC g (tnP g.1 n0 K0)) := by unfold op_town; rw [e0]
          have ei : i = n0 := by omega
          subst ei
          have fr : ∀ q, q ≠ 58 → q ≠ 68 → ¬ (59 ≤ q ∧ q < 63) → M1 q = M q := fun q q1 q2 q3 => (by rw [j2 q q1 q3, fm_upn q1, fm_upn q1]; exact a4_1 q q1 q2)
          have f8 : ∀ i, i ≠ 4 → i ≠ 18 → i ≠ 19 → i ≠ 20 → M1 58 i = M 58 i := fun i i0 i1 i2 i3 => (by rw [j1 i i0, fm_upx i0, fm_upx i1]; exact a3_1 i i2 i3)
          refine ⟨_, rfl, (by rw [eo]), (by rw [eo]; exact RS_np hS (tR_tnP hS.1 j3 m4 f8 (fun q q1 q2 => fr q (by omega) (by omega) (by omega))) (f8 26 (by decide) (by decide) (by decide) (by decide)) (by rw [j1 18 (by decide), fm_upx (by decide), fm_ups]) (fun k hk => fr k (by omega) (by omega) (by omega)) rfl), fun k hk => ⟨fr k (by omega) (by omega) (by omega), rfl⟩⟩
        · skip
          refine g_aload_n hC dX7_town_30 rfl 0 rfl ?_
          refine g_aload_n hC dX7_town_31 rfl 0 rfl ?_
          refine g_getR (ci := 7) (i := 21) (k := 58) (t := 68) hC fm_in7 rfl ly_58 rfl (by decide) fw_641 dX7_town_32 ?_
          refine g_iconst (v := 4) hC dX7_town_35 rfl ?_
          refine g_iload_n hC dX7_town_36 rfl 1 rfl ?_
          refine g_imul hC dX7_town_37 ?_
          refine g_top (y := nI (4 * i)) (pk_mul _ _) ?_
          refine g_ialdN (j := 4 * i) (k := 68) hC ly_68 rfl (by omega) (by decide) dX7_town_38 ?_
          refine g_top (y := nI (K0 0 i)) (by rw [j2 68 (by decide) (by omega), fm_upn (by decide), fm_upn (by decide)]; exact (b2 i (by omega)).1) ?_
          refine g_aload_n hC dX7_town_39 rfl 0 rfl ?_
          refine g_getR (ci := 7) (i := 21) (k := 58) (t := 68) hC fm_in7 rfl ly_58 rfl (by decide) fw_641 dX7_town_40 ?_
          refine g_iconst (v := 4) hC dX7_town_43 rfl ?_
          refine g_iload_n hC dX7_town_44 rfl 1 rfl ?_
          refine g_imul hC dX7_town_45 ?_
          refine g_top (y := nI (4 * i)) (pk_mul _ _) ?_
          refine g_iconst (v := 1) hC dX7_town_46 rfl ?_
          refine g_iadd hC dX7_town_47 ?_
          refine g_top (y := nI ((4 * i) + 1)) (nI_add _ _) ?_
          refine g_ialdN (j := (4 * i) + 1) (k := 68) hC ly_68 rfl (by omega) (by decide) dX7_town_48 ?_
          refine g_top (y := nI (K0 1 i)) (by rw [j2 68 (by decide) (by omega), fm_upn (by decide), fm_upn (by decide)]; exact (b2 i (by omega)).2.1) ?_
          refine g_aload_n hC dX7_town_49 rfl 0 rfl ?_
          refine g_getR (ci := 7) (i := 21) (k := 58) (t := 68) hC fm_in7 rfl ly_58 rfl (by decide) fw_641 dX7_town_50 ?_
          refine g_iconst (v := 4) hC dX7_town_53 rfl ?_
          refine g_iload_n hC dX7_town_54 rfl 1 rfl ?_
          refine g_imul hC dX7_town_55 ?_
          refine g_top (y := nI (4 * i)) (pk_mul _ _) ?_
          refine g_iconst (v := 2) hC dX7_town_56 rfl ?_
          refine g_iadd hC dX7_town_57 ?_
          refine g_top (y := nI ((4 * i) + 2)) (nI_add _ _) ?_
          refine g_ialdN (j := (4 * i) + 2) (k := 68) hC ly_68 rfl (by omega) (by decide) dX7_town_58 ?_
          refine g_top (y := nI (K0 2 i)) (by rw [j2 68 (by decide) (by omega), fm_upn (by decide), fm_upn (by decide)]; exact (b2 i (by omega)).2.2.1) ?_
          refine g_aload_n hC dX7_town_59 rfl 0 rfl ?_
          refine g_getR (ci := 7) (i := 21) (k := 58) (t := 68) hC fm_in7 rfl ly_58 rfl (by decide) fw_641 dX7_town_60 ?_
          refine g_iconst (v := 4) hC dX7_town_63 rfl ?_
          refine g_iload_n hC dX7_town_64 rfl 1 rfl ?_
          refine g_imul hC dX7_town_65 ?_
          refine g_top (y := nI (4 * i)) (pk_mul _ _) ?_
          refine g_iconst (v := 3) hC dX7_town_66 rfl ?_
          refine g_iadd hC dX7_town_67 ?_
          refine g_top (y := nI ((4 * i) + 3)) (nI_add _ _) ?_
          refine g_ialdN (j := (4 * i) + 3) (k := 68) hC ly_68 rfl (by omega) (by decide) dX7_town_68 ?_
          refine g_top (y := nI (K0 3 i)) (by rw [j2 68 (by decide) (by omega), fm_upn (by decide), fm_upn (by decide)]; exact (b2 i (by omega)).2.2.2) ?_
          refine g_callV hC (k := 58) (ci := 7) (as := [.int (nI (K0 0 i)), .int (nI (K0 1 i)), .int (nI (K0 2 i)), .int (nI (K0 3 i))]) (rest := []) (c_X7_add_n l D cA b M1 L i (nI (K0 0 i)) (nI (K0 1 i)) (nI (K0 2 i)) (nI (K0 3 i)) m4 (by omega)) ⟨fw_733, fw_735, fs_15, fw_9, fw_736⟩ ⟨rfl, hd_X7_add⟩ rfl ly_58 ⟨Nat.le_of_ble_eq_true rfl, Nat.le_of_ble_eq_true rfl⟩ ⟨Nat.le_of_ble_eq_true rfl, Nat.le_of_ble_eq_true rfl⟩ rfl rfl (Nat.le_of_ble_eq_true rfl) dX7_town_69 (g_rvx ?_)
          refine g_iinc hC [(2, .int (nI (i + 1))), (0, .ref (b + 58))] dX7_town_72 1 rfl (by rw [show Int32.ofInt 1 = nI 1 from rfl, nI_add]) (by decide) rfl ?_
          refine g_goto hC 22 dX7_town_75 rfl ?_
          exact g_sub [1, 0] rfl (ih_6 (fm_up (fm_up (fm_up (fm_up (fm_up M1 59 i (nI (K0 0 i))) 60 i (nI (K0 1 i))) 61 i (nI (K0 2 i))) 62 i (nI (K0 3 i))) 58 4 (nI (i + 1))) (i + 1) (by omega) (⟨by omega, fm_ups, fun j hj => (by by_cases ej : j = i; rw [ej]; simp [fm_up, fm_row, upd]; have := j3 j (by omega); simp [fm_up, fm_row, upd, ej, this]), fun i hi => (by rw [fm_upx hi, fm_upn (by decide), fm_upn (by decide), fm_upn (by decide), fm_upn (by decide)]; exact j1 i hi), fun q q1 q2 => (by rw [fm_upn q1, fm_upn (by omega), fm_upn (by omega), fm_upn (by omega), fm_upn (by omega)]; exact j2 q q1 q2)⟩))
    exact g_sub [2, 0] rfl (lp_22_6 (n0 - 0 + 1) (fm_up (fm_up M_1 58 18 0) 58 4 0) 0 (Nat.lt_succ_self _) (⟨Nat.zero_le _, fm_ups, fun j hj => by omega, fun _ _ => rfl, fun _ _ _ => rfl⟩))

theorem c_X7_plan (l : Launch) (D : va_G) (cA : Nat → ClassId) (b : Nat) (M : Nat → Nat → Int32) (L : Nat → Nat → Int64) (g : Sg) (hS : RS M L g) (hok : OK g) : fm_Met l D cA b yX7_plan cX7_plan 3 (some .int) 4 93 0 0 [.ref (b + 58)] LAY M L LAY (fm_pm (fun r M' L' => r = (op_plan g).1 ∧ RS M' L' (op_plan g).2 ∧ fR M M' L L')) := by
  refine fm_start RX7 rfl (by decide) (Nat.le_of_ble_eq_true rfl) ?_
  intro pq eq sq mq aq bq tq cq hC hin
  obtain ⟨⟨n1, n2, n3, v0, v1, v2, v3, v4, v5, v6, v7, v8⟩, hS2⟩ := id hS
  obtain ⟨⟨o1, o2, o3, o4, o5, o6, o7, o8, o9, o10, o11⟩, hok2⟩ := id hok
  have tl : g.2.2.2.1.1 ≤ 140 := hok.2.2.2.1.1
  refine g_aload_n hC dX7_plan_0 rfl 0 rfl ?_
  refine g_aload_n hC dX7_plan_1 rfl 0 rfl ?_
  refine g_callV hC (k := 58) (ci := 7) (as := []) (rest := [.ref (b + 58)]) (c_X7_readPlan l D cA b M L g.2.2.2.1 hS.2.2.2.1 hok.2.2.2.1) ⟨fw_827, fw_829, fs_24, fw_9, fw_830⟩ ⟨rfl, hd_X7_readPlan⟩ rfl ly_58 ⟨Nat.le_of_ble_eq_true rfl, Nat.le_of_ble_eq_true rfl⟩ ⟨Nat.le_of_ble_eq_true rfl, Nat.le_of_ble_eq_true rfl⟩ rfl rfl (Nat.le_of_ble_eq_true rfl) dX7_plan_2 (g_rm (fun r_1 M_1 L_1 h_1 => ?_))
  obtain ⟨a1_1, a2_1, a3_1, a4_1, a5_1⟩ := h_1
  rw [a5_1]
  rcases pl_all (T := g.2.2.2.1) with ⟨q0, e0, q1, q2⟩ | ⟨n0, K0, e0, n1, n2⟩
  · obtain ⟨b0, b1⟩ := a1_1 q0 e0
    rw [b0]
    refine g_callV hC (k := 58) (ci := 7) (as := [.int 0]) (rest := []) (c_X7_end_0 l D cA b M_1 L g.2.2.2.1 q0 (pR_mm hS.2.2.2.1 (a3_1 18 (by decide) (by decide) (by decide)) (a4_1 67 (by decide) (by decide))) hok.2.2.2.1 b1 q1) ⟨fw_819, fw_821, fs_23, fw_9, fw_822⟩ ⟨rfl, hd_X7_end⟩ rfl ly_58 ⟨Nat.le_of_ble_eq_true rfl, Nat.le_of_ble_eq_true rfl⟩ ⟨Nat.le_of_ble_eq_true rfl, Nat.le_of_ble_eq_true rfl⟩ rfl rfl (Nat.le_of_ble_eq_true rfl) dX7_plan_5 (g_rix ?_)
    rw [q2]
    refine g_istore_n hC [(1, .int (-20 - nI q0)), (0, .ref (b + 58))] dX7_plan_8 rfl (by decide) rfl ?_
    refine g_iload_n hC dX7_plan_9 rfl 0 rfl ?_
    refine g_if_ge_T (X := -20 - ((q0 : Nat) : Int)) hC (neg20 (by omega)) 15 dX7_plan_10 rfl (fun c_3 => ?_) (fun c_3 => ?_)
    · skip
      exfalso; omega
    · skip
      refine g_iload_n hC dX7_plan_13 rfl 0 rfl ?_
      refine g_zret (ty := .int) hC rfl rfl dX7_plan_14 ?_
      have eo : op_plan g = (-20 - nI q0, tpC g g.1) := by unfold op_plan; rw [e0]
      have fr : ∀ q, q ≠ 58 → q ≠ 68 → (fm_up (fm_up M_1 58 19 (nI q0)) 58 18 0) q = M q := fun q q1 q2 => (by rw [fm_upn q1, fm_upn q1]; exact a4_1 q q1 q2)
      have f8 : ∀ i, i ≠ 18 → i ≠ 19 → i ≠ 20 → i ≠ 22 → (fm_up (fm_up M_1 58 19 (nI q0)) 58 18 0) 58 i = M 58 i := fun i i1 i2 i3 i4 => (by rw [fm_upx i1, fm_upx i2]; exact a3_1 i i2 i3 i4)
      refine ⟨_, rfl, (by rw [eo]), (by rw [eo]; exact RS_np hS (tR_cong2 hS.1 (fun i i1 => f8 i (by omega) (by omega) (by omega) (by omega)) (fun k k1 k2 => fr k (by omega) (by omega))) (f8 26 (by decide) (by decide) (by decide) (by decide)) fm_ups (fun k hk => fr k (by omega) (by omega)) rfl), fun k hk => ⟨fr k (by omega) (by omega), rfl⟩⟩
  · obtain ⟨b0, b1, b2⟩ := a2_1 n0 K0 e0
    rw [b0]
    refine g_callV hC (k := 58) (ci := 7) (as := [.int 1]) (rest := []) (c_X7_end_1 l D cA b M_1 L) ⟨fw_819, fw_821, fs_23, fw_9, fw_822⟩ ⟨rfl, hd_X7_end⟩ rfl ly_58 ⟨Nat.le_of_ble_eq_true rfl, Nat.le_of_ble_eq_true rfl⟩ ⟨Nat.le_of_ble_eq_true rfl, Nat.le_of_ble_eq_true rfl⟩ rfl rfl (Nat.le_of_ble_eq_true rfl) dX7_plan_5 (g_rix ?_)
    refine g_istore_n hC [(1, .int 0), (0, .ref (b + 58))] dX7_plan_8 rfl (by decide) rfl ?_
    refine g_iload_n hC dX7_plan_9 rfl 0 rfl ?_
    refine g_if_ge_T (X := 0) hC rfl 15 dX7_plan_10 rfl (fun _ => ?_) (fun c_5 => absurd c_5 (by omega))
    refine g_iconst (v := 0) hC dX7_plan_15 rfl ?_
    refine g_istore_n hC [(2, .int 0), (1, .int 0), (0, .ref (b + 58))] dX7_plan_16 rfl (by decide) rfl ?_
    have lp_17_6 : ∀ (n_6 : Nat) (M1 : Nat → Nat → Int32) (i : Nat), 24 - i < n_6 → (i ≤ 24 ∧ (∀ j, j < i → M1 66 j = Int32.ofInt (K0 j)) ∧ (∀ q, q ≠ 66 → M1 q = (fm_up M_1 58 18 0) q)) → fm_G pq l eq (fm_rm 4 93 0 0) sq mq aq bq tq cq D cA b 3 (MQ bq (fm_Q D cA b LAY (fm_pm (fun r M' L' => r = (op_plan g).1 ∧ RS M' L' (op_plan g).2 ∧ fR M M' L L'))) aq sq 0 0 (fun q => b ≤ q)) LAY M1 L 0 0 17 [(0, .ref (b + 58)), (2, .int (nI i))] [] := by
      intro n_6
      induction n_6 with
      | zero => intro M1 i hm_6; exact absurd hm_6 (Nat.not_lt_zero _)
      | succ n_6 ih_6 =>
        intro M1 i hm_6 hinv_6
        obtain ⟨i0, j3, j2⟩ := hinv_6
        refine g_iload_n hC dX7_plan_17 rfl 1 rfl ?_
        refine g_bipush (v := 24) hC dX7_plan_18 rfl ?_
        refine g_icmp_ge_T (X := ((i : Nat) : Int)) (Y := 24) hC (nI_toInt (by omega)) rfl 41 dX7_plan_20 rfl (fun c_7 => ?_) (fun c_7 => ?_)
        · skip
          refine g_aload_n hC dX7_plan_41 rfl 0 rfl ?_
          refine g_getI (ci := 7) (i := 20) (k := 58) hC fm_in7 rfl ly_58 rfl (by decide) fw_640 dX7_plan_42 ?_
          refine g_top (y := nI n0) (by rw [j2 58 (by decide), fm_upx (by decide)]; exact b1) ?_
          refine g_zret (ty := .int) hC rfl rfl dX7_plan_45 ?_
          have eo : op_plan g = (nI n0, tpC g (g.1.1, K0, g.1.2.2)) := by unfold op_plan; rw [e0]
          have fr : ∀ q, q ≠ 58 → q ≠ 68 → q ≠ 66 → M1 q = M q := fun q q1 q2 q3 => (by rw [j2 q q3, fm_upn q1]; exact a4_1 q q1 q2)
          have f8 : ∀ i, i ≠ 18 → i ≠ 19 → i ≠ 20 → i ≠ 22 → M1 58 i = M 58 i := fun i i1 i2 i3 i4 => (by rw [j2 58 (by decide), fm_upx i1]; exact a3_1 i i2 i3 i4)
          refine ⟨_, rfl, (by rw [eo]), (by rw [eo]; exact RS_np hS (tR_plan hS.1 (fun j hj => j3 j (by omega)) f8 (fun q q1 q2 => fr q (by omega) (by omega) (by omega))) (f8 26 (by decide) (by decide) (by decide) (by decide)) (by rw [j2 58 (by decide), fm_ups]) (fun k hk => fr k (by omega) (by omega) (by omega)) rfl), fun k hk => ⟨fr k (by omega) (by omega) (by omega), rfl⟩⟩
        · skip
          refine g_aload_n hC dX7_plan_23 rfl 0 rfl ?_
          refine g_getR (ci := 7) (i := 9) (k := 58) (t := 66) hC fm_in7 rfl ly_58 rfl (by decide) fw_629 dX7_plan_24 ?_
          refine g_iload_n hC dX7_plan_27 rfl 1 rfl ?_
          refine g_aload_n hC dX7_plan_28 rfl 0 rfl ?_
          refine g_getR (ci := 7) (i := 21) (k := 58) (t := 68) hC fm_in7 rfl ly_58 rfl (by decide) fw_641 dX7_plan_29 ?_
          refine g_iload_n hC dX7_plan_32 rfl 1 rfl ?_
          refine g_ialdN (j := i) (k := 68) hC ly_68 rfl (by omega) (by decide) dX7_plan_33 ?_
          refine g_top (y := Int32.ofInt (K0 i)) (by rw [j2 68 (by decide), fm_upn (by decide)]; exact b2 i (by omega)) ?_
          refine g_iastN (j := i) (k := 66) hC ly_66 rfl (by omega) (by decide) dX7_plan_34 ?_
          refine g_iinc hC [(2, .int (nI (i + 1))), (0, .ref (b + 58))] dX7_plan_35 1 rfl (by rw [show Int32.ofInt 1 = nI 1 from rfl, nI_add]) (by decide) rfl ?_
          refine g_goto hC 17 dX7_plan_38 rfl ?_
          exact g_sub [1, 0] rfl (ih_6 (fm_up M1 66 i (Int32.ofInt (K0 i))) (i + 1) (by omega) (⟨by omega, fun j hj => (by by_cases ej : j = i; rw [ej, fm_ups]; rw [fm_upx ej]; exact j3 j (by omega)), fun q q1 => (by rw [fm_upn q1]; exact j2 q q1)⟩))
    exact g_sub [2, 0] rfl (lp_17_6 (24 - 0 + 1) (fm_up M_1 58 18 0) 0 (Nat.lt_succ_self _) (⟨by decide, fun j hj => by omega, fun _ _ => rfl⟩))
