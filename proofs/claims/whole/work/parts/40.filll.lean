/-! ===== Arrays.fill of longs ===== -/
theorem fm_upLn {L : Nat → Nat → Int64} {k i j : Nat} {v : Int64} (h : j ≠ k) : fm_upL L k i v j = L j := fm_rowL_n h
theorem fm_upLv {L : Nat → Nat → Int64} {k i j : Nat} {v : Int64} : fm_upL L k i v k j = if j = i then v else L k j := by simp [fm_upL, fm_rowL, vp_updL]

theorem c_J7_fill_d0a16 (l : Launch) (D : va_G) (cA : Nat → ClassId) (b : Nat) (lay : List fm_E) (M : Nat → Nat → Int32) (L : Nat → Nat → Int64) (c : Nat) (n : Nat) (x : Int64) (hc : lay[c]? = some (2, n, [])) (hn : n < 1000000) : fm_Met l D cA b yJ7_fill_d0a16 cJ7_fill_d0a16 5 none 0 0 0 0 [.ref (b + c), .long x] lay M L lay (fm_pv (fun M' L' => (∀ q, q ≠ c → L' q = L q) ∧ (∀ j, j < n → L' c j = x) ∧ M' = M)) := by
  refine fm_start RJ7 rfl (by decide) (Nat.le_of_ble_eq_true rfl) ?_
  intro pq eq sq mq aq bq tq cq hC hin
  refine g_iconst (v := 0) hC dJ7_fill_d0a16_0 rfl ?_
  refine g_istore_n hC [(3, .int 0), (0, .ref (b + c)), (1, .long x)] dJ7_fill_d0a16_1 rfl (by decide) rfl ?_
  refine g_aload_n hC dJ7_fill_d0a16_2 rfl 1 rfl ?_
  refine g_alen2 (v := nI n) hC hc rfl dJ7_fill_d0a16_3 ?_
  refine g_istore hC [(4, .int (nI n)), (3, .int 0), (0, .ref (b + c)), (1, .long x)] dJ7_fill_d0a16_4 (by decide) rfl ?_
  have lp_6_1 : ∀ (n_1 : Nat) (L1 : Nat → Nat → Int64) (i : Nat), n - i < n_1 → (i ≤ n ∧ (∀ q, q ≠ c → L1 q = L q) ∧ (∀ j, j < i → L1 c j = x)) → fm_G pq l eq (fm_rm 0 0 0 0) sq mq aq bq tq cq D cA b 5 (MQ bq (fm_Q D cA b lay (fm_pv (fun M' L' => (∀ q, q ≠ c → L' q = L q) ∧ (∀ j, j < n → L' c j = x) ∧ M' = M))) aq sq 0 0 (fun q => b ≤ q)) lay M L1 0 0 6 [(0, .ref (b + c)), (1, .long x), (3, .int (nI i)), (4, .int (nI n))] [] := by
    intro n_1
    induction n_1 with
    | zero => intro L1 i hm_1; exact absurd hm_1 (Nat.not_lt_zero _)
    | succ n_1 ih_1 =>
      intro L1 i hm_1 hinv_1
      obtain ⟨i1, i2, i3⟩ := hinv_1
      refine g_iload_n hC dJ7_fill_d0a16_6 rfl 2 rfl ?_
      refine g_iload hC dJ7_fill_d0a16_7 3 rfl ?_
      refine g_icmp_ge_T (X := ((i : Nat) : Int)) (Y := ((n : Nat) : Int)) hC (nI_toInt (by omega)) (nI_toInt (by omega)) 22 dJ7_fill_d0a16_9 rfl (fun c_2 => ?_) (fun c_2 => ?_)
      · skip
        refine g_vret hC rfl dJ7_fill_d0a16_22 ?_
        exact ⟨rfl, i2, fun j hj => i3 j (by omega), rfl⟩
      · skip
        refine g_aload_n hC dJ7_fill_d0a16_12 rfl 0 rfl ?_
        refine g_iload_n hC dJ7_fill_d0a16_13 rfl 2 rfl ?_
        refine g_lload_n hC dJ7_fill_d0a16_14 rfl 1 rfl ?_
        refine g_lastN (j := i) (k := c) hC hc rfl (by omega) (by omega) dJ7_fill_d0a16_15 ?_
        refine g_iinc hC [(3, .int (nI (i + 1))), (0, .ref (b + c)), (1, .long x), (4, .int (nI n))] dJ7_fill_d0a16_16 2 rfl (by rw [show Int32.ofInt 1 = nI 1 from rfl, nI_add]) (by decide) rfl ?_
        refine g_goto hC 6 dJ7_fill_d0a16_19 rfl ?_
        exact g_sub [1, 2, 0, 3] rfl (ih_1 (fm_upL L1 c i x) (i + 1) (by omega) (⟨by omega, fun q hq => by rw [fm_upLn hq]; exact i2 q hq, fun j hj => by rw [fm_upLv]; by_cases ej : j = i; rw [if_pos ej]; rw [if_neg ej]; exact i3 j (by omega)⟩))
  exact g_sub [2, 3, 1, 0] rfl (lp_6_1 (n - 0 + 1) L 0 (Nat.lt_succ_self _) (⟨by omega, fun _ _ => rfl, fun j hj => by omega⟩))
