/-! ===== image, restore: the class ===== -/
theorem tC_like {M M' : Nat → Nat → Int32} {S T : Nat} {t : Tn} (h : tC M S t) (hto : tOK t) (hp : ∀ j, j < t.1 7 0 → ∀ a, a < 4 → M' (T + 6 + j) a = M (S + 6 + j) a)
  (h2 : ∀ j, j < 6 → M' (T + 2) j = M (S + 2) j) (h3 : ∀ j, j < 6 → M' (T + 3) j = M (S + 3) j) (h4 : ∀ j, j < 24 → M' (T + 4) j = M (S + 4) j) (h5 : ∀ j, j < 24 → M' (T + 5) j = M (S + 5) j)
  (w : M' T 1 = nI (t.1 7 0) ∧ M' T 4 = nI (t.1 7 1) ∧ M' T 7 = nI (t.1 7 2) ∧ M' T 8 = nI (t.1 7 3) ∧ M' T 9 = nI (t.1 7 4) ∧ M' T 10 = nI (t.1 7 5) ∧ M' T 11 = nI (t.1 7 6) ∧ M' T 12 = t.2.2 ∧ M' T 13 = nI (t.1 7 7)) : tC M' T t := by
  obtain ⟨n1, n2, n3, n4⟩ := h
  have o5 : t.1 7 1 ≤ 6 := hto.2.2.2.2.1
  refine ⟨fun j hj => ?_, fun j hj => ?_, fun q hq => ?_, w⟩
  · rw [hp j hj 0 (by omega), hp j hj 1 (by omega), hp j hj 2 (by omega), hp j hj 3 (by omega)]; exact n1 j hj
  · rw [h2 j (by omega), h3 j (by omega)]; exact n2 j hj
  · rw [h4 q hq, h5 q hq]; exact n3 q hq
theorem be_at {M : Nat → Nat → Int32} {c c2 a : Nat} (h : a < 4) : be M c (M c2 0) (M c2 1) (M c2 2) (M c2 3) c a = M c2 a := by
  rcases (show a = 0 ∨ a = 1 ∨ a = 2 ∨ a = 3 by omega) with rfl | rfl | rfl | rfl
  · exact be_0
  · exact be_1
  · exact be_2
  · exact be_3
def op_image (g : Sg) : Int32 × Sg := (1, (g.1, g.1, 1, g.2.2.2))
def op_restore (g : Sg) : Int32 × Sg := if g.2.2.1 = 1 then (1, (g.2.1, g.2)) else (-4, g)

theorem c_X5_takePeople_a (l : Launch) (D : va_G) (cA : Nat → ClassId) (b : Nat) (M : Nat → Nat → Int32) (L : Nat → Nat → Int64) (n : Nat) (hn : n ≤ 8) : fm_Met l D cA b yX5_takePeople cX5_takePeople 4 none 2 45 0 0 [.ref (b + 15), .ref (b + 2), .int (nI n)] LAY M L LAY (fm_pv (fun M' L' => (∀ j, j < n → ∀ a, a < 4 → M' (21 + j) a = M (7 + j) a) ∧ M' 15 1 = nI n ∧ (∀ q, q ≠ 15 → ¬ (21 ≤ q ∧ q < 29) → M' q = M q) ∧ L' = L)) := by
  refine fm_start RX5 rfl (by decide) (Nat.le_of_ble_eq_true rfl) ?_
  intro pq eq sq mq aq bq tq cq hC hin
  refine g_iconst (v := 0) hC dX5_takePeople_0 rfl ?_
  refine g_istore_n hC [(3, .int 0), (0, .ref (b + 15)), (1, .ref (b + 2)), (2, .int (nI n))] dX5_takePeople_1 rfl (by decide) rfl ?_
  have lp_2_1 : ∀ (n_1 : Nat) (M1 : Nat → Nat → Int32) (i : Nat), n - i < n_1 → (i ≤ n ∧ (∀ j, j < i → ∀ a, a < 4 → M1 (21 + j) a = M (7 + j) a) ∧ (∀ q, ¬ (21 ≤ q ∧ q < 29) → M1 q = M q)) → fm_G pq l eq (fm_rm 2 45 0 0) sq mq aq bq tq cq D cA b 4 (MQ bq (fm_Q D cA b LAY (fm_pv (fun M' L' => (∀ j, j < n → ∀ a, a < 4 → M' (21 + j) a = M (7 + j) a) ∧ M' 15 1 = nI n ∧ (∀ q, q ≠ 15 → ¬ (21 ≤ q ∧ q < 29) → M' q = M q) ∧ L' = L))) aq sq 0 0 (fun q => b ≤ q)) LAY M1 L 0 0 2 [(0, .ref (b + 15)), (1, .ref (b + 2)), (2, .int (nI n)), (3, .int (nI i))] [] := by
    intro n_1
    induction n_1 with
    | zero => intro M1 i hm_1; exact absurd hm_1 (Nat.not_lt_zero _)
    | succ n_1 ih_1 =>
      intro M1 i hm_1 hinv_1
      obtain ⟨i1, i2, i3⟩ := hinv_1
      refine g_iload_n hC dX5_takePeople_2 rfl 3 rfl ?_
      refine g_iload_n hC dX5_takePeople_3 rfl 2 rfl ?_
      refine g_icmp_ge_T (X := ((i : Nat) : Int)) (Y := ((n : Nat) : Int)) hC (nI_toInt (by omega)) (nI_toInt (by omega)) 31 dX5_takePeople_4 rfl (fun c_2 => ?_) (fun c_2 => ?_)
      · skip
        refine g_aload_n hC dX5_takePeople_31 rfl 0 rfl ?_
        refine g_iload_n hC dX5_takePeople_32 rfl 2 rfl ?_
        refine g_putI (ci := 5) (i := 1) (k := 15) hC fm_in5 tyX5 tyX5_ok nmX5 rfl ly_15 rfl (by decide) fw_58 rfl rfl rfl dX5_takePeople_33 ?_
        refine g_vret hC rfl dX5_takePeople_36 ?_
        have ei : i = n := by omega
        subst ei
        exact ⟨rfl, fun j hj a ha => by rw [fm_upn (by omega)]; exact i2 j hj a ha, by rw [fm_ups], fun q q1 q2 => by rw [fm_upn q1]; exact i3 q q2, rfl⟩
      · skip
        refine g_iload_n hC dX5_takePeople_7 rfl 3 rfl ?_
        refine g_bipush (v := 8) hC dX5_takePeople_8 rfl ?_
        refine g_icmp_ge_T (X := ((i : Nat) : Int)) (Y := 8) hC (nI_toInt (by omega)) rfl 31 dX5_takePeople_10 rfl (fun c_3 => ?_) (fun c_3 => ?_)
        · skip
          refine g_aload_n hC dX5_takePeople_31 rfl 0 rfl ?_
          refine g_iload_n hC dX5_takePeople_32 rfl 2 rfl ?_
          refine g_putI (ci := 5) (i := 1) (k := 15) hC fm_in5 tyX5 tyX5_ok nmX5 rfl ly_15 rfl (by decide) fw_58 rfl rfl rfl dX5_takePeople_33 ?_
          refine g_vret hC rfl dX5_takePeople_36 ?_
          have ei : i = n := by omega
          subst ei
          exact ⟨rfl, fun j hj a ha => by rw [fm_upn (by omega)]; exact i2 j hj a ha, by rw [fm_ups], fun q q1 q2 => by rw [fm_upn q1]; exact i3 q q2, rfl⟩
        · skip
          refine g_aload_n hC dX5_takePeople_13 rfl 0 rfl ?_
          refine g_getR (ci := 5) (i := 0) (k := 15) (t := 16) hC fm_in5 rfl ly_15 rfl (by decide) fw_56 dX5_takePeople_14 ?_
          refine g_iload_n hC dX5_takePeople_17 rfl 3 rfl ?_
          refine g_aald4N (j := i) (t := 21 + i) (k := 16) hC ly_16 rfl (by omega) (by decide) (fm_z21 _ (by omega)) dX5_takePeople_18 ?_
          refine g_aload_n hC dX5_takePeople_19 rfl 1 rfl ?_
          refine g_iload_n hC dX5_takePeople_20 rfl 3 rfl ?_
          refine g_aald4N (j := i) (t := 7 + i) (k := 2) hC ly_2 rfl (by omega) (by decide) (fm_z7 _ (by omega)) dX5_takePeople_21 ?_
          refine g_callV hC (k := 21 + i) (ci := 1) (as := [.ref (b + (7 + i))]) (rest := []) (c_X1_becomeLike l D cA b M1 L (21 + i) (7 + i) (fm_per21 _ (by omega)) (fm_per7 _ (by omega))) ⟨fw_353, fw_354, fw_355, fw_3, fw_356⟩ ⟨rfl, hd_X1_becomeLike⟩ rfl (fm_per21 _ (by omega)) ⟨Nat.le_of_ble_eq_true rfl, Nat.le_of_ble_eq_true rfl⟩ ⟨Nat.le_of_ble_eq_true rfl, Nat.le_of_ble_eq_true rfl⟩ rfl rfl (Nat.le_of_ble_eq_true rfl) dX5_takePeople_22 (g_rvx ?_)
          refine g_iinc hC [(3, .int (nI (i + 1))), (0, .ref (b + 15)), (1, .ref (b + 2)), (2, .int (nI n))] dX5_takePeople_25 3 rfl (by rw [show Int32.ofInt 1 = nI 1 from rfl, nI_add]) (by decide) rfl ?_
          refine g_goto hC 2 dX5_takePeople_28 rfl ?_
          exact g_sub [1, 2, 3, 0] rfl (ih_1 (be M1 (21 + i) (M1 (7 + i) 0) (M1 (7 + i) 1) (M1 (7 + i) 2) (M1 (7 + i) 3)) (i + 1) (by omega) (⟨by omega, fun j hj a ha => if e : j = i then (by rw [e, be_at ha, i3 (7 + i) (by omega)]) else (by rw [be_n (by omega)]; exact i2 j (by omega) a ha), fun q hq => by rw [be_n (by omega)]; exact i3 q hq⟩))
  exact g_sub [1, 2, 3, 0] rfl (lp_2_1 (n - 0 + 1) M 0 (Nat.lt_succ_self _) (⟨by omega, fun j hj => by omega, fun _ _ => rfl⟩))

theorem c_X5_becomeLike_a (l : Launch) (D : va_G) (cA : Nat → ClassId) (b : Nat) (M : Nat → Nat → Int32) (L : Nat → Nat → Int64) (t : Tn) (hT : tC M 1 t) (hto : tOK t) : fm_Met l D cA b yX5_becomeLike cX5_becomeLike 2 none 3 68 0 0 [.ref (b + 15), .ref (b + 1)] LAY M L LAY (fm_pv (fun M' L' => tC M' 15 t ∧ (∀ q, (q < 15 ∨ 29 ≤ q) → M' q = M q) ∧ L' = L)) := by
  refine fm_start RX5 rfl (by decide) (Nat.le_of_ble_eq_true rfl) ?_
  intro pq eq sq mq aq bq tq cq hC hin
  obtain ⟨n1, n2, n3, v0, v1, v2, v3, v4, v5, v6, v7, v8⟩ := id hT
  obtain ⟨o1, o2, o3, o4, o5, o6, o7, o8, o9, o10, o11⟩ := id hto
  refine g_aload_n hC dX5_becomeLike_0 rfl 0 rfl ?_
  refine g_aload_n hC dX5_becomeLike_1 rfl 1 rfl ?_
  refine g_getR (ci := 5) (i := 0) (k := 1) (t := 2) hC fm_in5 rfl ly_1 rfl (by decide) fw_56 dX5_becomeLike_2 ?_
  refine g_aload_n hC dX5_becomeLike_5 rfl 1 rfl ?_
  refine g_getI (ci := 5) (i := 1) (k := 1) hC fm_in5 rfl ly_1 rfl (by decide) fw_58 dX5_becomeLike_6 ?_
  refine g_top (y := nI (t.1 7 0)) v0 ?_
  refine g_callV hC (k := 15) (ci := 5) (as := [.ref (b + 2), .int (nI (t.1 7 0))]) (rest := []) (c_X5_takePeople_a l D cA b M L (t.1 7 0) o4) ⟨fw_518, fw_350, fw_351, fw_2, fw_352⟩ ⟨rfl, hd_X5_takePeople⟩ rfl ly_15 ⟨Nat.le_of_ble_eq_true rfl, Nat.le_of_ble_eq_true rfl⟩ ⟨Nat.le_of_ble_eq_true rfl, Nat.le_of_ble_eq_true rfl⟩ rfl rfl (Nat.le_of_ble_eq_true rfl) dX5_becomeLike_9 (g_rv (fun M_1 L_1 h_1 => ?_))
  obtain ⟨a1, a2, a3, a4⟩ := h_1
  rw [a4]
  have f0 : ∀ q, q ≠ 15 → ¬ (17 ≤ q ∧ q < 29) → M_1 q = M q := fun q q1 q2 => a3 q q1 (by omega)
  refine g_aload_n hC dX5_becomeLike_12 rfl 1 rfl ?_
  refine g_getR (ci := 5) (i := 2) (k := 1) (t := 3) hC fm_in5 rfl ly_1 rfl (by decide) fw_60 dX5_becomeLike_13 ?_
  refine g_iconst (v := 0) hC dX5_becomeLike_16 rfl ?_
  refine g_aload_n hC dX5_becomeLike_17 rfl 0 rfl ?_
  refine g_getR (ci := 5) (i := 2) (k := 15) (t := 17) hC fm_in5 rfl ly_15 rfl (by decide) fw_60 dX5_becomeLike_18 ?_
  refine g_iconst (v := 0) hC dX5_becomeLike_21 rfl ?_
  refine g_bipush (v := 6) hC dX5_becomeLike_22 rfl ?_
  refine g_copyI (k0 := 3) (k1 := 17) hC fw_519 fw_373 fw_372 fw_11 ly_3 ly_17 (by decide) (by decide) (by decide) (by decide) (by decide) (Nat.le_of_ble_eq_true rfl) (Nat.le_of_ble_eq_true rfl) dX5_becomeLike_24 ?_
  obtain ⟨M91, eM91⟩ : ∃ M91, M91 = fm_row M_1 17 (va_cpy (M_1 3) (M_1 17) (0 : Int32).toNatClampNeg (0 : Int32).toNatClampNeg (6 : Int32).toNatClampNeg) := ⟨_, rfl⟩
  rw [← eM91]
  have c1 : ∀ j, j < 6 → M91 17 j = M 3 j := fun j hj => by
    rw [eM91]
    have z : M_1 3 = M 3 := by exact f0 3 (by omega) (by omega)
    simp only [fm_row, if_true]
    first | exact (sb_cpy0 hj).trans (congrFun z j) | (rw [show (0 : Int32).toNatClampNeg = 0 from rfl, show (6 : Int32).toNatClampNeg = 6 from rfl, sb_cpy0 hj]; exact congrFun z j)
  have d1 : ∀ q, q ≠ 17 → M91 q = M_1 q := fun q q1 => by rw [eM91, fm_row_n q1]
  have f1 : ∀ q, q ≠ 15 → ¬ (17 ≤ q ∧ q < 29) → M91 q = M q := fun q q1 q2 => by rw [d1 q (by omega)]; exact f0 q q1 q2
  refine g_aload_n hC dX5_becomeLike_27 rfl 1 rfl ?_
  refine g_getR (ci := 5) (i := 3) (k := 1) (t := 4) hC fm_in5 rfl ly_1 rfl (by decide) fw_62 dX5_becomeLike_28 ?_
  refine g_iconst (v := 0) hC dX5_becomeLike_31 rfl ?_
  refine g_aload_n hC dX5_becomeLike_32 rfl 0 rfl ?_
  refine g_getR (ci := 5) (i := 3) (k := 15) (t := 18) hC fm_in5 rfl ly_15 rfl (by decide) fw_62 dX5_becomeLike_33 ?_
  refine g_iconst (v := 0) hC dX5_becomeLike_36 rfl ?_
  refine g_bipush (v := 6) hC dX5_becomeLike_37 rfl ?_
  refine g_copyI (k0 := 4) (k1 := 18) hC fw_519 fw_373 fw_372 fw_11 ly_4 ly_18 (by decide) (by decide) (by decide) (by decide) (by decide) (Nat.le_of_ble_eq_true rfl) (Nat.le_of_ble_eq_true rfl) dX5_becomeLike_39 ?_
  obtain ⟨M92, eM92⟩ : ∃ M92, M92 = fm_row M91 18 (va_cpy (M91 4) (M91 18) (0 : Int32).toNatClampNeg (0 : Int32).toNatClampNeg (6 : Int32).toNatClampNeg) := ⟨_, rfl⟩
  rw [← eM92]
  have c2 : ∀ j, j < 6 → M92 18 j = M 4 j := fun j hj => by
    rw [eM92]
    have z : M91 4 = M 4 := by exact f1 4 (by omega) (by omega)
    simp only [fm_row, if_true]
    first | exact (sb_cpy0 hj).trans (congrFun z j) | (rw [show (0 : Int32).toNatClampNeg = 0 from rfl, show (6 : Int32).toNatClampNeg = 6 from rfl, sb_cpy0 hj]; exact congrFun z j)
  have d2 : ∀ q, q ≠ 18 → M92 q = M91 q := fun q q1 => by rw [eM92, fm_row_n q1]
  have f2 : ∀ q, q ≠ 15 → ¬ (17 ≤ q ∧ q < 29) → M92 q = M q := fun q q1 q2 => by rw [d2 q (by omega)]; exact f1 q q1 q2
  refine g_aload_n hC dX5_becomeLike_42 rfl 0 rfl ?_
  refine g_aload_n hC dX5_becomeLike_43 rfl 1 rfl ?_
  refine g_getI (ci := 5) (i := 4) (k := 1) hC fm_in5 rfl ly_1 rfl (by decide) fw_64 dX5_becomeLike_44 ?_
  refine g_top (y := nI (t.1 7 1)) ((congrFun (f2 1 (by omega) (by omega)) 4).trans v1) ?_
  refine g_putI (ci := 5) (i := 4) (k := 15) hC fm_in5 tyX5 tyX5_ok nmX5 rfl ly_15 rfl (by decide) fw_64 rfl rfl rfl dX5_becomeLike_47 ?_
  refine g_aload_n hC dX5_becomeLike_50 rfl 1 rfl ?_
  refine g_getR (ci := 5) (i := 5) (k := 1) (t := 5) hC fm_in5 rfl ly_1 rfl (by decide) fw_66 dX5_becomeLike_51 ?_
  refine g_iconst (v := 0) hC dX5_becomeLike_54 rfl ?_
  refine g_aload_n hC dX5_becomeLike_55 rfl 0 rfl ?_
  refine g_getR (ci := 5) (i := 5) (k := 15) (t := 19) hC fm_in5 rfl ly_15 rfl (by decide) fw_66 dX5_becomeLike_56 ?_
  refine g_iconst (v := 0) hC dX5_becomeLike_59 rfl ?_
  refine g_bipush (v := 24) hC dX5_becomeLike_60 rfl ?_
  refine g_copyI (k0 := 5) (k1 := 19) hC fw_519 fw_373 fw_372 fw_11 ly_5 ly_19 (by decide) (by decide) (by decide) (by decide) (by decide) (Nat.le_of_ble_eq_true rfl) (Nat.le_of_ble_eq_true rfl) dX5_becomeLike_62 ?_
  obtain ⟨M93, eM93⟩ : ∃ M93, M93 = fm_row (fm_up M92 15 4 (nI (t.1 7 1))) 19 (va_cpy ((fm_up M92 15 4 (nI (t.1 7 1))) 5) ((fm_up M92 15 4 (nI (t.1 7 1))) 19) (0 : Int32).toNatClampNeg (0 : Int32).toNatClampNeg (24 : Int32).toNatClampNeg) := ⟨_, rfl⟩
  rw [← eM93]
  have c3 : ∀ j, j < 24 → M93 19 j = M 5 j := fun j hj => by
    rw [eM93]
    have z : (fm_up M92 15 4 (nI (t.1 7 1))) 5 = M 5 := by rw [fm_upn (by omega)]; exact f2 5 (by omega) (by omega)
    simp only [fm_row, if_true]
    first | exact (sb_cpy0 hj).trans (congrFun z j) | (rw [show (0 : Int32).toNatClampNeg = 0 from rfl, show (24 : Int32).toNatClampNeg = 24 from rfl, sb_cpy0 hj]; exact congrFun z j)
  have d3 : ∀ q, q ≠ 19 → q ≠ 15 → M93 q = M92 q := fun q q1 q2 => by rw [eM93, fm_row_n q1, fm_upn q2]
  have f3 : ∀ q, q ≠ 15 → ¬ (17 ≤ q ∧ q < 29) → M93 q = M q := fun q q1 q2 => by rw [d3 q (by omega) q1]; exact f2 q q1 q2
  have g3 : M93 15 4 = nI (t.1 7 1) := by rw [eM93, fm_row_n (by decide), fm_ups]
  have k3 : ∀ i, i ≠ 4 → M93 15 i = M92 15 i := fun i hi => by rw [eM93, fm_row_n (by decide), fm_upx hi]
  refine g_aload_n hC dX5_becomeLike_65 rfl 1 rfl ?_
  refine g_getR (ci := 5) (i := 6) (k := 1) (t := 6) hC fm_in5 rfl ly_1 rfl (by decide) fw_68 dX5_becomeLike_66 ?_
  refine g_iconst (v := 0) hC dX5_becomeLike_69 rfl ?_
  refine g_aload_n hC dX5_becomeLike_70 rfl 0 rfl ?_
  refine g_getR (ci := 5) (i := 6) (k := 15) (t := 20) hC fm_in5 rfl ly_15 rfl (by decide) fw_68 dX5_becomeLike_71 ?_
  refine g_iconst (v := 0) hC dX5_becomeLike_74 rfl ?_
  refine g_bipush (v := 24) hC dX5_becomeLike_75 rfl ?_
  refine g_copyI (k0 := 6) (k1 := 20) hC fw_519 fw_373 fw_372 fw_11 ly_6 ly_20 (by decide) (by decide) (by decide) (by decide) (by decide) (Nat.le_of_ble_eq_true rfl) (Nat.le_of_ble_eq_true rfl) dX5_becomeLike_77 ?_
  obtain ⟨M94, eM94⟩ : ∃ M94, M94 = fm_row M93 20 (va_cpy (M93 6) (M93 20) (0 : Int32).toNatClampNeg (0 : Int32).toNatClampNeg (24 : Int32).toNatClampNeg) := ⟨_, rfl⟩
  rw [← eM94]
  have c4 : ∀ j, j < 24 → M94 20 j = M 6 j := fun j hj => by
    rw [eM94]
    have z : M93 6 = M 6 := by exact f3 6 (by omega) (by omega)
    simp only [fm_row, if_true]
    first | exact (sb_cpy0 hj).trans (congrFun z j) | (rw [show (0 : Int32).toNatClampNeg = 0 from rfl, show (24 : Int32).toNatClampNeg = 24 from rfl, sb_cpy0 hj]; exact congrFun z j)
  have d4 : ∀ q, q ≠ 20 → M94 q = M93 q := fun q q1 => by rw [eM94, fm_row_n q1]
  have f4 : ∀ q, q ≠ 15 → ¬ (17 ≤ q ∧ q < 29) → M94 q = M q := fun q q1 q2 => by rw [d4 q (by omega)]; exact f3 q q1 q2
  refine g_aload_n hC dX5_becomeLike_80 rfl 0 rfl ?_
  refine g_aload_n hC dX5_becomeLike_81 rfl 1 rfl ?_
  refine g_getI (ci := 5) (i := 7) (k := 1) hC fm_in5 rfl ly_1 rfl (by decide) fw_70 dX5_becomeLike_82 ?_
  refine g_top (y := nI (t.1 7 2)) ((congrFun (f4 1 (by omega) (by omega)) 7).trans v2) ?_
  refine g_putI (ci := 5) (i := 7) (k := 15) hC fm_in5 tyX5 tyX5_ok nmX5 rfl ly_15 rfl (by decide) fw_70 rfl rfl rfl dX5_becomeLike_85 ?_
  refine g_aload_n hC dX5_becomeLike_88 rfl 0 rfl ?_
  refine g_aload_n hC dX5_becomeLike_89 rfl 1 rfl ?_
  refine g_getI (ci := 5) (i := 8) (k := 1) hC fm_in5 rfl ly_1 rfl (by decide) fw_72 dX5_becomeLike_90 ?_
  refine g_top (y := nI (t.1 7 3)) ((by simp [fm_up, fm_row, upd] : (fm_up M94 15 7 (nI (t.1 7 2))) 1 8 = M94 1 8).trans ((congrFun (f4 1 (by omega) (by omega)) 8).trans v3)) ?_
  refine g_putI (ci := 5) (i := 8) (k := 15) hC fm_in5 tyX5 tyX5_ok nmX5 rfl ly_15 rfl (by decide) fw_72 rfl rfl rfl dX5_becomeLike_93 ?_
  refine g_aload_n hC dX5_becomeLike_96 rfl 0 rfl ?_
  refine g_aload_n hC dX5_becomeLike_97 rfl 1 rfl ?_
  refine g_getI (ci := 5) (i := 9) (k := 1) hC fm_in5 rfl ly_1 rfl (by decide) fw_74 dX5_becomeLike_98 ?_
  refine g_top (y := nI (t.1 7 4)) ((by simp [fm_up, fm_row, upd] : (fm_up (fm_up M94 15 7 (nI (t.1 7 2))) 15 8 (nI (t.1 7 3))) 1 9 = M94 1 9).trans ((congrFun (f4 1 (by omega) (by omega)) 9).trans v4)) ?_
  refine g_putI (ci := 5) (i := 9) (k := 15) hC fm_in5 tyX5 tyX5_ok nmX5 rfl ly_15 rfl (by decide) fw_74 rfl rfl rfl dX5_becomeLike_101 ?_
  refine g_aload_n hC dX5_becomeLike_104 rfl 0 rfl ?_
  refine g_aload_n hC dX5_becomeLike_105 rfl 1 rfl ?_
  refine g_getI (ci := 5) (i := 10) (k := 1) hC fm_in5 rfl ly_1 rfl (by decide) fw_76 dX5_becomeLike_106 ?_
  refine g_top (y := nI (t.1 7 5)) ((by simp [fm_up, fm_row, upd] : (fm_up (fm_up (fm_up M94 15 7 (nI (t.1 7 2))) 15 8 (nI (t.1 7 3))) 15 9 (nI (t.1 7 4))) 1 10 = M94 1 10).trans ((congrFun (f4 1 (by omega) (by omega)) 10).trans v5)) ?_
  refine g_putI (ci := 5) (i := 10) (k := 15) hC fm_in5 tyX5 tyX5_ok nmX5 rfl ly_15 rfl (by decide) fw_76 rfl rfl rfl dX5_becomeLike_109 ?_
  refine g_aload_n hC dX5_becomeLike_112 rfl 0 rfl ?_
  refine g_aload_n hC dX5_becomeLike_113 rfl 1 rfl ?_
  refine g_getI (ci := 5) (i := 11) (k := 1) hC fm_in5 rfl ly_1 rfl (by decide) fw_78 dX5_becomeLike_114 ?_
  refine g_top (y := nI (t.1 7 6)) ((by simp [fm_up, fm_row, upd] : (fm_up (fm_up (fm_up (fm_up M94 15 7 (nI (t.1 7 2))) 15 8 (nI (t.1 7 3))) 15 9 (nI (t.1 7 4))) 15 10 (nI (t.1 7 5))) 1 11 = M94 1 11).trans ((congrFun (f4 1 (by omega) (by omega)) 11).trans v6)) ?_
  refine g_putI (ci := 5) (i := 11) (k := 15) hC fm_in5 tyX5 tyX5_ok nmX5 rfl ly_15 rfl (by decide) fw_78 rfl rfl rfl dX5_becomeLike_117 ?_
  refine g_aload_n hC dX5_becomeLike_120 rfl 0 rfl ?_
  refine g_aload_n hC dX5_becomeLike_121 rfl 1 rfl ?_
  refine g_getI (ci := 5) (i := 12) (k := 1) hC fm_in5 rfl ly_1 rfl (by decide) fw_80 dX5_becomeLike_122 ?_
  refine g_top (y := t.2.2) ((by simp [fm_up, fm_row, upd] : (fm_up (fm_up (fm_up (fm_up (fm_up M94 15 7 (nI (t.1 7 2))) 15 8 (nI (t.1 7 3))) 15 9 (nI (t.1 7 4))) 15 10 (nI (t.1 7 5))) 15 11 (nI (t.1 7 6))) 1 12 = M94 1 12).trans ((congrFun (f4 1 (by omega) (by omega)) 12).trans v7)) ?_
  refine g_putI (ci := 5) (i := 12) (k := 15) hC fm_in5 tyX5 tyX5_ok nmX5 rfl ly_15 rfl (by decide) fw_80 rfl rfl rfl dX5_becomeLike_125 ?_
  refine g_aload_n hC dX5_becomeLike_128 rfl 0 rfl ?_
  refine g_aload_n hC dX5_becomeLike_129 rfl 1 rfl ?_
  refine g_getI (ci := 5) (i := 13) (k := 1) hC fm_in5 rfl ly_1 rfl (by decide) fw_82 dX5_becomeLike_130 ?_
  refine g_top (y := nI (t.1 7 7)) ((by simp [fm_up, fm_row, upd] : (fm_up (fm_up (fm_up (fm_up (fm_up (fm_up M94 15 7 (nI (t.1 7 2))) 15 8 (nI (t.1 7 3))) 15 9 (nI (t.1 7 4))) 15 10 (nI (t.1 7 5))) 15 11 (nI (t.1 7 6))) 15 12 t.2.2) 1 13 = M94 1 13).trans ((congrFun (f4 1 (by omega) (by omega)) 13).trans v8)) ?_
  refine g_putI (ci := 5) (i := 13) (k := 15) hC fm_in5 tyX5 tyX5_ok nmX5 rfl ly_15 rfl (by decide) fw_82 rfl rfl rfl dX5_becomeLike_133 ?_
  refine g_vret hC rfl dX5_becomeLike_136 ?_
  have E : ∀ q, q ≠ 15 → fm_up (fm_up (fm_up (fm_up (fm_up (fm_up (fm_up M94 15 7 (nI (t.1 7 2))) 15 8 (nI (t.1 7 3))) 15 9 (nI (t.1 7 4))) 15 10 (nI (t.1 7 5))) 15 11 (nI (t.1 7 6))) 15 12 t.2.2) 15 13 (nI (t.1 7 7)) q = M94 q := fun q q1 => by rw [fm_upn q1, fm_upn q1, fm_upn q1, fm_upn q1, fm_upn q1, fm_upn q1, fm_upn q1]
  have X : ∀ i, i ≠ 7 → i ≠ 8 → i ≠ 9 → i ≠ 10 → i ≠ 11 → i ≠ 12 → i ≠ 13 → fm_up (fm_up (fm_up (fm_up (fm_up (fm_up (fm_up M94 15 7 (nI (t.1 7 2))) 15 8 (nI (t.1 7 3))) 15 9 (nI (t.1 7 4))) 15 10 (nI (t.1 7 5))) 15 11 (nI (t.1 7 6))) 15 12 t.2.2) 15 13 (nI (t.1 7 7)) 15 i = M94 15 i := fun i x1 x2 x3 x4 x5 x6 x7 => by rw [fm_upx x7, fm_upx x6, fm_upx x5, fm_upx x4, fm_upx x3, fm_upx x2, fm_upx x1]
  refine ⟨rfl, tC_like hT hto (fun j hj a ha => ?_) (fun j hj => ?_) (fun j hj => ?_) (fun j hj => ?_) (fun j hj => ?_) ⟨?_, ?_, ?_, ?_, ?_, ?_, ?_, ?_, ?_⟩, fun q q1 => ?_, rfl⟩
  · rw [E (15 + 6 + j) (by omega), d4 (15 + 6 + j) (by omega), d3 (15 + 6 + j) (by omega) (by omega), d2 (15 + 6 + j) (by omega), d1 (15 + 6 + j) (by omega)]; exact a1 j hj a ha
  · rw [E (15 + 2) (by decide), d4 (15 + 2) (by decide), d3 (15 + 2) (by decide) (by decide), d2 (15 + 2) (by decide)]; exact c1 j hj
  · rw [E (15 + 3) (by decide), d4 (15 + 3) (by decide), d3 (15 + 3) (by decide) (by decide)]; exact c2 j hj
  · rw [E (15 + 4) (by decide), d4 (15 + 4) (by decide)]; exact c3 j hj
  · rw [E (15 + 5) (by decide)]; exact c4 j hj
  · rw [X 1 (by decide) (by decide) (by decide) (by decide) (by decide) (by decide) (by decide), d4 15 (by decide), k3 1 (by decide), d2 15 (by decide), d1 15 (by decide)]; exact a2
  · rw [X 4 (by decide) (by decide) (by decide) (by decide) (by decide) (by decide) (by decide), d4 15 (by decide)]; exact g3
  · simp [fm_up, fm_row, upd]
  · simp [fm_up, fm_row, upd]
  · simp [fm_up, fm_row, upd]
  · simp [fm_up, fm_row, upd]
  · simp [fm_up, fm_row, upd]
  · simp [fm_up, fm_row, upd]
  · simp [fm_up, fm_row, upd]
  · rw [E q (by omega)]; exact f4 q (by omega) (by omega)

theorem c_X6_image (l : Launch) (D : va_G) (cA : Nat → ClassId) (b : Nat) (M : Nat → Nat → Int32) (L : Nat → Nat → Int64) (g : Sg) (hS : CS M L g) (hok : OK g) : fm_Met l D cA b yX6_image cX6_image 1 (some .int) 4 89 0 0 [.ref (b + 0)] LAY M L LAY (fm_pm (fun r M' L' => r = (op_image g).1 ∧ CS M' L' (op_image g).2 ∧ fC M M' L L')) := by
  refine fm_start RX6 rfl (by decide) (Nat.le_of_ble_eq_true rfl) ?_
  intro pq eq sq mq aq bq tq cq hC hin
  obtain ⟨⟨n1, n2, n3, v0, v1, v2, v3, v4, v5, v6, v7, v8⟩, hS2⟩ := id hS
  obtain ⟨⟨o1, o2, o3, o4, o5, o6, o7, o8, o9, o10, o11⟩, hok2⟩ := id hok
  refine g_aload_n hC dX6_image_0 rfl 0 rfl ?_
  refine g_getR (ci := 6) (i := 1) (k := 0) (t := 15) hC fm_in6 rfl ly_0 rfl (by decide) fw_197 dX6_image_1 ?_
  refine g_aload_n hC dX6_image_4 rfl 0 rfl ?_
  refine g_getR (ci := 6) (i := 0) (k := 0) (t := 1) hC fm_in6 rfl ly_0 rfl (by decide) fw_196 dX6_image_5 ?_
  refine g_callV hC (k := 15) (ci := 5) (as := [.ref (b + 1)]) (rest := []) (c_X5_becomeLike_a l D cA b M L g.1 hS.1 hok.1) ⟨fw_514, fw_515, fw_516, fw_2, fw_517⟩ ⟨rfl, hd_X5_becomeLike⟩ rfl ly_15 ⟨Nat.le_of_ble_eq_true rfl, Nat.le_of_ble_eq_true rfl⟩ ⟨Nat.le_of_ble_eq_true rfl, Nat.le_of_ble_eq_true rfl⟩ rfl rfl (Nat.le_of_ble_eq_true rfl) dX6_image_8 (g_rv (fun M_1 L_1 h_1 => ?_))
  obtain ⟨b1_1, b2_1, b3_1⟩ := h_1
  rw [b3_1]
  refine g_aload_n hC dX6_image_11 rfl 0 rfl ?_
  refine g_iconst (v := 1) hC dX6_image_12 rfl ?_
  refine g_putI (ci := 6) (i := 2) (k := 0) hC fm_in6 tyX6 tyX6_ok nmX6 rfl ly_0 rfl (by decide) fw_198 rfl rfl rfl dX6_image_13 ?_
  refine g_iconst (v := 1) hC dX6_image_16 rfl ?_
  refine g_zret (ty := .int) hC rfl rfl dX6_image_17 ?_
  exact ⟨_, rfl, rfl, ⟨tC_cong hS.1 o4 (fun q q1 q2 => by rw [fm_upn (by omega)]; exact b2_1 q (by omega)), fun _ => tC_cong b1_1 o4 (fun q q1 q2 => fm_upn (by omega)), by rw [fm_ups]; rfl, pC_cong hS2.2.2.1 (by rw [fm_upn (by omega)]; exact b2_1 29 (by omega)) (by rw [fm_upn (by omega)]; exact b2_1 30 (by omega)), sC_cong hS2.2.2.2 (fun q q1 q2 => ⟨by rw [fm_upn (by omega)]; exact b2_1 q (by omega), rfl⟩)⟩, fun q hq => ⟨by rw [fm_upn (by omega)]; exact b2_1 q (by omega), rfl⟩⟩

theorem c_X5_takePeople_b (l : Launch) (D : va_G) (cA : Nat → ClassId) (b : Nat) (M : Nat → Nat → Int32) (L : Nat → Nat → Int64) (n : Nat) (hn : n ≤ 8) : fm_Met l D cA b yX5_takePeople cX5_takePeople 4 none 2 45 0 0 [.ref (b + 1), .ref (b + 16), .int (nI n)] LAY M L LAY (fm_pv (fun M' L' => (∀ j, j < n → ∀ a, a < 4 → M' (7 + j) a = M (21 + j) a) ∧ M' 1 1 = nI n ∧ (∀ q, q ≠ 1 → ¬ (7 ≤ q ∧ q < 15) → M' q = M q) ∧ L' = L)) := by
  refine fm_start RX5 rfl (by decide) (Nat.le_of_ble_eq_true rfl) ?_
  intro pq eq sq mq aq bq tq cq hC hin
  refine g_iconst (v := 0) hC dX5_takePeople_0 rfl ?_
  refine g_istore_n hC [(3, .int 0), (0, .ref (b + 1)), (1, .ref (b + 16)), (2, .int (nI n))] dX5_takePeople_1 rfl (by decide) rfl ?_
  have lp_2_1 : ∀ (n_1 : Nat) (M1 : Nat → Nat → Int32) (i : Nat), n - i < n_1 → (i ≤ n ∧ (∀ j, j < i → ∀ a, a < 4 → M1 (7 + j) a = M (21 + j) a) ∧ (∀ q, ¬ (7 ≤ q ∧ q < 15) → M1 q = M q)) → fm_G pq l eq (fm_rm 2 45 0 0) sq mq aq bq tq cq D cA b 4 (MQ bq (fm_Q D cA b LAY (fm_pv (fun M' L' => (∀ j, j < n → ∀ a, a < 4 → M' (7 + j) a = M (21 + j) a) ∧ M' 1 1 = nI n ∧ (∀ q, q ≠ 1 → ¬ (7 ≤ q ∧ q < 15) → M' q = M q) ∧ L' = L))) aq sq 0 0 (fun q => b ≤ q)) LAY M1 L 0 0 2 [(0, .ref (b + 1)), (1, .ref (b + 16)), (2, .int (nI n)), (3, .int (nI i))] [] := by
    intro n_1
    induction n_1 with
    | zero => intro M1 i hm_1; exact absurd hm_1 (Nat.not_lt_zero _)
    | succ n_1 ih_1 =>
      intro M1 i hm_1 hinv_1
      obtain ⟨i1, i2, i3⟩ := hinv_1
      refine g_iload_n hC dX5_takePeople_2 rfl 3 rfl ?_
      refine g_iload_n hC dX5_takePeople_3 rfl 2 rfl ?_
      refine g_icmp_ge_T (X := ((i : Nat) : Int)) (Y := ((n : Nat) : Int)) hC (nI_toInt (by omega)) (nI_toInt (by omega)) 31 dX5_takePeople_4 rfl (fun c_2 => ?_) (fun c_2 => ?_)
      · skip
        refine g_aload_n hC dX5_takePeople_31 rfl 0 rfl ?_
        refine g_iload_n hC dX5_takePeople_32 rfl 2 rfl ?_
        refine g_putI (ci := 5) (i := 1) (k := 1) hC fm_in5 tyX5 tyX5_ok nmX5 rfl ly_1 rfl (by decide) fw_58 rfl rfl rfl dX5_takePeople_33 ?_
        refine g_vret hC rfl dX5_takePeople_36 ?_
        have ei : i = n := by omega
        subst ei
        exact ⟨rfl, fun j hj a ha => by rw [fm_upn (by omega)]; exact i2 j hj a ha, by rw [fm_ups], fun q q1 q2 => by rw [fm_upn q1]; exact i3 q q2, rfl⟩
      · skip
        refine g_iload_n hC dX5_takePeople_7 rfl 3 rfl ?_
        refine g_bipush (v := 8) hC dX5_takePeople_8 rfl ?_
        refine g_icmp_ge_T (X := ((i : Nat) : Int)) (Y := 8) hC (nI_toInt (by omega)) rfl 31 dX5_takePeople_10 rfl (fun c_3 => ?_) (fun c_3 => ?_)
        · skip
          refine g_aload_n hC dX5_takePeople_31 rfl 0 rfl ?_
          refine g_iload_n hC dX5_takePeople_32 rfl 2 rfl ?_
          refine g_putI (ci := 5) (i := 1) (k := 1) hC fm_in5 tyX5 tyX5_ok nmX5 rfl ly_1 rfl (by decide) fw_58 rfl rfl rfl dX5_takePeople_33 ?_
          refine g_vret hC rfl dX5_takePeople_36 ?_
          have ei : i = n := by omega
          subst ei
          exact ⟨rfl, fun j hj a ha => by rw [fm_upn (by omega)]; exact i2 j hj a ha, by rw [fm_ups], fun q q1 q2 => by rw [fm_upn q1]; exact i3 q q2, rfl⟩
        · skip
          refine g_aload_n hC dX5_takePeople_13 rfl 0 rfl ?_
          refine g_getR (ci := 5) (i := 0) (k := 1) (t := 2) hC fm_in5 rfl ly_1 rfl (by decide) fw_56 dX5_takePeople_14 ?_
          refine g_iload_n hC dX5_takePeople_17 rfl 3 rfl ?_
          refine g_aald4N (j := i) (t := 7 + i) (k := 2) hC ly_2 rfl (by omega) (by decide) (fm_z7 _ (by omega)) dX5_takePeople_18 ?_
          refine g_aload_n hC dX5_takePeople_19 rfl 1 rfl ?_
          refine g_iload_n hC dX5_takePeople_20 rfl 3 rfl ?_
          refine g_aald4N (j := i) (t := 21 + i) (k := 16) hC ly_16 rfl (by omega) (by decide) (fm_z21 _ (by omega)) dX5_takePeople_21 ?_
          refine g_callV hC (k := 7 + i) (ci := 1) (as := [.ref (b + (21 + i))]) (rest := []) (c_X1_becomeLike l D cA b M1 L (7 + i) (21 + i) (fm_per7 _ (by omega)) (fm_per21 _ (by omega))) ⟨fw_353, fw_354, fw_355, fw_3, fw_356⟩ ⟨rfl, hd_X1_becomeLike⟩ rfl (fm_per7 _ (by omega)) ⟨Nat.le_of_ble_eq_true rfl, Nat.le_of_ble_eq_true rfl⟩ ⟨Nat.le_of_ble_eq_true rfl, Nat.le_of_ble_eq_true rfl⟩ rfl rfl (Nat.le_of_ble_eq_true rfl) dX5_takePeople_22 (g_rvx ?_)
          refine g_iinc hC [(3, .int (nI (i + 1))), (0, .ref (b + 1)), (1, .ref (b + 16)), (2, .int (nI n))] dX5_takePeople_25 3 rfl (by rw [show Int32.ofInt 1 = nI 1 from rfl, nI_add]) (by decide) rfl ?_
          refine g_goto hC 2 dX5_takePeople_28 rfl ?_
          exact g_sub [1, 2, 3, 0] rfl (ih_1 (be M1 (7 + i) (M1 (21 + i) 0) (M1 (21 + i) 1) (M1 (21 + i) 2) (M1 (21 + i) 3)) (i + 1) (by omega) (⟨by omega, fun j hj a ha => if e : j = i then (by rw [e, be_at ha, i3 (21 + i) (by omega)]) else (by rw [be_n (by omega)]; exact i2 j (by omega) a ha), fun q hq => by rw [be_n (by omega)]; exact i3 q hq⟩))
  exact g_sub [1, 2, 3, 0] rfl (lp_2_1 (n - 0 + 1) M 0 (Nat.lt_succ_self _) (⟨by omega, fun j hj => by omega, fun _ _ => rfl⟩))

theorem c_X5_becomeLike_b (l : Launch) (D : va_G) (cA : Nat → ClassId) (b : Nat) (M : Nat → Nat → Int32) (L : Nat → Nat → Int64) (t : Tn) (hT : tC M 15 t) (hto : tOK t) : fm_Met l D cA b yX5_becomeLike cX5_becomeLike 2 none 3 68 0 0 [.ref (b + 1), .ref (b + 15)] LAY M L LAY (fm_pv (fun M' L' => tC M' 1 t ∧ (∀ q, (q < 1 ∨ 15 ≤ q) → M' q = M q) ∧ L' = L)) := by
  refine fm_start RX5 rfl (by decide) (Nat.le_of_ble_eq_true rfl) ?_
  intro pq eq sq mq aq bq tq cq hC hin
  obtain ⟨n1, n2, n3, v0, v1, v2, v3, v4, v5, v6, v7, v8⟩ := id hT
  obtain ⟨o1, o2, o3, o4, o5, o6, o7, o8, o9, o10, o11⟩ := id hto
  refine g_aload_n hC dX5_becomeLike_0 rfl 0 rfl ?_
  refine g_aload_n hC dX5_becomeLike_1 rfl 1 rfl ?_
  refine g_getR (ci := 5) (i := 0) (k := 15) (t := 16) hC fm_in5 rfl ly_15 rfl (by decide) fw_56 dX5_becomeLike_2 ?_
  refine g_aload_n hC dX5_becomeLike_5 rfl 1 rfl ?_
  refine g_getI (ci := 5) (i := 1) (k := 15) hC fm_in5 rfl ly_15 rfl (by decide) fw_58 dX5_becomeLike_6 ?_
  refine g_top (y := nI (t.1 7 0)) v0 ?_
  refine g_callV hC (k := 1) (ci := 5) (as := [.ref (b + 16), .int (nI (t.1 7 0))]) (rest := []) (c_X5_takePeople_b l D cA b M L (t.1 7 0) o4) ⟨fw_518, fw_350, fw_351, fw_2, fw_352⟩ ⟨rfl, hd_X5_takePeople⟩ rfl ly_1 ⟨Nat.le_of_ble_eq_true rfl, Nat.le_of_ble_eq_true rfl⟩ ⟨Nat.le_of_ble_eq_true rfl, Nat.le_of_ble_eq_true rfl⟩ rfl rfl (Nat.le_of_ble_eq_true rfl) dX5_becomeLike_9 (g_rv (fun M_1 L_1 h_1 => ?_))
  obtain ⟨a1, a2, a3, a4⟩ := h_1
  rw [a4]
  have f0 : ∀ q, q ≠ 1 → ¬ (3 ≤ q ∧ q < 15) → M_1 q = M q := fun q q1 q2 => a3 q q1 (by omega)
  refine g_aload_n hC dX5_becomeLike_12 rfl 1 rfl ?_
  refine g_getR (ci := 5) (i := 2) (k := 15) (t := 17) hC fm_in5 rfl ly_15 rfl (by decide) fw_60 dX5_becomeLike_13 ?_
  refine g_iconst (v := 0) hC dX5_becomeLike_16 rfl ?_
  refine g_aload_n hC dX5_becomeLike_17 rfl 0 rfl ?_
  refine g_getR (ci := 5) (i := 2) (k := 1) (t := 3) hC fm_in5 rfl ly_1 rfl (by decide) fw_60 dX5_becomeLike_18 ?_
  refine g_iconst (v := 0) hC dX5_becomeLike_21 rfl ?_
  refine g_bipush (v := 6) hC dX5_becomeLike_22 rfl ?_
  refine g_copyI (k0 := 17) (k1 := 3) hC fw_519 fw_373 fw_372 fw_11 ly_17 ly_3 (by decide) (by decide) (by decide) (by decide) (by decide) (Nat.le_of_ble_eq_true rfl) (Nat.le_of_ble_eq_true rfl) dX5_becomeLike_24 ?_
  obtain ⟨M91, eM91⟩ : ∃ M91, M91 = fm_row M_1 3 (va_cpy (M_1 17) (M_1 3) (0 : Int32).toNatClampNeg (0 : Int32).toNatClampNeg (6 : Int32).toNatClampNeg) := ⟨_, rfl⟩
  rw [← eM91]
  have c1 : ∀ j, j < 6 → M91 3 j = M 17 j := fun j hj => by
    rw [eM91]
    have z : M_1 17 = M 17 := by exact f0 17 (by omega) (by omega)
    simp only [fm_row, if_true]
    first | exact (sb_cpy0 hj).trans (congrFun z j) | (rw [show (0 : Int32).toNatClampNeg = 0 from rfl, show (6 : Int32).toNatClampNeg = 6 from rfl, sb_cpy0 hj]; exact congrFun z j)
  have d1 : ∀ q, q ≠ 3 → M91 q = M_1 q := fun q q1 => by rw [eM91, fm_row_n q1]
  have f1 : ∀ q, q ≠ 1 → ¬ (3 ≤ q ∧ q < 15) → M91 q = M q := fun q q1 q2 => by rw [d1 q (by omega)]; exact f0 q q1 q2
  refine g_aload_n hC dX5_becomeLike_27 rfl 1 rfl ?_
  refine g_getR (ci := 5) (i := 3) (k := 15) (t := 18) hC fm_in5 rfl ly_15 rfl (by decide) fw_62 dX5_becomeLike_28 ?_
  refine g_iconst (v := 0) hC dX5_becomeLike_31 rfl ?_
  refine g_aload_n hC dX5_becomeLike_32 rfl 0 rfl ?_
  refine g_getR (ci := 5) (i := 3) (k := 1) (t := 4) hC fm_in5 rfl ly_1 rfl (by decide) fw_62 dX5_becomeLike_33 ?_
  refine g_iconst (v := 0) hC dX5_becomeLike_36 rfl ?_
  refine g_bipush (v := 6) hC dX5_becomeLike_37 rfl ?_
  refine g_copyI (k0 := 18) (k1 := 4) hC fw_519 fw_373 fw_372 fw_11 ly_18 ly_4 (by decide) (by decide) (by decide) (by decide) (by decide) (Nat.le_of_ble_eq_true rfl) (Nat.le_of_ble_eq_true rfl) dX5_becomeLike_39 ?_
  obtain ⟨M92, eM92⟩ : ∃ M92, M92 = fm_row M91 4 (va_cpy (M91 18) (M91 4) (0 : Int32).toNatClampNeg (0 : Int32).toNatClampNeg (6 : Int32).toNatClampNeg) := ⟨_, rfl⟩
  rw [← eM92]
  have c2 : ∀ j, j < 6 → M92 4 j = M 18 j := fun j hj => by
    rw [eM92]
    have z : M91 18 = M 18 := by exact f1 18 (by omega) (by omega)
    simp only [fm_row, if_true]
    first | exact (sb_cpy0 hj).trans (congrFun z j) | (rw [show (0 : Int32).toNatClampNeg = 0 from rfl, show (6 : Int32).toNatClampNeg = 6 from rfl, sb_cpy0 hj]; exact congrFun z j)
  have d2 : ∀ q, q ≠ 4 → M92 q = M91 q := fun q q1 => by rw [eM92, fm_row_n q1]
  have f2 : ∀ q, q ≠ 1 → ¬ (3 ≤ q ∧ q < 15) → M92 q = M q := fun q q1 q2 => by rw [d2 q (by omega)]; exact f1 q q1 q2
  refine g_aload_n hC dX5_becomeLike_42 rfl 0 rfl ?_
  refine g_aload_n hC dX5_becomeLike_43 rfl 1 rfl ?_
  refine g_getI (ci := 5) (i := 4) (k := 15) hC fm_in5 rfl ly_15 rfl (by decide) fw_64 dX5_becomeLike_44 ?_
  refine g_top (y := nI (t.1 7 1)) ((congrFun (f2 15 (by omega) (by omega)) 4).trans v1) ?_
  refine g_putI (ci := 5) (i := 4) (k := 1) hC fm_in5 tyX5 tyX5_ok nmX5 rfl ly_1 rfl (by decide) fw_64 rfl rfl rfl dX5_becomeLike_47 ?_
  refine g_aload_n hC dX5_becomeLike_50 rfl 1 rfl ?_
  refine g_getR (ci := 5) (i := 5) (k := 15) (t := 19) hC fm_in5 rfl ly_15 rfl (by decide) fw_66 dX5_becomeLike_51 ?_
  refine g_iconst (v := 0) hC dX5_becomeLike_54 rfl ?_
  refine g_aload_n hC dX5_becomeLike_55 rfl 0 rfl ?_
  refine g_getR (ci := 5) (i := 5) (k := 1) (t := 5) hC fm_in5 rfl ly_1 rfl (by decide) fw_66 dX5_becomeLike_56 ?_
  refine g_iconst (v := 0) hC dX5_becomeLike_59 rfl ?_
  refine g_bipush (v := 24) hC dX5_becomeLike_60 rfl ?_
  refine g_copyI (k0 := 19) (k1 := 5) hC fw_519 fw_373 fw_372 fw_11 ly_19 ly_5 (by decide) (by decide) (by decide) (by decide) (by decide) (Nat.le_of_ble_eq_true rfl) (Nat.le_of_ble_eq_true rfl) dX5_becomeLike_62 ?_
  obtain ⟨M93, eM93⟩ : ∃ M93, M93 = fm_row (fm_up M92 1 4 (nI (t.1 7 1))) 5 (va_cpy ((fm_up M92 1 4 (nI (t.1 7 1))) 19) ((fm_up M92 1 4 (nI (t.1 7 1))) 5) (0 : Int32).toNatClampNeg (0 : Int32).toNatClampNeg (24 : Int32).toNatClampNeg) := ⟨_, rfl⟩
  rw [← eM93]
  have c3 : ∀ j, j < 24 → M93 5 j = M 19 j := fun j hj => by
    rw [eM93]
    have z : (fm_up M92 1 4 (nI (t.1 7 1))) 19 = M 19 := by rw [fm_upn (by omega)]; exact f2 19 (by omega) (by omega)
    simp only [fm_row, if_true]
    first | exact (sb_cpy0 hj).trans (congrFun z j) | (rw [show (0 : Int32).toNatClampNeg = 0 from rfl, show (24 : Int32).toNatClampNeg = 24 from rfl, sb_cpy0 hj]; exact congrFun z j)
  have d3 : ∀ q, q ≠ 5 → q ≠ 1 → M93 q = M92 q := fun q q1 q2 => by rw [eM93, fm_row_n q1, fm_upn q2]
  have f3 : ∀ q, q ≠ 1 → ¬ (3 ≤ q ∧ q < 15) → M93 q = M q := fun q q1 q2 => by rw [d3 q (by omega) q1]; exact f2 q q1 q2
  have g3 : M93 1 4 = nI (t.1 7 1) := by rw [eM93, fm_row_n (by decide), fm_ups]
  have k3 : ∀ i, i ≠ 4 → M93 1 i = M92 1 i := fun i hi => by rw [eM93, fm_row_n (by decide), fm_upx hi]
  refine g_aload_n hC dX5_becomeLike_65 rfl 1 rfl ?_
  refine g_getR (ci := 5) (i := 6) (k := 15) (t := 20) hC fm_in5 rfl ly_15 rfl (by decide) fw_68 dX5_becomeLike_66 ?_
  refine g_iconst (v := 0) hC dX5_becomeLike_69 rfl ?_
  refine g_aload_n hC dX5_becomeLike_70 rfl 0 rfl ?_
  refine g_getR (ci := 5) (i := 6) (k := 1) (t := 6) hC fm_in5 rfl ly_1 rfl (by decide) fw_68 dX5_becomeLike_71 ?_
  refine g_iconst (v := 0) hC dX5_becomeLike_74 rfl ?_
  refine g_bipush (v := 24) hC dX5_becomeLike_75 rfl ?_
  refine g_copyI (k0 := 20) (k1 := 6) hC fw_519 fw_373 fw_372 fw_11 ly_20 ly_6 (by decide) (by decide) (by decide) (by decide) (by decide) (Nat.le_of_ble_eq_true rfl) (Nat.le_of_ble_eq_true rfl) dX5_becomeLike_77 ?_
  obtain ⟨M94, eM94⟩ : ∃ M94, M94 = fm_row M93 6 (va_cpy (M93 20) (M93 6) (0 : Int32).toNatClampNeg (0 : Int32).toNatClampNeg (24 : Int32).toNatClampNeg) := ⟨_, rfl⟩
  rw [← eM94]
  have c4 : ∀ j, j < 24 → M94 6 j = M 20 j := fun j hj => by
    rw [eM94]
    have z : M93 20 = M 20 := by exact f3 20 (by omega) (by omega)
    simp only [fm_row, if_true]
    first | exact (sb_cpy0 hj).trans (congrFun z j) | (rw [show (0 : Int32).toNatClampNeg = 0 from rfl, show (24 : Int32).toNatClampNeg = 24 from rfl, sb_cpy0 hj]; exact congrFun z j)
  have d4 : ∀ q, q ≠ 6 → M94 q = M93 q := fun q q1 => by rw [eM94, fm_row_n q1]
  have f4 : ∀ q, q ≠ 1 → ¬ (3 ≤ q ∧ q < 15) → M94 q = M q := fun q q1 q2 => by rw [d4 q (by omega)]; exact f3 q q1 q2
  refine g_aload_n hC dX5_becomeLike_80 rfl 0 rfl ?_
  refine g_aload_n hC dX5_becomeLike_81 rfl 1 rfl ?_
  refine g_getI (ci := 5) (i := 7) (k := 15) hC fm_in5 rfl ly_15 rfl (by decide) fw_70 dX5_becomeLike_82 ?_
  refine g_top (y := nI (t.1 7 2)) ((congrFun (f4 15 (by omega) (by omega)) 7).trans v2) ?_
  refine g_putI (ci := 5) (i := 7) (k := 1) hC fm_in5 tyX5 tyX5_ok nmX5 rfl ly_1 rfl (by decide) fw_70 rfl rfl rfl dX5_becomeLike_85 ?_
  refine g_aload_n hC dX5_becomeLike_88 rfl 0 rfl ?_
  refine g_aload_n hC dX5_becomeLike_89 rfl 1 rfl ?_
  refine g_getI (ci := 5) (i := 8) (k := 15) hC fm_in5 rfl ly_15 rfl (by decide) fw_72 dX5_becomeLike_90 ?_
  refine g_top (y := nI (t.1 7 3)) ((by simp [fm_up, fm_row, upd] : (fm_up M94 1 7 (nI (t.1 7 2))) 15 8 = M94 15 8).trans ((congrFun (f4 15 (by omega) (by omega)) 8).trans v3)) ?_
  refine g_putI (ci := 5) (i := 8) (k := 1) hC fm_in5 tyX5 tyX5_ok nmX5 rfl ly_1 rfl (by decide) fw_72 rfl rfl rfl dX5_becomeLike_93 ?_
  refine g_aload_n hC dX5_becomeLike_96 rfl 0 rfl ?_
  refine g_aload_n hC dX5_becomeLike_97 rfl 1 rfl ?_
  refine g_getI (ci := 5) (i := 9) (k := 15) hC fm_in5 rfl ly_15 rfl (by decide) fw_74 dX5_becomeLike_98 ?_
  refine g_top (y := nI (t.1 7 4)) ((by simp [fm_up, fm_row, upd] : (fm_up (fm_up M94 1 7 (nI (t.1 7 2))) 1 8 (nI (t.1 7 3))) 15 9 = M94 15 9).trans ((congrFun (f4 15 (by omega) (by omega)) 9).trans v4)) ?_
  refine g_putI (ci := 5) (i := 9) (k := 1) hC fm_in5 tyX5 tyX5_ok nmX5 rfl ly_1 rfl (by decide) fw_74 rfl rfl rfl dX5_becomeLike_101 ?_
  refine g_aload_n hC dX5_becomeLike_104 rfl 0 rfl ?_
  refine g_aload_n hC dX5_becomeLike_105 rfl 1 rfl ?_
  refine g_getI (ci := 5) (i := 10) (k := 15) hC fm_in5 rfl ly_15 rfl (by decide) fw_76 dX5_becomeLike_106 ?_
  refine g_top (y := nI (t.1 7 5)) ((by simp [fm_up, fm_row, upd] : (fm_up (fm_up (fm_up M94 1 7 (nI (t.1 7 2))) 1 8 (nI (t.1 7 3))) 1 9 (nI (t.1 7 4))) 15 10 = M94 15 10).trans ((congrFun (f4 15 (by omega) (by omega)) 10).trans v5)) ?_
  refine g_putI (ci := 5) (i := 10) (k := 1) hC fm_in5 tyX5 tyX5_ok nmX5 rfl ly_1 rfl (by decide) fw_76 rfl rfl rfl dX5_becomeLike_109 ?_
  refine g_aload_n hC dX5_becomeLike_112 rfl 0 rfl ?_
  refine g_aload_n hC dX5_becomeLike_113 rfl 1 rfl ?_
  refine g_getI (ci := 5) (i := 11) (k := 15) hC fm_in5 rfl ly_15 rfl (by decide) fw_78 dX5_becomeLike_114 ?_
  refine g_top (y := nI (t.1 7 6)) ((by simp [fm_up, fm_row, upd] : (fm_up (fm_up (fm_up (fm_up M94 1 7 (nI (t.1 7 2))) 1 8 (nI (t.1 7 3))) 1 9 (nI (t.1 7 4))) 1 10 (nI (t.1 7 5))) 15 11 = M94 15 11).trans ((congrFun (f4 15 (by omega) (by omega)) 11).trans v6)) ?_
  refine g_putI (ci := 5) (i := 11) (k := 1) hC fm_in5 tyX5 tyX5_ok nmX5 rfl ly_1 rfl (by decide) fw_78 rfl rfl rfl dX5_becomeLike_117 ?_
  refine g_aload_n hC dX5_becomeLike_120 rfl 0 rfl ?_
  refine g_aload_n hC dX5_becomeLike_121 rfl 1 rfl ?_
  refine g_getI (ci := 5) (i := 12) (k := 15) hC fm_in5 rfl ly_15 rfl (by decide) fw_80 dX5_becomeLike_122 ?_
  refine g_top (y := t.2.2) ((by simp [fm_up, fm_row, upd] : (fm_up (fm_up (fm_up (fm_up (fm_up M94 1 7 (nI (t.1 7 2))) 1 8 (nI (t.1 7 3))) 1 9 (nI (t.1 7 4))) 1 10 (nI (t.1 7 5))) 1 11 (nI (t.1 7 6))) 15 12 = M94 15 12).trans ((congrFun (f4 15 (by omega) (by omega)) 12).trans v7)) ?_
  refine g_putI (ci := 5) (i := 12) (k := 1) hC fm_in5 tyX5 tyX5_ok nmX5 rfl ly_1 rfl (by decide) fw_80 rfl rfl rfl dX5_becomeLike_125 ?_
  refine g_aload_n hC dX5_becomeLike_128 rfl 0 rfl ?_
  refine g_aload_n hC dX5_becomeLike_129 rfl 1 rfl ?_
  refine g_getI (ci := 5) (i := 13) (k := 15) hC fm_in5 rfl ly_15 rfl (by decide) fw_82 dX5_becomeLike_130 ?_
  refine g_top (y := nI (t.1 7 7)) ((by simp [fm_up, fm_row, upd] : (fm_up (fm_up (fm_up (fm_up (fm_up (fm_up M94 1 7 (nI (t.1 7 2))) 1 8 (nI (t.1 7 3))) 1 9 (nI (t.1 7 4))) 1 10 (nI (t.1 7 5))) 1 11 (nI (t.1 7 6))) 1 12 t.2.2) 15 13 = M94 15 13).trans ((congrFun (f4 15 (by omega) (by omega)) 13).trans v8)) ?_
  refine g_putI (ci := 5) (i := 13) (k := 1) hC fm_in5 tyX5 tyX5_ok nmX5 rfl ly_1 rfl (by decide) fw_82 rfl rfl rfl dX5_becomeLike_133 ?_
  refine g_vret hC rfl dX5_becomeLike_136 ?_
  have E : ∀ q, q ≠ 1 → fm_up (fm_up (fm_up (fm_up (fm_up (fm_up (fm_up M94 1 7 (nI (t.1 7 2))) 1 8 (nI (t.1 7 3))) 1 9 (nI (t.1 7 4))) 1 10 (nI (t.1 7 5))) 1 11 (nI (t.1 7 6))) 1 12 t.2.2) 1 13 (nI (t.1 7 7)) q = M94 q := fun q q1 => by rw [fm_upn q1, fm_upn q1, fm_upn q1, fm_upn q1, fm_upn q1, fm_upn q1, fm_upn q1]
  have X : ∀ i, i ≠ 7 → i ≠ 8 → i ≠ 9 → i ≠ 10 → i ≠ 11 → i ≠ 12 → i ≠ 13 → fm_up (fm_up (fm_up (fm_up (fm_up (fm_up (fm_up M94 1 7 (nI (t.1 7 2))) 1 8 (nI (t.1 7 3))) 1 9 (nI (t.1 7 4))) 1 10 (nI (t.1 7 5))) 1 11 (nI (t.1 7 6))) 1 12 t.2.2) 1 13 (nI (t.1 7 7)) 1 i = M94 1 i := fun i x1 x2 x3 x4 x5 x6 x7 => by rw [fm_upx x7, fm_upx x6, fm_upx x5, fm_upx x4, fm_upx x3, fm_upx x2, fm_upx x1]
  refine ⟨rfl, tC_like hT hto (fun j hj a ha => ?_) (fun j hj => ?_) (fun j hj => ?_) (fun j hj => ?_) (fun j hj => ?_) ⟨?_, ?_, ?_, ?_, ?_, ?_, ?_, ?_, ?_⟩, fun q q1 => ?_, rfl⟩
  · rw [E (1 + 6 + j) (by omega), d4 (1 + 6 + j) (by omega), d3 (1 + 6 + j) (by omega) (by omega), d2 (1 + 6 + j) (by omega), d1 (1 + 6 + j) (by omega)]; exact a1 j hj a ha
  · rw [E (1 + 2) (by decide), d4 (1 + 2) (by decide), d3 (1 + 2) (by decide) (by decide), d2 (1 + 2) (by decide)]; exact c1 j hj
  · rw [E (1 + 3) (by decide), d4 (1 + 3) (by decide), d3 (1 + 3) (by decide) (by decide)]; exact c2 j hj
  · rw [E (1 + 4) (by decide), d4 (1 + 4) (by decide)]; exact c3 j hj
  · rw [E (1 + 5) (by decide)]; exact c4 j hj
  · rw [X 1 (by decide) (by decide) (by decide) (by decide) (by decide) (by decide) (by decide), d4 1 (by decide), k3 1 (by decide), d2 1 (by decide), d1 1 (by decide)]; exact a2
  · rw [X 4 (by decide) (by decide) (by decide) (by decide) (by decide) (by decide) (by decide), d4 1 (by decide)]; exact g3
  · simp [fm_up, fm_row, upd]
  · simp [fm_up, fm_row, upd]
  · simp [fm_up, fm_row, upd]
  · simp [fm_up, fm_row, upd]
  · simp [fm_up, fm_row, upd]
  · simp [fm_up, fm_row, upd]
  · simp [fm_up, fm_row, upd]
  · rw [E q (by omega)]; exact f4 q (by omega) (by omega)

theorem c_X6_restore (l : Launch) (D : va_G) (cA : Nat → ClassId) (b : Nat) (M : Nat → Nat → Int32) (L : Nat → Nat → Int64) (g : Sg) (hS : CS M L g) (hok : OK g) : fm_Met l D cA b yX6_restore cX6_restore 1 (some .int) 4 89 0 0 [.ref (b + 0)] LAY M L LAY (fm_pm (fun r M' L' => r = (op_restore g).1 ∧ CS M' L' (op_restore g).2 ∧ fC M M' L L')) := by
  refine fm_start RX6 rfl (by decide) (Nat.le_of_ble_eq_true rfl) ?_
  intro pq eq sq mq aq bq tq cq hC hin
  obtain ⟨⟨n1, n2, n3, v0, v1, v2, v3, v4, v5, v6, v7, v8⟩, hS2⟩ := id hS
  obtain ⟨⟨o1, o2, o3, o4, o5, o6, o7, o8, o9, o10, o11⟩, hok2⟩ := id hok
  have kk : g.2.2.1 < 2 := hok.2.2.1
  refine g_aload_n hC dX6_restore_0 rfl 0 rfl ?_
  refine g_getI (ci := 6) (i := 2) (k := 0) hC fm_in6 rfl ly_0 rfl (by decide) fw_198 dX6_restore_1 ?_
  refine g_top (y := nI g.2.2.1) hS.2.2.1 ?_
  refine g_if_ne_T (X := ((g.2.2.1 : Nat) : Int)) hC (nI_toInt (by omega)) 10 dX6_restore_4 rfl (fun c_1 => ?_) (fun c_1 => ?_)
  · skip
    refine g_aload_n hC dX6_restore_10 rfl 0 rfl ?_
    refine g_getR (ci := 6) (i := 0) (k := 0) (t := 1) hC fm_in6 rfl ly_0 rfl (by decide) fw_196 dX6_restore_11 ?_
    refine g_aload_n hC dX6_restore_14 rfl 0 rfl ?_
    refine g_getR (ci := 6) (i := 1) (k := 0) (t := 15) hC fm_in6 rfl ly_0 rfl (by decide) fw_197 dX6_restore_15 ?_
    refine g_callV hC (k := 1) (ci := 5) (as := [.ref (b + 15)]) (rest := []) (c_X5_becomeLike_b l D cA b M L g.2.1 (hS.2.1 (by omega)) (hok.2.1 (by omega))) ⟨fw_514, fw_515, fw_516, fw_2, fw_517⟩ ⟨rfl, hd_X5_becomeLike⟩ rfl ly_1 ⟨Nat.le_of_ble_eq_true rfl, Nat.le_of_ble_eq_true rfl⟩ ⟨Nat.le_of_ble_eq_true rfl, Nat.le_of_ble_eq_true rfl⟩ rfl rfl (Nat.le_of_ble_eq_true rfl) dX6_restore_18 (g_rv (fun M_2 L_2 h_2 => ?_))
    obtain ⟨b1_2, b2_2, b3_2⟩ := h_2
    rw [b3_2]
    refine g_iconst (v := 1) hC dX6_restore_21 rfl ?_
    refine g_zret (ty := .int) hC rfl rfl dX6_restore_22 ?_
    have e0 : op_restore g = (1, (g.2.1, g.2)) := by unfold op_restore; rw [if_pos (by omega)]
    exact ⟨_, rfl, by rw [e0], by rw [e0]; exact CS_now hS hok b1_2 (fun q q1 q2 => b2_2 q (by omega)) (fun q q1 q2 => ⟨b2_2 q (by omega), rfl⟩), fun q hq => ⟨b2_2 q (by omega), rfl⟩⟩
  · skip
    refine g_bipush (v := (-4)) hC dX6_restore_7 rfl ?_
    refine g_zret (ty := .int) hC rfl rfl dX6_restore_9 ?_
    have e0 : op_restore g = (-4, g) := by unfold op_restore; rw [if_neg (by omega)]
    exact ⟨_, rfl, by rw [e0], by rw [e0]; exact hS, fC_rf⟩
