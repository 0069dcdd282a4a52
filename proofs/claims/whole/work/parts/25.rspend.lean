/-! ===== best, share, spend: the check's calls ===== -/
theorem tw_u (t : Tn) (p : Nat) {u : Int} (h : u = (p : Int)) : tw t u = (uN2 t.1 3 p 0, t.2) := by
  subst h
  unfold tw uN2
  refine Prod.ext ?_ rfl
  funext a j
  by_cases q : a = 3 ∧ j = p
  · exact (if_pos ⟨q.1, by omega⟩).trans (if_pos q).symm
  · exact (if_neg (fun z => q ⟨z.1, by omega⟩)).trans (if_neg q).symm
theorem fb_addn {n : Nat} {x : Int32} (h0 : n ≤ 9999) (h1 : -30 ≤ x.toInt) (h2 : x.toInt ≤ 30) : (nI n + x).toInt = (n : Int) + x.toInt := by
  rw [← oI_of x, nI_oI, oI_add, oI_t (by omega) (by omega), oI_t (by omega) (by omega)]
theorem up_self {M N : Nat → Nat → Int32} {k i : Nat} {v w : Int32} (h : N k = fm_up M k i v k) (hw : M k i = w) : fm_up N k i w k = M k := by
  funext j
  by_cases e : j = i
  · rw [e, fm_ups, hw]
  · rw [fm_upx e, h, fm_upx e]

theorem c_X7_best (l : Launch) (D : va_G) (cA : Nat → ClassId) (b : Nat) (M : Nat → Nat → Int32) (L : Nat → Nat → Int64) (g : Sg) (e : Int32) (i : Int32) (hS : RS M L g) (hok : OK g) : fm_Met l D cA b yX7_best cX7_best 4 (some .int) 4 98 0 0 [.ref (b + 58), .int e, .int i] LAY M L LAY (fm_pm (fun r M' L' => r = op_best g e i ∧ RS M' L' g ∧ fR M M' L L')) := by
  refine fm_start RX7 rfl (by decide) (Nat.le_of_ble_eq_true rfl) ?_
  intro pq eq sq mq aq bq tq cq hC hin
  obtain ⟨⟨n1, n2, n3, v0, v1, v2, v3, v4, v5, v6, v7, v8⟩, hS2⟩ := id hS
  obtain ⟨⟨o1, o2, o3, o4, o5, o6, o7, o8, o9, o10, o11⟩, hok2⟩ := id hok
  refine g_iload_n hC dX7_best_0 rfl 1 rfl ?_
  refine g_i2l (v := e.toInt64) hC dX7_best_1 rfl ?_
  refine g_lconst (v := 0) hC dX7_best_2 rfl ?_
  refine g_lconst (v := 1) hC dX7_best_3 rfl ?_
  refine g_callS hC (as := [.long e.toInt64, .long 0, .long 1]) (rest := []) (c_X7_in l D cA b LAY M L e.toInt64 0 1 e.toInt 0 1 ((ic_w _).trans rfl) rfl rfl) ⟨fw_725, fw_726, fw_9, fw_727⟩ hd_X7_in ⟨Nat.le_of_ble_eq_true rfl, Nat.le_of_ble_eq_true rfl⟩ ⟨Nat.le_of_ble_eq_true rfl, Nat.le_of_ble_eq_true rfl⟩ rfl rfl (Nat.le_of_ble_eq_true rfl) dX7_best_4 (g_rix ?_)
  refine g_ifb_eq hC 24 dX7_best_7 rfl (fun c_2 => ?_) (fun c_2 => ?_)
  · skip
    refine g_ldc (v := (-100000001)) hC fw_783 dX7_best_24 ?_
    refine g_zret (ty := .int) hC rfl rfl dX7_best_26 ?_
    exact ⟨_, rfl, by unfold op_best; rw [if_neg (by omega)], hS, fR_rf⟩
  · skip
    refine g_iload_n hC dX7_best_10 rfl 2 rfl ?_
    refine g_i2l (v := i.toInt64) hC dX7_best_11 rfl ?_
    refine g_ldc2 (v := (-1)) hC fw_895 dX7_best_12 ?_
    refine g_ldc2 (v := 23) hC fw_731 dX7_best_15 ?_
    refine g_callS hC (as := [.long i.toInt64, .long (-1), .long 23]) (rest := []) (c_X7_in l D cA b LAY M L i.toInt64 (-1) 23 i.toInt (-1) 23 ((ic_w _).trans rfl) rfl rfl) ⟨fw_725, fw_726, fw_9, fw_727⟩ hd_X7_in ⟨Nat.le_of_ble_eq_true rfl, Nat.le_of_ble_eq_true rfl⟩ ⟨Nat.le_of_ble_eq_true rfl, Nat.le_of_ble_eq_true rfl⟩ rfl rfl (Nat.le_of_ble_eq_true rfl) dX7_best_18 (g_rix ?_)
    refine g_ifb_ne hC 27 dX7_best_21 rfl (fun c_4 => ?_) (fun c_4 => ?_)
    · skip
      refine g_aload_n hC dX7_best_27 rfl 0 rfl ?_
      refine g_iload_n hC dX7_best_28 rfl 1 rfl ?_
      refine g_iconst (v := 1) hC dX7_best_29 rfl ?_
      refine g_icmp_ne_T (X := e.toInt) (Y := 1) hC rfl rfl 37 dX7_best_30 rfl (fun c_5 => ?_) (fun c_5 => ?_)
      · skip
        refine g_iconst (v := 0) hC dX7_best_37 rfl ?_
        refine g_callV hC (k := 58) (ci := 7) (as := [.int 0]) (rest := []) (c_X7_findBest l D cA b M L g false hS hok) ⟨fw_896, fw_898, fs_31, fw_9, fw_899⟩ ⟨rfl, hd_X7_findBest⟩ rfl ly_58 ⟨Nat.le_of_ble_eq_true rfl, Nat.le_of_ble_eq_true rfl⟩ ⟨Nat.le_of_ble_eq_true rfl, Nat.le_of_ble_eq_true rfl⟩ rfl rfl (Nat.le_of_ble_eq_true rfl) dX7_best_38 (g_rm (fun r_6 M_6 L_6 h_6 => ?_))
        obtain ⟨q1_6, q2_6, q3_6, q4_6⟩ := h_6
        rw [q1_6, q4_6]
        refine g_istore_n hC [(3, .int (Int32.ofInt (bVal g.1 false))), (0, .ref (b + 58)), (1, .int e), (2, .int i)] dX7_best_41 rfl (by decide) rfl ?_
        refine g_iload_n hC dX7_best_42 rfl 3 rfl ?_
        refine g_if_ge_T (X := i.toInt) hC rfl 50 dX7_best_43 rfl (fun c_7 => ?_) (fun c_7 => ?_)
        · skip
          refine g_aload_n hC dX7_best_50 rfl 1 rfl ?_
          refine g_getR (ci := 7) (i := 25) (k := 58) (t := 71) hC fm_in7 rfl ly_58 rfl (by decide) fw_645 dX7_best_51 ?_
          refine g_iload_n hC dX7_best_54 rfl 3 rfl ?_
          refine g_ialdN (j := i.toInt.toNat) (k := 71) hC ly_71 (ic_nI (by omega)) (by omega) (by decide) dX7_best_55 ?_
          refine g_top (y := Int32.ofInt (bRow g.1 false i.toInt.toNat)) (q2_6 _ (by omega)).1 ?_
          refine g_zret (ty := .int) hC rfl rfl dX7_best_56 ?_
          exact ⟨_, rfl, by unfold op_best; rw [if_pos (by omega), if_neg (by omega), show decide (e.toInt = 1) = false by simp [c_5]], RS_scr hS (fun q h0 h1 h2 => q3_6 q (by omega) (by omega) (by omega)) rfl, fun q hq => ⟨q3_6 q (by omega) (by omega) (by omega), rfl⟩⟩
        · skip
          refine g_iload_n hC dX7_best_46 rfl 0 rfl ?_
          refine g_goto hC 56 dX7_best_47 rfl ?_
          refine g_zret (ty := .int) hC rfl rfl dX7_best_56 ?_
          exact ⟨_, rfl, by unfold op_best; rw [if_pos (by omega), if_pos (by omega), show decide (e.toInt = 1) = false by simp [c_5]], RS_scr hS (fun q h0 h1 h2 => q3_6 q (by omega) (by omega) (by omega)) rfl, fun q hq => ⟨q3_6 q (by omega) (by omega) (by omega), rfl⟩⟩
      · skip
        refine g_iconst (v := 1) hC dX7_best_33 rfl ?_
        refine g_goto hC 38 dX7_best_34 rfl ?_
        refine g_callV hC (k := 58) (ci := 7) (as := [.int 1]) (rest := []) (c_X7_findBest l D cA b M L g true hS hok) ⟨fw_896, fw_898, fs_31, fw_9, fw_899⟩ ⟨rfl, hd_X7_findBest⟩ rfl ly_58 ⟨Nat.le_of_ble_eq_true rfl, Nat.le_of_ble_eq_true rfl⟩ ⟨Nat.le_of_ble_eq_true rfl, Nat.le_of_ble_eq_true rfl⟩ rfl rfl (Nat.le_of_ble_eq_true rfl) dX7_best_38 (g_rm (fun r_8 M_8 L_8 h_8 => ?_))
        obtain ⟨q1_8, q2_8, q3_8, q4_8⟩ := h_8
        rw [q1_8, q4_8]
        refine g_istore_n hC [(3, .int (Int32.ofInt (bVal g.1 true))), (0, .ref (b + 58)), (1, .int e), (2, .int i)] dX7_best_41 rfl (by decide) rfl ?_
        refine g_iload_n hC dX7_best_42 rfl 3 rfl ?_
        refine g_if_ge_T (X := i.toInt) hC rfl 50 dX7_best_43 rfl (fun c_9 => ?_) (fun c_9 => ?_)
        · skip
          refine g_aload_n hC dX7_best_50 rfl 1 rfl ?_
          refine g_getR (ci := 7) (i := 25) (k := 58) (t := 71) hC fm_in7 rfl ly_58 rfl (by decide) fw_645 dX7_best_51 ?_
          refine g_iload_n hC dX7_best_54 rfl 3 rfl ?_
          refine g_ialdN (j := i.toInt.toNat) (k := 71) hC ly_71 (ic_nI (by omega)) (by omega) (by decide) dX7_best_55 ?_
          refine g_top (y := Int32.ofInt (bRow g.1 true i.toInt.toNat)) (q2_8 _ (by omega)).1 ?_
          refine g_zret (ty := .int) hC rfl rfl dX7_best_56 ?_
          exact ⟨_, rfl, by unfold op_best; rw [if_pos (by omega), if_neg (by omega), show decide (e.toInt = 1) = true by simp [c_5]], RS_scr hS (fun q h0 h1 h2 => q3_8 q (by omega) (by omega) (by omega)) rfl, fun q hq => ⟨q3_8 q (by omega) (by omega) (by omega), rfl⟩⟩
        · skip
          refine g_iload_n hC dX7_best_46 rfl 0 rfl ?_
          refine g_goto hC 56 dX7_best_47 rfl ?_
          refine g_zret (ty := .int) hC rfl rfl dX7_best_56 ?_
          exact ⟨_, rfl, by unfold op_best; rw [if_pos (by omega), if_pos (by omega), show decide (e.toInt = 1) = true by simp [c_5]], RS_scr hS (fun q h0 h1 h2 => q3_8 q (by omega) (by omega) (by omega)) rfl, fun q hq => ⟨q3_8 q (by omega) (by omega) (by omega), rfl⟩⟩
    · skip
      refine g_ldc (v := (-100000001)) hC fw_783 dX7_best_24 ?_
      refine g_zret (ty := .int) hC rfl rfl dX7_best_26 ?_
      exact ⟨_, rfl, by unfold op_best; rw [if_neg (by omega)], hS, fR_rf⟩

theorem c_X7_share (l : Launch) (D : va_G) (cA : Nat → ClassId) (b : Nat) (M : Nat → Nat → Int32) (L : Nat → Nat → Int64) (g : Sg) (x : Int32) (hS : RS M L g) (hok : OK g) : fm_Met l D cA b yX7_share cX7_share 5 (some .int) 4 98 0 0 [.ref (b + 58), .int x] LAY M L LAY (fm_pm (fun r M' L' => r = op_share g x ∧ RS M' L' g ∧ fR M M' L L')) := by
  refine fm_start RX7 rfl (by decide) (Nat.le_of_ble_eq_true rfl) ?_
  intro pq eq sq mq aq bq tq cq hC hin
  obtain ⟨⟨n1, n2, n3, v0, v1, v2, v3, v4, v5, v6, v7, v8⟩, hS2⟩ := id hS
  obtain ⟨⟨o1, o2, o3, o4, o5, o6, o7, o8, o9, o10, o11⟩, hok2⟩ := id hok
  refine g_aload_n hC dX7_share_0 rfl 0 rfl ?_
  refine g_iload_n hC dX7_share_1 rfl 1 rfl ?_
  refine g_callV hC (k := 58) (ci := 7) (as := [.int x]) (rest := []) (c_X7_isOne l D cA b M L g x x.toInt hS hok rfl) ⟨fw_741, fw_743, fs_16, fw_9, fw_744⟩ ⟨rfl, hd_X7_isOne⟩ rfl ly_58 ⟨Nat.le_of_ble_eq_true rfl, Nat.le_of_ble_eq_true rfl⟩ ⟨Nat.le_of_ble_eq_true rfl, Nat.le_of_ble_eq_true rfl⟩ rfl rfl (Nat.le_of_ble_eq_true rfl) dX7_share_2 (g_rix ?_)
  refine g_ifb_ne hC 10 dX7_share_5 rfl (fun c_2 => ?_) (fun c_2 => ?_)
  · skip
    refine g_aload_n hC dX7_share_10 rfl 0 rfl ?_
    refine g_iconst (v := 0) hC dX7_share_11 rfl ?_
    refine g_callV hC (k := 58) (ci := 7) (as := [.int 0]) (rest := []) (c_X7_findBest l D cA b M L g false hS hok) ⟨fw_896, fw_898, fs_31, fw_9, fw_899⟩ ⟨rfl, hd_X7_findBest⟩ rfl ly_58 ⟨Nat.le_of_ble_eq_true rfl, Nat.le_of_ble_eq_true rfl⟩ ⟨Nat.le_of_ble_eq_true rfl, Nat.le_of_ble_eq_true rfl⟩ rfl rfl (Nat.le_of_ble_eq_true rfl) dX7_share_12 (g_rm (fun r_3 M_3 L_3 h_3 => ?_))
    obtain ⟨q1_3, q2_3, q3_3, q4_3⟩ := h_3
    rw [q1_3, q4_3]
    have hS_n : RS M_3 L g := RS_scr hS (fun q x1 x2 x3 => q3_3 q (by omega) (by omega) (by omega)) rfl
    have hSt : RS (fm_up M_3 62 x.toInt.toNat (nI 0)) L ((uN2 g.1.1 3 x.toInt.toNat 0, g.1.2), g.2) := RS_now hS_n (tR_may hS_n.1) (fun i _ _ _ _ => by rw [fm_upn (by omega)]) (fun k hk => fm_upn (by omega)) rfl
    have hokt : OK ((uN2 g.1.1 3 x.toInt.toNat 0, g.1.2), g.2) := ⟨by have := tw_ok hok.1 x.toInt; rw [tw_u g.1 x.toInt.toNat (by omega)] at this; exact this, hok.2⟩
    refine g_istore_n hC [(2, .int (Int32.ofInt (bVal g.1 false))), (0, .ref (b + 58)), (1, .int x)] dX7_share_15 rfl (by decide) rfl ?_
    refine g_aload_n hC dX7_share_16 rfl 1 rfl ?_
    refine g_getR (ci := 7) (i := 3) (k := 58) (t := 62) hC fm_in7 rfl ly_58 rfl (by decide) fw_623 dX7_share_17 ?_
    refine g_iload_n hC dX7_share_20 rfl 2 rfl ?_
    refine g_ialdN (j := x.toInt.toNat) (k := 62) hC ly_62 (ic_nI (by omega)) (by omega) (by decide) dX7_share_21 ?_
    refine g_top (y := nI (g.1.1 3 x.toInt.toNat)) (by rw [q3_3 62 (by omega) (by omega) (by omega)]; exact (n1 _ (by omega)).2.2.2) ?_
    refine g_istore_n hC [(3, .int (nI (g.1.1 3 x.toInt.toNat))), (2, .int (Int32.ofInt (bVal g.1 false))), (0, .ref (b + 58)), (1, .int x)] dX7_share_22 rfl (by decide) rfl ?_
    refine g_aload_n hC dX7_share_23 rfl 2 rfl ?_
    refine g_getR (ci := 7) (i := 3) (k := 58) (t := 62) hC fm_in7 rfl ly_58 rfl (by decide) fw_623 dX7_share_24 ?_
    refine g_iload_n hC dX7_share_27 rfl 3 rfl ?_
    refine g_iconst (v := 0) hC dX7_share_28 rfl ?_
    refine g_iastN (j := x.toInt.toNat) (k := 62) hC ly_62 (ic_nI (by omega)) (by omega) (by decide) dX7_share_29 ?_
    refine g_aload_n hC dX7_share_30 rfl 2 rfl ?_
    refine g_iconst (v := 0) hC dX7_share_31 rfl ?_
    refine g_callV hC (k := 58) (ci := 7) (as := [.int 0]) (rest := []) (c_X7_findBest l D cA b (fm_up M_3 62 x.toInt.toNat 0) L ((uN2 g.1.1 3 x.toInt.toNat 0, g.1.2), g.2) false hSt hokt) ⟨fw_896, fw_898, fs_31, fw_9, fw_899⟩ ⟨rfl, hd_X7_findBest⟩ rfl ly_58 ⟨Nat.le_of_ble_eq_true rfl, Nat.le_of_ble_eq_true rfl⟩ ⟨Nat.le_of_ble_eq_true rfl, Nat.le_of_ble_eq_true rfl⟩ rfl rfl (Nat.le_of_ble_eq_true rfl) dX7_share_32 (g_rm (fun r_4 M_4 L_4 h_4 => ?_))
    obtain ⟨q1_4, q2_4, q3_4, q4_4⟩ := h_4
    rw [q1_4, q4_4]
    refine g_istore hC [(4, .int (Int32.ofInt (bVal (uN2 g.1.1 3 x.toInt.toNat 0, g.1.2) false))), (3, .int (nI (g.1.1 3 x.toInt.toNat))), (2, .int (Int32.ofInt (bVal g.1 false))), (0, .ref (b + 58)), (1, .int x)] dX7_share_35 (by decide) rfl ?_
    refine g_aload_n hC dX7_share_37 rfl 3 rfl ?_
    refine g_getR (ci := 7) (i := 3) (k := 58) (t := 62) hC fm_in7 rfl ly_58 rfl (by decide) fw_623 dX7_share_38 ?_
    refine g_iload_n hC dX7_share_41 rfl 4 rfl ?_
    refine g_iload_n hC dX7_share_42 rfl 1 rfl ?_
    refine g_iastN (j := x.toInt.toNat) (k := 62) hC ly_62 (ic_nI (by omega)) (by omega) (by decide) dX7_share_43 ?_
    refine g_iload_n hC dX7_share_44 rfl 2 rfl ?_
    refine g_iload hC dX7_share_45 0 rfl ?_
    refine g_isub hC dX7_share_47 ?_
    refine g_zret (ty := .int) hC rfl rfl dX7_share_48 ?_
    have ek : ∀ q, q ≠ 69 → q ≠ 70 → q ≠ 71 → fm_up M_4 62 x.toInt.toNat (nI (g.1.1 3 x.toInt.toNat)) q = M q := fun q z1 z2 z3 => by
      by_cases e : q = 62
      · rw [e, up_self (q3_4 62 (by omega) (by omega) (by omega)) (by rw [q3_3 62 (by omega) (by omega) (by omega)]; exact (n1 _ (by omega)).2.2.2), q3_3 62 (by omega) (by omega) (by omega)]
      · rw [fm_upn e, q3_4 q z1 z2 z3, fm_upn e, q3_3 q z1 z2 z3]
    exact ⟨_, rfl, by unfold op_share; rw [if_pos (by omega), tw_u g.1 x.toInt.toNat (by omega)], RS_scr hS (fun q h0 h1 h2 => ek q (by omega) (by omega) (by omega)) rfl, fun q hq => ⟨ek q (by omega) (by omega) (by omega), rfl⟩⟩
  · skip
    refine g_iconst (v := (-1)) hC dX7_share_8 rfl ?_
    refine g_zret (ty := .int) hC rfl rfl dX7_share_9 ?_
    exact ⟨_, rfl, by unfold op_share; rw [if_neg (by omega)], hS, fR_rf⟩

theorem c_X7_spend (l : Launch) (D : va_G) (cA : Nat → ClassId) (b : Nat) (M : Nat → Nat → Int32) (L : Nat → Nat → Int64) (g : Sg) (x : Int32) (hS : RS M L g) (hok : OK g) : fm_Met l D cA b yX7_spend cX7_spend 4 (some .int) 5 117 0 0 [.ref (b + 58), .int x] LAY M L LAY (fm_pm (fun r M' L' => r = (op_spend g x).1 ∧ RS M' L' (op_spend g x).2 ∧ fR M M' L L')) := by
  refine fm_start RX7 rfl (by decide) (Nat.le_of_ble_eq_true rfl) ?_
  intro pq eq sq mq aq bq tq cq hC hin
  obtain ⟨⟨n1, n2, n3, v0, v1, v2, v3, v4, v5, v6, v7, v8⟩, hS2⟩ := id hS
  obtain ⟨⟨o1, o2, o3, o4, o5, o6, o7, o8, o9, o10, o11⟩, hok2⟩ := id hok
  refine g_iload_n hC dX7_spend_0 rfl 1 rfl ?_
  refine g_i2l (v := x.toInt64) hC dX7_spend_1 rfl ?_
  refine g_lconst (v := 1) hC dX7_spend_2 rfl ?_
  refine g_ldc2 (v := 30) hC fw_905 dX7_spend_3 ?_
  refine g_callS hC (as := [.long x.toInt64, .long 1, .long 30]) (rest := []) (c_X7_in l D cA b LAY M L x.toInt64 1 30 x.toInt 1 30 ((ic_w _).trans rfl) rfl rfl) ⟨fw_725, fw_726, fw_9, fw_727⟩ hd_X7_in ⟨Nat.le_of_ble_eq_true rfl, Nat.le_of_ble_eq_true rfl⟩ ⟨Nat.le_of_ble_eq_true rfl, Nat.le_of_ble_eq_true rfl⟩ rfl rfl (Nat.le_of_ble_eq_true rfl) dX7_spend_6 (g_rix ?_)
  refine g_ifb_ne hC 15 dX7_spend_9 rfl (fun c_2 => ?_) (fun c_2 => ?_)
  · skip
    refine g_aload_n hC dX7_spend_15 rfl 0 rfl ?_
    refine g_getI (ci := 7) (i := 14) (k := 58) hC fm_in7 rfl ly_58 rfl (by decide) fw_634 dX7_spend_16 ?_
    refine g_top (y := nI (g.1.1 7 6)) v6 ?_
    refine g_iload_n hC dX7_spend_19 rfl 1 rfl ?_
    refine g_iadd hC dX7_spend_20 ?_
    refine g_top (y := nI (g.1.1 7 6) + x) rfl ?_
    refine g_sipush (v := 9999) hC dX7_spend_21 rfl ?_
    refine g_icmp_le_T (X := ((g.1.1 7 6 : Nat) : Int) + x.toInt) (Y := 9999) hC (fb_addn (by omega) (by omega) (by omega)) rfl 30 dX7_spend_24 rfl (fun c_3 => ?_) (fun c_3 => ?_)
    · skip
      refine g_iconst (v := 0) hC dX7_spend_30 rfl ?_
      refine g_istore_n hC [(2, .int 0), (0, .ref (b + 58)), (1, .int x)] dX7_spend_31 rfl (by decide) rfl ?_
      refine g_iconst (v := 0) hC dX7_spend_32 rfl ?_
      refine g_istore_n hC [(3, .int 0), (2, .int 0), (0, .ref (b + 58)), (1, .int x)] dX7_spend_33 rfl (by decide) rfl ?_
      have lp_34_4 : ∀ (n_4 : Nat) (M1 : Nat → Nat → Int32) (L1 : Nat → Nat → Int64) (i : Nat), x.toInt.toNat - i < n_4 → (i ≤ x.toInt.toNat ∧ RS M1 L1 (spT g.1 i, g.2) ∧ fR M M1 L L1) → fm_G pq l eq (fm_rm 5 117 0 0) sq mq aq bq tq cq D cA b 4 (MQ bq (fm_Q D cA b LAY (fm_pm (fun r M' L' => r = (op_spend g x).1 ∧ RS M' L' (op_spend g x).2 ∧ fR M M' L L'))) aq sq 0 0 (fun q => b ≤ q)) LAY M1 L1 0 0 34 [(0, .ref (b + 58)), (1, .int x), (2, .int (spS g.1 i)), (3, .int (nI i))] [] := by
        intro n_4
        induction n_4 with
        | zero => intro M1 L1 i hm_4; exact absurd hm_4 (Nat.not_lt_zero _)
        | succ n_4 ih_4 =>
          intro M1 L1 i hm_4 hinv_4
          obtain ⟨s1, s2, s3⟩ := hinv_4
          have s6 := sp_6 g.1 i
          have hti : tOK (spT g.1 i) := sp_ok hok.1 (by omega)
          have hoki : OK (spT g.1 i, g.2) := ⟨hti, hok.2⟩
          refine g_iload_n hC dX7_spend_34 rfl 3 rfl ?_
          refine g_iload_n hC dX7_spend_35 rfl 1 rfl ?_
          refine g_icmp_ge_T (X := ((i : Nat) : Int)) (Y := x.toInt) hC (nI_toInt (by omega)) rfl 62 dX7_spend_36 rfl (fun c_5 => ?_) (fun c_5 => ?_)
          · skip
            refine g_iload_n hC dX7_spend_62 rfl 2 rfl ?_
            refine g_zret (ty := .int) hC rfl rfl dX7_spend_63 ?_
            have ei : x.toInt.toNat = i := by omega
            have e0 : op_spend g x = (spS g.1 i, (spT g.1 i, g.2)) := by unfold op_spend; rw [if_pos (by omega), if_pos (by omega), ei]
            exact ⟨_, rfl, by rw [e0], by rw [e0]; exact s2, s3⟩
          · skip
            refine g_aload_n hC dX7_spend_39 rfl 0 rfl ?_
            refine g_iconst (v := 0) hC dX7_spend_40 rfl ?_
            refine g_callV hC (k := 58) (ci := 7) (as := [.int 0]) (rest := []) (c_X7_findBest l D cA b M1 L1 (spT g.1 i, g.2) false s2 hoki) ⟨fw_896, fw_898, fs_31, fw_9, fw_899⟩ ⟨rfl, hd_X7_findBest⟩ rfl ly_58 ⟨Nat.le_of_ble_eq_true rfl, Nat.le_of_ble_eq_true rfl⟩ ⟨Nat.le_of_ble_eq_true rfl, Nat.le_of_ble_eq_true rfl⟩ rfl rfl (Nat.le_of_ble_eq_true rfl) dX7_spend_41 (g_rm (fun r_6 M_6 L_6 h_6 => ?_))
            obtain ⟨q1_6, q2_6, q3_6, q4_6⟩ := h_6
            rw [q1_6, q4_6]
            refine g_pop hC dX7_spend_44 rfl ?_
            refine g_iload_n hC dX7_spend_45 rfl 2 rfl ?_
            refine g_aload_n hC dX7_spend_46 rfl 0 rfl ?_
            refine g_aload_n hC dX7_spend_47 rfl 0 rfl ?_
            refine g_getR (ci := 7) (i := 25) (k := 58) (t := 71) hC fm_in7 rfl ly_58 rfl (by decide) fw_645 dX7_spend_48 ?_
            refine g_callV hC (k := 58) (ci := 7) (as := [.ref (b + 71)]) (rest := [.int (spS g.1 i)]) (c_X7_dayBy l D cA b M_6 L1 (spT g.1 i, g.2) 71 (bRow (spT g.1 i) false) (RS_scr s2 (fun q z0 z1 z2 => q3_6 q (by omega) (by omega) (by omega)) rfl) hoki ly_71 q2_6 (bRow_end _ _) (show (spT g.1 i).1 7 6 < 9999 by omega) (by decide)) ⟨fw_887, fw_889, fs_30, fw_9, fw_890⟩ ⟨rfl, hd_X7_dayBy⟩ rfl ly_58 ⟨Nat.le_of_ble_eq_true rfl, Nat.le_of_ble_eq_true rfl⟩ ⟨Nat.le_of_ble_eq_true rfl, Nat.le_of_ble_eq_true rfl⟩ rfl rfl (Nat.le_of_ble_eq_true rfl) dX7_spend_51 (g_rm (fun r_7 M_7 L_7 h_7 => ?_))
            obtain ⟨d1_7, d2_7, d3_7⟩ := h_7
            rw [d1_7]
            refine g_iadd hC dX7_spend_54 ?_
            refine g_top (y := spS g.1 (i + 1)) rfl ?_
            refine g_istore_n hC [(2, .int (spS g.1 (i + 1))), (0, .ref (b + 58)), (1, .int x), (3, .int (nI i))] dX7_spend_55 rfl (by decide) rfl ?_
            refine g_iinc hC [(3, .int (nI (i + 1))), (2, .int (spS g.1 (i + 1))), (0, .ref (b + 58)), (1, .int x)] dX7_spend_56 3 rfl (by rw [show Int32.ofInt 1 = nI 1 from rfl, nI_add]) (by decide) rfl ?_
            refine g_goto hC 34 dX7_spend_59 rfl ?_
            exact g_sub [2, 3, 1, 0] rfl (ih_4 M_7 L_7 (i + 1) (by omega) (⟨by omega, d2_7, fun q hq => ⟨(d3_7 q (by omega)).1.trans ((q3_6 q (by omega) (by omega) (by omega)).trans (s3 q hq).1), (d3_7 q (by omega)).2.trans (s3 q hq).2⟩⟩))
      exact g_sub [2, 3, 1, 0] rfl (lp_34_4 (x.toInt.toNat - 0 + 1) M L 0 (Nat.lt_succ_self _) (⟨by omega, hS, fR_rf⟩))
    · skip
      refine g_ldc (v := (-100000003)) hC fw_886 dX7_spend_27 ?_
      refine g_zret (ty := .int) hC rfl rfl dX7_spend_29 ?_
      have e0 : op_spend g x = (-100000003, g) := by unfold op_spend; rw [if_pos (by omega), if_neg (by omega)]
      exact ⟨_, rfl, by rw [e0], by rw [e0]; exact hS, fR_rf⟩
  · skip
    refine g_ldc (v := (-100000001)) hC fw_783 dX7_spend_12 ?_
    refine g_zret (ty := .int) hC rfl rfl dX7_spend_14 ?_
    have e0 : op_spend g x = (-100000001, g) := by unfold op_spend; rw [if_neg (by omega)]
    exact ⟨_, rfl, by rw [e0], by rw [e0]; exact hS, fR_rf⟩
