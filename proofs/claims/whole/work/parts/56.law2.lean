/-! ===== the law: cases 9 to 17 ===== -/

theorem lc_9 {pq : Program} {l : Launch} {eq : Env} {sq : State} {mq : MethodId} {aq : Array Value} {bq : List Frame} {tq : Method} {cq : Code} {Q : State → Prop} {D : va_G} {cA : Nat → ClassId} {b bs n k : Nat} {xs : Nat → Int32} {M : Nat → Nat → Int32} {L : Nat → Nat → Int64} {g : Sg} (hC : fm_C pq sq mq aq tq cq D cA b cL_law 4 RL ret 0) (hX : va_X bs n xs sq sq.heap) (hbl : bs < sq.heap.size) (hbA : bs < b) (hn : n ≤ 3072) (hi : 6 * k + 6 ≤ n) (hS : CS M L g) (hR : RS M L g) (hok : OK g) (kk : ∀ (M' : Nat → Nat → Int32) (L' : Nat → Nat → Int64) (g' : Sg), CS M' L' g' → RS M' L' g' → OK g' → fm_G pq l eq room_1 sq mq aq bq tq cq D cA b 4 Q LAY M' L' 78 6668 1284 [(3, .int (nI (6 * k))), (2, .ref (b + 58)), (1, .ref (b + 0)), (0, .ref bs)] []) : fm_G pq l eq room_1 sq mq aq bq tq cq D cA b 4 Q LAY M L 78 6668 515 [(3, .int (nI (6 * k))), (2, .ref (b + 58)), (1, .ref (b + 0)), (0, .ref bs)] [] := by
  refine g_aload_n hC dL_law_515 rfl 2 rfl ?_
  refine g_callV hC (k := 0) (ci := 6) (as := []) (rest := []) (c_X6_town l D cA b M L g hS hok) ⟨fw_309, fw_310, fw_311, fw_1, fw_312⟩ ⟨rfl, hd_X6_town⟩ rfl ly_0 ⟨Nat.le_of_ble_eq_true rfl, Nat.le_of_ble_eq_true rfl⟩ ⟨Nat.le_of_ble_eq_true rfl, Nat.le_of_ble_eq_true rfl⟩ rfl rfl (Nat.le_of_ble_eq_true rfl) dL_law_516 (g_rm (fun r_1 M_1 L_1 h_1 => ?_))
  obtain ⟨e_1, cs_1, f_1⟩ := h_1
  rw [e_1]
  have rs_1 : RS M_1 L_1 g := RS_fC hR f_1
  refine g_aload_n hC dL_law_519 rfl 1 rfl ?_
  refine g_callV hC (k := 58) (ci := 7) (as := []) (rest := [.int ((op_town g).1)]) (c_X7_town l D cA b M_1 L_1 g rs_1 hok) ⟨fw_792, fw_793, fw_794, fw_9, fw_795⟩ ⟨rfl, hd_X7_town⟩ rfl ly_58 ⟨Nat.le_of_ble_eq_true rfl, Nat.le_of_ble_eq_true rfl⟩ ⟨Nat.le_of_ble_eq_true rfl, Nat.le_of_ble_eq_true rfl⟩ rfl rfl (Nat.le_of_ble_eq_true rfl) dL_law_520 (g_rm (fun r_2 M_2 L_2 h_2 => ?_))
  obtain ⟨e_2, rs_2, f_2⟩ := h_2
  rw [e_2]
  have cs_2 : CS M_2 L_2 _ := CS_fR cs_1 (ok_town hok) f_2
  refine g_icmp_eq_T (X := ((op_town g).1).toInt) (Y := ((op_town g).1).toInt) hC rfl rfl 1284 dL_law_523 rfl (fun _ => ?_) (fun c_3 => absurd rfl c_3)
  exact kk _ _ _ cs_2 rs_2 (ok_town hok)

theorem lc_10 {pq : Program} {l : Launch} {eq : Env} {sq : State} {mq : MethodId} {aq : Array Value} {bq : List Frame} {tq : Method} {cq : Code} {Q : State → Prop} {D : va_G} {cA : Nat → ClassId} {b bs n k : Nat} {xs : Nat → Int32} {M : Nat → Nat → Int32} {L : Nat → Nat → Int64} {g : Sg} (hC : fm_C pq sq mq aq tq cq D cA b cL_law 4 RL ret 0) (hX : va_X bs n xs sq sq.heap) (hbl : bs < sq.heap.size) (hbA : bs < b) (hn : n ≤ 3072) (hi : 6 * k + 6 ≤ n) (hS : CS M L g) (hR : RS M L g) (hok : OK g) (kk : ∀ (M' : Nat → Nat → Int32) (L' : Nat → Nat → Int64) (g' : Sg), CS M' L' g' → RS M' L' g' → OK g' → fm_G pq l eq room_1 sq mq aq bq tq cq D cA b 4 Q LAY M' L' 78 6668 1284 [(3, .int (nI (6 * k))), (2, .ref (b + 58)), (1, .ref (b + 0)), (0, .ref bs)] []) : fm_G pq l eq room_1 sq mq aq bq tq cq D cA b 4 Q LAY M L 78 6668 528 [(3, .int (nI (6 * k))), (2, .ref (b + 58)), (1, .ref (b + 0)), (0, .ref bs)] [] := by
  refine g_aload_n hC dL_law_528 rfl 2 rfl ?_
  refine g_callV hC (k := 0) (ci := 6) (as := []) (rest := []) (c_X6_plan l D cA b M L g hS hok) ⟨fw_358, fw_359, fw_360, fw_1, fw_361⟩ ⟨rfl, hd_X6_plan⟩ rfl ly_0 ⟨Nat.le_of_ble_eq_true rfl, Nat.le_of_ble_eq_true rfl⟩ ⟨Nat.le_of_ble_eq_true rfl, Nat.le_of_ble_eq_true rfl⟩ rfl rfl (Nat.le_of_ble_eq_true rfl) dL_law_529 (g_rm (fun r_1 M_1 L_1 h_1 => ?_))
  obtain ⟨e_1, cs_1, f_1⟩ := h_1
  rw [e_1]
  have rs_1 : RS M_1 L_1 g := RS_fC hR f_1
  refine g_aload_n hC dL_law_532 rfl 1 rfl ?_
  refine g_callV hC (k := 58) (ci := 7) (as := []) (rest := [.int ((op_plan g).1)]) (c_X7_plan l D cA b M_1 L_1 g rs_1 hok) ⟨fw_823, fw_824, fw_825, fw_9, fw_826⟩ ⟨rfl, hd_X7_plan⟩ rfl ly_58 ⟨Nat.le_of_ble_eq_true rfl, Nat.le_of_ble_eq_true rfl⟩ ⟨Nat.le_of_ble_eq_true rfl, Nat.le_of_ble_eq_true rfl⟩ rfl rfl (Nat.le_of_ble_eq_true rfl) dL_law_533 (g_rm (fun r_2 M_2 L_2 h_2 => ?_))
  obtain ⟨e_2, rs_2, f_2⟩ := h_2
  rw [e_2]
  have cs_2 : CS M_2 L_2 _ := CS_fR cs_1 (ok_plan hok) f_2
  refine g_icmp_eq_T (X := ((op_plan g).1).toInt) (Y := ((op_plan g).1).toInt) hC rfl rfl 1284 dL_law_536 rfl (fun _ => ?_) (fun c_3 => absurd rfl c_3)
  exact kk _ _ _ cs_2 rs_2 (ok_plan hok)

theorem lc_11 {pq : Program} {l : Launch} {eq : Env} {sq : State} {mq : MethodId} {aq : Array Value} {bq : List Frame} {tq : Method} {cq : Code} {Q : State → Prop} {D : va_G} {cA : Nat → ClassId} {b bs n k : Nat} {xs : Nat → Int32} {M : Nat → Nat → Int32} {L : Nat → Nat → Int64} {g : Sg} (hC : fm_C pq sq mq aq tq cq D cA b cL_law 4 RL ret 0) (hX : va_X bs n xs sq sq.heap) (hbl : bs < sq.heap.size) (hbA : bs < b) (hn : n ≤ 3072) (hi : 6 * k + 6 ≤ n) (hS : CS M L g) (hR : RS M L g) (hok : OK g) (kk : ∀ (M' : Nat → Nat → Int32) (L' : Nat → Nat → Int64) (g' : Sg), CS M' L' g' → RS M' L' g' → OK g' → fm_G pq l eq room_1 sq mq aq bq tq cq D cA b 4 Q LAY M' L' 78 6668 1284 [(3, .int (nI (6 * k))), (2, .ref (b + 58)), (1, .ref (b + 0)), (0, .ref bs)] []) : fm_G pq l eq room_1 sq mq aq bq tq cq D cA b 4 Q LAY M L 78 6668 541 [(3, .int (nI (6 * k))), (2, .ref (b + 58)), (1, .ref (b + 0)), (0, .ref bs)] [] := by
  refine g_aload_n hC dL_law_541 rfl 2 rfl ?_
  refine g_aload_n hC dL_law_542 rfl 3 rfl ?_
  refine g_iload_n hC dL_law_543 rfl 0 rfl ?_
  refine g_iconst (v := 1) hC dL_law_544 rfl ?_
  refine g_iadd hC dL_law_545 ?_
  refine g_top (y := nI ((6 * k) + 1)) (nI_add _ _) ?_
  refine g_sld hC hX hbl hbA ((6 * k) + 1) rfl (by omega) (by omega) dL_law_546 ?_
  refine g_aload_n hC dL_law_547 rfl 3 rfl ?_
  refine g_iload_n hC dL_law_548 rfl 0 rfl ?_
  refine g_iconst (v := 2) hC dL_law_549 rfl ?_
  refine g_iadd hC dL_law_550 ?_
  refine g_top (y := nI ((6 * k) + 2)) (nI_add _ _) ?_
  refine g_sld hC hX hbl hbA ((6 * k) + 2) rfl (by omega) (by omega) dL_law_551 ?_
  refine g_callV hC (k := 0) (ci := 6) (as := [.int (xs ((6 * k) + 1)), .int (xs ((6 * k) + 2))]) (rest := []) (c_X6_lay l D cA b M L g (xs ((6 * k) + 1)) (xs ((6 * k) + 2)) hS hok) ⟨fw_374, fw_375, fw_376, fw_1, fw_377⟩ ⟨rfl, hd_X6_lay⟩ rfl ly_0 ⟨Nat.le_of_ble_eq_true rfl, Nat.le_of_ble_eq_true rfl⟩ ⟨Nat.le_of_ble_eq_true rfl, Nat.le_of_ble_eq_true rfl⟩ rfl rfl (Nat.le_of_ble_eq_true rfl) dL_law_552 (g_rm (fun r_1 M_1 L_1 h_1 => ?_))
  obtain ⟨e_1, cs_1, f_1⟩ := h_1
  rw [e_1]
  have rs_1 : RS M_1 L_1 g := RS_fC hR f_1
  refine g_aload_n hC dL_law_555 rfl 1 rfl ?_
  refine g_aload_n hC dL_law_556 rfl 3 rfl ?_
  refine g_iload_n hC dL_law_557 rfl 0 rfl ?_
  refine g_iconst (v := 1) hC dL_law_558 rfl ?_
  refine g_iadd hC dL_law_559 ?_
  refine g_top (y := nI ((6 * k) + 1)) (nI_add _ _) ?_
  refine g_sld hC hX hbl hbA ((6 * k) + 1) rfl (by omega) (by omega) dL_law_560 ?_
  refine g_aload_n hC dL_law_561 rfl 3 rfl ?_
  refine g_iload_n hC dL_law_562 rfl 0 rfl ?_
  refine g_iconst (v := 2) hC dL_law_563 rfl ?_
  refine g_iadd hC dL_law_564 ?_
  refine g_top (y := nI ((6 * k) + 2)) (nI_add _ _) ?_
  refine g_sld hC hX hbl hbA ((6 * k) + 2) rfl (by omega) (by omega) dL_law_565 ?_
  refine g_callV hC (k := 58) (ci := 7) (as := [.int (xs ((6 * k) + 1)), .int (xs ((6 * k) + 2))]) (rest := [.int ((op_lay g (xs ((6 * k) + 1)) (xs ((6 * k) + 2))).1)]) (c_X7_lay l D cA b M_1 L_1 g (xs ((6 * k) + 1)) (xs ((6 * k) + 2)) rs_1 hok) ⟨fw_837, fw_838, fw_839, fw_9, fw_840⟩ ⟨rfl, hd_X7_lay⟩ rfl ly_58 ⟨Nat.le_of_ble_eq_true rfl, Nat.le_of_ble_eq_true rfl⟩ ⟨Nat.le_of_ble_eq_true rfl, Nat.le_of_ble_eq_true rfl⟩ rfl rfl (Nat.le_of_ble_eq_true rfl) dL_law_566 (g_rm (fun r_2 M_2 L_2 h_2 => ?_))
  obtain ⟨e_2, rs_2, f_2⟩ := h_2
  rw [e_2]
  have cs_2 : CS M_2 L_2 _ := CS_fR cs_1 (ok_lay hok (xs ((6 * k) + 1)) (xs ((6 * k) + 2))) f_2
  refine g_icmp_eq_T (X := ((op_lay g (xs ((6 * k) + 1)) (xs ((6 * k) + 2))).1).toInt) (Y := ((op_lay g (xs ((6 * k) + 1)) (xs ((6 * k) + 2))).1).toInt) hC rfl rfl 1284 dL_law_569 rfl (fun _ => ?_) (fun c_3 => absurd rfl c_3)
  exact kk _ _ _ cs_2 rs_2 (ok_lay hok (xs ((6 * k) + 1)) (xs ((6 * k) + 2)))

theorem lc_12 {pq : Program} {l : Launch} {eq : Env} {sq : State} {mq : MethodId} {aq : Array Value} {bq : List Frame} {tq : Method} {cq : Code} {Q : State → Prop} {D : va_G} {cA : Nat → ClassId} {b bs n k : Nat} {xs : Nat → Int32} {M : Nat → Nat → Int32} {L : Nat → Nat → Int64} {g : Sg} (hC : fm_C pq sq mq aq tq cq D cA b cL_law 4 RL ret 0) (hX : va_X bs n xs sq sq.heap) (hbl : bs < sq.heap.size) (hbA : bs < b) (hn : n ≤ 3072) (hi : 6 * k + 6 ≤ n) (hS : CS M L g) (hR : RS M L g) (hok : OK g) (kk : ∀ (M' : Nat → Nat → Int32) (L' : Nat → Nat → Int64) (g' : Sg), CS M' L' g' → RS M' L' g' → OK g' → fm_G pq l eq room_1 sq mq aq bq tq cq D cA b 4 Q LAY M' L' 78 6668 1284 [(3, .int (nI (6 * k))), (2, .ref (b + 58)), (1, .ref (b + 0)), (0, .ref bs)] []) : fm_G pq l eq room_1 sq mq aq bq tq cq D cA b 4 Q LAY M L 78 6668 574 [(3, .int (nI (6 * k))), (2, .ref (b + 58)), (1, .ref (b + 0)), (0, .ref bs)] [] := by
  refine g_aload_n hC dL_law_574 rfl 2 rfl ?_
  refine g_aload_n hC dL_law_575 rfl 3 rfl ?_
  refine g_iload_n hC dL_law_576 rfl 0 rfl ?_
  refine g_iconst (v := 1) hC dL_law_577 rfl ?_
  refine g_iadd hC dL_law_578 ?_
  refine g_top (y := nI ((6 * k) + 1)) (nI_add _ _) ?_
  refine g_sld hC hX hbl hbA ((6 * k) + 1) rfl (by omega) (by omega) dL_law_579 ?_
  refine g_callV hC (k := 0) (ci := 6) (as := [.int (xs ((6 * k) + 1))]) (rest := []) (c_X6_is l D cA b M L g (xs ((6 * k) + 1)) hS hok) ⟨fw_383, fw_287, fw_288, fw_1, fw_289⟩ ⟨rfl, hd_X6_is⟩ rfl ly_0 ⟨Nat.le_of_ble_eq_true rfl, Nat.le_of_ble_eq_true rfl⟩ ⟨Nat.le_of_ble_eq_true rfl, Nat.le_of_ble_eq_true rfl⟩ rfl rfl (Nat.le_of_ble_eq_true rfl) dL_law_580 (g_rix ?_)
  skip
  refine g_aload_n hC dL_law_583 rfl 1 rfl ?_
  refine g_aload_n hC dL_law_584 rfl 3 rfl ?_
  refine g_iload_n hC dL_law_585 rfl 0 rfl ?_
  refine g_iconst (v := 1) hC dL_law_586 rfl ?_
  refine g_iadd hC dL_law_587 ?_
  refine g_top (y := nI ((6 * k) + 1)) (nI_add _ _) ?_
  refine g_sld hC hX hbl hbA ((6 * k) + 1) rfl (by omega) (by omega) dL_law_588 ?_
  refine g_callV hC (k := 58) (ci := 7) (as := [.int (xs ((6 * k) + 1))]) (rest := [.int (op_is g (xs ((6 * k) + 1)))]) (c_X7_is l D cA b M L g (xs ((6 * k) + 1)) hR hok) ⟨fw_779, fw_780, fw_781, fw_9, fw_782⟩ ⟨rfl, hd_X7_is⟩ rfl ly_58 ⟨Nat.le_of_ble_eq_true rfl, Nat.le_of_ble_eq_true rfl⟩ ⟨Nat.le_of_ble_eq_true rfl, Nat.le_of_ble_eq_true rfl⟩ rfl rfl (Nat.le_of_ble_eq_true rfl) dL_law_589 (g_rix ?_)
  skip
  refine g_icmp_eq_T (X := (op_is g (xs ((6 * k) + 1))).toInt) (Y := (op_is g (xs ((6 * k) + 1))).toInt) hC rfl rfl 1284 dL_law_592 rfl (fun _ => ?_) (fun c_3 => absurd rfl c_3)
  exact kk _ _ _ hS hR hok

theorem lc_13 {pq : Program} {l : Launch} {eq : Env} {sq : State} {mq : MethodId} {aq : Array Value} {bq : List Frame} {tq : Method} {cq : Code} {Q : State → Prop} {D : va_G} {cA : Nat → ClassId} {b bs n k : Nat} {xs : Nat → Int32} {M : Nat → Nat → Int32} {L : Nat → Nat → Int64} {g : Sg} (hC : fm_C pq sq mq aq tq cq D cA b cL_law 4 RL ret 0) (hX : va_X bs n xs sq sq.heap) (hbl : bs < sq.heap.size) (hbA : bs < b) (hn : n ≤ 3072) (hi : 6 * k + 6 ≤ n) (hS : CS M L g) (hR : RS M L g) (hok : OK g) (kk : ∀ (M' : Nat → Nat → Int32) (L' : Nat → Nat → Int64) (g' : Sg), CS M' L' g' → RS M' L' g' → OK g' → fm_G pq l eq room_1 sq mq aq bq tq cq D cA b 4 Q LAY M' L' 78 6668 1284 [(3, .int (nI (6 * k))), (2, .ref (b + 58)), (1, .ref (b + 0)), (0, .ref bs)] []) : fm_G pq l eq room_1 sq mq aq bq tq cq D cA b 4 Q LAY M L 78 6668 597 [(3, .int (nI (6 * k))), (2, .ref (b + 58)), (1, .ref (b + 0)), (0, .ref bs)] [] := by
  refine g_aload_n hC dL_law_597 rfl 2 rfl ?_
  refine g_aload_n hC dL_law_598 rfl 3 rfl ?_
  refine g_iload_n hC dL_law_599 rfl 0 rfl ?_
  refine g_iconst (v := 1) hC dL_law_600 rfl ?_
  refine g_iadd hC dL_law_601 ?_
  refine g_top (y := nI ((6 * k) + 1)) (nI_add _ _) ?_
  refine g_sld hC hX hbl hbA ((6 * k) + 1) rfl (by omega) (by omega) dL_law_602 ?_
  refine g_callV hC (k := 0) (ci := 6) (as := [.int (xs ((6 * k) + 1))]) (rest := []) (c_X6_late l D cA b M L g (xs ((6 * k) + 1)) hS hok) ⟨fw_384, fw_385, fw_386, fw_1, fw_387⟩ ⟨rfl, hd_X6_late⟩ rfl ly_0 ⟨Nat.le_of_ble_eq_true rfl, Nat.le_of_ble_eq_true rfl⟩ ⟨Nat.le_of_ble_eq_true rfl, Nat.le_of_ble_eq_true rfl⟩ rfl rfl (Nat.le_of_ble_eq_true rfl) dL_law_603 (g_rix ?_)
  skip
  refine g_aload_n hC dL_law_606 rfl 1 rfl ?_
  refine g_aload_n hC dL_law_607 rfl 3 rfl ?_
  refine g_iload_n hC dL_law_608 rfl 0 rfl ?_
  refine g_iconst (v := 1) hC dL_law_609 rfl ?_
  refine g_iadd hC dL_law_610 ?_
  refine g_top (y := nI ((6 * k) + 1)) (nI_add _ _) ?_
  refine g_sld hC hX hbl hbA ((6 * k) + 1) rfl (by omega) (by omega) dL_law_611 ?_
  refine g_callV hC (k := 58) (ci := 7) (as := [.int (xs ((6 * k) + 1))]) (rest := [.int (op_late g (xs ((6 * k) + 1)))]) (c_X7_late l D cA b M L g (xs ((6 * k) + 1)) hR hok) ⟨fw_845, fw_846, fw_847, fw_9, fw_848⟩ ⟨rfl, hd_X7_late⟩ rfl ly_58 ⟨Nat.le_of_ble_eq_true rfl, Nat.le_of_ble_eq_true rfl⟩ ⟨Nat.le_of_ble_eq_true rfl, Nat.le_of_ble_eq_true rfl⟩ rfl rfl (Nat.le_of_ble_eq_true rfl) dL_law_612 (g_rix ?_)
  skip
  refine g_icmp_eq_T (X := (op_late g (xs ((6 * k) + 1))).toInt) (Y := (op_late g (xs ((6 * k) + 1))).toInt) hC rfl rfl 1284 dL_law_615 rfl (fun _ => ?_) (fun c_3 => absurd rfl c_3)
  exact kk _ _ _ hS hR hok

theorem lc_14 {pq : Program} {l : Launch} {eq : Env} {sq : State} {mq : MethodId} {aq : Array Value} {bq : List Frame} {tq : Method} {cq : Code} {Q : State → Prop} {D : va_G} {cA : Nat → ClassId} {b bs n k : Nat} {xs : Nat → Int32} {M : Nat → Nat → Int32} {L : Nat → Nat → Int64} {g : Sg} (hC : fm_C pq sq mq aq tq cq D cA b cL_law 4 RL ret 0) (hX : va_X bs n xs sq sq.heap) (hbl : bs < sq.heap.size) (hbA : bs < b) (hn : n ≤ 3072) (hi : 6 * k + 6 ≤ n) (hS : CS M L g) (hR : RS M L g) (hok : OK g) (kk : ∀ (M' : Nat → Nat → Int32) (L' : Nat → Nat → Int64) (g' : Sg), CS M' L' g' → RS M' L' g' → OK g' → fm_G pq l eq room_1 sq mq aq bq tq cq D cA b 4 Q LAY M' L' 78 6668 1284 [(3, .int (nI (6 * k))), (2, .ref (b + 58)), (1, .ref (b + 0)), (0, .ref bs)] []) : fm_G pq l eq room_1 sq mq aq bq tq cq D cA b 4 Q LAY M L 78 6668 620 [(3, .int (nI (6 * k))), (2, .ref (b + 58)), (1, .ref (b + 0)), (0, .ref bs)] [] := by
  refine g_aload_n hC dL_law_620 rfl 2 rfl ?_
  refine g_callV hC (k := 0) (ci := 6) (as := []) (rest := []) (c_X6_gain l D cA b M L g hS hok) ⟨fw_391, fw_392, fw_393, fw_1, fw_394⟩ ⟨rfl, hd_X6_gain⟩ rfl ly_0 ⟨Nat.le_of_ble_eq_true rfl, Nat.le_of_ble_eq_true rfl⟩ ⟨Nat.le_of_ble_eq_true rfl, Nat.le_of_ble_eq_true rfl⟩ rfl rfl (Nat.le_of_ble_eq_true rfl) dL_law_621 (g_rix ?_)
  skip
  refine g_aload_n hC dL_law_624 rfl 1 rfl ?_
  refine g_callV hC (k := 58) (ci := 7) (as := []) (rest := [.int (op_gain g)]) (c_X7_gain l D cA b M L g hR hok) ⟨fw_853, fw_854, fw_855, fw_9, fw_856⟩ ⟨rfl, hd_X7_gain⟩ rfl ly_58 ⟨Nat.le_of_ble_eq_true rfl, Nat.le_of_ble_eq_true rfl⟩ ⟨Nat.le_of_ble_eq_true rfl, Nat.le_of_ble_eq_true rfl⟩ rfl rfl (Nat.le_of_ble_eq_true rfl) dL_law_625 (g_rm (fun r_2 M_2 L_2 h_2 => ?_))
  obtain ⟨e_2, rs_2, f_2⟩ := h_2
  rw [e_2]
  have cs_2 : CS M_2 L_2 _ := CS_fR hS hok f_2
  refine g_icmp_eq_T (X := (op_gain g).toInt) (Y := (op_gain g).toInt) hC rfl rfl 1284 dL_law_628 rfl (fun _ => ?_) (fun c_3 => absurd rfl c_3)
  exact kk _ _ _ cs_2 rs_2 hok

theorem lc_15 {pq : Program} {l : Launch} {eq : Env} {sq : State} {mq : MethodId} {aq : Array Value} {bq : List Frame} {tq : Method} {cq : Code} {Q : State → Prop} {D : va_G} {cA : Nat → ClassId} {b bs n k : Nat} {xs : Nat → Int32} {M : Nat → Nat → Int32} {L : Nat → Nat → Int64} {g : Sg} (hC : fm_C pq sq mq aq tq cq D cA b cL_law 4 RL ret 0) (hX : va_X bs n xs sq sq.heap) (hbl : bs < sq.heap.size) (hbA : bs < b) (hn : n ≤ 3072) (hi : 6 * k + 6 ≤ n) (hS : CS M L g) (hR : RS M L g) (hok : OK g) (kk : ∀ (M' : Nat → Nat → Int32) (L' : Nat → Nat → Int64) (g' : Sg), CS M' L' g' → RS M' L' g' → OK g' → fm_G pq l eq room_1 sq mq aq bq tq cq D cA b 4 Q LAY M' L' 78 6668 1284 [(3, .int (nI (6 * k))), (2, .ref (b + 58)), (1, .ref (b + 0)), (0, .ref bs)] []) : fm_G pq l eq room_1 sq mq aq bq tq cq D cA b 4 Q LAY M L 78 6668 633 [(3, .int (nI (6 * k))), (2, .ref (b + 58)), (1, .ref (b + 0)), (0, .ref bs)] [] := by
  refine g_aload_n hC dL_law_633 rfl 2 rfl ?_
  refine g_callV hC (k := 0) (ci := 6) (as := []) (rest := []) (c_X6_wrong l D cA b M L g hS hok) ⟨fw_404, fw_405, fw_406, fw_1, fw_407⟩ ⟨rfl, hd_X6_wrong⟩ rfl ly_0 ⟨Nat.le_of_ble_eq_true rfl, Nat.le_of_ble_eq_true rfl⟩ ⟨Nat.le_of_ble_eq_true rfl, Nat.le_of_ble_eq_true rfl⟩ rfl rfl (Nat.le_of_ble_eq_true rfl) dL_law_634 (g_rix ?_)
  skip
  refine g_aload_n hC dL_law_637 rfl 1 rfl ?_
  refine g_callV hC (k := 58) (ci := 7) (as := []) (rest := [.int (op_wrong g)]) (c_X7_wrong l D cA b M L g hR hok) ⟨fw_865, fw_866, fw_867, fw_9, fw_868⟩ ⟨rfl, hd_X7_wrong⟩ rfl ly_58 ⟨Nat.le_of_ble_eq_true rfl, Nat.le_of_ble_eq_true rfl⟩ ⟨Nat.le_of_ble_eq_true rfl, Nat.le_of_ble_eq_true rfl⟩ rfl rfl (Nat.le_of_ble_eq_true rfl) dL_law_638 (g_rix ?_)
  skip
  refine g_icmp_eq_T (X := (op_wrong g).toInt) (Y := (op_wrong g).toInt) hC rfl rfl 1284 dL_law_641 rfl (fun _ => ?_) (fun c_3 => absurd rfl c_3)
  exact kk _ _ _ hS hR hok

theorem lc_16 {pq : Program} {l : Launch} {eq : Env} {sq : State} {mq : MethodId} {aq : Array Value} {bq : List Frame} {tq : Method} {cq : Code} {Q : State → Prop} {D : va_G} {cA : Nat → ClassId} {b bs n k : Nat} {xs : Nat → Int32} {M : Nat → Nat → Int32} {L : Nat → Nat → Int64} {g : Sg} (hC : fm_C pq sq mq aq tq cq D cA b cL_law 4 RL ret 0) (hX : va_X bs n xs sq sq.heap) (hbl : bs < sq.heap.size) (hbA : bs < b) (hn : n ≤ 3072) (hi : 6 * k + 6 ≤ n) (hS : CS M L g) (hR : RS M L g) (hok : OK g) (kk : ∀ (M' : Nat → Nat → Int32) (L' : Nat → Nat → Int64) (g' : Sg), CS M' L' g' → RS M' L' g' → OK g' → fm_G pq l eq room_1 sq mq aq bq tq cq D cA b 4 Q LAY M' L' 78 6668 1284 [(3, .int (nI (6 * k))), (2, .ref (b + 58)), (1, .ref (b + 0)), (0, .ref bs)] []) : fm_G pq l eq room_1 sq mq aq bq tq cq D cA b 4 Q LAY M L 78 6668 646 [(3, .int (nI (6 * k))), (2, .ref (b + 58)), (1, .ref (b + 0)), (0, .ref bs)] [] := by
  refine g_aload_n hC dL_law_646 rfl 2 rfl ?_
  refine g_callV hC (k := 0) (ci := 6) (as := []) (rest := []) (c_X6_missed l D cA b M L g hS hok) ⟨fw_417, fw_418, fw_419, fw_1, fw_420⟩ ⟨rfl, hd_X6_missed⟩ rfl ly_0 ⟨Nat.le_of_ble_eq_true rfl, Nat.le_of_ble_eq_true rfl⟩ ⟨Nat.le_of_ble_eq_true rfl, Nat.le_of_ble_eq_true rfl⟩ rfl rfl (Nat.le_of_ble_eq_true rfl) dL_law_647 (g_rix ?_)
  skip
  refine g_aload_n hC dL_law_650 rfl 1 rfl ?_
  refine g_callV hC (k := 58) (ci := 7) (as := []) (rest := [.int (op_missed g)]) (c_X7_missed l D cA b M L g hR hok) ⟨fw_877, fw_878, fw_879, fw_9, fw_880⟩ ⟨rfl, hd_X7_missed⟩ rfl ly_58 ⟨Nat.le_of_ble_eq_true rfl, Nat.le_of_ble_eq_true rfl⟩ ⟨Nat.le_of_ble_eq_true rfl, Nat.le_of_ble_eq_true rfl⟩ rfl rfl (Nat.le_of_ble_eq_true rfl) dL_law_651 (g_rix ?_)
  skip
  refine g_icmp_eq_T (X := (op_missed g).toInt) (Y := (op_missed g).toInt) hC rfl rfl 1284 dL_law_654 rfl (fun _ => ?_) (fun c_3 => absurd rfl c_3)
  exact kk _ _ _ hS hR hok

theorem lc_17 {pq : Program} {l : Launch} {eq : Env} {sq : State} {mq : MethodId} {aq : Array Value} {bq : List Frame} {tq : Method} {cq : Code} {Q : State → Prop} {D : va_G} {cA : Nat → ClassId} {b bs n k : Nat} {xs : Nat → Int32} {M : Nat → Nat → Int32} {L : Nat → Nat → Int64} {g : Sg} (hC : fm_C pq sq mq aq tq cq D cA b cL_law 4 RL ret 0) (hX : va_X bs n xs sq sq.heap) (hbl : bs < sq.heap.size) (hbA : bs < b) (hn : n ≤ 3072) (hi : 6 * k + 6 ≤ n) (hS : CS M L g) (hR : RS M L g) (hok : OK g) (kk : ∀ (M' : Nat → Nat → Int32) (L' : Nat → Nat → Int64) (g' : Sg), CS M' L' g' → RS M' L' g' → OK g' → fm_G pq l eq room_1 sq mq aq bq tq cq D cA b 4 Q LAY M' L' 78 6668 1284 [(3, .int (nI (6 * k))), (2, .ref (b + 58)), (1, .ref (b + 0)), (0, .ref bs)] []) : fm_G pq l eq room_1 sq mq aq bq tq cq D cA b 4 Q LAY M L 78 6668 659 [(3, .int (nI (6 * k))), (2, .ref (b + 58)), (1, .ref (b + 0)), (0, .ref bs)] [] := by
  refine g_aload_n hC dL_law_659 rfl 2 rfl ?_
  refine g_callV hC (k := 0) (ci := 6) (as := []) (rest := []) (c_X6_day l D cA b M L g hS hok) ⟨fw_426, fw_427, fw_428, fw_1, fw_429⟩ ⟨rfl, hd_X6_day⟩ rfl ly_0 ⟨Nat.le_of_ble_eq_true rfl, Nat.le_of_ble_eq_true rfl⟩ ⟨Nat.le_of_ble_eq_true rfl, Nat.le_of_ble_eq_true rfl⟩ rfl rfl (Nat.le_of_ble_eq_true rfl) dL_law_660 (g_rm (fun r_1 M_1 L_1 h_1 => ?_))
  obtain ⟨e_1, cs_1, f_1⟩ := h_1
  rw [e_1]
  have rs_1 : RS M_1 L_1 g := RS_fC hR f_1
  refine g_aload_n hC dL_law_663 rfl 1 rfl ?_
  refine g_callV hC (k := 58) (ci := 7) (as := []) (rest := [.int ((op_day g).1)]) (c_X7_day l D cA b M_1 L_1 g rs_1 hok) ⟨fw_881, fw_882, fw_883, fw_9, fw_884⟩ ⟨rfl, hd_X7_day⟩ rfl ly_58 ⟨Nat.le_of_ble_eq_true rfl, Nat.le_of_ble_eq_true rfl⟩ ⟨Nat.le_of_ble_eq_true rfl, Nat.le_of_ble_eq_true rfl⟩ rfl rfl (Nat.le_of_ble_eq_true rfl) dL_law_664 (g_rm (fun r_2 M_2 L_2 h_2 => ?_))
  obtain ⟨e_2, rs_2, f_2⟩ := h_2
  rw [e_2]
  have cs_2 : CS M_2 L_2 _ := CS_fR cs_1 (ok_day hok) f_2
  refine g_icmp_eq_T (X := ((op_day g).1).toInt) (Y := ((op_day g).1).toInt) hC rfl rfl 1284 dL_law_667 rfl (fun _ => ?_) (fun c_3 => absurd rfl c_3)
  exact kk _ _ _ cs_2 rs_2 (ok_day hok)
