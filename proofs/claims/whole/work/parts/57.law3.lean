/-! ===== the law: cases 18 to 26 ===== -/

theorem lc_18 {pq : Program} {l : Launch} {eq : Env} {sq : State} {mq : MethodId} {aq : Array Value} {bq : List Frame} {tq : Method} {cq : Code} {Q : State → Prop} {D : va_G} {cA : Nat → ClassId} {b bs n k : Nat} {xs : Nat → Int32} {M : Nat → Nat → Int32} {L : Nat → Nat → Int64} {g : Sg} (hC : fm_C pq sq mq aq tq cq D cA b cL_law 4 RL ret 0) (hX : va_X bs n xs sq sq.heap) (hbl : bs < sq.heap.size) (hbA : bs < b) (hn : n ≤ 3072) (hi : 6 * k + 6 ≤ n) (hS : CS M L g) (hR : RS M L g) (hok : OK g) (kk : ∀ (M' : Nat → Nat → Int32) (L' : Nat → Nat → Int64) (g' : Sg), CS M' L' g' → RS M' L' g' → OK g' → fm_G pq l eq room_1 sq mq aq bq tq cq D cA b 4 Q LAY M' L' 78 6668 1284 [(3, .int (nI (6 * k))), (2, .ref (b + 58)), (1, .ref (b + 0)), (0, .ref bs)] []) : fm_G pq l eq room_1 sq mq aq bq tq cq D cA b 4 Q LAY M L 78 6668 672 [(3, .int (nI (6 * k))), (2, .ref (b + 58)), (1, .ref (b + 0)), (0, .ref bs)] [] := by
  refine g_aload_n hC dL_law_672 rfl 2 rfl ?_
  refine g_aload_n hC dL_law_673 rfl 3 rfl ?_
  refine g_iload_n hC dL_law_674 rfl 0 rfl ?_
  refine g_iconst (v := 1) hC dL_law_675 rfl ?_
  refine g_iadd hC dL_law_676 ?_
  refine g_top (y := nI ((6 * k) + 1)) (nI_add _ _) ?_
  refine g_sld hC hX hbl hbA ((6 * k) + 1) rfl (by omega) (by omega) dL_law_677 ?_
  refine g_aload_n hC dL_law_678 rfl 3 rfl ?_
  refine g_iload_n hC dL_law_679 rfl 0 rfl ?_
  refine g_iconst (v := 2) hC dL_law_680 rfl ?_
  refine g_iadd hC dL_law_681 ?_
  refine g_top (y := nI ((6 * k) + 2)) (nI_add _ _) ?_
  refine g_sld hC hX hbl hbA ((6 * k) + 2) rfl (by omega) (by omega) dL_law_682 ?_
  refine g_callV hC (k := 0) (ci := 6) (as := [.int (xs ((6 * k) + 1)), .int (xs ((6 * k) + 2))]) (rest := []) (c_X6_best l D cA b M L g (xs ((6 * k) + 1)) (xs ((6 * k) + 2)) hS hok) ⟨fw_438, fw_439, fw_440, fw_1, fw_441⟩ ⟨rfl, hd_X6_best⟩ rfl ly_0 ⟨Nat.le_of_ble_eq_true rfl, Nat.le_of_ble_eq_true rfl⟩ ⟨Nat.le_of_ble_eq_true rfl, Nat.le_of_ble_eq_true rfl⟩ rfl rfl (Nat.le_of_ble_eq_true rfl) dL_law_683 (g_rm (fun r_1 M_1 L_1 h_1 => ?_))
  obtain ⟨e_1, cs_1, f_1⟩ := h_1
  rw [e_1]
  have rs_1 : RS M_1 L_1 g := RS_fC hR f_1
  refine g_aload_n hC dL_law_686 rfl 1 rfl ?_
  refine g_aload_n hC dL_law_687 rfl 3 rfl ?_
  refine g_iload_n hC dL_law_688 rfl 0 rfl ?_
  refine g_iconst (v := 1) hC dL_law_689 rfl ?_
  refine g_iadd hC dL_law_690 ?_
  refine g_top (y := nI ((6 * k) + 1)) (nI_add _ _) ?_
  refine g_sld hC hX hbl hbA ((6 * k) + 1) rfl (by omega) (by omega) dL_law_691 ?_
  refine g_aload_n hC dL_law_692 rfl 3 rfl ?_
  refine g_iload_n hC dL_law_693 rfl 0 rfl ?_
  refine g_iconst (v := 2) hC dL_law_694 rfl ?_
  refine g_iadd hC dL_law_695 ?_
  refine g_top (y := nI ((6 * k) + 2)) (nI_add _ _) ?_
  refine g_sld hC hX hbl hbA ((6 * k) + 2) rfl (by omega) (by omega) dL_law_696 ?_
  refine g_callV hC (k := 58) (ci := 7) (as := [.int (xs ((6 * k) + 1)), .int (xs ((6 * k) + 2))]) (rest := [.int (op_best g (xs ((6 * k) + 1)) (xs ((6 * k) + 2)))]) (c_X7_best l D cA b M_1 L_1 g (xs ((6 * k) + 1)) (xs ((6 * k) + 2)) rs_1 hok) ⟨fw_891, fw_892, fw_893, fw_9, fw_894⟩ ⟨rfl, hd_X7_best⟩ rfl ly_58 ⟨Nat.le_of_ble_eq_true rfl, Nat.le_of_ble_eq_true rfl⟩ ⟨Nat.le_of_ble_eq_true rfl, Nat.le_of_ble_eq_true rfl⟩ rfl rfl (Nat.le_of_ble_eq_true rfl) dL_law_697 (g_rm (fun r_2 M_2 L_2 h_2 => ?_))
  obtain ⟨e_2, rs_2, f_2⟩ := h_2
  rw [e_2]
  have cs_2 : CS M_2 L_2 _ := CS_fR cs_1 hok f_2
  refine g_icmp_eq_T (X := (op_best g (xs ((6 * k) + 1)) (xs ((6 * k) + 2))).toInt) (Y := (op_best g (xs ((6 * k) + 1)) (xs ((6 * k) + 2))).toInt) hC rfl rfl 1284 dL_law_700 rfl (fun _ => ?_) (fun c_3 => absurd rfl c_3)
  exact kk _ _ _ cs_2 rs_2 hok

theorem lc_19 {pq : Program} {l : Launch} {eq : Env} {sq : State} {mq : MethodId} {aq : Array Value} {bq : List Frame} {tq : Method} {cq : Code} {Q : State → Prop} {D : va_G} {cA : Nat → ClassId} {b bs n k : Nat} {xs : Nat → Int32} {M : Nat → Nat → Int32} {L : Nat → Nat → Int64} {g : Sg} (hC : fm_C pq sq mq aq tq cq D cA b cL_law 4 RL ret 0) (hX : va_X bs n xs sq sq.heap) (hbl : bs < sq.heap.size) (hbA : bs < b) (hn : n ≤ 3072) (hi : 6 * k + 6 ≤ n) (hS : CS M L g) (hR : RS M L g) (hok : OK g) (kk : ∀ (M' : Nat → Nat → Int32) (L' : Nat → Nat → Int64) (g' : Sg), CS M' L' g' → RS M' L' g' → OK g' → fm_G pq l eq room_1 sq mq aq bq tq cq D cA b 4 Q LAY M' L' 78 6668 1284 [(3, .int (nI (6 * k))), (2, .ref (b + 58)), (1, .ref (b + 0)), (0, .ref bs)] []) : fm_G pq l eq room_1 sq mq aq bq tq cq D cA b 4 Q LAY M L 78 6668 705 [(3, .int (nI (6 * k))), (2, .ref (b + 58)), (1, .ref (b + 0)), (0, .ref bs)] [] := by
  refine g_aload_n hC dL_law_705 rfl 2 rfl ?_
  refine g_aload_n hC dL_law_706 rfl 3 rfl ?_
  refine g_iload_n hC dL_law_707 rfl 0 rfl ?_
  refine g_iconst (v := 1) hC dL_law_708 rfl ?_
  refine g_iadd hC dL_law_709 ?_
  refine g_top (y := nI ((6 * k) + 1)) (nI_add _ _) ?_
  refine g_sld hC hX hbl hbA ((6 * k) + 1) rfl (by omega) (by omega) dL_law_710 ?_
  refine g_callV hC (k := 0) (ci := 6) (as := [.int (xs ((6 * k) + 1))]) (rest := []) (c_X6_spend l D cA b M L g (xs ((6 * k) + 1)) hS hok) ⟨fw_467, fw_468, fw_469, fw_1, fw_470⟩ ⟨rfl, hd_X6_spend⟩ rfl ly_0 ⟨Nat.le_of_ble_eq_true rfl, Nat.le_of_ble_eq_true rfl⟩ ⟨Nat.le_of_ble_eq_true rfl, Nat.le_of_ble_eq_true rfl⟩ rfl rfl (Nat.le_of_ble_eq_true rfl) dL_law_711 (g_rm (fun r_1 M_1 L_1 h_1 => ?_))
  obtain ⟨e_1, cs_1, f_1⟩ := h_1
  rw [e_1]
  have rs_1 : RS M_1 L_1 g := RS_fC hR f_1
  refine g_aload_n hC dL_law_714 rfl 1 rfl ?_
  refine g_aload_n hC dL_law_715 rfl 3 rfl ?_
  refine g_iload_n hC dL_law_716 rfl 0 rfl ?_
  refine g_iconst (v := 1) hC dL_law_717 rfl ?_
  refine g_iadd hC dL_law_718 ?_
  refine g_top (y := nI ((6 * k) + 1)) (nI_add _ _) ?_
  refine g_sld hC hX hbl hbA ((6 * k) + 1) rfl (by omega) (by omega) dL_law_719 ?_
  refine g_callV hC (k := 58) (ci := 7) (as := [.int (xs ((6 * k) + 1))]) (rest := [.int ((op_spend g (xs ((6 * k) + 1))).1)]) (c_X7_spend l D cA b M_1 L_1 g (xs ((6 * k) + 1)) rs_1 hok) ⟨fw_901, fw_902, fw_903, fw_9, fw_904⟩ ⟨rfl, hd_X7_spend⟩ rfl ly_58 ⟨Nat.le_of_ble_eq_true rfl, Nat.le_of_ble_eq_true rfl⟩ ⟨Nat.le_of_ble_eq_true rfl, Nat.le_of_ble_eq_true rfl⟩ rfl rfl (Nat.le_of_ble_eq_true rfl) dL_law_720 (g_rm (fun r_2 M_2 L_2 h_2 => ?_))
  obtain ⟨e_2, rs_2, f_2⟩ := h_2
  rw [e_2]
  have cs_2 : CS M_2 L_2 _ := CS_fR cs_1 (ok_spend hok (xs ((6 * k) + 1))) f_2
  refine g_icmp_eq_T (X := ((op_spend g (xs ((6 * k) + 1))).1).toInt) (Y := ((op_spend g (xs ((6 * k) + 1))).1).toInt) hC rfl rfl 1284 dL_law_723 rfl (fun _ => ?_) (fun c_3 => absurd rfl c_3)
  exact kk _ _ _ cs_2 rs_2 (ok_spend hok (xs ((6 * k) + 1)))

theorem lc_20 {pq : Program} {l : Launch} {eq : Env} {sq : State} {mq : MethodId} {aq : Array Value} {bq : List Frame} {tq : Method} {cq : Code} {Q : State → Prop} {D : va_G} {cA : Nat → ClassId} {b bs n k : Nat} {xs : Nat → Int32} {M : Nat → Nat → Int32} {L : Nat → Nat → Int64} {g : Sg} (hC : fm_C pq sq mq aq tq cq D cA b cL_law 4 RL ret 0) (hX : va_X bs n xs sq sq.heap) (hbl : bs < sq.heap.size) (hbA : bs < b) (hn : n ≤ 3072) (hi : 6 * k + 6 ≤ n) (hS : CS M L g) (hR : RS M L g) (hok : OK g) (kk : ∀ (M' : Nat → Nat → Int32) (L' : Nat → Nat → Int64) (g' : Sg), CS M' L' g' → RS M' L' g' → OK g' → fm_G pq l eq room_1 sq mq aq bq tq cq D cA b 4 Q LAY M' L' 78 6668 1284 [(3, .int (nI (6 * k))), (2, .ref (b + 58)), (1, .ref (b + 0)), (0, .ref bs)] []) : fm_G pq l eq room_1 sq mq aq bq tq cq D cA b 4 Q LAY M L 78 6668 728 [(3, .int (nI (6 * k))), (2, .ref (b + 58)), (1, .ref (b + 0)), (0, .ref bs)] [] := by
  refine g_aload_n hC dL_law_728 rfl 2 rfl ?_
  refine g_aload_n hC dL_law_729 rfl 3 rfl ?_
  refine g_iload_n hC dL_law_730 rfl 0 rfl ?_
  refine g_iconst (v := 1) hC dL_law_731 rfl ?_
  refine g_iadd hC dL_law_732 ?_
  refine g_top (y := nI ((6 * k) + 1)) (nI_add _ _) ?_
  refine g_sld hC hX hbl hbA ((6 * k) + 1) rfl (by omega) (by omega) dL_law_733 ?_
  refine g_callV hC (k := 0) (ci := 6) (as := [.int (xs ((6 * k) + 1))]) (rest := []) (c_X6_share l D cA b M L g (xs ((6 * k) + 1)) hS hok) ⟨fw_471, fw_472, fw_473, fw_1, fw_474⟩ ⟨rfl, hd_X6_share⟩ rfl ly_0 ⟨Nat.le_of_ble_eq_true rfl, Nat.le_of_ble_eq_true rfl⟩ ⟨Nat.le_of_ble_eq_true rfl, Nat.le_of_ble_eq_true rfl⟩ rfl rfl (Nat.le_of_ble_eq_true rfl) dL_law_734 (g_rm (fun r_1 M_1 L_1 h_1 => ?_))
  obtain ⟨e_1, cs_1, f_1⟩ := h_1
  rw [e_1]
  have rs_1 : RS M_1 L_1 g := RS_fC hR f_1
  refine g_aload_n hC dL_law_737 rfl 1 rfl ?_
  refine g_aload_n hC dL_law_738 rfl 3 rfl ?_
  refine g_iload_n hC dL_law_739 rfl 0 rfl ?_
  refine g_iconst (v := 1) hC dL_law_740 rfl ?_
  refine g_iadd hC dL_law_741 ?_
  refine g_top (y := nI ((6 * k) + 1)) (nI_add _ _) ?_
  refine g_sld hC hX hbl hbA ((6 * k) + 1) rfl (by omega) (by omega) dL_law_742 ?_
  refine g_callV hC (k := 58) (ci := 7) (as := [.int (xs ((6 * k) + 1))]) (rest := [.int (op_share g (xs ((6 * k) + 1)))]) (c_X7_share l D cA b M_1 L_1 g (xs ((6 * k) + 1)) rs_1 hok) ⟨fw_906, fw_907, fw_908, fw_9, fw_909⟩ ⟨rfl, hd_X7_share⟩ rfl ly_58 ⟨Nat.le_of_ble_eq_true rfl, Nat.le_of_ble_eq_true rfl⟩ ⟨Nat.le_of_ble_eq_true rfl, Nat.le_of_ble_eq_true rfl⟩ rfl rfl (Nat.le_of_ble_eq_true rfl) dL_law_743 (g_rm (fun r_2 M_2 L_2 h_2 => ?_))
  obtain ⟨e_2, rs_2, f_2⟩ := h_2
  rw [e_2]
  have cs_2 : CS M_2 L_2 _ := CS_fR cs_1 hok f_2
  refine g_icmp_eq_T (X := (op_share g (xs ((6 * k) + 1))).toInt) (Y := (op_share g (xs ((6 * k) + 1))).toInt) hC rfl rfl 1284 dL_law_746 rfl (fun _ => ?_) (fun c_3 => absurd rfl c_3)
  exact kk _ _ _ cs_2 rs_2 hok

theorem lc_21 {pq : Program} {l : Launch} {eq : Env} {sq : State} {mq : MethodId} {aq : Array Value} {bq : List Frame} {tq : Method} {cq : Code} {Q : State → Prop} {D : va_G} {cA : Nat → ClassId} {b bs n k : Nat} {xs : Nat → Int32} {M : Nat → Nat → Int32} {L : Nat → Nat → Int64} {g : Sg} (hC : fm_C pq sq mq aq tq cq D cA b cL_law 4 RL ret 0) (hX : va_X bs n xs sq sq.heap) (hbl : bs < sq.heap.size) (hbA : bs < b) (hn : n ≤ 3072) (hi : 6 * k + 6 ≤ n) (hS : CS M L g) (hR : RS M L g) (hok : OK g) (kk : ∀ (M' : Nat → Nat → Int32) (L' : Nat → Nat → Int64) (g' : Sg), CS M' L' g' → RS M' L' g' → OK g' → fm_G pq l eq room_1 sq mq aq bq tq cq D cA b 4 Q LAY M' L' 78 6668 1284 [(3, .int (nI (6 * k))), (2, .ref (b + 58)), (1, .ref (b + 0)), (0, .ref bs)] []) : fm_G pq l eq room_1 sq mq aq bq tq cq D cA b 4 Q LAY M L 78 6668 751 [(3, .int (nI (6 * k))), (2, .ref (b + 58)), (1, .ref (b + 0)), (0, .ref bs)] [] := by
  refine g_aload_n hC dL_law_751 rfl 2 rfl ?_
  refine g_aload_n hC dL_law_752 rfl 3 rfl ?_
  refine g_iload_n hC dL_law_753 rfl 0 rfl ?_
  refine g_iconst (v := 1) hC dL_law_754 rfl ?_
  refine g_iadd hC dL_law_755 ?_
  refine g_top (y := nI ((6 * k) + 1)) (nI_add _ _) ?_
  refine g_sld hC hX hbl hbA ((6 * k) + 1) rfl (by omega) (by omega) dL_law_756 ?_
  refine g_callV hC (k := 0) (ci := 6) (as := [.int (xs ((6 * k) + 1))]) (rest := []) (c_X6_vote l D cA b M L g (xs ((6 * k) + 1)) hS hok) ⟨fw_475, fw_476, fw_477, fw_1, fw_478⟩ ⟨rfl, hd_X6_vote⟩ rfl ly_0 ⟨Nat.le_of_ble_eq_true rfl, Nat.le_of_ble_eq_true rfl⟩ ⟨Nat.le_of_ble_eq_true rfl, Nat.le_of_ble_eq_true rfl⟩ rfl rfl (Nat.le_of_ble_eq_true rfl) dL_law_757 (g_rix ?_)
  skip
  refine g_aload_n hC dL_law_760 rfl 1 rfl ?_
  refine g_aload_n hC dL_law_761 rfl 3 rfl ?_
  refine g_iload_n hC dL_law_762 rfl 0 rfl ?_
  refine g_iconst (v := 1) hC dL_law_763 rfl ?_
  refine g_iadd hC dL_law_764 ?_
  refine g_top (y := nI ((6 * k) + 1)) (nI_add _ _) ?_
  refine g_sld hC hX hbl hbA ((6 * k) + 1) rfl (by omega) (by omega) dL_law_765 ?_
  refine g_callV hC (k := 58) (ci := 7) (as := [.int (xs ((6 * k) + 1))]) (rest := [.int (op_vote g (xs ((6 * k) + 1)))]) (c_X7_vote l D cA b M L g (xs ((6 * k) + 1)) hR hok) ⟨fw_918, fw_919, fw_920, fw_9, fw_921⟩ ⟨rfl, hd_X7_vote⟩ rfl ly_58 ⟨Nat.le_of_ble_eq_true rfl, Nat.le_of_ble_eq_true rfl⟩ ⟨Nat.le_of_ble_eq_true rfl, Nat.le_of_ble_eq_true rfl⟩ rfl rfl (Nat.le_of_ble_eq_true rfl) dL_law_766 (g_rix ?_)
  skip
  refine g_icmp_eq_T (X := (op_vote g (xs ((6 * k) + 1))).toInt) (Y := (op_vote g (xs ((6 * k) + 1))).toInt) hC rfl rfl 1284 dL_law_769 rfl (fun _ => ?_) (fun c_3 => absurd rfl c_3)
  exact kk _ _ _ hS hR hok

theorem lc_22 {pq : Program} {l : Launch} {eq : Env} {sq : State} {mq : MethodId} {aq : Array Value} {bq : List Frame} {tq : Method} {cq : Code} {Q : State → Prop} {D : va_G} {cA : Nat → ClassId} {b bs n k : Nat} {xs : Nat → Int32} {M : Nat → Nat → Int32} {L : Nat → Nat → Int64} {g : Sg} (hC : fm_C pq sq mq aq tq cq D cA b cL_law 4 RL ret 0) (hX : va_X bs n xs sq sq.heap) (hbl : bs < sq.heap.size) (hbA : bs < b) (hn : n ≤ 3072) (hi : 6 * k + 6 ≤ n) (hS : CS M L g) (hR : RS M L g) (hok : OK g) (kk : ∀ (M' : Nat → Nat → Int32) (L' : Nat → Nat → Int64) (g' : Sg), CS M' L' g' → RS M' L' g' → OK g' → fm_G pq l eq room_1 sq mq aq bq tq cq D cA b 4 Q LAY M' L' 78 6668 1284 [(3, .int (nI (6 * k))), (2, .ref (b + 58)), (1, .ref (b + 0)), (0, .ref bs)] []) : fm_G pq l eq room_1 sq mq aq bq tq cq D cA b 4 Q LAY M L 78 6668 774 [(3, .int (nI (6 * k))), (2, .ref (b + 58)), (1, .ref (b + 0)), (0, .ref bs)] [] := by
  refine g_aload_n hC dL_law_774 rfl 2 rfl ?_
  refine g_aload_n hC dL_law_775 rfl 3 rfl ?_
  refine g_iload_n hC dL_law_776 rfl 0 rfl ?_
  refine g_iconst (v := 1) hC dL_law_777 rfl ?_
  refine g_iadd hC dL_law_778 ?_
  refine g_top (y := nI ((6 * k) + 1)) (nI_add _ _) ?_
  refine g_sld hC hX hbl hbA ((6 * k) + 1) rfl (by omega) (by omega) dL_law_779 ?_
  refine g_callV hC (k := 0) (ci := 6) (as := [.int (xs ((6 * k) + 1))]) (rest := []) (c_X6_choice l D cA b M L g (xs ((6 * k) + 1)) hS hok) ⟨fw_488, fw_489, fw_490, fw_1, fw_491⟩ ⟨rfl, hd_X6_choice⟩ rfl ly_0 ⟨Nat.le_of_ble_eq_true rfl, Nat.le_of_ble_eq_true rfl⟩ ⟨Nat.le_of_ble_eq_true rfl, Nat.le_of_ble_eq_true rfl⟩ rfl rfl (Nat.le_of_ble_eq_true rfl) dL_law_780 (g_rix ?_)
  skip
  refine g_aload_n hC dL_law_783 rfl 1 rfl ?_
  refine g_aload_n hC dL_law_784 rfl 3 rfl ?_
  refine g_iload_n hC dL_law_785 rfl 0 rfl ?_
  refine g_iconst (v := 1) hC dL_law_786 rfl ?_
  refine g_iadd hC dL_law_787 ?_
  refine g_top (y := nI ((6 * k) + 1)) (nI_add _ _) ?_
  refine g_sld hC hX hbl hbA ((6 * k) + 1) rfl (by omega) (by omega) dL_law_788 ?_
  refine g_callV hC (k := 58) (ci := 7) (as := [.int (xs ((6 * k) + 1))]) (rest := [.int (op_choice g (xs ((6 * k) + 1)))]) (c_X7_choice l D cA b M L g (xs ((6 * k) + 1)) hR hok) ⟨fw_910, fw_911, fw_912, fw_9, fw_913⟩ ⟨rfl, hd_X7_choice⟩ rfl ly_58 ⟨Nat.le_of_ble_eq_true rfl, Nat.le_of_ble_eq_true rfl⟩ ⟨Nat.le_of_ble_eq_true rfl, Nat.le_of_ble_eq_true rfl⟩ rfl rfl (Nat.le_of_ble_eq_true rfl) dL_law_789 (g_rix ?_)
  skip
  refine g_icmp_eq_T (X := (op_choice g (xs ((6 * k) + 1))).toInt) (Y := (op_choice g (xs ((6 * k) + 1))).toInt) hC rfl rfl 1284 dL_law_792 rfl (fun _ => ?_) (fun c_3 => absurd rfl c_3)
  exact kk _ _ _ hS hR hok

theorem lc_23 {pq : Program} {l : Launch} {eq : Env} {sq : State} {mq : MethodId} {aq : Array Value} {bq : List Frame} {tq : Method} {cq : Code} {Q : State → Prop} {D : va_G} {cA : Nat → ClassId} {b bs n k : Nat} {xs : Nat → Int32} {M : Nat → Nat → Int32} {L : Nat → Nat → Int64} {g : Sg} (hC : fm_C pq sq mq aq tq cq D cA b cL_law 4 RL ret 0) (hX : va_X bs n xs sq sq.heap) (hbl : bs < sq.heap.size) (hbA : bs < b) (hn : n ≤ 3072) (hi : 6 * k + 6 ≤ n) (hS : CS M L g) (hR : RS M L g) (hok : OK g) (kk : ∀ (M' : Nat → Nat → Int32) (L' : Nat → Nat → Int64) (g' : Sg), CS M' L' g' → RS M' L' g' → OK g' → fm_G pq l eq room_1 sq mq aq bq tq cq D cA b 4 Q LAY M' L' 78 6668 1284 [(3, .int (nI (6 * k))), (2, .ref (b + 58)), (1, .ref (b + 0)), (0, .ref bs)] []) : fm_G pq l eq room_1 sq mq aq bq tq cq D cA b 4 Q LAY M L 78 6668 797 [(3, .int (nI (6 * k))), (2, .ref (b + 58)), (1, .ref (b + 0)), (0, .ref bs)] [] := by
  refine g_aload_n hC dL_law_797 rfl 2 rfl ?_
  refine g_aload_n hC dL_law_798 rfl 3 rfl ?_
  refine g_iload_n hC dL_law_799 rfl 0 rfl ?_
  refine g_iconst (v := 1) hC dL_law_800 rfl ?_
  refine g_iadd hC dL_law_801 ?_
  refine g_top (y := nI ((6 * k) + 1)) (nI_add _ _) ?_
  refine g_sld hC hX hbl hbA ((6 * k) + 1) rfl (by omega) (by omega) dL_law_802 ?_
  refine g_callV hC (k := 0) (ci := 6) (as := [.int (xs ((6 * k) + 1))]) (rest := []) (c_X6_lots l D cA b M L g (xs ((6 * k) + 1)) hS hok) ⟨fw_493, fw_494, fw_495, fw_1, fw_496⟩ ⟨rfl, hd_X6_lots⟩ rfl ly_0 ⟨Nat.le_of_ble_eq_true rfl, Nat.le_of_ble_eq_true rfl⟩ ⟨Nat.le_of_ble_eq_true rfl, Nat.le_of_ble_eq_true rfl⟩ rfl rfl (Nat.le_of_ble_eq_true rfl) dL_law_803 (g_rm (fun r_1 M_1 L_1 h_1 => ?_))
  obtain ⟨e_1, cs_1, f_1⟩ := h_1
  rw [e_1]
  have rs_1 : RS M_1 L_1 g := RS_fC hR f_1
  refine g_aload_n hC dL_law_806 rfl 1 rfl ?_
  refine g_aload_n hC dL_law_807 rfl 3 rfl ?_
  refine g_iload_n hC dL_law_808 rfl 0 rfl ?_
  refine g_iconst (v := 1) hC dL_law_809 rfl ?_
  refine g_iadd hC dL_law_810 ?_
  refine g_top (y := nI ((6 * k) + 1)) (nI_add _ _) ?_
  refine g_sld hC hX hbl hbA ((6 * k) + 1) rfl (by omega) (by omega) dL_law_811 ?_
  refine g_callV hC (k := 58) (ci := 7) (as := [.int (xs ((6 * k) + 1))]) (rest := [.int ((op_lots g (xs ((6 * k) + 1))).1)]) (c_X7_lots l D cA b M_1 L_1 g (xs ((6 * k) + 1)) rs_1 hok) ⟨fw_922, fw_923, fw_924, fw_9, fw_925⟩ ⟨rfl, hd_X7_lots⟩ rfl ly_58 ⟨Nat.le_of_ble_eq_true rfl, Nat.le_of_ble_eq_true rfl⟩ ⟨Nat.le_of_ble_eq_true rfl, Nat.le_of_ble_eq_true rfl⟩ rfl rfl (Nat.le_of_ble_eq_true rfl) dL_law_812 (g_rm (fun r_2 M_2 L_2 h_2 => ?_))
  obtain ⟨e_2, rs_2, f_2⟩ := h_2
  rw [e_2]
  have cs_2 : CS M_2 L_2 _ := CS_fR cs_1 (ok_lots hok (xs ((6 * k) + 1))) f_2
  refine g_icmp_eq_T (X := ((op_lots g (xs ((6 * k) + 1))).1).toInt) (Y := ((op_lots g (xs ((6 * k) + 1))).1).toInt) hC rfl rfl 1284 dL_law_815 rfl (fun _ => ?_) (fun c_3 => absurd rfl c_3)
  exact kk _ _ _ cs_2 rs_2 (ok_lots hok (xs ((6 * k) + 1)))

theorem lc_24 {pq : Program} {l : Launch} {eq : Env} {sq : State} {mq : MethodId} {aq : Array Value} {bq : List Frame} {tq : Method} {cq : Code} {Q : State → Prop} {D : va_G} {cA : Nat → ClassId} {b bs n k : Nat} {xs : Nat → Int32} {M : Nat → Nat → Int32} {L : Nat → Nat → Int64} {g : Sg} (hC : fm_C pq sq mq aq tq cq D cA b cL_law 4 RL ret 0) (hX : va_X bs n xs sq sq.heap) (hbl : bs < sq.heap.size) (hbA : bs < b) (hn : n ≤ 3072) (hi : 6 * k + 6 ≤ n) (hS : CS M L g) (hR : RS M L g) (hok : OK g) (kk : ∀ (M' : Nat → Nat → Int32) (L' : Nat → Nat → Int64) (g' : Sg), CS M' L' g' → RS M' L' g' → OK g' → fm_G pq l eq room_1 sq mq aq bq tq cq D cA b 4 Q LAY M' L' 78 6668 1284 [(3, .int (nI (6 * k))), (2, .ref (b + 58)), (1, .ref (b + 0)), (0, .ref bs)] []) : fm_G pq l eq room_1 sq mq aq bq tq cq D cA b 4 Q LAY M L 78 6668 820 [(3, .int (nI (6 * k))), (2, .ref (b + 58)), (1, .ref (b + 0)), (0, .ref bs)] [] := by
  refine g_aload_n hC dL_law_820 rfl 2 rfl ?_
  refine g_aload_n hC dL_law_821 rfl 3 rfl ?_
  refine g_iload_n hC dL_law_822 rfl 0 rfl ?_
  refine g_iconst (v := 1) hC dL_law_823 rfl ?_
  refine g_iadd hC dL_law_824 ?_
  refine g_top (y := nI ((6 * k) + 1)) (nI_add _ _) ?_
  refine g_sld hC hX hbl hbA ((6 * k) + 1) rfl (by omega) (by omega) dL_law_825 ?_
  refine g_callV hC (k := 0) (ci := 6) (as := [.int (xs ((6 * k) + 1))]) (rest := []) (c_X6_seed l D cA b M L g (xs ((6 * k) + 1)) hS hok) ⟨fw_506, fw_507, fw_508, fw_1, fw_509⟩ ⟨rfl, hd_X6_seed⟩ rfl ly_0 ⟨Nat.le_of_ble_eq_true rfl, Nat.le_of_ble_eq_true rfl⟩ ⟨Nat.le_of_ble_eq_true rfl, Nat.le_of_ble_eq_true rfl⟩ rfl rfl (Nat.le_of_ble_eq_true rfl) dL_law_826 (g_rm (fun r_1 M_1 L_1 h_1 => ?_))
  obtain ⟨e_1, cs_1, f_1⟩ := h_1
  rw [e_1]
  have rs_1 : RS M_1 L_1 g := RS_fC hR f_1
  refine g_aload_n hC dL_law_829 rfl 1 rfl ?_
  refine g_aload_n hC dL_law_830 rfl 3 rfl ?_
  refine g_iload_n hC dL_law_831 rfl 0 rfl ?_
  refine g_iconst (v := 1) hC dL_law_832 rfl ?_
  refine g_iadd hC dL_law_833 ?_
  refine g_top (y := nI ((6 * k) + 1)) (nI_add _ _) ?_
  refine g_sld hC hX hbl hbA ((6 * k) + 1) rfl (by omega) (by omega) dL_law_834 ?_
  refine g_callV hC (k := 58) (ci := 7) (as := [.int (xs ((6 * k) + 1))]) (rest := [.int ((op_seed g (xs ((6 * k) + 1))).1)]) (c_X7_seed l D cA b M_1 L_1 g (xs ((6 * k) + 1)) rs_1 hok) ⟨fw_934, fw_935, fw_936, fw_9, fw_937⟩ ⟨rfl, hd_X7_seed⟩ rfl ly_58 ⟨Nat.le_of_ble_eq_true rfl, Nat.le_of_ble_eq_true rfl⟩ ⟨Nat.le_of_ble_eq_true rfl, Nat.le_of_ble_eq_true rfl⟩ rfl rfl (Nat.le_of_ble_eq_true rfl) dL_law_835 (g_rm (fun r_2 M_2 L_2 h_2 => ?_))
  obtain ⟨e_2, rs_2, f_2⟩ := h_2
  rw [e_2]
  have cs_2 : CS M_2 L_2 _ := CS_fR cs_1 (ok_seed hok (xs ((6 * k) + 1))) f_2
  refine g_icmp_eq_T (X := ((op_seed g (xs ((6 * k) + 1))).1).toInt) (Y := ((op_seed g (xs ((6 * k) + 1))).1).toInt) hC rfl rfl 1284 dL_law_838 rfl (fun _ => ?_) (fun c_3 => absurd rfl c_3)
  exact kk _ _ _ cs_2 rs_2 (ok_seed hok (xs ((6 * k) + 1)))

theorem lc_25 {pq : Program} {l : Launch} {eq : Env} {sq : State} {mq : MethodId} {aq : Array Value} {bq : List Frame} {tq : Method} {cq : Code} {Q : State → Prop} {D : va_G} {cA : Nat → ClassId} {b bs n k : Nat} {xs : Nat → Int32} {M : Nat → Nat → Int32} {L : Nat → Nat → Int64} {g : Sg} (hC : fm_C pq sq mq aq tq cq D cA b cL_law 4 RL ret 0) (hX : va_X bs n xs sq sq.heap) (hbl : bs < sq.heap.size) (hbA : bs < b) (hn : n ≤ 3072) (hi : 6 * k + 6 ≤ n) (hS : CS M L g) (hR : RS M L g) (hok : OK g) (kk : ∀ (M' : Nat → Nat → Int32) (L' : Nat → Nat → Int64) (g' : Sg), CS M' L' g' → RS M' L' g' → OK g' → fm_G pq l eq room_1 sq mq aq bq tq cq D cA b 4 Q LAY M' L' 78 6668 1284 [(3, .int (nI (6 * k))), (2, .ref (b + 58)), (1, .ref (b + 0)), (0, .ref bs)] []) : fm_G pq l eq room_1 sq mq aq bq tq cq D cA b 4 Q LAY M L 78 6668 843 [(3, .int (nI (6 * k))), (2, .ref (b + 58)), (1, .ref (b + 0)), (0, .ref bs)] [] := by
  refine g_aload_n hC dL_law_843 rfl 2 rfl ?_
  refine g_callV hC (k := 0) (ci := 6) (as := []) (rest := []) (c_X6_image l D cA b M L g hS hok) ⟨fw_510, fw_511, fw_512, fw_1, fw_513⟩ ⟨rfl, hd_X6_image⟩ rfl ly_0 ⟨Nat.le_of_ble_eq_true rfl, Nat.le_of_ble_eq_true rfl⟩ ⟨Nat.le_of_ble_eq_true rfl, Nat.le_of_ble_eq_true rfl⟩ rfl rfl (Nat.le_of_ble_eq_true rfl) dL_law_844 (g_rm (fun r_1 M_1 L_1 h_1 => ?_))
  obtain ⟨e_1, cs_1, f_1⟩ := h_1
  rw [e_1]
  have rs_1 : RS M_1 L_1 g := RS_fC hR f_1
  refine g_aload_n hC dL_law_847 rfl 1 rfl ?_
  refine g_callV hC (k := 58) (ci := 7) (as := []) (rest := [.int ((op_image g).1)]) (c_X7_image l D cA b M_1 L_1 g rs_1 hok) ⟨fw_938, fw_939, fw_940, fw_9, fw_941⟩ ⟨rfl, hd_X7_image⟩ rfl ly_58 ⟨Nat.le_of_ble_eq_true rfl, Nat.le_of_ble_eq_true rfl⟩ ⟨Nat.le_of_ble_eq_true rfl, Nat.le_of_ble_eq_true rfl⟩ rfl rfl (Nat.le_of_ble_eq_true rfl) dL_law_848 (g_rm (fun r_2 M_2 L_2 h_2 => ?_))
  obtain ⟨e_2, rs_2, f_2⟩ := h_2
  rw [e_2]
  have cs_2 : CS M_2 L_2 _ := CS_fR cs_1 (ok_image hok) f_2
  refine g_icmp_eq_T (X := ((op_image g).1).toInt) (Y := ((op_image g).1).toInt) hC rfl rfl 1284 dL_law_851 rfl (fun _ => ?_) (fun c_3 => absurd rfl c_3)
  exact kk _ _ _ cs_2 rs_2 (ok_image hok)

theorem lc_26 {pq : Program} {l : Launch} {eq : Env} {sq : State} {mq : MethodId} {aq : Array Value} {bq : List Frame} {tq : Method} {cq : Code} {Q : State → Prop} {D : va_G} {cA : Nat → ClassId} {b bs n k : Nat} {xs : Nat → Int32} {M : Nat → Nat → Int32} {L : Nat → Nat → Int64} {g : Sg} (hC : fm_C pq sq mq aq tq cq D cA b cL_law 4 RL ret 0) (hX : va_X bs n xs sq sq.heap) (hbl : bs < sq.heap.size) (hbA : bs < b) (hn : n ≤ 3072) (hi : 6 * k + 6 ≤ n) (hS : CS M L g) (hR : RS M L g) (hok : OK g) (kk : ∀ (M' : Nat → Nat → Int32) (L' : Nat → Nat → Int64) (g' : Sg), CS M' L' g' → RS M' L' g' → OK g' → fm_G pq l eq room_1 sq mq aq bq tq cq D cA b 4 Q LAY M' L' 78 6668 1284 [(3, .int (nI (6 * k))), (2, .ref (b + 58)), (1, .ref (b + 0)), (0, .ref bs)] []) : fm_G pq l eq room_1 sq mq aq bq tq cq D cA b 4 Q LAY M L 78 6668 856 [(3, .int (nI (6 * k))), (2, .ref (b + 58)), (1, .ref (b + 0)), (0, .ref bs)] [] := by
  refine g_aload_n hC dL_law_856 rfl 2 rfl ?_
  refine g_callV hC (k := 0) (ci := 6) (as := []) (rest := []) (c_X6_restore l D cA b M L g hS hok) ⟨fw_520, fw_521, fw_522, fw_1, fw_523⟩ ⟨rfl, hd_X6_restore⟩ rfl ly_0 ⟨Nat.le_of_ble_eq_true rfl, Nat.le_of_ble_eq_true rfl⟩ ⟨Nat.le_of_ble_eq_true rfl, Nat.le_of_ble_eq_true rfl⟩ rfl rfl (Nat.le_of_ble_eq_true rfl) dL_law_857 (g_rm (fun r_1 M_1 L_1 h_1 => ?_))
  obtain ⟨e_1, cs_1, f_1⟩ := h_1
  rw [e_1]
  have rs_1 : RS M_1 L_1 g := RS_fC hR f_1
  refine g_aload_n hC dL_law_860 rfl 1 rfl ?_
  refine g_callV hC (k := 58) (ci := 7) (as := []) (rest := [.int ((op_restore g).1)]) (c_X7_restore l D cA b M_1 L_1 g rs_1 hok) ⟨fw_946, fw_947, fw_948, fw_9, fw_949⟩ ⟨rfl, hd_X7_restore⟩ rfl ly_58 ⟨Nat.le_of_ble_eq_true rfl, Nat.le_of_ble_eq_true rfl⟩ ⟨Nat.le_of_ble_eq_true rfl, Nat.le_of_ble_eq_true rfl⟩ rfl rfl (Nat.le_of_ble_eq_true rfl) dL_law_861 (g_rm (fun r_2 M_2 L_2 h_2 => ?_))
  obtain ⟨e_2, rs_2, f_2⟩ := h_2
  rw [e_2]
  have cs_2 : CS M_2 L_2 _ := CS_fR cs_1 (ok_restore hok) f_2
  refine g_icmp_eq_T (X := ((op_restore g).1).toInt) (Y := ((op_restore g).1).toInt) hC rfl rfl 1284 dL_law_864 rfl (fun _ => ?_) (fun c_3 => absurd rfl c_3)
  exact kk _ _ _ cs_2 rs_2 (ok_restore hok)
