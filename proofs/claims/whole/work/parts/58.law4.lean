/-! ===== the law: cases 27 to 34 ===== -/

theorem lc_27 {pq : Program} {l : Launch} {eq : Env} {sq : State} {mq : MethodId} {aq : Array Value} {bq : List Frame} {tq : Method} {cq : Code} {Q : State → Prop} {D : va_G} {cA : Nat → ClassId} {b bs n k : Nat} {xs : Nat → Int32} {M : Nat → Nat → Int32} {L : Nat → Nat → Int64} {g : Sg} (hC : fm_C pq sq mq aq tq cq D cA b cL_law 4 RL ret 0) (hX : va_X bs n xs sq sq.heap) (hbl : bs < sq.heap.size) (hbA : bs < b) (hn : n ≤ 3072) (hi : 6 * k + 6 ≤ n) (hS : CS M L g) (hR : RS M L g) (hok : OK g) (kk : ∀ (M' : Nat → Nat → Int32) (L' : Nat → Nat → Int64) (g' : Sg), CS M' L' g' → RS M' L' g' → OK g' → fm_G pq l eq room_1 sq mq aq bq tq cq D cA b 4 Q LAY M' L' 78 6668 1284 [(3, .int (nI (6 * k))), (2, .ref (b + 58)), (1, .ref (b + 0)), (0, .ref bs)] []) : fm_G pq l eq room_1 sq mq aq bq tq cq D cA b 4 Q LAY M L 78 6668 869 [(3, .int (nI (6 * k))), (2, .ref (b + 58)), (1, .ref (b + 0)), (0, .ref bs)] [] := by
  refine g_aload_n hC dL_law_869 rfl 2 rfl ?_
  refine g_aload_n hC dL_law_870 rfl 3 rfl ?_
  refine g_iload_n hC dL_law_871 rfl 0 rfl ?_
  refine g_iconst (v := 1) hC dL_law_872 rfl ?_
  refine g_iadd hC dL_law_873 ?_
  refine g_top (y := nI ((6 * k) + 1)) (nI_add _ _) ?_
  refine g_sld hC hX hbl hbA ((6 * k) + 1) rfl (by omega) (by omega) dL_law_874 ?_
  refine g_aload_n hC dL_law_875 rfl 3 rfl ?_
  refine g_iload_n hC dL_law_876 rfl 0 rfl ?_
  refine g_iconst (v := 2) hC dL_law_877 rfl ?_
  refine g_iadd hC dL_law_878 ?_
  refine g_top (y := nI ((6 * k) + 2)) (nI_add _ _) ?_
  refine g_sld hC hX hbl hbA ((6 * k) + 2) rfl (by omega) (by omega) dL_law_879 ?_
  refine g_aload_n hC dL_law_880 rfl 3 rfl ?_
  refine g_iload_n hC dL_law_881 rfl 0 rfl ?_
  refine g_iconst (v := 3) hC dL_law_882 rfl ?_
  refine g_iadd hC dL_law_883 ?_
  refine g_top (y := nI ((6 * k) + 3)) (nI_add _ _) ?_
  refine g_sld hC hX hbl hbA ((6 * k) + 3) rfl (by omega) (by omega) dL_law_884 ?_
  refine g_aload_n hC dL_law_885 rfl 3 rfl ?_
  refine g_iload_n hC dL_law_886 rfl 0 rfl ?_
  refine g_iconst (v := 4) hC dL_law_887 rfl ?_
  refine g_iadd hC dL_law_888 ?_
  refine g_top (y := nI ((6 * k) + 4)) (nI_add _ _) ?_
  refine g_sld hC hX hbl hbA ((6 * k) + 4) rfl (by omega) (by omega) dL_law_889 ?_
  refine g_callV hC (k := 0) (ci := 6) (as := [.int (xs ((6 * k) + 1)), .int (xs ((6 * k) + 2)), .int (xs ((6 * k) + 3)), .int (xs ((6 * k) + 4))]) (rest := []) (c_X6_clocks l D cA b M L g (xs ((6 * k) + 1)) (xs ((6 * k) + 2)) (xs ((6 * k) + 3)) (xs ((6 * k) + 4)) hS hok) ⟨fw_524, fw_525, fw_526, fw_1, fw_527⟩ ⟨rfl, hd_X6_clocks⟩ rfl ly_0 ⟨Nat.le_of_ble_eq_true rfl, Nat.le_of_ble_eq_true rfl⟩ ⟨Nat.le_of_ble_eq_true rfl, Nat.le_of_ble_eq_true rfl⟩ rfl rfl (Nat.le_of_ble_eq_true rfl) dL_law_890 (g_rl (fun r_1 M_1 L_1 h_1 => ?_))
  obtain ⟨e_1, cs_1, f_1⟩ := h_1
  rw [e_1]
  have rs_1 : RS M_1 L_1 g := RS_fC hR f_1
  refine g_aload_n hC dL_law_893 rfl 1 rfl ?_
  refine g_aload_n hC dL_law_894 rfl 3 rfl ?_
  refine g_iload_n hC dL_law_895 rfl 0 rfl ?_
  refine g_iconst (v := 1) hC dL_law_896 rfl ?_
  refine g_iadd hC dL_law_897 ?_
  refine g_top (y := nI ((6 * k) + 1)) (nI_add _ _) ?_
  refine g_sld hC hX hbl hbA ((6 * k) + 1) rfl (by omega) (by omega) dL_law_898 ?_
  refine g_aload_n hC dL_law_899 rfl 3 rfl ?_
  refine g_iload_n hC dL_law_900 rfl 0 rfl ?_
  refine g_iconst (v := 2) hC dL_law_901 rfl ?_
  refine g_iadd hC dL_law_902 ?_
  refine g_top (y := nI ((6 * k) + 2)) (nI_add _ _) ?_
  refine g_sld hC hX hbl hbA ((6 * k) + 2) rfl (by omega) (by omega) dL_law_903 ?_
  refine g_aload_n hC dL_law_904 rfl 3 rfl ?_
  refine g_iload_n hC dL_law_905 rfl 0 rfl ?_
  refine g_iconst (v := 3) hC dL_law_906 rfl ?_
  refine g_iadd hC dL_law_907 ?_
  refine g_top (y := nI ((6 * k) + 3)) (nI_add _ _) ?_
  refine g_sld hC hX hbl hbA ((6 * k) + 3) rfl (by omega) (by omega) dL_law_908 ?_
  refine g_aload_n hC dL_law_909 rfl 3 rfl ?_
  refine g_iload_n hC dL_law_910 rfl 0 rfl ?_
  refine g_iconst (v := 4) hC dL_law_911 rfl ?_
  refine g_iadd hC dL_law_912 ?_
  refine g_top (y := nI ((6 * k) + 4)) (nI_add _ _) ?_
  refine g_sld hC hX hbl hbA ((6 * k) + 4) rfl (by omega) (by omega) dL_law_913 ?_
  refine g_callV hC (k := 58) (ci := 7) (as := [.int (xs ((6 * k) + 1)), .int (xs ((6 * k) + 2)), .int (xs ((6 * k) + 3)), .int (xs ((6 * k) + 4))]) (rest := [.long (op_clocks g (xs ((6 * k) + 1)) (xs ((6 * k) + 2)) (xs ((6 * k) + 3)) (xs ((6 * k) + 4)))]) (c_X7_clocks l D cA b M_1 L_1 g (xs ((6 * k) + 1)) (xs ((6 * k) + 2)) (xs ((6 * k) + 3)) (xs ((6 * k) + 4)) rs_1 hok) ⟨fw_972, fw_973, fw_974, fw_9, fw_975⟩ ⟨rfl, hd_X7_clocks⟩ rfl ly_58 ⟨Nat.le_of_ble_eq_true rfl, Nat.le_of_ble_eq_true rfl⟩ ⟨Nat.le_of_ble_eq_true rfl, Nat.le_of_ble_eq_true rfl⟩ rfl rfl (Nat.le_of_ble_eq_true rfl) dL_law_914 (g_rl (fun r_2 M_2 L_2 h_2 => ?_))
  obtain ⟨e_2, rs_2, f_2⟩ := h_2
  rw [e_2]
  have cs_2 : CS M_2 L_2 _ := CS_fR cs_1 hok f_2
  refine g_lcmp hC dL_law_917 ?_
  refine g_cmp_eq_T (X := (op_clocks g (xs ((6 * k) + 1)) (xs ((6 * k) + 2)) (xs ((6 * k) + 3)) (xs ((6 * k) + 4))).toInt) (Y := (op_clocks g (xs ((6 * k) + 1)) (xs ((6 * k) + 2)) (xs ((6 * k) + 3)) (xs ((6 * k) + 4))).toInt) hC rfl rfl 1284 dL_law_918 rfl (fun _ => ?_) (fun c_3 => absurd rfl c_3)
  exact kk _ _ _ cs_2 rs_2 hok

theorem lc_28 {pq : Program} {l : Launch} {eq : Env} {sq : State} {mq : MethodId} {aq : Array Value} {bq : List Frame} {tq : Method} {cq : Code} {Q : State → Prop} {D : va_G} {cA : Nat → ClassId} {b bs n k : Nat} {xs : Nat → Int32} {M : Nat → Nat → Int32} {L : Nat → Nat → Int64} {g : Sg} (hC : fm_C pq sq mq aq tq cq D cA b cL_law 4 RL ret 0) (hX : va_X bs n xs sq sq.heap) (hbl : bs < sq.heap.size) (hbA : bs < b) (hn : n ≤ 3072) (hi : 6 * k + 6 ≤ n) (hS : CS M L g) (hR : RS M L g) (hok : OK g) (kk : ∀ (M' : Nat → Nat → Int32) (L' : Nat → Nat → Int64) (g' : Sg), CS M' L' g' → RS M' L' g' → OK g' → fm_G pq l eq room_1 sq mq aq bq tq cq D cA b 4 Q LAY M' L' 78 6668 1284 [(3, .int (nI (6 * k))), (2, .ref (b + 58)), (1, .ref (b + 0)), (0, .ref bs)] []) : fm_G pq l eq room_1 sq mq aq bq tq cq D cA b 4 Q LAY M L 78 6668 923 [(3, .int (nI (6 * k))), (2, .ref (b + 58)), (1, .ref (b + 0)), (0, .ref bs)] [] := by
  refine g_aload_n hC dL_law_923 rfl 2 rfl ?_
  refine g_aload_n hC dL_law_924 rfl 3 rfl ?_
  refine g_iload_n hC dL_law_925 rfl 0 rfl ?_
  refine g_iconst (v := 1) hC dL_law_926 rfl ?_
  refine g_iadd hC dL_law_927 ?_
  refine g_top (y := nI ((6 * k) + 1)) (nI_add _ _) ?_
  refine g_sld hC hX hbl hbA ((6 * k) + 1) rfl (by omega) (by omega) dL_law_928 ?_
  refine g_aload_n hC dL_law_929 rfl 3 rfl ?_
  refine g_iload_n hC dL_law_930 rfl 0 rfl ?_
  refine g_iconst (v := 2) hC dL_law_931 rfl ?_
  refine g_iadd hC dL_law_932 ?_
  refine g_top (y := nI ((6 * k) + 2)) (nI_add _ _) ?_
  refine g_sld hC hX hbl hbA ((6 * k) + 2) rfl (by omega) (by omega) dL_law_933 ?_
  refine g_aload_n hC dL_law_934 rfl 3 rfl ?_
  refine g_iload_n hC dL_law_935 rfl 0 rfl ?_
  refine g_iconst (v := 3) hC dL_law_936 rfl ?_
  refine g_iadd hC dL_law_937 ?_
  refine g_top (y := nI ((6 * k) + 3)) (nI_add _ _) ?_
  refine g_sld hC hX hbl hbA ((6 * k) + 3) rfl (by omega) (by omega) dL_law_938 ?_
  refine g_aload_n hC dL_law_939 rfl 3 rfl ?_
  refine g_iload_n hC dL_law_940 rfl 0 rfl ?_
  refine g_iconst (v := 4) hC dL_law_941 rfl ?_
  refine g_iadd hC dL_law_942 ?_
  refine g_top (y := nI ((6 * k) + 4)) (nI_add _ _) ?_
  refine g_sld hC hX hbl hbA ((6 * k) + 4) rfl (by omega) (by omega) dL_law_943 ?_
  refine g_aload_n hC dL_law_944 rfl 3 rfl ?_
  refine g_iload_n hC dL_law_945 rfl 0 rfl ?_
  refine g_iconst (v := 5) hC dL_law_946 rfl ?_
  refine g_iadd hC dL_law_947 ?_
  refine g_top (y := nI ((6 * k) + 5)) (nI_add _ _) ?_
  refine g_sld hC hX hbl hbA ((6 * k) + 5) rfl (by omega) (by omega) dL_law_948 ?_
  refine g_callV hC (k := 0) (ci := 6) (as := [.int (xs ((6 * k) + 1)), .int (xs ((6 * k) + 2)), .int (xs ((6 * k) + 3)), .int (xs ((6 * k) + 4)), .int (xs ((6 * k) + 5))]) (rest := []) (c_X6_sure l D cA b M L g (xs ((6 * k) + 1)) (xs ((6 * k) + 2)) (xs ((6 * k) + 3)) (xs ((6 * k) + 4)) (xs ((6 * k) + 5)) hS hok) ⟨fw_572, fw_573, fw_574, fw_1, fw_575⟩ ⟨rfl, hd_X6_sure⟩ rfl ly_0 ⟨Nat.le_of_ble_eq_true rfl, Nat.le_of_ble_eq_true rfl⟩ ⟨Nat.le_of_ble_eq_true rfl, Nat.le_of_ble_eq_true rfl⟩ rfl rfl (Nat.le_of_ble_eq_true rfl) dL_law_949 (g_rm (fun r_1 M_1 L_1 h_1 => ?_))
  obtain ⟨e_1, cs_1, f_1⟩ := h_1
  rw [e_1]
  have rs_1 : RS M_1 L_1 g := RS_fC hR f_1
  refine g_aload_n hC dL_law_952 rfl 1 rfl ?_
  refine g_aload_n hC dL_law_953 rfl 3 rfl ?_
  refine g_iload_n hC dL_law_954 rfl 0 rfl ?_
  refine g_iconst (v := 1) hC dL_law_955 rfl ?_
  refine g_iadd hC dL_law_956 ?_
  refine g_top (y := nI ((6 * k) + 1)) (nI_add _ _) ?_
  refine g_sld hC hX hbl hbA ((6 * k) + 1) rfl (by omega) (by omega) dL_law_957 ?_
  refine g_aload_n hC dL_law_958 rfl 3 rfl ?_
  refine g_iload_n hC dL_law_959 rfl 0 rfl ?_
  refine g_iconst (v := 2) hC dL_law_960 rfl ?_
  refine g_iadd hC dL_law_961 ?_
  refine g_top (y := nI ((6 * k) + 2)) (nI_add _ _) ?_
  refine g_sld hC hX hbl hbA ((6 * k) + 2) rfl (by omega) (by omega) dL_law_962 ?_
  refine g_aload_n hC dL_law_963 rfl 3 rfl ?_
  refine g_iload_n hC dL_law_964 rfl 0 rfl ?_
  refine g_iconst (v := 3) hC dL_law_965 rfl ?_
  refine g_iadd hC dL_law_966 ?_
  refine g_top (y := nI ((6 * k) + 3)) (nI_add _ _) ?_
  refine g_sld hC hX hbl hbA ((6 * k) + 3) rfl (by omega) (by omega) dL_law_967 ?_
  refine g_aload_n hC dL_law_968 rfl 3 rfl ?_
  refine g_iload_n hC dL_law_969 rfl 0 rfl ?_
  refine g_iconst (v := 4) hC dL_law_970 rfl ?_
  refine g_iadd hC dL_law_971 ?_
  refine g_top (y := nI ((6 * k) + 4)) (nI_add _ _) ?_
  refine g_sld hC hX hbl hbA ((6 * k) + 4) rfl (by omega) (by omega) dL_law_972 ?_
  refine g_aload_n hC dL_law_973 rfl 3 rfl ?_
  refine g_iload_n hC dL_law_974 rfl 0 rfl ?_
  refine g_iconst (v := 5) hC dL_law_975 rfl ?_
  refine g_iadd hC dL_law_976 ?_
  refine g_top (y := nI ((6 * k) + 5)) (nI_add _ _) ?_
  refine g_sld hC hX hbl hbA ((6 * k) + 5) rfl (by omega) (by omega) dL_law_977 ?_
  refine g_callV hC (k := 58) (ci := 7) (as := [.int (xs ((6 * k) + 1)), .int (xs ((6 * k) + 2)), .int (xs ((6 * k) + 3)), .int (xs ((6 * k) + 4)), .int (xs ((6 * k) + 5))]) (rest := [.int (op_sure g (xs ((6 * k) + 1)) (xs ((6 * k) + 2)) (xs ((6 * k) + 3)) (xs ((6 * k) + 4)) (xs ((6 * k) + 5)))]) (c_X7_sure l D cA b M_1 L_1 g (xs ((6 * k) + 1)) (xs ((6 * k) + 2)) (xs ((6 * k) + 3)) (xs ((6 * k) + 4)) (xs ((6 * k) + 5)) rs_1 hok) ⟨fw_988, fw_989, fw_990, fw_9, fw_991⟩ ⟨rfl, hd_X7_sure⟩ rfl ly_58 ⟨Nat.le_of_ble_eq_true rfl, Nat.le_of_ble_eq_true rfl⟩ ⟨Nat.le_of_ble_eq_true rfl, Nat.le_of_ble_eq_true rfl⟩ rfl rfl (Nat.le_of_ble_eq_true rfl) dL_law_978 (g_rm (fun r_2 M_2 L_2 h_2 => ?_))
  obtain ⟨e_2, rs_2, f_2⟩ := h_2
  rw [e_2]
  have cs_2 : CS M_2 L_2 _ := CS_fR cs_1 hok f_2
  refine g_icmp_eq_T (X := (op_sure g (xs ((6 * k) + 1)) (xs ((6 * k) + 2)) (xs ((6 * k) + 3)) (xs ((6 * k) + 4)) (xs ((6 * k) + 5))).toInt) (Y := (op_sure g (xs ((6 * k) + 1)) (xs ((6 * k) + 2)) (xs ((6 * k) + 3)) (xs ((6 * k) + 4)) (xs ((6 * k) + 5))).toInt) hC rfl rfl 1284 dL_law_981 rfl (fun _ => ?_) (fun c_3 => absurd rfl c_3)
  exact kk _ _ _ cs_2 rs_2 hok

theorem lc_29 {pq : Program} {l : Launch} {eq : Env} {sq : State} {mq : MethodId} {aq : Array Value} {bq : List Frame} {tq : Method} {cq : Code} {Q : State → Prop} {D : va_G} {cA : Nat → ClassId} {b bs n k : Nat} {xs : Nat → Int32} {M : Nat → Nat → Int32} {L : Nat → Nat → Int64} {g : Sg} (hC : fm_C pq sq mq aq tq cq D cA b cL_law 4 RL ret 0) (hX : va_X bs n xs sq sq.heap) (hbl : bs < sq.heap.size) (hbA : bs < b) (hn : n ≤ 3072) (hi : 6 * k + 6 ≤ n) (hS : CS M L g) (hR : RS M L g) (hok : OK g) (kk : ∀ (M' : Nat → Nat → Int32) (L' : Nat → Nat → Int64) (g' : Sg), CS M' L' g' → RS M' L' g' → OK g' → fm_G pq l eq room_1 sq mq aq bq tq cq D cA b 4 Q LAY M' L' 78 6668 1284 [(3, .int (nI (6 * k))), (2, .ref (b + 58)), (1, .ref (b + 0)), (0, .ref bs)] []) : fm_G pq l eq room_1 sq mq aq bq tq cq D cA b 4 Q LAY M L 78 6668 986 [(3, .int (nI (6 * k))), (2, .ref (b + 58)), (1, .ref (b + 0)), (0, .ref bs)] [] := by
  refine g_aload_n hC dL_law_986 rfl 2 rfl ?_
  refine g_aload_n hC dL_law_987 rfl 3 rfl ?_
  refine g_iload_n hC dL_law_988 rfl 0 rfl ?_
  refine g_iconst (v := 1) hC dL_law_989 rfl ?_
  refine g_iadd hC dL_law_990 ?_
  refine g_top (y := nI ((6 * k) + 1)) (nI_add _ _) ?_
  refine g_sld hC hX hbl hbA ((6 * k) + 1) rfl (by omega) (by omega) dL_law_991 ?_
  refine g_aload_n hC dL_law_992 rfl 3 rfl ?_
  refine g_iload_n hC dL_law_993 rfl 0 rfl ?_
  refine g_iconst (v := 2) hC dL_law_994 rfl ?_
  refine g_iadd hC dL_law_995 ?_
  refine g_top (y := nI ((6 * k) + 2)) (nI_add _ _) ?_
  refine g_sld hC hX hbl hbA ((6 * k) + 2) rfl (by omega) (by omega) dL_law_996 ?_
  refine g_aload_n hC dL_law_997 rfl 3 rfl ?_
  refine g_iload_n hC dL_law_998 rfl 0 rfl ?_
  refine g_iconst (v := 3) hC dL_law_999 rfl ?_
  refine g_iadd hC dL_law_1000 ?_
  refine g_top (y := nI ((6 * k) + 3)) (nI_add _ _) ?_
  refine g_sld hC hX hbl hbA ((6 * k) + 3) rfl (by omega) (by omega) dL_law_1001 ?_
  refine g_callV hC (k := 0) (ci := 6) (as := [.int (xs ((6 * k) + 1)), .int (xs ((6 * k) + 2)), .int (xs ((6 * k) + 3))]) (rest := []) (c_X6_film l D cA b M L g (xs ((6 * k) + 1)) (xs ((6 * k) + 2)) (xs ((6 * k) + 3)) hS hok) ⟨fw_580, fw_581, fw_582, fw_1, fw_583⟩ ⟨rfl, hd_X6_film⟩ rfl ly_0 ⟨Nat.le_of_ble_eq_true rfl, Nat.le_of_ble_eq_true rfl⟩ ⟨Nat.le_of_ble_eq_true rfl, Nat.le_of_ble_eq_true rfl⟩ rfl rfl (Nat.le_of_ble_eq_true rfl) dL_law_1002 (g_rm (fun r_1 M_1 L_1 h_1 => ?_))
  obtain ⟨e_1, cs_1, f_1⟩ := h_1
  rw [e_1]
  have rs_1 : RS M_1 L_1 g := RS_fC hR f_1
  refine g_aload_n hC dL_law_1005 rfl 1 rfl ?_
  refine g_aload_n hC dL_law_1006 rfl 3 rfl ?_
  refine g_iload_n hC dL_law_1007 rfl 0 rfl ?_
  refine g_iconst (v := 1) hC dL_law_1008 rfl ?_
  refine g_iadd hC dL_law_1009 ?_
  refine g_top (y := nI ((6 * k) + 1)) (nI_add _ _) ?_
  refine g_sld hC hX hbl hbA ((6 * k) + 1) rfl (by omega) (by omega) dL_law_1010 ?_
  refine g_aload_n hC dL_law_1011 rfl 3 rfl ?_
  refine g_iload_n hC dL_law_1012 rfl 0 rfl ?_
  refine g_iconst (v := 2) hC dL_law_1013 rfl ?_
  refine g_iadd hC dL_law_1014 ?_
  refine g_top (y := nI ((6 * k) + 2)) (nI_add _ _) ?_
  refine g_sld hC hX hbl hbA ((6 * k) + 2) rfl (by omega) (by omega) dL_law_1015 ?_
  refine g_aload_n hC dL_law_1016 rfl 3 rfl ?_
  refine g_iload_n hC dL_law_1017 rfl 0 rfl ?_
  refine g_iconst (v := 3) hC dL_law_1018 rfl ?_
  refine g_iadd hC dL_law_1019 ?_
  refine g_top (y := nI ((6 * k) + 3)) (nI_add _ _) ?_
  refine g_sld hC hX hbl hbA ((6 * k) + 3) rfl (by omega) (by omega) dL_law_1020 ?_
  refine g_callV hC (k := 58) (ci := 7) (as := [.int (xs ((6 * k) + 1)), .int (xs ((6 * k) + 2)), .int (xs ((6 * k) + 3))]) (rest := [.int ((op_film g (xs ((6 * k) + 1)) (xs ((6 * k) + 2)) (xs ((6 * k) + 3))).1)]) (c_X7_film l D cA b M_1 L_1 g (xs ((6 * k) + 1)) (xs ((6 * k) + 2)) (xs ((6 * k) + 3)) rs_1 hok) ⟨fw_992, fw_993, fw_994, fw_9, fw_995⟩ ⟨rfl, hd_X7_film⟩ rfl ly_58 ⟨Nat.le_of_ble_eq_true rfl, Nat.le_of_ble_eq_true rfl⟩ ⟨Nat.le_of_ble_eq_true rfl, Nat.le_of_ble_eq_true rfl⟩ rfl rfl (Nat.le_of_ble_eq_true rfl) dL_law_1021 (g_rm (fun r_2 M_2 L_2 h_2 => ?_))
  obtain ⟨e_2, rs_2, f_2⟩ := h_2
  rw [e_2]
  have cs_2 : CS M_2 L_2 _ := CS_fR cs_1 (ok_film hok (xs ((6 * k) + 1)) (xs ((6 * k) + 2)) (xs ((6 * k) + 3))) f_2
  refine g_icmp_eq_T (X := ((op_film g (xs ((6 * k) + 1)) (xs ((6 * k) + 2)) (xs ((6 * k) + 3))).1).toInt) (Y := ((op_film g (xs ((6 * k) + 1)) (xs ((6 * k) + 2)) (xs ((6 * k) + 3))).1).toInt) hC rfl rfl 1284 dL_law_1024 rfl (fun _ => ?_) (fun c_3 => absurd rfl c_3)
  exact kk _ _ _ cs_2 rs_2 (ok_film hok (xs ((6 * k) + 1)) (xs ((6 * k) + 2)) (xs ((6 * k) + 3)))

theorem lc_30 {pq : Program} {l : Launch} {eq : Env} {sq : State} {mq : MethodId} {aq : Array Value} {bq : List Frame} {tq : Method} {cq : Code} {Q : State → Prop} {D : va_G} {cA : Nat → ClassId} {b bs n k : Nat} {xs : Nat → Int32} {M : Nat → Nat → Int32} {L : Nat → Nat → Int64} {g : Sg} (hC : fm_C pq sq mq aq tq cq D cA b cL_law 4 RL ret 0) (hX : va_X bs n xs sq sq.heap) (hbl : bs < sq.heap.size) (hbA : bs < b) (hn : n ≤ 3072) (hi : 6 * k + 6 ≤ n) (hS : CS M L g) (hR : RS M L g) (hok : OK g) (kk : ∀ (M' : Nat → Nat → Int32) (L' : Nat → Nat → Int64) (g' : Sg), CS M' L' g' → RS M' L' g' → OK g' → fm_G pq l eq room_1 sq mq aq bq tq cq D cA b 4 Q LAY M' L' 78 6668 1284 [(3, .int (nI (6 * k))), (2, .ref (b + 58)), (1, .ref (b + 0)), (0, .ref bs)] []) : fm_G pq l eq room_1 sq mq aq bq tq cq D cA b 4 Q LAY M L 78 6668 1029 [(3, .int (nI (6 * k))), (2, .ref (b + 58)), (1, .ref (b + 0)), (0, .ref bs)] [] := by
  refine g_aload_n hC dL_law_1029 rfl 2 rfl ?_
  refine g_aload_n hC dL_law_1030 rfl 3 rfl ?_
  refine g_iload_n hC dL_law_1031 rfl 0 rfl ?_
  refine g_iconst (v := 1) hC dL_law_1032 rfl ?_
  refine g_iadd hC dL_law_1033 ?_
  refine g_top (y := nI ((6 * k) + 1)) (nI_add _ _) ?_
  refine g_sld hC hX hbl hbA ((6 * k) + 1) rfl (by omega) (by omega) dL_law_1034 ?_
  refine g_aload_n hC dL_law_1035 rfl 3 rfl ?_
  refine g_iload_n hC dL_law_1036 rfl 0 rfl ?_
  refine g_iconst (v := 2) hC dL_law_1037 rfl ?_
  refine g_iadd hC dL_law_1038 ?_
  refine g_top (y := nI ((6 * k) + 2)) (nI_add _ _) ?_
  refine g_sld hC hX hbl hbA ((6 * k) + 2) rfl (by omega) (by omega) dL_law_1039 ?_
  refine g_aload_n hC dL_law_1040 rfl 3 rfl ?_
  refine g_iload_n hC dL_law_1041 rfl 0 rfl ?_
  refine g_iconst (v := 3) hC dL_law_1042 rfl ?_
  refine g_iadd hC dL_law_1043 ?_
  refine g_top (y := nI ((6 * k) + 3)) (nI_add _ _) ?_
  refine g_sld hC hX hbl hbA ((6 * k) + 3) rfl (by omega) (by omega) dL_law_1044 ?_
  refine g_callV hC (k := 0) (ci := 6) (as := [.int (xs ((6 * k) + 1)), .int (xs ((6 * k) + 2)), .int (xs ((6 * k) + 3))]) (rest := []) (c_X6_build l D cA b M L g (xs ((6 * k) + 1)) (xs ((6 * k) + 2)) (xs ((6 * k) + 3)) hS hok) ⟨fw_588, fw_589, fw_590, fw_1, fw_591⟩ ⟨rfl, hd_X6_build⟩ rfl ly_0 ⟨Nat.le_of_ble_eq_true rfl, Nat.le_of_ble_eq_true rfl⟩ ⟨Nat.le_of_ble_eq_true rfl, Nat.le_of_ble_eq_true rfl⟩ rfl rfl (Nat.le_of_ble_eq_true rfl) dL_law_1045 (g_rm (fun r_1 M_1 L_1 h_1 => ?_))
  obtain ⟨e_1, cs_1, f_1⟩ := h_1
  rw [e_1]
  have rs_1 : RS M_1 L_1 g := RS_fC hR f_1
  refine g_aload_n hC dL_law_1048 rfl 1 rfl ?_
  refine g_aload_n hC dL_law_1049 rfl 3 rfl ?_
  refine g_iload_n hC dL_law_1050 rfl 0 rfl ?_
  refine g_iconst (v := 1) hC dL_law_1051 rfl ?_
  refine g_iadd hC dL_law_1052 ?_
  refine g_top (y := nI ((6 * k) + 1)) (nI_add _ _) ?_
  refine g_sld hC hX hbl hbA ((6 * k) + 1) rfl (by omega) (by omega) dL_law_1053 ?_
  refine g_aload_n hC dL_law_1054 rfl 3 rfl ?_
  refine g_iload_n hC dL_law_1055 rfl 0 rfl ?_
  refine g_iconst (v := 2) hC dL_law_1056 rfl ?_
  refine g_iadd hC dL_law_1057 ?_
  refine g_top (y := nI ((6 * k) + 2)) (nI_add _ _) ?_
  refine g_sld hC hX hbl hbA ((6 * k) + 2) rfl (by omega) (by omega) dL_law_1058 ?_
  refine g_aload_n hC dL_law_1059 rfl 3 rfl ?_
  refine g_iload_n hC dL_law_1060 rfl 0 rfl ?_
  refine g_iconst (v := 3) hC dL_law_1061 rfl ?_
  refine g_iadd hC dL_law_1062 ?_
  refine g_top (y := nI ((6 * k) + 3)) (nI_add _ _) ?_
  refine g_sld hC hX hbl hbA ((6 * k) + 3) rfl (by omega) (by omega) dL_law_1063 ?_
  refine g_callV hC (k := 58) (ci := 7) (as := [.int (xs ((6 * k) + 1)), .int (xs ((6 * k) + 2)), .int (xs ((6 * k) + 3))]) (rest := [.int ((op_build g (xs ((6 * k) + 1)) (xs ((6 * k) + 2)) (xs ((6 * k) + 3))).1)]) (c_X7_build l D cA b M_1 L_1 g (xs ((6 * k) + 1)) (xs ((6 * k) + 2)) (xs ((6 * k) + 3)) rs_1 hok) ⟨fw_996, fw_997, fw_998, fw_9, fw_999⟩ ⟨rfl, hd_X7_build⟩ rfl ly_58 ⟨Nat.le_of_ble_eq_true rfl, Nat.le_of_ble_eq_true rfl⟩ ⟨Nat.le_of_ble_eq_true rfl, Nat.le_of_ble_eq_true rfl⟩ rfl rfl (Nat.le_of_ble_eq_true rfl) dL_law_1064 (g_rm (fun r_2 M_2 L_2 h_2 => ?_))
  obtain ⟨e_2, rs_2, f_2⟩ := h_2
  rw [e_2]
  have cs_2 : CS M_2 L_2 _ := CS_fR cs_1 (ok_build hok (xs ((6 * k) + 1)) (xs ((6 * k) + 2)) (xs ((6 * k) + 3))) f_2
  refine g_icmp_eq_T (X := ((op_build g (xs ((6 * k) + 1)) (xs ((6 * k) + 2)) (xs ((6 * k) + 3))).1).toInt) (Y := ((op_build g (xs ((6 * k) + 1)) (xs ((6 * k) + 2)) (xs ((6 * k) + 3))).1).toInt) hC rfl rfl 1284 dL_law_1067 rfl (fun _ => ?_) (fun c_3 => absurd rfl c_3)
  exact kk _ _ _ cs_2 rs_2 (ok_build hok (xs ((6 * k) + 1)) (xs ((6 * k) + 2)) (xs ((6 * k) + 3)))

theorem lc_31 {pq : Program} {l : Launch} {eq : Env} {sq : State} {mq : MethodId} {aq : Array Value} {bq : List Frame} {tq : Method} {cq : Code} {Q : State → Prop} {D : va_G} {cA : Nat → ClassId} {b bs n k : Nat} {xs : Nat → Int32} {M : Nat → Nat → Int32} {L : Nat → Nat → Int64} {g : Sg} (hC : fm_C pq sq mq aq tq cq D cA b cL_law 4 RL ret 0) (hX : va_X bs n xs sq sq.heap) (hbl : bs < sq.heap.size) (hbA : bs < b) (hn : n ≤ 3072) (hi : 6 * k + 6 ≤ n) (hS : CS M L g) (hR : RS M L g) (hok : OK g) (kk : ∀ (M' : Nat → Nat → Int32) (L' : Nat → Nat → Int64) (g' : Sg), CS M' L' g' → RS M' L' g' → OK g' → fm_G pq l eq room_1 sq mq aq bq tq cq D cA b 4 Q LAY M' L' 78 6668 1284 [(3, .int (nI (6 * k))), (2, .ref (b + 58)), (1, .ref (b + 0)), (0, .ref bs)] []) : fm_G pq l eq room_1 sq mq aq bq tq cq D cA b 4 Q LAY M L 78 6668 1072 [(3, .int (nI (6 * k))), (2, .ref (b + 58)), (1, .ref (b + 0)), (0, .ref bs)] [] := by
  refine g_aload_n hC dL_law_1072 rfl 2 rfl ?_
  refine g_aload_n hC dL_law_1073 rfl 3 rfl ?_
  refine g_iload_n hC dL_law_1074 rfl 0 rfl ?_
  refine g_iconst (v := 1) hC dL_law_1075 rfl ?_
  refine g_iadd hC dL_law_1076 ?_
  refine g_top (y := nI ((6 * k) + 1)) (nI_add _ _) ?_
  refine g_sld hC hX hbl hbA ((6 * k) + 1) rfl (by omega) (by omega) dL_law_1077 ?_
  refine g_aload_n hC dL_law_1078 rfl 3 rfl ?_
  refine g_iload_n hC dL_law_1079 rfl 0 rfl ?_
  refine g_iconst (v := 2) hC dL_law_1080 rfl ?_
  refine g_iadd hC dL_law_1081 ?_
  refine g_top (y := nI ((6 * k) + 2)) (nI_add _ _) ?_
  refine g_sld hC hX hbl hbA ((6 * k) + 2) rfl (by omega) (by omega) dL_law_1082 ?_
  refine g_aload_n hC dL_law_1083 rfl 3 rfl ?_
  refine g_iload_n hC dL_law_1084 rfl 0 rfl ?_
  refine g_iconst (v := 3) hC dL_law_1085 rfl ?_
  refine g_iadd hC dL_law_1086 ?_
  refine g_top (y := nI ((6 * k) + 3)) (nI_add _ _) ?_
  refine g_sld hC hX hbl hbA ((6 * k) + 3) rfl (by omega) (by omega) dL_law_1087 ?_
  refine g_callV hC (k := 0) (ci := 6) (as := [.int (xs ((6 * k) + 1)), .int (xs ((6 * k) + 2)), .int (xs ((6 * k) + 3))]) (rest := []) (c_X6_sheet l D cA b M L g (xs ((6 * k) + 1)) (xs ((6 * k) + 2)) (xs ((6 * k) + 3)) hS hok) ⟨fw_593, fw_594, fw_595, fw_1, fw_596⟩ ⟨rfl, hd_X6_sheet⟩ rfl ly_0 ⟨Nat.le_of_ble_eq_true rfl, Nat.le_of_ble_eq_true rfl⟩ ⟨Nat.le_of_ble_eq_true rfl, Nat.le_of_ble_eq_true rfl⟩ rfl rfl (Nat.le_of_ble_eq_true rfl) dL_law_1088 (g_rm (fun r_1 M_1 L_1 h_1 => ?_))
  obtain ⟨e_1, cs_1, f_1⟩ := h_1
  rw [e_1]
  have rs_1 : RS M_1 L_1 g := RS_fC hR f_1
  refine g_aload_n hC dL_law_1091 rfl 1 rfl ?_
  refine g_aload_n hC dL_law_1092 rfl 3 rfl ?_
  refine g_iload_n hC dL_law_1093 rfl 0 rfl ?_
  refine g_iconst (v := 1) hC dL_law_1094 rfl ?_
  refine g_iadd hC dL_law_1095 ?_
  refine g_top (y := nI ((6 * k) + 1)) (nI_add _ _) ?_
  refine g_sld hC hX hbl hbA ((6 * k) + 1) rfl (by omega) (by omega) dL_law_1096 ?_
  refine g_aload_n hC dL_law_1097 rfl 3 rfl ?_
  refine g_iload_n hC dL_law_1098 rfl 0 rfl ?_
  refine g_iconst (v := 2) hC dL_law_1099 rfl ?_
  refine g_iadd hC dL_law_1100 ?_
  refine g_top (y := nI ((6 * k) + 2)) (nI_add _ _) ?_
  refine g_sld hC hX hbl hbA ((6 * k) + 2) rfl (by omega) (by omega) dL_law_1101 ?_
  refine g_aload_n hC dL_law_1102 rfl 3 rfl ?_
  refine g_iload_n hC dL_law_1103 rfl 0 rfl ?_
  refine g_iconst (v := 3) hC dL_law_1104 rfl ?_
  refine g_iadd hC dL_law_1105 ?_
  refine g_top (y := nI ((6 * k) + 3)) (nI_add _ _) ?_
  refine g_sld hC hX hbl hbA ((6 * k) + 3) rfl (by omega) (by omega) dL_law_1106 ?_
  refine g_callV hC (k := 58) (ci := 7) (as := [.int (xs ((6 * k) + 1)), .int (xs ((6 * k) + 2)), .int (xs ((6 * k) + 3))]) (rest := [.int ((op_sheet g (xs ((6 * k) + 1)) (xs ((6 * k) + 2)) (xs ((6 * k) + 3))).1)]) (c_X7_sheet l D cA b M_1 L_1 g (xs ((6 * k) + 1)) (xs ((6 * k) + 2)) (xs ((6 * k) + 3)) rs_1 hok) ⟨fw_950, fw_951, fw_952, fw_9, fw_953⟩ ⟨rfl, hd_X7_sheet⟩ rfl ly_58 ⟨Nat.le_of_ble_eq_true rfl, Nat.le_of_ble_eq_true rfl⟩ ⟨Nat.le_of_ble_eq_true rfl, Nat.le_of_ble_eq_true rfl⟩ rfl rfl (Nat.le_of_ble_eq_true rfl) dL_law_1107 (g_rm (fun r_2 M_2 L_2 h_2 => ?_))
  obtain ⟨e_2, rs_2, f_2⟩ := h_2
  rw [e_2]
  have cs_2 : CS M_2 L_2 _ := CS_fR cs_1 (ok_sheet hok (xs ((6 * k) + 1)) (xs ((6 * k) + 2)) (xs ((6 * k) + 3))) f_2
  refine g_icmp_eq_T (X := ((op_sheet g (xs ((6 * k) + 1)) (xs ((6 * k) + 2)) (xs ((6 * k) + 3))).1).toInt) (Y := ((op_sheet g (xs ((6 * k) + 1)) (xs ((6 * k) + 2)) (xs ((6 * k) + 3))).1).toInt) hC rfl rfl 1284 dL_law_1110 rfl (fun _ => ?_) (fun c_3 => absurd rfl c_3)
  exact kk _ _ _ cs_2 rs_2 (ok_sheet hok (xs ((6 * k) + 1)) (xs ((6 * k) + 2)) (xs ((6 * k) + 3)))

theorem lc_32 {pq : Program} {l : Launch} {eq : Env} {sq : State} {mq : MethodId} {aq : Array Value} {bq : List Frame} {tq : Method} {cq : Code} {Q : State → Prop} {D : va_G} {cA : Nat → ClassId} {b bs n k : Nat} {xs : Nat → Int32} {M : Nat → Nat → Int32} {L : Nat → Nat → Int64} {g : Sg} (hC : fm_C pq sq mq aq tq cq D cA b cL_law 4 RL ret 0) (hX : va_X bs n xs sq sq.heap) (hbl : bs < sq.heap.size) (hbA : bs < b) (hn : n ≤ 3072) (hi : 6 * k + 6 ≤ n) (hS : CS M L g) (hR : RS M L g) (hok : OK g) (kk : ∀ (M' : Nat → Nat → Int32) (L' : Nat → Nat → Int64) (g' : Sg), CS M' L' g' → RS M' L' g' → OK g' → fm_G pq l eq room_1 sq mq aq bq tq cq D cA b 4 Q LAY M' L' 78 6668 1284 [(3, .int (nI (6 * k))), (2, .ref (b + 58)), (1, .ref (b + 0)), (0, .ref bs)] []) : fm_G pq l eq room_1 sq mq aq bq tq cq D cA b 4 Q LAY M L 78 6668 1115 [(3, .int (nI (6 * k))), (2, .ref (b + 58)), (1, .ref (b + 0)), (0, .ref bs)] [] := by
  refine g_aload_n hC dL_law_1115 rfl 2 rfl ?_
  refine g_aload_n hC dL_law_1116 rfl 3 rfl ?_
  refine g_iload_n hC dL_law_1117 rfl 0 rfl ?_
  refine g_iconst (v := 1) hC dL_law_1118 rfl ?_
  refine g_iadd hC dL_law_1119 ?_
  refine g_top (y := nI ((6 * k) + 1)) (nI_add _ _) ?_
  refine g_sld hC hX hbl hbA ((6 * k) + 1) rfl (by omega) (by omega) dL_law_1120 ?_
  refine g_callV hC (k := 0) (ci := 6) (as := [.int (xs ((6 * k) + 1))]) (rest := []) (c_X6_drop l D cA b M L g (xs ((6 * k) + 1)) hS hok) ⟨fw_602, fw_603, fw_604, fw_1, fw_605⟩ ⟨rfl, hd_X6_drop⟩ rfl ly_0 ⟨Nat.le_of_ble_eq_true rfl, Nat.le_of_ble_eq_true rfl⟩ ⟨Nat.le_of_ble_eq_true rfl, Nat.le_of_ble_eq_true rfl⟩ rfl rfl (Nat.le_of_ble_eq_true rfl) dL_law_1121 (g_rm (fun r_1 M_1 L_1 h_1 => ?_))
  obtain ⟨e_1, cs_1, f_1⟩ := h_1
  rw [e_1]
  have rs_1 : RS M_1 L_1 g := RS_fC hR f_1
  refine g_aload_n hC dL_law_1124 rfl 1 rfl ?_
  refine g_aload_n hC dL_law_1125 rfl 3 rfl ?_
  refine g_iload_n hC dL_law_1126 rfl 0 rfl ?_
  refine g_iconst (v := 1) hC dL_law_1127 rfl ?_
  refine g_iadd hC dL_law_1128 ?_
  refine g_top (y := nI ((6 * k) + 1)) (nI_add _ _) ?_
  refine g_sld hC hX hbl hbA ((6 * k) + 1) rfl (by omega) (by omega) dL_law_1129 ?_
  refine g_callV hC (k := 58) (ci := 7) (as := [.int (xs ((6 * k) + 1))]) (rest := [.int ((op_drop g (xs ((6 * k) + 1))).1)]) (c_X7_drop l D cA b M_1 L_1 g (xs ((6 * k) + 1)) rs_1 hok) ⟨fw_957, fw_958, fw_959, fw_9, fw_960⟩ ⟨rfl, hd_X7_drop⟩ rfl ly_58 ⟨Nat.le_of_ble_eq_true rfl, Nat.le_of_ble_eq_true rfl⟩ ⟨Nat.le_of_ble_eq_true rfl, Nat.le_of_ble_eq_true rfl⟩ rfl rfl (Nat.le_of_ble_eq_true rfl) dL_law_1130 (g_rm (fun r_2 M_2 L_2 h_2 => ?_))
  obtain ⟨e_2, rs_2, f_2⟩ := h_2
  rw [e_2]
  have cs_2 : CS M_2 L_2 _ := CS_fR cs_1 (ok_drop hok (xs ((6 * k) + 1))) f_2
  refine g_icmp_eq_T (X := ((op_drop g (xs ((6 * k) + 1))).1).toInt) (Y := ((op_drop g (xs ((6 * k) + 1))).1).toInt) hC rfl rfl 1284 dL_law_1133 rfl (fun _ => ?_) (fun c_3 => absurd rfl c_3)
  exact kk _ _ _ cs_2 rs_2 (ok_drop hok (xs ((6 * k) + 1)))

theorem lc_33 {pq : Program} {l : Launch} {eq : Env} {sq : State} {mq : MethodId} {aq : Array Value} {bq : List Frame} {tq : Method} {cq : Code} {Q : State → Prop} {D : va_G} {cA : Nat → ClassId} {b bs n k : Nat} {xs : Nat → Int32} {M : Nat → Nat → Int32} {L : Nat → Nat → Int64} {g : Sg} (hC : fm_C pq sq mq aq tq cq D cA b cL_law 4 RL ret 0) (hX : va_X bs n xs sq sq.heap) (hbl : bs < sq.heap.size) (hbA : bs < b) (hn : n ≤ 3072) (hi : 6 * k + 6 ≤ n) (hS : CS M L g) (hR : RS M L g) (hok : OK g) (kk : ∀ (M' : Nat → Nat → Int32) (L' : Nat → Nat → Int64) (g' : Sg), CS M' L' g' → RS M' L' g' → OK g' → fm_G pq l eq room_1 sq mq aq bq tq cq D cA b 4 Q LAY M' L' 78 6668 1284 [(3, .int (nI (6 * k))), (2, .ref (b + 58)), (1, .ref (b + 0)), (0, .ref bs)] []) : fm_G pq l eq room_1 sq mq aq bq tq cq D cA b 4 Q LAY M L 78 6668 1138 [(3, .int (nI (6 * k))), (2, .ref (b + 58)), (1, .ref (b + 0)), (0, .ref bs)] [] := by
  refine g_aload_n hC dL_law_1138 rfl 2 rfl ?_
  refine g_aload_n hC dL_law_1139 rfl 3 rfl ?_
  refine g_iload_n hC dL_law_1140 rfl 0 rfl ?_
  refine g_iconst (v := 1) hC dL_law_1141 rfl ?_
  refine g_iadd hC dL_law_1142 ?_
  refine g_top (y := nI ((6 * k) + 1)) (nI_add _ _) ?_
  refine g_sld hC hX hbl hbA ((6 * k) + 1) rfl (by omega) (by omega) dL_law_1143 ?_
  refine g_aload_n hC dL_law_1144 rfl 3 rfl ?_
  refine g_iload_n hC dL_law_1145 rfl 0 rfl ?_
  refine g_iconst (v := 2) hC dL_law_1146 rfl ?_
  refine g_iadd hC dL_law_1147 ?_
  refine g_top (y := nI ((6 * k) + 2)) (nI_add _ _) ?_
  refine g_sld hC hX hbl hbA ((6 * k) + 2) rfl (by omega) (by omega) dL_law_1148 ?_
  refine g_aload_n hC dL_law_1149 rfl 3 rfl ?_
  refine g_iload_n hC dL_law_1150 rfl 0 rfl ?_
  refine g_iconst (v := 3) hC dL_law_1151 rfl ?_
  refine g_iadd hC dL_law_1152 ?_
  refine g_top (y := nI ((6 * k) + 3)) (nI_add _ _) ?_
  refine g_sld hC hX hbl hbA ((6 * k) + 3) rfl (by omega) (by omega) dL_law_1153 ?_
  refine g_aload_n hC dL_law_1154 rfl 3 rfl ?_
  refine g_iload_n hC dL_law_1155 rfl 0 rfl ?_
  refine g_iconst (v := 4) hC dL_law_1156 rfl ?_
  refine g_iadd hC dL_law_1157 ?_
  refine g_top (y := nI ((6 * k) + 4)) (nI_add _ _) ?_
  refine g_sld hC hX hbl hbA ((6 * k) + 4) rfl (by omega) (by omega) dL_law_1158 ?_
  refine g_i2l (v := (xs ((6 * k) + 4)).toInt64) hC dL_law_1159 rfl ?_
  refine g_bipush (v := 32) hC dL_law_1160 rfl ?_
  refine g_lshl (v := ((xs ((6 * k) + 4)).toInt64) <<< ((32 : Int32).toInt64 &&& 63)) hC dL_law_1162 rfl ?_
  refine g_aload_n hC dL_law_1163 rfl 3 rfl ?_
  refine g_iload_n hC dL_law_1164 rfl 0 rfl ?_
  refine g_iconst (v := 5) hC dL_law_1165 rfl ?_
  refine g_iadd hC dL_law_1166 ?_
  refine g_top (y := nI ((6 * k) + 5)) (nI_add _ _) ?_
  refine g_sld hC hX hbl hbA ((6 * k) + 5) rfl (by omega) (by omega) dL_law_1167 ?_
  refine g_i2l (v := (xs ((6 * k) + 5)).toInt64) hC dL_law_1168 rfl ?_
  refine g_ldc2 (v := 4294967295) hC fw_1005 dL_law_1169 ?_
  refine g_land hC dL_law_1172 ?_
  refine g_lor hC dL_law_1173 ?_
  refine g_callV hC (k := 0) (ci := 6) (as := [.int (xs ((6 * k) + 1)), .int (xs ((6 * k) + 2)), .int (xs ((6 * k) + 3)), .long ((((xs ((6 * k) + 4)).toInt64) <<< ((32 : Int32).toInt64 &&& 63)) ||| (((xs ((6 * k) + 5)).toInt64) &&& 4294967295))]) (rest := []) (c_X6_item l D cA b M L g (xs ((6 * k) + 1)) (xs ((6 * k) + 2)) (xs ((6 * k) + 3)) ((((xs ((6 * k) + 4)).toInt64) <<< ((32 : Int32).toInt64 &&& 63)) ||| (((xs ((6 * k) + 5)).toInt64) &&& 4294967295)) hS hok) ⟨fw_606, fw_607, fw_608, fw_1, fw_609⟩ ⟨rfl, hd_X6_item⟩ rfl ly_0 ⟨Nat.le_of_ble_eq_true rfl, Nat.le_of_ble_eq_true rfl⟩ ⟨Nat.le_of_ble_eq_true rfl, Nat.le_of_ble_eq_true rfl⟩ rfl rfl (Nat.le_of_ble_eq_true rfl) dL_law_1174 (g_rm (fun r_1 M_1 L_1 h_1 => ?_))
  obtain ⟨e_1, cs_1, f_1⟩ := h_1
  rw [e_1]
  have rs_1 : RS M_1 L_1 g := RS_fC hR f_1
  refine g_aload_n hC dL_law_1177 rfl 1 rfl ?_
  refine g_aload_n hC dL_law_1178 rfl 3 rfl ?_
  refine g_iload_n hC dL_law_1179 rfl 0 rfl ?_
  refine g_iconst (v := 1) hC dL_law_1180 rfl ?_
  refine g_iadd hC dL_law_1181 ?_
  refine g_top (y := nI ((6 * k) + 1)) (nI_add _ _) ?_
  refine g_sld hC hX hbl hbA ((6 * k) + 1) rfl (by omega) (by omega) dL_law_1182 ?_
  refine g_aload_n hC dL_law_1183 rfl 3 rfl ?_
  refine g_iload_n hC dL_law_1184 rfl 0 rfl ?_
  refine g_iconst (v := 2) hC dL_law_1185 rfl ?_
  refine g_iadd hC dL_law_1186 ?_
  refine g_top (y := nI ((6 * k) + 2)) (nI_add _ _) ?_
  refine g_sld hC hX hbl hbA ((6 * k) + 2) rfl (by omega) (by omega) dL_law_1187 ?_
  refine g_aload_n hC dL_law_1188 rfl 3 rfl ?_
  refine g_iload_n hC dL_law_1189 rfl 0 rfl ?_
  refine g_iconst (v := 3) hC dL_law_1190 rfl ?_
  refine g_iadd hC dL_law_1191 ?_
  refine g_top (y := nI ((6 * k) + 3)) (nI_add _ _) ?_
  refine g_sld hC hX hbl hbA ((6 * k) + 3) rfl (by omega) (by omega) dL_law_1192 ?_
  refine g_aload_n hC dL_law_1193 rfl 3 rfl ?_
  refine g_iload_n hC dL_law_1194 rfl 0 rfl ?_
  refine g_iconst (v := 4) hC dL_law_1195 rfl ?_
  refine g_iadd hC dL_law_1196 ?_
  refine g_top (y := nI ((6 * k) + 4)) (nI_add _ _) ?_
  refine g_sld hC hX hbl hbA ((6 * k) + 4) rfl (by omega) (by omega) dL_law_1197 ?_
  refine g_i2l (v := (xs ((6 * k) + 4)).toInt64) hC dL_law_1198 rfl ?_
  refine g_bipush (v := 32) hC dL_law_1199 rfl ?_
  refine g_lshl (v := ((xs ((6 * k) + 4)).toInt64) <<< ((32 : Int32).toInt64 &&& 63)) hC dL_law_1201 rfl ?_
  refine g_aload_n hC dL_law_1202 rfl 3 rfl ?_
  refine g_iload_n hC dL_law_1203 rfl 0 rfl ?_
  refine g_iconst (v := 5) hC dL_law_1204 rfl ?_
  refine g_iadd hC dL_law_1205 ?_
  refine g_top (y := nI ((6 * k) + 5)) (nI_add _ _) ?_
  refine g_sld hC hX hbl hbA ((6 * k) + 5) rfl (by omega) (by omega) dL_law_1206 ?_
  refine g_i2l (v := (xs ((6 * k) + 5)).toInt64) hC dL_law_1207 rfl ?_
  refine g_ldc2 (v := 4294967295) hC fw_1005 dL_law_1208 ?_
  refine g_land hC dL_law_1211 ?_
  refine g_lor hC dL_law_1212 ?_
  refine g_callV hC (k := 58) (ci := 7) (as := [.int (xs ((6 * k) + 1)), .int (xs ((6 * k) + 2)), .int (xs ((6 * k) + 3)), .long ((((xs ((6 * k) + 4)).toInt64) <<< ((32 : Int32).toInt64 &&& 63)) ||| (((xs ((6 * k) + 5)).toInt64) &&& 4294967295))]) (rest := [.int ((op_item g (xs ((6 * k) + 1)) (xs ((6 * k) + 2)) (xs ((6 * k) + 3)) ((((xs ((6 * k) + 4)).toInt64) <<< ((32 : Int32).toInt64 &&& 63)) ||| (((xs ((6 * k) + 5)).toInt64) &&& 4294967295))).1)]) (c_X7_item l D cA b M_1 L_1 g (xs ((6 * k) + 1)) (xs ((6 * k) + 2)) (xs ((6 * k) + 3)) ((((xs ((6 * k) + 4)).toInt64) <<< ((32 : Int32).toInt64 &&& 63)) ||| (((xs ((6 * k) + 5)).toInt64) &&& 4294967295)) rs_1 hok) ⟨fw_961, fw_962, fw_963, fw_9, fw_964⟩ ⟨rfl, hd_X7_item⟩ rfl ly_58 ⟨Nat.le_of_ble_eq_true rfl, Nat.le_of_ble_eq_true rfl⟩ ⟨Nat.le_of_ble_eq_true rfl, Nat.le_of_ble_eq_true rfl⟩ rfl rfl (Nat.le_of_ble_eq_true rfl) dL_law_1213 (g_rm (fun r_2 M_2 L_2 h_2 => ?_))
  obtain ⟨e_2, rs_2, f_2⟩ := h_2
  rw [e_2]
  have cs_2 : CS M_2 L_2 _ := CS_fR cs_1 (ok_item hok (xs ((6 * k) + 1)) (xs ((6 * k) + 2)) (xs ((6 * k) + 3)) ((((xs ((6 * k) + 4)).toInt64) <<< ((32 : Int32).toInt64 &&& 63)) ||| (((xs ((6 * k) + 5)).toInt64) &&& 4294967295))) f_2
  refine g_icmp_eq_T (X := ((op_item g (xs ((6 * k) + 1)) (xs ((6 * k) + 2)) (xs ((6 * k) + 3)) ((((xs ((6 * k) + 4)).toInt64) <<< ((32 : Int32).toInt64 &&& 63)) ||| (((xs ((6 * k) + 5)).toInt64) &&& 4294967295))).1).toInt) (Y := ((op_item g (xs ((6 * k) + 1)) (xs ((6 * k) + 2)) (xs ((6 * k) + 3)) ((((xs ((6 * k) + 4)).toInt64) <<< ((32 : Int32).toInt64 &&& 63)) ||| (((xs ((6 * k) + 5)).toInt64) &&& 4294967295))).1).toInt) hC rfl rfl 1284 dL_law_1216 rfl (fun _ => ?_) (fun c_3 => absurd rfl c_3)
  exact kk _ _ _ cs_2 rs_2 (ok_item hok (xs ((6 * k) + 1)) (xs ((6 * k) + 2)) (xs ((6 * k) + 3)) ((((xs ((6 * k) + 4)).toInt64) <<< ((32 : Int32).toInt64 &&& 63)) ||| (((xs ((6 * k) + 5)).toInt64) &&& 4294967295)))

theorem lc_34 {pq : Program} {l : Launch} {eq : Env} {sq : State} {mq : MethodId} {aq : Array Value} {bq : List Frame} {tq : Method} {cq : Code} {Q : State → Prop} {D : va_G} {cA : Nat → ClassId} {b bs n k : Nat} {xs : Nat → Int32} {M : Nat → Nat → Int32} {L : Nat → Nat → Int64} {g : Sg} (hC : fm_C pq sq mq aq tq cq D cA b cL_law 4 RL ret 0) (hX : va_X bs n xs sq sq.heap) (hbl : bs < sq.heap.size) (hbA : bs < b) (hn : n ≤ 3072) (hi : 6 * k + 6 ≤ n) (hS : CS M L g) (hR : RS M L g) (hok : OK g) (kk : ∀ (M' : Nat → Nat → Int32) (L' : Nat → Nat → Int64) (g' : Sg), CS M' L' g' → RS M' L' g' → OK g' → fm_G pq l eq room_1 sq mq aq bq tq cq D cA b 4 Q LAY M' L' 78 6668 1284 [(3, .int (nI (6 * k))), (2, .ref (b + 58)), (1, .ref (b + 0)), (0, .ref bs)] []) : fm_G pq l eq room_1 sq mq aq bq tq cq D cA b 4 Q LAY M L 78 6668 1221 [(3, .int (nI (6 * k))), (2, .ref (b + 58)), (1, .ref (b + 0)), (0, .ref bs)] [] := by
  refine g_aload_n hC dL_law_1221 rfl 2 rfl ?_
  refine g_aload_n hC dL_law_1222 rfl 3 rfl ?_
  refine g_iload_n hC dL_law_1223 rfl 0 rfl ?_
  refine g_iconst (v := 1) hC dL_law_1224 rfl ?_
  refine g_iadd hC dL_law_1225 ?_
  refine g_top (y := nI ((6 * k) + 1)) (nI_add _ _) ?_
  refine g_sld hC hX hbl hbA ((6 * k) + 1) rfl (by omega) (by omega) dL_law_1226 ?_
  refine g_aload_n hC dL_law_1227 rfl 3 rfl ?_
  refine g_iload_n hC dL_law_1228 rfl 0 rfl ?_
  refine g_iconst (v := 2) hC dL_law_1229 rfl ?_
  refine g_iadd hC dL_law_1230 ?_
  refine g_top (y := nI ((6 * k) + 2)) (nI_add _ _) ?_
  refine g_sld hC hX hbl hbA ((6 * k) + 2) rfl (by omega) (by omega) dL_law_1231 ?_
  refine g_aload_n hC dL_law_1232 rfl 3 rfl ?_
  refine g_iload_n hC dL_law_1233 rfl 0 rfl ?_
  refine g_iconst (v := 3) hC dL_law_1234 rfl ?_
  refine g_iadd hC dL_law_1235 ?_
  refine g_top (y := nI ((6 * k) + 3)) (nI_add _ _) ?_
  refine g_sld hC hX hbl hbA ((6 * k) + 3) rfl (by omega) (by omega) dL_law_1236 ?_
  refine g_aload_n hC dL_law_1237 rfl 3 rfl ?_
  refine g_iload_n hC dL_law_1238 rfl 0 rfl ?_
  refine g_iconst (v := 4) hC dL_law_1239 rfl ?_
  refine g_iadd hC dL_law_1240 ?_
  refine g_top (y := nI ((6 * k) + 4)) (nI_add _ _) ?_
  refine g_sld hC hX hbl hbA ((6 * k) + 4) rfl (by omega) (by omega) dL_law_1241 ?_
  refine g_aload_n hC dL_law_1242 rfl 3 rfl ?_
  refine g_iload_n hC dL_law_1243 rfl 0 rfl ?_
  refine g_iconst (v := 5) hC dL_law_1244 rfl ?_
  refine g_iadd hC dL_law_1245 ?_
  refine g_top (y := nI ((6 * k) + 5)) (nI_add _ _) ?_
  refine g_sld hC hX hbl hbA ((6 * k) + 5) rfl (by omega) (by omega) dL_law_1246 ?_
  refine g_callV hC (k := 0) (ci := 6) (as := [.int (xs ((6 * k) + 1)), .int (xs ((6 * k) + 2)), .int (xs ((6 * k) + 3)), .int (xs ((6 * k) + 4)), .int (xs ((6 * k) + 5))]) (rest := []) (c_X6_copy l D cA b M L g (xs ((6 * k) + 1)) (xs ((6 * k) + 2)) (xs ((6 * k) + 3)) (xs ((6 * k) + 4)) (xs ((6 * k) + 5)) hS hok) ⟨fw_610, fw_611, fw_612, fw_1, fw_613⟩ ⟨rfl, hd_X6_copy⟩ rfl ly_0 ⟨Nat.le_of_ble_eq_true rfl, Nat.le_of_ble_eq_true rfl⟩ ⟨Nat.le_of_ble_eq_true rfl, Nat.le_of_ble_eq_true rfl⟩ rfl rfl (Nat.le_of_ble_eq_true rfl) dL_law_1247 (g_rm (fun r_1 M_1 L_1 h_1 => ?_))
  obtain ⟨e_1, cs_1, f_1⟩ := h_1
  rw [e_1]
  have rs_1 : RS M_1 L_1 g := RS_fC hR f_1
  refine g_aload_n hC dL_law_1250 rfl 1 rfl ?_
  refine g_aload_n hC dL_law_1251 rfl 3 rfl ?_
  refine g_iload_n hC dL_law_1252 rfl 0 rfl ?_
  refine g_iconst (v := 1) hC dL_law_1253 rfl ?_
  refine g_iadd hC dL_law_1254 ?_
  refine g_top (y := nI ((6 * k) + 1)) (nI_add _ _) ?_
  refine g_sld hC hX hbl hbA ((6 * k) + 1) rfl (by omega) (by omega) dL_law_1255 ?_
  refine g_aload_n hC dL_law_1256 rfl 3 rfl ?_
  refine g_iload_n hC dL_law_1257 rfl 0 rfl ?_
  refine g_iconst (v := 2) hC dL_law_1258 rfl ?_
  refine g_iadd hC dL_law_1259 ?_
  refine g_top (y := nI ((6 * k) + 2)) (nI_add _ _) ?_
  refine g_sld hC hX hbl hbA ((6 * k) + 2) rfl (by omega) (by omega) dL_law_1260 ?_
  refine g_aload_n hC dL_law_1261 rfl 3 rfl ?_
  refine g_iload_n hC dL_law_1262 rfl 0 rfl ?_
  refine g_iconst (v := 3) hC dL_law_1263 rfl ?_
  refine g_iadd hC dL_law_1264 ?_
  refine g_top (y := nI ((6 * k) + 3)) (nI_add _ _) ?_
  refine g_sld hC hX hbl hbA ((6 * k) + 3) rfl (by omega) (by omega) dL_law_1265 ?_
  refine g_aload_n hC dL_law_1266 rfl 3 rfl ?_
  refine g_iload_n hC dL_law_1267 rfl 0 rfl ?_
  refine g_iconst (v := 4) hC dL_law_1268 rfl ?_
  refine g_iadd hC dL_law_1269 ?_
  refine g_top (y := nI ((6 * k) + 4)) (nI_add _ _) ?_
  refine g_sld hC hX hbl hbA ((6 * k) + 4) rfl (by omega) (by omega) dL_law_1270 ?_
  refine g_aload_n hC dL_law_1271 rfl 3 rfl ?_
  refine g_iload_n hC dL_law_1272 rfl 0 rfl ?_
  refine g_iconst (v := 5) hC dL_law_1273 rfl ?_
  refine g_iadd hC dL_law_1274 ?_
  refine g_top (y := nI ((6 * k) + 5)) (nI_add _ _) ?_
  refine g_sld hC hX hbl hbA ((6 * k) + 5) rfl (by omega) (by omega) dL_law_1275 ?_
  refine g_callV hC (k := 58) (ci := 7) (as := [.int (xs ((6 * k) + 1)), .int (xs ((6 * k) + 2)), .int (xs ((6 * k) + 3)), .int (xs ((6 * k) + 4)), .int (xs ((6 * k) + 5))]) (rest := [.int ((op_copy g (xs ((6 * k) + 1)) (xs ((6 * k) + 2)) (xs ((6 * k) + 3)) (xs ((6 * k) + 4)) (xs ((6 * k) + 5))).1)]) (c_X7_copy l D cA b M_1 L_1 g (xs ((6 * k) + 1)) (xs ((6 * k) + 2)) (xs ((6 * k) + 3)) (xs ((6 * k) + 4)) (xs ((6 * k) + 5)) rs_1 hok) ⟨fw_1001, fw_1002, fw_1003, fw_9, fw_1004⟩ ⟨rfl, hd_X7_copy⟩ rfl ly_58 ⟨Nat.le_of_ble_eq_true rfl, Nat.le_of_ble_eq_true rfl⟩ ⟨Nat.le_of_ble_eq_true rfl, Nat.le_of_ble_eq_true rfl⟩ rfl rfl (Nat.le_of_ble_eq_true rfl) dL_law_1276 (g_rm (fun r_2 M_2 L_2 h_2 => ?_))
  obtain ⟨e_2, rs_2, f_2⟩ := h_2
  rw [e_2]
  have cs_2 : CS M_2 L_2 _ := CS_fR cs_1 (ok_copy hok (xs ((6 * k) + 1)) (xs ((6 * k) + 2)) (xs ((6 * k) + 3)) (xs ((6 * k) + 4)) (xs ((6 * k) + 5))) f_2
  refine g_icmp_eq_T (X := ((op_copy g (xs ((6 * k) + 1)) (xs ((6 * k) + 2)) (xs ((6 * k) + 3)) (xs ((6 * k) + 4)) (xs ((6 * k) + 5))).1).toInt) (Y := ((op_copy g (xs ((6 * k) + 1)) (xs ((6 * k) + 2)) (xs ((6 * k) + 3)) (xs ((6 * k) + 4)) (xs ((6 * k) + 5))).1).toInt) hC rfl rfl 1284 dL_law_1279 rfl (fun _ => ?_) (fun c_3 => absurd rfl c_3)
  exact kk _ _ _ cs_2 rs_2 (ok_copy hok (xs ((6 * k) + 1)) (xs ((6 * k) + 2)) (xs ((6 * k) + 3)) (xs ((6 * k) + 4)) (xs ((6 * k) + 5)))
