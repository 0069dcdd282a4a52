/-! ===== the law: what is known at its entry ===== -/
theorem lw_tw {w : Cond} (i : Nat) (h : tables_1[i]? = some w) : w ∈ lw_tbl := List.mem_append_right _ (List.mem_of_getElem? h)
theorem lw_known {s : State} {A : Array Value} (hts : ∀ w ∈ lw_tbl, w.before A s = true) : ∃ (D : va_G) (cA : Nat → ClassId), fm_K D cA s := by
  have hf : ∀ w ∈ fm_all, w.before A s = true := fun w h => hts w (fm_all_in h)
  obtain ⟨c0, i0, k0⟩ := u_known (C := RX0) (T := TX0) (N := 2) (n := 2) hf fm_in0 (hf _ fw_162)
  obtain ⟨c1, i1, k1⟩ := u_known (C := RX1) (T := TX1) (N := 4) (n := 4) hf fm_in1 (hf _ fw_28)
  obtain ⟨c2, i2, k2⟩ := u_known (C := RX2) (T := TX2) (N := 3) (n := 3) hf fm_in2 (hf _ fw_145)
  obtain ⟨c3, i3, k3⟩ := u_known (C := RX3) (T := TX3) (N := 3) (n := 3) hf fm_in3 (hf _ fw_177)
  obtain ⟨c4, i4, k4⟩ := u_known (C := RX4) (T := TX4) (N := 6) (n := 6) hf fm_in4 (hf _ fw_114)
  obtain ⟨c5, i5, k5⟩ := u_known (C := RX5) (T := TX5) (N := 14) (n := 14) hf fm_in5 (hf _ fw_21)
  obtain ⟨c6, i6, k6⟩ := u_known (C := RX6) (T := TX6) (N := 8) (n := 8) hf fm_in6 (hf _ fw_13)
  obtain ⟨c7, i7, k7⟩ := u_known (C := RX7) (T := TX7) (N := 33) (n := 33) hf fm_in7 (hf _ fw_615)
  obtain ⟨a1, kA1, cp1, f1, g1, h1⟩ := Cond.arrayClass_spec (hf _ fw_52)
  obtain ⟨a2, kA2, cp2, f2, g2, h2⟩ := Cond.arrayClass_spec (hf _ fw_174)
  obtain ⟨a3, kA3, cp3, f3, g3, h3⟩ := Cond.arrayClass_spec (hf _ fw_143)
  have o4 : (Cond.arrayOver (.object RX1)).before A s = true := hts _ (lw_tw 27 (by decide +kernel))
  obtain ⟨cp4, a4, kA4, x4, y4, z4, u4, v4⟩ := Cond.arrayOver_spec o4
  have o5 : (Cond.arrayOver (.object RX3)).before A s = true := hts _ (lw_tw 176 (by decide +kernel))
  obtain ⟨cp5, a5, kA5, x5, y5, z5, u5, v5⟩ := Cond.arrayOver_spec o5
  refine ⟨(fun k => match k with | 0 => c0 | 1 => c1 | 2 => c2 | 3 => c3 | 4 => c4 | 5 => c5 | 6 => c6 | _ => c7, fun k => match k with | 0 => i0 | 1 => i1 | 2 => i2 | 3 => i3 | 4 => i4 | 5 => i5 | 6 => i6 | _ => i7), fun k => match k with | 1 => a1 | 2 => a2 | 3 => a3 | 4 => a4 | _ => a5, ⟨⟨fun c q hq => ?_, fun k q hq => ?_⟩, fun q hq => ?_, va_AO.of o4, va_AO.of o5⟩⟩
  · match c, hq with
    | 0, hq => cases hq; exact k0
    | 1, hq => cases hq; exact k1
    | 2, hq => cases hq; exact k2
    | 3, hq => cases hq; exact k3
    | 4, hq => cases hq; exact k4
    | 5, hq => cases hq; exact k5
    | 6, hq => cases hq; exact k6
    | 7, hq => cases hq; exact k7
    | c + 8, hq => simp [vwCl] at hq
  · match k, hq with
    | 0, hq => cases hq; exact ⟨fun n z => ⟨(fun k h => by cases h), kA1, g1, cp1, h1⟩, f1⟩
    | 1, hq => cases hq; exact ⟨fun n z => ⟨(fun k h => by cases h), kA2, g2, cp2, h2⟩, f2⟩
    | 2, hq => cases hq; exact ⟨fun n z => ⟨(fun k h => by cases h), kA3, g3, cp3, h3⟩, f3⟩
    | 3, hq => cases hq; exact ⟨fun n z => ⟨(fun k h => by cases h), kA4, z4, cp4, u4⟩, kA4, cp4, z4, u4, x4, v4⟩
    | 4, hq => cases hq; exact ⟨fun n z => ⟨(fun k h => by cases h), kA5, z5, cp5, u5⟩, kA5, cp5, z5, u5, x5, v5⟩
    | k + 5, hq => simp [fm_tys] at hq
  · simp only [fm_nests, List.mem_cons, List.not_mem_nil, or_false] at hq
    rcases hq with rfl | rfl | rfl | rfl | rfl | rfl | rfl
    · exact va_Nw.of rfl (hts _ (lw_tw 29 (by decide +kernel)))
    · exact va_Nw.of rfl (hts _ (lw_tw 120 (by decide +kernel)))
    · exact va_Nw.of rfl (hts _ (lw_tw 146 (by decide +kernel)))
    · exact va_Nw.of rfl (hts _ (lw_tw 163 (by decide +kernel)))
    · exact va_Nw.of rfl (hts _ (lw_tw 178 (by decide +kernel)))
    · exact va_Nw.of rfl (hts _ (lw_tw 255 (by decide +kernel)))
    · exact va_Nw.of rfl (hts _ (lw_tw 425 (by decide +kernel)))
theorem sub6 {n : Nat} (h : n < 1000000) : (nI n - 6).toInt = (n : Int) - 6 := pk_sub_toInt (a := n) (b := 6) (by omega) (by omega)
theorem lw_loop {pq : Program} {l : Launch} {eq : Env} {sq : State} {mq : MethodId} {aq : Array Value} {bq : List Frame} {tq : Method} {cq : Code} {Q : State → Prop} {D : va_G} {cA : Nat → ClassId} {b bs n : Nat} {xs : Nat → Int32} (hC : fm_C pq sq mq aq tq cq D cA b cL_law 4 RL ret 0) (hX : va_X bs n xs sq sq.heap) (hbl : bs < sq.heap.size) (hbA : bs < b) (hn : n ≤ 3072) (he : ∀ (M' : Nat → Nat → Int32) (L' : Nat → Nat → Int64) (lv' : List (Nat × Value)), fm_G pq l eq room_1 sq mq aq bq tq cq D cA b 4 Q LAY M' L' 78 6668 1291 lv' [.int 1]) : ∀ (fu k : Nat) (M : Nat → Nat → Int32) (L : Nat → Nat → Int64) (g : Sg), n - 6 * k < fu → 6 * k ≤ n → CS M L g → RS M L g → OK g → fm_G pq l eq room_1 sq mq aq bq tq cq D cA b 4 Q LAY M L 78 6668 18 [(3, .int (nI (6 * k))), (2, .ref (b + 58)), (1, .ref (b + 0)), (0, .ref bs)] [] := by
  intro fu
  induction fu with
  | zero => intro k M L g h; exact absurd h (Nat.not_lt_zero _)
  | succ fu ih =>
    intro k M L g hm hk hS hR hok
    have kk : 6 * k + 6 ≤ n → ∀ (M' : Nat → Nat → Int32) (L' : Nat → Nat → Int64) (g' : Sg), CS M' L' g' → RS M' L' g' → OK g' → fm_G pq l eq room_1 sq mq aq bq tq cq D cA b 4 Q LAY M' L' 78 6668 1284 [(3, .int (nI (6 * k))), (2, .ref (b + 58)), (1, .ref (b + 0)), (0, .ref bs)] [] := by
      intro h6 M' L' g' hS' hR' hok'
      refine g_iinc hC [(3, .int (nI (6 * (k + 1)))), (2, .ref (b + 58)), (1, .ref (b + 0)), (0, .ref bs)] dL_law_1284 0 rfl (nI_add (6 * k) 6) (by decide) rfl ?_
      refine g_goto hC 18 dL_law_1287 rfl ?_
      exact ih (k + 1) M' L' g' (by omega) (by omega) hS' hR' hok'
    refine g_iload_n hC dL_law_18 rfl 0 rfl ?_
    refine g_aload_n hC dL_law_19 rfl 3 rfl ?_
    refine g_slen hC hX hbl hbA dL_law_20 ?_
    refine g_bipush (v := 6) hC dL_law_21 rfl ?_
    refine g_isub hC dL_law_23 ?_
    refine g_top (y := nI n - 6) rfl ?_
    refine g_icmp_gt_T (X := ((6 * k : Nat) : Int)) (Y := (n : Int) - 6) hC (nI_toInt (by omega)) (sub6 (by omega)) 1290 dL_law_24 rfl (fun c_1 => ?_) (fun c_1 => ?_)
    · skip
      refine g_iconst (v := 1) hC dL_law_1290 rfl ?_
      exact he _ _ _
    · skip
      refine g_aload_n hC dL_law_27 rfl 3 rfl ?_
      refine g_iload_n hC dL_law_28 rfl 0 rfl ?_
      refine g_sld hC hX hbl hbA (6 * k) rfl (by omega) (by omega) dL_law_29 ?_
      refine g_bipush (v := 63) hC dL_law_30 rfl ?_
      refine g_iand hC dL_law_32 ?_
      have t_2 : ((xs (6 * k)) &&& 63).toInt = ((xs (6 * k)) &&& 63).toInt := rfl
      by_cases c_2_0 : ((xs (6 * k)) &&& 63).toInt = 0
      · refine g_tabIn hC 188 dL_law_33 (by rw [t_2]; omega) (by rw [t_2]; omega) (by rw [t_2, c_2_0]; rfl) rfl ?_
        exact lc_0 hC hX hbl hbA hn (by omega) hS hR hok (kk (by omega))
      by_cases c_2_1 : ((xs (6 * k)) &&& 63).toInt = 1
      · refine g_tabIn hC 231 dL_law_33 (by rw [t_2]; omega) (by rw [t_2]; omega) (by rw [t_2, c_2_1]; rfl) rfl ?_
        exact lc_1 hC hX hbl hbA hn (by omega) hS hR hok (kk (by omega))
      by_cases c_2_2 : ((xs (6 * k)) &&& 63).toInt = 2
      · refine g_tabIn hC 264 dL_law_33 (by rw [t_2]; omega) (by rw [t_2]; omega) (by rw [t_2, c_2_2]; rfl) rfl ?_
        exact lc_2 hC hX hbl hbA hn (by omega) hS hR hok (kk (by omega))
      by_cases c_2_3 : ((xs (6 * k)) &&& 63).toInt = 3
      · refine g_tabIn hC 297 dL_law_33 (by rw [t_2]; omega) (by rw [t_2]; omega) (by rw [t_2, c_2_3]; rfl) rfl ?_
        exact lc_3 hC hX hbl hbA hn (by omega) hS hR hok (kk (by omega))
      by_cases c_2_4 : ((xs (6 * k)) &&& 63).toInt = 4
      · refine g_tabIn hC 340 dL_law_33 (by rw [t_2]; omega) (by rw [t_2]; omega) (by rw [t_2, c_2_4]; rfl) rfl ?_
        exact lc_4 hC hX hbl hbA hn (by omega) hS hR hok (kk (by omega))
      by_cases c_2_5 : ((xs (6 * k)) &&& 63).toInt = 5
      · refine g_tabIn hC 373 dL_law_33 (by rw [t_2]; omega) (by rw [t_2]; omega) (by rw [t_2, c_2_5]; rfl) rfl ?_
        exact lc_5 hC hX hbl hbA hn (by omega) hS hR hok (kk (by omega))
      by_cases c_2_6 : ((xs (6 * k)) &&& 63).toInt = 6
      · refine g_tabIn hC 386 dL_law_33 (by rw [t_2]; omega) (by rw [t_2]; omega) (by rw [t_2, c_2_6]; rfl) rfl ?_
        exact lc_6 hC hX hbl hbA hn (by omega) hS hR hok (kk (by omega))
      by_cases c_2_7 : ((xs (6 * k)) &&& 63).toInt = 7
      · refine g_tabIn hC 419 dL_law_33 (by rw [t_2]; omega) (by rw [t_2]; omega) (by rw [t_2, c_2_7]; rfl) rfl ?_
        exact lc_7 hC hX hbl hbA hn (by omega) hS hR hok (kk (by omega))
      by_cases c_2_8 : ((xs (6 * k)) &&& 63).toInt = 8
      · refine g_tabIn hC 452 dL_law_33 (by rw [t_2]; omega) (by rw [t_2]; omega) (by rw [t_2, c_2_8]; rfl) rfl ?_
        exact lc_8 hC hX hbl hbA hn (by omega) hS hR hok (kk (by omega))
      by_cases c_2_9 : ((xs (6 * k)) &&& 63).toInt = 9
      · refine g_tabIn hC 515 dL_law_33 (by rw [t_2]; omega) (by rw [t_2]; omega) (by rw [t_2, c_2_9]; rfl) rfl ?_
        exact lc_9 hC hX hbl hbA hn (by omega) hS hR hok (kk (by omega))
      by_cases c_2_10 : ((xs (6 * k)) &&& 63).toInt = 10
      · refine g_tabIn hC 528 dL_law_33 (by rw [t_2]; omega) (by rw [t_2]; omega) (by rw [t_2, c_2_10]; rfl) rfl ?_
        exact lc_10 hC hX hbl hbA hn (by omega) hS hR hok (kk (by omega))
      by_cases c_2_11 : ((xs (6 * k)) &&& 63).toInt = 11
      · refine g_tabIn hC 541 dL_law_33 (by rw [t_2]; omega) (by rw [t_2]; omega) (by rw [t_2, c_2_11]; rfl) rfl ?_
        exact lc_11 hC hX hbl hbA hn (by omega) hS hR hok (kk (by omega))
      by_cases c_2_12 : ((xs (6 * k)) &&& 63).toInt = 12
      · refine g_tabIn hC 574 dL_law_33 (by rw [t_2]; omega) (by rw [t_2]; omega) (by rw [t_2, c_2_12]; rfl) rfl ?_
        exact lc_12 hC hX hbl hbA hn (by omega) hS hR hok (kk (by omega))
      by_cases c_2_13 : ((xs (6 * k)) &&& 63).toInt = 13
      · refine g_tabIn hC 597 dL_law_33 (by rw [t_2]; omega) (by rw [t_2]; omega) (by rw [t_2, c_2_13]; rfl) rfl ?_
        exact lc_13 hC hX hbl hbA hn (by omega) hS hR hok (kk (by omega))
      by_cases c_2_14 : ((xs (6 * k)) &&& 63).toInt = 14
      · refine g_tabIn hC 620 dL_law_33 (by rw [t_2]; omega) (by rw [t_2]; omega) (by rw [t_2, c_2_14]; rfl) rfl ?_
        exact lc_14 hC hX hbl hbA hn (by omega) hS hR hok (kk (by omega))
      by_cases c_2_15 : ((xs (6 * k)) &&& 63).toInt = 15
      · refine g_tabIn hC 633 dL_law_33 (by rw [t_2]; omega) (by rw [t_2]; omega) (by rw [t_2, c_2_15]; rfl) rfl ?_
        exact lc_15 hC hX hbl hbA hn (by omega) hS hR hok (kk (by omega))
      by_cases c_2_16 : ((xs (6 * k)) &&& 63).toInt = 16
      · refine g_tabIn hC 646 dL_law_33 (by rw [t_2]; omega) (by rw [t_2]; omega) (by rw [t_2, c_2_16]; rfl) rfl ?_
        exact lc_16 hC hX hbl hbA hn (by omega) hS hR hok (kk (by omega))
      by_cases c_2_17 : ((xs (6 * k)) &&& 63).toInt = 17
      · refine g_tabIn hC 659 dL_law_33 (by rw [t_2]; omega) (by rw [t_2]; omega) (by rw [t_2, c_2_17]; rfl) rfl ?_
        exact lc_17 hC hX hbl hbA hn (by omega) hS hR hok (kk (by omega))
      by_cases c_2_18 : ((xs (6 * k)) &&& 63).toInt = 18
      · refine g_tabIn hC 672 dL_law_33 (by rw [t_2]; omega) (by rw [t_2]; omega) (by rw [t_2, c_2_18]; rfl) rfl ?_
        exact lc_18 hC hX hbl hbA hn (by omega) hS hR hok (kk (by omega))
      by_cases c_2_19 : ((xs (6 * k)) &&& 63).toInt = 19
      · refine g_tabIn hC 705 dL_law_33 (by rw [t_2]; omega) (by rw [t_2]; omega) (by rw [t_2, c_2_19]; rfl) rfl ?_
        exact lc_19 hC hX hbl hbA hn (by omega) hS hR hok (kk (by omega))
      by_cases c_2_20 : ((xs (6 * k)) &&& 63).toInt = 20
      · refine g_tabIn hC 728 dL_law_33 (by rw [t_2]; omega) (by rw [t_2]; omega) (by rw [t_2, c_2_20]; rfl) rfl ?_
        exact lc_20 hC hX hbl hbA hn (by omega) hS hR hok (kk (by omega))
      by_cases c_2_21 : ((xs (6 * k)) &&& 63).toInt = 21
      · refine g_tabIn hC 751 dL_law_33 (by rw [t_2]; omega) (by rw [t_2]; omega) (by rw [t_2, c_2_21]; rfl) rfl ?_
        exact lc_21 hC hX hbl hbA hn (by omega) hS hR hok (kk (by omega))
      by_cases c_2_22 : ((xs (6 * k)) &&& 63).toInt = 22
      · refine g_tabIn hC 774 dL_law_33 (by rw [t_2]; omega) (by rw [t_2]; omega) (by rw [t_2, c_2_22]; rfl) rfl ?_
        exact lc_22 hC hX hbl hbA hn (by omega) hS hR hok (kk (by omega))
      by_cases c_2_23 : ((xs (6 * k)) &&& 63).toInt = 23
      · refine g_tabIn hC 797 dL_law_33 (by rw [t_2]; omega) (by rw [t_2]; omega) (by rw [t_2, c_2_23]; rfl) rfl ?_
        exact lc_23 hC hX hbl hbA hn (by omega) hS hR hok (kk (by omega))
      by_cases c_2_24 : ((xs (6 * k)) &&& 63).toInt = 24
      · refine g_tabIn hC 820 dL_law_33 (by rw [t_2]; omega) (by rw [t_2]; omega) (by rw [t_2, c_2_24]; rfl) rfl ?_
        exact lc_24 hC hX hbl hbA hn (by omega) hS hR hok (kk (by omega))
      by_cases c_2_25 : ((xs (6 * k)) &&& 63).toInt = 25
      · refine g_tabIn hC 843 dL_law_33 (by rw [t_2]; omega) (by rw [t_2]; omega) (by rw [t_2, c_2_25]; rfl) rfl ?_
        exact lc_25 hC hX hbl hbA hn (by omega) hS hR hok (kk (by omega))
      by_cases c_2_26 : ((xs (6 * k)) &&& 63).toInt = 26
      · refine g_tabIn hC 856 dL_law_33 (by rw [t_2]; omega) (by rw [t_2]; omega) (by rw [t_2, c_2_26]; rfl) rfl ?_
        exact lc_26 hC hX hbl hbA hn (by omega) hS hR hok (kk (by omega))
      by_cases c_2_27 : ((xs (6 * k)) &&& 63).toInt = 27
      · refine g_tabIn hC 869 dL_law_33 (by rw [t_2]; omega) (by rw [t_2]; omega) (by rw [t_2, c_2_27]; rfl) rfl ?_
        exact lc_27 hC hX hbl hbA hn (by omega) hS hR hok (kk (by omega))
      by_cases c_2_28 : ((xs (6 * k)) &&& 63).toInt = 28
      · refine g_tabIn hC 923 dL_law_33 (by rw [t_2]; omega) (by rw [t_2]; omega) (by rw [t_2, c_2_28]; rfl) rfl ?_
        exact lc_28 hC hX hbl hbA hn (by omega) hS hR hok (kk (by omega))
      by_cases c_2_29 : ((xs (6 * k)) &&& 63).toInt = 29
      · refine g_tabIn hC 986 dL_law_33 (by rw [t_2]; omega) (by rw [t_2]; omega) (by rw [t_2, c_2_29]; rfl) rfl ?_
        exact lc_29 hC hX hbl hbA hn (by omega) hS hR hok (kk (by omega))
      by_cases c_2_30 : ((xs (6 * k)) &&& 63).toInt = 30
      · refine g_tabIn hC 1029 dL_law_33 (by rw [t_2]; omega) (by rw [t_2]; omega) (by rw [t_2, c_2_30]; rfl) rfl ?_
        exact lc_30 hC hX hbl hbA hn (by omega) hS hR hok (kk (by omega))
      by_cases c_2_31 : ((xs (6 * k)) &&& 63).toInt = 31
      · refine g_tabIn hC 1072 dL_law_33 (by rw [t_2]; omega) (by rw [t_2]; omega) (by rw [t_2, c_2_31]; rfl) rfl ?_
        exact lc_31 hC hX hbl hbA hn (by omega) hS hR hok (kk (by omega))
      by_cases c_2_32 : ((xs (6 * k)) &&& 63).toInt = 32
      · refine g_tabIn hC 1115 dL_law_33 (by rw [t_2]; omega) (by rw [t_2]; omega) (by rw [t_2, c_2_32]; rfl) rfl ?_
        exact lc_32 hC hX hbl hbA hn (by omega) hS hR hok (kk (by omega))
      by_cases c_2_33 : ((xs (6 * k)) &&& 63).toInt = 33
      · refine g_tabIn hC 1138 dL_law_33 (by rw [t_2]; omega) (by rw [t_2]; omega) (by rw [t_2, c_2_33]; rfl) rfl ?_
        exact lc_33 hC hX hbl hbA hn (by omega) hS hR hok (kk (by omega))
      by_cases c_2_34 : ((xs (6 * k)) &&& 63).toInt = 34
      · refine g_tabIn hC 1221 dL_law_33 (by rw [t_2]; omega) (by rw [t_2]; omega) (by rw [t_2, c_2_34]; rfl) rfl ?_
        exact lc_34 hC hX hbl hbA hn (by omega) hS hR hok (kk (by omega))
      refine g_tabOut hC 1284 dL_law_33 (by rw [t_2]; omega) rfl ?_
      exact kk (by omega) _ _ _ hS hR hok
