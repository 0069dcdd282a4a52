/-! ===== the check's calls on people, trains, numbers ===== -/
theorem tR_person {M : Nat → Nat → Int32} {t : Tn} (h : tR M t) {k o w : Int32} (hk : 0 ≤ k.toInt) (ho : 0 ≤ o.toInt) (hw : 0 ≤ w.toInt) : tR (fm_up (fm_up (fm_up (fm_up (fm_up M 59 (t.1 7 0) k) 60 (t.1 7 0) o) 61 (t.1 7 0) w) 62 (t.1 7 0) 1) 58 4 (nI (t.1 7 0 + 1))) (uN2 (uN2 (uN2 (uN2 (uN2 t.1 0 (t.1 7 0) k.toInt.toNat) 1 (t.1 7 0) o.toInt.toNat) 2 (t.1 7 0) w.toInt.toNat) 3 (t.1 7 0) 1) 7 0 (t.1 7 0 + 1), t.2) := by
  obtain ⟨h1, h2, h3, v0, v1, v2, v3, v4, v5, v6, v7, v8⟩ := h
  refine ⟨fun j hj => ?_, fun j hj => ?_, fun q hq => ?_, ?_⟩
  · have hj3 : j < t.1 7 0 + 1 := by simpa [uN2] using hj
    by_cases e : j = t.1 7 0
    · subst e
      simp [fm_up, fm_row, upd, uN2, uP]
      exact ⟨ic_nI hk, ic_nI ho, ic_nI hw, rfl⟩
    · simp [fm_up, fm_row, upd, uN2, uP, e]
      exact h1 j (by omega)
  · simp [fm_up, fm_row, upd, uN2, uP]
    exact h2 j (by simpa [uN2] using hj)
  · simp [fm_up, fm_row, upd, uN2, uP]
    exact h3 q hq
  · simp [fm_up, fm_row, upd, uN2, uP, v0, v1, v2, v3, v4, v5, v6, v7, v8]
theorem tR_may {M : Nat → Nat → Int32} {t : Tn} (h : tR M t) {j0 : Nat} {v : Nat} : tR (fm_up M 62 j0 (nI v)) (uN2 t.1 3 j0 v, t.2) := by
  obtain ⟨h1, h2, h3, v0, v1, v2, v3, v4, v5, v6, v7, v8⟩ := h
  refine ⟨fun j hj => ?_, fun j hj => ?_, fun q hq => ?_, ?_⟩
  · have h9 := h1 j (by simpa [uN2] using hj)
    by_cases e : j = j0
    · subst e
      simp [fm_up, fm_row, upd, uN2, uP]
      exact ⟨h9.1, h9.2.1, h9.2.2.1⟩
    · simp [fm_up, fm_row, upd, uN2, uP, e]
      exact h9
  · simp [fm_up, fm_row, upd, uN2, uP]
    exact h2 j (by simpa [uN2] using hj)
  · simp [fm_up, fm_row, upd, uN2, uP]
    exact h3 q hq
  · simp [fm_up, fm_row, upd, uN2, uP, v0, v1, v2, v3, v4, v5, v6, v7, v8]
theorem tR_train {M : Nat → Nat → Int32} {t : Tn} (h : tR M t) {o w : Int32} (ho : 0 ≤ o.toInt) (hw : 0 ≤ w.toInt) : tR (fm_up (fm_up (fm_up M 63 (t.1 7 1) o) 64 (t.1 7 1) w) 58 7 (nI (t.1 7 1 + 1))) (uN2 (uN2 (uN2 t.1 4 (t.1 7 1) o.toInt.toNat) 5 (t.1 7 1) w.toInt.toNat) 7 1 (t.1 7 1 + 1), t.2) := by
  obtain ⟨h1, h2, h3, v0, v1, v2, v3, v4, v5, v6, v7, v8⟩ := h
  refine ⟨fun j hj => ?_, fun j hj => ?_, fun q hq => ?_, ?_⟩
  · simp [fm_up, fm_row, upd, uN2, uP]
    exact h1 j (by simpa [uN2] using hj)
  · have hj3 : j < t.1 7 1 + 1 := by simpa [uN2] using hj
    by_cases e : j = t.1 7 1
    · subst e
      simp [fm_up, fm_row, upd, uN2, uP]
      exact ⟨ic_nI ho, ic_nI hw⟩
    · simp [fm_up, fm_row, upd, uN2, uP, e]
      exact h2 j (by omega)
  · simp [fm_up, fm_row, upd, uN2, uP]
    exact h3 q hq
  · simp [fm_up, fm_row, upd, uN2, uP, v0, v1, v2, v3, v4, v5, v6, v7, v8]
theorem tR_strike {M : Nat → Nat → Int32} {t : Tn} (h : tR M t)  : tR (fm_up M 58 7 (nI (t.1 7 1 - 1))) (uN2 t.1 7 1 (t.1 7 1 - 1), t.2) := by
  obtain ⟨h1, h2, h3, v0, v1, v2, v3, v4, v5, v6, v7, v8⟩ := h
  refine ⟨fun j hj => ?_, fun j hj => ?_, fun q hq => ?_, ?_⟩
  · simp [fm_up, fm_row, upd, uN2, uP]
    exact h1 j (by simpa [uN2] using hj)
  · have hj3 : j < t.1 7 1 - 1 := by simpa [uN2] using hj
    simp [fm_up, fm_row, upd, uN2, uP]
    exact h2 j (by omega)
  · simp [fm_up, fm_row, upd, uN2, uP]
    exact h3 q hq
  · simp [fm_up, fm_row, upd, uN2, uP, v0, v1, v2, v3, v4, v5, v6, v7, v8]
theorem tR_set4 {M : Nat → Nat → Int32} {t : Tn} (h : tR M t) {a c d e : Int32} {a1 c1 d1 e1 : Nat} (ha : a = nI a1) (hc : c = nI c1) (hd : d = nI d1) (he : e = nI e1) : tR (fm_up (fm_up (fm_up (fm_up M 58 10 a) 58 11 c) 58 12 d) 58 13 e) (uN2 (uN2 (uN2 (uN2 t.1 7 2 a1) 7 3 c1) 7 4 d1) 7 5 e1, t.2) := by
  obtain ⟨h1, h2, h3, v0, v1, v2, v3, v4, v5, v6, v7, v8⟩ := h
  subst ha; subst hc; subst hd; subst he
  refine ⟨fun j hj => ?_, fun j hj => ?_, fun q hq => ?_, ?_⟩
  · simp [fm_up, fm_row, upd, uN2, uP]
    exact h1 j (by simpa [uN2] using hj)
  · simp [fm_up, fm_row, upd, uN2, uP]
    exact h2 j (by simpa [uN2] using hj)
  · simp [fm_up, fm_row, upd, uN2, uP]
    exact h3 q hq
  · simp [fm_up, fm_row, upd, uN2, uP, v0, v1, v2, v3, v4, v5, v6, v7, v8]
theorem uN2_id (N : Nat → Nat → Nat) (i j : Nat) : uN2 N i j (N i j) = N := by
  funext a c
  unfold uN2
  split
  · rename_i h; rw [h.1, h.2]
  · rfl
theorem uN2_comm (N : Nat → Nat → Nat) {i j i2 j2 v w : Nat} (h : i ≠ i2 ∨ j ≠ j2) : uN2 (uN2 N i j v) i2 j2 w = uN2 (uN2 N i2 j2 w) i j v := by
  funext a c
  unfold uN2
  by_cases h1 : a = i ∧ c = j
  · by_cases h2 : a = i2 ∧ c = j2
    · omega
    · simp [h1, h2]; intro h3 h4; omega
  · simp [h1]
theorem uS4_0 (N : Nat → Nat → Nat) (v : Nat) : uN2 (uN2 (uN2 (uN2 N 7 2 v) 7 3 (N 7 3)) 7 4 (N 7 4)) 7 5 (N 7 5) = uN2 N 7 2 v := by
  rw [uN2_comm N (by omega), uN2_id, uN2_comm N (by omega), uN2_id, uN2_comm N (by omega), uN2_id]
theorem uS4_1 (N : Nat → Nat → Nat) (v : Nat) : uN2 (uN2 (uN2 (uN2 N 7 2 (N 7 2)) 7 3 v) 7 4 (N 7 4)) 7 5 (N 7 5) = uN2 N 7 3 v := by
  rw [uN2_id, uN2_comm N (by omega), uN2_id, uN2_comm N (by omega), uN2_id]
theorem uS4_2 (N : Nat → Nat → Nat) (v : Nat) : uN2 (uN2 (uN2 (uN2 N 7 2 (N 7 2)) 7 3 (N 7 3)) 7 4 v) 7 5 (N 7 5) = uN2 N 7 4 v := by
  rw [uN2_id, uN2_id, uN2_comm N (by omega), uN2_id]
theorem uS4_3 (N : Nat → Nat → Nat) (v : Nat) : uN2 (uN2 (uN2 (uN2 N 7 2 (N 7 2)) 7 3 (N 7 3)) 7 4 (N 7 4)) 7 5 v = uN2 N 7 5 v := by
  rw [uN2_id, uN2_id, uN2_id]
theorem tR_loss {M : Nat → Nat → Int32} {t : Tn} (h : tR M t) {h0 v : Nat} : tR (fm_up M 65 h0 (nI v)) (uN2 t.1 6 h0 v, t.2) := by
  obtain ⟨h1, h2, h3, v0, v1, v2, v3, v4, v5, v6, v7, v8⟩ := h
  refine ⟨fun j hj => ?_, fun j hj => ?_, fun q hq => ?_, ?_⟩
  · simp [fm_up, fm_row, upd, uN2, uP]
    exact h1 j (by simpa [uN2] using hj)
  · simp [fm_up, fm_row, upd, uN2, uP]
    exact h2 j (by simpa [uN2] using hj)
  · have h9 := h3 q hq
    by_cases e : q = h0
    · subst e
      simp [fm_up, fm_row, upd, uN2, uP]
      exact h9.2
    · simp [fm_up, fm_row, upd, uN2, uP, e]
      exact h9
  · simp [fm_up, fm_row, upd, uN2, uP, v0, v1, v2, v3, v4, v5, v6, v7, v8]
theorem tR_lay {M : Nat → Nat → Int32} {t : Tn} (h : tR M t) {h0 : Nat} {v : Int32} : tR (fm_up M 66 h0 v) (t.1, uP t.2.1 h0 v.toInt, t.2.2) := by
  obtain ⟨h1, h2, h3, v0, v1, v2, v3, v4, v5, v6, v7, v8⟩ := h
  refine ⟨fun j hj => ?_, fun j hj => ?_, fun q hq => ?_, ?_⟩
  · simp [fm_up, fm_row, upd, uN2, uP]
    exact h1 j hj
  · simp [fm_up, fm_row, upd, uN2, uP]
    exact h2 j hj
  · have h9 := h3 q hq
    by_cases e : q = h0
    · subst e
      simp [fm_up, fm_row, upd, uN2, uP]
      exact h9.1
    · simp [fm_up, fm_row, upd, uN2, uP, e]
      exact h9
  · simp [fm_up, fm_row, upd, uN2, uP, v0, v1, v2, v3, v4, v5, v6, v7, v8]
theorem tR_seed {M : Nat → Nat → Int32} {t : Tn} (h : tR M t) {v : Nat} : tR (fm_up M 58 16 (nI v)) (uN2 t.1 7 7 v, t.2) := by
  obtain ⟨h1, h2, h3, v0, v1, v2, v3, v4, v5, v6, v7, v8⟩ := h
  refine ⟨fun j hj => ?_, fun j hj => ?_, fun q hq => ?_, ?_⟩
  · simp [fm_up, fm_row, upd, uN2, uP]
    exact h1 j (by simpa [uN2] using hj)
  · simp [fm_up, fm_row, upd, uN2, uP]
    exact h2 j (by simpa [uN2] using hj)
  · simp [fm_up, fm_row, upd, uN2, uP]
    exact h3 q hq
  · simp [fm_up, fm_row, upd, uN2, uP, v0, v1, v2, v3, v4, v5, v6, v7, v8]

theorem c_X7_isOne (l : Launch) (D : va_G) (cA : Nat → ClassId) (b : Nat) (M : Nat → Nat → Int32) (L : Nat → Nat → Int64) (g : Sg) (x : Int32) (X : Int) (hS : RS M L g) (hok : OK g) (hX : x.toInt = X) : fm_Met l D cA b yX7_isOne cX7_isOne 2 (some .boolean) 1 25 0 0 [.ref (b + 58), .int x] LAY M L LAY (fm_pi (bi (0 ≤ X ∧ X ≤ ((g.1.1 7 0 : Nat) : Int) - 1)) M L) := by
  refine fm_start RX7 rfl (by decide) (Nat.le_of_ble_eq_true rfl) ?_
  intro pq eq sq mq aq bq tq cq hC hin
  obtain ⟨⟨n1, n2, n3, v0, v1, v2, v3, v4, v5, v6, v7, v8⟩, hS2⟩ := id hS
  obtain ⟨⟨o1, o2, o3, o4, o5, o6, o7, o8, o9, o10, o11⟩, hok2⟩ := id hok
  refine g_iload_n hC dX7_isOne_0 rfl 1 rfl ?_
  refine g_i2l (v := x.toInt64) hC dX7_isOne_1 rfl ?_
  refine g_lconst (v := 0) hC dX7_isOne_2 rfl ?_
  refine g_aload_n hC dX7_isOne_3 rfl 0 rfl ?_
  refine g_getI (ci := 7) (i := 4) (k := 58) hC fm_in7 rfl ly_58 rfl (by decide) fw_624 dX7_isOne_4 ?_
  refine g_top (y := nI (g.1.1 7 0)) v0 ?_
  refine g_iconst (v := 1) hC dX7_isOne_7 rfl ?_
  refine g_isub hC dX7_isOne_8 ?_
  refine g_top (y := nI (g.1.1 7 0) - 1) rfl ?_
  refine g_i2l (v := (nI (g.1.1 7 0) - 1).toInt64) hC dX7_isOne_9 rfl ?_
  refine g_callS hC (as := [.long x.toInt64, .long 0, .long ((nI (g.1.1 7 0) - 1).toInt64)]) (rest := []) (c_X7_in l D cA b LAY M L x.toInt64 0 ((nI (g.1.1 7 0) - 1).toInt64) X 0 (((g.1.1 7 0 : Nat) : Int) - 1) ((ic_w _).trans hX) rfl ((ic_w _).trans (pm1 (by omega)))) ⟨fw_725, fw_726, fw_9, fw_727⟩ hd_X7_in ⟨Nat.le_of_ble_eq_true rfl, Nat.le_of_ble_eq_true rfl⟩ ⟨Nat.le_of_ble_eq_true rfl, Nat.le_of_ble_eq_true rfl⟩ rfl rfl (Nat.le_of_ble_eq_true rfl) dX7_isOne_10 (g_rix ?_)
  refine g_zret (ty := .boolean) hC rfl bi_nar dX7_isOne_13 ⟨congrArg (fun z => some (Value.int z)) ?_, rfl, rfl⟩
  rfl

theorem c_X7_add (l : Launch) (D : va_G) (cA : Nat → ClassId) (b : Nat) (M : Nat → Nat → Int32) (L : Nat → Nat → Int64) (g : Sg) (k : Int32) (h : Int32) (x : Int32) (y : Int32) (hS : RS M L g) (hok : OK g) (hlt : g.1.1 7 0 < 8) : fm_Met l D cA b yX7_add cX7_add 5 none 0 0 0 0 [.ref (b + 58), .int k, .int h, .int x, .int y] LAY M L LAY (fm_pvx (fm_up (fm_up (fm_up (fm_up (fm_up M 59 (g.1.1 7 0) k) 60 (g.1.1 7 0) h) 61 (g.1.1 7 0) x) 62 (g.1.1 7 0) y) 58 4 (nI (g.1.1 7 0 + 1))) L) := by
  refine fm_start RX7 rfl (by decide) (Nat.le_of_ble_eq_true rfl) ?_
  intro pq eq sq mq aq bq tq cq hC hin
  obtain ⟨⟨n1, n2, n3, v0, v1, v2, v3, v4, v5, v6, v7, v8⟩, hS2⟩ := id hS
  obtain ⟨⟨o1, o2, o3, o4, o5, o6, o7, o8, o9, o10, o11⟩, hok2⟩ := id hok
  refine g_aload_n hC dX7_add_0 rfl 0 rfl ?_
  refine g_getR (ci := 7) (i := 0) (k := 58) (t := 59) hC fm_in7 rfl ly_58 rfl (by decide) fw_620 dX7_add_1 ?_
  refine g_aload_n hC dX7_add_4 rfl 0 rfl ?_
  refine g_getI (ci := 7) (i := 4) (k := 58) hC fm_in7 rfl ly_58 rfl (by decide) fw_624 dX7_add_5 ?_
  refine g_top (y := nI (g.1.1 7 0)) v0 ?_
  refine g_iload_n hC dX7_add_8 rfl 1 rfl ?_
  refine g_iastN (j := g.1.1 7 0) (k := 59) hC ly_59 rfl (by omega) (by decide) dX7_add_9 ?_
  refine g_aload_n hC dX7_add_10 rfl 0 rfl ?_
  refine g_getR (ci := 7) (i := 1) (k := 58) (t := 60) hC fm_in7 rfl ly_58 rfl (by decide) fw_621 dX7_add_11 ?_
  refine g_aload_n hC dX7_add_14 rfl 0 rfl ?_
  refine g_getI (ci := 7) (i := 4) (k := 58) hC fm_in7 rfl ly_58 rfl (by decide) fw_624 dX7_add_15 ?_
  refine g_top (y := nI (g.1.1 7 0)) (by simp [fm_up, fm_row, upd, v0]) ?_
  refine g_iload_n hC dX7_add_18 rfl 2 rfl ?_
  refine g_iastN (j := g.1.1 7 0) (k := 60) hC ly_60 rfl (by omega) (by decide) dX7_add_19 ?_
  refine g_aload_n hC dX7_add_20 rfl 0 rfl ?_
  refine g_getR (ci := 7) (i := 2) (k := 58) (t := 61) hC fm_in7 rfl ly_58 rfl (by decide) fw_622 dX7_add_21 ?_
  refine g_aload_n hC dX7_add_24 rfl 0 rfl ?_
  refine g_getI (ci := 7) (i := 4) (k := 58) hC fm_in7 rfl ly_58 rfl (by decide) fw_624 dX7_add_25 ?_
  refine g_top (y := nI (g.1.1 7 0)) (by simp [fm_up, fm_row, upd, v0]) ?_
  refine g_iload_n hC dX7_add_28 rfl 3 rfl ?_
  refine g_iastN (j := g.1.1 7 0) (k := 61) hC ly_61 rfl (by omega) (by decide) dX7_add_29 ?_
  refine g_aload_n hC dX7_add_30 rfl 0 rfl ?_
  refine g_getR (ci := 7) (i := 3) (k := 58) (t := 62) hC fm_in7 rfl ly_58 rfl (by decide) fw_623 dX7_add_31 ?_
  refine g_aload_n hC dX7_add_34 rfl 0 rfl ?_
  refine g_getI (ci := 7) (i := 4) (k := 58) hC fm_in7 rfl ly_58 rfl (by decide) fw_624 dX7_add_35 ?_
  refine g_top (y := nI (g.1.1 7 0)) (by simp [fm_up, fm_row, upd, v0]) ?_
  refine g_iload hC dX7_add_38 4 rfl ?_
  refine g_iastN (j := g.1.1 7 0) (k := 62) hC ly_62 rfl (by omega) (by decide) dX7_add_40 ?_
  refine g_aload_n hC dX7_add_41 rfl 0 rfl ?_
  refine g_dup hC dX7_add_42 rfl ?_
  refine g_getI (ci := 7) (i := 4) (k := 58) hC fm_in7 rfl ly_58 rfl (by decide) fw_624 dX7_add_43 ?_
  refine g_top (y := nI (g.1.1 7 0)) (by simp [fm_up, fm_row, upd, v0]) ?_
  refine g_iconst (v := 1) hC dX7_add_46 rfl ?_
  refine g_iadd hC dX7_add_47 ?_
  refine g_top (y := nI ((g.1.1 7 0) + 1)) (nI_add _ _) ?_
  refine g_putI (ci := 7) (i := 4) (k := 58) hC fm_in7 tyX7 tyX7_ok nmX7 rfl ly_58 rfl (by decide) fw_624 rfl rfl rfl dX7_add_48 ?_
  refine g_vret hC rfl dX7_add_51 ?_
  exact ⟨rfl, rfl, rfl⟩

theorem c_X7_person (l : Launch) (D : va_G) (cA : Nat → ClassId) (b : Nat) (M : Nat → Nat → Int32) (L : Nat → Nat → Int64) (g : Sg) (k : Int32) (h : Int32) (x : Int32) (hS : RS M L g) (hok : OK g) : fm_Met l D cA b yX7_person cX7_person 4 (some .int) 2 45 0 0 [.ref (b + 58), .int k, .int h, .int x] LAY M L LAY (fm_pm (fun r M' L' => r = (op_person g k h x).1 ∧ RS M' L' (op_person g k h x).2 ∧ fR M M' L L')) := by
  refine fm_start RX7 rfl (by decide) (Nat.le_of_ble_eq_true rfl) ?_
  intro pq eq sq mq aq bq tq cq hC hin
  obtain ⟨⟨n1, n2, n3, v0, v1, v2, v3, v4, v5, v6, v7, v8⟩, hS2⟩ := id hS
  obtain ⟨⟨o1, o2, o3, o4, o5, o6, o7, o8, o9, o10, o11⟩, hok2⟩ := id hok
  refine g_iload_n hC dX7_person_0 rfl 1 rfl ?_
  refine g_i2l (v := k.toInt64) hC dX7_person_1 rfl ?_
  refine g_lconst (v := 0) hC dX7_person_2 rfl ?_
  refine g_ldc2 (v := 3) hC fw_724 dX7_person_3 ?_
  refine g_callS hC (as := [.long k.toInt64, .long 0, .long 3]) (rest := []) (c_X7_in l D cA b LAY M L k.toInt64 0 3 k.toInt 0 3 ((ic_w _).trans rfl) rfl rfl) ⟨fw_725, fw_726, fw_9, fw_727⟩ hd_X7_in ⟨Nat.le_of_ble_eq_true rfl, Nat.le_of_ble_eq_true rfl⟩ ⟨Nat.le_of_ble_eq_true rfl, Nat.le_of_ble_eq_true rfl⟩ rfl rfl (Nat.le_of_ble_eq_true rfl) dX7_person_6 (g_rix ?_)
  refine g_ifb_eq hC 31 dX7_person_9 rfl (fun c_2 => ?_) (fun c_2 => ?_)
  · skip
    refine g_iconst (v := (-1)) hC dX7_person_31 rfl ?_
    refine g_zret (ty := .int) hC rfl rfl dX7_person_32 ?_
    have e0 : op_person g k h x = (-1, g) := by unfold op_person; rw [if_neg (by omega)]
    exact ⟨_, rfl, by rw [e0], by rw [e0]; exact hS, fR_rf⟩
  · skip
    refine g_iload_n hC dX7_person_12 rfl 2 rfl ?_
    refine g_callS hC (as := [.int h]) (rest := []) (c_X7_isHour l D cA b LAY M L h h.toInt rfl) ⟨fw_728, fw_729, fw_9, fw_730⟩ hd_X7_isHour ⟨Nat.le_of_ble_eq_true rfl, Nat.le_of_ble_eq_true rfl⟩ ⟨Nat.le_of_ble_eq_true rfl, Nat.le_of_ble_eq_true rfl⟩ rfl rfl (Nat.le_of_ble_eq_true rfl) dX7_person_13 (g_rix ?_)
    refine g_ifb_eq hC 31 dX7_person_16 rfl (fun c_4 => ?_) (fun c_4 => ?_)
    · skip
      refine g_iconst (v := (-1)) hC dX7_person_31 rfl ?_
      refine g_zret (ty := .int) hC rfl rfl dX7_person_32 ?_
      have e0 : op_person g k h x = (-1, g) := by unfold op_person; rw [if_neg (by omega)]
      exact ⟨_, rfl, by rw [e0], by rw [e0]; exact hS, fR_rf⟩
    · skip
      refine g_iload_n hC dX7_person_19 rfl 3 rfl ?_
      refine g_i2l (v := x.toInt64) hC dX7_person_20 rfl ?_
      refine g_lconst (v := 0) hC dX7_person_21 rfl ?_
      refine g_ldc2 (v := 99) hC fw_732 dX7_person_22 ?_
      refine g_callS hC (as := [.long x.toInt64, .long 0, .long 99]) (rest := []) (c_X7_in l D cA b LAY M L x.toInt64 0 99 x.toInt 0 99 ((ic_w _).trans rfl) rfl rfl) ⟨fw_725, fw_726, fw_9, fw_727⟩ hd_X7_in ⟨Nat.le_of_ble_eq_true rfl, Nat.le_of_ble_eq_true rfl⟩ ⟨Nat.le_of_ble_eq_true rfl, Nat.le_of_ble_eq_true rfl⟩ rfl rfl (Nat.le_of_ble_eq_true rfl) dX7_person_25 (g_rix ?_)
      refine g_ifb_ne hC 33 dX7_person_28 rfl (fun c_6 => ?_) (fun c_6 => ?_)
      · skip
        refine g_aload_n hC dX7_person_33 rfl 0 rfl ?_
        refine g_getI (ci := 7) (i := 4) (k := 58) hC fm_in7 rfl ly_58 rfl (by decide) fw_624 dX7_person_34 ?_
        refine g_top (y := nI (g.1.1 7 0)) v0 ?_
        refine g_bipush (v := 8) hC dX7_person_37 rfl ?_
        refine g_icmp_ne_T (X := ((g.1.1 7 0 : Nat) : Int)) (Y := 8) hC (nI_toInt (by omega)) rfl 45 dX7_person_39 rfl (fun c_7 => ?_) (fun c_7 => ?_)
        · skip
          refine g_aload_n hC dX7_person_45 rfl 0 rfl ?_
          refine g_iload_n hC dX7_person_46 rfl 1 rfl ?_
          refine g_iload_n hC dX7_person_47 rfl 2 rfl ?_
          refine g_iload_n hC dX7_person_48 rfl 3 rfl ?_
          refine g_iconst (v := 1) hC dX7_person_49 rfl ?_
          refine g_callV hC (k := 58) (ci := 7) (as := [.int k, .int h, .int x, .int 1]) (rest := []) (c_X7_add l D cA b M L g k h x 1 hS hok (by omega)) ⟨fw_733, fw_735, fs_15, fw_9, fw_736⟩ ⟨rfl, hd_X7_add⟩ rfl ly_58 ⟨Nat.le_of_ble_eq_true rfl, Nat.le_of_ble_eq_true rfl⟩ ⟨Nat.le_of_ble_eq_true rfl, Nat.le_of_ble_eq_true rfl⟩ rfl rfl (Nat.le_of_ble_eq_true rfl) dX7_person_50 (g_rvx ?_)
          refine g_aload_n hC dX7_person_53 rfl 0 rfl ?_
          refine g_getI (ci := 7) (i := 4) (k := 58) hC fm_in7 rfl ly_58 rfl (by decide) fw_624 dX7_person_54 ?_
          refine g_top (y := nI (g.1.1 7 0 + 1)) (by simp [fm_up, fm_row, upd]) ?_
          refine g_iconst (v := 1) hC dX7_person_57 rfl ?_
          refine g_isub hC dX7_person_58 ?_
          refine g_top (y := nI (g.1.1 7 0)) (nI_pred _) ?_
          refine g_zret (ty := .int) hC rfl rfl dX7_person_59 ?_
          have e0 : op_person g k h x = (nI (g.1.1 7 0), ((uN2 (uN2 (uN2 (uN2 (uN2 g.1.1 0 (g.1.1 7 0) k.toInt.toNat) 1 (g.1.1 7 0) h.toInt.toNat) 2 (g.1.1 7 0) x.toInt.toNat) 3 (g.1.1 7 0) 1) 7 0 (g.1.1 7 0 + 1), g.1.2), g.2)) := by unfold op_person; rw [if_pos (by omega), if_pos (by omega)]
          refine ⟨_, rfl, by rw [e0], ?_, fun q hq => ⟨by simp [fm_up, fm_row, show q ≠ 58 by omega, show q ≠ 59 by omega, show q ≠ 60 by omega, show q ≠ 61 by omega, show q ≠ 62 by omega, show q ≠ 63 by omega, show q ≠ 64 by omega, show q ≠ 65 by omega, show q ≠ 66 by omega], rfl⟩⟩
          rw [e0]
          exact RS_now hS (tR_person hS.1 (by omega) (by omega) (by omega)) (fun i h1 h2 h3 h4 => by simp [fm_up, fm_row, upd, show i ≠ 4 by omega, show i ≠ 7 by omega, show i ≠ 10 by omega, show i ≠ 11 by omega, show i ≠ 12 by omega, show i ≠ 13 by omega, show i ≠ 14 by omega, show i ≠ 15 by omega, show i ≠ 16 by omega]) (fun q h => by rcases h with rfl | rfl | rfl | rfl <;> simp [fm_up, fm_row]) rfl
        · skip
          refine g_bipush (v := (-3)) hC dX7_person_42 rfl ?_
          refine g_zret (ty := .int) hC rfl rfl dX7_person_44 ?_
          have e0 : op_person g k h x = (-3, g) := by unfold op_person; rw [if_pos (by omega), if_neg (by omega)]
          exact ⟨_, rfl, by rw [e0], by rw [e0]; exact hS, fR_rf⟩
      · skip
        refine g_iconst (v := (-1)) hC dX7_person_31 rfl ?_
        refine g_zret (ty := .int) hC rfl rfl dX7_person_32 ?_
        have e0 : op_person g k h x = (-1, g) := by unfold op_person; rw [if_neg (by omega)]
        exact ⟨_, rfl, by rw [e0], by rw [e0]; exact hS, fR_rf⟩

theorem c_X7_may (l : Launch) (D : va_G) (cA : Nat → ClassId) (b : Nat) (M : Nat → Nat → Int32) (L : Nat → Nat → Int64) (g : Sg) (x : Int32) (i : Int32) (hS : RS M L g) (hok : OK g) : fm_Met l D cA b yX7_may cX7_may 4 (some .int) 2 46 0 0 [.ref (b + 58), .int x, .int i] LAY M L LAY (fm_pm (fun r M' L' => r = (op_may g x i).1 ∧ RS M' L' (op_may g x i).2 ∧ fR M M' L L')) := by
  refine fm_start RX7 rfl (by decide) (Nat.le_of_ble_eq_true rfl) ?_
  intro pq eq sq mq aq bq tq cq hC hin
  obtain ⟨⟨n1, n2, n3, v0, v1, v2, v3, v4, v5, v6, v7, v8⟩, hS2⟩ := id hS
  obtain ⟨⟨o1, o2, o3, o4, o5, o6, o7, o8, o9, o10, o11⟩, hok2⟩ := id hok
  refine g_aload_n hC dX7_may_0 rfl 0 rfl ?_
  refine g_iload_n hC dX7_may_1 rfl 1 rfl ?_
  refine g_callV hC (k := 58) (ci := 7) (as := [.int x]) (rest := []) (c_X7_isOne l D cA b M L g x x.toInt hS hok rfl) ⟨fw_741, fw_743, fs_16, fw_9, fw_744⟩ ⟨rfl, hd_X7_isOne⟩ rfl ly_58 ⟨Nat.le_of_ble_eq_true rfl, Nat.le_of_ble_eq_true rfl⟩ ⟨Nat.le_of_ble_eq_true rfl, Nat.le_of_ble_eq_true rfl⟩ rfl rfl (Nat.le_of_ble_eq_true rfl) dX7_may_2 (g_rix ?_)
  refine g_ifb_eq hC 18 dX7_may_5 rfl (fun c_2 => ?_) (fun c_2 => ?_)
  · skip
    refine g_iconst (v := (-1)) hC dX7_may_18 rfl ?_
    refine g_zret (ty := .int) hC rfl rfl dX7_may_19 ?_
    have e0 : op_may g x i = (-1, g) := by unfold op_may; rw [if_neg (by omega)]
    exact ⟨_, rfl, by rw [e0], by rw [e0]; exact hS, fR_rf⟩
  · skip
    refine g_iload_n hC dX7_may_8 rfl 2 rfl ?_
    refine g_i2l (v := i.toInt64) hC dX7_may_9 rfl ?_
    refine g_lconst (v := 0) hC dX7_may_10 rfl ?_
    refine g_lconst (v := 1) hC dX7_may_11 rfl ?_
    refine g_callS hC (as := [.long i.toInt64, .long 0, .long 1]) (rest := []) (c_X7_in l D cA b LAY M L i.toInt64 0 1 i.toInt 0 1 ((ic_w _).trans rfl) rfl rfl) ⟨fw_725, fw_726, fw_9, fw_727⟩ hd_X7_in ⟨Nat.le_of_ble_eq_true rfl, Nat.le_of_ble_eq_true rfl⟩ ⟨Nat.le_of_ble_eq_true rfl, Nat.le_of_ble_eq_true rfl⟩ rfl rfl (Nat.le_of_ble_eq_true rfl) dX7_may_12 (g_rix ?_)
    refine g_ifb_ne hC 20 dX7_may_15 rfl (fun c_4 => ?_) (fun c_4 => ?_)
    · skip
      refine g_aload_n hC dX7_may_20 rfl 0 rfl ?_
      refine g_getR (ci := 7) (i := 3) (k := 58) (t := 62) hC fm_in7 rfl ly_58 rfl (by decide) fw_623 dX7_may_21 ?_
      refine g_iload_n hC dX7_may_24 rfl 1 rfl ?_
      refine g_ialdN (j := x.toInt.toNat) (k := 62) hC ly_62 (ic_nI (by omega)) (by omega) (by decide) dX7_may_25 ?_
      refine g_top (y := nI (g.1.1 3 x.toInt.toNat)) ((n1 x.toInt.toNat (by omega)).2.2.2) ?_
      refine g_istore_n hC [(3, .int (nI (g.1.1 3 x.toInt.toNat))), (0, .ref (b + 58)), (1, .int x), (2, .int i)] dX7_may_26 rfl (by decide) rfl ?_
      refine g_aload_n hC dX7_may_27 rfl 1 rfl ?_
      refine g_getR (ci := 7) (i := 3) (k := 58) (t := 62) hC fm_in7 rfl ly_58 rfl (by decide) fw_623 dX7_may_28 ?_
      refine g_iload_n hC dX7_may_31 rfl 2 rfl ?_
      refine g_iload_n hC dX7_may_32 rfl 3 rfl ?_
      refine g_iastN (j := x.toInt.toNat) (k := 62) hC ly_62 (ic_nI (by omega)) (by omega) (by decide) dX7_may_33 ?_
      refine g_iload_n hC dX7_may_34 rfl 0 rfl ?_
      refine g_zret (ty := .int) hC rfl rfl dX7_may_35 ?_
      have ei : i = nI i.toInt.toNat := ic_nI (by omega)
      have em : fm_up M 62 x.toInt.toNat i = fm_up M 62 x.toInt.toNat (nI i.toInt.toNat) := by rw [← ei]
      rw [em]
      have e0 : op_may g x i = (nI (g.1.1 3 x.toInt.toNat), ((uN2 g.1.1 3 x.toInt.toNat i.toInt.toNat, g.1.2), g.2)) := by unfold op_may; rw [if_pos (by omega)]
      refine ⟨_, rfl, by rw [e0], ?_, fun q hq => ⟨by simp [fm_up, fm_row, show q ≠ 58 by omega, show q ≠ 59 by omega, show q ≠ 60 by omega, show q ≠ 61 by omega, show q ≠ 62 by omega, show q ≠ 63 by omega, show q ≠ 64 by omega, show q ≠ 65 by omega, show q ≠ 66 by omega], rfl⟩⟩
      rw [e0]
      exact RS_now hS (tR_may hS.1) (fun i h1 h2 h3 h4 => by simp [fm_up, fm_row, upd, show i ≠ 4 by omega, show i ≠ 7 by omega, show i ≠ 10 by omega, show i ≠ 11 by omega, show i ≠ 12 by omega, show i ≠ 13 by omega, show i ≠ 14 by omega, show i ≠ 15 by omega, show i ≠ 16 by omega]) (fun q h => by rcases h with rfl | rfl | rfl | rfl <;> simp [fm_up, fm_row]) rfl
    · skip
      refine g_iconst (v := (-1)) hC dX7_may_18 rfl ?_
      refine g_zret (ty := .int) hC rfl rfl dX7_may_19 ?_
      have e0 : op_may g x i = (-1, g) := by unfold op_may; rw [if_neg (by omega)]
      exact ⟨_, rfl, by rw [e0], by rw [e0]; exact hS, fR_rf⟩

theorem c_X7_told (l : Launch) (D : va_G) (cA : Nat → ClassId) (b : Nat) (M : Nat → Nat → Int32) (L : Nat → Nat → Int64) (g : Sg) (x : Int32) (i : Int32) (hS : RS M L g) (hok : OK g) : fm_Met l D cA b yX7_told cX7_told 3 (some .int) 2 46 0 0 [.ref (b + 58), .int x, .int i] LAY M L LAY (fm_pi (op_told g x i) M L) := by
  refine fm_start RX7 rfl (by decide) (Nat.le_of_ble_eq_true rfl) ?_
  intro pq eq sq mq aq bq tq cq hC hin
  obtain ⟨⟨n1, n2, n3, v0, v1, v2, v3, v4, v5, v6, v7, v8⟩, hS2⟩ := id hS
  obtain ⟨⟨o1, o2, o3, o4, o5, o6, o7, o8, o9, o10, o11⟩, hok2⟩ := id hok
  refine g_aload_n hC dX7_told_0 rfl 0 rfl ?_
  refine g_iload_n hC dX7_told_1 rfl 1 rfl ?_
  refine g_callV hC (k := 58) (ci := 7) (as := [.int x]) (rest := []) (c_X7_isOne l D cA b M L g x x.toInt hS hok rfl) ⟨fw_741, fw_743, fs_16, fw_9, fw_744⟩ ⟨rfl, hd_X7_isOne⟩ rfl ly_58 ⟨Nat.le_of_ble_eq_true rfl, Nat.le_of_ble_eq_true rfl⟩ ⟨Nat.le_of_ble_eq_true rfl, Nat.le_of_ble_eq_true rfl⟩ rfl rfl (Nat.le_of_ble_eq_true rfl) dX7_told_2 (g_rix ?_)
  refine g_ifb_eq hC 20 dX7_told_5 rfl (fun c_2 => ?_) (fun c_2 => ?_)
  · skip
    refine g_iconst (v := (-1)) hC dX7_told_20 rfl ?_
    refine g_zret (ty := .int) hC rfl rfl dX7_told_21 ⟨congrArg (fun z => some (Value.int z)) ?_, rfl, rfl⟩
    unfold op_told; rw [if_neg (by omega)]
  · skip
    refine g_iload_n hC dX7_told_8 rfl 2 rfl ?_
    refine g_i2l (v := i.toInt64) hC dX7_told_9 rfl ?_
    refine g_lconst (v := 0) hC dX7_told_10 rfl ?_
    refine g_ldc2 (v := 3) hC fw_724 dX7_told_11 ?_
    refine g_callS hC (as := [.long i.toInt64, .long 0, .long 3]) (rest := []) (c_X7_in l D cA b LAY M L i.toInt64 0 3 i.toInt 0 3 ((ic_w _).trans rfl) rfl rfl) ⟨fw_725, fw_726, fw_9, fw_727⟩ hd_X7_in ⟨Nat.le_of_ble_eq_true rfl, Nat.le_of_ble_eq_true rfl⟩ ⟨Nat.le_of_ble_eq_true rfl, Nat.le_of_ble_eq_true rfl⟩ rfl rfl (Nat.le_of_ble_eq_true rfl) dX7_told_14 (g_rix ?_)
    refine g_ifb_ne hC 22 dX7_told_17 rfl (fun c_4 => ?_) (fun c_4 => ?_)
    · skip
      refine g_iload_n hC dX7_told_22 rfl 2 rfl ?_
      refine g_if_ne_T (X := i.toInt) hC rfl 35 dX7_told_23 rfl (fun c_5 => ?_) (fun c_5 => ?_)
      · skip
        refine g_iload_n hC dX7_told_35 rfl 2 rfl ?_
        refine g_iconst (v := 1) hC dX7_told_36 rfl ?_
        refine g_icmp_ne_T (X := i.toInt) (Y := 1) hC rfl rfl 49 dX7_told_37 rfl (fun c_6 => ?_) (fun c_6 => ?_)
        · skip
          refine g_iload_n hC dX7_told_49 rfl 2 rfl ?_
          refine g_iconst (v := 2) hC dX7_told_50 rfl ?_
          refine g_icmp_ne_T (X := i.toInt) (Y := 2) hC rfl rfl 63 dX7_told_51 rfl (fun c_7 => ?_) (fun c_7 => ?_)
          · skip
            refine g_aload_n hC dX7_told_63 rfl 0 rfl ?_
            refine g_getR (ci := 7) (i := 3) (k := 58) (t := 62) hC fm_in7 rfl ly_58 rfl (by decide) fw_623 dX7_told_64 ?_
            refine g_iload_n hC dX7_told_67 rfl 1 rfl ?_
            refine g_ialdN (j := x.toInt.toNat) (k := 62) hC ly_62 (ic_nI (by omega)) (by omega) (by decide) dX7_told_68 ?_
            refine g_top (y := nI (g.1.1 3 x.toInt.toNat)) ((n1 x.toInt.toNat (by omega)).2.2.2) ?_
            refine g_zret (ty := .int) hC rfl rfl dX7_told_69 ⟨congrArg (fun z => some (Value.int z)) ?_, rfl, rfl⟩
            unfold op_told; rw [if_pos (by omega), show i.toInt.toNat = 3 by omega]
          · skip
            refine g_aload_n hC dX7_told_54 rfl 0 rfl ?_
            refine g_getR (ci := 7) (i := 2) (k := 58) (t := 61) hC fm_in7 rfl ly_58 rfl (by decide) fw_622 dX7_told_55 ?_
            refine g_iload_n hC dX7_told_58 rfl 1 rfl ?_
            refine g_ialdN (j := x.toInt.toNat) (k := 61) hC ly_61 (ic_nI (by omega)) (by omega) (by decide) dX7_told_59 ?_
            refine g_top (y := nI (g.1.1 2 x.toInt.toNat)) ((n1 x.toInt.toNat (by omega)).2.2.1) ?_
            refine g_goto hC 69 dX7_told_60 rfl ?_
            refine g_zret (ty := .int) hC rfl rfl dX7_told_69 ⟨congrArg (fun z => some (Value.int z)) ?_, rfl, rfl⟩
            unfold op_told; rw [if_pos (by omega), show i.toInt.toNat = 2 by omega]
        · skip
          refine g_aload_n hC dX7_told_40 rfl 0 rfl ?_
          refine g_getR (ci := 7) (i := 1) (k := 58) (t := 60) hC fm_in7 rfl ly_58 rfl (by decide) fw_621 dX7_told_41 ?_
          refine g_iload_n hC dX7_told_44 rfl 1 rfl ?_
          refine g_ialdN (j := x.toInt.toNat) (k := 60) hC ly_60 (ic_nI (by omega)) (by omega) (by decide) dX7_told_45 ?_
          refine g_top (y := nI (g.1.1 1 x.toInt.toNat)) ((n1 x.toInt.toNat (by omega)).2.1) ?_
          refine g_goto hC 69 dX7_told_46 rfl ?_
          refine g_zret (ty := .int) hC rfl rfl dX7_told_69 ⟨congrArg (fun z => some (Value.int z)) ?_, rfl, rfl⟩
          unfold op_told; rw [if_pos (by omega), show i.toInt.toNat = 1 by omega]
      · skip
        refine g_aload_n hC dX7_told_26 rfl 0 rfl ?_
        refine g_getR (ci := 7) (i := 0) (k := 58) (t := 59) hC fm_in7 rfl ly_58 rfl (by decide) fw_620 dX7_told_27 ?_
        refine g_iload_n hC dX7_told_30 rfl 1 rfl ?_
        refine g_ialdN (j := x.toInt.toNat) (k := 59) hC ly_59 (ic_nI (by omega)) (by omega) (by decide) dX7_told_31 ?_
        refine g_top (y := nI (g.1.1 0 x.toInt.toNat)) ((n1 x.toInt.toNat (by omega)).1) ?_
        refine g_goto hC 69 dX7_told_32 rfl ?_
        refine g_zret (ty := .int) hC rfl rfl dX7_told_69 ⟨congrArg (fun z => some (Value.int z)) ?_, rfl, rfl⟩
        unfold op_told; rw [if_pos (by omega), show i.toInt.toNat = 0 by omega]
    · skip
      refine g_iconst (v := (-1)) hC dX7_told_20 rfl ?_
      refine g_zret (ty := .int) hC rfl rfl dX7_told_21 ⟨congrArg (fun z => some (Value.int z)) ?_, rfl, rfl⟩
      unfold op_told; rw [if_neg (by omega)]

theorem c_X7_train (l : Launch) (D : va_G) (cA : Nat → ClassId) (b : Nat) (M : Nat → Nat → Int32) (L : Nat → Nat → Int64) (g : Sg) (h : Int32) (x : Int32) (hS : RS M L g) (hok : OK g) : fm_Met l D cA b yX7_train cX7_train 3 (some .int) 2 45 0 0 [.ref (b + 58), .int h, .int x] LAY M L LAY (fm_pm (fun r M' L' => r = (op_train g h x).1 ∧ RS M' L' (op_train g h x).2 ∧ fR M M' L L')) := by
  refine fm_start RX7 rfl (by decide) (Nat.le_of_ble_eq_true rfl) ?_
  intro pq eq sq mq aq bq tq cq hC hin
  obtain ⟨⟨n1, n2, n3, v0, v1, v2, v3, v4, v5, v6, v7, v8⟩, hS2⟩ := id hS
  obtain ⟨⟨o1, o2, o3, o4, o5, o6, o7, o8, o9, o10, o11⟩, hok2⟩ := id hok
  refine g_iload_n hC dX7_train_0 rfl 1 rfl ?_
  refine g_callS hC (as := [.int h]) (rest := []) (c_X7_isHour l D cA b LAY M L h h.toInt rfl) ⟨fw_728, fw_729, fw_9, fw_730⟩ hd_X7_isHour ⟨Nat.le_of_ble_eq_true rfl, Nat.le_of_ble_eq_true rfl⟩ ⟨Nat.le_of_ble_eq_true rfl, Nat.le_of_ble_eq_true rfl⟩ rfl rfl (Nat.le_of_ble_eq_true rfl) dX7_train_1 (g_rix ?_)
  refine g_ifb_eq hC 19 dX7_train_4 rfl (fun c_2 => ?_) (fun c_2 => ?_)
  · skip
    refine g_iconst (v := (-1)) hC dX7_train_19 rfl ?_
    refine g_zret (ty := .int) hC rfl rfl dX7_train_20 ?_
    have e0 : op_train g h x = (-1, g) := by unfold op_train; rw [if_neg (by omega)]
    exact ⟨_, rfl, by rw [e0], by rw [e0]; exact hS, fR_rf⟩
  · skip
    refine g_iload_n hC dX7_train_7 rfl 2 rfl ?_
    refine g_i2l (v := x.toInt64) hC dX7_train_8 rfl ?_
    refine g_lconst (v := 0) hC dX7_train_9 rfl ?_
    refine g_ldc2 (v := 99) hC fw_732 dX7_train_10 ?_
    refine g_callS hC (as := [.long x.toInt64, .long 0, .long 99]) (rest := []) (c_X7_in l D cA b LAY M L x.toInt64 0 99 x.toInt 0 99 ((ic_w _).trans rfl) rfl rfl) ⟨fw_725, fw_726, fw_9, fw_727⟩ hd_X7_in ⟨Nat.le_of_ble_eq_true rfl, Nat.le_of_ble_eq_true rfl⟩ ⟨Nat.le_of_ble_eq_true rfl, Nat.le_of_ble_eq_true rfl⟩ rfl rfl (Nat.le_of_ble_eq_true rfl) dX7_train_13 (g_rix ?_)
    refine g_ifb_ne hC 21 dX7_train_16 rfl (fun c_4 => ?_) (fun c_4 => ?_)
    · skip
      refine g_aload_n hC dX7_train_21 rfl 0 rfl ?_
      refine g_getI (ci := 7) (i := 7) (k := 58) hC fm_in7 rfl ly_58 rfl (by decide) fw_627 dX7_train_22 ?_
      refine g_top (y := nI (g.1.1 7 1)) v1 ?_
      refine g_bipush (v := 6) hC dX7_train_25 rfl ?_
      refine g_icmp_ne_T (X := ((g.1.1 7 1 : Nat) : Int)) (Y := 6) hC (nI_toInt (by omega)) rfl 33 dX7_train_27 rfl (fun c_5 => ?_) (fun c_5 => ?_)
      · skip
        refine g_aload_n hC dX7_train_33 rfl 0 rfl ?_
        refine g_getR (ci := 7) (i := 5) (k := 58) (t := 63) hC fm_in7 rfl ly_58 rfl (by decide) fw_625 dX7_train_34 ?_
        refine g_aload_n hC dX7_train_37 rfl 0 rfl ?_
        refine g_getI (ci := 7) (i := 7) (k := 58) hC fm_in7 rfl ly_58 rfl (by decide) fw_627 dX7_train_38 ?_
        refine g_top (y := nI (g.1.1 7 1)) v1 ?_
        refine g_iload_n hC dX7_train_41 rfl 1 rfl ?_
        refine g_iastN (j := g.1.1 7 1) (k := 63) hC ly_63 rfl (by omega) (by decide) dX7_train_42 ?_
        refine g_aload_n hC dX7_train_43 rfl 0 rfl ?_
        refine g_getR (ci := 7) (i := 6) (k := 58) (t := 64) hC fm_in7 rfl ly_58 rfl (by decide) fw_626 dX7_train_44 ?_
        refine g_aload_n hC dX7_train_47 rfl 0 rfl ?_
        refine g_getI (ci := 7) (i := 7) (k := 58) hC fm_in7 rfl ly_58 rfl (by decide) fw_627 dX7_train_48 ?_
        refine g_top (y := nI (g.1.1 7 1)) (by simp [fm_up, fm_row, upd, v1]) ?_
        refine g_iload_n hC dX7_train_51 rfl 2 rfl ?_
        refine g_iastN (j := g.1.1 7 1) (k := 64) hC ly_64 rfl (by omega) (by decide) dX7_train_52 ?_
        refine g_aload_n hC dX7_train_53 rfl 0 rfl ?_
        refine g_dup hC dX7_train_54 rfl ?_
        refine g_getI (ci := 7) (i := 7) (k := 58) hC fm_in7 rfl ly_58 rfl (by decide) fw_627 dX7_train_55 ?_
        refine g_top (y := nI (g.1.1 7 1)) (by simp [fm_up, fm_row, upd, v1]) ?_
        refine g_iconst (v := 1) hC dX7_train_58 rfl ?_
        refine g_iadd hC dX7_train_59 ?_
        refine g_top (y := nI ((g.1.1 7 1) + 1)) (nI_add _ _) ?_
        refine g_putI (ci := 7) (i := 7) (k := 58) hC fm_in7 tyX7 tyX7_ok nmX7 rfl ly_58 rfl (by decide) fw_627 rfl rfl rfl dX7_train_60 ?_
        refine g_aload_n hC dX7_train_63 rfl 0 rfl ?_
        refine g_getI (ci := 7) (i := 7) (k := 58) hC fm_in7 rfl ly_58 rfl (by decide) fw_627 dX7_train_64 ?_
        refine g_top (y := nI (g.1.1 7 1 + 1)) (by simp [fm_up, fm_row, upd]) ?_
        refine g_iconst (v := 1) hC dX7_train_67 rfl ?_
        refine g_isub hC dX7_train_68 ?_
        refine g_top (y := nI (g.1.1 7 1)) (nI_pred _) ?_
        refine g_zret (ty := .int) hC rfl rfl dX7_train_69 ?_
        have e0 : op_train g h x = (nI (g.1.1 7 1), ((uN2 (uN2 (uN2 g.1.1 4 (g.1.1 7 1) h.toInt.toNat) 5 (g.1.1 7 1) x.toInt.toNat) 7 1 (g.1.1 7 1 + 1), g.1.2), g.2)) := by unfold op_train; rw [if_pos (by omega), if_pos (by omega)]
        refine ⟨_, rfl, by rw [e0], ?_, fun q hq => ⟨by simp [fm_up, fm_row, show q ≠ 58 by omega, show q ≠ 59 by omega, show q ≠ 60 by omega, show q ≠ 61 by omega, show q ≠ 62 by omega, show q ≠ 63 by omega, show q ≠ 64 by omega, show q ≠ 65 by omega, show q ≠ 66 by omega], rfl⟩⟩
        rw [e0]
        exact RS_now hS (tR_train hS.1 (by omega) (by omega)) (fun i h1 h2 h3 h4 => by simp [fm_up, fm_row, upd, show i ≠ 4 by omega, show i ≠ 7 by omega, show i ≠ 10 by omega, show i ≠ 11 by omega, show i ≠ 12 by omega, show i ≠ 13 by omega, show i ≠ 14 by omega, show i ≠ 15 by omega, show i ≠ 16 by omega]) (fun q h => by rcases h with rfl | rfl | rfl | rfl <;> simp [fm_up, fm_row]) rfl
      · skip
        refine g_bipush (v := (-3)) hC dX7_train_30 rfl ?_
        refine g_zret (ty := .int) hC rfl rfl dX7_train_32 ?_
        have e0 : op_train g h x = (-3, g) := by unfold op_train; rw [if_pos (by omega), if_neg (by omega)]
        exact ⟨_, rfl, by rw [e0], by rw [e0]; exact hS, fR_rf⟩
    · skip
      refine g_iconst (v := (-1)) hC dX7_train_19 rfl ?_
      refine g_zret (ty := .int) hC rfl rfl dX7_train_20 ?_
      have e0 : op_train g h x = (-1, g) := by unfold op_train; rw [if_neg (by omega)]
      exact ⟨_, rfl, by rw [e0], by rw [e0]; exact hS, fR_rf⟩

theorem c_X7_strike (l : Launch) (D : va_G) (cA : Nat → ClassId) (b : Nat) (M : Nat → Nat → Int32) (L : Nat → Nat → Int64) (g : Sg) (hS : RS M L g) (hok : OK g) : fm_Met l D cA b yX7_strike cX7_strike 1 (some .int) 0 0 0 0 [.ref (b + 58)] LAY M L LAY (fm_pm (fun r M' L' => r = (op_strike g ).1 ∧ RS M' L' (op_strike g ).2 ∧ fR M M' L L')) := by
  refine fm_start RX7 rfl (by decide) (Nat.le_of_ble_eq_true rfl) ?_
  intro pq eq sq mq aq bq tq cq hC hin
  obtain ⟨⟨n1, n2, n3, v0, v1, v2, v3, v4, v5, v6, v7, v8⟩, hS2⟩ := id hS
  obtain ⟨⟨o1, o2, o3, o4, o5, o6, o7, o8, o9, o10, o11⟩, hok2⟩ := id hok
  refine g_aload_n hC dX7_strike_0 rfl 0 rfl ?_
  refine g_getI (ci := 7) (i := 7) (k := 58) hC fm_in7 rfl ly_58 rfl (by decide) fw_627 dX7_strike_1 ?_
  refine g_top (y := nI (g.1.1 7 1)) v1 ?_
  refine g_if_ne_T (X := ((g.1.1 7 1 : Nat) : Int)) hC (nI_toInt (by omega)) 10 dX7_strike_4 rfl (fun c_1 => ?_) (fun c_1 => ?_)
  · skip
    refine g_aload_n hC dX7_strike_10 rfl 0 rfl ?_
    refine g_dup hC dX7_strike_11 rfl ?_
    refine g_getI (ci := 7) (i := 7) (k := 58) hC fm_in7 rfl ly_58 rfl (by decide) fw_627 dX7_strike_12 ?_
    refine g_top (y := nI (g.1.1 7 1)) v1 ?_
    refine g_iconst (v := 1) hC dX7_strike_15 rfl ?_
    refine g_isub hC dX7_strike_16 ?_
    refine g_top (y := nI (g.1.1 7 1 - 1)) (pk_sub (a := g.1.1 7 1) (b := 1) (by omega)) ?_
    refine g_putI (ci := 7) (i := 7) (k := 58) hC fm_in7 tyX7 tyX7_ok nmX7 rfl ly_58 rfl (by decide) fw_627 rfl rfl rfl dX7_strike_17 ?_
    refine g_aload_n hC dX7_strike_20 rfl 0 rfl ?_
    refine g_getI (ci := 7) (i := 7) (k := 58) hC fm_in7 rfl ly_58 rfl (by decide) fw_627 dX7_strike_21 ?_
    refine g_top (y := nI (g.1.1 7 1 - 1)) (by simp [fm_up, fm_row, upd]) ?_
    refine g_zret (ty := .int) hC rfl rfl dX7_strike_24 ?_
    have e0 : op_strike g  = (nI (g.1.1 7 1 - 1), ((uN2 g.1.1 7 1 (g.1.1 7 1 - 1), g.1.2), g.2)) := by unfold op_strike; rw [if_neg (by omega)]
    refine ⟨_, rfl, by rw [e0], ?_, fun q hq => ⟨by simp [fm_up, fm_row, show q ≠ 58 by omega, show q ≠ 59 by omega, show q ≠ 60 by omega, show q ≠ 61 by omega, show q ≠ 62 by omega, show q ≠ 63 by omega, show q ≠ 64 by omega, show q ≠ 65 by omega, show q ≠ 66 by omega], rfl⟩⟩
    rw [e0]
    exact RS_now hS (tR_strike hS.1) (fun i h1 h2 h3 h4 => by simp [fm_up, fm_row, upd, show i ≠ 4 by omega, show i ≠ 7 by omega, show i ≠ 10 by omega, show i ≠ 11 by omega, show i ≠ 12 by omega, show i ≠ 13 by omega, show i ≠ 14 by omega, show i ≠ 15 by omega, show i ≠ 16 by omega]) (fun q h => by rcases h with rfl | rfl | rfl | rfl <;> simp [fm_up, fm_row]) rfl
  · skip
    refine g_bipush (v := (-4)) hC dX7_strike_7 rfl ?_
    refine g_zret (ty := .int) hC rfl rfl dX7_strike_9 ?_
    have e0 : op_strike g = (-4, g) := by unfold op_strike; rw [if_pos (by omega)]
    exact ⟨_, rfl, by rw [e0], by rw [e0]; exact hS, fR_rf⟩

theorem c_X7_set (l : Launch) (D : va_G) (cA : Nat → ClassId) (b : Nat) (M : Nat → Nat → Int32) (L : Nat → Nat → Int64) (g : Sg) (x : Int32) (v : Int32) (hS : RS M L g) (hok : OK g) : fm_Met l D cA b yX7_set cX7_set 4 (some .int) 1 25 0 0 [.ref (b + 58), .int x, .int v] LAY M L LAY (fm_pm (fun r M' L' => r = (op_set g x v).1 ∧ RS M' L' (op_set g x v).2 ∧ fR M M' L L')) := by
  refine fm_start RX7 rfl (by decide) (Nat.le_of_ble_eq_true rfl) ?_
  intro pq eq sq mq aq bq tq cq hC hin
  obtain ⟨⟨n1, n2, n3, v0, v1, v2, v3, v4, v5, v6, v7, v8⟩, hS2⟩ := id hS
  obtain ⟨⟨o1, o2, o3, o4, o5, o6, o7, o8, o9, o10, o11⟩, hok2⟩ := id hok
  refine g_iload_n hC dX7_set_0 rfl 1 rfl ?_
  refine g_i2l (v := x.toInt64) hC dX7_set_1 rfl ?_
  refine g_lconst (v := 0) hC dX7_set_2 rfl ?_
  refine g_ldc2 (v := 3) hC fw_724 dX7_set_3 ?_
  refine g_callS hC (as := [.long x.toInt64, .long 0, .long 3]) (rest := []) (c_X7_in l D cA b LAY M L x.toInt64 0 3 x.toInt 0 3 ((ic_w _).trans rfl) rfl rfl) ⟨fw_725, fw_726, fw_9, fw_727⟩ hd_X7_in ⟨Nat.le_of_ble_eq_true rfl, Nat.le_of_ble_eq_true rfl⟩ ⟨Nat.le_of_ble_eq_true rfl, Nat.le_of_ble_eq_true rfl⟩ rfl rfl (Nat.le_of_ble_eq_true rfl) dX7_set_6 (g_rix ?_)
  refine g_ifb_eq hC 45 dX7_set_9 rfl (fun c_2 => ?_) (fun c_2 => ?_)
  · skip
    refine g_iconst (v := (-1)) hC dX7_set_45 rfl ?_
    refine g_zret (ty := .int) hC rfl rfl dX7_set_46 ?_
    have e0 : op_set g x v = (-1, g) := by unfold op_set; rw [if_neg (by unfold mostS; (repeat' split) <;> omega)]
    exact ⟨_, rfl, by rw [e0], by rw [e0]; exact hS, fR_rf⟩
  · skip
    refine g_iload_n hC dX7_set_12 rfl 2 rfl ?_
    refine g_i2l (v := v.toInt64) hC dX7_set_13 rfl ?_
    refine g_lconst (v := 0) hC dX7_set_14 rfl ?_
    refine g_iload_n hC dX7_set_15 rfl 1 rfl ?_
    refine g_if_ne_T (X := x.toInt) hC rfl 25 dX7_set_16 rfl (fun c_3 => ?_) (fun c_3 => ?_)
    · skip
      refine g_iload_n hC dX7_set_25 rfl 1 rfl ?_
      refine g_iconst (v := 3) hC dX7_set_26 rfl ?_
      refine g_icmp_ne_T (X := x.toInt) (Y := 3) hC rfl rfl 36 dX7_set_27 rfl (fun c_4 => ?_) (fun c_4 => ?_)
      · skip
        refine g_ldc2 (v := 60) hC fw_774 dX7_set_36 ?_
        refine g_callS hC (as := [.long v.toInt64, .long 0, .long 60]) (rest := []) (c_X7_in l D cA b LAY M L v.toInt64 0 60 v.toInt 0 60 ((ic_w _).trans rfl) rfl rfl) ⟨fw_725, fw_726, fw_9, fw_727⟩ hd_X7_in ⟨Nat.le_of_ble_eq_true rfl, Nat.le_of_ble_eq_true rfl⟩ ⟨Nat.le_of_ble_eq_true rfl, Nat.le_of_ble_eq_true rfl⟩ rfl rfl (Nat.le_of_ble_eq_true rfl) dX7_set_39 (g_rix ?_)
        refine g_ifb_ne hC 47 dX7_set_42 rfl (fun c_6 => ?_) (fun c_6 => ?_)
        · skip
          refine g_iload_n hC dX7_set_47 rfl 1 rfl ?_
          refine g_if_ne_T (X := x.toInt) hC rfl 58 dX7_set_48 rfl (fun _ => ?_) (fun c_7 => absurd c_7 (by omega))
          refine g_iload_n hC dX7_set_58 rfl 1 rfl ?_
          refine g_iconst (v := 1) hC dX7_set_59 rfl ?_
          refine g_icmp_ne_T (X := x.toInt) (Y := 1) hC rfl rfl 70 dX7_set_60 rfl (fun c_8 => ?_) (fun c_8 => ?_)
          · skip
            refine g_iload_n hC dX7_set_70 rfl 1 rfl ?_
            refine g_iconst (v := 2) hC dX7_set_71 rfl ?_
            refine g_icmp_ne_T (X := x.toInt) (Y := 2) hC rfl rfl 82 dX7_set_72 rfl (fun c_9 => ?_) (fun c_9 => ?_)
            · skip
              refine g_aload_n hC dX7_set_82 rfl 0 rfl ?_
              refine g_getI (ci := 7) (i := 13) (k := 58) hC fm_in7 rfl ly_58 rfl (by decide) fw_633 dX7_set_83 ?_
              refine g_top (y := nI (g.1.1 7 5)) v5 ?_
              refine g_istore_n hC [(3, .int (nI (g.1.1 7 5))), (0, .ref (b + 58)), (1, .int x), (2, .int v)] dX7_set_86 rfl (by decide) rfl ?_
              refine g_aload_n hC dX7_set_87 rfl 1 rfl ?_
              refine g_iload_n hC dX7_set_88 rfl 2 rfl ?_
              refine g_if_ne_T (X := x.toInt) hC rfl 96 dX7_set_89 rfl (fun _ => ?_) (fun c_10 => absurd c_10 (by omega))
              refine g_aload_n hC dX7_set_96 rfl 1 rfl ?_
              refine g_getI (ci := 7) (i := 10) (k := 58) hC fm_in7 rfl ly_58 rfl (by decide) fw_630 dX7_set_97 ?_
              refine g_top (y := nI (g.1.1 7 2)) v2 ?_
              refine g_putI (ci := 7) (i := 10) (k := 58) hC fm_in7 tyX7 tyX7_ok nmX7 rfl ly_58 rfl (by decide) fw_630 rfl rfl rfl dX7_set_100 ?_
              refine g_aload_n hC dX7_set_103 rfl 1 rfl ?_
              refine g_iload_n hC dX7_set_104 rfl 2 rfl ?_
              refine g_iconst (v := 1) hC dX7_set_105 rfl ?_
              refine g_icmp_ne_T (X := x.toInt) (Y := 1) hC rfl rfl 113 dX7_set_106 rfl (fun _ => ?_) (fun c_11 => absurd c_11 (by omega))
              refine g_aload_n hC dX7_set_113 rfl 1 rfl ?_
              refine g_getI (ci := 7) (i := 11) (k := 58) hC fm_in7 rfl ly_58 rfl (by decide) fw_631 dX7_set_114 ?_
              refine g_top (y := nI (g.1.1 7 3)) (by simp [fm_up, fm_row, upd, v3]) ?_
              refine g_putI (ci := 7) (i := 11) (k := 58) hC fm_in7 tyX7 tyX7_ok nmX7 rfl ly_58 rfl (by decide) fw_631 rfl rfl rfl dX7_set_117 ?_
              refine g_aload_n hC dX7_set_120 rfl 1 rfl ?_
              refine g_iload_n hC dX7_set_121 rfl 2 rfl ?_
              refine g_iconst (v := 2) hC dX7_set_122 rfl ?_
              refine g_icmp_ne_T (X := x.toInt) (Y := 2) hC rfl rfl 130 dX7_set_123 rfl (fun _ => ?_) (fun c_12 => absurd c_12 (by omega))
              refine g_aload_n hC dX7_set_130 rfl 1 rfl ?_
              refine g_getI (ci := 7) (i := 12) (k := 58) hC fm_in7 rfl ly_58 rfl (by decide) fw_632 dX7_set_131 ?_
              refine g_top (y := nI (g.1.1 7 4)) (by simp [fm_up, fm_row, upd, v4]) ?_
              refine g_putI (ci := 7) (i := 12) (k := 58) hC fm_in7 tyX7 tyX7_ok nmX7 rfl ly_58 rfl (by decide) fw_632 rfl rfl rfl dX7_set_134 ?_
              refine g_aload_n hC dX7_set_137 rfl 1 rfl ?_
              refine g_iload_n hC dX7_set_138 rfl 2 rfl ?_
              refine g_iconst (v := 3) hC dX7_set_139 rfl ?_
              refine g_icmp_ne_T (X := x.toInt) (Y := 3) hC rfl rfl 147 dX7_set_140 rfl (fun _ => ?_) (fun c_13 => absurd c_13 (by omega))
              refine g_aload_n hC dX7_set_147 rfl 1 rfl ?_
              refine g_getI (ci := 7) (i := 13) (k := 58) hC fm_in7 rfl ly_58 rfl (by decide) fw_633 dX7_set_148 ?_
              refine g_top (y := nI (g.1.1 7 5)) (by simp [fm_up, fm_row, upd, v5]) ?_
              refine g_putI (ci := 7) (i := 13) (k := 58) hC fm_in7 tyX7 tyX7_ok nmX7 rfl ly_58 rfl (by decide) fw_633 rfl rfl rfl dX7_set_151 ?_
              refine g_iload_n hC dX7_set_154 rfl 0 rfl ?_
              refine g_zret (ty := .int) hC rfl rfl dX7_set_155 ?_
              exfalso; omega
            · skip
              refine g_aload_n hC dX7_set_75 rfl 0 rfl ?_
              refine g_getI (ci := 7) (i := 12) (k := 58) hC fm_in7 rfl ly_58 rfl (by decide) fw_632 dX7_set_76 ?_
              refine g_top (y := nI (g.1.1 7 4)) v4 ?_
              refine g_goto hC 86 dX7_set_79 rfl ?_
              refine g_istore_n hC [(3, .int (nI (g.1.1 7 4))), (0, .ref (b + 58)), (1, .int x), (2, .int v)] dX7_set_86 rfl (by decide) rfl ?_
              refine g_aload_n hC dX7_set_87 rfl 1 rfl ?_
              refine g_iload_n hC dX7_set_88 rfl 2 rfl ?_
              refine g_if_ne_T (X := x.toInt) hC rfl 96 dX7_set_89 rfl (fun _ => ?_) (fun c_14 => absurd c_14 (by omega))
              refine g_aload_n hC dX7_set_96 rfl 1 rfl ?_
              refine g_getI (ci := 7) (i := 10) (k := 58) hC fm_in7 rfl ly_58 rfl (by decide) fw_630 dX7_set_97 ?_
              refine g_top (y := nI (g.1.1 7 2)) v2 ?_
              refine g_putI (ci := 7) (i := 10) (k := 58) hC fm_in7 tyX7 tyX7_ok nmX7 rfl ly_58 rfl (by decide) fw_630 rfl rfl rfl dX7_set_100 ?_
              refine g_aload_n hC dX7_set_103 rfl 1 rfl ?_
              refine g_iload_n hC dX7_set_104 rfl 2 rfl ?_
              refine g_iconst (v := 1) hC dX7_set_105 rfl ?_
              refine g_icmp_ne_T (X := x.toInt) (Y := 1) hC rfl rfl 113 dX7_set_106 rfl (fun _ => ?_) (fun c_15 => absurd c_15 (by omega))
              refine g_aload_n hC dX7_set_113 rfl 1 rfl ?_
              refine g_getI (ci := 7) (i := 11) (k := 58) hC fm_in7 rfl ly_58 rfl (by decide) fw_631 dX7_set_114 ?_
              refine g_top (y := nI (g.1.1 7 3)) (by simp [fm_up, fm_row, upd, v3]) ?_
              refine g_putI (ci := 7) (i := 11) (k := 58) hC fm_in7 tyX7 tyX7_ok nmX7 rfl ly_58 rfl (by decide) fw_631 rfl rfl rfl dX7_set_117 ?_
              refine g_aload_n hC dX7_set_120 rfl 1 rfl ?_
              refine g_iload_n hC dX7_set_121 rfl 2 rfl ?_
              refine g_iconst (v := 2) hC dX7_set_122 rfl ?_
              refine g_icmp_ne_T (X := x.toInt) (Y := 2) hC rfl rfl 130 dX7_set_123 rfl (fun c_16 => absurd c_16 (by omega)) (fun _ => ?_)
              refine g_iload_n hC dX7_set_126 rfl 3 rfl ?_
              refine g_goto hC 134 dX7_set_127 rfl ?_
              refine g_putI (ci := 7) (i := 12) (k := 58) hC fm_in7 tyX7 tyX7_ok nmX7 rfl ly_58 rfl (by decide) fw_632 rfl rfl rfl dX7_set_134 ?_
              refine g_aload_n hC dX7_set_137 rfl 1 rfl ?_
              refine g_iload_n hC dX7_set_138 rfl 2 rfl ?_
              refine g_iconst (v := 3) hC dX7_set_139 rfl ?_
              refine g_icmp_ne_T (X := x.toInt) (Y := 3) hC rfl rfl 147 dX7_set_140 rfl (fun _ => ?_) (fun c_17 => absurd c_17 (by omega))
              refine g_aload_n hC dX7_set_147 rfl 1 rfl ?_
              refine g_getI (ci := 7) (i := 13) (k := 58) hC fm_in7 rfl ly_58 rfl (by decide) fw_633 dX7_set_148 ?_
              refine g_top (y := nI (g.1.1 7 5)) (by simp [fm_up, fm_row, upd, v5]) ?_
              refine g_putI (ci := 7) (i := 13) (k := 58) hC fm_in7 tyX7 tyX7_ok nmX7 rfl ly_58 rfl (by decide) fw_633 rfl rfl rfl dX7_set_151 ?_
              refine g_iload_n hC dX7_set_154 rfl 0 rfl ?_
              refine g_zret (ty := .int) hC rfl rfl dX7_set_155 ?_
              have hx : x.toInt.toNat = 2 := by omega
              have e0 : op_set g x v = (nI (g.1.1 7 (2 + 2)), ((uN2 g.1.1 7 (2 + 2) v.toInt.toNat, g.1.2), g.2)) := by unfold op_set; rw [if_pos (by unfold mostS; (repeat' split) <;> omega), hx]
              refine ⟨_, rfl, by rw [e0], ?_, fun q hq => ⟨by simp [fm_up, fm_row, show q ≠ 58 by omega, show q ≠ 59 by omega, show q ≠ 60 by omega, show q ≠ 61 by omega, show q ≠ 62 by omega, show q ≠ 63 by omega, show q ≠ 64 by omega, show q ≠ 65 by omega, show q ≠ 66 by omega], rfl⟩⟩
              rw [e0]
              exact RS_now hS (by rw [← uS4_2]; exact tR_set4 hS.1 rfl rfl (ic_nI (by omega)) rfl) (fun i h1 h2 h3 h4 => by simp [fm_up, fm_row, upd, show i ≠ 4 by omega, show i ≠ 7 by omega, show i ≠ 10 by omega, show i ≠ 11 by omega, show i ≠ 12 by omega, show i ≠ 13 by omega, show i ≠ 14 by omega, show i ≠ 15 by omega, show i ≠ 16 by omega]) (fun q h => by rcases h with rfl | rfl | rfl | rfl <;> simp [fm_up, fm_row]) rfl
          · skip
            refine g_aload_n hC dX7_set_63 rfl 0 rfl ?_
            refine g_getI (ci := 7) (i := 11) (k := 58) hC fm_in7 rfl ly_58 rfl (by decide) fw_631 dX7_set_64 ?_
            refine g_top (y := nI (g.1.1 7 3)) v3 ?_
            refine g_goto hC 86 dX7_set_67 rfl ?_
            refine g_istore_n hC [(3, .int (nI (g.1.1 7 3))), (0, .ref (b + 58)), (1, .int x), (2, .int v)] dX7_set_86 rfl (by decide) rfl ?_
            refine g_aload_n hC dX7_set_87 rfl 1 rfl ?_
            refine g_iload_n hC dX7_set_88 rfl 2 rfl ?_
            refine g_if_ne_T (X := x.toInt) hC rfl 96 dX7_set_89 rfl (fun _ => ?_) (fun c_18 => absurd c_18 (by omega))
            refine g_aload_n hC dX7_set_96 rfl 1 rfl ?_
            refine g_getI (ci := 7) (i := 10) (k := 58) hC fm_in7 rfl ly_58 rfl (by decide) fw_630 dX7_set_97 ?_
            refine g_top (y := nI (g.1.1 7 2)) v2 ?_
            refine g_putI (ci := 7) (i := 10) (k := 58) hC fm_in7 tyX7 tyX7_ok nmX7 rfl ly_58 rfl (by decide) fw_630 rfl rfl rfl dX7_set_100 ?_
            refine g_aload_n hC dX7_set_103 rfl 1 rfl ?_
            refine g_iload_n hC dX7_set_104 rfl 2 rfl ?_
            refine g_iconst (v := 1) hC dX7_set_105 rfl ?_
            refine g_icmp_ne_T (X := x.toInt) (Y := 1) hC rfl rfl 113 dX7_set_106 rfl (fun c_19 => absurd c_19 (by omega)) (fun _ => ?_)
            refine g_iload_n hC dX7_set_109 rfl 3 rfl ?_
            refine g_goto hC 117 dX7_set_110 rfl ?_
            refine g_putI (ci := 7) (i := 11) (k := 58) hC fm_in7 tyX7 tyX7_ok nmX7 rfl ly_58 rfl (by decide) fw_631 rfl rfl rfl dX7_set_117 ?_
            refine g_aload_n hC dX7_set_120 rfl 1 rfl ?_
            refine g_iload_n hC dX7_set_121 rfl 2 rfl ?_
            refine g_iconst (v := 2) hC dX7_set_122 rfl ?_
            refine g_icmp_ne_T (X := x.toInt) (Y := 2) hC rfl rfl 130 dX7_set_123 rfl (fun _ => ?_) (fun c_20 => absurd c_20 (by omega))
            refine g_aload_n hC dX7_set_130 rfl 1 rfl ?_
            refine g_getI (ci := 7) (i := 12) (k := 58) hC fm_in7 rfl ly_58 rfl (by decide) fw_632 dX7_set_131 ?_
            refine g_top (y := nI (g.1.1 7 4)) (by simp [fm_up, fm_row, upd, v4]) ?_
            refine g_putI (ci := 7) (i := 12) (k := 58) hC fm_in7 tyX7 tyX7_ok nmX7 rfl ly_58 rfl (by decide) fw_632 rfl rfl rfl dX7_set_134 ?_
            refine g_aload_n hC dX7_set_137 rfl 1 rfl ?_
            refine g_iload_n hC dX7_set_138 rfl 2 rfl ?_
            refine g_iconst (v := 3) hC dX7_set_139 rfl ?_
            refine g_icmp_ne_T (X := x.toInt) (Y := 3) hC rfl rfl 147 dX7_set_140 rfl (fun _ => ?_) (fun c_21 => absurd c_21 (by omega))
            refine g_aload_n hC dX7_set_147 rfl 1 rfl ?_
            refine g_getI (ci := 7) (i := 13) (k := 58) hC fm_in7 rfl ly_58 rfl (by decide) fw_633 dX7_set_148 ?_
            refine g_top (y := nI (g.1.1 7 5)) (by simp [fm_up, fm_row, upd, v5]) ?_
            refine g_putI (ci := 7) (i := 13) (k := 58) hC fm_in7 tyX7 tyX7_ok nmX7 rfl ly_58 rfl (by decide) fw_633 rfl rfl rfl dX7_set_151 ?_
            refine g_iload_n hC dX7_set_154 rfl 0 rfl ?_
            refine g_zret (ty := .int) hC rfl rfl dX7_set_155 ?_
            have hx : x.toInt.toNat = 1 := by omega
            have e0 : op_set g x v = (nI (g.1.1 7 (2 + 1)), ((uN2 g.1.1 7 (2 + 1) v.toInt.toNat, g.1.2), g.2)) := by unfold op_set; rw [if_pos (by unfold mostS; (repeat' split) <;> omega), hx]
            refine ⟨_, rfl, by rw [e0], ?_, fun q hq => ⟨by simp [fm_up, fm_row, show q ≠ 58 by omega, show q ≠ 59 by omega, show q ≠ 60 by omega, show q ≠ 61 by omega, show q ≠ 62 by omega, show q ≠ 63 by omega, show q ≠ 64 by omega, show q ≠ 65 by omega, show q ≠ 66 by omega], rfl⟩⟩
            rw [e0]
            exact RS_now hS (by rw [← uS4_1]; exact tR_set4 hS.1 rfl (ic_nI (by omega)) rfl rfl) (fun i h1 h2 h3 h4 => by simp [fm_up, fm_row, upd, show i ≠ 4 by omega, show i ≠ 7 by omega, show i ≠ 10 by omega, show i ≠ 11 by omega, show i ≠ 12 by omega, show i ≠ 13 by omega, show i ≠ 14 by omega, show i ≠ 15 by omega, show i ≠ 16 by omega]) (fun q h => by rcases h with rfl | rfl | rfl | rfl <;> simp [fm_up, fm_row]) rfl
        · skip
          refine g_iconst (v := (-1)) hC dX7_set_45 rfl ?_
          refine g_zret (ty := .int) hC rfl rfl dX7_set_46 ?_
          have e0 : op_set g x v = (-1, g) := by unfold op_set; rw [if_neg (by unfold mostS; (repeat' split) <;> omega)]
          exact ⟨_, rfl, by rw [e0], by rw [e0]; exact hS, fR_rf⟩
      · skip
        refine g_ldc2 (v := 20) hC fw_773 dX7_set_30 ?_
        refine g_goto hC 39 dX7_set_33 rfl ?_
        refine g_callS hC (as := [.long v.toInt64, .long 0, .long 20]) (rest := []) (c_X7_in l D cA b LAY M L v.toInt64 0 20 v.toInt 0 20 ((ic_w _).trans rfl) rfl rfl) ⟨fw_725, fw_726, fw_9, fw_727⟩ hd_X7_in ⟨Nat.le_of_ble_eq_true rfl, Nat.le_of_ble_eq_true rfl⟩ ⟨Nat.le_of_ble_eq_true rfl, Nat.le_of_ble_eq_true rfl⟩ rfl rfl (Nat.le_of_ble_eq_true rfl) dX7_set_39 (g_rix ?_)
        refine g_ifb_ne hC 47 dX7_set_42 rfl (fun c_23 => ?_) (fun c_23 => ?_)
        · skip
          refine g_iload_n hC dX7_set_47 rfl 1 rfl ?_
          refine g_if_ne_T (X := x.toInt) hC rfl 58 dX7_set_48 rfl (fun _ => ?_) (fun c_24 => absurd c_24 (by omega))
          refine g_iload_n hC dX7_set_58 rfl 1 rfl ?_
          refine g_iconst (v := 1) hC dX7_set_59 rfl ?_
          refine g_icmp_ne_T (X := x.toInt) (Y := 1) hC rfl rfl 70 dX7_set_60 rfl (fun _ => ?_) (fun c_25 => absurd c_25 (by omega))
          refine g_iload_n hC dX7_set_70 rfl 1 rfl ?_
          refine g_iconst (v := 2) hC dX7_set_71 rfl ?_
          refine g_icmp_ne_T (X := x.toInt) (Y := 2) hC rfl rfl 82 dX7_set_72 rfl (fun _ => ?_) (fun c_26 => absurd c_26 (by omega))
          refine g_aload_n hC dX7_set_82 rfl 0 rfl ?_
          refine g_getI (ci := 7) (i := 13) (k := 58) hC fm_in7 rfl ly_58 rfl (by decide) fw_633 dX7_set_83 ?_
          refine g_top (y := nI (g.1.1 7 5)) v5 ?_
          refine g_istore_n hC [(3, .int (nI (g.1.1 7 5))), (0, .ref (b + 58)), (1, .int x), (2, .int v)] dX7_set_86 rfl (by decide) rfl ?_
          refine g_aload_n hC dX7_set_87 rfl 1 rfl ?_
          refine g_iload_n hC dX7_set_88 rfl 2 rfl ?_
          refine g_if_ne_T (X := x.toInt) hC rfl 96 dX7_set_89 rfl (fun _ => ?_) (fun c_27 => absurd c_27 (by omega))
          refine g_aload_n hC dX7_set_96 rfl 1 rfl ?_
          refine g_getI (ci := 7) (i := 10) (k := 58) hC fm_in7 rfl ly_58 rfl (by decide) fw_630 dX7_set_97 ?_
          refine g_top (y := nI (g.1.1 7 2)) v2 ?_
          refine g_putI (ci := 7) (i := 10) (k := 58) hC fm_in7 tyX7 tyX7_ok nmX7 rfl ly_58 rfl (by decide) fw_630 rfl rfl rfl dX7_set_100 ?_
          refine g_aload_n hC dX7_set_103 rfl 1 rfl ?_
          refine g_iload_n hC dX7_set_104 rfl 2 rfl ?_
          refine g_iconst (v := 1) hC dX7_set_105 rfl ?_
          refine g_icmp_ne_T (X := x.toInt) (Y := 1) hC rfl rfl 113 dX7_set_106 rfl (fun _ => ?_) (fun c_28 => absurd c_28 (by omega))
          refine g_aload_n hC dX7_set_113 rfl 1 rfl ?_
          refine g_getI (ci := 7) (i := 11) (k := 58) hC fm_in7 rfl ly_58 rfl (by decide) fw_631 dX7_set_114 ?_
          refine g_top (y := nI (g.1.1 7 3)) (by simp [fm_up, fm_row, upd, v3]) ?_
          refine g_putI (ci := 7) (i := 11) (k := 58) hC fm_in7 tyX7 tyX7_ok nmX7 rfl ly_58 rfl (by decide) fw_631 rfl rfl rfl dX7_set_117 ?_
          refine g_aload_n hC dX7_set_120 rfl 1 rfl ?_
          refine g_iload_n hC dX7_set_121 rfl 2 rfl ?_
          refine g_iconst (v := 2) hC dX7_set_122 rfl ?_
          refine g_icmp_ne_T (X := x.toInt) (Y := 2) hC rfl rfl 130 dX7_set_123 rfl (fun _ => ?_) (fun c_29 => absurd c_29 (by omega))
          refine g_aload_n hC dX7_set_130 rfl 1 rfl ?_
          refine g_getI (ci := 7) (i := 12) (k := 58) hC fm_in7 rfl ly_58 rfl (by decide) fw_632 dX7_set_131 ?_
          refine g_top (y := nI (g.1.1 7 4)) (by simp [fm_up, fm_row, upd, v4]) ?_
          refine g_putI (ci := 7) (i := 12) (k := 58) hC fm_in7 tyX7 tyX7_ok nmX7 rfl ly_58 rfl (by decide) fw_632 rfl rfl rfl dX7_set_134 ?_
          refine g_aload_n hC dX7_set_137 rfl 1 rfl ?_
          refine g_iload_n hC dX7_set_138 rfl 2 rfl ?_
          refine g_iconst (v := 3) hC dX7_set_139 rfl ?_
          refine g_icmp_ne_T (X := x.toInt) (Y := 3) hC rfl rfl 147 dX7_set_140 rfl (fun c_30 => absurd c_30 (by omega)) (fun _ => ?_)
          refine g_iload_n hC dX7_set_143 rfl 3 rfl ?_
          refine g_goto hC 151 dX7_set_144 rfl ?_
          refine g_putI (ci := 7) (i := 13) (k := 58) hC fm_in7 tyX7 tyX7_ok nmX7 rfl ly_58 rfl (by decide) fw_633 rfl rfl rfl dX7_set_151 ?_
          refine g_iload_n hC dX7_set_154 rfl 0 rfl ?_
          refine g_zret (ty := .int) hC rfl rfl dX7_set_155 ?_
          have hx : x.toInt.toNat = 3 := by omega
          have e0 : op_set g x v = (nI (g.1.1 7 (2 + 3)), ((uN2 g.1.1 7 (2 + 3) v.toInt.toNat, g.1.2), g.2)) := by unfold op_set; rw [if_pos (by unfold mostS; (repeat' split) <;> omega), hx]
          refine ⟨_, rfl, by rw [e0], ?_, fun q hq => ⟨by simp [fm_up, fm_row, show q ≠ 58 by omega, show q ≠ 59 by omega, show q ≠ 60 by omega, show q ≠ 61 by omega, show q ≠ 62 by omega, show q ≠ 63 by omega, show q ≠ 64 by omega, show q ≠ 65 by omega, show q ≠ 66 by omega], rfl⟩⟩
          rw [e0]
          exact RS_now hS (by rw [← uS4_3]; exact tR_set4 hS.1 rfl rfl rfl (ic_nI (by omega))) (fun i h1 h2 h3 h4 => by simp [fm_up, fm_row, upd, show i ≠ 4 by omega, show i ≠ 7 by omega, show i ≠ 10 by omega, show i ≠ 11 by omega, show i ≠ 12 by omega, show i ≠ 13 by omega, show i ≠ 14 by omega, show i ≠ 15 by omega, show i ≠ 16 by omega]) (fun q h => by rcases h with rfl | rfl | rfl | rfl <;> simp [fm_up, fm_row]) rfl
        · skip
          refine g_iconst (v := (-1)) hC dX7_set_45 rfl ?_
          refine g_zret (ty := .int) hC rfl rfl dX7_set_46 ?_
          have e0 : op_set g x v = (-1, g) := by unfold op_set; rw [if_neg (by unfold mostS; (repeat' split) <;> omega)]
          exact ⟨_, rfl, by rw [e0], by rw [e0]; exact hS, fR_rf⟩
    · skip
      refine g_ldc2 (v := 99) hC fw_732 dX7_set_19 ?_
      refine g_goto hC 39 dX7_set_22 rfl ?_
      refine g_callS hC (as := [.long v.toInt64, .long 0, .long 99]) (rest := []) (c_X7_in l D cA b LAY M L v.toInt64 0 99 v.toInt 0 99 ((ic_w _).trans rfl) rfl rfl) ⟨fw_725, fw_726, fw_9, fw_727⟩ hd_X7_in ⟨Nat.le_of_ble_eq_true rfl, Nat.le_of_ble_eq_true rfl⟩ ⟨Nat.le_of_ble_eq_true rfl, Nat.le_of_ble_eq_true rfl⟩ rfl rfl (Nat.le_of_ble_eq_true rfl) dX7_set_39 (g_rix ?_)
      refine g_ifb_ne hC 47 dX7_set_42 rfl (fun c_32 => ?_) (fun c_32 => ?_)
      · skip
        refine g_iload_n hC dX7_set_47 rfl 1 rfl ?_
        refine g_if_ne_T (X := x.toInt) hC rfl 58 dX7_set_48 rfl (fun c_33 => absurd c_33 (by omega)) (fun _ => ?_)
        refine g_aload_n hC dX7_set_51 rfl 0 rfl ?_
        refine g_getI (ci := 7) (i := 10) (k := 58) hC fm_in7 rfl ly_58 rfl (by decide) fw_630 dX7_set_52 ?_
        refine g_top (y := nI (g.1.1 7 2)) v2 ?_
        refine g_goto hC 86 dX7_set_55 rfl ?_
        refine g_istore_n hC [(3, .int (nI (g.1.1 7 2))), (0, .ref (b + 58)), (1, .int x), (2, .int v)] dX7_set_86 rfl (by decide) rfl ?_
        refine g_aload_n hC dX7_set_87 rfl 1 rfl ?_
        refine g_iload_n hC dX7_set_88 rfl 2 rfl ?_
        refine g_if_ne_T (X := x.toInt) hC rfl 96 dX7_set_89 rfl (fun c_34 => absurd c_34 (by omega)) (fun _ => ?_)
        refine g_iload_n hC dX7_set_92 rfl 3 rfl ?_
        refine g_goto hC 100 dX7_set_93 rfl ?_
        refine g_putI (ci := 7) (i := 10) (k := 58) hC fm_in7 tyX7 tyX7_ok nmX7 rfl ly_58 rfl (by decide) fw_630 rfl rfl rfl dX7_set_100 ?_
        refine g_aload_n hC dX7_set_103 rfl 1 rfl ?_
        refine g_iload_n hC dX7_set_104 rfl 2 rfl ?_
        refine g_iconst (v := 1) hC dX7_set_105 rfl ?_
        refine g_icmp_ne_T (X := x.toInt) (Y := 1) hC rfl rfl 113 dX7_set_106 rfl (fun _ => ?_) (fun c_35 => absurd c_35 (by omega))
        refine g_aload_n hC dX7_set_113 rfl 1 rfl ?_
        refine g_getI (ci := 7) (i := 11) (k := 58) hC fm_in7 rfl ly_58 rfl (by decide) fw_631 dX7_set_114 ?_
        refine g_top (y := nI (g.1.1 7 3)) (by simp [fm_up, fm_row, upd, v3]) ?_
        refine g_putI (ci := 7) (i := 11) (k := 58) hC fm_in7 tyX7 tyX7_ok nmX7 rfl ly_58 rfl (by decide) fw_631 rfl rfl rfl dX7_set_117 ?_
        refine g_aload_n hC dX7_set_120 rfl 1 rfl ?_
        refine g_iload_n hC dX7_set_121 rfl 2 rfl ?_
        refine g_iconst (v := 2) hC dX7_set_122 rfl ?_
        refine g_icmp_ne_T (X := x.toInt) (Y := 2) hC rfl rfl 130 dX7_set_123 rfl (fun _ => ?_) (fun c_36 => absurd c_36 (by omega))
        refine g_aload_n hC dX7_set_130 rfl 1 rfl ?_
        refine g_getI (ci := 7) (i := 12) (k := 58) hC fm_in7 rfl ly_58 rfl (by decide) fw_632 dX7_set_131 ?_
        refine g_top (y := nI (g.1.1 7 4)) (by simp [fm_up, fm_row, upd, v4]) ?_
        refine g_putI (ci := 7) (i := 12) (k := 58) hC fm_in7 tyX7 tyX7_ok nmX7 rfl ly_58 rfl (by decide) fw_632 rfl rfl rfl dX7_set_134 ?_
        refine g_aload_n hC dX7_set_137 rfl 1 rfl ?_
        refine g_iload_n hC dX7_set_138 rfl 2 rfl ?_
        refine g_iconst (v := 3) hC dX7_set_139 rfl ?_
        refine g_icmp_ne_T (X := x.toInt) (Y := 3) hC rfl rfl 147 dX7_set_140 rfl (fun _ => ?_) (fun c_37 => absurd c_37 (by omega))
        refine g_aload_n hC dX7_set_147 rfl 1 rfl ?_
        refine g_getI (ci := 7) (i := 13) (k := 58) hC fm_in7 rfl ly_58 rfl (by decide) fw_633 dX7_set_148 ?_
        refine g_top (y := nI (g.1.1 7 5)) (by simp [fm_up, fm_row, upd, v5]) ?_
        refine g_putI (ci := 7) (i := 13) (k := 58) hC fm_in7 tyX7 tyX7_ok nmX7 rfl ly_58 rfl (by decide) fw_633 rfl rfl rfl dX7_set_151 ?_
        refine g_iload_n hC dX7_set_154 rfl 0 rfl ?_
        refine g_zret (ty := .int) hC rfl rfl dX7_set_155 ?_
        have hx : x.toInt.toNat = 0 := by omega
        have e0 : op_set g x v = (nI (g.1.1 7 (2 + 0)), ((uN2 g.1.1 7 (2 + 0) v.toInt.toNat, g.1.2), g.2)) := by unfold op_set; rw [if_pos (by unfold mostS; (repeat' split) <;> omega), hx]
        refine ⟨_, rfl, by rw [e0], ?_, fun q hq => ⟨by simp [fm_up, fm_row, show q ≠ 58 by omega, show q ≠ 59 by omega, show q ≠ 60 by omega, show q ≠ 61 by omega, show q ≠ 62 by omega, show q ≠ 63 by omega, show q ≠ 64 by omega, show q ≠ 65 by omega, show q ≠ 66 by omega], rfl⟩⟩
        rw [e0]
        exact RS_now hS (by rw [← uS4_0]; exact tR_set4 hS.1 (ic_nI (by omega)) rfl rfl rfl) (fun i h1 h2 h3 h4 => by simp [fm_up, fm_row, upd, show i ≠ 4 by omega, show i ≠ 7 by omega, show i ≠ 10 by omega, show i ≠ 11 by omega, show i ≠ 12 by omega, show i ≠ 13 by omega, show i ≠ 14 by omega, show i ≠ 15 by omega, show i ≠ 16 by omega]) (fun q h => by rcases h with rfl | rfl | rfl | rfl <;> simp [fm_up, fm_row]) rfl
      · skip
        refine g_iconst (v := (-1)) hC dX7_set_45 rfl ?_
        refine g_zret (ty := .int) hC rfl rfl dX7_set_46 ?_
        have e0 : op_set g x v = (-1, g) := by unfold op_set; rw [if_neg (by unfold mostS; (repeat' split) <;> omega)]
        exact ⟨_, rfl, by rw [e0], by rw [e0]; exact hS, fR_rf⟩

theorem c_X7_loss (l : Launch) (D : va_G) (cA : Nat → ClassId) (b : Nat) (M : Nat → Nat → Int32) (L : Nat → Nat → Int64) (g : Sg) (h : Int32) (v : Int32) (hS : RS M L g) (hok : OK g) : fm_Met l D cA b yX7_loss cX7_loss 4 (some .int) 2 45 0 0 [.ref (b + 58), .int h, .int v] LAY M L LAY (fm_pm (fun r M' L' => r = (op_loss g h v).1 ∧ RS M' L' (op_loss g h v).2 ∧ fR M M' L L')) := by
  refine fm_start RX7 rfl (by decide) (Nat.le_of_ble_eq_true rfl) ?_
  intro pq eq sq mq aq bq tq cq hC hin
  obtain ⟨⟨n1, n2, n3, v0, v1, v2, v3, v4, v5, v6, v7, v8⟩, hS2⟩ := id hS
  obtain ⟨⟨o1, o2, o3, o4, o5, o6, o7, o8, o9, o10, o11⟩, hok2⟩ := id hok
  refine g_iload_n hC dX7_loss_0 rfl 1 rfl ?_
  refine g_callS hC (as := [.int h]) (rest := []) (c_X7_isHour l D cA b LAY M L h h.toInt rfl) ⟨fw_728, fw_729, fw_9, fw_730⟩ hd_X7_isHour ⟨Nat.le_of_ble_eq_true rfl, Nat.le_of_ble_eq_true rfl⟩ ⟨Nat.le_of_ble_eq_true rfl, Nat.le_of_ble_eq_true rfl⟩ rfl rfl (Nat.le_of_ble_eq_true rfl) dX7_loss_1 (g_rix ?_)
  refine g_ifb_eq hC 19 dX7_loss_4 rfl (fun c_2 => ?_) (fun c_2 => ?_)
  · skip
    refine g_iconst (v := (-1)) hC dX7_loss_19 rfl ?_
    refine g_zret (ty := .int) hC rfl rfl dX7_loss_20 ?_
    have e0 : op_loss g h v = (-1, g) := by unfold op_loss; rw [if_neg (by omega)]
    exact ⟨_, rfl, by rw [e0], by rw [e0]; exact hS, fR_rf⟩
  · skip
    refine g_iload_n hC dX7_loss_7 rfl 2 rfl ?_
    refine g_i2l (v := v.toInt64) hC dX7_loss_8 rfl ?_
    refine g_lconst (v := 0) hC dX7_loss_9 rfl ?_
    refine g_ldc2 (v := 99) hC fw_732 dX7_loss_10 ?_
    refine g_callS hC (as := [.long v.toInt64, .long 0, .long 99]) (rest := []) (c_X7_in l D cA b LAY M L v.toInt64 0 99 v.toInt 0 99 ((ic_w _).trans rfl) rfl rfl) ⟨fw_725, fw_726, fw_9, fw_727⟩ hd_X7_in ⟨Nat.le_of_ble_eq_true rfl, Nat.le_of_ble_eq_true rfl⟩ ⟨Nat.le_of_ble_eq_true rfl, Nat.le_of_ble_eq_true rfl⟩ rfl rfl (Nat.le_of_ble_eq_true rfl) dX7_loss_13 (g_rix ?_)
    refine g_ifb_ne hC 21 dX7_loss_16 rfl (fun c_4 => ?_) (fun c_4 => ?_)
    · skip
      refine g_aload_n hC dX7_loss_21 rfl 0 rfl ?_
      refine g_getR (ci := 7) (i := 8) (k := 58) (t := 65) hC fm_in7 rfl ly_58 rfl (by decide) fw_628 dX7_loss_22 ?_
      refine g_iload_n hC dX7_loss_25 rfl 1 rfl ?_
      refine g_ialdN (j := h.toInt.toNat) (k := 65) hC ly_65 (ic_nI (by omega)) (by omega) (by decide) dX7_loss_26 ?_
      refine g_top (y := nI (g.1.1 6 h.toInt.toNat)) ((n3 h.toInt.toNat (by omega)).1) ?_
      refine g_istore_n hC [(3, .int (nI (g.1.1 6 h.toInt.toNat))), (0, .ref (b + 58)), (1, .int h), (2, .int v)] dX7_loss_27 rfl (by decide) rfl ?_
      refine g_aload_n hC dX7_loss_28 rfl 1 rfl ?_
      refine g_getR (ci := 7) (i := 8) (k := 58) (t := 65) hC fm_in7 rfl ly_58 rfl (by decide) fw_628 dX7_loss_29 ?_
      refine g_iload_n hC dX7_loss_32 rfl 2 rfl ?_
      refine g_iload_n hC dX7_loss_33 rfl 3 rfl ?_
      refine g_iastN (j := h.toInt.toNat) (k := 65) hC ly_65 (ic_nI (by omega)) (by omega) (by decide) dX7_loss_34 ?_
      refine g_iload_n hC dX7_loss_35 rfl 0 rfl ?_
      refine g_zret (ty := .int) hC rfl rfl dX7_loss_36 ?_
      have ev : v = nI v.toInt.toNat := ic_nI (by omega)
      have em : fm_up M 65 h.toInt.toNat v = fm_up M 65 h.toInt.toNat (nI v.toInt.toNat) := by rw [← ev]
      rw [em]
      have e0 : op_loss g h v = (nI (g.1.1 6 h.toInt.toNat), ((uN2 g.1.1 6 h.toInt.toNat v.toInt.toNat, g.1.2), g.2)) := by unfold op_loss; rw [if_pos (by omega)]
      refine ⟨_, rfl, by rw [e0], ?_, fun q hq => ⟨by simp [fm_up, fm_row, show q ≠ 58 by omega, show q ≠ 59 by omega, show q ≠ 60 by omega, show q ≠ 61 by omega, show q ≠ 62 by omega, show q ≠ 63 by omega, show q ≠ 64 by omega, show q ≠ 65 by omega, show q ≠ 66 by omega], rfl⟩⟩
      rw [e0]
      exact RS_now hS (tR_loss hS.1) (fun i h1 h2 h3 h4 => by simp [fm_up, fm_row, upd, show i ≠ 4 by omega, show i ≠ 7 by omega, show i ≠ 10 by omega, show i ≠ 11 by omega, show i ≠ 12 by omega, show i ≠ 13 by omega, show i ≠ 14 by omega, show i ≠ 15 by omega, show i ≠ 16 by omega]) (fun q h => by rcases h with rfl | rfl | rfl | rfl <;> simp [fm_up, fm_row]) rfl
    · skip
      refine g_iconst (v := (-1)) hC dX7_loss_19 rfl ?_
      refine g_zret (ty := .int) hC rfl rfl dX7_loss_20 ?_
      have e0 : op_loss g h v = (-1, g) := by unfold op_loss; rw [if_neg (by omega)]
      exact ⟨_, rfl, by rw [e0], by rw [e0]; exact hS, fR_rf⟩

theorem c_X7_lay (l : Launch) (D : va_G) (cA : Nat → ClassId) (b : Nat) (M : Nat → Nat → Int32) (L : Nat → Nat → Int64) (g : Sg) (h : Int32) (v : Int32) (hS : RS M L g) (hok : OK g) : fm_Met l D cA b yX7_lay cX7_lay 4 (some .int) 2 46 0 0 [.ref (b + 58), .int h, .int v] LAY M L LAY (fm_pm (fun r M' L' => r = (op_lay g h v).1 ∧ RS M' L' (op_lay g h v).2 ∧ fR M M' L L')) := by
  refine fm_start RX7 rfl (by decide) (Nat.le_of_ble_eq_true rfl) ?_
  intro pq eq sq mq aq bq tq cq hC hin
  obtain ⟨⟨n1, n2, n3, v0, v1, v2, v3, v4, v5, v6, v7, v8⟩, hS2⟩ := id hS
  obtain ⟨⟨o1, o2, o3, o4, o5, o6, o7, o8, o9, o10, o11⟩, hok2⟩ := id hok
  refine g_iload_n hC dX7_lay_0 rfl 1 rfl ?_
  refine g_callS hC (as := [.int h]) (rest := []) (c_X7_isHour l D cA b LAY M L h h.toInt rfl) ⟨fw_728, fw_729, fw_9, fw_730⟩ hd_X7_isHour ⟨Nat.le_of_ble_eq_true rfl, Nat.le_of_ble_eq_true rfl⟩ ⟨Nat.le_of_ble_eq_true rfl, Nat.le_of_ble_eq_true rfl⟩ rfl rfl (Nat.le_of_ble_eq_true rfl) dX7_lay_1 (g_rix ?_)
  refine g_ifb_eq hC 15 dX7_lay_4 rfl (fun c_2 => ?_) (fun c_2 => ?_)
  · skip
    refine g_ldc (v := (-100000001)) hC fw_783 dX7_lay_15 ?_
    refine g_zret (ty := .int) hC rfl rfl dX7_lay_17 ?_
    have e0 : op_lay g h v = (-100000001, g) := by unfold op_lay; rw [if_neg (by omega)]
    exact ⟨_, rfl, by rw [e0], by rw [e0]; exact hS, fR_rf⟩
  · skip
    refine g_iload_n hC dX7_lay_7 rfl 2 rfl ?_
    refine g_i2l (v := v.toInt64) hC dX7_lay_8 rfl ?_
    refine g_callS hC (as := [.long v.toInt64]) (rest := []) (c_X7_isNumber l D cA b LAY M L v.toInt64 v.toInt ((ic_w _).trans rfl)) ⟨fw_841, fw_842, fw_9, fw_843⟩ hd_X7_isNumber ⟨Nat.le_of_ble_eq_true rfl, Nat.le_of_ble_eq_true rfl⟩ ⟨Nat.le_of_ble_eq_true rfl, Nat.le_of_ble_eq_true rfl⟩ rfl rfl (Nat.le_of_ble_eq_true rfl) dX7_lay_9 (g_rix ?_)
    refine g_ifb_ne hC 18 dX7_lay_12 rfl (fun c_4 => ?_) (fun c_4 => ?_)
    · skip
      refine g_aload_n hC dX7_lay_18 rfl 0 rfl ?_
      refine g_getR (ci := 7) (i := 9) (k := 58) (t := 66) hC fm_in7 rfl ly_58 rfl (by decide) fw_629 dX7_lay_19 ?_
      refine g_iload_n hC dX7_lay_22 rfl 1 rfl ?_
      refine g_ialdN (j := h.toInt.toNat) (k := 66) hC ly_66 (ic_nI (by omega)) (by omega) (by decide) dX7_lay_23 ?_
      refine g_top (y := Int32.ofInt (g.1.2.1 h.toInt.toNat)) (n3 _ (by omega)).2 ?_
      refine g_istore_n hC [(3, .int (Int32.ofInt (g.1.2.1 h.toInt.toNat))), (0, .ref (b + 58)), (1, .int h), (2, .int v)] dX7_lay_24 rfl (by decide) rfl ?_
      refine g_aload_n hC dX7_lay_25 rfl 1 rfl ?_
      refine g_getR (ci := 7) (i := 9) (k := 58) (t := 66) hC fm_in7 rfl ly_58 rfl (by decide) fw_629 dX7_lay_26 ?_
      refine g_iload_n hC dX7_lay_29 rfl 2 rfl ?_
      refine g_iload_n hC dX7_lay_30 rfl 3 rfl ?_
      refine g_iastN (j := h.toInt.toNat) (k := 66) hC ly_66 (ic_nI (by omega)) (by omega) (by decide) dX7_lay_31 ?_
      refine g_iload_n hC dX7_lay_32 rfl 0 rfl ?_
      refine g_zret (ty := .int) hC rfl rfl dX7_lay_33 ?_
      have e0 : op_lay g h v = (Int32.ofInt (g.1.2.1 h.toInt.toNat), ((g.1.1, uP g.1.2.1 h.toInt.toNat v.toInt, g.1.2.2), g.2)) := by unfold op_lay; rw [if_pos (by omega)]
      refine ⟨_, rfl, by rw [e0], ?_, fun q hq => ⟨by simp [fm_up, fm_row, show q ≠ 58 by omega, show q ≠ 59 by omega, show q ≠ 60 by omega, show q ≠ 61 by omega, show q ≠ 62 by omega, show q ≠ 63 by omega, show q ≠ 64 by omega, show q ≠ 65 by omega, show q ≠ 66 by omega], rfl⟩⟩
      rw [e0]
      exact RS_now hS (tR_lay hS.1) (fun i h1 h2 h3 h4 => by simp [fm_up, fm_row, upd, show i ≠ 4 by omega, show i ≠ 7 by omega, show i ≠ 10 by omega, show i ≠ 11 by omega, show i ≠ 12 by omega, show i ≠ 13 by omega, show i ≠ 14 by omega, show i ≠ 15 by omega, show i ≠ 16 by omega]) (fun q h => by rcases h with rfl | rfl | rfl | rfl <;> simp [fm_up, fm_row]) rfl
    · skip
      refine g_ldc (v := (-100000001)) hC fw_783 dX7_lay_15 ?_
      refine g_zret (ty := .int) hC rfl rfl dX7_lay_17 ?_
      have e0 : op_lay g h v = (-100000001, g) := by unfold op_lay; rw [if_neg (by omega)]
      exact ⟨_, rfl, by rw [e0], by rw [e0]; exact hS, fR_rf⟩

theorem c_X7_is (l : Launch) (D : va_G) (cA : Nat → ClassId) (b : Nat) (M : Nat → Nat → Int32) (L : Nat → Nat → Int64) (g : Sg) (x : Int32) (hS : RS M L g) (hok : OK g) : fm_Met l D cA b yX7_is cX7_is 2 (some .int) 0 0 0 0 [.ref (b + 58), .int x] LAY M L LAY (fm_pi (op_is g x) M L) := by
  refine fm_start RX7 rfl (by decide) (Nat.le_of_ble_eq_true rfl) ?_
  intro pq eq sq mq aq bq tq cq hC hin
  obtain ⟨⟨n1, n2, n3, v0, v1, v2, v3, v4, v5, v6, v7, v8⟩, hS2⟩ := id hS
  obtain ⟨⟨o1, o2, o3, o4, o5, o6, o7, o8, o9, o10, o11⟩, hok2⟩ := id hok
  refine g_iload_n hC dX7_is_0 rfl 1 rfl ?_
  have t_1 : x.toInt = x.toInt := rfl
  by_cases c_1_0 : x.toInt = 0
  · refine g_tabIn hC 48 dX7_is_1 (by rw [t_1]; omega) (by rw [t_1]; omega) (by rw [t_1, c_1_0]; rfl) rfl ?_
    refine g_aload_n hC dX7_is_48 rfl 0 rfl ?_
    refine g_getI (ci := 7) (i := 10) (k := 58) hC fm_in7 rfl ly_58 rfl (by decide) fw_630 dX7_is_49 ?_
    refine g_top (y := nI (g.1.1 7 2)) v2 ?_
    refine g_zret (ty := .int) hC rfl rfl dX7_is_52 ⟨congrArg (fun z => some (Value.int z)) ?_, rfl, rfl⟩
    unfold op_is; rw [if_pos (by omega)]
  by_cases c_1_1 : x.toInt = 1
  · refine g_tabIn hC 53 dX7_is_1 (by rw [t_1]; omega) (by rw [t_1]; omega) (by rw [t_1, c_1_1]; rfl) rfl ?_
    refine g_aload_n hC dX7_is_53 rfl 0 rfl ?_
    refine g_getI (ci := 7) (i := 11) (k := 58) hC fm_in7 rfl ly_58 rfl (by decide) fw_631 dX7_is_54 ?_
    refine g_top (y := nI (g.1.1 7 3)) v3 ?_
    refine g_zret (ty := .int) hC rfl rfl dX7_is_57 ⟨congrArg (fun z => some (Value.int z)) ?_, rfl, rfl⟩
    unfold op_is; rw [if_neg (by omega), if_pos (by omega)]
  by_cases c_1_2 : x.toInt = 2
  · refine g_tabIn hC 58 dX7_is_1 (by rw [t_1]; omega) (by rw [t_1]; omega) (by rw [t_1, c_1_2]; rfl) rfl ?_
    refine g_aload_n hC dX7_is_58 rfl 0 rfl ?_
    refine g_getI (ci := 7) (i := 12) (k := 58) hC fm_in7 rfl ly_58 rfl (by decide) fw_632 dX7_is_59 ?_
    refine g_top (y := nI (g.1.1 7 4)) v4 ?_
    refine g_zret (ty := .int) hC rfl rfl dX7_is_62 ⟨congrArg (fun z => some (Value.int z)) ?_, rfl, rfl⟩
    unfold op_is; rw [if_neg (by omega), if_neg (by omega), if_pos (by omega)]
  by_cases c_1_3 : x.toInt = 3
  · refine g_tabIn hC 63 dX7_is_1 (by rw [t_1]; omega) (by rw [t_1]; omega) (by rw [t_1, c_1_3]; rfl) rfl ?_
    refine g_aload_n hC dX7_is_63 rfl 0 rfl ?_
    refine g_getI (ci := 7) (i := 13) (k := 58) hC fm_in7 rfl ly_58 rfl (by decide) fw_633 dX7_is_64 ?_
    refine g_top (y := nI (g.1.1 7 5)) v5 ?_
    refine g_zret (ty := .int) hC rfl rfl dX7_is_67 ⟨congrArg (fun z => some (Value.int z)) ?_, rfl, rfl⟩
    unfold op_is; rw [if_neg (by omega), if_neg (by omega), if_neg (by omega), if_pos (by omega)]
  by_cases c_1_4 : x.toInt = 4
  · refine g_tabIn hC 68 dX7_is_1 (by rw [t_1]; omega) (by rw [t_1]; omega) (by rw [t_1, c_1_4]; rfl) rfl ?_
    refine g_aload_n hC dX7_is_68 rfl 0 rfl ?_
    refine g_getI (ci := 7) (i := 4) (k := 58) hC fm_in7 rfl ly_58 rfl (by decide) fw_624 dX7_is_69 ?_
    refine g_top (y := nI (g.1.1 7 0)) v0 ?_
    refine g_zret (ty := .int) hC rfl rfl dX7_is_72 ⟨congrArg (fun z => some (Value.int z)) ?_, rfl, rfl⟩
    unfold op_is; rw [if_neg (by omega), if_neg (by omega), if_neg (by omega), if_neg (by omega), if_pos (by omega)]
  by_cases c_1_5 : x.toInt = 5
  · refine g_tabIn hC 73 dX7_is_1 (by rw [t_1]; omega) (by rw [t_1]; omega) (by rw [t_1, c_1_5]; rfl) rfl ?_
    refine g_aload_n hC dX7_is_73 rfl 0 rfl ?_
    refine g_getI (ci := 7) (i := 7) (k := 58) hC fm_in7 rfl ly_58 rfl (by decide) fw_627 dX7_is_74 ?_
    refine g_top (y := nI (g.1.1 7 1)) v1 ?_
    refine g_zret (ty := .int) hC rfl rfl dX7_is_77 ⟨congrArg (fun z => some (Value.int z)) ?_, rfl, rfl⟩
    unfold op_is; rw [if_neg (by omega), if_neg (by omega), if_neg (by omega), if_neg (by omega), if_neg (by omega), if_pos (by omega)]
  by_cases c_1_6 : x.toInt = 6
  · refine g_tabIn hC 78 dX7_is_1 (by rw [t_1]; omega) (by rw [t_1]; omega) (by rw [t_1, c_1_6]; rfl) rfl ?_
    refine g_aload_n hC dX7_is_78 rfl 0 rfl ?_
    refine g_getI (ci := 7) (i := 14) (k := 58) hC fm_in7 rfl ly_58 rfl (by decide) fw_634 dX7_is_79 ?_
    refine g_top (y := nI (g.1.1 7 6)) v6 ?_
    refine g_zret (ty := .int) hC rfl rfl dX7_is_82 ⟨congrArg (fun z => some (Value.int z)) ?_, rfl, rfl⟩
    unfold op_is; rw [if_neg (by omega), if_neg (by omega), if_neg (by omega), if_neg (by omega), if_neg (by omega), if_neg (by omega), if_pos (by omega)]
  by_cases c_1_7 : x.toInt = 7
  · refine g_tabIn hC 83 dX7_is_1 (by rw [t_1]; omega) (by rw [t_1]; omega) (by rw [t_1, c_1_7]; rfl) rfl ?_
    refine g_aload_n hC dX7_is_83 rfl 0 rfl ?_
    refine g_getI (ci := 7) (i := 15) (k := 58) hC fm_in7 rfl ly_58 rfl (by decide) fw_635 dX7_is_84 ?_
    refine g_top (y := g.1.2.2) v7 ?_
    refine g_zret (ty := .int) hC rfl rfl dX7_is_87 ⟨congrArg (fun z => some (Value.int z)) ?_, rfl, rfl⟩
    unfold op_is; rw [if_neg (by omega), if_neg (by omega), if_neg (by omega), if_neg (by omega), if_neg (by omega), if_neg (by omega), if_neg (by omega), if_pos (by omega)]
  refine g_tabOut hC 88 dX7_is_1 (by rw [t_1]; omega) rfl ?_
  refine g_ldc (v := (-100000001)) hC fw_783 dX7_is_88 ?_
  refine g_zret (ty := .int) hC rfl rfl dX7_is_90 ⟨congrArg (fun z => some (Value.int z)) ?_, rfl, rfl⟩
  unfold op_is; rw [if_neg (by omega), if_neg (by omega), if_neg (by omega), if_neg (by omega), if_neg (by omega), if_neg (by omega), if_neg (by omega), if_neg (by omega)]

theorem c_X7_seed (l : Launch) (D : va_G) (cA : Nat → ClassId) (b : Nat) (M : Nat → Nat → Int32) (L : Nat → Nat → Int64) (g : Sg) (v : Int32) (hS : RS M L g) (hok : OK g) : fm_Met l D cA b yX7_seed cX7_seed 3 (some .int) 0 0 0 0 [.ref (b + 58), .int v] LAY M L LAY (fm_pm (fun r M' L' => r = (op_seed g v).1 ∧ RS M' L' (op_seed g v).2 ∧ fR M M' L L')) := by
  refine fm_start RX7 rfl (by decide) (Nat.le_of_ble_eq_true rfl) ?_
  intro pq eq sq mq aq bq tq cq hC hin
  obtain ⟨⟨n1, n2, n3, v0, v1, v2, v3, v4, v5, v6, v7, v8⟩, hS2⟩ := id hS
  obtain ⟨⟨o1, o2, o3, o4, o5, o6, o7, o8, o9, o10, o11⟩, hok2⟩ := id hok
  refine g_iload_n hC dX7_seed_0 rfl 1 rfl ?_
  refine g_if_ge_T (X := v.toInt) hC rfl 6 dX7_seed_1 rfl (fun c_1 => ?_) (fun c_1 => ?_)
  · skip
    refine g_aload_n hC dX7_seed_6 rfl 0 rfl ?_
    refine g_getI (ci := 7) (i := 16) (k := 58) hC fm_in7 rfl ly_58 rfl (by decide) fw_636 dX7_seed_7 ?_
    refine g_top (y := nI (g.1.1 7 7)) v8 ?_
    refine g_istore_n hC [(2, .int (nI (g.1.1 7 7))), (0, .ref (b + 58)), (1, .int v)] dX7_seed_10 rfl (by decide) rfl ?_
    refine g_aload_n hC dX7_seed_11 rfl 1 rfl ?_
    refine g_iload_n hC dX7_seed_12 rfl 2 rfl ?_
    refine g_putI (ci := 7) (i := 16) (k := 58) hC fm_in7 tyX7 tyX7_ok nmX7 rfl ly_58 rfl (by decide) fw_636 rfl rfl rfl dX7_seed_13 ?_
    refine g_iload_n hC dX7_seed_16 rfl 0 rfl ?_
    refine g_zret (ty := .int) hC rfl rfl dX7_seed_17 ?_
    have ev : v = nI v.toInt.toNat := ic_nI (by omega)
    have em : fm_up M 58 16 v = fm_up M 58 16 (nI v.toInt.toNat) := by rw [← ev]
    rw [em]
    have e0 : op_seed g v = (nI (g.1.1 7 7), ((uN2 g.1.1 7 7 v.toInt.toNat, g.1.2), g.2)) := by unfold op_seed; rw [if_neg (by omega)]
    refine ⟨_, rfl, by rw [e0], ?_, fun q hq => ⟨by simp [fm_up, fm_row, show q ≠ 58 by omega, show q ≠ 59 by omega, show q ≠ 60 by omega, show q ≠ 61 by omega, show q ≠ 62 by omega, show q ≠ 63 by omega, show q ≠ 64 by omega, show q ≠ 65 by omega, show q ≠ 66 by omega], rfl⟩⟩
    rw [e0]
    exact RS_now hS (tR_seed hS.1) (fun i h1 h2 h3 h4 => by simp [fm_up, fm_row, upd, show i ≠ 4 by omega, show i ≠ 7 by omega, show i ≠ 10 by omega, show i ≠ 11 by omega, show i ≠ 12 by omega, show i ≠ 13 by omega, show i ≠ 14 by omega, show i ≠ 15 by omega, show i ≠ 16 by omega]) (fun q h => by rcases h with rfl | rfl | rfl | rfl <;> simp [fm_up, fm_row]) rfl
  · skip
    refine g_iconst (v := (-1)) hC dX7_seed_4 rfl ?_
    refine g_zret (ty := .int) hC rfl rfl dX7_seed_5 ?_
    have e0 : op_seed g v = (-1, g) := by unfold op_seed; rw [if_pos (by omega)]
    exact ⟨_, rfl, by rw [e0], by rw [e0]; exact hS, fR_rf⟩
