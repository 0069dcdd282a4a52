/-! ===== the check's plan, gain, day ===== -/
theorem RS_scr {M M' : Nat → Nat → Int32} {L L' : Nat → Nat → Int64} {g : Sg} (h : RS M L g) (e : ∀ k, (k < 69 ∨ (72 ≤ k ∧ k < 75)) → 58 ≤ k → k ≠ 68 → M' k = M k) (e2 : L' 75 = L 75) : RS M' L' g :=
  RS_now h (t := g.1) (tR_cong h.1 (fun k h1 h2 => e k (by omega) h1 (by omega))) (fun i _ _ _ _ => by rw [e 58 (by omega) (by omega) (by omega)]) (fun k hk => e k (by omega) (by omega) (by omega)) e2
theorem fm_upv {M : Nat → Nat → Int32} {k i j : Nat} {v : Int32} : fm_up M k i v k j = if j = i then v else M k j := by simp [fm_up, fm_row, upd]
theorem sumN_add (f g : Nat → Nat) : ∀ n, sumN (fun j => f j + g j) n = sumN f n + sumN g n
  | 0 => rfl
  | n + 1 => by
    have := sumN_add f g n
    simp only [sumN, this]; omega
theorem sumN_cong {f g : Nat → Nat} : ∀ {n : Nat}, (∀ j, j < n → f j = g j) → sumN f n = sumN g n
  | 0, _ => rfl
  | n + 1, h => by
    have h1 := sumN_cong (n := n) (fun j hj => h j (by omega))
    simp only [sumN, h1, h n (by omega)]
def gAk (t : Tn) (h k j : Nat) : Nat := if t.1 3 j = 1 then woN t j h k else 0
theorem gA_z (t : Tn) (h : Nat) : gA t h 0 = 0 := by
  unfold gA
  rw [if_neg (by omega)]
  have : sumN (gAf t h (0 : Int).toNat) (t.1 7 0) = sumN (fun _ => 0) (t.1 7 0) := sumN_cong (fun j _ => by unfold gAf; split <;> rfl)
  rw [this]
  have h0 : ∀ n, sumN (fun _ => 0) n = 0 := fun n => by
    induction n with
    | zero => rfl
    | succ n ih => simp only [sumN, ih]
  rw [h0]; rfl
theorem gA_s (t : Tn) (h k : Nat) : ((sumN (gAf t h k) (t.1 7 0) + sumN (gAk t h k) (t.1 7 0) : Nat) : Int) = gA t h ((k : Int) + 1) := by
  unfold gA
  rw [if_neg (by omega), show ((k : Int) + 1).toNat = k + 1 by omega, ← sumN_add]
  congr 1
  refine sumN_cong (fun j _ => ?_)
  unfold gAf gAk
  split <;> rfl
theorem gA_n (t : Tn) (h k : Nat) : gA t h (k : Int) = ((sumN (gAf t h k) (t.1 7 0) : Nat) : Int) := by
  unfold gA
  rw [if_neg (by omega), show (k : Int).toNat = k by omega]
theorem gA_m1 (t : Tn) (h : Nat) : 0 - nI (t.1 6 h) = Int32.ofInt (gA t h (-1)) := by
  unfold gA
  rw [if_pos (by omega), nI_oI, oI_neg]
  congr 1; omega
theorem gA_m2 (t : Tn) (h : Nat) : (-2) * nI (t.1 6 h) = Int32.ofInt (gA t h (-2)) := by
  unfold gA
  rw [if_pos (by omega), nI_oI, show (-2 : Int32) = Int32.ofInt (-2) from rfl, oI_mul]
def gaT (t : Tn) (M : Nat → Nat → Int32) (h n : Nat) : Prop := ∀ v, v < n → M 69 (8 * h + v) = Int32.ofInt (gA t h ((v : Int) - 2))
theorem ga_3 {t : Tn} {M : Nat → Nat → Int32} {h : Nat} : gaT t (fm_up (fm_up (fm_up M 69 (8 * h + 2) (Int32.ofInt (gA t h 0))) 69 (8 * h + 1) (Int32.ofInt (gA t h (-1)))) 69 (8 * h) (Int32.ofInt (gA t h (-2)))) h 3 := by
  intro v hv
  rcases (show v = 0 ∨ v = 1 ∨ v = 2 by omega) with rfl | rfl | rfl
  · rw [fm_upv, if_pos (by omega)]; rfl
  · rw [fm_upv, if_neg (by omega), fm_upv, if_pos (by omega)]; rfl
  · rw [fm_upv, if_neg (by omega), fm_upv, if_neg (by omega), fm_upv, if_pos (by omega)]; rfl
theorem ga_keep {t : Tn} {M : Nat → Nat → Int32} {h h2 n i : Nat} {v : Int32} (q : gaT t M h n) (hn : n ≤ 8) (hh : h < h2) (hi : 8 * h2 ≤ i) : gaT t (fm_up M 69 i v) h n := fun w hw => by
  rw [fm_upv, if_neg (by omega)]; exact q w hw
theorem ga_up {t : Tn} {M : Nat → Nat → Int32} {h n i : Nat} {v : Int32} (q : gaT t M h n) (hi : i = 8 * h + n) (hv : v = Int32.ofInt (gA t h ((n : Int) - 2))) : gaT t (fm_up M 69 i v) h (n + 1) := fun w hw => by
  by_cases e : w = n
  · subst e; rw [fm_upv, if_pos hi.symm, hv]
  · rw [fm_upv, if_neg (by omega)]; exact q w (by omega)
theorem ix_row {a : Nat} {z : Int} (h : -2 ≤ z) : nI a + Int32.ofInt z - (-2) = nI (a + (z + 2).toNat) := by
  rw [nI_oI, oI_add, show (-2 : Int32) = Int32.ofInt (-2) from rfl, oI_sub, nI_oI]
  congr 1; omega
def wtF (t : Tn) (h : Nat) : Nat → Nat
  | 0 => 1000000
  | n + 1 => if t.1 4 n = h then min (wtF t h n) (t.1 5 n) else wtF t h n
theorem wt_ml (t : Tn) (h : Nat) (hj : t.1 7 2 ≤ 1000000) : ∀ n, mlF t h n = min (t.1 7 2) (wtF t h n)
  | 0 => by simp only [mlF, wtF]; omega
  | n + 1 => by
    have := wt_ml t h hj n
    simp only [mlF, wtF]
    split <;> omega
def wtS (t : Tn) (h : Nat) : Nat := wtF t h (t.1 7 1)
theorem wtS_ml {t : Tn} (ht : tOK t) (h : Nat) : mlS t h = min (t.1 7 2) (wtS t h) := wt_ml t h (by have := ht.2.2.2.2.2.1; omega) _
theorem tR_day {M : Nat → Nat → Int32} {t : Tn} (h : tR M t) {a : Nat} {r : Int32} {d : Nat} {M' : Nat → Nat → Int32} (h7 : M' 58 10 = nI a) (h12 : M' 58 15 = r) (h11 : M' 58 14 = nI d) (ho : ∀ i, i ≠ 10 → i ≠ 14 → i ≠ 15 → M' 58 i = M 58 i) (hk : ∀ k, 59 ≤ k → k < 67 → M' k = M k) : tR M' (uN2 (uN2 t.1 7 2 a) 7 6 d, t.2.1, r) := by
  obtain ⟨h1, h2, h3, v0, v1, v2, v3, v4, v5, v6, v7, v8⟩ := h
  refine ⟨fun j hj => ?_, fun j hj => ?_, fun q hq => ?_, ?_, ?_, ?_, ?_, ?_, ?_, ?_, h12, ?_⟩
  · rw [hk 59 (by omega) (by omega), hk 60 (by omega) (by omega), hk 61 (by omega) (by omega), hk 62 (by omega) (by omega)]
    simpa [uN2] using h1 j (by simpa [uN2] using hj)
  · rw [hk 63 (by omega) (by omega), hk 64 (by omega) (by omega)]
    simpa [uN2] using h2 j (by simpa [uN2] using hj)
  · rw [hk 65 (by omega) (by omega), hk 66 (by omega) (by omega)]
    simpa [uN2] using h3 q hq
  · rw [ho _ (by omega) (by omega) (by omega)]; simpa [uN2] using v0
  · rw [ho _ (by omega) (by omega) (by omega)]; simpa [uN2] using v1
  · rw [h7]; simp [uN2]
  · rw [ho _ (by omega) (by omega) (by omega)]; simpa [uN2] using v3
  · rw [ho _ (by omega) (by omega) (by omega)]; simpa [uN2] using v4
  · rw [ho _ (by omega) (by omega) (by omega)]; simpa [uN2] using v5
  · rw [h11]; simp [uN2]
  · rw [ho _ (by omega) (by omega) (by omega)]; simpa [uN2] using v8
theorem jm_2 : ∀ a, a < 100 → 0 < a → nI a - 1 = nI (a - 1) := by decide +kernel

theorem c_X7_lateBy (l : Launch) (D : va_G) (cA : Nat → ClassId) (b : Nat) (M : Nat → Nat → Int32) (L : Nat → Nat → Int64) (rc : Nat) (row : Nat → Int) (hour : Nat) (hrc : LAY[rc]? = some (1, 24, [])) (hr : rowIs M rc row) (hh : hour ≤ 24) : fm_Met l D cA b yX7_lateBy cX7_lateBy 4 (some .int) 0 0 0 0 [.ref (b + rc), .int (nI hour)] LAY M L LAY (fm_pi (Int32.ofInt (lateS row hour)) M L) := by
  refine fm_start RX7 rfl (by decide) (Nat.le_of_ble_eq_true rfl) ?_
  intro pq eq sq mq aq bq tq cq hC hin
  refine g_iconst (v := 0) hC dX7_lateBy_0 rfl ?_
  refine g_istore_n hC [(2, .int 0), (0, .ref (b + rc)), (1, .int (nI hour))] dX7_lateBy_1 rfl (by decide) rfl ?_
  refine g_iconst (v := 0) hC dX7_lateBy_2 rfl ?_
  refine g_istore_n hC [(3, .int 0), (2, .int 0), (0, .ref (b + rc)), (1, .int (nI hour))] dX7_lateBy_3 rfl (by decide) rfl ?_
  have lp_4_1 : ∀ (n_1 : Nat) (h : Nat), 24 - h < n_1 → (h ≤ hour) → fm_G pq l eq (fm_rm 0 0 0 0) sq mq aq bq tq cq D cA b 4 (MQ bq (fm_Q D cA b LAY (fm_pi (Int32.ofInt (lateS row hour)) M L)) aq sq 0 0 (fun q => b ≤ q)) LAY M L 0 0 4 [(0, .ref (b + rc)), (1, .int (nI hour)), (2, .int (Int32.ofInt (lateS row h))), (3, .int (nI h))] [] := by
    intro n_1
    induction n_1 with
    | zero => intro h hm_1; exact absurd hm_1 (Nat.not_lt_zero _)
    | succ n_1 ih_1 =>
      intro h hm_1 hinv_1
      have i1 := hinv_1
      have lb := late_b (row_b hr) h (by omega)
      refine g_iload_n hC dX7_lateBy_4 rfl 3 rfl ?_
      refine g_iload_n hC dX7_lateBy_5 rfl 1 rfl ?_
      refine g_icmp_ge_T (X := ((h : Nat) : Int)) (Y := ((hour : Nat) : Int)) hC (nI_toInt (by omega)) (nI_toInt (by omega)) 21 dX7_lateBy_6 rfl (fun c_2 => ?_) (fun c_2 => ?_)
      · skip
        refine g_iload_n hC dX7_lateBy_21 rfl 2 rfl ?_
        refine g_zret (ty := .int) hC rfl rfl dX7_lateBy_22 ⟨congrArg (fun z => some (Value.int z)) ?_, rfl, rfl⟩
        rw [show h = hour by omega]
      · skip
        refine g_iload_n hC dX7_lateBy_9 rfl 2 rfl ?_
        refine g_aload_n hC dX7_lateBy_10 rfl 0 rfl ?_
        refine g_iload_n hC dX7_lateBy_11 rfl 3 rfl ?_
        refine g_ialdN (j := h) (k := rc) hC hrc rfl (by omega) (by decide) dX7_lateBy_12 ?_
        refine g_top (y := Int32.ofInt (row h)) (hr h (by omega)).1 ?_
        refine g_iadd hC dX7_lateBy_13 ?_
        refine g_top (y := Int32.ofInt (lateS row (h + 1))) (oI_add _ _) ?_
        refine g_istore_n hC [(2, .int (Int32.ofInt (lateS row (h + 1)))), (0, .ref (b + rc)), (1, .int (nI hour)), (3, .int (nI h))] dX7_lateBy_14 rfl (by decide) rfl ?_
        refine g_iinc hC [(3, .int (nI (h + 1))), (2, .int (Int32.ofInt (lateS row (h + 1)))), (0, .ref (b + rc)), (1, .int (nI hour))] dX7_lateBy_15 3 rfl (by rw [show Int32.ofInt 1 = nI 1 from rfl, nI_add]) (by decide) rfl ?_
        refine g_goto hC 4 dX7_lateBy_18 rfl ?_
        exact g_sub [2, 3, 1, 0] rfl (ih_1 (h + 1) (by omega) (by omega))
  exact g_sub [2, 3, 1, 0] rfl (lp_4_1 (24 - 0 + 1) 0 (Nat.lt_succ_self _) (by omega))

theorem c_X7_findGains (l : Launch) (D : va_G) (cA : Nat → ClassId) (b : Nat) (M : Nat → Nat → Int32) (L : Nat → Nat → Int64) (g : Sg) (hS : RS M L g) (hok : OK g) : fm_Met l D cA b yX7_findGains cX7_findGains 5 none 2 48 0 0 [.ref (b + 58)] LAY M L LAY (fm_pv (fun M' L' => (∀ q, q ≠ 69 → M' q = M q) ∧ L' = L ∧ ∀ q, q < 24 → gaT g.1 M' q 8)) := by
  refine fm_start RX7 rfl (by decide) (Nat.le_of_ble_eq_true rfl) ?_
  intro pq eq sq mq aq bq tq cq hC hin
  obtain ⟨⟨n1, n2, n3, v0, v1, v2, v3, v4, v5, v6, v7, v8⟩, hS2⟩ := id hS
  obtain ⟨⟨o1, o2, o3, o4, o5, o6, o7, o8, o9, o10, o11⟩, hok2⟩ := id hok
  refine g_iconst (v := 0) hC dX7_findGains_0 rfl ?_
  refine g_istore_n hC [(1, .int 0), (0, .ref (b + 58))] dX7_findGains_1 rfl (by decide) rfl ?_
  have lp_2_1 : ∀ (n_1 : Nat) (M1 : Nat → Nat → Int32) (h : Nat), 24 - h < n_1 → (h ≤ 24 ∧ (∀ q, q ≠ 69 → M1 q = M q) ∧ (∀ q, q < h → gaT g.1 M1 q 8)) → fm_G pq l eq (fm_rm 2 48 0 0) sq mq aq bq tq cq D cA b 5 (MQ bq (fm_Q D cA b LAY (fm_pv (fun M' L' => (∀ q, q ≠ 69 → M' q = M q) ∧ L' = L ∧ ∀ q, q < 24 → gaT g.1 M' q 8))) aq sq 0 0 (fun q => b ≤ q)) LAY M1 L 0 0 2 [(0, .ref (b + 58)), (1, .int (nI h))] [] := by
    intro n_1
    induction n_1 with
    | zero => intro M1 h hm_1; exact absurd hm_1 (Nat.not_lt_zero _)
    | succ n_1 ih_1 =>
      intro M1 h hm_1 hinv_1
      obtain ⟨j1, j2, j3⟩ := hinv_1
      obtain ⟨⟨n1, n2, n3, v0, v1, v2, v3, v4, v5, v6, v7, v8⟩, hS2⟩ := id (RS_scr hS (M' := M1) (L' := L) (fun q a1 a2 a3 => j2 q (by omega)) rfl)
      refine g_iload_n hC dX7_findGains_2 rfl 1 rfl ?_
      refine g_bipush (v := 24) hC dX7_findGains_3 rfl ?_
      refine g_icmp_ge_T (X := ((h : Nat) : Int)) (Y := 24) hC (nI_toInt (by omega)) rfl 147 dX7_findGains_5 rfl (fun c_2 => ?_) (fun c_2 => ?_)
      · skip
        refine g_vret hC rfl dX7_findGains_147 ?_
        exact ⟨rfl, j2, rfl, fun q hq => j3 q (by omega)⟩
      · skip
        refine g_aload_n hC dX7_findGains_8 rfl 0 rfl ?_
        refine g_getR (ci := 7) (i := 23) (k := 58) (t := 69) hC fm_in7 rfl ly_58 rfl (by decide) fw_643 dX7_findGains_9 ?_
        refine g_bipush (v := 8) hC dX7_findGains_12 rfl ?_
        refine g_iload_n hC dX7_findGains_14 rfl 1 rfl ?_
        refine g_imul hC dX7_findGains_15 ?_
        refine g_top (y := nI (8 * h)) (pk_mul _ _) ?_
        refine g_iconst (v := 2) hC dX7_findGains_16 rfl ?_
        refine g_iadd hC dX7_findGains_17 ?_
        refine g_top (y := nI ((8 * h) + 2)) (nI_add _ _) ?_
        refine g_iconst (v := 0) hC dX7_findGains_18 rfl ?_
        refine g_top (y := Int32.ofInt (gA g.1 h 0)) (by rw [gA_z]; rfl) ?_
        refine g_iastN (j := (8 * h) + 2) (k := 69) hC ly_69 rfl (by omega) (by decide) dX7_findGains_19 ?_
        refine g_aload_n hC dX7_findGains_20 rfl 0 rfl ?_
        refine g_getR (ci := 7) (i := 23) (k := 58) (t := 69) hC fm_in7 rfl ly_58 rfl (by decide) fw_643 dX7_findGains_21 ?_
        refine g_bipush (v := 8) hC dX7_findGains_24 rfl ?_
        refine g_iload_n hC dX7_findGains_26 rfl 1 rfl ?_
        refine g_imul hC dX7_findGains_27 ?_
        refine g_top (y := nI (8 * h)) (pk_mul _ _) ?_
        refine g_iconst (v := 1) hC dX7_findGains_28 rfl ?_
        refine g_iadd hC dX7_findGains_29 ?_
        refine g_top (y := nI ((8 * h) + 1)) (nI_add _ _) ?_
        refine g_aload_n hC dX7_findGains_30 rfl 0 rfl ?_
        refine g_getR (ci := 7) (i := 8) (k := 58) (t := 65) hC fm_in7 rfl ly_58 rfl (by decide) fw_628 dX7_findGains_31 ?_
        refine g_iload_n hC dX7_findGains_34 rfl 1 rfl ?_
        refine g_ialdN (j := h) (k := 65) hC ly_65 rfl (by omega) (by decide) dX7_findGains_35 ?_
        refine g_top (y := nI (g.1.1 6 h)) ((by simp [fm_up, fm_row, upd] : (fm_up M1 69 ((8 * h) + 2) (Int32.ofInt (gA g.1 h 0))) 65 h = M1 65 h).trans ((n3 h (by omega)).1)) ?_
        refine g_ineg hC dX7_findGains_36 ?_
        refine g_top (y := Int32.ofInt (gA g.1 h (-1))) (gA_m1 _ _) ?_
        refine g_iastN (j := (8 * h) + 1) (k := 69) hC ly_69 rfl (by omega) (by decide) dX7_findGains_37 ?_
        refine g_aload_n hC dX7_findGains_38 rfl 0 rfl ?_
        refine g_getR (ci := 7) (i := 23) (k := 58) (t := 69) hC fm_in7 rfl ly_58 rfl (by decide) fw_643 dX7_findGains_39 ?_
        refine g_bipush (v := 8) hC dX7_findGains_42 rfl ?_
        refine g_iload_n hC dX7_findGains_44 rfl 1 rfl ?_
        refine g_imul hC dX7_findGains_45 ?_
        refine g_top (y := nI (8 * h)) (pk_mul _ _) ?_
        refine g_bipush (v := (-2)) hC dX7_findGains_46 rfl ?_
        refine g_aload_n hC dX7_findGains_48 rfl 0 rfl ?_
        refine g_getR (ci := 7) (i := 8) (k := 58) (t := 65) hC fm_in7 rfl ly_58 rfl (by decide) fw_628 dX7_findGains_49 ?_
        refine g_iload_n hC dX7_findGains_52 rfl 1 rfl ?_
        refine g_ialdN (j := h) (k := 65) hC ly_65 rfl (by omega) (by decide) dX7_findGains_53 ?_
        refine g_top (y := nI (g.1.1 6 h)) ((by simp [fm_up, fm_row, upd] : (fm_up (fm_up M1 69 ((8 * h) + 2) (Int32.ofInt (gA g.1 h 0))) 69 ((8 * h) + 1) (Int32.ofInt (gA g.1 h (-1)))) 65 h = M1 65 h).trans ((n3 h (by omega)).1)) ?_
        refine g_imul hC dX7_findGains_54 ?_
        refine g_top (y := Int32.ofInt (gA g.1 h (-2))) (gA_m2 _ _) ?_
        refine g_iastN (j := 8 * h) (k := 69) hC ly_69 rfl (by omega) (by decide) dX7_findGains_55 ?_
        refine g_iconst (v := 0) hC dX7_findGains_56 rfl ?_
        refine g_istore_n hC [(2, .int 0), (0, .ref (b + 58)), (1, .int (nI h))] dX7_findGains_57 rfl (by decide) rfl ?_
        have lp_58_3 : ∀ (n_3 : Nat) (M2 : Nat → Nat → Int32) (k : Nat), 5 - k < n_3 → (k ≤ 5 ∧ (∀ q, q ≠ 69 → M2 q = M q) ∧ gaT g.1 M2 h (3 + k) ∧ (∀ q, q < h → gaT g.1 M2 q 8)) → fm_G pq l eq (fm_rm 2 48 0 0) sq mq aq bq tq cq D cA b 5 (MQ bq (fm_Q D cA b LAY (fm_pv (fun M' L' => (∀ q, q ≠ 69 → M' q = M q) ∧ L' = L ∧ ∀ q, q < 24 → gaT g.1 M' q 8))) aq sq 0 0 (fun q => b ≤ q)) LAY M2 L 0 0 58 [(0, .ref (b + 58)), (1, .int (nI h)), (2, .int (nI k))] [] := by
          intro n_3
          induction n_3 with
          | zero => intro M2 k hm_3; exact absurd hm_3 (Nat.not_lt_zero _)
          | succ n_3 ih_3 =>
            intro M2 k hm_3 hinv_3
            obtain ⟨m1, m2, m3, m4⟩ := hinv_3
            have hS3 := RS_scr hS (M' := M2) (L' := L) (fun q a1 a2 a3 => m2 q (by omega)) rfl
            obtain ⟨⟨n1, n2, n3, v0, v1, v2, v3, v4, v5, v6, v7, v8⟩, hS2⟩ := id hS3
            refine g_iload_n hC dX7_findGains_58 rfl 2 rfl ?_
            refine g_iconst (v := 5) hC dX7_findGains_59 rfl ?_
            refine g_icmp_ge_T (X := ((k : Nat) : Int)) (Y := 5) hC (nI_toInt (by omega)) rfl 141 dX7_findGains_60 rfl (fun c_4 => ?_) (fun c_4 => ?_)
            · skip
              refine g_iinc hC [(1, .int (nI (h + 1))), (0, .ref (b + 58)), (2, .int (nI k))] dX7_findGains_141 1 rfl (by rw [show Int32.ofInt 1 = nI 1 from rfl, nI_add]) (by decide) rfl ?_
              refine g_goto hC 2 dX7_findGains_144 rfl ?_
              exact g_sub [1, 0] rfl (ih_1 M2 (h + 1) (by omega) (⟨by omega, m2, fun q hq => if e : q = h then (by rw [e]; rw [show k = 5 by omega] at m3; exact m3) else m4 q (by omega)⟩))
            · skip
              refine g_aload_n hC dX7_findGains_63 rfl 0 rfl ?_
              refine g_getR (ci := 7) (i := 23) (k := 58) (t := 69) hC fm_in7 rfl ly_58 rfl (by decide) fw_643 dX7_findGains_64 ?_
              refine g_bipush (v := 8) hC dX7_findGains_67 rfl ?_
              refine g_iload_n hC dX7_findGains_69 rfl 1 rfl ?_
              refine g_imul hC dX7_findGains_70 ?_
              refine g_top (y := nI (8 * h)) (pk_mul _ _) ?_
              refine g_iconst (v := 2) hC dX7_findGains_71 rfl ?_
              refine g_iadd hC dX7_findGains_72 ?_
              refine g_top (y := nI ((8 * h) + 2)) (nI_add _ _) ?_
              refine g_iload_n hC dX7_findGains_73 rfl 2 rfl ?_
              refine g_iadd hC dX7_findGains_74 ?_
              refine g_top (y := nI (((8 * h) + 2) + k)) (nI_add _ _) ?_
              refine g_ialdN (j := ((8 * h) + 2) + k) (k := 69) hC ly_69 rfl (by omega) (by decide) dX7_findGains_75 ?_
              refine g_top (y := nI (sumN (gAf g.1 h k) (g.1.1 7 0))) (by have z := m3 (2 + k) (by omega); rw [show 8 * h + (2 + k) = 8 * h + 2 + k by omega, show (((2 + k : Nat) : Int) - 2) = (k : Int) by omega, gA_n, ← nI_oI] at z; exact z) ?_
              refine g_istore_n hC [(3, .int (nI (sumN (gAf g.1 h k) (g.1.1 7 0)))), (0, .ref (b + 58)), (1, .int (nI h)), (2, .int (nI k))] dX7_findGains_76 rfl (by decide) rfl ?_
              refine g_iconst (v := 0) hC dX7_findGains_77 rfl ?_
              refine g_istore hC [(4, .int 0), (3, .int (nI (sumN (gAf g.1 h k) (g.1.1 7 0)))), (0, .ref (b + 58)), (1, .int (nI h)), (2, .int (nI k))] dX7_findGains_78 (by decide) rfl ?_
              have lp_80_5 : ∀ (n_5 : Nat) (acc : Nat) (p : Nat), g.1.1 7 0 - p < n_5 → (p ≤ g.1.1 7 0 ∧ acc = sumN (gAf g.1 h k) (g.1.1 7 0) + sumN (gAk g.1 h k) p) → fm_G pq l eq (fm_rm 2 48 0 0) sq mq aq bq tq cq D cA b 5 (MQ bq (fm_Q D cA b LAY (fm_pv (fun M' L' => (∀ q, q ≠ 69 → M' q = M q) ∧ L' = L ∧ ∀ q, q < 24 → gaT g.1 M' q 8))) aq sq 0 0 (fun q => b ≤ q)) LAY M2 L 0 0 80 [(0, .ref (b + 58)), (1, .int (nI h)), (2, .int (nI k)), (3, .int (nI acc)), (4, .int (nI p))] [] := by
                intro n_5
                induction n_5 with
                | zero => intro acc p hm_5; exact absurd hm_5 (Nat.not_lt_zero _)
                | succ n_5 ih_5 =>
                  intro acc p hm_5 hinv_5
                  obtain ⟨p1, p2⟩ := hinv_5
                  have oo := o1 p
                  refine g_iload hC dX7_findGains_80 4 rfl ?_
                  refine g_aload_n hC dX7_findGains_82 rfl 0 rfl ?_
                  refine g_getI (ci := 7) (i := 4) (k := 58) hC fm_in7 rfl ly_58 rfl (by decide) fw_624 dX7_findGains_83 ?_
                  refine g_top (y := nI (g.1.1 7 0)) v0 ?_
                  refine g_icmp_ge_T (X := ((p : Nat) : Int)) (Y := ((g.1.1 7 0 : Nat) : Int)) hC (nI_toInt (by omega)) (nI_toInt (by omega)) 121 dX7_findGains_86 rfl (fun c_6 => ?_) (fun c_6 => ?_)
                  · skip
                    refine g_aload_n hC dX7_findGains_121 rfl 0 rfl ?_
                    refine g_getR (ci := 7) (i := 23) (k := 58) (t := 69) hC fm_in7 rfl ly_58 rfl (by decide) fw_643 dX7_findGains_122 ?_
                    refine g_bipush (v := 8) hC dX7_findGains_125 rfl ?_
                    refine g_iload_n hC dX7_findGains_127 rfl 1 rfl ?_
                    refine g_imul hC dX7_findGains_128 ?_
                    refine g_top (y := nI (8 * h)) (pk_mul _ _) ?_
                    refine g_iconst (v := 3) hC dX7_findGains_129 rfl ?_
                    refine g_iadd hC dX7_findGains_130 ?_
                    refine g_top (y := nI ((8 * h) + 3)) (nI_add _ _) ?_
                    refine g_iload_n hC dX7_findGains_131 rfl 2 rfl ?_
                    refine g_iadd hC dX7_findGains_132 ?_
                    refine g_top (y := nI (((8 * h) + 3) + k)) (nI_add _ _) ?_
                    refine g_iload_n hC dX7_findGains_133 rfl 3 rfl ?_
                    refine g_iastN (j := ((8 * h) + 3) + k) (k := 69) hC ly_69 rfl (by omega) (by decide) dX7_findGains_134 ?_
                    refine g_iinc hC [(2, .int (nI (k + 1))), (0, .ref (b + 58)), (1, .int (nI h)), (3, .int (nI acc)), (4, .int (nI p))] dX7_findGains_135 2 rfl (by rw [show Int32.ofInt 1 = nI 1 from rfl, nI_add]) (by decide) rfl ?_
                    refine g_goto hC 58 dX7_findGains_138 rfl ?_
                    exact g_sub [1, 2, 0] rfl (ih_3 (fm_up M2 69 (((8 * h) + 3) + k) (nI acc)) (k + 1) (by omega) (⟨by omega, fun q hq => by rw [fm_upn hq]; exact m2 q hq, ga_up (n := 3 + k) m3 (by omega) (by rw [p2, show p = g.1.1 7 0 by omega, nI_oI, gA_s]; congr 2; omega), fun q hq => ga_keep (m4 q hq) (by omega) hq (by omega)⟩))
                  · skip
                    refine g_iload_n hC dX7_findGains_89 rfl 3 rfl ?_
                    refine g_aload_n hC dX7_findGains_90 rfl 0 rfl ?_
                    refine g_getR (ci := 7) (i := 3) (k := 58) (t := 62) hC fm_in7 rfl ly_58 rfl (by decide) fw_623 dX7_findGains_91 ?_
                    refine g_iload hC dX7_findGains_94 4 rfl ?_
                    refine g_ialdN (j := p) (k := 62) hC ly_62 rfl (by omega) (by decide) dX7_findGains_96 ?_
                    refine g_top (y := nI (g.1.1 3 p)) ((n1 p (by omega)).2.2.2) ?_
                    refine g_iconst (v := 1) hC dX7_findGains_97 rfl ?_
                    refine g_icmp_ne_T (X := ((g.1.1 3 p : Nat) : Int)) (Y := 1) hC (nI_toInt (by omega)) rfl 112 dX7_findGains_98 rfl (fun c_7 => ?_) (fun c_7 => ?_)
                    · skip
                      refine g_iconst (v := 0) hC dX7_findGains_112 rfl ?_
                      refine g_iadd hC dX7_findGains_113 ?_
                      refine g_top (y := nI (acc + 0)) (nI_add _ _) ?_
                      refine g_istore_n hC [(3, .int (nI (acc + 0))), (0, .ref (b + 58)), (1, .int (nI h)), (2, .int (nI k)), (4, .int (nI p))] dX7_findGains_114 rfl (by decide) rfl ?_
                      refine g_iinc hC [(4, .int (nI (p + 1))), (3, .int (nI (acc + 0))), (0, .ref (b + 58)), (1, .int (nI h)), (2, .int (nI k))] dX7_findGains_115 4 rfl (by rw [show Int32.ofInt 1 = nI 1 from rfl, nI_add]) (by decide) rfl ?_
                      refine g_goto hC 80 dX7_findGains_118 rfl ?_
                      exact g_sub [2, 3, 4, 1, 0] rfl (ih_5 (acc + 0) (p + 1) (by omega) (⟨by omega, by rw [p2, Nat.add_assoc]; congr 1; show _ = sumN (gAk g.1 h k) p + gAk g.1 h k p; congr 1; unfold gAk; split <;> omega⟩))
                    · skip
                      refine g_aload_n hC dX7_findGains_101 rfl 0 rfl ?_
                      refine g_iload hC dX7_findGains_102 4 rfl ?_
                      refine g_iload_n hC dX7_findGains_104 rfl 1 rfl ?_
                      refine g_iload_n hC dX7_findGains_105 rfl 2 rfl ?_
                      refine g_callV hC (k := 58) (ci := 7) (as := [.int (nI p), .int (nI h), .int (nI k)]) (rest := [.int (nI acc)]) (c_X7_worthOf l D cA b M2 L g p h k hS3 hok (by omega) (by omega) (by omega)) ⟨fw_754, fw_756, fs_17, fw_9, fw_757⟩ ⟨rfl, hd_X7_worthOf⟩ rfl ly_58 ⟨Nat.le_of_ble_eq_true rfl, Nat.le_of_ble_eq_true rfl⟩ ⟨Nat.le_of_ble_eq_true rfl, Nat.le_of_ble_eq_true rfl⟩ rfl rfl (Nat.le_of_ble_eq_true rfl) dX7_findGains_106 (g_rix ?_)
                      have wb_8 := woN_le (t := g.1) (j := p) (hour := h) (k := k)
                      refine g_goto hC 113 dX7_findGains_109 rfl ?_
                      refine g_iadd hC dX7_findGains_113 ?_
                      refine g_top (y := nI (acc + (woN g.1 p h k))) (nI_add _ _) ?_
                      refine g_istore_n hC [(3, .int (nI (acc + (woN g.1 p h k)))), (0, .ref (b + 58)), (1, .int (nI h)), (2, .int (nI k)), (4, .int (nI p))] dX7_findGains_114 rfl (by decide) rfl ?_
                      refine g_iinc hC [(4, .int (nI (p + 1))), (3, .int (nI (acc + (woN g.1 p h k)))), (0, .ref (b + 58)), (1, .int (nI h)), (2, .int (nI k))] dX7_findGains_115 4 rfl (by rw [show Int32.ofInt 1 = nI 1 from rfl, nI_add]) (by decide) rfl ?_
                      refine g_goto hC 80 dX7_findGains_118 rfl ?_
                      exact g_sub [2, 3, 4, 1, 0] rfl (ih_5 (acc + (woN g.1 p h k)) (p + 1) (by omega) (⟨by omega, by rw [p2, Nat.add_assoc]; congr 1; show _ = sumN (gAk g.1 h k) p + gAk g.1 h k p; congr 1; unfold gAk; split <;> omega⟩))
              exact g_sub [2, 3, 4, 1, 0] rfl (lp_80_5 (g.1.1 7 0 - 0 + 1) (sumN (gAf g.1 h k) (g.1.1 7 0)) 0 (Nat.lt_succ_self _) (⟨by omega, rfl⟩))
        exact g_sub [1, 2, 0] rfl (lp_58_3 (5 - 0 + 1) (fm_up (fm_up (fm_up M1 69 ((8 * h) + 2) (Int32.ofInt (gA g.1 h 0))) 69 ((8 * h) + 1) (Int32.ofInt (gA g.1 h (-1)))) 69 (8 * h) (Int32.ofInt (gA g.1 h (-2)))) 0 (Nat.lt_succ_self _) (⟨by omega, fun q hq => by rw [fm_upn hq, fm_upn hq, fm_upn hq]; exact j2 q hq, ga_3, fun q hq => ga_keep (ga_keep (ga_keep (j3 q hq) (by omega) hq (by omega)) (by omega) hq (by omega)) (by omega) hq (by omega)⟩))
  exact g_sub [1, 0] rfl (lp_2_1 (24 - 0 + 1) M 0 (Nat.lt_succ_self _) (⟨by omega, fun q _ => rfl, fun q hq => by omega⟩))

theorem c_X7_gainOf (l : Launch) (D : va_G) (cA : Nat → ClassId) (b : Nat) (M : Nat → Nat → Int32) (L : Nat → Nat → Int64) (g : Sg) (rc : Nat) (row : Nat → Int) (hS : RS M L g) (hok : OK g) (hrc : LAY[rc]? = some (1, 24, [])) (hr : rowIs M rc row) (hrn : rc ≠ 69) : fm_Met l D cA b yX7_gainOf cX7_gainOf 4 (some .int) 3 72 0 0 [.ref (b + 58), .ref (b + rc)] LAY M L LAY (fm_pm (fun r M' L' => r = Int32.ofInt (gainS g.1 row) ∧ (∀ q, q ≠ 69 → M' q = M q) ∧ L' = L)) := by
  refine fm_start RX7 rfl (by decide) (Nat.le_of_ble_eq_true rfl) ?_
  intro pq eq sq mq aq bq tq cq hC hin
  obtain ⟨⟨n1, n2, n3, v0, v1, v2, v3, v4, v5, v6, v7, v8⟩, hS2⟩ := id hS
  obtain ⟨⟨o1, o2, o3, o4, o5, o6, o7, o8, o9, o10, o11⟩, hok2⟩ := id hok
  refine g_aload_n hC dX7_gainOf_0 rfl 0 rfl ?_
  refine g_callV hC (k := 58) (ci := 7) (as := []) (rest := []) (c_X7_findGains l D cA b M L g hS hok) ⟨fw_861, fw_863, fs_27, fw_9, fw_864⟩ ⟨rfl, hd_X7_findGains⟩ rfl ly_58 ⟨Nat.le_of_ble_eq_true rfl, Nat.le_of_ble_eq_true rfl⟩ ⟨Nat.le_of_ble_eq_true rfl, Nat.le_of_ble_eq_true rfl⟩ rfl rfl (Nat.le_of_ble_eq_true rfl) dX7_gainOf_1 (g_rv (fun M_1 L_1 h_1 => ?_))
  obtain ⟨f1, f2, f3⟩ := h_1
  refine g_iconst (v := 0) hC dX7_gainOf_4 rfl ?_
  refine g_istore_n hC [(2, .int 0), (0, .ref (b + 58)), (1, .ref (b + rc))] dX7_gainOf_5 rfl (by decide) rfl ?_
  refine g_iconst (v := 0) hC dX7_gainOf_6 rfl ?_
  refine g_istore_n hC [(3, .int 0), (2, .int 0), (0, .ref (b + 58)), (1, .ref (b + rc))] dX7_gainOf_7 rfl (by decide) rfl ?_
  have lp_8_2 : ∀ (n_2 : Nat) (h : Nat), 24 - h < n_2 → (h ≤ 24) → fm_G pq l eq (fm_rm 3 72 0 0) sq mq aq bq tq cq D cA b 4 (MQ bq (fm_Q D cA b LAY (fm_pm (fun r M' L' => r = Int32.ofInt (gainS g.1 row) ∧ (∀ q, q ≠ 69 → M' q = M q) ∧ L' = L))) aq sq 0 0 (fun q => b ≤ q)) LAY M_1 L_1 0 0 8 [(0, .ref (b + 58)), (1, .ref (b + rc)), (2, .int (Int32.ofInt (sumI (fun h => gA g.1 h (row h)) h))), (3, .int (nI h))] [] := by
    intro n_2
    induction n_2 with
    | zero => intro h hm_2; exact absurd hm_2 (Nat.not_lt_zero _)
    | succ n_2 ih_2 =>
      intro h hm_2 hinv_2
      have i1 := hinv_2
      have rr := hr h
      refine g_iload_n hC dX7_gainOf_8 rfl 3 rfl ?_
      refine g_bipush (v := 24) hC dX7_gainOf_9 rfl ?_
      refine g_icmp_ge_T (X := ((h : Nat) : Int)) (Y := 24) hC (nI_toInt (by omega)) rfl 39 dX7_gainOf_11 rfl (fun c_3 => ?_) (fun c_3 => ?_)
      · skip
        refine g_iload_n hC dX7_gainOf_39 rfl 2 rfl ?_
        refine g_zret (ty := .int) hC rfl rfl dX7_gainOf_40 ?_
        exact ⟨_, rfl, by unfold gainS; rw [show h = 24 by omega], f1, f2⟩
      · skip
        refine g_iload_n hC dX7_gainOf_14 rfl 2 rfl ?_
        refine g_aload_n hC dX7_gainOf_15 rfl 0 rfl ?_
        refine g_getR (ci := 7) (i := 23) (k := 58) (t := 69) hC fm_in7 rfl ly_58 rfl (by decide) fw_643 dX7_gainOf_16 ?_
        refine g_bipush (v := 8) hC dX7_gainOf_19 rfl ?_
        refine g_iload_n hC dX7_gainOf_21 rfl 3 rfl ?_
        refine g_imul hC dX7_gainOf_22 ?_
        refine g_top (y := nI (8 * h)) (pk_mul _ _) ?_
        refine g_aload_n hC dX7_gainOf_23 rfl 1 rfl ?_
        refine g_iload_n hC dX7_gainOf_24 rfl 3 rfl ?_
        refine g_ialdN (j := h) (k := rc) hC hrc rfl (by omega) (by decide) dX7_gainOf_25 ?_
        refine g_top (y := Int32.ofInt (row h)) (by rw [f1 rc hrn]; exact (hr h (by omega)).1) ?_
        refine g_iadd hC dX7_gainOf_26 ?_
        refine g_bipush (v := (-2)) hC dX7_gainOf_27 rfl ?_
        refine g_isub hC dX7_gainOf_29 ?_
        refine g_top (y := nI (8 * h + (row h + 2).toNat)) (ix_row (by omega)) ?_
        refine g_ialdN (j := 8 * h + (row h + 2).toNat) (k := 69) hC ly_69 rfl (by omega) (by decide) dX7_gainOf_30 ?_
        refine g_top (y := Int32.ofInt (gA g.1 h (row h))) (by rw [f3 h (by omega) _ (by omega)]; congr 2; omega) ?_
        refine g_iadd hC dX7_gainOf_31 ?_
        refine g_top (y := Int32.ofInt (sumI (fun h => gA g.1 h (row h)) (h + 1))) (oI_add _ _) ?_
        refine g_istore_n hC [(2, .int (Int32.ofInt (sumI (fun h => gA g.1 h (row h)) (h + 1)))), (0, .ref (b + 58)), (1, .ref (b + rc)), (3, .int (nI h))] dX7_gainOf_32 rfl (by decide) rfl ?_
        refine g_iinc hC [(3, .int (nI (h + 1))), (2, .int (Int32.ofInt (sumI (fun h => gA g.1 h (row h)) (h + 1)))), (0, .ref (b + 58)), (1, .ref (b + rc))] dX7_gainOf_33 3 rfl (by rw [show Int32.ofInt 1 = nI 1 from rfl, nI_add]) (by decide) rfl ?_
        refine g_goto hC 8 dX7_gainOf_36 rfl ?_
        exact g_sub [2, 3, 1, 0] rfl (ih_2 (h + 1) (by omega) (by omega))
  exact g_sub [2, 3, 1, 0] rfl (lp_8_2 (24 - 0 + 1) 0 (Nat.lt_succ_self _) (by omega))

theorem c_X7_areCaught (l : Launch) (D : va_G) (cA : Nat → ClassId) (b : Nat) (M : Nat → Nat → Int32) (L : Nat → Nat → Int64) (g : Sg) (hour : Nat) (x : Int32) (X : Int) (hS : RS M L g) (hok : OK g) (hh : hour ≤ 24) (hX : x.toInt = X) (hX2 : X ≤ 1000) : fm_Met l D cA b yX7_areCaught cX7_areCaught 5 (some .boolean) 0 0 0 0 [.ref (b + 58), .int (nI hour), .int x] LAY M L LAY (fm_pi (bi (X ≤ ((wtS g.1 hour : Nat) : Int))) M L) := by
  refine fm_start RX7 rfl (by decide) (Nat.le_of_ble_eq_true rfl) ?_
  intro pq eq sq mq aq bq tq cq hC hin
  obtain ⟨⟨n1, n2, n3, v0, v1, v2, v3, v4, v5, v6, v7, v8⟩, hS2⟩ := id hS
  obtain ⟨⟨o1, o2, o3, o4, o5, o6, o7, o8, o9, o10, o11⟩, hok2⟩ := id hok
  refine g_iconst (v := 1) hC dX7_areCaught_0 rfl ?_
  refine g_top (y := bi (X ≤ ((wtF g.1 hour 0 : Nat) : Int))) (bi_1 (by simp only [wtF]; omega)) ?_
  refine g_istore_n hC [(3, .int (bi (X ≤ ((wtF g.1 hour 0 : Nat) : Int)))), (0, .ref (b + 58)), (1, .int (nI hour)), (2, .int x)] dX7_areCaught_1 rfl (by decide) rfl ?_
  refine g_iconst (v := 0) hC dX7_areCaught_2 rfl ?_
  refine g_istore hC [(4, .int 0), (3, .int (bi (X ≤ ((wtF g.1 hour 0 : Nat) : Int)))), (0, .ref (b + 58)), (1, .int (nI hour)), (2, .int x)] dX7_areCaught_3 (by decide) rfl ?_
  have lp_5_1 : ∀ (n_1 : Nat) (i : Nat), g.1.1 7 1 - i < n_1 → (i ≤ g.1.1 7 1) → fm_G pq l eq (fm_rm 0 0 0 0) sq mq aq bq tq cq D cA b 5 (MQ bq (fm_Q D cA b LAY (fm_pi (bi (X ≤ ((wtS g.1 hour : Nat) : Int))) M L)) aq sq 0 0 (fun q => b ≤ q)) LAY M L 0 0 5 [(0, .ref (b + 58)), (1, .int (nI hour)), (2, .int x), (3, .int (bi (X ≤ ((wtF g.1 hour i : Nat) : Int)))), (4, .int (nI i))] [] := by
    intro n_1
    induction n_1 with
    | zero => intro i hm_1; exact absurd hm_1 (Nat.not_lt_zero _)
    | succ n_1 ih_1 =>
      intro i hm_1 hinv_1
      have i1 := hinv_1
      have oo := o2 i
      refine g_iload hC dX7_areCaught_5 4 rfl ?_
      refine g_aload_n hC dX7_areCaught_7 rfl 0 rfl ?_
      refine g_getI (ci := 7) (i := 7) (k := 58) hC fm_in7 rfl ly_58 rfl (by decide) fw_627 dX7_areCaught_8 ?_
      refine g_top (y := nI (g.1.1 7 1)) v1 ?_
      refine g_icmp_ge_T (X := ((i : Nat) : Int)) (Y := ((g.1.1 7 1 : Nat) : Int)) hC (nI_toInt (by omega)) (nI_toInt (by omega)) 52 dX7_areCaught_11 rfl (fun c_2 => ?_) (fun c_2 => ?_)
      · skip
        refine g_iload_n hC dX7_areCaught_52 rfl 3 rfl ?_
        refine g_zret (ty := .boolean) hC rfl bi_nar dX7_areCaught_53 ⟨congrArg (fun z => some (Value.int z)) ?_, rfl, rfl⟩
        unfold wtS
        rw [show i = g.1.1 7 1 by omega]
      · skip
        refine g_iload_n hC dX7_areCaught_14 rfl 3 rfl ?_
        refine g_ifb_eq hC 44 dX7_areCaught_15 rfl (fun c_3 => ?_) (fun c_3 => ?_)
        · skip
          refine g_iconst (v := 0) hC dX7_areCaught_44 rfl ?_
          refine g_top (y := bi (X ≤ ((wtF g.1 hour (i + 1) : Nat) : Int))) (bi_0 (by simp only [wtF]; split <;> omega)) ?_
          refine g_istore_n hC [(3, .int (bi (X ≤ ((wtF g.1 hour (i + 1) : Nat) : Int)))), (0, .ref (b + 58)), (1, .int (nI hour)), (2, .int x), (4, .int (nI i))] dX7_areCaught_45 rfl (by decide) rfl ?_
          refine g_iinc hC [(4, .int (nI (i + 1))), (3, .int (bi (X ≤ ((wtF g.1 hour (i + 1) : Nat) : Int)))), (0, .ref (b + 58)), (1, .int (nI hour)), (2, .int x)] dX7_areCaught_46 4 rfl (by rw [show Int32.ofInt 1 = nI 1 from rfl, nI_add]) (by decide) rfl ?_
          refine g_goto hC 5 dX7_areCaught_49 rfl ?_
          exact g_sub [2, 3, 4, 1, 0] rfl (ih_1 (i + 1) (by omega) (by omega))
        · skip
          refine g_aload_n hC dX7_areCaught_18 rfl 0 rfl ?_
          refine g_getR (ci := 7) (i := 5) (k := 58) (t := 63) hC fm_in7 rfl ly_58 rfl (by decide) fw_625 dX7_areCaught_19 ?_
          refine g_iload hC dX7_areCaught_22 4 rfl ?_
          refine g_ialdN (j := i) (k := 63) hC ly_63 rfl (by omega) (by decide) dX7_areCaught_24 ?_
          refine g_top (y := nI (g.1.1 4 i)) ((n2 i (by omega)).1) ?_
          refine g_iload_n hC dX7_areCaught_25 rfl 1 rfl ?_
          refine g_icmp_ne_T (X := ((g.1.1 4 i : Nat) : Int)) (Y := ((hour : Nat) : Int)) hC (nI_toInt (by omega)) (nI_toInt (by omega)) 40 dX7_areCaught_26 rfl (fun c_4 => ?_) (fun c_4 => ?_)
          · skip
            refine g_iconst (v := 1) hC dX7_areCaught_40 rfl ?_
            refine g_goto hC 45 dX7_areCaught_41 rfl ?_
            refine g_top (y := bi (X ≤ ((wtF g.1 hour (i + 1) : Nat) : Int))) (bi_1 (by simp only [wtF]; split <;> omega)) ?_
            refine g_istore_n hC [(3, .int (bi (X ≤ ((wtF g.1 hour (i + 1) : Nat) : Int)))), (0, .ref (b + 58)), (1, .int (nI hour)), (2, .int x), (4, .int (nI i))] dX7_areCaught_45 rfl (by decide) rfl ?_
            refine g_iinc hC [(4, .int (nI (i + 1))), (3, .int (bi (X ≤ ((wtF g.1 hour (i + 1) : Nat) : Int)))), (0, .ref (b + 58)), (1, .int (nI hour)), (2, .int x)] dX7_areCaught_46 4 rfl (by rw [show Int32.ofInt 1 = nI 1 from rfl, nI_add]) (by decide) rfl ?_
            refine g_goto hC 5 dX7_areCaught_49 rfl ?_
            exact g_sub [2, 3, 4, 1, 0] rfl (ih_1 (i + 1) (by omega) (by omega))
          · skip
            refine g_iload_n hC dX7_areCaught_29 rfl 2 rfl ?_
            refine g_aload_n hC dX7_areCaught_30 rfl 0 rfl ?_
            refine g_getR (ci := 7) (i := 6) (k := 58) (t := 64) hC fm_in7 rfl ly_58 rfl (by decide) fw_626 dX7_areCaught_31 ?_
            refine g_iload hC dX7_areCaught_34 4 rfl ?_
            refine g_ialdN (j := i) (k := 64) hC ly_64 rfl (by omega) (by decide) dX7_areCaught_36 ?_
            refine g_top (y := nI (g.1.1 5 i)) ((n2 i (by omega)).2) ?_
            refine g_icmp_gt_T (X := X) (Y := ((g.1.1 5 i : Nat) : Int)) hC hX (nI_toInt (by omega)) 44 dX7_areCaught_37 rfl (fun c_5 => ?_) (fun c_5 => ?_)
            · skip
              refine g_iconst (v := 0) hC dX7_areCaught_44 rfl ?_
              refine g_top (y := bi (X ≤ ((wtF g.1 hour (i + 1) : Nat) : Int))) (bi_0 (by simp only [wtF]; split <;> omega)) ?_
              refine g_istore_n hC [(3, .int (bi (X ≤ ((wtF g.1 hour (i + 1) : Nat) : Int)))), (0, .ref (b + 58)), (1, .int (nI hour)), (2, .int x), (4, .int (nI i))] dX7_areCaught_45 rfl (by decide) rfl ?_
              refine g_iinc hC [(4, .int (nI (i + 1))), (3, .int (bi (X ≤ ((wtF g.1 hour (i + 1) : Nat) : Int)))), (0, .ref (b + 58)), (1, .int (nI hour)), (2, .int x)] dX7_areCaught_46 4 rfl (by rw [show Int32.ofInt 1 = nI 1 from rfl, nI_add]) (by decide) rfl ?_
              refine g_goto hC 5 dX7_areCaught_49 rfl ?_
              exact g_sub [2, 3, 4, 1, 0] rfl (ih_1 (i + 1) (by omega) (by omega))
            · skip
              refine g_iconst (v := 1) hC dX7_areCaught_40 rfl ?_
              refine g_goto hC 45 dX7_areCaught_41 rfl ?_
              refine g_top (y := bi (X ≤ ((wtF g.1 hour (i + 1) : Nat) : Int))) (bi_1 (by simp only [wtF]; split <;> omega)) ?_
              refine g_istore_n hC [(3, .int (bi (X ≤ ((wtF g.1 hour (i + 1) : Nat) : Int)))), (0, .ref (b + 58)), (1, .int (nI hour)), (2, .int x), (4, .int (nI i))] dX7_areCaught_45 rfl (by decide) rfl ?_
              refine g_iinc hC [(4, .int (nI (i + 1))), (3, .int (bi (X ≤ ((wtF g.1 hour (i + 1) : Nat) : Int)))), (0, .ref (b + 58)), (1, .int (nI hour)), (2, .int x)] dX7_areCaught_46 4 rfl (by rw [show Int32.ofInt 1 = nI 1 from rfl, nI_add]) (by decide) rfl ?_
              refine g_goto hC 5 dX7_areCaught_49 rfl ?_
              exact g_sub [2, 3, 4, 1, 0] rfl (ih_1 (i + 1) (by omega) (by omega))
  exact g_sub [2, 3, 4, 1, 0] rfl (lp_5_1 (g.1.1 7 1 - 0 + 1) 0 (Nat.lt_succ_self _) (by omega))

theorem c_X7_wrongOf (l : Launch) (D : va_G) (cA : Nat → ClassId) (b : Nat) (M : Nat → Nat → Int32) (L : Nat → Nat → Int64) (g : Sg) (rc : Nat) (row : Nat → Int) (hS : RS M L g) (hok : OK g) (hrc : LAY[rc]? = some (1, 24, [])) (hr : rowIs M rc row) : fm_Met l D cA b yX7_wrongOf cX7_wrongOf 3 (some .int) 1 25 0 0 [.ref (b + 58), .ref (b + rc)] LAY M L LAY (fm_pi (wrongS g.1 row) M L) := by
  refine fm_start RX7 rfl (by decide) (Nat.le_of_ble_eq_true rfl) ?_
  intro pq eq sq mq aq bq tq cq hC hin
  obtain ⟨⟨n1, n2, n3, v0, v1, v2, v3, v4, v5, v6, v7, v8⟩, hS2⟩ := id hS
  obtain ⟨⟨o1, o2, o3, o4, o5, o6, o7, o8, o9, o10, o11⟩, hok2⟩ := id hok
  refine g_iconst (v := 0) hC dX7_wrongOf_0 rfl ?_
  refine g_istore_n hC [(2, .int 0), (0, .ref (b + 58)), (1, .ref (b + rc))] dX7_wrongOf_1 rfl (by decide) rfl ?_
  have lp_2_1 : ∀ (n_1 : Nat) (h : Nat), 24 - h < n_1 → (h ≤ 24 ∧ wrU g.1 row h = none ∧ lateS row h ≤ (g.1.1 7 2 : Int)) → fm_G pq l eq (fm_rm 1 25 0 0) sq mq aq bq tq cq D cA b 3 (MQ bq (fm_Q D cA b LAY (fm_pi (wrongS g.1 row) M L)) aq sq 0 0 (fun q => b ≤ q)) LAY M L 0 0 2 [(0, .ref (b + 58)), (1, .ref (b + rc)), (2, .int (nI h))] [] := by
    intro n_1
    induction n_1 with
    | zero => intro h hm_1; exact absurd hm_1 (Nat.not_lt_zero _)
    | succ n_1 ih_1 =>
      intro h hm_1 hinv_1
      obtain ⟨w1, w2, w3⟩ := hinv_1
      have lb := late_b (row_b hr) h (by omega)
      have wm := wtS_ml hok.1 h
      refine g_iload_n hC dX7_wrongOf_2 rfl 2 rfl ?_
      refine g_bipush (v := 24) hC dX7_wrongOf_3 rfl ?_
      refine g_icmp_ge_T (X := ((h : Nat) : Int)) (Y := 24) hC (nI_toInt (by omega)) rfl 49 dX7_wrongOf_5 rfl (fun c_2 => ?_) (fun c_2 => ?_)
      · skip
        refine g_bipush (v := (-4)) hC dX7_wrongOf_49 rfl ?_
        refine g_zret (ty := .int) hC rfl rfl dX7_wrongOf_51 ⟨congrArg (fun z => some (Value.int z)) ?_, rfl, rfl⟩
        show (-4 : Int32) = wrongS g.1 row
        have e24 : h = 24 := by omega
        subst e24
        unfold wrongS
        rw [w2]
      · skip
        refine g_aload_n hC dX7_wrongOf_8 rfl 0 rfl ?_
        refine g_iload_n hC dX7_wrongOf_9 rfl 2 rfl ?_
        refine g_aload_n hC dX7_wrongOf_10 rfl 1 rfl ?_
        refine g_iload_n hC dX7_wrongOf_11 rfl 2 rfl ?_
        refine g_callS hC (as := [.ref (b + rc), .int (nI h)]) (rest := [.int (nI h), .ref (b + 58)]) (c_X7_lateBy l D cA b M L rc row h hrc hr (by omega)) ⟨fw_850, fw_851, fw_9, fw_852⟩ hd_X7_lateBy ⟨Nat.le_of_ble_eq_true rfl, Nat.le_of_ble_eq_true rfl⟩ ⟨Nat.le_of_ble_eq_true rfl, Nat.le_of_ble_eq_true rfl⟩ rfl rfl (Nat.le_of_ble_eq_true rfl) dX7_wrongOf_12 (g_rix ?_)
        refine g_callV hC (k := 58) (ci := 7) (as := [.int (nI h), .int (Int32.ofInt (lateS row h))]) (rest := []) (c_X7_areCaught l D cA b M L g h (Int32.ofInt (lateS row h)) (lateS row h) hS hok (by omega) (oI_t (by omega) (by omega)) (by omega)) ⟨fw_873, fw_875, fs_29, fw_9, fw_876⟩ ⟨rfl, hd_X7_areCaught⟩ rfl ly_58 ⟨Nat.le_of_ble_eq_true rfl, Nat.le_of_ble_eq_true rfl⟩ ⟨Nat.le_of_ble_eq_true rfl, Nat.le_of_ble_eq_true rfl⟩ rfl rfl (Nat.le_of_ble_eq_true rfl) dX7_wrongOf_15 (g_rix ?_)
        refine g_ifb_eq hC 41 dX7_wrongOf_18 rfl (fun c_5 => ?_) (fun c_5 => ?_)
        · skip
          refine g_iload_n hC dX7_wrongOf_41 rfl 2 rfl ?_
          refine g_zret (ty := .int) hC rfl rfl dX7_wrongOf_42 ⟨congrArg (fun z => some (Value.int z)) ?_, rfl, rfl⟩
          have hb : badS g.1 row h := by unfold badS; omega
          unfold wrongS
          rw [wrU_hit w2 hb (by omega)]
        · skip
          refine g_aload_n hC dX7_wrongOf_21 rfl 1 rfl ?_
          refine g_iload_n hC dX7_wrongOf_22 rfl 2 rfl ?_
          refine g_iconst (v := 1) hC dX7_wrongOf_23 rfl ?_
          refine g_iadd hC dX7_wrongOf_24 ?_
          refine g_top (y := nI (h + 1)) (nI_add _ _) ?_
          refine g_callS hC (as := [.ref (b + rc), .int (nI (h + 1))]) (rest := []) (c_X7_lateBy l D cA b M L rc row (h + 1) hrc hr (by omega)) ⟨fw_850, fw_851, fw_9, fw_852⟩ hd_X7_lateBy ⟨Nat.le_of_ble_eq_true rfl, Nat.le_of_ble_eq_true rfl⟩ ⟨Nat.le_of_ble_eq_true rfl, Nat.le_of_ble_eq_true rfl⟩ rfl rfl (Nat.le_of_ble_eq_true rfl) dX7_wrongOf_25 (g_rix ?_)
          have lb2 := late_b (row_b hr) (h + 1) (by omega)
          refine g_i2l (v := (Int32.ofInt (lateS row (h + 1))).toInt64) hC dX7_wrongOf_28 rfl ?_
          refine g_lconst (v := 0) hC dX7_wrongOf_29 rfl ?_
          refine g_aload_n hC dX7_wrongOf_30 rfl 0 rfl ?_
          refine g_getI (ci := 7) (i := 10) (k := 58) hC fm_in7 rfl ly_58 rfl (by decide) fw_630 dX7_wrongOf_31 ?_
          refine g_top (y := nI (g.1.1 7 2)) v2 ?_
          refine g_i2l (v := (nI (g.1.1 7 2)).toInt64) hC dX7_wrongOf_34 rfl ?_
          refine g_callS hC (as := [.long ((Int32.ofInt (lateS row (h + 1))).toInt64), .long 0, .long ((nI (g.1.1 7 2)).toInt64)]) (rest := []) (c_X7_in l D cA b LAY M L ((Int32.ofInt (lateS row (h + 1))).toInt64) 0 ((nI (g.1.1 7 2)).toInt64) (lateS row (h + 1)) 0 ((g.1.1 7 2 : Nat) : Int) ((ic_w _).trans (oI_t (by omega) (by omega))) rfl ((ic_w _).trans (nI_toInt (by omega)))) ⟨fw_725, fw_726, fw_9, fw_727⟩ hd_X7_in ⟨Nat.le_of_ble_eq_true rfl, Nat.le_of_ble_eq_true rfl⟩ ⟨Nat.le_of_ble_eq_true rfl, Nat.le_of_ble_eq_true rfl⟩ rfl rfl (Nat.le_of_ble_eq_true rfl) dX7_wrongOf_35 (g_rix ?_)
          refine g_ifb_ne hC 43 dX7_wrongOf_38 rfl (fun c_8 => ?_) (fun c_8 => ?_)
          · skip
            refine g_iinc hC [(2, .int (nI (h + 1))), (0, .ref (b + 58)), (1, .ref (b + rc))] dX7_wrongOf_43 2 rfl (by rw [show Int32.ofInt 1 = nI 1 from rfl, nI_add]) (by decide) rfl ?_
            refine g_goto hC 2 dX7_wrongOf_46 rfl ?_
            exact g_sub [1, 2, 0] rfl (ih_1 (h + 1) (by omega) (⟨by omega, wrU_miss w2 (by unfold badS; omega), by omega⟩))
          · skip
            refine g_iload_n hC dX7_wrongOf_41 rfl 2 rfl ?_
            refine g_zret (ty := .int) hC rfl rfl dX7_wrongOf_42 ⟨congrArg (fun z => some (Value.int z)) ?_, rfl, rfl⟩
            have hb : badS g.1 row h := by unfold badS; omega
            unfold wrongS
            rw [wrU_hit w2 hb (by omega)]
  exact g_sub [1, 2, 0] rfl (lp_2_1 (24 - 0 + 1) 0 (Nat.lt_succ_self _) (⟨by omega, rfl, by simp [lateS]⟩))

theorem c_X7_missed (l : Launch) (D : va_G) (cA : Nat → ClassId) (b : Nat) (M : Nat → Nat → Int32) (L : Nat → Nat → Int64) (g : Sg) (hS : RS M L g) (hok : OK g) : fm_Met l D cA b yX7_missed cX7_missed 3 (some .int) 1 23 0 0 [.ref (b + 58)] LAY M L LAY (fm_pi (op_missed g) M L) := by
  refine fm_start RX7 rfl (by decide) (Nat.le_of_ble_eq_true rfl) ?_
  intro pq eq sq mq aq bq tq cq hC hin
  obtain ⟨⟨n1, n2, n3, v0, v1, v2, v3, v4, v5, v6, v7, v8⟩, hS2⟩ := id hS
  obtain ⟨⟨o1, o2, o3, o4, o5, o6, o7, o8, o9, o10, o11⟩, hok2⟩ := id hok
  have hpl : rowIs M 66 g.1.2.1 := fun h hh => ⟨(n3 h hh).2, (o3 h hh).2⟩
  refine g_iconst (v := 0) hC dX7_missed_0 rfl ?_
  refine g_istore_n hC [(1, .int 0), (0, .ref (b + 58))] dX7_missed_1 rfl (by decide) rfl ?_
  refine g_iconst (v := 0) hC dX7_missed_2 rfl ?_
  refine g_istore_n hC [(2, .int 0), (1, .int 0), (0, .ref (b + 58))] dX7_missed_3 rfl (by decide) rfl ?_
  have lp_4_1 : ∀ (n_1 : Nat) (i : Nat), g.1.1 7 1 - i < n_1 → (i ≤ g.1.1 7 1) → fm_G pq l eq (fm_rm 1 23 0 0) sq mq aq bq tq cq D cA b 3 (MQ bq (fm_Q D cA b LAY (fm_pi (op_missed g) M L)) aq sq 0 0 (fun q => b ≤ q)) LAY M L 0 0 4 [(0, .ref (b + 58)), (1, .int (msF g.1 g.1.2.1 i)), (2, .int (nI i))] [] := by
    intro n_1
    induction n_1 with
    | zero => intro i hm_1; exact absurd hm_1 (Nat.not_lt_zero _)
    | succ n_1 ih_1 =>
      intro i hm_1 hinv_1
      have i1 := hinv_1
      have oo := o2 i
      refine g_iload_n hC dX7_missed_4 rfl 2 rfl ?_
      refine g_aload_n hC dX7_missed_5 rfl 0 rfl ?_
      refine g_getI (ci := 7) (i := 7) (k := 58) hC fm_in7 rfl ly_58 rfl (by decide) fw_627 dX7_missed_6 ?_
      refine g_top (y := nI (g.1.1 7 1)) v1 ?_
      refine g_icmp_ge_T (X := ((i : Nat) : Int)) (Y := ((g.1.1 7 1 : Nat) : Int)) hC (nI_toInt (by omega)) (nI_toInt (by omega)) 50 dX7_missed_9 rfl (fun c_2 => ?_) (fun c_2 => ?_)
      · skip
        refine g_iload_n hC dX7_missed_50 rfl 1 rfl ?_
        refine g_zret (ty := .int) hC rfl rfl dX7_missed_51 ⟨congrArg (fun z => some (Value.int z)) ?_, rfl, rfl⟩
        unfold op_missed
        rw [show i = g.1.1 7 1 by omega]
      · skip
        refine g_iload_n hC dX7_missed_12 rfl 1 rfl ?_
        refine g_aload_n hC dX7_missed_13 rfl 0 rfl ?_
        refine g_getR (ci := 7) (i := 9) (k := 58) (t := 66) hC fm_in7 rfl ly_58 rfl (by decide) fw_629 dX7_missed_14 ?_
        refine g_aload_n hC dX7_missed_17 rfl 0 rfl ?_
        refine g_getR (ci := 7) (i := 5) (k := 58) (t := 63) hC fm_in7 rfl ly_58 rfl (by decide) fw_625 dX7_missed_18 ?_
        refine g_iload_n hC dX7_missed_21 rfl 2 rfl ?_
        refine g_ialdN (j := i) (k := 63) hC ly_63 rfl (by omega) (by decide) dX7_missed_22 ?_
        refine g_top (y := nI (g.1.1 4 i)) ((n2 i (by omega)).1) ?_
        refine g_callS hC (as := [.ref (b + 66), .int (nI (g.1.1 4 i))]) (rest := [.int (msF g.1 g.1.2.1 i)]) (c_X7_lateBy l D cA b M L 66 g.1.2.1 (g.1.1 4 i) ly_66 hpl (by omega)) ⟨fw_850, fw_851, fw_9, fw_852⟩ hd_X7_lateBy ⟨Nat.le_of_ble_eq_true rfl, Nat.le_of_ble_eq_true rfl⟩ ⟨Nat.le_of_ble_eq_true rfl, Nat.le_of_ble_eq_true rfl⟩ rfl rfl (Nat.le_of_ble_eq_true rfl) dX7_missed_23 (g_rix ?_)
        have lb := late_b (row_b hpl) (g.1.1 4 i) (by omega)
        refine g_aload_n hC dX7_missed_26 rfl 0 rfl ?_
        refine g_getR (ci := 7) (i := 6) (k := 58) (t := 64) hC fm_in7 rfl ly_58 rfl (by decide) fw_626 dX7_missed_27 ?_
        refine g_iload_n hC dX7_missed_30 rfl 2 rfl ?_
        refine g_ialdN (j := i) (k := 64) hC ly_64 rfl (by omega) (by decide) dX7_missed_31 ?_
        refine g_top (y := nI (g.1.1 5 i)) ((n2 i (by omega)).2) ?_
        refine g_icmp_le_T (X := lateS g.1.2.1 (g.1.1 4 i)) (Y := ((g.1.1 5 i : Nat) : Int)) hC (oI_t (by omega) (by omega)) (nI_toInt (by omega)) 41 dX7_missed_32 rfl (fun c_4 => ?_) (fun c_4 => ?_)
        · skip
          refine g_iconst (v := 0) hC dX7_missed_41 rfl ?_
          refine g_ior hC dX7_missed_42 ?_
          refine g_top (y := msF g.1 g.1.2.1 (i + 1)) (by simp only [msF]; rw [if_neg (by omega)]; exact Int32.or_zero) ?_
          refine g_istore_n hC [(1, .int (msF g.1 g.1.2.1 (i + 1))), (0, .ref (b + 58)), (2, .int (nI i))] dX7_missed_43 rfl (by decide) rfl ?_
          refine g_iinc hC [(2, .int (nI (i + 1))), (1, .int (msF g.1 g.1.2.1 (i + 1))), (0, .ref (b + 58))] dX7_missed_44 2 rfl (by rw [show Int32.ofInt 1 = nI 1 from rfl, nI_add]) (by decide) rfl ?_
          refine g_goto hC 4 dX7_missed_47 rfl ?_
          exact g_sub [2, 1, 0] rfl (ih_1 (i + 1) (by omega) (by omega))
        · skip
          refine g_iconst (v := 1) hC dX7_missed_35 rfl ?_
          refine g_iload_n hC dX7_missed_36 rfl 2 rfl ?_
          refine g_ishl hC dX7_missed_37 ?_
          refine g_goto hC 42 dX7_missed_38 rfl ?_
          refine g_ior hC dX7_missed_42 ?_
          refine g_top (y := msF g.1 g.1.2.1 (i + 1)) (by simp only [msF]; rw [if_pos (by omega)]) ?_
          refine g_istore_n hC [(1, .int (msF g.1 g.1.2.1 (i + 1))), (0, .ref (b + 58)), (2, .int (nI i))] dX7_missed_43 rfl (by decide) rfl ?_
          refine g_iinc hC [(2, .int (nI (i + 1))), (1, .int (msF g.1 g.1.2.1 (i + 1))), (0, .ref (b + 58))] dX7_missed_44 2 rfl (by rw [show Int32.ofInt 1 = nI 1 from rfl, nI_add]) (by decide) rfl ?_
          refine g_goto hC 4 dX7_missed_47 rfl ?_
          exact g_sub [2, 1, 0] rfl (ih_1 (i + 1) (by omega) (by omega))
  exact g_sub [2, 1, 0] rfl (lp_4_1 (g.1.1 7 1 - 0 + 1) 0 (Nat.lt_succ_self _) (by omega))

theorem c_X7_dayBy (l : Launch) (D : va_G) (cA : Nat → ClassId) (b : Nat) (M : Nat → Nat → Int32) (L : Nat → Nat → Int64) (g : Sg) (rc : Nat) (row : Nat → Int) (hS : RS M L g) (hok : OK g) (hrc : LAY[rc]? = some (1, 24, [])) (hr : rowIs M rc row) (hl : 0 ≤ lateS row 24 ∧ lateS row 24 ≤ (g.1.1 7 2 : Int)) (hd : g.1.1 7 6 < 9999) (hrn : rc ≠ 69) : fm_Met l D cA b yX7_dayBy cX7_dayBy 3 (some .int) 4 95 0 0 [.ref (b + 58), .ref (b + rc)] LAY M L LAY (fm_pm (fun r M' L' => r = Int32.ofInt (gainS g.1 row) ∧ RS M' L' (dayT g.1 row, g.2) ∧ fR M M' L L')) := by
  refine fm_start RX7 rfl (by decide) (Nat.le_of_ble_eq_true rfl) ?_
  intro pq eq sq mq aq bq tq cq hC hin
  obtain ⟨⟨n1, n2, n3, v0, v1, v2, v3, v4, v5, v6, v7, v8⟩, hS2⟩ := id hS
  obtain ⟨⟨o1, o2, o3, o4, o5, o6, o7, o8, o9, o10, o11⟩, hok2⟩ := id hok
  refine g_aload_n hC dX7_dayBy_0 rfl 0 rfl ?_
  refine g_aload_n hC dX7_dayBy_1 rfl 1 rfl ?_
  refine g_callV hC (k := 58) (ci := 7) (as := [.ref (b + rc)]) (rest := []) (c_X7_gainOf l D cA b M L g rc row hS hok hrc hr hrn) ⟨fw_857, fw_859, fs_26, fw_9, fw_860⟩ ⟨rfl, hd_X7_gainOf⟩ rfl ly_58 ⟨Nat.le_of_ble_eq_true rfl, Nat.le_of_ble_eq_true rfl⟩ ⟨Nat.le_of_ble_eq_true rfl, Nat.le_of_ble_eq_true rfl⟩ rfl rfl (Nat.le_of_ble_eq_true rfl) dX7_dayBy_2 (g_rm (fun r_1 M_1 L_1 h_1 => ?_))
  obtain ⟨q1, f1, f2⟩ := h_1
  rw [q1]
  have hS_1 : RS M_1 L_1 g := RS_scr hS (fun q a1 a2 a3 => f1 q (by omega)) (by rw [f2])
  obtain ⟨⟨n1, n2, n3, v0, v1, v2, v3, v4, v5, v6, v7, v8⟩, hS2⟩ := id hS_1
  refine g_istore_n hC [(2, .int (Int32.ofInt (gainS g.1 row))), (0, .ref (b + 58)), (1, .ref (b + rc))] dX7_dayBy_5 rfl (by decide) rfl ?_
  refine g_aload_n hC dX7_dayBy_6 rfl 1 rfl ?_
  refine g_dup hC dX7_dayBy_7 rfl ?_
  refine g_getI (ci := 7) (i := 10) (k := 58) hC fm_in7 rfl ly_58 rfl (by decide) fw_630 dX7_dayBy_8 ?_
  refine g_top (y := nI (g.1.1 7 2)) v2 ?_
  refine g_aload_n hC dX7_dayBy_11 rfl 2 rfl ?_
  refine g_bipush (v := 24) hC dX7_dayBy_12 rfl ?_
  refine g_callS hC (as := [.ref (b + rc), .int 24]) (rest := [.int (nI (g.1.1 7 2)), .ref (b + 58)]) (c_X7_lateBy l D cA b M_1 L_1 rc row 24 hrc (fun h hh => by rw [f1 rc hrn]; exact hr h hh) (by omega)) ⟨fw_850, fw_851, fw_9, fw_852⟩ hd_X7_lateBy ⟨Nat.le_of_ble_eq_true rfl, Nat.le_of_ble_eq_true rfl⟩ ⟨Nat.le_of_ble_eq_true rfl, Nat.le_of_ble_eq_true rfl⟩ rfl rfl (Nat.le_of_ble_eq_true rfl) dX7_dayBy_14 (g_rix ?_)
  refine g_isub hC dX7_dayBy_17 ?_
  refine g_top (y := nI (g.1.1 7 2 - (lateS row 24).toNat)) (jar_sub hl.1 hl.2) ?_
  refine g_putI (ci := 7) (i := 10) (k := 58) hC fm_in7 tyX7 tyX7_ok nmX7 rfl ly_58 rfl (by decide) fw_630 rfl rfl rfl dX7_dayBy_18 ?_
  refine g_aload_n hC dX7_dayBy_21 rfl 1 rfl ?_
  refine g_dup hC dX7_dayBy_22 rfl ?_
  refine g_getI (ci := 7) (i := 15) (k := 58) hC fm_in7 rfl ly_58 rfl (by decide) fw_635 dX7_dayBy_23 ?_
  refine g_top (y := g.1.2.2) ((by simp [fm_up, fm_row, upd] : (fm_up M_1 58 10 (nI (g.1.1 7 2 - (lateS row 24).toNat))) 58 15 = M_1 58 15).trans v7) ?_
  refine g_iload_n hC dX7_dayBy_26 rfl 0 rfl ?_
  refine g_iadd hC dX7_dayBy_27 ?_
  refine g_putI (ci := 7) (i := 15) (k := 58) hC fm_in7 tyX7 tyX7_ok nmX7 rfl ly_58 rfl (by decide) fw_635 rfl rfl rfl dX7_dayBy_28 ?_
  refine g_aload_n hC dX7_dayBy_31 rfl 1 rfl ?_
  refine g_dup hC dX7_dayBy_32 rfl ?_
  refine g_getI (ci := 7) (i := 14) (k := 58) hC fm_in7 rfl ly_58 rfl (by decide) fw_634 dX7_dayBy_33 ?_
  refine g_top (y := nI (g.1.1 7 6)) ((by simp [fm_up, fm_row, upd] : (fm_up (fm_up M_1 58 10 (nI (g.1.1 7 2 - (lateS row 24).toNat))) 58 15 (g.1.2.2 + (Int32.ofInt (gainS g.1 row)))) 58 14 = M_1 58 14).trans v6) ?_
  refine g_iconst (v := 1) hC dX7_dayBy_36 rfl ?_
  refine g_iadd hC dX7_dayBy_37 ?_
  refine g_top (y := nI ((g.1.1 7 6) + 1)) (nI_add _ _) ?_
  refine g_putI (ci := 7) (i := 14) (k := 58) hC fm_in7 tyX7 tyX7_ok nmX7 rfl ly_58 rfl (by decide) fw_634 rfl rfl rfl dX7_dayBy_38 ?_
  refine g_aload_n hC dX7_dayBy_41 rfl 1 rfl ?_
  refine g_getI (ci := 7) (i := 11) (k := 58) hC fm_in7 rfl ly_58 rfl (by decide) fw_631 dX7_dayBy_42 ?_
  refine g_top (y := nI (g.1.1 7 3)) ((by simp [fm_up, fm_row, upd] : (fm_up (fm_up (fm_up M_1 58 10 (nI (g.1.1 7 2 - (lateS row 24).toNat))) 58 15 (g.1.2.2 + (Int32.ofInt (gainS g.1 row)))) 58 14 (nI ((g.1.1 7 6) + 1))) 58 11 = M_1 58 11).trans v3) ?_
  refine g_if_le_T (X := ((g.1.1 7 3 : Nat) : Int)) hC (nI_toInt (by omega)) 81 dX7_dayBy_45 rfl (fun c_3 => ?_) (fun c_3 => ?_)
  · skip
    refine g_aload_n hC dX7_dayBy_81 rfl 1 rfl ?_
    refine g_getI (ci := 7) (i := 12) (k := 58) hC fm_in7 rfl ly_58 rfl (by decide) fw_632 dX7_dayBy_82 ?_
    refine g_top (y := nI (g.1.1 7 4)) ((by simp [fm_up, fm_row, upd] : (fm_up (fm_up (fm_up M_1 58 10 (nI (g.1.1 7 2 - (lateS row 24).toNat))) 58 15 (g.1.2.2 + (Int32.ofInt (gainS g.1 row)))) 58 14 (nI ((g.1.1 7 6) + 1))) 58 12 = M_1 58 12).trans v4) ?_
    refine g_if_le_T (X := ((g.1.1 7 4 : Nat) : Int)) hC (nI_toInt (by omega)) 132 dX7_dayBy_85 rfl (fun c_4 => ?_) (fun c_4 => ?_)
    · skip
      refine g_iload_n hC dX7_dayBy_132 rfl 0 rfl ?_
      refine g_zret (ty := .int) hC rfl rfl dX7_dayBy_133 ?_
      refine ⟨_, rfl, rfl, ?_, fun k k1 => ⟨by simp [fm_up, fm_row, show k ≠ 58 by omega]; exact f1 k (by omega), by rw [f2]⟩⟩
      refine RS_now hS (t := dayT g.1 row) (tR_day (M := M) hS.1 (M' := fm_up (fm_up (fm_up M_1 58 10 (nI (g.1.1 7 2 - (lateS row 24).toNat))) 58 15 (g.1.2.2 + (Int32.ofInt (gainS g.1 row)))) 58 14 (nI ((g.1.1 7 6) + 1))) ?_ ?_ ?_ ?_ ?_) ?_ ?_ ?_
      · simp [fm_up, fm_row, upd]
        exact congrArg nI (by simp only [dayJ]; (repeat' split) <;> omega)
      · simp [fm_up, fm_row, upd]
      · simp [fm_up, fm_row, upd]
      · intro i i1 i2 i3
        simp [fm_up, fm_row, upd, i1, i2, i3, f1 58 (by omega)]
      · intro k k1 k2
        simp [fm_up, fm_row, show k ≠ 58 by omega]; exact f1 k (by omega)
      · intro i i1 i2 i3 i4
        simp [fm_up, fm_row, upd, show i ≠ 10 by omega, show i ≠ 14 by omega, show i ≠ 15 by omega, f1 58 (by omega)]
      · intro k k1
        simp [fm_up, fm_row, show k ≠ 58 by omega]; exact f1 k (by omega)
      · rw [f2]
    · skip
      refine g_aload_n hC dX7_dayBy_88 rfl 1 rfl ?_
      refine g_getI (ci := 7) (i := 14) (k := 58) hC fm_in7 rfl ly_58 rfl (by decide) fw_634 dX7_dayBy_89 ?_
      refine g_top (y := nI ((g.1.1 7 6) + 1)) (by simp [fm_up, fm_row, upd]) ?_
      refine g_aload_n hC dX7_dayBy_92 rfl 1 rfl ?_
      refine g_getI (ci := 7) (i := 12) (k := 58) hC fm_in7 rfl ly_58 rfl (by decide) fw_632 dX7_dayBy_93 ?_
      refine g_top (y := nI (g.1.1 7 4)) ((by simp [fm_up, fm_row, upd] : (fm_up (fm_up (fm_up M_1 58 10 (nI (g.1.1 7 2 - (lateS row 24).toNat))) 58 15 (g.1.2.2 + (Int32.ofInt (gainS g.1 row)))) 58 14 (nI ((g.1.1 7 6) + 1))) 58 12 = M_1 58 12).trans v4) ?_
      refine g_irem hC dX7_dayBy_96 (nI_ne0 (by omega) (by omega)) ?_
      refine g_top (y := nI ((g.1.1 7 6 + 1) % g.1.1 7 4)) (pk_rem (by omega) (by omega) (by omega)) ?_
      have ml4 := Nat.mod_lt (g.1.1 7 6 + 1) (show 0 < g.1.1 7 4 by omega)
      refine g_if_ne_T (X := (((g.1.1 7 6 + 1) % g.1.1 7 4 : Nat) : Int)) hC (nI_toInt (by omega)) 132 dX7_dayBy_97 rfl (fun c_5 => ?_) (fun c_5 => ?_)
      · skip
        refine g_iload_n hC dX7_dayBy_132 rfl 0 rfl ?_
        refine g_zret (ty := .int) hC rfl rfl dX7_dayBy_133 ?_
        refine ⟨_, rfl, rfl, ?_, fun k k1 => ⟨by simp [fm_up, fm_row, show k ≠ 58 by omega]; exact f1 k (by omega), by rw [f2]⟩⟩
        refine RS_now hS (t := dayT g.1 row) (tR_day (M := M) hS.1 (M' := fm_up (fm_up (fm_up M_1 58 10 (nI (g.1.1 7 2 - (lateS row 24).toNat))) 58 15 (g.1.2.2 + (Int32.ofInt (gainS g.1 row)))) 58 14 (nI ((g.1.1 7 6) + 1))) ?_ ?_ ?_ ?_ ?_) ?_ ?_ ?_
        · simp [fm_up, fm_row, upd]
          exact congrArg nI (by simp only [dayJ]; (repeat' split) <;> omega)
        · simp [fm_up, fm_row, upd]
        · simp [fm_up, fm_row, upd]
        · intro i i1 i2 i3
          simp [fm_up, fm_row, upd, i1, i2, i3, f1 58 (by omega)]
        · intro k k1 k2
          simp [fm_up, fm_row, show k ≠ 58 by omega]; exact f1 k (by omega)
        · intro i i1 i2 i3 i4
          simp [fm_up, fm_row, upd, show i ≠ 10 by omega, show i ≠ 14 by omega, show i ≠ 15 by omega, f1 58 (by omega)]
        · intro k k1
          simp [fm_up, fm_row, show k ≠ 58 by omega]; exact f1 k (by omega)
        · rw [f2]
      · skip
        refine g_aload_n hC dX7_dayBy_100 rfl 1 rfl ?_
        refine g_aload_n hC dX7_dayBy_101 rfl 1 rfl ?_
        refine g_getI (ci := 7) (i := 10) (k := 58) hC fm_in7 rfl ly_58 rfl (by decide) fw_630 dX7_dayBy_102 ?_
        refine g_top (y := nI (g.1.1 7 2 - (lateS row 24).toNat)) (by simp [fm_up, fm_row, upd]) ?_
        refine g_aload_n hC dX7_dayBy_105 rfl 1 rfl ?_
        refine g_getI (ci := 7) (i := 13) (k := 58) hC fm_in7 rfl ly_58 rfl (by decide) fw_633 dX7_dayBy_106 ?_
        refine g_top (y := nI (g.1.1 7 5)) ((by simp [fm_up, fm_row, upd] : (fm_up (fm_up (fm_up M_1 58 10 (nI (g.1.1 7 2 - (lateS row 24).toNat))) 58 15 (g.1.2.2 + (Int32.ofInt (gainS g.1 row)))) 58 14 (nI ((g.1.1 7 6) + 1))) 58 13 = M_1 58 13).trans v5) ?_
        refine g_iadd hC dX7_dayBy_109 ?_
        refine g_top (y := nI ((g.1.1 7 2 - (lateS row 24).toNat) + (g.1.1 7 5))) (nI_add _ _) ?_
        refine g_bipush (v := 99) hC dX7_dayBy_110 rfl ?_
        refine g_icmp_le_T (X := (((g.1.1 7 2 - (lateS row 24).toNat) + (g.1.1 7 5) : Nat) : Int)) (Y := 99) hC (nI_toInt (by omega)) rfl 120 dX7_dayBy_112 rfl (fun c_6 => ?_) (fun c_6 => ?_)
        · skip
          refine g_aload_n hC dX7_dayBy_120 rfl 1 rfl ?_
          refine g_getI (ci := 7) (i := 10) (k := 58) hC fm_in7 rfl ly_58 rfl (by decide) fw_630 dX7_dayBy_121 ?_
          refine g_top (y := nI (g.1.1 7 2 - (lateS row 24).toNat)) (by simp [fm_up, fm_row, upd]) ?_
          refine g_aload_n hC dX7_dayBy_124 rfl 1 rfl ?_
          refine g_getI (ci := 7) (i := 13) (k := 58) hC fm_in7 rfl ly_58 rfl (by decide) fw_633 dX7_dayBy_125 ?_
          refine g_top (y := nI (g.1.1 7 5)) ((by simp [fm_up, fm_row, upd] : (fm_up (fm_up (fm_up M_1 58 10 (nI (g.1.1 7 2 - (lateS row 24).toNat))) 58 15 (g.1.2.2 + (Int32.ofInt (gainS g.1 row)))) 58 14 (nI ((g.1.1 7 6) + 1))) 58 13 = M_1 58 13).trans v5) ?_
          refine g_iadd hC dX7_dayBy_128 ?_
          refine g_top (y := nI ((g.1.1 7 2 - (lateS row 24).toNat) + (g.1.1 7 5))) (nI_add _ _) ?_
          refine g_putI (ci := 7) (i := 10) (k := 58) hC fm_in7 tyX7 tyX7_ok nmX7 rfl ly_58 rfl (by decide) fw_630 rfl rfl rfl dX7_dayBy_129 ?_
          refine g_iload_n hC dX7_dayBy_132 rfl 0 rfl ?_
          refine g_zret (ty := .int) hC rfl rfl dX7_dayBy_133 ?_
          refine ⟨_, rfl, rfl, ?_, fun k k1 => ⟨by simp [fm_up, fm_row, show k ≠ 58 by omega]; exact f1 k (by omega), by rw [f2]⟩⟩
          refine RS_now hS (t := dayT g.1 row) (tR_day (M := M) hS.1 (M' := fm_up (fm_up (fm_up (fm_up M_1 58 10 (nI (g.1.1 7 2 - (lateS row 24).toNat))) 58 15 (g.1.2.2 + (Int32.ofInt (gainS g.1 row)))) 58 14 (nI ((g.1.1 7 6) + 1))) 58 10 (nI ((g.1.1 7 2 - (lateS row 24).toNat) + (g.1.1 7 5)))) ?_ ?_ ?_ ?_ ?_) ?_ ?_ ?_
          · simp [fm_up, fm_row, upd]
            exact congrArg nI (by simp only [dayJ]; (repeat' split) <;> omega)
          · simp [fm_up, fm_row, upd]
          · simp [fm_up, fm_row, upd]
          · intro i i1 i2 i3
            simp [fm_up, fm_row, upd, i1, i2, i3, f1 58 (by omega)]
          · intro k k1 k2
            simp [fm_up, fm_row, show k ≠ 58 by omega]; exact f1 k (by omega)
          · intro i i1 i2 i3 i4
            simp [fm_up, fm_row, upd, show i ≠ 10 by omega, show i ≠ 14 by omega, show i ≠ 15 by omega, f1 58 (by omega)]
          · intro k k1
            simp [fm_up, fm_row, show k ≠ 58 by omega]; exact f1 k (by omega)
          · rw [f2]
        · skip
          refine g_bipush (v := 99) hC dX7_dayBy_115 rfl ?_
          refine g_goto hC 129 dX7_dayBy_117 rfl ?_
          refine g_putI (ci := 7) (i := 10) (k := 58) hC fm_in7 tyX7 tyX7_ok nmX7 rfl ly_58 rfl (by decide) fw_630 rfl rfl rfl dX7_dayBy_129 ?_
          refine g_iload_n hC dX7_dayBy_132 rfl 0 rfl ?_
          refine g_zret (ty := .int) hC rfl rfl dX7_dayBy_133 ?_
          refine ⟨_, rfl, rfl, ?_, fun k k1 => ⟨by simp [fm_up, fm_row, show k ≠ 58 by omega]; exact f1 k (by omega), by rw [f2]⟩⟩
          refine RS_now hS (t := dayT g.1 row) (tR_day (M := M) hS.1 (M' := fm_up (fm_up (fm_up (fm_up M_1 58 10 (nI (g.1.1 7 2 - (lateS row 24).toNat))) 58 15 (g.1.2.2 + (Int32.ofInt (gainS g.1 row)))) 58 14 (nI ((g.1.1 7 6) + 1))) 58 10 99) ?_ ?_ ?_ ?_ ?_) ?_ ?_ ?_
          · simp [fm_up, fm_row, upd]
            exact congrArg nI (by simp only [dayJ]; (repeat' split) <;> omega)
          · simp [fm_up, fm_row, upd]
          · simp [fm_up, fm_row, upd]
          · intro i i1 i2 i3
            simp [fm_up, fm_row, upd, i1, i2, i3, f1 58 (by omega)]
          · intro k k1 k2
            simp [fm_up, fm_row, show k ≠ 58 by omega]; exact f1 k (by omega)
          · intro i i1 i2 i3 i4
            simp [fm_up, fm_row, upd, show i ≠ 10 by omega, show i ≠ 14 by omega, show i ≠ 15 by omega, f1 58 (by omega)]
          · intro k k1
            simp [fm_up, fm_row, show k ≠ 58 by omega]; exact f1 k (by omega)
          · rw [f2]
  · skip
    refine g_aload_n hC dX7_dayBy_48 rfl 1 rfl ?_
    refine g_getI (ci := 7) (i := 14) (k := 58) hC fm_in7 rfl ly_58 rfl (by decide) fw_634 dX7_dayBy_49 ?_
    refine g_top (y := nI ((g.1.1 7 6) + 1)) (by simp [fm_up, fm_row, upd]) ?_
    refine g_aload_n hC dX7_dayBy_52 rfl 1 rfl ?_
    refine g_getI (ci := 7) (i := 11) (k := 58) hC fm_in7 rfl ly_58 rfl (by decide) fw_631 dX7_dayBy_53 ?_
    refine g_top (y := nI (g.1.1 7 3)) ((by simp [fm_up, fm_row, upd] : (fm_up (fm_up (fm_up M_1 58 10 (nI (g.1.1 7 2 - (lateS row 24).toNat))) 58 15 (g.1.2.2 + (Int32.ofInt (gainS g.1 row)))) 58 14 (nI ((g.1.1 7 6) + 1))) 58 11 = M_1 58 11).trans v3) ?_
    refine g_irem hC dX7_dayBy_56 (nI_ne0 (by omega) (by omega)) ?_
    refine g_top (y := nI ((g.1.1 7 6 + 1) % g.1.1 7 3)) (pk_rem (by omega) (by omega) (by omega)) ?_
    have ml3 := Nat.mod_lt (g.1.1 7 6 + 1) (show 0 < g.1.1 7 3 by omega)
    refine g_if_ne_T (X := (((g.1.1 7 6 + 1) % g.1.1 7 3 : Nat) : Int)) hC (nI_toInt (by omega)) 81 dX7_dayBy_57 rfl (fun c_7 => ?_) (fun c_7 => ?_)
    · skip
      refine g_aload_n hC dX7_dayBy_81 rfl 1 rfl ?_
      refine g_getI (ci := 7) (i := 12) (k := 58) hC fm_in7 rfl ly_58 rfl (by decide) fw_632 dX7_dayBy_82 ?_
      refine g_top (y := nI (g.1.1 7 4)) ((by simp [fm_up, fm_row, upd] : (fm_up (fm_up (fm_up M_1 58 10 (nI (g.1.1 7 2 - (lateS row 24).toNat))) 58 15 (g.1.2.2 + (Int32.ofInt (gainS g.1 row)))) 58 14 (nI ((g.1.1 7 6) + 1))) 58 12 = M_1 58 12).trans v4) ?_
      refine g_if_le_T (X := ((g.1.1 7 4 : Nat) : Int)) hC (nI_toInt (by omega)) 132 dX7_dayBy_85 rfl (fun c_8 => ?_) (fun c_8 => ?_)
      · skip
        refine g_iload_n hC dX7_dayBy_132 rfl 0 rfl ?_
        refine g_zret (ty := .int) hC rfl rfl dX7_dayBy_133 ?_
        refine ⟨_, rfl, rfl, ?_, fun k k1 => ⟨by simp [fm_up, fm_row, show k ≠ 58 by omega]; exact f1 k (by omega), by rw [f2]⟩⟩
        refine RS_now hS (t := dayT g.1 row) (tR_day (M := M) hS.1 (M' := fm_up (fm_up (fm_up M_1 58 10 (nI (g.1.1 7 2 - (lateS row 24).toNat))) 58 15 (g.1.2.2 + (Int32.ofInt (gainS g.1 row)))) 58 14 (nI ((g.1.1 7 6) + 1))) ?_ ?_ ?_ ?_ ?_) ?_ ?_ ?_
        · simp [fm_up, fm_row, upd]
          exact congrArg nI (by simp only [dayJ]; (repeat' split) <;> omega)
        · simp [fm_up, fm_row, upd]
        · simp [fm_up, fm_row, upd]
        · intro i i1 i2 i3
          simp [fm_up, fm_row, upd, i1, i2, i3, f1 58 (by omega)]
        · intro k k1 k2
          simp [fm_up, fm_row, show k ≠ 58 by omega]; exact f1 k (by omega)
        · intro i i1 i2 i3 i4
          simp [fm_up, fm_row, upd, show i ≠ 10 by omega, show i ≠ 14 by omega, show i ≠ 15 by omega, f1 58 (by omega)]
        · intro k k1
          simp [fm_up, fm_row, show k ≠ 58 by omega]; exact f1 k (by omega)
        · rw [f2]
      · skip
        refine g_aload_n hC dX7_dayBy_88 rfl 1 rfl ?_
        refine g_getI (ci := 7) (i := 14) (k := 58) hC fm_in7 rfl ly_58 rfl (by decide) fw_634 dX7_dayBy_89 ?_
        refine g_top (y := nI ((g.1.1 7 6) + 1)) (by simp [fm_up, fm_row, upd]) ?_
        refine g_aload_n hC dX7_dayBy_92 rfl 1 rfl ?_
        refine g_getI (ci := 7) (i := 12) (k := 58) hC fm_in7 rfl ly_58 rfl (by decide) fw_632 dX7_dayBy_93 ?_
        refine g_top (y := nI (g.1.1 7 4)) ((by simp [fm_up, fm_row, upd] : (fm_up (fm_up (fm_up M_1 58 10 (nI (g.1.1 7 2 - (lateS row 24).toNat))) 58 15 (g.1.2.2 + (Int32.ofInt (gainS g.1 row)))) 58 14 (nI ((g.1.1 7 6) + 1))) 58 12 = M_1 58 12).trans v4) ?_
        refine g_irem hC dX7_dayBy_96 (nI_ne0 (by omega) (by omega)) ?_
        refine g_top (y := nI ((g.1.1 7 6 + 1) % g.1.1 7 4)) (pk_rem (by omega) (by omega) (by omega)) ?_
        have ml4 := Nat.mod_lt (g.1.1 7 6 + 1) (show 0 < g.1.1 7 4 by omega)
        refine g_if_ne_T (X := (((g.1.1 7 6 + 1) % g.1.1 7 4 : Nat) : Int)) hC (nI_toInt (by omega)) 132 dX7_dayBy_97 rfl (fun c_9 => ?_) (fun c_9 => ?_)
        · skip
          refine g_iload_n hC dX7_dayBy_132 rfl 0 rfl ?_
          refine g_zret (ty := .int) hC rfl rfl dX7_dayBy_133 ?_
          refine ⟨_, rfl, rfl, ?_, fun k k1 => ⟨by simp [fm_up, fm_row, show k ≠ 58 by omega]; exact f1 k (by omega), by rw [f2]⟩⟩
          refine RS_now hS (t := dayT g.1 row) (tR_day (M := M) hS.1 (M' := fm_up (fm_up (fm_up M_1 58 10 (nI (g.1.1 7 2 - (lateS row 24).toNat))) 58 15 (g.1.2.2 + (Int32.ofInt (gainS g.1 row)))) 58 14 (nI ((g.1.1 7 6) + 1))) ?_ ?_ ?_ ?_ ?_) ?_ ?_ ?_
          · simp [fm_up, fm_row, upd]
            exact congrArg nI (by simp only [dayJ]; (repeat' split) <;> omega)
          · simp [fm_up, fm_row, upd]
          · simp [fm_up, fm_row, upd]
          · intro i i1 i2 i3
            simp [fm_up, fm_row, upd, i1, i2, i3, f1 58 (by omega)]
          · intro k k1 k2
            simp [fm_up, fm_row, show k ≠ 58 by omega]; exact f1 k (by omega)
          · intro i i1 i2 i3 i4
            simp [fm_up, fm_row, upd, show i ≠ 10 by omega, show i ≠ 14 by omega, show i ≠ 15 by omega, f1 58 (by omega)]
          · intro k k1
            simp [fm_up, fm_row, show k ≠ 58 by omega]; exact f1 k (by omega)
          · rw [f2]
        · skip
          refine g_aload_n hC dX7_dayBy_100 rfl 1 rfl ?_
          refine g_aload_n hC dX7_dayBy_101 rfl 1 rfl ?_
          refine g_getI (ci := 7) (i := 10) (k := 58) hC fm_in7 rfl ly_58 rfl (by decide) fw_630 dX7_dayBy_102 ?_
          refine g_top (y := nI (g.1.1 7 2 - (lateS row 24).toNat)) (by simp [fm_up, fm_row, upd]) ?_
          refine g_aload_n hC dX7_dayBy_105 rfl 1 rfl ?_
          refine g_getI (ci := 7) (i := 13) (k := 58) hC fm_in7 rfl ly_58 rfl (by decide) fw_633 dX7_dayBy_106 ?_
          refine g_top (y := nI (g.1.1 7 5)) ((by simp [fm_up, fm_row, upd] : (fm_up (fm_up (fm_up M_1 58 10 (nI (g.1.1 7 2 - (lateS row 24).toNat))) 58 15 (g.1.2.2 + (Int32.ofInt (gainS g.1 row)))) 58 14 (nI ((g.1.1 7 6) + 1))) 58 13 = M_1 58 13).trans v5) ?_
          refine g_iadd hC dX7_dayBy_109 ?_
          refine g_top (y := nI ((g.1.1 7 2 - (lateS row 24).toNat) + (g.1.1 7 5))) (nI_add _ _) ?_
          refine g_bipush (v := 99) hC dX7_dayBy_110 rfl ?_
          refine g_icmp_le_T (X := (((g.1.1 7 2 - (lateS row 24).toNat) + (g.1.1 7 5) : Nat) : Int)) (Y := 99) hC (nI_toInt (by omega)) rfl 120 dX7_dayBy_112 rfl (fun c_10 => ?_) (fun c_10 => ?_)
          · skip
            refine g_aload_n hC dX7_dayBy_120 rfl 1 rfl ?_
            refine g_getI (ci := 7) (i := 10) (k := 58) hC fm_in7 rfl ly_58 rfl (by decide) fw_630 dX7_dayBy_121 ?_
            refine g_top (y := nI (g.1.1 7 2 - (lateS row 24).toNat)) (by simp [fm_up, fm_row, upd]) ?_
            refine g_aload_n hC dX7_dayBy_124 rfl 1 rfl ?_
            refine g_getI (ci := 7) (i := 13) (k := 58) hC fm_in7 rfl ly_58 rfl (by decide) fw_633 dX7_dayBy_125 ?_
            refine g_top (y := nI (g.1.1 7 5)) ((by simp [fm_up, fm_row, upd] : (fm_up (fm_up (fm_up M_1 58 10 (nI (g.1.1 7 2 - (lateS row 24).toNat))) 58 15 (g.1.2.2 + (Int32.ofInt (gainS g.1 row)))) 58 14 (nI ((g.1.1 7 6) + 1))) 58 13 = M_1 58 13).trans v5) ?_
            refine g_iadd hC dX7_dayBy_128 ?_
            refine g_top (y := nI ((g.1.1 7 2 - (lateS row 24).toNat) + (g.1.1 7 5))) (nI_add _ _) ?_
            refine g_putI (ci := 7) (i := 10) (k := 58) hC fm_in7 tyX7 tyX7_ok nmX7 rfl ly_58 rfl (by decide) fw_630 rfl rfl rfl dX7_dayBy_129 ?_
            refine g_iload_n hC dX7_dayBy_132 rfl 0 rfl ?_
            refine g_zret (ty := .int) hC rfl rfl dX7_dayBy_133 ?_
            refine ⟨_, rfl, rfl, ?_, fun k k1 => ⟨by simp [fm_up, fm_row, show k ≠ 58 by omega]; exact f1 k (by omega), by rw [f2]⟩⟩
            refine RS_now hS (t := dayT g.1 row) (tR_day (M := M) hS.1 (M' := fm_up (fm_up (fm_up (fm_up M_1 58 10 (nI (g.1.1 7 2 - (lateS row 24).toNat))) 58 15 (g.1.2.2 + (Int32.ofInt (gainS g.1 row)))) 58 14 (nI ((g.1.1 7 6) + 1))) 58 10 (nI ((g.1.1 7 2 - (lateS row 24).toNat) + (g.1.1 7 5)))) ?_ ?_ ?_ ?_ ?_) ?_ ?_ ?_
            · simp [fm_up, fm_row, upd]
              exact congrArg nI (by simp only [dayJ]; (repeat' split) <;> omega)
            · simp [fm_up, fm_row, upd]
            · simp [fm_up, fm_row, upd]
            · intro i i1 i2 i3
              simp [fm_up, fm_row, upd, i1, i2, i3, f1 58 (by omega)]
            · intro k k1 k2
              simp [fm_up, fm_row, show k ≠ 58 by omega]; exact f1 k (by omega)
            · intro i i1 i2 i3 i4
              simp [fm_up, fm_row, upd, show i ≠ 10 by omega, show i ≠ 14 by omega, show i ≠ 15 by omega, f1 58 (by omega)]
            · intro k k1
              simp [fm_up, fm_row, show k ≠ 58 by omega]; exact f1 k (by omega)
            · rw [f2]
          · skip
            refine g_bipush (v := 99) hC dX7_dayBy_115 rfl ?_
            refine g_goto hC 129 dX7_dayBy_117 rfl ?_
            refine g_putI (ci := 7) (i := 10) (k := 58) hC fm_in7 tyX7 tyX7_ok nmX7 rfl ly_58 rfl (by decide) fw_630 rfl rfl rfl dX7_dayBy_129 ?_
            refine g_iload_n hC dX7_dayBy_132 rfl 0 rfl ?_
            refine g_zret (ty := .int) hC rfl rfl dX7_dayBy_133 ?_
            refine ⟨_, rfl, rfl, ?_, fun k k1 => ⟨by simp [fm_up, fm_row, show k ≠ 58 by omega]; exact f1 k (by omega), by rw [f2]⟩⟩
            refine RS_now hS (t := dayT g.1 row) (tR_day (M := M) hS.1 (M' := fm_up (fm_up (fm_up (fm_up M_1 58 10 (nI (g.1.1 7 2 - (lateS row 24).toNat))) 58 15 (g.1.2.2 + (Int32.ofInt (gainS g.1 row)))) 58 14 (nI ((g.1.1 7 6) + 1))) 58 10 99) ?_ ?_ ?_ ?_ ?_) ?_ ?_ ?_
            · simp [fm_up, fm_row, upd]
              exact congrArg nI (by simp only [dayJ]; (repeat' split) <;> omega)
            · simp [fm_up, fm_row, upd]
            · simp [fm_up, fm_row, upd]
            · intro i i1 i2 i3
              simp [fm_up, fm_row, upd, i1, i2, i3, f1 58 (by omega)]
            · intro k k1 k2
              simp [fm_up, fm_row, show k ≠ 58 by omega]; exact f1 k (by omega)
            · intro i i1 i2 i3 i4
              simp [fm_up, fm_row, upd, show i ≠ 10 by omega, show i ≠ 14 by omega, show i ≠ 15 by omega, f1 58 (by omega)]
            · intro k k1
              simp [fm_up, fm_row, show k ≠ 58 by omega]; exact f1 k (by omega)
            · rw [f2]
    · skip
      refine g_aload_n hC dX7_dayBy_60 rfl 1 rfl ?_
      refine g_aload_n hC dX7_dayBy_61 rfl 1 rfl ?_
      refine g_getI (ci := 7) (i := 10) (k := 58) hC fm_in7 rfl ly_58 rfl (by decide) fw_630 dX7_dayBy_62 ?_
      refine g_top (y := nI (g.1.1 7 2 - (lateS row 24).toNat)) (by simp [fm_up, fm_row, upd]) ?_
      refine g_if_le_T (X := ((g.1.1 7 2 - (lateS row 24).toNat : Nat) : Int)) hC (nI_toInt (by omega)) 77 dX7_dayBy_65 rfl (fun c_11 => ?_) (fun c_11 => ?_)
      · skip
        refine g_iconst (v := 0) hC dX7_dayBy_77 rfl ?_
        refine g_putI (ci := 7) (i := 10) (k := 58) hC fm_in7 tyX7 tyX7_ok nmX7 rfl ly_58 rfl (by decide) fw_630 rfl rfl rfl dX7_dayBy_78 ?_
        refine g_aload_n hC dX7_dayBy_81 rfl 1 rfl ?_
        refine g_getI (ci := 7) (i := 12) (k := 58) hC fm_in7 rfl ly_58 rfl (by decide) fw_632 dX7_dayBy_82 ?_
        refine g_top (y := nI (g.1.1 7 4)) ((by simp [fm_up, fm_row, upd] : (fm_up (fm_up (fm_up (fm_up M_1 58 10 (nI (g.1.1 7 2 - (lateS row 24).toNat))) 58 15 (g.1.2.2 + (Int32.ofInt (gainS g.1 row)))) 58 14 (nI ((g.1.1 7 6) + 1))) 58 10 0) 58 12 = M_1 58 12).trans v4) ?_
        refine g_if_le_T (X := ((g.1.1 7 4 : Nat) : Int)) hC (nI_toInt (by omega)) 132 dX7_dayBy_85 rfl (fun c_12 => ?_) (fun c_12 => ?_)
        · skip
          refine g_iload_n hC dX7_dayBy_132 rfl 0 rfl ?_
          refine g_zret (ty := .int) hC rfl rfl dX7_dayBy_133 ?_
          refine ⟨_, rfl, rfl, ?_, fun k k1 => ⟨by simp [fm_up, fm_row, show k ≠ 58 by omega]; exact f1 k (by omega), by rw [f2]⟩⟩
          refine RS_now hS (t := dayT g.1 row) (tR_day (M := M) hS.1 (M' := fm_up (fm_up (fm_up (fm_up M_1 58 10 (nI (g.1.1 7 2 - (lateS row 24).toNat))) 58 15 (g.1.2.2 + (Int32.ofInt (gainS g.1 row)))) 58 14 (nI ((g.1.1 7 6) + 1))) 58 10 0) ?_ ?_ ?_ ?_ ?_) ?_ ?_ ?_
          · simp [fm_up, fm_row, upd]
            exact congrArg nI (by simp only [dayJ]; (repeat' split) <;> omega)
          · simp [fm_up, fm_row, upd]
          · simp [fm_up, fm_row, upd]
          · intro i i1 i2 i3
            simp [fm_up, fm_row, upd, i1, i2, i3, f1 58 (by omega)]
          · intro k k1 k2
            simp [fm_up, fm_row, show k ≠ 58 by omega]; exact f1 k (by omega)
          · intro i i1 i2 i3 i4
            simp [fm_up, fm_row, upd, show i ≠ 10 by omega, show i ≠ 14 by omega, show i ≠ 15 by omega, f1 58 (by omega)]
          · intro k k1
            simp [fm_up, fm_row, show k ≠ 58 by omega]; exact f1 k (by omega)
          · rw [f2]
        · skip
          refine g_aload_n hC dX7_dayBy_88 rfl 1 rfl ?_
          refine g_getI (ci := 7) (i := 14) (k := 58) hC fm_in7 rfl ly_58 rfl (by decide) fw_634 dX7_dayBy_89 ?_
          refine g_top (y := nI ((g.1.1 7 6) + 1)) (by simp [fm_up, fm_row, upd]) ?_
          refine g_aload_n hC dX7_dayBy_92 rfl 1 rfl ?_
          refine g_getI (ci := 7) (i := 12) (k := 58) hC fm_in7 rfl ly_58 rfl (by decide) fw_632 dX7_dayBy_93 ?_
          refine g_top (y := nI (g.1.1 7 4)) ((by simp [fm_up, fm_row, upd] : (fm_up (fm_up (fm_up (fm_up M_1 58 10 (nI (g.1.1 7 2 - (lateS row 24).toNat))) 58 15 (g.1.2.2 + (Int32.ofInt (gainS g.1 row)))) 58 14 (nI ((g.1.1 7 6) + 1))) 58 10 0) 58 12 = M_1 58 12).trans v4) ?_
          refine g_irem hC dX7_dayBy_96 (nI_ne0 (by omega) (by omega)) ?_
          refine g_top (y := nI ((g.1.1 7 6 + 1) % g.1.1 7 4)) (pk_rem (by omega) (by omega) (by omega)) ?_
          have ml4 := Nat.mod_lt (g.1.1 7 6 + 1) (show 0 < g.1.1 7 4 by omega)
          refine g_if_ne_T (X := (((g.1.1 7 6 + 1) % g.1.1 7 4 : Nat) : Int)) hC (nI_toInt (by omega)) 132 dX7_dayBy_97 rfl (fun c_13 => ?_) (fun c_13 => ?_)
          · skip
            refine g_iload_n hC dX7_dayBy_132 rfl 0 rfl ?_
            refine g_zret (ty := .int) hC rfl rfl dX7_dayBy_133 ?_
            refine ⟨_, rfl, rfl, ?_, fun k k1 => ⟨by simp [fm_up, fm_row, show k ≠ 58 by omega]; exact f1 k (by omega), by rw [f2]⟩⟩
            refine RS_now hS (t := dayT g.1 row) (tR_day (M := M) hS.1 (M' := fm_up (fm_up (fm_up (fm_up M_1 58 10 (nI (g.1.1 7 2 - (lateS row 24).toNat))) 58 15 (g.1.2.2 + (Int32.ofInt (gainS g.1 row)))) 58 14 (nI ((g.1.1 7 6) + 1))) 58 10 0) ?_ ?_ ?_ ?_ ?_) ?_ ?_ ?_
            · simp [fm_up, fm_row, upd]
              exact congrArg nI (by simp only [dayJ]; (repeat' split) <;> omega)
            · simp [fm_up, fm_row, upd]
            · simp [fm_up, fm_row, upd]
            · intro i i1 i2 i3
              simp [fm_up, fm_row, upd, i1, i2, i3, f1 58 (by omega)]
            · intro k k1 k2
              simp [fm_up, fm_row, show k ≠ 58 by omega]; exact f1 k (by omega)
            · intro i i1 i2 i3 i4
              simp [fm_up, fm_row, upd, show i ≠ 10 by omega, show i ≠ 14 by omega, show i ≠ 15 by omega, f1 58 (by omega)]
            · intro k k1
              simp [fm_up, fm_row, show k ≠ 58 by omega]; exact f1 k (by omega)
            · rw [f2]
          · skip
            refine g_aload_n hC dX7_dayBy_100 rfl 1 rfl ?_
            refine g_aload_n hC dX7_dayBy_101 rfl 1 rfl ?_
            refine g_getI (ci := 7) (i := 10) (k := 58) hC fm_in7 rfl ly_58 rfl (by decide) fw_630 dX7_dayBy_102 ?_
            refine g_top (y := 0) (by simp [fm_up, fm_row, upd]) ?_
            refine g_aload_n hC dX7_dayBy_105 rfl 1 rfl ?_
            refine g_getI (ci := 7) (i := 13) (k := 58) hC fm_in7 rfl ly_58 rfl (by decide) fw_633 dX7_dayBy_106 ?_
            refine g_top (y := nI (g.1.1 7 5)) ((by simp [fm_up, fm_row, upd] : (fm_up (fm_up (fm_up (fm_up M_1 58 10 (nI (g.1.1 7 2 - (lateS row 24).toNat))) 58 15 (g.1.2.2 + (Int32.ofInt (gainS g.1 row)))) 58 14 (nI ((g.1.1 7 6) + 1))) 58 10 0) 58 13 = M_1 58 13).trans v5) ?_
            refine g_iadd hC dX7_dayBy_109 ?_
            refine g_top (y := nI (0 + (g.1.1 7 5))) (nI_add _ _) ?_
            refine g_bipush (v := 99) hC dX7_dayBy_110 rfl ?_
            refine g_icmp_le_T (X := ((0 + (g.1.1 7 5) : Nat) : Int)) (Y := 99) hC (nI_toInt (by omega)) rfl 120 dX7_dayBy_112 rfl (fun c_14 => ?_) (fun c_14 => ?_)
            · skip
              refine g_aload_n hC dX7_dayBy_120 rfl 1 rfl ?_
              refine g_getI (ci := 7) (i := 10) (k := 58) hC fm_in7 rfl ly_58 rfl (by decide) fw_630 dX7_dayBy_121 ?_
              refine g_top (y := 0) (by simp [fm_up, fm_row, upd]) ?_
              refine g_aload_n hC dX7_dayBy_124 rfl 1 rfl ?_
              refine g_getI (ci := 7) (i := 13) (k := 58) hC fm_in7 rfl ly_58 rfl (by decide) fw_633 dX7_dayBy_125 ?_
              refine g_top (y := nI (g.1.1 7 5)) ((by simp [fm_up, fm_row, upd] : (fm_up (fm_up (fm_up (fm_up M_1 58 10 (nI (g.1.1 7 2 - (lateS row 24).toNat))) 58 15 (g.1.2.2 + (Int32.ofInt (gainS g.1 row)))) 58 14 (nI ((g.1.1 7 6) + 1))) 58 10 0) 58 13 = M_1 58 13).trans v5) ?_
              refine g_iadd hC dX7_dayBy_128 ?_
              refine g_top (y := nI (0 + (g.1.1 7 5))) (nI_add _ _) ?_
              refine g_putI (ci := 7) (i := 10) (k := 58) hC fm_in7 tyX7 tyX7_ok nmX7 rfl ly_58 rfl (by decide) fw_630 rfl rfl rfl dX7_dayBy_129 ?_
              refine g_iload_n hC dX7_dayBy_132 rfl 0 rfl ?_
              refine g_zret (ty := .int) hC rfl rfl dX7_dayBy_133 ?_
              refine ⟨_, rfl, rfl, ?_, fun k k1 => ⟨by simp [fm_up, fm_row, show k ≠ 58 by omega]; exact f1 k (by omega), by rw [f2]⟩⟩
              refine RS_now hS (t := dayT g.1 row) (tR_day (M := M) hS.1 (M' := fm_up (fm_up (fm_up (fm_up (fm_up M_1 58 10 (nI (g.1.1 7 2 - (lateS row 24).toNat))) 58 15 (g.1.2.2 + (Int32.ofInt (gainS g.1 row)))) 58 14 (nI ((g.1.1 7 6) + 1))) 58 10 0) 58 10 (nI (0 + (g.1.1 7 5)))) ?_ ?_ ?_ ?_ ?_) ?_ ?_ ?_
              · simp [fm_up, fm_row, upd]
                exact congrArg nI (by simp only [dayJ]; (repeat' split) <;> omega)
              · simp [fm_up, fm_row, upd]
              · simp [fm_up, fm_row, upd]
              · intro i i1 i2 i3
                simp [fm_up, fm_row, upd, i1, i2, i3, f1 58 (by omega)]
              · intro k k1 k2
                simp [fm_up, fm_row, show k ≠ 58 by omega]; exact f1 k (by omega)
              · intro i i1 i2 i3 i4
                simp [fm_up, fm_row, upd, show i ≠ 10 by omega, show i ≠ 14 by omega, show i ≠ 15 by omega, f1 58 (by omega)]
              · intro k k1
                simp [fm_up, fm_row, show k ≠ 58 by omega]; exact f1 k (by omega)
              · rw [f2]
            · skip
              refine g_bipush (v := 99) hC dX7_dayBy_115 rfl ?_
              refine g_goto hC 129 dX7_dayBy_117 rfl ?_
              refine g_putI (ci := 7) (i := 10) (k := 58) hC fm_in7 tyX7 tyX7_ok nmX7 rfl ly_58 rfl (by decide) fw_630 rfl rfl rfl dX7_dayBy_129 ?_
              refine g_iload_n hC dX7_dayBy_132 rfl 0 rfl ?_
              refine g_zret (ty := .int) hC rfl rfl dX7_dayBy_133 ?_
              refine ⟨_, rfl, rfl, ?_, fun k k1 => ⟨by simp [fm_up, fm_row, show k ≠ 58 by omega]; exact f1 k (by omega), by rw [f2]⟩⟩
              refine RS_now hS (t := dayT g.1 row) (tR_day (M := M) hS.1 (M' := fm_up (fm_up (fm_up (fm_up (fm_up M_1 58 10 (nI (g.1.1 7 2 - (lateS row 24).toNat))) 58 15 (g.1.2.2 + (Int32.ofInt (gainS g.1 row)))) 58 14 (nI ((g.1.1 7 6) + 1))) 58 10 0) 58 10 99) ?_ ?_ ?_ ?_ ?_) ?_ ?_ ?_
              · simp [fm_up, fm_row, upd]
                exact congrArg nI (by simp only [dayJ]; (repeat' split) <;> omega)
              · simp [fm_up, fm_row, upd]
              · simp [fm_up, fm_row, upd]
              · intro i i1 i2 i3
                simp [fm_up, fm_row, upd, i1, i2, i3, f1 58 (by omega)]
              · intro k k1 k2
                simp [fm_up, fm_row, show k ≠ 58 by omega]; exact f1 k (by omega)
              · intro i i1 i2 i3 i4
                simp [fm_up, fm_row, upd, show i ≠ 10 by omega, show i ≠ 14 by omega, show i ≠ 15 by omega, f1 58 (by omega)]
              · intro k k1
                simp [fm_up, fm_row, show k ≠ 58 by omega]; exact f1 k (by omega)
              · rw [f2]
      · skip
        refine g_aload_n hC dX7_dayBy_68 rfl 1 rfl ?_
        refine g_getI (ci := 7) (i := 10) (k := 58) hC fm_in7 rfl ly_58 rfl (by decide) fw_630 dX7_dayBy_69 ?_
        refine g_top (y := nI (g.1.1 7 2 - (lateS row 24).toNat)) (by simp [fm_up, fm_row, upd]) ?_
        refine g_iconst (v := 1) hC dX7_dayBy_72 rfl ?_
        refine g_isub hC dX7_dayBy_73 ?_
        refine g_top (y := nI ((g.1.1 7 2 - (lateS row 24).toNat) - 1)) (jm_2 _ (by omega) (by omega)) ?_
        refine g_goto hC 78 dX7_dayBy_74 rfl ?_
        refine g_putI (ci := 7) (i := 10) (k := 58) hC fm_in7 tyX7 tyX7_ok nmX7 rfl ly_58 rfl (by decide) fw_630 rfl rfl rfl dX7_dayBy_78 ?_
        refine g_aload_n hC dX7_dayBy_81 rfl 1 rfl ?_
        refine g_getI (ci := 7) (i := 12) (k := 58) hC fm_in7 rfl ly_58 rfl (by decide) fw_632 dX7_dayBy_82 ?_
        refine g_top (y := nI (g.1.1 7 4)) ((by simp [fm_up, fm_row, upd] : (fm_up (fm_up (fm_up (fm_up M_1 58 10 (nI (g.1.1 7 2 - (lateS row 24).toNat))) 58 15 (g.1.2.2 + (Int32.ofInt (gainS g.1 row)))) 58 14 (nI ((g.1.1 7 6) + 1))) 58 10 (nI ((g.1.1 7 2 - (lateS row 24).toNat) - 1))) 58 12 = M_1 58 12).trans v4) ?_
        refine g_if_le_T (X := ((g.1.1 7 4 : Nat) : Int)) hC (nI_toInt (by omega)) 132 dX7_dayBy_85 rfl (fun c_15 => ?_) (fun c_15 => ?_)
        · skip
          refine g_iload_n hC dX7_dayBy_132 rfl 0 rfl ?_
          refine g_zret (ty := .int) hC rfl rfl dX7_dayBy_133 ?_
          refine ⟨_, rfl, rfl, ?_, fun k k1 => ⟨by simp [fm_up, fm_row, show k ≠ 58 by omega]; exact f1 k (by omega), by rw [f2]⟩⟩
          refine RS_now hS (t := dayT g.1 row) (tR_day (M := M) hS.1 (M' := fm_up (fm_up (fm_up (fm_up M_1 58 10 (nI (g.1.1 7 2 - (lateS row 24).toNat))) 58 15 (g.1.2.2 + (Int32.ofInt (gainS g.1 row)))) 58 14 (nI ((g.1.1 7 6) + 1))) 58 10 (nI ((g.1.1 7 2 - (lateS row 24).toNat) - 1))) ?_ ?_ ?_ ?_ ?_) ?_ ?_ ?_
          · simp [fm_up, fm_row, upd]
            exact congrArg nI (by simp only [dayJ]; (repeat' split) <;> omega)
          · simp [fm_up, fm_row, upd]
          · simp [fm_up, fm_row, upd]
          · intro i i1 i2 i3
            simp [fm_up, fm_row, upd, i1, i2, i3, f1 58 (by omega)]
          · intro k k1 k2
            simp [fm_up, fm_row, show k ≠ 58 by omega]; exact f1 k (by omega)
          · intro i i1 i2 i3 i4
            simp [fm_up, fm_row, upd, show i ≠ 10 by omega, show i ≠ 14 by omega, show i ≠ 15 by omega, f1 58 (by omega)]
          · intro k k1
            simp [fm_up, fm_row, show k ≠ 58 by omega]; exact f1 k (by omega)
          · rw [f2]
        · skip
          refine g_aload_n hC dX7_dayBy_88 rfl 1 rfl ?_
          refine g_getI (ci := 7) (i := 14) (k := 58) hC fm_in7 rfl ly_58 rfl (by decide) fw_634 dX7_dayBy_89 ?_
          refine g_top (y := nI ((g.1.1 7 6) + 1)) (by simp [fm_up, fm_row, upd]) ?_
          refine g_aload_n hC dX7_dayBy_92 rfl 1 rfl ?_
          refine g_getI (ci := 7) (i := 12) (k := 58) hC fm_in7 rfl ly_58 rfl (by decide) fw_632 dX7_dayBy_93 ?_
          refine g_top (y := nI (g.1.1 7 4)) ((by simp [fm_up, fm_row, upd] : (fm_up (fm_up (fm_up (fm_up M_1 58 10 (nI (g.1.1 7 2 - (lateS row 24).toNat))) 58 15 (g.1.2.2 + (Int32.ofInt (gainS g.1 row)))) 58 14 (nI ((g.1.1 7 6) + 1))) 58 10 (nI ((g.1.1 7 2 - (lateS row 24).toNat) - 1))) 58 12 = M_1 58 12).trans v4) ?_
          refine g_irem hC dX7_dayBy_96 (nI_ne0 (by omega) (by omega)) ?_
          refine g_top (y := nI ((g.1.1 7 6 + 1) % g.1.1 7 4)) (pk_rem (by omega) (by omega) (by omega)) ?_
          have ml4 := Nat.mod_lt (g.1.1 7 6 + 1) (show 0 < g.1.1 7 4 by omega)
          refine g_if_ne_T (X := (((g.1.1 7 6 + 1) % g.1.1 7 4 : Nat) : Int)) hC (nI_toInt (by omega)) 132 dX7_dayBy_97 rfl (fun c_16 => ?_) (fun c_16 => ?_)
          · skip
            refine g_iload_n hC dX7_dayBy_132 rfl 0 rfl ?_
            refine g_zret (ty := .int) hC rfl rfl dX7_dayBy_133 ?_
            refine ⟨_, rfl, rfl, ?_, fun k k1 => ⟨by simp [fm_up, fm_row, show k ≠ 58 by omega]; exact f1 k (by omega), by rw [f2]⟩⟩
            refine RS_now hS (t := dayT g.1 row) (tR_day (M := M) hS.1 (M' := fm_up (fm_up (fm_up (fm_up M_1 58 10 (nI (g.1.1 7 2 - (lateS row 24).toNat))) 58 15 (g.1.2.2 + (Int32.ofInt (gainS g.1 row)))) 58 14 (nI ((g.1.1 7 6) + 1))) 58 10 (nI ((g.1.1 7 2 - (lateS row 24).toNat) - 1))) ?_ ?_ ?_ ?_ ?_) ?_ ?_ ?_
            · simp [fm_up, fm_row, upd]
              exact congrArg nI (by simp only [dayJ]; (repeat' split) <;> omega)
            · simp [fm_up, fm_row, upd]
            · simp [fm_up, fm_row, upd]
            · intro i i1 i2 i3
              simp [fm_up, fm_row, upd, i1, i2, i3, f1 58 (by omega)]
            · intro k k1 k2
              simp [fm_up, fm_row, show k ≠ 58 by omega]; exact f1 k (by omega)
            · intro i i1 i2 i3 i4
              simp [fm_up, fm_row, upd, show i ≠ 10 by omega, show i ≠ 14 by omega, show i ≠ 15 by omega, f1 58 (by omega)]
            · intro k k1
              simp [fm_up, fm_row, show k ≠ 58 by omega]; exact f1 k (by omega)
            · rw [f2]
          · skip
            refine g_aload_n hC dX7_dayBy_100 rfl 1 rfl ?_
            refine g_aload_n hC dX7_dayBy_101 rfl 1 rfl ?_
            refine g_getI (ci := 7) (i := 10) (k := 58) hC fm_in7 rfl ly_58 rfl (by decide) fw_630 dX7_dayBy_102 ?_
            refine g_top (y := nI ((g.1.1 7 2 - (lateS row 24).toNat) - 1)) (by simp [fm_up, fm_row, upd]) ?_
            refine g_aload_n hC dX7_dayBy_105 rfl 1 rfl ?_
            refine g_getI (ci := 7) (i := 13) (k := 58) hC fm_in7 rfl ly_58 rfl (by decide) fw_633 dX7_dayBy_106 ?_
            refine g_top (y := nI (g.1.1 7 5)) ((by simp [fm_up, fm_row, upd] : (fm_up (fm_up (fm_up (fm_up M_1 58 10 (nI (g.1.1 7 2 - (lateS row 24).toNat))) 58 15 (g.1.2.2 + (Int32.ofInt (gainS g.1 row)))) 58 14 (nI ((g.1.1 7 6) + 1))) 58 10 (nI ((g.1.1 7 2 - (lateS row 24).toNat) - 1))) 58 13 = M_1 58 13).trans v5) ?_
            refine g_iadd hC dX7_dayBy_109 ?_
            refine g_top (y := nI (((g.1.1 7 2 - (lateS row 24).toNat) - 1) + (g.1.1 7 5))) (nI_add _ _) ?_
            refine g_bipush (v := 99) hC dX7_dayBy_110 rfl ?_
            refine g_icmp_le_T (X := ((((g.1.1 7 2 - (lateS row 24).toNat) - 1) + (g.1.1 7 5) : Nat) : Int)) (Y := 99) hC (nI_toInt (by omega)) rfl 120 dX7_dayBy_112 rfl (fun c_17 => ?_) (fun c_17 => ?_)
            · skip
              refine g_aload_n hC dX7_dayBy_120 rfl 1 rfl ?_
              refine g_getI (ci := 7) (i := 10) (k := 58) hC fm_in7 rfl ly_58 rfl (by decide) fw_630 dX7_dayBy_121 ?_
              refine g_top (y := nI ((g.1.1 7 2 - (lateS row 24).toNat) - 1)) (by simp [fm_up, fm_row, upd]) ?_
              refine g_aload_n hC dX7_dayBy_124 rfl 1 rfl ?_
              refine g_getI (ci := 7) (i := 13) (k := 58) hC fm_in7 rfl ly_58 rfl (by decide) fw_633 dX7_dayBy_125 ?_
              refine g_top (y := nI (g.1.1 7 5)) ((by simp [fm_up, fm_row, upd] : (fm_up (fm_up (fm_up (fm_up M_1 58 10 (nI (g.1.1 7 2 - (lateS row 24).toNat))) 58 15 (g.1.2.2 + (Int32.ofInt (gainS g.1 row)))) 58 14 (nI ((g.1.1 7 6) + 1))) 58 10 (nI ((g.1.1 7 2 - (lateS row 24).toNat) - 1))) 58 13 = M_1 58 13).trans v5) ?_
              refine g_iadd hC dX7_dayBy_128 ?_
              refine g_top (y := nI (((g.1.1 7 2 - (lateS row 24).toNat) - 1) + (g.1.1 7 5))) (nI_add _ _) ?_
              refine g_putI (ci := 7) (i := 10) (k := 58) hC fm_in7 tyX7 tyX7_ok nmX7 rfl ly_58 rfl (by decide) fw_630 rfl rfl rfl dX7_dayBy_129 ?_
              refine g_iload_n hC dX7_dayBy_132 rfl 0 rfl ?_
              refine g_zret (ty := .int) hC rfl rfl dX7_dayBy_133 ?_
              refine ⟨_, rfl, rfl, ?_, fun k k1 => ⟨by simp [fm_up, fm_row, show k ≠ 58 by omega]; exact f1 k (by omega), by rw [f2]⟩⟩
              refine RS_now hS (t := dayT g.1 row) (tR_day (M := M) hS.1 (M' := fm_up (fm_up (fm_up (fm_up (fm_up M_1 58 10 (nI (g.1.1 7 2 - (lateS row 24).toNat))) 58 15 (g.1.2.2 + (Int32.ofInt (gainS g.1 row)))) 58 14 (nI ((g.1.1 7 6) + 1))) 58 10 (nI ((g.1.1 7 2 - (lateS row 24).toNat) - 1))) 58 10 (nI (((g.1.1 7 2 - (lateS row 24).toNat) - 1) + (g.1.1 7 5)))) ?_ ?_ ?_ ?_ ?_) ?_ ?_ ?_
              · simp [fm_up, fm_row, upd]
                exact congrArg nI (by simp only [dayJ]; (repeat' split) <;> omega)
              · simp [fm_up, fm_row, upd]
              · simp [fm_up, fm_row, upd]
              · intro i i1 i2 i3
                simp [fm_up, fm_row, upd, i1, i2, i3, f1 58 (by omega)]
              · intro k k1 k2
                simp [fm_up, fm_row, show k ≠ 58 by omega]; exact f1 k (by omega)
              · intro i i1 i2 i3 i4
                simp [fm_up, fm_row, upd, show i ≠ 10 by omega, show i ≠ 14 by omega, show i ≠ 15 by omega, f1 58 (by omega)]
              · intro k k1
                simp [fm_up, fm_row, show k ≠ 58 by omega]; exact f1 k (by omega)
              · rw [f2]
            · skip
              refine g_bipush (v := 99) hC dX7_dayBy_115 rfl ?_
              refine g_goto hC 129 dX7_dayBy_117 rfl ?_
              refine g_putI (ci := 7) (i := 10) (k := 58) hC fm_in7 tyX7 tyX7_ok nmX7 rfl ly_58 rfl (by decide) fw_630 rfl rfl rfl dX7_dayBy_129 ?_
              refine g_iload_n hC dX7_dayBy_132 rfl 0 rfl ?_
              refine g_zret (ty := .int) hC rfl rfl dX7_dayBy_133 ?_
              refine ⟨_, rfl, rfl, ?_, fun k k1 => ⟨by simp [fm_up, fm_row, show k ≠ 58 by omega]; exact f1 k (by omega), by rw [f2]⟩⟩
              refine RS_now hS (t := dayT g.1 row) (tR_day (M := M) hS.1 (M' := fm_up (fm_up (fm_up (fm_up (fm_up M_1 58 10 (nI (g.1.1 7 2 - (lateS row 24).toNat))) 58 15 (g.1.2.2 + (Int32.ofInt (gainS g.1 row)))) 58 14 (nI ((g.1.1 7 6) + 1))) 58 10 (nI ((g.1.1 7 2 - (lateS row 24).toNat) - 1))) 58 10 99) ?_ ?_ ?_ ?_ ?_) ?_ ?_ ?_
              · simp [fm_up, fm_row, upd]
                exact congrArg nI (by simp only [dayJ]; (repeat' split) <;> omega)
              · simp [fm_up, fm_row, upd]
              · simp [fm_up, fm_row, upd]
              · intro i i1 i2 i3
                simp [fm_up, fm_row, upd, i1, i2, i3, f1 58 (by omega)]
              · intro k k1 k2
                simp [fm_up, fm_row, show k ≠ 58 by omega]; exact f1 k (by omega)
              · intro i i1 i2 i3 i4
                simp [fm_up, fm_row, upd, show i ≠ 10 by omega, show i ≠ 14 by omega, show i ≠ 15 by omega, f1 58 (by omega)]
              · intro k k1
                simp [fm_up, fm_row, show k ≠ 58 by omega]; exact f1 k (by omega)
              · rw [f2]

theorem c_X7_late (l : Launch) (D : va_G) (cA : Nat → ClassId) (b : Nat) (M : Nat → Nat → Int32) (L : Nat → Nat → Int64) (g : Sg) (h : Int32) (hS : RS M L g) (hok : OK g) : fm_Met l D cA b yX7_late cX7_late 2 (some .int) 1 25 0 0 [.ref (b + 58), .int h] LAY M L LAY (fm_pi (op_late g h) M L) := by
  refine fm_start RX7 rfl (by decide) (Nat.le_of_ble_eq_true rfl) ?_
  intro pq eq sq mq aq bq tq cq hC hin
  obtain ⟨⟨n1, n2, n3, v0, v1, v2, v3, v4, v5, v6, v7, v8⟩, hS2⟩ := id hS
  obtain ⟨⟨o1, o2, o3, o4, o5, o6, o7, o8, o9, o10, o11⟩, hok2⟩ := id hok
  have hpl : rowIs M 66 g.1.2.1 := fun h hh => ⟨(n3 h hh).2, (o3 h hh).2⟩
  refine g_iload_n hC dX7_late_0 rfl 1 rfl ?_
  refine g_i2l (v := h.toInt64) hC dX7_late_1 rfl ?_
  refine g_lconst (v := 0) hC dX7_late_2 rfl ?_
  refine g_ldc2 (v := 24) hC fw_849 dX7_late_3 ?_
  refine g_callS hC (as := [.long h.toInt64, .long 0, .long 24]) (rest := []) (c_X7_in l D cA b LAY M L h.toInt64 0 24 h.toInt 0 24 ((ic_w _).trans rfl) rfl rfl) ⟨fw_725, fw_726, fw_9, fw_727⟩ hd_X7_in ⟨Nat.le_of_ble_eq_true rfl, Nat.le_of_ble_eq_true rfl⟩ ⟨Nat.le_of_ble_eq_true rfl, Nat.le_of_ble_eq_true rfl⟩ rfl rfl (Nat.le_of_ble_eq_true rfl) dX7_late_6 (g_rix ?_)
  refine g_ifb_eq hC 23 dX7_late_9 rfl (fun c_2 => ?_) (fun c_2 => ?_)
  · skip
    refine g_ldc (v := (-100000001)) hC fw_783 dX7_late_23 ?_
    refine g_zret (ty := .int) hC rfl rfl dX7_late_25 ⟨congrArg (fun z => some (Value.int z)) ?_, rfl, rfl⟩
    unfold op_late; rw [if_neg (by omega)]
  · skip
    refine g_aload_n hC dX7_late_12 rfl 0 rfl ?_
    refine g_getR (ci := 7) (i := 9) (k := 58) (t := 66) hC fm_in7 rfl ly_58 rfl (by decide) fw_629 dX7_late_13 ?_
    refine g_iload_n hC dX7_late_16 rfl 1 rfl ?_
    refine g_top (y := nI h.toInt.toNat) (ic_nI (by omega)) ?_
    refine g_callS hC (as := [.ref (b + 66), .int (nI h.toInt.toNat)]) (rest := []) (c_X7_lateBy l D cA b M L 66 g.1.2.1 h.toInt.toNat ly_66 hpl (by omega)) ⟨fw_850, fw_851, fw_9, fw_852⟩ hd_X7_lateBy ⟨Nat.le_of_ble_eq_true rfl, Nat.le_of_ble_eq_true rfl⟩ ⟨Nat.le_of_ble_eq_true rfl, Nat.le_of_ble_eq_true rfl⟩ rfl rfl (Nat.le_of_ble_eq_true rfl) dX7_late_17 (g_rix ?_)
    refine g_goto hC 25 dX7_late_20 rfl ?_
    refine g_zret (ty := .int) hC rfl rfl dX7_late_25 ⟨congrArg (fun z => some (Value.int z)) ?_, rfl, rfl⟩
    unfold op_late; rw [if_pos (by omega)]

theorem c_X7_gain (l : Launch) (D : va_G) (cA : Nat → ClassId) (b : Nat) (M : Nat → Nat → Int32) (L : Nat → Nat → Int64) (g : Sg) (hS : RS M L g) (hok : OK g) : fm_Met l D cA b yX7_gain cX7_gain 1 (some .int) 4 95 0 0 [.ref (b + 58)] LAY M L LAY (fm_pm (fun r M' L' => r = op_gain g ∧ RS M' L' g ∧ fR M M' L L')) := by
  refine fm_start RX7 rfl (by decide) (Nat.le_of_ble_eq_true rfl) ?_
  intro pq eq sq mq aq bq tq cq hC hin
  obtain ⟨⟨n1, n2, n3, v0, v1, v2, v3, v4, v5, v6, v7, v8⟩, hS2⟩ := id hS
  obtain ⟨⟨o1, o2, o3, o4, o5, o6, o7, o8, o9, o10, o11⟩, hok2⟩ := id hok
  have hpl : rowIs M 66 g.1.2.1 := fun h hh => ⟨(n3 h hh).2, (o3 h hh).2⟩
  refine g_aload_n hC dX7_gain_0 rfl 0 rfl ?_
  refine g_aload_n hC dX7_gain_1 rfl 0 rfl ?_
  refine g_getR (ci := 7) (i := 9) (k := 58) (t := 66) hC fm_in7 rfl ly_58 rfl (by decide) fw_629 dX7_gain_2 ?_
  refine g_callV hC (k := 58) (ci := 7) (as := [.ref (b + 66)]) (rest := []) (c_X7_gainOf l D cA b M L g 66 g.1.2.1 hS hok ly_66 hpl (by decide)) ⟨fw_857, fw_859, fs_26, fw_9, fw_860⟩ ⟨rfl, hd_X7_gainOf⟩ rfl ly_58 ⟨Nat.le_of_ble_eq_true rfl, Nat.le_of_ble_eq_true rfl⟩ ⟨Nat.le_of_ble_eq_true rfl, Nat.le_of_ble_eq_true rfl⟩ rfl rfl (Nat.le_of_ble_eq_true rfl) dX7_gain_5 (g_rm (fun r_1 M_1 L_1 h_1 => ?_))
  refine g_zret (ty := .int) hC rfl rfl dX7_gain_8 ?_
  obtain ⟨q1, q2, q3⟩ := h_1
  exact ⟨_, rfl, q1, RS_scr hS (fun q a1 a2 a3 => q2 q (by omega)) (by rw [q3]), fun k k1 => ⟨q2 k (by omega), by rw [q3]⟩⟩

theorem c_X7_wrong (l : Launch) (D : va_G) (cA : Nat → ClassId) (b : Nat) (M : Nat → Nat → Int32) (L : Nat → Nat → Int64) (g : Sg) (hS : RS M L g) (hok : OK g) : fm_Met l D cA b yX7_wrong cX7_wrong 1 (some .int) 2 47 0 0 [.ref (b + 58)] LAY M L LAY (fm_pi (op_wrong g) M L) := by
  refine fm_start RX7 rfl (by decide) (Nat.le_of_ble_eq_true rfl) ?_
  intro pq eq sq mq aq bq tq cq hC hin
  obtain ⟨⟨n1, n2, n3, v0, v1, v2, v3, v4, v5, v6, v7, v8⟩, hS2⟩ := id hS
  obtain ⟨⟨o1, o2, o3, o4, o5, o6, o7, o8, o9, o10, o11⟩, hok2⟩ := id hok
  have hpl : rowIs M 66 g.1.2.1 := fun h hh => ⟨(n3 h hh).2, (o3 h hh).2⟩
  refine g_aload_n hC dX7_wrong_0 rfl 0 rfl ?_
  refine g_aload_n hC dX7_wrong_1 rfl 0 rfl ?_
  refine g_getR (ci := 7) (i := 9) (k := 58) (t := 66) hC fm_in7 rfl ly_58 rfl (by decide) fw_629 dX7_wrong_2 ?_
  refine g_callV hC (k := 58) (ci := 7) (as := [.ref (b + 66)]) (rest := []) (c_X7_wrongOf l D cA b M L g 66 g.1.2.1 hS hok ly_66 hpl) ⟨fw_869, fw_871, fs_28, fw_9, fw_872⟩ ⟨rfl, hd_X7_wrongOf⟩ rfl ly_58 ⟨Nat.le_of_ble_eq_true rfl, Nat.le_of_ble_eq_true rfl⟩ ⟨Nat.le_of_ble_eq_true rfl, Nat.le_of_ble_eq_true rfl⟩ rfl rfl (Nat.le_of_ble_eq_true rfl) dX7_wrong_5 (g_rix ?_)
  refine g_zret (ty := .int) hC rfl rfl dX7_wrong_8 ⟨congrArg (fun z => some (Value.int z)) ?_, rfl, rfl⟩
  rfl

theorem c_X7_day (l : Launch) (D : va_G) (cA : Nat → ClassId) (b : Nat) (M : Nat → Nat → Int32) (L : Nat → Nat → Int64) (g : Sg) (hS : RS M L g) (hok : OK g) : fm_Met l D cA b yX7_day cX7_day 1 (some .int) 5 117 0 0 [.ref (b + 58)] LAY M L LAY (fm_pm (fun r M' L' => r = (op_day g).1 ∧ RS M' L' (op_day g).2 ∧ fR M M' L L')) := by
  refine fm_start RX7 rfl (by decide) (Nat.le_of_ble_eq_true rfl) ?_
  intro pq eq sq mq aq bq tq cq hC hin
  obtain ⟨⟨n1, n2, n3, v0, v1, v2, v3, v4, v5, v6, v7, v8⟩, hS2⟩ := id hS
  obtain ⟨⟨o1, o2, o3, o4, o5, o6, o7, o8, o9, o10, o11⟩, hok2⟩ := id hok
  have hpl : rowIs M 66 g.1.2.1 := fun h hh => ⟨(n3 h hh).2, (o3 h hh).2⟩
  refine g_aload_n hC dX7_day_0 rfl 0 rfl ?_
  refine g_aload_n hC dX7_day_1 rfl 0 rfl ?_
  refine g_getR (ci := 7) (i := 9) (k := 58) (t := 66) hC fm_in7 rfl ly_58 rfl (by decide) fw_629 dX7_day_2 ?_
  refine g_callV hC (k := 58) (ci := 7) (as := [.ref (b + 66)]) (rest := []) (c_X7_wrongOf l D cA b M L g 66 g.1.2.1 hS hok ly_66 hpl) ⟨fw_869, fw_871, fs_28, fw_9, fw_872⟩ ⟨rfl, hd_X7_wrongOf⟩ rfl ly_58 ⟨Nat.le_of_ble_eq_true rfl, Nat.le_of_ble_eq_true rfl⟩ ⟨Nat.le_of_ble_eq_true rfl, Nat.le_of_ble_eq_true rfl⟩ rfl rfl (Nat.le_of_ble_eq_true rfl) dX7_day_5 (g_rix ?_)
  refine g_if_lt_T (X := (wrongS g.1 g.1.2.1).toInt) hC rfl 14 dX7_day_8 rfl (fun c_2 => ?_) (fun c_2 => ?_)
  · skip
    have hw : wrongS g.1 g.1.2.1 = -4 := Classical.byContradiction fun q => absurd (wrong_neg q) (by omega)
    refine g_aload_n hC dX7_day_14 rfl 0 rfl ?_
    refine g_getI (ci := 7) (i := 14) (k := 58) hC fm_in7 rfl ly_58 rfl (by decide) fw_634 dX7_day_15 ?_
    refine g_top (y := nI (g.1.1 7 6)) v6 ?_
    refine g_sipush (v := 9999) hC dX7_day_18 rfl ?_
    refine g_icmp_ne_T (X := ((g.1.1 7 6 : Nat) : Int)) (Y := 9999) hC (nI_toInt (by omega)) rfl 29 dX7_day_21 rfl (fun c_3 => ?_) (fun c_3 => ?_)
    · skip
      refine g_aload_n hC dX7_day_29 rfl 0 rfl ?_
      refine g_aload_n hC dX7_day_30 rfl 0 rfl ?_
      refine g_getR (ci := 7) (i := 9) (k := 58) (t := 66) hC fm_in7 rfl ly_58 rfl (by decide) fw_629 dX7_day_31 ?_
      refine g_callV hC (k := 58) (ci := 7) (as := [.ref (b + 66)]) (rest := []) (c_X7_dayBy l D cA b M L g 66 g.1.2.1 hS hok ly_66 hpl (law_end hw) (by omega) (by decide)) ⟨fw_887, fw_889, fs_30, fw_9, fw_890⟩ ⟨rfl, hd_X7_dayBy⟩ rfl ly_58 ⟨Nat.le_of_ble_eq_true rfl, Nat.le_of_ble_eq_true rfl⟩ ⟨Nat.le_of_ble_eq_true rfl, Nat.le_of_ble_eq_true rfl⟩ rfl rfl (Nat.le_of_ble_eq_true rfl) dX7_day_34 (g_rm (fun r_4 M_4 L_4 h_4 => ?_))
      refine g_zret (ty := .int) hC rfl rfl dX7_day_37 ?_
      obtain ⟨q1, q2, q3⟩ := h_4
      have e0 : op_day g = (Int32.ofInt (gainS g.1 g.1.2.1), (dayT g.1 g.1.2.1, g.2)) := by unfold op_day; rw [if_pos hw, if_pos (by omega)]
      exact ⟨_, rfl, by rw [e0]; exact q1, by rw [e0]; exact q2, q3⟩
    · skip
      refine g_ldc (v := (-100000003)) hC fw_886 dX7_day_24 ?_
      refine g_goto hC 37 dX7_day_26 rfl ?_
      refine g_zret (ty := .int) hC rfl rfl dX7_day_37 ?_
      have e0 : op_day g = (-100000003, g) := by unfold op_day; rw [if_pos hw, if_neg (by omega)]
      exact ⟨_, rfl, by rw [e0], by rw [e0]; exact hS, fR_rf⟩
  · skip
    refine g_ldc (v := (-100000002)) hC fw_885 dX7_day_11 ?_
    refine g_zret (ty := .int) hC rfl rfl dX7_day_13 ?_
    have e0 : op_day g = (-100000002, g) := by unfold op_day; rw [if_neg (fun q => by rw [q] at c_2; exact absurd c_2 (by decide))]
    exact ⟨_, rfl, by rw [e0], by rw [e0]; exact hS, fR_rf⟩
