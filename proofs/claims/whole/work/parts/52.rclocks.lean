/-! ===== clocks, sure: the check ===== -/
theorem ok_s {it : Nat → Int64} {i h j : Nat} : okT it (i + 1) h j ↔ okT it i h j ∧ ((it (2 * i)).toInt = (h : Int) → (it (2 * i + 1)).toInt = (j : Int)) := by
  constructor
  · intro z
    exact ⟨fun k hk => z k (by omega), fun c => z i (by omega) c⟩
  · intro z k hk
    by_cases ek : k = i
    · rw [ek]; exact z.2
    · exact z.1 k (by omega)
theorem shC_b {S : Shs} {x ln f nn : Int} (h : ¬ (((0 ≤ x ∧ x < 4) ∧ (0 ≤ ln ∧ ln ≤ 2)) ∧ (1 ≤ nn ∧ nn ≤ 8))) : shC S x ln f nn = -1 := by
  unfold shC
  by_cases c : 1 ≤ nn ∧ nn ≤ 8
  · have e : shR S x ln f (2 * nn.toNat) = -1 := by unfold shR; rw [if_pos (by omega)]
    rw [if_neg (by omega), e, if_pos (by decide)]
  · rw [if_pos c]
theorem RS_fr {M : Nat → Nat → Int32} {L L' : Nat → Nat → Int64} {g : Sg} (h : RS M L g) (e2 : L' 75 = L 75) : RS M L' g :=
  RS_now (t := g.1) h h.1 (fun i _ _ _ _ => rfl) (fun k _ => rfl) e2

theorem c_X7_isTold (l : Launch) (D : va_G) (cA : Nat → ClassId) (b : Nat) (M : Nat → Nat → Int32) (L : Nat → Nat → Int64) (a0 : Nat) (it : Nat → Int64) (n : Nat) (h : Nat) (j : Nat) (ha : a0 + 2 * n ≤ 96) (hit : ∀ k, k < 2 * n → L 75 (a0 + k) = it k) (hh : h < 1000) (hj : j < 1000) : fm_Met l D cA b yX7_isTold cX7_isTold 7 (some .boolean) 0 0 0 0 [.ref (b + 58), .int (nI a0), .int (nI n), .int (nI h), .int (nI j)] LAY M L LAY (fm_pi (bi (okT it n h j)) M L) := by
  refine fm_start RX7 rfl (by decide) (Nat.le_of_ble_eq_true rfl) ?_
  intro pq eq sq mq aq bq tq cq hC hin
  refine g_iconst (v := 1) hC dX7_isTold_0 rfl ?_
  refine g_istore hC [(5, .int 1), (0, .ref (b + 58)), (1, .int (nI a0)), (2, .int (nI n)), (3, .int (nI h)), (4, .int (nI j))] dX7_isTold_1 (by decide) rfl ?_
  refine g_iconst (v := 0) hC dX7_isTold_3 rfl ?_
  refine g_istore hC [(6, .int 0), (5, .int 1), (0, .ref (b + 58)), (1, .int (nI a0)), (2, .int (nI n)), (3, .int (nI h)), (4, .int (nI j))] dX7_isTold_4 (by decide) rfl ?_
  have lp_6_1 : ∀ (n_1 : Nat) (y : Nat) (i : Nat), n - i < n_1 → (i ≤ n ∧ ((y = 1 ∧ okT it i h j) ∨ (y = 0 ∧ ¬ okT it i h j))) → fm_G pq l eq (fm_rm 0 0 0 0) sq mq aq bq tq cq D cA b 7 (MQ bq (fm_Q D cA b LAY (fm_pi (bi (okT it n h j)) M L)) aq sq 0 0 (fun q => b ≤ q)) LAY M L 0 0 6 [(6, .int (nI i)), (5, .int (nI y)), (0, .ref (b + 58)), (1, .int (nI a0)), (2, .int (nI n)), (3, .int (nI h)), (4, .int (nI j))] [] := by
    intro n_1
    induction n_1 with
    | zero => intro y i hm_1; exact absurd hm_1 (Nat.not_lt_zero _)
    | succ n_1 ih_1 =>
      intro y i hm_1 hinv_1
      obtain ⟨i1, w1⟩ := hinv_1
      refine g_iload hC dX7_isTold_6 0 rfl ?_
      refine g_iload_n hC dX7_isTold_8 rfl 4 rfl ?_
      refine g_icmp_ge_T (X := ((i : Nat) : Int)) (Y := ((n : Nat) : Int)) hC (nI_toInt (by omega)) (nI_toInt (by omega)) 67 dX7_isTold_9 rfl (fun c_2 => ?_) (fun c_2 => ?_)
      · skip
        refine g_iload hC dX7_isTold_67 1 rfl ?_
        refine g_zret (ty := .boolean) hC rfl (by rcases w1 with ⟨z1, _⟩ | ⟨z1, _⟩ <;> rw [z1] <;> rfl) dX7_isTold_69 ⟨congrArg (fun z => some (Value.int z)) ?_, rfl, rfl⟩
        have ei : i = n := by omega
        subst ei
        rcases w1 with ⟨z1, z2⟩ | ⟨z1, z2⟩
        · rw [z1]; exact bi_1 z2
        · rw [z1]; exact bi_0 z2
      · skip
        refine g_iload hC dX7_isTold_12 1 rfl ?_
        refine g_if_eq_T (X := ((y : Nat) : Int)) hC (nI_toInt (by omega)) 58 dX7_isTold_14 rfl (fun c_3 => ?_) (fun c_3 => ?_)
        · skip
          refine g_iconst (v := 0) hC dX7_isTold_58 rfl ?_
          refine g_istore hC [(5, .int 0), (6, .int (nI i)), (0, .ref (b + 58)), (1, .int (nI a0)), (2, .int (nI n)), (3, .int (nI h)), (4, .int (nI j))] dX7_isTold_59 (by decide) rfl ?_
          refine g_iinc hC [(6, .int (nI (i + 1))), (5, .int 0), (0, .ref (b + 58)), (1, .int (nI a0)), (2, .int (nI n)), (3, .int (nI h)), (4, .int (nI j))] dX7_isTold_61 1 rfl (by rw [show Int32.ofInt 1 = nI 1 from rfl, nI_add]) (by decide) rfl ?_
          refine g_goto hC 6 dX7_isTold_64 rfl ?_
          exact g_sub [0, 1, 2, 3, 4, 5, 6] rfl (ih_1 0 (i + 1) (by omega) (⟨by omega, Or.inr ⟨rfl, fun z => (by rcases w1 with ⟨z1, _⟩ | ⟨_, z2⟩; omega; exact z2 (ok_s.mp z).1)⟩⟩))
        · skip
          refine g_aload_n hC dX7_isTold_17 rfl 2 rfl ?_
          refine g_getR (ci := 7) (i := 30) (k := 58) (t := 75) hC fm_in7 rfl ly_58 rfl (by decide) fw_650 dX7_isTold_18 ?_
          refine g_iload_n hC dX7_isTold_21 rfl 3 rfl ?_
          refine g_iconst (v := 2) hC dX7_isTold_22 rfl ?_
          refine g_iload hC dX7_isTold_23 0 rfl ?_
          refine g_imul hC dX7_isTold_25 ?_
          refine g_top (y := nI (2 * i)) (pk_mul _ _) ?_
          refine g_iadd hC dX7_isTold_26 ?_
          refine g_top (y := nI (a0 + (2 * i))) (nI_add _ _) ?_
          refine g_laldN (j := a0 + (2 * i)) (k := 75) hC ly_75 rfl (by omega) (by decide) dX7_isTold_27 ?_
          refine g_topL (y := it (2 * i)) (hit (2 * i) (by omega)) ?_
          refine g_iload_n hC dX7_isTold_28 rfl 5 rfl ?_
          refine g_i2l (v := (nI h).toInt64) hC dX7_isTold_29 rfl ?_
          refine g_lcmp hC dX7_isTold_30 ?_
          refine g_cmp_ne_T (X := (it (2 * i)).toInt) (Y := ((h : Nat) : Int)) hC rfl ((ic_w _).trans (nI_toInt (by omega))) 54 dX7_isTold_31 rfl (fun c_4 => ?_) (fun c_4 => ?_)
          · skip
            refine g_iconst (v := 1) hC dX7_isTold_54 rfl ?_
            refine g_goto hC 59 dX7_isTold_55 rfl ?_
            refine g_istore hC [(5, .int 1), (6, .int (nI i)), (0, .ref (b + 58)), (1, .int (nI a0)), (2, .int (nI n)), (3, .int (nI h)), (4, .int (nI j))] dX7_isTold_59 (by decide) rfl ?_
            refine g_iinc hC [(6, .int (nI (i + 1))), (5, .int 1), (0, .ref (b + 58)), (1, .int (nI a0)), (2, .int (nI n)), (3, .int (nI h)), (4, .int (nI j))] dX7_isTold_61 1 rfl (by rw [show Int32.ofInt 1 = nI 1 from rfl, nI_add]) (by decide) rfl ?_
            refine g_goto hC 6 dX7_isTold_64 rfl ?_
            exact g_sub [0, 1, 2, 3, 4, 5, 6] rfl (ih_1 1 (i + 1) (by omega) (⟨by omega, Or.inl ⟨rfl, ok_s.mpr ⟨(by rcases w1 with ⟨_, z2⟩ | ⟨z1, _⟩; exact z2; omega), fun z => absurd z (by omega)⟩⟩⟩))
          · skip
            refine g_aload_n hC dX7_isTold_34 rfl 2 rfl ?_
            refine g_getR (ci := 7) (i := 30) (k := 58) (t := 75) hC fm_in7 rfl ly_58 rfl (by decide) fw_650 dX7_isTold_35 ?_
            refine g_iload_n hC dX7_isTold_38 rfl 3 rfl ?_
            refine g_iconst (v := 2) hC dX7_isTold_39 rfl ?_
            refine g_iload hC dX7_isTold_40 0 rfl ?_
            refine g_imul hC dX7_isTold_42 ?_
            refine g_top (y := nI (2 * i)) (pk_mul _ _) ?_
            refine g_iadd hC dX7_isTold_43 ?_
            refine g_top (y := nI (a0 + (2 * i))) (nI_add _ _) ?_
            refine g_iconst (v := 1) hC dX7_isTold_44 rfl ?_
            refine g_iadd hC dX7_isTold_45 ?_
            refine g_top (y := nI ((a0 + (2 * i)) + 1)) (nI_add _ _) ?_
            refine g_laldN (j := (a0 + (2 * i)) + 1) (k := 75) hC ly_75 rfl (by omega) (by decide) dX7_isTold_46 ?_
            refine g_topL (y := it (2 * i + 1)) (by rw [Nat.add_assoc]; exact hit (2 * i + 1) (by omega)) ?_
            refine g_iload hC dX7_isTold_47 6 rfl ?_
            refine g_i2l (v := (nI j).toInt64) hC dX7_isTold_49 rfl ?_
            refine g_lcmp hC dX7_isTold_50 ?_
            refine g_cmp_ne_T (X := (it (2 * i + 1)).toInt) (Y := ((j : Nat) : Int)) hC rfl ((ic_w _).trans (nI_toInt (by omega))) 58 dX7_isTold_51 rfl (fun c_5 => ?_) (fun c_5 => ?_)
            · skip
              refine g_iconst (v := 0) hC dX7_isTold_58 rfl ?_
              refine g_istore hC [(5, .int 0), (6, .int (nI i)), (0, .ref (b + 58)), (1, .int (nI a0)), (2, .int (nI n)), (3, .int (nI h)), (4, .int (nI j))] dX7_isTold_59 (by decide) rfl ?_
              refine g_iinc hC [(6, .int (nI (i + 1))), (5, .int 0), (0, .ref (b + 58)), (1, .int (nI a0)), (2, .int (nI n)), (3, .int (nI h)), (4, .int (nI j))] dX7_isTold_61 1 rfl (by rw [show Int32.ofInt 1 = nI 1 from rfl, nI_add]) (by decide) rfl ?_
              refine g_goto hC 6 dX7_isTold_64 rfl ?_
              exact g_sub [0, 1, 2, 3, 4, 5, 6] rfl (ih_1 0 (i + 1) (by omega) (⟨by omega, Or.inr ⟨rfl, fun z => (by have z9 := (ok_s.mp z).2 (by omega); omega)⟩⟩))
            · skip
              refine g_iconst (v := 1) hC dX7_isTold_54 rfl ?_
              refine g_goto hC 59 dX7_isTold_55 rfl ?_
              refine g_istore hC [(5, .int 1), (6, .int (nI i)), (0, .ref (b + 58)), (1, .int (nI a0)), (2, .int (nI n)), (3, .int (nI h)), (4, .int (nI j))] dX7_isTold_59 (by decide) rfl ?_
              refine g_iinc hC [(6, .int (nI (i + 1))), (5, .int 1), (0, .ref (b + 58)), (1, .int (nI a0)), (2, .int (nI n)), (3, .int (nI h)), (4, .int (nI j))] dX7_isTold_61 1 rfl (by rw [show Int32.ofInt 1 = nI 1 from rfl, nI_add]) (by decide) rfl ?_
              refine g_goto hC 6 dX7_isTold_64 rfl ?_
              exact g_sub [0, 1, 2, 3, 4, 5, 6] rfl (ih_1 1 (i + 1) (by omega) (⟨by omega, Or.inl ⟨rfl, ok_s.mpr ⟨(by rcases w1 with ⟨_, z2⟩ | ⟨z1, _⟩; exact z2; omega), fun _ => by omega⟩⟩⟩))
  exact g_sub [0, 1, 2, 3, 4, 5, 6] rfl (lp_6_1 (n - 0 + 1) 1 0 (Nat.lt_succ_self _) (⟨Nat.zero_le _, Or.inl ⟨rfl, fun k hk => absurd hk (Nat.not_lt_zero _)⟩⟩))

theorem c_X7_waysBy (l : Launch) (D : va_G) (cA : Nat → ClassId) (b : Nat) (M : Nat → Nat → Int32) (L : Nat → Nat → Int64) (a0 : Nat) (it : Nat → Int64) (n : Nat) (hr : Nat) (x : Int32) (fh : Int) (fn : Int) (ha : a0 + 2 * n ≤ 96) (hit : ∀ k, k < 2 * n → L 75 (a0 + k) = it k) (hb : hr < 24) (hal : ∀ h v : Nat, h < 24 → v < 3 → (((h : Int) = fh → (v : Int) = fn) ↔ (h ≠ hr ∨ x.toInt < 0 ∨ (v : Int) = x.toInt))) : fm_Met l D cA b yX7_waysBy cX7_waysBy 10 (some .long) 1 26 0 0 [.ref (b + 58), .int (nI a0), .int (nI n), .int (nI hr), .int x] LAY M L LAY (fm_pl (fun r M' L' => r = clS it n fh fn ∧ M' = M ∧ (∀ r, r ≠ 76 → L' r = L r))) := by
  refine fm_start RX7 rfl (by decide) (Nat.le_of_ble_eq_true rfl) ?_
  intro pq eq sq mq aq bq tq cq hC hin
  refine g_iconst (v := 0) hC dX7_waysBy_0 rfl ?_
  refine g_istore hC [(5, .int 0), (0, .ref (b + 58)), (1, .int (nI a0)), (2, .int (nI n)), (3, .int (nI hr)), (4, .int x)] dX7_waysBy_1 (by decide) rfl ?_
  have lp_3_1 : ∀ (n_1 : Nat) (L1 : Nat → Nat → Int64) (i : Nat), 49 - i < n_1 → (i ≤ 49 ∧ (∀ r, r ≠ 76 → L1 r = L r) ∧ (∀ j, j < i → L1 76 j = wyK it n fh fn 0 j)) → fm_G pq l eq (fm_rm 1 26 0 0) sq mq aq bq tq cq D cA b 10 (MQ bq (fm_Q D cA b LAY (fm_pl (fun r M' L' => r = clS it n fh fn ∧ M' = M ∧ (∀ r, r ≠ 76 → L' r = L r)))) aq sq 0 0 (fun q => b ≤ q)) LAY M L1 0 0 3 [(0, .ref (b + 58)), (1, .int (nI a0)), (2, .int (nI n)), (3, .int (nI hr)), (4, .int x), (5, .int (nI i))] [] := by
    intro n_1
    induction n_1 with
    | zero => intro L1 i hm_1; exact absurd hm_1 (Nat.not_lt_zero _)
    | succ n_1 ih_1 =>
      intro L1 i hm_1 hinv_1
      obtain ⟨j1, j2, j3⟩ := hinv_1
      refine g_iload hC dX7_waysBy_3 5 rfl ?_
      refine g_bipush (v := 48) hC dX7_waysBy_5 rfl ?_
      refine g_icmp_gt_T (X := ((i : Nat) : Int)) (Y := 48) hC (nI_toInt (by omega)) rfl 44 dX7_waysBy_7 rfl (fun c_2 => ?_) (fun c_2 => ?_)
      · skip
        refine g_iconst (v := 0) hC dX7_waysBy_44 rfl ?_
        refine g_istore hC [(5, .int 0), (0, .ref (b + 58)), (1, .int (nI a0)), (2, .int (nI n)), (3, .int (nI hr)), (4, .int x)] dX7_waysBy_45 (by decide) rfl ?_
        have lp_47_3 : ∀ (n_3 : Nat) (La : Nat → Nat → Int64) (h : Nat), 24 - h < n_3 → (h ≤ 24 ∧ (∀ r, r ≠ 76 → La r = L r) ∧ (∀ j, j < 49 → La 76 j = wyK it n fh fn h j)) → fm_G pq l eq (fm_rm 1 26 0 0) sq mq aq bq tq cq D cA b 10 (MQ bq (fm_Q D cA b LAY (fm_pl (fun r M' L' => r = clS it n fh fn ∧ M' = M ∧ (∀ r, r ≠ 76 → L' r = L r)))) aq sq 0 0 (fun q => b ≤ q)) LAY M La 0 0 47 [(0, .ref (b + 58)), (1, .int (nI a0)), (2, .int (nI n)), (3, .int (nI hr)), (4, .int x), (5, .int (nI h))] [] := by
          intro n_3
          induction n_3 with
          | zero => intro La h hm_3; exact absurd hm_3 (Nat.not_lt_zero _)
          | succ n_3 ih_3 =>
            intro La h hm_3 hinv_3
            obtain ⟨a1, a2, a3⟩ := hinv_3
            refine g_iload hC dX7_waysBy_47 5 rfl ?_
            refine g_bipush (v := 24) hC dX7_waysBy_49 rfl ?_
            refine g_icmp_ge_T (X := ((h : Nat) : Int)) (Y := 24) hC (nI_toInt (by omega)) rfl 165 dX7_waysBy_51 rfl (fun c_4 => ?_) (fun c_4 => ?_)
            · skip
              have eh : h = 24 := by omega
              subst eh
              refine g_lconst (v := 0) hC dX7_waysBy_165 rfl ?_
              refine g_lstore hC [(5, .long 0), (0, .ref (b + 58)), (1, .int (nI a0)), (2, .int (nI n)), (3, .int (nI hr)), (4, .int x)] dX7_waysBy_166 (by decide) rfl ?_
              refine g_iconst (v := 0) hC dX7_waysBy_168 rfl ?_
              refine g_istore hC [(7, .int 0), (5, .long 0), (0, .ref (b + 58)), (1, .int (nI a0)), (2, .int (nI n)), (3, .int (nI hr)), (4, .int x)] dX7_waysBy_169 (by decide) rfl ?_
              have lp_171_5 : ∀ (n_5 : Nat) (ac2 : Int64) (i2 : Nat), 49 - i2 < n_5 → (i2 ≤ 49 ∧ ac2 = rgS (wyK it n fh fn 24) 0 i2) → fm_G pq l eq (fm_rm 1 26 0 0) sq mq aq bq tq cq D cA b 10 (MQ bq (fm_Q D cA b LAY (fm_pl (fun r M' L' => r = clS it n fh fn ∧ M' = M ∧ (∀ r, r ≠ 76 → L' r = L r)))) aq sq 0 0 (fun q => b ≤ q)) LAY M La 0 0 171 [(0, .ref (b + 58)), (5, .long ac2), (7, .int (nI i2))] [] := by
                intro n_5
                induction n_5 with
                | zero => intro ac2 i2 hm_5; exact absurd hm_5 (Nat.not_lt_zero _)
                | succ n_5 ih_5 =>
                  intro ac2 i2 hm_5 hinv_5
                  obtain ⟨y1, ey⟩ := hinv_5
                  refine g_iload hC dX7_waysBy_171 2 rfl ?_
                  refine g_bipush (v := 48) hC dX7_waysBy_173 rfl ?_
                  refine g_icmp_gt_T (X := ((i2 : Nat) : Int)) (Y := 48) hC (nI_toInt (by omega)) rfl 196 dX7_waysBy_175 rfl (fun c_6 => ?_) (fun c_6 => ?_)
                  · skip
                    refine g_lload hC dX7_waysBy_196 1 rfl ?_
                    refine g_lret hC rfl dX7_waysBy_198 ?_
                    have ei : i2 = 49 := by omega
                    subst ei
                    exact ⟨_, rfl, ey, rfl, a2⟩
                  · skip
                    refine g_lload hC dX7_waysBy_178 1 rfl ?_
                    refine g_aload_n hC dX7_waysBy_180 rfl 0 rfl ?_
                    refine g_getR (ci := 7) (i := 31) (k := 58) (t := 76) hC fm_in7 rfl ly_58 rfl (by decide) fw_651 dX7_waysBy_181 ?_
                    refine g_iload hC dX7_waysBy_184 2 rfl ?_
                    refine g_laldN (j := i2) (k := 76) hC ly_76 rfl (by omega) (by decide) dX7_waysBy_186 ?_
                    refine g_topL (y := wyK it n fh fn 24 i2) (a3 i2 (by omega)) ?_
                    refine g_ladd hC dX7_waysBy_187 ?_
                    refine g_lstore hC [(5, .long (ac2 + (wyK it n fh fn 24 i2))), (0, .ref (b + 58)), (7, .int (nI i2))] dX7_waysBy_188 (by decide) rfl ?_
                    refine g_iinc hC [(7, .int (nI (i2 + 1))), (5, .long (ac2 + (wyK it n fh fn 24 i2))), (0, .ref (b + 58))] dX7_waysBy_190 2 rfl (by rw [show Int32.ofInt 1 = nI 1 from rfl, nI_add]) (by decide) rfl ?_
                    refine g_goto hC 171 dX7_waysBy_193 rfl ?_
                    exact g_sub [2, 1, 0] rfl (ih_5 (ac2 + (wyK it n fh fn 24 i2)) (i2 + 1) (by omega) (⟨by omega, by rw [rg_s, ey, Nat.zero_add]⟩))
              exact g_sub [2, 1, 0] rfl (lp_171_5 (49 - 0 + 1) 0 0 (Nat.lt_succ_self _) (⟨by decide, rfl⟩))
            · skip
              refine g_bipush (v := 48) hC dX7_waysBy_54 rfl ?_
              refine g_top (y := nI 49 + (-1)) (by decide) ?_
              refine g_istore hC [(6, .int (nI 49 + (-1))), (0, .ref (b + 58)), (1, .int (nI a0)), (2, .int (nI n)), (3, .int (nI hr)), (4, .int x), (5, .int (nI h))] dX7_waysBy_56 (by decide) rfl ?_
              have lp_58_7 : ∀ (n_7 : Nat) (Lb : Nat → Nat → Int64) (m : Nat), m < n_7 → (m ≤ 49 ∧ (∀ r, r ≠ 76 → Lb r = L r) ∧ (∀ j, j < m → Lb 76 j = wyK it n fh fn h j) ∧ (∀ j, m ≤ j → j < 49 → Lb 76 j = wyK it n fh fn (h + 1) j)) → fm_G pq l eq (fm_rm 1 26 0 0) sq mq aq bq tq cq D cA b 10 (MQ bq (fm_Q D cA b LAY (fm_pl (fun r M' L' => r = clS it n fh fn ∧ M' = M ∧ (∀ r, r ≠ 76 → L' r = L r)))) aq sq 0 0 (fun q => b ≤ q)) LAY M Lb 0 0 58 [(0, .ref (b + 58)), (1, .int (nI a0)), (2, .int (nI n)), (3, .int (nI hr)), (4, .int x), (5, .int (nI h)), (6, .int (nI m + (-1)))] [] := by
                intro n_7
                induction n_7 with
                | zero => intro Lb m hm_7; exact absurd hm_7 (Nat.not_lt_zero _)
                | succ n_7 ih_7 =>
                  intro Lb m hm_7 hinv_7
                  obtain ⟨m1, m2, m3, m4⟩ := hinv_7
                  refine g_iload hC dX7_waysBy_58 6 rfl ?_
                  refine g_if_lt_T (X := ((m : Nat) : Int) - 1) hC (m1_t (by omega)) 159 dX7_waysBy_60 rfl (fun c_8 => ?_) (fun c_8 => ?_)
                  · skip
                    refine g_iinc hC [(5, .int (nI (h + 1))), (0, .ref (b + 58)), (1, .int (nI a0)), (2, .int (nI n)), (3, .int (nI hr)), (4, .int x), (6, .int (nI m + (-1)))] dX7_waysBy_159 5 rfl (by rw [show Int32.ofInt 1 = nI 1 from rfl, nI_add]) (by decide) rfl ?_
                    refine g_goto hC 47 dX7_waysBy_162 rfl ?_
                    exact g_sub [1, 2, 3, 4, 5, 0] rfl (ih_3 Lb (h + 1) (by omega) (⟨by omega, m2, fun j hj => m4 j (by omega) hj⟩))
                  · skip
                    obtain ⟨k, rfl⟩ : ∃ k, m = k + 1 := ⟨m - 1, by omega⟩
                    rw [pk_m1 k]
                    refine g_lconst (v := 0) hC dX7_waysBy_63 rfl ?_
                    refine g_lstore hC [(7, .long 0), (0, .ref (b + 58)), (1, .int (nI a0)), (2, .int (nI n)), (3, .int (nI hr)), (4, .int x), (5, .int (nI h)), (6, .int (nI k))] dX7_waysBy_64 (by decide) rfl ?_
                    refine g_iconst (v := 0) hC dX7_waysBy_66 rfl ?_
                    refine g_istore hC [(9, .int 0), (7, .long 0), (0, .ref (b + 58)), (1, .int (nI a0)), (2, .int (nI n)), (3, .int (nI hr)), (4, .int x), (5, .int (nI h)), (6, .int (nI k))] dX7_waysBy_67 (by decide) rfl ?_
                    have lp_69_9 : ∀ (n_9 : Nat) (acc : Int64) (v : Nat), 3 - v < n_9 → (v ≤ 3 ∧ acc = rgS (fun v => if v ≤ k ∧ ((h : Int) = fh → (v : Int) = fn) then wyK it n fh fn h (k - v) else 0) 0 v) → fm_G pq l eq (fm_rm 1 26 0 0) sq mq aq bq tq cq D cA b 10 (MQ bq (fm_Q D cA b LAY (fm_pl (fun r M' L' => r = clS it n fh fn ∧ M' = M ∧ (∀ r, r ≠ 76 → L' r = L r)))) aq sq 0 0 (fun q => b ≤ q)) LAY M Lb 0 0 69 [(0, .ref (b + 58)), (1, .int (nI a0)), (2, .int (nI n)), (3, .int (nI hr)), (4, .int x), (5, .int (nI h)), (6, .int (nI k)), (7, .long acc), (9, .int (nI v))] [] := by
                      intro n_9
                      induction n_9 with
                      | zero => intro acc v hm_9; exact absurd hm_9 (Nat.not_lt_zero _)
                      | succ n_9 ih_9 =>
                        intro acc v hm_9 hinv_9
                        obtain ⟨v1, ea⟩ := hinv_9
                        refine g_iload hC dX7_waysBy_69 8 rfl ?_
                        refine g_iconst (v := 3) hC dX7_waysBy_71 rfl ?_
                        refine g_icmp_ge_T (X := ((v : Nat) : Int)) (Y := 3) hC (nI_toInt (by omega)) rfl 125 dX7_waysBy_72 rfl (fun c_10 => ?_) (fun c_10 => ?_)
                        · skip
                          have e3 : acc = rgS (fun v => if v ≤ k ∧ ((h : Int) = fh → (v : Int) = fn) then wyK it n fh fn h (k - v) else 0) 0 3 := by rw [ea, show v = 3 by omega]
                          refine g_aload_n hC dX7_waysBy_125 rfl 0 rfl ?_
                          refine g_getR (ci := 7) (i := 31) (k := 58) (t := 76) hC fm_in7 rfl ly_58 rfl (by decide) fw_651 dX7_waysBy_126 ?_
                          refine g_iload hC dX7_waysBy_129 6 rfl ?_
                          refine g_aload_n hC dX7_waysBy_131 rfl 0 rfl ?_
                          refine g_iload_n hC dX7_waysBy_132 rfl 1 rfl ?_
                          refine g_iload_n hC dX7_waysBy_133 rfl 2 rfl ?_
                          refine g_iload hC dX7_waysBy_134 5 rfl ?_
                          refine g_iconst (v := 1) hC dX7_waysBy_136 rfl ?_
                          refine g_iadd hC dX7_waysBy_137 ?_
                          refine g_top (y := nI (h + 1)) (nI_add _ _) ?_
                          refine g_iload hC dX7_waysBy_138 6 rfl ?_
                          refine g_callV hC (k := 58) (ci := 7) (as := [.int (nI a0), .int (nI n), .int (nI (h + 1)), .int (nI k)]) (rest := [.int (nI k), .ref (b + 76)]) (c_X7_isTold l D cA b M Lb a0 it n (h + 1) k ha (fun k9 hk9 => (by rw [m2 75 (by decide)]; exact hit k9 hk9)) (by omega) (by omega)) ⟨fw_984, fw_986, fs_38, fw_9, fw_987⟩ ⟨rfl, hd_X7_isTold⟩ rfl ly_58 ⟨Nat.le_of_ble_eq_true rfl, Nat.le_of_ble_eq_true rfl⟩ ⟨Nat.le_of_ble_eq_true rfl, Nat.le_of_ble_eq_true rfl⟩ rfl rfl (Nat.le_of_ble_eq_true rfl) dX7_waysBy_140 (g_rix ?_)
                          refine g_ifb_eq hC 151 dX7_waysBy_143 rfl (fun c_12 => ?_) (fun c_12 => ?_)
                          · skip
                            have okk := c_12
                            refine g_lconst (v := 0) hC dX7_waysBy_151 rfl ?_
                            refine g_lastN (j := k) (k := 76) hC ly_76 rfl (by omega) (by decide) dX7_waysBy_152 ?_
                            refine g_iinc hC [(6, .int (nI k + (-1))), (0, .ref (b + 58)), (1, .int (nI a0)), (2, .int (nI n)), (3, .int (nI hr)), (4, .int x), (5, .int (nI h)), (7, .long acc), (9, .int (nI v))] dX7_waysBy_153 6 rfl (congrArg (fun z => nI k + z) (by decide : Int32.ofInt (-1) = (-1 : Int32))) (by decide) rfl ?_
                            refine g_goto hC 58 dX7_waysBy_156 rfl ?_
                            exact g_sub [1, 2, 3, 4, 5, 6, 0] rfl (ih_7 (fm_upL Lb 76 k 0) k (by omega) (⟨by omega, fun r hr9 => (by rw [fm_upLn hr9]; exact m2 r hr9), fun j hj => (by rw [fm_upLv, if_neg (by omega)]; exact m3 j (by omega)), fun j j9 hj => (by rw [fm_upLv]; by_cases ej : j = k; rw [if_pos ej, ej, wy_s, if_neg okk]; rw [if_neg ej]; exact m4 j (by omega) hj)⟩))
                          · skip
                            have okk := c_12
                            refine g_lload hC dX7_waysBy_146 7 rfl ?_
                            refine g_goto hC 152 dX7_waysBy_148 rfl ?_
                            refine g_lastN (j := k) (k := 76) hC ly_76 rfl (by omega) (by decide) dX7_waysBy_152 ?_
                            refine g_iinc hC [(6, .int (nI k + (-1))), (0, .ref (b + 58)), (1, .int (nI a0)), (2, .int (nI n)), (3, .int (nI hr)), (4, .int x), (5, .int (nI h)), (7, .long acc), (9, .int (nI v))] dX7_waysBy_153 6 rfl (congrArg (fun z => nI k + z) (by decide : Int32.ofInt (-1) = (-1 : Int32))) (by decide) rfl ?_
                            refine g_goto hC 58 dX7_waysBy_156 rfl ?_
                            exact g_sub [1, 2, 3, 4, 5, 6, 0] rfl (ih_7 (fm_upL Lb 76 k acc) k (by omega) (⟨by omega, fun r hr9 => (by rw [fm_upLn hr9]; exact m2 r hr9), fun j hj => (by rw [fm_upLv, if_neg (by omega)]; exact m3 j (by omega)), fun j j9 hj => (by rw [fm_upLv]; by_cases ej : j = k; rw [if_pos ej, ej, wy_s, if_pos okk, e3]; rw [if_neg ej]; exact m4 j (by omega) hj)⟩))
                        · skip
                          refine g_iload hC dX7_waysBy_75 8 rfl ?_
                          refine g_iload hC dX7_waysBy_77 6 rfl ?_
                          refine g_icmp_gt_T (X := ((v : Nat) : Int)) (Y := ((k : Nat) : Int)) hC (nI_toInt (by omega)) (nI_toInt (by omega)) 125 dX7_waysBy_79 rfl (fun c_13 => ?_) (fun c_13 => ?_)
                          · skip
                            have e3 : acc = rgS (fun v => if v ≤ k ∧ ((h : Int) = fh → (v : Int) = fn) then wyK it n fh fn h (k - v) else 0) 0 3 := by rw [ea]; exact (rg_z 3 (by omega) (fun u u1 u2 => if_neg (fun z => by omega))).symm
                            refine g_aload_n hC dX7_waysBy_125 rfl 0 rfl ?_
                            refine g_getR (ci := 7) (i := 31) (k := 58) (t := 76) hC fm_in7 rfl ly_58 rfl (by decide) fw_651 dX7_waysBy_126 ?_
                            refine g_iload hC dX7_waysBy_129 6 rfl ?_
                            refine g_aload_n hC dX7_waysBy_131 rfl 0 rfl ?_
                            refine g_iload_n hC dX7_waysBy_132 rfl 1 rfl ?_
                            refine g_iload_n hC dX7_waysBy_133 rfl 2 rfl ?_
                            refine g_iload hC dX7_waysBy_134 5 rfl ?_
                            refine g_iconst (v := 1) hC dX7_waysBy_136 rfl ?_
                            refine g_iadd hC dX7_waysBy_137 ?_
                            refine g_top (y := nI (h + 1)) (nI_add _ _) ?_
                            refine g_iload hC dX7_waysBy_138 6 rfl ?_
                            refine g_callV hC (k := 58) (ci := 7) (as := [.int (nI a0), .int (nI n), .int (nI (h + 1)), .int (nI k)]) (rest := [.int (nI k), .ref (b + 76)]) (c_X7_isTold l D cA b M Lb a0 it n (h + 1) k ha (fun k9 hk9 => (by rw [m2 75 (by decide)]; exact hit k9 hk9)) (by omega) (by omega)) ⟨fw_984, fw_986, fs_38, fw_9, fw_987⟩ ⟨rfl, hd_X7_isTold⟩ rfl ly_58 ⟨Nat.le_of_ble_eq_true rfl, Nat.le_of_ble_eq_true rfl⟩ ⟨Nat.le_of_ble_eq_true rfl, Nat.le_of_ble_eq_true rfl⟩ rfl rfl (Nat.le_of_ble_eq_true rfl) dX7_waysBy_140 (g_rix ?_)
                            refine g_ifb_eq hC 151 dX7_waysBy_143 rfl (fun c_15 => ?_) (fun c_15 => ?_)
                            · skip
                              have okk := c_15
                              refine g_lconst (v := 0) hC dX7_waysBy_151 rfl ?_
                              refine g_lastN (j := k) (k := 76) hC ly_76 rfl (by omega) (by decide) dX7_waysBy_152 ?_
                              refine g_iinc hC [(6, .int (nI k + (-1))), (0, .ref (b + 58)), (1, .int (nI a0)), (2, .int (nI n)), (3, .int (nI hr)), (4, .int x), (5, .int (nI h)), (7, .long acc), (9, .int (nI v))] dX7_waysBy_153 6 rfl (congrArg (fun z => nI k + z) (by decide : Int32.ofInt (-1) = (-1 : Int32))) (by decide) rfl ?_
                              refine g_goto hC 58 dX7_waysBy_156 rfl ?_
                              exact g_sub [1, 2, 3, 4, 5, 6, 0] rfl (ih_7 (fm_upL Lb 76 k 0) k (by omega) (⟨by omega, fun r hr9 => (by rw [fm_upLn hr9]; exact m2 r hr9), fun j hj => (by rw [fm_upLv, if_neg (by omega)]; exact m3 j (by omega)), fun j j9 hj => (by rw [fm_upLv]; by_cases ej : j = k; rw [if_pos ej, ej, wy_s, if_neg okk]; rw [if_neg ej]; exact m4 j (by omega) hj)⟩))
                            · skip
                              have okk := c_15
                              refine g_lload hC dX7_waysBy_146 7 rfl ?_
                              refine g_goto hC 152 dX7_waysBy_148 rfl ?_
                              refine g_lastN (j := k) (k := 76) hC ly_76 rfl (by omega) (by decide) dX7_waysBy_152 ?_
                              refine g_iinc hC [(6, .int (nI k + (-1))), (0, .ref (b + 58)), (1, .int (nI a0)), (2, .int (nI n)), (3, .int (nI hr)), (4, .int x), (5, .int (nI h)), (7, .long acc), (9, .int (nI v))] dX7_waysBy_153 6 rfl (congrArg (fun z => nI k + z) (by decide : Int32.ofInt (-1) = (-1 : Int32))) (by decide) rfl ?_
                              refine g_goto hC 58 dX7_waysBy_156 rfl ?_
                              exact g_sub [1, 2, 3, 4, 5, 6, 0] rfl (ih_7 (fm_upL Lb 76 k acc) k (by omega) (⟨by omega, fun r hr9 => (by rw [fm_upLn hr9]; exact m2 r hr9), fun j hj => (by rw [fm_upLv, if_neg (by omega)]; exact m3 j (by omega)), fun j j9 hj => (by rw [fm_upLv]; by_cases ej : j = k; rw [if_pos ej, ej, wy_s, if_pos okk, e3]; rw [if_neg ej]; exact m4 j (by omega) hj)⟩))
                          · skip
                            refine g_lload hC dX7_waysBy_82 7 rfl ?_
                            refine g_iload hC dX7_waysBy_84 5 rfl ?_
                            refine g_iload_n hC dX7_waysBy_86 rfl 3 rfl ?_
                            refine g_icmp_ne_T (X := ((h : Nat) : Int)) (Y := ((hr : Nat) : Int)) hC (nI_toInt (by omega)) (nI_toInt (by omega)) 102 dX7_waysBy_87 rfl (fun c_16 => ?_) (fun c_16 => ?_)
                            · skip
                              refine g_aload_n hC dX7_waysBy_102 rfl 0 rfl ?_
                              refine g_getR (ci := 7) (i := 31) (k := 58) (t := 76) hC fm_in7 rfl ly_58 rfl (by decide) fw_651 dX7_waysBy_103 ?_
                              refine g_iload hC dX7_waysBy_106 6 rfl ?_
                              refine g_iload hC dX7_waysBy_108 8 rfl ?_
                              refine g_isub hC dX7_waysBy_110 ?_
                              refine g_top (y := nI (k - v)) (pk_sub (a := k) (b := v) (by omega)) ?_
                              refine g_laldN (j := k - v) (k := 76) hC ly_76 rfl (by omega) (by decide) dX7_waysBy_111 ?_
                              refine g_topL (y := wyK it n fh fn h (k - v)) (m3 (k - v) (by omega)) ?_
                              refine g_goto hC 116 dX7_waysBy_112 rfl ?_
                              refine g_ladd hC dX7_waysBy_116 ?_
                              refine g_topL (y := acc + (wyK it n fh fn h (k - v))) rfl ?_
                              refine g_lstore hC [(7, .long (acc + (wyK it n fh fn h (k - v)))), (0, .ref (b + 58)), (1, .int (nI a0)), (2, .int (nI n)), (3, .int (nI hr)), (4, .int x), (5, .int (nI h)), (6, .int (nI k)), (9, .int (nI v))] dX7_waysBy_117 (by decide) rfl ?_
                              refine g_iinc hC [(9, .int (nI (v + 1))), (7, .long (acc + (wyK it n fh fn h (k - v)))), (0, .ref (b + 58)), (1, .int (nI a0)), (2, .int (nI n)), (3, .int (nI hr)), (4, .int x), (5, .int (nI h)), (6, .int (nI k))] dX7_waysBy_119 8 rfl (by rw [show Int32.ofInt 1 = nI 1 from rfl, nI_add]) (by decide) rfl ?_
                              refine g_goto hC 69 dX7_waysBy_122 rfl ?_
                              exact g_sub [2, 3, 4, 5, 6, 7, 8, 1, 0] rfl (ih_9 (acc + (wyK it n fh fn h (k - v))) (v + 1) (by omega) (⟨by omega, (by rw [rg_s, ea, Nat.zero_add, if_pos ⟨show v ≤ k by omega, (hal h v (by omega) (by omega)).mpr (by omega)⟩])⟩))
                            · skip
                              refine g_iload hC dX7_waysBy_90 4 rfl ?_
                              refine g_if_lt_T (X := x.toInt) hC rfl 102 dX7_waysBy_92 rfl (fun c_17 => ?_) (fun c_17 => ?_)
                              · skip
                                refine g_aload_n hC dX7_waysBy_102 rfl 0 rfl ?_
                                refine g_getR (ci := 7) (i := 31) (k := 58) (t := 76) hC fm_in7 rfl ly_58 rfl (by decide) fw_651 dX7_waysBy_103 ?_
                                refine g_iload hC dX7_waysBy_106 6 rfl ?_
                                refine g_iload hC dX7_waysBy_108 8 rfl ?_
                                refine g_isub hC dX7_waysBy_110 ?_
                                refine g_top (y := nI (k - v)) (pk_sub (a := k) (b := v) (by omega)) ?_
                                refine g_laldN (j := k - v) (k := 76) hC ly_76 rfl (by omega) (by decide) dX7_waysBy_111 ?_
                                refine g_topL (y := wyK it n fh fn h (k - v)) (m3 (k - v) (by omega)) ?_
                                refine g_goto hC 116 dX7_waysBy_112 rfl ?_
                                refine g_ladd hC dX7_waysBy_116 ?_
                                refine g_topL (y := acc + (wyK it n fh fn h (k - v))) rfl ?_
                                refine g_lstore hC [(7, .long (acc + (wyK it n fh fn h (k - v)))), (0, .ref (b + 58)), (1, .int (nI a0)), (2, .int (nI n)), (3, .int (nI hr)), (4, .int x), (5, .int (nI h)), (6, .int (nI k)), (9, .int (nI v))] dX7_waysBy_117 (by decide) rfl ?_
                                refine g_iinc hC [(9, .int (nI (v + 1))), (7, .long (acc + (wyK it n fh fn h (k - v)))), (0, .ref (b + 58)), (1, .int (nI a0)), (2, .int (nI n)), (3, .int (nI hr)), (4, .int x), (5, .int (nI h)), (6, .int (nI k))] dX7_waysBy_119 8 rfl (by rw [show Int32.ofInt 1 = nI 1 from rfl, nI_add]) (by decide) rfl ?_
                                refine g_goto hC 69 dX7_waysBy_122 rfl ?_
                                exact g_sub [2, 3, 4, 5, 6, 7, 8, 1, 0] rfl (ih_9 (acc + (wyK it n fh fn h (k - v))) (v + 1) (by omega) (⟨by omega, (by rw [rg_s, ea, Nat.zero_add, if_pos ⟨show v ≤ k by omega, (hal h v (by omega) (by omega)).mpr (by omega)⟩])⟩))
                              · skip
                                refine g_iload hC dX7_waysBy_95 8 rfl ?_
                                refine g_iload hC dX7_waysBy_97 4 rfl ?_
                                refine g_icmp_ne_T (X := ((v : Nat) : Int)) (Y := x.toInt) hC (nI_toInt (by omega)) rfl 115 dX7_waysBy_99 rfl (fun c_18 => ?_) (fun c_18 => ?_)
                                · skip
                                  refine g_lconst (v := 0) hC dX7_waysBy_115 rfl ?_
                                  refine g_ladd hC dX7_waysBy_116 ?_
                                  refine g_topL (y := acc) (Int64.add_zero _) ?_
                                  refine g_lstore hC [(7, .long acc), (0, .ref (b + 58)), (1, .int (nI a0)), (2, .int (nI n)), (3, .int (nI hr)), (4, .int x), (5, .int (nI h)), (6, .int (nI k)), (9, .int (nI v))] dX7_waysBy_117 (by decide) rfl ?_
                                  refine g_iinc hC [(9, .int (nI (v + 1))), (7, .long acc), (0, .ref (b + 58)), (1, .int (nI a0)), (2, .int (nI n)), (3, .int (nI hr)), (4, .int x), (5, .int (nI h)), (6, .int (nI k))] dX7_waysBy_119 8 rfl (by rw [show Int32.ofInt 1 = nI 1 from rfl, nI_add]) (by decide) rfl ?_
                                  refine g_goto hC 69 dX7_waysBy_122 rfl ?_
                                  exact g_sub [2, 3, 4, 5, 6, 7, 8, 1, 0] rfl (ih_9 acc (v + 1) (by omega) (⟨by omega, (by rw [rg_s, ea, Nat.zero_add, if_neg (fun z => absurd ((hal h v (by omega) (by omega)).mp z.2) (by omega)), Int64.add_zero])⟩))
                                · skip
                                  refine g_aload_n hC dX7_waysBy_102 rfl 0 rfl ?_
                                  refine g_getR (ci := 7) (i := 31) (k := 58) (t := 76) hC fm_in7 rfl ly_58 rfl (by decide) fw_651 dX7_waysBy_103 ?_
                                  refine g_iload hC dX7_waysBy_106 6 rfl ?_
                                  refine g_iload hC dX7_waysBy_108 8 rfl ?_
                                  refine g_isub hC dX7_waysBy_110 ?_
                                  refine g_top (y := nI (k - v)) (pk_sub (a := k) (b := v) (by omega)) ?_
                                  refine g_laldN (j := k - v) (k := 76) hC ly_76 rfl (by omega) (by decide) dX7_waysBy_111 ?_
                                  refine g_topL (y := wyK it n fh fn h (k - v)) (m3 (k - v) (by omega)) ?_
                                  refine g_goto hC 116 dX7_waysBy_112 rfl ?_
                                  refine g_ladd hC dX7_waysBy_116 ?_
                                  refine g_topL (y := acc + (wyK it n fh fn h (k - v))) rfl ?_
                                  refine g_lstore hC [(7, .long (acc + (wyK it n fh fn h (k - v)))), (0, .ref (b + 58)), (1, .int (nI a0)), (2, .int (nI n)), (3, .int (nI hr)), (4, .int x), (5, .int (nI h)), (6, .int (nI k)), (9, .int (nI v))] dX7_waysBy_117 (by decide) rfl ?_
                                  refine g_iinc hC [(9, .int (nI (v + 1))), (7, .long (acc + (wyK it n fh fn h (k - v)))), (0, .ref (b + 58)), (1, .int (nI a0)), (2, .int (nI n)), (3, .int (nI hr)), (4, .int x), (5, .int (nI h)), (6, .int (nI k))] dX7_waysBy_119 8 rfl (by rw [show Int32.ofInt 1 = nI 1 from rfl, nI_add]) (by decide) rfl ?_
                                  refine g_goto hC 69 dX7_waysBy_122 rfl ?_
                                  exact g_sub [2, 3, 4, 5, 6, 7, 8, 1, 0] rfl (ih_9 (acc + (wyK it n fh fn h (k - v))) (v + 1) (by omega) (⟨by omega, (by rw [rg_s, ea, Nat.zero_add, if_pos ⟨show v ≤ k by omega, (hal h v (by omega) (by omega)).mpr (by omega)⟩])⟩))
                    exact g_sub [2, 3, 4, 5, 6, 7, 8, 1, 0] rfl (lp_69_9 (3 - 0 + 1) 0 0 (Nat.lt_succ_self _) (⟨by decide, rfl⟩))
              exact g_sub [1, 2, 3, 4, 5, 6, 0] rfl (lp_58_7 (49 + 1) La 49 (Nat.lt_succ_self _) (⟨by decide, a2, fun j hj => a3 j (by omega), fun j j9 hj => by omega⟩))
        exact g_sub [1, 2, 3, 4, 5, 0] rfl (lp_47_3 (24 - 0 + 1) L1 0 (Nat.lt_succ_self _) (⟨by decide, j2, fun j hj => j3 j (by omega)⟩))
      · skip
        refine g_aload_n hC dX7_waysBy_10 rfl 0 rfl ?_
        refine g_getR (ci := 7) (i := 31) (k := 58) (t := 76) hC fm_in7 rfl ly_58 rfl (by decide) fw_651 dX7_waysBy_11 ?_
        refine g_iload hC dX7_waysBy_14 5 rfl ?_
        refine g_iload hC dX7_waysBy_16 5 rfl ?_
        refine g_if_ne_T (X := ((i : Nat) : Int)) hC (nI_toInt (by omega)) 36 dX7_waysBy_18 rfl (fun c_19 => ?_) (fun c_19 => ?_)
        · skip
          refine g_lconst (v := 0) hC dX7_waysBy_36 rfl ?_
          refine g_lastN (j := i) (k := 76) hC ly_76 rfl (by omega) (by decide) dX7_waysBy_37 ?_
          refine g_iinc hC [(5, .int (nI (i + 1))), (0, .ref (b + 58)), (1, .int (nI a0)), (2, .int (nI n)), (3, .int (nI hr)), (4, .int x)] dX7_waysBy_38 5 rfl (by rw [show Int32.ofInt 1 = nI 1 from rfl, nI_add]) (by decide) rfl ?_
          refine g_goto hC 3 dX7_waysBy_41 rfl ?_
          exact g_sub [1, 2, 3, 4, 5, 0] rfl (ih_1 (fm_upL L1 76 i 0) (i + 1) (by omega) (⟨by omega, fun r hr9 => (by rw [fm_upLn hr9]; exact j2 r hr9), fun j hj => (by rw [fm_upLv]; by_cases ej : j = i; rw [if_pos ej, ej, wy_0, if_neg (fun z => by omega)]; rw [if_neg ej]; exact j3 j (by omega))⟩))
        · skip
          refine g_aload_n hC dX7_waysBy_21 rfl 0 rfl ?_
          refine g_iload_n hC dX7_waysBy_22 rfl 1 rfl ?_
          refine g_iload_n hC dX7_waysBy_23 rfl 2 rfl ?_
          refine g_iconst (v := 0) hC dX7_waysBy_24 rfl ?_
          refine g_iconst (v := 0) hC dX7_waysBy_25 rfl ?_
          refine g_callV hC (k := 58) (ci := 7) (as := [.int (nI a0), .int (nI n), .int 0, .int 0]) (rest := [.int (nI i), .ref (b + 76)]) (c_X7_isTold l D cA b M L1 a0 it n 0 0 ha (fun k9 hk9 => (by rw [j2 75 (by decide)]; exact hit k9 hk9)) (by decide) (by decide)) ⟨fw_984, fw_986, fs_38, fw_9, fw_987⟩ ⟨rfl, hd_X7_isTold⟩ rfl ly_58 ⟨Nat.le_of_ble_eq_true rfl, Nat.le_of_ble_eq_true rfl⟩ ⟨Nat.le_of_ble_eq_true rfl, Nat.le_of_ble_eq_true rfl⟩ rfl rfl (Nat.le_of_ble_eq_true rfl) dX7_waysBy_26 (g_rix ?_)
          refine g_ifb_eq hC 36 dX7_waysBy_29 rfl (fun c_21 => ?_) (fun c_21 => ?_)
          · skip
            have ok0 := c_21
            refine g_lconst (v := 0) hC dX7_waysBy_36 rfl ?_
            refine g_lastN (j := i) (k := 76) hC ly_76 rfl (by omega) (by decide) dX7_waysBy_37 ?_
            refine g_iinc hC [(5, .int (nI (i + 1))), (0, .ref (b + 58)), (1, .int (nI a0)), (2, .int (nI n)), (3, .int (nI hr)), (4, .int x)] dX7_waysBy_38 5 rfl (by rw [show Int32.ofInt 1 = nI 1 from rfl, nI_add]) (by decide) rfl ?_
            refine g_goto hC 3 dX7_waysBy_41 rfl ?_
            exact g_sub [1, 2, 3, 4, 5, 0] rfl (ih_1 (fm_upL L1 76 i 0) (i + 1) (by omega) (⟨by omega, fun r hr9 => (by rw [fm_upLn hr9]; exact j2 r hr9), fun j hj => (by rw [fm_upLv]; by_cases ej : j = i; rw [if_pos ej, ej, wy_0, if_neg (fun z => ok0 z.2)]; rw [if_neg ej]; exact j3 j (by omega))⟩))
          · skip
            have ok0 := c_21
            refine g_lconst (v := 1) hC dX7_waysBy_32 rfl ?_
            refine g_goto hC 37 dX7_waysBy_33 rfl ?_
            refine g_lastN (j := i) (k := 76) hC ly_76 rfl (by omega) (by decide) dX7_waysBy_37 ?_
            refine g_iinc hC [(5, .int (nI (i + 1))), (0, .ref (b + 58)), (1, .int (nI a0)), (2, .int (nI n)), (3, .int (nI hr)), (4, .int x)] dX7_waysBy_38 5 rfl (by rw [show Int32.ofInt 1 = nI 1 from rfl, nI_add]) (by decide) rfl ?_
            refine g_goto hC 3 dX7_waysBy_41 rfl ?_
            exact g_sub [1, 2, 3, 4, 5, 0] rfl (ih_1 (fm_upL L1 76 i 1) (i + 1) (by omega) (⟨by omega, fun r hr9 => (by rw [fm_upLn hr9]; exact j2 r hr9), fun j hj => (by rw [fm_upLv]; by_cases ej : j = i; rw [if_pos ej, ej, wy_0, if_pos ⟨by omega, ok0⟩]; rw [if_neg ej]; exact j3 j (by omega))⟩))
  exact g_sub [1, 2, 3, 4, 5, 0] rfl (lp_3_1 (49 - 0 + 1) L 0 (Nat.lt_succ_self _) (⟨by decide, fun _ _ => rfl, fun j hj => absurd hj (Nat.not_lt_zero _)⟩))

theorem c_X7_lacksClocks (l : Launch) (D : va_G) (cA : Nat → ClassId) (b : Nat) (M : Nat → Nat → Int32) (L : Nat → Nat → Int64) (g : Sg) (q : Nat) (ln : Int32) (f : Int32) (n0 : Nat) (hS : RS M L g) (hok : OK g) (qb : q < 4) (hl : 0 ≤ ln.toInt ∧ ln.toInt ≤ 2) (hn0 : 1 ≤ n0 ∧ n0 ≤ 8) : fm_Met l D cA b yX7_lacksClocks cX7_lacksClocks 7 (some .int) 2 49 0 0 [.ref (b + 58), .int (nI q), .int ln, .int f, .int (nI n0)] LAY M L LAY (fm_pi (shC g.2.2.2.2 (nI q).toInt ln.toInt f.toInt (nI n0).toInt) M L) := by
  refine fm_start RX7 rfl (by decide) (Nat.le_of_ble_eq_true rfl) ?_
  intro pq eq sq mq aq bq tq cq hC hin
  have qt : (nI q).toInt = (q : Int) := nI_toInt (by omega)
  have qn : (nI q).toInt.toNat = q := by omega
  have qs := hS.2.2.2.2 q qb
  have qo := hok.2.2.2.2 q qb
  have n0t : (nI n0).toInt = (n0 : Int) := nI_toInt (by omega)
  have n0n : (nI n0).toInt.toNat = n0 := by omega
  refine g_aload_n hC dX7_lacksClocks_0 rfl 0 rfl ?_
  refine g_iload_n hC dX7_lacksClocks_1 rfl 1 rfl ?_
  refine g_iload_n hC dX7_lacksClocks_2 rfl 2 rfl ?_
  refine g_iload_n hC dX7_lacksClocks_3 rfl 3 rfl ?_
  refine g_iconst (v := 2) hC dX7_lacksClocks_4 rfl ?_
  refine g_iload hC dX7_lacksClocks_5 4 rfl ?_
  refine g_imul hC dX7_lacksClocks_7 ?_
  refine g_top (y := nI (2 * n0)) (pk_mul _ _) ?_
  refine g_callV hC (k := 58) (ci := 7) (as := [.int (nI q), .int ln, .int f, .int (nI (2 * n0))]) (rest := []) (c_X7_lacksRow l D cA b M L g q ln f (2 * n0) hS hok qb hl (by omega)) ⟨fw_965, fw_967, fs_35, fw_9, fw_968⟩ ⟨rfl, hd_X7_lacksRow⟩ rfl ly_58 ⟨Nat.le_of_ble_eq_true rfl, Nat.le_of_ble_eq_true rfl⟩ ⟨Nat.le_of_ble_eq_true rfl, Nat.le_of_ble_eq_true rfl⟩ rfl rfl (Nat.le_of_ble_eq_true rfl) dX7_lacksClocks_8 (g_rix ?_)
  refine g_istore hC [(5, .int (shR g.2.2.2.2 (nI q).toInt ln.toInt f.toInt (2 * n0))), (0, .ref (b + 58)), (1, .int (nI q)), (2, .int ln), (3, .int f), (4, .int (nI n0))] dX7_lacksClocks_11 (by decide) rfl ?_
  by_cases c0 : (shR g.2.2.2.2 (nI q).toInt ln.toInt f.toInt (2 * n0)).toInt = 0
  · obtain ⟨⟨z1, z2⟩, z3, z4, z5⟩ := shR_0 c0
    rw [qn] at z3 z5
    rw [show shR g.2.2.2.2 (nI q).toInt ln.toInt f.toInt (2 * n0) = 0 from Int32.toInt_inj.mp c0]
    obtain ⟨f0, f0b, f0E⟩ : ∃ j9 : Nat, j9 < 25 ∧ f = nI j9 := ic_of (by omega) (by omega)
    subst f0E
    have f0t : (nI f0).toInt = (f0 : Int) := nI_toInt (by omega)
    have f0n : (nI f0).toInt.toNat = f0 := by omega
    refine g_iconst (v := 0) hC dX7_lacksClocks_13 rfl ?_
    refine g_istore hC [(6, .int 0), (5, .int 0), (0, .ref (b + 58)), (1, .int (nI q)), (2, .int ln), (3, .int (nI f0)), (4, .int (nI n0))] dX7_lacksClocks_14 (by decide) rfl ?_
    have lp_16_2 : ∀ (n_2 : Nat) (i : Nat) (no : Int32), n0 - i < n_2 → (i ≤ n0 ∧ ((no = 0 ∧ ∀ k, k < i → (0 ≤ (g.2.2.2.2.2.2 q (f0 + 2 * k)).toInt ∧ (g.2.2.2.2.2.2 q (f0 + 2 * k)).toInt ≤ 24)) ∨ (no = -2 ∧ ∃ k, k < n0 ∧ ¬ (0 ≤ (g.2.2.2.2.2.2 q (f0 + 2 * k)).toInt ∧ (g.2.2.2.2.2.2 q (f0 + 2 * k)).toInt ≤ 24)))) → fm_G pq l eq (fm_rm 2 49 0 0) sq mq aq bq tq cq D cA b 7 (MQ bq (fm_Q D cA b LAY (fm_pi (shC g.2.2.2.2 (nI q).toInt ln.toInt (nI f0).toInt (nI n0).toInt) M L)) aq sq 0 0 (fun q => b ≤ q)) LAY M L 0 0 16 [(6, .int (nI i)), (5, .int no), (0, .ref (b + 58)), (1, .int (nI q)), (2, .int ln), (3, .int (nI f0)), (4, .int (nI n0))] [] := by
      intro n_2
      induction n_2 with
      | zero => intro i no hm_2; exact absurd hm_2 (Nat.not_lt_zero _)
      | succ n_2 ih_2 =>
        intro i no hm_2 hinv_2
        obtain ⟨i1, w1⟩ := hinv_2
        refine g_iload hC dX7_lacksClocks_16 0 rfl ?_
        refine g_iload hC dX7_lacksClocks_18 6 rfl ?_
        refine g_icmp_ge_T (X := ((i : Nat) : Int)) (Y := ((n0 : Nat) : Int)) hC (nI_toInt (by omega)) (nI_toInt (by omega)) 68 dX7_lacksClocks_20 rfl (fun c_3 => ?_) (fun c_3 => ?_)
        · skip
          have xe := c_3
          refine g_iload hC dX7_lacksClocks_68 1 rfl ?_
          refine g_zret (ty := .int) hC rfl rfl dX7_lacksClocks_70 ⟨congrArg (fun z => some (Value.int z)) ?_, rfl, rfl⟩
          rcases w1 with ⟨w3, w4⟩ | ⟨w3, k9, w5, w4⟩
          · unfold shC; rw [if_neg (by omega), n0n, if_neg (by omega), qn, f0n, if_pos (fun k hk => w4 k (by omega)), w3]
          · unfold shC; rw [if_neg (by omega), n0n, if_neg (by omega), qn, f0n, if_neg (fun z => w4 (z k9 w5)), w3]
        · skip
          refine g_iload hC dX7_lacksClocks_23 1 rfl ?_
          refine g_if_ne_T (X := no.toInt) hC rfl 68 dX7_lacksClocks_25 rfl (fun c_4 => ?_) (fun c_4 => ?_)
          · skip
            have xe := c_4
            refine g_iload hC dX7_lacksClocks_68 1 rfl ?_
            refine g_zret (ty := .int) hC rfl rfl dX7_lacksClocks_70 ⟨congrArg (fun z => some (Value.int z)) ?_, rfl, rfl⟩
            rcases w1 with ⟨w3, w4⟩ | ⟨w3, k9, w5, w4⟩
            · exact absurd rfl (by rw [w3] at xe; exact xe)
            · unfold shC; rw [if_neg (by omega), n0n, if_neg (by omega), qn, f0n, if_neg (fun z => w4 (z k9 w5)), w3]
          · skip
            have nz0 := c_4
            refine g_aload_n hC dX7_lacksClocks_28 rfl 2 rfl ?_
            refine g_getR (ci := 7) (i := 30) (k := 58) (t := 75) hC fm_in7 rfl ly_58 rfl (by decide) fw_650 dX7_lacksClocks_29 ?_
            refine g_bipush (v := 24) hC dX7_lacksClocks_32 rfl ?_
            refine g_iload_n hC dX7_lacksClocks_34 rfl 3 rfl ?_
            refine g_imul hC dX7_lacksClocks_35 ?_
            refine g_top (y := nI (24 * q)) (pk_mul _ _) ?_
            refine g_iload_n hC dX7_lacksClocks_36 rfl 5 rfl ?_
            refine g_iadd hC dX7_lacksClocks_37 ?_
            refine g_top (y := nI ((24 * q) + f0)) (nI_add _ _) ?_
            refine g_iconst (v := 2) hC dX7_lacksClocks_38 rfl ?_
            refine g_iload hC dX7_lacksClocks_39 0 rfl ?_
            refine g_imul hC dX7_lacksClocks_41 ?_
            refine g_top (y := nI (2 * i)) (pk_mul _ _) ?_
            refine g_iadd hC dX7_lacksClocks_42 ?_
            refine g_top (y := nI (((24 * q) + f0) + (2 * i))) (nI_add _ _) ?_
            refine g_laldN (j := ((24 * q) + f0) + (2 * i)) (k := 75) hC ly_75 rfl (by omega) (by decide) dX7_lacksClocks_43 ?_
            refine g_topL (y := g.2.2.2.2.2.2 q (f0 + 2 * i)) (by rw [show 24 * q + f0 + 2 * i = 24 * q + (f0 + 2 * i) by omega]; exact (qs.2 (by omega)).2 (f0 + 2 * i) (by omega)) ?_
            refine g_lconst (v := 0) hC dX7_lacksClocks_44 rfl ?_
            refine g_ldc2 (v := 24) hC fw_849 dX7_lacksClocks_45 ?_
            refine g_callS hC (as := [.long (g.2.2.2.2.2.2 q (f0 + 2 * i)), .long 0, .long 24]) (rest := []) (c_X7_in l D cA b LAY M L (g.2.2.2.2.2.2 q (f0 + 2 * i)) 0 24 ((g.2.2.2.2.2.2 q (f0 + 2 * i)).toInt) 0 24 rfl rfl rfl) ⟨fw_725, fw_726, fw_9, fw_727⟩ hd_X7_in ⟨Nat.le_of_ble_eq_true rfl, Nat.le_of_ble_eq_true rfl⟩ ⟨Nat.le_of_ble_eq_true rfl, Nat.le_of_ble_eq_true rfl⟩ rfl rfl (Nat.le_of_ble_eq_true rfl) dX7_lacksClocks_48 (g_rix ?_)
            refine g_ifb_eq hC 58 dX7_lacksClocks_51 rfl (fun c_6 => ?_) (fun c_6 => ?_)
            · skip
              refine g_bipush (v := (-2)) hC dX7_lacksClocks_58 rfl ?_
              refine g_istore hC [(5, .int (-2)), (6, .int (nI i)), (0, .ref (b + 58)), (1, .int (nI q)), (2, .int ln), (3, .int (nI f0)), (4, .int (nI n0))] dX7_lacksClocks_60 (by decide) rfl ?_
              refine g_iinc hC [(6, .int (nI (i + 1))), (5, .int (-2)), (0, .ref (b + 58)), (1, .int (nI q)), (2, .int ln), (3, .int (nI f0)), (4, .int (nI n0))] dX7_lacksClocks_62 1 rfl (by rw [show Int32.ofInt 1 = nI 1 from rfl, nI_add]) (by decide) rfl ?_
              refine g_goto hC 16 dX7_lacksClocks_65 rfl ?_
              exact g_sub [0, 1, 2, 3, 4, 5, 6] rfl (ih_2 (i + 1) (-2) (by omega) (⟨by omega, Or.inr ⟨rfl, i, by omega, by omega⟩⟩))
            · skip
              refine g_iconst (v := 0) hC dX7_lacksClocks_54 rfl ?_
              refine g_goto hC 60 dX7_lacksClocks_55 rfl ?_
              refine g_istore hC [(5, .int 0), (6, .int (nI i)), (0, .ref (b + 58)), (1, .int (nI q)), (2, .int ln), (3, .int (nI f0)), (4, .int (nI n0))] dX7_lacksClocks_60 (by decide) rfl ?_
              refine g_iinc hC [(6, .int (nI (i + 1))), (5, .int 0), (0, .ref (b + 58)), (1, .int (nI q)), (2, .int ln), (3, .int (nI f0)), (4, .int (nI n0))] dX7_lacksClocks_62 1 rfl (by rw [show Int32.ofInt 1 = nI 1 from rfl, nI_add]) (by decide) rfl ?_
              refine g_goto hC 16 dX7_lacksClocks_65 rfl ?_
              exact g_sub [0, 1, 2, 3, 4, 5, 6] rfl (ih_2 (i + 1) 0 (by omega) (⟨by omega, (by rcases w1 with ⟨w3, w4⟩ | ⟨w3, w4⟩; exact Or.inl ⟨rfl, fun k hk => (by by_cases ek : k = i; rw [ek]; omega; exact w4 k (by omega))⟩; (exfalso; rw [w3] at nz0; exact absurd nz0 (by decide)))⟩))
    exact g_sub [0, 1, 2, 3, 4, 5, 6] rfl (lp_16_2 (n0 - 0 + 1) 0 0 (Nat.lt_succ_self _) (⟨Nat.zero_le _, Or.inl ⟨rfl, fun h hh => absurd hh (Nat.not_lt_zero _)⟩⟩))
  · skip
    refine g_iconst (v := 0) hC dX7_lacksClocks_13 rfl ?_
    refine g_istore hC [(6, .int 0), (5, .int (shR g.2.2.2.2 (nI q).toInt ln.toInt f.toInt (2 * n0))), (0, .ref (b + 58)), (1, .int (nI q)), (2, .int ln), (3, .int f), (4, .int (nI n0))] dX7_lacksClocks_14 (by decide) rfl ?_
    refine g_iload hC dX7_lacksClocks_16 0 rfl ?_
    refine g_iload hC dX7_lacksClocks_18 6 rfl ?_
    refine g_icmp_ge_T (X := 0) (Y := ((n0 : Nat) : Int)) hC rfl (nI_toInt (by omega)) 68 dX7_lacksClocks_20 rfl (fun c_7 => ?_) (fun c_7 => ?_)
    · skip
      refine g_iload hC dX7_lacksClocks_68 1 rfl ?_
      refine g_zret (ty := .int) hC rfl rfl dX7_lacksClocks_70 ⟨congrArg (fun z => some (Value.int z)) ?_, rfl, rfl⟩
      unfold shC; rw [if_neg (by omega), n0n, if_pos c0]
    · skip
      refine g_iload hC dX7_lacksClocks_23 1 rfl ?_
      refine g_if_ne_T (X := (shR g.2.2.2.2 (nI q).toInt ln.toInt f.toInt (2 * n0)).toInt) hC rfl 68 dX7_lacksClocks_25 rfl (fun _ => ?_) (fun c_8 => absurd c_8 (by omega))
      refine g_iload hC dX7_lacksClocks_68 1 rfl ?_
      refine g_zret (ty := .int) hC rfl rfl dX7_lacksClocks_70 ⟨congrArg (fun z => some (Value.int z)) ?_, rfl, rfl⟩
      unfold shC; rw [if_neg (by omega), n0n, if_pos c0]

theorem c_X7_clocks (l : Launch) (D : va_G) (cA : Nat → ClassId) (b : Nat) (M : Nat → Nat → Int32) (L : Nat → Nat → Int64) (g : Sg) (x : Int32) (ln : Int32) (f : Int32) (n : Int32) (hS : RS M L g) (hok : OK g) : fm_Met l D cA b yX7_clocks cX7_clocks 6 (some .long) 3 75 0 0 [.ref (b + 58), .int x, .int ln, .int f, .int n] LAY M L LAY (fm_pl (fun r M' L' => r = op_clocks g x ln f n ∧ RS M' L' g ∧ fR M M' L L')) := by
  refine fm_start RX7 rfl (by decide) (Nat.le_of_ble_eq_true rfl) ?_
  intro pq eq sq mq aq bq tq cq hC hin
  refine g_iload_n hC dX7_clocks_0 rfl 1 rfl ?_
  refine g_iload_n hC dX7_clocks_1 rfl 2 rfl ?_
  refine g_callS hC (as := [.int x, .int ln]) (rest := []) (c_X7_isSheet l D cA b LAY M L x ln x.toInt ln.toInt rfl rfl) ⟨fw_954, fw_955, fw_9, fw_956⟩ hd_X7_isSheet ⟨Nat.le_of_ble_eq_true rfl, Nat.le_of_ble_eq_true rfl⟩ ⟨Nat.le_of_ble_eq_true rfl, Nat.le_of_ble_eq_true rfl⟩ rfl rfl (Nat.le_of_ble_eq_true rfl) dX7_clocks_2 (g_rix ?_)
  refine g_ifb_eq hC 21 dX7_clocks_5 rfl (fun c_2 => ?_) (fun c_2 => ?_)
  · skip
    refine g_ldc2 (v := (-1)) hC fw_895 dX7_clocks_21 ?_
    refine g_lret hC rfl dX7_clocks_24 ?_
    have e0 : op_clocks g x ln f n = -1 := by unfold op_clocks; rw [shC_b (by omega), if_pos (by decide)]; rfl
    exact ⟨_, rfl, e0.symm, hS, fR_rf⟩
  · skip
    refine g_iload hC dX7_clocks_8 4 rfl ?_
    refine g_i2l (v := n.toInt64) hC dX7_clocks_10 rfl ?_
    refine g_lconst (v := 1) hC dX7_clocks_11 rfl ?_
    refine g_ldc2 (v := 8) hC fw_788 dX7_clocks_12 ?_
    refine g_callS hC (as := [.long n.toInt64, .long 1, .long 8]) (rest := []) (c_X7_in l D cA b LAY M L n.toInt64 1 8 n.toInt 1 8 ((ic_w _).trans rfl) rfl rfl) ⟨fw_725, fw_726, fw_9, fw_727⟩ hd_X7_in ⟨Nat.le_of_ble_eq_true rfl, Nat.le_of_ble_eq_true rfl⟩ ⟨Nat.le_of_ble_eq_true rfl, Nat.le_of_ble_eq_true rfl⟩ rfl rfl (Nat.le_of_ble_eq_true rfl) dX7_clocks_15 (g_rix ?_)
    refine g_ifb_ne hC 25 dX7_clocks_18 rfl (fun c_4 => ?_) (fun c_4 => ?_)
    · skip
      obtain ⟨q, qb, qE⟩ : ∃ j9 : Nat, j9 < 4 ∧ x = nI j9 := ic_of (by omega) (by omega)
      subst qE
      have qt : (nI q).toInt = (q : Int) := nI_toInt (by omega)
      have qn : (nI q).toInt.toNat = q := by omega
      have qs := hS.2.2.2.2 q qb
      have qo := hok.2.2.2.2 q qb
      obtain ⟨n0, n0b, n0E⟩ : ∃ j9 : Nat, j9 < 9 ∧ n = nI j9 := ic_of (by omega) (by omega)
      subst n0E
      have n0t : (nI n0).toInt = (n0 : Int) := nI_toInt (by omega)
      have n0n : (nI n0).toInt.toNat = n0 := by omega
      refine g_aload_n hC dX7_clocks_25 rfl 0 rfl ?_
      refine g_iload_n hC dX7_clocks_26 rfl 1 rfl ?_
      refine g_iload_n hC dX7_clocks_27 rfl 2 rfl ?_
      refine g_iload_n hC dX7_clocks_28 rfl 3 rfl ?_
      refine g_iload hC dX7_clocks_29 4 rfl ?_
      refine g_callV hC (k := 58) (ci := 7) (as := [.int (nI q), .int ln, .int f, .int (nI n0)]) (rest := []) (c_X7_lacksClocks l D cA b M L g q ln f n0 hS hok qb (by omega) (by omega)) ⟨fw_976, fw_978, fs_36, fw_9, fw_979⟩ ⟨rfl, hd_X7_lacksClocks⟩ rfl ly_58 ⟨Nat.le_of_ble_eq_true rfl, Nat.le_of_ble_eq_true rfl⟩ ⟨Nat.le_of_ble_eq_true rfl, Nat.le_of_ble_eq_true rfl⟩ rfl rfl (Nat.le_of_ble_eq_true rfl) dX7_clocks_31 (g_rix ?_)
      refine g_istore hC [(5, .int (shC g.2.2.2.2 (nI q).toInt ln.toInt f.toInt (nI n0).toInt)), (0, .ref (b + 58)), (1, .int (nI q)), (2, .int ln), (3, .int f), (4, .int (nI n0))] dX7_clocks_34 (by decide) rfl ?_
      refine g_iload hC dX7_clocks_36 0 rfl ?_
      refine g_if_ge_T (X := (shC g.2.2.2.2 (nI q).toInt ln.toInt f.toInt (nI n0).toInt).toInt) hC rfl 47 dX7_clocks_38 rfl (fun c_6 => ?_) (fun c_6 => ?_)
      · skip
        have c0 : (shC g.2.2.2.2 (nI q).toInt ln.toInt f.toInt (nI n0).toInt).toInt = 0 := by have := shC_n g.2.2.2.2 (nI q).toInt ln.toInt f.toInt (nI n0).toInt; omega
        obtain ⟨y1, y2, y3⟩ := shC_0 c0
        obtain ⟨⟨z1, z2⟩, z3, z4, z5⟩ := shR_0 y2
        rw [qn] at z3 z5
        obtain ⟨f0, f0b, f0E⟩ : ∃ j9 : Nat, j9 < 25 ∧ f = nI j9 := ic_of (by omega) (by omega)
        subst f0E
        have f0t : (nI f0).toInt = (f0 : Int) := nI_toInt (by omega)
        have f0n : (nI f0).toInt.toNat = f0 := by omega
        rw [n0n] at z5 y2
        have hit9 : ∀ k, k < 2 * n0 → L 75 (24 * q + f0 + k) = (fun k => g.2.2.2.2.2.2 q (f0 + k)) k := fun k hk => (by rw [Nat.add_assoc]; exact (qs.2 (by omega)).2 (f0 + k) (by omega))
        refine g_aload_n hC dX7_clocks_47 rfl 1 rfl ?_
        refine g_bipush (v := 24) hC dX7_clocks_48 rfl ?_
        refine g_iload_n hC dX7_clocks_50 rfl 2 rfl ?_
        refine g_imul hC dX7_clocks_51 ?_
        refine g_top (y := nI (24 * q)) (pk_mul _ _) ?_
        refine g_iload_n hC dX7_clocks_52 rfl 4 rfl ?_
        refine g_iadd hC dX7_clocks_53 ?_
        refine g_top (y := nI ((24 * q) + f0)) (nI_add _ _) ?_
        refine g_iload hC dX7_clocks_54 5 rfl ?_
        refine g_iconst (v := 0) hC dX7_clocks_56 rfl ?_
        refine g_iconst (v := (-1)) hC dX7_clocks_57 rfl ?_
        refine g_callV hC (k := 58) (ci := 7) (as := [.int (nI ((24 * q) + f0)), .int (nI n0), .int 0, .int (-1)]) (rest := []) (c_X7_waysBy l D cA b M L (24 * q + f0) (fun k => g.2.2.2.2.2.2 q (f0 + k)) n0 0 (-1) (-1) 0 (by omega) hit9 (by decide) (fun h v h1 h2 => ⟨fun _ => Or.inr (Or.inl (by decide)), fun _ z => by omega⟩)) ⟨fw_980, fw_982, fs_37, fw_9, fw_983⟩ ⟨rfl, hd_X7_waysBy⟩ rfl ly_58 ⟨Nat.le_of_ble_eq_true rfl, Nat.le_of_ble_eq_true rfl⟩ ⟨Nat.le_of_ble_eq_true rfl, Nat.le_of_ble_eq_true rfl⟩ rfl rfl (Nat.le_of_ble_eq_true rfl) dX7_clocks_58 (g_rl (fun r_7 M_7 L_7 h_7 => ?_))
        refine g_lret hC rfl dX7_clocks_61 ?_
        obtain ⟨d1_7, d2_7, d3_7⟩ := h_7
        have e0 : op_clocks g (nI q) ln (nI f0) (nI n0) = clS (fun k => g.2.2.2.2.2.2 q (f0 + k)) n0 (-1) 0 := by unfold op_clocks; rw [if_neg (by omega), qn, f0n, n0n]
        rw [d2_7]
        exact ⟨_, rfl, (by rw [e0]; exact d1_7), RS_fr hS (d3_7 75 (by decide)), fun k hk => ⟨rfl, d3_7 k (by omega)⟩⟩
      · skip
        have nz : (shC g.2.2.2.2 (nI q).toInt ln.toInt f.toInt (nI n0).toInt).toInt ≠ 0 := by omega
        refine g_iload hC dX7_clocks_41 0 rfl ?_
        refine g_i2l (v := (shC g.2.2.2.2 (nI q).toInt ln.toInt f.toInt (nI n0).toInt).toInt64) hC dX7_clocks_43 rfl ?_
        refine g_goto hC 61 dX7_clocks_44 rfl ?_
        refine g_lret hC rfl dX7_clocks_61 ?_
        have e0 : op_clocks g (nI q) ln f (nI n0) = (shC g.2.2.2.2 (nI q).toInt ln.toInt f.toInt (nI n0).toInt).toInt64 := by unfold op_clocks; rw [if_pos nz]
        exact ⟨_, rfl, e0.symm, hS, fR_rf⟩
    · skip
      refine g_ldc2 (v := (-1)) hC fw_895 dX7_clocks_21 ?_
      refine g_lret hC rfl dX7_clocks_24 ?_
      have e0 : op_clocks g x ln f n = -1 := by unfold op_clocks; rw [shC_b (by omega), if_pos (by decide)]; rfl
      exact ⟨_, rfl, e0.symm, hS, fR_rf⟩

theorem c_X7_sure (l : Launch) (D : va_G) (cA : Nat → ClassId) (b : Nat) (M : Nat → Nat → Int32) (L : Nat → Nat → Int64) (g : Sg) (h : Int32) (x : Int32) (ln : Int32) (f : Int32) (n : Int32) (hS : RS M L g) (hok : OK g) : fm_Met l D cA b yX7_sure cX7_sure 10 (some .int) 3 75 0 0 [.ref (b + 58), .int h, .int x, .int ln, .int f, .int n] LAY M L LAY (fm_pm (fun r M' L' => r = op_sure g h x ln f n ∧ RS M' L' g ∧ fR M M' L L')) := by
  refine fm_start RX7 rfl (by decide) (Nat.le_of_ble_eq_true rfl) ?_
  intro pq eq sq mq aq bq tq cq hC hin
  refine g_iload_n hC dX7_sure_0 rfl 1 rfl ?_
  refine g_callS hC (as := [.int h]) (rest := []) (c_X7_isHour l D cA b LAY M L h h.toInt rfl) ⟨fw_728, fw_729, fw_9, fw_730⟩ hd_X7_isHour ⟨Nat.le_of_ble_eq_true rfl, Nat.le_of_ble_eq_true rfl⟩ ⟨Nat.le_of_ble_eq_true rfl, Nat.le_of_ble_eq_true rfl⟩ rfl rfl (Nat.le_of_ble_eq_true rfl) dX7_sure_1 (g_rix ?_)
  refine g_ifb_eq hC 28 dX7_sure_4 rfl (fun c_2 => ?_) (fun c_2 => ?_)
  · skip
    refine g_iconst (v := (-1)) hC dX7_sure_28 rfl ?_
    refine g_zret (ty := .int) hC rfl rfl dX7_sure_29 ?_
    have e0 : op_sure g h x ln f n = -1 := by
      unfold op_sure
      by_cases c9 : 0 ≤ h.toInt ∧ h.toInt < 24
      · rw [if_neg (by omega), shC_b (by omega), if_pos (by decide)]
      · rw [if_pos c9]
    exact ⟨_, rfl, e0.symm, hS, fR_rf⟩
  · skip
    refine g_iload_n hC dX7_sure_7 rfl 2 rfl ?_
    refine g_iload_n hC dX7_sure_8 rfl 3 rfl ?_
    refine g_callS hC (as := [.int x, .int ln]) (rest := []) (c_X7_isSheet l D cA b LAY M L x ln x.toInt ln.toInt rfl rfl) ⟨fw_954, fw_955, fw_9, fw_956⟩ hd_X7_isSheet ⟨Nat.le_of_ble_eq_true rfl, Nat.le_of_ble_eq_true rfl⟩ ⟨Nat.le_of_ble_eq_true rfl, Nat.le_of_ble_eq_true rfl⟩ rfl rfl (Nat.le_of_ble_eq_true rfl) dX7_sure_9 (g_rix ?_)
    refine g_ifb_eq hC 28 dX7_sure_12 rfl (fun c_4 => ?_) (fun c_4 => ?_)
    · skip
      refine g_iconst (v := (-1)) hC dX7_sure_28 rfl ?_
      refine g_zret (ty := .int) hC rfl rfl dX7_sure_29 ?_
      have e0 : op_sure g h x ln f n = -1 := by
        unfold op_sure
        by_cases c9 : 0 ≤ h.toInt ∧ h.toInt < 24
        · rw [if_neg (by omega), shC_b (by omega), if_pos (by decide)]
        · rw [if_pos c9]
      exact ⟨_, rfl, e0.symm, hS, fR_rf⟩
    · skip
      refine g_iload hC dX7_sure_15 5 rfl ?_
      refine g_i2l (v := n.toInt64) hC dX7_sure_17 rfl ?_
      refine g_lconst (v := 1) hC dX7_sure_18 rfl ?_
      refine g_ldc2 (v := 8) hC fw_788 dX7_sure_19 ?_
      refine g_callS hC (as := [.long n.toInt64, .long 1, .long 8]) (rest := []) (c_X7_in l D cA b LAY M L n.toInt64 1 8 n.toInt 1 8 ((ic_w _).trans rfl) rfl rfl) ⟨fw_725, fw_726, fw_9, fw_727⟩ hd_X7_in ⟨Nat.le_of_ble_eq_true rfl, Nat.le_of_ble_eq_true rfl⟩ ⟨Nat.le_of_ble_eq_true rfl, Nat.le_of_ble_eq_true rfl⟩ rfl rfl (Nat.le_of_ble_eq_true rfl) dX7_sure_22 (g_rix ?_)
      refine g_ifb_ne hC 30 dX7_sure_25 rfl (fun c_6 => ?_) (fun c_6 => ?_)
      · skip
        obtain ⟨q, qb, qE⟩ : ∃ j9 : Nat, j9 < 4 ∧ x = nI j9 := ic_of (by omega) (by omega)
        subst qE
        have qt : (nI q).toInt = (q : Int) := nI_toInt (by omega)
        have qn : (nI q).toInt.toNat = q := by omega
        have qs := hS.2.2.2.2 q qb
        have qo := hok.2.2.2.2 q qb
        obtain ⟨n0, n0b, n0E⟩ : ∃ j9 : Nat, j9 < 9 ∧ n = nI j9 := ic_of (by omega) (by omega)
        subst n0E
        have n0t : (nI n0).toInt = (n0 : Int) := nI_toInt (by omega)
        have n0n : (nI n0).toInt.toNat = n0 := by omega
        refine g_aload_n hC dX7_sure_30 rfl 0 rfl ?_
        refine g_iload_n hC dX7_sure_31 rfl 2 rfl ?_
        refine g_iload_n hC dX7_sure_32 rfl 3 rfl ?_
        refine g_iload hC dX7_sure_33 4 rfl ?_
        refine g_iload hC dX7_sure_35 5 rfl ?_
        refine g_callV hC (k := 58) (ci := 7) (as := [.int (nI q), .int ln, .int f, .int (nI n0)]) (rest := []) (c_X7_lacksClocks l D cA b M L g q ln f n0 hS hok qb (by omega) (by omega)) ⟨fw_976, fw_978, fs_36, fw_9, fw_979⟩ ⟨rfl, hd_X7_lacksClocks⟩ rfl ly_58 ⟨Nat.le_of_ble_eq_true rfl, Nat.le_of_ble_eq_true rfl⟩ ⟨Nat.le_of_ble_eq_true rfl, Nat.le_of_ble_eq_true rfl⟩ rfl rfl (Nat.le_of_ble_eq_true rfl) dX7_sure_37 (g_rix ?_)
        refine g_istore hC [(6, .int (shC g.2.2.2.2 (nI q).toInt ln.toInt f.toInt (nI n0).toInt)), (0, .ref (b + 58)), (1, .int h), (2, .int (nI q)), (3, .int ln), (4, .int f), (5, .int (nI n0))] dX7_sure_40 (by decide) rfl ?_
        refine g_iload hC dX7_sure_42 0 rfl ?_
        refine g_if_ge_T (X := (shC g.2.2.2.2 (nI q).toInt ln.toInt f.toInt (nI n0).toInt).toInt) hC rfl 50 dX7_sure_44 rfl (fun c_8 => ?_) (fun c_8 => ?_)
        · skip
          have c0 : (shC g.2.2.2.2 (nI q).toInt ln.toInt f.toInt (nI n0).toInt).toInt = 0 := by have := shC_n g.2.2.2.2 (nI q).toInt ln.toInt f.toInt (nI n0).toInt; omega
          obtain ⟨y1, y2, y3⟩ := shC_0 c0
          obtain ⟨⟨z1, z2⟩, z3, z4, z5⟩ := shR_0 y2
          rw [qn] at z3 z5
          obtain ⟨f0, f0b, f0E⟩ : ∃ j9 : Nat, j9 < 25 ∧ f = nI j9 := ic_of (by omega) (by omega)
          subst f0E
          have f0t : (nI f0).toInt = (f0 : Int) := nI_toInt (by omega)
          have f0n : (nI f0).toInt.toNat = f0 := by omega
          rw [n0n] at z5 y2
          have hit9 : ∀ k, k < 2 * n0 → L 75 (24 * q + f0 + k) = (fun k => g.2.2.2.2.2.2 q (f0 + k)) k := fun k hk => (by rw [Nat.add_assoc]; exact (qs.2 (by omega)).2 (f0 + k) (by omega))
          obtain ⟨h0, h0b, h0E⟩ : ∃ j9 : Nat, j9 < 24 ∧ h = nI j9 := ic_of (by omega) (by omega)
          subst h0E
          have h0t : (nI h0).toInt = (h0 : Int) := nI_toInt (by omega)
          have h0n : (nI h0).toInt.toNat = h0 := by omega
          refine g_bipush (v := (-4)) hC dX7_sure_50 rfl ?_
          refine g_istore hC [(7, .int (-4)), (6, .int (shC g.2.2.2.2 (nI q).toInt ln.toInt (nI f0).toInt (nI n0).toInt)), (0, .ref (b + 58)), (1, .int (nI h0)), (2, .int (nI q)), (3, .int ln), (4, .int (nI f0)), (5, .int (nI n0))] dX7_sure_52 (by decide) rfl ?_
          refine g_iconst (v := 0) hC dX7_sure_54 rfl ?_
          refine g_istore hC [(8, .int 0), (7, .int (-4)), (6, .int (shC g.2.2.2.2 (nI q).toInt ln.toInt (nI f0).toInt (nI n0).toInt)), (0, .ref (b + 58)), (1, .int (nI h0)), (2, .int (nI q)), (3, .int ln), (4, .int (nI f0)), (5, .int (nI n0))] dX7_sure_55 (by decide) rfl ?_
          refine g_iconst (v := 0) hC dX7_sure_57 rfl ?_
          refine g_istore hC [(9, .int 0), (8, .int 0), (7, .int (-4)), (6, .int (shC g.2.2.2.2 (nI q).toInt ln.toInt (nI f0).toInt (nI n0).toInt)), (0, .ref (b + 58)), (1, .int (nI h0)), (2, .int (nI q)), (3, .int ln), (4, .int (nI f0)), (5, .int (nI n0))] dX7_sure_58 (by decide) rfl ?_
          refine g_iload hC dX7_sure_60 0 rfl ?_
          refine g_iconst (v := 3) hC dX7_sure_62 rfl ?_
          refine g_icmp_ge_T (X := 0) (Y := 3) hC rfl rfl 100 dX7_sure_63 rfl (fun c_9 => absurd c_9 (by omega)) (fun _ => ?_)
          refine g_aload_n hC dX7_sure_66 rfl 4 rfl ?_
          refine g_bipush (v := 24) hC dX7_sure_67 rfl ?_
          refine g_iload_n hC dX7_sure_69 rfl 6 rfl ?_
          refine g_imul hC dX7_sure_70 ?_
          refine g_top (y := nI (24 * q)) (pk_mul _ _) ?_
          refine g_iload hC dX7_sure_71 8 rfl ?_
          refine g_iadd hC dX7_sure_73 ?_
          refine g_top (y := nI ((24 * q) + f0)) (nI_add _ _) ?_
          refine g_iload hC dX7_sure_74 9 rfl ?_
          refine g_iload_n hC dX7_sure_76 rfl 5 rfl ?_
          refine g_iload hC dX7_sure_77 0 rfl ?_
          refine g_callV hC (k := 58) (ci := 7) (as := [.int (nI ((24 * q) + f0)), .int (nI n0), .int (nI h0), .int 0]) (rest := []) (c_X7_waysBy l D cA b M L (24 * q + f0) (fun k => g.2.2.2.2.2.2 q (f0 + k)) n0 h0 0 (h0 : Int) ((0 : Nat) : Int) (by omega) hit9 (by omega) (fun h v h1 h2 => (by rw [show (0 : Int32).toInt = 0 from rfl]; omega))) ⟨fw_980, fw_982, fs_37, fw_9, fw_983⟩ ⟨rfl, hd_X7_waysBy⟩ rfl ly_58 ⟨Nat.le_of_ble_eq_true rfl, Nat.le_of_ble_eq_true rfl⟩ ⟨Nat.le_of_ble_eq_true rfl, Nat.le_of_ble_eq_true rfl⟩ rfl rfl (Nat.le_of_ble_eq_true rfl) dX7_sure_79 (g_rl (fun r_10 M_10 L_10 h_10 => ?_))
          obtain ⟨d1_10, d2_10, d3_10⟩ := h_10
          rw [d1_10, d2_10]
          refine g_lconst (v := 0) hC dX7_sure_82 rfl ?_
          refine g_lcmp hC dX7_sure_83 ?_
          refine g_cmp_le_T (X := (clS (fun k => g.2.2.2.2.2.2 q (f0 + k)) n0 (h0 : Int) ((0 : Nat) : Int)).toInt) (Y := 0) hC rfl rfl 94 dX7_sure_84 rfl (fun c_11 => ?_) (fun c_11 => ?_)
          · skip
            refine g_iinc hC [(9, .int 1), (8, .int 0), (7, .int (-4)), (6, .int (shC g.2.2.2.2 (nI q).toInt ln.toInt (nI f0).toInt (nI n0).toInt)), (0, .ref (b + 58)), (1, .int (nI h0)), (2, .int (nI q)), (3, .int ln), (4, .int (nI f0)), (5, .int (nI n0))] dX7_sure_94 0 rfl rfl (by decide) rfl ?_
            refine g_goto hC 60 dX7_sure_97 rfl ?_
            refine g_iload hC dX7_sure_60 0 rfl ?_
            refine g_iconst (v := 3) hC dX7_sure_62 rfl ?_
            refine g_icmp_ge_T (X := 1) (Y := 3) hC rfl rfl 100 dX7_sure_63 rfl (fun c_12 => absurd c_12 (by omega)) (fun _ => ?_)
            refine g_aload_n hC dX7_sure_66 rfl 4 rfl ?_
            refine g_bipush (v := 24) hC dX7_sure_67 rfl ?_
            refine g_iload_n hC dX7_sure_69 rfl 6 rfl ?_
            refine g_imul hC dX7_sure_70 ?_
            refine g_top (y := nI (24 * q)) (pk_mul _ _) ?_
            refine g_iload hC dX7_sure_71 8 rfl ?_
            refine g_iadd hC dX7_sure_73 ?_
            refine g_top (y := nI ((24 * q) + f0)) (nI_add _ _) ?_
            refine g_iload hC dX7_sure_74 9 rfl ?_
            refine g_iload_n hC dX7_sure_76 rfl 5 rfl ?_
            refine g_iload hC dX7_sure_77 0 rfl ?_
            refine g_callV hC (k := 58) (ci := 7) (as := [.int (nI ((24 * q) + f0)), .int (nI n0), .int (nI h0), .int 1]) (rest := []) (c_X7_waysBy l D cA b M L_10 (24 * q + f0) (fun k => g.2.2.2.2.2.2 q (f0 + k)) n0 h0 1 (h0 : Int) ((1 : Nat) : Int) (by omega) (fun k hk => (by rw [d3_10 75 (by decide)]; exact hit9 k hk)) (by omega) (fun h v h1 h2 => (by rw [show (1 : Int32).toInt = 1 from rfl]; omega))) ⟨fw_980, fw_982, fs_37, fw_9, fw_983⟩ ⟨rfl, hd_X7_waysBy⟩ rfl ly_58 ⟨Nat.le_of_ble_eq_true rfl, Nat.le_of_ble_eq_true rfl⟩ ⟨Nat.le_of_ble_eq_true rfl, Nat.le_of_ble_eq_true rfl⟩ rfl rfl (Nat.le_of_ble_eq_true rfl) dX7_sure_79 (g_rl (fun r_13 M_13 L_13 h_13 => ?_))
            obtain ⟨d1_13, d2_13, d3_13⟩ := h_13
            rw [d1_13, d2_13]
            refine g_lconst (v := 0) hC dX7_sure_82 rfl ?_
            refine g_lcmp hC dX7_sure_83 ?_
            refine g_cmp_le_T (X := (clS (fun k => g.2.2.2.2.2.2 q (f0 + k)) n0 (h0 : Int) ((1 : Nat) : Int)).toInt) (Y := 0) hC rfl rfl 94 dX7_sure_84 rfl (fun c_14 => ?_) (fun c_14 => ?_)
            · skip
              refine g_iinc hC [(9, .int 2), (8, .int 0), (7, .int (-4)), (6, .int (shC g.2.2.2.2 (nI q).toInt ln.toInt (nI f0).toInt (nI n0).toInt)), (0, .ref (b + 58)), (1, .int (nI h0)), (2, .int (nI q)), (3, .int ln), (4, .int (nI f0)), (5, .int (nI n0))] dX7_sure_94 0 rfl rfl (by decide) rfl ?_
              refine g_goto hC 60 dX7_sure_97 rfl ?_
              refine g_iload hC dX7_sure_60 0 rfl ?_
              refine g_iconst (v := 3) hC dX7_sure_62 rfl ?_
              refine g_icmp_ge_T (X := 2) (Y := 3) hC rfl rfl 100 dX7_sure_63 rfl (fun c_15 => absurd c_15 (by omega)) (fun _ => ?_)
              refine g_aload_n hC dX7_sure_66 rfl 4 rfl ?_
              refine g_bipush (v := 24) hC dX7_sure_67 rfl ?_
              refine g_iload_n hC dX7_sure_69 rfl 6 rfl ?_
              refine g_imul hC dX7_sure_70 ?_
              refine g_top (y := nI (24 * q)) (pk_mul _ _) ?_
              refine g_iload hC dX7_sure_71 8 rfl ?_
              refine g_iadd hC dX7_sure_73 ?_
              refine g_top (y := nI ((24 * q) + f0)) (nI_add _ _) ?_
              refine g_iload hC dX7_sure_74 9 rfl ?_
              refine g_iload_n hC dX7_sure_76 rfl 5 rfl ?_
              refine g_iload hC dX7_sure_77 0 rfl ?_
              refine g_callV hC (k := 58) (ci := 7) (as := [.int (nI ((24 * q) + f0)), .int (nI n0), .int (nI h0), .int 2]) (rest := []) (c_X7_waysBy l D cA b M L_13 (24 * q + f0) (fun k => g.2.2.2.2.2.2 q (f0 + k)) n0 h0 2 (h0 : Int) ((2 : Nat) : Int) (by omega) (fun k hk => (by rw [d3_13 75 (by decide), d3_10 75 (by decide)]; exact hit9 k hk)) (by omega) (fun h v h1 h2 => (by rw [show (2 : Int32).toInt = 2 from rfl]; omega))) ⟨fw_980, fw_982, fs_37, fw_9, fw_983⟩ ⟨rfl, hd_X7_waysBy⟩ rfl ly_58 ⟨Nat.le_of_ble_eq_true rfl, Nat.le_of_ble_eq_true rfl⟩ ⟨Nat.le_of_ble_eq_true rfl, Nat.le_of_ble_eq_true rfl⟩ rfl rfl (Nat.le_of_ble_eq_true rfl) dX7_sure_79 (g_rl (fun r_16 M_16 L_16 h_16 => ?_))
              obtain ⟨d1_16, d2_16, d3_16⟩ := h_16
              rw [d1_16, d2_16]
              refine g_lconst (v := 0) hC dX7_sure_82 rfl ?_
              refine g_lcmp hC dX7_sure_83 ?_
              refine g_cmp_le_T (X := (clS (fun k => g.2.2.2.2.2.2 q (f0 + k)) n0 (h0 : Int) ((2 : Nat) : Int)).toInt) (Y := 0) hC rfl rfl 94 dX7_sure_84 rfl (fun c_17 => ?_) (fun c_17 => ?_)
              · skip
                refine g_iinc hC [(9, .int 3), (8, .int 0), (7, .int (-4)), (6, .int (shC g.2.2.2.2 (nI q).toInt ln.toInt (nI f0).toInt (nI n0).toInt)), (0, .ref (b + 58)), (1, .int (nI h0)), (2, .int (nI q)), (3, .int ln), (4, .int (nI f0)), (5, .int (nI n0))] dX7_sure_94 0 rfl rfl (by decide) rfl ?_
                refine g_goto hC 60 dX7_sure_97 rfl ?_
                refine g_iload hC dX7_sure_60 0 rfl ?_
                refine g_iconst (v := 3) hC dX7_sure_62 rfl ?_
                refine g_icmp_ge_T (X := 3) (Y := 3) hC rfl rfl 100 dX7_sure_63 rfl (fun _ => ?_) (fun c_18 => absurd c_18 (by omega))
                refine g_iload hC dX7_sure_100 1 rfl ?_
                refine g_iconst (v := 1) hC dX7_sure_102 rfl ?_
                refine g_icmp_ne_T (X := 0) (Y := 1) hC rfl rfl 111 dX7_sure_103 rfl (fun _ => ?_) (fun c_19 => absurd c_19 (by omega))
                refine g_bipush (v := (-4)) hC dX7_sure_111 rfl ?_
                refine g_zret (ty := .int) hC rfl rfl dX7_sure_113 ?_
                have e0 : op_sure g (nI h0) (nI q) ln (nI f0) (nI n0) = suS (fun k => g.2.2.2.2.2.2 q (f0 + k)) n0 h0 := by unfold op_sure; rw [if_neg (by omega), if_neg (by omega), qn, f0n, n0n, h0n]
                have d9 : ∀ r, r ≠ 76 → L_16 r = L r := fun r hr => (by rw [d3_16 r hr, d3_13 r hr, d3_10 r hr])
                exact ⟨_, rfl, (by rw [e0]; unfold suS; rw [if_neg (by omega), if_neg (by omega), if_neg (by omega)]), RS_fr hS (d9 75 (by decide)), fun k hk => ⟨rfl, d9 k (by omega)⟩⟩
              · skip
                refine g_iload hC dX7_sure_87 0 rfl ?_
                refine g_istore hC [(7, .int 2), (9, .int 2), (8, .int 0), (6, .int (shC g.2.2.2.2 (nI q).toInt ln.toInt (nI f0).toInt (nI n0).toInt)), (0, .ref (b + 58)), (1, .int (nI h0)), (2, .int (nI q)), (3, .int ln), (4, .int (nI f0)), (5, .int (nI n0))] dX7_sure_89 (by decide) rfl ?_
                refine g_iinc hC [(8, .int 1), (7, .int 2), (9, .int 2), (6, .int (shC g.2.2.2.2 (nI q).toInt ln.toInt (nI f0).toInt (nI n0).toInt)), (0, .ref (b + 58)), (1, .int (nI h0)), (2, .int (nI q)), (3, .int ln), (4, .int (nI f0)), (5, .int (nI n0))] dX7_sure_91 2 rfl rfl (by decide) rfl ?_
                refine g_iinc hC [(9, .int 3), (8, .int 1), (7, .int 2), (6, .int (shC g.2.2.2.2 (nI q).toInt ln.toInt (nI f0).toInt (nI n0).toInt)), (0, .ref (b + 58)), (1, .int (nI h0)), (2, .int (nI q)), (3, .int ln), (4, .int (nI f0)), (5, .int (nI n0))] dX7_sure_94 2 rfl rfl (by decide) rfl ?_
                refine g_goto hC 60 dX7_sure_97 rfl ?_
                refine g_iload hC dX7_sure_60 0 rfl ?_
                refine g_iconst (v := 3) hC dX7_sure_62 rfl ?_
                refine g_icmp_ge_T (X := 3) (Y := 3) hC rfl rfl 100 dX7_sure_63 rfl (fun _ => ?_) (fun c_20 => absurd c_20 (by omega))
                refine g_iload hC dX7_sure_100 1 rfl ?_
                refine g_iconst (v := 1) hC dX7_sure_102 rfl ?_
                refine g_icmp_ne_T (X := 1) (Y := 1) hC rfl rfl 111 dX7_sure_103 rfl (fun c_21 => absurd c_21 (by omega)) (fun _ => ?_)
                refine g_iload hC dX7_sure_106 2 rfl ?_
                refine g_goto hC 113 dX7_sure_108 rfl ?_
                refine g_zret (ty := .int) hC rfl rfl dX7_sure_113 ?_
                have e0 : op_sure g (nI h0) (nI q) ln (nI f0) (nI n0) = suS (fun k => g.2.2.2.2.2.2 q (f0 + k)) n0 h0 := by unfold op_sure; rw [if_neg (by omega), if_neg (by omega), qn, f0n, n0n, h0n]
                have d9 : ∀ r, r ≠ 76 → L_16 r = L r := fun r hr => (by rw [d3_16 r hr, d3_13 r hr, d3_10 r hr])
                exact ⟨_, rfl, (by rw [e0]; unfold suS; rw [if_neg (by omega), if_neg (by omega), if_pos (by omega)]), RS_fr hS (d9 75 (by decide)), fun k hk => ⟨rfl, d9 k (by omega)⟩⟩
            · skip
              refine g_iload hC dX7_sure_87 0 rfl ?_
              refine g_istore hC [(7, .int 1), (9, .int 1), (8, .int 0), (6, .int (shC g.2.2.2.2 (nI q).toInt ln.toInt (nI f0).toInt (nI n0).toInt)), (0, .ref (b + 58)), (1, .int (nI h0)), (2, .int (nI q)), (3, .int ln), (4, .int (nI f0)), (5, .int (nI n0))] dX7_sure_89 (by decide) rfl ?_
              refine g_iinc hC [(8, .int 1), (7, .int 1), (9, .int 1), (6, .int (shC g.2.2.2.2 (nI q).toInt ln.toInt (nI f0).toInt (nI n0).toInt)), (0, .ref (b + 58)), (1, .int (nI h0)), (2, .int (nI q)), (3, .int ln), (4, .int (nI f0)), (5, .int (nI n0))] dX7_sure_91 2 rfl rfl (by decide) rfl ?_
              refine g_iinc hC [(9, .int 2), (8, .int 1), (7, .int 1), (6, .int (shC g.2.2.2.2 (nI q).toInt ln.toInt (nI f0).toInt (nI n0).toInt)), (0, .ref (b + 58)), (1, .int (nI h0)), (2, .int (nI q)), (3, .int ln), (4, .int (nI f0)), (5, .int (nI n0))] dX7_sure_94 2 rfl rfl (by decide) rfl ?_
              refine g_goto hC 60 dX7_sure_97 rfl ?_
              refine g_iload hC dX7_sure_60 0 rfl ?_
              refine g_iconst (v := 3) hC dX7_sure_62 rfl ?_
              refine g_icmp_ge_T (X := 2) (Y := 3) hC rfl rfl 100 dX7_sure_63 rfl (fun c_22 => absurd c_22 (by omega)) (fun _ => ?_)
              refine g_aload_n hC dX7_sure_66 rfl 4 rfl ?_
              refine g_bipush (v := 24) hC dX7_sure_67 rfl ?_
              refine g_iload_n hC dX7_sure_69 rfl 6 rfl ?_
              refine g_imul hC dX7_sure_70 ?_
              refine g_top (y := nI (24 * q)) (pk_mul _ _) ?_
              refine g_iload hC dX7_sure_71 8 rfl ?_
              refine g_iadd hC dX7_sure_73 ?_
              refine g_top (y := nI ((24 * q) + f0)) (nI_add _ _) ?_
              refine g_iload hC dX7_sure_74 9 rfl ?_
              refine g_iload_n hC dX7_sure_76 rfl 5 rfl ?_
              refine g_iload hC dX7_sure_77 0 rfl ?_
              refine g_callV hC (k := 58) (ci := 7) (as := [.int (nI ((24 * q) + f0)), .int (nI n0), .int (nI h0), .int 2]) (rest := []) (c_X7_waysBy l D cA b M L_13 (24 * q + f0) (fun k => g.2.2.2.2.2.2 q (f0 + k)) n0 h0 2 (h0 : Int) ((2 : Nat) : Int) (by omega) (fun k hk => (by rw [d3_13 75 (by decide), d3_10 75 (by decide)]; exact hit9 k hk)) (by omega) (fun h v h1 h2 => (by rw [show (2 : Int32).toInt = 2 from rfl]; omega))) ⟨fw_980, fw_982, fs_37, fw_9, fw_983⟩ ⟨rfl, hd_X7_waysBy⟩ rfl ly_58 ⟨Nat.le_of_ble_eq_true rfl, Nat.le_of_ble_eq_true rfl⟩ ⟨Nat.le_of_ble_eq_true rfl, Nat.le_of_ble_eq_true rfl⟩ rfl rfl (Nat.le_of_ble_eq_true rfl) dX7_sure_79 (g_rl (fun r_23 M_23 L_23 h_23 => ?_))
              obtain ⟨d1_23, d2_23, d3_23⟩ := h_23
              rw [d1_23, d2_23]
              refine g_lconst (v := 0) hC dX7_sure_82 rfl ?_
              refine g_lcmp hC dX7_sure_83 ?_
              refine g_cmp_le_T (X := (clS (fun k => g.2.2.2.2.2.2 q (f0 + k)) n0 (h0 : Int) ((2 : Nat) : Int)).toInt) (Y := 0) hC rfl rfl 94 dX7_sure_84 rfl (fun c_24 => ?_) (fun c_24 => ?_)
              · skip
                refine g_iinc hC [(9, .int 3), (8, .int 1), (7, .int 1), (6, .int (shC g.2.2.2.2 (nI q).toInt ln.toInt (nI f0).toInt (nI n0).toInt)), (0, .ref (b + 58)), (1, .int (nI h0)), (2, .int (nI q)), (3, .int ln), (4, .int (nI f0)), (5, .int (nI n0))] dX7_sure_94 0 rfl rfl (by decide) rfl ?_
                refine g_goto hC 60 dX7_sure_97 rfl ?_
                refine g_iload hC dX7_sure_60 0 rfl ?_
                refine g_iconst (v := 3) hC dX7_sure_62 rfl ?_
                refine g_icmp_ge_T (X := 3) (Y := 3) hC rfl rfl 100 dX7_sure_63 rfl (fun _ => ?_) (fun c_25 => absurd c_25 (by omega))
                refine g_iload hC dX7_sure_100 1 rfl ?_
                refine g_iconst (v := 1) hC dX7_sure_102 rfl ?_
                refine g_icmp_ne_T (X := 1) (Y := 1) hC rfl rfl 111 dX7_sure_103 rfl (fun c_26 => absurd c_26 (by omega)) (fun _ => ?_)
                refine g_iload hC dX7_sure_106 2 rfl ?_
                refine g_goto hC 113 dX7_sure_108 rfl ?_
                refine g_zret (ty := .int) hC rfl rfl dX7_sure_113 ?_
                have e0 : op_sure g (nI h0) (nI q) ln (nI f0) (nI n0) = suS (fun k => g.2.2.2.2.2.2 q (f0 + k)) n0 h0 := by unfold op_sure; rw [if_neg (by omega), if_neg (by omega), qn, f0n, n0n, h0n]
                have d9 : ∀ r, r ≠ 76 → L_23 r = L r := fun r hr => (by rw [d3_23 r hr, d3_13 r hr, d3_10 r hr])
                exact ⟨_, rfl, (by rw [e0]; unfold suS; rw [if_neg (by omega), if_pos (by omega), if_neg (by omega)]), RS_fr hS (d9 75 (by decide)), fun k hk => ⟨rfl, d9 k (by omega)⟩⟩
              · skip
                refine g_iload hC dX7_sure_87 0 rfl ?_
                refine g_istore hC [(7, .int 2), (9, .int 2), (8, .int 1), (6, .int (shC g.2.2.2.2 (nI q).toInt ln.toInt (nI f0).toInt (nI n0).toInt)), (0, .ref (b + 58)), (1, .int (nI h0)), (2, .int (nI q)), (3, .int ln), (4, .int (nI f0)), (5, .int (nI n0))] dX7_sure_89 (by decide) rfl ?_
                refine g_iinc hC [(8, .int 2), (7, .int 2), (9, .int 2), (6, .int (shC g.2.2.2.2 (nI q).toInt ln.toInt (nI f0).toInt (nI n0).toInt)), (0, .ref (b + 58)), (1, .int (nI h0)), (2, .int (nI q)), (3, .int ln), (4, .int (nI f0)), (5, .int (nI n0))] dX7_sure_91 2 rfl rfl (by decide) rfl ?_
                refine g_iinc hC [(9, .int 3), (8, .int 2), (7, .int 2), (6, .int (shC g.2.2.2.2 (nI q).toInt ln.toInt (nI f0).toInt (nI n0).toInt)), (0, .ref (b + 58)), (1, .int (nI h0)), (2, .int (nI q)), (3, .int ln), (4, .int (nI f0)), (5, .int (nI n0))] dX7_sure_94 2 rfl rfl (by decide) rfl ?_
                refine g_goto hC 60 dX7_sure_97 rfl ?_
                refine g_iload hC dX7_sure_60 0 rfl ?_
                refine g_iconst (v := 3) hC dX7_sure_62 rfl ?_
                refine g_icmp_ge_T (X := 3) (Y := 3) hC rfl rfl 100 dX7_sure_63 rfl (fun _ => ?_) (fun c_27 => absurd c_27 (by omega))
                refine g_iload hC dX7_sure_100 1 rfl ?_
                refine g_iconst (v := 1) hC dX7_sure_102 rfl ?_
                refine g_icmp_ne_T (X := 2) (Y := 1) hC rfl rfl 111 dX7_sure_103 rfl (fun _ => ?_) (fun c_28 => absurd c_28 (by omega))
                refine g_bipush (v := (-4)) hC dX7_sure_111 rfl ?_
                refine g_zret (ty := .int) hC rfl rfl dX7_sure_113 ?_
                have e0 : op_sure g (nI h0) (nI q) ln (nI f0) (nI n0) = suS (fun k => g.2.2.2.2.2.2 q (f0 + k)) n0 h0 := by unfold op_sure; rw [if_neg (by omega), if_neg (by omega), qn, f0n, n0n, h0n]
                have d9 : ∀ r, r ≠ 76 → L_23 r = L r := fun r hr => (by rw [d3_23 r hr, d3_13 r hr, d3_10 r hr])
                exact ⟨_, rfl, (by rw [e0]; unfold suS; rw [if_neg (by omega), if_pos (by omega), if_pos (by omega)]), RS_fr hS (d9 75 (by decide)), fun k hk => ⟨rfl, d9 k (by omega)⟩⟩
          · skip
            refine g_iload hC dX7_sure_87 0 rfl ?_
            refine g_istore hC [(7, .int 0), (9, .int 0), (8, .int 0), (6, .int (shC g.2.2.2.2 (nI q).toInt ln.toInt (nI f0).toInt (nI n0).toInt)), (0, .ref (b + 58)), (1, .int (nI h0)), (2, .int (nI q)), (3, .int ln), (4, .int (nI f0)), (5, .int (nI n0))] dX7_sure_89 (by decide) rfl ?_
            refine g_iinc hC [(8, .int 1), (7, .int 0), (9, .int 0), (6, .int (shC g.2.2.2.2 (nI q).toInt ln.toInt (nI f0).toInt (nI n0).toInt)), (0, .ref (b + 58)), (1, .int (nI h0)), (2, .int (nI q)), (3, .int ln), (4, .int (nI f0)), (5, .int (nI n0))] dX7_sure_91 2 rfl rfl (by decide) rfl ?_
            refine g_iinc hC [(9, .int 1), (8, .int 1), (7, .int 0), (6, .int (shC g.2.2.2.2 (nI q).toInt ln.toInt (nI f0).toInt (nI n0).toInt)), (0, .ref (b + 58)), (1, .int (nI h0)), (2, .int (nI q)), (3, .int ln), (4, .int (nI f0)), (5, .int (nI n0))] dX7_sure_94 2 rfl rfl (by decide) rfl ?_
            refine g_goto hC 60 dX7_sure_97 rfl ?_
            refine g_iload hC dX7_sure_60 0 rfl ?_
            refine g_iconst (v := 3) hC dX7_sure_62 rfl ?_
            refine g_icmp_ge_T (X := 1) (Y := 3) hC rfl rfl 100 dX7_sure_63 rfl (fun c_29 => absurd c_29 (by omega)) (fun _ => ?_)
            refine g_aload_n hC dX7_sure_66 rfl 4 rfl ?_
            refine g_bipush (v := 24) hC dX7_sure_67 rfl ?_
            refine g_iload_n hC dX7_sure_69 rfl 6 rfl ?_
            refine g_imul hC dX7_sure_70 ?_
            refine g_top (y := nI (24 * q)) (pk_mul _ _) ?_
            refine g_iload hC dX7_sure_71 8 rfl ?_
            refine g_iadd hC dX7_sure_73 ?_
            refine g_top (y := nI ((24 * q) + f0)) (nI_add _ _) ?_
            refine g_iload hC dX7_sure_74 9 rfl ?_
            refine g_iload_n hC dX7_sure_76 rfl 5 rfl ?_
            refine g_iload hC dX7_sure_77 0 rfl ?_
            refine g_callV hC (k := 58) (ci := 7) (as := [.int (nI ((24 * q) + f0)), .int (nI n0), .int (nI h0), .int 1]) (rest := []) (c_X7_waysBy l D cA b M L_10 (24 * q + f0) (fun k => g.2.2.2.2.2.2 q (f0 + k)) n0 h0 1 (h0 : Int) ((1 : Nat) : Int) (by omega) (fun k hk => (by rw [d3_10 75 (by decide)]; exact hit9 k hk)) (by omega) (fun h v h1 h2 => (by rw [show (1 : Int32).toInt = 1 from rfl]; omega))) ⟨fw_980, fw_982, fs_37, fw_9, fw_983⟩ ⟨rfl, hd_X7_waysBy⟩ rfl ly_58 ⟨Nat.le_of_ble_eq_true rfl, Nat.le_of_ble_eq_true rfl⟩ ⟨Nat.le_of_ble_eq_true rfl, Nat.le_of_ble_eq_true rfl⟩ rfl rfl (Nat.le_of_ble_eq_true rfl) dX7_sure_79 (g_rl (fun r_30 M_30 L_30 h_30 => ?_))
            obtain ⟨d1_30, d2_30, d3_30⟩ := h_30
            rw [d1_30, d2_30]
            refine g_lconst (v := 0) hC dX7_sure_82 rfl ?_
            refine g_lcmp hC dX7_sure_83 ?_
            refine g_cmp_le_T (X := (clS (fun k => g.2.2.2.2.2.2 q (f0 + k)) n0 (h0 : Int) ((1 : Nat) : Int)).toInt) (Y := 0) hC rfl rfl 94 dX7_sure_84 rfl (fun c_31 => ?_) (fun c_31 => ?_)
            · skip
              refine g_iinc hC [(9, .int 2), (8, .int 1), (7, .int 0), (6, .int (shC g.2.2.2.2 (nI q).toInt ln.toInt (nI f0).toInt (nI n0).toInt)), (0, .ref (b + 58)), (1, .int (nI h0)), (2, .int (nI q)), (3, .int ln), (4, .int (nI f0)), (5, .int (nI n0))] dX7_sure_94 0 rfl rfl (by decide) rfl ?_
              refine g_goto hC 60 dX7_sure_97 rfl ?_
              refine g_iload hC dX7_sure_60 0 rfl ?_
              refine g_iconst (v := 3) hC dX7_sure_62 rfl ?_
              refine g_icmp_ge_T (X := 2) (Y := 3) hC rfl rfl 100 dX7_sure_63 rfl (fun c_32 => absurd c_32 (by omega)) (fun _ => ?_)
              refine g_aload_n hC dX7_sure_66 rfl 4 rfl ?_
              refine g_bipush (v := 24) hC dX7_sure_67 rfl ?_
              refine g_iload_n hC dX7_sure_69 rfl 6 rfl ?_
              refine g_imul hC dX7_sure_70 ?_
              refine g_top (y := nI (24 * q)) (pk_mul _ _) ?_
              refine g_iload hC dX7_sure_71 8 rfl ?_
              refine g_iadd hC dX7_sure_73 ?_
              refine g_top (y := nI ((24 * q) + f0)) (nI_add _ _) ?_
              refine g_iload hC dX7_sure_74 9 rfl ?_
              refine g_iload_n hC dX7_sure_76 rfl 5 rfl ?_
              refine g_iload hC dX7_sure_77 0 rfl ?_
              refine g_callV hC (k := 58) (ci := 7) (as := [.int (nI ((24 * q) + f0)), .int (nI n0), .int (nI h0), .int 2]) (rest := []) (c_X7_waysBy l D cA b M L_30 (24 * q + f0) (fun k => g.2.2.2.2.2.2 q (f0 + k)) n0 h0 2 (h0 : Int) ((2 : Nat) : Int) (by omega) (fun k hk => (by rw [d3_30 75 (by decide), d3_10 75 (by decide)]; exact hit9 k hk)) (by omega) (fun h v h1 h2 => (by rw [show (2 : Int32).toInt = 2 from rfl]; omega))) ⟨fw_980, fw_982, fs_37, fw_9, fw_983⟩ ⟨rfl, hd_X7_waysBy⟩ rfl ly_58 ⟨Nat.le_of_ble_eq_true rfl, Nat.le_of_ble_eq_true rfl⟩ ⟨Nat.le_of_ble_eq_true rfl, Nat.le_of_ble_eq_true rfl⟩ rfl rfl (Nat.le_of_ble_eq_true rfl) dX7_sure_79 (g_rl (fun r_33 M_33 L_33 h_33 => ?_))
              obtain ⟨d1_33, d2_33, d3_33⟩ := h_33
              rw [d1_33, d2_33]
              refine g_lconst (v := 0) hC dX7_sure_82 rfl ?_
              refine g_lcmp hC dX7_sure_83 ?_
              refine g_cmp_le_T (X := (clS (fun k => g.2.2.2.2.2.2 q (f0 + k)) n0 (h0 : Int) ((2 : Nat) : Int)).toInt) (Y := 0) hC rfl rfl 94 dX7_sure_84 rfl (fun c_34 => ?_) (fun c_34 => ?_)
              · skip
                refine g_iinc hC [(9, .int 3), (8, .int 1), (7, .int 0), (6, .int (shC g.2.2.2.2 (nI q).toInt ln.toInt (nI f0).toInt (nI n0).toInt)), (0, .ref (b + 58)), (1, .int (nI h0)), (2, .int (nI q)), (3, .int ln), (4, .int (nI f0)), (5, .int (nI n0))] dX7_sure_94 0 rfl rfl (by decide) rfl ?_
                refine g_goto hC 60 dX7_sure_97 rfl ?_
                refine g_iload hC dX7_sure_60 0 rfl ?_
                refine g_iconst (v := 3) hC dX7_sure_62 rfl ?_
                refine g_icmp_ge_T (X := 3) (Y := 3) hC rfl rfl 100 dX7_sure_63 rfl (fun _ => ?_) (fun c_35 => absurd c_35 (by omega))
                refine g_iload hC dX7_sure_100 1 rfl ?_
                refine g_iconst (v := 1) hC dX7_sure_102 rfl ?_
                refine g_icmp_ne_T (X := 1) (Y := 1) hC rfl rfl 111 dX7_sure_103 rfl (fun c_36 => absurd c_36 (by omega)) (fun _ => ?_)
                refine g_iload hC dX7_sure_106 2 rfl ?_
                refine g_goto hC 113 dX7_sure_108 rfl ?_
                refine g_zret (ty := .int) hC rfl rfl dX7_sure_113 ?_
                have e0 : op_sure g (nI h0) (nI q) ln (nI f0) (nI n0) = suS (fun k => g.2.2.2.2.2.2 q (f0 + k)) n0 h0 := by unfold op_sure; rw [if_neg (by omega), if_neg (by omega), qn, f0n, n0n, h0n]
                have d9 : ∀ r, r ≠ 76 → L_33 r = L r := fun r hr => (by rw [d3_33 r hr, d3_30 r hr, d3_10 r hr])
                exact ⟨_, rfl, (by rw [e0]; unfold suS; rw [if_pos (by omega), if_neg (by omega), if_neg (by omega)]), RS_fr hS (d9 75 (by decide)), fun k hk => ⟨rfl, d9 k (by omega)⟩⟩
              · skip
                refine g_iload hC dX7_sure_87 0 rfl ?_
                refine g_istore hC [(7, .int 2), (9, .int 2), (8, .int 1), (6, .int (shC g.2.2.2.2 (nI q).toInt ln.toInt (nI f0).toInt (nI n0).toInt)), (0, .ref (b + 58)), (1, .int (nI h0)), (2, .int (nI q)), (3, .int ln), (4, .int (nI f0)), (5, .int (nI n0))] dX7_sure_89 (by decide) rfl ?_
                refine g_iinc hC [(8, .int 2), (7, .int 2), (9, .int 2), (6, .int (shC g.2.2.2.2 (nI q).toInt ln.toInt (nI f0).toInt (nI n0).toInt)), (0, .ref (b + 58)), (1, .int (nI h0)), (2, .int (nI q)), (3, .int ln), (4, .int (nI f0)), (5, .int (nI n0))] dX7_sure_91 2 rfl rfl (by decide) rfl ?_
                refine g_iinc hC [(9, .int 3), (8, .int 2), (7, .int 2), (6, .int (shC g.2.2.2.2 (nI q).toInt ln.toInt (nI f0).toInt (nI n0).toInt)), (0, .ref (b + 58)), (1, .int (nI h0)), (2, .int (nI q)), (3, .int ln), (4, .int (nI f0)), (5, .int (nI n0))] dX7_sure_94 2 rfl rfl (by decide) rfl ?_
                refine g_goto hC 60 dX7_sure_97 rfl ?_
                refine g_iload hC dX7_sure_60 0 rfl ?_
                refine g_iconst (v := 3) hC dX7_sure_62 rfl ?_
                refine g_icmp_ge_T (X := 3) (Y := 3) hC rfl rfl 100 dX7_sure_63 rfl (fun _ => ?_) (fun c_37 => absurd c_37 (by omega))
                refine g_iload hC dX7_sure_100 1 rfl ?_
                refine g_iconst (v := 1) hC dX7_sure_102 rfl ?_
                refine g_icmp_ne_T (X := 2) (Y := 1) hC rfl rfl 111 dX7_sure_103 rfl (fun _ => ?_) (fun c_38 => absurd c_38 (by omega))
                refine g_bipush (v := (-4)) hC dX7_sure_111 rfl ?_
                refine g_zret (ty := .int) hC rfl rfl dX7_sure_113 ?_
                have e0 : op_sure g (nI h0) (nI q) ln (nI f0) (nI n0) = suS (fun k => g.2.2.2.2.2.2 q (f0 + k)) n0 h0 := by unfold op_sure; rw [if_neg (by omega), if_neg (by omega), qn, f0n, n0n, h0n]
                have d9 : ∀ r, r ≠ 76 → L_33 r = L r := fun r hr => (by rw [d3_33 r hr, d3_30 r hr, d3_10 r hr])
                exact ⟨_, rfl, (by rw [e0]; unfold suS; rw [if_pos (by omega), if_neg (by omega), if_pos (by omega)]), RS_fr hS (d9 75 (by decide)), fun k hk => ⟨rfl, d9 k (by omega)⟩⟩
            · skip
              refine g_iload hC dX7_sure_87 0 rfl ?_
              refine g_istore hC [(7, .int 1), (9, .int 1), (8, .int 1), (6, .int (shC g.2.2.2.2 (nI q).toInt ln.toInt (nI f0).toInt (nI n0).toInt)), (0, .ref (b + 58)), (1, .int (nI h0)), (2, .int (nI q)), (3, .int ln), (4, .int (nI f0)), (5, .int (nI n0))] dX7_sure_89 (by decide) rfl ?_
              refine g_iinc hC [(8, .int 2), (7, .int 1), (9, .int 1), (6, .int (shC g.2.2.2.2 (nI q).toInt ln.toInt (nI f0).toInt (nI n0).toInt)), (0, .ref (b + 58)), (1, .int (nI h0)), (2, .int (nI q)), (3, .int ln), (4, .int (nI f0)), (5, .int (nI n0))] dX7_sure_91 2 rfl rfl (by decide) rfl ?_
              refine g_iinc hC [(9, .int 2), (8, .int 2), (7, .int 1), (6, .int (shC g.2.2.2.2 (nI q).toInt ln.toInt (nI f0).toInt (nI n0).toInt)), (0, .ref (b + 58)), (1, .int (nI h0)), (2, .int (nI q)), (3, .int ln), (4, .int (nI f0)), (5, .int (nI n0))] dX7_sure_94 2 rfl rfl (by decide) rfl ?_
              refine g_goto hC 60 dX7_sure_97 rfl ?_
              refine g_iload hC dX7_sure_60 0 rfl ?_
              refine g_iconst (v := 3) hC dX7_sure_62 rfl ?_
              refine g_icmp_ge_T (X := 2) (Y := 3) hC rfl rfl 100 dX7_sure_63 rfl (fun c_39 => absurd c_39 (by omega)) (fun _ => ?_)
              refine g_aload_n hC dX7_sure_66 rfl 4 rfl ?_
              refine g_bipush (v := 24) hC dX7_sure_67 rfl ?_
              refine g_iload_n hC dX7_sure_69 rfl 6 rfl ?_
              refine g_imul hC dX7_sure_70 ?_
              refine g_top (y := nI (24 * q)) (pk_mul _ _) ?_
              refine g_iload hC dX7_sure_71 8 rfl ?_
              refine g_iadd hC dX7_sure_73 ?_
              refine g_top (y := nI ((24 * q) + f0)) (nI_add _ _) ?_
              refine g_iload hC dX7_sure_74 9 rfl ?_
              refine g_iload_n hC dX7_sure_76 rfl 5 rfl ?_
              refine g_iload hC dX7_sure_77 0 rfl ?_
              refine g_callV hC (k := 58) (ci := 7) (as := [.int (nI ((24 * q) + f0)), .int (nI n0), .int (nI h0), .int 2]) (rest := []) (c_X7_waysBy l D cA b M L_30 (24 * q + f0) (fun k => g.2.2.2.2.2.2 q (f0 + k)) n0 h0 2 (h0 : Int) ((2 : Nat) : Int) (by omega) (fun k hk => (by rw [d3_30 75 (by decide), d3_10 75 (by decide)]; exact hit9 k hk)) (by omega) (fun h v h1 h2 => (by rw [show (2 : Int32).toInt = 2 from rfl]; omega))) ⟨fw_980, fw_982, fs_37, fw_9, fw_983⟩ ⟨rfl, hd_X7_waysBy⟩ rfl ly_58 ⟨Nat.le_of_ble_eq_true rfl, Nat.le_of_ble_eq_true rfl⟩ ⟨Nat.le_of_ble_eq_true rfl, Nat.le_of_ble_eq_true rfl⟩ rfl rfl (Nat.le_of_ble_eq_true rfl) dX7_sure_79 (g_rl (fun r_40 M_40 L_40 h_40 => ?_))
              obtain ⟨d1_40, d2_40, d3_40⟩ := h_40
              rw [d1_40, d2_40]
              refine g_lconst (v := 0) hC dX7_sure_82 rfl ?_
              refine g_lcmp hC dX7_sure_83 ?_
              refine g_cmp_le_T (X := (clS (fun k => g.2.2.2.2.2.2 q (f0 + k)) n0 (h0 : Int) ((2 : Nat) : Int)).toInt) (Y := 0) hC rfl rfl 94 dX7_sure_84 rfl (fun c_41 => ?_) (fun c_41 => ?_)
              · skip
                refine g_iinc hC [(9, .int 3), (8, .int 2), (7, .int 1), (6, .int (shC g.2.2.2.2 (nI q).toInt ln.toInt (nI f0).toInt (nI n0).toInt)), (0, .ref (b + 58)), (1, .int (nI h0)), (2, .int (nI q)), (3, .int ln), (4, .int (nI f0)), (5, .int (nI n0))] dX7_sure_94 0 rfl rfl (by decide) rfl ?_
                refine g_goto hC 60 dX7_sure_97 rfl ?_
                refine g_iload hC dX7_sure_60 0 rfl ?_
                refine g_iconst (v := 3) hC dX7_sure_62 rfl ?_
                refine g_icmp_ge_T (X := 3) (Y := 3) hC rfl rfl 100 dX7_sure_63 rfl (fun _ => ?_) (fun c_42 => absurd c_42 (by omega))
                refine g_iload hC dX7_sure_100 1 rfl ?_
                refine g_iconst (v := 1) hC dX7_sure_102 rfl ?_
                refine g_icmp_ne_T (X := 2) (Y := 1) hC rfl rfl 111 dX7_sure_103 rfl (fun _ => ?_) (fun c_43 => absurd c_43 (by omega))
                refine g_bipush (v := (-4)) hC dX7_sure_111 rfl ?_
                refine g_zret (ty := .int) hC rfl rfl dX7_sure_113 ?_
                have e0 : op_sure g (nI h0) (nI q) ln (nI f0) (nI n0) = suS (fun k => g.2.2.2.2.2.2 q (f0 + k)) n0 h0 := by unfold op_sure; rw [if_neg (by omega), if_neg (by omega), qn, f0n, n0n, h0n]
                have d9 : ∀ r, r ≠ 76 → L_40 r = L r := fun r hr => (by rw [d3_40 r hr, d3_30 r hr, d3_10 r hr])
                exact ⟨_, rfl, (by rw [e0]; unfold suS; rw [if_pos (by omega), if_pos (by omega)]), RS_fr hS (d9 75 (by decide)), fun k hk => ⟨rfl, d9 k (by omega)⟩⟩
              · skip
                refine g_iload hC dX7_sure_87 0 rfl ?_
                refine g_istore hC [(7, .int 2), (9, .int 2), (8, .int 2), (6, .int (shC g.2.2.2.2 (nI q).toInt ln.toInt (nI f0).toInt (nI n0).toInt)), (0, .ref (b + 58)), (1, .int (nI h0)), (2, .int (nI q)), (3, .int ln), (4, .int (nI f0)), (5, .int (nI n0))] dX7_sure_89 (by decide) rfl ?_
                refine g_iinc hC [(8, .int 3), (7, .int 2), (9, .int 2), (6, .int (shC g.2.2.2.2 (nI q).toInt ln.toInt (nI f0).toInt (nI n0).toInt)), (0, .ref (b + 58)), (1, .int (nI h0)), (2, .int (nI q)), (3, .int ln), (4, .int (nI f0)), (5, .int (nI n0))] dX7_sure_91 2 rfl rfl (by decide) rfl ?_
                refine g_iinc hC [(9, .int 3), (8, .int 3), (7, .int 2), (6, .int (shC g.2.2.2.2 (nI q).toInt ln.toInt (nI f0).toInt (nI n0).toInt)), (0, .ref (b + 58)), (1, .int (nI h0)), (2, .int (nI q)), (3, .int ln), (4, .int (nI f0)), (5, .int (nI n0))] dX7_sure_94 2 rfl rfl (by decide) rfl ?_
                refine g_goto hC 60 dX7_sure_97 rfl ?_
                refine g_iload hC dX7_sure_60 0 rfl ?_
                refine g_iconst (v := 3) hC dX7_sure_62 rfl ?_
                refine g_icmp_ge_T (X := 3) (Y := 3) hC rfl rfl 100 dX7_sure_63 rfl (fun _ => ?_) (fun c_44 => absurd c_44 (by omega))
                refine g_iload hC dX7_sure_100 1 rfl ?_
                refine g_iconst (v := 1) hC dX7_sure_102 rfl ?_
                refine g_icmp_ne_T (X := 3) (Y := 1) hC rfl rfl 111 dX7_sure_103 rfl (fun _ => ?_) (fun c_45 => absurd c_45 (by omega))
                refine g_bipush (v := (-4)) hC dX7_sure_111 rfl ?_
                refine g_zret (ty := .int) hC rfl rfl dX7_sure_113 ?_
                have e0 : op_sure g (nI h0) (nI q) ln (nI f0) (nI n0) = suS (fun k => g.2.2.2.2.2.2 q (f0 + k)) n0 h0 := by unfold op_sure; rw [if_neg (by omega), if_neg (by omega), qn, f0n, n0n, h0n]
                have d9 : ∀ r, r ≠ 76 → L_40 r = L r := fun r hr => (by rw [d3_40 r hr, d3_30 r hr, d3_10 r hr])
                exact ⟨_, rfl, (by rw [e0]; unfold suS; rw [if_pos (by omega), if_pos (by omega)]), RS_fr hS (d9 75 (by decide)), fun k hk => ⟨rfl, d9 k (by omega)⟩⟩
        · skip
          have nz : (shC g.2.2.2.2 (nI q).toInt ln.toInt f.toInt (nI n0).toInt).toInt ≠ 0 := by omega
          refine g_iload hC dX7_sure_47 0 rfl ?_
          refine g_zret (ty := .int) hC rfl rfl dX7_sure_49 ?_
          have e0 : op_sure g h (nI q) ln f (nI n0) = shC g.2.2.2.2 (nI q).toInt ln.toInt f.toInt (nI n0).toInt := by unfold op_sure; rw [if_neg (by omega), if_pos nz]
          exact ⟨_, rfl, e0.symm, hS, fR_rf⟩
      · skip
        refine g_iconst (v := (-1)) hC dX7_sure_28 rfl ?_
        refine g_zret (ty := .int) hC rfl rfl dX7_sure_29 ?_
        have e0 : op_sure g h x ln f n = -1 := by
          unfold op_sure
          by_cases c9 : 0 ≤ h.toInt ∧ h.toInt < 24
          · rw [if_neg (by omega), shC_b (by omega), if_pos (by decide)]
          · rw [if_pos c9]
        exact ⟨_, rfl, e0.symm, hS, fR_rf⟩
