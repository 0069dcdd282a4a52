/-! ===== clocks, sure: the class ===== -/
noncomputable def suS (it : Nat → Int64) (n hr : Nat) : Int32 := if 0 < (clS it n (hr : Int) ((0 : Nat) : Int)).toInt then (if 0 < (clS it n (hr : Int) ((1 : Nat) : Int)).toInt then -4 else if 0 < (clS it n (hr : Int) ((2 : Nat) : Int)).toInt then -4 else 0) else if 0 < (clS it n (hr : Int) ((1 : Nat) : Int)).toInt then (if 0 < (clS it n (hr : Int) ((2 : Nat) : Int)).toInt then -4 else 1) else if 0 < (clS it n (hr : Int) ((2 : Nat) : Int)).toInt then 2 else -4
def shC (S : Shs) (x ln f nn : Int) : Int32 := if ¬ (1 ≤ nn ∧ nn ≤ 8) then -1 else if (shR S x ln f (2 * nn.toNat)).toInt ≠ 0 then shR S x ln f (2 * nn.toNat) else if ∀ k, k < nn.toNat → 0 ≤ (S.2.2 x.toNat (f.toNat + 2 * k)).toInt ∧ (S.2.2 x.toNat (f.toNat + 2 * k)).toInt ≤ 24 then 0 else -2
theorem shC_0 {S : Shs} {x ln f nn : Int} (h : (shC S x ln f nn).toInt = 0) : (1 ≤ nn ∧ nn ≤ 8) ∧ (shR S x ln f (2 * nn.toNat)).toInt = 0 ∧ ∀ k, k < nn.toNat → 0 ≤ (S.2.2 x.toNat (f.toNat + 2 * k)).toInt ∧ (S.2.2 x.toNat (f.toNat + 2 * k)).toInt ≤ 24 := by
  unfold shC at h
  by_cases c1 : ¬ (1 ≤ nn ∧ nn ≤ 8)
  · rw [if_pos c1] at h; exact absurd h (by decide)
  · rw [if_neg c1] at h
    by_cases c2 : (shR S x ln f (2 * nn.toNat)).toInt ≠ 0
    · rw [if_pos c2] at h; exact absurd h c2
    · rw [if_neg c2] at h
      by_cases c3 : ∀ k, k < nn.toNat → 0 ≤ (S.2.2 x.toNat (f.toNat + 2 * k)).toInt ∧ (S.2.2 x.toNat (f.toNat + 2 * k)).toInt ≤ 24
      · exact ⟨Classical.not_not.mp c1, Classical.not_not.mp c2, c3⟩
      · rw [if_neg c3] at h; exact absurd h (by decide)
theorem shC_n (S : Shs) (x ln f nn : Int) : -13 ≤ (shC S x ln f nn).toInt ∧ (shC S x ln f nn).toInt ≤ 0 := by
  unfold shC
  split
  · decide
  · split
    · exact shR_n _ _ _ _ _
    · split <;> decide
noncomputable def op_clocks (g : Sg) (x ln f n : Int32) : Int64 := if (shC g.2.2.2.2 x.toInt ln.toInt f.toInt n.toInt).toInt ≠ 0 then (shC g.2.2.2.2 x.toInt ln.toInt f.toInt n.toInt).toInt64 else clS (fun k => g.2.2.2.2.2.2 x.toInt.toNat (f.toInt.toNat + k)) n.toInt.toNat (-1) 0
noncomputable def op_sure (g : Sg) (h x ln f n : Int32) : Int32 := if ¬ (0 ≤ h.toInt ∧ h.toInt < 24) then -1 else if (shC g.2.2.2.2 x.toInt ln.toInt f.toInt n.toInt).toInt ≠ 0 then shC g.2.2.2.2 x.toInt ln.toInt f.toInt n.toInt else suS (fun k => g.2.2.2.2.2.2 x.toInt.toNat (f.toInt.toNat + k)) n.toInt.toNat h.toInt.toNat
theorem CS_fr {M M' : Nat → Nat → Int32} {L L' : Nat → Nat → Int64} {g : Sg} (h : CS M L g) (hok : OK g) (e : ∀ k, k < 31 → M' k = M k) (e2 : ∀ k, 50 ≤ k → k < 58 → M' k = M k ∧ L' k = L k) : CS M' L' g :=
  CS_now (t := g.1) h hok (tC_cong h.1 hok.1.2.2.2.1 (fun k k1 k2 => e k (by omega))) (fun k k1 k2 => e k k2) e2

theorem c_X0_countWith (l : Launch) (D : va_G) (cA : Nat → ClassId) (b : Nat) (M : Nat → Nat → Int32) (L : Nat → Nat → Int64) (it : Nat → Int64) (n : Nat) (x : Int32) (fn : Nat) (htd : ∀ h, h < 25 → M 46 h = Int32.ofInt (tdS it n h)) (hf : fn ≤ 2) : fm_Met l D cA b yX0_countWith cX0_countWith 6 (some .long) 1 26 0 0 [.ref (b + 45), .int x, .int (nI fn)] LAY M L LAY (fm_pl (fun r M' L' => r = clS it n x.toInt (fn : Int) ∧ M' = M ∧ (∀ r, r ≠ 47 → L' r = L r))) := by
  refine fm_start RX0 rfl (by decide) (Nat.le_of_ble_eq_true rfl) ?_
  intro pq eq sq mq aq bq tq cq hC hin
  refine g_aload_n hC dX0_countWith_0 rfl 0 rfl ?_
  refine g_getR (ci := 0) (i := 1) (k := 45) (t := 47) hC fm_in0 rfl ly_45 rfl (by decide) fw_168 dX0_countWith_1 ?_
  refine g_lconst (v := 0) hC dX0_countWith_4 rfl ?_
  refine g_callS hC (as := [.ref (b + 47), .long 0]) (rest := []) (c_J7_fill_d0a16 l D cA b LAY M L 47 49 0 ly_47 (by decide)) ⟨fw_561, fw_562, fw_4, fw_563⟩ hd_J7_fill_d0a16 ⟨Nat.le_of_ble_eq_true rfl, Nat.le_of_ble_eq_true rfl⟩ ⟨Nat.le_of_ble_eq_true rfl, Nat.le_of_ble_eq_true rfl⟩ rfl rfl (Nat.le_of_ble_eq_true rfl) dX0_countWith_5 (g_rv (fun M_1 L_1 h_1 => ?_))
  obtain ⟨f1_1, f2_1, f3_1⟩ := h_1
  rw [f3_1]
  refine g_aload_n hC dX0_countWith_8 rfl 0 rfl ?_
  refine g_getR (ci := 0) (i := 1) (k := 45) (t := 47) hC fm_in0 rfl ly_45 rfl (by decide) fw_168 dX0_countWith_9 ?_
  refine g_iconst (v := 0) hC dX0_countWith_12 rfl ?_
  refine g_lconst (v := 1) hC dX0_countWith_13 rfl ?_
  refine g_lastN (j := 0) (k := 47) hC ly_47 rfl (by decide) (by decide) dX0_countWith_14 ?_
  refine g_aload_n hC dX0_countWith_15 rfl 0 rfl ?_
  refine g_iconst (v := 0) hC dX0_countWith_16 rfl ?_
  refine g_callV hC (k := 45) (ci := 0) (as := [.int 0]) (rest := []) (c_X0_keepTold l D cA b M (fm_upL L_1 47 0 1) it n 0 (by decide) (htd 0 (by decide))) ⟨fw_564, fw_566, fs_13, fw_7, fw_567⟩ ⟨rfl, hd_X0_keepTold⟩ rfl ly_45 ⟨Nat.le_of_ble_eq_true rfl, Nat.le_of_ble_eq_true rfl⟩ ⟨Nat.le_of_ble_eq_true rfl, Nat.le_of_ble_eq_true rfl⟩ rfl rfl (Nat.le_of_ble_eq_true rfl) dX0_countWith_17 (g_rv (fun M_2 L_2 h_2 => ?_))
  obtain ⟨k1_2, k2_2, k3_2⟩ := h_2
  rw [k1_2]
  have w0 : ∀ j, j < 49 → L_2 47 j = wyK it n x.toInt (fn : Int) 0 j := fun j hj => by
    rw [k3_2 j hj, wy_0, fm_upLv]
    by_cases ej : j = 0
    · subst ej
      by_cases o : okT it n 0 0
      · rw [if_pos o, if_pos rfl, if_pos ⟨rfl, o⟩]
      · rw [if_neg o, if_neg (fun z => o z.2)]
    · rw [if_neg ej, f2_1 j hj, show (if j = 0 ∧ okT it n 0 0 then (1 : Int64) else 0) = 0 from if_neg (fun z => ej z.1)]
      split <;> rfl
  refine g_iconst (v := 0) hC dX0_countWith_20 rfl ?_
  refine g_istore_n hC [(3, .int 0), (0, .ref (b + 45)), (1, .int x), (2, .int (nI fn))] dX0_countWith_21 rfl (by decide) rfl ?_
  have lp_22_3 : ∀ (n_3 : Nat) (L1 : Nat → Nat → Int64) (h : Nat), 24 - h < n_3 → (h ≤ 24 ∧ (∀ r, r ≠ 47 → L1 r = L r) ∧ (∀ j, j < 49 → L1 47 j = wyK it n x.toInt (fn : Int) h j)) → fm_G pq l eq (fm_rm 1 26 0 0) sq mq aq bq tq cq D cA b 6 (MQ bq (fm_Q D cA b LAY (fm_pl (fun r M' L' => r = clS it n x.toInt (fn : Int) ∧ M' = M ∧ (∀ r, r ≠ 47 → L' r = L r)))) aq sq 0 0 (fun q => b ≤ q)) LAY M L1 0 0 22 [(0, .ref (b + 45)), (1, .int x), (2, .int (nI fn)), (3, .int (nI h))] [] := by
    intro n_3
    induction n_3 with
    | zero => intro L1 h hm_3; exact absurd hm_3 (Nat.not_lt_zero _)
    | succ n_3 ih_3 =>
      intro L1 h hm_3 hinv_3
      obtain ⟨a1, a2, a3⟩ := hinv_3
      refine g_iload_n hC dX0_countWith_22 rfl 3 rfl ?_
      refine g_bipush (v := 24) hC dX0_countWith_23 rfl ?_
      refine g_icmp_ge_T (X := ((h : Nat) : Int)) (Y := 24) hC (nI_toInt (by omega)) rfl 73 dX0_countWith_25 rfl (fun c_4 => ?_) (fun c_4 => ?_)
      · skip
        have eh : h = 24 := by omega
        subst eh
        refine g_lconst (v := 0) hC dX0_countWith_73 rfl ?_
        refine g_lstore_n hC [(3, .long 0), (0, .ref (b + 45)), (1, .int x), (2, .int (nI fn))] dX0_countWith_74 rfl (by decide) rfl ?_
        refine g_iconst (v := 0) hC dX0_countWith_75 rfl ?_
        refine g_istore hC [(5, .int 0), (3, .long 0), (0, .ref (b + 45)), (1, .int x), (2, .int (nI fn))] dX0_countWith_76 (by decide) rfl ?_
        have lp_78_5 : ∀ (n_5 : Nat) (acc : Int64) (i : Nat), 49 - i < n_5 → (i ≤ 49 ∧ acc = rgS (wyK it n x.toInt (fn : Int) 24) 0 i) → fm_G pq l eq (fm_rm 1 26 0 0) sq mq aq bq tq cq D cA b 6 (MQ bq (fm_Q D cA b LAY (fm_pl (fun r M' L' => r = clS it n x.toInt (fn : Int) ∧ M' = M ∧ (∀ r, r ≠ 47 → L' r = L r)))) aq sq 0 0 (fun q => b ≤ q)) LAY M L1 0 0 78 [(0, .ref (b + 45)), (3, .long acc), (5, .int (nI i))] [] := by
          intro n_5
          induction n_5 with
          | zero => intro acc i hm_5; exact absurd hm_5 (Nat.not_lt_zero _)
          | succ n_5 ih_5 =>
            intro acc i hm_5 hinv_5
            obtain ⟨i1, ea⟩ := hinv_5
            refine g_iload hC dX0_countWith_78 2 rfl ?_
            refine g_bipush (v := 48) hC dX0_countWith_80 rfl ?_
            refine g_icmp_gt_T (X := ((i : Nat) : Int)) (Y := 48) hC (nI_toInt (by omega)) rfl 101 dX0_countWith_82 rfl (fun c_6 => ?_) (fun c_6 => ?_)
            · skip
              refine g_lload_n hC dX0_countWith_101 rfl 1 rfl ?_
              refine g_lret hC rfl dX0_countWith_102 ?_
              have ei : i = 49 := by omega
              subst ei
              exact ⟨_, rfl, ea, rfl, a2⟩
            · skip
              refine g_lload_n hC dX0_countWith_85 rfl 1 rfl ?_
              refine g_aload_n hC dX0_countWith_86 rfl 0 rfl ?_
              refine g_getR (ci := 0) (i := 1) (k := 45) (t := 47) hC fm_in0 rfl ly_45 rfl (by decide) fw_168 dX0_countWith_87 ?_
              refine g_iload hC dX0_countWith_90 2 rfl ?_
              refine g_laldN (j := i) (k := 47) hC ly_47 rfl (by omega) (by decide) dX0_countWith_92 ?_
              refine g_topL (y := wyK it n x.toInt (fn : Int) 24 i) (a3 i (by omega)) ?_
              refine g_ladd hC dX0_countWith_93 ?_
              refine g_lstore_n hC [(3, .long (acc + (wyK it n x.toInt (fn : Int) 24 i))), (0, .ref (b + 45)), (5, .int (nI i))] dX0_countWith_94 rfl (by decide) rfl ?_
              refine g_iinc hC [(5, .int (nI (i + 1))), (3, .long (acc + (wyK it n x.toInt (fn : Int) 24 i))), (0, .ref (b + 45))] dX0_countWith_95 2 rfl (by rw [show Int32.ofInt 1 = nI 1 from rfl, nI_add]) (by decide) rfl ?_
              refine g_goto hC 78 dX0_countWith_98 rfl ?_
              exact g_sub [2, 1, 0] rfl (ih_5 (acc + (wyK it n x.toInt (fn : Int) 24 i)) (i + 1) (by omega) (⟨by omega, by rw [rg_s, ea, Nat.zero_add]⟩))
        exact g_sub [2, 1, 0] rfl (lp_78_5 (49 - 0 + 1) 0 0 (Nat.lt_succ_self _) (⟨by decide, rfl⟩))
      · skip
        refine g_iload_n hC dX0_countWith_28 rfl 3 rfl ?_
        refine g_iload_n hC dX0_countWith_29 rfl 1 rfl ?_
        refine g_icmp_ne_T (X := ((h : Nat) : Int)) (Y := x.toInt) hC (nI_toInt (by omega)) rfl 37 dX0_countWith_30 rfl (fun c_7 => ?_) (fun c_7 => ?_)
        · skip
          refine g_iconst (v := 0) hC dX0_countWith_37 rfl ?_
          refine g_istore hC [(4, .int 0), (0, .ref (b + 45)), (1, .int x), (2, .int (nI fn)), (3, .int (nI h))] dX0_countWith_38 (by decide) rfl ?_
          refine g_iload_n hC dX0_countWith_40 rfl 4 rfl ?_
          refine g_iload_n hC dX0_countWith_41 rfl 2 rfl ?_
          refine g_icmp_ne_T (X := ((h : Nat) : Int)) (Y := x.toInt) hC (nI_toInt (by omega)) rfl 49 dX0_countWith_42 rfl (fun _ => ?_) (fun c_8 => absurd c_8 (by omega))
          refine g_iconst (v := 2) hC dX0_countWith_49 rfl ?_
          refine g_istore hC [(5, .int 2), (4, .int 0), (0, .ref (b + 45)), (1, .int x), (2, .int (nI fn)), (3, .int (nI h))] dX0_countWith_50 (by decide) rfl ?_
          refine g_aload_n hC dX0_countWith_52 rfl 2 rfl ?_
          refine g_iload hC dX0_countWith_53 1 rfl ?_
          refine g_iload hC dX0_countWith_55 0 rfl ?_
          refine g_callV hC (k := 45) (ci := 0) (as := [.int 0, .int 2]) (rest := []) (c_X0_passHour l D cA b M L1 0 2 (by omega) (by omega)) ⟨fw_568, fw_570, fs_14, fw_7, fw_571⟩ ⟨rfl, hd_X0_passHour⟩ rfl ly_45 ⟨Nat.le_of_ble_eq_true rfl, Nat.le_of_ble_eq_true rfl⟩ ⟨Nat.le_of_ble_eq_true rfl, Nat.le_of_ble_eq_true rfl⟩ rfl rfl (Nat.le_of_ble_eq_true rfl) dX0_countWith_57 (g_rv (fun M_9 L_9 h_9 => ?_))
          obtain ⟨p1_9, p2_9, p3_9⟩ := h_9
          rw [p1_9]
          have pw : ∀ j, j < 49 → L_9 47 j = rgS (fun v => if v ≤ j ∧ ((h : Int) = x.toInt → (v : Int) = (fn : Int)) then wyK it n x.toInt (fn : Int) h (j - v) else 0) 0 3 := fun j hj => by
            rw [p3_9 j hj]
            refine rg_c 3 (fun u hu => ?_)
            simp only [Nat.zero_add]
            by_cases c : u ≤ j
            · rw [if_pos c, if_pos ⟨c, fun z => absurd z (by omega)⟩, a3 (j - u) (by omega)]
            · rw [if_neg c, if_neg (fun z => c z.1)]
          refine g_aload_n hC dX0_countWith_60 rfl 2 rfl ?_
          refine g_iload_n hC dX0_countWith_61 rfl 5 rfl ?_
          refine g_iconst (v := 1) hC dX0_countWith_62 rfl ?_
          refine g_iadd hC dX0_countWith_63 ?_
          refine g_top (y := nI (h + 1)) (nI_add _ _) ?_
          refine g_callV hC (k := 45) (ci := 0) (as := [.int (nI (h + 1))]) (rest := []) (c_X0_keepTold l D cA b M L_9 it n (h + 1) (by omega) (htd (h + 1) (by omega))) ⟨fw_564, fw_566, fs_13, fw_7, fw_567⟩ ⟨rfl, hd_X0_keepTold⟩ rfl ly_45 ⟨Nat.le_of_ble_eq_true rfl, Nat.le_of_ble_eq_true rfl⟩ ⟨Nat.le_of_ble_eq_true rfl, Nat.le_of_ble_eq_true rfl⟩ rfl rfl (Nat.le_of_ble_eq_true rfl) dX0_countWith_64 (g_rv (fun M_10 L_10 h_10 => ?_))
          obtain ⟨k1_10, k2_10, k3_10⟩ := h_10
          rw [k1_10]
          have ws : ∀ j, j < 49 → L_10 47 j = wyK it n x.toInt (fn : Int) (h + 1) j := fun j hj => by rw [k3_10 j hj, wy_s, pw j hj]
          refine g_iinc hC [(3, .int (nI (h + 1))), (5, .int 2), (4, .int 0), (0, .ref (b + 45)), (1, .int x), (2, .int (nI fn))] dX0_countWith_67 5 rfl (by rw [show Int32.ofInt 1 = nI 1 from rfl, nI_add]) (by decide) rfl ?_
          refine g_goto hC 22 dX0_countWith_70 rfl ?_
          exact g_sub [3, 4, 5, 0] rfl (ih_3 L_10 (h + 1) (by omega) (⟨by omega, fun r hr => (by rw [k2_10 r hr, p2_9 r hr]; exact a2 r hr), ws⟩))
        · skip
          refine g_iload_n hC dX0_countWith_33 rfl 2 rfl ?_
          refine g_goto hC 38 dX0_countWith_34 rfl ?_
          refine g_istore hC [(4, .int (nI fn)), (0, .ref (b + 45)), (1, .int x), (2, .int (nI fn)), (3, .int (nI h))] dX0_countWith_38 (by decide) rfl ?_
          refine g_iload_n hC dX0_countWith_40 rfl 4 rfl ?_
          refine g_iload_n hC dX0_countWith_41 rfl 2 rfl ?_
          refine g_icmp_ne_T (X := ((h : Nat) : Int)) (Y := x.toInt) hC (nI_toInt (by omega)) rfl 49 dX0_countWith_42 rfl (fun c_11 => absurd c_11 (by omega)) (fun _ => ?_)
          refine g_iload_n hC dX0_countWith_45 rfl 3 rfl ?_
          refine g_goto hC 50 dX0_countWith_46 rfl ?_
          refine g_istore hC [(5, .int (nI fn)), (4, .int (nI fn)), (0, .ref (b + 45)), (1, .int x), (2, .int (nI fn)), (3, .int (nI h))] dX0_countWith_50 (by decide) rfl ?_
          refine g_aload_n hC dX0_countWith_52 rfl 2 rfl ?_
          refine g_iload hC dX0_countWith_53 1 rfl ?_
          refine g_iload hC dX0_countWith_55 0 rfl ?_
          refine g_callV hC (k := 45) (ci := 0) (as := [.int (nI fn), .int (nI fn)]) (rest := []) (c_X0_passHour l D cA b M L1 fn fn (by omega) (by omega)) ⟨fw_568, fw_570, fs_14, fw_7, fw_571⟩ ⟨rfl, hd_X0_passHour⟩ rfl ly_45 ⟨Nat.le_of_ble_eq_true rfl, Nat.le_of_ble_eq_true rfl⟩ ⟨Nat.le_of_ble_eq_true rfl, Nat.le_of_ble_eq_true rfl⟩ rfl rfl (Nat.le_of_ble_eq_true rfl) dX0_countWith_57 (g_rv (fun M_12 L_12 h_12 => ?_))
          obtain ⟨p1_12, p2_12, p3_12⟩ := h_12
          rw [p1_12]
          have pw : ∀ j, j < 49 → L_12 47 j = rgS (fun v => if v ≤ j ∧ ((h : Int) = x.toInt → (v : Int) = (fn : Int)) then wyK it n x.toInt (fn : Int) h (j - v) else 0) 0 3 := fun j hj => by
            rw [p3_12 j hj]
            rw [show fn + 1 - fn = 1 by omega]
            refine rg_1 (by omega) ?_ (fun v v1 v2 => if_neg (fun z => v2 (by have := z.2 (by omega); omega)))
            show (if fn ≤ j then L1 47 (j - fn) else 0) = (if fn ≤ j ∧ ((h : Int) = x.toInt → (fn : Int) = (fn : Int)) then wyK it n x.toInt (fn : Int) h (j - fn) else 0)
            by_cases c : fn ≤ j
            · rw [if_pos c, if_pos ⟨c, fun _ => rfl⟩, a3 (j - fn) (by omega)]
            · rw [if_neg c, if_neg (fun z => c z.1)]
          refine g_aload_n hC dX0_countWith_60 rfl 2 rfl ?_
          refine g_iload_n hC dX0_countWith_61 rfl 5 rfl ?_
          refine g_iconst (v := 1) hC dX0_countWith_62 rfl ?_
          refine g_iadd hC dX0_countWith_63 ?_
          refine g_top (y := nI (h + 1)) (nI_add _ _) ?_
          refine g_callV hC (k := 45) (ci := 0) (as := [.int (nI (h + 1))]) (rest := []) (c_X0_keepTold l D cA b M L_12 it n (h + 1) (by omega) (htd (h + 1) (by omega))) ⟨fw_564, fw_566, fs_13, fw_7, fw_567⟩ ⟨rfl, hd_X0_keepTold⟩ rfl ly_45 ⟨Nat.le_of_ble_eq_true rfl, Nat.le_of_ble_eq_true rfl⟩ ⟨Nat.le_of_ble_eq_true rfl, Nat.le_of_ble_eq_true rfl⟩ rfl rfl (Nat.le_of_ble_eq_true rfl) dX0_countWith_64 (g_rv (fun M_13 L_13 h_13 => ?_))
          obtain ⟨k1_13, k2_13, k3_13⟩ := h_13
          rw [k1_13]
          have ws : ∀ j, j < 49 → L_13 47 j = wyK it n x.toInt (fn : Int) (h + 1) j := fun j hj => by rw [k3_13 j hj, wy_s, pw j hj]
          refine g_iinc hC [(3, .int (nI (h + 1))), (5, .int (nI fn)), (4, .int (nI fn)), (0, .ref (b + 45)), (1, .int x), (2, .int (nI fn))] dX0_countWith_67 5 rfl (by rw [show Int32.ofInt 1 = nI 1 from rfl, nI_add]) (by decide) rfl ?_
          refine g_goto hC 22 dX0_countWith_70 rfl ?_
          exact g_sub [3, 4, 5, 0] rfl (ih_3 L_13 (h + 1) (by omega) (⟨by omega, fun r hr => (by rw [k2_13 r hr, p2_12 r hr]; exact a2 r hr), ws⟩))
  exact g_sub [1, 2, 3, 0] rfl (lp_22_3 (24 - 0 + 1) L_2 0 (Nat.lt_succ_self _) (⟨Nat.zero_le _, fun r hr => (by rw [k2_2 r hr, fm_upLn hr]; exact f1_1 r hr), w0⟩))

theorem c_X0_countAll (l : Launch) (D : va_G) (cA : Nat → ClassId) (b : Nat) (M : Nat → Nat → Int32) (L : Nat → Nat → Int64) (it : Nat → Int64) (n : Nat) (htd : ∀ h, h < 25 → M 46 h = Int32.ofInt (tdS it n h)) : fm_Met l D cA b yX0_countAll cX0_countAll 1 (some .long) 2 51 0 0 [.ref (b + 45)] LAY M L LAY (fm_pl (fun r M' L' => r = clS it n (-1) 0 ∧ M' = M ∧ (∀ r, r ≠ 47 → L' r = L r))) := by
  refine fm_start RX0 rfl (by decide) (Nat.le_of_ble_eq_true rfl) ?_
  intro pq eq sq mq aq bq tq cq hC hin
  refine g_aload_n hC dX0_countAll_0 rfl 0 rfl ?_
  refine g_iconst (v := (-1)) hC dX0_countAll_1 rfl ?_
  refine g_iconst (v := 0) hC dX0_countAll_2 rfl ?_
  refine g_callV hC (k := 45) (ci := 0) (as := [.int (-1), .int 0]) (rest := []) (c_X0_countWith l D cA b M L it n (-1) 0 htd (by decide)) ⟨fw_557, fw_559, fs_12, fw_7, fw_560⟩ ⟨rfl, hd_X0_countWith⟩ rfl ly_45 ⟨Nat.le_of_ble_eq_true rfl, Nat.le_of_ble_eq_true rfl⟩ ⟨Nat.le_of_ble_eq_true rfl, Nat.le_of_ble_eq_true rfl⟩ rfl rfl (Nat.le_of_ble_eq_true rfl) dX0_countAll_3 (g_rl (fun r_1 M_1 L_1 h_1 => ?_))
  skip
  refine g_lret hC rfl dX0_countAll_6 ?_
  exact ⟨_, rfl, h_1⟩

theorem c_X0_sureNumber (l : Launch) (D : va_G) (cA : Nat → ClassId) (b : Nat) (M : Nat → Nat → Int32) (L : Nat → Nat → Int64) (it : Nat → Int64) (n : Nat) (hr : Nat) (htd : ∀ h, h < 25 → M 46 h = Int32.ofInt (tdS it n h)) (hb : hr < 24) : fm_Met l D cA b yX0_sureNumber cX0_sureNumber 4 (some .int) 2 51 0 0 [.ref (b + 45), .int (nI hr)] LAY M L LAY (fm_pm (fun r M' L' => r = suS it n hr ∧ M' = M ∧ (∀ r, r ≠ 47 → L' r = L r))) := by
  refine fm_start RX0 rfl (by decide) (Nat.le_of_ble_eq_true rfl) ?_
  intro pq eq sq mq aq bq tq cq hC hin
  have ht : (nI hr).toInt = (hr : Int) := nI_toInt (by omega)
  refine g_bipush (v := (-4)) hC dX0_sureNumber_0 rfl ?_
  refine g_istore_n hC [(2, .int (-4)), (0, .ref (b + 45)), (1, .int (nI hr))] dX0_sureNumber_2 rfl (by decide) rfl ?_
  refine g_iconst (v := 0) hC dX0_sureNumber_3 rfl ?_
  refine g_istore_n hC [(3, .int 0), (2, .int (-4)), (0, .ref (b + 45)), (1, .int (nI hr))] dX0_sureNumber_4 rfl (by decide) rfl ?_
  refine g_iload_n hC dX0_sureNumber_5 rfl 0 rfl ?_
  refine g_iconst (v := 2) hC dX0_sureNumber_6 rfl ?_
  refine g_icmp_gt_T (X := 0) (Y := 2) hC rfl rfl 38 dX0_sureNumber_7 rfl (fun c_1 => absurd c_1 (by omega)) (fun _ => ?_)
  refine g_aload_n hC dX0_sureNumber_10 rfl 2 rfl ?_
  refine g_iload_n hC dX0_sureNumber_11 rfl 3 rfl ?_
  refine g_iload_n hC dX0_sureNumber_12 rfl 0 rfl ?_
  refine g_callV hC (k := 45) (ci := 0) (as := [.int (nI hr), .int 0]) (rest := []) (c_X0_countWith l D cA b M L it n (nI hr) 0 htd (by decide)) ⟨fw_557, fw_559, fs_12, fw_7, fw_560⟩ ⟨rfl, hd_X0_countWith⟩ rfl ly_45 ⟨Nat.le_of_ble_eq_true rfl, Nat.le_of_ble_eq_true rfl⟩ ⟨Nat.le_of_ble_eq_true rfl, Nat.le_of_ble_eq_true rfl⟩ rfl rfl (Nat.le_of_ble_eq_true rfl) dX0_sureNumber_13 (g_rl (fun r_2 M_2 L_2 h_2 => ?_))
  obtain ⟨d1_2, d2_2, d3_2⟩ := h_2
  rw [ht] at d1_2
  rw [d1_2, d2_2]
  refine g_lconst (v := 0) hC dX0_sureNumber_16 rfl ?_
  refine g_lcmp hC dX0_sureNumber_17 ?_
  refine g_cmp_le_T (X := (clS it n (hr : Int) ((0 : Nat) : Int)).toInt) (Y := 0) hC rfl rfl 32 dX0_sureNumber_18 rfl (fun c_3 => ?_) (fun c_3 => ?_)
  · skip
    refine g_iinc hC [(3, .int 1), (2, .int (-4)), (0, .ref (b + 45)), (1, .int (nI hr))] dX0_sureNumber_32 0 rfl rfl (by decide) rfl ?_
    refine g_goto hC 5 dX0_sureNumber_35 rfl ?_
    refine g_iload_n hC dX0_sureNumber_5 rfl 0 rfl ?_
    refine g_iconst (v := 2) hC dX0_sureNumber_6 rfl ?_
    refine g_icmp_gt_T (X := 1) (Y := 2) hC rfl rfl 38 dX0_sureNumber_7 rfl (fun c_4 => absurd c_4 (by omega)) (fun _ => ?_)
    refine g_aload_n hC dX0_sureNumber_10 rfl 2 rfl ?_
    refine g_iload_n hC dX0_sureNumber_11 rfl 3 rfl ?_
    refine g_iload_n hC dX0_sureNumber_12 rfl 0 rfl ?_
    refine g_callV hC (k := 45) (ci := 0) (as := [.int (nI hr), .int 1]) (rest := []) (c_X0_countWith l D cA b M L_2 it n (nI hr) 1 htd (by decide)) ⟨fw_557, fw_559, fs_12, fw_7, fw_560⟩ ⟨rfl, hd_X0_countWith⟩ rfl ly_45 ⟨Nat.le_of_ble_eq_true rfl, Nat.le_of_ble_eq_true rfl⟩ ⟨Nat.le_of_ble_eq_true rfl, Nat.le_of_ble_eq_true rfl⟩ rfl rfl (Nat.le_of_ble_eq_true rfl) dX0_sureNumber_13 (g_rl (fun r_5 M_5 L_5 h_5 => ?_))
    obtain ⟨d1_5, d2_5, d3_5⟩ := h_5
    rw [ht] at d1_5
    rw [d1_5, d2_5]
    refine g_lconst (v := 0) hC dX0_sureNumber_16 rfl ?_
    refine g_lcmp hC dX0_sureNumber_17 ?_
    refine g_cmp_le_T (X := (clS it n (hr : Int) ((1 : Nat) : Int)).toInt) (Y := 0) hC rfl rfl 32 dX0_sureNumber_18 rfl (fun c_6 => ?_) (fun c_6 => ?_)
    · skip
      refine g_iinc hC [(3, .int 2), (2, .int (-4)), (0, .ref (b + 45)), (1, .int (nI hr))] dX0_sureNumber_32 0 rfl rfl (by decide) rfl ?_
      refine g_goto hC 5 dX0_sureNumber_35 rfl ?_
      refine g_iload_n hC dX0_sureNumber_5 rfl 0 rfl ?_
      refine g_iconst (v := 2) hC dX0_sureNumber_6 rfl ?_
      refine g_icmp_gt_T (X := 2) (Y := 2) hC rfl rfl 38 dX0_sureNumber_7 rfl (fun c_7 => absurd c_7 (by omega)) (fun _ => ?_)
      refine g_aload_n hC dX0_sureNumber_10 rfl 2 rfl ?_
      refine g_iload_n hC dX0_sureNumber_11 rfl 3 rfl ?_
      refine g_iload_n hC dX0_sureNumber_12 rfl 0 rfl ?_
      refine g_callV hC (k := 45) (ci := 0) (as := [.int (nI hr), .int 2]) (rest := []) (c_X0_countWith l D cA b M L_5 it n (nI hr) 2 htd (by decide)) ⟨fw_557, fw_559, fs_12, fw_7, fw_560⟩ ⟨rfl, hd_X0_countWith⟩ rfl ly_45 ⟨Nat.le_of_ble_eq_true rfl, Nat.le_of_ble_eq_true rfl⟩ ⟨Nat.le_of_ble_eq_true rfl, Nat.le_of_ble_eq_true rfl⟩ rfl rfl (Nat.le_of_ble_eq_true rfl) dX0_sureNumber_13 (g_rl (fun r_8 M_8 L_8 h_8 => ?_))
      obtain ⟨d1_8, d2_8, d3_8⟩ := h_8
      rw [ht] at d1_8
      rw [d1_8, d2_8]
      refine g_lconst (v := 0) hC dX0_sureNumber_16 rfl ?_
      refine g_lcmp hC dX0_sureNumber_17 ?_
      refine g_cmp_le_T (X := (clS it n (hr : Int) ((2 : Nat) : Int)).toInt) (Y := 0) hC rfl rfl 32 dX0_sureNumber_18 rfl (fun c_9 => ?_) (fun c_9 => ?_)
      · skip
        refine g_iinc hC [(3, .int 3), (2, .int (-4)), (0, .ref (b + 45)), (1, .int (nI hr))] dX0_sureNumber_32 0 rfl rfl (by decide) rfl ?_
        refine g_goto hC 5 dX0_sureNumber_35 rfl ?_
        refine g_iload_n hC dX0_sureNumber_5 rfl 0 rfl ?_
        refine g_iconst (v := 2) hC dX0_sureNumber_6 rfl ?_
        refine g_icmp_gt_T (X := 3) (Y := 2) hC rfl rfl 38 dX0_sureNumber_7 rfl (fun _ => ?_) (fun c_10 => absurd c_10 (by omega))
        refine g_iload_n hC dX0_sureNumber_38 rfl 1 rfl ?_
        refine g_zret (ty := .int) hC rfl rfl dX0_sureNumber_39 ?_
        exact ⟨_, rfl, (by unfold suS; rw [if_neg (by omega), if_neg (by omega), if_neg (by omega)]), rfl, (fun r hr => (by rw [d3_8 r hr, d3_5 r hr, d3_2 r hr]))⟩
      · skip
        refine g_iload_n hC dX0_sureNumber_21 rfl 1 rfl ?_
        refine g_bipush (v := (-4)) hC dX0_sureNumber_22 rfl ?_
        refine g_icmp_eq_T (X := (-4)) (Y := (-4)) hC rfl rfl 30 dX0_sureNumber_24 rfl (fun _ => ?_) (fun c_11 => absurd c_11 (by omega))
        refine g_iload_n hC dX0_sureNumber_30 rfl 0 rfl ?_
        refine g_istore_n hC [(2, .int 2), (3, .int 2), (0, .ref (b + 45)), (1, .int (nI hr))] dX0_sureNumber_31 rfl (by decide) rfl ?_
        refine g_iinc hC [(3, .int 3), (2, .int 2), (0, .ref (b + 45)), (1, .int (nI hr))] dX0_sureNumber_32 1 rfl rfl (by decide) rfl ?_
        refine g_goto hC 5 dX0_sureNumber_35 rfl ?_
        refine g_iload_n hC dX0_sureNumber_5 rfl 0 rfl ?_
        refine g_iconst (v := 2) hC dX0_sureNumber_6 rfl ?_
        refine g_icmp_gt_T (X := 3) (Y := 2) hC rfl rfl 38 dX0_sureNumber_7 rfl (fun _ => ?_) (fun c_12 => absurd c_12 (by omega))
        refine g_iload_n hC dX0_sureNumber_38 rfl 1 rfl ?_
        refine g_zret (ty := .int) hC rfl rfl dX0_sureNumber_39 ?_
        exact ⟨_, rfl, (by unfold suS; rw [if_neg (by omega), if_neg (by omega), if_pos (by omega)]), rfl, (fun r hr => (by rw [d3_8 r hr, d3_5 r hr, d3_2 r hr]))⟩
    · skip
      refine g_iload_n hC dX0_sureNumber_21 rfl 1 rfl ?_
      refine g_bipush (v := (-4)) hC dX0_sureNumber_22 rfl ?_
      refine g_icmp_eq_T (X := (-4)) (Y := (-4)) hC rfl rfl 30 dX0_sureNumber_24 rfl (fun _ => ?_) (fun c_13 => absurd c_13 (by omega))
      refine g_iload_n hC dX0_sureNumber_30 rfl 0 rfl ?_
      refine g_istore_n hC [(2, .int 1), (3, .int 1), (0, .ref (b + 45)), (1, .int (nI hr))] dX0_sureNumber_31 rfl (by decide) rfl ?_
      refine g_iinc hC [(3, .int 2), (2, .int 1), (0, .ref (b + 45)), (1, .int (nI hr))] dX0_sureNumber_32 1 rfl rfl (by decide) rfl ?_
      refine g_goto hC 5 dX0_sureNumber_35 rfl ?_
      refine g_iload_n hC dX0_sureNumber_5 rfl 0 rfl ?_
      refine g_iconst (v := 2) hC dX0_sureNumber_6 rfl ?_
      refine g_icmp_gt_T (X := 2) (Y := 2) hC rfl rfl 38 dX0_sureNumber_7 rfl (fun c_14 => absurd c_14 (by omega)) (fun _ => ?_)
      refine g_aload_n hC dX0_sureNumber_10 rfl 2 rfl ?_
      refine g_iload_n hC dX0_sureNumber_11 rfl 3 rfl ?_
      refine g_iload_n hC dX0_sureNumber_12 rfl 0 rfl ?_
      refine g_callV hC (k := 45) (ci := 0) (as := [.int (nI hr), .int 2]) (rest := []) (c_X0_countWith l D cA b M L_5 it n (nI hr) 2 htd (by decide)) ⟨fw_557, fw_559, fs_12, fw_7, fw_560⟩ ⟨rfl, hd_X0_countWith⟩ rfl ly_45 ⟨Nat.le_of_ble_eq_true rfl, Nat.le_of_ble_eq_true rfl⟩ ⟨Nat.le_of_ble_eq_true rfl, Nat.le_of_ble_eq_true rfl⟩ rfl rfl (Nat.le_of_ble_eq_true rfl) dX0_sureNumber_13 (g_rl (fun r_15 M_15 L_15 h_15 => ?_))
      obtain ⟨d1_15, d2_15, d3_15⟩ := h_15
      rw [ht] at d1_15
      rw [d1_15, d2_15]
      refine g_lconst (v := 0) hC dX0_sureNumber_16 rfl ?_
      refine g_lcmp hC dX0_sureNumber_17 ?_
      refine g_cmp_le_T (X := (clS it n (hr : Int) ((2 : Nat) : Int)).toInt) (Y := 0) hC rfl rfl 32 dX0_sureNumber_18 rfl (fun c_16 => ?_) (fun c_16 => ?_)
      · skip
        refine g_iinc hC [(3, .int 3), (2, .int 1), (0, .ref (b + 45)), (1, .int (nI hr))] dX0_sureNumber_32 0 rfl rfl (by decide) rfl ?_
        refine g_goto hC 5 dX0_sureNumber_35 rfl ?_
        refine g_iload_n hC dX0_sureNumber_5 rfl 0 rfl ?_
        refine g_iconst (v := 2) hC dX0_sureNumber_6 rfl ?_
        refine g_icmp_gt_T (X := 3) (Y := 2) hC rfl rfl 38 dX0_sureNumber_7 rfl (fun _ => ?_) (fun c_17 => absurd c_17 (by omega))
        refine g_iload_n hC dX0_sureNumber_38 rfl 1 rfl ?_
        refine g_zret (ty := .int) hC rfl rfl dX0_sureNumber_39 ?_
        exact ⟨_, rfl, (by unfold suS; rw [if_neg (by omega), if_pos (by omega), if_neg (by omega)]), rfl, (fun r hr => (by rw [d3_15 r hr, d3_5 r hr, d3_2 r hr]))⟩
      · skip
        refine g_iload_n hC dX0_sureNumber_21 rfl 1 rfl ?_
        refine g_bipush (v := (-4)) hC dX0_sureNumber_22 rfl ?_
        refine g_icmp_eq_T (X := 1) (Y := (-4)) hC rfl rfl 30 dX0_sureNumber_24 rfl (fun c_18 => absurd c_18 (by omega)) (fun _ => ?_)
        refine g_bipush (v := (-4)) hC dX0_sureNumber_27 rfl ?_
        refine g_zret (ty := .int) hC rfl rfl dX0_sureNumber_29 ?_
        exact ⟨_, rfl, (by unfold suS; rw [if_neg (by omega), if_pos (by omega), if_pos (by omega)]), rfl, (fun r hr => (by rw [d3_15 r hr, d3_5 r hr, d3_2 r hr]))⟩
  · skip
    refine g_iload_n hC dX0_sureNumber_21 rfl 1 rfl ?_
    refine g_bipush (v := (-4)) hC dX0_sureNumber_22 rfl ?_
    refine g_icmp_eq_T (X := (-4)) (Y := (-4)) hC rfl rfl 30 dX0_sureNumber_24 rfl (fun _ => ?_) (fun c_19 => absurd c_19 (by omega))
    refine g_iload_n hC dX0_sureNumber_30 rfl 0 rfl ?_
    refine g_istore_n hC [(2, .int 0), (3, .int 0), (0, .ref (b + 45)), (1, .int (nI hr))] dX0_sureNumber_31 rfl (by decide) rfl ?_
    refine g_iinc hC [(3, .int 1), (2, .int 0), (0, .ref (b + 45)), (1, .int (nI hr))] dX0_sureNumber_32 1 rfl rfl (by decide) rfl ?_
    refine g_goto hC 5 dX0_sureNumber_35 rfl ?_
    refine g_iload_n hC dX0_sureNumber_5 rfl 0 rfl ?_
    refine g_iconst (v := 2) hC dX0_sureNumber_6 rfl ?_
    refine g_icmp_gt_T (X := 1) (Y := 2) hC rfl rfl 38 dX0_sureNumber_7 rfl (fun c_20 => absurd c_20 (by omega)) (fun _ => ?_)
    refine g_aload_n hC dX0_sureNumber_10 rfl 2 rfl ?_
    refine g_iload_n hC dX0_sureNumber_11 rfl 3 rfl ?_
    refine g_iload_n hC dX0_sureNumber_12 rfl 0 rfl ?_
    refine g_callV hC (k := 45) (ci := 0) (as := [.int (nI hr), .int 1]) (rest := []) (c_X0_countWith l D cA b M L_2 it n (nI hr) 1 htd (by decide)) ⟨fw_557, fw_559, fs_12, fw_7, fw_560⟩ ⟨rfl, hd_X0_countWith⟩ rfl ly_45 ⟨Nat.le_of_ble_eq_true rfl, Nat.le_of_ble_eq_true rfl⟩ ⟨Nat.le_of_ble_eq_true rfl, Nat.le_of_ble_eq_true rfl⟩ rfl rfl (Nat.le_of_ble_eq_true rfl) dX0_sureNumber_13 (g_rl (fun r_21 M_21 L_21 h_21 => ?_))
    obtain ⟨d1_21, d2_21, d3_21⟩ := h_21
    rw [ht] at d1_21
    rw [d1_21, d2_21]
    refine g_lconst (v := 0) hC dX0_sureNumber_16 rfl ?_
    refine g_lcmp hC dX0_sureNumber_17 ?_
    refine g_cmp_le_T (X := (clS it n (hr : Int) ((1 : Nat) : Int)).toInt) (Y := 0) hC rfl rfl 32 dX0_sureNumber_18 rfl (fun c_22 => ?_) (fun c_22 => ?_)
    · skip
      refine g_iinc hC [(3, .int 2), (2, .int 0), (0, .ref (b + 45)), (1, .int (nI hr))] dX0_sureNumber_32 0 rfl rfl (by decide) rfl ?_
      refine g_goto hC 5 dX0_sureNumber_35 rfl ?_
      refine g_iload_n hC dX0_sureNumber_5 rfl 0 rfl ?_
      refine g_iconst (v := 2) hC dX0_sureNumber_6 rfl ?_
      refine g_icmp_gt_T (X := 2) (Y := 2) hC rfl rfl 38 dX0_sureNumber_7 rfl (fun c_23 => absurd c_23 (by omega)) (fun _ => ?_)
      refine g_aload_n hC dX0_sureNumber_10 rfl 2 rfl ?_
      refine g_iload_n hC dX0_sureNumber_11 rfl 3 rfl ?_
      refine g_iload_n hC dX0_sureNumber_12 rfl 0 rfl ?_
      refine g_callV hC (k := 45) (ci := 0) (as := [.int (nI hr), .int 2]) (rest := []) (c_X0_countWith l D cA b M L_21 it n (nI hr) 2 htd (by decide)) ⟨fw_557, fw_559, fs_12, fw_7, fw_560⟩ ⟨rfl, hd_X0_countWith⟩ rfl ly_45 ⟨Nat.le_of_ble_eq_true rfl, Nat.le_of_ble_eq_true rfl⟩ ⟨Nat.le_of_ble_eq_true rfl, Nat.le_of_ble_eq_true rfl⟩ rfl rfl (Nat.le_of_ble_eq_true rfl) dX0_sureNumber_13 (g_rl (fun r_24 M_24 L_24 h_24 => ?_))
      obtain ⟨d1_24, d2_24, d3_24⟩ := h_24
      rw [ht] at d1_24
      rw [d1_24, d2_24]
      refine g_lconst (v := 0) hC dX0_sureNumber_16 rfl ?_
      refine g_lcmp hC dX0_sureNumber_17 ?_
      refine g_cmp_le_T (X := (clS it n (hr : Int) ((2 : Nat) : Int)).toInt) (Y := 0) hC rfl rfl 32 dX0_sureNumber_18 rfl (fun c_25 => ?_) (fun c_25 => ?_)
      · skip
        refine g_iinc hC [(3, .int 3), (2, .int 0), (0, .ref (b + 45)), (1, .int (nI hr))] dX0_sureNumber_32 0 rfl rfl (by decide) rfl ?_
        refine g_goto hC 5 dX0_sureNumber_35 rfl ?_
        refine g_iload_n hC dX0_sureNumber_5 rfl 0 rfl ?_
        refine g_iconst (v := 2) hC dX0_sureNumber_6 rfl ?_
        refine g_icmp_gt_T (X := 3) (Y := 2) hC rfl rfl 38 dX0_sureNumber_7 rfl (fun _ => ?_) (fun c_26 => absurd c_26 (by omega))
        refine g_iload_n hC dX0_sureNumber_38 rfl 1 rfl ?_
        refine g_zret (ty := .int) hC rfl rfl dX0_sureNumber_39 ?_
        exact ⟨_, rfl, (by unfold suS; rw [if_pos (by omega), if_neg (by omega), if_neg (by omega)]), rfl, (fun r hr => (by rw [d3_24 r hr, d3_21 r hr, d3_2 r hr]))⟩
      · skip
        refine g_iload_n hC dX0_sureNumber_21 rfl 1 rfl ?_
        refine g_bipush (v := (-4)) hC dX0_sureNumber_22 rfl ?_
        refine g_icmp_eq_T (X := 0) (Y := (-4)) hC rfl rfl 30 dX0_sureNumber_24 rfl (fun c_27 => absurd c_27 (by omega)) (fun _ => ?_)
        refine g_bipush (v := (-4)) hC dX0_sureNumber_27 rfl ?_
        refine g_zret (ty := .int) hC rfl rfl dX0_sureNumber_29 ?_
        exact ⟨_, rfl, (by unfold suS; rw [if_pos (by omega), if_neg (by omega), if_pos (by omega)]), rfl, (fun r hr => (by rw [d3_24 r hr, d3_21 r hr, d3_2 r hr]))⟩
    · skip
      refine g_iload_n hC dX0_sureNumber_21 rfl 1 rfl ?_
      refine g_bipush (v := (-4)) hC dX0_sureNumber_22 rfl ?_
      refine g_icmp_eq_T (X := 0) (Y := (-4)) hC rfl rfl 30 dX0_sureNumber_24 rfl (fun c_28 => absurd c_28 (by omega)) (fun _ => ?_)
      refine g_bipush (v := (-4)) hC dX0_sureNumber_27 rfl ?_
      refine g_zret (ty := .int) hC rfl rfl dX0_sureNumber_29 ?_
      exact ⟨_, rfl, (by unfold suS; rw [if_pos (by omega), if_pos (by omega)]), rfl, (fun r hr => (by rw [d3_21 r hr, d3_2 r hr]))⟩

theorem c_X6_clocksRefusal (l : Launch) (D : va_G) (cA : Nat → ClassId) (b : Nat) (M : Nat → Nat → Int32) (L : Nat → Nat → Int64) (g : Sg) (x : Int32) (ln : Int32) (f : Int32) (n : Int32) (hS : CS M L g) (hok : OK g) : fm_Met l D cA b yX6_clocksRefusal cX6_clocksRefusal 10 (some .int) 2 46 0 0 [.ref (b + 0), .int x, .int ln, .int f, .int n] LAY M L LAY (fm_pi (shC g.2.2.2.2 x.toInt ln.toInt f.toInt n.toInt) M L) := by
  refine fm_start RX6 rfl (by decide) (Nat.le_of_ble_eq_true rfl) ?_
  intro pq eq sq mq aq bq tq cq hC hin
  refine g_iload hC dX6_clocksRefusal_0 4 rfl ?_
  refine g_iconst (v := 1) hC dX6_clocksRefusal_2 rfl ?_
  refine g_icmp_lt_T (X := n.toInt) (Y := 1) hC rfl rfl 13 dX6_clocksRefusal_3 rfl (fun c_1 => ?_) (fun c_1 => ?_)
  · skip
    refine g_iconst (v := (-1)) hC dX6_clocksRefusal_13 rfl ?_
    refine g_zret (ty := .int) hC rfl rfl dX6_clocksRefusal_14 ⟨congrArg (fun z => some (Value.int z)) ?_, rfl, rfl⟩
    unfold shC; rw [if_pos (by omega)]
  · skip
    refine g_iload hC dX6_clocksRefusal_6 4 rfl ?_
    refine g_bipush (v := 8) hC dX6_clocksRefusal_8 rfl ?_
    refine g_icmp_le_T (X := n.toInt) (Y := 8) hC rfl rfl 15 dX6_clocksRefusal_10 rfl (fun c_2 => ?_) (fun c_2 => ?_)
    · skip
      obtain ⟨n0, n0b, n0E⟩ : ∃ j9 : Nat, j9 < 9 ∧ n = nI j9 := ic_of (by omega) (by omega)
      subst n0E
      have n0t : (nI n0).toInt = (n0 : Int) := nI_toInt (by omega)
      have n0n : (nI n0).toInt.toNat = n0 := by omega
      refine g_aload_n hC dX6_clocksRefusal_15 rfl 0 rfl ?_
      refine g_iload_n hC dX6_clocksRefusal_16 rfl 1 rfl ?_
      refine g_iload_n hC dX6_clocksRefusal_17 rfl 2 rfl ?_
      refine g_iload_n hC dX6_clocksRefusal_18 rfl 3 rfl ?_
      refine g_iconst (v := 2) hC dX6_clocksRefusal_19 rfl ?_
      refine g_iload hC dX6_clocksRefusal_20 4 rfl ?_
      refine g_imul hC dX6_clocksRefusal_22 ?_
      refine g_top (y := nI (2 * n0)) (pk_mul _ _) ?_
      refine g_callV hC (k := 0) (ci := 6) (as := [.int x, .int ln, .int f, .int (nI (2 * n0))]) (rest := []) (c_X6_rowRefusal l D cA b M L g x ln f (2 * n0) hS hok (by omega)) ⟨fw_532, fw_534, fs_11, fw_1, fw_535⟩ ⟨rfl, hd_X6_rowRefusal⟩ rfl ly_0 ⟨Nat.le_of_ble_eq_true rfl, Nat.le_of_ble_eq_true rfl⟩ ⟨Nat.le_of_ble_eq_true rfl, Nat.le_of_ble_eq_true rfl⟩ rfl rfl (Nat.le_of_ble_eq_true rfl) dX6_clocksRefusal_23 (g_rix ?_)
      refine g_istore hC [(5, .int (shR g.2.2.2.2 x.toInt ln.toInt f.toInt (2 * n0))), (0, .ref (b + 0)), (1, .int x), (2, .int ln), (3, .int f), (4, .int (nI n0))] dX6_clocksRefusal_26 (by decide) rfl ?_
      refine g_iload hC dX6_clocksRefusal_28 0 rfl ?_
      refine g_if_eq_T (X := (shR g.2.2.2.2 x.toInt ln.toInt f.toInt (2 * n0)).toInt) hC rfl 36 dX6_clocksRefusal_30 rfl (fun c_4 => ?_) (fun c_4 => ?_)
      · skip
        obtain ⟨⟨z1, z2⟩, z3, z4, z5⟩ := shR_0 c_4
        have z6 := hok.2.2.2.2 x.toInt.toNat (by omega)
        have c0 := c_4
        obtain ⟨q, qb, qE⟩ : ∃ j9 : Nat, j9 < 4 ∧ x = nI j9 := ic_of (by omega) (by omega)
        subst qE
        have qt : (nI q).toInt = (q : Int) := nI_toInt (by omega)
        have qn : (nI q).toInt.toNat = q := by omega
        have qs := hS.2.2.2.2 q qb
        have qo := hok.2.2.2.2 q qb
        rw [qn] at z3 z5 z6
        obtain ⟨f0, f0b, f0E⟩ : ∃ j9 : Nat, j9 < 25 ∧ f = nI j9 := ic_of (by omega) (by omega)
        subst f0E
        have f0t : (nI f0).toInt = (f0 : Int) := nI_toInt (by omega)
        have f0n : (nI f0).toInt.toNat = f0 := by omega
        refine g_aload_n hC dX6_clocksRefusal_36 rfl 1 rfl ?_
        refine g_getR (ci := 6) (i := 6) (k := 0) (t := 48) hC fm_in6 rfl ly_0 rfl (by decide) fw_202 dX6_clocksRefusal_37 ?_
        refine g_iload_n hC dX6_clocksRefusal_40 rfl 2 rfl ?_
        refine g_aald5N (j := q) (t := 50 + 2 * q) (k := 48) hC ly_48 rfl (by omega) (by decide) (fm_z50 _ (by omega)) dX6_clocksRefusal_41 ?_
        refine g_getR (ci := 3) (i := 2) (k := 50 + 2 * q) (t := 51 + 2 * q) hC fm_in3 rfl (fm_she _ (by omega)) rfl (by decide) fw_188 dX6_clocksRefusal_42 ?_
        refine g_astore hC [(6, .ref (b + (51 + 2 * q))), (5, .int (shR g.2.2.2.2 (nI q).toInt ln.toInt (nI f0).toInt (2 * n0))), (0, .ref (b + 0)), (1, .int (nI q)), (2, .int ln), (3, .int (nI f0)), (4, .int (nI n0))] dX6_clocksRefusal_45 (by decide) rfl ?_
        refine g_iconst (v := 0) hC dX6_clocksRefusal_47 rfl ?_
        refine g_istore hC [(7, .int 0), (6, .ref (b + (51 + 2 * q))), (5, .int (shR g.2.2.2.2 (nI q).toInt ln.toInt (nI f0).toInt (2 * n0))), (0, .ref (b + 0)), (1, .int (nI q)), (2, .int ln), (3, .int (nI f0)), (4, .int (nI n0))] dX6_clocksRefusal_48 (by decide) rfl ?_
        have lp_50_5 : ∀ (n_5 : Nat) (i : Nat), n0 - i < n_5 → (i ≤ n0 ∧ (∀ k, k < i → 0 ≤ (g.2.2.2.2.2.2 q (f0 + 2 * k)).toInt ∧ (g.2.2.2.2.2.2 q (f0 + 2 * k)).toInt ≤ 24)) → fm_G pq l eq (fm_rm 2 46 0 0) sq mq aq bq tq cq D cA b 10 (MQ bq (fm_Q D cA b LAY (fm_pi (shC g.2.2.2.2 (nI q).toInt ln.toInt (nI f0).toInt (nI n0).toInt) M L)) aq sq 0 0 (fun q => b ≤ q)) LAY M L 0 0 50 [(7, .int (nI i)), (6, .ref (b + (51 + 2 * q))), (5, .int (shR g.2.2.2.2 (nI q).toInt ln.toInt (nI f0).toInt (2 * n0))), (0, .ref (b + 0)), (1, .int (nI q)), (2, .int ln), (3, .int (nI f0)), (4, .int (nI n0))] [] := by
          intro n_5
          induction n_5 with
          | zero => intro i hm_5; exact absurd hm_5 (Nat.not_lt_zero _)
          | succ n_5 ih_5 =>
            intro i hm_5 hinv_5
            obtain ⟨i1, w1⟩ := hinv_5
            refine g_iload hC dX6_clocksRefusal_50 0 rfl ?_
            refine g_iload hC dX6_clocksRefusal_52 7 rfl ?_
            refine g_icmp_ge_T (X := ((i : Nat) : Int)) (Y := ((n0 : Nat) : Int)) hC (nI_toInt (by omega)) (nI_toInt (by omega)) 93 dX6_clocksRefusal_54 rfl (fun c_6 => ?_) (fun c_6 => ?_)
            · skip
              refine g_iconst (v := 0) hC dX6_clocksRefusal_93 rfl ?_
              refine g_zret (ty := .int) hC rfl rfl dX6_clocksRefusal_94 ⟨congrArg (fun z => some (Value.int z)) ?_, rfl, rfl⟩
              unfold shC; rw [if_neg (by omega), n0n, if_neg (by omega), qn, f0n, if_pos (fun k hk => w1 k (by omega))]
            · skip
              refine g_aload hC dX6_clocksRefusal_57 1 rfl ?_
              refine g_iload_n hC dX6_clocksRefusal_59 rfl 6 rfl ?_
              refine g_iconst (v := 2) hC dX6_clocksRefusal_60 rfl ?_
              refine g_iload hC dX6_clocksRefusal_61 0 rfl ?_
              refine g_imul hC dX6_clocksRefusal_63 ?_
              refine g_top (y := nI (2 * i)) (pk_mul _ _) ?_
              refine g_iadd hC dX6_clocksRefusal_64 ?_
              refine g_top (y := nI (f0 + (2 * i))) (nI_add _ _) ?_
              refine g_laldN (j := f0 + (2 * i)) (k := 51 + 2 * q) hC (fm_itm _ (by omega)) rfl (by omega) (by decide) dX6_clocksRefusal_65 ?_
              refine g_topL (y := g.2.2.2.2.2.2 q (f0 + 2 * i)) ((qs.2 (by omega)).2 _ (by omega)) ?_
              refine g_lstore hC [(8, .long (g.2.2.2.2.2.2 q (f0 + 2 * i))), (7, .int (nI i)), (6, .ref (b + (51 + 2 * q))), (5, .int (shR g.2.2.2.2 (nI q).toInt ln.toInt (nI f0).toInt (2 * n0))), (0, .ref (b + 0)), (1, .int (nI q)), (2, .int ln), (3, .int (nI f0)), (4, .int (nI n0))] dX6_clocksRefusal_66 (by decide) rfl ?_
              refine g_lload hC dX6_clocksRefusal_68 0 rfl ?_
              refine g_lconst (v := 0) hC dX6_clocksRefusal_70 rfl ?_
              refine g_lcmp hC dX6_clocksRefusal_71 ?_
              refine g_cmp_lt_T (X := (g.2.2.2.2.2.2 q (f0 + 2 * i)).toInt) (Y := 0) hC rfl rfl 84 dX6_clocksRefusal_72 rfl (fun c_7 => ?_) (fun c_7 => ?_)
              · skip
                refine g_bipush (v := (-2)) hC dX6_clocksRefusal_84 rfl ?_
                refine g_zret (ty := .int) hC rfl rfl dX6_clocksRefusal_86 ⟨congrArg (fun z => some (Value.int z)) ?_, rfl, rfl⟩
                unfold shC; rw [if_neg (by omega), n0n, if_neg (by omega), qn, f0n, if_neg (fun z => absurd (z i (by omega)) (by omega))]
              · skip
                refine g_lload hC dX6_clocksRefusal_75 0 rfl ?_
                refine g_ldc2 (v := 24) hC fw_546 dX6_clocksRefusal_77 ?_
                refine g_lcmp hC dX6_clocksRefusal_80 ?_
                refine g_cmp_le_T (X := (g.2.2.2.2.2.2 q (f0 + 2 * i)).toInt) (Y := 24) hC rfl rfl 87 dX6_clocksRefusal_81 rfl (fun c_8 => ?_) (fun c_8 => ?_)
                · skip
                  refine g_iinc hC [(7, .int (nI (i + 1))), (8, .long (g.2.2.2.2.2.2 q (f0 + 2 * i))), (6, .ref (b + (51 + 2 * q))), (5, .int (shR g.2.2.2.2 (nI q).toInt ln.toInt (nI f0).toInt (2 * n0))), (0, .ref (b + 0)), (1, .int (nI q)), (2, .int ln), (3, .int (nI f0)), (4, .int (nI n0))] dX6_clocksRefusal_87 1 rfl (by rw [show Int32.ofInt 1 = nI 1 from rfl, nI_add]) (by decide) rfl ?_
                  refine g_goto hC 50 dX6_clocksRefusal_90 rfl ?_
                  exact g_sub [0, 2, 3, 4, 5, 6, 7, 8] rfl (ih_5 (i + 1) (by omega) (⟨by omega, fun k hk => (by by_cases ek : k = i; rw [ek]; omega; exact w1 k (by omega))⟩))
                · skip
                  refine g_bipush (v := (-2)) hC dX6_clocksRefusal_84 rfl ?_
                  refine g_zret (ty := .int) hC rfl rfl dX6_clocksRefusal_86 ⟨congrArg (fun z => some (Value.int z)) ?_, rfl, rfl⟩
                  unfold shC; rw [if_neg (by omega), n0n, if_neg (by omega), qn, f0n, if_neg (fun z => absurd (z i (by omega)) (by omega))]
        exact g_sub [0, 1, 2, 3, 4, 5, 6, 7] rfl (lp_50_5 (n0 - 0 + 1) 0 (Nat.lt_succ_self _) (⟨Nat.zero_le _, fun h hh => absurd hh (Nat.not_lt_zero _)⟩))
      · skip
        have nz := c_4
        refine g_iload hC dX6_clocksRefusal_33 0 rfl ?_
        refine g_zret (ty := .int) hC rfl rfl dX6_clocksRefusal_35 ⟨congrArg (fun z => some (Value.int z)) ?_, rfl, rfl⟩
        unfold shC; rw [if_neg (by omega), n0n, if_pos nz]
    · skip
      refine g_iconst (v := (-1)) hC dX6_clocksRefusal_13 rfl ?_
      refine g_zret (ty := .int) hC rfl rfl dX6_clocksRefusal_14 ⟨congrArg (fun z => some (Value.int z)) ?_, rfl, rfl⟩
      unfold shC; rw [if_pos (by omega)]

theorem c_X6_clocks (l : Launch) (D : va_G) (cA : Nat → ClassId) (b : Nat) (M : Nat → Nat → Int32) (L : Nat → Nat → Int64) (g : Sg) (x : Int32) (ln : Int32) (f : Int32) (n : Int32) (hS : CS M L g) (hok : OK g) : fm_Met l D cA b yX6_clocks cX6_clocks 6 (some .long) 3 75 0 0 [.ref (b + 0), .int x, .int ln, .int f, .int n] LAY M L LAY (fm_pl (fun r M' L' => r = op_clocks g x ln f n ∧ CS M' L' g ∧ fC M M' L L')) := by
  refine fm_start RX6 rfl (by decide) (Nat.le_of_ble_eq_true rfl) ?_
  intro pq eq sq mq aq bq tq cq hC hin
  refine g_aload_n hC dX6_clocks_0 rfl 0 rfl ?_
  refine g_iload_n hC dX6_clocks_1 rfl 1 rfl ?_
  refine g_iload_n hC dX6_clocks_2 rfl 2 rfl ?_
  refine g_iload_n hC dX6_clocks_3 rfl 3 rfl ?_
  refine g_iload hC dX6_clocks_4 4 rfl ?_
  refine g_callV hC (k := 0) (ci := 6) (as := [.int x, .int ln, .int f, .int n]) (rest := []) (c_X6_clocksRefusal l D cA b M L g x ln f n hS hok) ⟨fw_528, fw_530, fs_10, fw_1, fw_531⟩ ⟨rfl, hd_X6_clocksRefusal⟩ rfl ly_0 ⟨Nat.le_of_ble_eq_true rfl, Nat.le_of_ble_eq_true rfl⟩ ⟨Nat.le_of_ble_eq_true rfl, Nat.le_of_ble_eq_true rfl⟩ rfl rfl (Nat.le_of_ble_eq_true rfl) dX6_clocks_6 (g_rix ?_)
  refine g_istore hC [(5, .int (shC g.2.2.2.2 x.toInt ln.toInt f.toInt n.toInt)), (0, .ref (b + 0)), (1, .int x), (2, .int ln), (3, .int f), (4, .int n)] dX6_clocks_9 (by decide) rfl ?_
  refine g_iload hC dX6_clocks_11 0 rfl ?_
  refine g_if_eq_T (X := (shC g.2.2.2.2 x.toInt ln.toInt f.toInt n.toInt).toInt) hC rfl 20 dX6_clocks_13 rfl (fun c_2 => ?_) (fun c_2 => ?_)
  · skip
    obtain ⟨y1, y2, y3⟩ := shC_0 c_2
    obtain ⟨⟨z1, z2⟩, z3, z4, z5⟩ := shR_0 y2
    have z6 := hok.2.2.2.2 x.toInt.toNat (by omega)
    have c0 := c_2
    obtain ⟨q, qb, qE⟩ : ∃ j9 : Nat, j9 < 4 ∧ x = nI j9 := ic_of (by omega) (by omega)
    subst qE
    have qt : (nI q).toInt = (q : Int) := nI_toInt (by omega)
    have qn : (nI q).toInt.toNat = q := by omega
    have qs := hS.2.2.2.2 q qb
    have qo := hok.2.2.2.2 q qb
    rw [qn] at z3 z5 z6 y3
    obtain ⟨f0, f0b, f0E⟩ : ∃ j9 : Nat, j9 < 25 ∧ f = nI j9 := ic_of (by omega) (by omega)
    subst f0E
    have f0t : (nI f0).toInt = (f0 : Int) := nI_toInt (by omega)
    have f0n : (nI f0).toInt.toNat = f0 := by omega
    obtain ⟨n0, n0b, n0E⟩ : ∃ j9 : Nat, j9 < 9 ∧ n = nI j9 := ic_of (by omega) (by omega)
    subst n0E
    have n0t : (nI n0).toInt = (n0 : Int) := nI_toInt (by omega)
    have n0n : (nI n0).toInt.toNat = n0 := by omega
    rw [f0n, n0n] at y3
    rw [n0n] at z5 y2
    refine g_aload_n hC dX6_clocks_20 rfl 1 rfl ?_
    refine g_getR (ci := 6) (i := 5) (k := 0) (t := 45) hC fm_in6 rfl ly_0 rfl (by decide) fw_201 dX6_clocks_21 ?_
    refine g_aload_n hC dX6_clocks_24 rfl 1 rfl ?_
    refine g_getR (ci := 6) (i := 6) (k := 0) (t := 48) hC fm_in6 rfl ly_0 rfl (by decide) fw_202 dX6_clocks_25 ?_
    refine g_iload_n hC dX6_clocks_28 rfl 2 rfl ?_
    refine g_aald5N (j := q) (t := 50 + 2 * q) (k := 48) hC ly_48 rfl (by omega) (by decide) (fm_z50 _ (by omega)) dX6_clocks_29 ?_
    refine g_iload_n hC dX6_clocks_30 rfl 4 rfl ?_
    refine g_iload hC dX6_clocks_31 5 rfl ?_
    refine g_callV hC (k := 45) (ci := 0) (as := [.ref (b + (50 + 2 * q)), .int (nI f0), .int (nI n0)]) (rest := []) (c_X0_tell l D cA b M L q f0 n0 (g.2.2.2.2.2.2 q) qb (fun k hk => (qs.2 (by omega)).2 k hk) (by omega) y3) ⟨fw_547, fw_548, fw_549, fw_7, fw_550⟩ ⟨rfl, hd_X0_tell⟩ rfl ly_45 ⟨Nat.le_of_ble_eq_true rfl, Nat.le_of_ble_eq_true rfl⟩ ⟨Nat.le_of_ble_eq_true rfl, Nat.le_of_ble_eq_true rfl⟩ rfl rfl (Nat.le_of_ble_eq_true rfl) dX6_clocks_33 (g_rv (fun M_3 L_3 h_3 => ?_))
    obtain ⟨t1_3, t2_3, t3_3⟩ := h_3
    rw [t3_3]
    refine g_aload_n hC dX6_clocks_36 rfl 1 rfl ?_
    refine g_getR (ci := 6) (i := 5) (k := 0) (t := 45) hC fm_in6 rfl ly_0 rfl (by decide) fw_201 dX6_clocks_37 ?_
    refine g_callV hC (k := 45) (ci := 0) (as := []) (rest := []) (c_X0_countAll l D cA b M_3 L (fun k => g.2.2.2.2.2.2 q (f0 + k)) n0 t1_3) ⟨fw_553, fw_554, fw_555, fw_7, fw_556⟩ ⟨rfl, hd_X0_countAll⟩ rfl ly_45 ⟨Nat.le_of_ble_eq_true rfl, Nat.le_of_ble_eq_true rfl⟩ ⟨Nat.le_of_ble_eq_true rfl, Nat.le_of_ble_eq_true rfl⟩ rfl rfl (Nat.le_of_ble_eq_true rfl) dX6_clocks_40 (g_rl (fun r_4 M_4 L_4 h_4 => ?_))
    refine g_lret hC rfl dX6_clocks_43 ?_
    obtain ⟨d1_4, d2_4, d3_4⟩ := h_4
    have e0 : op_clocks g (nI q) ln (nI f0) (nI n0) = clS (fun k => g.2.2.2.2.2.2 q (f0 + k)) n0 (-1) 0 := by unfold op_clocks; rw [if_neg (by omega), qn, f0n, n0n]
    exact ⟨_, rfl, (by rw [e0]; exact d1_4), CS_fr hS hok (fun k hk => (by rw [d2_4]; exact t2_3 k (by omega))) (fun k k1 k2 => ⟨(by rw [d2_4]; exact t2_3 k (by omega)), d3_4 k (by omega)⟩), fun k hk => ⟨(by rw [d2_4]; exact t2_3 k (by omega)), d3_4 k (by omega)⟩⟩
  · skip
    have nz := c_2
    refine g_iload hC dX6_clocks_16 0 rfl ?_
    refine g_i2l (v := (shC g.2.2.2.2 x.toInt ln.toInt f.toInt n.toInt).toInt64) hC dX6_clocks_18 rfl ?_
    refine g_lret hC rfl dX6_clocks_19 ?_
    have e0 : op_clocks g x ln f n = (shC g.2.2.2.2 x.toInt ln.toInt f.toInt n.toInt).toInt64 := by unfold op_clocks; rw [if_pos nz]
    exact ⟨_, rfl, e0.symm, hS, fC_rf⟩

theorem c_X6_sure (l : Launch) (D : va_G) (cA : Nat → ClassId) (b : Nat) (M : Nat → Nat → Int32) (L : Nat → Nat → Int64) (g : Sg) (h : Int32) (x : Int32) (ln : Int32) (f : Int32) (n : Int32) (hS : CS M L g) (hok : OK g) : fm_Met l D cA b yX6_sure cX6_sure 7 (some .int) 3 75 0 0 [.ref (b + 0), .int h, .int x, .int ln, .int f, .int n] LAY M L LAY (fm_pm (fun r M' L' => r = op_sure g h x ln f n ∧ CS M' L' g ∧ fC M M' L L')) := by
  refine fm_start RX6 rfl (by decide) (Nat.le_of_ble_eq_true rfl) ?_
  intro pq eq sq mq aq bq tq cq hC hin
  refine g_iload_n hC dX6_sure_0 rfl 1 rfl ?_
  refine g_callS hC (as := [.int h]) (rest := []) (c_X6_isHour l D cA b LAY M L h h.toInt rfl) ⟨fw_225, fw_226, fw_1, fw_227⟩ hd_X6_isHour ⟨Nat.le_of_ble_eq_true rfl, Nat.le_of_ble_eq_true rfl⟩ ⟨Nat.le_of_ble_eq_true rfl, Nat.le_of_ble_eq_true rfl⟩ rfl rfl (Nat.le_of_ble_eq_true rfl) dX6_sure_1 (g_rix ?_)
  refine g_ifb_ne hC 9 dX6_sure_4 rfl (fun c_2 => ?_) (fun c_2 => ?_)
  · skip
    refine g_aload_n hC dX6_sure_9 rfl 0 rfl ?_
    refine g_iload_n hC dX6_sure_10 rfl 2 rfl ?_
    refine g_iload_n hC dX6_sure_11 rfl 3 rfl ?_
    refine g_iload hC dX6_sure_12 4 rfl ?_
    refine g_iload hC dX6_sure_14 5 rfl ?_
    refine g_callV hC (k := 0) (ci := 6) (as := [.int x, .int ln, .int f, .int n]) (rest := []) (c_X6_clocksRefusal l D cA b M L g x ln f n hS hok) ⟨fw_528, fw_530, fs_10, fw_1, fw_531⟩ ⟨rfl, hd_X6_clocksRefusal⟩ rfl ly_0 ⟨Nat.le_of_ble_eq_true rfl, Nat.le_of_ble_eq_true rfl⟩ ⟨Nat.le_of_ble_eq_true rfl, Nat.le_of_ble_eq_true rfl⟩ rfl rfl (Nat.le_of_ble_eq_true rfl) dX6_sure_16 (g_rix ?_)
    refine g_istore hC [(6, .int (shC g.2.2.2.2 x.toInt ln.toInt f.toInt n.toInt)), (0, .ref (b + 0)), (1, .int h), (2, .int x), (3, .int ln), (4, .int f), (5, .int n)] dX6_sure_19 (by decide) rfl ?_
    refine g_iload hC dX6_sure_21 0 rfl ?_
    refine g_if_eq_T (X := (shC g.2.2.2.2 x.toInt ln.toInt f.toInt n.toInt).toInt) hC rfl 29 dX6_sure_23 rfl (fun c_4 => ?_) (fun c_4 => ?_)
    · skip
      obtain ⟨y1, y2, y3⟩ := shC_0 c_4
      obtain ⟨⟨z1, z2⟩, z3, z4, z5⟩ := shR_0 y2
      have z6 := hok.2.2.2.2 x.toInt.toNat (by omega)
      have c0 := c_4
      obtain ⟨q, qb, qE⟩ : ∃ j9 : Nat, j9 < 4 ∧ x = nI j9 := ic_of (by omega) (by omega)
      subst qE
      have qt : (nI q).toInt = (q : Int) := nI_toInt (by omega)
      have qn : (nI q).toInt.toNat = q := by omega
      have qs := hS.2.2.2.2 q qb
      have qo := hok.2.2.2.2 q qb
      rw [qn] at z3 z5 z6 y3
      obtain ⟨f0, f0b, f0E⟩ : ∃ j9 : Nat, j9 < 25 ∧ f = nI j9 := ic_of (by omega) (by omega)
      subst f0E
      have f0t : (nI f0).toInt = (f0 : Int) := nI_toInt (by omega)
      have f0n : (nI f0).toInt.toNat = f0 := by omega
      obtain ⟨n0, n0b, n0E⟩ : ∃ j9 : Nat, j9 < 9 ∧ n = nI j9 := ic_of (by omega) (by omega)
      subst n0E
      have n0t : (nI n0).toInt = (n0 : Int) := nI_toInt (by omega)
      have n0n : (nI n0).toInt.toNat = n0 := by omega
      rw [f0n, n0n] at y3
      rw [n0n] at z5 y2
      obtain ⟨h0, h0b, h0E⟩ : ∃ j9 : Nat, j9 < 24 ∧ h = nI j9 := ic_of (by omega) (by omega)
      subst h0E
      have h0t : (nI h0).toInt = (h0 : Int) := nI_toInt (by omega)
      have h0n : (nI h0).toInt.toNat = h0 := by omega
      refine g_aload_n hC dX6_sure_29 rfl 1 rfl ?_
      refine g_getR (ci := 6) (i := 5) (k := 0) (t := 45) hC fm_in6 rfl ly_0 rfl (by decide) fw_201 dX6_sure_30 ?_
      refine g_aload_n hC dX6_sure_33 rfl 1 rfl ?_
      refine g_getR (ci := 6) (i := 6) (k := 0) (t := 48) hC fm_in6 rfl ly_0 rfl (by decide) fw_202 dX6_sure_34 ?_
      refine g_iload_n hC dX6_sure_37 rfl 3 rfl ?_
      refine g_aald5N (j := q) (t := 50 + 2 * q) (k := 48) hC ly_48 rfl (by omega) (by decide) (fm_z50 _ (by omega)) dX6_sure_38 ?_
      refine g_iload hC dX6_sure_39 5 rfl ?_
      refine g_iload hC dX6_sure_41 6 rfl ?_
      refine g_callV hC (k := 45) (ci := 0) (as := [.ref (b + (50 + 2 * q)), .int (nI f0), .int (nI n0)]) (rest := []) (c_X0_tell l D cA b M L q f0 n0 (g.2.2.2.2.2.2 q) qb (fun k hk => (qs.2 (by omega)).2 k hk) (by omega) y3) ⟨fw_547, fw_548, fw_549, fw_7, fw_550⟩ ⟨rfl, hd_X0_tell⟩ rfl ly_45 ⟨Nat.le_of_ble_eq_true rfl, Nat.le_of_ble_eq_true rfl⟩ ⟨Nat.le_of_ble_eq_true rfl, Nat.le_of_ble_eq_true rfl⟩ rfl rfl (Nat.le_of_ble_eq_true rfl) dX6_sure_43 (g_rv (fun M_5 L_5 h_5 => ?_))
      obtain ⟨t1_5, t2_5, t3_5⟩ := h_5
      rw [t3_5]
      refine g_aload_n hC dX6_sure_46 rfl 1 rfl ?_
      refine g_getR (ci := 6) (i := 5) (k := 0) (t := 45) hC fm_in6 rfl ly_0 rfl (by decide) fw_201 dX6_sure_47 ?_
      refine g_iload_n hC dX6_sure_50 rfl 2 rfl ?_
      refine g_callV hC (k := 45) (ci := 0) (as := [.int (nI h0)]) (rest := []) (c_X0_sureNumber l D cA b M_5 L (fun k => g.2.2.2.2.2.2 q (f0 + k)) n0 h0 t1_5 (by omega)) ⟨fw_576, fw_577, fw_578, fw_7, fw_579⟩ ⟨rfl, hd_X0_sureNumber⟩ rfl ly_45 ⟨Nat.le_of_ble_eq_true rfl, Nat.le_of_ble_eq_true rfl⟩ ⟨Nat.le_of_ble_eq_true rfl, Nat.le_of_ble_eq_true rfl⟩ rfl rfl (Nat.le_of_ble_eq_true rfl) dX6_sure_51 (g_rm (fun r_6 M_6 L_6 h_6 => ?_))
      refine g_zret (ty := .int) hC rfl rfl dX6_sure_54 ?_
      obtain ⟨d1_6, d2_6, d3_6⟩ := h_6
      have e0 : op_sure g (nI h0) (nI q) ln (nI f0) (nI n0) = suS (fun k => g.2.2.2.2.2.2 q (f0 + k)) n0 h0 := by unfold op_sure; rw [if_neg (by omega), if_neg (by omega), qn, f0n, n0n, h0n]
      exact ⟨_, rfl, (by rw [e0]; exact d1_6), CS_fr hS hok (fun k hk => (by rw [d2_6]; exact t2_5 k (by omega))) (fun k k1 k2 => ⟨(by rw [d2_6]; exact t2_5 k (by omega)), d3_6 k (by omega)⟩), fun k hk => ⟨(by rw [d2_6]; exact t2_5 k (by omega)), d3_6 k (by omega)⟩⟩
    · skip
      have nz := c_4
      refine g_iload hC dX6_sure_26 0 rfl ?_
      refine g_zret (ty := .int) hC rfl rfl dX6_sure_28 ?_
      have e0 : op_sure g h x ln f n = shC g.2.2.2.2 x.toInt ln.toInt f.toInt n.toInt := by unfold op_sure; rw [if_neg (by omega), if_pos nz]
      exact ⟨_, rfl, e0.symm, hS, fC_rf⟩
  · skip
    refine g_iconst (v := (-1)) hC dX6_sure_7 rfl ?_
    refine g_zret (ty := .int) hC rfl rfl dX6_sure_8 ?_
    have e0 : op_sure g h x ln f n = -1 := by unfold op_sure; rw [if_pos (by omega)]
    exact ⟨_, rfl, e0.symm, hS, fC_rf⟩
