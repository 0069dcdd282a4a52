/-! ===== the tape: an hour of a plan, the check ===== -/
def bt (s : Int32) (h : Nat) : Int32 := (s >>> (nI h &&& 31)) &&& 1
def sb (s : Int32) (h : Nat) : Int32 := s ||| ((1 : Int32) <<< (nI h &&& 31))
theorem an_1 (x : Int32) : (x &&& 1).toInt = 0 ∨ (x &&& 1).toInt = 1 := by
  have h : (x &&& 1).toBitVec = BitVec.setWidth 32 (BitVec.ofBool (x.toBitVec.getLsbD 0)) := by
    rw [Int32.toBitVec_and]
    exact BitVec.and_one_eq_setWidth_ofBool_getLsbD
  have e : (x &&& 1) = Int32.ofBitVec (BitVec.setWidth 32 (BitVec.ofBool (x.toBitVec.getLsbD 0))) := by rw [← h]; rfl
  rw [e]
  cases x.toBitVec.getLsbD 0
  · left; decide
  · right; decide
theorem bt_01 (s : Int32) (h : Nat) : (bt s h).toInt = 0 ∨ (bt s h).toInt = 1 := an_1 _
/-- an hour written from place p, where the hours of s are told already: the hour, its number, the place behind; or the place of the fault -/
def phS (T : Nat × (Nat → Nat)) (p : Nat) (s : Int32) : (Nat × Int × Nat) ⊕ Nat :=
  if ¬ (fig T (nx T p) ∧ rnV T p ≤ 23) then .inr (nx T p)
  else if (bt s (rnV T p)).toInt = 1 then .inr (nx T p)
  else match rhS T (rnE T p) with
    | .inr q => .inr q
    | .inl (z, e) => .inl (rnV T p, z, e)
theorem phS_1 {T : Nat × (Nat → Nat)} {p : Nat} {s : Int32} (h : ¬ rnOk T p 23) : phS T p s = .inr (nx T p) := by
  unfold phS
  exact if_pos h
theorem phS_2 {T : Nat × (Nat → Nat)} {p : Nat} {s : Int32} (h : rnOk T p 23) (h2 : (bt s (rnV T p)).toInt = 1) : phS T p s = .inr (nx T p) := by
  unfold phS
  rw [if_neg (fun q => q h), if_pos h2]
theorem phS_3 {T : Nat × (Nat → Nat)} {p q : Nat} {s : Int32} (h : rnOk T p 23) (h2 : (bt s (rnV T p)).toInt ≠ 1) (h3 : rhS T (rnE T p) = .inr q) : phS T p s = .inr q := by
  unfold phS
  rw [if_neg (fun q => q h), if_neg h2, h3]
theorem phS_4 {T : Nat × (Nat → Nat)} {p e : Nat} {z : Int} {s : Int32} (h : rnOk T p 23) (h2 : (bt s (rnV T p)).toInt ≠ 1) (h3 : rhS T (rnE T p) = .inl (z, e)) : phS T p s = .inl (rnV T p, z, e) := by
  unfold phS
  rw [if_neg (fun q => q h), if_neg h2, h3]
theorem ch_i {T : Nat × (Nat → Nat)} {q c : Nat} (hc : c < 200) : (chI T q).toInt = (c : Int) ↔ chI T q = nI c := by
  rw [ic_eq, nI_toInt (by omega)]

theorem pR_mm {M M' : Nat → Nat → Int32} {T : Nat × (Nat → Nat)} (h : pR M T) (a : M' 58 18 = M 58 18) (c : M' 67 = M 67) : pR M' T := by
  unfold pR
  rw [a, c]; exact h

theorem c_X7_readHour (l : Launch) (D : va_G) (cA : Nat → ClassId) (b : Nat) (M : Nat → Nat → Int32) (L : Nat → Nat → Int64) (T : Nat × (Nat → Nat)) (p : Nat) (s : Int32) (hT : pR M T) (hk : pOK T) (hp : M 58 19 = nI p) (hle : p ≤ T.1) (hs : M 58 22 = s) : fm_Met l D cA b yX7_readHour cX7_readHour 5 (some .boolean) 2 48 0 0 [.ref (b + 58)] LAY M L LAY (fm_pm (fun r M' L' => (∀ q, phS T p s = .inr q → r = 0 ∧ M' 58 19 = nI q) ∧ (∀ h z e, phS T p s = .inl (h, z, e) → r = 1 ∧ M' 68 h = Int32.ofInt z ∧ M' 58 19 = nI e ∧ M' 58 22 = sb s h ∧ (∀ j, j ≠ h → M' 68 j = M 68 j)) ∧ (∀ i, i ≠ 19 → i ≠ 22 → M' 58 i = M 58 i) ∧ (∀ q, q ≠ 58 → q ≠ 68 → M' q = M q) ∧ L' = L)) := by
  refine fm_start RX7 rfl (by decide) (Nat.le_of_ble_eq_true rfl) ?_
  intro pq eq sq mq aq bq tq cq hC hin
  have nl := nx_le hle
  obtain ⟨t1, t2⟩ := id hk
  refine g_aload_n hC dX7_readHour_0 rfl 0 rfl ?_
  refine g_callV hC (k := 58) (ci := 7) (as := []) (rest := []) (c_X7_nextByte l D cA b M L T p hT hk hp hle) ⟨fw_804, fw_806, fs_20, fw_9, fw_807⟩ ⟨rfl, hd_X7_nextByte⟩ rfl ly_58 ⟨Nat.le_of_ble_eq_true rfl, Nat.le_of_ble_eq_true rfl⟩ ⟨Nat.le_of_ble_eq_true rfl, Nat.le_of_ble_eq_true rfl⟩ rfl rfl (Nat.le_of_ble_eq_true rfl) dX7_readHour_1 (g_rix ?_)
  refine g_pop hC dX7_readHour_4 rfl ?_
  refine g_aload_n hC dX7_readHour_5 rfl 0 rfl ?_
  refine g_getI (ci := 7) (i := 19) (k := 58) hC fm_in7 rfl ly_58 rfl (by decide) fw_639 dX7_readHour_6 ?_
  refine g_top (y := nI (nx T p)) (by simp [fm_up, fm_row, upd]) ?_
  refine g_istore_n hC [(1, .int (nI (nx T p))), (0, .ref (b + 58))] dX7_readHour_9 rfl (by decide) rfl ?_
  have hT1 : pR (fm_up M 58 19 (nI (nx T p))) T := pR_m hT (fun i i1 => by simp [fm_up, fm_row, upd, i1]) (by simp [fm_up, fm_row, upd])
  refine g_aload_n hC dX7_readHour_10 rfl 1 rfl ?_
  refine g_bipush (v := 23) hC dX7_readHour_11 rfl ?_
  refine g_callV hC (k := 58) (ci := 7) (as := [.int 23]) (rest := []) (c_X7_readNumber l D cA b (fm_up M 58 19 (nI (nx T p))) L T (nx T p) 23 hT1 hk fm_ups nl (by decide)) ⟨fw_808, fw_810, fs_21, fw_9, fw_811⟩ ⟨rfl, hd_X7_readNumber⟩ rfl ly_58 ⟨Nat.le_of_ble_eq_true rfl, Nat.le_of_ble_eq_true rfl⟩ ⟨Nat.le_of_ble_eq_true rfl, Nat.le_of_ble_eq_true rfl⟩ rfl rfl (Nat.le_of_ble_eq_true rfl) dX7_readHour_13 (g_rm (fun r_2 M_2 L_2 h_2 => ?_))
  obtain ⟨r1_2, r2_2, r5_2, r6_2, r7_2⟩ := h_2
  rw [r7_2]
  have n1 : rnV T (nx T p) = rnV T p := by unfold rnV; rw [nx_nx]
  have n2 : rnE T (nx T p) = rnE T p := by unfold rnE; rw [nx_nx]
  have n3 : rnOk T (nx T p) 23 = rnOk T p 23 := by unfold rnOk; rw [nx_nx, n1]
  rw [n3, n1, n2] at r1_2
  rw [n3, nx_nx] at r2_2
  have g_2 : 0 ≤ (r_2).toInt ↔ rnOk T p 23 := rn_ge2 r1_2 r2_2 (by decide)
  have en := rnE_le (T := T) (p := p) hle
  have hT_2 : pR M_2 T := pR_m hT1 r5_2 (r6_2 67 (by decide))
  have s1 : M_2 58 22 = s := by rw [r5_2 22 (by decide), fm_upx (by decide)]; exact hs
  refine g_istore_n hC [(2, .int r_2), (1, .int (nI (nx T p))), (0, .ref (b + 58))] dX7_readHour_16 rfl (by decide) rfl ?_
  refine g_iload_n hC dX7_readHour_17 rfl 0 rfl ?_
  refine g_if_ge_T (X := r_2.toInt) hC rfl 23 dX7_readHour_18 rfl (fun c_3 => ?_) (fun c_3 => ?_)
  · skip
    have ok : rnOk T p 23 := g_2.mp c_3
    have rp := (r1_2 ok).2
    have rl : rnV T p ≤ 23 := ok.2
    rw [(r1_2 ok).1]
    refine g_aload_n hC dX7_readHour_23 rfl 2 rfl ?_
    refine g_getI (ci := 7) (i := 22) (k := 58) hC fm_in7 rfl ly_58 rfl (by decide) fw_642 dX7_readHour_24 ?_
    refine g_top (y := s) s1 ?_
    refine g_iload_n hC dX7_readHour_27 rfl 0 rfl ?_
    refine g_ishr hC dX7_readHour_28 ?_
    refine g_iconst (v := 1) hC dX7_readHour_29 rfl ?_
    refine g_iand hC dX7_readHour_30 ?_
    refine g_top (y := bt s (rnV T p)) rfl ?_
    refine g_iconst (v := 1) hC dX7_readHour_31 rfl ?_
    refine g_icmp_ne_T (X := (bt s (rnV T p)).toInt) (Y := 1) hC rfl rfl 42 dX7_readHour_32 rfl (fun c_4 => ?_) (fun c_4 => ?_)
    · skip
      have hb := c_4
      refine g_aload_n hC dX7_readHour_42 rfl 2 rfl ?_
      refine g_dup hC dX7_readHour_43 rfl ?_
      refine g_getI (ci := 7) (i := 22) (k := 58) hC fm_in7 rfl ly_58 rfl (by decide) fw_642 dX7_readHour_44 ?_
      refine g_top (y := s) s1 ?_
      refine g_iconst (v := 1) hC dX7_readHour_47 rfl ?_
      refine g_iload_n hC dX7_readHour_48 rfl 0 rfl ?_
      refine g_ishl hC dX7_readHour_49 ?_
      refine g_ior hC dX7_readHour_50 ?_
      refine g_top (y := sb s (rnV T p)) rfl ?_
      refine g_putI (ci := 7) (i := 22) (k := 58) hC fm_in7 tyX7 tyX7_ok nmX7 rfl ly_58 rfl (by decide) fw_642 rfl rfl rfl dX7_readHour_51 ?_
      refine g_aload_n hC dX7_readHour_54 rfl 2 rfl ?_
      refine g_callV hC (k := 58) (ci := 7) (as := []) (rest := []) (c_X7_nextByte l D cA b (fm_up M_2 58 22 (sb s (rnV T p))) L T (rnE T p) (pR_mm hT_2 (by simp [fm_up, fm_row, upd]) (by simp [fm_up, fm_row, upd])) hk (by simp [fm_up, fm_row, upd, rp]) en.2) ⟨fw_804, fw_806, fs_20, fw_9, fw_807⟩ ⟨rfl, hd_X7_nextByte⟩ rfl ly_58 ⟨Nat.le_of_ble_eq_true rfl, Nat.le_of_ble_eq_true rfl⟩ ⟨Nat.le_of_ble_eq_true rfl, Nat.le_of_ble_eq_true rfl⟩ rfl rfl (Nat.le_of_ble_eq_true rfl) dX7_readHour_55 (g_rix ?_)
      refine g_istore_n hC [(3, .int (chI T (nx T (rnE T p)))), (2, .int (nI (rnV T p))), (1, .int (nI (nx T p))), (0, .ref (b + 58))] dX7_readHour_58 rfl (by decide) rfl ?_
      refine g_iload_n hC dX7_readHour_59 rfl 0 rfl ?_
      refine g_bipush (v := 43) hC dX7_readHour_60 rfl ?_
      refine g_icmp_eq_T (X := (chI T (nx T (rnE T p))).toInt) (Y := 43) hC rfl rfl 73 dX7_readHour_62 rfl (fun c_6 => ?_) (fun c_6 => ?_)
      · skip
        have pl1 : nx T (rnE T p) < T.1 := ch_lt (c := 43) (by decide) ((ch_i (by decide)).mp (by omega))
        refine g_aload_n hC dX7_readHour_73 rfl 3 rfl ?_
        refine g_dup hC dX7_readHour_74 rfl ?_
        refine g_getI (ci := 7) (i := 19) (k := 58) hC fm_in7 rfl ly_58 rfl (by decide) fw_639 dX7_readHour_75 ?_
        refine g_top (y := nI (nx T (rnE T p))) (by simp [fm_up, fm_row, upd]) ?_
        refine g_iconst (v := 1) hC dX7_readHour_78 rfl ?_
        refine g_iadd hC dX7_readHour_79 ?_
        refine g_top (y := nI ((nx T (rnE T p)) + 1)) (nI_add _ _) ?_
        refine g_putI (ci := 7) (i := 19) (k := 58) hC fm_in7 tyX7 tyX7_ok nmX7 rfl ly_58 rfl (by decide) fw_639 rfl rfl rfl dX7_readHour_80 ?_
        refine g_aload_n hC dX7_readHour_83 rfl 3 rfl ?_
        refine g_callV hC (k := 58) (ci := 7) (as := []) (rest := []) (c_X7_nextByte l D cA b (fm_up (fm_up (fm_up M_2 58 22 (sb s (rnV T p))) 58 19 (nI (nx T (rnE T p)))) 58 19 (nI ((nx T (rnE T p)) + 1))) L T (nx T (rnE T p) + 1) (pR_mm hT_2 (by simp [fm_up, fm_row, upd]) (by simp [fm_up, fm_row, upd])) hk fm_ups (show nx T (rnE T p) < T.1 from pl1)) ⟨fw_804, fw_806, fs_20, fw_9, fw_807⟩ ⟨rfl, hd_X7_nextByte⟩ rfl ly_58 ⟨Nat.le_of_ble_eq_true rfl, Nat.le_of_ble_eq_true rfl⟩ ⟨Nat.le_of_ble_eq_true rfl, Nat.le_of_ble_eq_true rfl⟩ rfl rfl (Nat.le_of_ble_eq_true rfl) dX7_readHour_84 (g_rix ?_)
        refine g_bipush (v := 48) hC dX7_readHour_87 rfl ?_
        refine g_isub hC dX7_readHour_89 ?_
        refine g_top (y := chI T (nx T (nx T (rnE T p) + 1)) - 48) rfl ?_
        refine g_istore hC [(4, .int (chI T (nx T (nx T (rnE T p) + 1)) - 48)), (3, .int (chI T (nx T (rnE T p)))), (2, .int (nI (rnV T p))), (1, .int (nI (nx T p))), (0, .ref (b + 58))] dX7_readHour_90 (by decide) rfl ?_
        refine g_iload hC dX7_readHour_92 0 rfl ?_
        refine g_i2l (v := (chI T (nx T (nx T (rnE T p) + 1)) - 48).toInt64) hC dX7_readHour_94 rfl ?_
        refine g_lconst (v := 0) hC dX7_readHour_95 rfl ?_
        refine g_iload_n hC dX7_readHour_96 rfl 1 rfl ?_
        refine g_bipush (v := 43) hC dX7_readHour_97 rfl ?_
        refine g_icmp_ne_T (X := (chI T (nx T (rnE T p))).toInt) (Y := 43) hC rfl rfl 108 dX7_readHour_99 rfl (fun c_8 => absurd c_8 (by omega)) (fun _ => ?_)
        refine g_ldc2 (v := 5) hC fw_835 dX7_readHour_102 ?_
        refine g_goto hC 111 dX7_readHour_105 rfl ?_
        refine g_callS hC (as := [.long ((chI T (nx T (nx T (rnE T p) + 1)) - 48).toInt64), .long 0, .long 5]) (rest := []) (c_X7_in l D cA b LAY (fm_up (fm_up (fm_up (fm_up M_2 58 22 (sb s (rnV T p))) 58 19 (nI (nx T (rnE T p)))) 58 19 (nI ((nx T (rnE T p)) + 1))) 58 19 (nI (nx T (nx T (rnE T p) + 1)))) L ((chI T (nx T (nx T (rnE T p) + 1)) - 48).toInt64) 0 5 ((chI T (nx T (nx T (rnE T p) + 1))).toInt - 48) 0 5 ((ic_w _).trans (ch48 hk _)) rfl rfl) ⟨fw_725, fw_726, fw_9, fw_727⟩ hd_X7_in ⟨Nat.le_of_ble_eq_true rfl, Nat.le_of_ble_eq_true rfl⟩ ⟨Nat.le_of_ble_eq_true rfl, Nat.le_of_ble_eq_true rfl⟩ rfl rfl (Nat.le_of_ble_eq_true rfl) dX7_readHour_111 (g_rix ?_)
        refine g_ifb_ne hC 119 dX7_readHour_114 rfl (fun c_10 => ?_) (fun c_10 => ?_)
        · skip
          refine g_aload_n hC dX7_readHour_119 rfl 4 rfl ?_
          refine g_dup hC dX7_readHour_120 rfl ?_
          refine g_getI (ci := 7) (i := 19) (k := 58) hC fm_in7 rfl ly_58 rfl (by decide) fw_639 dX7_readHour_121 ?_
          refine g_top (y := nI (nx T (nx T (rnE T p) + 1))) (by simp [fm_up, fm_row, upd]) ?_
          refine g_iconst (v := 1) hC dX7_readHour_124 rfl ?_
          refine g_iadd hC dX7_readHour_125 ?_
          refine g_top (y := nI ((nx T (nx T (rnE T p) + 1)) + 1)) (nI_add _ _) ?_
          refine g_putI (ci := 7) (i := 19) (k := 58) hC fm_in7 tyX7 tyX7_ok nmX7 rfl ly_58 rfl (by decide) fw_639 rfl rfl rfl dX7_readHour_126 ?_
          refine g_aload_n hC dX7_readHour_129 rfl 4 rfl ?_
          refine g_getR (ci := 7) (i := 21) (k := 58) (t := 68) hC fm_in7 rfl ly_58 rfl (by decide) fw_641 dX7_readHour_130 ?_
          refine g_iload_n hC dX7_readHour_133 rfl 2 rfl ?_
          refine g_iload_n hC dX7_readHour_134 rfl 1 rfl ?_
          refine g_bipush (v := 43) hC dX7_readHour_135 rfl ?_
          refine g_icmp_ne_T (X := (chI T (nx T (rnE T p))).toInt) (Y := 43) hC rfl rfl 145 dX7_readHour_137 rfl (fun c_11 => absurd c_11 (by omega)) (fun _ => ?_)
          refine g_iload hC dX7_readHour_140 0 rfl ?_
          refine g_goto hC 148 dX7_readHour_142 rfl ?_
          refine g_iastN (j := rnV T p) (k := 68) hC ly_68 rfl (by omega) (by decide) dX7_readHour_148 ?_
          refine g_iconst (v := 1) hC dX7_readHour_149 rfl ?_
          refine g_zret (ty := .boolean) hC rfl rfl dX7_readHour_150 ?_
          have e1 : rhS T (rnE T p) = .inl ((chI T (nx T (nx T (rnE T p) + 1))).toInt - 48, (nx T (nx T (rnE T p) + 1)) + 1) := by unfold rhS; rw [if_neg (fun q => absurd ((ch_i (by decide)).mpr q) (by omega)), if_pos ((ch_i (by decide)).mp (by omega)), if_pos (by omega)]
          have e0 := phS_4 ok hb e1
          exact ⟨_, rfl, (fun q hq => (by rw [e0] at hq; cases hq)), (fun h z e hq => (by rw [e0] at hq; cases hq; exact ⟨rfl, (by rw [fm_ups]; exact oI_sub48 _), (by rw [fm_upn (by decide), fm_ups]), (by simp [fm_up, fm_row, upd, sb]), (fun j hj => (by simp [fm_up, fm_row, upd, hj, r6_2]))⟩)), (fun i i1 i2 => (by simp [fm_up, fm_row, upd, i1, i2, r5_2])), (fun q q1 q2 => (by simp [fm_up, fm_row, upd, q1, q2, r6_2])), rfl⟩
        · skip
          refine g_iconst (v := 0) hC dX7_readHour_117 rfl ?_
          refine g_zret (ty := .boolean) hC rfl rfl dX7_readHour_118 ?_
          have e1 : rhS T (rnE T p) = .inr (nx T (nx T (rnE T p) + 1)) := by unfold rhS; rw [if_neg (fun q => absurd ((ch_i (by decide)).mpr q) (by omega)), if_pos ((ch_i (by decide)).mp (by omega)), if_neg (by omega)]
          have e0 := phS_3 ok hb e1
          exact ⟨_, rfl, (fun q hq => (by rw [e0] at hq; cases hq; exact ⟨rfl, fm_ups⟩)), (fun h z e hq => (by rw [e0] at hq; cases hq)), (fun i i1 i2 => (by simp [fm_up, fm_row, upd, i1, i2, r5_2])), (fun q q1 q2 => (by simp [fm_up, fm_row, upd, q1, q2, r6_2])), rfl⟩
      · skip
        refine g_iload_n hC dX7_readHour_65 rfl 0 rfl ?_
        refine g_bipush (v := 45) hC dX7_readHour_66 rfl ?_
        refine g_icmp_eq_T (X := (chI T (nx T (rnE T p))).toInt) (Y := 45) hC rfl rfl 73 dX7_readHour_68 rfl (fun c_12 => ?_) (fun c_12 => ?_)
        · skip
          have pl1 : nx T (rnE T p) < T.1 := ch_lt (c := 45) (by decide) ((ch_i (by decide)).mp (by omega))
          refine g_aload_n hC dX7_readHour_73 rfl 3 rfl ?_
          refine g_dup hC dX7_readHour_74 rfl ?_
          refine g_getI (ci := 7) (i := 19) (k := 58) hC fm_in7 rfl ly_58 rfl (by decide) fw_639 dX7_readHour_75 ?_
          refine g_top (y := nI (nx T (rnE T p))) (by simp [fm_up, fm_row, upd]) ?_
          refine g_iconst (v := 1) hC dX7_readHour_78 rfl ?_
          refine g_iadd hC dX7_readHour_79 ?_
          refine g_top (y := nI ((nx T (rnE T p)) + 1)) (nI_add _ _) ?_
          refine g_putI (ci := 7) (i := 19) (k := 58) hC fm_in7 tyX7 tyX7_ok nmX7 rfl ly_58 rfl (by decide) fw_639 rfl rfl rfl dX7_readHour_80 ?_
          refine g_aload_n hC dX7_readHour_83 rfl 3 rfl ?_
          refine g_callV hC (k := 58) (ci := 7) (as := []) (rest := []) (c_X7_nextByte l D cA b (fm_up (fm_up (fm_up M_2 58 22 (sb s (rnV T p))) 58 19 (nI (nx T (rnE T p)))) 58 19 (nI ((nx T (rnE T p)) + 1))) L T (nx T (rnE T p) + 1) (pR_mm hT_2 (by simp [fm_up, fm_row, upd]) (by simp [fm_up, fm_row, upd])) hk fm_ups (show nx T (rnE T p) < T.1 from pl1)) ⟨fw_804, fw_806, fs_20, fw_9, fw_807⟩ ⟨rfl, hd_X7_nextByte⟩ rfl ly_58 ⟨Nat.le_of_ble_eq_true rfl, Nat.le_of_ble_eq_true rfl⟩ ⟨Nat.le_of_ble_eq_true rfl, Nat.le_of_ble_eq_true rfl⟩ rfl rfl (Nat.le_of_ble_eq_true rfl) dX7_readHour_84 (g_rix ?_)
          refine g_bipush (v := 48) hC dX7_readHour_87 rfl ?_
          refine g_isub hC dX7_readHour_89 ?_
          refine g_top (y := chI T (nx T (nx T (rnE T p) + 1)) - 48) rfl ?_
          refine g_istore hC [(4, .int (chI T (nx T (nx T (rnE T p) + 1)) - 48)), (3, .int (chI T (nx T (rnE T p)))), (2, .int (nI (rnV T p))), (1, .int (nI (nx T p))), (0, .ref (b + 58))] dX7_readHour_90 (by decide) rfl ?_
          refine g_iload hC dX7_readHour_92 0 rfl ?_
          refine g_i2l (v := (chI T (nx T (nx T (rnE T p) + 1)) - 48).toInt64) hC dX7_readHour_94 rfl ?_
          refine g_lconst (v := 0) hC dX7_readHour_95 rfl ?_
          refine g_iload_n hC dX7_readHour_96 rfl 1 rfl ?_
          refine g_bipush (v := 43) hC dX7_readHour_97 rfl ?_
          refine g_icmp_ne_T (X := (chI T (nx T (rnE T p))).toInt) (Y := 43) hC rfl rfl 108 dX7_readHour_99 rfl (fun _ => ?_) (fun c_14 => absurd c_14 (by omega))
          refine g_ldc2 (v := 2) hC fw_836 dX7_readHour_108 ?_
          refine g_callS hC (as := [.long ((chI T (nx T (nx T (rnE T p) + 1)) - 48).toInt64), .long 0, .long 2]) (rest := []) (c_X7_in l D cA b LAY (fm_up (fm_up (fm_up (fm_up M_2 58 22 (sb s (rnV T p))) 58 19 (nI (nx T (rnE T p)))) 58 19 (nI ((nx T (rnE T p)) + 1))) 58 19 (nI (nx T (nx T (rnE T p) + 1)))) L ((chI T (nx T (nx T (rnE T p) + 1)) - 48).toInt64) 0 2 ((chI T (nx T (nx T (rnE T p) + 1))).toInt - 48) 0 2 ((ic_w _).trans (ch48 hk _)) rfl rfl) ⟨fw_725, fw_726, fw_9, fw_727⟩ hd_X7_in ⟨Nat.le_of_ble_eq_true rfl, Nat.le_of_ble_eq_true rfl⟩ ⟨Nat.le_of_ble_eq_true rfl, Nat.le_of_ble_eq_true rfl⟩ rfl rfl (Nat.le_of_ble_eq_true rfl) dX7_readHour_111 (g_rix ?_)
          refine g_ifb_ne hC 119 dX7_readHour_114 rfl (fun c_16 => ?_) (fun c_16 => ?_)
          · skip
            refine g_aload_n hC dX7_readHour_119 rfl 4 rfl ?_
            refine g_dup hC dX7_readHour_120 rfl ?_
            refine g_getI (ci := 7) (i := 19) (k := 58) hC fm_in7 rfl ly_58 rfl (by decide) fw_639 dX7_readHour_121 ?_
            refine g_top (y := nI (nx T (nx T (rnE T p) + 1))) (by simp [fm_up, fm_row, upd]) ?_
            refine g_iconst (v := 1) hC dX7_readHour_124 rfl ?_
            refine g_iadd hC dX7_readHour_125 ?_
            refine g_top (y := nI ((nx T (nx T (rnE T p) + 1)) + 1)) (nI_add _ _) ?_
            refine g_putI (ci := 7) (i := 19) (k := 58) hC fm_in7 tyX7 tyX7_ok nmX7 rfl ly_58 rfl (by decide) fw_639 rfl rfl rfl dX7_readHour_126 ?_
            refine g_aload_n hC dX7_readHour_129 rfl 4 rfl ?_
            refine g_getR (ci := 7) (i := 21) (k := 58) (t := 68) hC fm_in7 rfl ly_58 rfl (by decide) fw_641 dX7_readHour_130 ?_
            refine g_iload_n hC dX7_readHour_133 rfl 2 rfl ?_
            refine g_iload_n hC dX7_readHour_134 rfl 1 rfl ?_
            refine g_bipush (v := 43) hC dX7_readHour_135 rfl ?_
            refine g_icmp_ne_T (X := (chI T (nx T (rnE T p))).toInt) (Y := 43) hC rfl rfl 145 dX7_readHour_137 rfl (fun _ => ?_) (fun c_17 => absurd c_17 (by omega))
            refine g_iload hC dX7_readHour_145 0 rfl ?_
            refine g_ineg hC dX7_readHour_147 ?_
            refine g_iastN (j := rnV T p) (k := 68) hC ly_68 rfl (by omega) (by decide) dX7_readHour_148 ?_
            refine g_iconst (v := 1) hC dX7_readHour_149 rfl ?_
            refine g_zret (ty := .boolean) hC rfl rfl dX7_readHour_150 ?_
            have e1 : rhS T (rnE T p) = .inl (-((chI T (nx T (nx T (rnE T p) + 1))).toInt - 48), (nx T (nx T (rnE T p) + 1)) + 1) := by unfold rhS; rw [if_pos ((ch_i (by decide)).mp (by omega)), if_pos (by omega)]
            have e0 := phS_4 ok hb e1
            exact ⟨_, rfl, (fun q hq => (by rw [e0] at hq; cases hq)), (fun h z e hq => (by rw [e0] at hq; cases hq; exact ⟨rfl, (by rw [fm_ups]; exact oI_neg48 _), (by rw [fm_upn (by decide), fm_ups]), (by simp [fm_up, fm_row, upd, sb]), (fun j hj => (by simp [fm_up, fm_row, upd, hj, r6_2]))⟩)), (fun i i1 i2 => (by simp [fm_up, fm_row, upd, i1, i2, r5_2])), (fun q q1 q2 => (by simp [fm_up, fm_row, upd, q1, q2, r6_2])), rfl⟩
          · skip
            refine g_iconst (v := 0) hC dX7_readHour_117 rfl ?_
            refine g_zret (ty := .boolean) hC rfl rfl dX7_readHour_118 ?_
            have e1 : rhS T (rnE T p) = .inr (nx T (nx T (rnE T p) + 1)) := by unfold rhS; rw [if_pos ((ch_i (by decide)).mp (by omega)), if_neg (by omega)]
            have e0 := phS_3 ok hb e1
            exact ⟨_, rfl, (fun q hq => (by rw [e0] at hq; cases hq; exact ⟨rfl, fm_ups⟩)), (fun h z e hq => (by rw [e0] at hq; cases hq)), (fun i i1 i2 => (by simp [fm_up, fm_row, upd, i1, i2, r5_2])), (fun q q1 q2 => (by simp [fm_up, fm_row, upd, q1, q2, r6_2])), rfl⟩
        · skip
          refine g_iconst (v := 0) hC dX7_readHour_71 rfl ?_
          refine g_zret (ty := .boolean) hC rfl rfl dX7_readHour_72 ?_
          have e1 : rhS T (rnE T p) = .inr (nx T (rnE T p)) := by unfold rhS; rw [if_neg (fun q => absurd ((ch_i (by decide)).mpr q) (by omega)), if_neg (fun q => absurd ((ch_i (by decide)).mpr q) (by omega))]
          have e0 := phS_3 ok hb e1
          exact ⟨_, rfl, (fun q hq => (by rw [e0] at hq; cases hq; exact ⟨rfl, fm_ups⟩)), (fun h z e hq => (by rw [e0] at hq; cases hq)), (fun i i1 i2 => (by simp [fm_up, fm_row, upd, i1, i2, r5_2])), (fun q q1 q2 => (by simp [fm_up, fm_row, upd, q1, q2, r6_2])), rfl⟩
    · skip
      have hb := c_4
      refine g_aload_n hC dX7_readHour_35 rfl 2 rfl ?_
      refine g_iload_n hC dX7_readHour_36 rfl 1 rfl ?_
      refine g_putI (ci := 7) (i := 19) (k := 58) hC fm_in7 tyX7 tyX7_ok nmX7 rfl ly_58 rfl (by decide) fw_639 rfl rfl rfl dX7_readHour_37 ?_
      refine g_iconst (v := 0) hC dX7_readHour_40 rfl ?_
      refine g_zret (ty := .boolean) hC rfl rfl dX7_readHour_41 ?_
      have e0 := phS_2 ok hb
      exact ⟨_, rfl, (fun q hq => (by rw [e0] at hq; cases hq; exact ⟨rfl, fm_ups⟩)), (fun h z e hq => (by rw [e0] at hq; cases hq)), (fun i i1 i2 => (by simp [fm_up, fm_row, upd, i1, i2, r5_2])), (fun q q1 q2 => (by simp [fm_up, fm_row, upd, q1, q2, r6_2])), rfl⟩
  · skip
    have nk : ¬ rnOk T p 23 := fun q => absurd (g_2.mpr q) (by omega)
    have rp := (r2_2 nk).2
    refine g_iconst (v := 0) hC dX7_readHour_21 rfl ?_
    refine g_zret (ty := .boolean) hC rfl rfl dX7_readHour_22 ?_
    have e0 := phS_1 (s := s) nk
    exact ⟨_, rfl, (fun q hq => (by rw [e0] at hq; cases hq; exact ⟨rfl, rp⟩)), (fun h z e hq => (by rw [e0] at hq; cases hq)), (fun i i1 i2 => (by simp [fm_up, fm_row, upd, i1, i2, r5_2])), (fun q q1 q2 => (by simp [fm_up, fm_row, upd, q1, q2, r6_2])), rfl⟩
