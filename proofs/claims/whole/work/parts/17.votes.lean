/-! ===== worths, choices, votes ===== -/
theorem g_top3 {p : Program} {l : Launch} {e : Env} {R : Room} {s : State} {m : MethodId} {args : Array Value} {below : List Frame} {meth : Method} {c : Code} {Q : State → Prop} {D : va_G} {cA : Nat → ClassId} {b nL : Nat} {lay : List fm_E} {M : Nat → Nat → Int32} {L : Nat → Nat → Int64} {cells slots pc : Nat} {lv : List (Nat × Value)} {st : List Value} {v w : Value} {x y : Int32} (h : x = y) (kk : fm_G p l e R s m args below meth c D cA b nL Q lay M L cells slots pc lv (v :: w :: .int y :: st)) : fm_G p l e R s m args below meth c D cA b nL Q lay M L cells slots pc lv (v :: w :: .int x :: st) := by subst h; exact kk
def sumN (f : Nat → Nat) : Nat → Nat
  | 0 => 0
  | n + 1 => sumN f n + f n
theorem sumN_le {f : Nat → Nat} {c : Nat} : ∀ {n : Nat}, (∀ j, j < n → f j ≤ c) → sumN f n ≤ c * n
  | 0, _ => Nat.zero_le _
  | n + 1, h => by
    have h1 := sumN_le (n := n) (fun j hj => h j (by omega))
    have h2 := h n (by omega)
    show sumN f n + f n ≤ c * (n + 1)
    rw [Nat.mul_succ]; omega
def votesT (t : Tn) (how : Int) (h j : Nat) : Nat := if how = 2 then (if t.1 3 j = 1 then woN t j h 0 else 0) else if (chN t j).toInt = (h : Int) then (if how = 1 then t.1 2 j else 1) else 0
theorem woN_le {t : Tn} {j hour k : Nat} : woN t j hour k ≤ t.1 2 j := wN_le _ _ _ _ _
theorem votesT_le {t : Tn} (ht : tOK t) {how : Int} {h j : Nat} (hj : j < t.1 7 0) : votesT t how h j ≤ 99 := by
  have h1 := ht.1 j hj
  have h2 := woN_le (t := t) (j := j) (hour := h) (k := 0)
  unfold votesT
  (repeat' split) <;> omega
theorem votes_le {t : Tn} (ht : tOK t) {how : Int} {h : Nat} : sumN (votesT t how h) (t.1 7 0) ≤ 792 := by
  have h1 := sumN_le (f := votesT t how h) (c := 99) (n := t.1 7 0) (fun j hj => votesT_le ht hj)
  have h2 : t.1 7 0 ≤ 8 := ht.2.2.2.1
  omega
def op_vote (g : Sg) (x : Int32) : Int32 := if 0 ≤ x.toInt ∧ x.toInt ≤ 2 then (argm (fun h => sumN (votesT g.1 x.toInt h) (g.1.1 7 0)) 24).1 else -1

theorem c_X5_votesFor (l : Launch) (D : va_G) (cA : Nat → ClassId) (b : Nat) (M : Nat → Nat → Int32) (L : Nat → Nat → Int64) (g : Sg) (hh : Nat) (x : Int32) (hS : CS M L g) (hok : OK g) (hlt : hh < 24) (hx : 0 ≤ x.toInt ∧ x.toInt ≤ 2) : fm_Met l D cA b yX5_votesFor cX5_votesFor 6 (some .int) 4 90 0 0 [.ref (b + 1), .int (nI hh), .int x] LAY M L LAY (fm_pi (nI (sumN (votesT g.1 x.toInt hh) (g.1.1 7 0))) M L) := by
  refine fm_start RX5 rfl (by decide) (Nat.le_of_ble_eq_true rfl) ?_
  intro pq eq sq mq aq bq tq cq hC hin
  obtain ⟨⟨n1, n2, n3, v0, v1, v2, v3, v4, v5, v6, v7, v8⟩, hS2⟩ := id hS
  obtain ⟨⟨o1, o2, o3, o4, o5, o6, o7, o8, o9, o10, o11⟩, hok2⟩ := id hok
  refine g_iconst (v := 0) hC dX5_votesFor_0 rfl ?_
  refine g_istore_n hC [(3, .int 0), (0, .ref (b + 1)), (1, .int (nI hh)), (2, .int x)] dX5_votesFor_1 rfl (by decide) rfl ?_
  refine g_iconst (v := 0) hC dX5_votesFor_2 rfl ?_
  refine g_istore hC [(4, .int 0), (3, .int 0), (0, .ref (b + 1)), (1, .int (nI hh)), (2, .int x)] dX5_votesFor_3 (by decide) rfl ?_
  have lp_5_1 : ∀ (n_1 : Nat) (acc : Nat) (i : Nat), g.1.1 7 0 - i < n_1 → (i ≤ g.1.1 7 0 ∧ acc = sumN (votesT g.1 x.toInt hh) i ∧ acc ≤ 99 * i) → fm_G pq l eq (fm_rm 4 90 0 0) sq mq aq bq tq cq D cA b 6 (MQ bq (fm_Q D cA b LAY (fm_pi (nI (sumN (votesT g.1 x.toInt hh) (g.1.1 7 0))) M L)) aq sq 0 0 (fun q => b ≤ q)) LAY M L 0 0 5 [(0, .ref (b + 1)), (1, .int (nI hh)), (2, .int x), (3, .int (nI acc)), (4, .int (nI i))] [] := by
    intro n_1
    induction n_1 with
    | zero => intro acc i hm_1; exact absurd hm_1 (Nat.not_lt_zero _)
    | succ n_1 ih_1 =>
      intro acc i hm_1 hinv_1
      obtain ⟨i1, i2, i3⟩ := hinv_1
      have oo := o1 i
      refine g_iload hC dX5_votesFor_5 4 rfl ?_
      refine g_aload_n hC dX5_votesFor_7 rfl 0 rfl ?_
      refine g_getI (ci := 5) (i := 1) (k := 1) hC fm_in5 rfl ly_1 rfl (by decide) fw_58 dX5_votesFor_8 ?_
      refine g_top (y := nI (g.1.1 7 0)) v0 ?_
      refine g_icmp_ge_T (X := ((i : Nat) : Int)) (Y := ((g.1.1 7 0 : Nat) : Int)) hC (nI_toInt (by omega)) (nI_toInt (by omega)) 86 dX5_votesFor_11 rfl (fun c_2 => ?_) (fun c_2 => ?_)
      · skip
        refine g_iload_n hC dX5_votesFor_86 rfl 3 rfl ?_
        refine g_zret (ty := .int) hC rfl rfl dX5_votesFor_87 ⟨congrArg (fun z => some (Value.int z)) ?_, rfl, rfl⟩
        have ei : i = g.1.1 7 0 := by omega
        rw [i2, ei]
      · skip
        refine g_aload_n hC dX5_votesFor_14 rfl 0 rfl ?_
        refine g_getR (ci := 5) (i := 0) (k := 1) (t := 2) hC fm_in5 rfl ly_1 rfl (by decide) fw_56 dX5_votesFor_15 ?_
        refine g_iload hC dX5_votesFor_18 4 rfl ?_
        refine g_aald4N (j := i) (t := 7 + i) (k := 2) hC ly_2 rfl (by omega) (by decide) (fm_z7 _ (by omega)) dX5_votesFor_20 ?_
        refine g_astore hC [(5, .ref (b + (7 + i))), (0, .ref (b + 1)), (1, .int (nI hh)), (2, .int x), (3, .int (nI acc)), (4, .int (nI i))] dX5_votesFor_21 (by decide) rfl ?_
        refine g_iload_n hC dX5_votesFor_23 rfl 3 rfl ?_
        refine g_iconst (v := 2) hC dX5_votesFor_24 rfl ?_
        refine g_icmp_ne_T (X := x.toInt) (Y := 2) hC rfl rfl 54 dX5_votesFor_25 rfl (fun c_3 => ?_) (fun c_3 => ?_)
        · skip
          refine g_aload hC dX5_votesFor_54 0 rfl ?_
          refine g_callV hC (k := 7 + i) (ci := 1) (as := []) (rest := []) (c_X1_favouriteHour l D cA b M L (7 + i) (g.1.1 0 i) (g.1.1 1 i) (g.1.1 2 i) (g.1.1 3 i) (fm_per7 _ (by omega)) (⟨(n1 i (by omega)).1, (n1 i (by omega)).2.1, (n1 i (by omega)).2.2.1, (n1 i (by omega)).2.2.2, o1 i (by omega)⟩)) ⟨fw_483, fw_484, fw_485, fw_3, fw_486⟩ ⟨rfl, hd_X1_favouriteHour⟩ rfl (fm_per7 _ (by omega)) ⟨Nat.le_of_ble_eq_true rfl, Nat.le_of_ble_eq_true rfl⟩ ⟨Nat.le_of_ble_eq_true rfl, Nat.le_of_ble_eq_true rfl⟩ rfl rfl (Nat.le_of_ble_eq_true rfl) dX5_votesFor_56 (g_rix ?_)
          have fd_4 : favN (g.1.1 0 i) (g.1.1 1 i) (g.1.1 2 i) (g.1.1 3 i) = chN g.1 i := rfl
          rw [fd_4]
          refine g_iload_n hC dX5_votesFor_59 rfl 2 rfl ?_
          refine g_icmp_ne_T (X := (chN g.1 i).toInt) (Y := ((hh : Nat) : Int)) hC rfl (nI_toInt (by omega)) 80 dX5_votesFor_60 rfl (fun c_5 => ?_) (fun c_5 => ?_)
          · skip
            refine g_iinc hC [(4, .int (nI (i + 1))), (5, .ref (b + (7 + i))), (0, .ref (b + 1)), (1, .int (nI hh)), (2, .int x), (3, .int (nI acc))] dX5_votesFor_80 5 rfl (by rw [show Int32.ofInt 1 = nI 1 from rfl, nI_add]) (by decide) rfl ?_
            refine g_goto hC 5 dX5_votesFor_83 rfl ?_
            exact g_sub [2, 3, 4, 5, 0] rfl (ih_1 acc (i + 1) (by omega) (⟨by omega, by rw [i2]; show _ = sumN _ i + _; congr 1; unfold votesT; (repeat' split) <;> omega, by omega⟩))
          · skip
            refine g_iload_n hC dX5_votesFor_63 rfl 4 rfl ?_
            refine g_iload_n hC dX5_votesFor_64 rfl 3 rfl ?_
            refine g_iconst (v := 1) hC dX5_votesFor_65 rfl ?_
            refine g_icmp_ne_T (X := x.toInt) (Y := 1) hC rfl rfl 77 dX5_votesFor_66 rfl (fun c_6 => ?_) (fun c_6 => ?_)
            · skip
              refine g_iconst (v := 1) hC dX5_votesFor_77 rfl ?_
              refine g_iadd hC dX5_votesFor_78 ?_
              refine g_top (y := nI (acc + 1)) (nI_add _ _) ?_
              refine g_istore_n hC [(3, .int (nI (acc + 1))), (5, .ref (b + (7 + i))), (0, .ref (b + 1)), (1, .int (nI hh)), (2, .int x), (4, .int (nI i))] dX5_votesFor_79 rfl (by decide) rfl ?_
              refine g_iinc hC [(4, .int (nI (i + 1))), (3, .int (nI (acc + 1))), (5, .ref (b + (7 + i))), (0, .ref (b + 1)), (1, .int (nI hh)), (2, .int x)] dX5_votesFor_80 5 rfl (by rw [show Int32.ofInt 1 = nI 1 from rfl, nI_add]) (by decide) rfl ?_
              refine g_goto hC 5 dX5_votesFor_83 rfl ?_
              exact g_sub [3, 4, 5, 1, 0] rfl (ih_1 (acc + 1) (i + 1) (by omega) (⟨by omega, by rw [i2]; show _ = sumN _ i + _; congr 1; unfold votesT; (repeat' split) <;> omega, by omega⟩))
            · skip
              refine g_aload hC dX5_votesFor_69 0 rfl ?_
              refine g_getI (ci := 1) (i := 2) (k := 7 + i) hC fm_in1 rfl (fm_per7 _ (by omega)) rfl (by decide) fw_39 dX5_votesFor_71 ?_
              refine g_top (y := nI (g.1.1 2 i)) (n1 i (by omega)).2.2.1 ?_
              refine g_goto hC 78 dX5_votesFor_74 rfl ?_
              refine g_iadd hC dX5_votesFor_78 ?_
              refine g_top (y := nI (acc + (g.1.1 2 i))) (nI_add _ _) ?_
              refine g_istore_n hC [(3, .int (nI (acc + (g.1.1 2 i)))), (5, .ref (b + (7 + i))), (0, .ref (b + 1)), (1, .int (nI hh)), (2, .int x), (4, .int (nI i))] dX5_votesFor_79 rfl (by decide) rfl ?_
              refine g_iinc hC [(4, .int (nI (i + 1))), (3, .int (nI (acc + (g.1.1 2 i)))), (5, .ref (b + (7 + i))), (0, .ref (b + 1)), (1, .int (nI hh)), (2, .int x)] dX5_votesFor_80 5 rfl (by rw [show Int32.ofInt 1 = nI 1 from rfl, nI_add]) (by decide) rfl ?_
              refine g_goto hC 5 dX5_votesFor_83 rfl ?_
              exact g_sub [3, 4, 5, 1, 0] rfl (ih_1 (acc + (g.1.1 2 i)) (i + 1) (by omega) (⟨by omega, by rw [i2]; show _ = sumN _ i + _; congr 1; unfold votesT; (repeat' split) <;> omega, by omega⟩))
        · skip
          refine g_iload_n hC dX5_votesFor_28 rfl 4 rfl ?_
          refine g_aload hC dX5_votesFor_29 0 rfl ?_
          refine g_getI (ci := 1) (i := 3) (k := 7 + i) hC fm_in1 rfl (fm_per7 _ (by omega)) rfl (by decide) fw_42 dX5_votesFor_31 ?_
          refine g_top (y := nI (g.1.1 3 i)) (n1 i (by omega)).2.2.2 ?_
          refine g_iconst (v := 1) hC dX5_votesFor_34 rfl ?_
          refine g_icmp_ne_T (X := ((g.1.1 3 i : Nat) : Int)) (Y := 1) hC (nI_toInt (by omega)) rfl 48 dX5_votesFor_35 rfl (fun c_7 => ?_) (fun c_7 => ?_)
          · skip
            refine g_iconst (v := 0) hC dX5_votesFor_48 rfl ?_
            refine g_iadd hC dX5_votesFor_49 ?_
            refine g_top (y := nI (acc + 0)) (nI_add _ _) ?_
            refine g_istore_n hC [(3, .int (nI (acc + 0))), (5, .ref (b + (7 + i))), (0, .ref (b + 1)), (1, .int (nI hh)), (2, .int x), (4, .int (nI i))] dX5_votesFor_50 rfl (by decide) rfl ?_
            refine g_goto hC 80 dX5_votesFor_51 rfl ?_
            refine g_iinc hC [(4, .int (nI (i + 1))), (3, .int (nI (acc + 0))), (5, .ref (b + (7 + i))), (0, .ref (b + 1)), (1, .int (nI hh)), (2, .int x)] dX5_votesFor_80 5 rfl (by rw [show Int32.ofInt 1 = nI 1 from rfl, nI_add]) (by decide) rfl ?_
            refine g_goto hC 5 dX5_votesFor_83 rfl ?_
            exact g_sub [3, 4, 5, 1, 0] rfl (ih_1 (acc + 0) (i + 1) (by omega) (⟨by omega, by rw [i2]; show _ = sumN _ i + _; congr 1; unfold votesT; (repeat' split) <;> omega, by omega⟩))
          · skip
            refine g_aload hC dX5_votesFor_38 0 rfl ?_
            refine g_iload_n hC dX5_votesFor_40 rfl 2 rfl ?_
            refine g_iconst (v := 0) hC dX5_votesFor_41 rfl ?_
            refine g_callV hC (k := 7 + i) (ci := 1) (as := [.int (nI hh), .int 0]) (rest := [.int (nI acc)]) (c_X1_worthOf l D cA b M L (7 + i) (g.1.1 0 i) (g.1.1 1 i) (g.1.1 2 i) (g.1.1 3 i) hh 0 (fm_per7 _ (by omega)) (⟨(n1 i (by omega)).1, (n1 i (by omega)).2.1, (n1 i (by omega)).2.2.1, (n1 i (by omega)).2.2.2, o1 i (by omega)⟩) (by omega) (by omega)) ⟨fw_403, fw_252, fw_253, fw_3, fw_254⟩ ⟨rfl, hd_X1_worthOf⟩ rfl (fm_per7 _ (by omega)) ⟨Nat.le_of_ble_eq_true rfl, Nat.le_of_ble_eq_true rfl⟩ ⟨Nat.le_of_ble_eq_true rfl, Nat.le_of_ble_eq_true rfl⟩ rfl rfl (Nat.le_of_ble_eq_true rfl) dX5_votesFor_42 (g_rix ?_)
            have wb_8 := wN_le (g.1.1 0 i) (g.1.1 1 i) (g.1.1 2 i) hh 0
            have wd_8 : wN (g.1.1 0 i) (g.1.1 1 i) (g.1.1 2 i) hh 0 = woN g.1 i hh 0 := rfl
            refine g_goto hC 49 dX5_votesFor_45 rfl ?_
            refine g_iadd hC dX5_votesFor_49 ?_
            refine g_top (y := nI (acc + (wN (g.1.1 0 i) (g.1.1 1 i) (g.1.1 2 i) hh 0))) (nI_add _ _) ?_
            refine g_istore_n hC [(3, .int (nI (acc + (wN (g.1.1 0 i) (g.1.1 1 i) (g.1.1 2 i) hh 0)))), (5, .ref (b + (7 + i))), (0, .ref (b + 1)), (1, .int (nI hh)), (2, .int x), (4, .int (nI i))] dX5_votesFor_50 rfl (by decide) rfl ?_
            refine g_goto hC 80 dX5_votesFor_51 rfl ?_
            refine g_iinc hC [(4, .int (nI (i + 1))), (3, .int (nI (acc + (wN (g.1.1 0 i) (g.1.1 1 i) (g.1.1 2 i) hh 0)))), (5, .ref (b + (7 + i))), (0, .ref (b + 1)), (1, .int (nI hh)), (2, .int x)] dX5_votesFor_80 5 rfl (by rw [show Int32.ofInt 1 = nI 1 from rfl, nI_add]) (by decide) rfl ?_
            refine g_goto hC 5 dX5_votesFor_83 rfl ?_
            exact g_sub [3, 4, 5, 1, 0] rfl (ih_1 (acc + (wN (g.1.1 0 i) (g.1.1 1 i) (g.1.1 2 i) hh 0)) (i + 1) (by omega) (⟨by omega, by rw [i2]; show _ = sumN _ i + _; congr 1; unfold votesT; (repeat' split) <;> omega, by omega⟩))
  exact g_sub [2, 3, 4, 1, 0] rfl (lp_5_1 (g.1.1 7 0 - 0 + 1) 0 0 (Nat.lt_succ_self _) (⟨by omega, rfl, by omega⟩))

theorem c_X6_vote (l : Launch) (D : va_G) (cA : Nat → ClassId) (b : Nat) (M : Nat → Nat → Int32) (L : Nat → Nat → Int64) (g : Sg) (x : Int32) (hS : CS M L g) (hok : OK g) : fm_Met l D cA b yX6_vote cX6_vote 6 (some .int) 5 115 0 0 [.ref (b + 0), .int x] LAY M L LAY (fm_pi (op_vote g x) M L) := by
  refine fm_start RX6 rfl (by decide) (Nat.le_of_ble_eq_true rfl) ?_
  intro pq eq sq mq aq bq tq cq hC hin
  obtain ⟨⟨n1, n2, n3, v0, v1, v2, v3, v4, v5, v6, v7, v8⟩, hS2⟩ := id hS
  obtain ⟨⟨o1, o2, o3, o4, o5, o6, o7, o8, o9, o10, o11⟩, hok2⟩ := id hok
  refine g_iload_n hC dX6_vote_0 rfl 1 rfl ?_
  refine g_if_lt_T (X := x.toInt) hC rfl 9 dX6_vote_1 rfl (fun c_1 => ?_) (fun c_1 => ?_)
  · skip
    refine g_iconst (v := (-1)) hC dX6_vote_9 rfl ?_
    refine g_zret (ty := .int) hC rfl rfl dX6_vote_10 ⟨congrArg (fun z => some (Value.int z)) ?_, rfl, rfl⟩
    unfold op_vote; rw [if_neg (by omega)]
  · skip
    refine g_iload_n hC dX6_vote_4 rfl 1 rfl ?_
    refine g_iconst (v := 2) hC dX6_vote_5 rfl ?_
    refine g_icmp_le_T (X := x.toInt) (Y := 2) hC rfl rfl 11 dX6_vote_6 rfl (fun c_2 => ?_) (fun c_2 => ?_)
    · skip
      refine g_bipush (v := (-4)) hC dX6_vote_11 rfl ?_
      refine g_istore_n hC [(2, .int (-4)), (0, .ref (b + 0)), (1, .int x)] dX6_vote_13 rfl (by decide) rfl ?_
      refine g_iconst (v := 0) hC dX6_vote_14 rfl ?_
      refine g_istore_n hC [(3, .int 0), (2, .int (-4)), (0, .ref (b + 0)), (1, .int x)] dX6_vote_15 rfl (by decide) rfl ?_
      refine g_iconst (v := 0) hC dX6_vote_16 rfl ?_
      refine g_istore hC [(4, .int 0), (3, .int 0), (2, .int (-4)), (0, .ref (b + 0)), (1, .int x)] dX6_vote_17 (by decide) rfl ?_
      have lp_19_3 : ∀ (n_3 : Nat) (f : Int32) (mo : Nat) (hh : Nat), 24 - hh < n_3 → (hh ≤ 24 ∧ argm (fun h => sumN (votesT g.1 x.toInt h) (g.1.1 7 0)) hh = (f, mo) ∧ mo ≤ 792) → fm_G pq l eq (fm_rm 5 115 0 0) sq mq aq bq tq cq D cA b 6 (MQ bq (fm_Q D cA b LAY (fm_pi (op_vote g x) M L)) aq sq 0 0 (fun q => b ≤ q)) LAY M L 0 0 19 [(0, .ref (b + 0)), (1, .int x), (2, .int f), (3, .int (nI mo)), (4, .int (nI hh))] [] := by
        intro n_3
        induction n_3 with
        | zero => intro f mo hh hm_3; exact absurd hm_3 (Nat.not_lt_zero _)
        | succ n_3 ih_3 =>
          intro f mo hh hm_3 hinv_3
          obtain ⟨j1, j2, j3⟩ := hinv_3
          refine g_iload hC dX6_vote_19 4 rfl ?_
          refine g_bipush (v := 24) hC dX6_vote_21 rfl ?_
          refine g_icmp_ge_T (X := ((hh : Nat) : Int)) (Y := 24) hC (nI_toInt (by omega)) rfl 56 dX6_vote_23 rfl (fun c_4 => ?_) (fun c_4 => ?_)
          · skip
            refine g_iload_n hC dX6_vote_56 rfl 2 rfl ?_
            refine g_zret (ty := .int) hC rfl rfl dX6_vote_57 ⟨congrArg (fun z => some (Value.int z)) ?_, rfl, rfl⟩
            have e24 : hh = 24 := by omega
            subst e24
            unfold op_vote; rw [if_pos (by omega), j2]
          · skip
            refine g_aload_n hC dX6_vote_26 rfl 0 rfl ?_
            refine g_getR (ci := 6) (i := 0) (k := 0) (t := 1) hC fm_in6 rfl ly_0 rfl (by decide) fw_196 dX6_vote_27 ?_
            refine g_iload hC dX6_vote_30 4 rfl ?_
            refine g_iload_n hC dX6_vote_32 rfl 1 rfl ?_
            refine g_callV hC (k := 1) (ci := 5) (as := [.int (nI hh), .int x]) (rest := []) (c_X5_votesFor l D cA b M L g hh x hS hok (by omega) (by omega)) ⟨fw_479, fw_480, fw_481, fw_2, fw_482⟩ ⟨rfl, hd_X5_votesFor⟩ rfl ly_1 ⟨Nat.le_of_ble_eq_true rfl, Nat.le_of_ble_eq_true rfl⟩ ⟨Nat.le_of_ble_eq_true rfl, Nat.le_of_ble_eq_true rfl⟩ rfl rfl (Nat.le_of_ble_eq_true rfl) dX6_vote_33 (g_rix ?_)
            have vb_5 := votes_le hok.1 (how := x.toInt) (h := hh)
            refine g_istore hC [(5, .int (nI (sumN (votesT g.1 x.toInt hh) (g.1.1 7 0)))), (0, .ref (b + 0)), (1, .int x), (2, .int f), (3, .int (nI mo)), (4, .int (nI hh))] dX6_vote_36 (by decide) rfl ?_
            refine g_iload hC dX6_vote_38 0 rfl ?_
            refine g_iload_n hC dX6_vote_40 rfl 4 rfl ?_
            refine g_icmp_le_T (X := ((sumN (votesT g.1 x.toInt hh) (g.1.1 7 0) : Nat) : Int)) (Y := ((mo : Nat) : Int)) hC (nI_toInt (by omega)) (nI_toInt (by omega)) 50 dX6_vote_41 rfl (fun c_6 => ?_) (fun c_6 => ?_)
            · skip
              refine g_iinc hC [(4, .int (nI (hh + 1))), (5, .int (nI (sumN (votesT g.1 x.toInt hh) (g.1.1 7 0)))), (0, .ref (b + 0)), (1, .int x), (2, .int f), (3, .int (nI mo))] dX6_vote_50 5 rfl (by rw [show Int32.ofInt 1 = nI 1 from rfl, nI_add]) (by decide) rfl ?_
              refine g_goto hC 19 dX6_vote_53 rfl ?_
              exact g_sub [2, 3, 4, 5, 0] rfl (ih_3 f mo (hh + 1) (by omega) (⟨by omega, argm_f j2 (by omega), by omega⟩))
            · skip
              refine g_iload hC dX6_vote_44 0 rfl ?_
              refine g_istore_n hC [(3, .int (nI (sumN (votesT g.1 x.toInt hh) (g.1.1 7 0)))), (5, .int (nI (sumN (votesT g.1 x.toInt hh) (g.1.1 7 0)))), (0, .ref (b + 0)), (1, .int x), (2, .int f), (4, .int (nI hh))] dX6_vote_46 rfl (by decide) rfl ?_
              refine g_iload hC dX6_vote_47 5 rfl ?_
              refine g_istore_n hC [(2, .int (nI hh)), (3, .int (nI (sumN (votesT g.1 x.toInt hh) (g.1.1 7 0)))), (5, .int (nI (sumN (votesT g.1 x.toInt hh) (g.1.1 7 0)))), (0, .ref (b + 0)), (1, .int x), (4, .int (nI hh))] dX6_vote_49 rfl (by decide) rfl ?_
              refine g_iinc hC [(4, .int (nI (hh + 1))), (2, .int (nI hh)), (3, .int (nI (sumN (votesT g.1 x.toInt hh) (g.1.1 7 0)))), (5, .int (nI (sumN (votesT g.1 x.toInt hh) (g.1.1 7 0)))), (0, .ref (b + 0)), (1, .int x)] dX6_vote_50 5 rfl (by rw [show Int32.ofInt 1 = nI 1 from rfl, nI_add]) (by decide) rfl ?_
              refine g_goto hC 19 dX6_vote_53 rfl ?_
              exact g_sub [4, 5, 1, 2, 0] rfl (ih_3 (nI hh) (sumN (votesT g.1 x.toInt hh) (g.1.1 7 0)) (hh + 1) (by omega) (⟨by omega, argm_t j2 (by omega), by omega⟩))
      exact g_sub [3, 4, 2, 1, 0] rfl (lp_19_3 (24 - 0 + 1) (-4) 0 0 (Nat.lt_succ_self _) (⟨by omega, rfl, by omega⟩))
    · skip
      refine g_iconst (v := (-1)) hC dX6_vote_9 rfl ?_
      refine g_zret (ty := .int) hC rfl rfl dX6_vote_10 ⟨congrArg (fun z => some (Value.int z)) ?_, rfl, rfl⟩
      unfold op_vote; rw [if_neg (by omega)]

theorem c_X7_worthOf (l : Launch) (D : va_G) (cA : Nat → ClassId) (b : Nat) (M : Nat → Nat → Int32) (L : Nat → Nat → Int64) (g : Sg) (j : Nat) (hour : Nat) (kk : Nat) (hS : RS M L g) (hok : OK g) (hj : j < g.1.1 7 0) (hh : hour < 24) (hk : kk < 5) : fm_Met l D cA b yX7_worthOf cX7_worthOf 7 (some .int) 1 22 0 0 [.ref (b + 58), .int (nI j), .int (nI hour), .int (nI kk)] LAY M L LAY (fm_pi (nI (woN g.1 j hour kk)) M L) := by
  refine fm_start RX7 rfl (by decide) (Nat.le_of_ble_eq_true rfl) ?_
  intro pq eq sq mq aq bq tq cq hC hin
  obtain ⟨⟨n1, n2, n3, v0, v1, v2, v3, v4, v5, v6, v7, v8⟩, hS2⟩ := id hS
  obtain ⟨⟨o1, o2, o3, o4, o5, o6, o7, o8, o9, o10, o11⟩, hok2⟩ := id hok
  have oo := o1 j hj
  refine g_aload_n hC dX7_worthOf_0 rfl 0 rfl ?_
  refine g_getR (ci := 7) (i := 1) (k := 58) (t := 60) hC fm_in7 rfl ly_58 rfl (by decide) fw_621 dX7_worthOf_1 ?_
  refine g_iload_n hC dX7_worthOf_4 rfl 1 rfl ?_
  refine g_ialdN (j := j) (k := 60) hC ly_60 rfl (by omega) (by decide) dX7_worthOf_5 ?_
  refine g_top (y := nI (g.1.1 1 j)) ((n1 j (by omega)).2.1) ?_
  refine g_iload_n hC dX7_worthOf_6 rfl 2 rfl ?_
  refine g_callS hC (as := [.int (nI (g.1.1 1 j)), .int (nI hour)]) (rest := []) (c_X7_apart l D cA b M L (g.1.1 1 j) hour (by omega) hh) ⟨fw_758, fw_759, fw_9, fw_760⟩ hd_X7_apart ⟨Nat.le_of_ble_eq_true rfl, Nat.le_of_ble_eq_true rfl⟩ ⟨Nat.le_of_ble_eq_true rfl, Nat.le_of_ble_eq_true rfl⟩ rfl rfl (Nat.le_of_ble_eq_true rfl) dX7_worthOf_7 (g_rix ?_)
  have ap_1 := apN_le (show g.1.1 1 j < 24 by omega) hh
  refine g_istore hC [(4, .int (nI (apN (g.1.1 1 j) hour))), (0, .ref (b + 58)), (1, .int (nI j)), (2, .int (nI hour)), (3, .int (nI kk))] dX7_worthOf_10 (by decide) rfl ?_
  refine g_aload_n hC dX7_worthOf_12 rfl 1 rfl ?_
  refine g_getR (ci := 7) (i := 0) (k := 58) (t := 59) hC fm_in7 rfl ly_58 rfl (by decide) fw_620 dX7_worthOf_13 ?_
  refine g_iload_n hC dX7_worthOf_16 rfl 2 rfl ?_
  refine g_ialdN (j := j) (k := 59) hC ly_59 rfl (by omega) (by decide) dX7_worthOf_17 ?_
  refine g_top (y := nI (g.1.1 0 j)) ((n1 j (by omega)).1) ?_
  refine g_iconst (v := 2) hC dX7_worthOf_18 rfl ?_
  refine g_icmp_ge_T (X := ((g.1.1 0 j : Nat) : Int)) (Y := 2) hC (nI_toInt (by omega)) rfl 44 dX7_worthOf_19 rfl (fun c_2 => ?_) (fun c_2 => ?_)
  · skip
    refine g_aload_n hC dX7_worthOf_44 rfl 1 rfl ?_
    refine g_getR (ci := 7) (i := 2) (k := 58) (t := 61) hC fm_in7 rfl ly_58 rfl (by decide) fw_622 dX7_worthOf_45 ?_
    refine g_iload_n hC dX7_worthOf_48 rfl 2 rfl ?_
    refine g_ialdN (j := j) (k := 61) hC ly_61 rfl (by omega) (by decide) dX7_worthOf_49 ?_
    refine g_top (y := nI (g.1.1 2 j)) ((n1 j (by omega)).2.2.1) ?_
    refine g_iconst (v := 3) hC dX7_worthOf_50 rfl ?_
    refine g_iload hC dX7_worthOf_51 0 rfl ?_
    refine g_imul hC dX7_worthOf_53 ?_
    refine g_top (y := nI (3 * (apN (g.1.1 1 j) hour))) (pk_mul _ _) ?_
    refine g_icmp_le_T (X := ((g.1.1 2 j : Nat) : Int)) (Y := ((3 * (apN (g.1.1 1 j) hour) : Nat) : Int)) hC (nI_toInt (by omega)) (nI_toInt (by omega)) 71 dX7_worthOf_54 rfl (fun c_3 => ?_) (fun c_3 => ?_)
    · skip
      refine g_iconst (v := 0) hC dX7_worthOf_71 rfl ?_
      refine g_top (y := nI (g.1.1 2 j - 3 * apN (g.1.1 1 j) hour)) (by rw [show g.1.1 2 j - 3 * apN (g.1.1 1 j) hour = 0 by omega]; rfl) ?_
      refine g_istore hC [(5, .int (nI (g.1.1 2 j - 3 * apN (g.1.1 1 j) hour))), (4, .int (nI (apN (g.1.1 1 j) hour))), (0, .ref (b + 58)), (1, .int (nI j)), (2, .int (nI hour)), (3, .int (nI kk))] dX7_worthOf_72 (by decide) rfl ?_
      refine g_iconst (v := 0) hC dX7_worthOf_74 rfl ?_
      refine g_istore hC [(6, .int 0), (5, .int (nI (g.1.1 2 j - 3 * apN (g.1.1 1 j) hour))), (4, .int (nI (apN (g.1.1 1 j) hour))), (0, .ref (b + 58)), (1, .int (nI j)), (2, .int (nI hour)), (3, .int (nI kk))] dX7_worthOf_75 (by decide) rfl ?_
      have lp_77_4 : ∀ (n_4 : Nat) (vv : Nat) (i : Nat), kk - i < n_4 → (i ≤ kk ∧ vv = (g.1.1 2 j - 3 * apN (g.1.1 1 j) hour) / 2 ^ i ∧ (g.1.1 0 j = 3 ∨ i = 0) ∧ vv < 100) → fm_G pq l eq (fm_rm 1 22 0 0) sq mq aq bq tq cq D cA b 7 (MQ bq (fm_Q D cA b LAY (fm_pi (nI (woN g.1 j hour kk)) M L)) aq sq 0 0 (fun q => b ≤ q)) LAY M L 0 0 77 [(0, .ref (b + 58)), (1, .int (nI j)), (3, .int (nI kk)), (5, .int (nI vv)), (6, .int (nI i))] [] := by
        intro n_4
        induction n_4 with
        | zero => intro vv i hm_4; exact absurd hm_4 (Nat.not_lt_zero _)
        | succ n_4 ih_4 =>
          intro vv i hm_4 hinv_4
          obtain ⟨w1, w2, w3, w4⟩ := hinv_4
          refine g_iload hC dX7_worthOf_77 4 rfl ?_
          refine g_iload_n hC dX7_worthOf_79 rfl 2 rfl ?_
          refine g_icmp_ge_T (X := ((i : Nat) : Int)) (Y := ((kk : Nat) : Int)) hC (nI_toInt (by omega)) (nI_toInt (by omega)) 105 dX7_worthOf_80 rfl (fun c_5 => ?_) (fun c_5 => ?_)
          · skip
            refine g_iload hC dX7_worthOf_105 3 rfl ?_
            refine g_zret (ty := .int) hC rfl rfl dX7_worthOf_107 ⟨congrArg (fun z => some (Value.int z)) ?_, rfl, rfl⟩
            unfold woN wN
            rw [if_neg (by omega), if_neg (by omega)]
            by_cases q3 : g.1.1 0 j = 3
            · rw [if_neg (by omega), w2, show i = kk by omega]
            · rw [if_pos (by omega), w2, show i = 0 by omega]; simp
          · skip
            refine g_aload_n hC dX7_worthOf_83 rfl 0 rfl ?_
            refine g_getR (ci := 7) (i := 0) (k := 58) (t := 59) hC fm_in7 rfl ly_58 rfl (by decide) fw_620 dX7_worthOf_84 ?_
            refine g_iload_n hC dX7_worthOf_87 rfl 1 rfl ?_
            refine g_ialdN (j := j) (k := 59) hC ly_59 rfl (by omega) (by decide) dX7_worthOf_88 ?_
            refine g_top (y := nI (g.1.1 0 j)) ((n1 j (by omega)).1) ?_
            refine g_iconst (v := 3) hC dX7_worthOf_89 rfl ?_
            refine g_icmp_ne_T (X := ((g.1.1 0 j : Nat) : Int)) (Y := 3) hC (nI_toInt (by omega)) rfl 105 dX7_worthOf_90 rfl (fun c_6 => ?_) (fun c_6 => ?_)
            · skip
              refine g_iload hC dX7_worthOf_105 3 rfl ?_
              refine g_zret (ty := .int) hC rfl rfl dX7_worthOf_107 ⟨congrArg (fun z => some (Value.int z)) ?_, rfl, rfl⟩
              unfold woN wN
              rw [if_neg (by omega), if_neg (by omega)]
              by_cases q3 : g.1.1 0 j = 3
              · rw [if_neg (by omega), w2, show i = kk by omega]
              · rw [if_pos (by omega), w2, show i = 0 by omega]; simp
            · skip
              refine g_iload hC dX7_worthOf_93 3 rfl ?_
              refine g_iconst (v := 2) hC dX7_worthOf_95 rfl ?_
              refine g_idiv hC dX7_worthOf_96 (by decide) ?_
              refine g_top (y := nI (vv / 2)) (ap_9 vv (by omega)) ?_
              refine g_istore hC [(5, .int (nI (vv / 2))), (0, .ref (b + 58)), (1, .int (nI j)), (3, .int (nI kk)), (6, .int (nI i))] dX7_worthOf_97 (by decide) rfl ?_
              refine g_iinc hC [(6, .int (nI (i + 1))), (5, .int (nI (vv / 2))), (0, .ref (b + 58)), (1, .int (nI j)), (3, .int (nI kk))] dX7_worthOf_99 4 rfl (by rw [show Int32.ofInt 1 = nI 1 from rfl, nI_add]) (by decide) rfl ?_
              refine g_goto hC 77 dX7_worthOf_102 rfl ?_
              exact g_sub [2, 3, 4, 1, 0] rfl (ih_4 (vv / 2) (i + 1) (by omega) (⟨by omega, by rw [w2, Nat.div_div_eq_div_mul, ← Nat.pow_succ], Or.inl (by omega), by omega⟩))
      skip
      exact g_sub [3, 4, 6, 1, 0] rfl (lp_77_4 (kk - 0 + 1) (g.1.1 2 j - 3 * apN (g.1.1 1 j) hour) 0 (Nat.lt_succ_self _) (⟨by omega, by simp, Or.inr rfl, by omega⟩))
    · skip
      refine g_aload_n hC dX7_worthOf_57 rfl 1 rfl ?_
      refine g_getR (ci := 7) (i := 2) (k := 58) (t := 61) hC fm_in7 rfl ly_58 rfl (by decide) fw_622 dX7_worthOf_58 ?_
      refine g_iload_n hC dX7_worthOf_61 rfl 2 rfl ?_
      refine g_ialdN (j := j) (k := 61) hC ly_61 rfl (by omega) (by decide) dX7_worthOf_62 ?_
      refine g_top (y := nI (g.1.1 2 j)) ((n1 j (by omega)).2.2.1) ?_
      refine g_iconst (v := 3) hC dX7_worthOf_63 rfl ?_
      refine g_iload hC dX7_worthOf_64 0 rfl ?_
      refine g_imul hC dX7_worthOf_66 ?_
      refine g_top (y := nI (3 * (apN (g.1.1 1 j) hour))) (pk_mul _ _) ?_
      refine g_isub hC dX7_worthOf_67 ?_
      refine g_top (y := nI (g.1.1 2 j - 3 * apN (g.1.1 1 j) hour)) (pk_sub (by omega)) ?_
      refine g_goto hC 72 dX7_worthOf_68 rfl ?_
      refine g_istore hC [(5, .int (nI (g.1.1 2 j - 3 * apN (g.1.1 1 j) hour))), (4, .int (nI (apN (g.1.1 1 j) hour))), (0, .ref (b + 58)), (1, .int (nI j)), (2, .int (nI hour)), (3, .int (nI kk))] dX7_worthOf_72 (by decide) rfl ?_
      refine g_iconst (v := 0) hC dX7_worthOf_74 rfl ?_
      refine g_istore hC [(6, .int 0), (5, .int (nI (g.1.1 2 j - 3 * apN (g.1.1 1 j) hour))), (4, .int (nI (apN (g.1.1 1 j) hour))), (0, .ref (b + 58)), (1, .int (nI j)), (2, .int (nI hour)), (3, .int (nI kk))] dX7_worthOf_75 (by decide) rfl ?_
      have lp_77_7 : ∀ (n_7 : Nat) (vv : Nat) (i : Nat), kk - i < n_7 → (i ≤ kk ∧ vv = (g.1.1 2 j - 3 * apN (g.1.1 1 j) hour) / 2 ^ i ∧ (g.1.1 0 j = 3 ∨ i = 0) ∧ vv < 100) → fm_G pq l eq (fm_rm 1 22 0 0) sq mq aq bq tq cq D cA b 7 (MQ bq (fm_Q D cA b LAY (fm_pi (nI (woN g.1 j hour kk)) M L)) aq sq 0 0 (fun q => b ≤ q)) LAY M L 0 0 77 [(0, .ref (b + 58)), (1, .int (nI j)), (3, .int (nI kk)), (5, .int (nI vv)), (6, .int (nI i))] [] := by
        intro n_7
        induction n_7 with
        | zero => intro vv i hm_7; exact absurd hm_7 (Nat.not_lt_zero _)
        | succ n_7 ih_7 =>
          intro vv i hm_7 hinv_7
          obtain ⟨w1, w2, w3, w4⟩ := hinv_7
          refine g_iload hC dX7_worthOf_77 4 rfl ?_
          refine g_iload_n hC dX7_worthOf_79 rfl 2 rfl ?_
          refine g_icmp_ge_T (X := ((i : Nat) : Int)) (Y := ((kk : Nat) : Int)) hC (nI_toInt (by omega)) (nI_toInt (by omega)) 105 dX7_worthOf_80 rfl (fun c_8 => ?_) (fun c_8 => ?_)
          · skip
            refine g_iload hC dX7_worthOf_105 3 rfl ?_
            refine g_zret (ty := .int) hC rfl rfl dX7_worthOf_107 ⟨congrArg (fun z => some (Value.int z)) ?_, rfl, rfl⟩
            unfold woN wN
            rw [if_neg (by omega), if_neg (by omega)]
            by_cases q3 : g.1.1 0 j = 3
            · rw [if_neg (by omega), w2, show i = kk by omega]
            · rw [if_pos (by omega), w2, show i = 0 by omega]; simp
          · skip
            refine g_aload_n hC dX7_worthOf_83 rfl 0 rfl ?_
            refine g_getR (ci := 7) (i := 0) (k := 58) (t := 59) hC fm_in7 rfl ly_58 rfl (by decide) fw_620 dX7_worthOf_84 ?_
            refine g_iload_n hC dX7_worthOf_87 rfl 1 rfl ?_
            refine g_ialdN (j := j) (k := 59) hC ly_59 rfl (by omega) (by decide) dX7_worthOf_88 ?_
            refine g_top (y := nI (g.1.1 0 j)) ((n1 j (by omega)).1) ?_
            refine g_iconst (v := 3) hC dX7_worthOf_89 rfl ?_
            refine g_icmp_ne_T (X := ((g.1.1 0 j : Nat) : Int)) (Y := 3) hC (nI_toInt (by omega)) rfl 105 dX7_worthOf_90 rfl (fun c_9 => ?_) (fun c_9 => ?_)
            · skip
              refine g_iload hC dX7_worthOf_105 3 rfl ?_
              refine g_zret (ty := .int) hC rfl rfl dX7_worthOf_107 ⟨congrArg (fun z => some (Value.int z)) ?_, rfl, rfl⟩
              unfold woN wN
              rw [if_neg (by omega), if_neg (by omega)]
              by_cases q3 : g.1.1 0 j = 3
              · rw [if_neg (by omega), w2, show i = kk by omega]
              · rw [if_pos (by omega), w2, show i = 0 by omega]; simp
            · skip
              refine g_iload hC dX7_worthOf_93 3 rfl ?_
              refine g_iconst (v := 2) hC dX7_worthOf_95 rfl ?_
              refine g_idiv hC dX7_worthOf_96 (by decide) ?_
              refine g_top (y := nI (vv / 2)) (ap_9 vv (by omega)) ?_
              refine g_istore hC [(5, .int (nI (vv / 2))), (0, .ref (b + 58)), (1, .int (nI j)), (3, .int (nI kk)), (6, .int (nI i))] dX7_worthOf_97 (by decide) rfl ?_
              refine g_iinc hC [(6, .int (nI (i + 1))), (5, .int (nI (vv / 2))), (0, .ref (b + 58)), (1, .int (nI j)), (3, .int (nI kk))] dX7_worthOf_99 4 rfl (by rw [show Int32.ofInt 1 = nI 1 from rfl, nI_add]) (by decide) rfl ?_
              refine g_goto hC 77 dX7_worthOf_102 rfl ?_
              exact g_sub [2, 3, 4, 1, 0] rfl (ih_7 (vv / 2) (i + 1) (by omega) (⟨by omega, by rw [w2, Nat.div_div_eq_div_mul, ← Nat.pow_succ], Or.inl (by omega), by omega⟩))
      skip
      exact g_sub [3, 4, 6, 1, 0] rfl (lp_77_7 (kk - 0 + 1) (g.1.1 2 j - 3 * apN (g.1.1 1 j) hour) 0 (Nat.lt_succ_self _) (⟨by omega, by simp, Or.inr rfl, by omega⟩))
  · skip
    refine g_iload hC dX7_worthOf_22 0 rfl ?_
    refine g_aload_n hC dX7_worthOf_24 rfl 1 rfl ?_
    refine g_getR (ci := 7) (i := 0) (k := 58) (t := 59) hC fm_in7 rfl ly_58 rfl (by decide) fw_620 dX7_worthOf_25 ?_
    refine g_iload_n hC dX7_worthOf_28 rfl 2 rfl ?_
    refine g_ialdN (j := j) (k := 59) hC ly_59 rfl (by omega) (by decide) dX7_worthOf_29 ?_
    refine g_top (y := nI (g.1.1 0 j)) ((n1 j (by omega)).1) ?_
    refine g_icmp_gt_T (X := ((apN (g.1.1 1 j) hour : Nat) : Int)) (Y := ((g.1.1 0 j : Nat) : Int)) hC (nI_toInt (by omega)) (nI_toInt (by omega)) 42 dX7_worthOf_30 rfl (fun c_10 => ?_) (fun c_10 => ?_)
    · skip
      refine g_iconst (v := 0) hC dX7_worthOf_42 rfl ?_
      refine g_zret (ty := .int) hC rfl rfl dX7_worthOf_43 ⟨congrArg (fun z => some (Value.int z)) ?_, rfl, rfl⟩
      show nI 0 = _
      exact congrArg nI (by unfold woN wN; (repeat' split) <;> omega)
    · skip
      refine g_aload_n hC dX7_worthOf_33 rfl 1 rfl ?_
      refine g_getR (ci := 7) (i := 2) (k := 58) (t := 61) hC fm_in7 rfl ly_58 rfl (by decide) fw_622 dX7_worthOf_34 ?_
      refine g_iload_n hC dX7_worthOf_37 rfl 2 rfl ?_
      refine g_ialdN (j := j) (k := 61) hC ly_61 rfl (by omega) (by decide) dX7_worthOf_38 ?_
      refine g_top (y := nI (g.1.1 2 j)) ((n1 j (by omega)).2.2.1) ?_
      refine g_goto hC 43 dX7_worthOf_39 rfl ?_
      refine g_zret (ty := .int) hC rfl rfl dX7_worthOf_43 ⟨congrArg (fun z => some (Value.int z)) ?_, rfl, rfl⟩
      exact congrArg nI (by unfold woN wN; (repeat' split) <;> omega)

theorem c_X7_worth (l : Launch) (D : va_G) (cA : Nat → ClassId) (b : Nat) (M : Nat → Nat → Int32) (L : Nat → Nat → Int64) (g : Sg) (x : Int32) (h : Int32) (k : Int32) (hS : RS M L g) (hok : OK g) : fm_Met l D cA b yX7_worth cX7_worth 4 (some .int) 2 48 0 0 [.ref (b + 58), .int x, .int h, .int k] LAY M L LAY (fm_pi (op_worth g x h k) M L) := by
  refine fm_start RX7 rfl (by decide) (Nat.le_of_ble_eq_true rfl) ?_
  intro pq eq sq mq aq bq tq cq hC hin
  obtain ⟨⟨n1, n2, n3, v0, v1, v2, v3, v4, v5, v6, v7, v8⟩, hS2⟩ := id hS
  obtain ⟨⟨o1, o2, o3, o4, o5, o6, o7, o8, o9, o10, o11⟩, hok2⟩ := id hok
  refine g_aload_n hC dX7_worth_0 rfl 0 rfl ?_
  refine g_iload_n hC dX7_worth_1 rfl 1 rfl ?_
  refine g_callV hC (k := 58) (ci := 7) (as := [.int x]) (rest := []) (c_X7_isOne l D cA b M L g x x.toInt hS hok rfl) ⟨fw_741, fw_743, fs_16, fw_9, fw_744⟩ ⟨rfl, hd_X7_isOne⟩ rfl ly_58 ⟨Nat.le_of_ble_eq_true rfl, Nat.le_of_ble_eq_true rfl⟩ ⟨Nat.le_of_ble_eq_true rfl, Nat.le_of_ble_eq_true rfl⟩ rfl rfl (Nat.le_of_ble_eq_true rfl) dX7_worth_2 (g_rix ?_)
  refine g_ifb_eq hC 37 dX7_worth_5 rfl (fun c_2 => ?_) (fun c_2 => ?_)
  · skip
    refine g_iconst (v := (-1)) hC dX7_worth_37 rfl ?_
    refine g_zret (ty := .int) hC rfl rfl dX7_worth_38 ⟨congrArg (fun z => some (Value.int z)) ?_, rfl, rfl⟩
    unfold op_worth; rw [if_neg (by omega)]
  · skip
    refine g_iload_n hC dX7_worth_8 rfl 2 rfl ?_
    refine g_callS hC (as := [.int h]) (rest := []) (c_X7_isHour l D cA b LAY M L h h.toInt rfl) ⟨fw_728, fw_729, fw_9, fw_730⟩ hd_X7_isHour ⟨Nat.le_of_ble_eq_true rfl, Nat.le_of_ble_eq_true rfl⟩ ⟨Nat.le_of_ble_eq_true rfl, Nat.le_of_ble_eq_true rfl⟩ rfl rfl (Nat.le_of_ble_eq_true rfl) dX7_worth_9 (g_rix ?_)
    refine g_ifb_eq hC 37 dX7_worth_12 rfl (fun c_4 => ?_) (fun c_4 => ?_)
    · skip
      refine g_iconst (v := (-1)) hC dX7_worth_37 rfl ?_
      refine g_zret (ty := .int) hC rfl rfl dX7_worth_38 ⟨congrArg (fun z => some (Value.int z)) ?_, rfl, rfl⟩
      unfold op_worth; rw [if_neg (by omega)]
    · skip
      refine g_iload_n hC dX7_worth_15 rfl 3 rfl ?_
      refine g_i2l (v := k.toInt64) hC dX7_worth_16 rfl ?_
      refine g_lconst (v := 0) hC dX7_worth_17 rfl ?_
      refine g_ldc2 (v := 4) hC fw_753 dX7_worth_18 ?_
      refine g_callS hC (as := [.long k.toInt64, .long 0, .long 4]) (rest := []) (c_X7_in l D cA b LAY M L k.toInt64 0 4 k.toInt 0 4 ((ic_w _).trans rfl) rfl rfl) ⟨fw_725, fw_726, fw_9, fw_727⟩ hd_X7_in ⟨Nat.le_of_ble_eq_true rfl, Nat.le_of_ble_eq_true rfl⟩ ⟨Nat.le_of_ble_eq_true rfl, Nat.le_of_ble_eq_true rfl⟩ rfl rfl (Nat.le_of_ble_eq_true rfl) dX7_worth_21 (g_rix ?_)
      refine g_ifb_eq hC 37 dX7_worth_24 rfl (fun c_6 => ?_) (fun c_6 => ?_)
      · skip
        refine g_iconst (v := (-1)) hC dX7_worth_37 rfl ?_
        refine g_zret (ty := .int) hC rfl rfl dX7_worth_38 ⟨congrArg (fun z => some (Value.int z)) ?_, rfl, rfl⟩
        unfold op_worth; rw [if_neg (by omega)]
      · skip
        refine g_aload_n hC dX7_worth_27 rfl 0 rfl ?_
        refine g_iload_n hC dX7_worth_28 rfl 1 rfl ?_
        refine g_iload_n hC dX7_worth_29 rfl 2 rfl ?_
        refine g_iload_n hC dX7_worth_30 rfl 3 rfl ?_
        have ex : x = nI x.toInt.toNat := ic_nI (by omega)
        have eh : h = nI h.toInt.toNat := ic_nI (by omega)
        have ek : k = nI k.toInt.toNat := ic_nI (by omega)
        refine g_top ek ?_
        refine g_top2 eh ?_
        refine g_top3 ex ?_
        refine g_callV hC (k := 58) (ci := 7) (as := [.int (nI x.toInt.toNat), .int (nI h.toInt.toNat), .int (nI k.toInt.toNat)]) (rest := []) (c_X7_worthOf l D cA b M L g x.toInt.toNat h.toInt.toNat k.toInt.toNat hS hok (by omega) (by omega) (by omega)) ⟨fw_754, fw_756, fs_17, fw_9, fw_757⟩ ⟨rfl, hd_X7_worthOf⟩ rfl ly_58 ⟨Nat.le_of_ble_eq_true rfl, Nat.le_of_ble_eq_true rfl⟩ ⟨Nat.le_of_ble_eq_true rfl, Nat.le_of_ble_eq_true rfl⟩ rfl rfl (Nat.le_of_ble_eq_true rfl) dX7_worth_31 (g_rix ?_)
        have wb_7 := woN_le (t := g.1) (j := x.toInt.toNat) (hour := h.toInt.toNat) (k := k.toInt.toNat)
        refine g_goto hC 38 dX7_worth_34 rfl ?_
        refine g_zret (ty := .int) hC rfl rfl dX7_worth_38 ⟨congrArg (fun z => some (Value.int z)) ?_, rfl, rfl⟩
        unfold op_worth; rw [if_pos (by omega)]

theorem c_X7_choiceOf (l : Launch) (D : va_G) (cA : Nat → ClassId) (b : Nat) (M : Nat → Nat → Int32) (L : Nat → Nat → Int64) (g : Sg) (j : Nat) (hS : RS M L g) (hok : OK g) (hj : j < g.1.1 7 0) : fm_Met l D cA b yX7_choiceOf cX7_choiceOf 6 (some .int) 2 48 0 0 [.ref (b + 58), .int (nI j)] LAY M L LAY (fm_pi (chN g.1 j) M L) := by
  refine fm_start RX7 rfl (by decide) (Nat.le_of_ble_eq_true rfl) ?_
  intro pq eq sq mq aq bq tq cq hC hin
  obtain ⟨⟨n1, n2, n3, v0, v1, v2, v3, v4, v5, v6, v7, v8⟩, hS2⟩ := id hS
  obtain ⟨⟨o1, o2, o3, o4, o5, o6, o7, o8, o9, o10, o11⟩, hok2⟩ := id hok
  have oo := o1 j hj
  refine g_bipush (v := (-4)) hC dX7_choiceOf_0 rfl ?_
  refine g_istore_n hC [(2, .int (-4)), (0, .ref (b + 58)), (1, .int (nI j))] dX7_choiceOf_2 rfl (by decide) rfl ?_
  refine g_iconst (v := 0) hC dX7_choiceOf_3 rfl ?_
  refine g_istore_n hC [(3, .int 0), (2, .int (-4)), (0, .ref (b + 58)), (1, .int (nI j))] dX7_choiceOf_4 rfl (by decide) rfl ?_
  refine g_iconst (v := 0) hC dX7_choiceOf_5 rfl ?_
  refine g_istore hC [(4, .int 0), (3, .int 0), (2, .int (-4)), (0, .ref (b + 58)), (1, .int (nI j))] dX7_choiceOf_6 (by decide) rfl ?_
  have lp_8_1 : ∀ (n_1 : Nat) (f : Int32) (mo : Nat) (i : Nat), 24 - i < n_1 → (i ≤ 24 ∧ argm (fun hh => wN (g.1.1 0 j) (g.1.1 1 j) (g.1.1 2 j) hh 0) i = (f, mo) ∧ mo < 100 ∧ (g.1.1 3 j = 1 ∨ i = 0)) → fm_G pq l eq (fm_rm 2 48 0 0) sq mq aq bq tq cq D cA b 6 (MQ bq (fm_Q D cA b LAY (fm_pi (chN g.1 j) M L)) aq sq 0 0 (fun q => b ≤ q)) LAY M L 0 0 8 [(0, .ref (b + 58)), (1, .int (nI j)), (2, .int f), (3, .int (nI mo)), (4, .int (nI i))] [] := by
    intro n_1
    induction n_1 with
    | zero => intro f mo i hm_1; exact absurd hm_1 (Nat.not_lt_zero _)
    | succ n_1 ih_1 =>
      intro f mo i hm_1 hinv_1
      obtain ⟨i1, i2, i3, i4⟩ := hinv_1
      refine g_iload hC dX7_choiceOf_8 4 rfl ?_
      refine g_bipush (v := 24) hC dX7_choiceOf_10 rfl ?_
      refine g_icmp_ge_T (X := ((i : Nat) : Int)) (Y := 24) hC (nI_toInt (by omega)) rfl 67 dX7_choiceOf_12 rfl (fun c_2 => ?_) (fun c_2 => ?_)
      · skip
        refine g_iload_n hC dX7_choiceOf_67 rfl 2 rfl ?_
        refine g_zret (ty := .int) hC rfl rfl dX7_choiceOf_68 ⟨congrArg (fun z => some (Value.int z)) ?_, rfl, rfl⟩
        unfold chN favN
        have e24 : i = 24 ∨ ¬ g.1.1 3 j = 1 := by omega
        rcases e24 with q | q
        · have m1 : g.1.1 3 j = 1 := by omega
          rw [if_pos m1, ← q, i2]
        · have i0 : i = 0 := by omega
          subst i0
          rw [if_neg q]
          exact (congrArg Prod.fst i2).symm
      · skip
        refine g_aload_n hC dX7_choiceOf_15 rfl 0 rfl ?_
        refine g_getR (ci := 7) (i := 3) (k := 58) (t := 62) hC fm_in7 rfl ly_58 rfl (by decide) fw_623 dX7_choiceOf_16 ?_
        refine g_iload_n hC dX7_choiceOf_19 rfl 1 rfl ?_
        refine g_ialdN (j := j) (k := 62) hC ly_62 rfl (by omega) (by decide) dX7_choiceOf_20 ?_
        refine g_top (y := nI (g.1.1 3 j)) ((n1 j (by omega)).2.2.2) ?_
        refine g_iconst (v := 1) hC dX7_choiceOf_21 rfl ?_
        refine g_icmp_ne_T (X := ((g.1.1 3 j : Nat) : Int)) (Y := 1) hC (nI_toInt (by omega)) rfl 67 dX7_choiceOf_22 rfl (fun c_3 => ?_) (fun c_3 => ?_)
        · skip
          refine g_iload_n hC dX7_choiceOf_67 rfl 2 rfl ?_
          refine g_zret (ty := .int) hC rfl rfl dX7_choiceOf_68 ⟨congrArg (fun z => some (Value.int z)) ?_, rfl, rfl⟩
          unfold chN favN
          have e24 : i = 24 ∨ ¬ g.1.1 3 j = 1 := by omega
          rcases e24 with q | q
          · have m1 : g.1.1 3 j = 1 := by omega
            rw [if_pos m1, ← q, i2]
          · have i0 : i = 0 := by omega
            subst i0
            rw [if_neg q]
            exact (congrArg Prod.fst i2).symm
        · skip
          refine g_aload_n hC dX7_choiceOf_25 rfl 0 rfl ?_
          refine g_iload_n hC dX7_choiceOf_26 rfl 1 rfl ?_
          refine g_iload hC dX7_choiceOf_27 4 rfl ?_
          refine g_iconst (v := 0) hC dX7_choiceOf_29 rfl ?_
          refine g_callV hC (k := 58) (ci := 7) (as := [.int (nI j), .int (nI i), .int 0]) (rest := []) (c_X7_worthOf l D cA b M L g j i 0 hS hok hj (by omega) (by omega)) ⟨fw_754, fw_756, fs_17, fw_9, fw_757⟩ ⟨rfl, hd_X7_worthOf⟩ rfl ly_58 ⟨Nat.le_of_ble_eq_true rfl, Nat.le_of_ble_eq_true rfl⟩ ⟨Nat.le_of_ble_eq_true rfl, Nat.le_of_ble_eq_true rfl⟩ rfl rfl (Nat.le_of_ble_eq_true rfl) dX7_choiceOf_30 (g_rix ?_)
          have wb_4 := woN_le (t := g.1) (j := j) (hour := i) (k := 0)
          refine g_istore hC [(5, .int (nI (woN g.1 j i 0))), (0, .ref (b + 58)), (1, .int (nI j)), (2, .int f), (3, .int (nI mo)), (4, .int (nI i))] dX7_choiceOf_33 (by decide) rfl ?_
          refine g_iload hC dX7_choiceOf_35 0 rfl ?_
          refine g_iload_n hC dX7_choiceOf_37 rfl 4 rfl ?_
          refine g_icmp_le_T (X := ((woN g.1 j i 0 : Nat) : Int)) (Y := ((mo : Nat) : Int)) hC (nI_toInt (by omega)) (nI_toInt (by omega)) 46 dX7_choiceOf_38 rfl (fun c_5 => ?_) (fun c_5 => ?_)
          · skip
            refine g_iload_n hC dX7_choiceOf_46 rfl 3 rfl ?_
            refine g_istore_n hC [(2, .int f), (5, .int (nI (woN g.1 j i 0))), (0, .ref (b + 58)), (1, .int (nI j)), (3, .int (nI mo)), (4, .int (nI i))] dX7_choiceOf_47 rfl (by decide) rfl ?_
            refine g_iload hC dX7_choiceOf_48 1 rfl ?_
            refine g_iload_n hC dX7_choiceOf_50 rfl 4 rfl ?_
            refine g_icmp_le_T (X := ((woN g.1 j i 0 : Nat) : Int)) (Y := ((mo : Nat) : Int)) hC (nI_toInt (by omega)) (nI_toInt (by omega)) 59 dX7_choiceOf_51 rfl (fun _ => ?_) (fun c_6 => absurd c_6 (by omega))
            refine g_iload_n hC dX7_choiceOf_59 rfl 4 rfl ?_
            refine g_istore_n hC [(3, .int (nI mo)), (2, .int f), (5, .int (nI (woN g.1 j i 0))), (0, .ref (b + 58)), (1, .int (nI j)), (4, .int (nI i))] dX7_choiceOf_60 rfl (by decide) rfl ?_
            refine g_iinc hC [(4, .int (nI (i + 1))), (3, .int (nI mo)), (2, .int f), (5, .int (nI (woN g.1 j i 0))), (0, .ref (b + 58)), (1, .int (nI j))] dX7_choiceOf_61 5 rfl (by rw [show Int32.ofInt 1 = nI 1 from rfl, nI_add]) (by decide) rfl ?_
            refine g_goto hC 8 dX7_choiceOf_64 rfl ?_
            exact g_sub [4, 5, 2, 1, 0] rfl (ih_1 f mo (i + 1) (by omega) (⟨by omega, argm_f i2 (show ¬ _ < woN g.1 j i 0 by omega), by omega, by omega⟩))
          · skip
            refine g_iload hC dX7_choiceOf_41 5 rfl ?_
            refine g_goto hC 47 dX7_choiceOf_43 rfl ?_
            refine g_istore_n hC [(2, .int (nI i)), (5, .int (nI (woN g.1 j i 0))), (0, .ref (b + 58)), (1, .int (nI j)), (3, .int (nI mo)), (4, .int (nI i))] dX7_choiceOf_47 rfl (by decide) rfl ?_
            refine g_iload hC dX7_choiceOf_48 1 rfl ?_
            refine g_iload_n hC dX7_choiceOf_50 rfl 4 rfl ?_
            refine g_icmp_le_T (X := ((woN g.1 j i 0 : Nat) : Int)) (Y := ((mo : Nat) : Int)) hC (nI_toInt (by omega)) (nI_toInt (by omega)) 59 dX7_choiceOf_51 rfl (fun c_7 => absurd c_7 (by omega)) (fun _ => ?_)
            refine g_iload hC dX7_choiceOf_54 1 rfl ?_
            refine g_goto hC 60 dX7_choiceOf_56 rfl ?_
            refine g_istore_n hC [(3, .int (nI (woN g.1 j i 0))), (2, .int (nI i)), (5, .int (nI (woN g.1 j i 0))), (0, .ref (b + 58)), (1, .int (nI j)), (4, .int (nI i))] dX7_choiceOf_60 rfl (by decide) rfl ?_
            refine g_iinc hC [(4, .int (nI (i + 1))), (3, .int (nI (woN g.1 j i 0))), (2, .int (nI i)), (5, .int (nI (woN g.1 j i 0))), (0, .ref (b + 58)), (1, .int (nI j))] dX7_choiceOf_61 5 rfl (by rw [show Int32.ofInt 1 = nI 1 from rfl, nI_add]) (by decide) rfl ?_
            refine g_goto hC 8 dX7_choiceOf_64 rfl ?_
            exact g_sub [4, 5, 2, 1, 0] rfl (ih_1 (nI i) (woN g.1 j i 0) (i + 1) (by omega) (⟨by omega, argm_t i2 (show _ < woN g.1 j i 0 by omega), by omega, by omega⟩))
  exact g_sub [3, 4, 2, 1, 0] rfl (lp_8_1 (24 - 0 + 1) (-4) 0 0 (Nat.lt_succ_self _) (⟨by omega, rfl, by omega, Or.inr rfl⟩))

theorem c_X7_choice (l : Launch) (D : va_G) (cA : Nat → ClassId) (b : Nat) (M : Nat → Nat → Int32) (L : Nat → Nat → Int64) (g : Sg) (x : Int32) (hS : RS M L g) (hok : OK g) : fm_Met l D cA b yX7_choice cX7_choice 2 (some .int) 3 73 0 0 [.ref (b + 58), .int x] LAY M L LAY (fm_pi (op_choice g x) M L) := by
  refine fm_start RX7 rfl (by decide) (Nat.le_of_ble_eq_true rfl) ?_
  intro pq eq sq mq aq bq tq cq hC hin
  obtain ⟨⟨n1, n2, n3, v0, v1, v2, v3, v4, v5, v6, v7, v8⟩, hS2⟩ := id hS
  obtain ⟨⟨o1, o2, o3, o4, o5, o6, o7, o8, o9, o10, o11⟩, hok2⟩ := id hok
  refine g_aload_n hC dX7_choice_0 rfl 0 rfl ?_
  refine g_iload_n hC dX7_choice_1 rfl 1 rfl ?_
  refine g_callV hC (k := 58) (ci := 7) (as := [.int x]) (rest := []) (c_X7_isOne l D cA b M L g x x.toInt hS hok rfl) ⟨fw_741, fw_743, fs_16, fw_9, fw_744⟩ ⟨rfl, hd_X7_isOne⟩ rfl ly_58 ⟨Nat.le_of_ble_eq_true rfl, Nat.le_of_ble_eq_true rfl⟩ ⟨Nat.le_of_ble_eq_true rfl, Nat.le_of_ble_eq_true rfl⟩ rfl rfl (Nat.le_of_ble_eq_true rfl) dX7_choice_2 (g_rix ?_)
  refine g_ifb_eq hC 16 dX7_choice_5 rfl (fun c_2 => ?_) (fun c_2 => ?_)
  · skip
    refine g_iconst (v := (-1)) hC dX7_choice_16 rfl ?_
    refine g_zret (ty := .int) hC rfl rfl dX7_choice_17 ⟨congrArg (fun z => some (Value.int z)) ?_, rfl, rfl⟩
    unfold op_choice; rw [if_neg (by omega)]
  · skip
    refine g_aload_n hC dX7_choice_8 rfl 0 rfl ?_
    refine g_iload_n hC dX7_choice_9 rfl 1 rfl ?_
    refine g_top (y := nI x.toInt.toNat) (ic_nI (by omega)) ?_
    refine g_callV hC (k := 58) (ci := 7) (as := [.int (nI x.toInt.toNat)]) (rest := []) (c_X7_choiceOf l D cA b M L g x.toInt.toNat hS hok (by omega)) ⟨fw_914, fw_916, fs_32, fw_9, fw_917⟩ ⟨rfl, hd_X7_choiceOf⟩ rfl ly_58 ⟨Nat.le_of_ble_eq_true rfl, Nat.le_of_ble_eq_true rfl⟩ ⟨Nat.le_of_ble_eq_true rfl, Nat.le_of_ble_eq_true rfl⟩ rfl rfl (Nat.le_of_ble_eq_true rfl) dX7_choice_10 (g_rix ?_)
    refine g_goto hC 17 dX7_choice_13 rfl ?_
    refine g_zret (ty := .int) hC rfl rfl dX7_choice_17 ⟨congrArg (fun z => some (Value.int z)) ?_, rfl, rfl⟩
    unfold op_choice; rw [if_pos (by omega)]

theorem c_X7_vote (l : Launch) (D : va_G) (cA : Nat → ClassId) (b : Nat) (M : Nat → Nat → Int32) (L : Nat → Nat → Int64) (g : Sg) (x : Int32) (hS : RS M L g) (hok : OK g) : fm_Met l D cA b yX7_vote cX7_vote 8 (some .int) 3 73 0 0 [.ref (b + 58), .int x] LAY M L LAY (fm_pi (op_vote g x) M L) := by
  refine fm_start RX7 rfl (by decide) (Nat.le_of_ble_eq_true rfl) ?_
  intro pq eq sq mq aq bq tq cq hC hin
  obtain ⟨⟨n1, n2, n3, v0, v1, v2, v3, v4, v5, v6, v7, v8⟩, hS2⟩ := id hS
  obtain ⟨⟨o1, o2, o3, o4, o5, o6, o7, o8, o9, o10, o11⟩, hok2⟩ := id hok
  refine g_iload_n hC dX7_vote_0 rfl 1 rfl ?_
  refine g_i2l (v := x.toInt64) hC dX7_vote_1 rfl ?_
  refine g_lconst (v := 0) hC dX7_vote_2 rfl ?_
  refine g_ldc2 (v := 2) hC fw_836 dX7_vote_3 ?_
  refine g_callS hC (as := [.long x.toInt64, .long 0, .long 2]) (rest := []) (c_X7_in l D cA b LAY M L x.toInt64 0 2 x.toInt 0 2 ((ic_w _).trans rfl) rfl rfl) ⟨fw_725, fw_726, fw_9, fw_727⟩ hd_X7_in ⟨Nat.le_of_ble_eq_true rfl, Nat.le_of_ble_eq_true rfl⟩ ⟨Nat.le_of_ble_eq_true rfl, Nat.le_of_ble_eq_true rfl⟩ rfl rfl (Nat.le_of_ble_eq_true rfl) dX7_vote_6 (g_rix ?_)
  refine g_ifb_ne hC 14 dX7_vote_9 rfl (fun c_2 => ?_) (fun c_2 => ?_)
  · skip
    refine g_bipush (v := (-4)) hC dX7_vote_14 rfl ?_
    refine g_istore_n hC [(2, .int (-4)), (0, .ref (b + 58)), (1, .int x)] dX7_vote_16 rfl (by decide) rfl ?_
    refine g_iconst (v := 0) hC dX7_vote_17 rfl ?_
    refine g_istore_n hC [(3, .int 0), (2, .int (-4)), (0, .ref (b + 58)), (1, .int x)] dX7_vote_18 rfl (by decide) rfl ?_
    refine g_iconst (v := 0) hC dX7_vote_19 rfl ?_
    refine g_istore hC [(4, .int 0), (3, .int 0), (2, .int (-4)), (0, .ref (b + 58)), (1, .int x)] dX7_vote_20 (by decide) rfl ?_
    have lp_22_3 : ∀ (n_3 : Nat) (f : Int32) (mo : Nat) (hh : Nat), 24 - hh < n_3 → (hh ≤ 24 ∧ argm (fun h => sumN (votesT g.1 x.toInt h) (g.1.1 7 0)) hh = (f, mo) ∧ mo ≤ 792) → fm_G pq l eq (fm_rm 3 73 0 0) sq mq aq bq tq cq D cA b 8 (MQ bq (fm_Q D cA b LAY (fm_pi (op_vote g x) M L)) aq sq 0 0 (fun q => b ≤ q)) LAY M L 0 0 22 [(0, .ref (b + 58)), (1, .int x), (2, .int f), (3, .int (nI mo)), (4, .int (nI hh))] [] := by
      intro n_3
      induction n_3 with
      | zero => intro f mo hh hm_3; exact absurd hm_3 (Nat.not_lt_zero _)
      | succ n_3 ih_3 =>
        intro f mo hh hm_3 hinv_3
        obtain ⟨j1, j2, j3⟩ := hinv_3
        refine g_iload hC dX7_vote_22 4 rfl ?_
        refine g_bipush (v := 24) hC dX7_vote_24 rfl ?_
        refine g_icmp_ge_T (X := ((hh : Nat) : Int)) (Y := 24) hC (nI_toInt (by omega)) rfl 161 dX7_vote_26 rfl (fun c_4 => ?_) (fun c_4 => ?_)
        · skip
          refine g_iload_n hC dX7_vote_161 rfl 2 rfl ?_
          refine g_zret (ty := .int) hC rfl rfl dX7_vote_162 ⟨congrArg (fun z => some (Value.int z)) ?_, rfl, rfl⟩
          have e24 : hh = 24 := by omega
          subst e24
          unfold op_vote; rw [if_pos (by omega), j2]
        · skip
          refine g_iconst (v := 0) hC dX7_vote_29 rfl ?_
          refine g_istore hC [(5, .int 0), (0, .ref (b + 58)), (1, .int x), (2, .int f), (3, .int (nI mo)), (4, .int (nI hh))] dX7_vote_30 (by decide) rfl ?_
          refine g_iconst (v := 0) hC dX7_vote_32 rfl ?_
          refine g_istore hC [(6, .int 0), (5, .int 0), (0, .ref (b + 58)), (1, .int x), (2, .int f), (3, .int (nI mo)), (4, .int (nI hh))] dX7_vote_33 (by decide) rfl ?_
          have lp_35_5 : ∀ (n_5 : Nat) (acc : Nat) (i : Nat), g.1.1 7 0 - i < n_5 → (i ≤ g.1.1 7 0 ∧ acc = sumN (votesT g.1 x.toInt hh) i ∧ acc ≤ 99 * i) → fm_G pq l eq (fm_rm 3 73 0 0) sq mq aq bq tq cq D cA b 8 (MQ bq (fm_Q D cA b LAY (fm_pi (op_vote g x) M L)) aq sq 0 0 (fun q => b ≤ q)) LAY M L 0 0 35 [(0, .ref (b + 58)), (1, .int x), (2, .int f), (3, .int (nI mo)), (4, .int (nI hh)), (5, .int (nI acc)), (6, .int (nI i))] [] := by
            intro n_5
            induction n_5 with
            | zero => intro acc i hm_5; exact absurd hm_5 (Nat.not_lt_zero _)
            | succ n_5 ih_5 =>
              intro acc i hm_5 hinv_5
              obtain ⟨i1, i2, i3⟩ := hinv_5
              have oo := o1 i
              refine g_iload hC dX7_vote_35 6 rfl ?_
              refine g_aload_n hC dX7_vote_37 rfl 0 rfl ?_
              refine g_getI (ci := 7) (i := 4) (k := 58) hC fm_in7 rfl ly_58 rfl (by decide) fw_624 dX7_vote_38 ?_
              refine g_top (y := nI (g.1.1 7 0)) v0 ?_
              refine g_icmp_ge_T (X := ((i : Nat) : Int)) (Y := ((g.1.1 7 0 : Nat) : Int)) hC (nI_toInt (by omega)) (nI_toInt (by omega)) 129 dX7_vote_41 rfl (fun c_6 => ?_) (fun c_6 => ?_)
              · skip
                have ea : acc = sumN (votesT g.1 x.toInt hh) (g.1.1 7 0) := by rw [i2, show i = g.1.1 7 0 by omega]
                have vb := votes_le hok.1 (how := x.toInt) (h := hh)
                refine g_iload hC dX7_vote_129 5 rfl ?_
                refine g_iload_n hC dX7_vote_131 rfl 3 rfl ?_
                refine g_icmp_le_T (X := ((acc : Nat) : Int)) (Y := ((mo : Nat) : Int)) hC (nI_toInt (by omega)) (nI_toInt (by omega)) 140 dX7_vote_132 rfl (fun c_7 => ?_) (fun c_7 => ?_)
                · skip
                  refine g_iload_n hC dX7_vote_140 rfl 2 rfl ?_
                  refine g_istore_n hC [(2, .int f), (0, .ref (b + 58)), (1, .int x), (3, .int (nI mo)), (4, .int (nI hh)), (5, .int (nI acc)), (6, .int (nI i))] dX7_vote_141 rfl (by decide) rfl ?_
                  refine g_iload hC dX7_vote_142 5 rfl ?_
                  refine g_iload_n hC dX7_vote_144 rfl 3 rfl ?_
                  refine g_icmp_le_T (X := ((acc : Nat) : Int)) (Y := ((mo : Nat) : Int)) hC (nI_toInt (by omega)) (nI_toInt (by omega)) 153 dX7_vote_145 rfl (fun _ => ?_) (fun c_8 => absurd c_8 (by omega))
                  refine g_iload_n hC dX7_vote_153 rfl 3 rfl ?_
                  refine g_istore_n hC [(3, .int (nI mo)), (2, .int f), (0, .ref (b + 58)), (1, .int x), (4, .int (nI hh)), (5, .int (nI acc)), (6, .int (nI i))] dX7_vote_154 rfl (by decide) rfl ?_
                  refine g_iinc hC [(4, .int (nI (hh + 1))), (3, .int (nI mo)), (2, .int f), (0, .ref (b + 58)), (1, .int x), (5, .int (nI acc)), (6, .int (nI i))] dX7_vote_155 4 rfl (by rw [show Int32.ofInt 1 = nI 1 from rfl, nI_add]) (by decide) rfl ?_
                  refine g_goto hC 22 dX7_vote_158 rfl ?_
                  skip
                  exact g_sub [3, 4, 2, 1, 0] rfl (ih_3 f mo (hh + 1) (by omega) (⟨by omega, argm_f j2 (show ¬ _ < sumN (votesT g.1 x.toInt hh) (g.1.1 7 0) by omega), by omega⟩))
                · skip
                  refine g_iload hC dX7_vote_135 4 rfl ?_
                  refine g_goto hC 141 dX7_vote_137 rfl ?_
                  refine g_istore_n hC [(2, .int (nI hh)), (0, .ref (b + 58)), (1, .int x), (3, .int (nI mo)), (4, .int (nI hh)), (5, .int (nI acc)), (6, .int (nI i))] dX7_vote_141 rfl (by decide) rfl ?_
                  refine g_iload hC dX7_vote_142 5 rfl ?_
                  refine g_iload_n hC dX7_vote_144 rfl 3 rfl ?_
                  refine g_icmp_le_T (X := ((acc : Nat) : Int)) (Y := ((mo : Nat) : Int)) hC (nI_toInt (by omega)) (nI_toInt (by omega)) 153 dX7_vote_145 rfl (fun c_9 => absurd c_9 (by omega)) (fun _ => ?_)
                  refine g_iload hC dX7_vote_148 5 rfl ?_
                  refine g_goto hC 154 dX7_vote_150 rfl ?_
                  refine g_istore_n hC [(3, .int (nI acc)), (2, .int (nI hh)), (0, .ref (b + 58)), (1, .int x), (4, .int (nI hh)), (5, .int (nI acc)), (6, .int (nI i))] dX7_vote_154 rfl (by decide) rfl ?_
                  refine g_iinc hC [(4, .int (nI (hh + 1))), (3, .int (nI acc)), (2, .int (nI hh)), (0, .ref (b + 58)), (1, .int x), (5, .int (nI acc)), (6, .int (nI i))] dX7_vote_155 4 rfl (by rw [show Int32.ofInt 1 = nI 1 from rfl, nI_add]) (by decide) rfl ?_
                  refine g_goto hC 22 dX7_vote_158 rfl ?_
                  skip
                  exact g_sub [3, 4, 2, 1, 0] rfl (ih_3 (nI hh) acc (hh + 1) (by omega) (⟨by omega, by have z := argm_t j2 (f := fun h => sumN (votesT g.1 x.toInt h) (g.1.1 7 0)) (show _ < sumN (votesT g.1 x.toInt hh) (g.1.1 7 0) by omega); rw [z, ea], by omega⟩))
              · skip
                refine g_aload_n hC dX7_vote_44 rfl 0 rfl ?_
                refine g_iload hC dX7_vote_45 6 rfl ?_
                refine g_callV hC (k := 58) (ci := 7) (as := [.int (nI i)]) (rest := []) (c_X7_choiceOf l D cA b M L g i hS hok (by omega)) ⟨fw_914, fw_916, fs_32, fw_9, fw_917⟩ ⟨rfl, hd_X7_choiceOf⟩ rfl ly_58 ⟨Nat.le_of_ble_eq_true rfl, Nat.le_of_ble_eq_true rfl⟩ ⟨Nat.le_of_ble_eq_true rfl, Nat.le_of_ble_eq_true rfl⟩ rfl rfl (Nat.le_of_ble_eq_true rfl) dX7_vote_47 (g_rix ?_)
                refine g_iload hC dX7_vote_50 4 rfl ?_
                refine g_icmp_ne_T (X := (chN g.1 i).toInt) (Y := ((hh : Nat) : Int)) hC rfl (nI_toInt (by omega)) 59 dX7_vote_52 rfl (fun c_11 => ?_) (fun c_11 => ?_)
                · skip
                  refine g_iconst (v := 0) hC dX7_vote_59 rfl ?_
                  refine g_istore hC [(7, .int 0), (0, .ref (b + 58)), (1, .int x), (2, .int f), (3, .int (nI mo)), (4, .int (nI hh)), (5, .int (nI acc)), (6, .int (nI i))] dX7_vote_60 (by decide) rfl ?_
                  refine g_iload hC dX7_vote_62 6 rfl ?_
                  refine g_iload_n hC dX7_vote_64 rfl 2 rfl ?_
                  refine g_iconst (v := 2) hC dX7_vote_65 rfl ?_
                  refine g_icmp_ne_T (X := x.toInt) (Y := 2) hC rfl rfl 96 dX7_vote_66 rfl (fun c_12 => ?_) (fun c_12 => ?_)
                  · skip
                    refine g_iload hC dX7_vote_96 0 rfl ?_
                    refine g_if_ne_T (X := 0) hC rfl 105 dX7_vote_98 rfl (fun c_13 => absurd c_13 (by omega)) (fun _ => ?_)
                    refine g_iconst (v := 0) hC dX7_vote_101 rfl ?_
                    refine g_goto hC 120 dX7_vote_102 rfl ?_
                    refine g_iadd hC dX7_vote_120 ?_
                    refine g_top (y := nI (acc + 0)) (nI_add _ _) ?_
                    refine g_istore hC [(5, .int (nI (acc + 0))), (7, .int 0), (0, .ref (b + 58)), (1, .int x), (2, .int f), (3, .int (nI mo)), (4, .int (nI hh)), (6, .int (nI i))] dX7_vote_121 (by decide) rfl ?_
                    refine g_iinc hC [(6, .int (nI (i + 1))), (5, .int (nI (acc + 0))), (7, .int 0), (0, .ref (b + 58)), (1, .int x), (2, .int f), (3, .int (nI mo)), (4, .int (nI hh))] dX7_vote_123 7 rfl (by rw [show Int32.ofInt 1 = nI 1 from rfl, nI_add]) (by decide) rfl ?_
                    refine g_goto hC 35 dX7_vote_126 rfl ?_
                    exact g_sub [3, 4, 5, 6, 7, 1, 0] rfl (ih_5 (acc + 0) (i + 1) (by omega) (⟨by omega, by rw [i2]; show _ = sumN _ i + _; congr 1; unfold votesT; (repeat' split) <;> omega, by omega⟩))
                  · skip
                    refine g_aload_n hC dX7_vote_69 rfl 1 rfl ?_
                    refine g_getR (ci := 7) (i := 3) (k := 58) (t := 62) hC fm_in7 rfl ly_58 rfl (by decide) fw_623 dX7_vote_70 ?_
                    refine g_iload hC dX7_vote_73 7 rfl ?_
                    refine g_ialdN (j := i) (k := 62) hC ly_62 rfl (by omega) (by decide) dX7_vote_75 ?_
                    refine g_top (y := nI (g.1.1 3 i)) ((n1 i (by omega)).2.2.2) ?_
                    refine g_iconst (v := 1) hC dX7_vote_76 rfl ?_
                    refine g_icmp_ne_T (X := ((g.1.1 3 i : Nat) : Int)) (Y := 1) hC (nI_toInt (by omega)) rfl 92 dX7_vote_77 rfl (fun c_14 => ?_) (fun c_14 => ?_)
                    · skip
                      refine g_iconst (v := 0) hC dX7_vote_92 rfl ?_
                      refine g_goto hC 120 dX7_vote_93 rfl ?_
                      refine g_iadd hC dX7_vote_120 ?_
                      refine g_top (y := nI (acc + 0)) (nI_add _ _) ?_
                      refine g_istore hC [(5, .int (nI (acc + 0))), (7, .int 0), (0, .ref (b + 58)), (1, .int x), (2, .int f), (3, .int (nI mo)), (4, .int (nI hh)), (6, .int (nI i))] dX7_vote_121 (by decide) rfl ?_
                      refine g_iinc hC [(6, .int (nI (i + 1))), (5, .int (nI (acc + 0))), (7, .int 0), (0, .ref (b + 58)), (1, .int x), (2, .int f), (3, .int (nI mo)), (4, .int (nI hh))] dX7_vote_123 7 rfl (by rw [show Int32.ofInt 1 = nI 1 from rfl, nI_add]) (by decide) rfl ?_
                      refine g_goto hC 35 dX7_vote_126 rfl ?_
                      exact g_sub [3, 4, 5, 6, 7, 1, 0] rfl (ih_5 (acc + 0) (i + 1) (by omega) (⟨by omega, by rw [i2]; show _ = sumN _ i + _; congr 1; unfold votesT; (repeat' split) <;> omega, by omega⟩))
                    · skip
                      refine g_aload_n hC dX7_vote_80 rfl 1 rfl ?_
                      refine g_iload hC dX7_vote_81 7 rfl ?_
                      refine g_iload hC dX7_vote_83 5 rfl ?_
                      refine g_iconst (v := 0) hC dX7_vote_85 rfl ?_
                      refine g_callV hC (k := 58) (ci := 7) (as := [.int (nI i), .int (nI hh), .int 0]) (rest := [.int (nI acc)]) (c_X7_worthOf l D cA b M L g i hh 0 hS hok (by omega) (by omega) (by omega)) ⟨fw_754, fw_756, fs_17, fw_9, fw_757⟩ ⟨rfl, hd_X7_worthOf⟩ rfl ly_58 ⟨Nat.le_of_ble_eq_true rfl, Nat.le_of_ble_eq_true rfl⟩ ⟨Nat.le_of_ble_eq_true rfl, Nat.le_of_ble_eq_true rfl⟩ rfl rfl (Nat.le_of_ble_eq_true rfl) dX7_vote_86 (g_rix ?_)
                      have wb_15 := woN_le (t := g.1) (j := i) (hour := hh) (k := 0)
                      refine g_goto hC 120 dX7_vote_89 rfl ?_
                      refine g_iadd hC dX7_vote_120 ?_
                      refine g_top (y := nI (acc + (woN g.1 i hh 0))) (nI_add _ _) ?_
                      refine g_istore hC [(5, .int (nI (acc + (woN g.1 i hh 0)))), (7, .int 0), (0, .ref (b + 58)), (1, .int x), (2, .int f), (3, .int (nI mo)), (4, .int (nI hh)), (6, .int (nI i))] dX7_vote_121 (by decide) rfl ?_
                      refine g_iinc hC [(6, .int (nI (i + 1))), (5, .int (nI (acc + (woN g.1 i hh 0)))), (7, .int 0), (0, .ref (b + 58)), (1, .int x), (2, .int f), (3, .int (nI mo)), (4, .int (nI hh))] dX7_vote_123 7 rfl (by rw [show Int32.ofInt 1 = nI 1 from rfl, nI_add]) (by decide) rfl ?_
                      refine g_goto hC 35 dX7_vote_126 rfl ?_
                      exact g_sub [3, 4, 5, 6, 7, 1, 0] rfl (ih_5 (acc + (woN g.1 i hh 0)) (i + 1) (by omega) (⟨by omega, by rw [i2]; show _ = sumN _ i + _; congr 1; unfold votesT; (repeat' split) <;> omega, by omega⟩))
                · skip
                  refine g_iconst (v := 1) hC dX7_vote_55 rfl ?_
                  refine g_goto hC 60 dX7_vote_56 rfl ?_
                  refine g_istore hC [(7, .int 1), (0, .ref (b + 58)), (1, .int x), (2, .int f), (3, .int (nI mo)), (4, .int (nI hh)), (5, .int (nI acc)), (6, .int (nI i))] dX7_vote_60 (by decide) rfl ?_
                  refine g_iload hC dX7_vote_62 6 rfl ?_
                  refine g_iload_n hC dX7_vote_64 rfl 2 rfl ?_
                  refine g_iconst (v := 2) hC dX7_vote_65 rfl ?_
                  refine g_icmp_ne_T (X := x.toInt) (Y := 2) hC rfl rfl 96 dX7_vote_66 rfl (fun c_16 => ?_) (fun c_16 => ?_)
                  · skip
                    refine g_iload hC dX7_vote_96 0 rfl ?_
                    refine g_if_ne_T (X := 1) hC rfl 105 dX7_vote_98 rfl (fun _ => ?_) (fun c_17 => absurd c_17 (by omega))
                    refine g_iload_n hC dX7_vote_105 rfl 2 rfl ?_
                    refine g_if_ne_T (X := x.toInt) hC rfl 113 dX7_vote_106 rfl (fun c_18 => ?_) (fun c_18 => ?_)
                    · skip
                      refine g_aload_n hC dX7_vote_113 rfl 1 rfl ?_
                      refine g_getR (ci := 7) (i := 2) (k := 58) (t := 61) hC fm_in7 rfl ly_58 rfl (by decide) fw_622 dX7_vote_114 ?_
                      refine g_iload hC dX7_vote_117 7 rfl ?_
                      refine g_ialdN (j := i) (k := 61) hC ly_61 rfl (by omega) (by decide) dX7_vote_119 ?_
                      refine g_top (y := nI (g.1.1 2 i)) ((n1 i (by omega)).2.2.1) ?_
                      refine g_iadd hC dX7_vote_120 ?_
                      refine g_top (y := nI (acc + (g.1.1 2 i))) (nI_add _ _) ?_
                      refine g_istore hC [(5, .int (nI (acc + (g.1.1 2 i)))), (7, .int 1), (0, .ref (b + 58)), (1, .int x), (2, .int f), (3, .int (nI mo)), (4, .int (nI hh)), (6, .int (nI i))] dX7_vote_121 (by decide) rfl ?_
                      refine g_iinc hC [(6, .int (nI (i + 1))), (5, .int (nI (acc + (g.1.1 2 i)))), (7, .int 1), (0, .ref (b + 58)), (1, .int x), (2, .int f), (3, .int (nI mo)), (4, .int (nI hh))] dX7_vote_123 7 rfl (by rw [show Int32.ofInt 1 = nI 1 from rfl, nI_add]) (by decide) rfl ?_
                      refine g_goto hC 35 dX7_vote_126 rfl ?_
                      exact g_sub [3, 4, 5, 6, 7, 1, 0] rfl (ih_5 (acc + (g.1.1 2 i)) (i + 1) (by omega) (⟨by omega, by rw [i2]; show _ = sumN _ i + _; congr 1; unfold votesT; (repeat' split) <;> omega, by omega⟩))
                    · skip
                      refine g_iconst (v := 1) hC dX7_vote_109 rfl ?_
                      refine g_goto hC 120 dX7_vote_110 rfl ?_
                      refine g_iadd hC dX7_vote_120 ?_
                      refine g_top (y := nI (acc + 1)) (nI_add _ _) ?_
                      refine g_istore hC [(5, .int (nI (acc + 1))), (7, .int 1), (0, .ref (b + 58)), (1, .int x), (2, .int f), (3, .int (nI mo)), (4, .int (nI hh)), (6, .int (nI i))] dX7_vote_121 (by decide) rfl ?_
                      refine g_iinc hC [(6, .int (nI (i + 1))), (5, .int (nI (acc + 1))), (7, .int 1), (0, .ref (b + 58)), (1, .int x), (2, .int f), (3, .int (nI mo)), (4, .int (nI hh))] dX7_vote_123 7 rfl (by rw [show Int32.ofInt 1 = nI 1 from rfl, nI_add]) (by decide) rfl ?_
                      refine g_goto hC 35 dX7_vote_126 rfl ?_
                      exact g_sub [3, 4, 5, 6, 7, 1, 0] rfl (ih_5 (acc + 1) (i + 1) (by omega) (⟨by omega, by rw [i2]; show _ = sumN _ i + _; congr 1; unfold votesT; (repeat' split) <;> omega, by omega⟩))
                  · skip
                    refine g_aload_n hC dX7_vote_69 rfl 1 rfl ?_
                    refine g_getR (ci := 7) (i := 3) (k := 58) (t := 62) hC fm_in7 rfl ly_58 rfl (by decide) fw_623 dX7_vote_70 ?_
                    refine g_iload hC dX7_vote_73 7 rfl ?_
                    refine g_ialdN (j := i) (k := 62) hC ly_62 rfl (by omega) (by decide) dX7_vote_75 ?_
                    refine g_top (y := nI (g.1.1 3 i)) ((n1 i (by omega)).2.2.2) ?_
                    refine g_iconst (v := 1) hC dX7_vote_76 rfl ?_
                    refine g_icmp_ne_T (X := ((g.1.1 3 i : Nat) : Int)) (Y := 1) hC (nI_toInt (by omega)) rfl 92 dX7_vote_77 rfl (fun c_19 => ?_) (fun c_19 => ?_)
                    · skip
                      refine g_iconst (v := 0) hC dX7_vote_92 rfl ?_
                      refine g_goto hC 120 dX7_vote_93 rfl ?_
                      refine g_iadd hC dX7_vote_120 ?_
                      refine g_top (y := nI (acc + 0)) (nI_add _ _) ?_
                      refine g_istore hC [(5, .int (nI (acc + 0))), (7, .int 1), (0, .ref (b + 58)), (1, .int x), (2, .int f), (3, .int (nI mo)), (4, .int (nI hh)), (6, .int (nI i))] dX7_vote_121 (by decide) rfl ?_
                      refine g_iinc hC [(6, .int (nI (i + 1))), (5, .int (nI (acc + 0))), (7, .int 1), (0, .ref (b + 58)), (1, .int x), (2, .int f), (3, .int (nI mo)), (4, .int (nI hh))] dX7_vote_123 7 rfl (by rw [show Int32.ofInt 1 = nI 1 from rfl, nI_add]) (by decide) rfl ?_
                      refine g_goto hC 35 dX7_vote_126 rfl ?_
                      exact g_sub [3, 4, 5, 6, 7, 1, 0] rfl (ih_5 (acc + 0) (i + 1) (by omega) (⟨by omega, by rw [i2]; show _ = sumN _ i + _; congr 1; unfold votesT; (repeat' split) <;> omega, by omega⟩))
                    · skip
                      refine g_aload_n hC dX7_vote_80 rfl 1 rfl ?_
                      refine g_iload hC dX7_vote_81 7 rfl ?_
                      refine g_iload hC dX7_vote_83 5 rfl ?_
                      refine g_iconst (v := 0) hC dX7_vote_85 rfl ?_
                      refine g_callV hC (k := 58) (ci := 7) (as := [.int (nI i), .int (nI hh), .int 0]) (rest := [.int (nI acc)]) (c_X7_worthOf l D cA b M L g i hh 0 hS hok (by omega) (by omega) (by omega)) ⟨fw_754, fw_756, fs_17, fw_9, fw_757⟩ ⟨rfl, hd_X7_worthOf⟩ rfl ly_58 ⟨Nat.le_of_ble_eq_true rfl, Nat.le_of_ble_eq_true rfl⟩ ⟨Nat.le_of_ble_eq_true rfl, Nat.le_of_ble_eq_true rfl⟩ rfl rfl (Nat.le_of_ble_eq_true rfl) dX7_vote_86 (g_rix ?_)
                      have wb_20 := woN_le (t := g.1) (j := i) (hour := hh) (k := 0)
                      refine g_goto hC 120 dX7_vote_89 rfl ?_
                      refine g_iadd hC dX7_vote_120 ?_
                      refine g_top (y := nI (acc + (woN g.1 i hh 0))) (nI_add _ _) ?_
                      refine g_istore hC [(5, .int (nI (acc + (woN g.1 i hh 0)))), (7, .int 1), (0, .ref (b + 58)), (1, .int x), (2, .int f), (3, .int (nI mo)), (4, .int (nI hh)), (6, .int (nI i))] dX7_vote_121 (by decide) rfl ?_
                      refine g_iinc hC [(6, .int (nI (i + 1))), (5, .int (nI (acc + (woN g.1 i hh 0)))), (7, .int 1), (0, .ref (b + 58)), (1, .int x), (2, .int f), (3, .int (nI mo)), (4, .int (nI hh))] dX7_vote_123 7 rfl (by rw [show Int32.ofInt 1 = nI 1 from rfl, nI_add]) (by decide) rfl ?_
                      refine g_goto hC 35 dX7_vote_126 rfl ?_
                      exact g_sub [3, 4, 5, 6, 7, 1, 0] rfl (ih_5 (acc + (woN g.1 i hh 0)) (i + 1) (by omega) (⟨by omega, by rw [i2]; show _ = sumN _ i + _; congr 1; unfold votesT; (repeat' split) <;> omega, by omega⟩))
          exact g_sub [2, 3, 4, 5, 6, 1, 0] rfl (lp_35_5 (g.1.1 7 0 - 0 + 1) 0 0 (Nat.lt_succ_self _) (⟨by omega, rfl, by omega⟩))
    exact g_sub [3, 4, 2, 1, 0] rfl (lp_22_3 (24 - 0 + 1) (-4) 0 0 (Nat.lt_succ_self _) (⟨by omega, rfl, by omega⟩))
  · skip
    refine g_iconst (v := (-1)) hC dX7_vote_12 rfl ?_
    refine g_zret (ty := .int) hC rfl rfl dX7_vote_13 ⟨congrArg (fun z => some (Value.int z)) ?_, rfl, rfl⟩
    unfold op_vote; rw [if_neg (by omega)]
