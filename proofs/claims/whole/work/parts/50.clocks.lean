/-! ===== clocks: what is told, in how many ways ===== -/
/-- how late the town was at hour h by the first i pairs: -1 not told, -2 never -/
def tdS (it : Nat → Int64) : Nat → Nat → Int
  | 0, _ => -1
  | i + 1, h => if (it (2 * i)).toInt = (h : Int) then (if (0 ≤ (it (2 * i + 1)).toInt ∧ (it (2 * i + 1)).toInt ≤ 48) ∧ (tdS it i h = -1 ∨ tdS it i h = (it (2 * i + 1)).toInt) then (it (2 * i + 1)).toInt else -2) else tdS it i h
abbrev okT (it : Nat → Int64) (n h late : Nat) : Prop := ∀ k, k < n → (it (2 * k)).toInt = (h : Int) → (it (2 * k + 1)).toInt = (late : Int)
theorem td_e {it : Nat → Int64} {i h : Nat} (c : ¬ (it (2 * i)).toInt = (h : Int)) : tdS it (i + 1) h = tdS it i h := by
  show (if (it (2 * i)).toInt = (h : Int) then _ else tdS it i h) = tdS it i h
  rw [if_neg c]
theorem td_y {it : Nat → Int64} {i h : Nat} (c : (it (2 * i)).toInt = (h : Int)) (c2 : (0 ≤ (it (2 * i + 1)).toInt ∧ (it (2 * i + 1)).toInt ≤ 48) ∧ (tdS it i h = -1 ∨ tdS it i h = (it (2 * i + 1)).toInt)) : tdS it (i + 1) h = (it (2 * i + 1)).toInt := by
  show (if (it (2 * i)).toInt = (h : Int) then _ else tdS it i h) = _
  rw [if_pos c, if_pos c2]
theorem td_n {it : Nat → Int64} {i h : Nat} (c : (it (2 * i)).toInt = (h : Int)) (c2 : ¬ ((0 ≤ (it (2 * i + 1)).toInt ∧ (it (2 * i + 1)).toInt ≤ 48) ∧ (tdS it i h = -1 ∨ tdS it i h = (it (2 * i + 1)).toInt))) : tdS it (i + 1) h = -2 := by
  show (if (it (2 * i)).toInt = (h : Int) then _ else tdS it i h) = _
  rw [if_pos c, if_neg c2]
theorem td_b (it : Nat → Int64) : ∀ (i h : Nat), -2 ≤ tdS it i h ∧ tdS it i h ≤ 48
  | 0, h => ⟨(show (-2 : Int) ≤ -1 by decide), (show (-1 : Int) ≤ 48 by decide)⟩
  | i + 1, h => by
    by_cases c : (it (2 * i)).toInt = (h : Int)
    · by_cases c2 : (0 ≤ (it (2 * i + 1)).toInt ∧ (it (2 * i + 1)).toInt ≤ 48) ∧ (tdS it i h = -1 ∨ tdS it i h = (it (2 * i + 1)).toInt)
      · rw [td_y c c2]; omega
      · rw [td_n c c2]; omega
    · rw [td_e c]; exact td_b it i h
theorem td_ok {it : Nat → Int64} {h late : Nat} (hl : late ≤ 48) : ∀ (i : Nat), (tdS it i h = -1 ∨ tdS it i h = (late : Int)) ↔ okT it i h late
  | 0 => ⟨fun _ k hk => absurd hk (Nat.not_lt_zero _), fun _ => Or.inl rfl⟩
  | i + 1 => by
    have ih := td_ok (it := it) (h := h) hl i
    have key : okT it (i + 1) h late ↔ okT it i h late ∧ ((it (2 * i)).toInt = (h : Int) → (it (2 * i + 1)).toInt = (late : Int)) := by
      constructor
      · intro z
        exact ⟨fun k hk => z k (by omega), fun c => z i (by omega) c⟩
      · intro z k hk
        by_cases ek : k = i
        · rw [ek]; exact z.2
        · exact z.1 k (by omega)
    rw [key, ← ih]
    by_cases c : (it (2 * i)).toInt = (h : Int)
    · by_cases c2 : (0 ≤ (it (2 * i + 1)).toInt ∧ (it (2 * i + 1)).toInt ≤ 48) ∧ (tdS it i h = -1 ∨ tdS it i h = (it (2 * i + 1)).toInt)
      · rw [td_y c c2]
        constructor
        · intro z; exact ⟨by omega, fun _ => by omega⟩
        · intro z; right; exact z.2 c
      · rw [td_n c c2]
        constructor
        · intro z; omega
        · intro z; have := z.2 c; omega
    · rw [td_e c]
      exact ⟨fun z => ⟨z, fun q => absurd q c⟩, fun z => z.1⟩
def rgS (f : Nat → Int64) (lo : Nat) : Nat → Int64
  | 0 => 0
  | k + 1 => rgS f lo k + f (lo + k)
theorem rg_s {f : Nat → Int64} {lo k : Nat} : rgS f lo (k + 1) = rgS f lo k + f (lo + k) := rfl
theorem rg_c {f g : Nat → Int64} {lo : Nat} : ∀ (k : Nat), (∀ u, u < k → f (lo + u) = g (lo + u)) → rgS f lo k = rgS g lo k
  | 0, _ => rfl
  | k + 1, h => by rw [rg_s, rg_s, rg_c k (fun u hu => h u (by omega)), h k (by omega)]
theorem rg_z {f : Nat → Int64} {lo a : Nat} : ∀ (k : Nat), a ≤ k → (∀ u, a ≤ u → u < k → f (lo + u) = 0) → rgS f lo k = rgS f lo a
  | 0, h, _ => by rw [show a = 0 by omega]
  | k + 1, h, z => by
    by_cases e : a = k + 1
    · rw [e]
    · rw [rg_s, rg_z k (by omega) (fun u u1 u2 => z u u1 (by omega)), z k (by omega) (by omega), Int64.add_zero]
theorem rg_1 {f g : Nat → Int64} {u : Nat} (hu : u < 3) (h : f u = g u) (z : ∀ v, v < 3 → v ≠ u → g v = 0) : rgS f u 1 = rgS g 0 3 := by
  rw [show rgS f u 1 = 0 + f (u + 0) from rfl, show rgS g 0 3 = 0 + g (0 + 0) + g (0 + 1) + g (0 + 2) from rfl]
  simp only [Nat.add_zero, Nat.zero_add, Int64.zero_add, h]
  rcases (show u = 0 ∨ u = 1 ∨ u = 2 by omega) with rfl | rfl | rfl
  · rw [z 1 (by decide) (by decide), z 2 (by decide) (by decide), Int64.add_zero, Int64.add_zero]
  · rw [z 0 (by decide) (by decide), z 2 (by decide) (by decide), Int64.add_zero, Int64.zero_add]
  · rw [z 0 (by decide) (by decide), z 1 (by decide) (by decide), Int64.zero_add, Int64.zero_add]
theorem wy_ex (it : Nat → Int64) (n : Nat) (fh fn : Int) : ∃ w : Nat → Nat → Int64, (∀ j, w 0 j = if j = 0 ∧ okT it n 0 0 then 1 else 0) ∧ (∀ h j, w (h + 1) j = if okT it n (h + 1) j then rgS (fun v => if v ≤ j ∧ ((h : Int) = fh → (v : Int) = fn) then w h (j - v) else 0) 0 3 else 0) :=
  ⟨fun h => Nat.rec (fun j => if j = 0 ∧ okT it n 0 0 then 1 else 0) (fun h w j => if okT it n (h + 1) j then rgS (fun v => if v ≤ j ∧ ((h : Int) = fh → (v : Int) = fn) then w (j - v) else 0) 0 3 else 0) h, fun _ => rfl, fun _ _ => rfl⟩
/-- in how many ways the town can come to be late by j at hour h -/
noncomputable def wyK (it : Nat → Int64) (n : Nat) (fh fn : Int) : Nat → Nat → Int64 := Classical.choose (wy_ex it n fh fn)
theorem wy_0 {it : Nat → Int64} {n : Nat} {fh fn : Int} (j : Nat) : wyK it n fh fn 0 j = if j = 0 ∧ okT it n 0 0 then 1 else 0 := (Classical.choose_spec (wy_ex it n fh fn)).1 j
theorem wy_s {it : Nat → Int64} {n : Nat} {fh fn : Int} (h j : Nat) : wyK it n fh fn (h + 1) j = if okT it n (h + 1) j then rgS (fun v => if v ≤ j ∧ ((h : Int) = fh → (v : Int) = fn) then wyK it n fh fn h (j - v) else 0) 0 3 else 0 := (Classical.choose_spec (wy_ex it n fh fn)).2 h j
noncomputable def clS (it : Nat → Int64) (n : Nat) (fh fn : Int) : Int64 := rgS (wyK it n fh fn 24) 0 49
theorem l2i_o (v : Int64) : v.toInt32 = Int32.ofInt v.toInt := by
  apply Int32.toInt_inj.mp
  rw [Int64.toInt_toInt32, Int32.toInt_ofInt]

theorem c_X0_tell (l : Launch) (D : va_G) (cA : Nat → ClassId) (b : Nat) (M : Nat → Nat → Int32) (L : Nat → Nat → Int64) (q : Nat) (fn : Nat) (n : Nat) (X : Nat → Int64) (qb : q < 4) (hx : ∀ k, k < 24 → L (51 + 2 * q) k = X k) (hfn : fn + 2 * n ≤ 24) (hh : ∀ k, k < n → 0 ≤ (X (fn + 2 * k)).toInt ∧ (X (fn + 2 * k)).toInt ≤ 24) : fm_Met l D cA b yX0_tell cX0_tell 9 none 1 23 0 0 [.ref (b + 45), .ref (b + (50 + 2 * q)), .int (nI fn), .int (nI n)] LAY M L LAY (fm_pv (fun M' L' => (∀ h, h < 25 → M' 46 h = Int32.ofInt (tdS (fun k => X (fn + k)) n h)) ∧ (∀ r, r ≠ 46 → M' r = M r) ∧ L' = L)) := by
  refine fm_start RX0 rfl (by decide) (Nat.le_of_ble_eq_true rfl) ?_
  intro pq eq sq mq aq bq tq cq hC hin
  refine g_aload_n hC dX0_tell_0 rfl 0 rfl ?_
  refine g_getR (ci := 0) (i := 0) (k := 45) (t := 46) hC fm_in0 rfl ly_45 rfl (by decide) fw_167 dX0_tell_1 ?_
  refine g_iconst (v := (-1)) hC dX0_tell_4 rfl ?_
  refine g_callS hC (as := [.ref (b + 46), .int (-1)]) (rest := []) (c_J7_fill_53178 l D cA b LAY M L 46 25 (-1) ly_46 (by decide)) ⟨fw_551, fw_54, fw_4, fw_55⟩ hd_J7_fill_53178 ⟨Nat.le_of_ble_eq_true rfl, Nat.le_of_ble_eq_true rfl⟩ ⟨Nat.le_of_ble_eq_true rfl, Nat.le_of_ble_eq_true rfl⟩ rfl rfl (Nat.le_of_ble_eq_true rfl) dX0_tell_5 (g_rv (fun M_1 L_1 h_1 => ?_))
  obtain ⟨f1_1, f2_1, f3_1⟩ := h_1
  rw [f3_1]
  refine g_iconst (v := 0) hC dX0_tell_8 rfl ?_
  refine g_istore hC [(4, .int 0), (0, .ref (b + 45)), (1, .ref (b + (50 + 2 * q))), (2, .int (nI fn)), (3, .int (nI n))] dX0_tell_9 (by decide) rfl ?_
  have lp_11_2 : ∀ (n_2 : Nat) (M1 : Nat → Nat → Int32) (i : Nat), n - i < n_2 → (i ≤ n ∧ (∀ r, r ≠ 46 → M1 r = M r) ∧ (∀ h, h < 25 → M1 46 h = Int32.ofInt (tdS (fun k => X (fn + k)) i h))) → fm_G pq l eq (fm_rm 1 23 0 0) sq mq aq bq tq cq D cA b 9 (MQ bq (fm_Q D cA b LAY (fm_pv (fun M' L' => (∀ h, h < 25 → M' 46 h = Int32.ofInt (tdS (fun k => X (fn + k)) n h)) ∧ (∀ r, r ≠ 46 → M' r = M r) ∧ L' = L))) aq sq 0 0 (fun q => b ≤ q)) LAY M1 L 0 0 11 [(4, .int (nI i)), (0, .ref (b + 45)), (1, .ref (b + (50 + 2 * q))), (2, .int (nI fn)), (3, .int (nI n))] [] := by
    intro n_2
    induction n_2 with
    | zero => intro M1 i hm_2; exact absurd hm_2 (Nat.not_lt_zero _)
    | succ n_2 ih_2 =>
      intro M1 i hm_2 hinv_2
      obtain ⟨i1, i2, i3⟩ := hinv_2
      refine g_iload hC dX0_tell_11 0 rfl ?_
      refine g_iload_n hC dX0_tell_13 rfl 4 rfl ?_
      refine g_icmp_ge_T (X := ((i : Nat) : Int)) (Y := ((n : Nat) : Int)) hC (nI_toInt (by omega)) (nI_toInt (by omega)) 127 dX0_tell_14 rfl (fun c_3 => ?_) (fun c_3 => ?_)
      · skip
        refine g_vret hC rfl dX0_tell_127 ?_
        have ei : i = n := by omega
        subst ei
        exact ⟨rfl, i3, i2, rfl⟩
      · skip
        obtain ⟨hr, hrb, hrE⟩ : ∃ z : Nat, z < 25 ∧ (X (fn + 2 * i)).toInt = (z : Int) := ⟨(X (fn + 2 * i)).toInt.toNat, by have := hh i (by omega); omega, by have := hh i (by omega); omega⟩
        have hr32 : (X (fn + 2 * i)).toInt32 = nI hr := by rw [l2i_o, hrE, nI_oI]
        have hrS : ((fun k => X (fn + k)) (2 * i)).toInt = ((hr : Nat) : Int) := hrE
        have tb := td_b (fun k => X (fn + k)) i hr
        refine g_aload_n hC dX0_tell_17 rfl 2 rfl ?_
        refine g_getR (ci := 3) (i := 2) (k := (50 + 2 * q)) (t := 51 + 2 * q) hC fm_in3 rfl (fm_she _ qb) rfl (by decide) fw_187 dX0_tell_18 ?_
        refine g_iload_n hC dX0_tell_21 rfl 3 rfl ?_
        refine g_iconst (v := 2) hC dX0_tell_22 rfl ?_
        refine g_iload hC dX0_tell_23 0 rfl ?_
        refine g_imul hC dX0_tell_25 ?_
        refine g_top (y := nI (2 * i)) (pk_mul _ _) ?_
        refine g_iadd hC dX0_tell_26 ?_
        refine g_top (y := nI (fn + (2 * i))) (nI_add _ _) ?_
        refine g_laldN (j := fn + (2 * i)) (k := 51 + 2 * q) hC (fm_itm _ qb) rfl (by omega) (by decide) dX0_tell_27 ?_
        refine g_topL (y := X (fn + 2 * i)) (hx _ (by omega)) ?_
        refine g_l2i (v := (X (fn + 2 * i)).toInt32) hC dX0_tell_28 rfl ?_
        refine g_top (y := nI hr) hr32 ?_
        refine g_istore hC [(5, .int (nI hr)), (4, .int (nI i)), (0, .ref (b + 45)), (1, .ref (b + (50 + 2 * q))), (2, .int (nI fn)), (3, .int (nI n))] dX0_tell_29 (by decide) rfl ?_
        refine g_aload_n hC dX0_tell_31 rfl 3 rfl ?_
        refine g_getR (ci := 3) (i := 2) (k := (50 + 2 * q)) (t := 51 + 2 * q) hC fm_in3 rfl (fm_she _ qb) rfl (by decide) fw_187 dX0_tell_32 ?_
        refine g_iload_n hC dX0_tell_35 rfl 4 rfl ?_
        refine g_iconst (v := 2) hC dX0_tell_36 rfl ?_
        refine g_iload hC dX0_tell_37 1 rfl ?_
        refine g_imul hC dX0_tell_39 ?_
        refine g_top (y := nI (2 * i)) (pk_mul _ _) ?_
        refine g_iadd hC dX0_tell_40 ?_
        refine g_top (y := nI (fn + (2 * i))) (nI_add _ _) ?_
        refine g_iconst (v := 1) hC dX0_tell_41 rfl ?_
        refine g_iadd hC dX0_tell_42 ?_
        refine g_top (y := nI ((fn + (2 * i)) + 1)) (nI_add _ _) ?_
        refine g_laldN (j := (fn + (2 * i)) + 1) (k := 51 + 2 * q) hC (fm_itm _ qb) rfl (by omega) (by decide) dX0_tell_43 ?_
        refine g_topL (y := X (fn + 2 * i + 1)) (hx _ (by omega)) ?_
        refine g_lstore hC [(6, .long (X (fn + 2 * i + 1))), (5, .int (nI hr)), (4, .int (nI i)), (0, .ref (b + 45)), (1, .ref (b + (50 + 2 * q))), (2, .int (nI fn)), (3, .int (nI n))] dX0_tell_44 (by decide) rfl ?_
        refine g_lload hC dX0_tell_46 0 rfl ?_
        refine g_lconst (v := 0) hC dX0_tell_48 rfl ?_
        refine g_lcmp hC dX0_tell_49 ?_
        refine g_cmp_lt_T (X := (X (fn + 2 * i + 1)).toInt) (Y := 0) hC rfl rfl 66 dX0_tell_50 rfl (fun c_4 => ?_) (fun c_4 => ?_)
        · skip
          refine g_iconst (v := 0) hC dX0_tell_66 rfl ?_
          refine g_istore hC [(8, .int 0), (6, .long (X (fn + 2 * i + 1))), (5, .int (nI hr)), (4, .int (nI i)), (0, .ref (b + 45)), (1, .ref (b + (50 + 2 * q))), (2, .int (nI fn)), (3, .int (nI n))] dX0_tell_67 (by decide) rfl ?_
          refine g_iload hC dX0_tell_69 0 rfl ?_
          refine g_if_eq_T (X := 0) hC rfl 112 dX0_tell_71 rfl (fun _ => ?_) (fun c_5 => absurd c_5 (by omega))
          refine g_aload_n hC dX0_tell_112 rfl 4 rfl ?_
          refine g_getR (ci := 0) (i := 0) (k := 45) (t := 46) hC fm_in0 rfl ly_45 rfl (by decide) fw_167 dX0_tell_113 ?_
          refine g_iload hC dX0_tell_116 2 rfl ?_
          refine g_bipush (v := (-2)) hC dX0_tell_118 rfl ?_
          refine g_iastN (j := hr) (k := 46) hC ly_46 rfl (by omega) (by decide) dX0_tell_120 ?_
          refine g_iinc hC [(4, .int (nI (i + 1))), (8, .int 0), (6, .long (X (fn + 2 * i + 1))), (5, .int (nI hr)), (0, .ref (b + 45)), (1, .ref (b + (50 + 2 * q))), (2, .int (nI fn)), (3, .int (nI n))] dX0_tell_121 3 rfl (by rw [show Int32.ofInt 1 = nI 1 from rfl, nI_add]) (by decide) rfl ?_
          refine g_goto hC 11 dX0_tell_124 rfl ?_
          exact g_sub [0, 4, 5, 6, 7] rfl (ih_2 (fm_up M1 46 hr (-2)) (i + 1) (by omega) (⟨by omega, fun r hr2 => (by rw [fm_upn hr2]; exact i2 r hr2), fun h h9 => (by by_cases eh : h = hr; rw [eh, fm_ups, show tdS (fun k => X (fn + k)) (i + 1) hr = -2 from td_n hrS (fun z => by have z1 : 0 ≤ (X (fn + 2 * i + 1)).toInt := z.1.1; have z2 : (X (fn + 2 * i + 1)).toInt ≤ 48 := z.1.2; have z3 : tdS (fun k => X (fn + k)) i hr = -1 ∨ tdS (fun k => X (fn + k)) i hr = (X (fn + 2 * i + 1)).toInt := z.2; omega)]; rfl; rw [fm_upx eh, td_e (fun z => eh (by have z1 : (X (fn + 2 * i)).toInt = (h : Int) := z; omega))]; exact i3 h h9)⟩))
        · skip
          refine g_lload hC dX0_tell_53 0 rfl ?_
          refine g_ldc2 (v := 48) hC fw_552 dX0_tell_55 ?_
          refine g_lcmp hC dX0_tell_58 ?_
          refine g_cmp_gt_T (X := (X (fn + 2 * i + 1)).toInt) (Y := 48) hC rfl rfl 66 dX0_tell_59 rfl (fun c_6 => ?_) (fun c_6 => ?_)
          · skip
            refine g_iconst (v := 0) hC dX0_tell_66 rfl ?_
            refine g_istore hC [(8, .int 0), (6, .long (X (fn + 2 * i + 1))), (5, .int (nI hr)), (4, .int (nI i)), (0, .ref (b + 45)), (1, .ref (b + (50 + 2 * q))), (2, .int (nI fn)), (3, .int (nI n))] dX0_tell_67 (by decide) rfl ?_
            refine g_iload hC dX0_tell_69 0 rfl ?_
            refine g_if_eq_T (X := 0) hC rfl 112 dX0_tell_71 rfl (fun _ => ?_) (fun c_7 => absurd c_7 (by omega))
            refine g_aload_n hC dX0_tell_112 rfl 4 rfl ?_
            refine g_getR (ci := 0) (i := 0) (k := 45) (t := 46) hC fm_in0 rfl ly_45 rfl (by decide) fw_167 dX0_tell_113 ?_
            refine g_iload hC dX0_tell_116 2 rfl ?_
            refine g_bipush (v := (-2)) hC dX0_tell_118 rfl ?_
            refine g_iastN (j := hr) (k := 46) hC ly_46 rfl (by omega) (by decide) dX0_tell_120 ?_
            refine g_iinc hC [(4, .int (nI (i + 1))), (8, .int 0), (6, .long (X (fn + 2 * i + 1))), (5, .int (nI hr)), (0, .ref (b + 45)), (1, .ref (b + (50 + 2 * q))), (2, .int (nI fn)), (3, .int (nI n))] dX0_tell_121 3 rfl (by rw [show Int32.ofInt 1 = nI 1 from rfl, nI_add]) (by decide) rfl ?_
            refine g_goto hC 11 dX0_tell_124 rfl ?_
            exact g_sub [0, 4, 5, 6, 7] rfl (ih_2 (fm_up M1 46 hr (-2)) (i + 1) (by omega) (⟨by omega, fun r hr2 => (by rw [fm_upn hr2]; exact i2 r hr2), fun h h9 => (by by_cases eh : h = hr; rw [eh, fm_ups, show tdS (fun k => X (fn + k)) (i + 1) hr = -2 from td_n hrS (fun z => by have z1 : 0 ≤ (X (fn + 2 * i + 1)).toInt := z.1.1; have z2 : (X (fn + 2 * i + 1)).toInt ≤ 48 := z.1.2; have z3 : tdS (fun k => X (fn + k)) i hr = -1 ∨ tdS (fun k => X (fn + k)) i hr = (X (fn + 2 * i + 1)).toInt := z.2; omega)]; rfl; rw [fm_upx eh, td_e (fun z => eh (by have z1 : (X (fn + 2 * i)).toInt = (h : Int) := z; omega))]; exact i3 h h9)⟩))
          · skip
            refine g_iconst (v := 1) hC dX0_tell_62 rfl ?_
            refine g_goto hC 67 dX0_tell_63 rfl ?_
            refine g_istore hC [(8, .int 1), (6, .long (X (fn + 2 * i + 1))), (5, .int (nI hr)), (4, .int (nI i)), (0, .ref (b + 45)), (1, .ref (b + (50 + 2 * q))), (2, .int (nI fn)), (3, .int (nI n))] dX0_tell_67 (by decide) rfl ?_
            refine g_iload hC dX0_tell_69 0 rfl ?_
            refine g_if_eq_T (X := 1) hC rfl 112 dX0_tell_71 rfl (fun c_8 => absurd c_8 (by omega)) (fun _ => ?_)
            refine g_aload_n hC dX0_tell_74 rfl 4 rfl ?_
            refine g_getR (ci := 0) (i := 0) (k := 45) (t := 46) hC fm_in0 rfl ly_45 rfl (by decide) fw_167 dX0_tell_75 ?_
            refine g_iload hC dX0_tell_78 2 rfl ?_
            refine g_ialdN (j := hr) (k := 46) hC ly_46 rfl (by omega) (by decide) dX0_tell_80 ?_
            refine g_top (y := Int32.ofInt (tdS (fun k => X (fn + k)) i hr)) (i3 hr hrb) ?_
            refine g_iconst (v := (-1)) hC dX0_tell_81 rfl ?_
            refine g_icmp_eq_T (X := tdS (fun k => X (fn + k)) i hr) (Y := (-1)) hC (oI_t (by omega) (by omega)) rfl 99 dX0_tell_82 rfl (fun c_9 => ?_) (fun c_9 => ?_)
            · skip
              refine g_aload_n hC dX0_tell_99 rfl 4 rfl ?_
              refine g_getR (ci := 0) (i := 0) (k := 45) (t := 46) hC fm_in0 rfl ly_45 rfl (by decide) fw_167 dX0_tell_100 ?_
              refine g_iload hC dX0_tell_103 2 rfl ?_
              refine g_lload hC dX0_tell_105 1 rfl ?_
              refine g_l2i (v := (X (fn + 2 * i + 1)).toInt32) hC dX0_tell_107 rfl ?_
              refine g_top (y := Int32.ofInt (X (fn + 2 * i + 1)).toInt) (l2i_o _) ?_
              refine g_iastN (j := hr) (k := 46) hC ly_46 rfl (by omega) (by decide) dX0_tell_108 ?_
              refine g_goto hC 121 dX0_tell_109 rfl ?_
              refine g_iinc hC [(4, .int (nI (i + 1))), (8, .int 1), (6, .long (X (fn + 2 * i + 1))), (5, .int (nI hr)), (0, .ref (b + 45)), (1, .ref (b + (50 + 2 * q))), (2, .int (nI fn)), (3, .int (nI n))] dX0_tell_121 3 rfl (by rw [show Int32.ofInt 1 = nI 1 from rfl, nI_add]) (by decide) rfl ?_
              refine g_goto hC 11 dX0_tell_124 rfl ?_
              exact g_sub [0, 4, 5, 6, 7] rfl (ih_2 (fm_up M1 46 hr (Int32.ofInt (X (fn + 2 * i + 1)).toInt)) (i + 1) (by omega) (⟨by omega, fun r hr2 => (by rw [fm_upn hr2]; exact i2 r hr2), fun h h9 => (by by_cases eh : h = hr; rw [eh, fm_ups, show tdS (fun k => X (fn + k)) (i + 1) hr = (X (fn + 2 * i + 1)).toInt from td_y hrS (by show (0 ≤ (X (fn + 2 * i + 1)).toInt ∧ _) ∧ _; exact ⟨⟨by omega, by omega⟩, by show _ ∨ _ = (X (fn + 2 * i + 1)).toInt; omega⟩)]; rw [fm_upx eh, td_e (fun z => eh (by have z1 : (X (fn + 2 * i)).toInt = (h : Int) := z; omega))]; exact i3 h h9)⟩))
            · skip
              refine g_aload_n hC dX0_tell_85 rfl 4 rfl ?_
              refine g_getR (ci := 0) (i := 0) (k := 45) (t := 46) hC fm_in0 rfl ly_45 rfl (by decide) fw_167 dX0_tell_86 ?_
              refine g_iload hC dX0_tell_89 2 rfl ?_
              refine g_ialdN (j := hr) (k := 46) hC ly_46 rfl (by omega) (by decide) dX0_tell_91 ?_
              refine g_top (y := Int32.ofInt (tdS (fun k => X (fn + k)) i hr)) (i3 hr hrb) ?_
              refine g_i2l (v := (Int32.ofInt (tdS (fun k => X (fn + k)) i hr)).toInt64) hC dX0_tell_92 rfl ?_
              refine g_lload hC dX0_tell_93 1 rfl ?_
              refine g_lcmp hC dX0_tell_95 ?_
              refine g_cmp_ne_T (X := tdS (fun k => X (fn + k)) i hr) (Y := (X (fn + 2 * i + 1)).toInt) hC ((ic_w _).trans (oI_t (by omega) (by omega))) rfl 112 dX0_tell_96 rfl (fun c_10 => ?_) (fun c_10 => ?_)
              · skip
                refine g_aload_n hC dX0_tell_112 rfl 4 rfl ?_
                refine g_getR (ci := 0) (i := 0) (k := 45) (t := 46) hC fm_in0 rfl ly_45 rfl (by decide) fw_167 dX0_tell_113 ?_
                refine g_iload hC dX0_tell_116 2 rfl ?_
                refine g_bipush (v := (-2)) hC dX0_tell_118 rfl ?_
                refine g_iastN (j := hr) (k := 46) hC ly_46 rfl (by omega) (by decide) dX0_tell_120 ?_
                refine g_iinc hC [(4, .int (nI (i + 1))), (8, .int 1), (6, .long (X (fn + 2 * i + 1))), (5, .int (nI hr)), (0, .ref (b + 45)), (1, .ref (b + (50 + 2 * q))), (2, .int (nI fn)), (3, .int (nI n))] dX0_tell_121 3 rfl (by rw [show Int32.ofInt 1 = nI 1 from rfl, nI_add]) (by decide) rfl ?_
                refine g_goto hC 11 dX0_tell_124 rfl ?_
                exact g_sub [0, 4, 5, 6, 7] rfl (ih_2 (fm_up M1 46 hr (-2)) (i + 1) (by omega) (⟨by omega, fun r hr2 => (by rw [fm_upn hr2]; exact i2 r hr2), fun h h9 => (by by_cases eh : h = hr; rw [eh, fm_ups, show tdS (fun k => X (fn + k)) (i + 1) hr = -2 from td_n hrS (fun z => by have z1 : 0 ≤ (X (fn + 2 * i + 1)).toInt := z.1.1; have z2 : (X (fn + 2 * i + 1)).toInt ≤ 48 := z.1.2; have z3 : tdS (fun k => X (fn + k)) i hr = -1 ∨ tdS (fun k => X (fn + k)) i hr = (X (fn + 2 * i + 1)).toInt := z.2; omega)]; rfl; rw [fm_upx eh, td_e (fun z => eh (by have z1 : (X (fn + 2 * i)).toInt = (h : Int) := z; omega))]; exact i3 h h9)⟩))
              · skip
                refine g_aload_n hC dX0_tell_99 rfl 4 rfl ?_
                refine g_getR (ci := 0) (i := 0) (k := 45) (t := 46) hC fm_in0 rfl ly_45 rfl (by decide) fw_167 dX0_tell_100 ?_
                refine g_iload hC dX0_tell_103 2 rfl ?_
                refine g_lload hC dX0_tell_105 1 rfl ?_
                refine g_l2i (v := (X (fn + 2 * i + 1)).toInt32) hC dX0_tell_107 rfl ?_
                refine g_top (y := Int32.ofInt (X (fn + 2 * i + 1)).toInt) (l2i_o _) ?_
                refine g_iastN (j := hr) (k := 46) hC ly_46 rfl (by omega) (by decide) dX0_tell_108 ?_
                refine g_goto hC 121 dX0_tell_109 rfl ?_
                refine g_iinc hC [(4, .int (nI (i + 1))), (8, .int 1), (6, .long (X (fn + 2 * i + 1))), (5, .int (nI hr)), (0, .ref (b + 45)), (1, .ref (b + (50 + 2 * q))), (2, .int (nI fn)), (3, .int (nI n))] dX0_tell_121 3 rfl (by rw [show Int32.ofInt 1 = nI 1 from rfl, nI_add]) (by decide) rfl ?_
                refine g_goto hC 11 dX0_tell_124 rfl ?_
                exact g_sub [0, 4, 5, 6, 7] rfl (ih_2 (fm_up M1 46 hr (Int32.ofInt (X (fn + 2 * i + 1)).toInt)) (i + 1) (by omega) (⟨by omega, fun r hr2 => (by rw [fm_upn hr2]; exact i2 r hr2), fun h h9 => (by by_cases eh : h = hr; rw [eh, fm_ups, show tdS (fun k => X (fn + k)) (i + 1) hr = (X (fn + 2 * i + 1)).toInt from td_y hrS (by show (0 ≤ (X (fn + 2 * i + 1)).toInt ∧ _) ∧ _; exact ⟨⟨by omega, by omega⟩, by show _ ∨ _ = (X (fn + 2 * i + 1)).toInt; omega⟩)]; rw [fm_upx eh, td_e (fun z => eh (by have z1 : (X (fn + 2 * i)).toInt = (h : Int) := z; omega))]; exact i3 h h9)⟩))
  exact g_sub [0, 1, 2, 3, 4] rfl (lp_11_2 (n - 0 + 1) M_1 0 (Nat.lt_succ_self _) (⟨Nat.zero_le _, f1_1, fun h h9 => (by rw [f2_1 h h9]; rfl)⟩))

theorem c_X0_keepTold (l : Launch) (D : va_G) (cA : Nat → ClassId) (b : Nat) (M : Nat → Nat → Int32) (L : Nat → Nat → Int64) (it : Nat → Int64) (n : Nat) (h : Nat) (hb : h < 25) (htd : M 46 h = Int32.ofInt (tdS it n h)) : fm_Met l D cA b yX0_keepTold cX0_keepTold 3 none 0 0 0 0 [.ref (b + 45), .int (nI h)] LAY M L LAY (fm_pv (fun M' L' => M' = M ∧ (∀ r, r ≠ 47 → L' r = L r) ∧ (∀ j, j < 49 → L' 47 j = if okT it n h j then L 47 j else 0))) := by
  refine fm_start RX0 rfl (by decide) (Nat.le_of_ble_eq_true rfl) ?_
  intro pq eq sq mq aq bq tq cq hC hin
  have tb := td_b it n h
  refine g_iconst (v := 0) hC dX0_keepTold_0 rfl ?_
  refine g_istore_n hC [(2, .int 0), (0, .ref (b + 45)), (1, .int (nI h))] dX0_keepTold_1 rfl (by decide) rfl ?_
  have lp_2_1 : ∀ (n_1 : Nat) (L1 : Nat → Nat → Int64) (i : Nat), 49 - i < n_1 → (i ≤ 49 ∧ (∀ r, r ≠ 47 → L1 r = L r) ∧ (∀ j, j < i → L1 47 j = if okT it n h j then L 47 j else 0) ∧ (∀ j, i ≤ j → L1 47 j = L 47 j)) → fm_G pq l eq (fm_rm 0 0 0 0) sq mq aq bq tq cq D cA b 3 (MQ bq (fm_Q D cA b LAY (fm_pv (fun M' L' => M' = M ∧ (∀ r, r ≠ 47 → L' r = L r) ∧ (∀ j, j < 49 → L' 47 j = if okT it n h j then L 47 j else 0)))) aq sq 0 0 (fun q => b ≤ q)) LAY M L1 0 0 2 [(0, .ref (b + 45)), (1, .int (nI h)), (2, .int (nI i))] [] := by
    intro n_1
    induction n_1 with
    | zero => intro L1 i hm_1; exact absurd hm_1 (Nat.not_lt_zero _)
    | succ n_1 ih_1 =>
      intro L1 i hm_1 hinv_1
      obtain ⟨j1, j2, j3, j4⟩ := hinv_1
      refine g_iload_n hC dX0_keepTold_2 rfl 2 rfl ?_
      refine g_bipush (v := 48) hC dX0_keepTold_3 rfl ?_
      refine g_icmp_gt_T (X := ((i : Nat) : Int)) (Y := 48) hC (nI_toInt (by omega)) rfl 41 dX0_keepTold_5 rfl (fun c_2 => ?_) (fun c_2 => ?_)
      · skip
        refine g_vret hC rfl dX0_keepTold_41 ?_
        exact ⟨rfl, rfl, j2, fun j hj => j3 j (by omega)⟩
      · skip
        refine g_aload_n hC dX0_keepTold_8 rfl 0 rfl ?_
        refine g_getR (ci := 0) (i := 0) (k := 45) (t := 46) hC fm_in0 rfl ly_45 rfl (by decide) fw_167 dX0_keepTold_9 ?_
        refine g_iload_n hC dX0_keepTold_12 rfl 1 rfl ?_
        refine g_ialdN (j := h) (k := 46) hC ly_46 rfl (by omega) (by decide) dX0_keepTold_13 ?_
        refine g_top (y := Int32.ofInt (tdS it n h)) htd ?_
        refine g_iconst (v := (-1)) hC dX0_keepTold_14 rfl ?_
        refine g_icmp_eq_T (X := tdS it n h) (Y := (-1)) hC (oI_t (by omega) (by omega)) rfl 41 dX0_keepTold_15 rfl (fun c_3 => ?_) (fun c_3 => ?_)
        · skip
          refine g_vret hC rfl dX0_keepTold_41 ?_
          exact ⟨rfl, rfl, j2, fun j hj => (by by_cases c9 : j < i; exact j3 j c9; rw [j4 j (by omega), if_pos ((td_ok (by omega) n).mp (Or.inl (by omega)))])⟩
        · skip
          refine g_iload_n hC dX0_keepTold_18 rfl 2 rfl ?_
          refine g_aload_n hC dX0_keepTold_19 rfl 0 rfl ?_
          refine g_getR (ci := 0) (i := 0) (k := 45) (t := 46) hC fm_in0 rfl ly_45 rfl (by decide) fw_167 dX0_keepTold_20 ?_
          refine g_iload_n hC dX0_keepTold_23 rfl 1 rfl ?_
          refine g_ialdN (j := h) (k := 46) hC ly_46 rfl (by omega) (by decide) dX0_keepTold_24 ?_
          refine g_top (y := Int32.ofInt (tdS it n h)) htd ?_
          refine g_icmp_eq_T (X := ((i : Nat) : Int)) (Y := tdS it n h) hC (nI_toInt (by omega)) (oI_t (by omega) (by omega)) 35 dX0_keepTold_25 rfl (fun c_4 => ?_) (fun c_4 => ?_)
          · skip
            refine g_iinc hC [(2, .int (nI (i + 1))), (0, .ref (b + 45)), (1, .int (nI h))] dX0_keepTold_35 2 rfl (by rw [show Int32.ofInt 1 = nI 1 from rfl, nI_add]) (by decide) rfl ?_
            refine g_goto hC 2 dX0_keepTold_38 rfl ?_
            exact g_sub [1, 2, 0] rfl (ih_1 L1 (i + 1) (by omega) (⟨by omega, j2, fun j hj => (by by_cases ej : j = i; rw [ej, j4 i (Nat.le_refl _), if_pos ((td_ok (by omega) n).mp (Or.inr (by omega)))]; exact j3 j (by omega)), fun j hj => j4 j (by omega)⟩))
          · skip
            refine g_aload_n hC dX0_keepTold_28 rfl 0 rfl ?_
            refine g_getR (ci := 0) (i := 1) (k := 45) (t := 47) hC fm_in0 rfl ly_45 rfl (by decide) fw_168 dX0_keepTold_29 ?_
            refine g_iload_n hC dX0_keepTold_32 rfl 2 rfl ?_
            refine g_lconst (v := 0) hC dX0_keepTold_33 rfl ?_
            refine g_lastN (j := i) (k := 47) hC ly_47 rfl (by omega) (by decide) dX0_keepTold_34 ?_
            refine g_iinc hC [(2, .int (nI (i + 1))), (0, .ref (b + 45)), (1, .int (nI h))] dX0_keepTold_35 2 rfl (by rw [show Int32.ofInt 1 = nI 1 from rfl, nI_add]) (by decide) rfl ?_
            refine g_goto hC 2 dX0_keepTold_38 rfl ?_
            exact g_sub [1, 2, 0] rfl (ih_1 (fm_upL L1 47 i 0) (i + 1) (by omega) (⟨by omega, fun r hr => (by rw [fm_upLn hr]; exact j2 r hr), fun j hj => (by rw [fm_upLv]; by_cases ej : j = i; rw [if_pos ej, ej, if_neg (fun z => by have := (td_ok (by omega) n).mpr z; omega)]; rw [if_neg ej]; exact j3 j (by omega)), fun j hj => (by rw [fm_upLv, if_neg (by omega)]; exact j4 j (by omega))⟩))
  exact g_sub [1, 2, 0] rfl (lp_2_1 (49 - 0 + 1) L 0 (Nat.lt_succ_self _) (⟨Nat.zero_le _, fun _ _ => rfl, fun j hj => absurd hj (Nat.not_lt_zero _), fun _ _ => rfl⟩))

theorem c_X0_passHour (l : Launch) (D : va_G) (cA : Nat → ClassId) (b : Nat) (M : Nat → Nat → Int32) (L : Nat → Nat → Int64) (lo : Nat) (hi : Nat) (hlo : lo ≤ hi) (hhi : hi ≤ 2) : fm_Met l D cA b yX0_passHour cX0_passHour 7 none 0 0 0 0 [.ref (b + 45), .int (nI lo), .int (nI hi)] LAY M L LAY (fm_pv (fun M' L' => M' = M ∧ (∀ r, r ≠ 47 → L' r = L r) ∧ (∀ j, j < 49 → L' 47 j = rgS (fun v => if v ≤ j then L 47 (j - v) else 0) lo (hi + 1 - lo)))) := by
  refine fm_start RX0 rfl (by decide) (Nat.le_of_ble_eq_true rfl) ?_
  intro pq eq sq mq aq bq tq cq hC hin
  refine g_bipush (v := 48) hC dX0_passHour_0 rfl ?_
  refine g_top (y := nI 49 + (-1)) (by decide) ?_
  refine g_istore_n hC [(3, .int (nI 49 + (-1))), (0, .ref (b + 45)), (1, .int (nI lo)), (2, .int (nI hi))] dX0_passHour_2 rfl (by decide) rfl ?_
  have lp_3_1 : ∀ (n_1 : Nat) (L1 : Nat → Nat → Int64) (n : Nat), n < n_1 → (n ≤ 49 ∧ (∀ r, r ≠ 47 → L1 r = L r) ∧ (∀ j, j < n → L1 47 j = L 47 j) ∧ (∀ j, n ≤ j → j < 49 → L1 47 j = rgS (fun v => if v ≤ j then L 47 (j - v) else 0) lo (hi + 1 - lo))) → fm_G pq l eq (fm_rm 0 0 0 0) sq mq aq bq tq cq D cA b 7 (MQ bq (fm_Q D cA b LAY (fm_pv (fun M' L' => M' = M ∧ (∀ r, r ≠ 47 → L' r = L r) ∧ (∀ j, j < 49 → L' 47 j = rgS (fun v => if v ≤ j then L 47 (j - v) else 0) lo (hi + 1 - lo))))) aq sq 0 0 (fun q => b ≤ q)) LAY M L1 0 0 3 [(0, .ref (b + 45)), (1, .int (nI lo)), (2, .int (nI hi)), (3, .int (nI n + (-1)))] [] := by
    intro n_1
    induction n_1 with
    | zero => intro L1 n hm_1; exact absurd hm_1 (Nat.not_lt_zero _)
    | succ n_1 ih_1 =>
      intro L1 n hm_1 hinv_1
      obtain ⟨j1, j2, j3, j4⟩ := hinv_1
      refine g_iload_n hC dX0_passHour_3 rfl 3 rfl ?_
      refine g_if_lt_T (X := ((n : Nat) : Int) - 1) hC (m1_t (by omega)) 59 dX0_passHour_4 rfl (fun c_2 => ?_) (fun c_2 => ?_)
      · skip
        refine g_vret hC rfl dX0_passHour_59 ?_
        exact ⟨rfl, rfl, j2, fun j hj => j4 j (by omega) hj⟩
      · skip
        obtain ⟨k, rfl⟩ : ∃ k, n = k + 1 := ⟨n - 1, by omega⟩
        rw [pk_m1 k]
        refine g_lconst (v := 0) hC dX0_passHour_7 rfl ?_
        refine g_lstore hC [(4, .long 0), (0, .ref (b + 45)), (1, .int (nI lo)), (2, .int (nI hi)), (3, .int (nI k))] dX0_passHour_8 (by decide) rfl ?_
        refine g_iload_n hC dX0_passHour_10 rfl 2 rfl ?_
        refine g_istore hC [(6, .int (nI lo)), (4, .long 0), (0, .ref (b + 45)), (1, .int (nI lo)), (2, .int (nI hi)), (3, .int (nI k))] dX0_passHour_11 (by decide) rfl ?_
        have lp_13_3 : ∀ (n_3 : Nat) (acc : Int64) (v : Nat), hi + 1 - v < n_3 → (lo ≤ v ∧ v ≤ hi + 1 ∧ acc = rgS (fun v => if v ≤ k then L 47 (k - v) else 0) lo (v - lo)) → fm_G pq l eq (fm_rm 0 0 0 0) sq mq aq bq tq cq D cA b 7 (MQ bq (fm_Q D cA b LAY (fm_pv (fun M' L' => M' = M ∧ (∀ r, r ≠ 47 → L' r = L r) ∧ (∀ j, j < 49 → L' 47 j = rgS (fun v => if v ≤ j then L 47 (j - v) else 0) lo (hi + 1 - lo))))) aq sq 0 0 (fun q => b ≤ q)) LAY M L1 0 0 13 [(0, .ref (b + 45)), (1, .int (nI lo)), (2, .int (nI hi)), (3, .int (nI k)), (4, .long acc), (6, .int (nI v))] [] := by
          intro n_3
          induction n_3 with
          | zero => intro acc v hm_3; exact absurd hm_3 (Nat.not_lt_zero _)
          | succ n_3 ih_3 =>
            intro acc v hm_3 hinv_3
            obtain ⟨v1, v2, ea⟩ := hinv_3
            refine g_iload hC dX0_passHour_13 5 rfl ?_
            refine g_iload_n hC dX0_passHour_15 rfl 2 rfl ?_
            refine g_icmp_gt_T (X := ((v : Nat) : Int)) (Y := ((hi : Nat) : Int)) hC (nI_toInt (by omega)) (nI_toInt (by omega)) 45 dX0_passHour_16 rfl (fun c_4 => ?_) (fun c_4 => ?_)
            · skip
              refine g_aload_n hC dX0_passHour_45 rfl 0 rfl ?_
              refine g_getR (ci := 0) (i := 1) (k := 45) (t := 47) hC fm_in0 rfl ly_45 rfl (by decide) fw_168 dX0_passHour_46 ?_
              refine g_iload_n hC dX0_passHour_49 rfl 3 rfl ?_
              refine g_lload hC dX0_passHour_50 4 rfl ?_
              refine g_lastN (j := k) (k := 47) hC ly_47 rfl (by omega) (by decide) dX0_passHour_52 ?_
              refine g_iinc hC [(3, .int (nI k + (-1))), (0, .ref (b + 45)), (1, .int (nI lo)), (2, .int (nI hi)), (4, .long acc), (6, .int (nI v))] dX0_passHour_53 3 rfl (congrArg (fun z => nI k + z) (by decide : Int32.ofInt (-1) = (-1 : Int32))) (by decide) rfl ?_
              refine g_goto hC 3 dX0_passHour_56 rfl ?_
              exact g_sub [1, 2, 3, 0] rfl (ih_1 (fm_upL L1 47 k acc) k (by omega) (⟨by omega, fun r hr => (by rw [fm_upLn hr]; exact j2 r hr), fun j hj => (by rw [fm_upLv, if_neg (by omega)]; exact j3 j (by omega)), fun j j9 hj => (by rw [fm_upLv]; by_cases ej : j = k; rw [if_pos ej, ej]; exact (by rw [ea, show v = hi + 1 by omega]); rw [if_neg ej]; exact j4 j (by omega) hj)⟩))
            · skip
              refine g_iload hC dX0_passHour_19 5 rfl ?_
              refine g_iload_n hC dX0_passHour_21 rfl 3 rfl ?_
              refine g_icmp_gt_T (X := ((v : Nat) : Int)) (Y := ((k : Nat) : Int)) hC (nI_toInt (by omega)) (nI_toInt (by omega)) 45 dX0_passHour_22 rfl (fun c_5 => ?_) (fun c_5 => ?_)
              · skip
                refine g_aload_n hC dX0_passHour_45 rfl 0 rfl ?_
                refine g_getR (ci := 0) (i := 1) (k := 45) (t := 47) hC fm_in0 rfl ly_45 rfl (by decide) fw_168 dX0_passHour_46 ?_
                refine g_iload_n hC dX0_passHour_49 rfl 3 rfl ?_
                refine g_lload hC dX0_passHour_50 4 rfl ?_
                refine g_lastN (j := k) (k := 47) hC ly_47 rfl (by omega) (by decide) dX0_passHour_52 ?_
                refine g_iinc hC [(3, .int (nI k + (-1))), (0, .ref (b + 45)), (1, .int (nI lo)), (2, .int (nI hi)), (4, .long acc), (6, .int (nI v))] dX0_passHour_53 3 rfl (congrArg (fun z => nI k + z) (by decide : Int32.ofInt (-1) = (-1 : Int32))) (by decide) rfl ?_
                refine g_goto hC 3 dX0_passHour_56 rfl ?_
                exact g_sub [1, 2, 3, 0] rfl (ih_1 (fm_upL L1 47 k acc) k (by omega) (⟨by omega, fun r hr => (by rw [fm_upLn hr]; exact j2 r hr), fun j hj => (by rw [fm_upLv, if_neg (by omega)]; exact j3 j (by omega)), fun j j9 hj => (by rw [fm_upLv]; by_cases ej : j = k; rw [if_pos ej, ej]; exact (by rw [ea]; exact (rg_z (hi + 1 - lo) (by omega) (fun u u1 u2 => if_neg (by omega))).symm); rw [if_neg ej]; exact j4 j (by omega) hj)⟩))
              · skip
                refine g_lload hC dX0_passHour_25 4 rfl ?_
                refine g_aload_n hC dX0_passHour_27 rfl 0 rfl ?_
                refine g_getR (ci := 0) (i := 1) (k := 45) (t := 47) hC fm_in0 rfl ly_45 rfl (by decide) fw_168 dX0_passHour_28 ?_
                refine g_iload_n hC dX0_passHour_31 rfl 3 rfl ?_
                refine g_iload hC dX0_passHour_32 5 rfl ?_
                refine g_isub hC dX0_passHour_34 ?_
                refine g_top (y := nI (k - v)) (pk_sub (a := k) (b := v) (by omega)) ?_
                refine g_laldN (j := k - v) (k := 47) hC ly_47 rfl (by omega) (by decide) dX0_passHour_35 ?_
                refine g_ladd hC dX0_passHour_36 ?_
                refine g_lstore hC [(4, .long (acc + (L1 47 (k - v)))), (0, .ref (b + 45)), (1, .int (nI lo)), (2, .int (nI hi)), (3, .int (nI k)), (6, .int (nI v))] dX0_passHour_37 (by decide) rfl ?_
                refine g_iinc hC [(6, .int (nI (v + 1))), (4, .long (acc + (L1 47 (k - v)))), (0, .ref (b + 45)), (1, .int (nI lo)), (2, .int (nI hi)), (3, .int (nI k))] dX0_passHour_39 5 rfl (by rw [show Int32.ofInt 1 = nI 1 from rfl, nI_add]) (by decide) rfl ?_
                refine g_goto hC 13 dX0_passHour_42 rfl ?_
                exact g_sub [2, 3, 4, 5, 1, 0] rfl (ih_3 (acc + (L1 47 (k - v))) (v + 1) (by omega) (⟨by omega, by omega, by rw [show v + 1 - lo = (v - lo) + 1 by omega, rg_s, ea, show lo + (v - lo) = v by omega, if_pos (show v ≤ k by omega), j3 (k - v) (by omega)]⟩))
        exact g_sub [2, 3, 4, 5, 1, 0] rfl (lp_13_3 (hi + 1 - lo + 1) 0 lo (Nat.lt_succ_self _) (⟨Nat.le_refl _, by omega, by rw [Nat.sub_self]; rfl⟩))
  exact g_sub [1, 2, 3, 0] rfl (lp_3_1 (49 + 1) L 49 (Nat.lt_succ_self _) (⟨by decide, fun _ _ => rfl, fun _ _ => rfl, fun j j9 hj => by omega⟩))
