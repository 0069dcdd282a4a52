/-! ===== sheets: the calls, the class ===== -/
abbrev Shs : Type := (Nat → Int) × (Nat → Nat) × (Nat → Nat → Int64)
def uF {α : Type} (f : Nat → α) (i : Nat) (v : α) : Nat → α := fun a => if a = i then v else f a
theorem uF_s {α : Type} {f : Nat → α} {i : Nat} {v : α} : uF f i v i = v := if_pos rfl
theorem uF_n {α : Type} {f : Nat → α} {i a : Nat} {v : α} (h : a ≠ i) : uF f i v a = f a := if_neg h
def shU (S : Shs) (q : Nat) (v : Int) (n : Nat) (X : Nat → Int64) : Shs := (uF S.1 q v, uF S.2.1 q n, uF S.2.2 q X)
def shS (g : Sg) (S : Shs) : Sg := (g.1, g.2.1, g.2.2.1, g.2.2.2.1, S)
/-- why w items from f on of a sheet can't be taken -/
def shR (S : Shs) (x ln f : Int) (w : Nat) : Int32 := if ¬ ((0 ≤ x ∧ x < 4) ∧ (0 ≤ ln ∧ ln ≤ 2)) then -1 else if S.1 x.toNat < 0 then -11 else if S.1 x.toNat ≠ ln then -12 else if 0 ≤ f ∧ f + (w : Int) ≤ (S.2.1 x.toNat : Int) then 0 else -13
theorem shR_0 {S : Shs} {x ln f : Int} {w : Nat} (h : (shR S x ln f w).toInt = 0) : ((0 ≤ x ∧ x < 4) ∧ (0 ≤ ln ∧ ln ≤ 2)) ∧ S.1 x.toNat = ln ∧ 0 ≤ f ∧ f + (w : Int) ≤ (S.2.1 x.toNat : Int) := by
  unfold shR at h
  by_cases c1 : ¬ ((0 ≤ x ∧ x < 4) ∧ (0 ≤ ln ∧ ln ≤ 2))
  · rw [if_pos c1] at h; exact absurd h (by decide)
  · rw [if_neg c1] at h
    by_cases c2 : S.1 x.toNat < 0
    · rw [if_pos c2] at h; exact absurd h (by decide)
    · rw [if_neg c2] at h
      by_cases c3 : S.1 x.toNat ≠ ln
      · rw [if_pos c3] at h; exact absurd h (by decide)
      · rw [if_neg c3] at h
        by_cases c4 : 0 ≤ f ∧ f + (w : Int) ≤ (S.2.1 x.toNat : Int)
        · exact ⟨Classical.not_not.mp c1, Classical.not_not.mp c3, c4⟩
        · rw [if_neg c4] at h; exact absurd h (by decide)
theorem shR_n (S : Shs) (x ln f : Int) (w : Nat) : -13 ≤ (shR S x ln f w).toInt ∧ (shR S x ln f w).toInt ≤ 0 := by
  unfold shR
  (repeat' split) <;> decide
def op_sheet (g : Sg) (x ln n : Int32) : Int32 × Sg := if ¬ ((0 ≤ x.toInt ∧ x.toInt < 4) ∧ (0 ≤ ln.toInt ∧ ln.toInt ≤ 2)) ∨ 24 < n.toInt then (-1, g) else if n.toInt < 0 then (-14, g) else (n, shS g (shU g.2.2.2.2 x.toInt.toNat ln.toInt n.toInt.toNat (fun _ => 0)))
def op_drop (g : Sg) (x : Int32) : Int32 × Sg := if ¬ (0 ≤ x.toInt ∧ x.toInt < 4) then (-1, g) else if g.2.2.2.2.1 x.toInt.toNat < 0 then (-11, g) else (nI (g.2.2.2.2.2.1 x.toInt.toNat), shS g (shU g.2.2.2.2 x.toInt.toNat (-1) (g.2.2.2.2.2.1 x.toInt.toNat) (g.2.2.2.2.2.2 x.toInt.toNat)))
def op_item (g : Sg) (x ln i : Int32) (v : Int64) : Int32 × Sg := if (shR g.2.2.2.2 x.toInt ln.toInt i.toInt 1).toInt ≠ 0 then (shR g.2.2.2.2 x.toInt ln.toInt i.toInt 1, g) else (1, shS g (shU g.2.2.2.2 x.toInt.toNat (g.2.2.2.2.1 x.toInt.toNat) (g.2.2.2.2.2.1 x.toInt.toNat) (fun j => if j = i.toInt.toNat then asL ln.toInt v else g.2.2.2.2.2.2 x.toInt.toNat j)))
def op_film (g : Sg) (x ln f : Int32) : Int32 × Sg := if (shR g.2.2.2.2 x.toInt ln.toInt f.toInt 24).toInt ≠ 0 then (shR g.2.2.2.2 x.toInt ln.toInt f.toInt 24, g) else (24, shS g (shU g.2.2.2.2 x.toInt.toNat (g.2.2.2.2.1 x.toInt.toNat) (g.2.2.2.2.2.1 x.toInt.toNat) (fun j => if f.toInt.toNat ≤ j ∧ j < f.toInt.toNat + 24 then (Int32.ofInt (g.1.2.1 (j - f.toInt.toNat))).toInt64 else g.2.2.2.2.2.2 x.toInt.toNat j)))
def buT (g : Sg) (x f : Int32) : Tn := (g.1.1, (fun h => (g.2.2.2.2.2.2 x.toInt.toNat (f.toInt.toNat + h)).toInt), g.1.2.2)
def op_build (g : Sg) (x ln f : Int32) : Int32 × Sg := if (shR g.2.2.2.2 x.toInt ln.toInt f.toInt 24).toInt ≠ 0 then (shR g.2.2.2.2 x.toInt ln.toInt f.toInt 24 - 100000000, g) else if ∀ h, h < 24 → -2 ≤ (g.2.2.2.2.2.2 x.toInt.toNat (f.toInt.toNat + h)).toInt ∧ (g.2.2.2.2.2.2 x.toInt.toNat (f.toInt.toNat + h)).toInt ≤ 5 then (Int32.ofInt (gainS (buT g x f) (buT g x f).2.1), (buT g x f, g.2)) else (-100000002, g)
def op_copy (g : Sg) (x i y j n : Int32) : Int32 × Sg := if ¬ ((0 ≤ x.toInt ∧ x.toInt < 4) ∧ (0 ≤ y.toInt ∧ y.toInt < 4)) then (-1, g) else if g.2.2.2.2.1 x.toInt.toNat < 0 ∨ g.2.2.2.2.1 y.toInt.toNat < 0 then (-11, g) else if g.2.2.2.2.1 x.toInt.toNat ≠ g.2.2.2.2.1 y.toInt.toNat then (-12, g) else if ¬ (0 ≤ n.toInt ∧ (0 ≤ i.toInt ∧ i.toInt ≤ (g.2.2.2.2.2.1 x.toInt.toNat : Int) - n.toInt) ∧ (0 ≤ j.toInt ∧ j.toInt ≤ (g.2.2.2.2.2.1 y.toInt.toNat : Int) - n.toInt)) then (-13, g) else (n, shS g (shU g.2.2.2.2 y.toInt.toNat (g.2.2.2.2.1 y.toInt.toNat) (g.2.2.2.2.2.1 y.toInt.toNat) (fun k => if j.toInt.toNat ≤ k ∧ k < j.toInt.toNat + n.toInt.toNat then g.2.2.2.2.2.2 x.toInt.toNat (i.toInt.toNat + (k - j.toInt.toNat)) else g.2.2.2.2.2.2 y.toInt.toNat k)))
theorem sC_set {M M' : Nat → Nat → Int32} {L L' : Nat → Nat → Int64} {S : Shs} {q n : Nat} {v : Int} {X : Nat → Int64} (h : sC M L S) (e : ∀ r, r < 4 → r ≠ q → M' (50 + 2 * r) = M (50 + 2 * r) ∧ L' (51 + 2 * r) = L (51 + 2 * r)) (a : M' (50 + 2 * q) 0 = Int32.ofInt v) (c : 0 ≤ v → M' (50 + 2 * q) 1 = nI n ∧ ∀ i, i < 24 → L' (51 + 2 * q) i = X i) : sC M' L' (shU S q v n X) := fun r hr => by
  by_cases e1 : r = q
  · subst e1
    simp only [shU, uF_s]
    exact ⟨a, c⟩
  · simp only [shU, uF_n e1]
    rw [(e r hr e1).1, (e r hr e1).2]
    exact h r hr
theorem CS_sh {M M' : Nat → Nat → Int32} {L L' : Nat → Nat → Int64} {g : Sg} (h : CS M L g) (hok : OK g) {S : Shs} (e : ∀ k, k < 50 → M' k = M k) (s : sC M' L' S) : CS M' L' (shS g S) := by
  obtain ⟨h1, h2, h3, h4, h5⟩ := h
  refine ⟨tC_cong h1 hok.1.2.2.2.1 (fun k k1 k2 => e k (by omega)), fun q => tC_cong (h2 q) ((hok.2.1 q).2.2.2.1) (fun k k1 k2 => e k (by omega)), ?_, pC_cong h4 (e 29 (by omega)) (e 30 (by omega)), s⟩
  rw [e 0 (by omega)]; exact h3
theorem sb_n {cnt : Nat} {n : Int32} {Z : Int} (h : cnt ≤ 24) (hz : n.toInt = Z) (h0 : 0 ≤ Z) : (nI cnt - n).toInt = (cnt : Int) - Z := by
  have := ic_rng n
  rw [nI_oI, ← oI_of n, oI_sub, oI_t (by omega) (by omega), hz]
theorem nI_nn {n : Nat} (h : n < 1000000) : ¬ nI n < 0 := by
  rw [ic_lt, nI_toInt (by omega), show (0 : Int32).toInt = 0 from rfl]
  omega
theorem l2i_s {v : Int64} (h : -2 ≤ v.toInt) (h2 : v.toInt ≤ 5) : v.toInt32 = Int32.ofInt v.toInt := by
  apply Int32.toInt_inj.mp
  rw [Int64.toInt_toInt32, oI_t (by omega) (by omega), Int.bmod_eq_of_le (by omega) (by omega)]

theorem c_X3_hasRange (l : Launch) (D : va_G) (cA : Nat → ClassId) (b : Nat) (M : Nat → Nat → Int32) (L : Nat → Nat → Int64) (c : Nat) (cnt : Nat) (t : Nat) (f : Int32) (n : Int32) (F : Int) (Z : Int) (hc : LAY[c]? = some (0, 3, [0, 0, t + 2])) (hcnt : M c 1 = nI cnt) (hcl : cnt ≤ 24) (hF : f.toInt = F) (hZ : n.toInt = Z) : fm_Met l D cA b yX3_hasRange cX3_hasRange 3 (some .boolean) 0 0 0 0 [.ref (b + c), .int f, .int n] LAY M L LAY (fm_pi (bi (0 ≤ Z ∧ 0 ≤ F ∧ F ≤ (cnt : Int) - Z)) M L) := by
  refine fm_start RX3 rfl (by decide) (Nat.le_of_ble_eq_true rfl) ?_
  intro pq eq sq mq aq bq tq cq hC hin
  refine g_iload_n hC dX3_hasRange_0 rfl 2 rfl ?_
  refine g_if_lt_T (X := Z) hC hZ 22 dX3_hasRange_1 rfl (fun c_1 => ?_) (fun c_1 => ?_)
  · skip
    refine g_iconst (v := 0) hC dX3_hasRange_22 rfl ?_
    refine g_zret (ty := .boolean) hC rfl rfl dX3_hasRange_23 ⟨congrArg (fun z => some (Value.int z)) ?_, rfl, rfl⟩
    exact bi_0 (by omega)
  · skip
    refine g_iload_n hC dX3_hasRange_4 rfl 1 rfl ?_
    refine g_if_lt_T (X := F) hC hF 22 dX3_hasRange_5 rfl (fun c_2 => ?_) (fun c_2 => ?_)
    · skip
      refine g_iconst (v := 0) hC dX3_hasRange_22 rfl ?_
      refine g_zret (ty := .boolean) hC rfl rfl dX3_hasRange_23 ⟨congrArg (fun z => some (Value.int z)) ?_, rfl, rfl⟩
      exact bi_0 (by omega)
    · skip
      refine g_iload_n hC dX3_hasRange_8 rfl 1 rfl ?_
      refine g_aload_n hC dX3_hasRange_9 rfl 0 rfl ?_
      refine g_getI (ci := 3) (i := 1) (k := c) hC fm_in3 rfl hc rfl (by decide) fw_184 dX3_hasRange_10 ?_
      refine g_top (y := nI cnt) hcnt ?_
      refine g_iload_n hC dX3_hasRange_13 rfl 2 rfl ?_
      refine g_isub hC dX3_hasRange_14 ?_
      refine g_top (y := nI cnt - n) rfl ?_
      refine g_icmp_gt_T (X := F) (Y := (cnt : Int) - Z) hC hF (sb_n hcl hZ (by omega)) 22 dX3_hasRange_15 rfl (fun c_3 => ?_) (fun c_3 => ?_)
      · skip
        refine g_iconst (v := 0) hC dX3_hasRange_22 rfl ?_
        refine g_zret (ty := .boolean) hC rfl rfl dX3_hasRange_23 ⟨congrArg (fun z => some (Value.int z)) ?_, rfl, rfl⟩
        exact bi_0 (by omega)
      · skip
        refine g_iconst (v := 1) hC dX3_hasRange_18 rfl ?_
        refine g_goto hC 23 dX3_hasRange_19 rfl ?_
        refine g_zret (ty := .boolean) hC rfl rfl dX3_hasRange_23 ⟨congrArg (fun z => some (Value.int z)) ?_, rfl, rfl⟩
        exact bi_1 (by omega)

theorem c_X3_begin (l : Launch) (D : va_G) (cA : Nat → ClassId) (b : Nat) (M : Nat → Nat → Int32) (L : Nat → Nat → Int64) (q : Nat) (ln : Int32) (n : Int32) (qb : q < 4) : fm_Met l D cA b yX3_begin cX3_begin 3 none 1 24 0 0 [.ref (b + (50 + 2 * q)), .int ln, .int n] LAY M L LAY (fm_pv (fun M' L' => M' = fm_up (fm_up M (50 + 2 * q) 0 ln) (50 + 2 * q) 1 n ∧ (∀ r, r ≠ 51 + 2 * q → L' r = L r) ∧ (∀ j, j < 24 → L' (51 + 2 * q) j = 0))) := by
  refine fm_start RX3 rfl (by decide) (Nat.le_of_ble_eq_true rfl) ?_
  intro pq eq sq mq aq bq tq cq hC hin
  refine g_aload_n hC dX3_begin_0 rfl 0 rfl ?_
  refine g_iload_n hC dX3_begin_1 rfl 1 rfl ?_
  refine g_putI (ci := 3) (i := 0) (k := (50 + 2 * q)) hC fm_in3 tyX3 tyX3_ok nmX3 rfl (fm_she _ qb) rfl (by decide) fw_182 rfl rfl rfl dX3_begin_2 ?_
  refine g_aload_n hC dX3_begin_5 rfl 0 rfl ?_
  refine g_iload_n hC dX3_begin_6 rfl 2 rfl ?_
  refine g_putI (ci := 3) (i := 1) (k := (50 + 2 * q)) hC fm_in3 tyX3 tyX3_ok nmX3 rfl (fm_she _ qb) rfl (by decide) fw_184 rfl rfl rfl dX3_begin_7 ?_
  refine g_aload_n hC dX3_begin_10 rfl 0 rfl ?_
  refine g_getR (ci := 3) (i := 2) (k := (50 + 2 * q)) (t := 51 + 2 * q) hC fm_in3 rfl (fm_she _ qb) rfl (by decide) fw_186 dX3_begin_11 ?_
  refine g_lconst (v := 0) hC dX3_begin_14 rfl ?_
  refine g_callS hC (as := [.ref (b + (51 + 2 * q)), .long 0]) (rest := []) (c_J7_fill_d0a16 l D cA b LAY (fm_up (fm_up M (50 + 2 * q) 0 ln) (50 + 2 * q) 1 n) L (51 + 2 * q) 24 0 (fm_itm _ qb) (by decide)) ⟨fw_601, fw_562, fw_4, fw_563⟩ hd_J7_fill_d0a16 ⟨Nat.le_of_ble_eq_true rfl, Nat.le_of_ble_eq_true rfl⟩ ⟨Nat.le_of_ble_eq_true rfl, Nat.le_of_ble_eq_true rfl⟩ rfl rfl (Nat.le_of_ble_eq_true rfl) dX3_begin_15 (g_rv (fun M_1 L_1 h_1 => ?_))
  obtain ⟨f1_1, f2_1, f3_1⟩ := h_1
  rw [f3_1]
  refine g_vret hC rfl dX3_begin_18 ?_
  exact ⟨rfl, rfl, f1_1, f2_1⟩

theorem c_X3_put (l : Launch) (D : va_G) (cA : Nat → ClassId) (b : Nat) (M : Nat → Nat → Int32) (L : Nat → Nat → Int64) (q : Nat) (i : Nat) (ln : Int) (v : Int64) (qb : q < 4) (ib : i < 24) (hl : M (50 + 2 * q) 0 = Int32.ofInt ln) (hl2 : -1 ≤ ln ∧ ln ≤ 2) : fm_Met l D cA b yX3_put cX3_put 4 none 0 0 0 0 [.ref (b + (50 + 2 * q)), .int (nI i), .long v] LAY M L LAY (fm_pvx M (fm_upL L (51 + 2 * q) i (asL ln v))) := by
  refine fm_start RX3 rfl (by decide) (Nat.le_of_ble_eq_true rfl) ?_
  intro pq eq sq mq aq bq tq cq hC hin
  refine g_aload_n hC dX3_put_0 rfl 0 rfl ?_
  refine g_getI (ci := 3) (i := 0) (k := (50 + 2 * q)) hC fm_in3 rfl (fm_she _ qb) rfl (by decide) fw_182 dX3_put_1 ?_
  refine g_top (y := Int32.ofInt ln) hl ?_
  refine g_if_ne_T (X := ln) hC (oI_t (by omega) (by omega)) 20 dX3_put_4 rfl (fun c_1 => ?_) (fun c_1 => ?_)
  · skip
    refine g_aload_n hC dX3_put_20 rfl 0 rfl ?_
    refine g_getI (ci := 3) (i := 0) (k := (50 + 2 * q)) hC fm_in3 rfl (fm_she _ qb) rfl (by decide) fw_182 dX3_put_21 ?_
    refine g_top (y := Int32.ofInt ln) hl ?_
    refine g_iconst (v := 1) hC dX3_put_24 rfl ?_
    refine g_icmp_ne_T (X := ln) (Y := 1) hC (oI_t (by omega) (by omega)) rfl 40 dX3_put_25 rfl (fun c_2 => ?_) (fun c_2 => ?_)
    · skip
      refine g_aload_n hC dX3_put_40 rfl 0 rfl ?_
      refine g_getR (ci := 3) (i := 2) (k := (50 + 2 * q)) (t := 51 + 2 * q) hC fm_in3 rfl (fm_she _ qb) rfl (by decide) fw_186 dX3_put_41 ?_
      refine g_iload_n hC dX3_put_44 rfl 1 rfl ?_
      refine g_lload_n hC dX3_put_45 rfl 2 rfl ?_
      refine g_lastN (j := i) (k := 51 + 2 * q) hC (fm_itm _ qb) rfl (by omega) (by decide) dX3_put_46 ?_
      refine g_vret hC rfl dX3_put_47 ?_
      refine ⟨rfl, rfl, ?_⟩
      unfold asL
      rw [if_neg (by omega), if_neg (by omega)]
    · skip
      refine g_aload_n hC dX3_put_28 rfl 0 rfl ?_
      refine g_getR (ci := 3) (i := 2) (k := (50 + 2 * q)) (t := 51 + 2 * q) hC fm_in3 rfl (fm_she _ qb) rfl (by decide) fw_186 dX3_put_29 ?_
      refine g_iload_n hC dX3_put_32 rfl 1 rfl ?_
      refine g_lload_n hC dX3_put_33 rfl 2 rfl ?_
      refine g_l2i (v := v.toInt32) hC dX3_put_34 rfl ?_
      refine g_i2l (v := v.toInt32.toInt64) hC dX3_put_35 rfl ?_
      refine g_lastN (j := i) (k := 51 + 2 * q) hC (fm_itm _ qb) rfl (by omega) (by decide) dX3_put_36 ?_
      refine g_goto hC 47 dX3_put_37 rfl ?_
      refine g_vret hC rfl dX3_put_47 ?_
      refine ⟨rfl, rfl, ?_⟩
      unfold asL
      rw [if_neg (by omega), if_pos (by omega)]
  · skip
    refine g_aload_n hC dX3_put_7 rfl 0 rfl ?_
    refine g_getR (ci := 3) (i := 2) (k := (50 + 2 * q)) (t := 51 + 2 * q) hC fm_in3 rfl (fm_she _ qb) rfl (by decide) fw_186 dX3_put_8 ?_
    refine g_iload_n hC dX3_put_11 rfl 1 rfl ?_
    refine g_lload_n hC dX3_put_12 rfl 2 rfl ?_
    refine g_l2i (v := v.toInt32) hC dX3_put_13 rfl ?_
    refine g_i2b (v := v.toInt32.toInt8.toInt32) hC dX3_put_14 rfl ?_
    refine g_i2l (v := v.toInt32.toInt8.toInt32.toInt64) hC dX3_put_15 rfl ?_
    refine g_lastN (j := i) (k := 51 + 2 * q) hC (fm_itm _ qb) rfl (by omega) (by decide) dX3_put_16 ?_
    refine g_goto hC 47 dX3_put_17 rfl ?_
    refine g_vret hC rfl dX3_put_47 ?_
    refine ⟨rfl, rfl, ?_⟩
    unfold asL
    rw [if_pos (by omega)]

theorem c_X6_rowRefusal (l : Launch) (D : va_G) (cA : Nat → ClassId) (b : Nat) (M : Nat → Nat → Int32) (L : Nat → Nat → Int64) (g : Sg) (x : Int32) (ln : Int32) (f : Int32) (w : Nat) (hS : CS M L g) (hok : OK g) (hw : w ≤ 24) : fm_Met l D cA b yX6_rowRefusal cX6_rowRefusal 5 (some .int) 1 22 0 0 [.ref (b + 0), .int x, .int ln, .int f, .int (nI w)] LAY M L LAY (fm_pi (shR g.2.2.2.2 x.toInt ln.toInt f.toInt w) M L) := by
  refine fm_start RX6 rfl (by decide) (Nat.le_of_ble_eq_true rfl) ?_
  intro pq eq sq mq aq bq tq cq hC hin
  refine g_iload_n hC dX6_rowRefusal_0 rfl 1 rfl ?_
  refine g_callS hC (as := [.int x]) (rest := []) (c_X6_isSheet l D cA b LAY M L x x.toInt rfl) ⟨fw_536, fw_537, fw_1, fw_538⟩ hd_X6_isSheet ⟨Nat.le_of_ble_eq_true rfl, Nat.le_of_ble_eq_true rfl⟩ ⟨Nat.le_of_ble_eq_true rfl, Nat.le_of_ble_eq_true rfl⟩ rfl rfl (Nat.le_of_ble_eq_true rfl) dX6_rowRefusal_1 (g_rix ?_)
  refine g_ifb_eq hC 14 dX6_rowRefusal_4 rfl (fun c_2 => ?_) (fun c_2 => ?_)
  · skip
    refine g_iconst (v := (-1)) hC dX6_rowRefusal_14 rfl ?_
    refine g_zret (ty := .int) hC rfl rfl dX6_rowRefusal_15 ⟨congrArg (fun z => some (Value.int z)) ?_, rfl, rfl⟩
    unfold shR; rw [if_pos (by omega)]
  · skip
    refine g_iload_n hC dX6_rowRefusal_7 rfl 2 rfl ?_
    refine g_callS hC (as := [.int ln]) (rest := []) (c_X6_isLane l D cA b LAY M L ln ln.toInt rfl) ⟨fw_539, fw_540, fw_1, fw_541⟩ hd_X6_isLane ⟨Nat.le_of_ble_eq_true rfl, Nat.le_of_ble_eq_true rfl⟩ ⟨Nat.le_of_ble_eq_true rfl, Nat.le_of_ble_eq_true rfl⟩ rfl rfl (Nat.le_of_ble_eq_true rfl) dX6_rowRefusal_8 (g_rix ?_)
    refine g_ifb_ne hC 16 dX6_rowRefusal_11 rfl (fun c_4 => ?_) (fun c_4 => ?_)
    · skip
      obtain ⟨q, qb, qE⟩ : ∃ j9 : Nat, j9 < 4 ∧ x = nI j9 := ic_of (by omega) (by omega)
      subst qE
      have qt : (nI q).toInt = (q : Int) := nI_toInt (by omega)
      have qn : (nI q).toInt.toNat = q := by omega
      have qs := hS.2.2.2.2 q qb
      have qo := hok.2.2.2.2 q qb
      refine g_aload_n hC dX6_rowRefusal_16 rfl 0 rfl ?_
      refine g_getR (ci := 6) (i := 6) (k := 0) (t := 48) hC fm_in6 rfl ly_0 rfl (by decide) fw_202 dX6_rowRefusal_17 ?_
      refine g_iload_n hC dX6_rowRefusal_20 rfl 1 rfl ?_
      refine g_aald5N (j := q) (t := 50 + 2 * q) (k := 48) hC ly_48 rfl (by omega) (by decide) (fm_z50 _ (by omega)) dX6_rowRefusal_21 ?_
      refine g_getI (ci := 3) (i := 0) (k := 50 + 2 * q) hC fm_in3 rfl (fm_she _ (by omega)) rfl (by decide) fw_183 dX6_rowRefusal_22 ?_
      refine g_top (y := Int32.ofInt (g.2.2.2.2.1 q)) qs.1 ?_
      refine g_iconst (v := (-1)) hC dX6_rowRefusal_25 rfl ?_
      refine g_icmp_ne_T (X := g.2.2.2.2.1 q) (Y := (-1)) hC (oI_t (by omega) (by omega)) rfl 32 dX6_rowRefusal_26 rfl (fun c_5 => ?_) (fun c_5 => ?_)
      · skip
        refine g_aload_n hC dX6_rowRefusal_32 rfl 0 rfl ?_
        refine g_getR (ci := 6) (i := 6) (k := 0) (t := 48) hC fm_in6 rfl ly_0 rfl (by decide) fw_202 dX6_rowRefusal_33 ?_
        refine g_iload_n hC dX6_rowRefusal_36 rfl 1 rfl ?_
        refine g_aald5N (j := q) (t := 50 + 2 * q) (k := 48) hC ly_48 rfl (by omega) (by decide) (fm_z50 _ (by omega)) dX6_rowRefusal_37 ?_
        refine g_getI (ci := 3) (i := 0) (k := 50 + 2 * q) hC fm_in3 rfl (fm_she _ (by omega)) rfl (by decide) fw_183 dX6_rowRefusal_38 ?_
        refine g_top (y := Int32.ofInt (g.2.2.2.2.1 q)) qs.1 ?_
        refine g_iload_n hC dX6_rowRefusal_41 rfl 2 rfl ?_
        refine g_icmp_eq_T (X := g.2.2.2.2.1 q) (Y := ln.toInt) hC (oI_t (by omega) (by omega)) rfl 48 dX6_rowRefusal_42 rfl (fun c_6 => ?_) (fun c_6 => ?_)
        · skip
          refine g_aload_n hC dX6_rowRefusal_48 rfl 0 rfl ?_
          refine g_getR (ci := 6) (i := 6) (k := 0) (t := 48) hC fm_in6 rfl ly_0 rfl (by decide) fw_202 dX6_rowRefusal_49 ?_
          refine g_iload_n hC dX6_rowRefusal_52 rfl 1 rfl ?_
          refine g_aald5N (j := q) (t := 50 + 2 * q) (k := 48) hC ly_48 rfl (by omega) (by decide) (fm_z50 _ (by omega)) dX6_rowRefusal_53 ?_
          refine g_iload_n hC dX6_rowRefusal_54 rfl 3 rfl ?_
          refine g_iload hC dX6_rowRefusal_55 4 rfl ?_
          refine g_callV hC (k := 50 + 2 * q) (ci := 3) (as := [.int f, .int (nI w)]) (rest := []) (c_X3_hasRange l D cA b M L (50 + 2 * q) (g.2.2.2.2.2.1 q) (51 + 2 * q) f (nI w) f.toInt ((w : Nat) : Int) (fm_she _ (by omega)) ((qs.2 (by omega)).1) qo.2.2 rfl (nI_toInt (by omega))) ⟨fw_542, fw_543, fw_544, fw_8, fw_545⟩ ⟨rfl, hd_X3_hasRange⟩ rfl (fm_she _ (by omega)) ⟨Nat.le_of_ble_eq_true rfl, Nat.le_of_ble_eq_true rfl⟩ ⟨Nat.le_of_ble_eq_true rfl, Nat.le_of_ble_eq_true rfl⟩ rfl rfl (Nat.le_of_ble_eq_true rfl) dX6_rowRefusal_57 (g_rix ?_)
          refine g_ifb_eq hC 67 dX6_rowRefusal_60 rfl (fun c_8 => ?_) (fun c_8 => ?_)
          · skip
            refine g_bipush (v := (-13)) hC dX6_rowRefusal_67 rfl ?_
            refine g_zret (ty := .int) hC rfl rfl dX6_rowRefusal_69 ⟨congrArg (fun z => some (Value.int z)) ?_, rfl, rfl⟩
            unfold shR; rw [if_neg (by omega), qn, if_neg (by omega), if_neg (by omega), if_neg (by omega)]
          · skip
            refine g_iconst (v := 0) hC dX6_rowRefusal_63 rfl ?_
            refine g_goto hC 69 dX6_rowRefusal_64 rfl ?_
            refine g_zret (ty := .int) hC rfl rfl dX6_rowRefusal_69 ⟨congrArg (fun z => some (Value.int z)) ?_, rfl, rfl⟩
            unfold shR; rw [if_neg (by omega), qn, if_neg (by omega), if_neg (by omega), if_pos (by omega)]
        · skip
          refine g_bipush (v := (-12)) hC dX6_rowRefusal_45 rfl ?_
          refine g_zret (ty := .int) hC rfl rfl dX6_rowRefusal_47 ⟨congrArg (fun z => some (Value.int z)) ?_, rfl, rfl⟩
          unfold shR; rw [if_neg (by omega), qn, if_neg (by omega), if_pos (by omega)]
      · skip
        refine g_bipush (v := (-11)) hC dX6_rowRefusal_29 rfl ?_
        refine g_zret (ty := .int) hC rfl rfl dX6_rowRefusal_31 ⟨congrArg (fun z => some (Value.int z)) ?_, rfl, rfl⟩
        unfold shR; rw [if_neg (by omega), qn, if_pos (by omega)]
    · skip
      refine g_iconst (v := (-1)) hC dX6_rowRefusal_14 rfl ?_
      refine g_zret (ty := .int) hC rfl rfl dX6_rowRefusal_15 ⟨congrArg (fun z => some (Value.int z)) ?_, rfl, rfl⟩
      unfold shR; rw [if_pos (by omega)]

theorem c_X6_sheet (l : Launch) (D : va_G) (cA : Nat → ClassId) (b : Nat) (M : Nat → Nat → Int32) (L : Nat → Nat → Int64) (g : Sg) (x : Int32) (ln : Int32) (n : Int32) (hS : CS M L g) (hok : OK g) : fm_Met l D cA b yX6_sheet cX6_sheet 4 (some .int) 2 46 0 0 [.ref (b + 0), .int x, .int ln, .int n] LAY M L LAY (fm_pm (fun r M' L' => r = (op_sheet g x ln n).1 ∧ CS M' L' (op_sheet g x ln n).2 ∧ fC M M' L L')) := by
  refine fm_start RX6 rfl (by decide) (Nat.le_of_ble_eq_true rfl) ?_
  intro pq eq sq mq aq bq tq cq hC hin
  refine g_iload_n hC dX6_sheet_0 rfl 1 rfl ?_
  refine g_callS hC (as := [.int x]) (rest := []) (c_X6_isSheet l D cA b LAY M L x x.toInt rfl) ⟨fw_536, fw_537, fw_1, fw_538⟩ hd_X6_isSheet ⟨Nat.le_of_ble_eq_true rfl, Nat.le_of_ble_eq_true rfl⟩ ⟨Nat.le_of_ble_eq_true rfl, Nat.le_of_ble_eq_true rfl⟩ rfl rfl (Nat.le_of_ble_eq_true rfl) dX6_sheet_1 (g_rix ?_)
  refine g_ifb_eq hC 20 dX6_sheet_4 rfl (fun c_2 => ?_) (fun c_2 => ?_)
  · skip
    refine g_iconst (v := (-1)) hC dX6_sheet_20 rfl ?_
    refine g_zret (ty := .int) hC rfl rfl dX6_sheet_21 ?_
    have e0 : op_sheet g x ln n = (-1, g) := by unfold op_sheet; rw [if_pos (by omega)]
    exact ⟨_, rfl, by rw [e0], by rw [e0]; exact hS, fC_rf⟩
  · skip
    refine g_iload_n hC dX6_sheet_7 rfl 2 rfl ?_
    refine g_callS hC (as := [.int ln]) (rest := []) (c_X6_isLane l D cA b LAY M L ln ln.toInt rfl) ⟨fw_539, fw_540, fw_1, fw_541⟩ hd_X6_isLane ⟨Nat.le_of_ble_eq_true rfl, Nat.le_of_ble_eq_true rfl⟩ ⟨Nat.le_of_ble_eq_true rfl, Nat.le_of_ble_eq_true rfl⟩ rfl rfl (Nat.le_of_ble_eq_true rfl) dX6_sheet_8 (g_rix ?_)
    refine g_ifb_eq hC 20 dX6_sheet_11 rfl (fun c_4 => ?_) (fun c_4 => ?_)
    · skip
      refine g_iconst (v := (-1)) hC dX6_sheet_20 rfl ?_
      refine g_zret (ty := .int) hC rfl rfl dX6_sheet_21 ?_
      have e0 : op_sheet g x ln n = (-1, g) := by unfold op_sheet; rw [if_pos (by omega)]
      exact ⟨_, rfl, by rw [e0], by rw [e0]; exact hS, fC_rf⟩
    · skip
      refine g_iload_n hC dX6_sheet_14 rfl 3 rfl ?_
      refine g_bipush (v := 24) hC dX6_sheet_15 rfl ?_
      refine g_icmp_le_T (X := n.toInt) (Y := 24) hC rfl rfl 22 dX6_sheet_17 rfl (fun c_5 => ?_) (fun c_5 => ?_)
      · skip
        refine g_iload_n hC dX6_sheet_22 rfl 3 rfl ?_
        refine g_if_ge_T (X := n.toInt) hC rfl 29 dX6_sheet_23 rfl (fun c_6 => ?_) (fun c_6 => ?_)
        · skip
          obtain ⟨q, qb, qE⟩ : ∃ j9 : Nat, j9 < 4 ∧ x = nI j9 := ic_of (by omega) (by omega)
          subst qE
          have qt : (nI q).toInt = (q : Int) := nI_toInt (by omega)
          have qn : (nI q).toInt.toNat = q := by omega
          have qs := hS.2.2.2.2 q qb
          have qo := hok.2.2.2.2 q qb
          obtain ⟨n0, n0b, n0E⟩ : ∃ j9 : Nat, j9 < 25 ∧ n = nI j9 := ic_of (by omega) (by omega)
          subst n0E
          have n0t : (nI n0).toInt = (n0 : Int) := nI_toInt (by omega)
          have n0n : (nI n0).toInt.toNat = n0 := by omega
          refine g_aload_n hC dX6_sheet_29 rfl 0 rfl ?_
          refine g_getR (ci := 6) (i := 6) (k := 0) (t := 48) hC fm_in6 rfl ly_0 rfl (by decide) fw_202 dX6_sheet_30 ?_
          refine g_iload_n hC dX6_sheet_33 rfl 1 rfl ?_
          refine g_aald5N (j := q) (t := 50 + 2 * q) (k := 48) hC ly_48 rfl (by omega) (by decide) (fm_z50 _ (by omega)) dX6_sheet_34 ?_
          refine g_iload_n hC dX6_sheet_35 rfl 2 rfl ?_
          refine g_iload_n hC dX6_sheet_36 rfl 3 rfl ?_
          refine g_callV hC (k := 50 + 2 * q) (ci := 3) (as := [.int ln, .int (nI n0)]) (rest := []) (c_X3_begin l D cA b M L q ln (nI n0) qb) ⟨fw_597, fw_598, fw_599, fw_8, fw_600⟩ ⟨rfl, hd_X3_begin⟩ rfl (fm_she _ (by omega)) ⟨Nat.le_of_ble_eq_true rfl, Nat.le_of_ble_eq_true rfl⟩ ⟨Nat.le_of_ble_eq_true rfl, Nat.le_of_ble_eq_true rfl⟩ rfl rfl (Nat.le_of_ble_eq_true rfl) dX6_sheet_37 (g_rv (fun M_7 L_7 h_7 => ?_))
          obtain ⟨h1_7, h2_7, h3_7⟩ := h_7
          refine g_iload_n hC dX6_sheet_40 rfl 3 rfl ?_
          refine g_zret (ty := .int) hC rfl rfl dX6_sheet_41 ?_
          have e0 : op_sheet g (nI q) ln (nI n0) = (nI n0, shS g (shU g.2.2.2.2 q ln.toInt n0 (fun _ => 0))) := by unfold op_sheet; rw [if_neg (by omega), if_neg (by omega), qn, n0n]
          have fr : ∀ r, r ≠ 50 + 2 * q → M_7 r = M r := fun r hr => by rw [h1_7, fm_upn hr, fm_upn hr]
          exact ⟨_, rfl, by rw [e0], by rw [e0]; exact CS_sh hS hok (fun r hr => fr r (by omega)) (sC_set hS.2.2.2.2 (fun r hr hrq => ⟨fr _ (by omega), h2_7 _ (by omega)⟩) (by rw [h1_7, fm_upx (by decide), fm_ups, oI_of]) (fun _ => ⟨by rw [h1_7, fm_ups], h3_7⟩)), fun r hr => ⟨fr r (by omega), h2_7 r (by omega)⟩⟩
        · skip
          refine g_bipush (v := (-14)) hC dX6_sheet_26 rfl ?_
          refine g_zret (ty := .int) hC rfl rfl dX6_sheet_28 ?_
          have e0 : op_sheet g x ln n = (-14, g) := by unfold op_sheet; rw [if_neg (by omega), if_pos (by omega)]
          exact ⟨_, rfl, by rw [e0], by rw [e0]; exact hS, fC_rf⟩
      · skip
        refine g_iconst (v := (-1)) hC dX6_sheet_20 rfl ?_
        refine g_zret (ty := .int) hC rfl rfl dX6_sheet_21 ?_
        have e0 : op_sheet g x ln n = (-1, g) := by unfold op_sheet; rw [if_pos (by omega)]
        exact ⟨_, rfl, by rw [e0], by rw [e0]; exact hS, fC_rf⟩

theorem c_X6_drop (l : Launch) (D : va_G) (cA : Nat → ClassId) (b : Nat) (M : Nat → Nat → Int32) (L : Nat → Nat → Int64) (g : Sg) (x : Int32) (hS : CS M L g) (hok : OK g) : fm_Met l D cA b yX6_drop cX6_drop 3 (some .int) 2 46 0 0 [.ref (b + 0), .int x] LAY M L LAY (fm_pm (fun r M' L' => r = (op_drop g x).1 ∧ CS M' L' (op_drop g x).2 ∧ fC M M' L L')) := by
  refine fm_start RX6 rfl (by decide) (Nat.le_of_ble_eq_true rfl) ?_
  intro pq eq sq mq aq bq tq cq hC hin
  refine g_iload_n hC dX6_drop_0 rfl 1 rfl ?_
  refine g_callS hC (as := [.int x]) (rest := []) (c_X6_isSheet l D cA b LAY M L x x.toInt rfl) ⟨fw_536, fw_537, fw_1, fw_538⟩ hd_X6_isSheet ⟨Nat.le_of_ble_eq_true rfl, Nat.le_of_ble_eq_true rfl⟩ ⟨Nat.le_of_ble_eq_true rfl, Nat.le_of_ble_eq_true rfl⟩ rfl rfl (Nat.le_of_ble_eq_true rfl) dX6_drop_1 (g_rix ?_)
  refine g_ifb_ne hC 9 dX6_drop_4 rfl (fun c_2 => ?_) (fun c_2 => ?_)
  · skip
    obtain ⟨q, qb, qE⟩ : ∃ j9 : Nat, j9 < 4 ∧ x = nI j9 := ic_of (by omega) (by omega)
    subst qE
    have qt : (nI q).toInt = (q : Int) := nI_toInt (by omega)
    have qn : (nI q).toInt.toNat = q := by omega
    have qs := hS.2.2.2.2 q qb
    have qo := hok.2.2.2.2 q qb
    refine g_aload_n hC dX6_drop_9 rfl 0 rfl ?_
    refine g_getR (ci := 6) (i := 6) (k := 0) (t := 48) hC fm_in6 rfl ly_0 rfl (by decide) fw_202 dX6_drop_10 ?_
    refine g_iload_n hC dX6_drop_13 rfl 1 rfl ?_
    refine g_aald5N (j := q) (t := 50 + 2 * q) (k := 48) hC ly_48 rfl (by omega) (by decide) (fm_z50 _ (by omega)) dX6_drop_14 ?_
    refine g_getI (ci := 3) (i := 0) (k := 50 + 2 * q) hC fm_in3 rfl (fm_she _ (by omega)) rfl (by decide) fw_183 dX6_drop_15 ?_
    refine g_top (y := Int32.ofInt (g.2.2.2.2.1 q)) qs.1 ?_
    refine g_iconst (v := (-1)) hC dX6_drop_18 rfl ?_
    refine g_icmp_ne_T (X := g.2.2.2.2.1 q) (Y := (-1)) hC (oI_t (by omega) (by omega)) rfl 25 dX6_drop_19 rfl (fun c_3 => ?_) (fun c_3 => ?_)
    · skip
      refine g_aload_n hC dX6_drop_25 rfl 0 rfl ?_
      refine g_getR (ci := 6) (i := 6) (k := 0) (t := 48) hC fm_in6 rfl ly_0 rfl (by decide) fw_202 dX6_drop_26 ?_
      refine g_iload_n hC dX6_drop_29 rfl 1 rfl ?_
      refine g_aald5N (j := q) (t := 50 + 2 * q) (k := 48) hC ly_48 rfl (by omega) (by decide) (fm_z50 _ (by omega)) dX6_drop_30 ?_
      refine g_getI (ci := 3) (i := 1) (k := 50 + 2 * q) hC fm_in3 rfl (fm_she _ (by omega)) rfl (by decide) fw_185 dX6_drop_31 ?_
      refine g_top (y := nI (g.2.2.2.2.2.1 q)) (qs.2 (by omega)).1 ?_
      refine g_istore_n hC [(2, .int (nI (g.2.2.2.2.2.1 q))), (0, .ref (b + 0)), (1, .int (nI q))] dX6_drop_34 rfl (by decide) rfl ?_
      refine g_aload_n hC dX6_drop_35 rfl 1 rfl ?_
      refine g_getR (ci := 6) (i := 6) (k := 0) (t := 48) hC fm_in6 rfl ly_0 rfl (by decide) fw_202 dX6_drop_36 ?_
      refine g_iload_n hC dX6_drop_39 rfl 2 rfl ?_
      refine g_aald5N (j := q) (t := 50 + 2 * q) (k := 48) hC ly_48 rfl (by omega) (by decide) (fm_z50 _ (by omega)) dX6_drop_40 ?_
      refine g_iconst (v := (-1)) hC dX6_drop_41 rfl ?_
      refine g_iconst (v := 0) hC dX6_drop_42 rfl ?_
      refine g_callV hC (k := 50 + 2 * q) (ci := 3) (as := [.int (-1), .int 0]) (rest := []) (c_X3_begin l D cA b M L q (-1) 0 qb) ⟨fw_597, fw_598, fw_599, fw_8, fw_600⟩ ⟨rfl, hd_X3_begin⟩ rfl (fm_she _ (by omega)) ⟨Nat.le_of_ble_eq_true rfl, Nat.le_of_ble_eq_true rfl⟩ ⟨Nat.le_of_ble_eq_true rfl, Nat.le_of_ble_eq_true rfl⟩ rfl rfl (Nat.le_of_ble_eq_true rfl) dX6_drop_43 (g_rv (fun M_4 L_4 h_4 => ?_))
      obtain ⟨h1_4, h2_4, h3_4⟩ := h_4
      refine g_iload_n hC dX6_drop_46 rfl 0 rfl ?_
      refine g_zret (ty := .int) hC rfl rfl dX6_drop_47 ?_
      have e0 : op_drop g (nI q) = (nI (g.2.2.2.2.2.1 q), shS g (shU g.2.2.2.2 q (-1) (g.2.2.2.2.2.1 q) (g.2.2.2.2.2.2 q))) := by unfold op_drop; rw [if_neg (by omega), qn, if_neg (by omega)]
      have fr : ∀ r, r ≠ 50 + 2 * q → M_4 r = M r := fun r hr => by rw [h1_4, fm_upn hr, fm_upn hr]
      exact ⟨_, rfl, by rw [e0], by rw [e0]; exact CS_sh hS hok (fun r hr => fr r (by omega)) (sC_set hS.2.2.2.2 (fun r hr hrq => ⟨fr _ (by omega), h2_4 _ (by omega)⟩) (by rw [h1_4, fm_upx (by decide), fm_ups]; rfl) (fun z => absurd z (by decide))), fun r hr => ⟨fr r (by omega), h2_4 r (by omega)⟩⟩
    · skip
      refine g_bipush (v := (-11)) hC dX6_drop_22 rfl ?_
      refine g_zret (ty := .int) hC rfl rfl dX6_drop_24 ?_
      have e0 : op_drop g (nI q) = (-11, g) := by unfold op_drop; rw [if_neg (by omega), qn, if_pos (by omega)]
      exact ⟨_, rfl, by rw [e0], by rw [e0]; exact hS, fC_rf⟩
  · skip
    refine g_iconst (v := (-1)) hC dX6_drop_7 rfl ?_
    refine g_zret (ty := .int) hC rfl rfl dX6_drop_8 ?_
    have e0 : op_drop g x = (-1, g) := by unfold op_drop; rw [if_pos (by omega)]
    exact ⟨_, rfl, by rw [e0], by rw [e0]; exact hS, fC_rf⟩

theorem c_X6_item (l : Launch) (D : va_G) (cA : Nat → ClassId) (b : Nat) (M : Nat → Nat → Int32) (L : Nat → Nat → Int64) (g : Sg) (x : Int32) (ln : Int32) (i : Int32) (v : Int64) (hS : CS M L g) (hok : OK g) : fm_Met l D cA b yX6_item cX6_item 7 (some .int) 2 46 0 0 [.ref (b + 0), .int x, .int ln, .int i, .long v] LAY M L LAY (fm_pm (fun r M' L' => r = (op_item g x ln i v).1 ∧ CS M' L' (op_item g x ln i v).2 ∧ fC M M' L L')) := by
  refine fm_start RX6 rfl (by decide) (Nat.le_of_ble_eq_true rfl) ?_
  intro pq eq sq mq aq bq tq cq hC hin
  refine g_aload_n hC dX6_item_0 rfl 0 rfl ?_
  refine g_iload_n hC dX6_item_1 rfl 1 rfl ?_
  refine g_iload_n hC dX6_item_2 rfl 2 rfl ?_
  refine g_iload_n hC dX6_item_3 rfl 3 rfl ?_
  refine g_iconst (v := 1) hC dX6_item_4 rfl ?_
  refine g_callV hC (k := 0) (ci := 6) (as := [.int x, .int ln, .int i, .int 1]) (rest := []) (c_X6_rowRefusal l D cA b M L g x ln i 1 hS hok (by decide)) ⟨fw_532, fw_534, fs_11, fw_1, fw_535⟩ ⟨rfl, hd_X6_rowRefusal⟩ rfl ly_0 ⟨Nat.le_of_ble_eq_true rfl, Nat.le_of_ble_eq_true rfl⟩ ⟨Nat.le_of_ble_eq_true rfl, Nat.le_of_ble_eq_true rfl⟩ rfl rfl (Nat.le_of_ble_eq_true rfl) dX6_item_5 (g_rix ?_)
  refine g_istore hC [(6, .int (shR g.2.2.2.2 x.toInt ln.toInt i.toInt 1)), (0, .ref (b + 0)), (1, .int x), (2, .int ln), (3, .int i), (4, .long v)] dX6_item_8 (by decide) rfl ?_
  refine g_iload hC dX6_item_10 0 rfl ?_
  refine g_if_eq_T (X := (shR g.2.2.2.2 x.toInt ln.toInt i.toInt 1).toInt) hC rfl 18 dX6_item_12 rfl (fun c_2 => ?_) (fun c_2 => ?_)
  · skip
    have z0 := shR_0 c_2
    obtain ⟨⟨z1, z2⟩, z3, z4, z5⟩ := z0
    have z6 := hok.2.2.2.2 x.toInt.toNat (by omega)
    have c0 := c_2
    obtain ⟨q, qb, qE⟩ : ∃ j9 : Nat, j9 < 4 ∧ x = nI j9 := ic_of (by omega) (by omega)
    subst qE
    have qt : (nI q).toInt = (q : Int) := nI_toInt (by omega)
    have qn : (nI q).toInt.toNat = q := by omega
    have qs := hS.2.2.2.2 q qb
    have qo := hok.2.2.2.2 q qb
    rw [qn] at z3 z5 z6
    obtain ⟨i0, i0b, i0E⟩ : ∃ j9 : Nat, j9 < 25 ∧ i = nI j9 := ic_of (by omega) (by omega)
    subst i0E
    have i0t : (nI i0).toInt = (i0 : Int) := nI_toInt (by omega)
    have i0n : (nI i0).toInt.toNat = i0 := by omega
    refine g_aload_n hC dX6_item_18 rfl 1 rfl ?_
    refine g_getR (ci := 6) (i := 6) (k := 0) (t := 48) hC fm_in6 rfl ly_0 rfl (by decide) fw_202 dX6_item_19 ?_
    refine g_iload_n hC dX6_item_22 rfl 2 rfl ?_
    refine g_aald5N (j := q) (t := 50 + 2 * q) (k := 48) hC ly_48 rfl (by omega) (by decide) (fm_z50 _ (by omega)) dX6_item_23 ?_
    refine g_iload_n hC dX6_item_24 rfl 4 rfl ?_
    refine g_lload hC dX6_item_25 5 rfl ?_
    refine g_callV hC (k := 50 + 2 * q) (ci := 3) (as := [.int (nI i0), .long v]) (rest := []) (c_X3_put l D cA b M L q i0 ln.toInt v qb (by omega) (z3 ▸ qs.1) (by omega)) ⟨fw_584, fw_585, fw_586, fw_8, fw_587⟩ ⟨rfl, hd_X3_put⟩ rfl (fm_she _ (by omega)) ⟨Nat.le_of_ble_eq_true rfl, Nat.le_of_ble_eq_true rfl⟩ ⟨Nat.le_of_ble_eq_true rfl, Nat.le_of_ble_eq_true rfl⟩ rfl rfl (Nat.le_of_ble_eq_true rfl) dX6_item_27 (g_rvx ?_)
    refine g_iconst (v := 1) hC dX6_item_30 rfl ?_
    refine g_zret (ty := .int) hC rfl rfl dX6_item_31 ?_
    have e0 : op_item g (nI q) ln (nI i0) v = (1, shS g (shU g.2.2.2.2 q (g.2.2.2.2.1 q) (g.2.2.2.2.2.1 q) (fun j => if j = i0 then asL ln.toInt v else g.2.2.2.2.2.2 q j))) := by unfold op_item; rw [if_neg (by omega), qn, i0n]
    exact ⟨_, rfl, by rw [e0], by rw [e0]; exact CS_sh hS hok (fun r hr => rfl) (sC_set hS.2.2.2.2 (fun r hr hrq => ⟨rfl, fm_upLn (by omega)⟩) qs.1 (fun z => ⟨(qs.2 z).1, fun j hj => by rw [fm_upLv, (qs.2 z).2 j hj]⟩)), fun r hr => ⟨rfl, fm_upLn (by omega)⟩⟩
  · skip
    have nz := c_2
    refine g_iload hC dX6_item_15 0 rfl ?_
    refine g_zret (ty := .int) hC rfl rfl dX6_item_17 ?_
    have e0 : op_item g x ln i v = (shR g.2.2.2.2 x.toInt ln.toInt i.toInt 1, g) := by unfold op_item; rw [if_pos nz]
    exact ⟨_, rfl, by rw [e0], by rw [e0]; exact hS, fC_rf⟩

theorem c_X6_film (l : Launch) (D : va_G) (cA : Nat → ClassId) (b : Nat) (M : Nat → Nat → Int32) (L : Nat → Nat → Int64) (g : Sg) (x : Int32) (ln : Int32) (f : Int32) (hS : CS M L g) (hok : OK g) : fm_Met l D cA b yX6_film cX6_film 6 (some .int) 2 46 0 0 [.ref (b + 0), .int x, .int ln, .int f] LAY M L LAY (fm_pm (fun r M' L' => r = (op_film g x ln f).1 ∧ CS M' L' (op_film g x ln f).2 ∧ fC M M' L L')) := by
  refine fm_start RX6 rfl (by decide) (Nat.le_of_ble_eq_true rfl) ?_
  intro pq eq sq mq aq bq tq cq hC hin
  obtain ⟨⟨n1, n2, n3, v0, v1, v2, v3, v4, v5, v6, v7, v8⟩, hS2⟩ := id hS
  obtain ⟨⟨o1, o2, o3, o4, o5, o6, o7, o8, o9, o10, o11⟩, hok2⟩ := id hok
  refine g_aload_n hC dX6_film_0 rfl 0 rfl ?_
  refine g_iload_n hC dX6_film_1 rfl 1 rfl ?_
  refine g_iload_n hC dX6_film_2 rfl 2 rfl ?_
  refine g_iload_n hC dX6_film_3 rfl 3 rfl ?_
  refine g_bipush (v := 24) hC dX6_film_4 rfl ?_
  refine g_callV hC (k := 0) (ci := 6) (as := [.int x, .int ln, .int f, .int 24]) (rest := []) (c_X6_rowRefusal l D cA b M L g x ln f 24 hS hok (by decide)) ⟨fw_532, fw_534, fs_11, fw_1, fw_535⟩ ⟨rfl, hd_X6_rowRefusal⟩ rfl ly_0 ⟨Nat.le_of_ble_eq_true rfl, Nat.le_of_ble_eq_true rfl⟩ ⟨Nat.le_of_ble_eq_true rfl, Nat.le_of_ble_eq_true rfl⟩ rfl rfl (Nat.le_of_ble_eq_true rfl) dX6_film_6 (g_rix ?_)
  refine g_istore hC [(4, .int (shR g.2.2.2.2 x.toInt ln.toInt f.toInt 24)), (0, .ref (b + 0)), (1, .int x), (2, .int ln), (3, .int f)] dX6_film_9 (by decide) rfl ?_
  refine g_iload hC dX6_film_11 0 rfl ?_
  refine g_if_eq_T (X := (shR g.2.2.2.2 x.toInt ln.toInt f.toInt 24).toInt) hC rfl 19 dX6_film_13 rfl (fun c_2 => ?_) (fun c_2 => ?_)
  · skip
    have z0 := shR_0 c_2
    obtain ⟨⟨z1, z2⟩, z3, z4, z5⟩ := z0
    have z6 := hok.2.2.2.2 x.toInt.toNat (by omega)
    have c0 := c_2
    obtain ⟨q, qb, qE⟩ : ∃ j9 : Nat, j9 < 4 ∧ x = nI j9 := ic_of (by omega) (by omega)
    subst qE
    have qt : (nI q).toInt = (q : Int) := nI_toInt (by omega)
    have qn : (nI q).toInt.toNat = q := by omega
    have qs := hS.2.2.2.2 q qb
    have qo := hok.2.2.2.2 q qb
    rw [qn] at z3 z5 z6
    obtain ⟨f0, f0b, f0E⟩ : ∃ j9 : Nat, j9 < 25 ∧ f = nI j9 := ic_of (by omega) (by omega)
    subst f0E
    have f0t : (nI f0).toInt = (f0 : Int) := nI_toInt (by omega)
    have f0n : (nI f0).toInt.toNat = f0 := by omega
    refine g_iconst (v := 0) hC dX6_film_19 rfl ?_
    refine g_istore hC [(5, .int 0), (4, .int (shR g.2.2.2.2 (nI q).toInt ln.toInt (nI f0).toInt 24)), (0, .ref (b + 0)), (1, .int (nI q)), (2, .int ln), (3, .int (nI f0))] dX6_film_20 (by decide) rfl ?_
    have lp_22_3 : ∀ (n_3 : Nat) (L1 : Nat → Nat → Int64) (i : Nat), 24 - i < n_3 → (i ≤ 24 ∧ (∀ r, r ≠ 51 + 2 * q → L1 r = L r) ∧ (∀ j, j < 24 → L1 (51 + 2 * q) j = if f0 ≤ j ∧ j < f0 + i then (Int32.ofInt (g.1.2.1 (j - f0))).toInt64 else L (51 + 2 * q) j)) → fm_G pq l eq (fm_rm 2 46 0 0) sq mq aq bq tq cq D cA b 6 (MQ bq (fm_Q D cA b LAY (fm_pm (fun r M' L' => r = (op_film g (nI q) ln (nI f0)).1 ∧ CS M' L' (op_film g (nI q) ln (nI f0)).2 ∧ fC M M' L L'))) aq sq 0 0 (fun q => b ≤ q)) LAY M L1 0 0 22 [(5, .int (nI i)), (4, .int (shR g.2.2.2.2 (nI q).toInt ln.toInt (nI f0).toInt 24)), (0, .ref (b + 0)), (1, .int (nI q)), (2, .int ln), (3, .int (nI f0))] [] := by
      intro n_3
      induction n_3 with
      | zero => intro L1 i hm_3; exact absurd hm_3 (Nat.not_lt_zero _)
      | succ n_3 ih_3 =>
        intro L1 i hm_3 hinv_3
        obtain ⟨i1, i2, i3⟩ := hinv_3
        refine g_iload hC dX6_film_22 0 rfl ?_
        refine g_bipush (v := 24) hC dX6_film_24 rfl ?_
        refine g_icmp_ge_T (X := ((i : Nat) : Int)) (Y := 24) hC (nI_toInt (by omega)) rfl 59 dX6_film_26 rfl (fun c_4 => ?_) (fun c_4 => ?_)
        · skip
          refine g_bipush (v := 24) hC dX6_film_59 rfl ?_
          refine g_zret (ty := .int) hC rfl rfl dX6_film_61 ?_
          have ei : i = 24 := by omega
          subst ei
          have e0 : op_film g (nI q) ln (nI f0) = (24, shS g (shU g.2.2.2.2 q (g.2.2.2.2.1 q) (g.2.2.2.2.2.1 q) (fun j => if f0 ≤ j ∧ j < f0 + 24 then (Int32.ofInt (g.1.2.1 (j - f0))).toInt64 else g.2.2.2.2.2.2 q j))) := by unfold op_film; rw [if_neg (by omega), qn, f0n]
          exact ⟨_, rfl, by rw [e0], by rw [e0]; exact CS_sh hS hok (fun r hr => rfl) (sC_set hS.2.2.2.2 (fun r hr hrq => ⟨rfl, i2 _ (by omega)⟩) qs.1 (fun z => ⟨(qs.2 z).1, fun j hj => by rw [i3 j hj, (qs.2 z).2 j hj]⟩)), fun r hr => ⟨rfl, i2 r (by omega)⟩⟩
        · skip
          have ob := o3 i (by omega)
          refine g_aload_n hC dX6_film_29 rfl 2 rfl ?_
          refine g_getR (ci := 6) (i := 6) (k := 0) (t := 48) hC fm_in6 rfl ly_0 rfl (by decide) fw_202 dX6_film_30 ?_
          refine g_iload_n hC dX6_film_33 rfl 3 rfl ?_
          refine g_aald5N (j := q) (t := 50 + 2 * q) (k := 48) hC ly_48 rfl (by omega) (by decide) (fm_z50 _ (by omega)) dX6_film_34 ?_
          refine g_iload_n hC dX6_film_35 rfl 5 rfl ?_
          refine g_iload hC dX6_film_36 0 rfl ?_
          refine g_iadd hC dX6_film_38 ?_
          refine g_top (y := nI (f0 + i)) (nI_add _ _) ?_
          refine g_aload_n hC dX6_film_39 rfl 2 rfl ?_
          refine g_getR (ci := 6) (i := 0) (k := 0) (t := 1) hC fm_in6 rfl ly_0 rfl (by decide) fw_196 dX6_film_40 ?_
          refine g_getR (ci := 5) (i := 6) (k := 1) (t := 6) hC fm_in5 rfl ly_1 rfl (by decide) fw_69 dX6_film_43 ?_
          refine g_iload hC dX6_film_46 0 rfl ?_
          refine g_ialdN (j := i) (k := 6) hC ly_6 rfl (by omega) (by decide) dX6_film_48 ?_
          refine g_top (y := Int32.ofInt (g.1.2.1 i)) (n3 i (by omega)).2 ?_
          refine g_i2l (v := (Int32.ofInt (g.1.2.1 i)).toInt64) hC dX6_film_49 rfl ?_
          refine g_callV hC (k := 50 + 2 * q) (ci := 3) (as := [.int (nI (f0 + i)), .long ((Int32.ofInt (g.1.2.1 i)).toInt64)]) (rest := []) (c_X3_put l D cA b M L1 q (f0 + i) ln.toInt ((Int32.ofInt (g.1.2.1 i)).toInt64) qb (by omega) (z3 ▸ qs.1) (by omega)) ⟨fw_584, fw_585, fw_586, fw_8, fw_587⟩ ⟨rfl, hd_X3_put⟩ rfl (fm_she _ (by omega)) ⟨Nat.le_of_ble_eq_true rfl, Nat.le_of_ble_eq_true rfl⟩ ⟨Nat.le_of_ble_eq_true rfl, Nat.le_of_ble_eq_true rfl⟩ rfl rfl (Nat.le_of_ble_eq_true rfl) dX6_film_50 (g_rvx ?_)
          refine g_iinc hC [(5, .int (nI (i + 1))), (4, .int (shR g.2.2.2.2 (nI q).toInt ln.toInt (nI f0).toInt 24)), (0, .ref (b + 0)), (1, .int (nI q)), (2, .int ln), (3, .int (nI f0))] dX6_film_53 0 rfl (by rw [show Int32.ofInt 1 = nI 1 from rfl, nI_add]) (by decide) rfl ?_
          refine g_goto hC 22 dX6_film_56 rfl ?_
          exact g_sub [0, 1, 2, 3, 4, 5] rfl (ih_3 (fm_upL L1 (51 + 2 * q) (f0 + i) (asL ln.toInt ((Int32.ofInt (g.1.2.1 i)).toInt64))) (i + 1) (by omega) (⟨by omega, fun r hr => (by rw [fm_upLn hr]; exact i2 r hr), fun j hj => (by rw [fm_upLv]; by_cases ej : j = f0 + i; rw [if_pos ej, if_pos (by omega), asL_s (by rw [ic_w, oI_t (by omega) (by omega)]; omega) (by rw [ic_w, oI_t (by omega) (by omega)]; omega), show j - f0 = i by omega]; rw [if_neg ej, i3 j hj]; by_cases e2 : f0 ≤ j ∧ j < f0 + i; rw [if_pos e2, if_pos (by omega)]; rw [if_neg e2, if_neg (by omega)])⟩))
    exact g_sub [0, 1, 2, 3, 4, 5] rfl (lp_22_3 (24 - 0 + 1) L 0 (Nat.lt_succ_self _) (⟨by decide, fun _ _ => rfl, fun j hj => (by rw [if_neg (by omega)])⟩))
  · skip
    have nz := c_2
    refine g_iload hC dX6_film_16 0 rfl ?_
    refine g_zret (ty := .int) hC rfl rfl dX6_film_18 ?_
    have e0 : op_film g x ln f = (shR g.2.2.2.2 x.toInt ln.toInt f.toInt 24, g) := by unfold op_film; rw [if_pos nz]
    exact ⟨_, rfl, by rw [e0], by rw [e0]; exact hS, fC_rf⟩
