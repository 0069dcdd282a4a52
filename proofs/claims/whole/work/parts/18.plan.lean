/-! ===== late, gain, wrong, missed, a day ===== -/
def lateS (row : Nat → Int) : Nat → Int
  | 0 => 0
  | n + 1 => lateS row n + row n
def rowIs (M : Nat → Nat → Int32) (rc : Nat) (row : Nat → Int) : Prop := ∀ h, h < 24 → M rc h = Int32.ofInt (row h) ∧ -2 ≤ row h ∧ row h ≤ 5
theorem late_b {row : Nat → Int} (hr : ∀ h, h < 24 → -2 ≤ row h ∧ row h ≤ 5) : ∀ (n : Nat), n ≤ 24 → -2 * (n : Int) ≤ lateS row n ∧ lateS row n ≤ 5 * (n : Int)
  | 0, _ => ⟨by simp [lateS], by simp [lateS]⟩
  | n + 1, h => by
    have h1 := late_b hr n (by omega)
    have h2 := hr n (by omega)
    simp only [lateS]
    omega
theorem row_b {M : Nat → Nat → Int32} {rc : Nat} {row : Nat → Int} (hr : rowIs M rc row) : ∀ h, h < 24 → -2 ≤ row h ∧ row h ≤ 5 := fun h hh => (hr h hh).2
def sumI (f : Nat → Int) : Nat → Int
  | 0 => 0
  | n + 1 => sumI f n + f n
/-- the town in which one may not act -/
def tw (t : Tn) (u : Int) : Tn := (fun a j => if a = 3 ∧ (j : Int) = u then 0 else t.1 a j, t.2)
theorem tw_none (t : Tn) {u : Int} (h : u < 0) : tw t u = t := by
  obtain ⟨N, P⟩ := t
  unfold tw
  congr 1
  funext a j
  rw [if_neg]
  rintro ⟨-, h2⟩
  omega
theorem tw_n (t : Tn) (u : Int) {a j : Nat} (h : a ≠ 3) : (tw t u).1 a j = t.1 a j := by simp [tw, h]
theorem tw_wo (t : Tn) (u : Int) (j hour k : Nat) : woN (tw t u) j hour k = woN t j hour k := by simp [woN, tw]
def gAf (t : Tn) (h n j : Nat) : Nat := if t.1 3 j = 1 then sumN (fun k => woN t j h k) n else 0
def gA (t : Tn) (h : Nat) (v : Int) : Int := if v < 0 then v * (t.1 6 h : Int) else ((sumN (gAf t h v.toNat) (t.1 7 0) : Nat) : Int)
def gainS (t : Tn) (row : Nat → Int) : Int := sumI (fun h => gA t h (row h)) 24
theorem gA_step {t : Tn} {u : Int} {hour n i k acc : Nat} (h : acc = sumN (gAf (tw t u) hour n) i + sumN (fun q => woN t i hour q) k) (hk : k = 0 ∨ (¬ (i : Int) = u ∧ t.1 3 i = 1)) (he : k = n ∨ ((i : Int) = u ∨ ¬ t.1 3 i = 1)) : acc = sumN (gAf (tw t u) hour n) (i + 1) := by
  show acc = sumN (gAf (tw t u) hour n) i + gAf (tw t u) hour n i
  rw [h]
  congr 1
  have e : gAf (tw t u) hour n i = if (¬ (i : Int) = u ∧ t.1 3 i = 1) then sumN (fun q => woN t i hour q) n else 0 := by
    unfold gAf
    simp only [tw_wo]
    by_cases h1 : (i : Int) = u
    · simp [tw, h1]
    · simp [tw, h1]
  rw [e]
  by_cases ha : ¬ (i : Int) = u ∧ t.1 3 i = 1
  · rw [if_pos ha]
    have : k = n := by omega
    rw [this]
  · rw [if_neg ha]
    have : k = 0 := by omega
    subst this
    rfl
def mlF (t : Tn) (h : Nat) : Nat → Nat
  | 0 => t.1 7 2
  | n + 1 => if t.1 4 n = h then min (mlF t h n) (t.1 5 n) else mlF t h n
def mlS (t : Tn) (h : Nat) : Nat := mlF t h (t.1 7 1)
theorem mlF_le (t : Tn) (h : Nat) : ∀ n, mlF t h n ≤ t.1 7 2
  | 0 => Nat.le_refl _
  | n + 1 => by
    have := mlF_le t h n
    simp only [mlF]
    split <;> omega
theorem mlS_le (t : Tn) (h : Nat) : mlS t h ≤ t.1 7 2 := mlF_le t h _
theorem min_nI {a c : Nat} (ha : a < 2147483648) (hc : c < 2147483648) : (if nI c < nI a then nI c else nI a) = nI (min a c) := by
  by_cases h : c < a
  · rw [if_pos ((nI_ltI hc ha).mpr h), Nat.min_eq_right (by omega)]
  · rw [if_neg (fun q => h ((nI_ltI hc ha).mp q)), Nat.min_eq_left (by omega)]
def badS (t : Tn) (row : Nat → Int) (h : Nat) : Prop := (mlS t h : Int) < lateS row h ∨ lateS row (h + 1) < 0 ∨ (t.1 7 2 : Int) < lateS row (h + 1)
def wrU (t : Tn) (row : Nat → Int) : Nat → Option Nat
  | 0 => none
  | n + 1 => match wrU t row n with
    | some x => some x
    | none => if (mlS t n : Int) < lateS row n ∨ lateS row (n + 1) < 0 ∨ (t.1 7 2 : Int) < lateS row (n + 1) then some n else none
theorem wrU_some {t : Tn} {row : Nat → Int} {x n : Nat} (h : wrU t row n = some x) : ∀ k, wrU t row (n + k) = some x
  | 0 => h
  | k + 1 => by
    have h1 := wrU_some h k
    show (match wrU t row (n + k) with | some x => some x | none => _) = some x
    rw [h1]
theorem wrU_hit {t : Tn} {row : Nat → Int} {n : Nat} (h : wrU t row n = none) (hb : badS t row n) (hn : n < 24) : wrU t row 24 = some n := by
  have h1 : wrU t row (n + 1) = some n := by
    show (match wrU t row n with | some x => some x | none => _) = some n
    rw [h]
    exact if_pos hb
  have h2 := wrU_some h1 (24 - (n + 1))
  rwa [show n + 1 + (24 - (n + 1)) = 24 by omega] at h2
theorem wrU_miss {t : Tn} {row : Nat → Int} {n : Nat} (h : wrU t row n = none) (hb : ¬ badS t row n) : wrU t row (n + 1) = none := by
  show (match wrU t row n with | some x => some x | none => _) = none
  rw [h]
  exact if_neg hb
theorem wrU_at {t : Tn} {row : Nat → Int} : ∀ {n x : Nat}, wrU t row n = some x → x < n
  | 0, _, h => by cases h
  | n + 1, x, h => by
    simp only [wrU] at h
    cases h1 : wrU t row n with
    | some y => rw [h1] at h; cases h; have := wrU_at h1; omega
    | none =>
      rw [h1] at h
      simp only at h
      split at h
      · cases h; omega
      · cases h
def wrongS (t : Tn) (row : Nat → Int) : Int32 := match wrU t row 24 with
  | some x => nI x
  | none => -4
theorem wrU_all {t : Tn} {row : Nat → Int} : ∀ {n : Nat}, wrU t row n = none → ∀ h, h < n → ¬ badS t row h
  | 0, _, h, hh => by omega
  | n + 1, hn, h, hh => by
    have h1 : wrU t row n = none := by
      simp only [wrU] at hn
      cases h1 : wrU t row n with
      | some y => rw [h1] at hn; cases hn
      | none => rfl
    rcases Nat.lt_or_ge h n with q | q
    · exact wrU_all h1 h q
    · have e : h = n := by omega
      subst e
      intro hb
      simp only [wrU, h1] at hn
      have hz : (some h : Option Nat) = none := (if_pos (show (mlS t h : Int) < lateS row h ∨ lateS row (h + 1) < 0 ∨ (t.1 7 2 : Int) < lateS row (h + 1) from hb)).symm.trans hn
      cases hz
theorem wrong_law {t : Tn} {row : Nat → Int} (h : wrongS t row = -4) : wrU t row 24 = none := by
  unfold wrongS at h
  cases h1 : wrU t row 24 with
  | none => rfl
  | some x =>
    rw [h1] at h
    have h2 := wrU_at h1
    have h3 := congrArg Int32.toInt h
    simp only at h3
    rw [nI_toInt (by omega)] at h3
    exact absurd h3 (by rw [show (-4 : Int32).toInt = -4 from rfl]; omega)
theorem law_end {t : Tn} {row : Nat → Int} (h : wrongS t row = -4) : 0 ≤ lateS row 24 ∧ lateS row 24 ≤ (t.1 7 2 : Int) := by
  have h1 := wrU_all (wrong_law h) 23 (by omega)
  unfold badS at h1
  simp only [show 23 + 1 = 24 from rfl] at h1
  omega
theorem wrong_neg {t : Tn} {row : Nat → Int} (h : ¬ wrongS t row = -4) : 0 ≤ (wrongS t row).toInt := by
  unfold wrongS at h ⊢
  cases h1 : wrU t row 24 with
  | none => rw [h1] at h; exact absurd rfl h
  | some x =>
    have h2 := wrU_at h1
    show 0 ≤ (nI x).toInt
    rw [nI_toInt (by omega)]; omega
def msF (t : Tn) (row : Nat → Int) : Nat → Int32
  | 0 => 0
  | n + 1 => if (t.1 5 n : Int) < lateS row (t.1 4 n) then msF t row n ||| (1 <<< (nI n &&& 31)) else msF t row n
def dayJ (t : Tn) (late : Nat) : Nat :=
  let j1 := t.1 7 2 - late
  let j2 := if 0 < t.1 7 3 ∧ (t.1 7 6 + 1) % t.1 7 3 = 0 then j1 - 1 else j1
  if 0 < t.1 7 4 ∧ (t.1 7 6 + 1) % t.1 7 4 = 0 then min (j2 + t.1 7 5) 99 else j2
def dayT (t : Tn) (row : Nat → Int) : Tn := (uN2 (uN2 t.1 7 2 (dayJ t (lateS row 24).toNat)) 7 6 (t.1 7 6 + 1), t.2.1, t.2.2 + Int32.ofInt (gainS t row))
theorem tC_day {M : Nat → Nat → Int32} {t : Tn} (h : tC M 1 t) {a : Nat} {r : Int32} {d : Nat} {M' : Nat → Nat → Int32} (h7 : M' 1 7 = nI a) (h12 : M' 1 12 = r) (h11 : M' 1 11 = nI d) (ho : ∀ i, i ≠ 7 → i ≠ 11 → i ≠ 12 → M' 1 i = M 1 i) (hk : ∀ k, k ≠ 1 → M' k = M k) (hp : t.1 7 0 ≤ 8) : tC M' 1 (uN2 (uN2 t.1 7 2 a) 7 6 d, t.2.1, r) := by
  obtain ⟨h1, h2, h3, v0, v1, v2, v3, v4, v5, v6, v7, v8⟩ := h
  refine ⟨fun j hj => ?_, fun j hj => ?_, fun q hq => ?_, ?_, ?_, ?_, ?_, ?_, ?_, ?_, h12, ?_⟩
  · rw [hk _ (by omega)]
    simpa [uN2] using h1 j (by simpa [uN2] using hj)
  · rw [hk _ (by omega), hk _ (by omega)]
    simpa [uN2] using h2 j (by simpa [uN2] using hj)
  · rw [hk _ (by omega), hk _ (by omega)]
    simpa [uN2] using h3 q hq
  · rw [ho _ (by omega) (by omega) (by omega)]; simpa [uN2] using v0
  · rw [ho _ (by omega) (by omega) (by omega)]; simpa [uN2] using v1
  · rw [h7]; simp [uN2]
  · rw [ho _ (by omega) (by omega) (by omega)]; simpa [uN2] using v3
  · rw [ho _ (by omega) (by omega) (by omega)]; simpa [uN2] using v4
  · rw [ho _ (by omega) (by omega) (by omega)]; simpa [uN2] using v5
  · rw [h11]; simp [uN2]
  · rw [ho _ (by omega) (by omega) (by omega)]; simpa [uN2] using v8
theorem jar_sub {a : Nat} {z : Int} (h0 : 0 ≤ z) (h1 : z ≤ (a : Int)) : nI a - Int32.ofInt z = nI (a - z.toNat) := by
  rw [nI_oI, oI_sub, nI_oI]
  congr 1
  omega
theorem jm_1 : ∀ a, a < 100 → (if nI a - 1 < 0 then (0 : Int32) else nI a - 1) = nI (a - 1) := by decide +kernel
def op_late (g : Sg) (h : Int32) : Int32 := if 0 ≤ h.toInt ∧ h.toInt ≤ 24 then Int32.ofInt (lateS g.1.2.1 h.toInt.toNat) else -100000001
def op_gain (g : Sg) : Int32 := Int32.ofInt (gainS g.1 g.1.2.1)
def op_wrong (g : Sg) : Int32 := wrongS g.1 g.1.2.1
def op_missed (g : Sg) : Int32 := msF g.1 g.1.2.1 (g.1.1 7 1)
def op_day (g : Sg) : Int32 × Sg := if wrongS g.1 g.1.2.1 = -4 then (if g.1.1 7 6 < 9999 then (Int32.ofInt (gainS g.1 g.1.2.1), (dayT g.1 g.1.2.1, g.2)) else (-100000003, g)) else (-100000002, g)

theorem c_X6_lateAt (l : Launch) (D : va_G) (cA : Nat → ClassId) (b : Nat) (M : Nat → Nat → Int32) (L : Nat → Nat → Int64) (rc : Nat) (row : Nat → Int) (hour : Nat) (hrc : LAY[rc]? = some (1, 24, [])) (hr : rowIs M rc row) (hh : hour ≤ 24) : fm_Met l D cA b yX6_lateAt cX6_lateAt 4 (some .int) 0 0 0 0 [.ref (b + rc), .int (nI hour)] LAY M L LAY (fm_pi (Int32.ofInt (lateS row hour)) M L) := by
  refine fm_start RX6 rfl (by decide) (Nat.le_of_ble_eq_true rfl) ?_
  intro pq eq sq mq aq bq tq cq hC hin
  refine g_iconst (v := 0) hC dX6_lateAt_0 rfl ?_
  refine g_istore_n hC [(2, .int 0), (0, .ref (b + rc)), (1, .int (nI hour))] dX6_lateAt_1 rfl (by decide) rfl ?_
  refine g_iconst (v := 0) hC dX6_lateAt_2 rfl ?_
  refine g_istore_n hC [(3, .int 0), (2, .int 0), (0, .ref (b + rc)), (1, .int (nI hour))] dX6_lateAt_3 rfl (by decide) rfl ?_
  have lp_4_1 : ∀ (n_1 : Nat) (h : Nat), 24 - h < n_1 → (h ≤ hour) → fm_G pq l eq (fm_rm 0 0 0 0) sq mq aq bq tq cq D cA b 4 (MQ bq (fm_Q D cA b LAY (fm_pi (Int32.ofInt (lateS row hour)) M L)) aq sq 0 0 (fun q => b ≤ q)) LAY M L 0 0 4 [(0, .ref (b + rc)), (1, .int (nI hour)), (2, .int (Int32.ofInt (lateS row h))), (3, .int (nI h))] [] := by
    intro n_1
    induction n_1 with
    | zero => intro h hm_1; exact absurd hm_1 (Nat.not_lt_zero _)
    | succ n_1 ih_1 =>
      intro h hm_1 hinv_1
      have i1 := hinv_1
      have lb := late_b (row_b hr) h (by omega)
      refine g_iload_n hC dX6_lateAt_4 rfl 3 rfl ?_
      refine g_iload_n hC dX6_lateAt_5 rfl 1 rfl ?_
      refine g_icmp_ge_T (X := ((h : Nat) : Int)) (Y := ((hour : Nat) : Int)) hC (nI_toInt (by omega)) (nI_toInt (by omega)) 27 dX6_lateAt_6 rfl (fun c_2 => ?_) (fun c_2 => ?_)
      · skip
        refine g_iload_n hC dX6_lateAt_27 rfl 2 rfl ?_
        refine g_zret (ty := .int) hC rfl rfl dX6_lateAt_28 ⟨congrArg (fun z => some (Value.int z)) ?_, rfl, rfl⟩
        rw [show h = hour by omega]
      · skip
        refine g_iload_n hC dX6_lateAt_9 rfl 3 rfl ?_
        refine g_aload_n hC dX6_lateAt_10 rfl 0 rfl ?_
        refine g_alen1 (v := 24) hC hrc rfl dX6_lateAt_11 ?_
        refine g_icmp_ge_T (X := ((h : Nat) : Int)) (Y := 24) hC (nI_toInt (by omega)) rfl 27 dX6_lateAt_12 rfl (fun c_3 => ?_) (fun c_3 => ?_)
        · skip
          refine g_iload_n hC dX6_lateAt_27 rfl 2 rfl ?_
          refine g_zret (ty := .int) hC rfl rfl dX6_lateAt_28 ⟨congrArg (fun z => some (Value.int z)) ?_, rfl, rfl⟩
          rw [show h = hour by omega]
        · skip
          refine g_iload_n hC dX6_lateAt_15 rfl 2 rfl ?_
          refine g_aload_n hC dX6_lateAt_16 rfl 0 rfl ?_
          refine g_iload_n hC dX6_lateAt_17 rfl 3 rfl ?_
          refine g_ialdN (j := h) (k := rc) hC hrc rfl (by omega) (by decide) dX6_lateAt_18 ?_
          refine g_top (y := Int32.ofInt (row h)) (hr h (by omega)).1 ?_
          refine g_iadd hC dX6_lateAt_19 ?_
          refine g_top (y := Int32.ofInt (lateS row (h + 1))) (oI_add _ _) ?_
          refine g_istore_n hC [(2, .int (Int32.ofInt (lateS row (h + 1)))), (0, .ref (b + rc)), (1, .int (nI hour)), (3, .int (nI h))] dX6_lateAt_20 rfl (by decide) rfl ?_
          refine g_iinc hC [(3, .int (nI (h + 1))), (2, .int (Int32.ofInt (lateS row (h + 1)))), (0, .ref (b + rc)), (1, .int (nI hour))] dX6_lateAt_21 3 rfl (by rw [show Int32.ofInt 1 = nI 1 from rfl, nI_add]) (by decide) rfl ?_
          refine g_goto hC 4 dX6_lateAt_24 rfl ?_
          exact g_sub [2, 3, 1, 0] rfl (ih_1 (h + 1) (by omega) (by omega))
  exact g_sub [2, 3, 1, 0] rfl (lp_4_1 (24 - 0 + 1) 0 (Nat.lt_succ_self _) (by omega))

theorem c_X5_gainAt (l : Launch) (D : va_G) (cA : Nat → ClassId) (b : Nat) (M : Nat → Nat → Int32) (L : Nat → Nat → Int64) (t : Tn) (hour : Nat) (x : Int32) (u : Int32) (hT : tC M 1 t) (hto : tOK t) (hh : hour < 24) (hx : -2 ≤ x.toInt ∧ x.toInt ≤ 5) : fm_Met l D cA b yX5_gainAt cX5_gainAt 7 (some .int) 3 66 0 0 [.ref (b + 1), .int (nI hour), .int x, .int u] LAY M L LAY (fm_pi (Int32.ofInt (gA (tw t u.toInt) hour x.toInt)) M L) := by
  refine fm_start RX5 rfl (by decide) (Nat.le_of_ble_eq_true rfl) ?_
  intro pq eq sq mq aq bq tq cq hC hin
  obtain ⟨n1, n2, n3, v0, v1, v2, v3, v4, v5, v6, v7, v8⟩ := id hT
  obtain ⟨o1, o2, o3, o4, o5, o6, o7, o8, o9, o10, o11⟩ := id hto
  refine g_iload_n hC dX5_gainAt_0 rfl 2 rfl ?_
  refine g_if_ge_T (X := x.toInt) hC rfl 13 dX5_gainAt_1 rfl (fun c_1 => ?_) (fun c_1 => ?_)
  · skip
    refine g_iconst (v := 0) hC dX5_gainAt_13 rfl ?_
    refine g_istore hC [(4, .int 0), (0, .ref (b + 1)), (1, .int (nI hour)), (2, .int x), (3, .int u)] dX5_gainAt_14 (by decide) rfl ?_
    refine g_iconst (v := 0) hC dX5_gainAt_16 rfl ?_
    refine g_istore hC [(5, .int 0), (4, .int 0), (0, .ref (b + 1)), (1, .int (nI hour)), (2, .int x), (3, .int u)] dX5_gainAt_17 (by decide) rfl ?_
    have lp_19_2 : ∀ (n_2 : Nat) (acc : Nat) (i : Nat), t.1 7 0 - i < n_2 → (i ≤ t.1 7 0 ∧ acc = sumN (gAf (tw t u.toInt) hour x.toInt.toNat) i) → fm_G pq l eq (fm_rm 3 66 0 0) sq mq aq bq tq cq D cA b 7 (MQ bq (fm_Q D cA b LAY (fm_pi (Int32.ofInt (gA (tw t u.toInt) hour x.toInt)) M L)) aq sq 0 0 (fun q => b ≤ q)) LAY M L 0 0 19 [(0, .ref (b + 1)), (1, .int (nI hour)), (2, .int x), (3, .int u), (4, .int (nI acc)), (5, .int (nI i))] [] := by
      intro n_2
      induction n_2 with
      | zero => intro acc i hm_2; exact absurd hm_2 (Nat.not_lt_zero _)
      | succ n_2 ih_2 =>
        intro acc i hm_2 hinv_2
        obtain ⟨g1, g2⟩ := hinv_2
        have oo := o1 i
        refine g_iload hC dX5_gainAt_19 5 rfl ?_
        refine g_aload_n hC dX5_gainAt_21 rfl 0 rfl ?_
        refine g_getI (ci := 5) (i := 1) (k := 1) hC fm_in5 rfl ly_1 rfl (by decide) fw_58 dX5_gainAt_22 ?_
        refine g_top (y := nI (t.1 7 0)) v0 ?_
        refine g_icmp_ge_T (X := ((i : Nat) : Int)) (Y := ((t.1 7 0 : Nat) : Int)) hC (nI_toInt (by omega)) (nI_toInt (by omega)) 87 dX5_gainAt_25 rfl (fun c_3 => ?_) (fun c_3 => ?_)
        · skip
          refine g_iload hC dX5_gainAt_87 4 rfl ?_
          refine g_zret (ty := .int) hC rfl rfl dX5_gainAt_89 ⟨congrArg (fun z => some (Value.int z)) ?_, rfl, rfl⟩
          unfold gA
          rw [if_neg (by omega), tw_n _ _ (by omega), ← nI_oI, g2, show i = t.1 7 0 by omega]
        · skip
          refine g_iconst (v := 0) hC dX5_gainAt_28 rfl ?_
          refine g_istore hC [(6, .int 0), (0, .ref (b + 1)), (1, .int (nI hour)), (2, .int x), (3, .int u), (4, .int (nI acc)), (5, .int (nI i))] dX5_gainAt_29 (by decide) rfl ?_
          have lp_31_4 : ∀ (n_4 : Nat) (ac : Nat) (k : Nat), x.toInt.toNat - k < n_4 → (k ≤ x.toInt.toNat ∧ ac = sumN (gAf (tw t u.toInt) hour x.toInt.toNat) i + sumN (fun q => woN t i hour q) k ∧ (k = 0 ∨ (¬ (i : Int) = u.toInt ∧ t.1 3 i = 1))) → fm_G pq l eq (fm_rm 3 66 0 0) sq mq aq bq tq cq D cA b 7 (MQ bq (fm_Q D cA b LAY (fm_pi (Int32.ofInt (gA (tw t u.toInt) hour x.toInt)) M L)) aq sq 0 0 (fun q => b ≤ q)) LAY M L 0 0 31 [(0, .ref (b + 1)), (1, .int (nI hour)), (2, .int x), (3, .int u), (4, .int (nI ac)), (5, .int (nI i)), (6, .int (nI k))] [] := by
            intro n_4
            induction n_4 with
            | zero => intro ac k hm_4; exact absurd hm_4 (Nat.not_lt_zero _)
            | succ n_4 ih_4 =>
              intro ac k hm_4 hinv_4
              obtain ⟨k1, k2, k3⟩ := hinv_4
              refine g_iload hC dX5_gainAt_31 6 rfl ?_
              refine g_iload_n hC dX5_gainAt_33 rfl 2 rfl ?_
              refine g_icmp_ge_T (X := ((k : Nat) : Int)) (Y := x.toInt) hC (nI_toInt (by omega)) rfl 81 dX5_gainAt_34 rfl (fun c_5 => ?_) (fun c_5 => ?_)
              · skip
                refine g_iinc hC [(5, .int (nI (i + 1))), (0, .ref (b + 1)), (1, .int (nI hour)), (2, .int x), (3, .int u), (4, .int (nI ac)), (6, .int (nI k))] dX5_gainAt_81 5 rfl (by rw [show Int32.ofInt 1 = nI 1 from rfl, nI_add]) (by decide) rfl ?_
                refine g_goto hC 19 dX5_gainAt_84 rfl ?_
                exact g_sub [1, 2, 3, 4, 5, 0] rfl (ih_2 ac (i + 1) (by omega) (⟨by omega, gA_step k2 (by omega) (by omega)⟩))
              · skip
                refine g_iload hC dX5_gainAt_37 5 rfl ?_
                refine g_iload_n hC dX5_gainAt_39 rfl 3 rfl ?_
                refine g_icmp_eq_T (X := ((i : Nat) : Int)) (Y := u.toInt) hC (nI_toInt (by omega)) rfl 81 dX5_gainAt_40 rfl (fun c_6 => ?_) (fun c_6 => ?_)
                · skip
                  refine g_iinc hC [(5, .int (nI (i + 1))), (0, .ref (b + 1)), (1, .int (nI hour)), (2, .int x), (3, .int u), (4, .int (nI ac)), (6, .int (nI k))] dX5_gainAt_81 5 rfl (by rw [show Int32.ofInt 1 = nI 1 from rfl, nI_add]) (by decide) rfl ?_
                  refine g_goto hC 19 dX5_gainAt_84 rfl ?_
                  exact g_sub [1, 2, 3, 4, 5, 0] rfl (ih_2 ac (i + 1) (by omega) (⟨by omega, gA_step k2 (by omega) (by omega)⟩))
                · skip
                  refine g_aload_n hC dX5_gainAt_43 rfl 0 rfl ?_
                  refine g_getR (ci := 5) (i := 0) (k := 1) (t := 2) hC fm_in5 rfl ly_1 rfl (by decide) fw_56 dX5_gainAt_44 ?_
                  refine g_iload hC dX5_gainAt_47 5 rfl ?_
                  refine g_aald4N (j := i) (t := 7 + i) (k := 2) hC ly_2 rfl (by omega) (by decide) (fm_z7 _ (by omega)) dX5_gainAt_49 ?_
                  refine g_getI (ci := 1) (i := 3) (k := 7 + i) hC fm_in1 rfl (fm_per7 _ (by omega)) rfl (by decide) fw_42 dX5_gainAt_50 ?_
                  refine g_top (y := nI (t.1 3 i)) (n1 i (by omega)).2.2.2 ?_
                  refine g_iconst (v := 1) hC dX5_gainAt_53 rfl ?_
                  refine g_icmp_ne_T (X := ((t.1 3 i : Nat) : Int)) (Y := 1) hC (nI_toInt (by omega)) rfl 81 dX5_gainAt_54 rfl (fun c_7 => ?_) (fun c_7 => ?_)
                  · skip
                    refine g_iinc hC [(5, .int (nI (i + 1))), (0, .ref (b + 1)), (1, .int (nI hour)), (2, .int x), (3, .int u), (4, .int (nI ac)), (6, .int (nI k))] dX5_gainAt_81 5 rfl (by rw [show Int32.ofInt 1 = nI 1 from rfl, nI_add]) (by decide) rfl ?_
                    refine g_goto hC 19 dX5_gainAt_84 rfl ?_
                    exact g_sub [1, 2, 3, 4, 5, 0] rfl (ih_2 ac (i + 1) (by omega) (⟨by omega, gA_step k2 (by omega) (by omega)⟩))
                  · skip
                    refine g_iload hC dX5_gainAt_57 4 rfl ?_
                    refine g_aload_n hC dX5_gainAt_59 rfl 0 rfl ?_
                    refine g_getR (ci := 5) (i := 0) (k := 1) (t := 2) hC fm_in5 rfl ly_1 rfl (by decide) fw_56 dX5_gainAt_60 ?_
                    refine g_iload hC dX5_gainAt_63 5 rfl ?_
                    refine g_aald4N (j := i) (t := 7 + i) (k := 2) hC ly_2 rfl (by omega) (by decide) (fm_z7 _ (by omega)) dX5_gainAt_65 ?_
                    refine g_iload_n hC dX5_gainAt_66 rfl 1 rfl ?_
                    refine g_iload hC dX5_gainAt_67 6 rfl ?_
                    refine g_callV hC (k := 7 + i) (ci := 1) (as := [.int (nI hour), .int (nI k)]) (rest := [.int (nI ac)]) (c_X1_worthOf l D cA b M L (7 + i) (t.1 0 i) (t.1 1 i) (t.1 2 i) (t.1 3 i) hour k (fm_per7 _ (by omega)) (⟨(n1 i (by omega)).1, (n1 i (by omega)).2.1, (n1 i (by omega)).2.2.1, (n1 i (by omega)).2.2.2, o1 i (by omega)⟩) hh (by omega)) ⟨fw_403, fw_252, fw_253, fw_3, fw_254⟩ ⟨rfl, hd_X1_worthOf⟩ rfl (fm_per7 _ (by omega)) ⟨Nat.le_of_ble_eq_true rfl, Nat.le_of_ble_eq_true rfl⟩ ⟨Nat.le_of_ble_eq_true rfl, Nat.le_of_ble_eq_true rfl⟩ rfl rfl (Nat.le_of_ble_eq_true rfl) dX5_gainAt_69 (g_rix ?_)
                    have wb_8 := wN_le (t.1 0 i) (t.1 1 i) (t.1 2 i) hour k
                    refine g_iadd hC dX5_gainAt_72 ?_
                    refine g_top (y := nI (ac + (wN (t.1 0 i) (t.1 1 i) (t.1 2 i) hour k))) (nI_add _ _) ?_
                    refine g_istore hC [(4, .int (nI (ac + (wN (t.1 0 i) (t.1 1 i) (t.1 2 i) hour k)))), (0, .ref (b + 1)), (1, .int (nI hour)), (2, .int x), (3, .int u), (5, .int (nI i)), (6, .int (nI k))] dX5_gainAt_73 (by decide) rfl ?_
                    refine g_iinc hC [(6, .int (nI (k + 1))), (4, .int (nI (ac + (wN (t.1 0 i) (t.1 1 i) (t.1 2 i) hour k)))), (0, .ref (b + 1)), (1, .int (nI hour)), (2, .int x), (3, .int u), (5, .int (nI i))] dX5_gainAt_75 6 rfl (by rw [show Int32.ofInt 1 = nI 1 from rfl, nI_add]) (by decide) rfl ?_
                    refine g_goto hC 31 dX5_gainAt_78 rfl ?_
                    exact g_sub [2, 3, 4, 5, 1, 6, 0] rfl (ih_4 (ac + (wN (t.1 0 i) (t.1 1 i) (t.1 2 i) hour k)) (k + 1) (by omega) (⟨by omega, by rw [k2]; exact Nat.add_assoc _ _ _, by omega⟩))
          exact g_sub [1, 2, 3, 4, 5, 6, 0] rfl (lp_31_4 (x.toInt.toNat - 0 + 1) acc 0 (Nat.lt_succ_self _) (⟨by omega, g2, Or.inl rfl⟩))
    exact g_sub [2, 3, 4, 5, 1, 0] rfl (lp_19_2 (t.1 7 0 - 0 + 1) 0 0 (Nat.lt_succ_self _) (⟨by omega, rfl⟩))
  · skip
    refine g_iload_n hC dX5_gainAt_4 rfl 2 rfl ?_
    refine g_aload_n hC dX5_gainAt_5 rfl 0 rfl ?_
    refine g_getR (ci := 5) (i := 5) (k := 1) (t := 5) hC fm_in5 rfl ly_1 rfl (by decide) fw_66 dX5_gainAt_6 ?_
    refine g_iload_n hC dX5_gainAt_9 rfl 1 rfl ?_
    refine g_ialdN (j := hour) (k := 5) hC ly_5 rfl (by omega) (by decide) dX5_gainAt_10 ?_
    refine g_top (y := nI (t.1 6 hour)) (n3 hour hh).1 ?_
    refine g_imul hC dX5_gainAt_11 ?_
    refine g_zret (ty := .int) hC rfl rfl dX5_gainAt_12 ⟨congrArg (fun z => some (Value.int z)) ?_, rfl, rfl⟩
    unfold gA
    rw [if_pos (by omega), tw_n _ _ (by omega), ← oI_mul, oI_of, nI_oI]

theorem c_X5_gainOf (l : Launch) (D : va_G) (cA : Nat → ClassId) (b : Nat) (M : Nat → Nat → Int32) (L : Nat → Nat → Int64) (t : Tn) (rc : Nat) (row : Nat → Int) (hT : tC M 1 t) (hto : tOK t) (hrc : LAY[rc]? = some (1, 24, [])) (hr : rowIs M rc row) : fm_Met l D cA b yX5_gainOf cX5_gainOf 4 (some .int) 4 92 0 0 [.ref (b + 1), .ref (b + rc)] LAY M L LAY (fm_pi (Int32.ofInt (gainS t row)) M L) := by
  refine fm_start RX5 rfl (by decide) (Nat.le_of_ble_eq_true rfl) ?_
  intro pq eq sq mq aq bq tq cq hC hin
  obtain ⟨n1, n2, n3, v0, v1, v2, v3, v4, v5, v6, v7, v8⟩ := id hT
  obtain ⟨o1, o2, o3, o4, o5, o6, o7, o8, o9, o10, o11⟩ := id hto
  refine g_iconst (v := 0) hC dX5_gainOf_0 rfl ?_
  refine g_istore_n hC [(2, .int 0), (0, .ref (b + 1)), (1, .ref (b + rc))] dX5_gainOf_1 rfl (by decide) rfl ?_
  refine g_iconst (v := 0) hC dX5_gainOf_2 rfl ?_
  refine g_istore_n hC [(3, .int 0), (2, .int 0), (0, .ref (b + 1)), (1, .ref (b + rc))] dX5_gainOf_3 rfl (by decide) rfl ?_
  have lp_4_1 : ∀ (n_1 : Nat) (h : Nat), 24 - h < n_1 → (h ≤ 24) → fm_G pq l eq (fm_rm 4 92 0 0) sq mq aq bq tq cq D cA b 4 (MQ bq (fm_Q D cA b LAY (fm_pi (Int32.ofInt (gainS t row)) M L)) aq sq 0 0 (fun q => b ≤ q)) LAY M L 0 0 4 [(0, .ref (b + 1)), (1, .ref (b + rc)), (2, .int (Int32.ofInt (sumI (fun h => gA t h (row h)) h))), (3, .int (nI h))] [] := by
    intro n_1
    induction n_1 with
    | zero => intro h hm_1; exact absurd hm_1 (Nat.not_lt_zero _)
    | succ n_1 ih_1 =>
      intro h hm_1 hinv_1
      have i1 := hinv_1
      refine g_iload_n hC dX5_gainOf_4 rfl 3 rfl ?_
      refine g_bipush (v := 24) hC dX5_gainOf_5 rfl ?_
      refine g_icmp_ge_T (X := ((h : Nat) : Int)) (Y := 24) hC (nI_toInt (by omega)) rfl 28 dX5_gainOf_7 rfl (fun c_2 => ?_) (fun c_2 => ?_)
      · skip
        refine g_iload_n hC dX5_gainOf_28 rfl 2 rfl ?_
        refine g_zret (ty := .int) hC rfl rfl dX5_gainOf_29 ⟨congrArg (fun z => some (Value.int z)) ?_, rfl, rfl⟩
        unfold gainS
        rw [show h = 24 by omega]
      · skip
        refine g_iload_n hC dX5_gainOf_10 rfl 2 rfl ?_
        refine g_aload_n hC dX5_gainOf_11 rfl 0 rfl ?_
        refine g_iload_n hC dX5_gainOf_12 rfl 3 rfl ?_
        refine g_aload_n hC dX5_gainOf_13 rfl 1 rfl ?_
        refine g_iload_n hC dX5_gainOf_14 rfl 3 rfl ?_
        refine g_ialdN (j := h) (k := rc) hC hrc rfl (by omega) (by decide) dX5_gainOf_15 ?_
        refine g_top (y := Int32.ofInt (row h)) (hr h (by omega)).1 ?_
        refine g_iconst (v := (-1)) hC dX5_gainOf_16 rfl ?_
        refine g_callV hC (k := 1) (ci := 5) (as := [.int (nI h), .int (Int32.ofInt (row h)), .int (-1)]) (rest := [.int (Int32.ofInt (sumI (fun h => gA t h (row h)) h))]) (c_X5_gainAt l D cA b M L t h (Int32.ofInt (row h)) (-1) hT hto (by omega) (by rw [oI_t (by have := hr h (by omega); omega) (by have := hr h (by omega); omega)]; exact (hr h (by omega)).2)) ⟨fw_399, fw_400, fw_401, fw_2, fw_402⟩ ⟨rfl, hd_X5_gainAt⟩ rfl ly_1 ⟨Nat.le_of_ble_eq_true rfl, Nat.le_of_ble_eq_true rfl⟩ ⟨Nat.le_of_ble_eq_true rfl, Nat.le_of_ble_eq_true rfl⟩ rfl rfl (Nat.le_of_ble_eq_true rfl) dX5_gainOf_17 (g_rix ?_)
        have ge_3 : gA (tw t (-1 : Int32).toInt) h (Int32.ofInt (row h)).toInt = gA t h (row h) := by rw [oI_t (by have := hr h (by omega); omega) (by have := hr h (by omega); omega), tw_none t (by decide)]
        rw [ge_3]
        refine g_iadd hC dX5_gainOf_20 ?_
        refine g_top (y := Int32.ofInt (sumI (fun h => gA t h (row h)) (h + 1))) (oI_add _ _) ?_
        refine g_istore_n hC [(2, .int (Int32.ofInt (sumI (fun h => gA t h (row h)) (h + 1)))), (0, .ref (b + 1)), (1, .ref (b + rc)), (3, .int (nI h))] dX5_gainOf_21 rfl (by decide) rfl ?_
        refine g_iinc hC [(3, .int (nI (h + 1))), (2, .int (Int32.ofInt (sumI (fun h => gA t h (row h)) (h + 1)))), (0, .ref (b + 1)), (1, .ref (b + rc))] dX5_gainOf_22 3 rfl (by rw [show Int32.ofInt 1 = nI 1 from rfl, nI_add]) (by decide) rfl ?_
        refine g_goto hC 4 dX5_gainOf_25 rfl ?_
        exact g_sub [2, 3, 1, 0] rfl (ih_1 (h + 1) (by omega) (by omega))
  exact g_sub [2, 3, 1, 0] rfl (lp_4_1 (24 - 0 + 1) 0 (Nat.lt_succ_self _) (by omega))

theorem c_X5_mostLateAt (l : Launch) (D : va_G) (cA : Nat → ClassId) (b : Nat) (M : Nat → Nat → Int32) (L : Nat → Nat → Int64) (t : Tn) (hour : Nat) (hT : tC M 1 t) (hto : tOK t) (hh : hour ≤ 24) : fm_Met l D cA b yX5_mostLateAt cX5_mostLateAt 4 (some .int) 1 21 0 0 [.ref (b + 1), .int (nI hour)] LAY M L LAY (fm_pi (nI (mlS t hour)) M L) := by
  refine fm_start RX5 rfl (by decide) (Nat.le_of_ble_eq_true rfl) ?_
  intro pq eq sq mq aq bq tq cq hC hin
  obtain ⟨n1, n2, n3, v0, v1, v2, v3, v4, v5, v6, v7, v8⟩ := id hT
  obtain ⟨o1, o2, o3, o4, o5, o6, o7, o8, o9, o10, o11⟩ := id hto
  refine g_aload_n hC dX5_mostLateAt_0 rfl 0 rfl ?_
  refine g_getI (ci := 5) (i := 7) (k := 1) hC fm_in5 rfl ly_1 rfl (by decide) fw_70 dX5_mostLateAt_1 ?_
  refine g_top (y := nI (t.1 7 2)) v2 ?_
  refine g_istore_n hC [(2, .int (nI (t.1 7 2))), (0, .ref (b + 1)), (1, .int (nI hour))] dX5_mostLateAt_4 rfl (by decide) rfl ?_
  refine g_iconst (v := 0) hC dX5_mostLateAt_5 rfl ?_
  refine g_istore_n hC [(3, .int 0), (2, .int (nI (t.1 7 2))), (0, .ref (b + 1)), (1, .int (nI hour))] dX5_mostLateAt_6 rfl (by decide) rfl ?_
  have lp_7_1 : ∀ (n_1 : Nat) (mo : Nat) (i : Nat), t.1 7 1 - i < n_1 → (i ≤ t.1 7 1 ∧ mo = mlF t hour i) → fm_G pq l eq (fm_rm 1 21 0 0) sq mq aq bq tq cq D cA b 4 (MQ bq (fm_Q D cA b LAY (fm_pi (nI (mlS t hour)) M L)) aq sq 0 0 (fun q => b ≤ q)) LAY M L 0 0 7 [(0, .ref (b + 1)), (1, .int (nI hour)), (2, .int (nI mo)), (3, .int (nI i))] [] := by
    intro n_1
    induction n_1 with
    | zero => intro mo i hm_1; exact absurd hm_1 (Nat.not_lt_zero _)
    | succ n_1 ih_1 =>
      intro mo i hm_1 hinv_1
      obtain ⟨i1, i2⟩ := hinv_1
      have oo := o2 i
      have ml := mlF_le t hour i
      refine g_iload_n hC dX5_mostLateAt_7 rfl 3 rfl ?_
      refine g_aload_n hC dX5_mostLateAt_8 rfl 0 rfl ?_
      refine g_getI (ci := 5) (i := 4) (k := 1) hC fm_in5 rfl ly_1 rfl (by decide) fw_64 dX5_mostLateAt_9 ?_
      refine g_top (y := nI (t.1 7 1)) v1 ?_
      refine g_icmp_ge_T (X := ((i : Nat) : Int)) (Y := ((t.1 7 1 : Nat) : Int)) hC (nI_toInt (by omega)) (nI_toInt (by omega)) 42 dX5_mostLateAt_12 rfl (fun c_2 => ?_) (fun c_2 => ?_)
      · skip
        refine g_iload_n hC dX5_mostLateAt_42 rfl 2 rfl ?_
        refine g_zret (ty := .int) hC rfl rfl dX5_mostLateAt_43 ⟨congrArg (fun z => some (Value.int z)) ?_, rfl, rfl⟩
        unfold mlS
        rw [i2, show i = t.1 7 1 by omega]
      · skip
        refine g_aload_n hC dX5_mostLateAt_15 rfl 0 rfl ?_
        refine g_getR (ci := 5) (i := 2) (k := 1) (t := 3) hC fm_in5 rfl ly_1 rfl (by decide) fw_60 dX5_mostLateAt_16 ?_
        refine g_iload_n hC dX5_mostLateAt_19 rfl 3 rfl ?_
        refine g_ialdN (j := i) (k := 3) hC ly_3 rfl (by omega) (by decide) dX5_mostLateAt_20 ?_
        refine g_top (y := nI (t.1 4 i)) (n2 i (by omega)).1 ?_
        refine g_iload_n hC dX5_mostLateAt_21 rfl 1 rfl ?_
        refine g_icmp_ne_T (X := ((t.1 4 i : Nat) : Int)) (Y := ((hour : Nat) : Int)) hC (nI_toInt (by omega)) (nI_toInt (by omega)) 36 dX5_mostLateAt_22 rfl (fun c_3 => ?_) (fun c_3 => ?_)
        · skip
          refine g_iinc hC [(3, .int (nI (i + 1))), (0, .ref (b + 1)), (1, .int (nI hour)), (2, .int (nI mo))] dX5_mostLateAt_36 3 rfl (by rw [show Int32.ofInt 1 = nI 1 from rfl, nI_add]) (by decide) rfl ?_
          refine g_goto hC 7 dX5_mostLateAt_39 rfl ?_
          exact g_sub [1, 2, 3, 0] rfl (ih_1 mo (i + 1) (by omega) (⟨by omega, by rw [i2]; simp only [mlF]; rw [if_neg (by omega)]⟩))
        · skip
          refine g_iload_n hC dX5_mostLateAt_25 rfl 2 rfl ?_
          refine g_aload_n hC dX5_mostLateAt_26 rfl 0 rfl ?_
          refine g_getR (ci := 5) (i := 3) (k := 1) (t := 4) hC fm_in5 rfl ly_1 rfl (by decide) fw_62 dX5_mostLateAt_27 ?_
          refine g_iload_n hC dX5_mostLateAt_30 rfl 3 rfl ?_
          refine g_ialdN (j := i) (k := 4) hC ly_4 rfl (by omega) (by decide) dX5_mostLateAt_31 ?_
          refine g_top (y := nI (t.1 5 i)) (n2 i (by omega)).2 ?_
          refine g_min hC fw_416 fw_262 fw_10 fw_263 (Nat.le_of_ble_eq_true rfl) (Nat.le_of_ble_eq_true rfl) (Nat.zero_le _) (Nat.zero_le _) dX5_mostLateAt_32 ?_
          refine g_top (y := nI (min mo (t.1 5 i))) (min_nI (by omega) (by omega)) ?_
          refine g_istore_n hC [(2, .int (nI (min mo (t.1 5 i)))), (0, .ref (b + 1)), (1, .int (nI hour)), (3, .int (nI i))] dX5_mostLateAt_35 rfl (by decide) rfl ?_
          refine g_iinc hC [(3, .int (nI (i + 1))), (2, .int (nI (min mo (t.1 5 i)))), (0, .ref (b + 1)), (1, .int (nI hour))] dX5_mostLateAt_36 3 rfl (by rw [show Int32.ofInt 1 = nI 1 from rfl, nI_add]) (by decide) rfl ?_
          refine g_goto hC 7 dX5_mostLateAt_39 rfl ?_
          exact g_sub [2, 3, 1, 0] rfl (ih_1 (min mo (t.1 5 i)) (i + 1) (by omega) (⟨by omega, by rw [i2]; simp only [mlF]; rw [if_pos (by omega)]⟩))
  exact g_sub [2, 3, 1, 0] rfl (lp_7_1 (t.1 7 1 - 0 + 1) (t.1 7 2) 0 (Nat.lt_succ_self _) (⟨by omega, rfl⟩))

theorem c_X5_firstWrong (l : Launch) (D : va_G) (cA : Nat → ClassId) (b : Nat) (M : Nat → Nat → Int32) (L : Nat → Nat → Int64) (t : Tn) (rc : Nat) (row : Nat → Int) (hT : tC M 1 t) (hto : tOK t) (hrc : LAY[rc]? = some (1, 24, [])) (hr : rowIs M rc row) : fm_Met l D cA b yX5_firstWrong cX5_firstWrong 4 (some .int) 2 44 0 0 [.ref (b + 1), .ref (b + rc)] LAY M L LAY (fm_pi (wrongS t row) M L) := by
  refine fm_start RX5 rfl (by decide) (Nat.le_of_ble_eq_true rfl) ?_
  intro pq eq sq mq aq bq tq cq hC hin
  obtain ⟨n1, n2, n3, v0, v1, v2, v3, v4, v5, v6, v7, v8⟩ := id hT
  obtain ⟨o1, o2, o3, o4, o5, o6, o7, o8, o9, o10, o11⟩ := id hto
  refine g_iconst (v := 0) hC dX5_firstWrong_0 rfl ?_
  refine g_istore_n hC [(2, .int 0), (0, .ref (b + 1)), (1, .ref (b + rc))] dX5_firstWrong_1 rfl (by decide) rfl ?_
  refine g_iconst (v := 0) hC dX5_firstWrong_2 rfl ?_
  refine g_istore_n hC [(3, .int 0), (2, .int 0), (0, .ref (b + 1)), (1, .ref (b + rc))] dX5_firstWrong_3 rfl (by decide) rfl ?_
  have lp_4_1 : ∀ (n_1 : Nat) (h : Nat), 24 - h < n_1 → (h ≤ 24 ∧ wrU t row h = none) → fm_G pq l eq (fm_rm 2 44 0 0) sq mq aq bq tq cq D cA b 4 (MQ bq (fm_Q D cA b LAY (fm_pi (wrongS t row) M L)) aq sq 0 0 (fun q => b ≤ q)) LAY M L 0 0 4 [(0, .ref (b + 1)), (1, .ref (b + rc)), (2, .int (Int32.ofInt (lateS row h))), (3, .int (nI h))] [] := by
    intro n_1
    induction n_1 with
    | zero => intro h hm_1; exact absurd hm_1 (Nat.not_lt_zero _)
    | succ n_1 ih_1 =>
      intro h hm_1 hinv_1
      obtain ⟨w1, w2⟩ := hinv_1
      have lb := late_b (row_b hr) h (by omega)
      refine g_iload_n hC dX5_firstWrong_4 rfl 3 rfl ?_
      refine g_bipush (v := 24) hC dX5_firstWrong_5 rfl ?_
      refine g_icmp_ge_T (X := ((h : Nat) : Int)) (Y := 24) hC (nI_toInt (by omega)) rfl 47 dX5_firstWrong_7 rfl (fun c_2 => ?_) (fun c_2 => ?_)
      · skip
        refine g_bipush (v := (-4)) hC dX5_firstWrong_47 rfl ?_
        refine g_zret (ty := .int) hC rfl rfl dX5_firstWrong_49 ⟨congrArg (fun z => some (Value.int z)) ?_, rfl, rfl⟩
        show (-4 : Int32) = wrongS t row
        have e24 : h = 24 := by omega
        subst e24
        unfold wrongS
        rw [w2]
      · skip
        refine g_iload_n hC dX5_firstWrong_10 rfl 2 rfl ?_
        refine g_aload_n hC dX5_firstWrong_11 rfl 0 rfl ?_
        refine g_iload_n hC dX5_firstWrong_12 rfl 3 rfl ?_
        refine g_callV hC (k := 1) (ci := 5) (as := [.int (nI h)]) (rest := [.int (Int32.ofInt (lateS row h))]) (c_X5_mostLateAt l D cA b M L t h hT hto (by omega)) ⟨fw_412, fw_413, fw_414, fw_2, fw_415⟩ ⟨rfl, hd_X5_mostLateAt⟩ rfl ly_1 ⟨Nat.le_of_ble_eq_true rfl, Nat.le_of_ble_eq_true rfl⟩ ⟨Nat.le_of_ble_eq_true rfl, Nat.le_of_ble_eq_true rfl⟩ rfl rfl (Nat.le_of_ble_eq_true rfl) dX5_firstWrong_13 (g_rix ?_)
        have mb_3 := mlS_le t h
        refine g_icmp_le_T (X := lateS row h) (Y := ((mlS t h : Nat) : Int)) hC (oI_t (by omega) (by omega)) (nI_toInt (by omega)) 21 dX5_firstWrong_16 rfl (fun c_4 => ?_) (fun c_4 => ?_)
        · skip
          refine g_iload_n hC dX5_firstWrong_21 rfl 2 rfl ?_
          refine g_aload_n hC dX5_firstWrong_22 rfl 1 rfl ?_
          refine g_iload_n hC dX5_firstWrong_23 rfl 3 rfl ?_
          refine g_ialdN (j := h) (k := rc) hC hrc rfl (by omega) (by decide) dX5_firstWrong_24 ?_
          refine g_top (y := Int32.ofInt (row h)) (hr h (by omega)).1 ?_
          refine g_iadd hC dX5_firstWrong_25 ?_
          refine g_top (y := Int32.ofInt (lateS row (h + 1))) (oI_add _ _) ?_
          refine g_istore_n hC [(2, .int (Int32.ofInt (lateS row (h + 1)))), (0, .ref (b + 1)), (1, .ref (b + rc)), (3, .int (nI h))] dX5_firstWrong_26 rfl (by decide) rfl ?_
          have lb2 := late_b (row_b hr) (h + 1) (by omega)
          refine g_iload_n hC dX5_firstWrong_27 rfl 0 rfl ?_
          refine g_if_lt_T (X := lateS row (h + 1)) hC (oI_t (by omega) (by omega)) 39 dX5_firstWrong_28 rfl (fun c_5 => ?_) (fun c_5 => ?_)
          · skip
            refine g_iload_n hC dX5_firstWrong_39 rfl 3 rfl ?_
            refine g_zret (ty := .int) hC rfl rfl dX5_firstWrong_40 ⟨congrArg (fun z => some (Value.int z)) ?_, rfl, rfl⟩
            have hb : badS t row h := by unfold badS; omega
            unfold wrongS
            rw [wrU_hit w2 hb (by omega)]
          · skip
            refine g_iload_n hC dX5_firstWrong_31 rfl 0 rfl ?_
            refine g_aload_n hC dX5_firstWrong_32 rfl 1 rfl ?_
            refine g_getI (ci := 5) (i := 7) (k := 1) hC fm_in5 rfl ly_1 rfl (by decide) fw_70 dX5_firstWrong_33 ?_
            refine g_top (y := nI (t.1 7 2)) v2 ?_
            refine g_icmp_le_T (X := lateS row (h + 1)) (Y := ((t.1 7 2 : Nat) : Int)) hC (oI_t (by omega) (by omega)) (nI_toInt (by omega)) 41 dX5_firstWrong_36 rfl (fun c_6 => ?_) (fun c_6 => ?_)
            · skip
              refine g_iinc hC [(3, .int (nI (h + 1))), (2, .int (Int32.ofInt (lateS row (h + 1)))), (0, .ref (b + 1)), (1, .ref (b + rc))] dX5_firstWrong_41 3 rfl (by rw [show Int32.ofInt 1 = nI 1 from rfl, nI_add]) (by decide) rfl ?_
              refine g_goto hC 4 dX5_firstWrong_44 rfl ?_
              exact g_sub [2, 3, 1, 0] rfl (ih_1 (h + 1) (by omega) (⟨by omega, wrU_miss w2 (by unfold badS; omega)⟩))
            · skip
              refine g_iload_n hC dX5_firstWrong_39 rfl 3 rfl ?_
              refine g_zret (ty := .int) hC rfl rfl dX5_firstWrong_40 ⟨congrArg (fun z => some (Value.int z)) ?_, rfl, rfl⟩
              have hb : badS t row h := by unfold badS; omega
              unfold wrongS
              rw [wrU_hit w2 hb (by omega)]
        · skip
          refine g_iload_n hC dX5_firstWrong_19 rfl 3 rfl ?_
          refine g_zret (ty := .int) hC rfl rfl dX5_firstWrong_20 ⟨congrArg (fun z => some (Value.int z)) ?_, rfl, rfl⟩
          have hb : badS t row h := by unfold badS; omega
          unfold wrongS
          rw [wrU_hit w2 hb (by omega)]
  exact g_sub [2, 3, 1, 0] rfl (lp_4_1 (24 - 0 + 1) 0 (Nat.lt_succ_self _) (⟨by omega, rfl⟩))

theorem c_X5_missedBy (l : Launch) (D : va_G) (cA : Nat → ClassId) (b : Nat) (M : Nat → Nat → Int32) (L : Nat → Nat → Int64) (t : Tn) (rc : Nat) (row : Nat → Int) (hT : tC M 1 t) (hto : tOK t) (hrc : LAY[rc]? = some (1, 24, [])) (hr : rowIs M rc row) : fm_Met l D cA b yX5_missedBy cX5_missedBy 4 (some .int) 1 23 0 0 [.ref (b + 1), .ref (b + rc)] LAY M L LAY (fm_pi (msF t row (t.1 7 1)) M L) := by
  refine fm_start RX5 rfl (by decide) (Nat.le_of_ble_eq_true rfl) ?_
  intro pq eq sq mq aq bq tq cq hC hin
  obtain ⟨n1, n2, n3, v0, v1, v2, v3, v4, v5, v6, v7, v8⟩ := id hT
  obtain ⟨o1, o2, o3, o4, o5, o6, o7, o8, o9, o10, o11⟩ := id hto
  refine g_iconst (v := 0) hC dX5_missedBy_0 rfl ?_
  refine g_istore_n hC [(2, .int 0), (0, .ref (b + 1)), (1, .ref (b + rc))] dX5_missedBy_1 rfl (by decide) rfl ?_
  refine g_iconst (v := 0) hC dX5_missedBy_2 rfl ?_
  refine g_istore_n hC [(3, .int 0), (2, .int 0), (0, .ref (b + 1)), (1, .ref (b + rc))] dX5_missedBy_3 rfl (by decide) rfl ?_
  have lp_4_1 : ∀ (n_1 : Nat) (i : Nat), t.1 7 1 - i < n_1 → (i ≤ t.1 7 1) → fm_G pq l eq (fm_rm 1 23 0 0) sq mq aq bq tq cq D cA b 4 (MQ bq (fm_Q D cA b LAY (fm_pi (msF t row (t.1 7 1)) M L)) aq sq 0 0 (fun q => b ≤ q)) LAY M L 0 0 4 [(0, .ref (b + 1)), (1, .ref (b + rc)), (2, .int (msF t row i)), (3, .int (nI i))] [] := by
    intro n_1
    induction n_1 with
    | zero => intro i hm_1; exact absurd hm_1 (Nat.not_lt_zero _)
    | succ n_1 ih_1 =>
      intro i hm_1 hinv_1
      have i1 := hinv_1
      have oo := o2 i
      refine g_iload_n hC dX5_missedBy_4 rfl 3 rfl ?_
      refine g_aload_n hC dX5_missedBy_5 rfl 0 rfl ?_
      refine g_getI (ci := 5) (i := 4) (k := 1) hC fm_in5 rfl ly_1 rfl (by decide) fw_64 dX5_missedBy_6 ?_
      refine g_top (y := nI (t.1 7 1)) v1 ?_
      refine g_icmp_ge_T (X := ((i : Nat) : Int)) (Y := ((t.1 7 1 : Nat) : Int)) hC (nI_toInt (by omega)) (nI_toInt (by omega)) 43 dX5_missedBy_9 rfl (fun c_2 => ?_) (fun c_2 => ?_)
      · skip
        refine g_iload_n hC dX5_missedBy_43 rfl 2 rfl ?_
        refine g_zret (ty := .int) hC rfl rfl dX5_missedBy_44 ⟨congrArg (fun z => some (Value.int z)) ?_, rfl, rfl⟩
        rw [show i = t.1 7 1 by omega]
      · skip
        refine g_aload_n hC dX5_missedBy_12 rfl 1 rfl ?_
        refine g_aload_n hC dX5_missedBy_13 rfl 0 rfl ?_
        refine g_getR (ci := 5) (i := 2) (k := 1) (t := 3) hC fm_in5 rfl ly_1 rfl (by decide) fw_60 dX5_missedBy_14 ?_
        refine g_iload_n hC dX5_missedBy_17 rfl 3 rfl ?_
        refine g_ialdN (j := i) (k := 3) hC ly_3 rfl (by omega) (by decide) dX5_missedBy_18 ?_
        refine g_top (y := nI (t.1 4 i)) (n2 i (by omega)).1 ?_
        refine g_callSN hC (as := [.ref (b + rc), .int (nI (t.1 4 i))]) (rest := []) (host := "JarMinutes") (c_X6_lateAt l D cA b M L rc row (t.1 4 i) hrc hr (by omega)) ⟨List.mem_of_getElem? (i := 6) rfl, fw_389, fw_1, fw_390⟩ hd_X6_lateAt ⟨Nat.le_of_ble_eq_true rfl, Nat.le_of_ble_eq_true rfl⟩ ⟨Nat.le_of_ble_eq_true rfl, Nat.le_of_ble_eq_true rfl⟩ rfl rfl (Nat.le_of_ble_eq_true rfl) dX5_missedBy_19 (g_rix ?_)
        have lb := late_b (row_b hr) (t.1 4 i) (by omega)
        refine g_aload_n hC dX5_missedBy_22 rfl 0 rfl ?_
        refine g_getR (ci := 5) (i := 3) (k := 1) (t := 4) hC fm_in5 rfl ly_1 rfl (by decide) fw_62 dX5_missedBy_23 ?_
        refine g_iload_n hC dX5_missedBy_26 rfl 3 rfl ?_
        refine g_ialdN (j := i) (k := 4) hC ly_4 rfl (by omega) (by decide) dX5_missedBy_27 ?_
        refine g_top (y := nI (t.1 5 i)) (n2 i (by omega)).2 ?_
        refine g_icmp_le_T (X := lateS row (t.1 4 i)) (Y := ((t.1 5 i : Nat) : Int)) hC (oI_t (by omega) (by omega)) (nI_toInt (by omega)) 37 dX5_missedBy_28 rfl (fun c_4 => ?_) (fun c_4 => ?_)
        · skip
          refine g_iinc hC [(3, .int (nI (i + 1))), (0, .ref (b + 1)), (1, .ref (b + rc)), (2, .int (msF t row i))] dX5_missedBy_37 3 rfl (by rw [show Int32.ofInt 1 = nI 1 from rfl, nI_add]) (by decide) rfl ?_
          refine g_goto hC 4 dX5_missedBy_40 rfl ?_
          rw [show msF t row i = msF t row (i + 1) by simp only [msF]; rw [if_neg (by omega)]]
          exact g_sub [1, 2, 3, 0] rfl (ih_1 (i + 1) (by omega) (by omega))
        · skip
          refine g_iload_n hC dX5_missedBy_31 rfl 2 rfl ?_
          refine g_iconst (v := 1) hC dX5_missedBy_32 rfl ?_
          refine g_iload_n hC dX5_missedBy_33 rfl 3 rfl ?_
          refine g_ishl hC dX5_missedBy_34 ?_
          refine g_ior hC dX5_missedBy_35 ?_
          refine g_istore_n hC [(2, .int ((msF t row i) ||| (1 <<< ((nI i) &&& 31)))), (0, .ref (b + 1)), (1, .ref (b + rc)), (3, .int (nI i))] dX5_missedBy_36 rfl (by decide) rfl ?_
          refine g_iinc hC [(3, .int (nI (i + 1))), (2, .int ((msF t row i) ||| (1 <<< ((nI i) &&& 31)))), (0, .ref (b + 1)), (1, .ref (b + rc))] dX5_missedBy_37 3 rfl (by rw [show Int32.ofInt 1 = nI 1 from rfl, nI_add]) (by decide) rfl ?_
          refine g_goto hC 4 dX5_missedBy_40 rfl ?_
          rw [show (msF t row i ||| (1 <<< (nI i &&& 31))) = msF t row (i + 1) by simp only [msF]; rw [if_pos (by omega)]]
          exact g_sub [2, 3, 1, 0] rfl (ih_1 (i + 1) (by omega) (by omega))
  exact g_sub [2, 3, 1, 0] rfl (lp_4_1 (t.1 7 1 - 0 + 1) 0 (Nat.lt_succ_self _) (by omega))

theorem c_X5_liveDay (l : Launch) (D : va_G) (cA : Nat → ClassId) (b : Nat) (M : Nat → Nat → Int32) (L : Nat → Nat → Int64) (t : Tn) (rc : Nat) (row : Nat → Int) (hT : tC M 1 t) (hto : tOK t) (hrc : LAY[rc]? = some (1, 24, [])) (hr : rowIs M rc row) (hl : 0 ≤ lateS row 24 ∧ lateS row 24 ≤ (t.1 7 2 : Int)) (hd : t.1 7 6 < 9999) (hrn : rc ≠ 1) : fm_Met l D cA b yX5_liveDay cX5_liveDay 3 (some .int) 5 115 0 0 [.ref (b + 1), .ref (b + rc)] LAY M L LAY (fm_pm (fun r M' L' => r = Int32.ofInt (gainS t row) ∧ tC M' 1 (dayT t row) ∧ (∀ k, k ≠ 1 → M' k = M k) ∧ L' = L)) := by
  refine fm_start RX5 rfl (by decide) (Nat.le_of_ble_eq_true rfl) ?_
  intro pq eq sq mq aq bq tq cq hC hin
  obtain ⟨n1, n2, n3, v0, v1, v2, v3, v4, v5, v6, v7, v8⟩ := id hT
  obtain ⟨o1, o2, o3, o4, o5, o6, o7, o8, o9, o10, o11⟩ := id hto
  refine g_aload_n hC dX5_liveDay_0 rfl 0 rfl ?_
  refine g_aload_n hC dX5_liveDay_1 rfl 1 rfl ?_
  refine g_callV hC (k := 1) (ci := 5) (as := [.ref (b + rc)]) (rest := []) (c_X5_gainOf l D cA b M L t rc row hT hto hrc hr) ⟨fw_436, fw_396, fw_397, fw_2, fw_398⟩ ⟨rfl, hd_X5_gainOf⟩ rfl ly_1 ⟨Nat.le_of_ble_eq_true rfl, Nat.le_of_ble_eq_true rfl⟩ ⟨Nat.le_of_ble_eq_true rfl, Nat.le_of_ble_eq_true rfl⟩ rfl rfl (Nat.le_of_ble_eq_true rfl) dX5_liveDay_2 (g_rix ?_)
  refine g_istore_n hC [(2, .int (Int32.ofInt (gainS t row))), (0, .ref (b + 1)), (1, .ref (b + rc))] dX5_liveDay_5 rfl (by decide) rfl ?_
  refine g_aload_n hC dX5_liveDay_6 rfl 1 rfl ?_
  refine g_dup hC dX5_liveDay_7 rfl ?_
  refine g_getI (ci := 5) (i := 7) (k := 1) hC fm_in5 rfl ly_1 rfl (by decide) fw_70 dX5_liveDay_8 ?_
  refine g_top (y := nI (t.1 7 2)) v2 ?_
  refine g_aload_n hC dX5_liveDay_11 rfl 2 rfl ?_
  refine g_bipush (v := 24) hC dX5_liveDay_12 rfl ?_
  refine g_callSN hC (as := [.ref (b + rc), .int 24]) (rest := [.int (nI (t.1 7 2)), .ref (b + 1)]) (host := "JarMinutes") (c_X6_lateAt l D cA b M L rc row 24 hrc hr (by omega)) ⟨List.mem_of_getElem? (i := 6) rfl, fw_389, fw_1, fw_390⟩ hd_X6_lateAt ⟨Nat.le_of_ble_eq_true rfl, Nat.le_of_ble_eq_true rfl⟩ ⟨Nat.le_of_ble_eq_true rfl, Nat.le_of_ble_eq_true rfl⟩ rfl rfl (Nat.le_of_ble_eq_true rfl) dX5_liveDay_14 (g_rix ?_)
  refine g_isub hC dX5_liveDay_17 ?_
  refine g_top (y := nI (t.1 7 2 - (lateS row 24).toNat)) (jar_sub hl.1 hl.2) ?_
  refine g_putI (ci := 5) (i := 7) (k := 1) hC fm_in5 tyX5 tyX5_ok nmX5 rfl ly_1 rfl (by decide) fw_70 rfl rfl rfl dX5_liveDay_18 ?_
  refine g_aload_n hC dX5_liveDay_21 rfl 1 rfl ?_
  refine g_dup hC dX5_liveDay_22 rfl ?_
  refine g_getI (ci := 5) (i := 12) (k := 1) hC fm_in5 rfl ly_1 rfl (by decide) fw_80 dX5_liveDay_23 ?_
  refine g_top (y := t.2.2) ((by simp [fm_up, fm_row, upd] : (fm_up M 1 7 (nI (t.1 7 2 - (lateS row 24).toNat))) 1 12 = M 1 12).trans v7) ?_
  refine g_iload_n hC dX5_liveDay_26 rfl 0 rfl ?_
  refine g_iadd hC dX5_liveDay_27 ?_
  refine g_putI (ci := 5) (i := 12) (k := 1) hC fm_in5 tyX5 tyX5_ok nmX5 rfl ly_1 rfl (by decide) fw_80 rfl rfl rfl dX5_liveDay_28 ?_
  refine g_aload_n hC dX5_liveDay_31 rfl 1 rfl ?_
  refine g_dup hC dX5_liveDay_32 rfl ?_
  refine g_getI (ci := 5) (i := 11) (k := 1) hC fm_in5 rfl ly_1 rfl (by decide) fw_78 dX5_liveDay_33 ?_
  refine g_top (y := nI (t.1 7 6)) ((by simp [fm_up, fm_row, upd] : (fm_up (fm_up M 1 7 (nI (t.1 7 2 - (lateS row 24).toNat))) 1 12 (t.2.2 + (Int32.ofInt (gainS t row)))) 1 11 = M 1 11).trans v6) ?_
  refine g_iconst (v := 1) hC dX5_liveDay_36 rfl ?_
  refine g_iadd hC dX5_liveDay_37 ?_
  refine g_top (y := nI ((t.1 7 6) + 1)) (nI_add _ _) ?_
  refine g_putI (ci := 5) (i := 11) (k := 1) hC fm_in5 tyX5 tyX5_ok nmX5 rfl ly_1 rfl (by decide) fw_78 rfl rfl rfl dX5_liveDay_38 ?_
  refine g_aload_n hC dX5_liveDay_41 rfl 1 rfl ?_
  refine g_getI (ci := 5) (i := 8) (k := 1) hC fm_in5 rfl ly_1 rfl (by decide) fw_72 dX5_liveDay_42 ?_
  refine g_top (y := nI (t.1 7 3)) ((by simp [fm_up, fm_row, upd] : (fm_up (fm_up (fm_up M 1 7 (nI (t.1 7 2 - (lateS row 24).toNat))) 1 12 (t.2.2 + (Int32.ofInt (gainS t row)))) 1 11 (nI ((t.1 7 6) + 1))) 1 8 = M 1 8).trans v3) ?_
  refine g_if_le_T (X := ((t.1 7 3 : Nat) : Int)) hC (nI_toInt (by omega)) 74 dX5_liveDay_45 rfl (fun c_3 => ?_) (fun c_3 => ?_)
  · skip
    refine g_aload_n hC dX5_liveDay_74 rfl 1 rfl ?_
    refine g_getI (ci := 5) (i := 9) (k := 1) hC fm_in5 rfl ly_1 rfl (by decide) fw_74 dX5_liveDay_75 ?_
    refine g_top (y := nI (t.1 7 4)) ((by simp [fm_up, fm_row, upd] : (fm_up (fm_up (fm_up M 1 7 (nI (t.1 7 2 - (lateS row 24).toNat))) 1 12 (t.2.2 + (Int32.ofInt (gainS t row)))) 1 11 (nI ((t.1 7 6) + 1))) 1 9 = M 1 9).trans v4) ?_
    refine g_if_le_T (X := ((t.1 7 4 : Nat) : Int)) hC (nI_toInt (by omega)) 111 dX5_liveDay_78 rfl (fun c_4 => ?_) (fun c_4 => ?_)
    · skip
      refine g_iload_n hC dX5_liveDay_111 rfl 0 rfl ?_
      refine g_zret (ty := .int) hC rfl rfl dX5_liveDay_112 ?_
      refine ⟨_, rfl, rfl, ?_, ?_, rfl⟩
      · refine tC_day hT (M' := fm_up (fm_up (fm_up M 1 7 (nI (t.1 7 2 - (lateS row 24).toNat))) 1 12 (t.2.2 + (Int32.ofInt (gainS t row)))) 1 11 (nI ((t.1 7 6) + 1))) ?_ ?_ ?_ ?_ ?_ o4
        · simp [fm_up, fm_row, upd]
          exact congrArg nI (by simp only [dayJ]; (repeat' split) <;> omega)
        · simp [fm_up, fm_row, upd]
        · simp [fm_up, fm_row, upd]
        · intro i i1 i2 i3
          simp [fm_up, fm_row, upd, i1, i2, i3]
        · intro k k1
          simp [fm_up, fm_row, k1]
      · intro k k1
        simp [fm_up, fm_row, k1]
    · skip
      refine g_aload_n hC dX5_liveDay_81 rfl 1 rfl ?_
      refine g_getI (ci := 5) (i := 11) (k := 1) hC fm_in5 rfl ly_1 rfl (by decide) fw_78 dX5_liveDay_82 ?_
      refine g_top (y := nI ((t.1 7 6) + 1)) (by simp [fm_up, fm_row, upd]) ?_
      refine g_aload_n hC dX5_liveDay_85 rfl 1 rfl ?_
      refine g_getI (ci := 5) (i := 9) (k := 1) hC fm_in5 rfl ly_1 rfl (by decide) fw_74 dX5_liveDay_86 ?_
      refine g_top (y := nI (t.1 7 4)) ((by simp [fm_up, fm_row, upd] : (fm_up (fm_up (fm_up M 1 7 (nI (t.1 7 2 - (lateS row 24).toNat))) 1 12 (t.2.2 + (Int32.ofInt (gainS t row)))) 1 11 (nI ((t.1 7 6) + 1))) 1 9 = M 1 9).trans v4) ?_
      refine g_irem hC dX5_liveDay_89 (nI_ne0 (by omega) (by omega)) ?_
      refine g_top (y := nI ((t.1 7 6 + 1) % t.1 7 4)) (pk_rem (by omega) (by omega) (by omega)) ?_
      have ml4 := Nat.mod_lt (t.1 7 6 + 1) (show 0 < t.1 7 4 by omega)
      refine g_if_ne_T (X := (((t.1 7 6 + 1) % t.1 7 4 : Nat) : Int)) hC (nI_toInt (by omega)) 111 dX5_liveDay_90 rfl (fun c_5 => ?_) (fun c_5 => ?_)
      · skip
        refine g_iload_n hC dX5_liveDay_111 rfl 0 rfl ?_
        refine g_zret (ty := .int) hC rfl rfl dX5_liveDay_112 ?_
        refine ⟨_, rfl, rfl, ?_, ?_, rfl⟩
        · refine tC_day hT (M' := fm_up (fm_up (fm_up M 1 7 (nI (t.1 7 2 - (lateS row 24).toNat))) 1 12 (t.2.2 + (Int32.ofInt (gainS t row)))) 1 11 (nI ((t.1 7 6) + 1))) ?_ ?_ ?_ ?_ ?_ o4
          · simp [fm_up, fm_row, upd]
            exact congrArg nI (by simp only [dayJ]; (repeat' split) <;> omega)
          · simp [fm_up, fm_row, upd]
          · simp [fm_up, fm_row, upd]
          · intro i i1 i2 i3
            simp [fm_up, fm_row, upd, i1, i2, i3]
          · intro k k1
            simp [fm_up, fm_row, k1]
        · intro k k1
          simp [fm_up, fm_row, k1]
      · skip
        refine g_aload_n hC dX5_liveDay_93 rfl 1 rfl ?_
        refine g_aload_n hC dX5_liveDay_94 rfl 1 rfl ?_
        refine g_getI (ci := 5) (i := 7) (k := 1) hC fm_in5 rfl ly_1 rfl (by decide) fw_70 dX5_liveDay_95 ?_
        refine g_top (y := nI (t.1 7 2 - (lateS row 24).toNat)) (by simp [fm_up, fm_row, upd]) ?_
        refine g_aload_n hC dX5_liveDay_98 rfl 1 rfl ?_
        refine g_getI (ci := 5) (i := 10) (k := 1) hC fm_in5 rfl ly_1 rfl (by decide) fw_76 dX5_liveDay_99 ?_
        refine g_top (y := nI (t.1 7 5)) ((by simp [fm_up, fm_row, upd] : (fm_up (fm_up (fm_up M 1 7 (nI (t.1 7 2 - (lateS row 24).toNat))) 1 12 (t.2.2 + (Int32.ofInt (gainS t row)))) 1 11 (nI ((t.1 7 6) + 1))) 1 10 = M 1 10).trans v5) ?_
        refine g_iadd hC dX5_liveDay_102 ?_
        refine g_top (y := nI ((t.1 7 2 - (lateS row 24).toNat) + (t.1 7 5))) (nI_add _ _) ?_
        refine g_bipush (v := 99) hC dX5_liveDay_103 rfl ?_
        refine g_min hC fw_416 fw_262 fw_10 fw_263 (Nat.le_of_ble_eq_true rfl) (Nat.le_of_ble_eq_true rfl) (Nat.zero_le _) (Nat.zero_le _) dX5_liveDay_105 ?_
        refine g_top (y := nI (min ((t.1 7 2 - (lateS row 24).toNat) + (t.1 7 5)) 99)) (min_nI (by omega) (by decide)) ?_
        refine g_putI (ci := 5) (i := 7) (k := 1) hC fm_in5 tyX5 tyX5_ok nmX5 rfl ly_1 rfl (by decide) fw_70 rfl rfl rfl dX5_liveDay_108 ?_
        refine g_iload_n hC dX5_liveDay_111 rfl 0 rfl ?_
        refine g_zret (ty := .int) hC rfl rfl dX5_liveDay_112 ?_
        refine ⟨_, rfl, rfl, ?_, ?_, rfl⟩
        · refine tC_day hT (M' := fm_up (fm_up (fm_up (fm_up M 1 7 (nI (t.1 7 2 - (lateS row 24).toNat))) 1 12 (t.2.2 + (Int32.ofInt (gainS t row)))) 1 11 (nI ((t.1 7 6) + 1))) 1 7 (nI (min ((t.1 7 2 - (lateS row 24).toNat) + (t.1 7 5)) 99))) ?_ ?_ ?_ ?_ ?_ o4
          · simp [fm_up, fm_row, upd]
            exact congrArg nI (by simp only [dayJ]; (repeat' split) <;> omega)
          · simp [fm_up, fm_row, upd]
          · simp [fm_up, fm_row, upd]
          · intro i i1 i2 i3
            simp [fm_up, fm_row, upd, i1, i2, i3]
          · intro k k1
            simp [fm_up, fm_row, k1]
        · intro k k1
          simp [fm_up, fm_row, k1]
  · skip
    refine g_aload_n hC dX5_liveDay_48 rfl 1 rfl ?_
    refine g_getI (ci := 5) (i := 11) (k := 1) hC fm_in5 rfl ly_1 rfl (by decide) fw_78 dX5_liveDay_49 ?_
    refine g_top (y := nI ((t.1 7 6) + 1)) (by simp [fm_up, fm_row, upd]) ?_
    refine g_aload_n hC dX5_liveDay_52 rfl 1 rfl ?_
    refine g_getI (ci := 5) (i := 8) (k := 1) hC fm_in5 rfl ly_1 rfl (by decide) fw_72 dX5_liveDay_53 ?_
    refine g_top (y := nI (t.1 7 3)) ((by simp [fm_up, fm_row, upd] : (fm_up (fm_up (fm_up M 1 7 (nI (t.1 7 2 - (lateS row 24).toNat))) 1 12 (t.2.2 + (Int32.ofInt (gainS t row)))) 1 11 (nI ((t.1 7 6) + 1))) 1 8 = M 1 8).trans v3) ?_
    refine g_irem hC dX5_liveDay_56 (nI_ne0 (by omega) (by omega)) ?_
    refine g_top (y := nI ((t.1 7 6 + 1) % t.1 7 3)) (pk_rem (by omega) (by omega) (by omega)) ?_
    have ml3 := Nat.mod_lt (t.1 7 6 + 1) (show 0 < t.1 7 3 by omega)
    refine g_if_ne_T (X := (((t.1 7 6 + 1) % t.1 7 3 : Nat) : Int)) hC (nI_toInt (by omega)) 74 dX5_liveDay_57 rfl (fun c_6 => ?_) (fun c_6 => ?_)
    · skip
      refine g_aload_n hC dX5_liveDay_74 rfl 1 rfl ?_
      refine g_getI (ci := 5) (i := 9) (k := 1) hC fm_in5 rfl ly_1 rfl (by decide) fw_74 dX5_liveDay_75 ?_
      refine g_top (y := nI (t.1 7 4)) ((by simp [fm_up, fm_row, upd] : (fm_up (fm_up (fm_up M 1 7 (nI (t.1 7 2 - (lateS row 24).toNat))) 1 12 (t.2.2 + (Int32.ofInt (gainS t row)))) 1 11 (nI ((t.1 7 6) + 1))) 1 9 = M 1 9).trans v4) ?_
      refine g_if_le_T (X := ((t.1 7 4 : Nat) : Int)) hC (nI_toInt (by omega)) 111 dX5_liveDay_78 rfl (fun c_7 => ?_) (fun c_7 => ?_)
      · skip
        refine g_iload_n hC dX5_liveDay_111 rfl 0 rfl ?_
        refine g_zret (ty := .int) hC rfl rfl dX5_liveDay_112 ?_
        refine ⟨_, rfl, rfl, ?_, ?_, rfl⟩
        · refine tC_day hT (M' := fm_up (fm_up (fm_up M 1 7 (nI (t.1 7 2 - (lateS row 24).toNat))) 1 12 (t.2.2 + (Int32.ofInt (gainS t row)))) 1 11 (nI ((t.1 7 6) + 1))) ?_ ?_ ?_ ?_ ?_ o4
          · simp [fm_up, fm_row, upd]
            exact congrArg nI (by simp only [dayJ]; (repeat' split) <;> omega)
          · simp [fm_up, fm_row, upd]
          · simp [fm_up, fm_row, upd]
          · intro i i1 i2 i3
            simp [fm_up, fm_row, upd, i1, i2, i3]
          · intro k k1
            simp [fm_up, fm_row, k1]
        · intro k k1
          simp [fm_up, fm_row, k1]
      · skip
        refine g_aload_n hC dX5_liveDay_81 rfl 1 rfl ?_
        refine g_getI (ci := 5) (i := 11) (k := 1) hC fm_in5 rfl ly_1 rfl (by decide) fw_78 dX5_liveDay_82 ?_
        refine g_top (y := nI ((t.1 7 6) + 1)) (by simp [fm_up, fm_row, upd]) ?_
        refine g_aload_n hC dX5_liveDay_85 rfl 1 rfl ?_
        refine g_getI (ci := 5) (i := 9) (k := 1) hC fm_in5 rfl ly_1 rfl (by decide) fw_74 dX5_liveDay_86 ?_
        refine g_top (y := nI (t.1 7 4)) ((by simp [fm_up, fm_row, upd] : (fm_up (fm_up (fm_up M 1 7 (nI (t.1 7 2 - (lateS row 24).toNat))) 1 12 (t.2.2 + (Int32.ofInt (gainS t row)))) 1 11 (nI ((t.1 7 6) + 1))) 1 9 = M 1 9).trans v4) ?_
        refine g_irem hC dX5_liveDay_89 (nI_ne0 (by omega) (by omega)) ?_
        refine g_top (y := nI ((t.1 7 6 + 1) % t.1 7 4)) (pk_rem (by omega) (by omega) (by omega)) ?_
        have ml4 := Nat.mod_lt (t.1 7 6 + 1) (show 0 < t.1 7 4 by omega)
        refine g_if_ne_T (X := (((t.1 7 6 + 1) % t.1 7 4 : Nat) : Int)) hC (nI_toInt (by omega)) 111 dX5_liveDay_90 rfl (fun c_8 => ?_) (fun c_8 => ?_)
        · skip
          refine g_iload_n hC dX5_liveDay_111 rfl 0 rfl ?_
          refine g_zret (ty := .int) hC rfl rfl dX5_liveDay_112 ?_
          refine ⟨_, rfl, rfl, ?_, ?_, rfl⟩
          · refine tC_day hT (M' := fm_up (fm_up (fm_up M 1 7 (nI (t.1 7 2 - (lateS row 24).toNat))) 1 12 (t.2.2 + (Int32.ofInt (gainS t row)))) 1 11 (nI ((t.1 7 6) + 1))) ?_ ?_ ?_ ?_ ?_ o4
            · simp [fm_up, fm_row, upd]
              exact congrArg nI (by simp only [dayJ]; (repeat' split) <;> omega)
            · simp [fm_up, fm_row, upd]
            · simp [fm_up, fm_row, upd]
            · intro i i1 i2 i3
              simp [fm_up, fm_row, upd, i1, i2, i3]
            · intro k k1
              simp [fm_up, fm_row, k1]
          · intro k k1
            simp [fm_up, fm_row, k1]
        · skip
          refine g_aload_n hC dX5_liveDay_93 rfl 1 rfl ?_
          refine g_aload_n hC dX5_liveDay_94 rfl 1 rfl ?_
          refine g_getI (ci := 5) (i := 7) (k := 1) hC fm_in5 rfl ly_1 rfl (by decide) fw_70 dX5_liveDay_95 ?_
          refine g_top (y := nI (t.1 7 2 - (lateS row 24).toNat)) (by simp [fm_up, fm_row, upd]) ?_
          refine g_aload_n hC dX5_liveDay_98 rfl 1 rfl ?_
          refine g_getI (ci := 5) (i := 10) (k := 1) hC fm_in5 rfl ly_1 rfl (by decide) fw_76 dX5_liveDay_99 ?_
          refine g_top (y := nI (t.1 7 5)) ((by simp [fm_up, fm_row, upd] : (fm_up (fm_up (fm_up M 1 7 (nI (t.1 7 2 - (lateS row 24).toNat))) 1 12 (t.2.2 + (Int32.ofInt (gainS t row)))) 1 11 (nI ((t.1 7 6) + 1))) 1 10 = M 1 10).trans v5) ?_
          refine g_iadd hC dX5_liveDay_102 ?_
          refine g_top (y := nI ((t.1 7 2 - (lateS row 24).toNat) + (t.1 7 5))) (nI_add _ _) ?_
          refine g_bipush (v := 99) hC dX5_liveDay_103 rfl ?_
          refine g_min hC fw_416 fw_262 fw_10 fw_263 (Nat.le_of_ble_eq_true rfl) (Nat.le_of_ble_eq_true rfl) (Nat.zero_le _) (Nat.zero_le _) dX5_liveDay_105 ?_
          refine g_top (y := nI (min ((t.1 7 2 - (lateS row 24).toNat) + (t.1 7 5)) 99)) (min_nI (by omega) (by decide)) ?_
          refine g_putI (ci := 5) (i := 7) (k := 1) hC fm_in5 tyX5 tyX5_ok nmX5 rfl ly_1 rfl (by decide) fw_70 rfl rfl rfl dX5_liveDay_108 ?_
          refine g_iload_n hC dX5_liveDay_111 rfl 0 rfl ?_
          refine g_zret (ty := .int) hC rfl rfl dX5_liveDay_112 ?_
          refine ⟨_, rfl, rfl, ?_, ?_, rfl⟩
          · refine tC_day hT (M' := fm_up (fm_up (fm_up (fm_up M 1 7 (nI (t.1 7 2 - (lateS row 24).toNat))) 1 12 (t.2.2 + (Int32.ofInt (gainS t row)))) 1 11 (nI ((t.1 7 6) + 1))) 1 7 (nI (min ((t.1 7 2 - (lateS row 24).toNat) + (t.1 7 5)) 99))) ?_ ?_ ?_ ?_ ?_ o4
            · simp [fm_up, fm_row, upd]
              exact congrArg nI (by simp only [dayJ]; (repeat' split) <;> omega)
            · simp [fm_up, fm_row, upd]
            · simp [fm_up, fm_row, upd]
            · intro i i1 i2 i3
              simp [fm_up, fm_row, upd, i1, i2, i3]
            · intro k k1
              simp [fm_up, fm_row, k1]
          · intro k k1
            simp [fm_up, fm_row, k1]
    · skip
      refine g_aload_n hC dX5_liveDay_60 rfl 1 rfl ?_
      refine g_aload_n hC dX5_liveDay_61 rfl 1 rfl ?_
      refine g_getI (ci := 5) (i := 7) (k := 1) hC fm_in5 rfl ly_1 rfl (by decide) fw_70 dX5_liveDay_62 ?_
      refine g_top (y := nI (t.1 7 2 - (lateS row 24).toNat)) (by simp [fm_up, fm_row, upd]) ?_
      refine g_iconst (v := 1) hC dX5_liveDay_65 rfl ?_
      refine g_isub hC dX5_liveDay_66 ?_
      refine g_iconst (v := 0) hC dX5_liveDay_67 rfl ?_
      refine g_max hC fw_437 fw_269 fw_10 fw_270 (Nat.le_of_ble_eq_true rfl) (Nat.le_of_ble_eq_true rfl) (Nat.zero_le _) (Nat.zero_le _) dX5_liveDay_68 ?_
      refine g_top (y := nI ((t.1 7 2 - (lateS row 24).toNat) - 1)) (jm_1 _ (by omega)) ?_
      refine g_putI (ci := 5) (i := 7) (k := 1) hC fm_in5 tyX5 tyX5_ok nmX5 rfl ly_1 rfl (by decide) fw_70 rfl rfl rfl dX5_liveDay_71 ?_
      refine g_aload_n hC dX5_liveDay_74 rfl 1 rfl ?_
      refine g_getI (ci := 5) (i := 9) (k := 1) hC fm_in5 rfl ly_1 rfl (by decide) fw_74 dX5_liveDay_75 ?_
      refine g_top (y := nI (t.1 7 4)) ((by simp [fm_up, fm_row, upd] : (fm_up (fm_up (fm_up (fm_up M 1 7 (nI (t.1 7 2 - (lateS row 24).toNat))) 1 12 (t.2.2 + (Int32.ofInt (gainS t row)))) 1 11 (nI ((t.1 7 6) + 1))) 1 7 (nI ((t.1 7 2 - (lateS row 24).toNat) - 1))) 1 9 = M 1 9).trans v4) ?_
      refine g_if_le_T (X := ((t.1 7 4 : Nat) : Int)) hC (nI_toInt (by omega)) 111 dX5_liveDay_78 rfl (fun c_9 => ?_) (fun c_9 => ?_)
      · skip
        refine g_iload_n hC dX5_liveDay_111 rfl 0 rfl ?_
        refine g_zret (ty := .int) hC rfl rfl dX5_liveDay_112 ?_
        refine ⟨_, rfl, rfl, ?_, ?_, rfl⟩
        · refine tC_day hT (M' := fm_up (fm_up (fm_up (fm_up M 1 7 (nI (t.1 7 2 - (lateS row 24).toNat))) 1 12 (t.2.2 + (Int32.ofInt (gainS t row)))) 1 11 (nI ((t.1 7 6) + 1))) 1 7 (nI ((t.1 7 2 - (lateS row 24).toNat) - 1))) ?_ ?_ ?_ ?_ ?_ o4
          · simp [fm_up, fm_row, upd]
            exact congrArg nI (by simp only [dayJ]; (repeat' split) <;> omega)
          · simp [fm_up, fm_row, upd]
          · simp [fm_up, fm_row, upd]
          · intro i i1 i2 i3
            simp [fm_up, fm_row, upd, i1, i2, i3]
          · intro k k1
            simp [fm_up, fm_row, k1]
        · intro k k1
          simp [fm_up, fm_row, k1]
      · skip
        refine g_aload_n hC dX5_liveDay_81 rfl 1 rfl ?_
        refine g_getI (ci := 5) (i := 11) (k := 1) hC fm_in5 rfl ly_1 rfl (by decide) fw_78 dX5_liveDay_82 ?_
        refine g_top (y := nI ((t.1 7 6) + 1)) (by simp [fm_up, fm_row, upd]) ?_
        refine g_aload_n hC dX5_liveDay_85 rfl 1 rfl ?_
        refine g_getI (ci := 5) (i := 9) (k := 1) hC fm_in5 rfl ly_1 rfl (by decide) fw_74 dX5_liveDay_86 ?_
        refine g_top (y := nI (t.1 7 4)) ((by simp [fm_up, fm_row, upd] : (fm_up (fm_up (fm_up (fm_up M 1 7 (nI (t.1 7 2 - (lateS row 24).toNat))) 1 12 (t.2.2 + (Int32.ofInt (gainS t row)))) 1 11 (nI ((t.1 7 6) + 1))) 1 7 (nI ((t.1 7 2 - (lateS row 24).toNat) - 1))) 1 9 = M 1 9).trans v4) ?_
        refine g_irem hC dX5_liveDay_89 (nI_ne0 (by omega) (by omega)) ?_
        refine g_top (y := nI ((t.1 7 6 + 1) % t.1 7 4)) (pk_rem (by omega) (by omega) (by omega)) ?_
        have ml4 := Nat.mod_lt (t.1 7 6 + 1) (show 0 < t.1 7 4 by omega)
        refine g_if_ne_T (X := (((t.1 7 6 + 1) % t.1 7 4 : Nat) : Int)) hC (nI_toInt (by omega)) 111 dX5_liveDay_90 rfl (fun c_10 => ?_) (fun c_10 => ?_)
        · skip
          refine g_iload_n hC dX5_liveDay_111 rfl 0 rfl ?_
          refine g_zret (ty := .int) hC rfl rfl dX5_liveDay_112 ?_
          refine ⟨_, rfl, rfl, ?_, ?_, rfl⟩
          · refine tC_day hT (M' := fm_up (fm_up (fm_up (fm_up M 1 7 (nI (t.1 7 2 - (lateS row 24).toNat))) 1 12 (t.2.2 + (Int32.ofInt (gainS t row)))) 1 11 (nI ((t.1 7 6) + 1))) 1 7 (nI ((t.1 7 2 - (lateS row 24).toNat) - 1))) ?_ ?_ ?_ ?_ ?_ o4
            · simp [fm_up, fm_row, upd]
              exact congrArg nI (by simp only [dayJ]; (repeat' split) <;> omega)
            · simp [fm_up, fm_row, upd]
            · simp [fm_up, fm_row, upd]
            · intro i i1 i2 i3
              simp [fm_up, fm_row, upd, i1, i2, i3]
            · intro k k1
              simp [fm_up, fm_row, k1]
          · intro k k1
            simp [fm_up, fm_row, k1]
        · skip
          refine g_aload_n hC dX5_liveDay_93 rfl 1 rfl ?_
          refine g_aload_n hC dX5_liveDay_94 rfl 1 rfl ?_
          refine g_getI (ci := 5) (i := 7) (k := 1) hC fm_in5 rfl ly_1 rfl (by decide) fw_70 dX5_liveDay_95 ?_
          refine g_top (y := nI ((t.1 7 2 - (lateS row 24).toNat) - 1)) (by simp [fm_up, fm_row, upd]) ?_
          refine g_aload_n hC dX5_liveDay_98 rfl 1 rfl ?_
          refine g_getI (ci := 5) (i := 10) (k := 1) hC fm_in5 rfl ly_1 rfl (by decide) fw_76 dX5_liveDay_99 ?_
          refine g_top (y := nI (t.1 7 5)) ((by simp [fm_up, fm_row, upd] : (fm_up (fm_up (fm_up (fm_up M 1 7 (nI (t.1 7 2 - (lateS row 24).toNat))) 1 12 (t.2.2 + (Int32.ofInt (gainS t row)))) 1 11 (nI ((t.1 7 6) + 1))) 1 7 (nI ((t.1 7 2 - (lateS row 24).toNat) - 1))) 1 10 = M 1 10).trans v5) ?_
          refine g_iadd hC dX5_liveDay_102 ?_
          refine g_top (y := nI (((t.1 7 2 - (lateS row 24).toNat) - 1) + (t.1 7 5))) (nI_add _ _) ?_
          refine g_bipush (v := 99) hC dX5_liveDay_103 rfl ?_
          refine g_min hC fw_416 fw_262 fw_10 fw_263 (Nat.le_of_ble_eq_true rfl) (Nat.le_of_ble_eq_true rfl) (Nat.zero_le _) (Nat.zero_le _) dX5_liveDay_105 ?_
          refine g_top (y := nI (min (((t.1 7 2 - (lateS row 24).toNat) - 1) + (t.1 7 5)) 99)) (min_nI (by omega) (by decide)) ?_
          refine g_putI (ci := 5) (i := 7) (k := 1) hC fm_in5 tyX5 tyX5_ok nmX5 rfl ly_1 rfl (by decide) fw_70 rfl rfl rfl dX5_liveDay_108 ?_
          refine g_iload_n hC dX5_liveDay_111 rfl 0 rfl ?_
          refine g_zret (ty := .int) hC rfl rfl dX5_liveDay_112 ?_
          refine ⟨_, rfl, rfl, ?_, ?_, rfl⟩
          · refine tC_day hT (M' := fm_up (fm_up (fm_up (fm_up (fm_up M 1 7 (nI (t.1 7 2 - (lateS row 24).toNat))) 1 12 (t.2.2 + (Int32.ofInt (gainS t row)))) 1 11 (nI ((t.1 7 6) + 1))) 1 7 (nI ((t.1 7 2 - (lateS row 24).toNat) - 1))) 1 7 (nI (min (((t.1 7 2 - (lateS row 24).toNat) - 1) + (t.1 7 5)) 99))) ?_ ?_ ?_ ?_ ?_ o4
            · simp [fm_up, fm_row, upd]
              exact congrArg nI (by simp only [dayJ]; (repeat' split) <;> omega)
            · simp [fm_up, fm_row, upd]
            · simp [fm_up, fm_row, upd]
            · intro i i1 i2 i3
              simp [fm_up, fm_row, upd, i1, i2, i3]
            · intro k k1
              simp [fm_up, fm_row, k1]
          · intro k k1
            simp [fm_up, fm_row, k1]

theorem c_X6_late (l : Launch) (D : va_G) (cA : Nat → ClassId) (b : Nat) (M : Nat → Nat → Int32) (L : Nat → Nat → Int64) (g : Sg) (h : Int32) (hS : CS M L g) (hok : OK g) : fm_Met l D cA b yX6_late cX6_late 2 (some .int) 1 23 0 0 [.ref (b + 0), .int h] LAY M L LAY (fm_pi (op_late g h) M L) := by
  refine fm_start RX6 rfl (by decide) (Nat.le_of_ble_eq_true rfl) ?_
  intro pq eq sq mq aq bq tq cq hC hin
  obtain ⟨⟨n1, n2, n3, v0, v1, v2, v3, v4, v5, v6, v7, v8⟩, hS2⟩ := id hS
  obtain ⟨⟨o1, o2, o3, o4, o5, o6, o7, o8, o9, o10, o11⟩, hok2⟩ := id hok
  have hpl : rowIs M 6 g.1.2.1 := fun h hh => ⟨(n3 h hh).2, (o3 h hh).2⟩
  refine g_iload_n hC dX6_late_0 rfl 1 rfl ?_
  refine g_bipush (v := 24) hC dX6_late_1 rfl ?_
  refine g_callS hC (as := [.int h, .int 24]) (rest := []) (c_X6_isWithin l D cA b LAY M L h 24 h.toInt 24 rfl rfl) ⟨fw_228, fw_229, fw_1, fw_230⟩ hd_X6_isWithin ⟨Nat.le_of_ble_eq_true rfl, Nat.le_of_ble_eq_true rfl⟩ ⟨Nat.le_of_ble_eq_true rfl, Nat.le_of_ble_eq_true rfl⟩ rfl rfl (Nat.le_of_ble_eq_true rfl) dX6_late_3 (g_rix ?_)
  refine g_ifb_ne hC 12 dX6_late_6 rfl (fun c_2 => ?_) (fun c_2 => ?_)
  · skip
    refine g_aload_n hC dX6_late_12 rfl 0 rfl ?_
    refine g_getR (ci := 6) (i := 0) (k := 0) (t := 1) hC fm_in6 rfl ly_0 rfl (by decide) fw_196 dX6_late_13 ?_
    refine g_getR (ci := 5) (i := 6) (k := 1) (t := 6) hC fm_in5 rfl ly_1 rfl (by decide) fw_69 dX6_late_16 ?_
    refine g_iload_n hC dX6_late_19 rfl 1 rfl ?_
    refine g_top (y := nI h.toInt.toNat) (ic_nI (by omega)) ?_
    refine g_callS hC (as := [.ref (b + 6), .int (nI h.toInt.toNat)]) (rest := []) (c_X6_lateAt l D cA b M L 6 g.1.2.1 h.toInt.toNat ly_6 hpl (by omega)) ⟨fw_388, fw_389, fw_1, fw_390⟩ hd_X6_lateAt ⟨Nat.le_of_ble_eq_true rfl, Nat.le_of_ble_eq_true rfl⟩ ⟨Nat.le_of_ble_eq_true rfl, Nat.le_of_ble_eq_true rfl⟩ rfl rfl (Nat.le_of_ble_eq_true rfl) dX6_late_20 (g_rix ?_)
    refine g_zret (ty := .int) hC rfl rfl dX6_late_23 ⟨congrArg (fun z => some (Value.int z)) ?_, rfl, rfl⟩
    unfold op_late; rw [if_pos (by omega)]
  · skip
    refine g_ldc (v := (-100000001)) hC fw_290 dX6_late_9 ?_
    refine g_zret (ty := .int) hC rfl rfl dX6_late_11 ⟨congrArg (fun z => some (Value.int z)) ?_, rfl, rfl⟩
    unfold op_late; rw [if_neg (by omega)]

theorem c_X6_gain (l : Launch) (D : va_G) (cA : Nat → ClassId) (b : Nat) (M : Nat → Nat → Int32) (L : Nat → Nat → Int64) (g : Sg) (hS : CS M L g) (hok : OK g) : fm_Met l D cA b yX6_gain cX6_gain 1 (some .int) 5 115 0 0 [.ref (b + 0)] LAY M L LAY (fm_pi (op_gain g) M L) := by
  refine fm_start RX6 rfl (by decide) (Nat.le_of_ble_eq_true rfl) ?_
  intro pq eq sq mq aq bq tq cq hC hin
  obtain ⟨⟨n1, n2, n3, v0, v1, v2, v3, v4, v5, v6, v7, v8⟩, hS2⟩ := id hS
  obtain ⟨⟨o1, o2, o3, o4, o5, o6, o7, o8, o9, o10, o11⟩, hok2⟩ := id hok
  have hpl : rowIs M 6 g.1.2.1 := fun h hh => ⟨(n3 h hh).2, (o3 h hh).2⟩
  refine g_aload_n hC dX6_gain_0 rfl 0 rfl ?_
  refine g_getR (ci := 6) (i := 0) (k := 0) (t := 1) hC fm_in6 rfl ly_0 rfl (by decide) fw_196 dX6_gain_1 ?_
  refine g_aload_n hC dX6_gain_4 rfl 0 rfl ?_
  refine g_getR (ci := 6) (i := 0) (k := 0) (t := 1) hC fm_in6 rfl ly_0 rfl (by decide) fw_196 dX6_gain_5 ?_
  refine g_getR (ci := 5) (i := 6) (k := 1) (t := 6) hC fm_in5 rfl ly_1 rfl (by decide) fw_69 dX6_gain_8 ?_
  refine g_callV hC (k := 1) (ci := 5) (as := [.ref (b + 6)]) (rest := []) (c_X5_gainOf l D cA b M L g.1 6 g.1.2.1 hS.1 hok.1 ly_6 hpl) ⟨fw_395, fw_396, fw_397, fw_2, fw_398⟩ ⟨rfl, hd_X5_gainOf⟩ rfl ly_1 ⟨Nat.le_of_ble_eq_true rfl, Nat.le_of_ble_eq_true rfl⟩ ⟨Nat.le_of_ble_eq_true rfl, Nat.le_of_ble_eq_true rfl⟩ rfl rfl (Nat.le_of_ble_eq_true rfl) dX6_gain_11 (g_rix ?_)
  refine g_zret (ty := .int) hC rfl rfl dX6_gain_14 ⟨congrArg (fun z => some (Value.int z)) ?_, rfl, rfl⟩
  rfl

theorem c_X6_wrong (l : Launch) (D : va_G) (cA : Nat → ClassId) (b : Nat) (M : Nat → Nat → Int32) (L : Nat → Nat → Int64) (g : Sg) (hS : CS M L g) (hok : OK g) : fm_Met l D cA b yX6_wrong cX6_wrong 1 (some .int) 3 67 0 0 [.ref (b + 0)] LAY M L LAY (fm_pi (op_wrong g) M L) := by
  refine fm_start RX6 rfl (by decide) (Nat.le_of_ble_eq_true rfl) ?_
  intro pq eq sq mq aq bq tq cq hC hin
  obtain ⟨⟨n1, n2, n3, v0, v1, v2, v3, v4, v5, v6, v7, v8⟩, hS2⟩ := id hS
  obtain ⟨⟨o1, o2, o3, o4, o5, o6, o7, o8, o9, o10, o11⟩, hok2⟩ := id hok
  have hpl : rowIs M 6 g.1.2.1 := fun h hh => ⟨(n3 h hh).2, (o3 h hh).2⟩
  refine g_aload_n hC dX6_wrong_0 rfl 0 rfl ?_
  refine g_getR (ci := 6) (i := 0) (k := 0) (t := 1) hC fm_in6 rfl ly_0 rfl (by decide) fw_196 dX6_wrong_1 ?_
  refine g_aload_n hC dX6_wrong_4 rfl 0 rfl ?_
  refine g_getR (ci := 6) (i := 0) (k := 0) (t := 1) hC fm_in6 rfl ly_0 rfl (by decide) fw_196 dX6_wrong_5 ?_
  refine g_getR (ci := 5) (i := 6) (k := 1) (t := 6) hC fm_in5 rfl ly_1 rfl (by decide) fw_69 dX6_wrong_8 ?_
  refine g_callV hC (k := 1) (ci := 5) (as := [.ref (b + 6)]) (rest := []) (c_X5_firstWrong l D cA b M L g.1 6 g.1.2.1 hS.1 hok.1 ly_6 hpl) ⟨fw_408, fw_409, fw_410, fw_2, fw_411⟩ ⟨rfl, hd_X5_firstWrong⟩ rfl ly_1 ⟨Nat.le_of_ble_eq_true rfl, Nat.le_of_ble_eq_true rfl⟩ ⟨Nat.le_of_ble_eq_true rfl, Nat.le_of_ble_eq_true rfl⟩ rfl rfl (Nat.le_of_ble_eq_true rfl) dX6_wrong_11 (g_rix ?_)
  refine g_zret (ty := .int) hC rfl rfl dX6_wrong_14 ⟨congrArg (fun z => some (Value.int z)) ?_, rfl, rfl⟩
  rfl

theorem c_X6_missed (l : Launch) (D : va_G) (cA : Nat → ClassId) (b : Nat) (M : Nat → Nat → Int32) (L : Nat → Nat → Int64) (g : Sg) (hS : CS M L g) (hok : OK g) : fm_Met l D cA b yX6_missed cX6_missed 1 (some .int) 2 46 0 0 [.ref (b + 0)] LAY M L LAY (fm_pi (op_missed g) M L) := by
  refine fm_start RX6 rfl (by decide) (Nat.le_of_ble_eq_true rfl) ?_
  intro pq eq sq mq aq bq tq cq hC hin
  obtain ⟨⟨n1, n2, n3, v0, v1, v2, v3, v4, v5, v6, v7, v8⟩, hS2⟩ := id hS
  obtain ⟨⟨o1, o2, o3, o4, o5, o6, o7, o8, o9, o10, o11⟩, hok2⟩ := id hok
  have hpl : rowIs M 6 g.1.2.1 := fun h hh => ⟨(n3 h hh).2, (o3 h hh).2⟩
  refine g_aload_n hC dX6_missed_0 rfl 0 rfl ?_
  refine g_getR (ci := 6) (i := 0) (k := 0) (t := 1) hC fm_in6 rfl ly_0 rfl (by decide) fw_196 dX6_missed_1 ?_
  refine g_aload_n hC dX6_missed_4 rfl 0 rfl ?_
  refine g_getR (ci := 6) (i := 0) (k := 0) (t := 1) hC fm_in6 rfl ly_0 rfl (by decide) fw_196 dX6_missed_5 ?_
  refine g_getR (ci := 5) (i := 6) (k := 1) (t := 6) hC fm_in5 rfl ly_1 rfl (by decide) fw_69 dX6_missed_8 ?_
  refine g_callV hC (k := 1) (ci := 5) (as := [.ref (b + 6)]) (rest := []) (c_X5_missedBy l D cA b M L g.1 6 g.1.2.1 hS.1 hok.1 ly_6 hpl) ⟨fw_421, fw_422, fw_423, fw_2, fw_424⟩ ⟨rfl, hd_X5_missedBy⟩ rfl ly_1 ⟨Nat.le_of_ble_eq_true rfl, Nat.le_of_ble_eq_true rfl⟩ ⟨Nat.le_of_ble_eq_true rfl, Nat.le_of_ble_eq_true rfl⟩ rfl rfl (Nat.le_of_ble_eq_true rfl) dX6_missed_11 (g_rix ?_)
  refine g_zret (ty := .int) hC rfl rfl dX6_missed_14 ⟨congrArg (fun z => some (Value.int z)) ?_, rfl, rfl⟩
  rfl

theorem c_X6_day (l : Launch) (D : va_G) (cA : Nat → ClassId) (b : Nat) (M : Nat → Nat → Int32) (L : Nat → Nat → Int64) (g : Sg) (hS : CS M L g) (hok : OK g) : fm_Met l D cA b yX6_day cX6_day 1 (some .int) 6 137 0 0 [.ref (b + 0)] LAY M L LAY (fm_pm (fun r M' L' => r = (op_day g).1 ∧ CS M' L' (op_day g).2 ∧ fC M M' L L')) := by
  refine fm_start RX6 rfl (by decide) (Nat.le_of_ble_eq_true rfl) ?_
  intro pq eq sq mq aq bq tq cq hC hin
  obtain ⟨⟨n1, n2, n3, v0, v1, v2, v3, v4, v5, v6, v7, v8⟩, hS2⟩ := id hS
  obtain ⟨⟨o1, o2, o3, o4, o5, o6, o7, o8, o9, o10, o11⟩, hok2⟩ := id hok
  have hpl : rowIs M 6 g.1.2.1 := fun h hh => ⟨(n3 h hh).2, (o3 h hh).2⟩
  refine g_aload_n hC dX6_day_0 rfl 0 rfl ?_
  refine g_getR (ci := 6) (i := 0) (k := 0) (t := 1) hC fm_in6 rfl ly_0 rfl (by decide) fw_196 dX6_day_1 ?_
  refine g_aload_n hC dX6_day_4 rfl 0 rfl ?_
  refine g_getR (ci := 6) (i := 0) (k := 0) (t := 1) hC fm_in6 rfl ly_0 rfl (by decide) fw_196 dX6_day_5 ?_
  refine g_getR (ci := 5) (i := 6) (k := 1) (t := 6) hC fm_in5 rfl ly_1 rfl (by decide) fw_69 dX6_day_8 ?_
  refine g_callV hC (k := 1) (ci := 5) (as := [.ref (b + 6)]) (rest := []) (c_X5_firstWrong l D cA b M L g.1 6 g.1.2.1 hS.1 hok.1 ly_6 hpl) ⟨fw_408, fw_409, fw_410, fw_2, fw_411⟩ ⟨rfl, hd_X5_firstWrong⟩ rfl ly_1 ⟨Nat.le_of_ble_eq_true rfl, Nat.le_of_ble_eq_true rfl⟩ ⟨Nat.le_of_ble_eq_true rfl, Nat.le_of_ble_eq_true rfl⟩ rfl rfl (Nat.le_of_ble_eq_true rfl) dX6_day_11 (g_rix ?_)
  refine g_bipush (v := (-4)) hC dX6_day_14 rfl ?_
  refine g_icmp_eq_T (X := (wrongS g.1 g.1.2.1).toInt) (Y := (-4)) hC rfl rfl 22 dX6_day_16 rfl (fun c_2 => ?_) (fun c_2 => ?_)
  · skip
    have hw : wrongS g.1 g.1.2.1 = -4 := (ic_eq _ _).mpr c_2
    refine g_aload_n hC dX6_day_22 rfl 0 rfl ?_
    refine g_getR (ci := 6) (i := 0) (k := 0) (t := 1) hC fm_in6 rfl ly_0 rfl (by decide) fw_196 dX6_day_23 ?_
    refine g_getI (ci := 5) (i := 11) (k := 1) hC fm_in5 rfl ly_1 rfl (by decide) fw_79 dX6_day_26 ?_
    refine g_top (y := nI (g.1.1 7 6)) v6 ?_
    refine g_sipush (v := 9999) hC dX6_day_29 rfl ?_
    refine g_icmp_lt_T (X := ((g.1.1 7 6 : Nat) : Int)) (Y := 9999) hC (nI_toInt (by omega)) rfl 38 dX6_day_32 rfl (fun c_3 => ?_) (fun c_3 => ?_)
    · skip
      refine g_aload_n hC dX6_day_38 rfl 0 rfl ?_
      refine g_getR (ci := 6) (i := 0) (k := 0) (t := 1) hC fm_in6 rfl ly_0 rfl (by decide) fw_196 dX6_day_39 ?_
      refine g_aload_n hC dX6_day_42 rfl 0 rfl ?_
      refine g_getR (ci := 6) (i := 0) (k := 0) (t := 1) hC fm_in6 rfl ly_0 rfl (by decide) fw_196 dX6_day_43 ?_
      refine g_getR (ci := 5) (i := 6) (k := 1) (t := 6) hC fm_in5 rfl ly_1 rfl (by decide) fw_69 dX6_day_46 ?_
      refine g_callV hC (k := 1) (ci := 5) (as := [.ref (b + 6)]) (rest := []) (c_X5_liveDay l D cA b M L g.1 6 g.1.2.1 hS.1 hok.1 ly_6 hpl (law_end hw) (by omega) (by decide)) ⟨fw_432, fw_433, fw_434, fw_2, fw_435⟩ ⟨rfl, hd_X5_liveDay⟩ rfl ly_1 ⟨Nat.le_of_ble_eq_true rfl, Nat.le_of_ble_eq_true rfl⟩ ⟨Nat.le_of_ble_eq_true rfl, Nat.le_of_ble_eq_true rfl⟩ rfl rfl (Nat.le_of_ble_eq_true rfl) dX6_day_49 (g_rm (fun r_4 M_4 L_4 h_4 => ?_))
      refine g_zret (ty := .int) hC rfl rfl dX6_day_52 ?_
      obtain ⟨q1, q2, q3, q4⟩ := h_4
      have e0 : op_day g = (Int32.ofInt (gainS g.1 g.1.2.1), (dayT g.1 g.1.2.1, g.2)) := by unfold op_day; rw [if_pos hw, if_pos (by omega)]
      refine ⟨_, rfl, by rw [e0]; exact q1, ?_, fun q hq => ⟨q3 q (by omega), by rw [q4]⟩⟩
      rw [e0]
      exact CS_now hS hok q2 (fun q h1 h2 => q3 q (by omega)) (fun q h1 h2 => ⟨q3 q (by omega), by rw [q4]⟩)
    · skip
      refine g_ldc (v := (-100000003)) hC fw_431 dX6_day_35 ?_
      refine g_zret (ty := .int) hC rfl rfl dX6_day_37 ?_
      have e0 : op_day g = (-100000003, g) := by unfold op_day; rw [if_pos hw, if_neg (by omega)]
      exact ⟨_, rfl, by rw [e0], by rw [e0]; exact hS, fC_rf⟩
  · skip
    refine g_ldc (v := (-100000002)) hC fw_430 dX6_day_19 ?_
    refine g_zret (ty := .int) hC rfl rfl dX6_day_21 ?_
    have e0 : op_day g = (-100000002, g) := by unfold op_day; rw [if_neg (fun q => by rw [q] at c_2; exact absurd rfl c_2)]
    exact ⟨_, rfl, by rw [e0], by rw [e0]; exact hS, fC_rf⟩
