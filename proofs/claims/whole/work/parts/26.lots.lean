/-! ===== lots ===== -/
def dwE (x : Int32) : Int32 := (x.toInt64 * 1103515245 + 12345 &&& 2147483647).toInt32
theorem and_m (y : Int64) : 0 ≤ (y &&& 2147483647).toInt ∧ (y &&& 2147483647).toInt < 2147483648 := by
  have h : (y &&& 2147483647).toBitVec.toNat ≤ 2147483647 := by
    show (y.toBitVec &&& (2147483647 : Int64).toBitVec).toNat ≤ 2147483647
    rw [BitVec.toNat_and]
    exact Nat.and_le_right
  have e : (y &&& 2147483647).toInt = ((y &&& 2147483647).toBitVec.toNat : Int) := by
    show (y &&& 2147483647).toBitVec.toInt = _
    exact BitVec.toInt_eq_toNat_of_lt (by omega)
  rw [e]; omega
theorem dw_ok (x : Int32) : 0 ≤ (dwE x).toInt := by
  unfold dwE
  have h := and_m (x.toInt64 * 1103515245 + 12345)
  rw [Int64.toInt_toInt32, Int.bmod_eq_of_le (by omega) (by omega)]
  exact h.1
def dwK' (d : Nat) : Nat → Nat
  | 0 => d
  | n + 1 => (dwE (nI (dwK' d n))).toInt.toNat
theorem dw_ex : ∃ f : Nat → Nat → Nat, (∀ d, f d 0 = d) ∧ (∀ d n, dwE (nI (f d n)) = nI (f d (n + 1))) ∧ (∀ d, d < 2147483648 → ∀ n, f d n < 2147483648) := by
  refine ⟨dwK', fun d => rfl, fun d n => ic_nI (dw_ok _), fun d h n => ?_⟩
  cases n with
  | zero => exact h
  | succ n =>
    have := ic_rng (dwE (nI (dwK' d n)))
    show (dwE (nI (dwK' d n))).toInt.toNat < 2147483648
    omega
noncomputable def dwK : Nat → Nat → Nat := Classical.choose dw_ex
theorem dwK_0 (d : Nat) : dwK d 0 = d := (Classical.choose_spec dw_ex).1 d
theorem dwK_s (d n : Nat) : dwE (nI (dwK d n)) = nI (dwK d (n + 1)) := (Classical.choose_spec dw_ex).2.1 d n
theorem dwK_lt {d : Nat} (h : d < 2147483648) (n : Nat) : dwK d n < 2147483648 := (Classical.choose_spec dw_ex).2.2 d h n
theorem dN_ex : ∃ f : Nat → Int, ∀ a, (-2 ≤ f a ∧ f a ≤ 5) ∧ (a < 2147483648 → nI a / 65536 - nI a / 65536 / 8 * 8 + (-2) = Int32.ofInt (f a)) := by
  refine ⟨fun a => ((a / 65536 % 8 : Nat) : Int) - 2, fun a => ⟨by dsimp only; omega, fun h => ?_⟩⟩
  have h1 := pk_div (a := a) (d := 65536) (by omega) (by decide) (by decide)
  have h2 := pk_rem (a := a / 65536) (d := 8) (by omega) (by decide) (by decide)
  rw [show nI 65536 = 65536 from by decide] at h1
  rw [show nI 8 = 8 from by decide] at h2
  rw [h1, h2, nI_oI, show (-2 : Int32) = Int32.ofInt (-2) from rfl, oI_add]
  rfl
noncomputable def dN : Nat → Int := Classical.choose dN_ex
theorem dN_b (a : Nat) : -2 ≤ dN a ∧ dN a ≤ 5 := (Classical.choose_spec dN_ex a).1
theorem dN_e {a : Nat} (h : a < 2147483648) : nI a / 65536 - nI a / 65536 / 8 * 8 + (-2) = Int32.ofInt (dN a) := (Classical.choose_spec dN_ex a).2 h
noncomputable def dL (t : Tn) (d : Nat) : Nat → Int
  | 0 => 0
  | h + 1 => dL t d h + (if 0 ≤ dL t d h + dN (dwK d (h + 1)) ∧ dL t d h + dN (dwK d (h + 1)) ≤ (mlS t (h + 1) : Int) then dN (dwK d (h + 1)) else 0)
noncomputable def dR (t : Tn) (d h : Nat) : Int := if 0 ≤ dL t d h + dN (dwK d (h + 1)) ∧ dL t d h + dN (dwK d (h + 1)) ≤ (mlS t (h + 1) : Int) then dN (dwK d (h + 1)) else 0
theorem dL_late (t : Tn) (d : Nat) : ∀ h, lateS (dR t d) h = dL t d h
  | 0 => rfl
  | h + 1 => by
    have := dL_late t d h
    show lateS (dR t d) h + dR t d h = dL t d h + dR t d h
    rw [this]
theorem dL_b (t : Tn) (d : Nat) : ∀ h, 0 ≤ dL t d h ∧ dL t d h ≤ (t.1 7 2 : Int)
  | 0 => by simp [dL]
  | h + 1 => by
    have h1 := dL_b t d h
    have h2 := mlS_le t (h + 1)
    simp only [dL]
    split <;> omega
theorem dR_b (t : Tn) (d h : Nat) : -2 ≤ dR t d h ∧ dR t d h ≤ 5 := by
  have := dN_b (dwK d (h + 1))
  unfold dR
  split <;> omega
def dT (t : Tn) (v : Nat) : Tn := (uN2 t.1 7 7 v, t.2)
theorem mlF_dT (t : Tn) (v h : Nat) : ∀ n, mlF (dT t v) h n = mlF t h n
  | 0 => rfl
  | n + 1 => by
    have h1 := mlF_dT t v h n
    have e4 : (dT t v).1 4 n = t.1 4 n := by simp [dT, uN2]
    have e5 : (dT t v).1 5 n = t.1 5 n := by simp [dT, uN2]
    simp only [mlF, h1, e4, e5]
theorem mlS_dT (t : Tn) (v h : Nat) : mlS (dT t v) h = mlS t h := mlF_dT t v h _
theorem wtF_dT (t : Tn) (v h : Nat) : ∀ n, wtF (dT t v) h n = wtF t h n
  | 0 => rfl
  | n + 1 => by
    have h1 := wtF_dT t v h n
    have e4 : (dT t v).1 4 n = t.1 4 n := by simp [dT, uN2]
    have e5 : (dT t v).1 5 n = t.1 5 n := by simp [dT, uN2]
    simp only [wtF, h1, e4, e5]
theorem wtS_dT (t : Tn) (v h : Nat) : wtS (dT t v) h = wtS t h := wtF_dT t v h _
theorem wt_24 {t : Tn} (ht : tOK t) : wtS t 24 = 1000000 := by
  have h : ∀ n, n ≤ t.1 7 1 → wtF t 24 n = 1000000 := fun n => by
    induction n with
    | zero => intro _; rfl
    | succ n ih =>
      intro hn
      simp only [wtF]
      rw [if_neg (by have := ht.2.1 n (by omega); omega), ih (by omega)]
  exact h _ (Nat.le_refl _)
theorem ml_24 {t : Tn} (ht : tOK t) : mlS t 24 = t.1 7 2 := by
  rw [wtS_ml ht, wt_24 ht]
  have := ht.2.2.2.2.2.1
  omega
theorem tOK_dT {t : Tn} (ht : tOK t) {v : Nat} (hv : v < 2147483648) : tOK (dT t v) := by
  obtain ⟨o1, o2, o3, o4, o5, o6, o7, o8, o9, o10, o11⟩ := ht
  refine ⟨fun j hj => ?_, fun j hj => ?_, fun q hq => ?_, ?_, ?_, ?_, ?_, ?_, ?_, ?_, ?_⟩
  · simpa [dT, uN2] using o1 j (by simpa [dT, uN2] using hj)
  · simpa [dT, uN2] using o2 j (by simpa [dT, uN2] using hj)
  · simpa [dT, uN2] using o3 q hq
  · simpa [dT, uN2] using o4
  · simpa [dT, uN2] using o5
  · simpa [dT, uN2] using o6
  · simpa [dT, uN2] using o7
  · simpa [dT, uN2] using o8
  · simpa [dT, uN2] using o9
  · simpa [dT, uN2] using o10
  · simpa [dT, uN2] using hv
theorem tC_dT {M M' : Nat → Nat → Int32} {t : Tn} (h : tC M 1 t) {v : Nat} (hv : M' 1 13 = nI v) (ho : ∀ i, i ≠ 13 → M' 1 i = M 1 i) (hk : ∀ k, 2 ≤ k → k < 15 → M' k = M k) (o4 : t.1 7 0 ≤ 8) : tC M' 1 (dT t v) := by
  obtain ⟨h1, h2, h3, v0, v1, v2, v3, v4, v5, v6, v7, v8⟩ := h
  refine ⟨fun j hj => ?_, fun j hj => ?_, fun q hq => ?_, ?_, ?_, ?_, ?_, ?_, ?_, ?_, ?_, ?_⟩
  · have hj2 : j < t.1 7 0 := by simpa [dT, uN2] using hj
    rw [hk _ (by omega) (by omega)]
    simpa [dT, uN2] using h1 j hj2
  · rw [hk _ (by omega) (by omega), hk _ (by omega) (by omega)]
    simpa [dT, uN2] using h2 j (by simpa [dT, uN2] using hj)
  · rw [hk _ (by omega) (by omega), hk _ (by omega) (by omega)]
    simpa [dT, uN2] using h3 q hq
  · rw [ho _ (by omega)]; simpa [dT, uN2] using v0
  · rw [ho _ (by omega)]; simpa [dT, uN2] using v1
  · rw [ho _ (by omega)]; simpa [dT, uN2] using v2
  · rw [ho _ (by omega)]; simpa [dT, uN2] using v3
  · rw [ho _ (by omega)]; simpa [dT, uN2] using v4
  · rw [ho _ (by omega)]; simpa [dT, uN2] using v5
  · rw [ho _ (by omega)]; simpa [dT, uN2] using v6
  · rw [ho _ (by omega)]; exact v7
  · rw [hv]; simp [dT, uN2]
theorem tR_dT {M M' : Nat → Nat → Int32} {t : Tn} (h : tR M t) {v : Nat} (hv : M' 58 16 = nI v) (ho : ∀ i, i ≠ 16 → M' 58 i = M 58 i) (hk : ∀ k, 59 ≤ k → k < 67 → M' k = M k) : tR M' (dT t v) := by
  obtain ⟨h1, h2, h3, v0, v1, v2, v3, v4, v5, v6, v7, v8⟩ := h
  refine ⟨fun j hj => ?_, fun j hj => ?_, fun q hq => ?_, ?_, ?_, ?_, ?_, ?_, ?_, ?_, ?_, ?_⟩
  · rw [hk 59 (by omega) (by omega), hk 60 (by omega) (by omega), hk 61 (by omega) (by omega), hk 62 (by omega) (by omega)]
    simpa [dT, uN2] using h1 j (by simpa [dT, uN2] using hj)
  · rw [hk 63 (by omega) (by omega), hk 64 (by omega) (by omega)]
    simpa [dT, uN2] using h2 j (by simpa [dT, uN2] using hj)
  · rw [hk 65 (by omega) (by omega), hk 66 (by omega) (by omega)]
    simpa [dT, uN2] using h3 q hq
  · rw [ho _ (by omega)]; simpa [dT, uN2] using v0
  · rw [ho _ (by omega)]; simpa [dT, uN2] using v1
  · rw [ho _ (by omega)]; simpa [dT, uN2] using v2
  · rw [ho _ (by omega)]; simpa [dT, uN2] using v3
  · rw [ho _ (by omega)]; simpa [dT, uN2] using v4
  · rw [ho _ (by omega)]; simpa [dT, uN2] using v5
  · rw [ho _ (by omega)]; simpa [dT, uN2] using v6
  · rw [ho _ (by omega)]; exact v7
  · rw [hv]; simp [dT, uN2]
noncomputable def tDn (t : Tn) : Tn := dT t (dwK (t.1 7 7) 24)
noncomputable def rwD (t : Tn) : Nat → Int := if wrongS (tDn t) (dR t (t.1 7 7)) = -4 then dR t (t.1 7 7) else fun _ => 0
theorem rwD_y {t : Tn} (h : wrongS (tDn t) (dR t (t.1 7 7)) = -4) : rwD t = dR t (t.1 7 7) := if_pos h
theorem rwD_n {t : Tn} (h : ¬ wrongS (tDn t) (dR t (t.1 7 7)) = -4) : rwD t = fun _ => 0 := if_neg h
theorem rwD_end (t : Tn) : 0 ≤ lateS (rwD t) 24 ∧ lateS (rwD t) 24 ≤ ((tDn t).1 7 2 : Int) := by
  have e : (tDn t).1 7 2 = t.1 7 2 := by simp [tDn, dT, uN2]
  rw [e]
  by_cases h : wrongS (tDn t) (dR t (t.1 7 7)) = -4
  · rw [rwD_y h, dL_late]; exact dL_b _ _ _
  · rw [rwD_n h]
    have z : ∀ n, lateS (fun _ => 0) n = 0 := fun n => by
      induction n with
      | zero => rfl
      | succ n ih => simp only [lateS, ih]; rfl
    rw [z]; omega
noncomputable def loT (t : Tn) : Nat → Tn
  | 0 => t
  | n + 1 => dayT (tDn (loT t n)) (rwD (loT t n))
noncomputable def loS (t : Tn) : Nat → Int32
  | 0 => 0
  | n + 1 => loS t n + Int32.ofInt (gainS (tDn (loT t n)) (rwD (loT t n)))
noncomputable def op_lots (g : Sg) (x : Int32) : Int32 × Sg := if 1 ≤ x.toInt ∧ x.toInt ≤ 30 then (if (g.1.1 7 6 : Int) + x.toInt ≤ 9999 then (loS g.1 x.toInt.toNat, (loT g.1 x.toInt.toNat, g.2)) else (-100000003, g)) else (-100000001, g)
theorem tDn_6 (t : Tn) : (tDn t).1 7 6 = t.1 7 6 := by simp [tDn, dT, uN2]
theorem lo_6 (t : Tn) : ∀ n, (loT t n).1 7 6 = t.1 7 6 + n
  | 0 => rfl
  | n + 1 => by
    have := lo_6 t n
    simp only [loT, day_6, tDn_6, this]; omega
theorem tOK_tDn {t : Tn} (ht : tOK t) : tOK (tDn t) := tOK_dT ht (dwK_lt ht.2.2.2.2.2.2.2.2.2.2 _)
theorem lo_ok {t : Tn} (ht : tOK t) : ∀ {n : Nat}, t.1 7 6 + n ≤ 9999 → tOK (loT t n)
  | 0, _ => ht
  | n + 1, h => tOK_day (tOK_tDn (lo_ok ht (by omega))) (by rw [tDn_6, lo_6]; omega) _

theorem c_X5_drawPlan (l : Launch) (D : va_G) (cA : Nat → ClassId) (b : Nat) (M : Nat → Nat → Int32) (L : Nat → Nat → Int64) (t : Tn) (hT : tC M 1 t) (hto : tOK t) : fm_Met l D cA b yX5_drawPlan cX5_drawPlan 6 none 3 67 0 0 [.ref (b + 1), .ref (b + 49)] LAY M L LAY (fm_pv (fun M' L' => tC M' 1 (tDn t) ∧ rowIs M' 49 (rwD t) ∧ (∀ q, q ≠ 1 → q ≠ 49 → M' q = M q) ∧ L' = L)) := by
  refine fm_start RX5 rfl (by decide) (Nat.le_of_ble_eq_true rfl) ?_
  intro pq eq sq mq aq bq tq cq hC hin
  obtain ⟨n1, n2, n3, v0, v1, v2, v3, v4, v5, v6, v7, v8⟩ := id hT
  obtain ⟨o1, o2, o3, o4, o5, o6, o7, o8, o9, o10, o11⟩ := id hto
  refine g_iconst (v := 0) hC dX5_drawPlan_0 rfl ?_
  refine g_istore_n hC [(2, .int 0), (0, .ref (b + 1)), (1, .ref (b + 49))] dX5_drawPlan_1 rfl (by decide) rfl ?_
  refine g_iconst (v := 0) hC dX5_drawPlan_2 rfl ?_
  refine g_istore_n hC [(3, .int 0), (2, .int 0), (0, .ref (b + 1)), (1, .ref (b + 49))] dX5_drawPlan_3 rfl (by decide) rfl ?_
  have lp_4_1 : ∀ (n_1 : Nat) (M1 : Nat → Nat → Int32) (h : Nat), 24 - h < n_1 → (h ≤ 24 ∧ (∀ q, q ≠ 1 → q ≠ 49 → M1 q = M q) ∧ (∀ i, i ≠ 13 → M1 1 i = M 1 i) ∧ M1 1 13 = nI (dwK (t.1 7 7) h) ∧ (∀ j, j < h → M1 49 j = Int32.ofInt (dR t (t.1 7 7) j))) → fm_G pq l eq (fm_rm 3 67 0 0) sq mq aq bq tq cq D cA b 6 (MQ bq (fm_Q D cA b LAY (fm_pv (fun M' L' => tC M' 1 (tDn t) ∧ rowIs M' 49 (rwD t) ∧ (∀ q, q ≠ 1 → q ≠ 49 → M' q = M q) ∧ L' = L))) aq sq 0 0 (fun q => b ≤ q)) LAY M1 L 0 0 4 [(0, .ref (b + 1)), (1, .ref (b + 49)), (2, .int (Int32.ofInt (dL t (t.1 7 7) h))), (3, .int (nI h))] [] := by
    intro n_1
    induction n_1 with
    | zero => intro M1 h hm_1; exact absurd hm_1 (Nat.not_lt_zero _)
    | succ n_1 ih_1 =>
      intro M1 h hm_1 hinv_1
      obtain ⟨m0, m1, m2, m3, m4⟩ := hinv_1
      have dk := dwK_lt o11 h
      have dk1 := dwK_lt o11 (h + 1)
      have db := dN_b (dwK (t.1 7 7) (h + 1))
      have lb := dL_b t (t.1 7 7) h
      have mle := mlS_le t (h + 1)
      refine g_iload_n hC dX5_drawPlan_4 rfl 3 rfl ?_
      refine g_bipush (v := 24) hC dX5_drawPlan_5 rfl ?_
      refine g_icmp_ge_T (X := ((h : Nat) : Int)) (Y := 24) hC (nI_toInt (by omega)) rfl 91 dX5_drawPlan_7 rfl (fun c_2 => ?_) (fun c_2 => ?_)
      · skip
        refine g_aload_n hC dX5_drawPlan_91 rfl 0 rfl ?_
        refine g_aload_n hC dX5_drawPlan_92 rfl 1 rfl ?_
        refine g_callV hC (k := 1) (ci := 5) (as := [.ref (b + 49)]) (rest := []) (c_X5_firstWrong l D cA b M1 L (tDn t) 49 (dR t (t.1 7 7)) (by have m3 := m3; rw [show h = 24 by omega] at m3; exact tC_dT hT m3 m2 (fun q q1 q2 => m1 q (by omega) (by omega)) o4) (tOK_tDn hto) ly_49 (fun j hj => ⟨m4 j (by omega), dR_b _ _ _⟩)) ⟨fw_505, fw_409, fw_410, fw_2, fw_411⟩ ⟨rfl, hd_X5_firstWrong⟩ rfl ly_1 ⟨Nat.le_of_ble_eq_true rfl, Nat.le_of_ble_eq_true rfl⟩ ⟨Nat.le_of_ble_eq_true rfl, Nat.le_of_ble_eq_true rfl⟩ rfl rfl (Nat.le_of_ble_eq_true rfl) dX5_drawPlan_93 (g_rix ?_)
        refine g_bipush (v := (-4)) hC dX5_drawPlan_96 rfl ?_
        refine g_icmp_eq_T (X := (wrongS (tDn t) (dR t (t.1 7 7))).toInt) (Y := (-4)) hC rfl rfl 106 dX5_drawPlan_98 rfl (fun c_4 => ?_) (fun c_4 => ?_)
        · skip
          have hw : wrongS (tDn t) (dR t (t.1 7 7)) = -4 := (ic_eq _ _).mpr c_4
          refine g_vret hC rfl dX5_drawPlan_106 ?_
          rw [show h = 24 by omega] at m3
          exact ⟨rfl, tC_dT hT (v := dwK (t.1 7 7) 24) m3 m2 (fun q q1 q2 => m1 q (by omega) (by omega)) o4, by rw [rwD_y hw]; exact fun j hj => ⟨m4 j (by omega), dR_b _ _ _⟩, fun q q1 q2 => m1 q q1 q2, rfl⟩
        · skip
          have hw : ¬ wrongS (tDn t) (dR t (t.1 7 7)) = -4 := fun q => c_4 ((ic_eq _ _).mp q)
          refine g_aload_n hC dX5_drawPlan_101 rfl 1 rfl ?_
          refine g_iconst (v := 0) hC dX5_drawPlan_102 rfl ?_
          refine g_callS hC (as := [.ref (b + 49), .int 0]) (rest := []) (c_J7_fill_53178 l D cA b LAY M1 L 49 24 0 ly_49 (by omega)) ⟨fw_53, fw_54, fw_4, fw_55⟩ hd_J7_fill_53178 ⟨Nat.le_of_ble_eq_true rfl, Nat.le_of_ble_eq_true rfl⟩ ⟨Nat.le_of_ble_eq_true rfl, Nat.le_of_ble_eq_true rfl⟩ rfl rfl (Nat.le_of_ble_eq_true rfl) dX5_drawPlan_103 (g_rv (fun M_5 L_5 h_5 => ?_))
          obtain ⟨e1_5, e2_5, e3_5⟩ := h_5
          rw [e3_5]
          refine g_vret hC rfl dX5_drawPlan_106 ?_
          rw [show h = 24 by omega] at m3
          exact ⟨rfl, tC_dT hT (v := dwK (t.1 7 7) 24) ((congrFun (e1_5 1 (by omega)) 13).trans m3) (fun i hi => (congrFun (e1_5 1 (by omega)) i).trans (m2 i hi)) (fun q q1 q2 => (e1_5 q (by omega)).trans (m1 q (by omega) (by omega))) o4, by rw [rwD_n hw]; exact fun j hj => ⟨e2_5 j (by omega), (by decide : (-2 : Int) ≤ 0), (by decide : (0 : Int) ≤ 5)⟩, fun q q1 q2 => (e1_5 q q2).trans (m1 q q1 q2), rfl⟩
      · skip
        refine g_aload_n hC dX5_drawPlan_10 rfl 0 rfl ?_
        refine g_aload_n hC dX5_drawPlan_11 rfl 0 rfl ?_
        refine g_getI (ci := 5) (i := 13) (k := 1) hC fm_in5 rfl ly_1 rfl (by decide) fw_82 dX5_drawPlan_12 ?_
        refine g_top (y := nI (dwK (t.1 7 7) h)) m3 ?_
        refine g_i2l (v := (nI (dwK (t.1 7 7) h)).toInt64) hC dX5_drawPlan_15 rfl ?_
        refine g_ldc2 (v := 1103515245) hC fw_501 dX5_drawPlan_16 ?_
        refine g_lmul hC dX5_drawPlan_19 ?_
        refine g_ldc2 (v := 12345) hC fw_502 dX5_drawPlan_20 ?_
        refine g_ladd hC dX5_drawPlan_23 ?_
        refine g_ldc2 (v := 2147483647) hC fw_503 dX5_drawPlan_24 ?_
        refine g_land hC dX5_drawPlan_27 ?_
        refine g_l2i (v := (((((nI (dwK (t.1 7 7) h)).toInt64) * 1103515245) + 12345) &&& 2147483647).toInt32) hC dX5_drawPlan_28 rfl ?_
        refine g_top (y := nI (dwK (t.1 7 7) (h + 1))) (dwK_s _ _) ?_
        refine g_putI (ci := 5) (i := 13) (k := 1) hC fm_in5 tyX5 tyX5_ok nmX5 rfl ly_1 rfl (by decide) fw_82 rfl rfl rfl dX5_drawPlan_29 ?_
        refine g_aload_n hC dX5_drawPlan_32 rfl 0 rfl ?_
        refine g_getI (ci := 5) (i := 13) (k := 1) hC fm_in5 rfl ly_1 rfl (by decide) fw_82 dX5_drawPlan_33 ?_
        refine g_top (y := nI (dwK (t.1 7 7) (h + 1))) (by simp [fm_up, fm_row, upd]) ?_
        refine g_ldc (v := 65536) hC fw_504 dX5_drawPlan_36 ?_
        refine g_idiv hC dX5_drawPlan_38 (by decide) ?_
        refine g_bipush (v := 8) hC dX5_drawPlan_39 rfl ?_
        refine g_irem hC dX5_drawPlan_41 (by decide) ?_
        refine g_bipush (v := (-2)) hC dX5_drawPlan_42 rfl ?_
        refine g_iadd hC dX5_drawPlan_44 ?_
        refine g_top (y := Int32.ofInt (dN (dwK (t.1 7 7) (h + 1)))) (dN_e dk1) ?_
        refine g_istore hC [(4, .int (Int32.ofInt (dN (dwK (t.1 7 7) (h + 1))))), (0, .ref (b + 1)), (1, .ref (b + 49)), (2, .int (Int32.ofInt (dL t (t.1 7 7) h))), (3, .int (nI h))] dX5_drawPlan_45 (by decide) rfl ?_
        refine g_iload_n hC dX5_drawPlan_47 rfl 3 rfl ?_
        refine g_iload hC dX5_drawPlan_48 0 rfl ?_
        refine g_iadd hC dX5_drawPlan_50 ?_
        refine g_top (y := Int32.ofInt (dL t (t.1 7 7) h + dN (dwK (t.1 7 7) (h + 1)))) (oI_add _ _) ?_
        refine g_istore hC [(5, .int (Int32.ofInt (dL t (t.1 7 7) h + dN (dwK (t.1 7 7) (h + 1))))), (4, .int (Int32.ofInt (dN (dwK (t.1 7 7) (h + 1))))), (0, .ref (b + 1)), (1, .ref (b + 49)), (2, .int (Int32.ofInt (dL t (t.1 7 7) h))), (3, .int (nI h))] dX5_drawPlan_51 (by decide) rfl ?_
        refine g_aload_n hC dX5_drawPlan_53 rfl 3 rfl ?_
        refine g_iload_n hC dX5_drawPlan_54 rfl 5 rfl ?_
        refine g_iload hC dX5_drawPlan_55 0 rfl ?_
        refine g_if_lt_T (X := dL t (t.1 7 7) h + dN (dwK (t.1 7 7) (h + 1))) hC (oI_t (by omega) (by omega)) 77 dX5_drawPlan_57 rfl (fun c_6 => ?_) (fun c_6 => ?_)
        · skip
          refine g_iconst (v := 0) hC dX5_drawPlan_77 rfl ?_
          refine g_top (y := Int32.ofInt (dR t (t.1 7 7) h)) (by rw [show dR t (t.1 7 7) h = 0 from if_neg (by omega)]; rfl) ?_
          refine g_iastN (j := h) (k := 49) hC ly_49 rfl (by omega) (by decide) dX5_drawPlan_78 ?_
          refine g_iload_n hC dX5_drawPlan_79 rfl 4 rfl ?_
          refine g_aload_n hC dX5_drawPlan_80 rfl 3 rfl ?_
          refine g_iload_n hC dX5_drawPlan_81 rfl 5 rfl ?_
          refine g_ialdN (j := h) (k := 49) hC ly_49 rfl (by omega) (by decide) dX5_drawPlan_82 ?_
          refine g_top (y := Int32.ofInt (dR t (t.1 7 7) h)) (by simp [fm_up, fm_row, upd]) ?_
          refine g_iadd hC dX5_drawPlan_83 ?_
          refine g_top (y := Int32.ofInt (dL t (t.1 7 7) (h + 1))) (oI_add _ _) ?_
          refine g_istore_n hC [(2, .int (Int32.ofInt (dL t (t.1 7 7) (h + 1)))), (5, .int (Int32.ofInt (dL t (t.1 7 7) h + dN (dwK (t.1 7 7) (h + 1))))), (4, .int (Int32.ofInt (dN (dwK (t.1 7 7) (h + 1))))), (0, .ref (b + 1)), (1, .ref (b + 49)), (3, .int (nI h))] dX5_drawPlan_84 rfl (by decide) rfl ?_
          refine g_iinc hC [(3, .int (nI (h + 1))), (2, .int (Int32.ofInt (dL t (t.1 7 7) (h + 1)))), (5, .int (Int32.ofInt (dL t (t.1 7 7) h + dN (dwK (t.1 7 7) (h + 1))))), (4, .int (Int32.ofInt (dN (dwK (t.1 7 7) (h + 1))))), (0, .ref (b + 1)), (1, .ref (b + 49))] dX5_drawPlan_85 5 rfl (by rw [show Int32.ofInt 1 = nI 1 from rfl, nI_add]) (by decide) rfl ?_
          refine g_goto hC 4 dX5_drawPlan_88 rfl ?_
          exact g_sub [4, 5, 1, 0] rfl (ih_1 (fm_up (fm_up M1 1 13 (nI (dwK (t.1 7 7) (h + 1)))) 49 h (Int32.ofInt (dR t (t.1 7 7) h))) (h + 1) (by omega) (⟨by omega, fun q q1 q2 => by rw [fm_upn q2, fm_upn q1]; exact m1 q q1 q2, fun i hi => by rw [fm_upn (by omega), fm_upx hi]; exact m2 i hi, by rw [fm_upn (by omega), fm_ups], fun j hj => by rw [fm_upv]; by_cases ee : j = h; rw [if_pos ee, ee]; rw [if_neg ee, fm_upn (by omega)]; exact m4 j (by omega)⟩))
        · skip
          refine g_iload hC dX5_drawPlan_60 0 rfl ?_
          refine g_aload_n hC dX5_drawPlan_62 rfl 2 rfl ?_
          refine g_iload_n hC dX5_drawPlan_63 rfl 5 rfl ?_
          refine g_iconst (v := 1) hC dX5_drawPlan_64 rfl ?_
          refine g_iadd hC dX5_drawPlan_65 ?_
          refine g_top (y := nI (h + 1)) (nI_add _ _) ?_
          refine g_callV hC (k := 1) (ci := 5) (as := [.int (nI (h + 1))]) (rest := [.int (Int32.ofInt (dL t (t.1 7 7) h + dN (dwK (t.1 7 7) (h + 1)))), .int (nI h), .ref (b + 49)]) (c_X5_mostLateAt l D cA b (fm_up M1 1 13 (nI (dwK (t.1 7 7) (h + 1)))) L (dT t (dwK (t.1 7 7) (h + 1))) (h + 1) (tC_dT hT (M' := fm_up M1 1 13 (nI (dwK (t.1 7 7) (h + 1)))) (by rw [fm_ups]) (fun i hi => by rw [fm_upx hi]; exact m2 i hi) (fun q q1 q2 => by rw [fm_upn (by omega)]; exact m1 q (by omega) (by omega)) o4) (tOK_dT hto dk1) (by omega)) ⟨fw_412, fw_413, fw_414, fw_2, fw_415⟩ ⟨rfl, hd_X5_mostLateAt⟩ rfl ly_1 ⟨Nat.le_of_ble_eq_true rfl, Nat.le_of_ble_eq_true rfl⟩ ⟨Nat.le_of_ble_eq_true rfl, Nat.le_of_ble_eq_true rfl⟩ rfl rfl (Nat.le_of_ble_eq_true rfl) dX5_drawPlan_66 (g_rix ?_)
          have mb_7 := mlS_le (dT t (dwK (t.1 7 7) (h + 1))) (h + 1)
          rw [mlS_dT]
          refine g_icmp_gt_T (X := dL t (t.1 7 7) h + dN (dwK (t.1 7 7) (h + 1))) (Y := ((mlS t (h + 1) : Nat) : Int)) hC (oI_t (by omega) (by omega)) (nI_toInt (by omega)) 77 dX5_drawPlan_69 rfl (fun c_8 => ?_) (fun c_8 => ?_)
          · skip
            refine g_iconst (v := 0) hC dX5_drawPlan_77 rfl ?_
            refine g_top (y := Int32.ofInt (dR t (t.1 7 7) h)) (by rw [show dR t (t.1 7 7) h = 0 from if_neg (by omega)]; rfl) ?_
            refine g_iastN (j := h) (k := 49) hC ly_49 rfl (by omega) (by decide) dX5_drawPlan_78 ?_
            refine g_iload_n hC dX5_drawPlan_79 rfl 4 rfl ?_
            refine g_aload_n hC dX5_drawPlan_80 rfl 3 rfl ?_
            refine g_iload_n hC dX5_drawPlan_81 rfl 5 rfl ?_
            refine g_ialdN (j := h) (k := 49) hC ly_49 rfl (by omega) (by decide) dX5_drawPlan_82 ?_
            refine g_top (y := Int32.ofInt (dR t (t.1 7 7) h)) (by simp [fm_up, fm_row, upd]) ?_
            refine g_iadd hC dX5_drawPlan_83 ?_
            refine g_top (y := Int32.ofInt (dL t (t.1 7 7) (h + 1))) (oI_add _ _) ?_
            refine g_istore_n hC [(2, .int (Int32.ofInt (dL t (t.1 7 7) (h + 1)))), (5, .int (Int32.ofInt (dL t (t.1 7 7) h + dN (dwK (t.1 7 7) (h + 1))))), (4, .int (Int32.ofInt (dN (dwK (t.1 7 7) (h + 1))))), (0, .ref (b + 1)), (1, .ref (b + 49)), (3, .int (nI h))] dX5_drawPlan_84 rfl (by decide) rfl ?_
            refine g_iinc hC [(3, .int (nI (h + 1))), (2, .int (Int32.ofInt (dL t (t.1 7 7) (h + 1)))), (5, .int (Int32.ofInt (dL t (t.1 7 7) h + dN (dwK (t.1 7 7) (h + 1))))), (4, .int (Int32.ofInt (dN (dwK (t.1 7 7) (h + 1))))), (0, .ref (b + 1)), (1, .ref (b + 49))] dX5_drawPlan_85 5 rfl (by rw [show Int32.ofInt 1 = nI 1 from rfl, nI_add]) (by decide) rfl ?_
            refine g_goto hC 4 dX5_drawPlan_88 rfl ?_
            exact g_sub [4, 5, 1, 0] rfl (ih_1 (fm_up (fm_up M1 1 13 (nI (dwK (t.1 7 7) (h + 1)))) 49 h (Int32.ofInt (dR t (t.1 7 7) h))) (h + 1) (by omega) (⟨by omega, fun q q1 q2 => by rw [fm_upn q2, fm_upn q1]; exact m1 q q1 q2, fun i hi => by rw [fm_upn (by omega), fm_upx hi]; exact m2 i hi, by rw [fm_upn (by omega), fm_ups], fun j hj => by rw [fm_upv]; by_cases ee : j = h; rw [if_pos ee, ee]; rw [if_neg ee, fm_upn (by omega)]; exact m4 j (by omega)⟩))
          · skip
            refine g_iload hC dX5_drawPlan_72 1 rfl ?_
            refine g_goto hC 78 dX5_drawPlan_74 rfl ?_
            refine g_top (y := Int32.ofInt (dR t (t.1 7 7) h)) (by rw [show dR t (t.1 7 7) h = dN (dwK (t.1 7 7) (h + 1)) from if_pos (by omega)]) ?_
            refine g_iastN (j := h) (k := 49) hC ly_49 rfl (by omega) (by decide) dX5_drawPlan_78 ?_
            refine g_iload_n hC dX5_drawPlan_79 rfl 4 rfl ?_
            refine g_aload_n hC dX5_drawPlan_80 rfl 3 rfl ?_
            refine g_iload_n hC dX5_drawPlan_81 rfl 5 rfl ?_
            refine g_ialdN (j := h) (k := 49) hC ly_49 rfl (by omega) (by decide) dX5_drawPlan_82 ?_
            refine g_top (y := Int32.ofInt (dR t (t.1 7 7) h)) (by simp [fm_up, fm_row, upd]) ?_
            refine g_iadd hC dX5_drawPlan_83 ?_
            refine g_top (y := Int32.ofInt (dL t (t.1 7 7) (h + 1))) (oI_add _ _) ?_
            refine g_istore_n hC [(2, .int (Int32.ofInt (dL t (t.1 7 7) (h + 1)))), (5, .int (Int32.ofInt (dL t (t.1 7 7) h + dN (dwK (t.1 7 7) (h + 1))))), (4, .int (Int32.ofInt (dN (dwK (t.1 7 7) (h + 1))))), (0, .ref (b + 1)), (1, .ref (b + 49)), (3, .int (nI h))] dX5_drawPlan_84 rfl (by decide) rfl ?_
            refine g_iinc hC [(3, .int (nI (h + 1))), (2, .int (Int32.ofInt (dL t (t.1 7 7) (h + 1)))), (5, .int (Int32.ofInt (dL t (t.1 7 7) h + dN (dwK (t.1 7 7) (h + 1))))), (4, .int (Int32.ofInt (dN (dwK (t.1 7 7) (h + 1))))), (0, .ref (b + 1)), (1, .ref (b + 49))] dX5_drawPlan_85 5 rfl (by rw [show Int32.ofInt 1 = nI 1 from rfl, nI_add]) (by decide) rfl ?_
            refine g_goto hC 4 dX5_drawPlan_88 rfl ?_
            exact g_sub [4, 5, 1, 0] rfl (ih_1 (fm_up (fm_up M1 1 13 (nI (dwK (t.1 7 7) (h + 1)))) 49 h (Int32.ofInt (dR t (t.1 7 7) h))) (h + 1) (by omega) (⟨by omega, fun q q1 q2 => by rw [fm_upn q2, fm_upn q1]; exact m1 q q1 q2, fun i hi => by rw [fm_upn (by omega), fm_upx hi]; exact m2 i hi, by rw [fm_upn (by omega), fm_ups], fun j hj => by rw [fm_upv]; by_cases ee : j = h; rw [if_pos ee, ee]; rw [if_neg ee, fm_upn (by omega)]; exact m4 j (by omega)⟩))
  exact g_sub [2, 3, 1, 0] rfl (lp_4_1 (24 - 0 + 1) M 0 (Nat.lt_succ_self _) (⟨by omega, fun _ _ _ => rfl, fun _ _ => rfl, v8.trans (by rw [dwK_0]), fun j hj => by omega⟩))

theorem c_X6_lots (l : Launch) (D : va_G) (cA : Nat → ClassId) (b : Nat) (M : Nat → Nat → Int32) (L : Nat → Nat → Int64) (g : Sg) (x : Int32) (hS : CS M L g) (hok : OK g) : fm_Met l D cA b yX6_lots cX6_lots 4 (some .int) 6 137 0 0 [.ref (b + 0), .int x] LAY M L LAY (fm_pm (fun r M' L' => r = (op_lots g x).1 ∧ CS M' L' (op_lots g x).2 ∧ fC M M' L L')) := by
  refine fm_start RX6 rfl (by decide) (Nat.le_of_ble_eq_true rfl) ?_
  intro pq eq sq mq aq bq tq cq hC hin
  obtain ⟨⟨n1, n2, n3, v0, v1, v2, v3, v4, v5, v6, v7, v8⟩, hS2⟩ := id hS
  obtain ⟨⟨o1, o2, o3, o4, o5, o6, o7, o8, o9, o10, o11⟩, hok2⟩ := id hok
  refine g_iload_n hC dX6_lots_0 rfl 1 rfl ?_
  refine g_iconst (v := 1) hC dX6_lots_1 rfl ?_
  refine g_icmp_lt_T (X := x.toInt) (Y := 1) hC rfl rfl 11 dX6_lots_2 rfl (fun c_1 => ?_) (fun c_1 => ?_)
  · skip
    refine g_ldc (v := (-100000001)) hC fw_290 dX6_lots_11 ?_
    refine g_zret (ty := .int) hC rfl rfl dX6_lots_13 ?_
    have e0 : op_lots g x = (-100000001, g) := by unfold op_lots; rw [if_neg (by omega)]
    exact ⟨_, rfl, by rw [e0], by rw [e0]; exact hS, fC_rf⟩
  · skip
    refine g_iload_n hC dX6_lots_5 rfl 1 rfl ?_
    refine g_bipush (v := 30) hC dX6_lots_6 rfl ?_
    refine g_icmp_le_T (X := x.toInt) (Y := 30) hC rfl rfl 14 dX6_lots_8 rfl (fun c_2 => ?_) (fun c_2 => ?_)
    · skip
      refine g_aload_n hC dX6_lots_14 rfl 0 rfl ?_
      refine g_getR (ci := 6) (i := 0) (k := 0) (t := 1) hC fm_in6 rfl ly_0 rfl (by decide) fw_196 dX6_lots_15 ?_
      refine g_getI (ci := 5) (i := 11) (k := 1) hC fm_in5 rfl ly_1 rfl (by decide) fw_79 dX6_lots_18 ?_
      refine g_top (y := nI (g.1.1 7 6)) v6 ?_
      refine g_sipush (v := 9999) hC dX6_lots_21 rfl ?_
      refine g_iload_n hC dX6_lots_24 rfl 1 rfl ?_
      refine g_isub hC dX6_lots_25 ?_
      refine g_top (y := 9999 - x) rfl ?_
      refine g_icmp_le_T (X := ((g.1.1 7 6 : Nat) : Int)) (Y := 9999 - x.toInt) hC (nI_toInt (by omega)) (by have := ic_rng x; rw [fb_sub9 (by omega) (by omega)]) 32 dX6_lots_26 rfl (fun c_3 => ?_) (fun c_3 => ?_)
      · skip
        refine g_iconst (v := 0) hC dX6_lots_32 rfl ?_
        refine g_istore_n hC [(2, .int 0), (0, .ref (b + 0)), (1, .int x)] dX6_lots_33 rfl (by decide) rfl ?_
        refine g_iconst (v := 0) hC dX6_lots_34 rfl ?_
        refine g_istore_n hC [(3, .int 0), (2, .int 0), (0, .ref (b + 0)), (1, .int x)] dX6_lots_35 rfl (by decide) rfl ?_
        have lp_36_4 : ∀ (n_4 : Nat) (M1 : Nat → Nat → Int32) (i : Nat), x.toInt.toNat - i < n_4 → (i ≤ x.toInt.toNat ∧ CS M1 L (loT g.1 i, g.2) ∧ fC M M1 L L) → fm_G pq l eq (fm_rm 6 137 0 0) sq mq aq bq tq cq D cA b 4 (MQ bq (fm_Q D cA b LAY (fm_pm (fun r M' L' => r = (op_lots g x).1 ∧ CS M' L' (op_lots g x).2 ∧ fC M M' L L'))) aq sq 0 0 (fun q => b ≤ q)) LAY M1 L 0 0 36 [(0, .ref (b + 0)), (1, .int x), (2, .int (loS g.1 i)), (3, .int (nI i))] [] := by
          intro n_4
          induction n_4 with
          | zero => intro M1 i hm_4; exact absurd hm_4 (Nat.not_lt_zero _)
          | succ n_4 ih_4 =>
            intro M1 i hm_4 hinv_4
            obtain ⟨s1, s2, s3⟩ := hinv_4
            have s6 := lo_6 g.1 i
            have hti : tOK (loT g.1 i) := lo_ok hok.1 (by omega)
            have hoki : OK (loT g.1 i, g.2) := ⟨hti, hok.2⟩
            refine g_iload_n hC dX6_lots_36 rfl 3 rfl ?_
            refine g_iload_n hC dX6_lots_37 rfl 1 rfl ?_
            refine g_icmp_ge_T (X := ((i : Nat) : Int)) (Y := x.toInt) hC (nI_toInt (by omega)) rfl 72 dX6_lots_38 rfl (fun c_5 => ?_) (fun c_5 => ?_)
            · skip
              refine g_iload_n hC dX6_lots_72 rfl 2 rfl ?_
              refine g_zret (ty := .int) hC rfl rfl dX6_lots_73 ?_
              have ei : x.toInt.toNat = i := by omega
              have e0 : op_lots g x = (loS g.1 i, (loT g.1 i, g.2)) := by unfold op_lots; rw [if_pos (by omega), if_pos (by omega), ei]
              exact ⟨_, rfl, by rw [e0], by rw [e0]; exact s2, s3⟩
            · skip
              refine g_aload_n hC dX6_lots_41 rfl 0 rfl ?_
              refine g_getR (ci := 6) (i := 0) (k := 0) (t := 1) hC fm_in6 rfl ly_0 rfl (by decide) fw_196 dX6_lots_42 ?_
              refine g_aload_n hC dX6_lots_45 rfl 0 rfl ?_
              refine g_getR (ci := 6) (i := 7) (k := 0) (t := 49) hC fm_in6 rfl ly_0 rfl (by decide) fw_203 dX6_lots_46 ?_
              refine g_callV hC (k := 1) (ci := 5) (as := [.ref (b + 49)]) (rest := []) (c_X5_drawPlan l D cA b M1 L (loT g.1 i) s2.1 hti) ⟨fw_497, fw_498, fw_499, fw_2, fw_500⟩ ⟨rfl, hd_X5_drawPlan⟩ rfl ly_1 ⟨Nat.le_of_ble_eq_true rfl, Nat.le_of_ble_eq_true rfl⟩ ⟨Nat.le_of_ble_eq_true rfl, Nat.le_of_ble_eq_true rfl⟩ rfl rfl (Nat.le_of_ble_eq_true rfl) dX6_lots_49 (g_rv (fun M_6 L_6 h_6 => ?_))
              obtain ⟨p1_6, p2_6, p3_6, p4_6⟩ := h_6
              rw [p4_6]
              refine g_iload_n hC dX6_lots_52 rfl 2 rfl ?_
              refine g_aload_n hC dX6_lots_53 rfl 0 rfl ?_
              refine g_getR (ci := 6) (i := 0) (k := 0) (t := 1) hC fm_in6 rfl ly_0 rfl (by decide) fw_196 dX6_lots_54 ?_
              refine g_aload_n hC dX6_lots_57 rfl 0 rfl ?_
              refine g_getR (ci := 6) (i := 7) (k := 0) (t := 49) hC fm_in6 rfl ly_0 rfl (by decide) fw_203 dX6_lots_58 ?_
              refine g_callV hC (k := 1) (ci := 5) (as := [.ref (b + 49)]) (rest := [.int (loS g.1 i)]) (c_X5_liveDay l D cA b M_6 L (tDn (loT g.1 i)) 49 (rwD (loT g.1 i)) p1_6 (tOK_tDn hti) ly_49 p2_6 (rwD_end _) (by rw [tDn_6]; omega) (by decide)) ⟨fw_432, fw_433, fw_434, fw_2, fw_435⟩ ⟨rfl, hd_X5_liveDay⟩ rfl ly_1 ⟨Nat.le_of_ble_eq_true rfl, Nat.le_of_ble_eq_true rfl⟩ ⟨Nat.le_of_ble_eq_true rfl, Nat.le_of_ble_eq_true rfl⟩ rfl rfl (Nat.le_of_ble_eq_true rfl) dX6_lots_61 (g_rm (fun r_7 M_7 L_7 h_7 => ?_))
              obtain ⟨d1_7, d2_7, d3_7, d4_7⟩ := h_7
              rw [d1_7, d4_7]
              refine g_iadd hC dX6_lots_64 ?_
              refine g_top (y := loS g.1 (i + 1)) rfl ?_
              refine g_istore_n hC [(2, .int (loS g.1 (i + 1))), (0, .ref (b + 0)), (1, .int x), (3, .int (nI i))] dX6_lots_65 rfl (by decide) rfl ?_
              refine g_iinc hC [(3, .int (nI (i + 1))), (2, .int (loS g.1 (i + 1))), (0, .ref (b + 0)), (1, .int x)] dX6_lots_66 3 rfl (by rw [show Int32.ofInt 1 = nI 1 from rfl, nI_add]) (by decide) rfl ?_
              refine g_goto hC 36 dX6_lots_69 rfl ?_
              exact g_sub [2, 3, 1, 0] rfl (ih_4 M_7 (i + 1) (by omega) (⟨by omega, CS_now s2 hoki (t := dayT (tDn (loT g.1 i)) (rwD (loT g.1 i))) d2_7 (fun q h1 h2 => (d3_7 q (by omega)).trans (p3_6 q (by omega) (by omega))) (fun q h1 h2 => ⟨(d3_7 q (by omega)).trans (p3_6 q (by omega) (by omega)), rfl⟩), fun q hq => ⟨((d3_7 q (by omega)).trans (p3_6 q (by omega) (by omega))).trans (s3 q hq).1, rfl⟩⟩))
        exact g_sub [2, 3, 1, 0] rfl (lp_36_4 (x.toInt.toNat - 0 + 1) M 0 (Nat.lt_succ_self _) (⟨by omega, hS, fC_rf⟩))
      · skip
        refine g_ldc (v := (-100000003)) hC fw_431 dX6_lots_29 ?_
        refine g_zret (ty := .int) hC rfl rfl dX6_lots_31 ?_
        have e0 : op_lots g x = (-100000003, g) := by unfold op_lots; rw [if_pos (by omega), if_neg (by omega)]
        exact ⟨_, rfl, by rw [e0], by rw [e0]; exact hS, fC_rf⟩
    · skip
      refine g_ldc (v := (-100000001)) hC fw_290 dX6_lots_11 ?_
      refine g_zret (ty := .int) hC rfl rfl dX6_lots_13 ?_
      have e0 : op_lots g x = (-100000001, g) := by unfold op_lots; rw [if_neg (by omega)]
      exact ⟨_, rfl, by rw [e0], by rw [e0]; exact hS, fC_rf⟩
