/-! ===== best, share, spend: the check's calls ===== -/
def mtR (t : Tn) (e : Bool) (M : Nat → Nat → Int32) (h : Nat) : Prop := ∀ q, q ≤ t.1 7 2 → M 70 (100 * h + q) = encR (bV t e (24 - h) q)
theorem lo_a (a : Nat) (z : Int) : nI a + Int32.ofInt z = Int32.ofInt ((a : Int) + z) := by rw [nI_oI, oI_add]
theorem ix2 {a l i : Nat} (h : 2 ≤ l + i) : nI (a + l) + Int32.ofInt ((i : Int) - 2) = nI (a + (l + i - 2)) := by
  rw [nI_oI, oI_add, nI_oI]; congr 1; omega
theorem ix_row2 (a i : Nat) : nI a + Int32.ofInt ((i : Int) - 2) - (-2) = nI (a + i) := by
  rw [nI_oI, oI_add, show (-2 : Int32) = Int32.ofInt (-2) from rfl, oI_sub, nI_oI]; congr 1; omega
theorem iv_1 (i : Nat) : Int32.ofInt ((i : Int) - 2) + Int32.ofInt 1 = Int32.ofInt (((i + 1 : Nat) : Int) - 2) := by
  rw [oI_add]; congr 1; omega
theorem encR_mx1 {a c : Option Int} (ha : smO a) (hc : smO c) (h : (encR a).toInt < (encR c).toInt) : encR c = encR (omax a c) := by
  cases a with
  | none => rfl
  | some x =>
    have hx := ha x rfl
    cases c with
    | none =>
      exfalso
      have h2 : (Int32.ofInt x).toInt < (-1000000000 : Int) := h
      rw [oI_t (by omega) (by omega)] at h2; omega
    | some y =>
      have hy := hc y rfl
      have h2 : (Int32.ofInt x).toInt < (Int32.ofInt y).toInt := h
      rw [oI_t (by omega) (by omega), oI_t (by omega) (by omega)] at h2
      show Int32.ofInt y = Int32.ofInt (if x < y then y else x)
      rw [if_pos h2]
theorem encR_mx2 {a c : Option Int} (ha : smO a) (hc : smO c) (h : (encR c).toInt ≤ (encR a).toInt) : encR a = encR (omax a c) := by
  cases a with
  | none =>
    cases c with
    | none => rfl
    | some y =>
      exfalso
      have hy := hc y rfl
      have h2 : (Int32.ofInt y).toInt ≤ (-1000000000 : Int) := h
      rw [oI_t (by omega) (by omega)] at h2; omega
  | some x =>
    have hx := ha x rfl
    cases c with
    | none => rfl
    | some y =>
      have hy := hc y rfl
      have h2 : (Int32.ofInt y).toInt ≤ (Int32.ofInt x).toInt := h
      rw [oI_t (by omega) (by omega), oI_t (by omega) (by omega)] at h2
      show Int32.ofInt x = Int32.ofInt (if x < y then y else x)
      rw [if_neg (by omega)]
theorem omax_none (a : Option Int) : omax a none = a := by cases a <;> rfl
theorem encR_inj {a c : Option Int} (ha : smO a) (hc : smO c) : (encR a).toInt = (encR c).toInt ↔ a = c := by
  cases a with
  | none =>
    constructor
    · intro q; exact ((encR_n hc).mp q.symm).symm
    · intro q; rw [q]
  | some x =>
    cases c with
    | none =>
      constructor
      · intro q; exact (encR_n ha).mp q
      · intro q; rw [q]
    | some y =>
      have hx := ha x rfl
      have hy := hc y rfl
      show (Int32.ofInt x).toInt = (Int32.ofInt y).toInt ↔ _
      rw [oI_t (by omega) (by omega), oI_t (by omega) (by omega)]
      constructor
      · intro q; rw [q]
      · intro q; cases q; rfl
theorem cand_nr {t : Tn} {e : Bool} {k h late i : Nat} (q : ¬ (0 ≤ (late : Int) + ((i : Int) - 2) ∧ (late : Int) + ((i : Int) - 2) ≤ (t.1 7 2 : Int))) : cand t (bV t e k) h late i = none := by
  unfold cand
  by_cases c : 2 ≤ late + i
  · rw [if_pos c, bV_none (by omega)]
  · rw [if_neg c]
theorem cand_nn {t : Tn} {e : Bool} {k h late i : Nat} (q : bV t e k (late + i - 2) = none) : cand t (bV t e k) h late i = none := by
  unfold cand
  by_cases c : 2 ≤ late + i
  · rw [if_pos c, q]
  · rw [if_neg c]
theorem cand_sm {t : Tn} {e : Bool} {k h late i : Nat} (c : 2 ≤ late + i) (q : bV t e k (late + i - 2) ≠ none) : Int32.ofInt (gA t h ((i : Int) - 2)) + encR (bV t e k (late + i - 2)) = encR (cand t (bV t e k) h late i) := by
  cases hb : bV t e k (late + i - 2) with
  | none => exact absurd hb q
  | some y =>
    unfold cand
    rw [if_pos c, hb]
    exact oI_add _ _
theorem best_none {t : Tn} {e : Bool} {k h late i : Nat} (q : cand t (bV t e k) h late i = none) : bestO (cand t (bV t e k) h late) i = bestO (cand t (bV t e k) h late) (i + 1) := by
  show _ = omax _ (cand t (bV t e k) h late i)
  rw [q, omax_none]
theorem mr_keep {t : Tn} {e : Bool} {M : Nat → Nat → Int32} {h i : Nat} {v : Int32} (ht : t.1 7 2 ≤ 99) (q : mtR t e M h) (hi : i < 100 * h) : mtR t e (fm_up M 70 i v) h := fun j hj => by
  rw [fm_upv, if_neg (by omega)]; exact q j hj

theorem c_X7_findBest (l : Launch) (D : va_G) (cA : Nat → ClassId) (b : Nat) (M : Nat → Nat → Int32) (L : Nat → Nat → Int64) (g : Sg) (e : Bool) (hS : RS M L g) (hok : OK g) : fm_Met l D cA b yX7_findBest cX7_findBest 7 (some .int) 3 72 0 0 [.ref (b + 58), .int (bi (e = true))] LAY M L LAY (fm_pm (fun r M' L' => r = Int32.ofInt (bVal g.1 e) ∧ rowIs M' 71 (bRow g.1 e) ∧ (∀ q, q ≠ 69 → q ≠ 70 → q ≠ 71 → M' q = M q) ∧ L' = L)) := by
  refine fm_start RX7 rfl (by decide) (Nat.le_of_ble_eq_true rfl) ?_
  intro pq eq sq mq aq bq tq cq hC hin
  obtain ⟨⟨n1, n2, n3, v0, v1, v2, v3, v4, v5, v6, v7, v8⟩, hS2⟩ := id hS
  obtain ⟨⟨o1, o2, o3, o4, o5, o6, o7, o8, o9, o10, o11⟩, hok2⟩ := id hok
  refine g_aload_n hC dX7_findBest_0 rfl 0 rfl ?_
  refine g_callV hC (k := 58) (ci := 7) (as := []) (rest := []) (c_X7_findGains l D cA b M L g hS hok) ⟨fw_861, fw_863, fs_27, fw_9, fw_864⟩ ⟨rfl, hd_X7_findGains⟩ rfl ly_58 ⟨Nat.le_of_ble_eq_true rfl, Nat.le_of_ble_eq_true rfl⟩ ⟨Nat.le_of_ble_eq_true rfl, Nat.le_of_ble_eq_true rfl⟩ rfl rfl (Nat.le_of_ble_eq_true rfl) dX7_findBest_1 (g_rv (fun M_1 L_1 h_1 => ?_))
  obtain ⟨f1, f2, f3⟩ := h_1
  rw [f2]
  have hS_0 : RS M_1 L g := RS_scr hS (fun q x1 x2 x3 => f1 q (by omega)) rfl
  obtain ⟨⟨n1, n2, n3, v0, v1, v2, v3, v4, v5, v6, v7, v8⟩, hS2⟩ := id hS_0
  refine g_iconst (v := 0) hC dX7_findBest_4 rfl ?_
  refine g_istore_n hC [(2, .int 0), (0, .ref (b + 58)), (1, .int (bi (e = true)))] dX7_findBest_5 rfl (by decide) rfl ?_
  have lp_6_2 : ∀ (n_2 : Nat) (M2 : Nat → Nat → Int32) (late : Nat), 101 - late < n_2 → (late ≤ g.1.1 7 2 + 1 ∧ (∀ q, q ≠ 70 → M2 q = M_1 q) ∧ (∀ q, q < late → M2 70 (2400 + q) = encR (bV g.1 e 0 q))) → fm_G pq l eq (fm_rm 3 72 0 0) sq mq aq bq tq cq D cA b 7 (MQ bq (fm_Q D cA b LAY (fm_pm (fun r M' L' => r = Int32.ofInt (bVal g.1 e) ∧ rowIs M' 71 (bRow g.1 e) ∧ (∀ q, q ≠ 69 → q ≠ 70 → q ≠ 71 → M' q = M q) ∧ L' = L))) aq sq 0 0 (fun q => b ≤ q)) LAY M2 L 0 0 6 [(0, .ref (b + 58)), (1, .int (bi (e = true))), (2, .int (nI late))] [] := by
    intro n_2
    induction n_2 with
    | zero => intro M2 late hm_2; exact absurd hm_2 (Nat.not_lt_zero _)
    | succ n_2 ih_2 =>
      intro M2 late hm_2 hinv_2
      obtain ⟨m1, m2, m3⟩ := hinv_2
      have hS_2 := RS_scr hS (M' := M2) (L' := L) (fun q x1 x2 x3 => by rw [m2 q (by omega)]; exact f1 q (by omega)) rfl
      obtain ⟨⟨n1, n2, n3, v0, v1, v2, v3, v4, v5, v6, v7, v8⟩, hS2⟩ := id hS_2
      refine g_iload_n hC dX7_findBest_6 rfl 2 rfl ?_
      refine g_aload_n hC dX7_findBest_7 rfl 0 rfl ?_
      refine g_getI (ci := 7) (i := 10) (k := 58) hC fm_in7 rfl ly_58 rfl (by decide) fw_630 dX7_findBest_8 ?_
      refine g_top (y := nI (g.1.1 7 2)) v2 ?_
      refine g_icmp_gt_T (X := ((late : Nat) : Int)) (Y := ((g.1.1 7 2 : Nat) : Int)) hC (nI_toInt (by omega)) (nI_toInt (by omega)) 44 dX7_findBest_11 rfl (fun c_3 => ?_) (fun c_3 => ?_)
      · skip
        refine g_bipush (v := 23) hC dX7_findBest_44 rfl ?_
        refine g_top (y := nI 24 + (-1)) (by decide) ?_
        refine g_istore_n hC [(2, .int (nI 24 + (-1))), (0, .ref (b + 58)), (1, .int (bi (e = true)))] dX7_findBest_46 rfl (by decide) rfl ?_
        have lp_47_4 : ∀ (n_4 : Nat) (M3 : Nat → Nat → Int32) (n : Nat), n < n_4 → (n ≤ 24 ∧ (∀ q, q ≠ 69 → q ≠ 70 → M3 q = M q) ∧ (∀ q, q < 24 → gaT g.1 M3 q 8) ∧ (∀ h, n ≤ h → h ≤ 24 → mtR g.1 e M3 h)) → fm_G pq l eq (fm_rm 3 72 0 0) sq mq aq bq tq cq D cA b 7 (MQ bq (fm_Q D cA b LAY (fm_pm (fun r M' L' => r = Int32.ofInt (bVal g.1 e) ∧ rowIs M' 71 (bRow g.1 e) ∧ (∀ q, q ≠ 69 → q ≠ 70 → q ≠ 71 → M' q = M q) ∧ L' = L))) aq sq 0 0 (fun q => b ≤ q)) LAY M3 L 0 0 47 [(0, .ref (b + 58)), (1, .int (bi (e = true))), (2, .int (nI n + (-1)))] [] := by
          intro n_4
          induction n_4 with
          | zero => intro M3 n hm_4; exact absurd hm_4 (Nat.not_lt_zero _)
          | succ n_4 ih_4 =>
            intro M3 n hm_4 hinv_4
            obtain ⟨a1, a2, a3, a4⟩ := hinv_4
            refine g_iload_n hC dX7_findBest_47 rfl 2 rfl ?_
            refine g_if_lt_T (X := ((n : Nat) : Int) - 1) hC (m1_t (by omega)) 203 dX7_findBest_48 rfl (fun c_5 => ?_) (fun c_5 => ?_)
            · skip
              refine g_iconst (v := 0) hC dX7_findBest_203 rfl ?_
              refine g_istore_n hC [(2, .int 0), (0, .ref (b + 58)), (1, .int (bi (e = true)))] dX7_findBest_204 rfl (by decide) rfl ?_
              refine g_iconst (v := 0) hC dX7_findBest_205 rfl ?_
              refine g_istore_n hC [(3, .int 0), (2, .int 0), (0, .ref (b + 58)), (1, .int (bi (e = true)))] dX7_findBest_206 rfl (by decide) rfl ?_
              have lp_207_6 : ∀ (n_6 : Nat) (M6 : Nat → Nat → Int32) (h : Nat), 24 - h < n_6 → (h ≤ 24 ∧ (∀ q, q ≠ 71 → M6 q = M3 q) ∧ (∀ q, q < h → M6 71 q = Int32.ofInt (bRow g.1 e q))) → fm_G pq l eq (fm_rm 3 72 0 0) sq mq aq bq tq cq D cA b 7 (MQ bq (fm_Q D cA b LAY (fm_pm (fun r M' L' => r = Int32.ofInt (bVal g.1 e) ∧ rowIs M' 71 (bRow g.1 e) ∧ (∀ q, q ≠ 69 → q ≠ 70 → q ≠ 71 → M' q = M q) ∧ L' = L))) aq sq 0 0 (fun q => b ≤ q)) LAY M6 L 0 0 207 [(0, .ref (b + 58)), (1, .int (bi (e = true))), (2, .int (nI (bL g.1 e h))), (3, .int (nI h))] [] := by
                intro n_6
                induction n_6 with
                | zero => intro M6 h hm_6; exact absurd hm_6 (Nat.not_lt_zero _)
                | succ n_6 ih_6 =>
                  intro M6 h hm_6 hinv_6
                  obtain ⟨r1, r2, r3⟩ := hinv_6
                  have rr : ∀ h, h ≤ 24 → mtR g.1 e M6 h := fun h hh q hq => by rw [r2 70 (by omega)]; exact a4 h (by omega) hh q hq
                  have gg : ∀ q, q < 24 → gaT g.1 M6 q 8 := fun q hq v hv => by rw [r2 69 (by omega)]; exact a3 q hq v hv
                  have hS_6 : RS M6 L g := RS_scr hS (fun q x1 x2 x3 => by rw [r2 q (by omega)]; exact a2 q (by omega) (by omega)) rfl
                  obtain ⟨⟨n1, n2, n3, v0, v1, v2, v3, v4, v5, v6, v7, v8⟩, hS2⟩ := id hS_6
                  refine g_iload_n hC dX7_findBest_207 rfl 3 rfl ?_
                  refine g_bipush (v := 24) hC dX7_findBest_208 rfl ?_
                  refine g_icmp_ge_T (X := ((h : Nat) : Int)) (Y := 24) hC (nI_toInt (by omega)) rfl 326 dX7_findBest_210 rfl (fun c_7 => ?_) (fun c_7 => ?_)
                  · skip
                    refine g_aload_n hC dX7_findBest_326 rfl 0 rfl ?_
                    refine g_getR (ci := 7) (i := 24) (k := 58) (t := 70) hC fm_in7 rfl ly_58 rfl (by decide) fw_644 dX7_findBest_327 ?_
                    refine g_iconst (v := 0) hC dX7_findBest_330 rfl ?_
                    refine g_ialdN (j := 0) (k := 70) hC ly_70 rfl (by decide) (by decide) dX7_findBest_331 ?_
                    refine g_zret (ty := .int) hC rfl rfl dX7_findBest_332 ?_
                    have z : M6 70 0 = encR (bV g.1 e 24 0) := rr 0 (by omega) 0 (by omega)
                    exact ⟨_, rfl, by rw [z, bVal_is]; rfl, fun q hq => ⟨r3 q (by omega), bRow_b hq⟩, fun q q1 q2 q3 => by rw [r2 q q3]; exact a2 q q1 q2, rfl⟩
                  · skip
                    refine g_bipush (v := (-2)) hC dX7_findBest_213 rfl ?_
                    refine g_top (y := Int32.ofInt (((0 : Nat) : Int) - 2)) (by decide) ?_
                    have hal := bL_alive (t := g.1) (e := e) (h := h) (by omega)
                    obtain ⟨pk1, pk2⟩ := bL_pick (by omega) hal
                    have bj := bL_jar (t := g.1) (e := e) (h := h) (by omega)
                    refine g_istore hC [(4, .int (Int32.ofInt (((0 : Nat) : Int) - 2))), (0, .ref (b + 58)), (1, .int (bi (e = true))), (2, .int (nI (bL g.1 e h))), (3, .int (nI h))] dX7_findBest_215 (by decide) rfl ?_
                    have lp_217_8 : ∀ (n_8 : Nat) (i : Nat), 8 - i < n_8 → (i ≤ bP g.1 e h ∧ ∀ j, j < i → cand g.1 (bV g.1 e (23 - h)) h (bL g.1 e h) j ≠ bV g.1 e (24 - h) (bL g.1 e h)) → fm_G pq l eq (fm_rm 3 72 0 0) sq mq aq bq tq cq D cA b 7 (MQ bq (fm_Q D cA b LAY (fm_pm (fun r M' L' => r = Int32.ofInt (bVal g.1 e) ∧ rowIs M' 71 (bRow g.1 e) ∧ (∀ q, q ≠ 69 → q ≠ 70 → q ≠ 71 → M' q = M q) ∧ L' = L))) aq sq 0 0 (fun q => b ≤ q)) LAY M6 L 0 0 217 [(0, .ref (b + 58)), (1, .int (bi (e = true))), (2, .int (nI (bL g.1 e h))), (3, .int (nI h)), (4, .int (Int32.ofInt ((i : Int) - 2)))] [] := by
                      intro n_8
                      induction n_8 with
                      | zero => intro i hm_8; exact absurd hm_8 (Nat.not_lt_zero _)
                      | succ n_8 ih_8 =>
                        intro i hm_8 hinv_8
                        obtain ⟨z1, z2⟩ := hinv_8
                        refine g_iload_n hC dX7_findBest_217 rfl 2 rfl ?_
                        refine g_iload hC dX7_findBest_218 4 rfl ?_
                        refine g_iadd hC dX7_findBest_220 ?_
                        refine g_top (y := Int32.ofInt ((bL g.1 e h : Int) + ((i : Int) - 2))) (lo_a _ _) ?_
                        refine g_i2l (v := (Int32.ofInt ((bL g.1 e h : Int) + ((i : Int) - 2))).toInt64) hC dX7_findBest_221 rfl ?_
                        refine g_lconst (v := 0) hC dX7_findBest_222 rfl ?_
                        refine g_aload_n hC dX7_findBest_223 rfl 0 rfl ?_
                        refine g_getI (ci := 7) (i := 10) (k := 58) hC fm_in7 rfl ly_58 rfl (by decide) fw_630 dX7_findBest_224 ?_
                        refine g_top (y := nI (g.1.1 7 2)) v2 ?_
                        refine g_i2l (v := (nI (g.1.1 7 2)).toInt64) hC dX7_findBest_227 rfl ?_
                        refine g_callS hC (as := [.long ((Int32.ofInt ((bL g.1 e h : Int) + ((i : Int) - 2))).toInt64), .long 0, .long ((nI (g.1.1 7 2)).toInt64)]) (rest := []) (c_X7_in l D cA b LAY M6 L ((Int32.ofInt ((bL g.1 e h : Int) + ((i : Int) - 2))).toInt64) 0 ((nI (g.1.1 7 2)).toInt64) ((bL g.1 e h : Int) + ((i : Int) - 2)) 0 ((g.1.1 7 2 : Nat) : Int) ((ic_w _).trans (oI_t (by omega) (by omega))) rfl ((ic_w _).trans (nI_toInt (by omega)))) ⟨fw_725, fw_726, fw_9, fw_727⟩ hd_X7_in ⟨Nat.le_of_ble_eq_true rfl, Nat.le_of_ble_eq_true rfl⟩ ⟨Nat.le_of_ble_eq_true rfl, Nat.le_of_ble_eq_true rfl⟩ rfl rfl (Nat.le_of_ble_eq_true rfl) dX7_findBest_228 (g_rix ?_)
                        refine g_ifb_eq hC 301 dX7_findBest_231 rfl (fun c_10 => ?_) (fun c_10 => ?_)
                        · skip
                          have hne : cand g.1 (bV g.1 e (23 - h)) h (bL g.1 e h) i ≠ bV g.1 e (24 - h) (bL g.1 e h) := fun q => hal (q.symm.trans (cand_nr (by omega)))
                          refine g_iinc hC [(4, .int (Int32.ofInt (((i + 1 : Nat) : Int) - 2))), (0, .ref (b + 58)), (1, .int (bi (e = true))), (2, .int (nI (bL g.1 e h))), (3, .int (nI h))] dX7_findBest_301 4 rfl (iv_1 i) (by decide) rfl ?_
                          refine g_goto hC 217 dX7_findBest_304 rfl ?_
                          exact g_sub [1, 2, 3, 4, 0] rfl (ih_8 (i + 1) (by omega) (⟨(by have : i ≠ bP g.1 e h := fun q => hne (by rw [q]; exact pk2); omega), fun j hj q => by rcases Nat.lt_or_ge j i with z | z; exact z2 j z q; exact hne (by rw [show i = j by omega]; exact q)⟩))
                        · skip
                          refine g_aload_n hC dX7_findBest_234 rfl 0 rfl ?_
                          refine g_getR (ci := 7) (i := 24) (k := 58) (t := 70) hC fm_in7 rfl ly_58 rfl (by decide) fw_644 dX7_findBest_235 ?_
                          refine g_bipush (v := 100) hC dX7_findBest_238 rfl ?_
                          refine g_iload_n hC dX7_findBest_240 rfl 3 rfl ?_
                          refine g_iconst (v := 1) hC dX7_findBest_241 rfl ?_
                          refine g_iadd hC dX7_findBest_242 ?_
                          refine g_top (y := nI (h + 1)) (nI_add _ _) ?_
                          refine g_imul hC dX7_findBest_243 ?_
                          refine g_top (y := nI (100 * (h + 1))) (pk_mul _ _) ?_
                          refine g_iload_n hC dX7_findBest_244 rfl 2 rfl ?_
                          refine g_iadd hC dX7_findBest_245 ?_
                          refine g_top (y := nI ((100 * (h + 1)) + (bL g.1 e h))) (nI_add _ _) ?_
                          refine g_iload hC dX7_findBest_246 4 rfl ?_
                          refine g_iadd hC dX7_findBest_248 ?_
                          refine g_top (y := nI (100 * (h + 1) + (bL g.1 e h + i - 2))) (ix2 (by omega)) ?_
                          refine g_ialdN (j := 100 * (h + 1) + (bL g.1 e h + i - 2)) (k := 70) hC ly_70 rfl (by omega) (by decide) dX7_findBest_249 ?_
                          refine g_top (y := encR (bV g.1 e (23 - h) (bL g.1 e h + i - 2))) (by rw [rr (h + 1) (by omega) _ (by omega), show 24 - (h + 1) = 23 - h by omega]) ?_
                          refine g_ldc (v := (-1000000000)) hC fw_900 dX7_findBest_250 ?_
                          refine g_icmp_eq_T (X := (encR (bV g.1 e (23 - h) (bL g.1 e h + i - 2))).toInt) (Y := (-1000000000)) hC rfl rfl 301 dX7_findBest_252 rfl (fun c_11 => ?_) (fun c_11 => ?_)
                          · skip
                            have hne : cand g.1 (bV g.1 e (23 - h)) h (bL g.1 e h) i ≠ bV g.1 e (24 - h) (bL g.1 e h) := fun q => hal (q.symm.trans (cand_nn ((encR_n (sm_bV hok.1 (by omega))).mp c_11)))
                            refine g_iinc hC [(4, .int (Int32.ofInt (((i + 1 : Nat) : Int) - 2))), (0, .ref (b + 58)), (1, .int (bi (e = true))), (2, .int (nI (bL g.1 e h))), (3, .int (nI h))] dX7_findBest_301 4 rfl (iv_1 i) (by decide) rfl ?_
                            refine g_goto hC 217 dX7_findBest_304 rfl ?_
                            exact g_sub [1, 2, 3, 4, 0] rfl (ih_8 (i + 1) (by omega) (⟨(by have : i ≠ bP g.1 e h := fun q => hne (by rw [q]; exact pk2); omega), fun j hj q => by rcases Nat.lt_or_ge j i with z | z; exact z2 j z q; exact hne (by rw [show i = j by omega]; exact q)⟩))
                          · skip
                            refine g_aload_n hC dX7_findBest_255 rfl 0 rfl ?_
                            refine g_getR (ci := 7) (i := 23) (k := 58) (t := 69) hC fm_in7 rfl ly_58 rfl (by decide) fw_643 dX7_findBest_256 ?_
                            refine g_bipush (v := 8) hC dX7_findBest_259 rfl ?_
                            refine g_iload_n hC dX7_findBest_261 rfl 3 rfl ?_
                            refine g_imul hC dX7_findBest_262 ?_
                            refine g_top (y := nI (8 * h)) (pk_mul _ _) ?_
                            refine g_iload hC dX7_findBest_263 4 rfl ?_
                            refine g_iadd hC dX7_findBest_265 ?_
                            refine g_bipush (v := (-2)) hC dX7_findBest_266 rfl ?_
                            refine g_isub hC dX7_findBest_268 ?_
                            refine g_top (y := nI (8 * h + i)) (ix_row2 _ _) ?_
                            refine g_ialdN (j := 8 * h + i) (k := 69) hC ly_69 rfl (by omega) (by decide) dX7_findBest_269 ?_
                            refine g_top (y := Int32.ofInt (gA g.1 h ((i : Int) - 2))) (gg h (by omega) i (by omega)) ?_
                            refine g_aload_n hC dX7_findBest_270 rfl 0 rfl ?_
                            refine g_getR (ci := 7) (i := 24) (k := 58) (t := 70) hC fm_in7 rfl ly_58 rfl (by decide) fw_644 dX7_findBest_271 ?_
                            refine g_bipush (v := 100) hC dX7_findBest_274 rfl ?_
                            refine g_iload_n hC dX7_findBest_276 rfl 3 rfl ?_
                            refine g_iconst (v := 1) hC dX7_findBest_277 rfl ?_
                            refine g_iadd hC dX7_findBest_278 ?_
                            refine g_top (y := nI (h + 1)) (nI_add _ _) ?_
                            refine g_imul hC dX7_findBest_279 ?_
                            refine g_top (y := nI (100 * (h + 1))) (pk_mul _ _) ?_
                            refine g_iload_n hC dX7_findBest_280 rfl 2 rfl ?_
                            refine g_iadd hC dX7_findBest_281 ?_
                            refine g_top (y := nI ((100 * (h + 1)) + (bL g.1 e h))) (nI_add _ _) ?_
                            refine g_iload hC dX7_findBest_282 4 rfl ?_
                            refine g_iadd hC dX7_findBest_284 ?_
                            refine g_top (y := nI (100 * (h + 1) + (bL g.1 e h + i - 2))) (ix2 (by omega)) ?_
                            refine g_ialdN (j := 100 * (h + 1) + (bL g.1 e h + i - 2)) (k := 70) hC ly_70 rfl (by omega) (by decide) dX7_findBest_285 ?_
                            refine g_top (y := encR (bV g.1 e (23 - h) (bL g.1 e h + i - 2))) (by rw [rr (h + 1) (by omega) _ (by omega), show 24 - (h + 1) = 23 - h by omega]) ?_
                            refine g_iadd hC dX7_findBest_286 ?_
                            refine g_top (y := encR (cand g.1 (bV g.1 e (23 - h)) h (bL g.1 e h) i)) (cand_sm (by omega) (fun q => c_11 ((encR_n (sm_bV hok.1 (by omega))).mpr q))) ?_
                            refine g_aload_n hC dX7_findBest_287 rfl 0 rfl ?_
                            refine g_getR (ci := 7) (i := 24) (k := 58) (t := 70) hC fm_in7 rfl ly_58 rfl (by decide) fw_644 dX7_findBest_288 ?_
                            refine g_bipush (v := 100) hC dX7_findBest_291 rfl ?_
                            refine g_iload_n hC dX7_findBest_293 rfl 3 rfl ?_
                            refine g_imul hC dX7_findBest_294 ?_
                            refine g_top (y := nI (100 * h)) (pk_mul _ _) ?_
                            refine g_iload_n hC dX7_findBest_295 rfl 2 rfl ?_
                            refine g_iadd hC dX7_findBest_296 ?_
                            refine g_top (y := nI ((100 * h) + (bL g.1 e h))) (nI_add _ _) ?_
                            refine g_ialdN (j := (100 * h) + (bL g.1 e h)) (k := 70) hC ly_70 rfl (by omega) (by decide) dX7_findBest_297 ?_
                            refine g_top (y := encR (bV g.1 e (24 - h) (bL g.1 e h))) (rr h (by omega) _ (by omega)) ?_
                            refine g_icmp_eq_T (X := (encR (cand g.1 (bV g.1 e (23 - h)) h (bL g.1 e h) i)).toInt) (Y := (encR (bV g.1 e (24 - h) (bL g.1 e h))).toInt) hC rfl rfl 307 dX7_findBest_298 rfl (fun c_12 => ?_) (fun c_12 => ?_)
                            · skip
                              have heq : cand g.1 (bV g.1 e (23 - h)) h (bL g.1 e h) i = bV g.1 e (24 - h) (bL g.1 e h) := (encR_inj (sm_cand hok.1 (by omega) (by omega) (by omega)) (sm_bV hok.1 (by omega))).mp c_12
                              have hp : bP g.1 e h = i := pk8_is (by omega) heq z2
                              have hbr : (i : Int) - 2 = bRow g.1 e h := by unfold bRow; rw [hp]
                              rw [hbr]
                              refine g_aload_n hC dX7_findBest_307 rfl 0 rfl ?_
                              refine g_getR (ci := 7) (i := 25) (k := 58) (t := 71) hC fm_in7 rfl ly_58 rfl (by decide) fw_645 dX7_findBest_308 ?_
                              refine g_iload_n hC dX7_findBest_311 rfl 3 rfl ?_
                              refine g_iload hC dX7_findBest_312 4 rfl ?_
                              refine g_iastN (j := h) (k := 71) hC ly_71 rfl (by omega) (by decide) dX7_findBest_314 ?_
                              refine g_iload_n hC dX7_findBest_315 rfl 2 rfl ?_
                              refine g_iload hC dX7_findBest_316 4 rfl ?_
                              refine g_iadd hC dX7_findBest_318 ?_
                              refine g_top (y := nI (bL g.1 e (h + 1))) (bL_next (by omega)) ?_
                              refine g_istore_n hC [(2, .int (nI (bL g.1 e (h + 1)))), (0, .ref (b + 58)), (1, .int (bi (e = true))), (3, .int (nI h)), (4, .int (Int32.ofInt (bRow g.1 e h)))] dX7_findBest_319 rfl (by decide) rfl ?_
                              refine g_iinc hC [(3, .int (nI (h + 1))), (2, .int (nI (bL g.1 e (h + 1)))), (0, .ref (b + 58)), (1, .int (bi (e = true))), (4, .int (Int32.ofInt (bRow g.1 e h)))] dX7_findBest_320 3 rfl (by rw [show Int32.ofInt 1 = nI 1 from rfl, nI_add]) (by decide) rfl ?_
                              refine g_goto hC 207 dX7_findBest_323 rfl ?_
                              exact g_sub [2, 3, 1, 0] rfl (ih_6 (fm_up M6 71 h (Int32.ofInt (bRow g.1 e h))) (h + 1) (by omega) (⟨by omega, fun q hq => by rw [fm_upn hq]; exact r2 q hq, fun q hq => by rw [fm_upv]; by_cases ee : q = h; rw [if_pos ee, ee]; rw [if_neg ee]; exact r3 q (by omega)⟩))
                            · skip
                              have hne : cand g.1 (bV g.1 e (23 - h)) h (bL g.1 e h) i ≠ bV g.1 e (24 - h) (bL g.1 e h) := fun q => c_12 ((encR_inj (sm_cand hok.1 (by omega) (by omega) (by omega)) (sm_bV hok.1 (by omega))).mpr q)
                              refine g_iinc hC [(4, .int (Int32.ofInt (((i + 1 : Nat) : Int) - 2))), (0, .ref (b + 58)), (1, .int (bi (e = true))), (2, .int (nI (bL g.1 e h))), (3, .int (nI h))] dX7_findBest_301 4 rfl (iv_1 i) (by decide) rfl ?_
                              refine g_goto hC 217 dX7_findBest_304 rfl ?_
                              exact g_sub [1, 2, 3, 4, 0] rfl (ih_8 (i + 1) (by omega) (⟨(by have : i ≠ bP g.1 e h := fun q => hne (by rw [q]; exact pk2); omega), fun j hj q => by rcases Nat.lt_or_ge j i with z | z; exact z2 j z q; exact hne (by rw [show i = j by omega]; exact q)⟩))
                    exact g_sub [1, 2, 3, 4, 0] rfl (lp_217_8 (8 - 0 + 1) 0 (Nat.lt_succ_self _) (⟨by omega, fun j hj => by omega⟩))
              exact g_sub [2, 3, 1, 0] rfl (lp_207_6 (24 - 0 + 1) M3 0 (Nat.lt_succ_self _) (⟨by omega, fun q _ => rfl, fun q hq => by omega⟩))
            · skip
              obtain ⟨h, rfl⟩ : ∃ h, n = h + 1 := ⟨n - 1, by omega⟩
              rw [pk_m1 h]
              refine g_iconst (v := 0) hC dX7_findBest_51 rfl ?_
              refine g_istore_n hC [(3, .int 0), (0, .ref (b + 58)), (1, .int (bi (e = true))), (2, .int (nI h))] dX7_findBest_52 rfl (by decide) rfl ?_
              have lp_53_13 : ∀ (n_13 : Nat) (M4 : Nat → Nat → Int32) (late : Nat), 101 - late < n_13 → (late ≤ g.1.1 7 2 + 1 ∧ (∀ q, q ≠ 69 → q ≠ 70 → M4 q = M q) ∧ (∀ q, q < 24 → gaT g.1 M4 q 8) ∧ (∀ w, h + 1 ≤ w → w ≤ 24 → mtR g.1 e M4 w) ∧ (∀ q, q < late → M4 70 (100 * h + q) = encR (bV g.1 e (24 - h) q))) → fm_G pq l eq (fm_rm 3 72 0 0) sq mq aq bq tq cq D cA b 7 (MQ bq (fm_Q D cA b LAY (fm_pm (fun r M' L' => r = Int32.ofInt (bVal g.1 e) ∧ rowIs M' 71 (bRow g.1 e) ∧ (∀ q, q ≠ 69 → q ≠ 70 → q ≠ 71 → M' q = M q) ∧ L' = L))) aq sq 0 0 (fun q => b ≤ q)) LAY M4 L 0 0 53 [(0, .ref (b + 58)), (1, .int (bi (e = true))), (2, .int (nI h)), (3, .int (nI late))] [] := by
                intro n_13
                induction n_13 with
                | zero => intro M4 late hm_13; exact absurd hm_13 (Nat.not_lt_zero _)
                | succ n_13 ih_13 =>
                  intro M4 late hm_13 hinv_13
                  obtain ⟨b1, b2, b3, b4, b5⟩ := hinv_13
                  have rr := b4
                  have gg := b3
                  have hS_4 : RS M4 L g := RS_scr hS (fun q x1 x2 x3 => b2 q (by omega) (by omega)) rfl
                  obtain ⟨⟨n1, n2, n3, v0, v1, v2, v3, v4, v5, v6, v7, v8⟩, hS2⟩ := id hS_4
                  refine g_iload_n hC dX7_findBest_53 rfl 3 rfl ?_
                  refine g_aload_n hC dX7_findBest_54 rfl 0 rfl ?_
                  refine g_getI (ci := 7) (i := 10) (k := 58) hC fm_in7 rfl ly_58 rfl (by decide) fw_630 dX7_findBest_55 ?_
                  refine g_top (y := nI (g.1.1 7 2)) v2 ?_
                  refine g_icmp_gt_T (X := ((late : Nat) : Int)) (Y := ((g.1.1 7 2 : Nat) : Int)) hC (nI_toInt (by omega)) (nI_toInt (by omega)) 197 dX7_findBest_58 rfl (fun c_14 => ?_) (fun c_14 => ?_)
                  · skip
                    refine g_iinc hC [(2, .int (nI h + (-1))), (0, .ref (b + 58)), (1, .int (bi (e = true))), (3, .int (nI late))] dX7_findBest_197 2 rfl (congrArg (fun z => nI h + z) (by decide : Int32.ofInt (-1) = (-1 : Int32))) (by decide) rfl ?_
                    refine g_goto hC 47 dX7_findBest_200 rfl ?_
                    exact g_sub [1, 2, 0] rfl (ih_4 M4 h (by omega) (⟨by omega, b2, b3, fun w w1 w2 => if ew : w = h then (by rw [ew]; intro q hq; exact b5 q (by omega)) else b4 w (by omega) w2⟩))
                  · skip
                    refine g_ldc (v := (-1000000000)) hC fw_900 dX7_findBest_61 ?_
                    refine g_istore hC [(4, .int (-1000000000)), (0, .ref (b + 58)), (1, .int (bi (e = true))), (2, .int (nI h)), (3, .int (nI late))] dX7_findBest_63 (by decide) rfl ?_
                    refine g_bipush (v := (-2)) hC dX7_findBest_65 rfl ?_
                    refine g_top (y := Int32.ofInt (((0 : Nat) : Int) - 2)) (by decide) ?_
                    refine g_istore hC [(5, .int (Int32.ofInt (((0 : Nat) : Int) - 2))), (4, .int (-1000000000)), (0, .ref (b + 58)), (1, .int (bi (e = true))), (2, .int (nI h)), (3, .int (nI late))] dX7_findBest_67 (by decide) rfl ?_
                    have lp_69_15 : ∀ (n_15 : Nat) (i : Nat), 8 - i < n_15 → (i ≤ 8 ∧ (i = 0 ∨ (late : Int) ≤ ((wtS g.1 h : Nat) : Int))) → fm_G pq l eq (fm_rm 3 72 0 0) sq mq aq bq tq cq D cA b 7 (MQ bq (fm_Q D cA b LAY (fm_pm (fun r M' L' => r = Int32.ofInt (bVal g.1 e) ∧ rowIs M' 71 (bRow g.1 e) ∧ (∀ q, q ≠ 69 → q ≠ 70 → q ≠ 71 → M' q = M q) ∧ L' = L))) aq sq 0 0 (fun q => b ≤ q)) LAY M4 L 0 0 69 [(0, .ref (b + 58)), (1, .int (bi (e = true))), (2, .int (nI h)), (3, .int (nI late)), (4, .int (encR (bestO (cand g.1 (bV g.1 e (23 - h)) h late) i))), (5, .int (Int32.ofInt ((i : Int) - 2)))] [] := by
                      intro n_15
                      induction n_15 with
                      | zero => intro i hm_15; exact absurd hm_15 (Nat.not_lt_zero _)
                      | succ n_15 ih_15 =>
                        intro i hm_15 hinv_15
                        obtain ⟨c1, c2⟩ := hinv_15
                        refine g_iload hC dX7_findBest_69 5 rfl ?_
                        refine g_iconst (v := 5) hC dX7_findBest_71 rfl ?_
                        refine g_icmp_gt_T (X := (i : Int) - 2) (Y := 5) hC (oI_t (by omega) (by omega)) rfl 178 dX7_findBest_72 rfl (fun c_16 => ?_) (fun c_16 => ?_)
                        · skip
                          refine g_aload_n hC dX7_findBest_178 rfl 0 rfl ?_
                          refine g_getR (ci := 7) (i := 24) (k := 58) (t := 70) hC fm_in7 rfl ly_58 rfl (by decide) fw_644 dX7_findBest_179 ?_
                          refine g_bipush (v := 100) hC dX7_findBest_182 rfl ?_
                          refine g_iload_n hC dX7_findBest_184 rfl 2 rfl ?_
                          refine g_imul hC dX7_findBest_185 ?_
                          refine g_top (y := nI (100 * h)) (pk_mul _ _) ?_
                          refine g_iload_n hC dX7_findBest_186 rfl 3 rfl ?_
                          refine g_iadd hC dX7_findBest_187 ?_
                          refine g_top (y := nI ((100 * h) + late)) (nI_add _ _) ?_
                          refine g_iload hC dX7_findBest_188 4 rfl ?_
                          have hbv : bV g.1 e (24 - h) late = if late ≤ mlS g.1 h then bestO (cand g.1 (bV g.1 e (23 - h)) h late) 8 else none := bV_s (by omega)
                          have wm := wtS_ml hok.1 h
                          refine g_top (y := encR (bV g.1 e (24 - h) late)) (by rw [hbv, if_pos (by omega), show i = 8 by omega]) ?_
                          refine g_iastN (j := (100 * h) + late) (k := 70) hC ly_70 rfl (by omega) (by decide) dX7_findBest_190 ?_
                          refine g_iinc hC [(3, .int (nI (late + 1))), (0, .ref (b + 58)), (1, .int (bi (e = true))), (2, .int (nI h)), (4, .int (encR (bestO (cand g.1 (bV g.1 e (23 - h)) h late) i))), (5, .int (Int32.ofInt ((i : Int) - 2)))] dX7_findBest_191 3 rfl (by rw [show Int32.ofInt 1 = nI 1 from rfl, nI_add]) (by decide) rfl ?_
                          refine g_goto hC 53 dX7_findBest_194 rfl ?_
                          exact g_sub [1, 2, 3, 0] rfl (ih_13 (fm_up M4 70 ((100 * h) + late) (encR (bV g.1 e (24 - h) late))) (late + 1) (by omega) (⟨by omega, fun q q1 q2 => by rw [fm_upn q2]; exact b2 q q1 q2, fun q hq v hv => by rw [fm_upn (by omega)]; exact b3 q hq v hv, fun w w1 w2 => mr_keep (by omega) (b4 w w1 w2) (by omega), fun q hq => by rw [fm_upv]; by_cases ee : q = late; rw [if_pos (by omega), ee]; rw [if_neg (by omega)]; exact b5 q (by omega)⟩))
                        · skip
                          refine g_aload_n hC dX7_findBest_75 rfl 0 rfl ?_
                          refine g_iload_n hC dX7_findBest_76 rfl 2 rfl ?_
                          refine g_iload_n hC dX7_findBest_77 rfl 3 rfl ?_
                          refine g_callV hC (k := 58) (ci := 7) (as := [.int (nI h), .int (nI late)]) (rest := []) (c_X7_areCaught l D cA b M4 L g h (nI late) ((late : Nat) : Int) hS_4 hok (by omega) (nI_toInt (by omega)) (by omega)) ⟨fw_873, fw_875, fs_29, fw_9, fw_876⟩ ⟨rfl, hd_X7_areCaught⟩ rfl ly_58 ⟨Nat.le_of_ble_eq_true rfl, Nat.le_of_ble_eq_true rfl⟩ ⟨Nat.le_of_ble_eq_true rfl, Nat.le_of_ble_eq_true rfl⟩ rfl rfl (Nat.le_of_ble_eq_true rfl) dX7_findBest_78 (g_rix ?_)
                          refine g_ifb_eq hC 178 dX7_findBest_81 rfl (fun c_18 => ?_) (fun c_18 => ?_)
                          · skip
                            refine g_aload_n hC dX7_findBest_178 rfl 0 rfl ?_
                            refine g_getR (ci := 7) (i := 24) (k := 58) (t := 70) hC fm_in7 rfl ly_58 rfl (by decide) fw_644 dX7_findBest_179 ?_
                            refine g_bipush (v := 100) hC dX7_findBest_182 rfl ?_
                            refine g_iload_n hC dX7_findBest_184 rfl 2 rfl ?_
                            refine g_imul hC dX7_findBest_185 ?_
                            refine g_top (y := nI (100 * h)) (pk_mul _ _) ?_
                            refine g_iload_n hC dX7_findBest_186 rfl 3 rfl ?_
                            refine g_iadd hC dX7_findBest_187 ?_
                            refine g_top (y := nI ((100 * h) + late)) (nI_add _ _) ?_
                            refine g_iload hC dX7_findBest_188 4 rfl ?_
                            have hbv : bV g.1 e (24 - h) late = if late ≤ mlS g.1 h then bestO (cand g.1 (bV g.1 e (23 - h)) h late) 8 else none := bV_s (by omega)
                            have wm := wtS_ml hok.1 h
                            refine g_top (y := encR (bV g.1 e (24 - h) late)) (by rw [hbv, if_neg (by omega), show i = 0 by omega]; rfl) ?_
                            refine g_iastN (j := (100 * h) + late) (k := 70) hC ly_70 rfl (by omega) (by decide) dX7_findBest_190 ?_
                            refine g_iinc hC [(3, .int (nI (late + 1))), (0, .ref (b + 58)), (1, .int (bi (e = true))), (2, .int (nI h)), (4, .int (encR (bestO (cand g.1 (bV g.1 e (23 - h)) h late) i))), (5, .int (Int32.ofInt ((i : Int) - 2)))] dX7_findBest_191 3 rfl (by rw [show Int32.ofInt 1 = nI 1 from rfl, nI_add]) (by decide) rfl ?_
                            refine g_goto hC 53 dX7_findBest_194 rfl ?_
                            exact g_sub [1, 2, 3, 0] rfl (ih_13 (fm_up M4 70 ((100 * h) + late) (encR (bV g.1 e (24 - h) late))) (late + 1) (by omega) (⟨by omega, fun q q1 q2 => by rw [fm_upn q2]; exact b2 q q1 q2, fun q hq v hv => by rw [fm_upn (by omega)]; exact b3 q hq v hv, fun w w1 w2 => mr_keep (by omega) (b4 w w1 w2) (by omega), fun q hq => by rw [fm_upv]; by_cases ee : q = late; rw [if_pos (by omega), ee]; rw [if_neg (by omega)]; exact b5 q (by omega)⟩))
                          · skip
                            refine g_iload_n hC dX7_findBest_84 rfl 3 rfl ?_
                            refine g_iload hC dX7_findBest_85 5 rfl ?_
                            refine g_iadd hC dX7_findBest_87 ?_
                            refine g_top (y := Int32.ofInt ((late : Int) + ((i : Int) - 2))) (lo_a _ _) ?_
                            refine g_i2l (v := (Int32.ofInt ((late : Int) + ((i : Int) - 2))).toInt64) hC dX7_findBest_88 rfl ?_
                            refine g_lconst (v := 0) hC dX7_findBest_89 rfl ?_
                            refine g_aload_n hC dX7_findBest_90 rfl 0 rfl ?_
                            refine g_getI (ci := 7) (i := 10) (k := 58) hC fm_in7 rfl ly_58 rfl (by decide) fw_630 dX7_findBest_91 ?_
                            refine g_top (y := nI (g.1.1 7 2)) v2 ?_
                            refine g_i2l (v := (nI (g.1.1 7 2)).toInt64) hC dX7_findBest_94 rfl ?_
                            refine g_callS hC (as := [.long ((Int32.ofInt ((late : Int) + ((i : Int) - 2))).toInt64), .long 0, .long ((nI (g.1.1 7 2)).toInt64)]) (rest := []) (c_X7_in l D cA b LAY M4 L ((Int32.ofInt ((late : Int) + ((i : Int) - 2))).toInt64) 0 ((nI (g.1.1 7 2)).toInt64) ((late : Int) + ((i : Int) - 2)) 0 ((g.1.1 7 2 : Nat) : Int) ((ic_w _).trans (oI_t (by omega) (by omega))) rfl ((ic_w _).trans (nI_toInt (by omega)))) ⟨fw_725, fw_726, fw_9, fw_727⟩ hd_X7_in ⟨Nat.le_of_ble_eq_true rfl, Nat.le_of_ble_eq_true rfl⟩ ⟨Nat.le_of_ble_eq_true rfl, Nat.le_of_ble_eq_true rfl⟩ rfl rfl (Nat.le_of_ble_eq_true rfl) dX7_findBest_95 (g_rix ?_)
                            refine g_ifb_eq hC 172 dX7_findBest_98 rfl (fun c_20 => ?_) (fun c_20 => ?_)
                            · skip
                              rw [best_none (t := g.1) (e := e) (k := 23 - h) (h := h) (late := late) (i := i) (cand_nr (by omega))]
                              refine g_iinc hC [(5, .int (Int32.ofInt (((i + 1 : Nat) : Int) - 2))), (0, .ref (b + 58)), (1, .int (bi (e = true))), (2, .int (nI h)), (3, .int (nI late)), (4, .int (encR (bestO (cand g.1 (bV g.1 e (23 - h)) h late) (i + 1))))] dX7_findBest_172 5 rfl (iv_1 i) (by decide) rfl ?_
                              refine g_goto hC 69 dX7_findBest_175 rfl ?_
                              exact g_sub [1, 2, 3, 4, 5, 0] rfl (ih_15 (i + 1) (by omega) (⟨by omega, by omega⟩))
                            · skip
                              refine g_aload_n hC dX7_findBest_101 rfl 0 rfl ?_
                              refine g_getR (ci := 7) (i := 24) (k := 58) (t := 70) hC fm_in7 rfl ly_58 rfl (by decide) fw_644 dX7_findBest_102 ?_
                              refine g_bipush (v := 100) hC dX7_findBest_105 rfl ?_
                              refine g_iload_n hC dX7_findBest_107 rfl 2 rfl ?_
                              refine g_iconst (v := 1) hC dX7_findBest_108 rfl ?_
                              refine g_iadd hC dX7_findBest_109 ?_
                              refine g_top (y := nI (h + 1)) (nI_add _ _) ?_
                              refine g_imul hC dX7_findBest_110 ?_
                              refine g_top (y := nI (100 * (h + 1))) (pk_mul _ _) ?_
                              refine g_iload_n hC dX7_findBest_111 rfl 3 rfl ?_
                              refine g_iadd hC dX7_findBest_112 ?_
                              refine g_top (y := nI ((100 * (h + 1)) + late)) (nI_add _ _) ?_
                              refine g_iload hC dX7_findBest_113 5 rfl ?_
                              refine g_iadd hC dX7_findBest_115 ?_
                              refine g_top (y := nI (100 * (h + 1) + (late + i - 2))) (ix2 (by omega)) ?_
                              refine g_ialdN (j := 100 * (h + 1) + (late + i - 2)) (k := 70) hC ly_70 rfl (by omega) (by decide) dX7_findBest_116 ?_
                              refine g_top (y := encR (bV g.1 e (23 - h) (late + i - 2))) (by rw [rr (h + 1) (by omega) (by omega) _ (by omega), show 24 - (h + 1) = 23 - h by omega]) ?_
                              refine g_ldc (v := (-1000000000)) hC fw_900 dX7_findBest_117 ?_
                              refine g_icmp_le_T (X := (encR (bV g.1 e (23 - h) (late + i - 2))).toInt) (Y := (-1000000000)) hC rfl rfl 172 dX7_findBest_119 rfl (fun c_21 => ?_) (fun c_21 => ?_)
                              · skip
                                rw [best_none (t := g.1) (e := e) (k := 23 - h) (h := h) (late := late) (i := i) (cand_nn ((encR_n (sm_bV hok.1 (by omega))).mp (by have := encR_lo (sm_bV hok.1 (e := e) (show 23 - h ≤ 24 by omega) (late := late + i - 2)); omega)))]
                                refine g_iinc hC [(5, .int (Int32.ofInt (((i + 1 : Nat) : Int) - 2))), (0, .ref (b + 58)), (1, .int (bi (e = true))), (2, .int (nI h)), (3, .int (nI late)), (4, .int (encR (bestO (cand g.1 (bV g.1 e (23 - h)) h late) (i + 1))))] dX7_findBest_172 5 rfl (iv_1 i) (by decide) rfl ?_
                                refine g_goto hC 69 dX7_findBest_175 rfl ?_
                                exact g_sub [1, 2, 3, 4, 5, 0] rfl (ih_15 (i + 1) (by omega) (⟨by omega, by omega⟩))
                              · skip
                                have hal : bV g.1 e (23 - h) (late + i - 2) ≠ none := fun q => by rw [q] at c_21; exact absurd c_21 (by decide)
                                refine g_aload_n hC dX7_findBest_122 rfl 0 rfl ?_
                                refine g_getR (ci := 7) (i := 23) (k := 58) (t := 69) hC fm_in7 rfl ly_58 rfl (by decide) fw_643 dX7_findBest_123 ?_
                                refine g_bipush (v := 8) hC dX7_findBest_126 rfl ?_
                                refine g_iload_n hC dX7_findBest_128 rfl 2 rfl ?_
                                refine g_imul hC dX7_findBest_129 ?_
                                refine g_top (y := nI (8 * h)) (pk_mul _ _) ?_
                                refine g_iload hC dX7_findBest_130 5 rfl ?_
                                refine g_iadd hC dX7_findBest_132 ?_
                                refine g_bipush (v := (-2)) hC dX7_findBest_133 rfl ?_
                                refine g_isub hC dX7_findBest_135 ?_
                                refine g_top (y := nI (8 * h + i)) (ix_row2 _ _) ?_
                                refine g_ialdN (j := 8 * h + i) (k := 69) hC ly_69 rfl (by omega) (by decide) dX7_findBest_136 ?_
                                refine g_top (y := Int32.ofInt (gA g.1 h ((i : Int) - 2))) (gg h (by omega) i (by omega)) ?_
                                refine g_aload_n hC dX7_findBest_137 rfl 0 rfl ?_
                                refine g_getR (ci := 7) (i := 24) (k := 58) (t := 70) hC fm_in7 rfl ly_58 rfl (by decide) fw_644 dX7_findBest_138 ?_
                                refine g_bipush (v := 100) hC dX7_findBest_141 rfl ?_
                                refine g_iload_n hC dX7_findBest_143 rfl 2 rfl ?_
                                refine g_iconst (v := 1) hC dX7_findBest_144 rfl ?_
                                refine g_iadd hC dX7_findBest_145 ?_
                                refine g_top (y := nI (h + 1)) (nI_add _ _) ?_
                                refine g_imul hC dX7_findBest_146 ?_
                                refine g_top (y := nI (100 * (h + 1))) (pk_mul _ _) ?_
                                refine g_iload_n hC dX7_findBest_147 rfl 3 rfl ?_
                                refine g_iadd hC dX7_findBest_148 ?_
                                refine g_top (y := nI ((100 * (h + 1)) + late)) (nI_add _ _) ?_
                                refine g_iload hC dX7_findBest_149 5 rfl ?_
                                refine g_iadd hC dX7_findBest_151 ?_
                                refine g_top (y := nI (100 * (h + 1) + (late + i - 2))) (ix2 (by omega)) ?_
                                refine g_ialdN (j := 100 * (h + 1) + (late + i - 2)) (k := 70) hC ly_70 rfl (by omega) (by decide) dX7_findBest_152 ?_
                                refine g_top (y := encR (bV g.1 e (23 - h) (late + i - 2))) (by rw [rr (h + 1) (by omega) (by omega) _ (by omega), show 24 - (h + 1) = 23 - h by omega]) ?_
                                refine g_iadd hC dX7_findBest_153 ?_
                                refine g_top (y := encR (cand g.1 (bV g.1 e (23 - h)) h late i)) (cand_sm (by omega) hal) ?_
                                refine g_istore hC [(6, .int (encR (cand g.1 (bV g.1 e (23 - h)) h late i))), (0, .ref (b + 58)), (1, .int (bi (e = true))), (2, .int (nI h)), (3, .int (nI late)), (4, .int (encR (bestO (cand g.1 (bV g.1 e (23 - h)) h late) i))), (5, .int (Int32.ofInt ((i : Int) - 2)))] dX7_findBest_154 (by decide) rfl ?_
                                refine g_iload hC dX7_findBest_156 0 rfl ?_
                                refine g_iload hC dX7_findBest_158 5 rfl ?_
                                refine g_icmp_le_T (X := (encR (cand g.1 (bV g.1 e (23 - h)) h late i)).toInt) (Y := (encR (bestO (cand g.1 (bV g.1 e (23 - h)) h late) i)).toInt) hC rfl rfl 168 dX7_findBest_160 rfl (fun c_22 => ?_) (fun c_22 => ?_)
                                · skip
                                  refine g_iload hC dX7_findBest_168 5 rfl ?_
                                  refine g_top (y := encR (bestO (cand g.1 (bV g.1 e (23 - h)) h late) (i + 1))) (encR_mx2 (sm_best hok.1 (by omega) (by omega) (by omega)) (sm_cand hok.1 (by omega) (by omega) (by omega)) c_22) ?_
                                  refine g_istore hC [(4, .int (encR (bestO (cand g.1 (bV g.1 e (23 - h)) h late) (i + 1)))), (6, .int (encR (cand g.1 (bV g.1 e (23 - h)) h late i))), (0, .ref (b + 58)), (1, .int (bi (e = true))), (2, .int (nI h)), (3, .int (nI late)), (5, .int (Int32.ofInt ((i : Int) - 2)))] dX7_findBest_170 (by decide) rfl ?_
                                  refine g_iinc hC [(5, .int (Int32.ofInt (((i + 1 : Nat) : Int) - 2))), (4, .int (encR (bestO (cand g.1 (bV g.1 e (23 - h)) h late) (i + 1)))), (6, .int (encR (cand g.1 (bV g.1 e (23 - h)) h late i))), (0, .ref (b + 58)), (1, .int (bi (e = true))), (2, .int (nI h)), (3, .int (nI late))] dX7_findBest_172 6 rfl (iv_1 i) (by decide) rfl ?_
                                  refine g_goto hC 69 dX7_findBest_175 rfl ?_
                                  exact g_sub [3, 4, 5, 6, 1, 0] rfl (ih_15 (i + 1) (by omega) (⟨by omega, by omega⟩))
                                · skip
                                  refine g_iload hC dX7_findBest_163 0 rfl ?_
                                  refine g_goto hC 170 dX7_findBest_165 rfl ?_
                                  refine g_top (y := encR (bestO (cand g.1 (bV g.1 e (23 - h)) h late) (i + 1))) (encR_mx1 (sm_best hok.1 (by omega) (by omega) (by omega)) (sm_cand hok.1 (by omega) (by omega) (by omega)) c_22) ?_
                                  refine g_istore hC [(4, .int (encR (bestO (cand g.1 (bV g.1 e (23 - h)) h late) (i + 1)))), (6, .int (encR (cand g.1 (bV g.1 e (23 - h)) h late i))), (0, .ref (b + 58)), (1, .int (bi (e = true))), (2, .int (nI h)), (3, .int (nI late)), (5, .int (Int32.ofInt ((i : Int) - 2)))] dX7_findBest_170 (by decide) rfl ?_
                                  refine g_iinc hC [(5, .int (Int32.ofInt (((i + 1 : Nat) : Int) - 2))), (4, .int (encR (bestO (cand g.1 (bV g.1 e (23 - h)) h late) (i + 1)))), (6, .int (encR (cand g.1 (bV g.1 e (23 - h)) h late i))), (0, .ref (b + 58)), (1, .int (bi (e = true))), (2, .int (nI h)), (3, .int (nI late))] dX7_findBest_172 6 rfl (iv_1 i) (by decide) rfl ?_
                                  refine g_goto hC 69 dX7_findBest_175 rfl ?_
                                  exact g_sub [3, 4, 5, 6, 1, 0] rfl (ih_15 (i + 1) (by omega) (⟨by omega, by omega⟩))
                    exact g_sub [2, 3, 4, 5, 1, 0] rfl (lp_69_15 (8 - 0 + 1) 0 (Nat.lt_succ_self _) (⟨by omega, Or.inl rfl⟩))
              exact g_sub [1, 2, 3, 0] rfl (lp_53_13 (101 - 0 + 1) M3 0 (Nat.lt_succ_self _) (⟨by omega, a2, a3, a4, fun q hq => by omega⟩))
        exact g_sub [1, 2, 0] rfl (lp_47_4 (24 + 1) M2 24 (Nat.lt_succ_self _) (⟨by omega, fun q q1 q2 => by rw [m2 q q2]; exact f1 q q1, fun q hq v hv => by rw [m2 69 (by omega)]; exact f3 q hq v hv, fun h h1 h2 q hq => by rw [show h = 24 by omega]; exact m3 q (by omega)⟩))
      · skip
        refine g_aload_n hC dX7_findBest_14 rfl 0 rfl ?_
        refine g_getR (ci := 7) (i := 24) (k := 58) (t := 70) hC fm_in7 rfl ly_58 rfl (by decide) fw_644 dX7_findBest_15 ?_
        refine g_sipush (v := 2400) hC dX7_findBest_18 rfl ?_
        refine g_iload_n hC dX7_findBest_21 rfl 2 rfl ?_
        refine g_iadd hC dX7_findBest_22 ?_
        refine g_top (y := nI (2400 + late)) (nI_add _ _) ?_
        refine g_iload_n hC dX7_findBest_23 rfl 1 rfl ?_
        refine g_ifb_eq hC 31 dX7_findBest_24 rfl (fun c_23 => ?_) (fun c_23 => ?_)
        · skip
          refine g_iconst (v := 0) hC dX7_findBest_31 rfl ?_
          refine g_goto hC 37 dX7_findBest_32 rfl ?_
          refine g_top (y := encR (bV g.1 e 0 late)) (by rw [show bV g.1 e 0 late = some 0 from if_pos ⟨by omega, by first | exact Or.inl (by simpa using c_23) | exact Or.inr (by omega)⟩]; rfl) ?_
          refine g_iastN (j := 2400 + late) (k := 70) hC ly_70 rfl (by omega) (by decide) dX7_findBest_37 ?_
          refine g_iinc hC [(2, .int (nI (late + 1))), (0, .ref (b + 58)), (1, .int (bi (e = true)))] dX7_findBest_38 2 rfl (by rw [show Int32.ofInt 1 = nI 1 from rfl, nI_add]) (by decide) rfl ?_
          refine g_goto hC 6 dX7_findBest_41 rfl ?_
          exact g_sub [1, 2, 0] rfl (ih_2 (fm_up M2 70 (2400 + late) (encR (bV g.1 e 0 late))) (late + 1) (by omega) (⟨by omega, fun q hq => by rw [fm_upn hq]; exact m2 q hq, fun q hq => by rw [fm_upv]; by_cases ee : q = late; rw [if_pos (by omega), ee]; rw [if_neg (by omega)]; exact m3 q (by omega)⟩))
        · skip
          refine g_iload_n hC dX7_findBest_27 rfl 2 rfl ?_
          refine g_if_ne_T (X := ((late : Nat) : Int)) hC (nI_toInt (by omega)) 35 dX7_findBest_28 rfl (fun c_24 => ?_) (fun c_24 => ?_)
          · skip
            refine g_ldc (v := (-1000000000)) hC fw_900 dX7_findBest_35 ?_
            refine g_top (y := encR (bV g.1 e 0 late)) (by rw [show bV g.1 e 0 late = none from if_neg (fun q => q.2.elim (fun z => Bool.noConfusion (c_23.symm.trans z)) (fun z => by omega))]; rfl) ?_
            refine g_iastN (j := 2400 + late) (k := 70) hC ly_70 rfl (by omega) (by decide) dX7_findBest_37 ?_
            refine g_iinc hC [(2, .int (nI (late + 1))), (0, .ref (b + 58)), (1, .int (bi (e = true)))] dX7_findBest_38 2 rfl (by rw [show Int32.ofInt 1 = nI 1 from rfl, nI_add]) (by decide) rfl ?_
            refine g_goto hC 6 dX7_findBest_41 rfl ?_
            exact g_sub [1, 2, 0] rfl (ih_2 (fm_up M2 70 (2400 + late) (encR (bV g.1 e 0 late))) (late + 1) (by omega) (⟨by omega, fun q hq => by rw [fm_upn hq]; exact m2 q hq, fun q hq => by rw [fm_upv]; by_cases ee : q = late; rw [if_pos (by omega), ee]; rw [if_neg (by omega)]; exact m3 q (by omega)⟩))
          · skip
            refine g_iconst (v := 0) hC dX7_findBest_31 rfl ?_
            refine g_goto hC 37 dX7_findBest_32 rfl ?_
            refine g_top (y := encR (bV g.1 e 0 late)) (by rw [show bV g.1 e 0 late = some 0 from if_pos ⟨by omega, by first | exact Or.inl (by simpa using c_24) | exact Or.inr (by omega)⟩]; rfl) ?_
            refine g_iastN (j := 2400 + late) (k := 70) hC ly_70 rfl (by omega) (by decide) dX7_findBest_37 ?_
            refine g_iinc hC [(2, .int (nI (late + 1))), (0, .ref (b + 58)), (1, .int (bi (e = true)))] dX7_findBest_38 2 rfl (by rw [show Int32.ofInt 1 = nI 1 from rfl, nI_add]) (by decide) rfl ?_
            refine g_goto hC 6 dX7_findBest_41 rfl ?_
            exact g_sub [1, 2, 0] rfl (ih_2 (fm_up M2 70 (2400 + late) (encR (bV g.1 e 0 late))) (late + 1) (by omega) (⟨by omega, fun q hq => by rw [fm_upn hq]; exact m2 q hq, fun q hq => by rw [fm_upv]; by_cases ee : q = late; rw [if_pos (by omega), ee]; rw [if_neg (by omega)]; exact m3 q (by omega)⟩))
  exact g_sub [1, 2, 0] rfl (lp_6_2 (101 - 0 + 1) M_1 0 (Nat.lt_succ_self _) (⟨by omega, fun q _ => rfl, fun q hq => by omega⟩))
