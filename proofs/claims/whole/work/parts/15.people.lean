/-! ===== the calls on people, trains, numbers: what each answers, and the state behind it ===== -/
theorem g_top2 {p : Program} {l : Launch} {e : Env} {R : Room} {s : State} {m : MethodId} {args : Array Value} {below : List Frame} {meth : Method} {c : Code} {Q : State → Prop} {D : va_G} {cA : Nat → ClassId} {b nL : Nat} {lay : List fm_E} {M : Nat → Nat → Int32} {L : Nat → Nat → Int64} {cells slots pc : Nat} {lv : List (Nat × Value)} {st : List Value} {v : Value} {x y : Int32} (h : x = y) (kk : fm_G p l e R s m args below meth c D cA b nL Q lay M L cells slots pc lv (v :: .int y :: st)) : fm_G p l e R s m args below meth c D cA b nL Q lay M L cells slots pc lv (v :: .int x :: st) := by subst h; exact kk
def op_person (g : Sg) (k h w : Int32) : Int32 × Sg := if (0 ≤ k.toInt ∧ k.toInt ≤ 3) ∧ (0 ≤ h.toInt ∧ h.toInt < 24) ∧ (0 ≤ w.toInt ∧ w.toInt ≤ 99) then (if g.1.1 7 0 < 8 then (nI (g.1.1 7 0), ((uN2 (uN2 (uN2 (uN2 (uN2 g.1.1 0 (g.1.1 7 0) k.toInt.toNat) 1 (g.1.1 7 0) h.toInt.toNat) 2 (g.1.1 7 0) w.toInt.toNat) 3 (g.1.1 7 0) 1) 7 0 (g.1.1 7 0 + 1), g.1.2), g.2)) else (-3, g)) else (-1, g)
def op_may (g : Sg) (x i : Int32) : Int32 × Sg := if (0 ≤ x.toInt ∧ x.toInt < g.1.1 7 0) ∧ (0 ≤ i.toInt ∧ i.toInt ≤ 1) then (nI (g.1.1 3 x.toInt.toNat), ((uN2 g.1.1 3 x.toInt.toNat i.toInt.toNat, g.1.2), g.2)) else (-1, g)
def op_told (g : Sg) (x i : Int32) : Int32 := if (0 ≤ x.toInt ∧ x.toInt < g.1.1 7 0) ∧ (0 ≤ i.toInt ∧ i.toInt ≤ 3) then nI (g.1.1 i.toInt.toNat x.toInt.toNat) else -1
def woN (t : Tn) (j hour k : Nat) : Nat := wN (t.1 0 j) (t.1 1 j) (t.1 2 j) hour k
def op_worth (g : Sg) (x h k : Int32) : Int32 := if (0 ≤ x.toInt ∧ x.toInt < g.1.1 7 0) ∧ (0 ≤ h.toInt ∧ h.toInt < 24) ∧ (0 ≤ k.toInt ∧ k.toInt ≤ 4) then nI (woN g.1 x.toInt.toNat h.toInt.toNat k.toInt.toNat) else -1
def op_train (g : Sg) (h w : Int32) : Int32 × Sg := if (0 ≤ h.toInt ∧ h.toInt < 24) ∧ (0 ≤ w.toInt ∧ w.toInt ≤ 99) then (if g.1.1 7 1 < 6 then (nI (g.1.1 7 1), ((uN2 (uN2 (uN2 g.1.1 4 (g.1.1 7 1) h.toInt.toNat) 5 (g.1.1 7 1) w.toInt.toNat) 7 1 (g.1.1 7 1 + 1), g.1.2), g.2)) else (-3, g)) else (-1, g)
def op_strike (g : Sg) : Int32 × Sg := if g.1.1 7 1 = 0 then (-4, g) else (nI (g.1.1 7 1 - 1), ((uN2 g.1.1 7 1 (g.1.1 7 1 - 1), g.1.2), g.2))
def mostS (w : Int) : Int := if w = 0 then 99 else if w = 1 then 60 else if w = 2 then 60 else if w = 3 then 20 else -1
def op_set (g : Sg) (w v : Int32) : Int32 × Sg := if 0 ≤ v.toInt ∧ v.toInt ≤ mostS w.toInt then (nI (g.1.1 7 (2 + w.toInt.toNat)), ((uN2 g.1.1 7 (2 + w.toInt.toNat) v.toInt.toNat, g.1.2), g.2)) else (-1, g)
def op_loss (g : Sg) (h v : Int32) : Int32 × Sg := if (0 ≤ h.toInt ∧ h.toInt < 24) ∧ (0 ≤ v.toInt ∧ v.toInt ≤ 99) then (nI (g.1.1 6 h.toInt.toNat), ((uN2 g.1.1 6 h.toInt.toNat v.toInt.toNat, g.1.2), g.2)) else (-1, g)
def op_lay (g : Sg) (h v : Int32) : Int32 × Sg := if (0 ≤ h.toInt ∧ h.toInt < 24) ∧ (-2 ≤ v.toInt ∧ v.toInt ≤ 5) then (Int32.ofInt (g.1.2.1 h.toInt.toNat), ((g.1.1, uP g.1.2.1 h.toInt.toNat v.toInt, g.1.2.2), g.2)) else (-100000001, g)
def op_is (g : Sg) (w : Int32) : Int32 := if w.toInt = 0 then nI (g.1.1 7 2) else if w.toInt = 1 then nI (g.1.1 7 3) else if w.toInt = 2 then nI (g.1.1 7 4) else if w.toInt = 3 then nI (g.1.1 7 5) else if w.toInt = 4 then nI (g.1.1 7 0) else if w.toInt = 5 then nI (g.1.1 7 1) else if w.toInt = 6 then nI (g.1.1 7 6) else if w.toInt = 7 then g.1.2.2 else -100000001
def op_seed (g : Sg) (v : Int32) : Int32 × Sg := if v.toInt < 0 then (-1, g) else (nI (g.1.1 7 7), ((uN2 g.1.1 7 7 v.toInt.toNat, g.1.2), g.2))
def chN (t : Tn) (j : Nat) : Int32 := favN (t.1 0 j) (t.1 1 j) (t.1 2 j) (t.1 3 j)
def op_choice (g : Sg) (x : Int32) : Int32 := if 0 ≤ x.toInt ∧ x.toInt < g.1.1 7 0 then chN g.1 x.toInt.toNat else -1
theorem mostS_3 {w : Int} (h : 0 ≤ mostS w) (h0 : ¬ w = 0) (h1 : ¬ w = 1) (h2 : ¬ w = 2) : w = 3 := by
  unfold mostS at h
  rw [if_neg h0, if_neg h1, if_neg h2] at h
  by_cases h3 : w = 3
  · exact h3
  · rw [if_neg h3] at h; omega
theorem be_n {M : Nat → Nat → Int32} {c j : Nat} {k h w m : Int32} (q : j ≠ c) : be M c k h w m j = M j := by
  unfold be; rw [fm_upn q, fm_upn q, fm_upn q, fm_upn q]
theorem be_0 {M : Nat → Nat → Int32} {c : Nat} {k h w m : Int32} : be M c k h w m c 0 = k := by unfold be; rw [fm_upx (by omega), fm_upx (by omega), fm_upx (by omega), fm_ups]
theorem be_1 {M : Nat → Nat → Int32} {c : Nat} {k h w m : Int32} : be M c k h w m c 1 = h := by unfold be; rw [fm_upx (by omega), fm_upx (by omega), fm_ups]
theorem be_2 {M : Nat → Nat → Int32} {c : Nat} {k h w m : Int32} : be M c k h w m c 2 = w := by unfold be; rw [fm_upx (by omega), fm_ups]
theorem be_3 {M : Nat → Nat → Int32} {c : Nat} {k h w m : Int32} : be M c k h w m c 3 = m := by unfold be; rw [fm_ups]
theorem tC_person {M : Nat → Nat → Int32} {t : Tn} (h : tC M 1 t) (hp : t.1 7 0 < 8) {k o w : Int32} (hk : 0 ≤ k.toInt) (ho : 0 ≤ o.toInt) (hw : 0 ≤ w.toInt) : tC (fm_up (be M (7 + t.1 7 0) k o w 1) 1 1 (nI (t.1 7 0 + 1))) 1 (uN2 (uN2 (uN2 (uN2 (uN2 t.1 0 (t.1 7 0) k.toInt.toNat) 1 (t.1 7 0) o.toInt.toNat) 2 (t.1 7 0) w.toInt.toNat) 3 (t.1 7 0) 1) 7 0 (t.1 7 0 + 1), t.2) := by
  obtain ⟨h1, h2, h3, v0, v1, v2, v3, v4, v5, v6, v7, v8⟩ := h
  refine ⟨fun j hj => ?_, fun j hj => ?_, fun q hq => ?_, fm_ups, ?_, ?_, ?_, ?_, ?_, ?_, ?_, ?_⟩
  · rw [fm_upn (by omega)]
    by_cases e : j = t.1 7 0
    · subst e
      have e7 : 1 + 6 + t.1 7 0 = 7 + t.1 7 0 := by omega
      rw [e7, be_0, be_1, be_2, be_3]
      exact ⟨(ic_nI hk).trans (congrArg nI (by simp [uN2])), (ic_nI ho).trans (congrArg nI (by simp [uN2])), (ic_nI hw).trans (congrArg nI (by simp [uN2])), congrArg nI (by simp [uN2])⟩
    · have hj2 : j < t.1 7 0 := by
        have hj3 : j < t.1 7 0 + 1 := by simpa [uN2] using hj
        omega
      rw [be_n (by omega)]
      have := h1 j hj2
      simp only [uN2] at *
      simp [e]
      exact this
  · rw [fm_upn (by omega), fm_upn (by omega), be_n (by omega), be_n (by omega)]
    have := h2 j (by simpa [uN2] using hj)
    simp [uN2]; exact this
  · rw [fm_upn (by omega), fm_upn (by omega), be_n (by omega), be_n (by omega)]
    have := h3 q hq
    simp [uN2]; exact this
  all_goals rw [fm_upx (by omega), be_n (by omega)]
  all_goals simp [uN2]
  all_goals assumption
theorem tC_may {M : Nat → Nat → Int32} {t : Tn} (h : tC M 1 t) {j0 v : Nat} (hj0 : j0 < t.1 7 0) : tC (fm_up M (7 + j0) 3 (nI v)) 1 (uN2 t.1 3 j0 v, t.2) := by
  obtain ⟨h1, h2, h3, h4⟩ := h
  refine ⟨fun j hj => ?_, fun j hj => ?_, fun q hq => ?_, ?_⟩
  · have hj2 : j < t.1 7 0 := by simpa [uN2] using hj
    have h9 := h1 j hj2
    by_cases e : j = j0
    · subst e
      have e7 : 1 + 6 + j = 7 + j := by omega
      rw [e7] at h9 ⊢
      rw [fm_upx (by omega), fm_upx (by omega), fm_upx (by omega), fm_ups]
      simp [uN2]
      exact ⟨h9.1, h9.2.1, h9.2.2.1⟩
    · rw [fm_upn (by omega)]
      simp [uN2, e]
      exact h9
  · rw [fm_upn (by omega), fm_upn (by omega)]
    simpa [uN2] using h2 j (by simpa [uN2] using hj)
  · rw [fm_upn (by omega), fm_upn (by omega)]
    simpa [uN2] using h3 q hq
  · rw [fm_upn (by omega)]
    simpa [uN2] using h4
theorem tC_train {M : Nat → Nat → Int32} {t : Tn} (h : tC M 1 t) (ht : t.1 7 1 < 6) (hp : t.1 7 0 ≤ 8) {o w : Int32} (ho : 0 ≤ o.toInt) (hw : 0 ≤ w.toInt) : tC (fm_up (fm_up (fm_up M 3 (t.1 7 1) o) 4 (t.1 7 1) w) 1 4 (nI (t.1 7 1 + 1))) 1 (uN2 (uN2 (uN2 t.1 4 (t.1 7 1) o.toInt.toNat) 5 (t.1 7 1) w.toInt.toNat) 7 1 (t.1 7 1 + 1), t.2) := by
  obtain ⟨h1, h2, h3, v0, v1, v2, v3, v4, v5, v6, v7, v8⟩ := h
  refine ⟨fun j hj => ?_, fun j hj => ?_, fun q hq => ?_, ?_, fm_ups, ?_, ?_, ?_, ?_, ?_, ?_, ?_⟩
  · rw [fm_upn (by omega), fm_upn (by omega), fm_upn (by omega)]
    simpa [uN2] using h1 j (by simpa [uN2] using hj)
  · show fm_up (fm_up (fm_up M 3 (t.1 7 1) o) 4 (t.1 7 1) w) 1 4 (nI (t.1 7 1 + 1)) 3 j = _ ∧ fm_up (fm_up (fm_up M 3 (t.1 7 1) o) 4 (t.1 7 1) w) 1 4 (nI (t.1 7 1 + 1)) 4 j = _
    rw [fm_upn (by omega), fm_upn (by omega), fm_upn (j := 4) (by omega)]
    by_cases e : j = t.1 7 1
    · subst e
      rw [fm_ups, fm_ups]
      exact ⟨(ic_nI ho).trans (congrArg nI (by simp [uN2])), (ic_nI hw).trans (congrArg nI (by simp [uN2]))⟩
    · have hj3 : j < t.1 7 1 + 1 := by simpa [uN2] using hj
      rw [fm_upx e, fm_upx e, fm_upn (j := 4) (by omega)]
      have h9 := h2 j (by omega)
      simp [uN2, e]
      exact h9
  · rw [fm_upn (by omega), fm_upn (by omega), fm_upn (by omega), fm_upn (by omega), fm_upn (by omega), fm_upn (by omega)]
    simpa [uN2] using h3 q hq
  all_goals rw [fm_upx (by omega), fm_upn (by omega), fm_upn (by omega)]
  all_goals simp [uN2]
  all_goals assumption
theorem tC_strike {M : Nat → Nat → Int32} {t : Tn} (h : tC M 1 t) : tC (fm_up M 1 4 (nI (t.1 7 1 - 1))) 1 (uN2 t.1 7 1 (t.1 7 1 - 1), t.2) := by
  obtain ⟨h1, h2, h3, v0, v1, v2, v3, v4, v5, v6, v7, v8⟩ := h
  refine ⟨fun j hj => ?_, fun j hj => ?_, fun q hq => ?_, ?_, fm_ups, ?_, ?_, ?_, ?_, ?_, ?_, ?_⟩
  · rw [fm_upn (by omega)]
    simpa [uN2] using h1 j (by simpa [uN2] using hj)
  · have hj3 : j < t.1 7 1 - 1 := by simpa [uN2] using hj
    rw [fm_upn (by omega), fm_upn (by omega)]
    simpa [uN2] using h2 j (by omega)
  · rw [fm_upn (by omega), fm_upn (by omega)]
    simpa [uN2] using h3 q hq
  all_goals rw [fm_upx (by omega)]
  all_goals simp [uN2]
  all_goals assumption
theorem tC_set {M : Nat → Nat → Int32} {t : Tn} (h : tC M 1 t) {w v : Nat} (hw : w < 4) : tC (fm_up M 1 (7 + w) (nI v)) 1 (uN2 t.1 7 (2 + w) v, t.2) := by
  obtain ⟨h1, h2, h3, v0, v1, v2, v3, v4, v5, v6, v7, v8⟩ := h
  have e0 : uN2 t.1 7 (2 + w) v 7 0 = t.1 7 0 := uN2_n (by omega)
  have e1 : uN2 t.1 7 (2 + w) v 7 1 = t.1 7 1 := uN2_n (by omega)
  refine ⟨fun j hj => ?_, fun j hj => ?_, fun q hq => ?_, ?_⟩
  · rw [fm_upn (by omega)]
    have h9 := h1 j (by simpa only [e0] using hj)
    simpa [uN2] using h9
  · rw [fm_upn (by omega), fm_upn (by omega)]
    have h9 := h2 j (by simpa only [e1] using hj)
    simpa [uN2] using h9
  · rw [fm_upn (by omega), fm_upn (by omega)]
    simpa [uN2] using h3 q hq
  · rcases (show w = 0 ∨ w = 1 ∨ w = 2 ∨ w = 3 by omega) with rfl | rfl | rfl | rfl <;> simp [uN2, fm_up, fm_row, upd, v0, v1, v2, v3, v4, v5, v6, v7, v8]
theorem tC_loss {M : Nat → Nat → Int32} {t : Tn} (h : tC M 1 t) {h0 v : Nat} : tC (fm_up M 5 h0 (nI v)) 1 (uN2 t.1 6 h0 v, t.2) := by
  obtain ⟨h1, h2, h3, h4⟩ := h
  refine ⟨fun j hj => ?_, fun j hj => ?_, fun q hq => ?_, ?_⟩
  · rw [fm_upn (by omega)]
    simpa [uN2] using h1 j (by simpa [uN2] using hj)
  · rw [fm_upn (by omega), fm_upn (by omega)]
    simpa [uN2] using h2 j (by simpa [uN2] using hj)
  · have h9 := h3 q hq
    show fm_up M 5 h0 (nI v) 5 q = _ ∧ fm_up M 5 h0 (nI v) 6 q = _
    rw [fm_upn (j := 6) (by omega)]
    by_cases e : q = h0
    · subst e
      rw [fm_ups]
      exact ⟨congrArg nI (by simp [uN2]), h9.2⟩
    · rw [fm_upx e]
      exact ⟨h9.1.trans (congrArg nI (by simp [uN2, e])), h9.2⟩
  · rw [fm_upn (by omega)]
    simpa [uN2] using h4
theorem tC_lay {M : Nat → Nat → Int32} {t : Tn} (h : tC M 1 t) {h0 : Nat} {v : Int32} : tC (fm_up M 6 h0 v) 1 (t.1, uP t.2.1 h0 v.toInt, t.2.2) := by
  obtain ⟨h1, h2, h3, h4⟩ := h
  refine ⟨fun j hj => ?_, fun j hj => ?_, fun q hq => ?_, ?_⟩
  · rw [fm_upn (by omega)]
    exact h1 j hj
  · rw [fm_upn (by omega), fm_upn (by omega)]
    exact h2 j hj
  · have h9 := h3 q hq
    show fm_up M 6 h0 v 5 q = _ ∧ fm_up M 6 h0 v 6 q = _
    rw [fm_upn (j := 5) (by omega)]
    by_cases e : q = h0
    · subst e
      rw [fm_ups]
      exact ⟨h9.1, by simp [uP, oI_of]⟩
    · rw [fm_upx e]
      exact ⟨h9.1, by rw [h9.2]; simp [uP, e]⟩
  · rw [fm_upn (by omega)]
    exact h4
theorem tC_seed {M : Nat → Nat → Int32} {t : Tn} (h : tC M 1 t) {v : Nat} : tC (fm_up M 1 13 (nI v)) 1 (uN2 t.1 7 7 v, t.2) := by
  obtain ⟨h1, h2, h3, v0, v1, v2, v3, v4, v5, v6, v7, v8⟩ := h
  refine ⟨fun j hj => ?_, fun j hj => ?_, fun q hq => ?_, ?_⟩
  · rw [fm_upn (by omega)]
    simpa [uN2] using h1 j (by simpa [uN2] using hj)
  · rw [fm_upn (by omega), fm_upn (by omega)]
    simpa [uN2] using h2 j (by simpa [uN2] using hj)
  · rw [fm_upn (by omega), fm_upn (by omega)]
    simpa [uN2] using h3 q hq
  · simp [uN2, fm_up, fm_row, upd, v0, v1, v2, v3, v4, v5, v6, v7, v8]

theorem c_X5_hasPerson (l : Launch) (D : va_G) (cA : Nat → ClassId) (b : Nat) (M : Nat → Nat → Int32) (L : Nat → Nat → Int64) (g : Sg) (x : Int32) (hS : CS M L g) (hok : OK g) : fm_Met l D cA b yX5_hasPerson cX5_hasPerson 2 (some .boolean) 0 0 0 0 [.ref (b + 1), .int x] LAY M L LAY (fm_pi (bi (0 ≤ x.toInt ∧ x.toInt < g.1.1 7 0)) M L) := by
  refine fm_start RX5 rfl (by decide) (Nat.le_of_ble_eq_true rfl) ?_
  intro pq eq sq mq aq bq tq cq hC hin
  obtain ⟨⟨n1, n2, n3, v0, v1, v2, v3, v4, v5, v6, v7, v8⟩, hS2⟩ := id hS
  obtain ⟨⟨o1, o2, o3, o4, o5, o6, o7, o8, o9, o10, o11⟩, hok2⟩ := id hok
  refine g_iload_n hC dX5_hasPerson_0 rfl 1 rfl ?_
  refine g_if_lt_T (X := x.toInt) hC rfl 16 dX5_hasPerson_1 rfl (fun c_1 => ?_) (fun c_1 => ?_)
  · skip
    refine g_iconst (v := 0) hC dX5_hasPerson_16 rfl ?_
    refine g_zret (ty := .boolean) hC rfl rfl dX5_hasPerson_17 ⟨congrArg (fun z => some (Value.int z)) ?_, rfl, rfl⟩
    exact bi_0 (by omega)
  · skip
    refine g_iload_n hC dX5_hasPerson_4 rfl 1 rfl ?_
    refine g_aload_n hC dX5_hasPerson_5 rfl 0 rfl ?_
    refine g_getI (ci := 5) (i := 1) (k := 1) hC fm_in5 rfl ly_1 rfl (by decide) fw_58 dX5_hasPerson_6 ?_
    refine g_top (y := nI (g.1.1 7 0)) v0 ?_
    refine g_icmp_ge_T (X := x.toInt) (Y := ((g.1.1 7 0 : Nat) : Int)) hC rfl (nI_toInt (by omega)) 16 dX5_hasPerson_9 rfl (fun c_2 => ?_) (fun c_2 => ?_)
    · skip
      refine g_iconst (v := 0) hC dX5_hasPerson_16 rfl ?_
      refine g_zret (ty := .boolean) hC rfl rfl dX5_hasPerson_17 ⟨congrArg (fun z => some (Value.int z)) ?_, rfl, rfl⟩
      exact bi_0 (by omega)
    · skip
      refine g_iconst (v := 1) hC dX5_hasPerson_12 rfl ?_
      refine g_goto hC 17 dX5_hasPerson_13 rfl ?_
      refine g_zret (ty := .boolean) hC rfl rfl dX5_hasPerson_17 ⟨congrArg (fun z => some (Value.int z)) ?_, rfl, rfl⟩
      exact bi_1 (by omega)

theorem c_X6_person (l : Launch) (D : va_G) (cA : Nat → ClassId) (b : Nat) (M : Nat → Nat → Int32) (L : Nat → Nat → Int64) (g : Sg) (k : Int32) (h : Int32) (x : Int32) (hS : CS M L g) (hok : OK g) : fm_Met l D cA b yX6_person cX6_person 4 (some .int) 1 24 0 0 [.ref (b + 0), .int k, .int h, .int x] LAY M L LAY (fm_pm (fun r M' L' => r = (op_person g k h x).1 ∧ CS M' L' (op_person g k h x).2 ∧ fC M M' L L')) := by
  refine fm_start RX6 rfl (by decide) (Nat.le_of_ble_eq_true rfl) ?_
  intro pq eq sq mq aq bq tq cq hC hin
  obtain ⟨⟨n1, n2, n3, v0, v1, v2, v3, v4, v5, v6, v7, v8⟩, hS2⟩ := id hS
  obtain ⟨⟨o1, o2, o3, o4, o5, o6, o7, o8, o9, o10, o11⟩, hok2⟩ := id hok
  refine g_iload_n hC dX6_person_0 rfl 1 rfl ?_
  refine g_if_lt_T (X := k.toInt) hC rfl 25 dX6_person_1 rfl (fun c_1 => ?_) (fun c_1 => ?_)
  · skip
    refine g_iconst (v := (-1)) hC dX6_person_25 rfl ?_
    refine g_zret (ty := .int) hC rfl rfl dX6_person_26 ?_
    have e0 : op_person g k h x = (-1, g) := by unfold op_person; rw [if_neg (by omega)]
    exact ⟨_, rfl, by rw [e0], by rw [e0]; exact hS, fC_rf⟩
  · skip
    refine g_iload_n hC dX6_person_4 rfl 1 rfl ?_
    refine g_iconst (v := 3) hC dX6_person_5 rfl ?_
    refine g_icmp_gt_T (X := k.toInt) (Y := 3) hC rfl rfl 25 dX6_person_6 rfl (fun c_2 => ?_) (fun c_2 => ?_)
    · skip
      refine g_iconst (v := (-1)) hC dX6_person_25 rfl ?_
      refine g_zret (ty := .int) hC rfl rfl dX6_person_26 ?_
      have e0 : op_person g k h x = (-1, g) := by unfold op_person; rw [if_neg (by omega)]
      exact ⟨_, rfl, by rw [e0], by rw [e0]; exact hS, fC_rf⟩
    · skip
      refine g_iload_n hC dX6_person_9 rfl 2 rfl ?_
      refine g_callS hC (as := [.int h]) (rest := []) (c_X6_isHour l D cA b LAY M L h h.toInt rfl) ⟨fw_225, fw_226, fw_1, fw_227⟩ hd_X6_isHour ⟨Nat.le_of_ble_eq_true rfl, Nat.le_of_ble_eq_true rfl⟩ ⟨Nat.le_of_ble_eq_true rfl, Nat.le_of_ble_eq_true rfl⟩ rfl rfl (Nat.le_of_ble_eq_true rfl) dX6_person_10 (g_rix ?_)
      refine g_ifb_eq hC 25 dX6_person_13 rfl (fun c_4 => ?_) (fun c_4 => ?_)
      · skip
        refine g_iconst (v := (-1)) hC dX6_person_25 rfl ?_
        refine g_zret (ty := .int) hC rfl rfl dX6_person_26 ?_
        have e0 : op_person g k h x = (-1, g) := by unfold op_person; rw [if_neg (by omega)]
        exact ⟨_, rfl, by rw [e0], by rw [e0]; exact hS, fC_rf⟩
      · skip
        refine g_iload_n hC dX6_person_16 rfl 3 rfl ?_
        refine g_bipush (v := 99) hC dX6_person_17 rfl ?_
        refine g_callS hC (as := [.int x, .int 99]) (rest := []) (c_X6_isWithin l D cA b LAY M L x 99 x.toInt 99 rfl rfl) ⟨fw_228, fw_229, fw_1, fw_230⟩ hd_X6_isWithin ⟨Nat.le_of_ble_eq_true rfl, Nat.le_of_ble_eq_true rfl⟩ ⟨Nat.le_of_ble_eq_true rfl, Nat.le_of_ble_eq_true rfl⟩ rfl rfl (Nat.le_of_ble_eq_true rfl) dX6_person_19 (g_rix ?_)
        refine g_ifb_ne hC 27 dX6_person_22 rfl (fun c_6 => ?_) (fun c_6 => ?_)
        · skip
          refine g_aload_n hC dX6_person_27 rfl 0 rfl ?_
          refine g_getR (ci := 6) (i := 0) (k := 0) (t := 1) hC fm_in6 rfl ly_0 rfl (by decide) fw_196 dX6_person_28 ?_
          refine g_getI (ci := 5) (i := 1) (k := 1) hC fm_in5 rfl ly_1 rfl (by decide) fw_59 dX6_person_31 ?_
          refine g_top (y := nI (g.1.1 7 0)) v0 ?_
          refine g_bipush (v := 8) hC dX6_person_34 rfl ?_
          refine g_icmp_lt_T (X := ((g.1.1 7 0 : Nat) : Int)) (Y := 8) hC (nI_toInt (by omega)) rfl 42 dX6_person_36 rfl (fun c_7 => ?_) (fun c_7 => ?_)
          · skip
            refine g_aload_n hC dX6_person_42 rfl 0 rfl ?_
            refine g_getR (ci := 6) (i := 0) (k := 0) (t := 1) hC fm_in6 rfl ly_0 rfl (by decide) fw_196 dX6_person_43 ?_
            refine g_getR (ci := 5) (i := 0) (k := 1) (t := 2) hC fm_in5 rfl ly_1 rfl (by decide) fw_57 dX6_person_46 ?_
            refine g_aload_n hC dX6_person_49 rfl 0 rfl ?_
            refine g_getR (ci := 6) (i := 0) (k := 0) (t := 1) hC fm_in6 rfl ly_0 rfl (by decide) fw_196 dX6_person_50 ?_
            refine g_getI (ci := 5) (i := 1) (k := 1) hC fm_in5 rfl ly_1 rfl (by decide) fw_59 dX6_person_53 ?_
            refine g_top (y := nI (g.1.1 7 0)) v0 ?_
            refine g_aald4N (j := g.1.1 7 0) (t := 7 + (g.1.1 7 0)) (k := 2) hC ly_2 rfl (by omega) (by decide) (fm_z7 _ (by omega)) dX6_person_56 ?_
            refine g_iload_n hC dX6_person_57 rfl 1 rfl ?_
            refine g_iload_n hC dX6_person_58 rfl 2 rfl ?_
            refine g_iload_n hC dX6_person_59 rfl 3 rfl ?_
            refine g_iconst (v := 1) hC dX6_person_60 rfl ?_
            refine g_callV hC (k := 7 + (g.1.1 7 0)) (ci := 1) (as := [.int k, .int h, .int x, .int 1]) (rest := []) (c_X1_become l D cA b M L (7 + (g.1.1 7 0)) k h x 1 (fm_per7 _ (by omega))) ⟨fw_231, fw_232, fw_233, fw_3, fw_234⟩ ⟨rfl, hd_X1_become⟩ rfl (fm_per7 _ (by omega)) ⟨Nat.le_of_ble_eq_true rfl, Nat.le_of_ble_eq_true rfl⟩ ⟨Nat.le_of_ble_eq_true rfl, Nat.le_of_ble_eq_true rfl⟩ rfl rfl (Nat.le_of_ble_eq_true rfl) dX6_person_61 (g_rvx ?_)
            refine g_aload_n hC dX6_person_64 rfl 0 rfl ?_
            refine g_getR (ci := 6) (i := 0) (k := 0) (t := 1) hC fm_in6 rfl ly_0 rfl (by decide) fw_196 dX6_person_65 ?_
            refine g_dup hC dX6_person_68 rfl ?_
            refine g_getI (ci := 5) (i := 1) (k := 1) hC fm_in5 rfl ly_1 rfl (by decide) fw_59 dX6_person_69 ?_
            refine g_top (y := nI (g.1.1 7 0)) (by rw [be_n (by omega)]; exact v0) ?_
            refine g_iconst (v := 1) hC dX6_person_72 rfl ?_
            refine g_iadd hC dX6_person_73 ?_
            refine g_top (y := nI ((g.1.1 7 0) + 1)) (nI_add _ _) ?_
            refine g_putI (ci := 5) (i := 1) (k := 1) hC fm_in5 tyX5 tyX5_ok nmX5 rfl ly_1 rfl (by decide) fw_59 rfl rfl rfl dX6_person_74 ?_
            refine g_aload_n hC dX6_person_77 rfl 0 rfl ?_
            refine g_getR (ci := 6) (i := 0) (k := 0) (t := 1) hC fm_in6 rfl ly_0 rfl (by decide) fw_196 dX6_person_78 ?_
            refine g_getI (ci := 5) (i := 1) (k := 1) hC fm_in5 rfl ly_1 rfl (by decide) fw_59 dX6_person_81 ?_
            refine g_top (y := nI (g.1.1 7 0 + 1)) fm_ups ?_
            refine g_iconst (v := 1) hC dX6_person_84 rfl ?_
            refine g_isub hC dX6_person_85 ?_
            refine g_top (y := nI (g.1.1 7 0)) (nI_pred _) ?_
            refine g_zret (ty := .int) hC rfl rfl dX6_person_86 ?_
            have e0 : op_person g k h x = (nI (g.1.1 7 0), ((uN2 (uN2 (uN2 (uN2 (uN2 g.1.1 0 (g.1.1 7 0) k.toInt.toNat) 1 (g.1.1 7 0) h.toInt.toNat) 2 (g.1.1 7 0) x.toInt.toNat) 3 (g.1.1 7 0) 1) 7 0 (g.1.1 7 0 + 1), g.1.2), g.2)) := by unfold op_person; rw [if_pos (by omega), if_pos (by omega)]
            refine ⟨_, rfl, by rw [e0], ?_, fun q hq => ⟨by rw [fm_upn (by omega), be_n (by omega)], rfl⟩⟩
            rw [e0]
            exact CS_now hS hok (tC_person hS.1 (by omega) (by omega) (by omega) (by omega)) (fun q h1 h2 => by rw [fm_upn (by omega), be_n (by omega)]) (fun q h1 h2 => ⟨by rw [fm_upn (by omega), be_n (by omega)], rfl⟩)
          · skip
            refine g_bipush (v := (-3)) hC dX6_person_39 rfl ?_
            refine g_zret (ty := .int) hC rfl rfl dX6_person_41 ?_
            have e0 : op_person g k h x = (-3, g) := by unfold op_person; rw [if_pos (by omega), if_neg (by omega)]
            exact ⟨_, rfl, by rw [e0], by rw [e0]; exact hS, fC_rf⟩
        · skip
          refine g_iconst (v := (-1)) hC dX6_person_25 rfl ?_
          refine g_zret (ty := .int) hC rfl rfl dX6_person_26 ?_
          have e0 : op_person g k h x = (-1, g) := by unfold op_person; rw [if_neg (by omega)]
          exact ⟨_, rfl, by rw [e0], by rw [e0]; exact hS, fC_rf⟩

theorem c_X6_may (l : Launch) (D : va_G) (cA : Nat → ClassId) (b : Nat) (M : Nat → Nat → Int32) (L : Nat → Nat → Int64) (g : Sg) (x : Int32) (i : Int32) (hS : CS M L g) (hok : OK g) : fm_Met l D cA b yX6_may cX6_may 4 (some .int) 1 21 0 0 [.ref (b + 0), .int x, .int i] LAY M L LAY (fm_pm (fun r M' L' => r = (op_may g x i).1 ∧ CS M' L' (op_may g x i).2 ∧ fC M M' L L')) := by
  refine fm_start RX6 rfl (by decide) (Nat.le_of_ble_eq_true rfl) ?_
  intro pq eq sq mq aq bq tq cq hC hin
  obtain ⟨⟨n1, n2, n3, v0, v1, v2, v3, v4, v5, v6, v7, v8⟩, hS2⟩ := id hS
  obtain ⟨⟨o1, o2, o3, o4, o5, o6, o7, o8, o9, o10, o11⟩, hok2⟩ := id hok
  refine g_aload_n hC dX6_may_0 rfl 0 rfl ?_
  refine g_getR (ci := 6) (i := 0) (k := 0) (t := 1) hC fm_in6 rfl ly_0 rfl (by decide) fw_196 dX6_may_1 ?_
  refine g_iload_n hC dX6_may_4 rfl 1 rfl ?_
  refine g_callV hC (k := 1) (ci := 5) (as := [.int x]) (rest := []) (c_X5_hasPerson l D cA b M L g x hS hok) ⟨fw_239, fw_240, fw_241, fw_2, fw_242⟩ ⟨rfl, hd_X5_hasPerson⟩ rfl ly_1 ⟨Nat.le_of_ble_eq_true rfl, Nat.le_of_ble_eq_true rfl⟩ ⟨Nat.le_of_ble_eq_true rfl, Nat.le_of_ble_eq_true rfl⟩ rfl rfl (Nat.le_of_ble_eq_true rfl) dX6_may_5 (g_rix ?_)
  refine g_ifb_eq hC 19 dX6_may_8 rfl (fun c_2 => ?_) (fun c_2 => ?_)
  · skip
    refine g_iconst (v := (-1)) hC dX6_may_19 rfl ?_
    refine g_zret (ty := .int) hC rfl rfl dX6_may_20 ?_
    have e0 : op_may g x i = (-1, g) := by unfold op_may; rw [if_neg (by omega)]
    exact ⟨_, rfl, by rw [e0], by rw [e0]; exact hS, fC_rf⟩
  · skip
    refine g_iload_n hC dX6_may_11 rfl 2 rfl ?_
    refine g_iconst (v := 1) hC dX6_may_12 rfl ?_
    refine g_callS hC (as := [.int i, .int 1]) (rest := []) (c_X6_isWithin l D cA b LAY M L i 1 i.toInt 1 rfl rfl) ⟨fw_228, fw_229, fw_1, fw_230⟩ hd_X6_isWithin ⟨Nat.le_of_ble_eq_true rfl, Nat.le_of_ble_eq_true rfl⟩ ⟨Nat.le_of_ble_eq_true rfl, Nat.le_of_ble_eq_true rfl⟩ rfl rfl (Nat.le_of_ble_eq_true rfl) dX6_may_13 (g_rix ?_)
    refine g_ifb_ne hC 21 dX6_may_16 rfl (fun c_4 => ?_) (fun c_4 => ?_)
    · skip
      refine g_aload_n hC dX6_may_21 rfl 0 rfl ?_
      refine g_getR (ci := 6) (i := 0) (k := 0) (t := 1) hC fm_in6 rfl ly_0 rfl (by decide) fw_196 dX6_may_22 ?_
      refine g_getR (ci := 5) (i := 0) (k := 1) (t := 2) hC fm_in5 rfl ly_1 rfl (by decide) fw_57 dX6_may_25 ?_
      refine g_iload_n hC dX6_may_28 rfl 1 rfl ?_
      refine g_aald4N (j := x.toInt.toNat) (t := 7 + x.toInt.toNat) (k := 2) hC ly_2 (ic_nI (by omega)) (by omega) (by decide) (fm_z7 _ (by omega)) dX6_may_29 ?_
      refine g_getI (ci := 1) (i := 3) (k := 7 + x.toInt.toNat) hC fm_in1 rfl (fm_per7 _ (by omega)) rfl (by decide) fw_41 dX6_may_30 ?_
      refine g_top (y := nI (g.1.1 3 x.toInt.toNat)) (n1 x.toInt.toNat (by omega)).2.2.2 ?_
      refine g_istore_n hC [(3, .int (nI (g.1.1 3 x.toInt.toNat))), (0, .ref (b + 0)), (1, .int x), (2, .int i)] dX6_may_33 rfl (by decide) rfl ?_
      refine g_aload_n hC dX6_may_34 rfl 1 rfl ?_
      refine g_getR (ci := 6) (i := 0) (k := 0) (t := 1) hC fm_in6 rfl ly_0 rfl (by decide) fw_196 dX6_may_35 ?_
      refine g_getR (ci := 5) (i := 0) (k := 1) (t := 2) hC fm_in5 rfl ly_1 rfl (by decide) fw_57 dX6_may_38 ?_
      refine g_iload_n hC dX6_may_41 rfl 2 rfl ?_
      refine g_aald4N (j := x.toInt.toNat) (t := 7 + x.toInt.toNat) (k := 2) hC ly_2 (ic_nI (by omega)) (by omega) (by decide) (fm_z7 _ (by omega)) dX6_may_42 ?_
      refine g_iload_n hC dX6_may_43 rfl 3 rfl ?_
      refine g_putI (ci := 1) (i := 3) (k := 7 + x.toInt.toNat) hC fm_in1 tyX1 tyX1_ok nmX1 rfl (fm_per7 _ (by omega)) rfl (by decide) fw_41 rfl rfl rfl dX6_may_44 ?_
      refine g_iload_n hC dX6_may_47 rfl 0 rfl ?_
      refine g_zret (ty := .int) hC rfl rfl dX6_may_48 ?_
      have ei : i = nI i.toInt.toNat := ic_nI (by omega)
      have em : fm_up M (7 + x.toInt.toNat) 3 i = fm_up M (7 + x.toInt.toNat) 3 (nI i.toInt.toNat) := by rw [← ei]
      rw [em]
      have e0 : op_may g x i = (nI (g.1.1 3 x.toInt.toNat), ((uN2 g.1.1 3 x.toInt.toNat i.toInt.toNat, g.1.2), g.2)) := by unfold op_may; rw [if_pos (by omega)]
      refine ⟨_, rfl, by rw [e0], ?_, fun q hq => ⟨by rw [fm_upn (by omega)], rfl⟩⟩
      rw [e0]
      exact CS_now hS hok (tC_may hS.1 (by omega)) (fun q h1 h2 => by rw [fm_upn (by omega)]) (fun q h1 h2 => ⟨by rw [fm_upn (by omega)], rfl⟩)
    · skip
      refine g_iconst (v := (-1)) hC dX6_may_19 rfl ?_
      refine g_zret (ty := .int) hC rfl rfl dX6_may_20 ?_
      have e0 : op_may g x i = (-1, g) := by unfold op_may; rw [if_neg (by omega)]
      exact ⟨_, rfl, by rw [e0], by rw [e0]; exact hS, fC_rf⟩

theorem c_X6_told (l : Launch) (D : va_G) (cA : Nat → ClassId) (b : Nat) (M : Nat → Nat → Int32) (L : Nat → Nat → Int64) (g : Sg) (x : Int32) (i : Int32) (hS : CS M L g) (hok : OK g) : fm_Met l D cA b yX6_told cX6_told 4 (some .int) 1 21 0 0 [.ref (b + 0), .int x, .int i] LAY M L LAY (fm_pi (op_told g x i) M L) := by
  refine fm_start RX6 rfl (by decide) (Nat.le_of_ble_eq_true rfl) ?_
  intro pq eq sq mq aq bq tq cq hC hin
  obtain ⟨⟨n1, n2, n3, v0, v1, v2, v3, v4, v5, v6, v7, v8⟩, hS2⟩ := id hS
  obtain ⟨⟨o1, o2, o3, o4, o5, o6, o7, o8, o9, o10, o11⟩, hok2⟩ := id hok
  refine g_aload_n hC dX6_told_0 rfl 0 rfl ?_
  refine g_getR (ci := 6) (i := 0) (k := 0) (t := 1) hC fm_in6 rfl ly_0 rfl (by decide) fw_196 dX6_told_1 ?_
  refine g_iload_n hC dX6_told_4 rfl 1 rfl ?_
  refine g_callV hC (k := 1) (ci := 5) (as := [.int x]) (rest := []) (c_X5_hasPerson l D cA b M L g x hS hok) ⟨fw_239, fw_240, fw_241, fw_2, fw_242⟩ ⟨rfl, hd_X5_hasPerson⟩ rfl ly_1 ⟨Nat.le_of_ble_eq_true rfl, Nat.le_of_ble_eq_true rfl⟩ ⟨Nat.le_of_ble_eq_true rfl, Nat.le_of_ble_eq_true rfl⟩ rfl rfl (Nat.le_of_ble_eq_true rfl) dX6_told_5 (g_rix ?_)
  refine g_ifb_ne hC 13 dX6_told_8 rfl (fun c_2 => ?_) (fun c_2 => ?_)
  · skip
    refine g_aload_n hC dX6_told_13 rfl 0 rfl ?_
    refine g_getR (ci := 6) (i := 0) (k := 0) (t := 1) hC fm_in6 rfl ly_0 rfl (by decide) fw_196 dX6_told_14 ?_
    refine g_getR (ci := 5) (i := 0) (k := 1) (t := 2) hC fm_in5 rfl ly_1 rfl (by decide) fw_57 dX6_told_17 ?_
    refine g_iload_n hC dX6_told_20 rfl 1 rfl ?_
    refine g_aald4N (j := x.toInt.toNat) (t := 7 + x.toInt.toNat) (k := 2) hC ly_2 (ic_nI (by omega)) (by omega) (by decide) (fm_z7 _ (by omega)) dX6_told_21 ?_
    refine g_astore_n hC [(3, .ref (b + (7 + x.toInt.toNat))), (0, .ref (b + 0)), (1, .int x), (2, .int i)] dX6_told_22 rfl (by decide) rfl ?_
    refine g_iload_n hC dX6_told_23 rfl 3 rfl ?_
    have t_3 : i.toInt = i.toInt := rfl
    by_cases c_3_0 : i.toInt = 0
    · refine g_tabIn hC 56 dX6_told_24 (by rw [t_3]; omega) (by rw [t_3]; omega) (by rw [t_3, c_3_0]; rfl) rfl ?_
      refine g_aload_n hC dX6_told_56 rfl 0 rfl ?_
      refine g_getI (ci := 1) (i := 0) (k := 7 + x.toInt.toNat) hC fm_in1 rfl (fm_per7 _ (by omega)) rfl (by decide) fw_34 dX6_told_57 ?_
      refine g_top (y := nI (g.1.1 0 x.toInt.toNat)) (n1 x.toInt.toNat (by omega)).1 ?_
      refine g_zret (ty := .int) hC rfl rfl dX6_told_60 ⟨congrArg (fun z => some (Value.int z)) ?_, rfl, rfl⟩
      unfold op_told; rw [if_pos (by omega), show i.toInt.toNat = 0 by omega]
    by_cases c_3_1 : i.toInt = 1
    · refine g_tabIn hC 61 dX6_told_24 (by rw [t_3]; omega) (by rw [t_3]; omega) (by rw [t_3, c_3_1]; rfl) rfl ?_
      refine g_aload_n hC dX6_told_61 rfl 0 rfl ?_
      refine g_getI (ci := 1) (i := 1) (k := 7 + x.toInt.toNat) hC fm_in1 rfl (fm_per7 _ (by omega)) rfl (by decide) fw_36 dX6_told_62 ?_
      refine g_top (y := nI (g.1.1 1 x.toInt.toNat)) (n1 x.toInt.toNat (by omega)).2.1 ?_
      refine g_zret (ty := .int) hC rfl rfl dX6_told_65 ⟨congrArg (fun z => some (Value.int z)) ?_, rfl, rfl⟩
      unfold op_told; rw [if_pos (by omega), show i.toInt.toNat = 1 by omega]
    by_cases c_3_2 : i.toInt = 2
    · refine g_tabIn hC 66 dX6_told_24 (by rw [t_3]; omega) (by rw [t_3]; omega) (by rw [t_3, c_3_2]; rfl) rfl ?_
      refine g_aload_n hC dX6_told_66 rfl 0 rfl ?_
      refine g_getI (ci := 1) (i := 2) (k := 7 + x.toInt.toNat) hC fm_in1 rfl (fm_per7 _ (by omega)) rfl (by decide) fw_38 dX6_told_67 ?_
      refine g_top (y := nI (g.1.1 2 x.toInt.toNat)) (n1 x.toInt.toNat (by omega)).2.2.1 ?_
      refine g_zret (ty := .int) hC rfl rfl dX6_told_70 ⟨congrArg (fun z => some (Value.int z)) ?_, rfl, rfl⟩
      unfold op_told; rw [if_pos (by omega), show i.toInt.toNat = 2 by omega]
    by_cases c_3_3 : i.toInt = 3
    · refine g_tabIn hC 71 dX6_told_24 (by rw [t_3]; omega) (by rw [t_3]; omega) (by rw [t_3, c_3_3]; rfl) rfl ?_
      refine g_aload_n hC dX6_told_71 rfl 0 rfl ?_
      refine g_getI (ci := 1) (i := 3) (k := 7 + x.toInt.toNat) hC fm_in1 rfl (fm_per7 _ (by omega)) rfl (by decide) fw_41 dX6_told_72 ?_
      refine g_top (y := nI (g.1.1 3 x.toInt.toNat)) (n1 x.toInt.toNat (by omega)).2.2.2 ?_
      refine g_zret (ty := .int) hC rfl rfl dX6_told_75 ⟨congrArg (fun z => some (Value.int z)) ?_, rfl, rfl⟩
      unfold op_told; rw [if_pos (by omega), show i.toInt.toNat = 3 by omega]
    refine g_tabOut hC 76 dX6_told_24 (by rw [t_3]; omega) rfl ?_
    refine g_iconst (v := (-1)) hC dX6_told_76 rfl ?_
    refine g_zret (ty := .int) hC rfl rfl dX6_told_77 ⟨congrArg (fun z => some (Value.int z)) ?_, rfl, rfl⟩
    unfold op_told; rw [if_neg (by omega)]
  · skip
    refine g_iconst (v := (-1)) hC dX6_told_11 rfl ?_
    refine g_zret (ty := .int) hC rfl rfl dX6_told_12 ⟨congrArg (fun z => some (Value.int z)) ?_, rfl, rfl⟩
    unfold op_told; rw [if_neg (by omega)]

theorem c_X6_worth (l : Launch) (D : va_G) (cA : Nat → ClassId) (b : Nat) (M : Nat → Nat → Int32) (L : Nat → Nat → Int64) (g : Sg) (x : Int32) (h : Int32) (k : Int32) (hS : CS M L g) (hok : OK g) : fm_Met l D cA b yX6_worth cX6_worth 4 (some .int) 3 66 0 0 [.ref (b + 0), .int x, .int h, .int k] LAY M L LAY (fm_pi (op_worth g x h k) M L) := by
  refine fm_start RX6 rfl (by decide) (Nat.le_of_ble_eq_true rfl) ?_
  intro pq eq sq mq aq bq tq cq hC hin
  obtain ⟨⟨n1, n2, n3, v0, v1, v2, v3, v4, v5, v6, v7, v8⟩, hS2⟩ := id hS
  obtain ⟨⟨o1, o2, o3, o4, o5, o6, o7, o8, o9, o10, o11⟩, hok2⟩ := id hok
  refine g_aload_n hC dX6_worth_0 rfl 0 rfl ?_
  refine g_getR (ci := 6) (i := 0) (k := 0) (t := 1) hC fm_in6 rfl ly_0 rfl (by decide) fw_196 dX6_worth_1 ?_
  refine g_iload_n hC dX6_worth_4 rfl 1 rfl ?_
  refine g_callV hC (k := 1) (ci := 5) (as := [.int x]) (rest := []) (c_X5_hasPerson l D cA b M L g x hS hok) ⟨fw_239, fw_240, fw_241, fw_2, fw_242⟩ ⟨rfl, hd_X5_hasPerson⟩ rfl ly_1 ⟨Nat.le_of_ble_eq_true rfl, Nat.le_of_ble_eq_true rfl⟩ ⟨Nat.le_of_ble_eq_true rfl, Nat.le_of_ble_eq_true rfl⟩ rfl rfl (Nat.le_of_ble_eq_true rfl) dX6_worth_5 (g_rix ?_)
  refine g_ifb_eq hC 26 dX6_worth_8 rfl (fun c_2 => ?_) (fun c_2 => ?_)
  · skip
    refine g_iconst (v := (-1)) hC dX6_worth_26 rfl ?_
    refine g_zret (ty := .int) hC rfl rfl dX6_worth_27 ⟨congrArg (fun z => some (Value.int z)) ?_, rfl, rfl⟩
    unfold op_worth; rw [if_neg (by omega)]
  · skip
    refine g_iload_n hC dX6_worth_11 rfl 2 rfl ?_
    refine g_callS hC (as := [.int h]) (rest := []) (c_X6_isHour l D cA b LAY M L h h.toInt rfl) ⟨fw_225, fw_226, fw_1, fw_227⟩ hd_X6_isHour ⟨Nat.le_of_ble_eq_true rfl, Nat.le_of_ble_eq_true rfl⟩ ⟨Nat.le_of_ble_eq_true rfl, Nat.le_of_ble_eq_true rfl⟩ rfl rfl (Nat.le_of_ble_eq_true rfl) dX6_worth_12 (g_rix ?_)
    refine g_ifb_eq hC 26 dX6_worth_15 rfl (fun c_4 => ?_) (fun c_4 => ?_)
    · skip
      refine g_iconst (v := (-1)) hC dX6_worth_26 rfl ?_
      refine g_zret (ty := .int) hC rfl rfl dX6_worth_27 ⟨congrArg (fun z => some (Value.int z)) ?_, rfl, rfl⟩
      unfold op_worth; rw [if_neg (by omega)]
    · skip
      refine g_iload_n hC dX6_worth_18 rfl 3 rfl ?_
      refine g_iconst (v := 4) hC dX6_worth_19 rfl ?_
      refine g_callS hC (as := [.int k, .int 4]) (rest := []) (c_X6_isWithin l D cA b LAY M L k 4 k.toInt 4 rfl rfl) ⟨fw_228, fw_229, fw_1, fw_230⟩ hd_X6_isWithin ⟨Nat.le_of_ble_eq_true rfl, Nat.le_of_ble_eq_true rfl⟩ ⟨Nat.le_of_ble_eq_true rfl, Nat.le_of_ble_eq_true rfl⟩ rfl rfl (Nat.le_of_ble_eq_true rfl) dX6_worth_20 (g_rix ?_)
      refine g_ifb_ne hC 28 dX6_worth_23 rfl (fun c_6 => ?_) (fun c_6 => ?_)
      · skip
        refine g_aload_n hC dX6_worth_28 rfl 0 rfl ?_
        refine g_getR (ci := 6) (i := 0) (k := 0) (t := 1) hC fm_in6 rfl ly_0 rfl (by decide) fw_196 dX6_worth_29 ?_
        refine g_getR (ci := 5) (i := 0) (k := 1) (t := 2) hC fm_in5 rfl ly_1 rfl (by decide) fw_57 dX6_worth_32 ?_
        refine g_iload_n hC dX6_worth_35 rfl 1 rfl ?_
        refine g_aald4N (j := x.toInt.toNat) (t := 7 + x.toInt.toNat) (k := 2) hC ly_2 (ic_nI (by omega)) (by omega) (by decide) (fm_z7 _ (by omega)) dX6_worth_36 ?_
        refine g_iload_n hC dX6_worth_37 rfl 2 rfl ?_
        refine g_iload_n hC dX6_worth_38 rfl 3 rfl ?_
        have eh : h = nI h.toInt.toNat := ic_nI (by omega)
        have ek : k = nI k.toInt.toNat := ic_nI (by omega)
        refine g_top ek ?_
        refine g_top2 eh ?_
        refine g_callV hC (k := 7 + x.toInt.toNat) (ci := 1) (as := [.int (nI h.toInt.toNat), .int (nI k.toInt.toNat)]) (rest := []) (c_X1_worthOf l D cA b M L (7 + x.toInt.toNat) (g.1.1 0 x.toInt.toNat) (g.1.1 1 x.toInt.toNat) (g.1.1 2 x.toInt.toNat) (g.1.1 3 x.toInt.toNat) h.toInt.toNat k.toInt.toNat (fm_per7 _ (by omega)) (⟨(n1 x.toInt.toNat (by omega)).1, (n1 x.toInt.toNat (by omega)).2.1, (n1 x.toInt.toNat (by omega)).2.2.1, (n1 x.toInt.toNat (by omega)).2.2.2, o1 x.toInt.toNat (by omega)⟩) (by omega) (by omega)) ⟨fw_251, fw_252, fw_253, fw_3, fw_254⟩ ⟨rfl, hd_X1_worthOf⟩ rfl (fm_per7 _ (by omega)) ⟨Nat.le_of_ble_eq_true rfl, Nat.le_of_ble_eq_true rfl⟩ ⟨Nat.le_of_ble_eq_true rfl, Nat.le_of_ble_eq_true rfl⟩ rfl rfl (Nat.le_of_ble_eq_true rfl) dX6_worth_39 (g_rix ?_)
        have wb_7 := wN_le (g.1.1 0 x.toInt.toNat) (g.1.1 1 x.toInt.toNat) (g.1.1 2 x.toInt.toNat) h.toInt.toNat k.toInt.toNat
        refine g_zret (ty := .int) hC rfl rfl dX6_worth_42 ⟨congrArg (fun z => some (Value.int z)) ?_, rfl, rfl⟩
        unfold op_worth; rw [if_pos (by omega)]; rfl
      · skip
        refine g_iconst (v := (-1)) hC dX6_worth_26 rfl ?_
        refine g_zret (ty := .int) hC rfl rfl dX6_worth_27 ⟨congrArg (fun z => some (Value.int z)) ?_, rfl, rfl⟩
        unfold op_worth; rw [if_neg (by omega)]

theorem c_X6_train (l : Launch) (D : va_G) (cA : Nat → ClassId) (b : Nat) (M : Nat → Nat → Int32) (L : Nat → Nat → Int64) (g : Sg) (h : Int32) (x : Int32) (hS : CS M L g) (hok : OK g) : fm_Met l D cA b yX6_train cX6_train 3 (some .int) 1 21 0 0 [.ref (b + 0), .int h, .int x] LAY M L LAY (fm_pm (fun r M' L' => r = (op_train g h x).1 ∧ CS M' L' (op_train g h x).2 ∧ fC M M' L L')) := by
  refine fm_start RX6 rfl (by decide) (Nat.le_of_ble_eq_true rfl) ?_
  intro pq eq sq mq aq bq tq cq hC hin
  obtain ⟨⟨n1, n2, n3, v0, v1, v2, v3, v4, v5, v6, v7, v8⟩, hS2⟩ := id hS
  obtain ⟨⟨o1, o2, o3, o4, o5, o6, o7, o8, o9, o10, o11⟩, hok2⟩ := id hok
  refine g_iload_n hC dX6_train_0 rfl 1 rfl ?_
  refine g_callS hC (as := [.int h]) (rest := []) (c_X6_isHour l D cA b LAY M L h h.toInt rfl) ⟨fw_225, fw_226, fw_1, fw_227⟩ hd_X6_isHour ⟨Nat.le_of_ble_eq_true rfl, Nat.le_of_ble_eq_true rfl⟩ ⟨Nat.le_of_ble_eq_true rfl, Nat.le_of_ble_eq_true rfl⟩ rfl rfl (Nat.le_of_ble_eq_true rfl) dX6_train_1 (g_rix ?_)
  refine g_ifb_eq hC 16 dX6_train_4 rfl (fun c_2 => ?_) (fun c_2 => ?_)
  · skip
    refine g_iconst (v := (-1)) hC dX6_train_16 rfl ?_
    refine g_zret (ty := .int) hC rfl rfl dX6_train_17 ?_
    have e0 : op_train g h x = (-1, g) := by unfold op_train; rw [if_neg (by omega)]
    exact ⟨_, rfl, by rw [e0], by rw [e0]; exact hS, fC_rf⟩
  · skip
    refine g_iload_n hC dX6_train_7 rfl 2 rfl ?_
    refine g_bipush (v := 99) hC dX6_train_8 rfl ?_
    refine g_callS hC (as := [.int x, .int 99]) (rest := []) (c_X6_isWithin l D cA b LAY M L x 99 x.toInt 99 rfl rfl) ⟨fw_228, fw_229, fw_1, fw_230⟩ hd_X6_isWithin ⟨Nat.le_of_ble_eq_true rfl, Nat.le_of_ble_eq_true rfl⟩ ⟨Nat.le_of_ble_eq_true rfl, Nat.le_of_ble_eq_true rfl⟩ rfl rfl (Nat.le_of_ble_eq_true rfl) dX6_train_10 (g_rix ?_)
    refine g_ifb_ne hC 18 dX6_train_13 rfl (fun c_4 => ?_) (fun c_4 => ?_)
    · skip
      refine g_aload_n hC dX6_train_18 rfl 0 rfl ?_
      refine g_getR (ci := 6) (i := 0) (k := 0) (t := 1) hC fm_in6 rfl ly_0 rfl (by decide) fw_196 dX6_train_19 ?_
      refine g_getI (ci := 5) (i := 4) (k := 1) hC fm_in5 rfl ly_1 rfl (by decide) fw_65 dX6_train_22 ?_
      refine g_top (y := nI (g.1.1 7 1)) v1 ?_
      refine g_bipush (v := 6) hC dX6_train_25 rfl ?_
      refine g_icmp_lt_T (X := ((g.1.1 7 1 : Nat) : Int)) (Y := 6) hC (nI_toInt (by omega)) rfl 33 dX6_train_27 rfl (fun c_5 => ?_) (fun c_5 => ?_)
      · skip
        refine g_aload_n hC dX6_train_33 rfl 0 rfl ?_
        refine g_getR (ci := 6) (i := 0) (k := 0) (t := 1) hC fm_in6 rfl ly_0 rfl (by decide) fw_196 dX6_train_34 ?_
        refine g_getR (ci := 5) (i := 2) (k := 1) (t := 3) hC fm_in5 rfl ly_1 rfl (by decide) fw_61 dX6_train_37 ?_
        refine g_aload_n hC dX6_train_40 rfl 0 rfl ?_
        refine g_getR (ci := 6) (i := 0) (k := 0) (t := 1) hC fm_in6 rfl ly_0 rfl (by decide) fw_196 dX6_train_41 ?_
        refine g_getI (ci := 5) (i := 4) (k := 1) hC fm_in5 rfl ly_1 rfl (by decide) fw_65 dX6_train_44 ?_
        refine g_top (y := nI (g.1.1 7 1)) v1 ?_
        refine g_iload_n hC dX6_train_47 rfl 1 rfl ?_
        refine g_iastN (j := g.1.1 7 1) (k := 3) hC ly_3 rfl (by omega) (by decide) dX6_train_48 ?_
        refine g_aload_n hC dX6_train_49 rfl 0 rfl ?_
        refine g_getR (ci := 6) (i := 0) (k := 0) (t := 1) hC fm_in6 rfl ly_0 rfl (by decide) fw_196 dX6_train_50 ?_
        refine g_getR (ci := 5) (i := 3) (k := 1) (t := 4) hC fm_in5 rfl ly_1 rfl (by decide) fw_63 dX6_train_53 ?_
        refine g_aload_n hC dX6_train_56 rfl 0 rfl ?_
        refine g_getR (ci := 6) (i := 0) (k := 0) (t := 1) hC fm_in6 rfl ly_0 rfl (by decide) fw_196 dX6_train_57 ?_
        refine g_getI (ci := 5) (i := 4) (k := 1) hC fm_in5 rfl ly_1 rfl (by decide) fw_65 dX6_train_60 ?_
        refine g_top (y := nI (g.1.1 7 1)) (by rw [fm_upn (by omega)]; exact v1) ?_
        refine g_iload_n hC dX6_train_63 rfl 2 rfl ?_
        refine g_iastN (j := g.1.1 7 1) (k := 4) hC ly_4 rfl (by omega) (by decide) dX6_train_64 ?_
        refine g_aload_n hC dX6_train_65 rfl 0 rfl ?_
        refine g_getR (ci := 6) (i := 0) (k := 0) (t := 1) hC fm_in6 rfl ly_0 rfl (by decide) fw_196 dX6_train_66 ?_
        refine g_dup hC dX6_train_69 rfl ?_
        refine g_getI (ci := 5) (i := 4) (k := 1) hC fm_in5 rfl ly_1 rfl (by decide) fw_65 dX6_train_70 ?_
        refine g_top (y := nI (g.1.1 7 1)) (by rw [fm_upn (by omega), fm_upn (by omega)]; exact v1) ?_
        refine g_iconst (v := 1) hC dX6_train_73 rfl ?_
        refine g_iadd hC dX6_train_74 ?_
        refine g_top (y := nI ((g.1.1 7 1) + 1)) (nI_add _ _) ?_
        refine g_putI (ci := 5) (i := 4) (k := 1) hC fm_in5 tyX5 tyX5_ok nmX5 rfl ly_1 rfl (by decide) fw_65 rfl rfl rfl dX6_train_75 ?_
        refine g_aload_n hC dX6_train_78 rfl 0 rfl ?_
        refine g_getR (ci := 6) (i := 0) (k := 0) (t := 1) hC fm_in6 rfl ly_0 rfl (by decide) fw_196 dX6_train_79 ?_
        refine g_getI (ci := 5) (i := 4) (k := 1) hC fm_in5 rfl ly_1 rfl (by decide) fw_65 dX6_train_82 ?_
        refine g_top (y := nI (g.1.1 7 1 + 1)) fm_ups ?_
        refine g_iconst (v := 1) hC dX6_train_85 rfl ?_
        refine g_isub hC dX6_train_86 ?_
        refine g_top (y := nI (g.1.1 7 1)) (nI_pred _) ?_
        refine g_zret (ty := .int) hC rfl rfl dX6_train_87 ?_
        have e0 : op_train g h x = (nI (g.1.1 7 1), ((uN2 (uN2 (uN2 g.1.1 4 (g.1.1 7 1) h.toInt.toNat) 5 (g.1.1 7 1) x.toInt.toNat) 7 1 (g.1.1 7 1 + 1), g.1.2), g.2)) := by unfold op_train; rw [if_pos (by omega), if_pos (by omega)]
        refine ⟨_, rfl, by rw [e0], ?_, fun q hq => ⟨by rw [fm_upn (by omega), fm_upn (by omega), fm_upn (by omega)], rfl⟩⟩
        rw [e0]
        exact CS_now hS hok (tC_train hS.1 (by omega) (by omega) (by omega) (by omega)) (fun q h1 h2 => by rw [fm_upn (by omega), fm_upn (by omega), fm_upn (by omega)]) (fun q h1 h2 => ⟨by rw [fm_upn (by omega), fm_upn (by omega), fm_upn (by omega)], rfl⟩)
      · skip
        refine g_bipush (v := (-3)) hC dX6_train_30 rfl ?_
        refine g_zret (ty := .int) hC rfl rfl dX6_train_32 ?_
        have e0 : op_train g h x = (-3, g) := by unfold op_train; rw [if_pos (by omega), if_neg (by omega)]
        exact ⟨_, rfl, by rw [e0], by rw [e0]; exact hS, fC_rf⟩
    · skip
      refine g_iconst (v := (-1)) hC dX6_train_16 rfl ?_
      refine g_zret (ty := .int) hC rfl rfl dX6_train_17 ?_
      have e0 : op_train g h x = (-1, g) := by unfold op_train; rw [if_neg (by omega)]
      exact ⟨_, rfl, by rw [e0], by rw [e0]; exact hS, fC_rf⟩

theorem c_X6_strike (l : Launch) (D : va_G) (cA : Nat → ClassId) (b : Nat) (M : Nat → Nat → Int32) (L : Nat → Nat → Int64) (g : Sg) (hS : CS M L g) (hok : OK g) : fm_Met l D cA b yX6_strike cX6_strike 1 (some .int) 0 0 0 0 [.ref (b + 0)] LAY M L LAY (fm_pm (fun r M' L' => r = (op_strike g ).1 ∧ CS M' L' (op_strike g ).2 ∧ fC M M' L L')) := by
  refine fm_start RX6 rfl (by decide) (Nat.le_of_ble_eq_true rfl) ?_
  intro pq eq sq mq aq bq tq cq hC hin
  obtain ⟨⟨n1, n2, n3, v0, v1, v2, v3, v4, v5, v6, v7, v8⟩, hS2⟩ := id hS
  obtain ⟨⟨o1, o2, o3, o4, o5, o6, o7, o8, o9, o10, o11⟩, hok2⟩ := id hok
  refine g_aload_n hC dX6_strike_0 rfl 0 rfl ?_
  refine g_getR (ci := 6) (i := 0) (k := 0) (t := 1) hC fm_in6 rfl ly_0 rfl (by decide) fw_196 dX6_strike_1 ?_
  refine g_getI (ci := 5) (i := 4) (k := 1) hC fm_in5 rfl ly_1 rfl (by decide) fw_65 dX6_strike_4 ?_
  refine g_top (y := nI (g.1.1 7 1)) v1 ?_
  refine g_if_ne_T (X := ((g.1.1 7 1 : Nat) : Int)) hC (nI_toInt (by omega)) 13 dX6_strike_7 rfl (fun c_1 => ?_) (fun c_1 => ?_)
  · skip
    refine g_aload_n hC dX6_strike_13 rfl 0 rfl ?_
    refine g_getR (ci := 6) (i := 0) (k := 0) (t := 1) hC fm_in6 rfl ly_0 rfl (by decide) fw_196 dX6_strike_14 ?_
    refine g_dup hC dX6_strike_17 rfl ?_
    refine g_getI (ci := 5) (i := 4) (k := 1) hC fm_in5 rfl ly_1 rfl (by decide) fw_65 dX6_strike_18 ?_
    refine g_top (y := nI (g.1.1 7 1)) v1 ?_
    refine g_iconst (v := 1) hC dX6_strike_21 rfl ?_
    refine g_isub hC dX6_strike_22 ?_
    refine g_top (y := nI (g.1.1 7 1 - 1)) (pk_sub (a := g.1.1 7 1) (b := 1) (by omega)) ?_
    refine g_putI (ci := 5) (i := 4) (k := 1) hC fm_in5 tyX5 tyX5_ok nmX5 rfl ly_1 rfl (by decide) fw_65 rfl rfl rfl dX6_strike_23 ?_
    refine g_aload_n hC dX6_strike_26 rfl 0 rfl ?_
    refine g_getR (ci := 6) (i := 0) (k := 0) (t := 1) hC fm_in6 rfl ly_0 rfl (by decide) fw_196 dX6_strike_27 ?_
    refine g_getI (ci := 5) (i := 4) (k := 1) hC fm_in5 rfl ly_1 rfl (by decide) fw_65 dX6_strike_30 ?_
    refine g_top (y := nI (g.1.1 7 1 - 1)) fm_ups ?_
    refine g_zret (ty := .int) hC rfl rfl dX6_strike_33 ?_
    have e0 : op_strike g  = (nI (g.1.1 7 1 - 1), ((uN2 g.1.1 7 1 (g.1.1 7 1 - 1), g.1.2), g.2)) := by unfold op_strike; rw [if_neg (by omega)]
    refine ⟨_, rfl, by rw [e0], ?_, fun q hq => ⟨by rw [fm_upn (by omega)], rfl⟩⟩
    rw [e0]
    exact CS_now hS hok (tC_strike hS.1) (fun q h1 h2 => by rw [fm_upn (by omega)]) (fun q h1 h2 => ⟨by rw [fm_upn (by omega)], rfl⟩)
  · skip
    refine g_bipush (v := (-4)) hC dX6_strike_10 rfl ?_
    refine g_zret (ty := .int) hC rfl rfl dX6_strike_12 ?_
    have e0 : op_strike g = (-4, g) := by unfold op_strike; rw [if_pos (by omega)]
    exact ⟨_, rfl, by rw [e0], by rw [e0]; exact hS, fC_rf⟩

theorem c_X6_is (l : Launch) (D : va_G) (cA : Nat → ClassId) (b : Nat) (M : Nat → Nat → Int32) (L : Nat → Nat → Int64) (g : Sg) (x : Int32) (hS : CS M L g) (hok : OK g) : fm_Met l D cA b yX6_is cX6_is 2 (some .int) 0 0 0 0 [.ref (b + 0), .int x] LAY M L LAY (fm_pi (op_is g x) M L) := by
  refine fm_start RX6 rfl (by decide) (Nat.le_of_ble_eq_true rfl) ?_
  intro pq eq sq mq aq bq tq cq hC hin
  obtain ⟨⟨n1, n2, n3, v0, v1, v2, v3, v4, v5, v6, v7, v8⟩, hS2⟩ := id hS
  obtain ⟨⟨o1, o2, o3, o4, o5, o6, o7, o8, o9, o10, o11⟩, hok2⟩ := id hok
  refine g_iload_n hC dX6_is_0 rfl 1 rfl ?_
  have t_1 : x.toInt = x.toInt := rfl
  by_cases c_1_0 : x.toInt = 0
  · refine g_tabIn hC 48 dX6_is_1 (by rw [t_1]; omega) (by rw [t_1]; omega) (by rw [t_1, c_1_0]; rfl) rfl ?_
    refine g_aload_n hC dX6_is_48 rfl 0 rfl ?_
    refine g_getR (ci := 6) (i := 0) (k := 0) (t := 1) hC fm_in6 rfl ly_0 rfl (by decide) fw_196 dX6_is_49 ?_
    refine g_getI (ci := 5) (i := 7) (k := 1) hC fm_in5 rfl ly_1 rfl (by decide) fw_71 dX6_is_52 ?_
    refine g_top (y := nI (g.1.1 7 2)) v2 ?_
    refine g_zret (ty := .int) hC rfl rfl dX6_is_55 ⟨congrArg (fun z => some (Value.int z)) ?_, rfl, rfl⟩
    unfold op_is; rw [if_pos (by omega)]
  by_cases c_1_1 : x.toInt = 1
  · refine g_tabIn hC 56 dX6_is_1 (by rw [t_1]; omega) (by rw [t_1]; omega) (by rw [t_1, c_1_1]; rfl) rfl ?_
    refine g_aload_n hC dX6_is_56 rfl 0 rfl ?_
    refine g_getR (ci := 6) (i := 0) (k := 0) (t := 1) hC fm_in6 rfl ly_0 rfl (by decide) fw_196 dX6_is_57 ?_
    refine g_getI (ci := 5) (i := 8) (k := 1) hC fm_in5 rfl ly_1 rfl (by decide) fw_73 dX6_is_60 ?_
    refine g_top (y := nI (g.1.1 7 3)) v3 ?_
    refine g_zret (ty := .int) hC rfl rfl dX6_is_63 ⟨congrArg (fun z => some (Value.int z)) ?_, rfl, rfl⟩
    unfold op_is; rw [if_neg (by omega), if_pos (by omega)]
  by_cases c_1_2 : x.toInt = 2
  · refine g_tabIn hC 64 dX6_is_1 (by rw [t_1]; omega) (by rw [t_1]; omega) (by rw [t_1, c_1_2]; rfl) rfl ?_
    refine g_aload_n hC dX6_is_64 rfl 0 rfl ?_
    refine g_getR (ci := 6) (i := 0) (k := 0) (t := 1) hC fm_in6 rfl ly_0 rfl (by decide) fw_196 dX6_is_65 ?_
    refine g_getI (ci := 5) (i := 9) (k := 1) hC fm_in5 rfl ly_1 rfl (by decide) fw_75 dX6_is_68 ?_
    refine g_top (y := nI (g.1.1 7 4)) v4 ?_
    refine g_zret (ty := .int) hC rfl rfl dX6_is_71 ⟨congrArg (fun z => some (Value.int z)) ?_, rfl, rfl⟩
    unfold op_is; rw [if_neg (by omega), if_neg (by omega), if_pos (by omega)]
  by_cases c_1_3 : x.toInt = 3
  · refine g_tabIn hC 72 dX6_is_1 (by rw [t_1]; omega) (by rw [t_1]; omega) (by rw [t_1, c_1_3]; rfl) rfl ?_
    refine g_aload_n hC dX6_is_72 rfl 0 rfl ?_
    refine g_getR (ci := 6) (i := 0) (k := 0) (t := 1) hC fm_in6 rfl ly_0 rfl (by decide) fw_196 dX6_is_73 ?_
    refine g_getI (ci := 5) (i := 10) (k := 1) hC fm_in5 rfl ly_1 rfl (by decide) fw_77 dX6_is_76 ?_
    refine g_top (y := nI (g.1.1 7 5)) v5 ?_
    refine g_zret (ty := .int) hC rfl rfl dX6_is_79 ⟨congrArg (fun z => some (Value.int z)) ?_, rfl, rfl⟩
    unfold op_is; rw [if_neg (by omega), if_neg (by omega), if_neg (by omega), if_pos (by omega)]
  by_cases c_1_4 : x.toInt = 4
  · refine g_tabIn hC 80 dX6_is_1 (by rw [t_1]; omega) (by rw [t_1]; omega) (by rw [t_1, c_1_4]; rfl) rfl ?_
    refine g_aload_n hC dX6_is_80 rfl 0 rfl ?_
    refine g_getR (ci := 6) (i := 0) (k := 0) (t := 1) hC fm_in6 rfl ly_0 rfl (by decide) fw_196 dX6_is_81 ?_
    refine g_getI (ci := 5) (i := 1) (k := 1) hC fm_in5 rfl ly_1 rfl (by decide) fw_59 dX6_is_84 ?_
    refine g_top (y := nI (g.1.1 7 0)) v0 ?_
    refine g_zret (ty := .int) hC rfl rfl dX6_is_87 ⟨congrArg (fun z => some (Value.int z)) ?_, rfl, rfl⟩
    unfold op_is; rw [if_neg (by omega), if_neg (by omega), if_neg (by omega), if_neg (by omega), if_pos (by omega)]
  by_cases c_1_5 : x.toInt = 5
  · refine g_tabIn hC 88 dX6_is_1 (by rw [t_1]; omega) (by rw [t_1]; omega) (by rw [t_1, c_1_5]; rfl) rfl ?_
    refine g_aload_n hC dX6_is_88 rfl 0 rfl ?_
    refine g_getR (ci := 6) (i := 0) (k := 0) (t := 1) hC fm_in6 rfl ly_0 rfl (by decide) fw_196 dX6_is_89 ?_
    refine g_getI (ci := 5) (i := 4) (k := 1) hC fm_in5 rfl ly_1 rfl (by decide) fw_65 dX6_is_92 ?_
    refine g_top (y := nI (g.1.1 7 1)) v1 ?_
    refine g_zret (ty := .int) hC rfl rfl dX6_is_95 ⟨congrArg (fun z => some (Value.int z)) ?_, rfl, rfl⟩
    unfold op_is; rw [if_neg (by omega), if_neg (by omega), if_neg (by omega), if_neg (by omega), if_neg (by omega), if_pos (by omega)]
  by_cases c_1_6 : x.toInt = 6
  · refine g_tabIn hC 96 dX6_is_1 (by rw [t_1]; omega) (by rw [t_1]; omega) (by rw [t_1, c_1_6]; rfl) rfl ?_
    refine g_aload_n hC dX6_is_96 rfl 0 rfl ?_
    refine g_getR (ci := 6) (i := 0) (k := 0) (t := 1) hC fm_in6 rfl ly_0 rfl (by decide) fw_196 dX6_is_97 ?_
    refine g_getI (ci := 5) (i := 11) (k := 1) hC fm_in5 rfl ly_1 rfl (by decide) fw_79 dX6_is_100 ?_
    refine g_top (y := nI (g.1.1 7 6)) v6 ?_
    refine g_zret (ty := .int) hC rfl rfl dX6_is_103 ⟨congrArg (fun z => some (Value.int z)) ?_, rfl, rfl⟩
    unfold op_is; rw [if_neg (by omega), if_neg (by omega), if_neg (by omega), if_neg (by omega), if_neg (by omega), if_neg (by omega), if_pos (by omega)]
  by_cases c_1_7 : x.toInt = 7
  · refine g_tabIn hC 104 dX6_is_1 (by rw [t_1]; omega) (by rw [t_1]; omega) (by rw [t_1, c_1_7]; rfl) rfl ?_
    refine g_aload_n hC dX6_is_104 rfl 0 rfl ?_
    refine g_getR (ci := 6) (i := 0) (k := 0) (t := 1) hC fm_in6 rfl ly_0 rfl (by decide) fw_196 dX6_is_105 ?_
    refine g_getI (ci := 5) (i := 12) (k := 1) hC fm_in5 rfl ly_1 rfl (by decide) fw_81 dX6_is_108 ?_
    refine g_top (y := g.1.2.2) v7 ?_
    refine g_zret (ty := .int) hC rfl rfl dX6_is_111 ⟨congrArg (fun z => some (Value.int z)) ?_, rfl, rfl⟩
    unfold op_is; rw [if_neg (by omega), if_neg (by omega), if_neg (by omega), if_neg (by omega), if_neg (by omega), if_neg (by omega), if_neg (by omega), if_pos (by omega)]
  refine g_tabOut hC 112 dX6_is_1 (by rw [t_1]; omega) rfl ?_
  refine g_ldc (v := (-100000001)) hC fw_290 dX6_is_112 ?_
  refine g_zret (ty := .int) hC rfl rfl dX6_is_114 ⟨congrArg (fun z => some (Value.int z)) ?_, rfl, rfl⟩
  unfold op_is; rw [if_neg (by omega), if_neg (by omega), if_neg (by omega), if_neg (by omega), if_neg (by omega), if_neg (by omega), if_neg (by omega), if_neg (by omega)]

theorem c_X6_mostOfSetting (l : Launch) (D : va_G) (cA : Nat → ClassId) (b : Nat) (M : Nat → Nat → Int32) (L : Nat → Nat → Int64) (x : Int32)  : fm_Met l D cA b yX6_mostOfSetting cX6_mostOfSetting 1 (some .int) 0 0 0 0 [.int x] LAY M L LAY (fun v M' L' => ∃ r, v = some (.int r) ∧ M' = M ∧ L' = L ∧ (fun r => r.toInt = mostS x.toInt) r) := by
  refine fm_start RX6 rfl (by decide) (Nat.le_of_ble_eq_true rfl) ?_
  intro pq eq sq mq aq bq tq cq hC hin
  refine g_iload_n hC dX6_mostOfSetting_0 rfl 0 rfl ?_
  have t_1 : x.toInt = x.toInt := rfl
  by_cases c_1_0 : x.toInt = 0
  · refine g_tabIn hC 32 dX6_mostOfSetting_1 (by rw [t_1]; omega) (by rw [t_1]; omega) (by rw [t_1, c_1_0]; rfl) rfl ?_
    refine g_bipush (v := 99) hC dX6_mostOfSetting_32 rfl ?_
    refine g_zret (ty := .int) hC rfl rfl dX6_mostOfSetting_34 ?_
    exact ⟨_, rfl, rfl, rfl, by unfold mostS; rw [if_pos (by omega)]; rfl⟩
  by_cases c_1_1 : x.toInt = 1
  · refine g_tabIn hC 35 dX6_mostOfSetting_1 (by rw [t_1]; omega) (by rw [t_1]; omega) (by rw [t_1, c_1_1]; rfl) rfl ?_
    refine g_bipush (v := 60) hC dX6_mostOfSetting_35 rfl ?_
    refine g_zret (ty := .int) hC rfl rfl dX6_mostOfSetting_37 ?_
    exact ⟨_, rfl, rfl, rfl, by unfold mostS; rw [if_neg (by omega), if_pos (by omega)]; rfl⟩
  by_cases c_1_2 : x.toInt = 2
  · refine g_tabIn hC 35 dX6_mostOfSetting_1 (by rw [t_1]; omega) (by rw [t_1]; omega) (by rw [t_1, c_1_2]; rfl) rfl ?_
    refine g_bipush (v := 60) hC dX6_mostOfSetting_35 rfl ?_
    refine g_zret (ty := .int) hC rfl rfl dX6_mostOfSetting_37 ?_
    exact ⟨_, rfl, rfl, rfl, by unfold mostS; rw [if_neg (by omega), if_neg (by omega), if_pos (by omega)]; rfl⟩
  by_cases c_1_3 : x.toInt = 3
  · refine g_tabIn hC 38 dX6_mostOfSetting_1 (by rw [t_1]; omega) (by rw [t_1]; omega) (by rw [t_1, c_1_3]; rfl) rfl ?_
    refine g_bipush (v := 20) hC dX6_mostOfSetting_38 rfl ?_
    refine g_zret (ty := .int) hC rfl rfl dX6_mostOfSetting_40 ?_
    exact ⟨_, rfl, rfl, rfl, by unfold mostS; rw [if_neg (by omega), if_neg (by omega), if_neg (by omega), if_pos (by omega)]; rfl⟩
  refine g_tabOut hC 41 dX6_mostOfSetting_1 (by rw [t_1]; omega) rfl ?_
  refine g_iconst (v := (-1)) hC dX6_mostOfSetting_41 rfl ?_
  refine g_zret (ty := .int) hC rfl rfl dX6_mostOfSetting_42 ?_
  exact ⟨_, rfl, rfl, rfl, by unfold mostS; rw [if_neg (by omega), if_neg (by omega), if_neg (by omega), if_neg (by omega)]; rfl⟩

theorem c_X6_set (l : Launch) (D : va_G) (cA : Nat → ClassId) (b : Nat) (M : Nat → Nat → Int32) (L : Nat → Nat → Int64) (g : Sg) (x : Int32) (v : Int32) (hS : CS M L g) (hok : OK g) : fm_Met l D cA b yX6_set cX6_set 4 (some .int) 1 21 0 0 [.ref (b + 0), .int x, .int v] LAY M L LAY (fm_pm (fun r M' L' => r = (op_set g x v).1 ∧ CS M' L' (op_set g x v).2 ∧ fC M M' L L')) := by
  refine fm_start RX6 rfl (by decide) (Nat.le_of_ble_eq_true rfl) ?_
  intro pq eq sq mq aq bq tq cq hC hin
  obtain ⟨⟨n1, n2, n3, v0, v1, v2, v3, v4, v5, v6, v7, v8⟩, hS2⟩ := id hS
  obtain ⟨⟨o1, o2, o3, o4, o5, o6, o7, o8, o9, o10, o11⟩, hok2⟩ := id hok
  refine g_iload_n hC dX6_set_0 rfl 2 rfl ?_
  refine g_iload_n hC dX6_set_1 rfl 1 rfl ?_
  refine g_callS hC (as := [.int x]) (rest := [.int v]) (c_X6_mostOfSetting l D cA b M L x) ⟨fw_283, fw_284, fw_1, fw_285⟩ hd_X6_mostOfSetting ⟨Nat.le_of_ble_eq_true rfl, Nat.le_of_ble_eq_true rfl⟩ ⟨Nat.le_of_ble_eq_true rfl, Nat.le_of_ble_eq_true rfl⟩ rfl rfl (Nat.le_of_ble_eq_true rfl) dX6_set_2 (g_ra (fun r_1 h_1 => ?_))
  refine g_callS hC (as := [.int v, .int r_1]) (rest := []) (c_X6_isWithin l D cA b LAY M L v r_1 v.toInt r_1.toInt rfl rfl) ⟨fw_228, fw_229, fw_1, fw_230⟩ hd_X6_isWithin ⟨Nat.le_of_ble_eq_true rfl, Nat.le_of_ble_eq_true rfl⟩ ⟨Nat.le_of_ble_eq_true rfl, Nat.le_of_ble_eq_true rfl⟩ rfl rfl (Nat.le_of_ble_eq_true rfl) dX6_set_5 (g_rix ?_)
  refine g_ifb_ne hC 13 dX6_set_8 rfl (fun c_3 => ?_) (fun c_3 => ?_)
  · skip
    refine g_aload_n hC dX6_set_13 rfl 0 rfl ?_
    refine g_iload_n hC dX6_set_14 rfl 1 rfl ?_
    refine g_callV hC (k := 0) (ci := 6) (as := [.int x]) (rest := []) (c_X6_is l D cA b M L g x hS hok) ⟨fw_286, fw_287, fw_288, fw_1, fw_289⟩ ⟨rfl, hd_X6_is⟩ rfl ly_0 ⟨Nat.le_of_ble_eq_true rfl, Nat.le_of_ble_eq_true rfl⟩ ⟨Nat.le_of_ble_eq_true rfl, Nat.le_of_ble_eq_true rfl⟩ rfl rfl (Nat.le_of_ble_eq_true rfl) dX6_set_15 (g_rix ?_)
    refine g_istore_n hC [(3, .int (op_is g x)), (0, .ref (b + 0)), (1, .int x), (2, .int v)] dX6_set_18 rfl (by decide) rfl ?_
    refine g_iload_n hC dX6_set_19 rfl 2 rfl ?_
    have t_5 : x.toInt = x.toInt := rfl
    by_cases c_5_0 : x.toInt = 0
    · refine g_tabIn hC 48 dX6_set_20 (by rw [t_5]; omega) (by rw [t_5]; omega) (by rw [t_5, c_5_0]; rfl) rfl ?_
      refine g_aload_n hC dX6_set_48 rfl 1 rfl ?_
      refine g_getR (ci := 6) (i := 0) (k := 0) (t := 1) hC fm_in6 rfl ly_0 rfl (by decide) fw_196 dX6_set_49 ?_
      refine g_iload_n hC dX6_set_52 rfl 3 rfl ?_
      refine g_putI (ci := 5) (i := 7) (k := 1) hC fm_in5 tyX5 tyX5_ok nmX5 rfl ly_1 rfl (by decide) fw_71 rfl rfl rfl dX6_set_53 ?_
      refine g_goto hC 89 dX6_set_56 rfl ?_
      refine g_iload_n hC dX6_set_89 rfl 0 rfl ?_
      refine g_zret (ty := .int) hC rfl rfl dX6_set_90 ?_
      have hx : x.toInt.toNat = 0 := by omega
      have ev : v = nI v.toInt.toNat := ic_nI (by omega)
      have em : fm_up M 1 7 v = fm_up M 1 (7 + 0) (nI v.toInt.toNat) := by rw [← ev]
      rw [em]
      have ei : op_is g x = nI (g.1.1 7 (2 + 0)) := by unfold op_is; rw [if_pos (by omega)]
      rw [ei]
      have e0 : op_set g x v = (nI (g.1.1 7 (2 + 0)), ((uN2 g.1.1 7 (2 + 0) v.toInt.toNat, g.1.2), g.2)) := by unfold op_set; rw [if_pos (by omega), hx]
      refine ⟨_, rfl, by rw [e0], ?_, fun q hq => ⟨by rw [fm_upn (by omega)], rfl⟩⟩
      rw [e0]
      exact CS_now hS hok (tC_set hS.1 (by omega)) (fun q h1 h2 => by rw [fm_upn (by omega)]) (fun q h1 h2 => ⟨by rw [fm_upn (by omega)], rfl⟩)
    by_cases c_5_1 : x.toInt = 1
    · refine g_tabIn hC 59 dX6_set_20 (by rw [t_5]; omega) (by rw [t_5]; omega) (by rw [t_5, c_5_1]; rfl) rfl ?_
      refine g_aload_n hC dX6_set_59 rfl 1 rfl ?_
      refine g_getR (ci := 6) (i := 0) (k := 0) (t := 1) hC fm_in6 rfl ly_0 rfl (by decide) fw_196 dX6_set_60 ?_
      refine g_iload_n hC dX6_set_63 rfl 3 rfl ?_
      refine g_putI (ci := 5) (i := 8) (k := 1) hC fm_in5 tyX5 tyX5_ok nmX5 rfl ly_1 rfl (by decide) fw_73 rfl rfl rfl dX6_set_64 ?_
      refine g_goto hC 89 dX6_set_67 rfl ?_
      refine g_iload_n hC dX6_set_89 rfl 0 rfl ?_
      refine g_zret (ty := .int) hC rfl rfl dX6_set_90 ?_
      have hx : x.toInt.toNat = 1 := by omega
      have ev : v = nI v.toInt.toNat := ic_nI (by omega)
      have em : fm_up M 1 8 v = fm_up M 1 (7 + 1) (nI v.toInt.toNat) := by rw [← ev]
      rw [em]
      have ei : op_is g x = nI (g.1.1 7 (2 + 1)) := by unfold op_is; rw [if_neg (by omega), if_pos (by omega)]
      rw [ei]
      have e0 : op_set g x v = (nI (g.1.1 7 (2 + 1)), ((uN2 g.1.1 7 (2 + 1) v.toInt.toNat, g.1.2), g.2)) := by unfold op_set; rw [if_pos (by omega), hx]
      refine ⟨_, rfl, by rw [e0], ?_, fun q hq => ⟨by rw [fm_upn (by omega)], rfl⟩⟩
      rw [e0]
      exact CS_now hS hok (tC_set hS.1 (by omega)) (fun q h1 h2 => by rw [fm_upn (by omega)]) (fun q h1 h2 => ⟨by rw [fm_upn (by omega)], rfl⟩)
    by_cases c_5_2 : x.toInt = 2
    · refine g_tabIn hC 70 dX6_set_20 (by rw [t_5]; omega) (by rw [t_5]; omega) (by rw [t_5, c_5_2]; rfl) rfl ?_
      refine g_aload_n hC dX6_set_70 rfl 1 rfl ?_
      refine g_getR (ci := 6) (i := 0) (k := 0) (t := 1) hC fm_in6 rfl ly_0 rfl (by decide) fw_196 dX6_set_71 ?_
      refine g_iload_n hC dX6_set_74 rfl 3 rfl ?_
      refine g_putI (ci := 5) (i := 9) (k := 1) hC fm_in5 tyX5 tyX5_ok nmX5 rfl ly_1 rfl (by decide) fw_75 rfl rfl rfl dX6_set_75 ?_
      refine g_goto hC 89 dX6_set_78 rfl ?_
      refine g_iload_n hC dX6_set_89 rfl 0 rfl ?_
      refine g_zret (ty := .int) hC rfl rfl dX6_set_90 ?_
      have hx : x.toInt.toNat = 2 := by omega
      have ev : v = nI v.toInt.toNat := ic_nI (by omega)
      have em : fm_up M 1 9 v = fm_up M 1 (7 + 2) (nI v.toInt.toNat) := by rw [← ev]
      rw [em]
      have ei : op_is g x = nI (g.1.1 7 (2 + 2)) := by unfold op_is; rw [if_neg (by omega), if_neg (by omega), if_pos (by omega)]
      rw [ei]
      have e0 : op_set g x v = (nI (g.1.1 7 (2 + 2)), ((uN2 g.1.1 7 (2 + 2) v.toInt.toNat, g.1.2), g.2)) := by unfold op_set; rw [if_pos (by omega), hx]
      refine ⟨_, rfl, by rw [e0], ?_, fun q hq => ⟨by rw [fm_upn (by omega)], rfl⟩⟩
      rw [e0]
      exact CS_now hS hok (tC_set hS.1 (by omega)) (fun q h1 h2 => by rw [fm_upn (by omega)]) (fun q h1 h2 => ⟨by rw [fm_upn (by omega)], rfl⟩)
    refine g_tabOut hC 81 dX6_set_20 (by rw [t_5]; omega) rfl ?_
    refine g_aload_n hC dX6_set_81 rfl 1 rfl ?_
    refine g_getR (ci := 6) (i := 0) (k := 0) (t := 1) hC fm_in6 rfl ly_0 rfl (by decide) fw_196 dX6_set_82 ?_
    refine g_iload_n hC dX6_set_85 rfl 3 rfl ?_
    refine g_putI (ci := 5) (i := 10) (k := 1) hC fm_in5 tyX5 tyX5_ok nmX5 rfl ly_1 rfl (by decide) fw_77 rfl rfl rfl dX6_set_86 ?_
    refine g_iload_n hC dX6_set_89 rfl 0 rfl ?_
    refine g_zret (ty := .int) hC rfl rfl dX6_set_90 ?_
    have hx3 : x.toInt = 3 := mostS_3 (by omega) (by omega) (by omega) (by omega)
    have hx : x.toInt.toNat = 3 := by omega
    have ev : v = nI v.toInt.toNat := ic_nI (by omega)
    have em : fm_up M 1 10 v = fm_up M 1 (7 + 3) (nI v.toInt.toNat) := by rw [← ev]
    rw [em]
    have ei : op_is g x = nI (g.1.1 7 (2 + 3)) := by unfold op_is; rw [if_neg (by omega), if_neg (by omega), if_neg (by omega), if_pos (by omega)]
    rw [ei]
    have e0 : op_set g x v = (nI (g.1.1 7 (2 + 3)), ((uN2 g.1.1 7 (2 + 3) v.toInt.toNat, g.1.2), g.2)) := by unfold op_set; rw [if_pos (by omega), hx]
    refine ⟨_, rfl, by rw [e0], ?_, fun q hq => ⟨by rw [fm_upn (by omega)], rfl⟩⟩
    rw [e0]
    exact CS_now hS hok (tC_set hS.1 (by omega)) (fun q h1 h2 => by rw [fm_upn (by omega)]) (fun q h1 h2 => ⟨by rw [fm_upn (by omega)], rfl⟩)
  · skip
    refine g_iconst (v := (-1)) hC dX6_set_11 rfl ?_
    refine g_zret (ty := .int) hC rfl rfl dX6_set_12 ?_
    have e0 : op_set g x v = (-1, g) := by unfold op_set; rw [if_neg (by omega)]
    exact ⟨_, rfl, by rw [e0], by rw [e0]; exact hS, fC_rf⟩

theorem c_X6_loss (l : Launch) (D : va_G) (cA : Nat → ClassId) (b : Nat) (M : Nat → Nat → Int32) (L : Nat → Nat → Int64) (g : Sg) (h : Int32) (v : Int32) (hS : CS M L g) (hok : OK g) : fm_Met l D cA b yX6_loss cX6_loss 4 (some .int) 1 21 0 0 [.ref (b + 0), .int h, .int v] LAY M L LAY (fm_pm (fun r M' L' => r = (op_loss g h v).1 ∧ CS M' L' (op_loss g h v).2 ∧ fC M M' L L')) := by
  refine fm_start RX6 rfl (by decide) (Nat.le_of_ble_eq_true rfl) ?_
  intro pq eq sq mq aq bq tq cq hC hin
  obtain ⟨⟨n1, n2, n3, v0, v1, v2, v3, v4, v5, v6, v7, v8⟩, hS2⟩ := id hS
  obtain ⟨⟨o1, o2, o3, o4, o5, o6, o7, o8, o9, o10, o11⟩, hok2⟩ := id hok
  refine g_iload_n hC dX6_loss_0 rfl 1 rfl ?_
  refine g_callS hC (as := [.int h]) (rest := []) (c_X6_isHour l D cA b LAY M L h h.toInt rfl) ⟨fw_225, fw_226, fw_1, fw_227⟩ hd_X6_isHour ⟨Nat.le_of_ble_eq_true rfl, Nat.le_of_ble_eq_true rfl⟩ ⟨Nat.le_of_ble_eq_true rfl, Nat.le_of_ble_eq_true rfl⟩ rfl rfl (Nat.le_of_ble_eq_true rfl) dX6_loss_1 (g_rix ?_)
  refine g_ifb_eq hC 16 dX6_loss_4 rfl (fun c_2 => ?_) (fun c_2 => ?_)
  · skip
    refine g_iconst (v := (-1)) hC dX6_loss_16 rfl ?_
    refine g_zret (ty := .int) hC rfl rfl dX6_loss_17 ?_
    have e0 : op_loss g h v = (-1, g) := by unfold op_loss; rw [if_neg (by omega)]
    exact ⟨_, rfl, by rw [e0], by rw [e0]; exact hS, fC_rf⟩
  · skip
    refine g_iload_n hC dX6_loss_7 rfl 2 rfl ?_
    refine g_bipush (v := 99) hC dX6_loss_8 rfl ?_
    refine g_callS hC (as := [.int v, .int 99]) (rest := []) (c_X6_isWithin l D cA b LAY M L v 99 v.toInt 99 rfl rfl) ⟨fw_228, fw_229, fw_1, fw_230⟩ hd_X6_isWithin ⟨Nat.le_of_ble_eq_true rfl, Nat.le_of_ble_eq_true rfl⟩ ⟨Nat.le_of_ble_eq_true rfl, Nat.le_of_ble_eq_true rfl⟩ rfl rfl (Nat.le_of_ble_eq_true rfl) dX6_loss_10 (g_rix ?_)
    refine g_ifb_ne hC 18 dX6_loss_13 rfl (fun c_4 => ?_) (fun c_4 => ?_)
    · skip
      refine g_aload_n hC dX6_loss_18 rfl 0 rfl ?_
      refine g_getR (ci := 6) (i := 0) (k := 0) (t := 1) hC fm_in6 rfl ly_0 rfl (by decide) fw_196 dX6_loss_19 ?_
      refine g_getR (ci := 5) (i := 5) (k := 1) (t := 5) hC fm_in5 rfl ly_1 rfl (by decide) fw_67 dX6_loss_22 ?_
      refine g_iload_n hC dX6_loss_25 rfl 1 rfl ?_
      refine g_ialdN (j := h.toInt.toNat) (k := 5) hC ly_5 (ic_nI (by omega)) (by omega) (by decide) dX6_loss_26 ?_
      refine g_top (y := nI (g.1.1 6 h.toInt.toNat)) (n3 _ (by omega)).1 ?_
      refine g_istore_n hC [(3, .int (nI (g.1.1 6 h.toInt.toNat))), (0, .ref (b + 0)), (1, .int h), (2, .int v)] dX6_loss_27 rfl (by decide) rfl ?_
      refine g_aload_n hC dX6_loss_28 rfl 1 rfl ?_
      refine g_getR (ci := 6) (i := 0) (k := 0) (t := 1) hC fm_in6 rfl ly_0 rfl (by decide) fw_196 dX6_loss_29 ?_
      refine g_getR (ci := 5) (i := 5) (k := 1) (t := 5) hC fm_in5 rfl ly_1 rfl (by decide) fw_67 dX6_loss_32 ?_
      refine g_iload_n hC dX6_loss_35 rfl 2 rfl ?_
      refine g_iload_n hC dX6_loss_36 rfl 3 rfl ?_
      refine g_iastN (j := h.toInt.toNat) (k := 5) hC ly_5 (ic_nI (by omega)) (by omega) (by decide) dX6_loss_37 ?_
      refine g_iload_n hC dX6_loss_38 rfl 0 rfl ?_
      refine g_zret (ty := .int) hC rfl rfl dX6_loss_39 ?_
      have ev : v = nI v.toInt.toNat := ic_nI (by omega)
      have em : fm_up M 5 h.toInt.toNat v = fm_up M 5 h.toInt.toNat (nI v.toInt.toNat) := by rw [← ev]
      rw [em]
      have e0 : op_loss g h v = (nI (g.1.1 6 h.toInt.toNat), ((uN2 g.1.1 6 h.toInt.toNat v.toInt.toNat, g.1.2), g.2)) := by unfold op_loss; rw [if_pos (by omega)]
      refine ⟨_, rfl, by rw [e0], ?_, fun q hq => ⟨by rw [fm_upn (by omega)], rfl⟩⟩
      rw [e0]
      exact CS_now hS hok (tC_loss hS.1) (fun q h1 h2 => by rw [fm_upn (by omega)]) (fun q h1 h2 => ⟨by rw [fm_upn (by omega)], rfl⟩)
    · skip
      refine g_iconst (v := (-1)) hC dX6_loss_16 rfl ?_
      refine g_zret (ty := .int) hC rfl rfl dX6_loss_17 ?_
      have e0 : op_loss g h v = (-1, g) := by unfold op_loss; rw [if_neg (by omega)]
      exact ⟨_, rfl, by rw [e0], by rw [e0]; exact hS, fC_rf⟩

theorem c_X6_lay (l : Launch) (D : va_G) (cA : Nat → ClassId) (b : Nat) (M : Nat → Nat → Int32) (L : Nat → Nat → Int64) (g : Sg) (h : Int32) (v : Int32) (hS : CS M L g) (hok : OK g) : fm_Met l D cA b yX6_lay cX6_lay 4 (some .int) 1 21 0 0 [.ref (b + 0), .int h, .int v] LAY M L LAY (fm_pm (fun r M' L' => r = (op_lay g h v).1 ∧ CS M' L' (op_lay g h v).2 ∧ fC M M' L L')) := by
  refine fm_start RX6 rfl (by decide) (Nat.le_of_ble_eq_true rfl) ?_
  intro pq eq sq mq aq bq tq cq hC hin
  obtain ⟨⟨n1, n2, n3, v0, v1, v2, v3, v4, v5, v6, v7, v8⟩, hS2⟩ := id hS
  obtain ⟨⟨o1, o2, o3, o4, o5, o6, o7, o8, o9, o10, o11⟩, hok2⟩ := id hok
  refine g_iload_n hC dX6_lay_0 rfl 1 rfl ?_
  refine g_callS hC (as := [.int h]) (rest := []) (c_X6_isHour l D cA b LAY M L h h.toInt rfl) ⟨fw_225, fw_226, fw_1, fw_227⟩ hd_X6_isHour ⟨Nat.le_of_ble_eq_true rfl, Nat.le_of_ble_eq_true rfl⟩ ⟨Nat.le_of_ble_eq_true rfl, Nat.le_of_ble_eq_true rfl⟩ rfl rfl (Nat.le_of_ble_eq_true rfl) dX6_lay_1 (g_rix ?_)
  refine g_ifb_eq hC 15 dX6_lay_4 rfl (fun c_2 => ?_) (fun c_2 => ?_)
  · skip
    refine g_ldc (v := (-100000001)) hC fw_290 dX6_lay_15 ?_
    refine g_zret (ty := .int) hC rfl rfl dX6_lay_17 ?_
    have e0 : op_lay g h v = (-100000001, g) := by unfold op_lay; rw [if_neg (by omega)]
    exact ⟨_, rfl, by rw [e0], by rw [e0]; exact hS, fC_rf⟩
  · skip
    refine g_iload_n hC dX6_lay_7 rfl 2 rfl ?_
    refine g_i2l (v := v.toInt64) hC dX6_lay_8 rfl ?_
    refine g_callS hC (as := [.long v.toInt64]) (rest := []) (c_X6_isNumber l D cA b LAY M L v.toInt64 v.toInt ((ic_w _).trans rfl)) ⟨fw_378, fw_379, fw_1, fw_380⟩ hd_X6_isNumber ⟨Nat.le_of_ble_eq_true rfl, Nat.le_of_ble_eq_true rfl⟩ ⟨Nat.le_of_ble_eq_true rfl, Nat.le_of_ble_eq_true rfl⟩ rfl rfl (Nat.le_of_ble_eq_true rfl) dX6_lay_9 (g_rix ?_)
    refine g_ifb_ne hC 18 dX6_lay_12 rfl (fun c_4 => ?_) (fun c_4 => ?_)
    · skip
      refine g_aload_n hC dX6_lay_18 rfl 0 rfl ?_
      refine g_getR (ci := 6) (i := 0) (k := 0) (t := 1) hC fm_in6 rfl ly_0 rfl (by decide) fw_196 dX6_lay_19 ?_
      refine g_getR (ci := 5) (i := 6) (k := 1) (t := 6) hC fm_in5 rfl ly_1 rfl (by decide) fw_69 dX6_lay_22 ?_
      refine g_iload_n hC dX6_lay_25 rfl 1 rfl ?_
      refine g_ialdN (j := h.toInt.toNat) (k := 6) hC ly_6 (ic_nI (by omega)) (by omega) (by decide) dX6_lay_26 ?_
      refine g_top (y := Int32.ofInt (g.1.2.1 h.toInt.toNat)) (n3 _ (by omega)).2 ?_
      refine g_istore_n hC [(3, .int (Int32.ofInt (g.1.2.1 h.toInt.toNat))), (0, .ref (b + 0)), (1, .int h), (2, .int v)] dX6_lay_27 rfl (by decide) rfl ?_
      refine g_aload_n hC dX6_lay_28 rfl 1 rfl ?_
      refine g_getR (ci := 6) (i := 0) (k := 0) (t := 1) hC fm_in6 rfl ly_0 rfl (by decide) fw_196 dX6_lay_29 ?_
      refine g_getR (ci := 5) (i := 6) (k := 1) (t := 6) hC fm_in5 rfl ly_1 rfl (by decide) fw_69 dX6_lay_32 ?_
      refine g_iload_n hC dX6_lay_35 rfl 2 rfl ?_
      refine g_iload_n hC dX6_lay_36 rfl 3 rfl ?_
      refine g_iastN (j := h.toInt.toNat) (k := 6) hC ly_6 (ic_nI (by omega)) (by omega) (by decide) dX6_lay_37 ?_
      refine g_iload_n hC dX6_lay_38 rfl 0 rfl ?_
      refine g_zret (ty := .int) hC rfl rfl dX6_lay_39 ?_
      have e0 : op_lay g h v = (Int32.ofInt (g.1.2.1 h.toInt.toNat), ((g.1.1, uP g.1.2.1 h.toInt.toNat v.toInt, g.1.2.2), g.2)) := by unfold op_lay; rw [if_pos (by omega)]
      refine ⟨_, rfl, by rw [e0], ?_, fun q hq => ⟨by rw [fm_upn (by omega)], rfl⟩⟩
      rw [e0]
      exact CS_now hS hok (tC_lay hS.1) (fun q h1 h2 => by rw [fm_upn (by omega)]) (fun q h1 h2 => ⟨by rw [fm_upn (by omega)], rfl⟩)
    · skip
      refine g_ldc (v := (-100000001)) hC fw_290 dX6_lay_15 ?_
      refine g_zret (ty := .int) hC rfl rfl dX6_lay_17 ?_
      have e0 : op_lay g h v = (-100000001, g) := by unfold op_lay; rw [if_neg (by omega)]
      exact ⟨_, rfl, by rw [e0], by rw [e0]; exact hS, fC_rf⟩

theorem c_X6_seed (l : Launch) (D : va_G) (cA : Nat → ClassId) (b : Nat) (M : Nat → Nat → Int32) (L : Nat → Nat → Int64) (g : Sg) (v : Int32) (hS : CS M L g) (hok : OK g) : fm_Met l D cA b yX6_seed cX6_seed 3 (some .int) 0 0 0 0 [.ref (b + 0), .int v] LAY M L LAY (fm_pm (fun r M' L' => r = (op_seed g v).1 ∧ CS M' L' (op_seed g v).2 ∧ fC M M' L L')) := by
  refine fm_start RX6 rfl (by decide) (Nat.le_of_ble_eq_true rfl) ?_
  intro pq eq sq mq aq bq tq cq hC hin
  obtain ⟨⟨n1, n2, n3, v0, v1, v2, v3, v4, v5, v6, v7, v8⟩, hS2⟩ := id hS
  obtain ⟨⟨o1, o2, o3, o4, o5, o6, o7, o8, o9, o10, o11⟩, hok2⟩ := id hok
  refine g_iload_n hC dX6_seed_0 rfl 1 rfl ?_
  refine g_if_ge_T (X := v.toInt) hC rfl 6 dX6_seed_1 rfl (fun c_1 => ?_) (fun c_1 => ?_)
  · skip
    refine g_aload_n hC dX6_seed_6 rfl 0 rfl ?_
    refine g_getR (ci := 6) (i := 0) (k := 0) (t := 1) hC fm_in6 rfl ly_0 rfl (by decide) fw_196 dX6_seed_7 ?_
    refine g_getI (ci := 5) (i := 13) (k := 1) hC fm_in5 rfl ly_1 rfl (by decide) fw_83 dX6_seed_10 ?_
    refine g_top (y := nI (g.1.1 7 7)) v8 ?_
    refine g_istore_n hC [(2, .int (nI (g.1.1 7 7))), (0, .ref (b + 0)), (1, .int v)] dX6_seed_13 rfl (by decide) rfl ?_
    refine g_aload_n hC dX6_seed_14 rfl 1 rfl ?_
    refine g_getR (ci := 6) (i := 0) (k := 0) (t := 1) hC fm_in6 rfl ly_0 rfl (by decide) fw_196 dX6_seed_15 ?_
    refine g_iload_n hC dX6_seed_18 rfl 2 rfl ?_
    refine g_putI (ci := 5) (i := 13) (k := 1) hC fm_in5 tyX5 tyX5_ok nmX5 rfl ly_1 rfl (by decide) fw_83 rfl rfl rfl dX6_seed_19 ?_
    refine g_iload_n hC dX6_seed_22 rfl 0 rfl ?_
    refine g_zret (ty := .int) hC rfl rfl dX6_seed_23 ?_
    have ev : v = nI v.toInt.toNat := ic_nI (by omega)
    have em : fm_up M 1 13 v = fm_up M 1 13 (nI v.toInt.toNat) := by rw [← ev]
    rw [em]
    have e0 : op_seed g v = (nI (g.1.1 7 7), ((uN2 g.1.1 7 7 v.toInt.toNat, g.1.2), g.2)) := by unfold op_seed; rw [if_neg (by omega)]
    refine ⟨_, rfl, by rw [e0], ?_, fun q hq => ⟨by rw [fm_upn (by omega)], rfl⟩⟩
    rw [e0]
    exact CS_now hS hok (tC_seed hS.1) (fun q h1 h2 => by rw [fm_upn (by omega)]) (fun q h1 h2 => ⟨by rw [fm_upn (by omega)], rfl⟩)
  · skip
    refine g_iconst (v := (-1)) hC dX6_seed_4 rfl ?_
    refine g_zret (ty := .int) hC rfl rfl dX6_seed_5 ?_
    have e0 : op_seed g v = (-1, g) := by unfold op_seed; rw [if_pos (by omega)]
    exact ⟨_, rfl, by rw [e0], by rw [e0]; exact hS, fC_rf⟩

theorem c_X6_choice (l : Launch) (D : va_G) (cA : Nat → ClassId) (b : Nat) (M : Nat → Nat → Int32) (L : Nat → Nat → Int64) (g : Sg) (x : Int32) (hS : CS M L g) (hok : OK g) : fm_Met l D cA b yX6_choice cX6_choice 2 (some .int) 4 90 0 0 [.ref (b + 0), .int x] LAY M L LAY (fm_pi (op_choice g x) M L) := by
  refine fm_start RX6 rfl (by decide) (Nat.le_of_ble_eq_true rfl) ?_
  intro pq eq sq mq aq bq tq cq hC hin
  obtain ⟨⟨n1, n2, n3, v0, v1, v2, v3, v4, v5, v6, v7, v8⟩, hS2⟩ := id hS
  obtain ⟨⟨o1, o2, o3, o4, o5, o6, o7, o8, o9, o10, o11⟩, hok2⟩ := id hok
  refine g_aload_n hC dX6_choice_0 rfl 0 rfl ?_
  refine g_getR (ci := 6) (i := 0) (k := 0) (t := 1) hC fm_in6 rfl ly_0 rfl (by decide) fw_196 dX6_choice_1 ?_
  refine g_iload_n hC dX6_choice_4 rfl 1 rfl ?_
  refine g_callV hC (k := 1) (ci := 5) (as := [.int x]) (rest := []) (c_X5_hasPerson l D cA b M L g x hS hok) ⟨fw_239, fw_240, fw_241, fw_2, fw_242⟩ ⟨rfl, hd_X5_hasPerson⟩ rfl ly_1 ⟨Nat.le_of_ble_eq_true rfl, Nat.le_of_ble_eq_true rfl⟩ ⟨Nat.le_of_ble_eq_true rfl, Nat.le_of_ble_eq_true rfl⟩ rfl rfl (Nat.le_of_ble_eq_true rfl) dX6_choice_5 (g_rix ?_)
  refine g_ifb_ne hC 13 dX6_choice_8 rfl (fun c_2 => ?_) (fun c_2 => ?_)
  · skip
    refine g_aload_n hC dX6_choice_13 rfl 0 rfl ?_
    refine g_getR (ci := 6) (i := 0) (k := 0) (t := 1) hC fm_in6 rfl ly_0 rfl (by decide) fw_196 dX6_choice_14 ?_
    refine g_getR (ci := 5) (i := 0) (k := 1) (t := 2) hC fm_in5 rfl ly_1 rfl (by decide) fw_57 dX6_choice_17 ?_
    refine g_iload_n hC dX6_choice_20 rfl 1 rfl ?_
    refine g_aald4N (j := x.toInt.toNat) (t := 7 + x.toInt.toNat) (k := 2) hC ly_2 (ic_nI (by omega)) (by omega) (by decide) (fm_z7 _ (by omega)) dX6_choice_21 ?_
    refine g_callV hC (k := 7 + x.toInt.toNat) (ci := 1) (as := []) (rest := []) (c_X1_favouriteHour l D cA b M L (7 + x.toInt.toNat) (g.1.1 0 x.toInt.toNat) (g.1.1 1 x.toInt.toNat) (g.1.1 2 x.toInt.toNat) (g.1.1 3 x.toInt.toNat) (fm_per7 _ (by omega)) (⟨(n1 x.toInt.toNat (by omega)).1, (n1 x.toInt.toNat (by omega)).2.1, (n1 x.toInt.toNat (by omega)).2.2.1, (n1 x.toInt.toNat (by omega)).2.2.2, o1 x.toInt.toNat (by omega)⟩)) ⟨fw_492, fw_484, fw_485, fw_3, fw_486⟩ ⟨rfl, hd_X1_favouriteHour⟩ rfl (fm_per7 _ (by omega)) ⟨Nat.le_of_ble_eq_true rfl, Nat.le_of_ble_eq_true rfl⟩ ⟨Nat.le_of_ble_eq_true rfl, Nat.le_of_ble_eq_true rfl⟩ rfl rfl (Nat.le_of_ble_eq_true rfl) dX6_choice_22 (g_rix ?_)
    refine g_zret (ty := .int) hC rfl rfl dX6_choice_25 ⟨congrArg (fun z => some (Value.int z)) ?_, rfl, rfl⟩
    unfold op_choice; rw [if_pos (by omega)]; rfl
  · skip
    refine g_iconst (v := (-1)) hC dX6_choice_11 rfl ?_
    refine g_zret (ty := .int) hC rfl rfl dX6_choice_12 ⟨congrArg (fun z => some (Value.int z)) ?_, rfl, rfl⟩
    unfold op_choice; rw [if_neg (by omega)]
