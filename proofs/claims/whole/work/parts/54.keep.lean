/-! ===== what each call keeps: a lawful state stays lawful; the other side's state stays ===== -/
theorem RS_fC {M M' : Nat → Nat → Int32} {L L' : Nat → Nat → Int64} {g : Sg} (h : RS M L g) (f : fC M M' L L') : RS M' L' g := by
  obtain ⟨h1, h2, h3, h4, h5⟩ := h
  refine ⟨tR_cong h1 (fun k k1 _ => (f k k1).1), fun z => ?_, ?_, ⟨?_, fun i hi => ?_⟩, fun q hq => ?_⟩
  · rw [(f 72 (by decide)).1]; exact h2 z
  · rw [(f 58 (by decide)).1]; exact h3
  · rw [(f 58 (by decide)).1]; exact h4.1
  · rw [(f 67 (by decide)).1]; exact h4.2 i hi
  · rw [(f 73 (by decide)).1, (f 74 (by decide)).1, (f 75 (by decide)).2]; exact h5 q hq
theorem CS_fR {M M' : Nat → Nat → Int32} {L L' : Nat → Nat → Int64} {g : Sg} (h : CS M L g) (hok : OK g) (f : fR M M' L L') : CS M' L' g :=
  CS_fr h hok (fun k hk => (f k (by omega)).1) (fun k _ k2 => f k k2)
theorem okS {g : Sg} {t : Tn} (h : OK g) (ht : tOK t) : OK (t, g.2) := ⟨ht, h.2⟩
theorem okH {g : Sg} {S : Shs} (h : OK g) (hs : sOK S) : OK (shS g S) := ⟨h.1, h.2.1, h.2.2.1, h.2.2.2.1, hs⟩
theorem okU {g : Sg} (h : OK g) {q n : Nat} {v : Int} {X : Nat → Int64} (h1 : -1 ≤ v) (h2 : v ≤ 2) (h3 : n ≤ 24) : OK (shS g (shU g.2.2.2.2 q v n X)) := okH h (fun r hr => by
  have := h.2.2.2.2 r hr
  by_cases e : r = q
  · subst e; simp only [shU, uF_s]; exact ⟨h1, h2, h3⟩
  · simp only [shU, uF_n e]; exact this)
theorem tk_7 {t : Tn} (ht : tOK t) {i v : Nat} (h0 : i ≠ 0) (h1 : i = 1 → v ≤ t.1 7 1) (h2 : i = 2 → v ≤ 99) (h3 : i = 3 → v ≤ 60) (h4 : i = 4 → v ≤ 60) (h5 : i = 5 → v ≤ 20) (h6 : i = 6 → v ≤ 9999) (h7 : i = 7 → v < 2147483648) : tOK (uN2 t.1 7 i v, t.2) := by
  obtain ⟨o1, o2, o3, o4, o5, o6, o7, o8, o9, o10, o11⟩ := ht
  have s : ∀ c, (uN2 t.1 7 i v, t.2).1 7 c = if c = i then v else t.1 7 c := fun c => by
    show uN2 t.1 7 i v 7 c = _
    by_cases e : c = i
    · rw [if_pos e, e, uN2_s]
    · rw [if_neg e, uN2_n (Or.inr e)]
  have r : ∀ a c, a ≠ 7 → (uN2 t.1 7 i v, t.2).1 a c = t.1 a c := fun a c ha => uN2_n (Or.inl ha)
  refine ⟨fun j hj => ?_, fun j hj => ?_, fun q hq => ?_, ?_, ?_, ?_, ?_, ?_, ?_, ?_, ?_⟩
  · rw [s, if_neg (by omega)] at hj
    rw [r 0 j (by decide), r 1 j (by decide), r 2 j (by decide), r 3 j (by decide)]; exact o1 j hj
  · rw [s] at hj
    rw [r 4 j (by decide), r 5 j (by decide)]
    refine o2 j ?_
    by_cases e : 1 = i
    · rw [if_pos e] at hj; have := h1 e.symm; omega
    · rw [if_neg e] at hj; exact hj
  · rw [r 6 q (by decide)]; exact o3 q hq
  · rw [s, if_neg (by omega)]; exact o4
  · rw [s]; split
    · have := h1 (by omega); omega
    · exact o5
  · rw [s]; split
    · exact h2 (by omega)
    · exact o6
  · rw [s]; split
    · exact h3 (by omega)
    · exact o7
  · rw [s]; split
    · exact h4 (by omega)
    · exact o8
  · rw [s]; split
    · exact h5 (by omega)
    · exact o9
  · rw [s]; split
    · exact h6 (by omega)
    · exact o10
  · rw [s]; split
    · exact h7 (by omega)
    · exact o11
theorem tk_may {t : Tn} (ht : tOK t) {j0 v : Nat} (hv : v < 2) : tOK (uN2 t.1 3 j0 v, t.2) := by
  obtain ⟨o1, o2, o3, o4, o5, o6⟩ := ht
  refine ⟨fun j hj => ?_, fun j hj => ?_, fun q hq => ?_, ?_, ?_, ?_⟩
  · have h9 := o1 j (by simpa [uN2] using hj)
    by_cases e : j = j0
    · subst e; simp [uN2]; exact ⟨h9.1, h9.2.1, h9.2.2.1, hv⟩
    · simp [uN2, e]; exact h9
  · simp [uN2]; exact o2 j (by simpa [uN2] using hj)
  · simp [uN2]; exact o3 q hq
  · simp [uN2]; exact o4
  · simp [uN2]; exact o5
  · simp [uN2]; exact o6
theorem tk_loss {t : Tn} (ht : tOK t) {h0 v : Nat} (hv : v < 100) : tOK (uN2 t.1 6 h0 v, t.2) := by
  obtain ⟨o1, o2, o3, o4, o5, o6⟩ := ht
  refine ⟨fun j hj => ?_, fun j hj => ?_, fun q hq => ?_, ?_, ?_, ?_⟩
  · simp [uN2]; exact o1 j (by simpa [uN2] using hj)
  · simp [uN2]; exact o2 j (by simpa [uN2] using hj)
  · have h9 := o3 q hq
    by_cases e : q = h0
    · subst e; simp [uN2]; exact ⟨hv, h9.2⟩
    · simp [uN2, e]; exact h9
  · simp [uN2]; exact o4
  · simp [uN2]; exact o5
  · simp [uN2]; exact o6
theorem tk_person {t : Tn} (ht : tOK t) (hp : t.1 7 0 < 8) {x y z : Nat} (hx : x < 4) (hy : y < 24) (hz : z < 100) : tOK (uN2 (uN2 (uN2 (uN2 (uN2 t.1 0 (t.1 7 0) x) 1 (t.1 7 0) y) 2 (t.1 7 0) z) 3 (t.1 7 0) 1) 7 0 (t.1 7 0 + 1), t.2) := by
  obtain ⟨o1, o2, o3, o4, o5, o6⟩ := ht
  refine ⟨fun j hj => ?_, fun j hj => ?_, fun q hq => ?_, ?_, ?_, ?_⟩
  · have hj3 : j < t.1 7 0 + 1 := by simpa [uN2] using hj
    by_cases e : j = t.1 7 0
    · subst e; simp [uN2]; exact ⟨hx, hy, hz⟩
    · simp [uN2, e]; exact o1 j (by omega)
  · simp [uN2]; exact o2 j (by simpa [uN2] using hj)
  · simp [uN2]; exact o3 q hq
  · simp [uN2]; omega
  · simp [uN2]; exact o5
  · simp [uN2]; exact o6
theorem tk_train {t : Tn} (ht : tOK t) (hp : t.1 7 1 < 6) {x y : Nat} (hx : x < 24) (hy : y < 100) : tOK (uN2 (uN2 (uN2 t.1 4 (t.1 7 1) x) 5 (t.1 7 1) y) 7 1 (t.1 7 1 + 1), t.2) := by
  obtain ⟨o1, o2, o3, o4, o5, o6⟩ := ht
  refine ⟨fun j hj => ?_, fun j hj => ?_, fun q hq => ?_, ?_, ?_, ?_⟩
  · simp [uN2]; exact o1 j (by simpa [uN2] using hj)
  · have hj3 : j < t.1 7 1 + 1 := by simpa [uN2] using hj
    by_cases e : j = t.1 7 1
    · subst e; simp [uN2]; exact ⟨hx, hy⟩
    · simp [uN2, e]; exact o2 j (by omega)
  · simp [uN2]; exact o3 q hq
  · simp [uN2]; exact o4
  · simp [uN2]; omega
  · simp [uN2]; exact o6
theorem tk_plan {t : Tn} (ht : tOK t) {R : Nat → Int} (hr : ∀ j, j < 24 → -2 ≤ R j ∧ R j ≤ 5) : tOK (t.1, R, t.2.2) := ⟨ht.1, ht.2.1, fun h hh => ⟨(ht.2.2.1 h hh).1, hr h hh⟩, ht.2.2.2⟩
theorem tk_town {t : Tn} (ht : tOK t) {n : Nat} {K : Nat → Nat → Nat} (hn : n ≤ 8) (hK : ∀ j, j < n → K 0 j < 4 ∧ K 1 j < 24 ∧ K 2 j < 100 ∧ K 3 j < 2) : tOK (tnP t n K) := ⟨hK, ht.2.1, ht.2.2.1, hn, ht.2.2.2.2⟩
theorem okT_c {g : Sg} {t : Tn} (h : OK g) (ht : tOK t) : OK (tpC g t) := ⟨ht, h.2.1, h.2.2.1, ⟨Nat.zero_le _, fun i hi => absurd hi (Nat.not_lt_zero _)⟩, h.2.2.2.2⟩
theorem ok_person {g : Sg} (h : OK g) (x y z : Int32) : OK (op_person g x y z).2 := by
  unfold op_person
  split
  · split
    · exact okS h (tk_person h.1 (by omega) (by omega) (by omega) (by omega))
    · exact h
  · exact h
theorem ok_may {g : Sg} (h : OK g) (x y : Int32) : OK (op_may g x y).2 := by
  unfold op_may
  split
  · exact okS h (tk_may h.1 (by omega))
  · exact h
theorem ok_train {g : Sg} (h : OK g) (x y : Int32) : OK (op_train g x y).2 := by
  unfold op_train
  split
  · split
    · exact okS h (tk_train h.1 (by omega) (by omega) (by omega))
    · exact h
  · exact h
theorem ok_strike {g : Sg} (h : OK g) : OK (op_strike g).2 := by
  unfold op_strike
  split
  · exact h
  · exact okS h (tk_7 h.1 (by decide) (by omega) (by omega) (by omega) (by omega) (by omega) (by omega) (by omega))
theorem ok_set {g : Sg} (h : OK g) (x y : Int32) : OK (op_set g x y).2 := by
  unfold op_set
  split
  · rename_i c
    unfold mostS at c
    refine okS h (tk_7 h.1 (by omega) ?_ ?_ ?_ ?_ ?_ ?_ ?_)
    all_goals
      intro e
      by_cases c0 : x.toInt = 0
      · rw [if_pos c0] at c; omega
      · rw [if_neg c0] at c
        by_cases c1 : x.toInt = 1
        · rw [if_pos c1] at c; omega
        · rw [if_neg c1] at c
          by_cases c2 : x.toInt = 2
          · rw [if_pos c2] at c; omega
          · rw [if_neg c2] at c
            by_cases c3 : x.toInt = 3
            · rw [if_pos c3] at c; omega
            · rw [if_neg c3] at c; omega
  · exact h
theorem ok_loss {g : Sg} (h : OK g) (x y : Int32) : OK (op_loss g x y).2 := by
  unfold op_loss
  split
  · exact okS h (tk_loss h.1 (by omega))
  · exact h
theorem ok_lay {g : Sg} (h : OK g) (x y : Int32) : OK (op_lay g x y).2 := by
  unfold op_lay
  split
  · refine okS h (tk_plan h.1 (fun j hj => ?_))
    unfold uP
    split
    · omega
    · exact (h.1.2.2.1 j hj).2
  · exact h
theorem ok_type {g : Sg} (h : OK g) (w : Int64) (n : Int32) : OK (op_type g w n).2 := by
  unfold op_type
  split
  · split
    · rename_i c1 c2
      split
      · refine ⟨h.1, h.2.1, h.2.2.1, ⟨by assumption, fun k hk => ?_⟩, h.2.2.2.2⟩
        show 32 ≤ tyF g.2.2.2.1 w n.toInt.toNat k ∧ tyF g.2.2.2.1 w n.toInt.toNat k ≤ 126
        have hk2 : k < g.2.2.2.1.1 + n.toInt.toNat := hk
        unfold tyF
        split
        · exact h.2.2.2.1.2 k (by assumption)
        · exact c2 _ (by omega)
      · exact h
    · exact h
  · exact h
theorem ok_town {g : Sg} (h : OK g) : OK (op_town g).2 := by
  unfold op_town
  rcases tw_all (T := g.2.2.2.1) with ⟨q, e, _⟩ | ⟨n, K, e, h1, h2⟩
  · rw [e]; exact okT_c h h.1
  · rw [e]; exact okT_c h (tk_town h.1 h1 h2)
theorem ok_plan {g : Sg} (h : OK g) : OK (op_plan g).2 := by
  unfold op_plan
  rcases pl_all (T := g.2.2.2.1) with ⟨q, e, _⟩ | ⟨n, R, e, h1, h2⟩
  · rw [e]; exact okT_c h h.1
  · rw [e]; exact okT_c h (tk_plan h.1 h2)
theorem ok_day {g : Sg} (h : OK g) : OK (op_day g).2 := by
  unfold op_day
  split
  · split
    · exact okS h (tOK_day h.1 (by assumption) _)
    · exact h
  · exact h
theorem ok_spend {g : Sg} (h : OK g) (x : Int32) : OK (op_spend g x).2 := by
  unfold op_spend
  split
  · split
    · exact okS h (sp_ok h.1 (by omega))
    · exact h
  · exact h
theorem ok_lots {g : Sg} (h : OK g) (x : Int32) : OK (op_lots g x).2 := by
  unfold op_lots
  split
  · split
    · exact okS h (lo_ok h.1 (by omega))
    · exact h
  · exact h
theorem ok_seed {g : Sg} (h : OK g) (x : Int32) : OK (op_seed g x).2 := by
  unfold op_seed
  have := ic_rng x
  split
  · exact h
  · exact okS h (tk_7 h.1 (by decide) (by omega) (by omega) (by omega) (by omega) (by omega) (by omega) (by omega))
theorem ok_image {g : Sg} (h : OK g) : OK (op_image g).2 := ⟨h.1, fun _ => h.1, (show 1 < 2 by decide), h.2.2.2⟩
theorem ok_restore {g : Sg} (h : OK g) : OK (op_restore g).2 := by
  unfold op_restore
  split
  · exact okS h (h.2.1 (by assumption))
  · exact h
theorem ok_sheet {g : Sg} (h : OK g) (x y z : Int32) : OK (op_sheet g x y z).2 := by
  unfold op_sheet
  split
  · exact h
  · split
    · exact h
    · exact okU h (by omega) (by omega) (by omega)
theorem ok_drop {g : Sg} (h : OK g) (x : Int32) : OK (op_drop g x).2 := by
  unfold op_drop
  split
  · exact h
  · split
    · exact h
    · have := h.2.2.2.2 x.toInt.toNat (by omega)
      exact okU h (by omega) (by omega) (by omega)
theorem ok_item {g : Sg} (h : OK g) (x y z : Int32) (v : Int64) : OK (op_item g x y z v).2 := by
  unfold op_item
  split
  · exact h
  · rename_i c
    obtain ⟨⟨z1, z2⟩, z3, z4, z5⟩ := shR_0 (Classical.not_not.mp c)
    have := h.2.2.2.2 x.toInt.toNat (by omega)
    exact okU h (by omega) (by omega) (by omega)
theorem ok_film {g : Sg} (h : OK g) (x y z : Int32) : OK (op_film g x y z).2 := by
  unfold op_film
  split
  · exact h
  · rename_i c
    obtain ⟨⟨z1, z2⟩, z3, z4, z5⟩ := shR_0 (Classical.not_not.mp c)
    have := h.2.2.2.2 x.toInt.toNat (by omega)
    exact okU h (by omega) (by omega) (by omega)
theorem ok_build {g : Sg} (h : OK g) (x y z : Int32) : OK (op_build g x y z).2 := by
  unfold op_build
  split
  · exact h
  · split
    · exact okS h (tk_plan h.1 (by assumption))
    · exact h
theorem ok_copy {g : Sg} (h : OK g) (x i y j n : Int32) : OK (op_copy g x i y j n).2 := by
  unfold op_copy
  split
  · exact h
  · split
    · exact h
    · split
      · exact h
      · split
        · exact h
        · have := h.2.2.2.2 y.toInt.toNat (by omega)
          exact okU h (by omega) (by omega) (by omega)
/-! the state at first -/
def t00 : Tn := ((fun i j => if i = 6 then 5 else if i = 7 then (if j = 2 then 11 else if j = 5 then 1 else if j = 7 then 1 else 0) else 0), (fun _ => 0), 0)
def g00 : Sg := (t00, t00, 0, (0, fun _ => 0), ((fun _ => -1), (fun _ => 0), fun _ _ => 0))
theorem ok_00 : OK g00 := ⟨⟨fun j hj => absurd hj (Nat.not_lt_zero _), fun j hj => absurd hj (Nat.not_lt_zero _), by decide +kernel, by decide, by decide, by decide, by decide, by decide, by decide, by decide, by decide⟩, fun h => absurd h (by decide), by decide, ⟨by decide, fun i hi => absurd hi (Nat.not_lt_zero _)⟩, fun q hq => ⟨(show (-1 : Int) ≤ -1 by decide), (show (-1 : Int) ≤ 2 by decide), Nat.zero_le _⟩⟩
