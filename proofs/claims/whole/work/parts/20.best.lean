/-! ===== the best plan ===== -/
def cand (t : Tn) (f : Nat → Option Int) (h late i : Nat) : Option Int := if 2 ≤ late + i then (match f (late + i - 2) with | none => none | some x => some (gA t h ((i : Int) - 2) + x)) else none
def omax (a c : Option Int) : Option Int := match a with
  | none => c
  | some x => match c with
    | none => some x
    | some y => some (if x < y then y else x)
def bestO (f : Nat → Option Int) : Nat → Option Int
  | 0 => none
  | n + 1 => omax (bestO f n) (f n)
def bV (t : Tn) (e : Bool) : Nat → Nat → Option Int
  | 0, late => if late ≤ t.1 7 2 ∧ (e = false ∨ late = 0) then some 0 else none
  | k + 1, late => if late ≤ mlS t (23 - k) then bestO (cand t (bV t e k) (23 - k) late) 8 else none
theorem bV_jar {t : Tn} {e : Bool} {x : Int} : ∀ {k late : Nat}, bV t e k late = some x → late ≤ t.1 7 2
  | 0, late, h => by
    simp only [bV] at h
    split at h
    · rename_i q; exact q.1
    · cases h
  | k + 1, late, h => by
    simp only [bV] at h
    split at h
    · rename_i q; have := mlS_le t (23 - k); omega
    · cases h
theorem bV_none {t : Tn} {e : Bool} {k late : Nat} (h : t.1 7 2 < late) : bV t e k late = none := by
  cases q : bV t e k late with
  | none => rfl
  | some x => have := bV_jar q; omega
theorem bestO_mem {f : Nat → Option Int} {x : Int} : ∀ {n : Nat}, bestO f n = some x → ∃ i, i < n ∧ f i = some x
  | 0, h => by cases h
  | n + 1, h => by
    simp only [bestO] at h
    cases h1 : bestO f n with
    | none =>
      rw [h1] at h
      exact ⟨n, by omega, h⟩
    | some a =>
      rw [h1] at h
      cases h2 : f n with
      | none =>
        rw [h2] at h
        obtain ⟨i, hi, hf⟩ := bestO_mem (h1.trans h)
        exact ⟨i, by omega, hf⟩
      | some c =>
        rw [h2] at h
        simp only [omax] at h
        split at h
        · cases h; exact ⟨n, by omega, h2⟩
        · cases h
          obtain ⟨i, hi, hf⟩ := bestO_mem h1
          exact ⟨i, by omega, hf⟩
theorem bestO_some {f : Nat → Option Int} : ∀ {n i : Nat}, i < n → f i ≠ none → bestO f n ≠ none
  | 0, _, h, _ => by omega
  | n + 1, i, h, hf => by
    intro hn
    simp only [bestO] at hn
    rcases Nat.lt_or_ge i n with q | q
    · cases h1 : bestO f n with
      | none => exact bestO_some q hf h1
      | some a =>
        rw [h1] at hn
        cases h2 : f n with
        | none => rw [h2] at hn; cases hn
        | some c => rw [h2] at hn; cases hn
    · have e : i = n := by omega
      subst e
      cases h2 : f i with
      | none => exact hf h2
      | some c =>
        rw [h2] at hn
        cases h1 : bestO f i with
        | none => rw [h1] at hn; cases hn
        | some a => rw [h1] at hn; cases hn
theorem gA_bd {t : Tn} (ht : tOK t) {h : Nat} (hh : h < 24) {v : Int} (h1 : -2 ≤ v) (h2 : v ≤ 5) : -198 ≤ gA t h v ∧ gA t h v ≤ 3960 := by
  have hl := (ht.2.2.1 h hh).1
  unfold gA
  split
  · rcases (show v = -1 ∨ v = -2 by omega) with rfl | rfl <;> omega
  · have hb : sumN (gAf t h v.toNat) (t.1 7 0) ≤ 495 * t.1 7 0 := by
      refine sumN_le (fun j hj => ?_)
      have hw := (ht.1 j hj).2.2.1
      unfold gAf
      split
      · have hk : sumN (fun k => woN t j h k) v.toNat ≤ 99 * v.toNat := sumN_le (fun k _ => by have := woN_le (t := t) (j := j) (hour := h) (k := k); omega)
        omega
      · omega
    have hp : t.1 7 0 ≤ 8 := ht.2.2.2.1
    omega
theorem cand_some {t : Tn} {f : Nat → Option Int} {h late i : Nat} {x : Int} (q : cand t f h late i = some x) : 2 ≤ late + i ∧ ∃ y, f (late + i - 2) = some y ∧ x = gA t h ((i : Int) - 2) + y := by
  unfold cand at q
  split at q
  · rename_i h2
    cases hf : f (late + i - 2) with
    | none => rw [hf] at q; cases q
    | some y => rw [hf] at q; cases q; exact ⟨h2, y, rfl, rfl⟩
  · cases q
theorem bV_bd {t : Tn} (ht : tOK t) {e : Bool} : ∀ {k late : Nat} {x : Int}, k ≤ 24 → bV t e k late = some x → -198 * (k : Int) ≤ x ∧ x ≤ 3960 * (k : Int)
  | 0, late, x, _, h => by
    simp only [bV] at h
    split at h
    · cases h; omega
    · cases h
  | k + 1, late, x, hk, h => by
    simp only [bV] at h
    split at h
    · obtain ⟨i, hi, hc⟩ := bestO_mem h
      obtain ⟨-, y, hy, rfl⟩ := cand_some hc
      have h1 := bV_bd ht (by omega) hy
      have h2 := gA_bd ht (show 23 - k < 24 by omega) (show -2 ≤ (i : Int) - 2 by omega) (show (i : Int) - 2 ≤ 5 by omega)
      omega
    · cases h
theorem cand_bd {t : Tn} (ht : tOK t) {e : Bool} {h k late i : Nat} {x : Int} (hh : h < 24) (hi : i < 8) (hk : k < 24) (q : cand t (bV t e k) h late i = some x) : -4752 ≤ x ∧ x ≤ 95040 := by
  obtain ⟨-, y, hy, rfl⟩ := cand_some q
  have h1 := bV_bd ht (by omega) hy
  have h2 := gA_bd ht hh (show -2 ≤ (i : Int) - 2 by omega) (show (i : Int) - 2 ≤ 5 by omega)
  omega
theorem best_bd {t : Tn} (ht : tOK t) {e : Bool} {h k late n : Nat} {x : Int} (hh : h < 24) (hn : n ≤ 8) (hk : k < 24) (q : bestO (cand t (bV t e k) h late) n = some x) : -4752 ≤ x ∧ x ≤ 95040 := by
  obtain ⟨i, hi, hc⟩ := bestO_mem q
  exact cand_bd ht hh (by omega) hk hc
theorem bV_0 {t : Tn} {e : Bool} : ∀ k, bV t e k 0 ≠ none
  | 0 => by
    simp only [bV]
    rw [if_pos ⟨Nat.zero_le _, Or.inr trivial⟩]
    intro h; cases h
  | k + 1 => by
    simp only [bV]
    rw [if_pos (Nat.zero_le _)]
    refine bestO_some (i := 2) (by omega) ?_
    unfold cand
    rw [if_pos (by omega)]
    have := bV_0 (t := t) (e := e) k
    show (match bV t e k 0 with | none => none | some x => some (gA t (23 - k) (((2 : Nat) : Int) - 2) + x)) ≠ none
    cases h : bV t e k 0 with
    | none => exact absurd h this
    | some x => intro h; cases h
/-- the first of eight -/
def pk8 (f : Nat → Option Int) (x : Option Int) : Nat := if f 0 = x then 0 else if f 1 = x then 1 else if f 2 = x then 2 else if f 3 = x then 3 else if f 4 = x then 4 else if f 5 = x then 5 else if f 6 = x then 6 else 7
theorem pk8_is {f : Nat → Option Int} {x : Option Int} {i : Nat} (hi : i < 8) (h : f i = x) (hn : ∀ j, j < i → f j ≠ x) : pk8 f x = i := by
  unfold pk8
  rcases (show i = 0 ∨ i = 1 ∨ i = 2 ∨ i = 3 ∨ i = 4 ∨ i = 5 ∨ i = 6 ∨ i = 7 by omega) with rfl | rfl | rfl | rfl | rfl | rfl | rfl | rfl
  · rw [if_pos h]
  · rw [if_neg (hn 0 (by omega)), if_pos h]
  · rw [if_neg (hn 0 (by omega)), if_neg (hn 1 (by omega)), if_pos h]
  · rw [if_neg (hn 0 (by omega)), if_neg (hn 1 (by omega)), if_neg (hn 2 (by omega)), if_pos h]
  · rw [if_neg (hn 0 (by omega)), if_neg (hn 1 (by omega)), if_neg (hn 2 (by omega)), if_neg (hn 3 (by omega)), if_pos h]
  · rw [if_neg (hn 0 (by omega)), if_neg (hn 1 (by omega)), if_neg (hn 2 (by omega)), if_neg (hn 3 (by omega)), if_neg (hn 4 (by omega)), if_pos h]
  · rw [if_neg (hn 0 (by omega)), if_neg (hn 1 (by omega)), if_neg (hn 2 (by omega)), if_neg (hn 3 (by omega)), if_neg (hn 4 (by omega)), if_neg (hn 5 (by omega)), if_pos h]
  · rw [if_neg (hn 0 (by omega)), if_neg (hn 1 (by omega)), if_neg (hn 2 (by omega)), if_neg (hn 3 (by omega)), if_neg (hn 4 (by omega)), if_neg (hn 5 (by omega)), if_neg (hn 6 (by omega))]
theorem pk8_ex {f : Nat → Option Int} {x : Option Int} (h : ∃ i, i < 8 ∧ f i = x) : pk8 f x < 8 ∧ f (pk8 f x) = x := by
  obtain ⟨i, hi, hf⟩ := h
  unfold pk8
  by_cases h0 : f 0 = x
  · rw [if_pos h0]; exact ⟨by omega, h0⟩
  · rw [if_neg h0]
    by_cases h1 : f 1 = x
    · rw [if_pos h1]; exact ⟨by omega, h1⟩
    · rw [if_neg h1]
      by_cases h2 : f 2 = x
      · rw [if_pos h2]; exact ⟨by omega, h2⟩
      · rw [if_neg h2]
        by_cases h3 : f 3 = x
        · rw [if_pos h3]; exact ⟨by omega, h3⟩
        · rw [if_neg h3]
          by_cases h4 : f 4 = x
          · rw [if_pos h4]; exact ⟨by omega, h4⟩
          · rw [if_neg h4]
            by_cases h5 : f 5 = x
            · rw [if_pos h5]; exact ⟨by omega, h5⟩
            · rw [if_neg h5]
              by_cases h6 : f 6 = x
              · rw [if_pos h6]; exact ⟨by omega, h6⟩
              · rw [if_neg h6]
                refine ⟨by omega, ?_⟩
                rcases (show i = 0 ∨ i = 1 ∨ i = 2 ∨ i = 3 ∨ i = 4 ∨ i = 5 ∨ i = 6 ∨ i = 7 by omega) with rfl | rfl | rfl | rfl | rfl | rfl | rfl | rfl <;> first | contradiction | exact hf
def bL (t : Tn) (e : Bool) : Nat → Nat
  | 0 => 0
  | h + 1 => bL t e h + pk8 (cand t (bV t e (23 - h)) h (bL t e h)) (bV t e (24 - h) (bL t e h)) - 2
def bP (t : Tn) (e : Bool) (h : Nat) : Nat := pk8 (cand t (bV t e (23 - h)) h (bL t e h)) (bV t e (24 - h) (bL t e h))
def bRow (t : Tn) (e : Bool) (h : Nat) : Int := (bP t e h : Int) - 2
def bVal (t : Tn) (e : Bool) : Int := (bV t e 24 0).getD 0
theorem bV_s {t : Tn} {e : Bool} {h late : Nat} (hh : h < 24) : bV t e (24 - h) late = if late ≤ mlS t h then bestO (cand t (bV t e (23 - h)) h late) 8 else none := by
  have e1 : 24 - h = (23 - h) + 1 := by omega
  rw [e1]
  simp only [bV]
  rw [show 23 - (23 - h) = h by omega]
theorem bL_pick {t : Tn} {e : Bool} {h : Nat} (hh : h < 24) (ha : bV t e (24 - h) (bL t e h) ≠ none) : bP t e h < 8 ∧ cand t (bV t e (23 - h)) h (bL t e h) (bP t e h) = bV t e (24 - h) (bL t e h) := by
  refine pk8_ex ?_
  cases q : bV t e (24 - h) (bL t e h) with
  | none => exact absurd q ha
  | some x =>
    have q2 := q
    rw [bV_s hh] at q2
    split at q2
    · exact bestO_mem q2
    · cases q2
theorem bL_step {t : Tn} {e : Bool} {h : Nat} (hh : h < 24) (ha : bV t e (24 - h) (bL t e h) ≠ none) : 2 ≤ bL t e h + bP t e h ∧ bL t e (h + 1) = bL t e h + bP t e h - 2 ∧ bV t e (23 - h) (bL t e (h + 1)) ≠ none := by
  obtain ⟨p1, p2⟩ := bL_pick hh ha
  cases q : bV t e (24 - h) (bL t e h) with
  | none => exact absurd q ha
  | some x =>
    rw [q] at p2
    obtain ⟨c1, y, c2, -⟩ := cand_some p2
    refine ⟨c1, rfl, ?_⟩
    show bV t e (23 - h) (bL t e h + bP t e h - 2) ≠ none
    rw [c2]; intro z; cases z
theorem bL_alive {t : Tn} {e : Bool} : ∀ {h : Nat}, h ≤ 24 → bV t e (24 - h) (bL t e h) ≠ none
  | 0, _ => bV_0 24
  | h + 1, hh => by
    have := (bL_step (by omega) (bL_alive (t := t) (e := e) (h := h) (by omega))).2.2
    rwa [show 23 - h = 24 - (h + 1) by omega] at this
theorem bL_jar {t : Tn} {e : Bool} {h : Nat} (hh : h ≤ 24) : bL t e h ≤ t.1 7 2 := by
  have := bL_alive (t := t) (e := e) hh
  cases q : bV t e (24 - h) (bL t e h) with
  | none => exact absurd q this
  | some x => exact bV_jar q
theorem bRow_late {t : Tn} {e : Bool} : ∀ {h : Nat}, h ≤ 24 → lateS (bRow t e) h = (bL t e h : Int)
  | 0, _ => rfl
  | h + 1, hh => by
    have h1 := bRow_late (t := t) (e := e) (h := h) (by omega)
    obtain ⟨s1, s2, -⟩ := bL_step (by omega) (bL_alive (t := t) (e := e) (h := h) (by omega))
    simp only [lateS]
    rw [h1, s2]
    unfold bRow
    omega
theorem bRow_b {t : Tn} {e : Bool} {h : Nat} (hh : h < 24) : -2 ≤ bRow t e h ∧ bRow t e h ≤ 5 := by
  have := (bL_pick hh (bL_alive (t := t) (e := e) (h := h) (by omega))).1
  unfold bRow
  omega
theorem bRow_end (t : Tn) (e : Bool) : 0 ≤ lateS (bRow t e) 24 ∧ lateS (bRow t e) 24 ≤ (t.1 7 2 : Int) := by
  rw [bRow_late (by omega)]
  have := bL_jar (t := t) (e := e) (h := 24) (by omega)
  omega
theorem bVal_is {t : Tn} {e : Bool} : bV t e 24 0 = some (bVal t e) := by
  unfold bVal
  cases q : bV t e 24 0 with
  | none => exact absurd q (bV_0 24)
  | some x => rfl
def encC (a : Option Int) : Int32 := match a with
  | none => -100000000
  | some x => Int32.ofInt x
def encR (a : Option Int) : Int32 := match a with
  | none => -1000000000
  | some x => Int32.ofInt x
def smO (a : Option Int) : Prop := ∀ x, a = some x → -4752 ≤ x ∧ x ≤ 95040
theorem encC_n {a : Option Int} (h : smO a) : (encC a).toInt = -100000000 ↔ a = none := by
  cases a with
  | none => exact ⟨fun _ => rfl, fun _ => rfl⟩
  | some x =>
    have := h x rfl
    show (Int32.ofInt x).toInt = _ ↔ _
    rw [oI_t (by omega) (by omega)]
    constructor
    · intro q; omega
    · intro q; cases q
theorem encR_n {a : Option Int} (h : smO a) : (encR a).toInt = -1000000000 ↔ a = none := by
  cases a with
  | none => exact ⟨fun _ => rfl, fun _ => rfl⟩
  | some x =>
    have := h x rfl
    show (Int32.ofInt x).toInt = _ ↔ _
    rw [oI_t (by omega) (by omega)]
    constructor
    · intro q; omega
    · intro q; cases q
theorem encR_lo {a : Option Int} (h : smO a) : -1000000000 ≤ (encR a).toInt := by
  cases a with
  | none => exact Int.le_refl _
  | some x =>
    have := h x rfl
    show _ ≤ (Int32.ofInt x).toInt
    rw [oI_t (by omega) (by omega)]; omega
theorem encC_max {a c : Option Int} (ha : smO a) (hc : smO c) : (if encC a < encC c then encC c else encC a) = encC (omax a c) := by
  cases a with
  | none =>
    cases c with
    | none => simp [omax]
    | some y =>
      have := hc y rfl
      have hl : (-100000000 : Int32) < Int32.ofInt y := (ic_lt _ _).mpr (by rw [oI_t (by omega) (by omega)]; show (-100000000 : Int) < y; omega)
      show (if (-100000000 : Int32) < Int32.ofInt y then Int32.ofInt y else -100000000) = Int32.ofInt y
      rw [if_pos hl]
  | some x =>
    have hx := ha x rfl
    cases c with
    | none =>
      have hl : ¬ Int32.ofInt x < (-100000000 : Int32) := fun q => by
        have q2 := (ic_lt _ _).mp q
        rw [oI_t (by omega) (by omega)] at q2
        have q3 : x < (-100000000 : Int) := q2
        omega
      show (if Int32.ofInt x < (-100000000 : Int32) then (-100000000 : Int32) else Int32.ofInt x) = Int32.ofInt x
      rw [if_neg hl]
    | some y =>
      have hy := hc y rfl
      show (if Int32.ofInt x < Int32.ofInt y then Int32.ofInt y else Int32.ofInt x) = Int32.ofInt (if x < y then y else x)
      have hi : Int32.ofInt x < Int32.ofInt y ↔ x < y := by rw [ic_lt, oI_t (by omega) (by omega), oI_t (by omega) (by omega)]
      by_cases q : x < y
      · rw [if_pos (hi.mpr q), if_pos q]
      · rw [if_neg (fun z => q (hi.mp z)), if_neg q]
theorem sm_best {t : Tn} (ht : tOK t) {e : Bool} {h k late n : Nat} (hh : h < 24) (hn : n ≤ 8) (hk : k < 24) : smO (bestO (cand t (bV t e k) h late) n) := fun _ q => best_bd ht hh hn hk q
theorem sm_cand {t : Tn} (ht : tOK t) {e : Bool} {h k late i : Nat} (hh : h < 24) (hi : i < 8) (hk : k < 24) : smO (cand t (bV t e k) h late i) := fun _ q => cand_bd ht hh hi hk q
theorem sm_bV {t : Tn} (ht : tOK t) {e : Bool} {k late : Nat} (hk : k ≤ 24) : smO (bV t e k late) := fun x q => by
  have := bV_bd ht hk q
  omega
theorem encC_inj {a c : Option Int} (ha : smO a) (hc : smO c) : (encC a).toInt = (encC c).toInt ↔ a = c := by
  cases a with
  | none =>
    constructor
    · intro q; exact ((encC_n hc).mp q.symm).symm
    · intro q; rw [q]
  | some x =>
    cases c with
    | none =>
      constructor
      · intro q; exact (encC_n ha).mp q
      · intro q; rw [q]
    | some y =>
      have hx := ha x rfl
      have hy := hc y rfl
      show (Int32.ofInt x).toInt = (Int32.ofInt y).toInt ↔ _
      rw [oI_t (by omega) (by omega), oI_t (by omega) (by omega)]
      constructor
      · intro q; rw [q]
      · intro q; cases q; rfl
theorem tw_ok {t : Tn} (h : tOK t) (u : Int) : tOK (tw t u) := by
  obtain ⟨o1, o2, o3, o4⟩ := h
  refine ⟨fun j hj => ?_, fun j hj => ?_, fun q hq => ?_, ?_⟩
  · rw [tw_n t u (by omega), tw_n t u (by omega), tw_n t u (by omega)]
    rw [tw_n t u (by omega)] at hj
    have := o1 j hj
    refine ⟨this.1, this.2.1, this.2.2.1, ?_⟩
    unfold tw
    simp only
    split <;> omega
  · rw [tw_n t u (by omega), tw_n t u (by omega)]
    rw [tw_n t u (by omega)] at hj
    exact o2 j hj
  · rw [tw_n t u (by omega)]; exact o3 q hq
  · simpa [tw] using o4
