/-! ===== THE STATE: a town t (t.1 0..3 j kind, hour, weight, may of the j-th; t.1 4, 5 j the j-th train; t.1 6 h loss; t.1 7: people, trains, jar, leak, term, due, days, draw; t.2.1 the plan; t.2.2 happiness); a state: now, kept, whether kept, tape, sheets ===== -/
abbrev Tn : Type := (Nat → Nat → Nat) × (Nat → Int) × Int32
abbrev Sg : Type := Tn × Tn × Nat × (Nat × (Nat → Nat)) × ((Nat → Int) × (Nat → Nat) × (Nat → Nat → Int64))
def uN2 (N : Nat → Nat → Nat) (i j v : Nat) : Nat → Nat → Nat := fun a c => if a = i ∧ c = j then v else N a c
theorem uN2_s {N : Nat → Nat → Nat} {i j v : Nat} : uN2 N i j v i j = v := by simp [uN2]
theorem uN2_n {N : Nat → Nat → Nat} {i j v a c : Nat} (h : a ≠ i ∨ c ≠ j) : uN2 N i j v a c = N a c := by
  unfold uN2; rw [if_neg]; rintro ⟨h1, h2⟩; rcases h with h | h <;> contradiction
def uP (P : Nat → Int) (i : Nat) (v : Int) : Nat → Int := fun a => if a = i then v else P a
def tC (M : Nat → Nat → Int32) (T : Nat) (t : Tn) : Prop :=
  (∀ j, j < t.1 7 0 → M (T + 6 + j) 0 = nI (t.1 0 j) ∧ M (T + 6 + j) 1 = nI (t.1 1 j) ∧ M (T + 6 + j) 2 = nI (t.1 2 j) ∧ M (T + 6 + j) 3 = nI (t.1 3 j)) ∧
  (∀ j, j < t.1 7 1 → M (T + 2) j = nI (t.1 4 j) ∧ M (T + 3) j = nI (t.1 5 j)) ∧
  (∀ h, h < 24 → M (T + 4) h = nI (t.1 6 h) ∧ M (T + 5) h = Int32.ofInt (t.2.1 h)) ∧
  M T 1 = nI (t.1 7 0) ∧ M T 4 = nI (t.1 7 1) ∧ M T 7 = nI (t.1 7 2) ∧ M T 8 = nI (t.1 7 3) ∧ M T 9 = nI (t.1 7 4) ∧ M T 10 = nI (t.1 7 5) ∧ M T 11 = nI (t.1 7 6) ∧ M T 12 = t.2.2 ∧ M T 13 = nI (t.1 7 7)
def tR (M : Nat → Nat → Int32) (t : Tn) : Prop :=
  (∀ j, j < t.1 7 0 → M 59 j = nI (t.1 0 j) ∧ M 60 j = nI (t.1 1 j) ∧ M 61 j = nI (t.1 2 j) ∧ M 62 j = nI (t.1 3 j)) ∧
  (∀ j, j < t.1 7 1 → M 63 j = nI (t.1 4 j) ∧ M 64 j = nI (t.1 5 j)) ∧
  (∀ h, h < 24 → M 65 h = nI (t.1 6 h) ∧ M 66 h = Int32.ofInt (t.2.1 h)) ∧
  M 58 4 = nI (t.1 7 0) ∧ M 58 7 = nI (t.1 7 1) ∧ M 58 10 = nI (t.1 7 2) ∧ M 58 11 = nI (t.1 7 3) ∧ M 58 12 = nI (t.1 7 4) ∧ M 58 13 = nI (t.1 7 5) ∧ M 58 14 = nI (t.1 7 6) ∧ M 58 15 = t.2.2 ∧ M 58 16 = nI (t.1 7 7)
/-- what the check keeps of a town -/
def tK (f : Nat → Int32) (t : Tn) : Prop :=
  (∀ j, j < t.1 7 0 → f j = nI (t.1 0 j) ∧ f (8 + j) = nI (t.1 1 j) ∧ f (16 + j) = nI (t.1 2 j) ∧ f (24 + j) = nI (t.1 3 j)) ∧
  (∀ j, j < t.1 7 1 → f (32 + j) = nI (t.1 4 j) ∧ f (38 + j) = nI (t.1 5 j)) ∧
  (∀ h, h < 24 → f (44 + h) = nI (t.1 6 h) ∧ f (68 + h) = Int32.ofInt (t.2.1 h)) ∧
  f 92 = nI (t.1 7 0) ∧ f 93 = nI (t.1 7 1) ∧ f 94 = nI (t.1 7 2) ∧ f 95 = nI (t.1 7 3) ∧ f 96 = nI (t.1 7 4) ∧ f 97 = nI (t.1 7 5) ∧ f 98 = nI (t.1 7 6) ∧ f 99 = t.2.2 ∧ f 100 = nI (t.1 7 7)
def tOK (t : Tn) : Prop :=
  (∀ j, j < t.1 7 0 → t.1 0 j < 4 ∧ t.1 1 j < 24 ∧ t.1 2 j < 100 ∧ t.1 3 j < 2) ∧ (∀ j, j < t.1 7 1 → t.1 4 j < 24 ∧ t.1 5 j < 100) ∧ (∀ h, h < 24 → t.1 6 h < 100 ∧ -2 ≤ t.2.1 h ∧ t.2.1 h ≤ 5) ∧
  t.1 7 0 ≤ 8 ∧ t.1 7 1 ≤ 6 ∧ t.1 7 2 ≤ 99 ∧ t.1 7 3 ≤ 60 ∧ t.1 7 4 ≤ 60 ∧ t.1 7 5 ≤ 20 ∧ t.1 7 6 ≤ 9999 ∧ t.1 7 7 < 2147483648
def pC (M : Nat → Nat → Int32) (T : Nat × (Nat → Nat)) : Prop := M 29 1 = nI T.1 ∧ ∀ i, i < T.1 → M 30 i = nI (T.2 i)
def pR (M : Nat → Nat → Int32) (T : Nat × (Nat → Nat)) : Prop := M 58 18 = nI T.1 ∧ ∀ i, i < T.1 → M 67 i = nI (T.2 i)
def pOK (T : Nat × (Nat → Nat)) : Prop := T.1 ≤ 140 ∧ ∀ i, i < T.1 → 32 ≤ T.2 i ∧ T.2 i ≤ 126
def sC (M : Nat → Nat → Int32) (L : Nat → Nat → Int64) (S : (Nat → Int) × (Nat → Nat) × (Nat → Nat → Int64)) : Prop :=
  ∀ q, q < 4 → M (50 + 2 * q) 0 = Int32.ofInt (S.1 q) ∧ (0 ≤ S.1 q → M (50 + 2 * q) 1 = nI (S.2.1 q) ∧ ∀ i, i < 24 → L (51 + 2 * q) i = S.2.2 q i)
def sR (M : Nat → Nat → Int32) (L : Nat → Nat → Int64) (S : (Nat → Int) × (Nat → Nat) × (Nat → Nat → Int64)) : Prop :=
  ∀ q, q < 4 → M 73 q = Int32.ofInt (S.1 q) ∧ (0 ≤ S.1 q → M 74 q = nI (S.2.1 q) ∧ ∀ i, i < 24 → L 75 (24 * q + i) = S.2.2 q i)
def sOK (S : (Nat → Int) × (Nat → Nat) × (Nat → Nat → Int64)) : Prop := ∀ q, q < 4 → -1 ≤ S.1 q ∧ S.1 q ≤ 2 ∧ S.2.1 q ≤ 24
/-- the class is in state g, the check is in state g -/
def CS (M : Nat → Nat → Int32) (L : Nat → Nat → Int64) (g : Sg) : Prop := tC M 1 g.1 ∧ (g.2.2.1 = 1 → tC M 15 g.2.1) ∧ M 0 2 = nI g.2.2.1 ∧ pC M g.2.2.2.1 ∧ sC M L g.2.2.2.2
def RS (M : Nat → Nat → Int32) (L : Nat → Nat → Int64) (g : Sg) : Prop := tR M g.1 ∧ (g.2.2.1 = 1 → tK (M 72) g.2.1) ∧ M 58 26 = nI g.2.2.1 ∧ pR M g.2.2.2.1 ∧ sR M L g.2.2.2.2
def OK (g : Sg) : Prop := tOK g.1 ∧ (g.2.2.1 = 1 → tOK g.2.1) ∧ g.2.2.1 < 2 ∧ pOK g.2.2.2.1 ∧ sOK g.2.2.2.2
/-- nothing of the check has moved; nothing of the class has -/
def fC (M M' : Nat → Nat → Int32) (L L' : Nat → Nat → Int64) : Prop := ∀ k, 58 ≤ k → M' k = M k ∧ L' k = L k
def fR (M M' : Nat → Nat → Int32) (L L' : Nat → Nat → Int64) : Prop := ∀ k, k < 58 → M' k = M k ∧ L' k = L k
theorem tC_cong {M M' : Nat → Nat → Int32} {T : Nat} {t : Tn} (h : tC M T t) (ht : t.1 7 0 ≤ 8) (e : ∀ k, T ≤ k → k < T + 14 → M' k = M k) : tC M' T t := by
  obtain ⟨h1, h2, h3, h4⟩ := h
  refine ⟨fun j hj => ?_, fun j hj => ?_, fun q hq => ?_, ?_⟩
  · rw [e (T + 6 + j) (by omega) (by omega)]; exact h1 j hj
  · rw [e (T + 2) (by omega) (by omega), e (T + 3) (by omega) (by omega)]; exact h2 j hj
  · rw [e (T + 4) (by omega) (by omega), e (T + 5) (by omega) (by omega)]; exact h3 q hq
  · rw [e T (by omega) (by omega)]; exact h4
theorem tR_cong {M M' : Nat → Nat → Int32} {t : Tn} (h : tR M t) (e : ∀ k, 58 ≤ k → k < 67 → M' k = M k) : tR M' t := by
  obtain ⟨h1, h2, h3, h4⟩ := h
  refine ⟨fun j hj => ?_, fun j hj => ?_, fun q hq => ?_, ?_⟩
  · rw [e 59 (by omega) (by omega), e 60 (by omega) (by omega), e 61 (by omega) (by omega), e 62 (by omega) (by omega)]; exact h1 j hj
  · rw [e 63 (by omega) (by omega), e 64 (by omega) (by omega)]; exact h2 j hj
  · rw [e 65 (by omega) (by omega), e 66 (by omega) (by omega)]; exact h3 q hq
  · rw [e 58 (by omega) (by omega)]; exact h4
theorem pC_cong {M M' : Nat → Nat → Int32} {T : Nat × (Nat → Nat)} (h : pC M T) (e : M' 29 = M 29) (e2 : M' 30 = M 30) : pC M' T := by unfold pC; rw [e, e2]; exact h
theorem sC_cong {M M' : Nat → Nat → Int32} {L L' : Nat → Nat → Int64} {S : (Nat → Int) × (Nat → Nat) × (Nat → Nat → Int64)} (h : sC M L S) (e : ∀ k, 50 ≤ k → k < 58 → M' k = M k ∧ L' k = L k) : sC M' L' S := fun q hq => by
  rw [(e (50 + 2 * q) (by omega) (by omega)).1, (e (51 + 2 * q) (by omega) (by omega)).2]; exact h q hq
/-- the class's state, where only cells of the town that is now, and of what is made anew at each call, have moved -/
theorem CS_now {M M' : Nat → Nat → Int32} {L L' : Nat → Nat → Int64} {g : Sg} (h : CS M L g) (hok : OK g) {t : Tn} (hn : tC M' 1 t) (e : ∀ k, (k = 0 ∨ 15 ≤ k) → k < 31 → M' k = M k) (e2 : ∀ k, 50 ≤ k → k < 58 → M' k = M k ∧ L' k = L k) : CS M' L' (t, g.2) := by
  obtain ⟨h1, h2, h3, h4, h5⟩ := h
  refine ⟨hn, fun q => tC_cong (h2 q) ((hok.2.1 q).2.2.2.1) (fun k k1 k2 => e k (by omega) (by omega)), ?_, pC_cong h4 (e 29 (by omega) (by omega)) (e 30 (by omega) (by omega)), sC_cong h5 e2⟩
  rw [e 0 (by omega) (by omega)]; exact h3
theorem RS_now {M M' : Nat → Nat → Int32} {L L' : Nat → Nat → Int64} {g : Sg} (h : RS M L g) {t : Tn} (hn : tR M' t) (e0 : ∀ i, 17 ≤ i → i ≠ 19 → i ≠ 20 → i ≠ 22 → M' 58 i = M 58 i) (e : ∀ k, (k = 67 ∨ k = 72 ∨ k = 73 ∨ k = 74) → M' k = M k) (e2 : L' 75 = L 75) : RS M' L' (t, g.2) := by
  obtain ⟨h1, h2, h3, h4, h5⟩ := h
  refine ⟨hn, fun q => ?_, ?_, ⟨?_, fun i hi => ?_⟩, fun q hq => ?_⟩
  · rw [e 72 (by omega)]; exact h2 q
  · rw [e0 26 (by omega) (by omega) (by omega) (by omega)]; exact h3
  · rw [e0 18 (by omega) (by omega) (by omega) (by omega)]; exact h4.1
  · rw [e 67 (by omega)]; exact h4.2 i hi
  · rw [e 73 (by omega), e 74 (by omega), e2]; exact h5 q hq
theorem fC_rf {M : Nat → Nat → Int32} {L : Nat → Nat → Int64} : fC M M L L := fun _ _ => ⟨rfl, rfl⟩
theorem fR_rf {M : Nat → Nat → Int32} {L : Nat → Nat → Int64} : fR M M L L := fun _ _ => ⟨rfl, rfl⟩
theorem fm_upn {M : Nat → Nat → Int32} {k i j : Nat} {v : Int32} (h : j ≠ k) : fm_up M k i v j = M j := fm_row_n h
theorem fm_ups {M : Nat → Nat → Int32} {k i : Nat} {v : Int32} : fm_up M k i v k i = v := by simp [fm_up, fm_row, upd]
theorem fm_upx {M : Nat → Nat → Int32} {k i j : Nat} {v : Int32} (h : j ≠ i) : fm_up M k i v k j = M k j := by simp [fm_up, fm_row, upd, h]
/-! the ints of whole numbers -/
theorem oI_t {z : Int} (h1 : -2147483648 ≤ z) (h2 : z < 2147483648) : (Int32.ofInt z).toInt = z := by
  rw [Int32.toInt_ofInt, Int32.size]
  exact Int.bmod_eq_of_le (by omega) (by omega)
theorem oI_of (x : Int32) : Int32.ofInt x.toInt = x := Int32.ofInt_toInt x
theorem nI_oI (n : Nat) : nI n = Int32.ofInt (n : Int) := by
  unfold nI
  rfl
theorem oI_add (a c : Int) : Int32.ofInt a + Int32.ofInt c = Int32.ofInt (a + c) := (Int32.ofInt_add a c).symm
theorem oI_sub (a c : Int) : Int32.ofInt a - Int32.ofInt c = Int32.ofInt (a - c) := (Int32.ofInt_sub a c).symm
theorem oI_mul (a c : Int) : Int32.ofInt a * Int32.ofInt c = Int32.ofInt (a * c) := (Int32.ofInt_mul a c).symm
theorem oI_neg (a : Int) : 0 - Int32.ofInt a = Int32.ofInt (-a) := by rw [show (0 : Int32) = Int32.ofInt 0 from rfl, oI_sub]; congr 1; omega
theorem pm1 {n : Nat} (h : n < 1000000) : (nI n - 1).toInt = (n : Int) - 1 := pk_sub_toInt (a := n) (b := 1) (by omega) (by omega)
