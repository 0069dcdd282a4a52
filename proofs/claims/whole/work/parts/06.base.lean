/-! ===== helpers: truth as an int, numbers by toInt, names for tops, counters, scripts, copies ===== -/
def bi (P : Prop) [Decidable P] : Int32 := if P then 1 else 0
theorem bi_1 {P : Prop} [Decidable P] (h : P) : (1 : Int32) = bi P := by simp [bi, h]
theorem bi_0 {P : Prop} [Decidable P] (h : ¬ P) : (0 : Int32) = bi P := by simp [bi, h]
theorem bi_nz {P : Prop} [Decidable P] : bi P = 0 ↔ ¬ P := by
  by_cases h : P <;> simp [bi, h]
theorem bi_nar {P : Prop} [Decidable P] : narrow .boolean (.int (bi P)) = .int (bi P) := by
  by_cases h : P <;> simp [bi, h] <;> rfl
theorem ic_lt (a b : Int32) : a < b ↔ a.toInt < b.toInt := Int32.lt_iff_toInt_lt
theorem ic_le (a b : Int32) : a ≤ b ↔ a.toInt ≤ b.toInt := Int32.le_iff_toInt_le
theorem ic_eq (a b : Int32) : a = b ↔ a.toInt = b.toInt := Int32.toInt_inj.symm
theorem il_lt (a b : Int64) : a < b ↔ a.toInt < b.toInt := Int64.lt_iff_toInt_lt
theorem il_le (a b : Int64) : a ≤ b ↔ a.toInt ≤ b.toInt := Int64.le_iff_toInt_le
theorem il_eq (a b : Int64) : a = b ↔ a.toInt = b.toInt := Int64.toInt_inj.symm
theorem ic_rng (x : Int32) : -2147483648 ≤ x.toInt ∧ x.toInt < 2147483648 := ⟨Int32.le_toInt x, Int32.toInt_lt x⟩
theorem ic_nI {x : Int32} (h : 0 ≤ x.toInt) : x = nI x.toInt.toNat := by
  apply Int32.toInt_inj.mp
  have := ic_rng x
  rw [nI_toInt (by omega)]
  omega
/-- an int between 0 and n is nI of a number -/
theorem ic_of {x : Int32} {n : Nat} (h : 0 ≤ x.toInt) (h2 : x.toInt < n) : ∃ j : Nat, j < n ∧ x = nI j := ⟨x.toInt.toNat, by omega, ic_nI h⟩
theorem ic_w (x : Int32) : x.toInt64.toInt = x.toInt := Int32.toInt_toInt64 x
section FMH
variable {p : Program} {l : Launch} {e : Env} {R : Room} {s : State} {m : MethodId} {args : Array Value} {below : List Frame} {meth : Method} {c : Code} {Q : State → Prop} {D : va_G} {cA : Nat → ClassId} {b nL : Nat} {lay : List fm_E} {M : Nat → Nat → Int32} {L : Nat → Nat → Int64} {cells slots pc : Nat} {lv : List (Nat × Value)} {st : List Value} {cc : ByteArray} {own : String} {ret : Option FieldType} {n0 : Nat}
theorem g_top {x y : Int32} (h : x = y) (kk : fm_G p l e R s m args below meth c D cA b nL Q lay M L cells slots pc lv (.int y :: st)) : fm_G p l e R s m args below meth c D cA b nL Q lay M L cells slots pc lv (.int x :: st) := by subst h; exact kk
theorem g_topL {x y : Int64} (h : x = y) (kk : fm_G p l e R s m args below meth c D cA b nL Q lay M L cells slots pc lv (.long y :: st)) : fm_G p l e R s m args below meth c D cA b nL Q lay M L cells slots pc lv (.long x :: st) := by subst h; exact kk
theorem g_setM {M' : Nat → Nat → Int32} (h : M = M') (kk : fm_G p l e R s m args below meth c D cA b nL Q lay M' L cells slots pc lv st) : fm_G p l e R s m args below meth c D cA b nL Q lay M L cells slots pc lv st := by subst h; exact kk
theorem g_ifb_eq (hC : fm_C p s m args meth c D cA b cc nL own ret n0) {P : Prop} [Decidable P] {off : Int} (tgt : Nat) (hd : decode cc pc = .ok (.ifCond .eq off, 3)) (ht : (pc : Int) + off = (tgt : Int)) (kt : ¬ P → fm_G p l e R s m args below meth c D cA b nL Q lay M L cells slots tgt lv st) (kf : P → fm_G p l e R s m args below meth c D cA b nL Q lay M L cells slots (pc + 3) lv st) : fm_G p l e R s m args below meth c D cA b nL Q lay M L cells slots pc lv (.int (bi P) :: st) :=
  g_if_eq hC tgt hd ht (fun h => kt (bi_nz.mp h)) (fun h => kf (Classical.byContradiction fun q => h (bi_nz.mpr q)))
theorem g_ifb_ne (hC : fm_C p s m args meth c D cA b cc nL own ret n0) {P : Prop} [Decidable P] {off : Int} (tgt : Nat) (hd : decode cc pc = .ok (.ifCond .ne off, 3)) (ht : (pc : Int) + off = (tgt : Int)) (kt : P → fm_G p l e R s m args below meth c D cA b nL Q lay M L cells slots tgt lv st) (kf : ¬ P → fm_G p l e R s m args below meth c D cA b nL Q lay M L cells slots (pc + 3) lv st) : fm_G p l e R s m args below meth c D cA b nL Q lay M L cells slots pc lv (.int (bi P) :: st) :=
  g_if_ne hC tgt hd ht (fun h => kt (Classical.byContradiction fun q => h (bi_nz.mpr q))) (fun h => kf (bi_nz.mp h))
theorem g_ialdN (hC : fm_C p s m args meth c D cA b cc nL own ret n0) {k n : Nat} {zs : List Nat} {i : Int32} (j : Nat) (hk : lay[k]? = some (1, n, zs)) (hi : i = nI j) (hj : j < n) (hn : n < 2147483648) (hd : decode cc pc = .ok (.iaload, 1)) (kk : fm_G p l e R s m args below meth c D cA b nL Q lay M L cells slots (pc + 1) lv (.int (M k j) :: st)) : fm_G p l e R s m args below meth c D cA b nL Q lay M L cells slots pc lv (.int i :: .ref (b + k) :: st) := by
  subst hi
  exact g_iald hC hk (vp_in_nI hj hn) hd (by rw [nI_clamp (by omega)]; exact kk)
theorem g_caldN (hC : fm_C p s m args meth c D cA b cc nL own ret n0) {k n : Nat} {zs : List Nat} {i : Int32} (j : Nat) (hk : lay[k]? = some (3, n, zs)) (hi : i = nI j) (hj : j < n) (hn : n < 2147483648) (hd : decode cc pc = .ok (.caload, 1)) (kk : fm_G p l e R s m args below meth c D cA b nL Q lay M L cells slots (pc + 1) lv (.int (M k j) :: st)) : fm_G p l e R s m args below meth c D cA b nL Q lay M L cells slots pc lv (.int i :: .ref (b + k) :: st) := by
  subst hi
  exact g_cald hC hk (vp_in_nI hj hn) hd (by rw [nI_clamp (by omega)]; exact kk)
theorem g_laldN (hC : fm_C p s m args meth c D cA b cc nL own ret n0) {k n : Nat} {zs : List Nat} {i : Int32} (j : Nat) (hk : lay[k]? = some (2, n, zs)) (hi : i = nI j) (hj : j < n) (hn : n < 2147483648) (hd : decode cc pc = .ok (.laload, 1)) (kk : fm_G p l e R s m args below meth c D cA b nL Q lay M L cells slots (pc + 1) lv (.long (L k j) :: st)) : fm_G p l e R s m args below meth c D cA b nL Q lay M L cells slots pc lv (.int i :: .ref (b + k) :: st) := by
  subst hi
  exact g_lald hC hk (vp_in_nI hj hn) hd (by rw [nI_clamp (by omega)]; exact kk)
theorem g_aald4N (hC : fm_C p s m args meth c D cA b cc nL own ret n0) {k n : Nat} {zs : List Nat} {i : Int32} (j t : Nat) (hk : lay[k]? = some (4, n, zs)) (hi : i = nI j) (hj : j < n) (hn : n < 2147483648) (hz : zs[j]? = some (t + 1)) (hd : decode cc pc = .ok (.aaload, 1)) (kk : fm_G p l e R s m args below meth c D cA b nL Q lay M L cells slots (pc + 1) lv (.ref (b + t) :: st)) : fm_G p l e R s m args below meth c D cA b nL Q lay M L cells slots pc lv (.int i :: .ref (b + k) :: st) := by
  subst hi
  exact g_aald4 hC hk (vp_in_nI hj hn) (by rw [nI_clamp (by omega)]; exact hz) hd kk
theorem g_aald5N (hC : fm_C p s m args meth c D cA b cc nL own ret n0) {k n : Nat} {zs : List Nat} {i : Int32} (j t : Nat) (hk : lay[k]? = some (5, n, zs)) (hi : i = nI j) (hj : j < n) (hn : n < 2147483648) (hz : zs[j]? = some (t + 1)) (hd : decode cc pc = .ok (.aaload, 1)) (kk : fm_G p l e R s m args below meth c D cA b nL Q lay M L cells slots (pc + 1) lv (.ref (b + t) :: st)) : fm_G p l e R s m args below meth c D cA b nL Q lay M L cells slots pc lv (.int i :: .ref (b + k) :: st) := by
  subst hi
  exact g_aald5 hC hk (vp_in_nI hj hn) (by rw [nI_clamp (by omega)]; exact hz) hd kk
theorem g_iastN (hC : fm_C p s m args meth c D cA b cc nL own ret n0) {k n : Nat} {zs : List Nat} {i x : Int32} (j : Nat) (hk : lay[k]? = some (1, n, zs)) (hi : i = nI j) (hj : j < n) (hn : n < 2147483648) (hd : decode cc pc = .ok (.iastore, 1)) (kk : fm_G p l e R s m args below meth c D cA b nL Q lay (fm_up M k j x) L cells slots (pc + 1) lv st) : fm_G p l e R s m args below meth c D cA b nL Q lay M L cells slots pc lv (.int x :: .int i :: .ref (b + k) :: st) := by
  subst hi
  exact g_iast hC hk (vp_in_nI hj hn) hd (by rw [nI_clamp (by omega)]; exact kk)
theorem g_castN (hC : fm_C p s m args meth c D cA b cc nL own ret n0) {k n : Nat} {zs : List Nat} {i x : Int32} (j : Nat) (hk : lay[k]? = some (3, n, zs)) (hi : i = nI j) (hj : j < n) (hn : n < 2147483648) (hx : vp_nar .char x = x) (hd : decode cc pc = .ok (.castore, 1)) (kk : fm_G p l e R s m args below meth c D cA b nL Q lay (fm_up M k j x) L cells slots (pc + 1) lv st) : fm_G p l e R s m args below meth c D cA b nL Q lay M L cells slots pc lv (.int x :: .int i :: .ref (b + k) :: st) := by
  subst hi
  exact g_cast hC hk (vp_in_nI hj hn) hd (by rw [nI_clamp (by omega), hx]; exact kk)
theorem g_lastN (hC : fm_C p s m args meth c D cA b cc nL own ret n0) {k n : Nat} {zs : List Nat} {i : Int32} {x : Int64} (j : Nat) (hk : lay[k]? = some (2, n, zs)) (hi : i = nI j) (hj : j < n) (hn : n < 2147483648) (hd : decode cc pc = .ok (.lastore, 1)) (kk : fm_G p l e R s m args below meth c D cA b nL Q lay M (fm_upL L k j x) cells slots (pc + 1) lv st) : fm_G p l e R s m args below meth c D cA b nL Q lay M L cells slots pc lv (.long x :: .int i :: .ref (b + k) :: st) := by
  subst hi
  exact g_last hC hk (vp_in_nI hj hn) hd (by rw [nI_clamp (by omega)]; exact kk)
theorem g_copyI (hC : fm_C p s m args meth c D cA b cc nL own ret n0) {index k0 k1 n1 n2 : Nat} {zs0 zs1 : List Nat} {sp dp n : Int32} (w1 : Cond.methodLink own index arraycopyName ∈ fm_all) (w2 : Cond.native arraycopyName ∈ fm_all) (w3 : Cond.static arraycopyName ∈ fm_all) (w4 : Cond.initialized "java/lang/System" ∈ fm_all) (hk0 : lay[k0]? = some (1, n1, zs0)) (hk1 : lay[k1]? = some (1, n2, zs1)) (h1 : ¬ sp < 0) (h2 : ¬ dp < 0) (h3 : ¬ n < 0) (h4 : sp.toNatClampNeg + n.toNatClampNeg ≤ n1) (h5 : dp.toNatClampNeg + n.toNatClampNeg ≤ n2) (hf : 1 ≤ R.frames) (hlo : (st.map fun v => v.category).sum + (nativeFrameWords "java/lang/System" "arraycopy" 5 + 11) ≤ R.locals) (hd : decode cc pc = .ok (.invokestatic index, 3)) (kk : fm_G p l e R s m args below meth c D cA b nL Q lay (fm_row M k1 (va_cpy (M k0) (M k1) sp.toNatClampNeg dp.toNatClampNeg n.toNatClampNeg)) L cells slots (pc + 3) lv st) : fm_G p l e R s m args below meth c D cA b nL Q lay M L cells slots pc lv (.int n :: .int dp :: .ref (b + k1) :: .int sp :: .ref (b + k0) :: st) := by
  intro H locs ls hP hS hl
  refine va_copyi hC.1.1 hC.1.2.1 (by rw [hC.1.2.2.1]; exact hl.1.symm) hC.1.2.2.2.1 (hC.1.2.2.2.2 _ w1) (hC.1.2.2.2.2 _ w2) (hC.1.2.2.2.2 _ w3) (hC.1.2.2.2.2 _ w4) hC.2.1.1 hP fm_D hS k0 k1 0 0 (fm_at hk0) (fm_at hk1) rfl rfl rfl h1 h2 h3 h4 h5 (fun _ _ => rfl) hf hlo hd (fun H1 locs1 hP1 _ hS1 => ?_)
  refine kk H1 locs1 ls ?_ hS1 hl
  rw [fm_set' (M' := fm_row M k1 (va_cpy (M k0) (M k1) sp.toNatClampNeg dp.toNatClampNeg n.toNatClampNeg)) (L' := L) hk1 (by simp [fm_cell, fm_row]) (fun j hj e' _ => fm_cell_cong (fm_row_n hj) rfl e')] at hP1
  exact hP1
theorem g_copyL (hC : fm_C p s m args meth c D cA b cc nL own ret n0) {index k0 k1 n1 n2 : Nat} {zs0 zs1 : List Nat} {sp dp n : Int32} (w1 : Cond.methodLink own index arraycopyName ∈ fm_all) (w2 : Cond.native arraycopyName ∈ fm_all) (w3 : Cond.static arraycopyName ∈ fm_all) (w4 : Cond.initialized "java/lang/System" ∈ fm_all) (hk0 : lay[k0]? = some (2, n1, zs0)) (hk1 : lay[k1]? = some (2, n2, zs1)) (h1 : ¬ sp < 0) (h2 : ¬ dp < 0) (h3 : ¬ n < 0) (h4 : sp.toNatClampNeg + n.toNatClampNeg ≤ n1) (h5 : dp.toNatClampNeg + n.toNatClampNeg ≤ n2) (hf : 1 ≤ R.frames) (hlo : (st.map fun v => v.category).sum + (nativeFrameWords "java/lang/System" "arraycopy" 5 + 11) ≤ R.locals) (hd : decode cc pc = .ok (.invokestatic index, 3)) (kk : fm_G p l e R s m args below meth c D cA b nL Q lay M (fm_rowL L k1 (va_cpy (L k0) (L k1) sp.toNatClampNeg dp.toNatClampNeg n.toNatClampNeg)) cells slots (pc + 3) lv st) : fm_G p l e R s m args below meth c D cA b nL Q lay M L cells slots pc lv (.int n :: .int dp :: .ref (b + k1) :: .int sp :: .ref (b + k0) :: st) := by
  intro H locs ls hP hS hl
  refine va_copyl hC.1.1 hC.1.2.1 (by rw [hC.1.2.2.1]; exact hl.1.symm) hC.1.2.2.2.1 (hC.1.2.2.2.2 _ w1) (hC.1.2.2.2.2 _ w2) (hC.1.2.2.2.2 _ w3) (hC.1.2.2.2.2 _ w4) hC.2.1.1 hP fm_D hS k0 k1 1 1 (fm_at hk0) (fm_at hk1) rfl rfl rfl h1 h2 h3 h4 h5 (fun _ _ => rfl) hf hlo hd (fun H1 locs1 hP1 _ hS1 => ?_)
  refine kk H1 locs1 ls ?_ hS1 hl
  rw [fm_set' (M' := M) (L' := fm_rowL L k1 (va_cpy (L k0) (L k1) sp.toNatClampNeg dp.toNatClampNeg n.toNatClampNeg)) hk1 (by simp [fm_cell, fm_rowL]) (fun j hj e' _ => fm_cell_cong rfl (fm_rowL_n hj) e')] at hP1
  exact hP1
theorem g_sld (hC : fm_C p s m args meth c D cA b cc nL own ret n0) {bs N : Nat} {xs : Nat → Int32} (hX : va_X bs N xs s s.heap) (hbl : bs < s.heap.size) (hbA : bs < b) {i : Int32} (j : Nat) (hi : i = nI j) (hj : j < N) (hn : N < 2147483648) (hd : decode cc pc = .ok (.iaload, 1)) (kk : fm_G p l e R s m args below meth c D cA b nL Q lay M L cells slots (pc + 1) lv (.int (xs j) :: st)) : fm_G p l e R s m args below meth c D cA b nL Q lay M L cells slots pc lv (.int i :: .ref bs :: st) := by
  intro H locs ls hP hS hl
  subst hi
  have hk := kk H locs ls hP hS hl
  have e : (nI j).toNatClampNeg = j := nI_clamp (by omega)
  exact va_sld hC.1.1 hC.1.2.1 hX hbl (Nat.not_le.mpr hbA) hS (vp_in_nI hj hn) hd (by rw [e]; exact hk)
theorem g_slen (hC : fm_C p s m args meth c D cA b cc nL own ret n0) {bs N : Nat} {xs : Nat → Int32} (hX : va_X bs N xs s s.heap) (hbl : bs < s.heap.size) (hbA : bs < b) (hd : decode cc pc = .ok (.arraylength, 1)) (kk : fm_G p l e R s m args below meth c D cA b nL Q lay M L cells slots (pc + 1) lv (.int (nI N) :: st)) : fm_G p l e R s m args below meth c D cA b nL Q lay M L cells slots pc lv (.ref bs :: st) := by
  intro H locs ls hP hS hl
  exact va_slen hC.1.1 hC.1.2.1 hX hbl (Nat.not_le.mpr hbA) hS hd (kk H locs ls hP hS hl)
end FMH
