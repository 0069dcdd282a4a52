/-! ===== THE FLAT MEMORY: every cell that law, class and reference make lies at b, b + 1, b + 2 .. in the order of its making; M k i is the i-th int of cell k (a field, an element), L k i its i-th long; 'lay' says of each cell what it is (kind, class or length, fields or targets): kind 0 an object, 1 int[], 2 long[], 3 char[], 4 Person[], 5 Sheet[]; a field 0 is an int, 1 null, t + 2 the cell t; a target 0 is null, t + 1 the cell t ===== -/
abbrev fm_E : Type := Nat × Nat × List Nat
def fm_row (M : Nat → Nat → Int32) (k : Nat) (f : Nat → Int32) : Nat → Nat → Int32 := fun k' => if k' = k then f else M k'
def fm_rowL (M : Nat → Nat → Int64) (k : Nat) (f : Nat → Int64) : Nat → Nat → Int64 := fun k' => if k' = k then f else M k'
abbrev fm_up (M : Nat → Nat → Int32) (k i : Nat) (v : Int32) : Nat → Nat → Int32 := fm_row M k (upd (M k) i v)
abbrev fm_upL (M : Nat → Nat → Int64) (k i : Nat) (v : Int64) : Nat → Nat → Int64 := fm_rowL M k (vp_updL (M k) i v)
theorem fm_row_s {M : Nat → Nat → Int32} {k : Nat} {f : Nat → Int32} : fm_row M k f k = f := by simp [fm_row]
theorem fm_row_n {M : Nat → Nat → Int32} {k j : Nat} {f : Nat → Int32} (h : j ≠ k) : fm_row M k f j = M j := by simp [fm_row, h]
theorem fm_rowL_s {M : Nat → Nat → Int64} {k : Nat} {f : Nat → Int64} : fm_rowL M k f k = f := by simp [fm_rowL]
theorem fm_rowL_n {M : Nat → Nat → Int64} {k j : Nat} {f : Nat → Int64} (h : j ≠ k) : fm_rowL M k f j = M j := by simp [fm_rowL, h]
def fm_fv (b : Nat) (M : Nat → Nat → Int32) (k i z : Nat) : Value := match z with
  | 0 => .int (M k i)
  | 1 => .null
  | t + 2 => .ref (b + t)
def fm_fs (b : Nat) (M : Nat → Nat → Int32) (k i : Nat) (zs : List Nat) : List Value := match zs with
  | [] => []
  | z :: r => fm_fv b M k i z :: fm_fs b M k (i + 1) r
def fm_tg (b : Nat) (zs : List Nat) (j : Nat) : Option Nat := match zs.getD j 0 with
  | 0 => none
  | t + 1 => some (b + t)
def fm_cell (cA : Nat → ClassId) (b : Nat) (M : Nat → Nat → Int32) (L : Nat → Nat → Int64) (k : Nat) (e : fm_E) : va_E := match e with
  | (0, n, zs) => .inr (n, fm_fs b M k 0 zs)
  | (1, n, _) => .inl (cA 1, n, .inl (M k))
  | (2, n, _) => .inl (cA 2, n, .inr (.inl (L k)))
  | (3, n, _) => .inl (cA 3, n, .inl (M k))
  | (c + 4, n, zs) => .inl (cA (c + 4), n, .inr (.inr (.inr (.inr (fm_tg b zs)))))
def fm_w (cA : Nat → ClassId) (b : Nat) (M : Nat → Nat → Int32) (L : Nat → Nat → Int64) (k : Nat) (lay : List fm_E) : va_W := match lay with
  | [] => []
  | e :: r => (b + k, fm_cell cA b M L k e) :: fm_w cA b M L (k + 1) r
theorem fm_w_get (cA : Nat → ClassId) (b : Nat) (M : Nat → Nat → Int32) (L : Nat → Nat → Int64) : ∀ (lay : List fm_E) (k0 k : Nat), (fm_w cA b M L k0 lay)[k]? = (lay[k]?).map (fun e => (b + (k0 + k), fm_cell cA b M L (k0 + k) e))
  | [], _, _ => by simp [fm_w]
  | e :: r, k0, 0 => by simp [fm_w]
  | e :: r, k0, k + 1 => by
    have h := fm_w_get cA b M L r (k0 + 1) k
    rw [show k0 + 1 + k = k0 + (k + 1) by omega] at h
    simp only [fm_w, List.getElem?_cons_succ, h]
theorem fm_at {cA : Nat → ClassId} {b : Nat} {M : Nat → Nat → Int32} {L : Nat → Nat → Int64} {lay : List fm_E} {k : Nat} {e : fm_E} (h : lay[k]? = some e) : (fm_w cA b M L 0 lay)[k]? = some (b + k, fm_cell cA b M L k e) := by
  rw [fm_w_get, h]; simp
theorem fm_len (cA : Nat → ClassId) (b : Nat) (M : Nat → Nat → Int32) (L : Nat → Nat → Int64) : ∀ (lay : List fm_E) (k0 : Nat), (fm_w cA b M L k0 lay).length = lay.length
  | [], _ => rfl
  | e :: r, k0 => by simp [fm_w, fm_len cA b M L r (k0 + 1)]
/-- two pictures that differ at one cell alone -/
theorem fm_set {cA : Nat → ClassId} {b : Nat} {M M' : Nat → Nat → Int32} {L L' : Nat → Nat → Int64} {lay : List fm_E} {k : Nat} {e : fm_E} {x : va_E} (hk : k < lay.length) (he : fm_cell cA b M' L' k e = x) (ho : ∀ j, j ≠ k → ∀ e', lay[j]? = some e' → fm_cell cA b M' L' j e' = fm_cell cA b M L j e') : (fm_w cA b M L 0 lay).set k (b + k, x) = fm_w cA b M' L' 0 (lay.set k e) := by
  apply List.ext_getElem?
  intro j
  rw [fm_w_get, Nat.zero_add]
  by_cases hj : j = k
  · subst hj
    rw [List.getElem?_set_self (by rw [fm_len]; exact hk), List.getElem?_set_self hk]
    simp [he]
  · rw [List.getElem?_set_ne (Ne.symm hj), List.getElem?_set_ne (Ne.symm hj), fm_w_get, Nat.zero_add]
    cases h : lay[j]? with
    | none => rfl
    | some e' => simp [ho j hj e' h]
theorem fm_set' {cA : Nat → ClassId} {b : Nat} {M M' : Nat → Nat → Int32} {L L' : Nat → Nat → Int64} {lay : List fm_E} {k : Nat} {e : fm_E} {x : va_E} (hk : lay[k]? = some e) (he : fm_cell cA b M' L' k e = x) (ho : ∀ j, j ≠ k → ∀ e', lay[j]? = some e' → fm_cell cA b M' L' j e' = fm_cell cA b M L j e') : (fm_w cA b M L 0 lay).set k (b + k, x) = fm_w cA b M' L' 0 lay := by
  have hl := (List.getElem?_eq_some_iff.mp hk).1
  rw [fm_set hl he ho]
  congr 1
  apply List.ext_getElem?
  intro j
  by_cases hj : j = k
  · subst hj; rw [List.getElem?_set_self hl, hk]
  · rw [List.getElem?_set_ne (Ne.symm hj)]
theorem fm_fs_cong {b : Nat} {M M' : Nat → Nat → Int32} {k : Nat} (h : M' k = M k) : ∀ (zs : List Nat) (i : Nat), fm_fs b M' k i zs = fm_fs b M k i zs
  | [], _ => rfl
  | z :: r, i => by
    simp only [fm_fs, fm_fs_cong h r (i + 1)]
    congr 1
    match z with
    | 0 => simp [fm_fv, h]
    | 1 => rfl
    | t + 2 => rfl
theorem fm_cell_cong {cA : Nat → ClassId} {b : Nat} {M M' : Nat → Nat → Int32} {L L' : Nat → Nat → Int64} {k : Nat} (h : M' k = M k) (hL : L' k = L k) (e : fm_E) : fm_cell cA b M' L' k e = fm_cell cA b M L k e := by
  match e with
  | (0, n, zs) => simp only [fm_cell, fm_fs_cong h]
  | (1, n, _) => simp only [fm_cell, h]
  | (2, n, _) => simp only [fm_cell, hL]
  | (3, n, _) => simp only [fm_cell, h]
  | (c + 4, n, zs) => rfl
theorem fm_fs_get {b : Nat} {M : Nat → Nat → Int32} {k : Nat} : ∀ (zs : List Nat) (i0 i : Nat), (fm_fs b M k i0 zs)[i]? = (zs[i]?).map (fm_fv b M k (i0 + i))
  | [], _, _ => by simp [fm_fs]
  | z :: r, i0, 0 => by simp [fm_fs]
  | z :: r, i0, i + 1 => by
    have h := fm_fs_get (b := b) (M := M) (k := k) r (i0 + 1) i
    rw [show i0 + 1 + i = i0 + (i + 1) by omega] at h
    simp only [fm_fs, List.getElem?_cons_succ, h]
theorem fm_fs_len {b : Nat} {M : Nat → Nat → Int32} {k : Nat} : ∀ (zs : List Nat) (i0 : Nat), (fm_fs b M k i0 zs).length = zs.length
  | [], _ => rfl
  | z :: r, i0 => by simp [fm_fs, fm_fs_len r (i0 + 1)]
theorem fm_fv_up {b : Nat} {M : Nat → Nat → Int32} {k i j z : Nat} {v : Int32} (h : j ≠ i) : fm_fv b (fm_up M k i v) k j z = fm_fv b M k j z := by
  match z with
  | 0 => simp [fm_fv, fm_up, fm_row, upd, h]
  | 1 => rfl
  | t + 2 => rfl
theorem fm_fs_int {b : Nat} {M : Nat → Nat → Int32} {k i : Nat} {zs : List Nat} {v : Int32} (hz : zs[i]? = some 0) : (fm_fs b M k 0 zs).set i (.int v) = fm_fs b (fm_up M k i v) k 0 zs := by
  have hl : i < (fm_fs b M k 0 zs).length := by rw [fm_fs_len]; exact (List.getElem?_eq_some_iff.mp hz).1
  apply List.ext_getElem?
  intro j
  by_cases hj : j = i
  · subst hj
    rw [List.getElem?_set_self hl, fm_fs_get, hz]
    simp [fm_fv, fm_row, upd]
  · rw [List.getElem?_set_ne (Ne.symm hj), fm_fs_get, fm_fs_get, Nat.zero_add]
    cases zs[j]? with
    | none => rfl
    | some z => exact congrArg some (fm_fv_up hj).symm
theorem fm_fs_ref {b : Nat} {M : Nat → Nat → Int32} {k i t : Nat} {zs : List Nat} (hz : i < zs.length) : (fm_fs b M k 0 zs).set i (.ref (b + t)) = fm_fs b M k 0 (zs.set i (t + 2)) := by
  have hl : i < (fm_fs b M k 0 zs).length := by rw [fm_fs_len]; exact hz
  apply List.ext_getElem?
  intro j
  by_cases hj : j = i
  · subst hj
    rw [List.getElem?_set_self hl, fm_fs_get, List.getElem?_set_self hz]
    simp [fm_fv]
  · rw [List.getElem?_set_ne (Ne.symm hj), fm_fs_get, fm_fs_get, List.getElem?_set_ne (Ne.symm hj)]
theorem fm_tg_set {b t : Nat} {zs : List Nat} {i : Nat} (hi : i < zs.length) : va_up (fm_tg b zs) i (some (b + t)) = fm_tg b (zs.set i (t + 1)) := by
  funext j
  by_cases hj : j = i
  · subst hj
    simp [va_up, fm_tg, hi, List.getD]
  · simp [va_up, fm_tg, hj, List.getD, List.getElem?_set, Ne.symm hj]
/-- the cells -/
def fm_P (D : va_G) (cA : Nat → ClassId) (b : Nat) (lay : List fm_E) (M : Nat → Nat → Int32) (L : Nat → Nat → Int64) (H : Heap) : Prop := va_P D vwCl (fm_w cA b M L 0 lay) H
theorem fm_D {cA : Nat → ClassId} {b : Nat} {M : Nat → Nat → Int32} {L : Nat → Nat → Int64} {lay : List fm_E} : va_D (fun q => b ≤ q) (fm_w cA b M L 0 lay) := by
  refine ⟨fun i j p q hi hj h => ?_, fun k q hk => ?_⟩
  · rw [fm_w_get] at hi hj
    cases h1 : lay[i]? with
    | none => rw [h1] at hi; cases hi
    | some e =>
      cases h2 : lay[j]? with
      | none => rw [h2] at hj; cases hj
      | some e' =>
        rw [h1] at hi; rw [h2] at hj
        simp at hi hj
        subst hi; subst hj
        simp at h
        exact h
  · rw [fm_w_get] at hk
    cases h1 : lay[k]? with
    | none => rw [h1] at hk; cases hk
    | some e =>
      rw [h1] at hk
      simp at hk
      subst hk
      exact Nat.le_add_right _ _
/-- the calls of nest mates -/
def fm_nests : List (String × Nat × MethodName × String) := [(RX5, 58, yX1_init, "JarMinutes"), (RX4, 35, yX1_init, "JarMinutes"), (RX6, 32, yX2_init, "JarMinutes"), (RX6, 39, yX0_init, "JarMinutes"), (RX6, 54, yX3_init, "JarMinutes"), (RX1, 28, yX6_apart, "JarMinutes"), (RX5, 95, yX6_lateAt, "JarMinutes")]
abbrev fm_tys (cA : Nat → ClassId) : List (ClassId × FieldType) := [(cA 1, .int), (cA 2, .long), (cA 3, .char), (cA 4, .object RX1), (cA 5, .object RX3)]
def fm_K (D : va_G) (cA : Nat → ClassId) (U : State) : Prop := va_K D vwCl (fm_tys cA) U ∧ (∀ q ∈ fm_nests, va_Nw (.methodLinkNest q.1 q.2.1 q.2.2.1 q.2.2.2) U) ∧ va_AO RX1 U ∧ va_AO RX3 U
theorem fm_K.warm {D : va_G} {cA : Nat → ClassId} {s U : State} (h : fm_K D cA s) (hW : s.WarmedH U.vm) : fm_K D cA U := ⟨va_K.moved hW.alike h.1, fun q hq => va_Nw.warmM hW (h.2.1 q hq), va_AO.moved hW.alike h.2.2.1, va_AO.moved hW.alike h.2.2.2⟩
theorem fm_K.calling {D : va_G} {cA : Nat → ClassId} {u : State} {g : JFrame} {mk : MethodId} {a : Array Value} (h : fm_K D cA u) : fm_K D cA (u.calling g mk a) := ⟨va_K.moved (u := u) (U := u.calling g mk a) (Vm.Alike.refl u.vm) h.1, fun q hq => va_Nw.same (by rfl) rfl (h.2.1 q hq), va_AO.moved (u := u) (U := u.calling g mk a) (Vm.Alike.refl u.vm) h.2.2.1, va_AO.moved (u := u) (U := u.calling g mk a) (Vm.Alike.refl u.vm) h.2.2.2⟩
/-- a method's end: the answer and the new memory satisfy 'post'; nothing below b has moved -/
def fm_Q (D : va_G) (cA : Nat → ClassId) (b : Nat) (lay : List fm_E) (post : Option Value → (Nat → Nat → Int32) → (Nat → Nat → Int64) → Prop) : Array Value → State → Outcome → State → Prop := fun _ st oc t => (∃ (v : Option Value) (M : Nat → Nat → Int32) (L : Nat → Nat → Int64), oc = .returned v ∧ post v M L ∧ fm_P D cA b lay M L t.heap) ∧ va_F (fun q => b ≤ q) st t
abbrev fm_rm (fr lo mc ms : Nat) : Room := { frames := fr, cells := mc, slots := ms, locals := lo }
abbrev fm_ws (y : MethodName) (bytes : ByteArray) (maxL : Nat) (ret : Option FieldType) : List Cond := .code y bytes maxL ret :: fm_all
/-- A METHOD'S CONTRACT: from memory M, L of layout lay it comes, with arguments as, to memory and answer of 'post', of layout lay' -/
def fm_Met (l : Launch) (D : va_G) (cA : Nat → ClassId) (b : Nat) (y : MethodName) (bytes : ByteArray) (maxL : Nat) (ret : Option FieldType) (fr lo mc ms : Nat) (as : List Value) (lay : List fm_E) (M : Nat → Nat → Int32) (L : Nat → Nat → Int64) (lay' : List fm_E) (post : Option Value → (Nat → Nat → Int32) → (Nat → Nat → Int64) → Prop) : Prop :=
  Met l y (fm_ws y bytes maxL ret) (fm_rm fr lo mc ms) (va_Pc as (fun U => fm_P D cA b lay M L U.heap ∧ fm_K D cA U ∧ U.heap.size = b + lay.length)) (fm_Q D cA b lay' post) mc ms (fun q => b ≤ q)
/-- what stands fast within a method -/
def fm_C (p : Program) (s : State) (m : MethodId) (args : Array Value) (meth : Method) (c : Code) (D : va_G) (cA : Nat → ClassId) (b : Nat) (cc : ByteArray) (nL : Nat) (own : String) (ret : Option FieldType) (n0 : Nat) : Prop := CallFix p m c cc nL s args fm_all own ∧ fm_K D cA s ∧ s.heap.size = b + n0 ∧ meth.sig.returnType = ret ∧ meth.locks = false
/-- THE GOAL at an instruction: locals lv, stack st, memory M, L of layout lay -/
def fm_G (p : Program) (l : Launch) (e : Env) (R : Room) (s : State) (m : MethodId) (args : Array Value) (below : List Frame) (meth : Method) (c : Code) (D : va_G) (cA : Nat → ClassId) (b nL : Nat) (Q : State → Prop) (lay : List fm_E) (M : Nat → Nat → Int32) (L : Nat → Nat → Int64) (cells slots pc : Nat) (lv : List (Nat × Value)) (st : List Value) : Prop :=
  ∀ (H : Heap) (locs : List Loc) (ls : Array Slot), fm_P D cA b lay M L H → va_S (fun q => b ≤ q) s.heap H locs → lv_has ls nL lv → W p l e R s m args below meth c H locs cells slots Q (F0 m pc ls st)
theorem fm_start {l : Launch} {D : va_G} {cA : Nat → ClassId} {b : Nat} {y : MethodName} {bytes : ByteArray} {maxL : Nat} {ret : Option FieldType} {fr lo mc ms : Nat} {as : List Value} {lay lay' : List fm_E} {M : Nat → Nat → Int32} {L : Nat → Nat → Int64} {post : Option Value → (Nat → Nat → Int32) → (Nat → Nat → Int64) → Prop} (own : String) (ho : y.cls = own) (hy : plainName y.cls = true) (hlen : (lg_sl as).length ≤ maxL)
    (body : ∀ (p : Program) (e : Env) (s : State) (m : MethodId) (args : Array Value) (below : List Frame) (meth : Method) (c : Code), fm_C p s m args meth c D cA b bytes maxL own ret lay.length → meth.name = y.name →
      fm_G p l e (fm_rm fr lo mc ms) s m args below meth c D cA b maxL (MQ below (fm_Q D cA b lay' post) args s mc ms (fun q => b ≤ q)) lay M L 0 0 0 (lv_args 0 as) []) :
    fm_Met l D cA b y bytes maxL ret fr lo mc ms as lay M L lay' post := by
  refine Met.ofW (cc := bytes) (maxL := maxL) (ret := ret) hy rfl ?_
  intro p e s m args below meth c s₁ B hml hv
  obtain ⟨rfl, hP, hK, hz⟩ := hv
  have hts := atoms_spec (ws := fm_ws y bytes maxL ret) B.pre
  have hown : s.vm.findClass own = some m.cls := by rw [← ho]; exact findClass_of_methodNamed B.named
  have hC : fm_C p s m as.toArray meth c D cA b bytes maxL own ret lay.length := ⟨⟨B.exec, B.bytes, hml, hown, fun w h => hts w (List.mem_cons_of_mem _ h)⟩, hK, hz, B.returns, B.notSynchronized⟩
  have hG := body p e s m as.toArray below meth c hC (name_of_methodNamed B.named B.method).1
  have hl := lv_entry as (n := maxL) hlen
  rw [lg_entry_eq]
  exact hG s.heap [] _ hP va_S.rf hl
theorem fm_size {p : Program} {l : Launch} {e : Env} {R : Room} {s : State} {m : MethodId} {args : Array Value} {below : List Frame} {meth : Method} {c : Code} {T : State} {locs : List Loc} {cells slots : Nat} {D : va_G} {cA : Nat → ClassId} {b n0 : Nat} {lay : List fm_E} {M : Nat → Nat → Int32} {L : Nat → Nat → Int64} {H : Heap} (X : Stand p l e R s m args below meth c T locs cells slots) (hT : T.heap = H) (hP : fm_P D cA b lay M L H) (hn : s.heap.size = b + n0) (hct : lay.length = n0 + cells) : H.size = b + lay.length := by
  have h1 : H.size ≤ s.heap.size + cells := by rw [← hT]; exact X.same.2.2.1
  have h2 : s.heap.size ≤ H.size := by rw [← hT]; exact X.same.2.1
  rcases Nat.eq_zero_or_pos lay.length with h0 | h0
  · omega
  · have h3 : lay[lay.length - 1]? = some (lay[lay.length - 1]'(by omega)) := List.getElem?_eq_getElem (by omega)
    have h4 := (hP _ _ (fm_at h3)).lt
    simp only at h4
    omega
theorem fm_goodIn {z : MethodName} {cz : ByteArray} {nz : Nat} {rz : Option FieldType} (h : Cond.code z cz nz rz ∈ fm_all) : GoodIn fm_all (fm_ws z cz nz rz) := fun w hw => by
  have hm : w ∈ fm_all := (List.mem_cons.mp hw).elim (fun q => by rw [q]; exact h) id
  exact ⟨hm, good_of_word (fm_good hm)⟩
