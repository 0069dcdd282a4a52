/-! ===== calls and the making of cells ===== -/
section FMC
variable {p : Program} {l : Launch} {e : Env} {R : Room} {s : State} {m : MethodId} {args : Array Value} {below : List Frame} {meth : Method} {c : Code} {Q : State → Prop} {D : va_G} {cA : Nat → ClassId} {b nL : Nat} {lay lay' : List fm_E} {M : Nat → Nat → Int32} {L : Nat → Nat → Int64} {cells slots pc : Nat} {lv : List (Nat × Value)} {st : List Value} {cc : ByteArray} {own : String} {ret : Option FieldType} {n0 : Nat}
variable {y : MethodName} {bytes : ByteArray} {maxL : Nat} {ret' : Option FieldType} {fr lo mc ms index : Nat} {as rest : List Value} {post : Option Value → (Nat → Nat → Int32) → (Nat → Nat → Int64) → Prop}
def fm_linkV (own : String) (index : Nat) (C : String) (y : MethodName) (bytes : ByteArray) (maxL : Nat) (ret : Option FieldType) : Prop := Cond.methodLink own index y ∈ fm_all ∧ Cond.instanceMethod y ∈ fm_all ∧ Cond.selects C y y ∈ fm_all ∧ Cond.initialized C ∈ fm_all ∧ Cond.code y bytes maxL ret ∈ fm_all
def fm_linkS (own : String) (index : Nat) (y : MethodName) (bytes : ByteArray) (maxL : Nat) (ret : Option FieldType) : Prop := Cond.methodLink own index y ∈ fm_all ∧ Cond.static y ∈ fm_all ∧ Cond.initialized y.cls ∈ fm_all ∧ Cond.code y bytes maxL ret ∈ fm_all
def fm_linkI (own : String) (index : Nat) (y : MethodName) (bytes : ByteArray) (maxL : Nat) : Prop := Cond.methodLink own index y ∈ fm_all ∧ Cond.instanceMethod y ∈ fm_all ∧ Cond.initialized y.cls ∈ fm_all ∧ Cond.code y bytes maxL none ∈ fm_all
def fm_linkSN (own : String) (index : Nat) (y : MethodName) (host : String) (bytes : ByteArray) (maxL : Nat) (ret : Option FieldType) : Prop := (own, index, y, host) ∈ fm_nests ∧ Cond.static y ∈ fm_all ∧ Cond.initialized y.cls ∈ fm_all ∧ Cond.code y bytes maxL ret ∈ fm_all
def fm_linkIN (own : String) (index : Nat) (y : MethodName) (host : String) (bytes : ByteArray) (maxL : Nat) : Prop := (own, index, y, host) ∈ fm_nests ∧ Cond.instanceMethod y ∈ fm_all ∧ Cond.initialized y.cls ∈ fm_all ∧ Cond.code y bytes maxL none ∈ fm_all
theorem fm_goodV {C : String} (h : fm_linkV own index C y bytes maxL ret') : GoodIn fm_all (wsV own index C y (fm_ws y bytes maxL ret')) := fun w hw => by
  rcases List.mem_append.mp hw with q | q
  · have hm : w ∈ fm_all := by
      simp only [List.mem_cons, List.not_mem_nil, or_false] at q
      rcases q with rfl | rfl | rfl | rfl
      · exact h.1
      · exact h.2.1
      · exact h.2.2.1
      · exact h.2.2.2.1
    exact ⟨hm, good_of_word (fm_good hm)⟩
  · exact fm_goodIn h.2.2.2.2 w q
theorem fm_goodS (h : fm_linkS own index y bytes maxL ret') : GoodIn fm_all (va_wsS own index y (fm_ws y bytes maxL ret')) := fun w hw => by
  rcases List.mem_append.mp hw with q | q
  · have hm : w ∈ fm_all := by
      simp only [List.mem_cons, List.not_mem_nil, or_false] at q
      rcases q with rfl | rfl | rfl
      · exact h.1
      · exact h.2.1
      · exact h.2.2.1
    exact ⟨hm, good_of_word (fm_good hm)⟩
  · exact fm_goodIn h.2.2.2 w q
theorem fm_blind {as : List Value} : FrameBlind (va_Pc as (fun U => fm_P D cA b lay M L U.heap ∧ fm_K D cA U ∧ U.heap.size = b + lay.length)) := fun _ _ _ _ q => ⟨q.1, q.2.1, q.2.2.1.calling, q.2.2.2⟩
theorem fm_catR {m : MethodId} {ls : Array Slot} {st : List Value} (h : (rest.map fun v => v.category).sum ≤ 8) : 2 * (F0 m pc ls st).monitorRoom + (rest.map fun v => v.category).sum ≤ 8 := lv_room h
theorem fm_behind {H : Heap} {locs : List Loc} {ls : Array Slot} (hS : va_S (fun q => b ≤ q) s.heap H locs) (hv : lv_has ls nL lv)
    (hr : va_Run p l e R s m args below meth c H locs cells slots mc ms (F0 m pc ls st) rest (fm_Q D cA b lay' post as.toArray) (fun q => b ≤ q))
    (kk : ∀ (v : Option Value) (M' : Nat → Nat → Int32) (L' : Nat → Nat → Int64), post v M' L' → fm_G p l e R s m args below meth c D cA b nL Q lay' M' L' (cells + mc) (slots + ms) (pc + 3) lv (v.toList ++ rest)) :
    W p l e R s m args below meth c H locs cells slots Q (F0 m pc ls st) := by
  intro T hT X
  obtain ⟨v, st₀, t, T', L1, h0, X', hL, e1, e2, ⟨⟨v', M', L', hv', hp, hP'⟩, hz1, hk1⟩, stp⟩ := hr T hT X
  cases hv'
  rw [h0] at hz1 hk1
  obtain ⟨t2, a1, b1⟩ := kk v M' L' hp T'.heap (locs ++ L1) ls (by rw [e1]; exact hP')
    ⟨Nat.le_trans hS.1 (by rw [e1]; exact hz1), fun q h1 h2 => by rw [e1, hk1 q (Nat.lt_of_lt_of_le h1 hS.1) h2]; exact hS.2.1 q h1 h2, fun q hq => (List.mem_append.mp hq).elim (fun h => hS.2.2 q h) (fun h => hL q h)⟩ hv T' rfl X'
  exact ⟨t2, stp t2 a1, b1⟩
abbrev fm_KK (p : Program) (l : Launch) (e : Env) (R : Room) (s : State) (m : MethodId) (args : Array Value) (below : List Frame) (meth : Method) (c : Code) (D : va_G) (cA : Nat → ClassId) (b nL : Nat) (Q : State → Prop) (lay' : List fm_E) (cells slots mc ms pc : Nat) (lv : List (Nat × Value)) (rest : List Value) (post : Option Value → (Nat → Nat → Int32) → (Nat → Nat → Int64) → Prop) : Prop :=
  ∀ (v : Option Value) (M' : Nat → Nat → Int32) (L' : Nat → Nat → Int64), post v M' L' → fm_G p l e R s m args below meth c D cA b nL Q lay' M' L' (cells + mc) (slots + ms) (pc + 3) lv (v.toList ++ rest)
theorem g_callV (hC : fm_C p s m args meth c D cA b cc nL own ret n0) {C : String} {T : u_T} {N ci k : Nat} {zs : List Nat} (hM : fm_Met l D cA b y bytes maxL ret' fr lo mc ms (.ref (b + k) :: as) lay M L lay' post) (hl : fm_linkV own index C y bytes maxL ret')
    (hd : y.cls = C ∧ y.cls ≠ "java/lang/invoke/MethodHandle" ∧ y.cls ≠ "java/lang/invoke/VarHandle" ∧ (parseMethodDescriptor y.desc).map (fun d => d.parameters.length) = some as.length) (hc : vwCl[ci]? = some (C, T, N)) (hk : lay[k]? = some (0, ci, zs))
    (hR : fr + 1 ≤ R.frames ∧ 8 + (maxL + 11) + lo ≤ R.locals) (hf : cells + mc ≤ R.cells ∧ slots + ms ≤ R.slots) (hct : lay.length = n0 + cells) (hst : st = as.reverse ++ .ref (b + k) :: rest) (hW : (rest.map fun v => v.category).sum ≤ 8) (hdg : decode cc pc = .ok (.invokevirtual index, 3))
    (kk : fm_KK p l e R s m args below meth c D cA b nL Q lay' cells slots mc ms pc lv rest post) : fm_G p l e R s m args below meth c D cA b nL Q lay M L cells slots pc lv st := by
  intro H locs ls hP hS hv T hT X
  have hz := fm_size X hT hP hC.2.2.1 hct
  exact fm_behind (as := .ref (b + k) :: as) hS hv (va_runV (As := as) (rest := rest) hC.1 hM (cwV as.length hC.1.2.2.2.2 (fm_goodV hl) rfl rfl rfl hd hR) ⟨fm_blind, va_recv hC.2.1.1 hP hc (fm_at hk), fun U hU hW' => ⟨rfl, by rw [hU]; exact hP, hC.2.1.warm hW', by rw [hU]; exact hz⟩⟩ rfl rfl hv.1 hst (fm_catR hW) hdg hf) kk T hT X
theorem g_callS (hC : fm_C p s m args meth c D cA b cc nL own ret n0) (hM : fm_Met l D cA b y bytes maxL ret' fr lo mc ms as lay M L lay' post) (hl : fm_linkS own index y bytes maxL ret')
    (hd : y.cls ≠ "java/lang/invoke/MethodHandle" ∧ y.cls ≠ "java/lang/invoke/VarHandle" ∧ (parseMethodDescriptor y.desc).map (fun d => d.parameters.length) = some as.length)
    (hR : fr + 1 ≤ R.frames ∧ 8 + (maxL + 11) + lo ≤ R.locals) (hf : cells + mc ≤ R.cells ∧ slots + ms ≤ R.slots) (hct : lay.length = n0 + cells) (hst : st = as.reverse ++ rest) (hW : (rest.map fun v => v.category).sum ≤ 8) (hdg : decode cc pc = .ok (.invokestatic index, 3))
    (kk : fm_KK p l e R s m args below meth c D cA b nL Q lay' cells slots mc ms pc lv rest post) : fm_G p l e R s m args below meth c D cA b nL Q lay M L cells slots pc lv st := by
  intro H locs ls hP hS hv T hT X
  have hz := fm_size X hT hP hC.2.2.1 hct
  exact fm_behind (as := as) hS hv (va_runS (As := as) (rest := rest) hC.1 hM (va_cwS as.length hC.1.2.2.2.2 (fm_goodS hl) rfl rfl rfl hd hR) ⟨fm_blind, fun U hU hW' => ⟨rfl, by rw [hU]; exact hP, hC.2.1.warm hW', by rw [hU]; exact hz⟩⟩ rfl rfl hv.1 hst (fm_catR hW) hdg hf) kk T hT X
theorem g_callSN (hC : fm_C p s m args meth c D cA b cc nL own ret n0) {host : String} (hM : fm_Met l D cA b y bytes maxL ret' fr lo mc ms as lay M L lay' post) (hl : fm_linkSN own index y host bytes maxL ret')
    (hd : y.cls ≠ "java/lang/invoke/MethodHandle" ∧ y.cls ≠ "java/lang/invoke/VarHandle" ∧ (parseMethodDescriptor y.desc).map (fun d => d.parameters.length) = some as.length)
    (hR : fr + 1 ≤ R.frames ∧ 8 + (maxL + 11) + lo ≤ R.locals) (hf : cells + mc ≤ R.cells ∧ slots + ms ≤ R.slots) (hct : lay.length = n0 + cells) (hst : st = as.reverse ++ rest) (hW : (rest.map fun v => v.category).sum ≤ 8) (hdg : decode cc pc = .ok (.invokestatic index, 3))
    (kk : fm_KK p l e R s m args below meth c D cA b nL Q lay' cells slots mc ms pc lv rest post) : fm_G p l e R s m args below meth c D cA b nL Q lay M L cells slots pc lv st := by
  intro H locs ls hP hS hv T hT X
  have hz := fm_size X hT hP hC.2.2.1 hct
  exact fm_behind (as := as) hS hv (va_runSN (As := as) (rest := rest) hC.1 hM ⟨va_cnB as.length hC.1.2.2.2.2 (fm_goodIn hl.2.2.2) rfl rfl rfl (hC.2.1.2.1 _ hl.1) (hC.1.2.2.2.2 _ hl.2.2.1) hd hR, hC.1.2.2.2.2 _ hl.2.1, trivial⟩ ⟨fm_blind, fun U hU hW' => ⟨rfl, by rw [hU]; exact hP, hC.2.1.warm hW', by rw [hU]; exact hz⟩⟩ rfl rfl hv.1 hst (fm_catR hW) hdg hf) kk T hT X
theorem g_callI (hC : fm_C p s m args meth c D cA b cc nL own ret n0) {k : Nat} (hM : fm_Met l D cA b y bytes maxL none fr lo mc ms (.ref (b + k) :: as) lay M L lay' post) (hl : fm_linkI own index y bytes maxL) (hn : y.name = "<init>")
    (hd : y.cls ≠ "java/lang/invoke/MethodHandle" ∧ y.cls ≠ "java/lang/invoke/VarHandle" ∧ (parseMethodDescriptor y.desc).map (fun d => d.parameters.length) = some as.length)
    (hR : fr + 1 ≤ R.frames ∧ 8 + (maxL + 11) + lo ≤ R.locals) (hf : cells + mc ≤ R.cells ∧ slots + ms ≤ R.slots) (hct : lay.length = n0 + cells) (hst : st = as.reverse ++ .ref (b + k) :: rest) (hW : (rest.map fun v => v.category).sum ≤ 8) (hdg : decode cc pc = .ok (.invokespecial index, 3))
    (kk : fm_KK p l e R s m args below meth c D cA b nL Q lay' cells slots mc ms pc lv rest post) : fm_G p l e R s m args below meth c D cA b nL Q lay M L cells slots pc lv st := by
  intro H locs ls hP hS hv T hT X
  have hz := fm_size X hT hP hC.2.2.1 hct
  exact fm_behind (as := .ref (b + k) :: as) hS hv (va_runI (As := as) (rest := rest) hC.1 hM (cwI as.length hC.1.2.2.2.2 (fm_goodIn hl.2.2.2) rfl rfl rfl (hC.1.2.2.2.2 _ hl.2.2.1) (hC.1.2.2.2.2 _ hl.1) (hC.1.2.2.2.2 _ hl.2.1) hn hd hR) ⟨fm_blind, fun U hU hW' => ⟨rfl, by rw [hU]; exact hP, hC.2.1.warm hW', by rw [hU]; exact hz⟩⟩ rfl rfl hv.1 hst (fm_catR hW) hdg hf) kk T hT X
theorem g_callIN (hC : fm_C p s m args meth c D cA b cc nL own ret n0) {k : Nat} {host : String} (hM : fm_Met l D cA b y bytes maxL none fr lo mc ms (.ref (b + k) :: as) lay M L lay' post) (hl : fm_linkIN own index y host bytes maxL) (hn : y.name = "<init>")
    (hd : y.cls ≠ "java/lang/invoke/MethodHandle" ∧ y.cls ≠ "java/lang/invoke/VarHandle" ∧ (parseMethodDescriptor y.desc).map (fun d => d.parameters.length) = some as.length)
    (hR : fr + 1 ≤ R.frames ∧ 8 + (maxL + 11) + lo ≤ R.locals) (hf : cells + mc ≤ R.cells ∧ slots + ms ≤ R.slots) (hct : lay.length = n0 + cells) (hst : st = as.reverse ++ .ref (b + k) :: rest) (hW : (rest.map fun v => v.category).sum ≤ 8) (hdg : decode cc pc = .ok (.invokespecial index, 3))
    (kk : fm_KK p l e R s m args below meth c D cA b nL Q lay' cells slots mc ms pc lv rest post) : fm_G p l e R s m args below meth c D cA b nL Q lay M L cells slots pc lv st := by
  intro H locs ls hP hS hv T hT X
  have hz := fm_size X hT hP hC.2.2.1 hct
  exact fm_behind (as := .ref (b + k) :: as) hS hv (va_runIN (As := as) (rest := rest) hC.1 hM ⟨va_cnB as.length hC.1.2.2.2.2 (fm_goodIn hl.2.2.2) rfl rfl rfl (hC.2.1.2.1 _ hl.1) (hC.1.2.2.2.2 _ hl.2.2.1) hd hR, hn, hC.1.2.2.2.2 _ hl.2.1⟩ ⟨fm_blind, fun U hU hW' => ⟨rfl, by rw [hU]; exact hP, hC.2.1.warm hW', by rw [hU]; exact hz⟩⟩ rfl rfl hv.1 hst (fm_catR hW) hdg hf) kk T hT X
/-- an answer that is an int, the memory as it was -/
abbrev fm_pi (r : Int32) (M : Nat → Nat → Int32) (L : Nat → Nat → Int64) : Option Value → (Nat → Nat → Int32) → (Nat → Nat → Int64) → Prop := fun v M' L' => v = some (.int r) ∧ M' = M ∧ L' = L
theorem g_ri {r : Int32} (kk : fm_G p l e R s m args below meth c D cA b nL Q lay M L cells slots (pc + 3) lv (.int r :: rest)) : fm_KK p l e R s m args below meth c D cA b nL Q lay cells slots 0 0 pc lv rest (fm_pi r M L) := by
  intro v M' L' h
  obtain ⟨rfl, rfl, rfl⟩ := h
  exact kk
/-- the memory as it was, an int answer of which 'ok' is said -/
theorem g_ra {ok : Int32 → Prop} (kk : ∀ r : Int32, ok r → fm_G p l e R s m args below meth c D cA b nL Q lay M L cells slots (pc + 3) lv (.int r :: rest)) : fm_KK p l e R s m args below meth c D cA b nL Q lay cells slots 0 0 pc lv rest (fun v M' L' => ∃ r, v = some (.int r) ∧ M' = M ∧ L' = L ∧ ok r) := by
  intro v M' L' h
  obtain ⟨r, rfl, rfl, rfl, h⟩ := h
  exact kk r h
/-- an int answer and new memory -/
abbrev fm_pm (ok : Int32 → (Nat → Nat → Int32) → (Nat → Nat → Int64) → Prop) : Option Value → (Nat → Nat → Int32) → (Nat → Nat → Int64) → Prop := fun v M' L' => ∃ r, v = some (.int r) ∧ ok r M' L'
theorem g_rm {ok : Int32 → (Nat → Nat → Int32) → (Nat → Nat → Int64) → Prop} (kk : ∀ (r : Int32) (M' : Nat → Nat → Int32) (L' : Nat → Nat → Int64), ok r M' L' → fm_G p l e R s m args below meth c D cA b nL Q lay' M' L' (cells + mc) (slots + ms) (pc + 3) lv (.int r :: rest)) : fm_KK p l e R s m args below meth c D cA b nL Q lay' cells slots mc ms pc lv rest (fm_pm ok) := by
  intro v M' L' h
  obtain ⟨r, rfl, h⟩ := h
  exact kk r M' L' h
abbrev fm_pv (ok : (Nat → Nat → Int32) → (Nat → Nat → Int64) → Prop) : Option Value → (Nat → Nat → Int32) → (Nat → Nat → Int64) → Prop := fun v M' L' => v = none ∧ ok M' L'
theorem g_rv {ok : (Nat → Nat → Int32) → (Nat → Nat → Int64) → Prop} (kk : ∀ (M' : Nat → Nat → Int32) (L' : Nat → Nat → Int64), ok M' L' → fm_G p l e R s m args below meth c D cA b nL Q lay' M' L' (cells + mc) (slots + ms) (pc + 3) lv rest) : fm_KK p l e R s m args below meth c D cA b nL Q lay' cells slots mc ms pc lv rest (fm_pv ok) := by
  intro v M' L' h
  obtain ⟨rfl, h⟩ := h
  exact kk M' L' h
abbrev fm_pl (ok : Int64 → (Nat → Nat → Int32) → (Nat → Nat → Int64) → Prop) : Option Value → (Nat → Nat → Int32) → (Nat → Nat → Int64) → Prop := fun v M' L' => ∃ r, v = some (.long r) ∧ ok r M' L'
theorem g_rl {ok : Int64 → (Nat → Nat → Int32) → (Nat → Nat → Int64) → Prop} (kk : ∀ (r : Int64) (M' : Nat → Nat → Int32) (L' : Nat → Nat → Int64), ok r M' L' → fm_G p l e R s m args below meth c D cA b nL Q lay' M' L' (cells + mc) (slots + ms) (pc + 3) lv (.long r :: rest)) : fm_KK p l e R s m args below meth c D cA b nL Q lay' cells slots mc ms pc lv rest (fm_pl ok) := by
  intro v M' L' h
  obtain ⟨r, rfl, h⟩ := h
  exact kk r M' L' h
/-! the making of cells -/
theorem fm_push {M' : Nat → Nat → Int32} {L' : Nat → Nat → Int64} {H H1 : Heap} {e : fm_E} (hP : fm_P D cA b lay M L H) (hM : ∀ j, j < lay.length → M' j = M j) (hL : ∀ j, j < lay.length → L' j = L j) (hz : H.size = b + lay.length) (o1 : ∀ q, q < b + lay.length → H1[q]? = H[q]?) (hn : va_at D vwCl (b + lay.length, fm_cell cA b M' L' lay.length e) H1) : fm_P D cA b (lay ++ [e]) M' L' H1 := by
  intro k q hk
  rw [fm_w_get, Nat.zero_add] at hk
  rcases Nat.lt_or_ge k lay.length with h | h
  · rw [List.getElem?_append_left h, List.getElem?_eq_getElem h] at hk
    simp only [Option.map_some, Option.some.injEq] at hk
    subst hk
    have h1 := hP k _ (fm_at (List.getElem?_eq_getElem h))
    rw [fm_cell_cong (hM k h) (hL k h)]
    exact h1.kept (o1 _ (by omega))
  · rw [List.getElem?_append_right h] at hk
    have h0 : k - lay.length = 0 := by
      cases hj : k - lay.length with
      | zero => rfl
      | succ j => rw [hj] at hk; simp at hk
    rw [h0] at hk
    simp only [List.getElem?_cons_zero, Option.map_some, Option.some.injEq] at hk
    subst hk
    have : k = lay.length := by omega
    subst this
    exact hn
theorem fm_pushS {H H1 : Heap} {locs : List Loc} {n : Nat} (hS : va_S (fun q => b ≤ q) s.heap H locs) (hz : H.size = b + n) (z1 : H1.size = b + n + 1) (o1 : ∀ q, q < b + n → H1[q]? = H[q]?) : va_S (fun q => b ≤ q) s.heap H1 locs :=
  ⟨Nat.le_trans hS.1 (by omega), fun x h1 h2 => (o1 x (by omega)).trans (hS.2.1 x h1 h2), hS.2.2⟩
theorem g_new (hC : fm_C p s m args meth c D cA b cc nL own ret n0) {C : String} {T : u_T} {N ci : Nat} {zs : List Nat} (hin : ∀ w ∈ u_ws C T N, w ∈ fm_all) (ty0 : Nat → FieldType) (hty : ∀ k, k < N → parseFieldDescriptor (T k).2.2.1 = some (ty0 k)) (hc : vwCl[ci]? = some (C, T, N)) (h1 : Cond.classLink own index C ∈ fm_all) (h2 : Cond.instantiable C N ∈ fm_all) (h3 : Cond.initialized C ∈ fm_all)
    (hfs : ∀ j, j < N → defaultValue (ty0 j) = vp_V (fm_fs b (fm_row M lay.length (fun _ => 0)) lay.length 0 zs) j) (hct : lay.length = n0 + cells) (hcells : cells + 1 ≤ R.cells) (hslots : slots + N ≤ R.slots) (hd : decode cc pc = .ok (.new index, 3))
    (kk : fm_G p l e R s m args below meth c D cA b nL Q (lay ++ [(0, ci, zs)]) (fm_row M lay.length (fun _ => 0)) L (cells + 1) (slots + N) (pc + 3) lv (.ref (b + lay.length) :: st)) : fm_G p l e R s m args below meth c D cA b nL Q lay M L cells slots pc lv st := by
  intro H locs ls hP hS hv T hT X
  have hz := fm_size X hT hP hC.2.2.1 hct
  have hKn := hC.2.1.1.1 ci _ hc
  have w : W p l e R s m args below meth c H locs cells slots Q (F0 m pc ls st) := by
    refine W.newcK hC.1.1 hC.1.2.1 hC.1.2.2.2.1 (hC.1.2.2.2.2 _ h1) (hC.1.2.2.2.2 _ h2) (hC.1.2.2.2.2 _ h3) rfl hd hcells hslots hKn.2.1 hz (fun H1 kC hkC e1 z1 o1 => ?_)
    refine kk H1 locs ls (fm_push hP (fun j hj => fm_row_n (Nat.ne_of_lt hj)) (fun j hj => rfl) hz o1 ?_) (fm_pushS hS hz z1 o1) hv
    exact ⟨_, hc, (u_born ty0 hC.1.2.2.2.2 hin hKn hkC e1 hty).to hfs⟩
  exact w T hT X
theorem fm_ca {D : va_G} {cA : Nat → ClassId} {t0 : Nat} {ty : FieldType} {k : Nat} {cA' : ClassId} (hK : fm_K D cA s) (ht : (fm_tys cA)[t0]? = some (cA k, ty)) (hN : s.vm.findClass ("[" ++ ty.toString) = some cA') : cA' = cA k := by
  have h := (hK.1.2 t0 _ ht).2
  have h2 : s.vm.findClass ("[" ++ ty.toString) = some (cA k) := by
    cases ty with
    | object C => obtain ⟨_, _, -, -, -, h⟩ := h; exact h
    | _ => exact h
  exact Option.some.inj (hN.symm.trans h2)
theorem g_newI (hC : fm_C p s m args meth c D cA b cc nL own ret n0) {n : Int32} (N : Nat) (ha : Cond.arrayClass .int ∈ fm_all) (hn : ¬ n < 0) (hN : n.toNatClampNeg = N) (hb : N * 4 ≤ 536870912) (hct : lay.length = n0 + cells) (hcells : cells + 1 ≤ R.cells) (hslots : slots + N ≤ R.slots) (hd : decode cc pc = .ok (.newarray .int, 2))
    (kk : fm_G p l e R s m args below meth c D cA b nL Q (lay ++ [(1, N, [])]) (fm_row M lay.length (fun _ => 0)) L (cells + 1) (slots + N) (pc + 2) lv (.ref (b + lay.length) :: st)) : fm_G p l e R s m args below meth c D cA b nL Q lay M L cells slots pc lv (.int n :: st) := by
  intro H locs ls hP hS hv T hT X
  have hz := fm_size X hT hP hC.2.2.1 hct
  have w : W p l e R s m args below meth c H locs cells slots Q (F0 m pc ls (.int n :: st)) := by
    refine va_newaK (atype := .int) hC.1.1 hC.1.2.1 (hC.1.2.2.2.2 _ ha) rfl hd rfl hn hN hb hcells hslots hz (fun H1 cA' e1 z1 o1 _ hNm => ?_)
    refine kk H1 locs ls (fm_push hP (fun j hj => fm_row_n (Nat.ne_of_lt hj)) (fun j hj => rfl) hz o1 ?_) (fm_pushS hS hz z1 o1) hv
    show H1[b + lay.length]? = some (vp_cell (cA 1) (N, .inl (fm_row M lay.length (fun _ => 0) lay.length)))
    rw [e1, fm_row_s, vp_cell_i, fm_ca hC.2.1 (t0 := 0) (k := 1) (ty := .int) rfl hNm]
    rfl
  exact w T hT X
theorem g_newC (hC : fm_C p s m args meth c D cA b cc nL own ret n0) {n : Int32} (N : Nat) (ha : Cond.arrayClass .char ∈ fm_all) (hn : ¬ n < 0) (hN : n.toNatClampNeg = N) (hb : N * 2 ≤ 536870912) (hct : lay.length = n0 + cells) (hcells : cells + 1 ≤ R.cells) (hslots : slots + N ≤ R.slots) (hd : decode cc pc = .ok (.newarray .char, 2))
    (kk : fm_G p l e R s m args below meth c D cA b nL Q (lay ++ [(3, N, [])]) (fm_row M lay.length (fun _ => 0)) L (cells + 1) (slots + N) (pc + 2) lv (.ref (b + lay.length) :: st)) : fm_G p l e R s m args below meth c D cA b nL Q lay M L cells slots pc lv (.int n :: st) := by
  intro H locs ls hP hS hv T hT X
  have hz := fm_size X hT hP hC.2.2.1 hct
  have w : W p l e R s m args below meth c H locs cells slots Q (F0 m pc ls (.int n :: st)) := by
    refine va_newaK (atype := .char) hC.1.1 hC.1.2.1 (hC.1.2.2.2.2 _ ha) rfl hd rfl hn hN hb hcells hslots hz (fun H1 cA' e1 z1 o1 _ hNm => ?_)
    refine kk H1 locs ls (fm_push hP (fun j hj => fm_row_n (Nat.ne_of_lt hj)) (fun j hj => rfl) hz o1 ?_) (fm_pushS hS hz z1 o1) hv
    show H1[b + lay.length]? = some (vp_cell (cA 3) (N, .inl (fm_row M lay.length (fun _ => 0) lay.length)))
    rw [e1, fm_row_s, vp_cell_i, fm_ca hC.2.1 (t0 := 2) (k := 3) (ty := .char) rfl hNm]
    rfl
  exact w T hT X
theorem g_newJ (hC : fm_C p s m args meth c D cA b cc nL own ret n0) {n : Int32} (N : Nat) (ha : Cond.arrayClass .long ∈ fm_all) (hn : ¬ n < 0) (hN : n.toNatClampNeg = N) (hb : N * 8 ≤ 536870912) (hct : lay.length = n0 + cells) (hcells : cells + 1 ≤ R.cells) (hslots : slots + N ≤ R.slots) (hd : decode cc pc = .ok (.newarray .long, 2))
    (kk : fm_G p l e R s m args below meth c D cA b nL Q (lay ++ [(2, N, [])]) M (fm_rowL L lay.length (fun _ => 0)) (cells + 1) (slots + N) (pc + 2) lv (.ref (b + lay.length) :: st)) : fm_G p l e R s m args below meth c D cA b nL Q lay M L cells slots pc lv (.int n :: st) := by
  intro H locs ls hP hS hv T hT X
  have hz := fm_size X hT hP hC.2.2.1 hct
  have w : W p l e R s m args below meth c H locs cells slots Q (F0 m pc ls (.int n :: st)) := by
    refine va_newaK (atype := .long) hC.1.1 hC.1.2.1 (hC.1.2.2.2.2 _ ha) rfl hd rfl hn hN hb hcells hslots hz (fun H1 cA' e1 z1 o1 _ hNm => ?_)
    refine kk H1 locs ls (fm_push hP (fun j hj => rfl) (fun j hj => fm_rowL_n (Nat.ne_of_lt hj)) hz o1 ?_) (fm_pushS hS hz z1 o1) hv
    show H1[b + lay.length]? = some (vp_cell (cA 2) (N, .inr (.inl (fm_rowL L lay.length (fun _ => 0) lay.length))))
    rw [e1, fm_rowL_s, vp_cell_l, fm_ca hC.2.1 (t0 := 1) (k := 2) (ty := .long) rfl hNm]
    rfl
  exact w T hT X
theorem fm_tg0 (b N : Nat) : fm_tg b (List.replicate N 0) = fun _ => none := by
  funext j
  have h : (List.replicate N 0).getD j 0 = 0 := by
    simp only [List.getD, List.getElem?_replicate]
    split <;> rfl
  show (match (List.replicate N 0).getD j 0 with | 0 => none | t + 1 => some (b + t)) = none
  rw [h]
theorem g_newQ4 (hC : fm_C p s m args meth c D cA b cc nL own ret n0) {n : Int32} (N : Nat) (ha : Cond.classLink own index RX1 ∈ fm_all) (hn : ¬ n < 0) (hN : n.toNatClampNeg = N) (hb : N * 4 ≤ 536870912) (hct : lay.length = n0 + cells) (hcells : cells + 1 ≤ R.cells) (hslots : slots + N ≤ R.slots) (hd : decode cc pc = .ok (.anewarray index, 3))
    (kk : fm_G p l e R s m args below meth c D cA b nL Q (lay ++ [(4, N, List.replicate N 0)]) M L (cells + 1) (slots + N) (pc + 3) lv (.ref (b + lay.length) :: st)) : fm_G p l e R s m args below meth c D cA b nL Q lay M L cells slots pc lv (.int n :: st) := by
  intro H locs ls hP hS hv T hT X
  have hz := fm_size X hT hP hC.2.2.1 hct
  subst hN
  have w : W p l e R s m args below meth c H locs cells slots Q (F0 m pc ls (.int n :: st)) := by
    refine W.anew hC.1.1 hC.1.2.1 hC.1.2.2.2.1 (hC.1.2.2.2.2 _ ha) (va_AO.use hC.2.1.2.2.1) rfl hd rfl hn hb hcells hslots (fun cA' kA comp f1 f2 f3 f4 => ?_)
    generalize hH1 : H.push ({ cls := cA', slots := Array.replicate n.toNatClampNeg .null, vm := .none } : Cell) = H1
    have z1 : H1.size = b + lay.length + 1 := by rw [← hH1, Array.size_push, hz]
    have e1 : H1[b + lay.length]? = some (arrV cA' n.toNatClampNeg (fun _ => .null)) := by rw [← hH1, ← hz, Array.getElem?_push_size, ← arrV_new]
    have o1 : ∀ q : Nat, q < b + lay.length → H1[q]? = H[q]? := fun q hq => by rw [← hH1, Array.getElem?_push, if_neg (Nat.ne_of_lt (by rw [hz]; exact hq))]
    have k1 := kk H1 locs ls (fm_push hP (fun j hj => rfl) (fun j hj => rfl) hz o1 (by
      show H1[b + lay.length]? = some (vp_cell (cA 4) (n.toNatClampNeg, .inr (.inr (.inr (.inr (fm_tg b (List.replicate n.toNatClampNeg 0)))))))
      rw [e1, vp_cell_q, fm_tg0, fm_ca hC.2.1 (t0 := 3) (k := 4) (ty := .object RX1) rfl f1]
      rfl)) (fm_pushS hS hz z1 o1) hv
    rw [← hz] at k1
    exact k1
  exact w T hT X
theorem g_newQ5 (hC : fm_C p s m args meth c D cA b cc nL own ret n0) {n : Int32} (N : Nat) (ha : Cond.classLink own index RX3 ∈ fm_all) (hn : ¬ n < 0) (hN : n.toNatClampNeg = N) (hb : N * 4 ≤ 536870912) (hct : lay.length = n0 + cells) (hcells : cells + 1 ≤ R.cells) (hslots : slots + N ≤ R.slots) (hd : decode cc pc = .ok (.anewarray index, 3))
    (kk : fm_G p l e R s m args below meth c D cA b nL Q (lay ++ [(5, N, List.replicate N 0)]) M L (cells + 1) (slots + N) (pc + 3) lv (.ref (b + lay.length) :: st)) : fm_G p l e R s m args below meth c D cA b nL Q lay M L cells slots pc lv (.int n :: st) := by
  intro H locs ls hP hS hv T hT X
  have hz := fm_size X hT hP hC.2.2.1 hct
  subst hN
  have w : W p l e R s m args below meth c H locs cells slots Q (F0 m pc ls (.int n :: st)) := by
    refine W.anew hC.1.1 hC.1.2.1 hC.1.2.2.2.1 (hC.1.2.2.2.2 _ ha) (va_AO.use hC.2.1.2.2.2) rfl hd rfl hn hb hcells hslots (fun cA' kA comp f1 f2 f3 f4 => ?_)
    generalize hH1 : H.push ({ cls := cA', slots := Array.replicate n.toNatClampNeg .null, vm := .none } : Cell) = H1
    have z1 : H1.size = b + lay.length + 1 := by rw [← hH1, Array.size_push, hz]
    have e1 : H1[b + lay.length]? = some (arrV cA' n.toNatClampNeg (fun _ => .null)) := by rw [← hH1, ← hz, Array.getElem?_push_size, ← arrV_new]
    have o1 : ∀ q : Nat, q < b + lay.length → H1[q]? = H[q]? := fun q hq => by rw [← hH1, Array.getElem?_push, if_neg (Nat.ne_of_lt (by rw [hz]; exact hq))]
    have k1 := kk H1 locs ls (fm_push hP (fun j hj => rfl) (fun j hj => rfl) hz o1 (by
      show H1[b + lay.length]? = some (vp_cell (cA 5) (n.toNatClampNeg, .inr (.inr (.inr (.inr (fm_tg b (List.replicate n.toNatClampNeg 0)))))))
      rw [e1, vp_cell_q, fm_tg0, fm_ca hC.2.1 (t0 := 4) (k := 5) (ty := .object RX3) rfl f1]
      rfl)) (fm_pushS hS hz z1 o1) hv
    rw [← hz] at k1
    exact k1
  exact w T hT X
end FMC
