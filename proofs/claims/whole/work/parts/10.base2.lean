/-! ===== branches whose conditions are told of integers; answers with new memory ===== -/
section FMT
variable {p : Program} {l : Launch} {e : Env} {R : Room} {s : State} {m : MethodId} {args : Array Value} {below : List Frame} {meth : Method} {c : Code} {Q : State → Prop} {D : va_G} {cA : Nat → ClassId} {b nL : Nat} {lay : List fm_E} {M : Nat → Nat → Int32} {L : Nat → Nat → Int64} {cells slots pc : Nat} {lv : List (Nat × Value)} {st rest : List Value} {cc : ByteArray} {own : String} {ret : Option FieldType} {n0 : Nat} {lay' : List fm_E} {mc ms : Nat}
theorem g_icmp_eq_T (hC : fm_C p s m args meth c D cA b cc nL own ret n0) {x y : Int32} {X Y : Int} (hx : x.toInt = X) (hy : y.toInt = Y) {off : Int} (tgt : Nat) (hd : decode cc pc = .ok (.if_icmp .eq off, 3)) (ht : (pc : Int) + off = (tgt : Int)) (kt : X = Y → fm_G p l e R s m args below meth c D cA b nL Q lay M L cells slots tgt lv st) (kf : X ≠ Y → fm_G p l e R s m args below meth c D cA b nL Q lay M L cells slots (pc + 3) lv st) : fm_G p l e R s m args below meth c D cA b nL Q lay M L cells slots pc lv (.int y :: .int x :: st) := g_icmp_eq hC tgt hd ht (fun h => kt (by simp only [ic_eq, hx, hy] at h; omega)) (fun h => kf (by simp only [ic_eq, hx, hy] at h; omega))
theorem g_if_eq_T (hC : fm_C p s m args meth c D cA b cc nL own ret n0) {x : Int32} {X : Int} (hx : x.toInt = X) {off : Int} (tgt : Nat) (hd : decode cc pc = .ok (.ifCond .eq off, 3)) (ht : (pc : Int) + off = (tgt : Int)) (kt : X = 0 → fm_G p l e R s m args below meth c D cA b nL Q lay M L cells slots tgt lv st) (kf : X ≠ 0 → fm_G p l e R s m args below meth c D cA b nL Q lay M L cells slots (pc + 3) lv st) : fm_G p l e R s m args below meth c D cA b nL Q lay M L cells slots pc lv (.int x :: st) := g_if_eq hC tgt hd ht (fun h => kt (by simp only [ic_eq, hx, show (0 : Int32).toInt = 0 from rfl] at h; omega)) (fun h => kf (by simp only [ic_eq, hx, show (0 : Int32).toInt = 0 from rfl] at h; omega))
theorem g_cmp_eq_T (hC : fm_C p s m args meth c D cA b cc nL own ret n0) {x y : Int64} {X Y : Int} (hx : x.toInt = X) (hy : y.toInt = Y) {off : Int} (tgt : Nat) (hd : decode cc pc = .ok (.ifCond .eq off, 3)) (ht : (pc : Int) + off = (tgt : Int)) (kt : X = Y → fm_G p l e R s m args below meth c D cA b nL Q lay M L cells slots tgt lv st) (kf : X ≠ Y → fm_G p l e R s m args below meth c D cA b nL Q lay M L cells slots (pc + 3) lv st) : fm_G p l e R s m args below meth c D cA b nL Q lay M L cells slots pc lv (.int (lg_cmp x y) :: st) := by
  have hq : (lg_cmp x y).toInt = if Y < X then 1 else if X = Y then 0 else -1 := by
    unfold lg_cmp
    simp only [gt_iff_lt, il_lt, il_eq, hx, hy]
    by_cases h1 : Y < X
    · simp [h1]
    · by_cases h2 : X = Y
      · simp [h2]
      · simp [h1, h2]
  refine g_if_eq_T hC hq tgt hd ht (fun h => kt ?_) (fun h => kf ?_)
  all_goals
    by_cases h1 : Y < X
    · simp [h1] at h
      try omega
    · by_cases h2 : X = Y
      · simp [h2] at h
        try omega
      · simp [h1, h2] at h
        try omega
theorem g_icmp_ne_T (hC : fm_C p s m args meth c D cA b cc nL own ret n0) {x y : Int32} {X Y : Int} (hx : x.toInt = X) (hy : y.toInt = Y) {off : Int} (tgt : Nat) (hd : decode cc pc = .ok (.if_icmp .ne off, 3)) (ht : (pc : Int) + off = (tgt : Int)) (kt : X ≠ Y → fm_G p l e R s m args below meth c D cA b nL Q lay M L cells slots tgt lv st) (kf : X = Y → fm_G p l e R s m args below meth c D cA b nL Q lay M L cells slots (pc + 3) lv st) : fm_G p l e R s m args below meth c D cA b nL Q lay M L cells slots pc lv (.int y :: .int x :: st) := g_icmp_ne hC tgt hd ht (fun h => kt (by simp only [ic_eq, hx, hy] at h; omega)) (fun h => kf (by simp only [ic_eq, hx, hy] at h; omega))
theorem g_if_ne_T (hC : fm_C p s m args meth c D cA b cc nL own ret n0) {x : Int32} {X : Int} (hx : x.toInt = X) {off : Int} (tgt : Nat) (hd : decode cc pc = .ok (.ifCond .ne off, 3)) (ht : (pc : Int) + off = (tgt : Int)) (kt : X ≠ 0 → fm_G p l e R s m args below meth c D cA b nL Q lay M L cells slots tgt lv st) (kf : X = 0 → fm_G p l e R s m args below meth c D cA b nL Q lay M L cells slots (pc + 3) lv st) : fm_G p l e R s m args below meth c D cA b nL Q lay M L cells slots pc lv (.int x :: st) := g_if_ne hC tgt hd ht (fun h => kt (by simp only [ic_eq, hx, show (0 : Int32).toInt = 0 from rfl] at h; omega)) (fun h => kf (by simp only [ic_eq, hx, show (0 : Int32).toInt = 0 from rfl] at h; omega))
theorem g_cmp_ne_T (hC : fm_C p s m args meth c D cA b cc nL own ret n0) {x y : Int64} {X Y : Int} (hx : x.toInt = X) (hy : y.toInt = Y) {off : Int} (tgt : Nat) (hd : decode cc pc = .ok (.ifCond .ne off, 3)) (ht : (pc : Int) + off = (tgt : Int)) (kt : X ≠ Y → fm_G p l e R s m args below meth c D cA b nL Q lay M L cells slots tgt lv st) (kf : X = Y → fm_G p l e R s m args below meth c D cA b nL Q lay M L cells slots (pc + 3) lv st) : fm_G p l e R s m args below meth c D cA b nL Q lay M L cells slots pc lv (.int (lg_cmp x y) :: st) := by
  have hq : (lg_cmp x y).toInt = if Y < X then 1 else if X = Y then 0 else -1 := by
    unfold lg_cmp
    simp only [gt_iff_lt, il_lt, il_eq, hx, hy]
    by_cases h1 : Y < X
    · simp [h1]
    · by_cases h2 : X = Y
      · simp [h2]
      · simp [h1, h2]
  refine g_if_ne_T hC hq tgt hd ht (fun h => kt ?_) (fun h => kf ?_)
  all_goals
    by_cases h1 : Y < X
    · simp [h1] at h
      try omega
    · by_cases h2 : X = Y
      · simp [h2] at h
        try omega
      · simp [h1, h2] at h
        try omega
theorem g_icmp_lt_T (hC : fm_C p s m args meth c D cA b cc nL own ret n0) {x y : Int32} {X Y : Int} (hx : x.toInt = X) (hy : y.toInt = Y) {off : Int} (tgt : Nat) (hd : decode cc pc = .ok (.if_icmp .lt off, 3)) (ht : (pc : Int) + off = (tgt : Int)) (kt : X < Y → fm_G p l e R s m args below meth c D cA b nL Q lay M L cells slots tgt lv st) (kf : Y ≤ X → fm_G p l e R s m args below meth c D cA b nL Q lay M L cells slots (pc + 3) lv st) : fm_G p l e R s m args below meth c D cA b nL Q lay M L cells slots pc lv (.int y :: .int x :: st) := g_icmp_lt hC tgt hd ht (fun h => kt (by simp only [ic_lt, hx, hy] at h; omega)) (fun h => kf (by simp only [ic_lt, hx, hy] at h; omega))
theorem g_if_lt_T (hC : fm_C p s m args meth c D cA b cc nL own ret n0) {x : Int32} {X : Int} (hx : x.toInt = X) {off : Int} (tgt : Nat) (hd : decode cc pc = .ok (.ifCond .lt off, 3)) (ht : (pc : Int) + off = (tgt : Int)) (kt : X < 0 → fm_G p l e R s m args below meth c D cA b nL Q lay M L cells slots tgt lv st) (kf : 0 ≤ X → fm_G p l e R s m args below meth c D cA b nL Q lay M L cells slots (pc + 3) lv st) : fm_G p l e R s m args below meth c D cA b nL Q lay M L cells slots pc lv (.int x :: st) := g_if_lt hC tgt hd ht (fun h => kt (by simp only [ic_lt, hx, show (0 : Int32).toInt = 0 from rfl] at h; omega)) (fun h => kf (by simp only [ic_lt, hx, show (0 : Int32).toInt = 0 from rfl] at h; omega))
theorem g_cmp_lt_T (hC : fm_C p s m args meth c D cA b cc nL own ret n0) {x y : Int64} {X Y : Int} (hx : x.toInt = X) (hy : y.toInt = Y) {off : Int} (tgt : Nat) (hd : decode cc pc = .ok (.ifCond .lt off, 3)) (ht : (pc : Int) + off = (tgt : Int)) (kt : X < Y → fm_G p l e R s m args below meth c D cA b nL Q lay M L cells slots tgt lv st) (kf : Y ≤ X → fm_G p l e R s m args below meth c D cA b nL Q lay M L cells slots (pc + 3) lv st) : fm_G p l e R s m args below meth c D cA b nL Q lay M L cells slots pc lv (.int (lg_cmp x y) :: st) := by
  have hq : (lg_cmp x y).toInt = if Y < X then 1 else if X = Y then 0 else -1 := by
    unfold lg_cmp
    simp only [gt_iff_lt, il_lt, il_eq, hx, hy]
    by_cases h1 : Y < X
    · simp [h1]
    · by_cases h2 : X = Y
      · simp [h2]
      · simp [h1, h2]
  refine g_if_lt_T hC hq tgt hd ht (fun h => kt ?_) (fun h => kf ?_)
  all_goals
    by_cases h1 : Y < X
    · simp [h1] at h
      try omega
    · by_cases h2 : X = Y
      · simp [h2] at h
        try omega
      · simp [h1, h2] at h
        try omega
theorem g_icmp_ge_T (hC : fm_C p s m args meth c D cA b cc nL own ret n0) {x y : Int32} {X Y : Int} (hx : x.toInt = X) (hy : y.toInt = Y) {off : Int} (tgt : Nat) (hd : decode cc pc = .ok (.if_icmp .ge off, 3)) (ht : (pc : Int) + off = (tgt : Int)) (kt : Y ≤ X → fm_G p l e R s m args below meth c D cA b nL Q lay M L cells slots tgt lv st) (kf : X < Y → fm_G p l e R s m args below meth c D cA b nL Q lay M L cells slots (pc + 3) lv st) : fm_G p l e R s m args below meth c D cA b nL Q lay M L cells slots pc lv (.int y :: .int x :: st) := g_icmp_ge hC tgt hd ht (fun h => kt (by simp only [ic_le, hx, hy] at h; omega)) (fun h => kf (by simp only [ic_le, hx, hy] at h; omega))
theorem g_if_ge_T (hC : fm_C p s m args meth c D cA b cc nL own ret n0) {x : Int32} {X : Int} (hx : x.toInt = X) {off : Int} (tgt : Nat) (hd : decode cc pc = .ok (.ifCond .ge off, 3)) (ht : (pc : Int) + off = (tgt : Int)) (kt : 0 ≤ X → fm_G p l e R s m args below meth c D cA b nL Q lay M L cells slots tgt lv st) (kf : X < 0 → fm_G p l e R s m args below meth c D cA b nL Q lay M L cells slots (pc + 3) lv st) : fm_G p l e R s m args below meth c D cA b nL Q lay M L cells slots pc lv (.int x :: st) := g_if_ge hC tgt hd ht (fun h => kt (by simp only [ic_le, hx, show (0 : Int32).toInt = 0 from rfl] at h; omega)) (fun h => kf (by simp only [ic_le, hx, show (0 : Int32).toInt = 0 from rfl] at h; omega))
theorem g_cmp_ge_T (hC : fm_C p s m args meth c D cA b cc nL own ret n0) {x y : Int64} {X Y : Int} (hx : x.toInt = X) (hy : y.toInt = Y) {off : Int} (tgt : Nat) (hd : decode cc pc = .ok (.ifCond .ge off, 3)) (ht : (pc : Int) + off = (tgt : Int)) (kt : Y ≤ X → fm_G p l e R s m args below meth c D cA b nL Q lay M L cells slots tgt lv st) (kf : X < Y → fm_G p l e R s m args below meth c D cA b nL Q lay M L cells slots (pc + 3) lv st) : fm_G p l e R s m args below meth c D cA b nL Q lay M L cells slots pc lv (.int (lg_cmp x y) :: st) := by
  have hq : (lg_cmp x y).toInt = if Y < X then 1 else if X = Y then 0 else -1 := by
    unfold lg_cmp
    simp only [gt_iff_lt, il_lt, il_eq, hx, hy]
    by_cases h1 : Y < X
    · simp [h1]
    · by_cases h2 : X = Y
      · simp [h2]
      · simp [h1, h2]
  refine g_if_ge_T hC hq tgt hd ht (fun h => kt ?_) (fun h => kf ?_)
  all_goals
    by_cases h1 : Y < X
    · simp [h1] at h
      try omega
    · by_cases h2 : X = Y
      · simp [h2] at h
        try omega
      · simp [h1, h2] at h
        try omega
theorem g_icmp_gt_T (hC : fm_C p s m args meth c D cA b cc nL own ret n0) {x y : Int32} {X Y : Int} (hx : x.toInt = X) (hy : y.toInt = Y) {off : Int} (tgt : Nat) (hd : decode cc pc = .ok (.if_icmp .gt off, 3)) (ht : (pc : Int) + off = (tgt : Int)) (kt : Y < X → fm_G p l e R s m args below meth c D cA b nL Q lay M L cells slots tgt lv st) (kf : X ≤ Y → fm_G p l e R s m args below meth c D cA b nL Q lay M L cells slots (pc + 3) lv st) : fm_G p l e R s m args below meth c D cA b nL Q lay M L cells slots pc lv (.int y :: .int x :: st) := g_icmp_gt hC tgt hd ht (fun h => kt (by simp only [ic_lt, hx, hy] at h; omega)) (fun h => kf (by simp only [ic_lt, hx, hy] at h; omega))
theorem g_if_gt_T (hC : fm_C p s m args meth c D cA b cc nL own ret n0) {x : Int32} {X : Int} (hx : x.toInt = X) {off : Int} (tgt : Nat) (hd : decode cc pc = .ok (.ifCond .gt off, 3)) (ht : (pc : Int) + off = (tgt : Int)) (kt : 0 < X → fm_G p l e R s m args below meth c D cA b nL Q lay M L cells slots tgt lv st) (kf : X ≤ 0 → fm_G p l e R s m args below meth c D cA b nL Q lay M L cells slots (pc + 3) lv st) : fm_G p l e R s m args below meth c D cA b nL Q lay M L cells slots pc lv (.int x :: st) := g_if_gt hC tgt hd ht (fun h => kt (by simp only [ic_lt, hx, show (0 : Int32).toInt = 0 from rfl] at h; omega)) (fun h => kf (by simp only [ic_lt, hx, show (0 : Int32).toInt = 0 from rfl] at h; omega))
theorem g_cmp_gt_T (hC : fm_C p s m args meth c D cA b cc nL own ret n0) {x y : Int64} {X Y : Int} (hx : x.toInt = X) (hy : y.toInt = Y) {off : Int} (tgt : Nat) (hd : decode cc pc = .ok (.ifCond .gt off, 3)) (ht : (pc : Int) + off = (tgt : Int)) (kt : Y < X → fm_G p l e R s m args below meth c D cA b nL Q lay M L cells slots tgt lv st) (kf : X ≤ Y → fm_G p l e R s m args below meth c D cA b nL Q lay M L cells slots (pc + 3) lv st) : fm_G p l e R s m args below meth c D cA b nL Q lay M L cells slots pc lv (.int (lg_cmp x y) :: st) := by
  have hq : (lg_cmp x y).toInt = if Y < X then 1 else if X = Y then 0 else -1 := by
    unfold lg_cmp
    simp only [gt_iff_lt, il_lt, il_eq, hx, hy]
    by_cases h1 : Y < X
    · simp [h1]
    · by_cases h2 : X = Y
      · simp [h2]
      · simp [h1, h2]
  refine g_if_gt_T hC hq tgt hd ht (fun h => kt ?_) (fun h => kf ?_)
  all_goals
    by_cases h1 : Y < X
    · simp [h1] at h
      try omega
    · by_cases h2 : X = Y
      · simp [h2] at h
        try omega
      · simp [h1, h2] at h
        try omega
theorem g_icmp_le_T (hC : fm_C p s m args meth c D cA b cc nL own ret n0) {x y : Int32} {X Y : Int} (hx : x.toInt = X) (hy : y.toInt = Y) {off : Int} (tgt : Nat) (hd : decode cc pc = .ok (.if_icmp .le off, 3)) (ht : (pc : Int) + off = (tgt : Int)) (kt : X ≤ Y → fm_G p l e R s m args below meth c D cA b nL Q lay M L cells slots tgt lv st) (kf : Y < X → fm_G p l e R s m args below meth c D cA b nL Q lay M L cells slots (pc + 3) lv st) : fm_G p l e R s m args below meth c D cA b nL Q lay M L cells slots pc lv (.int y :: .int x :: st) := g_icmp_le hC tgt hd ht (fun h => kt (by simp only [ic_le, hx, hy] at h; omega)) (fun h => kf (by simp only [ic_le, hx, hy] at h; omega))
theorem g_if_le_T (hC : fm_C p s m args meth c D cA b cc nL own ret n0) {x : Int32} {X : Int} (hx : x.toInt = X) {off : Int} (tgt : Nat) (hd : decode cc pc = .ok (.ifCond .le off, 3)) (ht : (pc : Int) + off = (tgt : Int)) (kt : X ≤ 0 → fm_G p l e R s m args below meth c D cA b nL Q lay M L cells slots tgt lv st) (kf : 0 < X → fm_G p l e R s m args below meth c D cA b nL Q lay M L cells slots (pc + 3) lv st) : fm_G p l e R s m args below meth c D cA b nL Q lay M L cells slots pc lv (.int x :: st) := g_if_le hC tgt hd ht (fun h => kt (by simp only [ic_le, hx, show (0 : Int32).toInt = 0 from rfl] at h; omega)) (fun h => kf (by simp only [ic_le, hx, show (0 : Int32).toInt = 0 from rfl] at h; omega))
theorem g_cmp_le_T (hC : fm_C p s m args meth c D cA b cc nL own ret n0) {x y : Int64} {X Y : Int} (hx : x.toInt = X) (hy : y.toInt = Y) {off : Int} (tgt : Nat) (hd : decode cc pc = .ok (.ifCond .le off, 3)) (ht : (pc : Int) + off = (tgt : Int)) (kt : X ≤ Y → fm_G p l e R s m args below meth c D cA b nL Q lay M L cells slots tgt lv st) (kf : Y < X → fm_G p l e R s m args below meth c D cA b nL Q lay M L cells slots (pc + 3) lv st) : fm_G p l e R s m args below meth c D cA b nL Q lay M L cells slots pc lv (.int (lg_cmp x y) :: st) := by
  have hq : (lg_cmp x y).toInt = if Y < X then 1 else if X = Y then 0 else -1 := by
    unfold lg_cmp
    simp only [gt_iff_lt, il_lt, il_eq, hx, hy]
    by_cases h1 : Y < X
    · simp [h1]
    · by_cases h2 : X = Y
      · simp [h2]
      · simp [h1, h2]
  refine g_if_le_T hC hq tgt hd ht (fun h => kt ?_) (fun h => kf ?_)
  all_goals
    by_cases h1 : Y < X
    · simp [h1] at h
      try omega
    · by_cases h2 : X = Y
      · simp [h2] at h
        try omega
      · simp [h1, h2] at h
        try omega
abbrev fm_pvx (M1 : Nat → Nat → Int32) (L1 : Nat → Nat → Int64) : Option Value → (Nat → Nat → Int32) → (Nat → Nat → Int64) → Prop := fun v M' L' => v = none ∧ M' = M1 ∧ L' = L1
theorem g_rvx {M1 : Nat → Nat → Int32} {L1 : Nat → Nat → Int64} (kk : fm_G p l e R s m args below meth c D cA b nL Q lay' M1 L1 (cells + mc) (slots + ms) (pc + 3) lv rest) : fm_KK p l e R s m args below meth c D cA b nL Q lay' cells slots mc ms pc lv rest (fm_pvx M1 L1) := by
  intro v M' L' h
  obtain ⟨rfl, rfl, rfl⟩ := h
  exact kk
theorem g_rix {r : Int32} {M1 : Nat → Nat → Int32} {L1 : Nat → Nat → Int64} (kk : fm_G p l e R s m args below meth c D cA b nL Q lay' M1 L1 (cells + mc) (slots + ms) (pc + 3) lv (.int r :: rest)) : fm_KK p l e R s m args below meth c D cA b nL Q lay' cells slots mc ms pc lv rest (fm_pi r M1 L1) := by
  intro v M' L' h
  obtain ⟨rfl, rfl, rfl⟩ := h
  exact kk
end FMT
