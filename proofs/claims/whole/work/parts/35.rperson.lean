/-! ===== the tape: a person ===== -/
def kdI (x : Int32) : Int32 := if x.toInt = 99 then 0 else if x.toInt = 108 then 1 else if x.toInt = 107 then 2 else if x.toInt = 112 then 3 else -1
theorem kd_rng (x : Int32) : -1 ≤ (kdI x).toInt ∧ (kdI x).toInt ≤ 3 := by
  unfold kdI
  (repeat' split) <;> decide
/-- the person written from place p: kind, hour, weight, may, the place behind; or the place of the fault -/
def rpS (T : Nat × (Nat → Nat)) (p : Nat) : (Nat × Nat × Nat × Nat × Nat) ⊕ Nat :=
  if (kdI (chI T (nx T p))).toInt < 0 then .inr (nx T p)
  else if ¬ (fig T (nx T (nx T p + 1)) ∧ rnV T (nx T p + 1) ≤ 23) then .inr (nx T (nx T p + 1))
  else if chI T (nx T (rnE T (nx T p + 1))) = nI 119 then
    (if ¬ (fig T (nx T (psN T (rnE T (nx T p + 1)) 119)) ∧ rnV T (psN T (rnE T (nx T p + 1)) 119) ≤ 99) then .inr (nx T (psN T (rnE T (nx T p + 1)) 119))
     else .inl ((kdI (chI T (nx T p))).toInt.toNat, rnV T (nx T p + 1), rnV T (psN T (rnE T (nx T p + 1)) 119), (if chI T (nx T (rnE T (psN T (rnE T (nx T p + 1)) 119))) = nI 45 then 0 else 1), psN T (rnE T (psN T (rnE T (nx T p + 1)) 119)) 45))
  else .inl ((kdI (chI T (nx T p))).toInt.toNat, rnV T (nx T p + 1), 1, (if chI T (nx T (psN T (rnE T (nx T p + 1)) 119)) = nI 45 then 0 else 1), psN T (psN T (rnE T (nx T p + 1)) 119) 45)

theorem c_X4_kindOf (l : Launch) (D : va_G) (cA : Nat → ClassId) (b : Nat) (M : Nat → Nat → Int32) (L : Nat → Nat → Int64) (x : Int32)  : fm_Met l D cA b yX4_kindOf cX4_kindOf 1 (some .int) 0 0 0 0 [.int x] LAY M L LAY (fm_pi (kdI x) M L) := by
  refine fm_start RX4 rfl (by decide) (Nat.le_of_ble_eq_true rfl) ?_
  intro pq eq sq mq aq bq tq cq hC hin
  refine g_iload_n hC dX4_kindOf_0 rfl 0 rfl ?_
  by_cases c_1_0 : x.toInt = 99
  · refine g_lookup (off := 43) hC 44 dX4_kindOf_1 rfl (by rw [show x.toInt = 99 from (rfl).trans c_1_0]; rfl) rfl ?_
    refine g_iconst (v := 0) hC dX4_kindOf_44 rfl ?_
    refine g_zret (ty := .int) hC rfl rfl dX4_kindOf_45 ⟨congrArg (fun z => some (Value.int z)) ?_, rfl, rfl⟩
    unfold kdI
    (repeat' split) <;> first | rfl | (exfalso; omega)
  by_cases c_1_1 : x.toInt = 107
  · refine g_lookup (off := 47) hC 48 dX4_kindOf_1 rfl (by rw [show x.toInt = 107 from (rfl).trans c_1_1]; rfl) rfl ?_
    refine g_iconst (v := 2) hC dX4_kindOf_48 rfl ?_
    refine g_zret (ty := .int) hC rfl rfl dX4_kindOf_49 ⟨congrArg (fun z => some (Value.int z)) ?_, rfl, rfl⟩
    unfold kdI
    (repeat' split) <;> first | rfl | (exfalso; omega)
  by_cases c_1_2 : x.toInt = 108
  · refine g_lookup (off := 45) hC 46 dX4_kindOf_1 rfl (by rw [show x.toInt = 108 from (rfl).trans c_1_2]; rfl) rfl ?_
    refine g_iconst (v := 1) hC dX4_kindOf_46 rfl ?_
    refine g_zret (ty := .int) hC rfl rfl dX4_kindOf_47 ⟨congrArg (fun z => some (Value.int z)) ?_, rfl, rfl⟩
    unfold kdI
    (repeat' split) <;> first | rfl | (exfalso; omega)
  by_cases c_1_3 : x.toInt = 112
  · refine g_lookup (off := 49) hC 50 dX4_kindOf_1 rfl (by rw [show x.toInt = 112 from (rfl).trans c_1_3]; rfl) rfl ?_
    refine g_iconst (v := 3) hC dX4_kindOf_50 rfl ?_
    refine g_zret (ty := .int) hC rfl rfl dX4_kindOf_51 ⟨congrArg (fun z => some (Value.int z)) ?_, rfl, rfl⟩
    unfold kdI
    (repeat' split) <;> first | rfl | (exfalso; omega)
  refine g_lookup (off := 51) hC 52 dX4_kindOf_1 rfl (by rw [show x.toInt = x.toInt from rfl]; simp [Op.lookupswitch.offset]; (repeat' split) <;> omega) rfl ?_
  refine g_iconst (v := (-1)) hC dX4_kindOf_52 rfl ?_
  refine g_zret (ty := .int) hC rfl rfl dX4_kindOf_53 ⟨congrArg (fun z => some (Value.int z)) ?_, rfl, rfl⟩
  unfold kdI
  (repeat' split) <;> first | rfl | (exfalso; omega)
