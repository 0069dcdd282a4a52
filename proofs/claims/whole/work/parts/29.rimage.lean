/-! ===== image, restore: the check ===== -/
def ccl (i : Nat) : Nat := if i < 32 then 59 + i / 8 else if i < 44 then 63 + (i - 32) / 6 else 65 + (i - 44) / 24
def cps (i : Nat) : Nat := if i < 32 then i % 8 else if i < 44 then (i - 32) % 6 else (i - 44) % 24
def cvM (M : Nat → Nat → Int32) (i : Nat) : Int32 := M (ccl i) (cps i)
def wrM (M : Nat → Nat → Int32) (i : Nat) (v : Int32) : Nat → Nat → Int32 := fm_up M (ccl i) (cps i) v
theorem ccl_b {i : Nat} (h : i < 92) : 59 ≤ ccl i ∧ ccl i < 67 := by
  unfold ccl
  (repeat' split) <;> omega
theorem cc_inj {i j : Nat} (hi : i < 92) (hj : j < 92) (h1 : ccl i = ccl j) (h2 : cps i = cps j) : i = j := by
  unfold ccl at h1; unfold cps at h2
  by_cases a : i < 32 <;> by_cases c : j < 32 <;> by_cases d : i < 44 <;> by_cases e : j < 44 <;> simp only [a, c, d, e, if_true, if_false] at h1 h2 <;> omega
theorem cv_wr {M : Nat → Nat → Int32} {i j : Nat} {v : Int32} (hi : i < 92) (hj : j < 92) : cvM (wrM M i v) j = if j = i then v else cvM M j := by
  by_cases e : j = i
  · rw [if_pos e, e]; exact fm_ups
  · rw [if_neg e]
    unfold cvM wrM
    by_cases e1 : ccl j = ccl i
    · have : cps j ≠ cps i := fun q => e (cc_inj hj hi e1 q)
      rw [e1, fm_upx this]
    · rw [fm_upn e1]
theorem cv_cong {M M' : Nat → Nat → Int32} {i : Nat} (hi : i < 92) (h : ∀ q, 59 ≤ q → q < 67 → M' q = M q) : cvM M' i = cvM M i := by
  have := ccl_b hi
  unfold cvM; rw [h _ this.1 this.2]
theorem cv_8 (M : Nat → Nat → Int32) {j r : Nat} (hj : j < 8) (hr : r < 4) : cvM M (8 * r + j) = M (59 + r) j := by
  unfold cvM ccl cps
  rw [if_pos (by omega), if_pos (by omega), show (8 * r + j) / 8 = r by omega, show (8 * r + j) % 8 = j by omega]
theorem cv_6 (M : Nat → Nat → Int32) {j r : Nat} (hj : j < 6) (hr : r < 2) : cvM M (32 + 6 * r + j) = M (63 + r) j := by
  unfold cvM ccl cps
  rw [if_neg (by omega), if_pos (by omega), if_neg (by omega), if_pos (by omega), show (32 + 6 * r + j - 32) / 6 = r by omega, show (32 + 6 * r + j - 32) % 6 = j by omega]
theorem cv_24 (M : Nat → Nat → Int32) {j r : Nat} (hj : j < 24) (hr : r < 2) : cvM M (44 + 24 * r + j) = M (65 + r) j := by
  unfold cvM ccl cps
  rw [if_neg (by omega), if_neg (by omega), if_neg (by omega), if_neg (by omega), show (44 + 24 * r + j - 44) / 24 = r by omega, show (44 + 24 * r + j - 44) % 24 = j by omega]
theorem fm_same {M : Nat → Nat → Int32} {k i : Nat} : fm_up M k i (M k i) = M := by
  funext a
  by_cases e : a = k
  · subst e; funext j
    by_cases e2 : j = i
    · rw [e2, fm_ups]
    · rw [fm_upx e2]
  · rw [fm_upn e]
theorem cm8 : ∀ i, i < 92 → nI i - nI i / 8 * 8 = nI (i % 8) := by decide +kernel
theorem cd8 : ∀ i, i < 92 → nI i / 8 = nI (i / 8) := by decide +kernel
theorem cm6 : ∀ i, i < 92 → nI i - nI i / 6 * 6 = nI (i % 6) := by decide +kernel
theorem cm24 : ∀ i, i < 92 → nI i - nI i / 24 * 24 = nI (i % 24) := by decide +kernel
theorem cs32 : ∀ i, i < 92 → 32 ≤ i → nI i - 32 = nI (i - 32) := by decide +kernel
theorem cs44 : ∀ i, i < 92 → 44 ≤ i → nI i - 44 = nI (i - 44) := by decide +kernel

theorem c_X7_carried_r (l : Launch) (D : va_G) (cA : Nat → ClassId) (b : Nat) (M : Nat → Nat → Int32) (L : Nat → Nat → Int64) (i : Nat) (v : Int32) (hi : i < 92) : fm_Met l D cA b yX7_carried cX7_carried 6 (some .int) 0 0 0 0 [.ref (b + 58), .int (nI i), .int v, .int 0] LAY M L LAY (fm_pi (cvM M i) M L) := by
  refine fm_start RX7 rfl (by decide) (Nat.le_of_ble_eq_true rfl) ?_
  intro pq eq sq mq aq bq tq cq hC hin
  refine g_iload_n hC dX7_carried_0 rfl 1 rfl ?_
  refine g_bipush (v := 32) hC dX7_carried_1 rfl ?_
  refine g_icmp_ge_T (X := ((i : Nat) : Int)) (Y := 32) hC (nI_toInt (by omega)) rfl 184 dX7_carried_3 rfl (fun c_1 => ?_) (fun c_1 => ?_)
  · skip
    refine g_iload_n hC dX7_carried_184 rfl 1 rfl ?_
    refine g_bipush (v := 44) hC dX7_carried_185 rfl ?_
    refine g_icmp_ge_T (X := ((i : Nat) : Int)) (Y := 44) hC (nI_toInt (by omega)) rfl 279 dX7_carried_187 rfl (fun c_2 => ?_) (fun c_2 => ?_)
    · skip
      refine g_iload_n hC dX7_carried_279 rfl 1 rfl ?_
      refine g_bipush (v := 92) hC dX7_carried_280 rfl ?_
      refine g_icmp_ge_T (X := ((i : Nat) : Int)) (Y := 92) hC (nI_toInt (by omega)) rfl 374 dX7_carried_282 rfl (fun c_3 => ?_) (fun c_3 => ?_)
      · skip
        refine g_iconst (v := 0) hC dX7_carried_374 rfl ?_
        refine g_zret (ty := .int) hC rfl rfl dX7_carried_375 ⟨congrArg (fun z => some (Value.int z)) ?_, rfl, rfl⟩
        exfalso; omega
      · skip
        refine g_iload_n hC dX7_carried_285 rfl 1 rfl ?_
        refine g_bipush (v := 44) hC dX7_carried_286 rfl ?_
        refine g_isub hC dX7_carried_288 ?_
        refine g_top (y := nI (i - 44)) (cs44 i hi (by omega)) ?_
        refine g_bipush (v := 24) hC dX7_carried_289 rfl ?_
        refine g_irem hC dX7_carried_291 (by decide) ?_
        refine g_top (y := nI ((i - 44) % 24)) (cm24 (i - 44) (by omega)) ?_
        refine g_istore hC [(4, .int (nI ((i - 44) % 24))), (0, .ref (b + 58)), (1, .int (nI i)), (2, .int v), (3, .int 0)] dX7_carried_292 (by decide) rfl ?_
        refine g_aload_n hC dX7_carried_294 rfl 1 rfl ?_
        refine g_getR (ci := 7) (i := 8) (k := 58) (t := 65) hC fm_in7 rfl ly_58 rfl (by decide) fw_628 dX7_carried_295 ?_
        refine g_iload hC dX7_carried_298 0 rfl ?_
        refine g_iload_n hC dX7_carried_300 rfl 4 rfl ?_
        refine g_if_eq_T (X := 0) hC rfl 314 dX7_carried_301 rfl (fun _ => ?_) (fun c_4 => absurd c_4 (by omega))
        refine g_aload_n hC dX7_carried_314 rfl 1 rfl ?_
        refine g_getR (ci := 7) (i := 8) (k := 58) (t := 65) hC fm_in7 rfl ly_58 rfl (by decide) fw_628 dX7_carried_315 ?_
        refine g_iload hC dX7_carried_318 0 rfl ?_
        refine g_ialdN (j := (i - 44) % 24) (k := 65) hC ly_65 rfl (by omega) (by decide) dX7_carried_320 ?_
        refine g_iastN (j := (i - 44) % 24) (k := 65) hC ly_65 rfl (by omega) (by decide) dX7_carried_321 ?_
        rw [fm_same]
        refine g_aload_n hC dX7_carried_322 rfl 1 rfl ?_
        refine g_getR (ci := 7) (i := 9) (k := 58) (t := 66) hC fm_in7 rfl ly_58 rfl (by decide) fw_629 dX7_carried_323 ?_
        refine g_iload hC dX7_carried_326 0 rfl ?_
        refine g_iload_n hC dX7_carried_328 rfl 4 rfl ?_
        refine g_if_eq_T (X := 0) hC rfl 342 dX7_carried_329 rfl (fun _ => ?_) (fun c_5 => absurd c_5 (by omega))
        refine g_aload_n hC dX7_carried_342 rfl 1 rfl ?_
        refine g_getR (ci := 7) (i := 9) (k := 58) (t := 66) hC fm_in7 rfl ly_58 rfl (by decide) fw_629 dX7_carried_343 ?_
        refine g_iload hC dX7_carried_346 0 rfl ?_
        refine g_ialdN (j := (i - 44) % 24) (k := 66) hC ly_66 rfl (by omega) (by decide) dX7_carried_348 ?_
        refine g_iastN (j := (i - 44) % 24) (k := 66) hC ly_66 rfl (by omega) (by decide) dX7_carried_349 ?_
        rw [fm_same]
        refine g_iload_n hC dX7_carried_350 rfl 2 rfl ?_
        refine g_bipush (v := 68) hC dX7_carried_351 rfl ?_
        refine g_icmp_ge_T (X := ((i : Nat) : Int)) (Y := 68) hC (nI_toInt (by omega)) rfl 366 dX7_carried_353 rfl (fun c_6 => ?_) (fun c_6 => ?_)
        · skip
          refine g_aload_n hC dX7_carried_366 rfl 1 rfl ?_
          refine g_getR (ci := 7) (i := 9) (k := 58) (t := 66) hC fm_in7 rfl ly_58 rfl (by decide) fw_629 dX7_carried_367 ?_
          refine g_iload hC dX7_carried_370 0 rfl ?_
          refine g_ialdN (j := (i - 44) % 24) (k := 66) hC ly_66 rfl (by omega) (by decide) dX7_carried_372 ?_
          refine g_zret (ty := .int) hC rfl rfl dX7_carried_373 ⟨congrArg (fun z => some (Value.int z)) ?_, rfl, rfl⟩
          unfold cvM
          rw [show ccl i = 66 by unfold ccl; rw [if_neg (by omega), if_neg (by omega)]; omega, show cps i = (i - 44) % 24 from (if_neg (by omega)).trans (if_neg (by omega))]
        · skip
          refine g_aload_n hC dX7_carried_356 rfl 1 rfl ?_
          refine g_getR (ci := 7) (i := 8) (k := 58) (t := 65) hC fm_in7 rfl ly_58 rfl (by decide) fw_628 dX7_carried_357 ?_
          refine g_iload hC dX7_carried_360 0 rfl ?_
          refine g_ialdN (j := (i - 44) % 24) (k := 65) hC ly_65 rfl (by omega) (by decide) dX7_carried_362 ?_
          refine g_goto hC 373 dX7_carried_363 rfl ?_
          refine g_zret (ty := .int) hC rfl rfl dX7_carried_373 ⟨congrArg (fun z => some (Value.int z)) ?_, rfl, rfl⟩
          unfold cvM
          rw [show ccl i = 65 by unfold ccl; rw [if_neg (by omega), if_neg (by omega)]; omega, show cps i = (i - 44) % 24 from (if_neg (by omega)).trans (if_neg (by omega))]
    · skip
      refine g_iload_n hC dX7_carried_190 rfl 1 rfl ?_
      refine g_bipush (v := 32) hC dX7_carried_191 rfl ?_
      refine g_isub hC dX7_carried_193 ?_
      refine g_top (y := nI (i - 32)) (cs32 i hi (by omega)) ?_
      refine g_bipush (v := 6) hC dX7_carried_194 rfl ?_
      refine g_irem hC dX7_carried_196 (by decide) ?_
      refine g_top (y := nI ((i - 32) % 6)) (cm6 (i - 32) (by omega)) ?_
      refine g_istore hC [(4, .int (nI ((i - 32) % 6))), (0, .ref (b + 58)), (1, .int (nI i)), (2, .int v), (3, .int 0)] dX7_carried_197 (by decide) rfl ?_
      refine g_aload_n hC dX7_carried_199 rfl 1 rfl ?_
      refine g_getR (ci := 7) (i := 5) (k := 58) (t := 63) hC fm_in7 rfl ly_58 rfl (by decide) fw_625 dX7_carried_200 ?_
      refine g_iload hC dX7_carried_203 0 rfl ?_
      refine g_iload_n hC dX7_carried_205 rfl 4 rfl ?_
      refine g_if_eq_T (X := 0) hC rfl 219 dX7_carried_206 rfl (fun _ => ?_) (fun c_7 => absurd c_7 (by omega))
      refine g_aload_n hC dX7_carried_219 rfl 1 rfl ?_
      refine g_getR (ci := 7) (i := 5) (k := 58) (t := 63) hC fm_in7 rfl ly_58 rfl (by decide) fw_625 dX7_carried_220 ?_
      refine g_iload hC dX7_carried_223 0 rfl ?_
      refine g_ialdN (j := (i - 32) % 6) (k := 63) hC ly_63 rfl (by omega) (by decide) dX7_carried_225 ?_
      refine g_iastN (j := (i - 32) % 6) (k := 63) hC ly_63 rfl (by omega) (by decide) dX7_carried_226 ?_
      rw [fm_same]
      refine g_aload_n hC dX7_carried_227 rfl 1 rfl ?_
      refine g_getR (ci := 7) (i := 6) (k := 58) (t := 64) hC fm_in7 rfl ly_58 rfl (by decide) fw_626 dX7_carried_228 ?_
      refine g_iload hC dX7_carried_231 0 rfl ?_
      refine g_iload_n hC dX7_carried_233 rfl 4 rfl ?_
      refine g_if_eq_T (X := 0) hC rfl 247 dX7_carried_234 rfl (fun _ => ?_) (fun c_8 => absurd c_8 (by omega))
      refine g_aload_n hC dX7_carried_247 rfl 1 rfl ?_
      refine g_getR (ci := 7) (i := 6) (k := 58) (t := 64) hC fm_in7 rfl ly_58 rfl (by decide) fw_626 dX7_carried_248 ?_
      refine g_iload hC dX7_carried_251 0 rfl ?_
      refine g_ialdN (j := (i - 32) % 6) (k := 64) hC ly_64 rfl (by omega) (by decide) dX7_carried_253 ?_
      refine g_iastN (j := (i - 32) % 6) (k := 64) hC ly_64 rfl (by omega) (by decide) dX7_carried_254 ?_
      rw [fm_same]
      refine g_iload_n hC dX7_carried_255 rfl 2 rfl ?_
      refine g_bipush (v := 38) hC dX7_carried_256 rfl ?_
      refine g_icmp_ge_T (X := ((i : Nat) : Int)) (Y := 38) hC (nI_toInt (by omega)) rfl 271 dX7_carried_258 rfl (fun c_9 => ?_) (fun c_9 => ?_)
      · skip
        refine g_aload_n hC dX7_carried_271 rfl 1 rfl ?_
        refine g_getR (ci := 7) (i := 6) (k := 58) (t := 64) hC fm_in7 rfl ly_58 rfl (by decide) fw_626 dX7_carried_272 ?_
        refine g_iload hC dX7_carried_275 0 rfl ?_
        refine g_ialdN (j := (i - 32) % 6) (k := 64) hC ly_64 rfl (by omega) (by decide) dX7_carried_277 ?_
        refine g_zret (ty := .int) hC rfl rfl dX7_carried_278 ⟨congrArg (fun z => some (Value.int z)) ?_, rfl, rfl⟩
        unfold cvM
        rw [show ccl i = 64 by unfold ccl; rw [if_neg (by omega), if_pos (by omega)]; omega, show cps i = (i - 32) % 6 from (if_neg (by omega)).trans (if_pos (by omega))]
      · skip
        refine g_aload_n hC dX7_carried_261 rfl 1 rfl ?_
        refine g_getR (ci := 7) (i := 5) (k := 58) (t := 63) hC fm_in7 rfl ly_58 rfl (by decide) fw_625 dX7_carried_262 ?_
        refine g_iload hC dX7_carried_265 0 rfl ?_
        refine g_ialdN (j := (i - 32) % 6) (k := 63) hC ly_63 rfl (by omega) (by decide) dX7_carried_267 ?_
        refine g_goto hC 278 dX7_carried_268 rfl ?_
        refine g_zret (ty := .int) hC rfl rfl dX7_carried_278 ⟨congrArg (fun z => some (Value.int z)) ?_, rfl, rfl⟩
        unfold cvM
        rw [show ccl i = 63 by unfold ccl; rw [if_neg (by omega), if_pos (by omega)]; omega, show cps i = (i - 32) % 6 from (if_neg (by omega)).trans (if_pos (by omega))]
  · skip
    refine g_iload_n hC dX7_carried_6 rfl 1 rfl ?_
    refine g_bipush (v := 8) hC dX7_carried_7 rfl ?_
    refine g_irem hC dX7_carried_9 (by decide) ?_
    refine g_top (y := nI (i % 8)) (cm8 i hi) ?_
    refine g_istore hC [(4, .int (nI (i % 8))), (0, .ref (b + 58)), (1, .int (nI i)), (2, .int v), (3, .int 0)] dX7_carried_10 (by decide) rfl ?_
    refine g_iload_n hC dX7_carried_12 rfl 2 rfl ?_
    refine g_bipush (v := 8) hC dX7_carried_13 rfl ?_
    refine g_idiv hC dX7_carried_15 (by decide) ?_
    refine g_top (y := nI (i / 8)) (cd8 i hi) ?_
    refine g_istore hC [(5, .int (nI (i / 8))), (4, .int (nI (i % 8))), (0, .ref (b + 58)), (1, .int (nI i)), (2, .int v), (3, .int 0)] dX7_carried_16 (by decide) rfl ?_
    refine g_aload_n hC dX7_carried_18 rfl 2 rfl ?_
    refine g_getR (ci := 7) (i := 0) (k := 58) (t := 59) hC fm_in7 rfl ly_58 rfl (by decide) fw_620 dX7_carried_19 ?_
    refine g_iload hC dX7_carried_22 1 rfl ?_
    refine g_iload_n hC dX7_carried_24 rfl 5 rfl ?_
    refine g_if_eq_T (X := 0) hC rfl 37 dX7_carried_25 rfl (fun _ => ?_) (fun c_10 => absurd c_10 (by omega))
    refine g_aload_n hC dX7_carried_37 rfl 2 rfl ?_
    refine g_getR (ci := 7) (i := 0) (k := 58) (t := 59) hC fm_in7 rfl ly_58 rfl (by decide) fw_620 dX7_carried_38 ?_
    refine g_iload hC dX7_carried_41 1 rfl ?_
    refine g_ialdN (j := i % 8) (k := 59) hC ly_59 rfl (by omega) (by decide) dX7_carried_43 ?_
    refine g_iastN (j := i % 8) (k := 59) hC ly_59 rfl (by omega) (by decide) dX7_carried_44 ?_
    rw [fm_same]
    refine g_aload_n hC dX7_carried_45 rfl 2 rfl ?_
    refine g_getR (ci := 7) (i := 1) (k := 58) (t := 60) hC fm_in7 rfl ly_58 rfl (by decide) fw_621 dX7_carried_46 ?_
    refine g_iload hC dX7_carried_49 1 rfl ?_
    refine g_iload_n hC dX7_carried_51 rfl 5 rfl ?_
    refine g_if_eq_T (X := 0) hC rfl 65 dX7_carried_52 rfl (fun _ => ?_) (fun c_11 => absurd c_11 (by omega))
    refine g_aload_n hC dX7_carried_65 rfl 2 rfl ?_
    refine g_getR (ci := 7) (i := 1) (k := 58) (t := 60) hC fm_in7 rfl ly_58 rfl (by decide) fw_621 dX7_carried_66 ?_
    refine g_iload hC dX7_carried_69 1 rfl ?_
    refine g_ialdN (j := i % 8) (k := 60) hC ly_60 rfl (by omega) (by decide) dX7_carried_71 ?_
    refine g_iastN (j := i % 8) (k := 60) hC ly_60 rfl (by omega) (by decide) dX7_carried_72 ?_
    rw [fm_same]
    refine g_aload_n hC dX7_carried_73 rfl 2 rfl ?_
    refine g_getR (ci := 7) (i := 2) (k := 58) (t := 61) hC fm_in7 rfl ly_58 rfl (by decide) fw_622 dX7_carried_74 ?_
    refine g_iload hC dX7_carried_77 1 rfl ?_
    refine g_iload_n hC dX7_carried_79 rfl 5 rfl ?_
    refine g_if_eq_T (X := 0) hC rfl 93 dX7_carried_80 rfl (fun _ => ?_) (fun c_12 => absurd c_12 (by omega))
    refine g_aload_n hC dX7_carried_93 rfl 2 rfl ?_
    refine g_getR (ci := 7) (i := 2) (k := 58) (t := 61) hC fm_in7 rfl ly_58 rfl (by decide) fw_622 dX7_carried_94 ?_
    refine g_iload hC dX7_carried_97 1 rfl ?_
    refine g_ialdN (j := i % 8) (k := 61) hC ly_61 rfl (by omega) (by decide) dX7_carried_99 ?_
    refine g_iastN (j := i % 8) (k := 61) hC ly_61 rfl (by omega) (by decide) dX7_carried_100 ?_
    rw [fm_same]
    refine g_aload_n hC dX7_carried_101 rfl 2 rfl ?_
    refine g_getR (ci := 7) (i := 3) (k := 58) (t := 62) hC fm_in7 rfl ly_58 rfl (by decide) fw_623 dX7_carried_102 ?_
    refine g_iload hC dX7_carried_105 1 rfl ?_
    refine g_iload_n hC dX7_carried_107 rfl 5 rfl ?_
    refine g_if_eq_T (X := 0) hC rfl 121 dX7_carried_108 rfl (fun _ => ?_) (fun c_13 => absurd c_13 (by omega))
    refine g_aload_n hC dX7_carried_121 rfl 2 rfl ?_
    refine g_getR (ci := 7) (i := 3) (k := 58) (t := 62) hC fm_in7 rfl ly_58 rfl (by decide) fw_623 dX7_carried_122 ?_
    refine g_iload hC dX7_carried_125 1 rfl ?_
    refine g_ialdN (j := i % 8) (k := 62) hC ly_62 rfl (by omega) (by decide) dX7_carried_127 ?_
    refine g_iastN (j := i % 8) (k := 62) hC ly_62 rfl (by omega) (by decide) dX7_carried_128 ?_
    rw [fm_same]
    refine g_iload hC dX7_carried_129 0 rfl ?_
    refine g_if_ne_T (X := ((i / 8 : Nat) : Int)) hC (nI_toInt (by omega)) 144 dX7_carried_131 rfl (fun c_14 => ?_) (fun c_14 => ?_)
    · skip
      refine g_iload hC dX7_carried_144 0 rfl ?_
      refine g_iconst (v := 1) hC dX7_carried_146 rfl ?_
      refine g_icmp_ne_T (X := ((i / 8 : Nat) : Int)) (Y := 1) hC (nI_toInt (by omega)) rfl 160 dX7_carried_147 rfl (fun c_15 => ?_) (fun c_15 => ?_)
      · skip
        refine g_iload hC dX7_carried_160 0 rfl ?_
        refine g_iconst (v := 2) hC dX7_carried_162 rfl ?_
        refine g_icmp_ne_T (X := ((i / 8 : Nat) : Int)) (Y := 2) hC (nI_toInt (by omega)) rfl 176 dX7_carried_163 rfl (fun c_16 => ?_) (fun c_16 => ?_)
        · skip
          refine g_aload_n hC dX7_carried_176 rfl 2 rfl ?_
          refine g_getR (ci := 7) (i := 3) (k := 58) (t := 62) hC fm_in7 rfl ly_58 rfl (by decide) fw_623 dX7_carried_177 ?_
          refine g_iload hC dX7_carried_180 1 rfl ?_
          refine g_ialdN (j := i % 8) (k := 62) hC ly_62 rfl (by omega) (by decide) dX7_carried_182 ?_
          refine g_zret (ty := .int) hC rfl rfl dX7_carried_183 ⟨congrArg (fun z => some (Value.int z)) ?_, rfl, rfl⟩
          unfold cvM
          rw [show ccl i = 62 by unfold ccl; rw [if_pos (by omega)]; omega, show cps i = i % 8 from if_pos (by omega)]
        · skip
          refine g_aload_n hC dX7_carried_166 rfl 2 rfl ?_
          refine g_getR (ci := 7) (i := 2) (k := 58) (t := 61) hC fm_in7 rfl ly_58 rfl (by decide) fw_622 dX7_carried_167 ?_
          refine g_iload hC dX7_carried_170 1 rfl ?_
          refine g_ialdN (j := i % 8) (k := 61) hC ly_61 rfl (by omega) (by decide) dX7_carried_172 ?_
          refine g_goto hC 183 dX7_carried_173 rfl ?_
          refine g_zret (ty := .int) hC rfl rfl dX7_carried_183 ⟨congrArg (fun z => some (Value.int z)) ?_, rfl, rfl⟩
          unfold cvM
          rw [show ccl i = 61 by unfold ccl; rw [if_pos (by omega)]; omega, show cps i = i % 8 from if_pos (by omega)]
      · skip
        refine g_aload_n hC dX7_carried_150 rfl 2 rfl ?_
        refine g_getR (ci := 7) (i := 1) (k := 58) (t := 60) hC fm_in7 rfl ly_58 rfl (by decide) fw_621 dX7_carried_151 ?_
        refine g_iload hC dX7_carried_154 1 rfl ?_
        refine g_ialdN (j := i % 8) (k := 60) hC ly_60 rfl (by omega) (by decide) dX7_carried_156 ?_
        refine g_goto hC 183 dX7_carried_157 rfl ?_
        refine g_zret (ty := .int) hC rfl rfl dX7_carried_183 ⟨congrArg (fun z => some (Value.int z)) ?_, rfl, rfl⟩
        unfold cvM
        rw [show ccl i = 60 by unfold ccl; rw [if_pos (by omega)]; omega, show cps i = i % 8 from if_pos (by omega)]
    · skip
      refine g_aload_n hC dX7_carried_134 rfl 2 rfl ?_
      refine g_getR (ci := 7) (i := 0) (k := 58) (t := 59) hC fm_in7 rfl ly_58 rfl (by decide) fw_620 dX7_carried_135 ?_
      refine g_iload hC dX7_carried_138 1 rfl ?_
      refine g_ialdN (j := i % 8) (k := 59) hC ly_59 rfl (by omega) (by decide) dX7_carried_140 ?_
      refine g_goto hC 183 dX7_carried_141 rfl ?_
      refine g_zret (ty := .int) hC rfl rfl dX7_carried_183 ⟨congrArg (fun z => some (Value.int z)) ?_, rfl, rfl⟩
      unfold cvM
      rw [show ccl i = 59 by unfold ccl; rw [if_pos (by omega)]; omega, show cps i = i % 8 from if_pos (by omega)]

theorem c_X7_image (l : Launch) (D : va_G) (cA : Nat → ClassId) (b : Nat) (M : Nat → Nat → Int32) (L : Nat → Nat → Int64) (g : Sg) (hS : RS M L g) (hok : OK g) : fm_Met l D cA b yX7_image cX7_image 2 (some .int) 1 25 0 0 [.ref (b + 58)] LAY M L LAY (fm_pm (fun r M' L' => r = (op_image g).1 ∧ RS M' L' (op_image g).2 ∧ fR M M' L L')) := by
  refine fm_start RX7 rfl (by decide) (Nat.le_of_ble_eq_true rfl) ?_
  intro pq eq sq mq aq bq tq cq hC hin
  obtain ⟨⟨n1, n2, n3, v0, v1, v2, v3, v4, v5, v6, v7, v8⟩, hS2⟩ := id hS
  obtain ⟨⟨o1, o2, o3, o4, o5, o6, o7, o8, o9, o10, o11⟩, hok2⟩ := id hok
  refine g_iconst (v := 0) hC dX7_image_0 rfl ?_
  refine g_istore_n hC [(1, .int 0), (0, .ref (b + 58))] dX7_image_1 rfl (by decide) rfl ?_
  have lp_2_1 : ∀ (n_1 : Nat) (M1 : Nat → Nat → Int32) (i : Nat), 92 - i < n_1 → (i ≤ 92 ∧ (∀ q, q ≠ 72 → M1 q = M q) ∧ (∀ j, j < i → M1 72 j = cvM M j)) → fm_G pq l eq (fm_rm 1 25 0 0) sq mq aq bq tq cq D cA b 2 (MQ bq (fm_Q D cA b LAY (fm_pm (fun r M' L' => r = (op_image g).1 ∧ RS M' L' (op_image g).2 ∧ fR M M' L L'))) aq sq 0 0 (fun q => b ≤ q)) LAY M1 L 0 0 2 [(0, .ref (b + 58)), (1, .int (nI i))] [] := by
    intro n_1
    induction n_1 with
    | zero => intro M1 i hm_1; exact absurd hm_1 (Nat.not_lt_zero _)
    | succ n_1 ih_1 =>
      intro M1 i hm_1 hinv_1
      obtain ⟨m1, m2, m3⟩ := hinv_1
      refine g_iload_n hC dX7_image_2 rfl 1 rfl ?_
      refine g_bipush (v := 92) hC dX7_image_3 rfl ?_
      refine g_icmp_ge_T (X := ((i : Nat) : Int)) (Y := 92) hC (nI_toInt (by omega)) rfl 27 dX7_image_5 rfl (fun c_2 => ?_) (fun c_2 => ?_)
      · skip
        refine g_aload_n hC dX7_image_27 rfl 0 rfl ?_
        refine g_getR (ci := 7) (i := 27) (k := 58) (t := 72) hC fm_in7 rfl ly_58 rfl (by decide) fw_647 dX7_image_28 ?_
        refine g_bipush (v := 92) hC dX7_image_31 rfl ?_
        refine g_aload_n hC dX7_image_33 rfl 0 rfl ?_
        refine g_getI (ci := 7) (i := 4) (k := 58) hC fm_in7 rfl ly_58 rfl (by decide) fw_624 dX7_image_34 ?_
        refine g_top (y := nI (g.1.1 7 0)) ((congrFun (m2 58 (by omega)) 4).trans v0) ?_
        refine g_iastN (j := 92) (k := 72) hC ly_72 rfl (by decide) (by decide) dX7_image_37 ?_
        refine g_aload_n hC dX7_image_38 rfl 0 rfl ?_
        refine g_getR (ci := 7) (i := 27) (k := 58) (t := 72) hC fm_in7 rfl ly_58 rfl (by decide) fw_647 dX7_image_39 ?_
        refine g_bipush (v := 93) hC dX7_image_42 rfl ?_
        refine g_aload_n hC dX7_image_44 rfl 0 rfl ?_
        refine g_getI (ci := 7) (i := 7) (k := 58) hC fm_in7 rfl ly_58 rfl (by decide) fw_627 dX7_image_45 ?_
        refine g_top (y := nI (g.1.1 7 1)) ((by simp [fm_up, fm_row, upd] : (fm_up M1 72 92 (nI (g.1.1 7 0))) 58 7 = M1 58 7).trans ((congrFun (m2 58 (by omega)) 7).trans v1)) ?_
        refine g_iastN (j := 93) (k := 72) hC ly_72 rfl (by decide) (by decide) dX7_image_48 ?_
        refine g_aload_n hC dX7_image_49 rfl 0 rfl ?_
        refine g_getR (ci := 7) (i := 27) (k := 58) (t := 72) hC fm_in7 rfl ly_58 rfl (by decide) fw_647 dX7_image_50 ?_
        refine g_bipush (v := 94) hC dX7_image_53 rfl ?_
        refine g_aload_n hC dX7_image_55 rfl 0 rfl ?_
        refine g_getI (ci := 7) (i := 10) (k := 58) hC fm_in7 rfl ly_58 rfl (by decide) fw_630 dX7_image_56 ?_
        refine g_top (y := nI (g.1.1 7 2)) ((by simp [fm_up, fm_row, upd] : (fm_up (fm_up M1 72 92 (nI (g.1.1 7 0))) 72 93 (nI (g.1.1 7 1))) 58 10 = M1 58 10).trans ((congrFun (m2 58 (by omega)) 10).trans v2)) ?_
        refine g_iastN (j := 94) (k := 72) hC ly_72 rfl (by decide) (by decide) dX7_image_59 ?_
        refine g_aload_n hC dX7_image_60 rfl 0 rfl ?_
        refine g_getR (ci := 7) (i := 27) (k := 58) (t := 72) hC fm_in7 rfl ly_58 rfl (by decide) fw_647 dX7_image_61 ?_
        refine g_bipush (v := 95) hC dX7_image_64 rfl ?_
        refine g_aload_n hC dX7_image_66 rfl 0 rfl ?_
        refine g_getI (ci := 7) (i := 11) (k := 58) hC fm_in7 rfl ly_58 rfl (by decide) fw_631 dX7_image_67 ?_
        refine g_top (y := nI (g.1.1 7 3)) ((by simp [fm_up, fm_row, upd] : (fm_up (fm_up (fm_up M1 72 92 (nI (g.1.1 7 0))) 72 93 (nI (g.1.1 7 1))) 72 94 (nI (g.1.1 7 2))) 58 11 = M1 58 11).trans ((congrFun (m2 58 (by omega)) 11).trans v3)) ?_
        refine g_iastN (j := 95) (k := 72) hC ly_72 rfl (by decide) (by decide) dX7_image_70 ?_
        refine g_aload_n hC dX7_image_71 rfl 0 rfl ?_
        refine g_getR (ci := 7) (i := 27) (k := 58) (t := 72) hC fm_in7 rfl ly_58 rfl (by decide) fw_647 dX7_image_72 ?_
        refine g_bipush (v := 96) hC dX7_image_75 rfl ?_
        refine g_aload_n hC dX7_image_77 rfl 0 rfl ?_
        refine g_getI (ci := 7) (i := 12) (k := 58) hC fm_in7 rfl ly_58 rfl (by decide) fw_632 dX7_image_78 ?_
        refine g_top (y := nI (g.1.1 7 4)) ((by simp [fm_up, fm_row, upd] : (fm_up (fm_up (fm_up (fm_up M1 72 92 (nI (g.1.1 7 0))) 72 93 (nI (g.1.1 7 1))) 72 94 (nI (g.1.1 7 2))) 72 95 (nI (g.1.1 7 3))) 58 12 = M1 58 12).trans ((congrFun (m2 58 (by omega)) 12).trans v4)) ?_
        refine g_iastN (j := 96) (k := 72) hC ly_72 rfl (by decide) (by decide) dX7_image_81 ?_
        refine g_aload_n hC dX7_image_82 rfl 0 rfl ?_
        refine g_getR (ci := 7) (i := 27) (k := 58) (t := 72) hC fm_in7 rfl ly_58 rfl (by decide) fw_647 dX7_image_83 ?_
        refine g_bipush (v := 97) hC dX7_image_86 rfl ?_
        refine g_aload_n hC dX7_image_88 rfl 0 rfl ?_
        refine g_getI (ci := 7) (i := 13) (k := 58) hC fm_in7 rfl ly_58 rfl (by decide) fw_633 dX7_image_89 ?_
        refine g_top (y := nI (g.1.1 7 5)) ((by simp [fm_up, fm_row, upd] : (fm_up (fm_up (fm_up (fm_up (fm_up M1 72 92 (nI (g.1.1 7 0))) 72 93 (nI (g.1.1 7 1))) 72 94 (nI (g.1.1 7 2))) 72 95 (nI (g.1.1 7 3))) 72 96 (nI (g.1.1 7 4))) 58 13 = M1 58 13).trans ((congrFun (m2 58 (by omega)) 13).trans v5)) ?_
        refine g_iastN (j := 97) (k := 72) hC ly_72 rfl (by decide) (by decide) dX7_image_92 ?_
        refine g_aload_n hC dX7_image_93 rfl 0 rfl ?_
        refine g_getR (ci := 7) (i := 27) (k := 58) (t := 72) hC fm_in7 rfl ly_58 rfl (by decide) fw_647 dX7_image_94 ?_
        refine g_bipush (v := 98) hC dX7_image_97 rfl ?_
        refine g_aload_n hC dX7_image_99 rfl 0 rfl ?_
        refine g_getI (ci := 7) (i := 14) (k := 58) hC fm_in7 rfl ly_58 rfl (by decide) fw_634 dX7_image_100 ?_
        refine g_top (y := nI (g.1.1 7 6)) ((by simp [fm_up, fm_row, upd] : (fm_up (fm_up (fm_up (fm_up (fm_up (fm_up M1 72 92 (nI (g.1.1 7 0))) 72 93 (nI (g.1.1 7 1))) 72 94 (nI (g.1.1 7 2))) 72 95 (nI (g.1.1 7 3))) 72 96 (nI (g.1.1 7 4))) 72 97 (nI (g.1.1 7 5))) 58 14 = M1 58 14).trans ((congrFun (m2 58 (by omega)) 14).trans v6)) ?_
        refine g_iastN (j := 98) (k := 72) hC ly_72 rfl (by decide) (by decide) dX7_image_103 ?_
        refine g_aload_n hC dX7_image_104 rfl 0 rfl ?_
        refine g_getR (ci := 7) (i := 27) (k := 58) (t := 72) hC fm_in7 rfl ly_58 rfl (by decide) fw_647 dX7_image_105 ?_
        refine g_bipush (v := 99) hC dX7_image_108 rfl ?_
        refine g_aload_n hC dX7_image_110 rfl 0 rfl ?_
        refine g_getI (ci := 7) (i := 15) (k := 58) hC fm_in7 rfl ly_58 rfl (by decide) fw_635 dX7_image_111 ?_
        refine g_top (y := g.1.2.2) ((by simp [fm_up, fm_row, upd] : (fm_up (fm_up (fm_up (fm_up (fm_up (fm_up (fm_up M1 72 92 (nI (g.1.1 7 0))) 72 93 (nI (g.1.1 7 1))) 72 94 (nI (g.1.1 7 2))) 72 95 (nI (g.1.1 7 3))) 72 96 (nI (g.1.1 7 4))) 72 97 (nI (g.1.1 7 5))) 72 98 (nI (g.1.1 7 6))) 58 15 = M1 58 15).trans ((congrFun (m2 58 (by omega)) 15).trans v7)) ?_
        refine g_iastN (j := 99) (k := 72) hC ly_72 rfl (by decide) (by decide) dX7_image_114 ?_
        refine g_aload_n hC dX7_image_115 rfl 0 rfl ?_
        refine g_getR (ci := 7) (i := 27) (k := 58) (t := 72) hC fm_in7 rfl ly_58 rfl (by decide) fw_647 dX7_image_116 ?_
        refine g_bipush (v := 100) hC dX7_image_119 rfl ?_
        refine g_aload_n hC dX7_image_121 rfl 0 rfl ?_
        refine g_getI (ci := 7) (i := 16) (k := 58) hC fm_in7 rfl ly_58 rfl (by decide) fw_636 dX7_image_122 ?_
        refine g_top (y := nI (g.1.1 7 7)) ((by simp [fm_up, fm_row, upd] : (fm_up (fm_up (fm_up (fm_up (fm_up (fm_up (fm_up (fm_up M1 72 92 (nI (g.1.1 7 0))) 72 93 (nI (g.1.1 7 1))) 72 94 (nI (g.1.1 7 2))) 72 95 (nI (g.1.1 7 3))) 72 96 (nI (g.1.1 7 4))) 72 97 (nI (g.1.1 7 5))) 72 98 (nI (g.1.1 7 6))) 72 99 g.1.2.2) 58 16 = M1 58 16).trans ((congrFun (m2 58 (by omega)) 16).trans v8)) ?_
        refine g_iastN (j := 100) (k := 72) hC ly_72 rfl (by decide) (by decide) dX7_image_125 ?_
        refine g_aload_n hC dX7_image_126 rfl 0 rfl ?_
        refine g_iconst (v := 1) hC dX7_image_127 rfl ?_
        refine g_putI (ci := 7) (i := 26) (k := 58) hC fm_in7 tyX7 tyX7_ok nmX7 rfl ly_58 rfl (by decide) fw_646 rfl rfl rfl dX7_image_128 ?_
        refine g_iconst (v := 1) hC dX7_image_131 rfl ?_
        refine g_zret (ty := .int) hC rfl rfl dX7_image_132 ?_
        have ei : i = 92 := by omega
        subst ei
        have X : ∀ j, j < 92 → fm_up (fm_up (fm_up (fm_up (fm_up (fm_up (fm_up (fm_up (fm_up (fm_up M1 72 92 (nI (g.1.1 7 0))) 72 93 (nI (g.1.1 7 1))) 72 94 (nI (g.1.1 7 2))) 72 95 (nI (g.1.1 7 3))) 72 96 (nI (g.1.1 7 4))) 72 97 (nI (g.1.1 7 5))) 72 98 (nI (g.1.1 7 6))) 72 99 g.1.2.2) 72 100 (nI (g.1.1 7 7))) 58 26 1 72 j = cvM M j := fun j hj => by rw [fm_upn (by decide), fm_upx (by omega), fm_upx (by omega), fm_upx (by omega), fm_upx (by omega), fm_upx (by omega), fm_upx (by omega), fm_upx (by omega), fm_upx (by omega), fm_upx (by omega)]; exact m3 j hj
        have Y : ∀ q, q ≠ 58 → q ≠ 72 → fm_up (fm_up (fm_up (fm_up (fm_up (fm_up (fm_up (fm_up (fm_up (fm_up M1 72 92 (nI (g.1.1 7 0))) 72 93 (nI (g.1.1 7 1))) 72 94 (nI (g.1.1 7 2))) 72 95 (nI (g.1.1 7 3))) 72 96 (nI (g.1.1 7 4))) 72 97 (nI (g.1.1 7 5))) 72 98 (nI (g.1.1 7 6))) 72 99 g.1.2.2) 72 100 (nI (g.1.1 7 7))) 58 26 1 q = M q := fun q q1 q2 => by rw [fm_upn q1, fm_upn q2, fm_upn q2, fm_upn q2, fm_upn q2, fm_upn q2, fm_upn q2, fm_upn q2, fm_upn q2, fm_upn q2]; exact m2 q q2
        have Z : ∀ i, i ≠ 26 → fm_up (fm_up (fm_up (fm_up (fm_up (fm_up (fm_up (fm_up (fm_up (fm_up M1 72 92 (nI (g.1.1 7 0))) 72 93 (nI (g.1.1 7 1))) 72 94 (nI (g.1.1 7 2))) 72 95 (nI (g.1.1 7 3))) 72 96 (nI (g.1.1 7 4))) 72 97 (nI (g.1.1 7 5))) 72 98 (nI (g.1.1 7 6))) 72 99 g.1.2.2) 72 100 (nI (g.1.1 7 7))) 58 26 1 58 i = M 58 i := fun i hi => by rw [fm_upx hi, fm_upn (by decide), fm_upn (by decide), fm_upn (by decide), fm_upn (by decide), fm_upn (by decide), fm_upn (by decide), fm_upn (by decide), fm_upn (by decide), fm_upn (by decide), m2 58 (by decide)]
        obtain ⟨h1, h2, h3, h4, h5⟩ := id hS
        refine ⟨_, rfl, rfl, ⟨?_, fun _ => ⟨fun j hj => ?_, fun j hj => ?_, fun j hj => ?_, ?_, ?_, ?_, ?_, ?_, ?_, ?_, ?_, ?_⟩, ?_, ⟨?_, fun i hi => ?_⟩, fun q hq => ?_⟩, fun q hq => ⟨Y q (by omega) (by omega), rfl⟩⟩
        · obtain ⟨p1, p2, p3, p4⟩ := h1
          refine ⟨fun j hj => ?_, fun j hj => ?_, fun q hq => ?_, ?_⟩
          · rw [Y 59 (by decide) (by decide), Y 60 (by decide) (by decide), Y 61 (by decide) (by decide), Y 62 (by decide) (by decide)]; exact p1 j hj
          · rw [Y 63 (by decide) (by decide), Y 64 (by decide) (by decide)]; exact p2 j hj
          · rw [Y 65 (by decide) (by decide), Y 66 (by decide) (by decide)]; exact p3 q hq
          · rw [Z 4 (by decide), Z 7 (by decide), Z 10 (by decide), Z 11 (by decide), Z 12 (by decide), Z 13 (by decide), Z 14 (by decide), Z 15 (by decide), Z 16 (by decide)]; exact p4
        · have hj : j < g.1.1 7 0 := hj
          rw [X j (by omega), X (8 + j) (by omega), X (16 + j) (by omega), X (24 + j) (by omega)]
          have w0 := cv_8 M (j := j) (r := 0) (by omega) (by omega)
          have w1 := cv_8 M (j := j) (r := 1) (by omega) (by omega)
          have w2 := cv_8 M (j := j) (r := 2) (by omega) (by omega)
          have w3 := cv_8 M (j := j) (r := 3) (by omega) (by omega)
          rw [show 8 * 0 + j = j by omega] at w0
          exact ⟨w0.trans (n1 j hj).1, w1.trans (n1 j hj).2.1, w2.trans (n1 j hj).2.2.1, w3.trans (n1 j hj).2.2.2⟩
        · have hj : j < g.1.1 7 1 := hj
          rw [X (32 + j) (by omega), X (38 + j) (by omega)]
          exact ⟨(cv_6 M (j := j) (r := 0) (by omega) (by omega)).trans (n2 j hj).1, (cv_6 M (j := j) (r := 1) (by omega) (by omega)).trans (n2 j hj).2⟩
        · rw [X (44 + j) (by omega), X (68 + j) (by omega)]
          exact ⟨(cv_24 M (j := j) (r := 0) (by omega) (by omega)).trans (n3 j hj).1, (cv_24 M (j := j) (r := 1) (by omega) (by omega)).trans (n3 j hj).2⟩
        · simp [fm_up, fm_row, upd, op_image]
        · simp [fm_up, fm_row, upd, op_image]
        · simp [fm_up, fm_row, upd, op_image]
        · simp [fm_up, fm_row, upd, op_image]
        · simp [fm_up, fm_row, upd, op_image]
        · simp [fm_up, fm_row, upd, op_image]
        · simp [fm_up, fm_row, upd, op_image]
        · simp [fm_up, fm_row, upd, op_image]
        · simp [fm_up, fm_row, upd, op_image]
        · rw [fm_ups]; rfl
        · rw [Z 18 (by decide)]; exact h4.1
        · rw [Y 67 (by decide) (by decide)]; exact h4.2 i hi
        · rw [Y 73 (by decide) (by decide), Y 74 (by decide) (by decide)]; exact h5 q hq
      · skip
        refine g_aload_n hC dX7_image_8 rfl 0 rfl ?_
        refine g_getR (ci := 7) (i := 27) (k := 58) (t := 72) hC fm_in7 rfl ly_58 rfl (by decide) fw_647 dX7_image_9 ?_
        refine g_iload_n hC dX7_image_12 rfl 1 rfl ?_
        refine g_aload_n hC dX7_image_13 rfl 0 rfl ?_
        refine g_iload_n hC dX7_image_14 rfl 1 rfl ?_
        refine g_iconst (v := 0) hC dX7_image_15 rfl ?_
        refine g_iconst (v := 0) hC dX7_image_16 rfl ?_
        refine g_callV hC (k := 58) (ci := 7) (as := [.int (nI i), .int 0, .int 0]) (rest := [.int (nI i), .ref (b + 72)]) (c_X7_carried_r l D cA b M1 L i 0 (by omega)) ⟨fw_942, fw_944, fs_34, fw_9, fw_945⟩ ⟨rfl, hd_X7_carried⟩ rfl ly_58 ⟨Nat.le_of_ble_eq_true rfl, Nat.le_of_ble_eq_true rfl⟩ ⟨Nat.le_of_ble_eq_true rfl, Nat.le_of_ble_eq_true rfl⟩ rfl rfl (Nat.le_of_ble_eq_true rfl) dX7_image_17 (g_rix ?_)
        refine g_iastN (j := i) (k := 72) hC ly_72 rfl (by omega) (by decide) dX7_image_20 ?_
        refine g_iinc hC [(1, .int (nI (i + 1))), (0, .ref (b + 58))] dX7_image_21 1 rfl (by rw [show Int32.ofInt 1 = nI 1 from rfl, nI_add]) (by decide) rfl ?_
        refine g_goto hC 2 dX7_image_24 rfl ?_
        exact g_sub [1, 0] rfl (ih_1 (fm_up M1 72 i (cvM M1 i)) (i + 1) (by omega) (⟨by omega, fun q hq => by rw [fm_upn hq]; exact m2 q hq, fun j hj => by rw [fm_upv]; by_cases e : j = i; rw [if_pos e, e]; exact cv_cong (by omega) (fun q q1 q2 => m2 q (by omega)); rw [if_neg e]; exact m3 j (by omega)⟩))
  exact g_sub [1, 0] rfl (lp_2_1 (92 - 0 + 1) M 0 (Nat.lt_succ_self _) (⟨by omega, fun _ _ => rfl, fun j hj => by omega⟩))

theorem c_X7_carried_w (l : Launch) (D : va_G) (cA : Nat → ClassId) (b : Nat) (M : Nat → Nat → Int32) (L : Nat → Nat → Int64) (i : Nat) (v : Int32) (hi : i < 92) : fm_Met l D cA b yX7_carried cX7_carried 6 (some .int) 0 0 0 0 [.ref (b + 58), .int (nI i), .int v, .int 1] LAY M L LAY (fm_pm (fun r M' L' => M' = wrM M i v ∧ L' = L)) := by
  refine fm_start RX7 rfl (by decide) (Nat.le_of_ble_eq_true rfl) ?_
  intro pq eq sq mq aq bq tq cq hC hin
  refine g_iload_n hC dX7_carried_0 rfl 1 rfl ?_
  refine g_bipush (v := 32) hC dX7_carried_1 rfl ?_
  refine g_icmp_ge_T (X := ((i : Nat) : Int)) (Y := 32) hC (nI_toInt (by omega)) rfl 184 dX7_carried_3 rfl (fun c_1 => ?_) (fun c_1 => ?_)
  · skip
    refine g_iload_n hC dX7_carried_184 rfl 1 rfl ?_
    refine g_bipush (v := 44) hC dX7_carried_185 rfl ?_
    refine g_icmp_ge_T (X := ((i : Nat) : Int)) (Y := 44) hC (nI_toInt (by omega)) rfl 279 dX7_carried_187 rfl (fun c_2 => ?_) (fun c_2 => ?_)
    · skip
      refine g_iload_n hC dX7_carried_279 rfl 1 rfl ?_
      refine g_bipush (v := 92) hC dX7_carried_280 rfl ?_
      refine g_icmp_ge_T (X := ((i : Nat) : Int)) (Y := 92) hC (nI_toInt (by omega)) rfl 374 dX7_carried_282 rfl (fun c_3 => ?_) (fun c_3 => ?_)
      · skip
        refine g_iconst (v := 0) hC dX7_carried_374 rfl ?_
        refine g_zret (ty := .int) hC rfl rfl dX7_carried_375 ?_
        exfalso; omega
      · skip
        refine g_iload_n hC dX7_carried_285 rfl 1 rfl ?_
        refine g_bipush (v := 44) hC dX7_carried_286 rfl ?_
        refine g_isub hC dX7_carried_288 ?_
        refine g_top (y := nI (i - 44)) (cs44 i hi (by omega)) ?_
        refine g_bipush (v := 24) hC dX7_carried_289 rfl ?_
        refine g_irem hC dX7_carried_291 (by decide) ?_
        refine g_top (y := nI ((i - 44) % 24)) (cm24 (i - 44) (by omega)) ?_
        refine g_istore hC [(4, .int (nI ((i - 44) % 24))), (0, .ref (b + 58)), (1, .int (nI i)), (2, .int v), (3, .int 1)] dX7_carried_292 (by decide) rfl ?_
        refine g_aload_n hC dX7_carried_294 rfl 1 rfl ?_
        refine g_getR (ci := 7) (i := 8) (k := 58) (t := 65) hC fm_in7 rfl ly_58 rfl (by decide) fw_628 dX7_carried_295 ?_
        refine g_iload hC dX7_carried_298 0 rfl ?_
        refine g_iload_n hC dX7_carried_300 rfl 4 rfl ?_
        refine g_if_eq_T (X := 1) hC rfl 314 dX7_carried_301 rfl (fun c_4 => absurd c_4 (by omega)) (fun _ => ?_)
        refine g_iload_n hC dX7_carried_304 rfl 2 rfl ?_
        refine g_bipush (v := 68) hC dX7_carried_305 rfl ?_
        refine g_icmp_ge_T (X := ((i : Nat) : Int)) (Y := 68) hC (nI_toInt (by omega)) rfl 314 dX7_carried_307 rfl (fun c_5 => ?_) (fun c_5 => ?_)
        · skip
          refine g_aload_n hC dX7_carried_314 rfl 1 rfl ?_
          refine g_getR (ci := 7) (i := 8) (k := 58) (t := 65) hC fm_in7 rfl ly_58 rfl (by decide) fw_628 dX7_carried_315 ?_
          refine g_iload hC dX7_carried_318 0 rfl ?_
          refine g_ialdN (j := (i - 44) % 24) (k := 65) hC ly_65 rfl (by omega) (by decide) dX7_carried_320 ?_
          refine g_iastN (j := (i - 44) % 24) (k := 65) hC ly_65 rfl (by omega) (by decide) dX7_carried_321 ?_
          rw [fm_same]
          refine g_aload_n hC dX7_carried_322 rfl 1 rfl ?_
          refine g_getR (ci := 7) (i := 9) (k := 58) (t := 66) hC fm_in7 rfl ly_58 rfl (by decide) fw_629 dX7_carried_323 ?_
          refine g_iload hC dX7_carried_326 0 rfl ?_
          refine g_iload_n hC dX7_carried_328 rfl 4 rfl ?_
          refine g_if_eq_T (X := 1) hC rfl 342 dX7_carried_329 rfl (fun c_6 => absurd c_6 (by omega)) (fun _ => ?_)
          refine g_iload_n hC dX7_carried_332 rfl 2 rfl ?_
          refine g_bipush (v := 68) hC dX7_carried_333 rfl ?_
          refine g_icmp_lt_T (X := ((i : Nat) : Int)) (Y := 68) hC (nI_toInt (by omega)) rfl 342 dX7_carried_335 rfl (fun c_7 => ?_) (fun c_7 => ?_)
          · skip
            refine g_aload_n hC dX7_carried_342 rfl 1 rfl ?_
            refine g_getR (ci := 7) (i := 9) (k := 58) (t := 66) hC fm_in7 rfl ly_58 rfl (by decide) fw_629 dX7_carried_343 ?_
            refine g_iload hC dX7_carried_346 0 rfl ?_
            refine g_ialdN (j := (i - 44) % 24) (k := 66) hC ly_66 rfl (by omega) (by decide) dX7_carried_348 ?_
            refine g_iastN (j := (i - 44) % 24) (k := 66) hC ly_66 rfl (by omega) (by decide) dX7_carried_349 ?_
            rw [fm_same]
            refine g_iload_n hC dX7_carried_350 rfl 2 rfl ?_
            refine g_bipush (v := 68) hC dX7_carried_351 rfl ?_
            refine g_icmp_ge_T (X := ((i : Nat) : Int)) (Y := 68) hC (nI_toInt (by omega)) rfl 366 dX7_carried_353 rfl (fun _ => ?_) (fun c_8 => absurd c_8 (by omega))
            refine g_aload_n hC dX7_carried_366 rfl 1 rfl ?_
            refine g_getR (ci := 7) (i := 9) (k := 58) (t := 66) hC fm_in7 rfl ly_58 rfl (by decide) fw_629 dX7_carried_367 ?_
            refine g_iload hC dX7_carried_370 0 rfl ?_
            refine g_ialdN (j := (i - 44) % 24) (k := 66) hC ly_66 rfl (by omega) (by decide) dX7_carried_372 ?_
            refine g_zret (ty := .int) hC rfl rfl dX7_carried_373 ?_
            exfalso; omega
          · skip
            refine g_iload_n hC dX7_carried_338 rfl 3 rfl ?_
            refine g_goto hC 349 dX7_carried_339 rfl ?_
            refine g_iastN (j := (i - 44) % 24) (k := 66) hC ly_66 rfl (by omega) (by decide) dX7_carried_349 ?_
            refine g_iload_n hC dX7_carried_350 rfl 2 rfl ?_
            refine g_bipush (v := 68) hC dX7_carried_351 rfl ?_
            refine g_icmp_ge_T (X := ((i : Nat) : Int)) (Y := 68) hC (nI_toInt (by omega)) rfl 366 dX7_carried_353 rfl (fun _ => ?_) (fun c_9 => absurd c_9 (by omega))
            refine g_aload_n hC dX7_carried_366 rfl 1 rfl ?_
            refine g_getR (ci := 7) (i := 9) (k := 58) (t := 66) hC fm_in7 rfl ly_58 rfl (by decide) fw_629 dX7_carried_367 ?_
            refine g_iload hC dX7_carried_370 0 rfl ?_
            refine g_ialdN (j := (i - 44) % 24) (k := 66) hC ly_66 rfl (by omega) (by decide) dX7_carried_372 ?_
            refine g_zret (ty := .int) hC rfl rfl dX7_carried_373 ?_
            exact ⟨_, rfl, by unfold wrM; rw [show ccl i = 66 by unfold ccl; rw [if_neg (by omega), if_neg (by omega)]; omega, show cps i = (i - 44) % 24 from (if_neg (by omega)).trans (if_neg (by omega))], rfl⟩
        · skip
          refine g_iload_n hC dX7_carried_310 rfl 3 rfl ?_
          refine g_goto hC 321 dX7_carried_311 rfl ?_
          refine g_iastN (j := (i - 44) % 24) (k := 65) hC ly_65 rfl (by omega) (by decide) dX7_carried_321 ?_
          refine g_aload_n hC dX7_carried_322 rfl 1 rfl ?_
          refine g_getR (ci := 7) (i := 9) (k := 58) (t := 66) hC fm_in7 rfl ly_58 rfl (by decide) fw_629 dX7_carried_323 ?_
          refine g_iload hC dX7_carried_326 0 rfl ?_
          refine g_iload_n hC dX7_carried_328 rfl 4 rfl ?_
          refine g_if_eq_T (X := 1) hC rfl 342 dX7_carried_329 rfl (fun c_10 => absurd c_10 (by omega)) (fun _ => ?_)
          refine g_iload_n hC dX7_carried_332 rfl 2 rfl ?_
          refine g_bipush (v := 68) hC dX7_carried_333 rfl ?_
          refine g_icmp_lt_T (X := ((i : Nat) : Int)) (Y := 68) hC (nI_toInt (by omega)) rfl 342 dX7_carried_335 rfl (fun c_11 => ?_) (fun c_11 => ?_)
          · skip
            refine g_aload_n hC dX7_carried_342 rfl 1 rfl ?_
            refine g_getR (ci := 7) (i := 9) (k := 58) (t := 66) hC fm_in7 rfl ly_58 rfl (by decide) fw_629 dX7_carried_343 ?_
            refine g_iload hC dX7_carried_346 0 rfl ?_
            refine g_ialdN (j := (i - 44) % 24) (k := 66) hC ly_66 rfl (by omega) (by decide) dX7_carried_348 ?_
            refine g_iastN (j := (i - 44) % 24) (k := 66) hC ly_66 rfl (by omega) (by decide) dX7_carried_349 ?_
            rw [fm_same]
            refine g_iload_n hC dX7_carried_350 rfl 2 rfl ?_
            refine g_bipush (v := 68) hC dX7_carried_351 rfl ?_
            refine g_icmp_ge_T (X := ((i : Nat) : Int)) (Y := 68) hC (nI_toInt (by omega)) rfl 366 dX7_carried_353 rfl (fun c_12 => absurd c_12 (by omega)) (fun _ => ?_)
            refine g_aload_n hC dX7_carried_356 rfl 1 rfl ?_
            refine g_getR (ci := 7) (i := 8) (k := 58) (t := 65) hC fm_in7 rfl ly_58 rfl (by decide) fw_628 dX7_carried_357 ?_
            refine g_iload hC dX7_carried_360 0 rfl ?_
            refine g_ialdN (j := (i - 44) % 24) (k := 65) hC ly_65 rfl (by omega) (by decide) dX7_carried_362 ?_
            refine g_goto hC 373 dX7_carried_363 rfl ?_
            refine g_zret (ty := .int) hC rfl rfl dX7_carried_373 ?_
            exact ⟨_, rfl, by unfold wrM; rw [show ccl i = 65 by unfold ccl; rw [if_neg (by omega), if_neg (by omega)]; omega, show cps i = (i - 44) % 24 from (if_neg (by omega)).trans (if_neg (by omega))], rfl⟩
          · skip
            refine g_iload_n hC dX7_carried_338 rfl 3 rfl ?_
            refine g_goto hC 349 dX7_carried_339 rfl ?_
            refine g_iastN (j := (i - 44) % 24) (k := 66) hC ly_66 rfl (by omega) (by decide) dX7_carried_349 ?_
            refine g_iload_n hC dX7_carried_350 rfl 2 rfl ?_
            refine g_bipush (v := 68) hC dX7_carried_351 rfl ?_
            refine g_icmp_ge_T (X := ((i : Nat) : Int)) (Y := 68) hC (nI_toInt (by omega)) rfl 366 dX7_carried_353 rfl (fun c_13 => absurd c_13 (by omega)) (fun _ => ?_)
            refine g_aload_n hC dX7_carried_356 rfl 1 rfl ?_
            refine g_getR (ci := 7) (i := 8) (k := 58) (t := 65) hC fm_in7 rfl ly_58 rfl (by decide) fw_628 dX7_carried_357 ?_
            refine g_iload hC dX7_carried_360 0 rfl ?_
            refine g_ialdN (j := (i - 44) % 24) (k := 65) hC ly_65 rfl (by omega) (by decide) dX7_carried_362 ?_
            refine g_goto hC 373 dX7_carried_363 rfl ?_
            refine g_zret (ty := .int) hC rfl rfl dX7_carried_373 ?_
            exfalso; omega
    · skip
      refine g_iload_n hC dX7_carried_190 rfl 1 rfl ?_
      refine g_bipush (v := 32) hC dX7_carried_191 rfl ?_
      refine g_isub hC dX7_carried_193 ?_
      refine g_top (y := nI (i - 32)) (cs32 i hi (by omega)) ?_
      refine g_bipush (v := 6) hC dX7_carried_194 rfl ?_
      refine g_irem hC dX7_carried_196 (by decide) ?_
      refine g_top (y := nI ((i - 32) % 6)) (cm6 (i - 32) (by omega)) ?_
      refine g_istore hC [(4, .int (nI ((i - 32) % 6))), (0, .ref (b + 58)), (1, .int (nI i)), (2, .int v), (3, .int 1)] dX7_carried_197 (by decide) rfl ?_
      refine g_aload_n hC dX7_carried_199 rfl 1 rfl ?_
      refine g_getR (ci := 7) (i := 5) (k := 58) (t := 63) hC fm_in7 rfl ly_58 rfl (by decide) fw_625 dX7_carried_200 ?_
      refine g_iload hC dX7_carried_203 0 rfl ?_
      refine g_iload_n hC dX7_carried_205 rfl 4 rfl ?_
      refine g_if_eq_T (X := 1) hC rfl 219 dX7_carried_206 rfl (fun c_14 => absurd c_14 (by omega)) (fun _ => ?_)
      refine g_iload_n hC dX7_carried_209 rfl 2 rfl ?_
      refine g_bipush (v := 38) hC dX7_carried_210 rfl ?_
      refine g_icmp_ge_T (X := ((i : Nat) : Int)) (Y := 38) hC (nI_toInt (by omega)) rfl 219 dX7_carried_212 rfl (fun c_15 => ?_) (fun c_15 => ?_)
      · skip
        refine g_aload_n hC dX7_carried_219 rfl 1 rfl ?_
        refine g_getR (ci := 7) (i := 5) (k := 58) (t := 63) hC fm_in7 rfl ly_58 rfl (by decide) fw_625 dX7_carried_220 ?_
        refine g_iload hC dX7_carried_223 0 rfl ?_
        refine g_ialdN (j := (i - 32) % 6) (k := 63) hC ly_63 rfl (by omega) (by decide) dX7_carried_225 ?_
        refine g_iastN (j := (i - 32) % 6) (k := 63) hC ly_63 rfl (by omega) (by decide) dX7_carried_226 ?_
        rw [fm_same]
        refine g_aload_n hC dX7_carried_227 rfl 1 rfl ?_
        refine g_getR (ci := 7) (i := 6) (k := 58) (t := 64) hC fm_in7 rfl ly_58 rfl (by decide) fw_626 dX7_carried_228 ?_
        refine g_iload hC dX7_carried_231 0 rfl ?_
        refine g_iload_n hC dX7_carried_233 rfl 4 rfl ?_
        refine g_if_eq_T (X := 1) hC rfl 247 dX7_carried_234 rfl (fun c_16 => absurd c_16 (by omega)) (fun _ => ?_)
        refine g_iload_n hC dX7_carried_237 rfl 2 rfl ?_
        refine g_bipush (v := 38) hC dX7_carried_238 rfl ?_
        refine g_icmp_lt_T (X := ((i : Nat) : Int)) (Y := 38) hC (nI_toInt (by omega)) rfl 247 dX7_carried_240 rfl (fun c_17 => ?_) (fun c_17 => ?_)
        · skip
          refine g_aload_n hC dX7_carried_247 rfl 1 rfl ?_
          refine g_getR (ci := 7) (i := 6) (k := 58) (t := 64) hC fm_in7 rfl ly_58 rfl (by decide) fw_626 dX7_carried_248 ?_
          refine g_iload hC dX7_carried_251 0 rfl ?_
          refine g_ialdN (j := (i - 32) % 6) (k := 64) hC ly_64 rfl (by omega) (by decide) dX7_carried_253 ?_
          refine g_iastN (j := (i - 32) % 6) (k := 64) hC ly_64 rfl (by omega) (by decide) dX7_carried_254 ?_
          rw [fm_same]
          refine g_iload_n hC dX7_carried_255 rfl 2 rfl ?_
          refine g_bipush (v := 38) hC dX7_carried_256 rfl ?_
          refine g_icmp_ge_T (X := ((i : Nat) : Int)) (Y := 38) hC (nI_toInt (by omega)) rfl 271 dX7_carried_258 rfl (fun _ => ?_) (fun c_18 => absurd c_18 (by omega))
          refine g_aload_n hC dX7_carried_271 rfl 1 rfl ?_
          refine g_getR (ci := 7) (i := 6) (k := 58) (t := 64) hC fm_in7 rfl ly_58 rfl (by decide) fw_626 dX7_carried_272 ?_
          refine g_iload hC dX7_carried_275 0 rfl ?_
          refine g_ialdN (j := (i - 32) % 6) (k := 64) hC ly_64 rfl (by omega) (by decide) dX7_carried_277 ?_
          refine g_zret (ty := .int) hC rfl rfl dX7_carried_278 ?_
          exfalso; omega
        · skip
          refine g_iload_n hC dX7_carried_243 rfl 3 rfl ?_
          refine g_goto hC 254 dX7_carried_244 rfl ?_
          refine g_iastN (j := (i - 32) % 6) (k := 64) hC ly_64 rfl (by omega) (by decide) dX7_carried_254 ?_
          refine g_iload_n hC dX7_carried_255 rfl 2 rfl ?_
          refine g_bipush (v := 38) hC dX7_carried_256 rfl ?_
          refine g_icmp_ge_T (X := ((i : Nat) : Int)) (Y := 38) hC (nI_toInt (by omega)) rfl 271 dX7_carried_258 rfl (fun _ => ?_) (fun c_19 => absurd c_19 (by omega))
          refine g_aload_n hC dX7_carried_271 rfl 1 rfl ?_
          refine g_getR (ci := 7) (i := 6) (k := 58) (t := 64) hC fm_in7 rfl ly_58 rfl (by decide) fw_626 dX7_carried_272 ?_
          refine g_iload hC dX7_carried_275 0 rfl ?_
          refine g_ialdN (j := (i - 32) % 6) (k := 64) hC ly_64 rfl (by omega) (by decide) dX7_carried_277 ?_
          refine g_zret (ty := .int) hC rfl rfl dX7_carried_278 ?_
          exact ⟨_, rfl, by unfold wrM; rw [show ccl i = 64 by unfold ccl; rw [if_neg (by omega), if_pos (by omega)]; omega, show cps i = (i - 32) % 6 from (if_neg (by omega)).trans (if_pos (by omega))], rfl⟩
      · skip
        refine g_iload_n hC dX7_carried_215 rfl 3 rfl ?_
        refine g_goto hC 226 dX7_carried_216 rfl ?_
        refine g_iastN (j := (i - 32) % 6) (k := 63) hC ly_63 rfl (by omega) (by decide) dX7_carried_226 ?_
        refine g_aload_n hC dX7_carried_227 rfl 1 rfl ?_
        refine g_getR (ci := 7) (i := 6) (k := 58) (t := 64) hC fm_in7 rfl ly_58 rfl (by decide) fw_626 dX7_carried_228 ?_
        refine g_iload hC dX7_carried_231 0 rfl ?_
        refine g_iload_n hC dX7_carried_233 rfl 4 rfl ?_
        refine g_if_eq_T (X := 1) hC rfl 247 dX7_carried_234 rfl (fun c_20 => absurd c_20 (by omega)) (fun _ => ?_)
        refine g_iload_n hC dX7_carried_237 rfl 2 rfl ?_
        refine g_bipush (v := 38) hC dX7_carried_238 rfl ?_
        refine g_icmp_lt_T (X := ((i : Nat) : Int)) (Y := 38) hC (nI_toInt (by omega)) rfl 247 dX7_carried_240 rfl (fun c_21 => ?_) (fun c_21 => ?_)
        · skip
          refine g_aload_n hC dX7_carried_247 rfl 1 rfl ?_
          refine g_getR (ci := 7) (i := 6) (k := 58) (t := 64) hC fm_in7 rfl ly_58 rfl (by decide) fw_626 dX7_carried_248 ?_
          refine g_iload hC dX7_carried_251 0 rfl ?_
          refine g_ialdN (j := (i - 32) % 6) (k := 64) hC ly_64 rfl (by omega) (by decide) dX7_carried_253 ?_
          refine g_iastN (j := (i - 32) % 6) (k := 64) hC ly_64 rfl (by omega) (by decide) dX7_carried_254 ?_
          rw [fm_same]
          refine g_iload_n hC dX7_carried_255 rfl 2 rfl ?_
          refine g_bipush (v := 38) hC dX7_carried_256 rfl ?_
          refine g_icmp_ge_T (X := ((i : Nat) : Int)) (Y := 38) hC (nI_toInt (by omega)) rfl 271 dX7_carried_258 rfl (fun c_22 => absurd c_22 (by omega)) (fun _ => ?_)
          refine g_aload_n hC dX7_carried_261 rfl 1 rfl ?_
          refine g_getR (ci := 7) (i := 5) (k := 58) (t := 63) hC fm_in7 rfl ly_58 rfl (by decide) fw_625 dX7_carried_262 ?_
          refine g_iload hC dX7_carried_265 0 rfl ?_
          refine g_ialdN (j := (i - 32) % 6) (k := 63) hC ly_63 rfl (by omega) (by decide) dX7_carried_267 ?_
          refine g_goto hC 278 dX7_carried_268 rfl ?_
          refine g_zret (ty := .int) hC rfl rfl dX7_carried_278 ?_
          exact ⟨_, rfl, by unfold wrM; rw [show ccl i = 63 by unfold ccl; rw [if_neg (by omega), if_pos (by omega)]; omega, show cps i = (i - 32) % 6 from (if_neg (by omega)).trans (if_pos (by omega))], rfl⟩
        · skip
          refine g_iload_n hC dX7_carried_243 rfl 3 rfl ?_
          refine g_goto hC 254 dX7_carried_244 rfl ?_
          refine g_iastN (j := (i - 32) % 6) (k := 64) hC ly_64 rfl (by omega) (by decide) dX7_carried_254 ?_
          refine g_iload_n hC dX7_carried_255 rfl 2 rfl ?_
          refine g_bipush (v := 38) hC dX7_carried_256 rfl ?_
          refine g_icmp_ge_T (X := ((i : Nat) : Int)) (Y := 38) hC (nI_toInt (by omega)) rfl 271 dX7_carried_258 rfl (fun c_23 => absurd c_23 (by omega)) (fun _ => ?_)
          refine g_aload_n hC dX7_carried_261 rfl 1 rfl ?_
          refine g_getR (ci := 7) (i := 5) (k := 58) (t := 63) hC fm_in7 rfl ly_58 rfl (by decide) fw_625 dX7_carried_262 ?_
          refine g_iload hC dX7_carried_265 0 rfl ?_
          refine g_ialdN (j := (i - 32) % 6) (k := 63) hC ly_63 rfl (by omega) (by decide) dX7_carried_267 ?_
          refine g_goto hC 278 dX7_carried_268 rfl ?_
          refine g_zret (ty := .int) hC rfl rfl dX7_carried_278 ?_
          exfalso; omega
  · skip
    refine g_iload_n hC dX7_carried_6 rfl 1 rfl ?_
    refine g_bipush (v := 8) hC dX7_carried_7 rfl ?_
    refine g_irem hC dX7_carried_9 (by decide) ?_
    refine g_top (y := nI (i % 8)) (cm8 i hi) ?_
    refine g_istore hC [(4, .int (nI (i % 8))), (0, .ref (b + 58)), (1, .int (nI i)), (2, .int v), (3, .int 1)] dX7_carried_10 (by decide) rfl ?_
    refine g_iload_n hC dX7_carried_12 rfl 2 rfl ?_
    refine g_bipush (v := 8) hC dX7_carried_13 rfl ?_
    refine g_idiv hC dX7_carried_15 (by decide) ?_
    refine g_top (y := nI (i / 8)) (cd8 i hi) ?_
    refine g_istore hC [(5, .int (nI (i / 8))), (4, .int (nI (i % 8))), (0, .ref (b + 58)), (1, .int (nI i)), (2, .int v), (3, .int 1)] dX7_carried_16 (by decide) rfl ?_
    refine g_aload_n hC dX7_carried_18 rfl 2 rfl ?_
    refine g_getR (ci := 7) (i := 0) (k := 58) (t := 59) hC fm_in7 rfl ly_58 rfl (by decide) fw_620 dX7_carried_19 ?_
    refine g_iload hC dX7_carried_22 1 rfl ?_
    refine g_iload_n hC dX7_carried_24 rfl 5 rfl ?_
    refine g_if_eq_T (X := 1) hC rfl 37 dX7_carried_25 rfl (fun c_24 => absurd c_24 (by omega)) (fun _ => ?_)
    refine g_iload hC dX7_carried_28 0 rfl ?_
    refine g_if_ne_T (X := ((i / 8 : Nat) : Int)) hC (nI_toInt (by omega)) 37 dX7_carried_30 rfl (fun c_25 => ?_) (fun c_25 => ?_)
    · skip
      refine g_aload_n hC dX7_carried_37 rfl 2 rfl ?_
      refine g_getR (ci := 7) (i := 0) (k := 58) (t := 59) hC fm_in7 rfl ly_58 rfl (by decide) fw_620 dX7_carried_38 ?_
      refine g_iload hC dX7_carried_41 1 rfl ?_
      refine g_ialdN (j := i % 8) (k := 59) hC ly_59 rfl (by omega) (by decide) dX7_carried_43 ?_
      refine g_iastN (j := i % 8) (k := 59) hC ly_59 rfl (by omega) (by decide) dX7_carried_44 ?_
      rw [fm_same]
      refine g_aload_n hC dX7_carried_45 rfl 2 rfl ?_
      refine g_getR (ci := 7) (i := 1) (k := 58) (t := 60) hC fm_in7 rfl ly_58 rfl (by decide) fw_621 dX7_carried_46 ?_
      refine g_iload hC dX7_carried_49 1 rfl ?_
      refine g_iload_n hC dX7_carried_51 rfl 5 rfl ?_
      refine g_if_eq_T (X := 1) hC rfl 65 dX7_carried_52 rfl (fun c_26 => absurd c_26 (by omega)) (fun _ => ?_)
      refine g_iload hC dX7_carried_55 0 rfl ?_
      refine g_iconst (v := 1) hC dX7_carried_57 rfl ?_
      refine g_icmp_ne_T (X := ((i / 8 : Nat) : Int)) (Y := 1) hC (nI_toInt (by omega)) rfl 65 dX7_carried_58 rfl (fun c_27 => ?_) (fun c_27 => ?_)
      · skip
        refine g_aload_n hC dX7_carried_65 rfl 2 rfl ?_
        refine g_getR (ci := 7) (i := 1) (k := 58) (t := 60) hC fm_in7 rfl ly_58 rfl (by decide) fw_621 dX7_carried_66 ?_
        refine g_iload hC dX7_carried_69 1 rfl ?_
        refine g_ialdN (j := i % 8) (k := 60) hC ly_60 rfl (by omega) (by decide) dX7_carried_71 ?_
        refine g_iastN (j := i % 8) (k := 60) hC ly_60 rfl (by omega) (by decide) dX7_carried_72 ?_
        rw [fm_same]
        refine g_aload_n hC dX7_carried_73 rfl 2 rfl ?_
        refine g_getR (ci := 7) (i := 2) (k := 58) (t := 61) hC fm_in7 rfl ly_58 rfl (by decide) fw_622 dX7_carried_74 ?_
        refine g_iload hC dX7_carried_77 1 rfl ?_
        refine g_iload_n hC dX7_carried_79 rfl 5 rfl ?_
        refine g_if_eq_T (X := 1) hC rfl 93 dX7_carried_80 rfl (fun c_28 => absurd c_28 (by omega)) (fun _ => ?_)
        refine g_iload hC dX7_carried_83 0 rfl ?_
        refine g_iconst (v := 2) hC dX7_carried_85 rfl ?_
        refine g_icmp_ne_T (X := ((i / 8 : Nat) : Int)) (Y := 2) hC (nI_toInt (by omega)) rfl 93 dX7_carried_86 rfl (fun c_29 => ?_) (fun c_29 => ?_)
        · skip
          refine g_aload_n hC dX7_carried_93 rfl 2 rfl ?_
          refine g_getR (ci := 7) (i := 2) (k := 58) (t := 61) hC fm_in7 rfl ly_58 rfl (by decide) fw_622 dX7_carried_94 ?_
          refine g_iload hC dX7_carried_97 1 rfl ?_
          refine g_ialdN (j := i % 8) (k := 61) hC ly_61 rfl (by omega) (by decide) dX7_carried_99 ?_
          refine g_iastN (j := i % 8) (k := 61) hC ly_61 rfl (by omega) (by decide) dX7_carried_100 ?_
          rw [fm_same]
          refine g_aload_n hC dX7_carried_101 rfl 2 rfl ?_
          refine g_getR (ci := 7) (i := 3) (k := 58) (t := 62) hC fm_in7 rfl ly_58 rfl (by decide) fw_623 dX7_carried_102 ?_
          refine g_iload hC dX7_carried_105 1 rfl ?_
          refine g_iload_n hC dX7_carried_107 rfl 5 rfl ?_
          refine g_if_eq_T (X := 1) hC rfl 121 dX7_carried_108 rfl (fun c_30 => absurd c_30 (by omega)) (fun _ => ?_)
          refine g_iload hC dX7_carried_111 0 rfl ?_
          refine g_iconst (v := 3) hC dX7_carried_113 rfl ?_
          refine g_icmp_ne_T (X := ((i / 8 : Nat) : Int)) (Y := 3) hC (nI_toInt (by omega)) rfl 121 dX7_carried_114 rfl (fun c_31 => ?_) (fun c_31 => ?_)
          · skip
            refine g_aload_n hC dX7_carried_121 rfl 2 rfl ?_
            refine g_getR (ci := 7) (i := 3) (k := 58) (t := 62) hC fm_in7 rfl ly_58 rfl (by decide) fw_623 dX7_carried_122 ?_
            refine g_iload hC dX7_carried_125 1 rfl ?_
            refine g_ialdN (j := i % 8) (k := 62) hC ly_62 rfl (by omega) (by decide) dX7_carried_127 ?_
            refine g_iastN (j := i % 8) (k := 62) hC ly_62 rfl (by omega) (by decide) dX7_carried_128 ?_
            rw [fm_same]
            refine g_iload hC dX7_carried_129 0 rfl ?_
            refine g_if_ne_T (X := ((i / 8 : Nat) : Int)) hC (nI_toInt (by omega)) 144 dX7_carried_131 rfl (fun _ => ?_) (fun c_32 => absurd c_32 (by omega))
            refine g_iload hC dX7_carried_144 0 rfl ?_
            refine g_iconst (v := 1) hC dX7_carried_146 rfl ?_
            refine g_icmp_ne_T (X := ((i / 8 : Nat) : Int)) (Y := 1) hC (nI_toInt (by omega)) rfl 160 dX7_carried_147 rfl (fun _ => ?_) (fun c_33 => absurd c_33 (by omega))
            refine g_iload hC dX7_carried_160 0 rfl ?_
            refine g_iconst (v := 2) hC dX7_carried_162 rfl ?_
            refine g_icmp_ne_T (X := ((i / 8 : Nat) : Int)) (Y := 2) hC (nI_toInt (by omega)) rfl 176 dX7_carried_163 rfl (fun _ => ?_) (fun c_34 => absurd c_34 (by omega))
            refine g_aload_n hC dX7_carried_176 rfl 2 rfl ?_
            refine g_getR (ci := 7) (i := 3) (k := 58) (t := 62) hC fm_in7 rfl ly_58 rfl (by decide) fw_623 dX7_carried_177 ?_
            refine g_iload hC dX7_carried_180 1 rfl ?_
            refine g_ialdN (j := i % 8) (k := 62) hC ly_62 rfl (by omega) (by decide) dX7_carried_182 ?_
            refine g_zret (ty := .int) hC rfl rfl dX7_carried_183 ?_
            exfalso; omega
          · skip
            refine g_iload_n hC dX7_carried_117 rfl 4 rfl ?_
            refine g_goto hC 128 dX7_carried_118 rfl ?_
            refine g_iastN (j := i % 8) (k := 62) hC ly_62 rfl (by omega) (by decide) dX7_carried_128 ?_
            refine g_iload hC dX7_carried_129 0 rfl ?_
            refine g_if_ne_T (X := ((i / 8 : Nat) : Int)) hC (nI_toInt (by omega)) 144 dX7_carried_131 rfl (fun _ => ?_) (fun c_35 => absurd c_35 (by omega))
            refine g_iload hC dX7_carried_144 0 rfl ?_
            refine g_iconst (v := 1) hC dX7_carried_146 rfl ?_
            refine g_icmp_ne_T (X := ((i / 8 : Nat) : Int)) (Y := 1) hC (nI_toInt (by omega)) rfl 160 dX7_carried_147 rfl (fun _ => ?_) (fun c_36 => absurd c_36 (by omega))
            refine g_iload hC dX7_carried_160 0 rfl ?_
            refine g_iconst (v := 2) hC dX7_carried_162 rfl ?_
            refine g_icmp_ne_T (X := ((i / 8 : Nat) : Int)) (Y := 2) hC (nI_toInt (by omega)) rfl 176 dX7_carried_163 rfl (fun _ => ?_) (fun c_37 => absurd c_37 (by omega))
            refine g_aload_n hC dX7_carried_176 rfl 2 rfl ?_
            refine g_getR (ci := 7) (i := 3) (k := 58) (t := 62) hC fm_in7 rfl ly_58 rfl (by decide) fw_623 dX7_carried_177 ?_
            refine g_iload hC dX7_carried_180 1 rfl ?_
            refine g_ialdN (j := i % 8) (k := 62) hC ly_62 rfl (by omega) (by decide) dX7_carried_182 ?_
            refine g_zret (ty := .int) hC rfl rfl dX7_carried_183 ?_
            exact ⟨_, rfl, by unfold wrM; rw [show ccl i = 62 by unfold ccl; rw [if_pos (by omega)]; omega, show cps i = i % 8 from if_pos (by omega)], rfl⟩
        · skip
          refine g_iload_n hC dX7_carried_89 rfl 4 rfl ?_
          refine g_goto hC 100 dX7_carried_90 rfl ?_
          refine g_iastN (j := i % 8) (k := 61) hC ly_61 rfl (by omega) (by decide) dX7_carried_100 ?_
          refine g_aload_n hC dX7_carried_101 rfl 2 rfl ?_
          refine g_getR (ci := 7) (i := 3) (k := 58) (t := 62) hC fm_in7 rfl ly_58 rfl (by decide) fw_623 dX7_carried_102 ?_
          refine g_iload hC dX7_carried_105 1 rfl ?_
          refine g_iload_n hC dX7_carried_107 rfl 5 rfl ?_
          refine g_if_eq_T (X := 1) hC rfl 121 dX7_carried_108 rfl (fun c_38 => absurd c_38 (by omega)) (fun _ => ?_)
          refine g_iload hC dX7_carried_111 0 rfl ?_
          refine g_iconst (v := 3) hC dX7_carried_113 rfl ?_
          refine g_icmp_ne_T (X := ((i / 8 : Nat) : Int)) (Y := 3) hC (nI_toInt (by omega)) rfl 121 dX7_carried_114 rfl (fun _ => ?_) (fun c_39 => absurd c_39 (by omega))
          refine g_aload_n hC dX7_carried_121 rfl 2 rfl ?_
          refine g_getR (ci := 7) (i := 3) (k := 58) (t := 62) hC fm_in7 rfl ly_58 rfl (by decide) fw_623 dX7_carried_122 ?_
          refine g_iload hC dX7_carried_125 1 rfl ?_
          refine g_ialdN (j := i % 8) (k := 62) hC ly_62 rfl (by omega) (by decide) dX7_carried_127 ?_
          refine g_iastN (j := i % 8) (k := 62) hC ly_62 rfl (by omega) (by decide) dX7_carried_128 ?_
          rw [fm_same]
          refine g_iload hC dX7_carried_129 0 rfl ?_
          refine g_if_ne_T (X := ((i / 8 : Nat) : Int)) hC (nI_toInt (by omega)) 144 dX7_carried_131 rfl (fun _ => ?_) (fun c_40 => absurd c_40 (by omega))
          refine g_iload hC dX7_carried_144 0 rfl ?_
          refine g_iconst (v := 1) hC dX7_carried_146 rfl ?_
          refine g_icmp_ne_T (X := ((i / 8 : Nat) : Int)) (Y := 1) hC (nI_toInt (by omega)) rfl 160 dX7_carried_147 rfl (fun _ => ?_) (fun c_41 => absurd c_41 (by omega))
          refine g_iload hC dX7_carried_160 0 rfl ?_
          refine g_iconst (v := 2) hC dX7_carried_162 rfl ?_
          refine g_icmp_ne_T (X := ((i / 8 : Nat) : Int)) (Y := 2) hC (nI_toInt (by omega)) rfl 176 dX7_carried_163 rfl (fun c_42 => absurd c_42 (by omega)) (fun _ => ?_)
          refine g_aload_n hC dX7_carried_166 rfl 2 rfl ?_
          refine g_getR (ci := 7) (i := 2) (k := 58) (t := 61) hC fm_in7 rfl ly_58 rfl (by decide) fw_622 dX7_carried_167 ?_
          refine g_iload hC dX7_carried_170 1 rfl ?_
          refine g_ialdN (j := i % 8) (k := 61) hC ly_61 rfl (by omega) (by decide) dX7_carried_172 ?_
          refine g_goto hC 183 dX7_carried_173 rfl ?_
          refine g_zret (ty := .int) hC rfl rfl dX7_carried_183 ?_
          exact ⟨_, rfl, by unfold wrM; rw [show ccl i = 61 by unfold ccl; rw [if_pos (by omega)]; omega, show cps i = i % 8 from if_pos (by omega)], rfl⟩
      · skip
        refine g_iload_n hC dX7_carried_61 rfl 4 rfl ?_
        refine g_goto hC 72 dX7_carried_62 rfl ?_
        refine g_iastN (j := i % 8) (k := 60) hC ly_60 rfl (by omega) (by decide) dX7_carried_72 ?_
        refine g_aload_n hC dX7_carried_73 rfl 2 rfl ?_
        refine g_getR (ci := 7) (i := 2) (k := 58) (t := 61) hC fm_in7 rfl ly_58 rfl (by decide) fw_622 dX7_carried_74 ?_
        refine g_iload hC dX7_carried_77 1 rfl ?_
        refine g_iload_n hC dX7_carried_79 rfl 5 rfl ?_
        refine g_if_eq_T (X := 1) hC rfl 93 dX7_carried_80 rfl (fun c_43 => absurd c_43 (by omega)) (fun _ => ?_)
        refine g_iload hC dX7_carried_83 0 rfl ?_
        refine g_iconst (v := 2) hC dX7_carried_85 rfl ?_
        refine g_icmp_ne_T (X := ((i / 8 : Nat) : Int)) (Y := 2) hC (nI_toInt (by omega)) rfl 93 dX7_carried_86 rfl (fun _ => ?_) (fun c_44 => absurd c_44 (by omega))
        refine g_aload_n hC dX7_carried_93 rfl 2 rfl ?_
        refine g_getR (ci := 7) (i := 2) (k := 58) (t := 61) hC fm_in7 rfl ly_58 rfl (by decide) fw_622 dX7_carried_94 ?_
        refine g_iload hC dX7_carried_97 1 rfl ?_
        refine g_ialdN (j := i % 8) (k := 61) hC ly_61 rfl (by omega) (by decide) dX7_carried_99 ?_
        refine g_iastN (j := i % 8) (k := 61) hC ly_61 rfl (by omega) (by decide) dX7_carried_100 ?_
        rw [fm_same]
        refine g_aload_n hC dX7_carried_101 rfl 2 rfl ?_
        refine g_getR (ci := 7) (i := 3) (k := 58) (t := 62) hC fm_in7 rfl ly_58 rfl (by decide) fw_623 dX7_carried_102 ?_
        refine g_iload hC dX7_carried_105 1 rfl ?_
        refine g_iload_n hC dX7_carried_107 rfl 5 rfl ?_
        refine g_if_eq_T (X := 1) hC rfl 121 dX7_carried_108 rfl (fun c_45 => absurd c_45 (by omega)) (fun _ => ?_)
        refine g_iload hC dX7_carried_111 0 rfl ?_
        refine g_iconst (v := 3) hC dX7_carried_113 rfl ?_
        refine g_icmp_ne_T (X := ((i / 8 : Nat) : Int)) (Y := 3) hC (nI_toInt (by omega)) rfl 121 dX7_carried_114 rfl (fun _ => ?_) (fun c_46 => absurd c_46 (by omega))
        refine g_aload_n hC dX7_carried_121 rfl 2 rfl ?_
        refine g_getR (ci := 7) (i := 3) (k := 58) (t := 62) hC fm_in7 rfl ly_58 rfl (by decide) fw_623 dX7_carried_122 ?_
        refine g_iload hC dX7_carried_125 1 rfl ?_
        refine g_ialdN (j := i % 8) (k := 62) hC ly_62 rfl (by omega) (by decide) dX7_carried_127 ?_
        refine g_iastN (j := i % 8) (k := 62) hC ly_62 rfl (by omega) (by decide) dX7_carried_128 ?_
        rw [fm_same]
        refine g_iload hC dX7_carried_129 0 rfl ?_
        refine g_if_ne_T (X := ((i / 8 : Nat) : Int)) hC (nI_toInt (by omega)) 144 dX7_carried_131 rfl (fun _ => ?_) (fun c_47 => absurd c_47 (by omega))
        refine g_iload hC dX7_carried_144 0 rfl ?_
        refine g_iconst (v := 1) hC dX7_carried_146 rfl ?_
        refine g_icmp_ne_T (X := ((i / 8 : Nat) : Int)) (Y := 1) hC (nI_toInt (by omega)) rfl 160 dX7_carried_147 rfl (fun c_48 => absurd c_48 (by omega)) (fun _ => ?_)
        refine g_aload_n hC dX7_carried_150 rfl 2 rfl ?_
        refine g_getR (ci := 7) (i := 1) (k := 58) (t := 60) hC fm_in7 rfl ly_58 rfl (by decide) fw_621 dX7_carried_151 ?_
        refine g_iload hC dX7_carried_154 1 rfl ?_
        refine g_ialdN (j := i % 8) (k := 60) hC ly_60 rfl (by omega) (by decide) dX7_carried_156 ?_
        refine g_goto hC 183 dX7_carried_157 rfl ?_
        refine g_zret (ty := .int) hC rfl rfl dX7_carried_183 ?_
        exact ⟨_, rfl, by unfold wrM; rw [show ccl i = 60 by unfold ccl; rw [if_pos (by omega)]; omega, show cps i = i % 8 from if_pos (by omega)], rfl⟩
    · skip
      refine g_iload_n hC dX7_carried_33 rfl 4 rfl ?_
      refine g_goto hC 44 dX7_carried_34 rfl ?_
      refine g_iastN (j := i % 8) (k := 59) hC ly_59 rfl (by omega) (by decide) dX7_carried_44 ?_
      refine g_aload_n hC dX7_carried_45 rfl 2 rfl ?_
      refine g_getR (ci := 7) (i := 1) (k := 58) (t := 60) hC fm_in7 rfl ly_58 rfl (by decide) fw_621 dX7_carried_46 ?_
      refine g_iload hC dX7_carried_49 1 rfl ?_
      refine g_iload_n hC dX7_carried_51 rfl 5 rfl ?_
      refine g_if_eq_T (X := 1) hC rfl 65 dX7_carried_52 rfl (fun c_49 => absurd c_49 (by omega)) (fun _ => ?_)
      refine g_iload hC dX7_carried_55 0 rfl ?_
      refine g_iconst (v := 1) hC dX7_carried_57 rfl ?_
      refine g_icmp_ne_T (X := ((i / 8 : Nat) : Int)) (Y := 1) hC (nI_toInt (by omega)) rfl 65 dX7_carried_58 rfl (fun _ => ?_) (fun c_50 => absurd c_50 (by omega))
      refine g_aload_n hC dX7_carried_65 rfl 2 rfl ?_
      refine g_getR (ci := 7) (i := 1) (k := 58) (t := 60) hC fm_in7 rfl ly_58 rfl (by decide) fw_621 dX7_carried_66 ?_
      refine g_iload hC dX7_carried_69 1 rfl ?_
      refine g_ialdN (j := i % 8) (k := 60) hC ly_60 rfl (by omega) (by decide) dX7_carried_71 ?_
      refine g_iastN (j := i % 8) (k := 60) hC ly_60 rfl (by omega) (by decide) dX7_carried_72 ?_
      rw [fm_same]
      refine g_aload_n hC dX7_carried_73 rfl 2 rfl ?_
      refine g_getR (ci := 7) (i := 2) (k := 58) (t := 61) hC fm_in7 rfl ly_58 rfl (by decide) fw_622 dX7_carried_74 ?_
      refine g_iload hC dX7_carried_77 1 rfl ?_
      refine g_iload_n hC dX7_carried_79 rfl 5 rfl ?_
      refine g_if_eq_T (X := 1) hC rfl 93 dX7_carried_80 rfl (fun c_51 => absurd c_51 (by omega)) (fun _ => ?_)
      refine g_iload hC dX7_carried_83 0 rfl ?_
      refine g_iconst (v := 2) hC dX7_carried_85 rfl ?_
      refine g_icmp_ne_T (X := ((i / 8 : Nat) : Int)) (Y := 2) hC (nI_toInt (by omega)) rfl 93 dX7_carried_86 rfl (fun _ => ?_) (fun c_52 => absurd c_52 (by omega))
      refine g_aload_n hC dX7_carried_93 rfl 2 rfl ?_
      refine g_getR (ci := 7) (i := 2) (k := 58) (t := 61) hC fm_in7 rfl ly_58 rfl (by decide) fw_622 dX7_carried_94 ?_
      refine g_iload hC dX7_carried_97 1 rfl ?_
      refine g_ialdN (j := i % 8) (k := 61) hC ly_61 rfl (by omega) (by decide) dX7_carried_99 ?_
      refine g_iastN (j := i % 8) (k := 61) hC ly_61 rfl (by omega) (by decide) dX7_carried_100 ?_
      rw [fm_same]
      refine g_aload_n hC dX7_carried_101 rfl 2 rfl ?_
      refine g_getR (ci := 7) (i := 3) (k := 58) (t := 62) hC fm_in7 rfl ly_58 rfl (by decide) fw_623 dX7_carried_102 ?_
      refine g_iload hC dX7_carried_105 1 rfl ?_
      refine g_iload_n hC dX7_carried_107 rfl 5 rfl ?_
      refine g_if_eq_T (X := 1) hC rfl 121 dX7_carried_108 rfl (fun c_53 => absurd c_53 (by omega)) (fun _ => ?_)
      refine g_iload hC dX7_carried_111 0 rfl ?_
      refine g_iconst (v := 3) hC dX7_carried_113 rfl ?_
      refine g_icmp_ne_T (X := ((i / 8 : Nat) : Int)) (Y := 3) hC (nI_toInt (by omega)) rfl 121 dX7_carried_114 rfl (fun _ => ?_) (fun c_54 => absurd c_54 (by omega))
      refine g_aload_n hC dX7_carried_121 rfl 2 rfl ?_
      refine g_getR (ci := 7) (i := 3) (k := 58) (t := 62) hC fm_in7 rfl ly_58 rfl (by decide) fw_623 dX7_carried_122 ?_
      refine g_iload hC dX7_carried_125 1 rfl ?_
      refine g_ialdN (j := i % 8) (k := 62) hC ly_62 rfl (by omega) (by decide) dX7_carried_127 ?_
      refine g_iastN (j := i % 8) (k := 62) hC ly_62 rfl (by omega) (by decide) dX7_carried_128 ?_
      rw [fm_same]
      refine g_iload hC dX7_carried_129 0 rfl ?_
      refine g_if_ne_T (X := ((i / 8 : Nat) : Int)) hC (nI_toInt (by omega)) 144 dX7_carried_131 rfl (fun c_55 => absurd c_55 (by omega)) (fun _ => ?_)
      refine g_aload_n hC dX7_carried_134 rfl 2 rfl ?_
      refine g_getR (ci := 7) (i := 0) (k := 58) (t := 59) hC fm_in7 rfl ly_58 rfl (by decide) fw_620 dX7_carried_135 ?_
      refine g_iload hC dX7_carried_138 1 rfl ?_
      refine g_ialdN (j := i % 8) (k := 59) hC ly_59 rfl (by omega) (by decide) dX7_carried_140 ?_
      refine g_goto hC 183 dX7_carried_141 rfl ?_
      refine g_zret (ty := .int) hC rfl rfl dX7_carried_183 ?_
      exact ⟨_, rfl, by unfold wrM; rw [show ccl i = 59 by unfold ccl; rw [if_pos (by omega)]; omega, show cps i = i % 8 from if_pos (by omega)], rfl⟩

theorem c_X7_restore (l : Launch) (D : va_G) (cA : Nat → ClassId) (b : Nat) (M : Nat → Nat → Int32) (L : Nat → Nat → Int64) (g : Sg) (hS : RS M L g) (hok : OK g) : fm_Met l D cA b yX7_restore cX7_restore 2 (some .int) 1 25 0 0 [.ref (b + 58)] LAY M L LAY (fm_pm (fun r M' L' => r = (op_restore g).1 ∧ RS M' L' (op_restore g).2 ∧ fR M M' L L')) := by
  refine fm_start RX7 rfl (by decide) (Nat.le_of_ble_eq_true rfl) ?_
  intro pq eq sq mq aq bq tq cq hC hin
  obtain ⟨⟨n1, n2, n3, v0, v1, v2, v3, v4, v5, v6, v7, v8⟩, hS2⟩ := id hS
  obtain ⟨⟨o1, o2, o3, o4, o5, o6, o7, o8, o9, o10, o11⟩, hok2⟩ := id hok
  have kk : g.2.2.1 < 2 := hok.2.2.1
  refine g_aload_n hC dX7_restore_0 rfl 0 rfl ?_
  refine g_getI (ci := 7) (i := 26) (k := 58) hC fm_in7 rfl ly_58 rfl (by decide) fw_646 dX7_restore_1 ?_
  refine g_top (y := nI g.2.2.1) hS.2.2.1 ?_
  refine g_if_ne_T (X := ((g.2.2.1 : Nat) : Int)) hC (nI_toInt (by omega)) 10 dX7_restore_4 rfl (fun c_1 => ?_) (fun c_1 => ?_)
  · skip
    refine g_iconst (v := 0) hC dX7_restore_10 rfl ?_
    refine g_istore_n hC [(1, .int 0), (0, .ref (b + 58))] dX7_restore_11 rfl (by decide) rfl ?_
    have lp_12_2 : ∀ (n_2 : Nat) (M1 : Nat → Nat → Int32) (i : Nat), 92 - i < n_2 → (i ≤ 92 ∧ (∀ q, (q < 59 ∨ 67 ≤ q) → M1 q = M q) ∧ (∀ j, j < i → cvM M1 j = M 72 j)) → fm_G pq l eq (fm_rm 1 25 0 0) sq mq aq bq tq cq D cA b 2 (MQ bq (fm_Q D cA b LAY (fm_pm (fun r M' L' => r = (op_restore g).1 ∧ RS M' L' (op_restore g).2 ∧ fR M M' L L'))) aq sq 0 0 (fun q => b ≤ q)) LAY M1 L 0 0 12 [(0, .ref (b + 58)), (1, .int (nI i))] [] := by
      intro n_2
      induction n_2 with
      | zero => intro M1 i hm_2; exact absurd hm_2 (Nat.not_lt_zero _)
      | succ n_2 ih_2 =>
        intro M1 i hm_2 hinv_2
        obtain ⟨m1, m2, m3⟩ := hinv_2
        obtain ⟨k1, k2, k3, u0, u1, u2, u3, u4, u5, u6, u7, u8⟩ := hS.2.1 (by omega)
        obtain ⟨y1, y2, y3, y4, y5, y6, y7, y8, y9, y10, y11⟩ := hok.2.1 (by omega)
        refine g_iload_n hC dX7_restore_12 rfl 1 rfl ?_
        refine g_bipush (v := 92) hC dX7_restore_13 rfl ?_
        refine g_icmp_ge_T (X := ((i : Nat) : Int)) (Y := 92) hC (nI_toInt (by omega)) rfl 37 dX7_restore_15 rfl (fun c_3 => ?_) (fun c_3 => ?_)
        · skip
          refine g_aload_n hC dX7_restore_37 rfl 0 rfl ?_
          refine g_aload_n hC dX7_restore_38 rfl 0 rfl ?_
          refine g_getR (ci := 7) (i := 27) (k := 58) (t := 72) hC fm_in7 rfl ly_58 rfl (by decide) fw_647 dX7_restore_39 ?_
          refine g_bipush (v := 92) hC dX7_restore_42 rfl ?_
          refine g_ialdN (j := 92) (k := 72) hC ly_72 rfl (by decide) (by decide) dX7_restore_44 ?_
          refine g_top (y := nI (g.2.1.1 7 0)) ((congrFun (m2 72 (by omega)) 92).trans u0) ?_
          refine g_putI (ci := 7) (i := 4) (k := 58) hC fm_in7 tyX7 tyX7_ok nmX7 rfl ly_58 rfl (by decide) fw_624 rfl rfl rfl dX7_restore_45 ?_
          refine g_aload_n hC dX7_restore_48 rfl 0 rfl ?_
          refine g_aload_n hC dX7_restore_49 rfl 0 rfl ?_
          refine g_getR (ci := 7) (i := 27) (k := 58) (t := 72) hC fm_in7 rfl ly_58 rfl (by decide) fw_647 dX7_restore_50 ?_
          refine g_bipush (v := 93) hC dX7_restore_53 rfl ?_
          refine g_ialdN (j := 93) (k := 72) hC ly_72 rfl (by decide) (by decide) dX7_restore_55 ?_
          refine g_top (y := nI (g.2.1.1 7 1)) ((by simp [fm_up, fm_row, upd] : (fm_up M1 58 4 (nI (g.2.1.1 7 0))) 72 93 = M1 72 93).trans ((congrFun (m2 72 (by omega)) 93).trans u1)) ?_
          refine g_putI (ci := 7) (i := 7) (k := 58) hC fm_in7 tyX7 tyX7_ok nmX7 rfl ly_58 rfl (by decide) fw_627 rfl rfl rfl dX7_restore_56 ?_
          refine g_aload_n hC dX7_restore_59 rfl 0 rfl ?_
          refine g_aload_n hC dX7_restore_60 rfl 0 rfl ?_
          refine g_getR (ci := 7) (i := 27) (k := 58) (t := 72) hC fm_in7 rfl ly_58 rfl (by decide) fw_647 dX7_restore_61 ?_
          refine g_bipush (v := 94) hC dX7_restore_64 rfl ?_
          refine g_ialdN (j := 94) (k := 72) hC ly_72 rfl (by decide) (by decide) dX7_restore_66 ?_
          refine g_top (y := nI (g.2.1.1 7 2)) ((by simp [fm_up, fm_row, upd] : (fm_up (fm_up M1 58 4 (nI (g.2.1.1 7 0))) 58 7 (nI (g.2.1.1 7 1))) 72 94 = M1 72 94).trans ((congrFun (m2 72 (by omega)) 94).trans u2)) ?_
          refine g_putI (ci := 7) (i := 10) (k := 58) hC fm_in7 tyX7 tyX7_ok nmX7 rfl ly_58 rfl (by decide) fw_630 rfl rfl rfl dX7_restore_67 ?_
          refine g_aload_n hC dX7_restore_70 rfl 0 rfl ?_
          refine g_aload_n hC dX7_restore_71 rfl 0 rfl ?_
          refine g_getR (ci := 7) (i := 27) (k := 58) (t := 72) hC fm_in7 rfl ly_58 rfl (by decide) fw_647 dX7_restore_72 ?_
          refine g_bipush (v := 95) hC dX7_restore_75 rfl ?_
          refine g_ialdN (j := 95) (k := 72) hC ly_72 rfl (by decide) (by decide) dX7_restore_77 ?_
          refine g_top (y := nI (g.2.1.1 7 3)) ((by simp [fm_up, fm_row, upd] : (fm_up (fm_up (fm_up M1 58 4 (nI (g.2.1.1 7 0))) 58 7 (nI (g.2.1.1 7 1))) 58 10 (nI (g.2.1.1 7 2))) 72 95 = M1 72 95).trans ((congrFun (m2 72 (by omega)) 95).trans u3)) ?_
          refine g_putI (ci := 7) (i := 11) (k := 58) hC fm_in7 tyX7 tyX7_ok nmX7 rfl ly_58 rfl (by decide) fw_631 rfl rfl rfl dX7_restore_78 ?_
          refine g_aload_n hC dX7_restore_81 rfl 0 rfl ?_
          refine g_aload_n hC dX7_restore_82 rfl 0 rfl ?_
          refine g_getR (ci := 7) (i := 27) (k := 58) (t := 72) hC fm_in7 rfl ly_58 rfl (by decide) fw_647 dX7_restore_83 ?_
          refine g_bipush (v := 96) hC dX7_restore_86 rfl ?_
          refine g_ialdN (j := 96) (k := 72) hC ly_72 rfl (by decide) (by decide) dX7_restore_88 ?_
          refine g_top (y := nI (g.2.1.1 7 4)) ((by simp [fm_up, fm_row, upd] : (fm_up (fm_up (fm_up (fm_up M1 58 4 (nI (g.2.1.1 7 0))) 58 7 (nI (g.2.1.1 7 1))) 58 10 (nI (g.2.1.1 7 2))) 58 11 (nI (g.2.1.1 7 3))) 72 96 = M1 72 96).trans ((congrFun (m2 72 (by omega)) 96).trans u4)) ?_
          refine g_putI (ci := 7) (i := 12) (k := 58) hC fm_in7 tyX7 tyX7_ok nmX7 rfl ly_58 rfl (by decide) fw_632 rfl rfl rfl dX7_restore_89 ?_
          refine g_aload_n hC dX7_restore_92 rfl 0 rfl ?_
          refine g_aload_n hC dX7_restore_93 rfl 0 rfl ?_
          refine g_getR (ci := 7) (i := 27) (k := 58) (t := 72) hC fm_in7 rfl ly_58 rfl (by decide) fw_647 dX7_restore_94 ?_
          refine g_bipush (v := 97) hC dX7_restore_97 rfl ?_
          refine g_ialdN (j := 97) (k := 72) hC ly_72 rfl (by decide) (by decide) dX7_restore_99 ?_
          refine g_top (y := nI (g.2.1.1 7 5)) ((by simp [fm_up, fm_row, upd] : (fm_up (fm_up (fm_up (fm_up (fm_up M1 58 4 (nI (g.2.1.1 7 0))) 58 7 (nI (g.2.1.1 7 1))) 58 10 (nI (g.2.1.1 7 2))) 58 11 (nI (g.2.1.1 7 3))) 58 12 (nI (g.2.1.1 7 4))) 72 97 = M1 72 97).trans ((congrFun (m2 72 (by omega)) 97).trans u5)) ?_
          refine g_putI (ci := 7) (i := 13) (k := 58) hC fm_in7 tyX7 tyX7_ok nmX7 rfl ly_58 rfl (by decide) fw_633 rfl rfl rfl dX7_restore_100 ?_
          refine g_aload_n hC dX7_restore_103 rfl 0 rfl ?_
          refine g_aload_n hC dX7_restore_104 rfl 0 rfl ?_
          refine g_getR (ci := 7) (i := 27) (k := 58) (t := 72) hC fm_in7 rfl ly_58 rfl (by decide) fw_647 dX7_restore_105 ?_
          refine g_bipush (v := 98) hC dX7_restore_108 rfl ?_
          refine g_ialdN (j := 98) (k := 72) hC ly_72 rfl (by decide) (by decide) dX7_restore_110 ?_
          refine g_top (y := nI (g.2.1.1 7 6)) ((by simp [fm_up, fm_row, upd] : (fm_up (fm_up (fm_up (fm_up (fm_up (fm_up M1 58 4 (nI (g.2.1.1 7 0))) 58 7 (nI (g.2.1.1 7 1))) 58 10 (nI (g.2.1.1 7 2))) 58 11 (nI (g.2.1.1 7 3))) 58 12 (nI (g.2.1.1 7 4))) 58 13 (nI (g.2.1.1 7 5))) 72 98 = M1 72 98).trans ((congrFun (m2 72 (by omega)) 98).trans u6)) ?_
          refine g_putI (ci := 7) (i := 14) (k := 58) hC fm_in7 tyX7 tyX7_ok nmX7 rfl ly_58 rfl (by decide) fw_634 rfl rfl rfl dX7_restore_111 ?_
          refine g_aload_n hC dX7_restore_114 rfl 0 rfl ?_
          refine g_aload_n hC dX7_restore_115 rfl 0 rfl ?_
          refine g_getR (ci := 7) (i := 27) (k := 58) (t := 72) hC fm_in7 rfl ly_58 rfl (by decide) fw_647 dX7_restore_116 ?_
          refine g_bipush (v := 99) hC dX7_restore_119 rfl ?_
          refine g_ialdN (j := 99) (k := 72) hC ly_72 rfl (by decide) (by decide) dX7_restore_121 ?_
          refine g_top (y := g.2.1.2.2) ((by simp [fm_up, fm_row, upd] : (fm_up (fm_up (fm_up (fm_up (fm_up (fm_up (fm_up M1 58 4 (nI (g.2.1.1 7 0))) 58 7 (nI (g.2.1.1 7 1))) 58 10 (nI (g.2.1.1 7 2))) 58 11 (nI (g.2.1.1 7 3))) 58 12 (nI (g.2.1.1 7 4))) 58 13 (nI (g.2.1.1 7 5))) 58 14 (nI (g.2.1.1 7 6))) 72 99 = M1 72 99).trans ((congrFun (m2 72 (by omega)) 99).trans u7)) ?_
          refine g_putI (ci := 7) (i := 15) (k := 58) hC fm_in7 tyX7 tyX7_ok nmX7 rfl ly_58 rfl (by decide) fw_635 rfl rfl rfl dX7_restore_122 ?_
          refine g_aload_n hC dX7_restore_125 rfl 0 rfl ?_
          refine g_aload_n hC dX7_restore_126 rfl 0 rfl ?_
          refine g_getR (ci := 7) (i := 27) (k := 58) (t := 72) hC fm_in7 rfl ly_58 rfl (by decide) fw_647 dX7_restore_127 ?_
          refine g_bipush (v := 100) hC dX7_restore_130 rfl ?_
          refine g_ialdN (j := 100) (k := 72) hC ly_72 rfl (by decide) (by decide) dX7_restore_132 ?_
          refine g_top (y := nI (g.2.1.1 7 7)) ((by simp [fm_up, fm_row, upd] : (fm_up (fm_up (fm_up (fm_up (fm_up (fm_up (fm_up (fm_up M1 58 4 (nI (g.2.1.1 7 0))) 58 7 (nI (g.2.1.1 7 1))) 58 10 (nI (g.2.1.1 7 2))) 58 11 (nI (g.2.1.1 7 3))) 58 12 (nI (g.2.1.1 7 4))) 58 13 (nI (g.2.1.1 7 5))) 58 14 (nI (g.2.1.1 7 6))) 58 15 g.2.1.2.2) 72 100 = M1 72 100).trans ((congrFun (m2 72 (by omega)) 100).trans u8)) ?_
          refine g_putI (ci := 7) (i := 16) (k := 58) hC fm_in7 tyX7 tyX7_ok nmX7 rfl ly_58 rfl (by decide) fw_636 rfl rfl rfl dX7_restore_133 ?_
          refine g_iconst (v := 1) hC dX7_restore_136 rfl ?_
          refine g_zret (ty := .int) hC rfl rfl dX7_restore_137 ?_
          have ei : i = 92 := by omega
          subst ei
          have e0 : op_restore g = (1, (g.2.1, g.2)) := by unfold op_restore; rw [if_pos (by omega)]
          have Y : ∀ q, q ≠ 58 → fm_up (fm_up (fm_up (fm_up (fm_up (fm_up (fm_up (fm_up (fm_up M1 58 4 (nI (g.2.1.1 7 0))) 58 7 (nI (g.2.1.1 7 1))) 58 10 (nI (g.2.1.1 7 2))) 58 11 (nI (g.2.1.1 7 3))) 58 12 (nI (g.2.1.1 7 4))) 58 13 (nI (g.2.1.1 7 5))) 58 14 (nI (g.2.1.1 7 6))) 58 15 g.2.1.2.2) 58 16 (nI (g.2.1.1 7 7)) q = M1 q := fun q q1 => by rw [fm_upn q1, fm_upn q1, fm_upn q1, fm_upn q1, fm_upn q1, fm_upn q1, fm_upn q1, fm_upn q1, fm_upn q1]
          have Z : ∀ i, 17 ≤ i → fm_up (fm_up (fm_up (fm_up (fm_up (fm_up (fm_up (fm_up (fm_up M1 58 4 (nI (g.2.1.1 7 0))) 58 7 (nI (g.2.1.1 7 1))) 58 10 (nI (g.2.1.1 7 2))) 58 11 (nI (g.2.1.1 7 3))) 58 12 (nI (g.2.1.1 7 4))) 58 13 (nI (g.2.1.1 7 5))) 58 14 (nI (g.2.1.1 7 6))) 58 15 g.2.1.2.2) 58 16 (nI (g.2.1.1 7 7)) 58 i = M 58 i := fun i hi => by rw [fm_upx (by omega), fm_upx (by omega), fm_upx (by omega), fm_upx (by omega), fm_upx (by omega), fm_upx (by omega), fm_upx (by omega), fm_upx (by omega), fm_upx (by omega), m2 58 (by omega)]
          refine ⟨_, rfl, by rw [e0], ?_, fun q hq => ⟨by rw [Y q (by omega)]; exact m2 q (by omega), rfl⟩⟩
          rw [e0]
          refine RS_now hS (t := g.2.1) ⟨fun j hj => ?_, fun j hj => ?_, fun j hj => ?_, ?_, ?_, ?_, ?_, ?_, ?_, ?_, ?_, ?_⟩ (fun i i1 _ _ _ => Z i i1) (fun k hk => by rw [Y k (by omega)]; exact m2 k (by omega)) rfl
          · have hj : j < g.2.1.1 7 0 := hj
            rw [Y 59 (by decide), Y 60 (by decide), Y 61 (by decide), Y 62 (by decide)]
            have w0 := cv_8 M1 (j := j) (r := 0) (by omega) (by omega)
            have w1 := cv_8 M1 (j := j) (r := 1) (by omega) (by omega)
            have w2 := cv_8 M1 (j := j) (r := 2) (by omega) (by omega)
            have w3 := cv_8 M1 (j := j) (r := 3) (by omega) (by omega)
            rw [show 8 * 0 + j = j by omega, m3 j (by omega)] at w0
            rw [m3 _ (by omega)] at w1 w2 w3
            exact ⟨w0.symm.trans (k1 j hj).1, w1.symm.trans (k1 j hj).2.1, w2.symm.trans (k1 j hj).2.2.1, w3.symm.trans (k1 j hj).2.2.2⟩
          · have hj : j < g.2.1.1 7 1 := hj
            rw [Y 63 (by decide), Y 64 (by decide)]
            have w0 := cv_6 M1 (j := j) (r := 0) (by omega) (by omega)
            have w1 := cv_6 M1 (j := j) (r := 1) (by omega) (by omega)
            rw [m3 _ (by omega)] at w0 w1
            exact ⟨w0.symm.trans (k2 j hj).1, w1.symm.trans (k2 j hj).2⟩
          · rw [Y 65 (by decide), Y 66 (by decide)]
            have w0 := cv_24 M1 (j := j) (r := 0) (by omega) (by omega)
            have w1 := cv_24 M1 (j := j) (r := 1) (by omega) (by omega)
            rw [m3 _ (by omega)] at w0 w1
            exact ⟨w0.symm.trans (k3 j hj).1, w1.symm.trans (k3 j hj).2⟩
          · simp [fm_up, fm_row, upd]
          · simp [fm_up, fm_row, upd]
          · simp [fm_up, fm_row, upd]
          · simp [fm_up, fm_row, upd]
          · simp [fm_up, fm_row, upd]
          · simp [fm_up, fm_row, upd]
          · simp [fm_up, fm_row, upd]
          · simp [fm_up, fm_row, upd]
          · simp [fm_up, fm_row, upd]
        · skip
          refine g_aload_n hC dX7_restore_18 rfl 0 rfl ?_
          refine g_iload_n hC dX7_restore_19 rfl 1 rfl ?_
          refine g_aload_n hC dX7_restore_20 rfl 0 rfl ?_
          refine g_getR (ci := 7) (i := 27) (k := 58) (t := 72) hC fm_in7 rfl ly_58 rfl (by decide) fw_647 dX7_restore_21 ?_
          refine g_iload_n hC dX7_restore_24 rfl 1 rfl ?_
          refine g_ialdN (j := i) (k := 72) hC ly_72 rfl (by omega) (by decide) dX7_restore_25 ?_
          refine g_iconst (v := 1) hC dX7_restore_26 rfl ?_
          refine g_callV hC (k := 58) (ci := 7) (as := [.int (nI i), .int (M1 72 i), .int 1]) (rest := []) (c_X7_carried_w l D cA b M1 L i (M1 72 i) (by omega)) ⟨fw_942, fw_944, fs_34, fw_9, fw_945⟩ ⟨rfl, hd_X7_carried⟩ rfl ly_58 ⟨Nat.le_of_ble_eq_true rfl, Nat.le_of_ble_eq_true rfl⟩ ⟨Nat.le_of_ble_eq_true rfl, Nat.le_of_ble_eq_true rfl⟩ rfl rfl (Nat.le_of_ble_eq_true rfl) dX7_restore_27 (g_rm (fun r_4 M_4 L_4 h_4 => ?_))
          obtain ⟨x1_4, x2_4⟩ := h_4
          rw [x2_4]
          refine g_pop hC dX7_restore_30 rfl ?_
          refine g_iinc hC [(1, .int (nI (i + 1))), (0, .ref (b + 58))] dX7_restore_31 1 rfl (by rw [show Int32.ofInt 1 = nI 1 from rfl, nI_add]) (by decide) rfl ?_
          refine g_goto hC 12 dX7_restore_34 rfl ?_
          exact g_sub [1, 0] rfl (ih_2 M_4 (i + 1) (by omega) (⟨by omega, fun q hq => by rw [x1_4]; have := ccl_b (i := i) (by omega); unfold wrM; rw [fm_upn (by omega)]; exact m2 q hq, fun j hj => by rw [x1_4, cv_wr (by omega) (by omega)]; by_cases e : j = i; rw [if_pos e, e, m2 72 (by omega)]; rw [if_neg e]; exact m3 j (by omega)⟩))
    exact g_sub [1, 0] rfl (lp_12_2 (92 - 0 + 1) M 0 (Nat.lt_succ_self _) (⟨by omega, fun _ _ => rfl, fun j hj => by omega⟩))
  · skip
    refine g_bipush (v := (-4)) hC dX7_restore_7 rfl ?_
    refine g_zret (ty := .int) hC rfl rfl dX7_restore_9 ?_
    have e0 : op_restore g = (-4, g) := by unfold op_restore; rw [if_neg (by omega)]
    exact ⟨_, rfl, by rw [e0], by rw [e0]; exact hS, fR_rf⟩
