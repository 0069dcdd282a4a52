/-! ===== the law: cases 0 to 8 ===== -/

theorem lc_0 {pq : Program} {l : Launch} {eq : Env} {sq : State} {mq : MethodId} {aq : Array Value} {bq : List Frame} {tq : Method} {cq : Code} {Q : State → Prop} {D : va_G} {cA : Nat → ClassId} {b bs n k : Nat} {xs : Nat → Int32} {M : Nat → Nat → Int32} {L : Nat → Nat → Int64} {g : Sg} (hC : fm_C pq sq mq aq tq cq D cA b cL_law 4 RL ret 0) (hX : va_X bs n xs sq sq.heap) (hbl : bs < sq.heap.size) (hbA : bs < b) (hn : n ≤ 3072) (hi : 6 * k + 6 ≤ n) (hS : CS M L g) (hR : RS M L g) (hok : OK g) (kk : ∀ (M' : Nat → Nat → Int32) (L' : Nat → Nat → Int64) (g' : Sg), CS M' L' g' → RS M' L' g' → OK g' → fm_G pq l eq room_1 sq mq aq bq tq cq D cA b 4 Q LAY M' L' 78 6668 1284 [(3, .int (nI (6 * k))), (2, .ref (b + 58)), (1, .ref (b + 0)), (0, .ref bs)] []) : fm_G pq l eq room_1 sq mq aq bq tq cq D cA b 4 Q LAY M L 78 6668 188 [(3, .int (nI (6 * k))), (2, .ref (b + 58)), (1, .ref (b + 0)), (0, .ref bs)] [] := by
  refine g_aload_n hC dL_law_188 rfl 2 rfl ?_
  refine g_aload_n hC dL_law_189 rfl 3 rfl ?_
  refine g_iload_n hC dL_law_190 rfl 0 rfl ?_
  refine g_iconst (v := 1) hC dL_law_191 rfl ?_
  refine g_iadd hC dL_law_192 ?_
  refine g_top (y := nI ((6 * k) + 1)) (nI_add _ _) ?_
  refine g_sld hC hX hbl hbA ((6 * k) + 1) rfl (by omega) (by omega) dL_law_193 ?_
  refine g_aload_n hC dL_law_194 rfl 3 rfl ?_
  refine g_iload_n hC dL_law_195 rfl 0 rfl ?_
  refine g_iconst (v := 2) hC dL_law_196 rfl ?_
  refine g_iadd hC dL_law_197 ?_
  refine g_top (y := nI ((6 * k) + 2)) (nI_add _ _) ?_
  refine g_sld hC hX hbl hbA ((6 * k) + 2) rfl (by omega) (by omega) dL_law_198 ?_
  refine g_aload_n hC dL_law_199 rfl 3 rfl ?_
  refine g_iload_n hC dL_law_200 rfl 0 rfl ?_
  refine g_iconst (v := 3) hC dL_law_201 rfl ?_
  refine g_iadd hC dL_law_202 ?_
  refine g_top (y := nI ((6 * k) + 3)) (nI_add _ _) ?_
  refine g_sld hC hX hbl hbA ((6 * k) + 3) rfl (by omega) (by omega) dL_law_203 ?_
  refine g_callV hC (k := 0) (ci := 6) (as := [.int (xs ((6 * k) + 1)), .int (xs ((6 * k) + 2)), .int (xs ((6 * k) + 3))]) (rest := []) (c_X6_person l D cA b M L g (xs ((6 * k) + 1)) (xs ((6 * k) + 2)) (xs ((6 * k) + 3)) hS hok) ⟨fw_221, fw_222, fw_223, fw_1, fw_224⟩ ⟨rfl, hd_X6_person⟩ rfl ly_0 ⟨Nat.le_of_ble_eq_true rfl, Nat.le_of_ble_eq_true rfl⟩ ⟨Nat.le_of_ble_eq_true rfl, Nat.le_of_ble_eq_true rfl⟩ rfl rfl (Nat.le_of_ble_eq_true rfl) dL_law_204 (g_rm (fun r_1 M_1 L_1 h_1 => ?_))
  obtain ⟨e_1, cs_1, f_1⟩ := h_1
  rw [e_1]
  have rs_1 : RS M_1 L_1 g := RS_fC hR f_1
  refine g_aload_n hC dL_law_207 rfl 1 rfl ?_
  refine g_aload_n hC dL_law_208 rfl 3 rfl ?_
  refine g_iload_n hC dL_law_209 rfl 0 rfl ?_
  refine g_iconst (v := 1) hC dL_law_210 rfl ?_
  refine g_iadd hC dL_law_211 ?_
  refine g_top (y := nI ((6 * k) + 1)) (nI_add _ _) ?_
  refine g_sld hC hX hbl hbA ((6 * k) + 1) rfl (by omega) (by omega) dL_law_212 ?_
  refine g_aload_n hC dL_law_213 rfl 3 rfl ?_
  refine g_iload_n hC dL_law_214 rfl 0 rfl ?_
  refine g_iconst (v := 2) hC dL_law_215 rfl ?_
  refine g_iadd hC dL_law_216 ?_
  refine g_top (y := nI ((6 * k) + 2)) (nI_add _ _) ?_
  refine g_sld hC hX hbl hbA ((6 * k) + 2) rfl (by omega) (by omega) dL_law_217 ?_
  refine g_aload_n hC dL_law_218 rfl 3 rfl ?_
  refine g_iload_n hC dL_law_219 rfl 0 rfl ?_
  refine g_iconst (v := 3) hC dL_law_220 rfl ?_
  refine g_iadd hC dL_law_221 ?_
  refine g_top (y := nI ((6 * k) + 3)) (nI_add _ _) ?_
  refine g_sld hC hX hbl hbA ((6 * k) + 3) rfl (by omega) (by omega) dL_law_222 ?_
  refine g_callV hC (k := 58) (ci := 7) (as := [.int (xs ((6 * k) + 1)), .int (xs ((6 * k) + 2)), .int (xs ((6 * k) + 3))]) (rest := [.int ((op_person g (xs ((6 * k) + 1)) (xs ((6 * k) + 2)) (xs ((6 * k) + 3))).1)]) (c_X7_person l D cA b M_1 L_1 g (xs ((6 * k) + 1)) (xs ((6 * k) + 2)) (xs ((6 * k) + 3)) rs_1 hok) ⟨fw_720, fw_721, fw_722, fw_9, fw_723⟩ ⟨rfl, hd_X7_person⟩ rfl ly_58 ⟨Nat.le_of_ble_eq_true rfl, Nat.le_of_ble_eq_true rfl⟩ ⟨Nat.le_of_ble_eq_true rfl, Nat.le_of_ble_eq_true rfl⟩ rfl rfl (Nat.le_of_ble_eq_true rfl) dL_law_223 (g_rm (fun r_2 M_2 L_2 h_2 => ?_))
  obtain ⟨e_2, rs_2, f_2⟩ := h_2
  rw [e_2]
  have cs_2 : CS M_2 L_2 _ := CS_fR cs_1 (ok_person hok (xs ((6 * k) + 1)) (xs ((6 * k) + 2)) (xs ((6 * k) + 3))) f_2
  refine g_icmp_eq_T (X := ((op_person g (xs ((6 * k) + 1)) (xs ((6 * k) + 2)) (xs ((6 * k) + 3))).1).toInt) (Y := ((op_person g (xs ((6 * k) + 1)) (xs ((6 * k) + 2)) (xs ((6 * k) + 3))).1).toInt) hC rfl rfl 1284 dL_law_226 rfl (fun _ => ?_) (fun c_3 => absurd rfl c_3)
  exact kk _ _ _ cs_2 rs_2 (ok_person hok (xs ((6 * k) + 1)) (xs ((6 * k) + 2)) (xs ((6 * k) + 3)))

theorem lc_1 {pq : Program} {l : Launch} {eq : Env} {sq : State} {mq : MethodId} {aq : Array Value} {bq : List Frame} {tq : Method} {cq : Code} {Q : State → Prop} {D : va_G} {cA : Nat → ClassId} {b bs n k : Nat} {xs : Nat → Int32} {M : Nat → Nat → Int32} {L : Nat → Nat → Int64} {g : Sg} (hC : fm_C pq sq mq aq tq cq D cA b cL_law 4 RL ret 0) (hX : va_X bs n xs sq sq.heap) (hbl : bs < sq.heap.size) (hbA : bs < b) (hn : n ≤ 3072) (hi : 6 * k + 6 ≤ n) (hS : CS M L g) (hR : RS M L g) (hok : OK g) (kk : ∀ (M' : Nat → Nat → Int32) (L' : Nat → Nat → Int64) (g' : Sg), CS M' L' g' → RS M' L' g' → OK g' → fm_G pq l eq room_1 sq mq aq bq tq cq D cA b 4 Q LAY M' L' 78 6668 1284 [(3, .int (nI (6 * k))), (2, .ref (b + 58)), (1, .ref (b + 0)), (0, .ref bs)] []) : fm_G pq l eq room_1 sq mq aq bq tq cq D cA b 4 Q LAY M L 78 6668 231 [(3, .int (nI (6 * k))), (2, .ref (b + 58)), (1, .ref (b + 0)), (0, .ref bs)] [] := by
  refine g_aload_n hC dL_law_231 rfl 2 rfl ?_
  refine g_aload_n hC dL_law_232 rfl 3 rfl ?_
  refine g_iload_n hC dL_law_233 rfl 0 rfl ?_
  refine g_iconst (v := 1) hC dL_law_234 rfl ?_
  refine g_iadd hC dL_law_235 ?_
  refine g_top (y := nI ((6 * k) + 1)) (nI_add _ _) ?_
  refine g_sld hC hX hbl hbA ((6 * k) + 1) rfl (by omega) (by omega) dL_law_236 ?_
  refine g_aload_n hC dL_law_237 rfl 3 rfl ?_
  refine g_iload_n hC dL_law_238 rfl 0 rfl ?_
  refine g_iconst (v := 2) hC dL_law_239 rfl ?_
  refine g_iadd hC dL_law_240 ?_
  refine g_top (y := nI ((6 * k) + 2)) (nI_add _ _) ?_
  refine g_sld hC hX hbl hbA ((6 * k) + 2) rfl (by omega) (by omega) dL_law_241 ?_
  refine g_callV hC (k := 0) (ci := 6) (as := [.int (xs ((6 * k) + 1)), .int (xs ((6 * k) + 2))]) (rest := []) (c_X6_may l D cA b M L g (xs ((6 * k) + 1)) (xs ((6 * k) + 2)) hS hok) ⟨fw_235, fw_236, fw_237, fw_1, fw_238⟩ ⟨rfl, hd_X6_may⟩ rfl ly_0 ⟨Nat.le_of_ble_eq_true rfl, Nat.le_of_ble_eq_true rfl⟩ ⟨Nat.le_of_ble_eq_true rfl, Nat.le_of_ble_eq_true rfl⟩ rfl rfl (Nat.le_of_ble_eq_true rfl) dL_law_242 (g_rm (fun r_1 M_1 L_1 h_1 => ?_))
  obtain ⟨e_1, cs_1, f_1⟩ := h_1
  rw [e_1]
  have rs_1 : RS M_1 L_1 g := RS_fC hR f_1
  refine g_aload_n hC dL_law_245 rfl 1 rfl ?_
  refine g_aload_n hC dL_law_246 rfl 3 rfl ?_
  refine g_iload_n hC dL_law_247 rfl 0 rfl ?_
  refine g_iconst (v := 1) hC dL_law_248 rfl ?_
  refine g_iadd hC dL_law_249 ?_
  refine g_top (y := nI ((6 * k) + 1)) (nI_add _ _) ?_
  refine g_sld hC hX hbl hbA ((6 * k) + 1) rfl (by omega) (by omega) dL_law_250 ?_
  refine g_aload_n hC dL_law_251 rfl 3 rfl ?_
  refine g_iload_n hC dL_law_252 rfl 0 rfl ?_
  refine g_iconst (v := 2) hC dL_law_253 rfl ?_
  refine g_iadd hC dL_law_254 ?_
  refine g_top (y := nI ((6 * k) + 2)) (nI_add _ _) ?_
  refine g_sld hC hX hbl hbA ((6 * k) + 2) rfl (by omega) (by omega) dL_law_255 ?_
  refine g_callV hC (k := 58) (ci := 7) (as := [.int (xs ((6 * k) + 1)), .int (xs ((6 * k) + 2))]) (rest := [.int ((op_may g (xs ((6 * k) + 1)) (xs ((6 * k) + 2))).1)]) (c_X7_may l D cA b M_1 L_1 g (xs ((6 * k) + 1)) (xs ((6 * k) + 2)) rs_1 hok) ⟨fw_737, fw_738, fw_739, fw_9, fw_740⟩ ⟨rfl, hd_X7_may⟩ rfl ly_58 ⟨Nat.le_of_ble_eq_true rfl, Nat.le_of_ble_eq_true rfl⟩ ⟨Nat.le_of_ble_eq_true rfl, Nat.le_of_ble_eq_true rfl⟩ rfl rfl (Nat.le_of_ble_eq_true rfl) dL_law_256 (g_rm (fun r_2 M_2 L_2 h_2 => ?_))
  obtain ⟨e_2, rs_2, f_2⟩ := h_2
  rw [e_2]
  have cs_2 : CS M_2 L_2 _ := CS_fR cs_1 (ok_may hok (xs ((6 * k) + 1)) (xs ((6 * k) + 2))) f_2
  refine g_icmp_eq_T (X := ((op_may g (xs ((6 * k) + 1)) (xs ((6 * k) + 2))).1).toInt) (Y := ((op_may g (xs ((6 * k) + 1)) (xs ((6 * k) + 2))).1).toInt) hC rfl rfl 1284 dL_law_259 rfl (fun _ => ?_) (fun c_3 => absurd rfl c_3)
  exact kk _ _ _ cs_2 rs_2 (ok_may hok (xs ((6 * k) + 1)) (xs ((6 * k) + 2)))

theorem lc_2 {pq : Program} {l : Launch} {eq : Env} {sq : State} {mq : MethodId} {aq : Array Value} {bq : List Frame} {tq : Method} {cq : Code} {Q : State → Prop} {D : va_G} {cA : Nat → ClassId} {b bs n k : Nat} {xs : Nat → Int32} {M : Nat → Nat → Int32} {L : Nat → Nat → Int64} {g : Sg} (hC : fm_C pq sq mq aq tq cq D cA b cL_law 4 RL ret 0) (hX : va_X bs n xs sq sq.heap) (hbl : bs < sq.heap.size) (hbA : bs < b) (hn : n ≤ 3072) (hi : 6 * k + 6 ≤ n) (hS : CS M L g) (hR : RS M L g) (hok : OK g) (kk : ∀ (M' : Nat → Nat → Int32) (L' : Nat → Nat → Int64) (g' : Sg), CS M' L' g' → RS M' L' g' → OK g' → fm_G pq l eq room_1 sq mq aq bq tq cq D cA b 4 Q LAY M' L' 78 6668 1284 [(3, .int (nI (6 * k))), (2, .ref (b + 58)), (1, .ref (b + 0)), (0, .ref bs)] []) : fm_G pq l eq room_1 sq mq aq bq tq cq D cA b 4 Q LAY M L 78 6668 264 [(3, .int (nI (6 * k))), (2, .ref (b + 58)), (1, .ref (b + 0)), (0, .ref bs)] [] := by
  refine g_aload_n hC dL_law_264 rfl 2 rfl ?_
  refine g_aload_n hC dL_law_265 rfl 3 rfl ?_
  refine g_iload_n hC dL_law_266 rfl 0 rfl ?_
  refine g_iconst (v := 1) hC dL_law_267 rfl ?_
  refine g_iadd hC dL_law_268 ?_
  refine g_top (y := nI ((6 * k) + 1)) (nI_add _ _) ?_
  refine g_sld hC hX hbl hbA ((6 * k) + 1) rfl (by omega) (by omega) dL_law_269 ?_
  refine g_aload_n hC dL_law_270 rfl 3 rfl ?_
  refine g_iload_n hC dL_law_271 rfl 0 rfl ?_
  refine g_iconst (v := 2) hC dL_law_272 rfl ?_
  refine g_iadd hC dL_law_273 ?_
  refine g_top (y := nI ((6 * k) + 2)) (nI_add _ _) ?_
  refine g_sld hC hX hbl hbA ((6 * k) + 2) rfl (by omega) (by omega) dL_law_274 ?_
  refine g_callV hC (k := 0) (ci := 6) (as := [.int (xs ((6 * k) + 1)), .int (xs ((6 * k) + 2))]) (rest := []) (c_X6_told l D cA b M L g (xs ((6 * k) + 1)) (xs ((6 * k) + 2)) hS hok) ⟨fw_243, fw_244, fw_245, fw_1, fw_246⟩ ⟨rfl, hd_X6_told⟩ rfl ly_0 ⟨Nat.le_of_ble_eq_true rfl, Nat.le_of_ble_eq_true rfl⟩ ⟨Nat.le_of_ble_eq_true rfl, Nat.le_of_ble_eq_true rfl⟩ rfl rfl (Nat.le_of_ble_eq_true rfl) dL_law_275 (g_rix ?_)
  skip
  refine g_aload_n hC dL_law_278 rfl 1 rfl ?_
  refine g_aload_n hC dL_law_279 rfl 3 rfl ?_
  refine g_iload_n hC dL_law_280 rfl 0 rfl ?_
  refine g_iconst (v := 1) hC dL_law_281 rfl ?_
  refine g_iadd hC dL_law_282 ?_
  refine g_top (y := nI ((6 * k) + 1)) (nI_add _ _) ?_
  refine g_sld hC hX hbl hbA ((6 * k) + 1) rfl (by omega) (by omega) dL_law_283 ?_
  refine g_aload_n hC dL_law_284 rfl 3 rfl ?_
  refine g_iload_n hC dL_law_285 rfl 0 rfl ?_
  refine g_iconst (v := 2) hC dL_law_286 rfl ?_
  refine g_iadd hC dL_law_287 ?_
  refine g_top (y := nI ((6 * k) + 2)) (nI_add _ _) ?_
  refine g_sld hC hX hbl hbA ((6 * k) + 2) rfl (by omega) (by omega) dL_law_288 ?_
  refine g_callV hC (k := 58) (ci := 7) (as := [.int (xs ((6 * k) + 1)), .int (xs ((6 * k) + 2))]) (rest := [.int (op_told g (xs ((6 * k) + 1)) (xs ((6 * k) + 2)))]) (c_X7_told l D cA b M L g (xs ((6 * k) + 1)) (xs ((6 * k) + 2)) hR hok) ⟨fw_745, fw_746, fw_747, fw_9, fw_748⟩ ⟨rfl, hd_X7_told⟩ rfl ly_58 ⟨Nat.le_of_ble_eq_true rfl, Nat.le_of_ble_eq_true rfl⟩ ⟨Nat.le_of_ble_eq_true rfl, Nat.le_of_ble_eq_true rfl⟩ rfl rfl (Nat.le_of_ble_eq_true rfl) dL_law_289 (g_rix ?_)
  skip
  refine g_icmp_eq_T (X := (op_told g (xs ((6 * k) + 1)) (xs ((6 * k) + 2))).toInt) (Y := (op_told g (xs ((6 * k) + 1)) (xs ((6 * k) + 2))).toInt) hC rfl rfl 1284 dL_law_292 rfl (fun _ => ?_) (fun c_3 => absurd rfl c_3)
  exact kk _ _ _ hS hR hok

theorem lc_3 {pq : Program} {l : Launch} {eq : Env} {sq : State} {mq : MethodId} {aq : Array Value} {bq : List Frame} {tq : Method} {cq : Code} {Q : State → Prop} {D : va_G} {cA : Nat → ClassId} {b bs n k : Nat} {xs : Nat → Int32} {M : Nat → Nat → Int32} {L : Nat → Nat → Int64} {g : Sg} (hC : fm_C pq sq mq aq tq cq D cA b cL_law 4 RL ret 0) (hX : va_X bs n xs sq sq.heap) (hbl : bs < sq.heap.size) (hbA : bs < b) (hn : n ≤ 3072) (hi : 6 * k + 6 ≤ n) (hS : CS M L g) (hR : RS M L g) (hok : OK g) (kk : ∀ (M' : Nat → Nat → Int32) (L' : Nat → Nat → Int64) (g' : Sg), CS M' L' g' → RS M' L' g' → OK g' → fm_G pq l eq room_1 sq mq aq bq tq cq D cA b 4 Q LAY M' L' 78 6668 1284 [(3, .int (nI (6 * k))), (2, .ref (b + 58)), (1, .ref (b + 0)), (0, .ref bs)] []) : fm_G pq l eq room_1 sq mq aq bq tq cq D cA b 4 Q LAY M L 78 6668 297 [(3, .int (nI (6 * k))), (2, .ref (b + 58)), (1, .ref (b + 0)), (0, .ref bs)] [] := by
  refine g_aload_n hC dL_law_297 rfl 2 rfl ?_
  refine g_aload_n hC dL_law_298 rfl 3 rfl ?_
  refine g_iload_n hC dL_law_299 rfl 0 rfl ?_
  refine g_iconst (v := 1) hC dL_law_300 rfl ?_
  refine g_iadd hC dL_law_301 ?_
  refine g_top (y := nI ((6 * k) + 1)) (nI_add _ _) ?_
  refine g_sld hC hX hbl hbA ((6 * k) + 1) rfl (by omega) (by omega) dL_law_302 ?_
  refine g_aload_n hC dL_law_303 rfl 3 rfl ?_
  refine g_iload_n hC dL_law_304 rfl 0 rfl ?_
  refine g_iconst (v := 2) hC dL_law_305 rfl ?_
  refine g_iadd hC dL_law_306 ?_
  refine g_top (y := nI ((6 * k) + 2)) (nI_add _ _) ?_
  refine g_sld hC hX hbl hbA ((6 * k) + 2) rfl (by omega) (by omega) dL_law_307 ?_
  refine g_aload_n hC dL_law_308 rfl 3 rfl ?_
  refine g_iload_n hC dL_law_309 rfl 0 rfl ?_
  refine g_iconst (v := 3) hC dL_law_310 rfl ?_
  refine g_iadd hC dL_law_311 ?_
  refine g_top (y := nI ((6 * k) + 3)) (nI_add _ _) ?_
  refine g_sld hC hX hbl hbA ((6 * k) + 3) rfl (by omega) (by omega) dL_law_312 ?_
  refine g_callV hC (k := 0) (ci := 6) (as := [.int (xs ((6 * k) + 1)), .int (xs ((6 * k) + 2)), .int (xs ((6 * k) + 3))]) (rest := []) (c_X6_worth l D cA b M L g (xs ((6 * k) + 1)) (xs ((6 * k) + 2)) (xs ((6 * k) + 3)) hS hok) ⟨fw_247, fw_248, fw_249, fw_1, fw_250⟩ ⟨rfl, hd_X6_worth⟩ rfl ly_0 ⟨Nat.le_of_ble_eq_true rfl, Nat.le_of_ble_eq_true rfl⟩ ⟨Nat.le_of_ble_eq_true rfl, Nat.le_of_ble_eq_true rfl⟩ rfl rfl (Nat.le_of_ble_eq_true rfl) dL_law_313 (g_rix ?_)
  skip
  refine g_aload_n hC dL_law_316 rfl 1 rfl ?_
  refine g_aload_n hC dL_law_317 rfl 3 rfl ?_
  refine g_iload_n hC dL_law_318 rfl 0 rfl ?_
  refine g_iconst (v := 1) hC dL_law_319 rfl ?_
  refine g_iadd hC dL_law_320 ?_
  refine g_top (y := nI ((6 * k) + 1)) (nI_add _ _) ?_
  refine g_sld hC hX hbl hbA ((6 * k) + 1) rfl (by omega) (by omega) dL_law_321 ?_
  refine g_aload_n hC dL_law_322 rfl 3 rfl ?_
  refine g_iload_n hC dL_law_323 rfl 0 rfl ?_
  refine g_iconst (v := 2) hC dL_law_324 rfl ?_
  refine g_iadd hC dL_law_325 ?_
  refine g_top (y := nI ((6 * k) + 2)) (nI_add _ _) ?_
  refine g_sld hC hX hbl hbA ((6 * k) + 2) rfl (by omega) (by omega) dL_law_326 ?_
  refine g_aload_n hC dL_law_327 rfl 3 rfl ?_
  refine g_iload_n hC dL_law_328 rfl 0 rfl ?_
  refine g_iconst (v := 3) hC dL_law_329 rfl ?_
  refine g_iadd hC dL_law_330 ?_
  refine g_top (y := nI ((6 * k) + 3)) (nI_add _ _) ?_
  refine g_sld hC hX hbl hbA ((6 * k) + 3) rfl (by omega) (by omega) dL_law_331 ?_
  refine g_callV hC (k := 58) (ci := 7) (as := [.int (xs ((6 * k) + 1)), .int (xs ((6 * k) + 2)), .int (xs ((6 * k) + 3))]) (rest := [.int (op_worth g (xs ((6 * k) + 1)) (xs ((6 * k) + 2)) (xs ((6 * k) + 3)))]) (c_X7_worth l D cA b M L g (xs ((6 * k) + 1)) (xs ((6 * k) + 2)) (xs ((6 * k) + 3)) hR hok) ⟨fw_749, fw_750, fw_751, fw_9, fw_752⟩ ⟨rfl, hd_X7_worth⟩ rfl ly_58 ⟨Nat.le_of_ble_eq_true rfl, Nat.le_of_ble_eq_true rfl⟩ ⟨Nat.le_of_ble_eq_true rfl, Nat.le_of_ble_eq_true rfl⟩ rfl rfl (Nat.le_of_ble_eq_true rfl) dL_law_332 (g_rix ?_)
  skip
  refine g_icmp_eq_T (X := (op_worth g (xs ((6 * k) + 1)) (xs ((6 * k) + 2)) (xs ((6 * k) + 3))).toInt) (Y := (op_worth g (xs ((6 * k) + 1)) (xs ((6 * k) + 2)) (xs ((6 * k) + 3))).toInt) hC rfl rfl 1284 dL_law_335 rfl (fun _ => ?_) (fun c_3 => absurd rfl c_3)
  exact kk _ _ _ hS hR hok

theorem lc_4 {pq : Program} {l : Launch} {eq : Env} {sq : State} {mq : MethodId} {aq : Array Value} {bq : List Frame} {tq : Method} {cq : Code} {Q : State → Prop} {D : va_G} {cA : Nat → ClassId} {b bs n k : Nat} {xs : Nat → Int32} {M : Nat → Nat → Int32} {L : Nat → Nat → Int64} {g : Sg} (hC : fm_C pq sq mq aq tq cq D cA b cL_law 4 RL ret 0) (hX : va_X bs n xs sq sq.heap) (hbl : bs < sq.heap.size) (hbA : bs < b) (hn : n ≤ 3072) (hi : 6 * k + 6 ≤ n) (hS : CS M L g) (hR : RS M L g) (hok : OK g) (kk : ∀ (M' : Nat → Nat → Int32) (L' : Nat → Nat → Int64) (g' : Sg), CS M' L' g' → RS M' L' g' → OK g' → fm_G pq l eq room_1 sq mq aq bq tq cq D cA b 4 Q LAY M' L' 78 6668 1284 [(3, .int (nI (6 * k))), (2, .ref (b + 58)), (1, .ref (b + 0)), (0, .ref bs)] []) : fm_G pq l eq room_1 sq mq aq bq tq cq D cA b 4 Q LAY M L 78 6668 340 [(3, .int (nI (6 * k))), (2, .ref (b + 58)), (1, .ref (b + 0)), (0, .ref bs)] [] := by
  refine g_aload_n hC dL_law_340 rfl 2 rfl ?_
  refine g_aload_n hC dL_law_341 rfl 3 rfl ?_
  refine g_iload_n hC dL_law_342 rfl 0 rfl ?_
  refine g_iconst (v := 1) hC dL_law_343 rfl ?_
  refine g_iadd hC dL_law_344 ?_
  refine g_top (y := nI ((6 * k) + 1)) (nI_add _ _) ?_
  refine g_sld hC hX hbl hbA ((6 * k) + 1) rfl (by omega) (by omega) dL_law_345 ?_
  refine g_aload_n hC dL_law_346 rfl 3 rfl ?_
  refine g_iload_n hC dL_law_347 rfl 0 rfl ?_
  refine g_iconst (v := 2) hC dL_law_348 rfl ?_
  refine g_iadd hC dL_law_349 ?_
  refine g_top (y := nI ((6 * k) + 2)) (nI_add _ _) ?_
  refine g_sld hC hX hbl hbA ((6 * k) + 2) rfl (by omega) (by omega) dL_law_350 ?_
  refine g_callV hC (k := 0) (ci := 6) (as := [.int (xs ((6 * k) + 1)), .int (xs ((6 * k) + 2))]) (rest := []) (c_X6_train l D cA b M L g (xs ((6 * k) + 1)) (xs ((6 * k) + 2)) hS hok) ⟨fw_271, fw_272, fw_273, fw_1, fw_274⟩ ⟨rfl, hd_X6_train⟩ rfl ly_0 ⟨Nat.le_of_ble_eq_true rfl, Nat.le_of_ble_eq_true rfl⟩ ⟨Nat.le_of_ble_eq_true rfl, Nat.le_of_ble_eq_true rfl⟩ rfl rfl (Nat.le_of_ble_eq_true rfl) dL_law_351 (g_rm (fun r_1 M_1 L_1 h_1 => ?_))
  obtain ⟨e_1, cs_1, f_1⟩ := h_1
  rw [e_1]
  have rs_1 : RS M_1 L_1 g := RS_fC hR f_1
  refine g_aload_n hC dL_law_354 rfl 1 rfl ?_
  refine g_aload_n hC dL_law_355 rfl 3 rfl ?_
  refine g_iload_n hC dL_law_356 rfl 0 rfl ?_
  refine g_iconst (v := 1) hC dL_law_357 rfl ?_
  refine g_iadd hC dL_law_358 ?_
  refine g_top (y := nI ((6 * k) + 1)) (nI_add _ _) ?_
  refine g_sld hC hX hbl hbA ((6 * k) + 1) rfl (by omega) (by omega) dL_law_359 ?_
  refine g_aload_n hC dL_law_360 rfl 3 rfl ?_
  refine g_iload_n hC dL_law_361 rfl 0 rfl ?_
  refine g_iconst (v := 2) hC dL_law_362 rfl ?_
  refine g_iadd hC dL_law_363 ?_
  refine g_top (y := nI ((6 * k) + 2)) (nI_add _ _) ?_
  refine g_sld hC hX hbl hbA ((6 * k) + 2) rfl (by omega) (by omega) dL_law_364 ?_
  refine g_callV hC (k := 58) (ci := 7) (as := [.int (xs ((6 * k) + 1)), .int (xs ((6 * k) + 2))]) (rest := [.int ((op_train g (xs ((6 * k) + 1)) (xs ((6 * k) + 2))).1)]) (c_X7_train l D cA b M_1 L_1 g (xs ((6 * k) + 1)) (xs ((6 * k) + 2)) rs_1 hok) ⟨fw_761, fw_762, fw_763, fw_9, fw_764⟩ ⟨rfl, hd_X7_train⟩ rfl ly_58 ⟨Nat.le_of_ble_eq_true rfl, Nat.le_of_ble_eq_true rfl⟩ ⟨Nat.le_of_ble_eq_true rfl, Nat.le_of_ble_eq_true rfl⟩ rfl rfl (Nat.le_of_ble_eq_true rfl) dL_law_365 (g_rm (fun r_2 M_2 L_2 h_2 => ?_))
  obtain ⟨e_2, rs_2, f_2⟩ := h_2
  rw [e_2]
  have cs_2 : CS M_2 L_2 _ := CS_fR cs_1 (ok_train hok (xs ((6 * k) + 1)) (xs ((6 * k) + 2))) f_2
  refine g_icmp_eq_T (X := ((op_train g (xs ((6 * k) + 1)) (xs ((6 * k) + 2))).1).toInt) (Y := ((op_train g (xs ((6 * k) + 1)) (xs ((6 * k) + 2))).1).toInt) hC rfl rfl 1284 dL_law_368 rfl (fun _ => ?_) (fun c_3 => absurd rfl c_3)
  exact kk _ _ _ cs_2 rs_2 (ok_train hok (xs ((6 * k) + 1)) (xs ((6 * k) + 2)))

theorem lc_5 {pq : Program} {l : Launch} {eq : Env} {sq : State} {mq : MethodId} {aq : Array Value} {bq : List Frame} {tq : Method} {cq : Code} {Q : State → Prop} {D : va_G} {cA : Nat → ClassId} {b bs n k : Nat} {xs : Nat → Int32} {M : Nat → Nat → Int32} {L : Nat → Nat → Int64} {g : Sg} (hC : fm_C pq sq mq aq tq cq D cA b cL_law 4 RL ret 0) (hX : va_X bs n xs sq sq.heap) (hbl : bs < sq.heap.size) (hbA : bs < b) (hn : n ≤ 3072) (hi : 6 * k + 6 ≤ n) (hS : CS M L g) (hR : RS M L g) (hok : OK g) (kk : ∀ (M' : Nat → Nat → Int32) (L' : Nat → Nat → Int64) (g' : Sg), CS M' L' g' → RS M' L' g' → OK g' → fm_G pq l eq room_1 sq mq aq bq tq cq D cA b 4 Q LAY M' L' 78 6668 1284 [(3, .int (nI (6 * k))), (2, .ref (b + 58)), (1, .ref (b + 0)), (0, .ref bs)] []) : fm_G pq l eq room_1 sq mq aq bq tq cq D cA b 4 Q LAY M L 78 6668 373 [(3, .int (nI (6 * k))), (2, .ref (b + 58)), (1, .ref (b + 0)), (0, .ref bs)] [] := by
  refine g_aload_n hC dL_law_373 rfl 2 rfl ?_
  refine g_callV hC (k := 0) (ci := 6) (as := []) (rest := []) (c_X6_strike l D cA b M L g hS hok) ⟨fw_275, fw_276, fw_277, fw_1, fw_278⟩ ⟨rfl, hd_X6_strike⟩ rfl ly_0 ⟨Nat.le_of_ble_eq_true rfl, Nat.le_of_ble_eq_true rfl⟩ ⟨Nat.le_of_ble_eq_true rfl, Nat.le_of_ble_eq_true rfl⟩ rfl rfl (Nat.le_of_ble_eq_true rfl) dL_law_374 (g_rm (fun r_1 M_1 L_1 h_1 => ?_))
  obtain ⟨e_1, cs_1, f_1⟩ := h_1
  rw [e_1]
  have rs_1 : RS M_1 L_1 g := RS_fC hR f_1
  refine g_aload_n hC dL_law_377 rfl 1 rfl ?_
  refine g_callV hC (k := 58) (ci := 7) (as := []) (rest := [.int ((op_strike g).1)]) (c_X7_strike l D cA b M_1 L_1 g rs_1 hok) ⟨fw_765, fw_766, fw_767, fw_9, fw_768⟩ ⟨rfl, hd_X7_strike⟩ rfl ly_58 ⟨Nat.le_of_ble_eq_true rfl, Nat.le_of_ble_eq_true rfl⟩ ⟨Nat.le_of_ble_eq_true rfl, Nat.le_of_ble_eq_true rfl⟩ rfl rfl (Nat.le_of_ble_eq_true rfl) dL_law_378 (g_rm (fun r_2 M_2 L_2 h_2 => ?_))
  obtain ⟨e_2, rs_2, f_2⟩ := h_2
  rw [e_2]
  have cs_2 : CS M_2 L_2 _ := CS_fR cs_1 (ok_strike hok) f_2
  refine g_icmp_eq_T (X := ((op_strike g).1).toInt) (Y := ((op_strike g).1).toInt) hC rfl rfl 1284 dL_law_381 rfl (fun _ => ?_) (fun c_3 => absurd rfl c_3)
  exact kk _ _ _ cs_2 rs_2 (ok_strike hok)

theorem lc_6 {pq : Program} {l : Launch} {eq : Env} {sq : State} {mq : MethodId} {aq : Array Value} {bq : List Frame} {tq : Method} {cq : Code} {Q : State → Prop} {D : va_G} {cA : Nat → ClassId} {b bs n k : Nat} {xs : Nat → Int32} {M : Nat → Nat → Int32} {L : Nat → Nat → Int64} {g : Sg} (hC : fm_C pq sq mq aq tq cq D cA b cL_law 4 RL ret 0) (hX : va_X bs n xs sq sq.heap) (hbl : bs < sq.heap.size) (hbA : bs < b) (hn : n ≤ 3072) (hi : 6 * k + 6 ≤ n) (hS : CS M L g) (hR : RS M L g) (hok : OK g) (kk : ∀ (M' : Nat → Nat → Int32) (L' : Nat → Nat → Int64) (g' : Sg), CS M' L' g' → RS M' L' g' → OK g' → fm_G pq l eq room_1 sq mq aq bq tq cq D cA b 4 Q LAY M' L' 78 6668 1284 [(3, .int (nI (6 * k))), (2, .ref (b + 58)), (1, .ref (b + 0)), (0, .ref bs)] []) : fm_G pq l eq room_1 sq mq aq bq tq cq D cA b 4 Q LAY M L 78 6668 386 [(3, .int (nI (6 * k))), (2, .ref (b + 58)), (1, .ref (b + 0)), (0, .ref bs)] [] := by
  refine g_aload_n hC dL_law_386 rfl 2 rfl ?_
  refine g_aload_n hC dL_law_387 rfl 3 rfl ?_
  refine g_iload_n hC dL_law_388 rfl 0 rfl ?_
  refine g_iconst (v := 1) hC dL_law_389 rfl ?_
  refine g_iadd hC dL_law_390 ?_
  refine g_top (y := nI ((6 * k) + 1)) (nI_add _ _) ?_
  refine g_sld hC hX hbl hbA ((6 * k) + 1) rfl (by omega) (by omega) dL_law_391 ?_
  refine g_aload_n hC dL_law_392 rfl 3 rfl ?_
  refine g_iload_n hC dL_law_393 rfl 0 rfl ?_
  refine g_iconst (v := 2) hC dL_law_394 rfl ?_
  refine g_iadd hC dL_law_395 ?_
  refine g_top (y := nI ((6 * k) + 2)) (nI_add _ _) ?_
  refine g_sld hC hX hbl hbA ((6 * k) + 2) rfl (by omega) (by omega) dL_law_396 ?_
  refine g_callV hC (k := 0) (ci := 6) (as := [.int (xs ((6 * k) + 1)), .int (xs ((6 * k) + 2))]) (rest := []) (c_X6_set l D cA b M L g (xs ((6 * k) + 1)) (xs ((6 * k) + 2)) hS hok) ⟨fw_279, fw_280, fw_281, fw_1, fw_282⟩ ⟨rfl, hd_X6_set⟩ rfl ly_0 ⟨Nat.le_of_ble_eq_true rfl, Nat.le_of_ble_eq_true rfl⟩ ⟨Nat.le_of_ble_eq_true rfl, Nat.le_of_ble_eq_true rfl⟩ rfl rfl (Nat.le_of_ble_eq_true rfl) dL_law_397 (g_rm (fun r_1 M_1 L_1 h_1 => ?_))
  obtain ⟨e_1, cs_1, f_1⟩ := h_1
  rw [e_1]
  have rs_1 : RS M_1 L_1 g := RS_fC hR f_1
  refine g_aload_n hC dL_law_400 rfl 1 rfl ?_
  refine g_aload_n hC dL_law_401 rfl 3 rfl ?_
  refine g_iload_n hC dL_law_402 rfl 0 rfl ?_
  refine g_iconst (v := 1) hC dL_law_403 rfl ?_
  refine g_iadd hC dL_law_404 ?_
  refine g_top (y := nI ((6 * k) + 1)) (nI_add _ _) ?_
  refine g_sld hC hX hbl hbA ((6 * k) + 1) rfl (by omega) (by omega) dL_law_405 ?_
  refine g_aload_n hC dL_law_406 rfl 3 rfl ?_
  refine g_iload_n hC dL_law_407 rfl 0 rfl ?_
  refine g_iconst (v := 2) hC dL_law_408 rfl ?_
  refine g_iadd hC dL_law_409 ?_
  refine g_top (y := nI ((6 * k) + 2)) (nI_add _ _) ?_
  refine g_sld hC hX hbl hbA ((6 * k) + 2) rfl (by omega) (by omega) dL_law_410 ?_
  refine g_callV hC (k := 58) (ci := 7) (as := [.int (xs ((6 * k) + 1)), .int (xs ((6 * k) + 2))]) (rest := [.int ((op_set g (xs ((6 * k) + 1)) (xs ((6 * k) + 2))).1)]) (c_X7_set l D cA b M_1 L_1 g (xs ((6 * k) + 1)) (xs ((6 * k) + 2)) rs_1 hok) ⟨fw_769, fw_770, fw_771, fw_9, fw_772⟩ ⟨rfl, hd_X7_set⟩ rfl ly_58 ⟨Nat.le_of_ble_eq_true rfl, Nat.le_of_ble_eq_true rfl⟩ ⟨Nat.le_of_ble_eq_true rfl, Nat.le_of_ble_eq_true rfl⟩ rfl rfl (Nat.le_of_ble_eq_true rfl) dL_law_411 (g_rm (fun r_2 M_2 L_2 h_2 => ?_))
  obtain ⟨e_2, rs_2, f_2⟩ := h_2
  rw [e_2]
  have cs_2 : CS M_2 L_2 _ := CS_fR cs_1 (ok_set hok (xs ((6 * k) + 1)) (xs ((6 * k) + 2))) f_2
  refine g_icmp_eq_T (X := ((op_set g (xs ((6 * k) + 1)) (xs ((6 * k) + 2))).1).toInt) (Y := ((op_set g (xs ((6 * k) + 1)) (xs ((6 * k) + 2))).1).toInt) hC rfl rfl 1284 dL_law_414 rfl (fun _ => ?_) (fun c_3 => absurd rfl c_3)
  exact kk _ _ _ cs_2 rs_2 (ok_set hok (xs ((6 * k) + 1)) (xs ((6 * k) + 2)))

theorem lc_7 {pq : Program} {l : Launch} {eq : Env} {sq : State} {mq : MethodId} {aq : Array Value} {bq : List Frame} {tq : Method} {cq : Code} {Q : State → Prop} {D : va_G} {cA : Nat → ClassId} {b bs n k : Nat} {xs : Nat → Int32} {M : Nat → Nat → Int32} {L : Nat → Nat → Int64} {g : Sg} (hC : fm_C pq sq mq aq tq cq D cA b cL_law 4 RL ret 0) (hX : va_X bs n xs sq sq.heap) (hbl : bs < sq.heap.size) (hbA : bs < b) (hn : n ≤ 3072) (hi : 6 * k + 6 ≤ n) (hS : CS M L g) (hR : RS M L g) (hok : OK g) (kk : ∀ (M' : Nat → Nat → Int32) (L' : Nat → Nat → Int64) (g' : Sg), CS M' L' g' → RS M' L' g' → OK g' → fm_G pq l eq room_1 sq mq aq bq tq cq D cA b 4 Q LAY M' L' 78 6668 1284 [(3, .int (nI (6 * k))), (2, .ref (b + 58)), (1, .ref (b + 0)), (0, .ref bs)] []) : fm_G pq l eq room_1 sq mq aq bq tq cq D cA b 4 Q LAY M L 78 6668 419 [(3, .int (nI (6 * k))), (2, .ref (b + 58)), (1, .ref (b + 0)), (0, .ref bs)] [] := by
  refine g_aload_n hC dL_law_419 rfl 2 rfl ?_
  refine g_aload_n hC dL_law_420 rfl 3 rfl ?_
  refine g_iload_n hC dL_law_421 rfl 0 rfl ?_
  refine g_iconst (v := 1) hC dL_law_422 rfl ?_
  refine g_iadd hC dL_law_423 ?_
  refine g_top (y := nI ((6 * k) + 1)) (nI_add _ _) ?_
  refine g_sld hC hX hbl hbA ((6 * k) + 1) rfl (by omega) (by omega) dL_law_424 ?_
  refine g_aload_n hC dL_law_425 rfl 3 rfl ?_
  refine g_iload_n hC dL_law_426 rfl 0 rfl ?_
  refine g_iconst (v := 2) hC dL_law_427 rfl ?_
  refine g_iadd hC dL_law_428 ?_
  refine g_top (y := nI ((6 * k) + 2)) (nI_add _ _) ?_
  refine g_sld hC hX hbl hbA ((6 * k) + 2) rfl (by omega) (by omega) dL_law_429 ?_
  refine g_callV hC (k := 0) (ci := 6) (as := [.int (xs ((6 * k) + 1)), .int (xs ((6 * k) + 2))]) (rest := []) (c_X6_loss l D cA b M L g (xs ((6 * k) + 1)) (xs ((6 * k) + 2)) hS hok) ⟨fw_291, fw_292, fw_293, fw_1, fw_294⟩ ⟨rfl, hd_X6_loss⟩ rfl ly_0 ⟨Nat.le_of_ble_eq_true rfl, Nat.le_of_ble_eq_true rfl⟩ ⟨Nat.le_of_ble_eq_true rfl, Nat.le_of_ble_eq_true rfl⟩ rfl rfl (Nat.le_of_ble_eq_true rfl) dL_law_430 (g_rm (fun r_1 M_1 L_1 h_1 => ?_))
  obtain ⟨e_1, cs_1, f_1⟩ := h_1
  rw [e_1]
  have rs_1 : RS M_1 L_1 g := RS_fC hR f_1
  refine g_aload_n hC dL_law_433 rfl 1 rfl ?_
  refine g_aload_n hC dL_law_434 rfl 3 rfl ?_
  refine g_iload_n hC dL_law_435 rfl 0 rfl ?_
  refine g_iconst (v := 1) hC dL_law_436 rfl ?_
  refine g_iadd hC dL_law_437 ?_
  refine g_top (y := nI ((6 * k) + 1)) (nI_add _ _) ?_
  refine g_sld hC hX hbl hbA ((6 * k) + 1) rfl (by omega) (by omega) dL_law_438 ?_
  refine g_aload_n hC dL_law_439 rfl 3 rfl ?_
  refine g_iload_n hC dL_law_440 rfl 0 rfl ?_
  refine g_iconst (v := 2) hC dL_law_441 rfl ?_
  refine g_iadd hC dL_law_442 ?_
  refine g_top (y := nI ((6 * k) + 2)) (nI_add _ _) ?_
  refine g_sld hC hX hbl hbA ((6 * k) + 2) rfl (by omega) (by omega) dL_law_443 ?_
  refine g_callV hC (k := 58) (ci := 7) (as := [.int (xs ((6 * k) + 1)), .int (xs ((6 * k) + 2))]) (rest := [.int ((op_loss g (xs ((6 * k) + 1)) (xs ((6 * k) + 2))).1)]) (c_X7_loss l D cA b M_1 L_1 g (xs ((6 * k) + 1)) (xs ((6 * k) + 2)) rs_1 hok) ⟨fw_775, fw_776, fw_777, fw_9, fw_778⟩ ⟨rfl, hd_X7_loss⟩ rfl ly_58 ⟨Nat.le_of_ble_eq_true rfl, Nat.le_of_ble_eq_true rfl⟩ ⟨Nat.le_of_ble_eq_true rfl, Nat.le_of_ble_eq_true rfl⟩ rfl rfl (Nat.le_of_ble_eq_true rfl) dL_law_444 (g_rm (fun r_2 M_2 L_2 h_2 => ?_))
  obtain ⟨e_2, rs_2, f_2⟩ := h_2
  rw [e_2]
  have cs_2 : CS M_2 L_2 _ := CS_fR cs_1 (ok_loss hok (xs ((6 * k) + 1)) (xs ((6 * k) + 2))) f_2
  refine g_icmp_eq_T (X := ((op_loss g (xs ((6 * k) + 1)) (xs ((6 * k) + 2))).1).toInt) (Y := ((op_loss g (xs ((6 * k) + 1)) (xs ((6 * k) + 2))).1).toInt) hC rfl rfl 1284 dL_law_447 rfl (fun _ => ?_) (fun c_3 => absurd rfl c_3)
  exact kk _ _ _ cs_2 rs_2 (ok_loss hok (xs ((6 * k) + 1)) (xs ((6 * k) + 2)))

theorem lc_8 {pq : Program} {l : Launch} {eq : Env} {sq : State} {mq : MethodId} {aq : Array Value} {bq : List Frame} {tq : Method} {cq : Code} {Q : State → Prop} {D : va_G} {cA : Nat → ClassId} {b bs n k : Nat} {xs : Nat → Int32} {M : Nat → Nat → Int32} {L : Nat → Nat → Int64} {g : Sg} (hC : fm_C pq sq mq aq tq cq D cA b cL_law 4 RL ret 0) (hX : va_X bs n xs sq sq.heap) (hbl : bs < sq.heap.size) (hbA : bs < b) (hn : n ≤ 3072) (hi : 6 * k + 6 ≤ n) (hS : CS M L g) (hR : RS M L g) (hok : OK g) (kk : ∀ (M' : Nat → Nat → Int32) (L' : Nat → Nat → Int64) (g' : Sg), CS M' L' g' → RS M' L' g' → OK g' → fm_G pq l eq room_1 sq mq aq bq tq cq D cA b 4 Q LAY M' L' 78 6668 1284 [(3, .int (nI (6 * k))), (2, .ref (b + 58)), (1, .ref (b + 0)), (0, .ref bs)] []) : fm_G pq l eq room_1 sq mq aq bq tq cq D cA b 4 Q LAY M L 78 6668 452 [(3, .int (nI (6 * k))), (2, .ref (b + 58)), (1, .ref (b + 0)), (0, .ref bs)] [] := by
  refine g_aload_n hC dL_law_452 rfl 2 rfl ?_
  refine g_aload_n hC dL_law_453 rfl 3 rfl ?_
  refine g_iload_n hC dL_law_454 rfl 0 rfl ?_
  refine g_iconst (v := 1) hC dL_law_455 rfl ?_
  refine g_iadd hC dL_law_456 ?_
  refine g_top (y := nI ((6 * k) + 1)) (nI_add _ _) ?_
  refine g_sld hC hX hbl hbA ((6 * k) + 1) rfl (by omega) (by omega) dL_law_457 ?_
  refine g_i2l (v := (xs ((6 * k) + 1)).toInt64) hC dL_law_458 rfl ?_
  refine g_bipush (v := 32) hC dL_law_459 rfl ?_
  refine g_lshl (v := ((xs ((6 * k) + 1)).toInt64) <<< ((32 : Int32).toInt64 &&& 63)) hC dL_law_461 rfl ?_
  refine g_aload_n hC dL_law_462 rfl 3 rfl ?_
  refine g_iload_n hC dL_law_463 rfl 0 rfl ?_
  refine g_iconst (v := 2) hC dL_law_464 rfl ?_
  refine g_iadd hC dL_law_465 ?_
  refine g_top (y := nI ((6 * k) + 2)) (nI_add _ _) ?_
  refine g_sld hC hX hbl hbA ((6 * k) + 2) rfl (by omega) (by omega) dL_law_466 ?_
  refine g_i2l (v := (xs ((6 * k) + 2)).toInt64) hC dL_law_467 rfl ?_
  refine g_ldc2 (v := 4294967295) hC fw_1005 dL_law_468 ?_
  refine g_land hC dL_law_471 ?_
  refine g_lor hC dL_law_472 ?_
  refine g_aload_n hC dL_law_473 rfl 3 rfl ?_
  refine g_iload_n hC dL_law_474 rfl 0 rfl ?_
  refine g_iconst (v := 3) hC dL_law_475 rfl ?_
  refine g_iadd hC dL_law_476 ?_
  refine g_top (y := nI ((6 * k) + 3)) (nI_add _ _) ?_
  refine g_sld hC hX hbl hbA ((6 * k) + 3) rfl (by omega) (by omega) dL_law_477 ?_
  refine g_callV hC (k := 0) (ci := 6) (as := [.long ((((xs ((6 * k) + 1)).toInt64) <<< ((32 : Int32).toInt64 &&& 63)) ||| (((xs ((6 * k) + 2)).toInt64) &&& 4294967295)), .int (xs ((6 * k) + 3))]) (rest := []) (c_X6_type l D cA b M L g ((((xs ((6 * k) + 1)).toInt64) <<< ((32 : Int32).toInt64 &&& 63)) ||| (((xs ((6 * k) + 2)).toInt64) &&& 4294967295)) (xs ((6 * k) + 3)) hS hok) ⟨fw_295, fw_296, fw_297, fw_1, fw_298⟩ ⟨rfl, hd_X6_type⟩ rfl ly_0 ⟨Nat.le_of_ble_eq_true rfl, Nat.le_of_ble_eq_true rfl⟩ ⟨Nat.le_of_ble_eq_true rfl, Nat.le_of_ble_eq_true rfl⟩ rfl rfl (Nat.le_of_ble_eq_true rfl) dL_law_478 (g_rm (fun r_1 M_1 L_1 h_1 => ?_))
  obtain ⟨e_1, cs_1, f_1⟩ := h_1
  rw [e_1]
  have rs_1 : RS M_1 L_1 g := RS_fC hR f_1
  refine g_aload_n hC dL_law_481 rfl 1 rfl ?_
  refine g_aload_n hC dL_law_482 rfl 3 rfl ?_
  refine g_iload_n hC dL_law_483 rfl 0 rfl ?_
  refine g_iconst (v := 1) hC dL_law_484 rfl ?_
  refine g_iadd hC dL_law_485 ?_
  refine g_top (y := nI ((6 * k) + 1)) (nI_add _ _) ?_
  refine g_sld hC hX hbl hbA ((6 * k) + 1) rfl (by omega) (by omega) dL_law_486 ?_
  refine g_i2l (v := (xs ((6 * k) + 1)).toInt64) hC dL_law_487 rfl ?_
  refine g_bipush (v := 32) hC dL_law_488 rfl ?_
  refine g_lshl (v := ((xs ((6 * k) + 1)).toInt64) <<< ((32 : Int32).toInt64 &&& 63)) hC dL_law_490 rfl ?_
  refine g_aload_n hC dL_law_491 rfl 3 rfl ?_
  refine g_iload_n hC dL_law_492 rfl 0 rfl ?_
  refine g_iconst (v := 2) hC dL_law_493 rfl ?_
  refine g_iadd hC dL_law_494 ?_
  refine g_top (y := nI ((6 * k) + 2)) (nI_add _ _) ?_
  refine g_sld hC hX hbl hbA ((6 * k) + 2) rfl (by omega) (by omega) dL_law_495 ?_
  refine g_i2l (v := (xs ((6 * k) + 2)).toInt64) hC dL_law_496 rfl ?_
  refine g_ldc2 (v := 4294967295) hC fw_1005 dL_law_497 ?_
  refine g_land hC dL_law_500 ?_
  refine g_lor hC dL_law_501 ?_
  refine g_aload_n hC dL_law_502 rfl 3 rfl ?_
  refine g_iload_n hC dL_law_503 rfl 0 rfl ?_
  refine g_iconst (v := 3) hC dL_law_504 rfl ?_
  refine g_iadd hC dL_law_505 ?_
  refine g_top (y := nI ((6 * k) + 3)) (nI_add _ _) ?_
  refine g_sld hC hX hbl hbA ((6 * k) + 3) rfl (by omega) (by omega) dL_law_506 ?_
  refine g_callV hC (k := 58) (ci := 7) (as := [.long ((((xs ((6 * k) + 1)).toInt64) <<< ((32 : Int32).toInt64 &&& 63)) ||| (((xs ((6 * k) + 2)).toInt64) &&& 4294967295)), .int (xs ((6 * k) + 3))]) (rest := [.int ((op_type g ((((xs ((6 * k) + 1)).toInt64) <<< ((32 : Int32).toInt64 &&& 63)) ||| (((xs ((6 * k) + 2)).toInt64) &&& 4294967295)) (xs ((6 * k) + 3))).1)]) (c_X7_type l D cA b M_1 L_1 g ((((xs ((6 * k) + 1)).toInt64) <<< ((32 : Int32).toInt64 &&& 63)) ||| (((xs ((6 * k) + 2)).toInt64) &&& 4294967295)) (xs ((6 * k) + 3)) rs_1 hok) ⟨fw_784, fw_785, fw_786, fw_9, fw_787⟩ ⟨rfl, hd_X7_type⟩ rfl ly_58 ⟨Nat.le_of_ble_eq_true rfl, Nat.le_of_ble_eq_true rfl⟩ ⟨Nat.le_of_ble_eq_true rfl, Nat.le_of_ble_eq_true rfl⟩ rfl rfl (Nat.le_of_ble_eq_true rfl) dL_law_507 (g_rm (fun r_2 M_2 L_2 h_2 => ?_))
  obtain ⟨e_2, rs_2, f_2⟩ := h_2
  rw [e_2]
  have cs_2 : CS M_2 L_2 _ := CS_fR cs_1 (ok_type hok ((((xs ((6 * k) + 1)).toInt64) <<< ((32 : Int32).toInt64 &&& 63)) ||| (((xs ((6 * k) + 2)).toInt64) &&& 4294967295)) (xs ((6 * k) + 3))) f_2
  refine g_icmp_eq_T (X := ((op_type g ((((xs ((6 * k) + 1)).toInt64) <<< ((32 : Int32).toInt64 &&& 63)) ||| (((xs ((6 * k) + 2)).toInt64) &&& 4294967295)) (xs ((6 * k) + 3))).1).toInt) (Y := ((op_type g ((((xs ((6 * k) + 1)).toInt64) <<< ((32 : Int32).toInt64 &&& 63)) ||| (((xs ((6 * k) + 2)).toInt64) &&& 4294967295)) (xs ((6 * k) + 3))).1).toInt) hC rfl rfl 1284 dL_law_510 rfl (fun _ => ?_) (fun c_3 => absurd rfl c_3)
  exact kk _ _ _ cs_2 rs_2 (ok_type hok ((((xs ((6 * k) + 1)).toInt64) <<< ((32 : Int32).toInt64 &&& 63)) ||| (((xs ((6 * k) + 2)).toInt64) &&& 4294967295)) (xs ((6 * k) + 3)))
