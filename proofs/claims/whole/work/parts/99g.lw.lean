/-! THE LAW: its loop -/
section LW
variable {d : Nat} {hs : abH} {Ln : Nat}
theorem aI_0 {h : abH} (e : gT h 0 = some (100, Ln)) : aI h 0 = Ln := by
  unfold aI
  rw [e]
  rfl
theorem lw_out {i : Nat} (hL : Ln ≤ 384) (hi : i ≤ 390) : (nI Ln - nI 6 < nI i) = (Ln < i + 6) := by
  apply propext
  rw [Int32.lt_iff_toInt_lt, sub_nI (by omega) (by omega), nI_toInt (by omega)]
  omega

set_option maxHeartbeats 8000000 in
theorem lw_0 {h : abH} (R : Rel hs h) (T0 : gT hs 0 = some (100, Ln)) (hL : Ln ≤ 384) {i : Nat} (h6 : i + 6 ≤ Ln) {Q : Option Value → abH → Prop} (ih : ∀ h2, Rel hs h2 → aW (d + 21) 220 18 [.ref 0, .ref 2, .ref 65, .int (nI (i + 6))] [] h2 Q) : aW (d + 21) 220 184 [.ref 0, .ref 2, .ref 65, .int (nI i)] [] h Q := by
  obtain ⟨p, P, tl, r1, -⟩ := id R
  obtain ⟨q1, q2, H, HM, -⟩ := r1
  have t0 : gT h 0 = some (100, Ln) := by unfold gT at *; rw [q1]; exact T0
  have a0 := aI_0 t0
  have t2 := gt_2 H
  have t65 := gt_65 HM
  simp (disch := first | omega | assumption | fail) only [s220_184, s220_185, s220_186, s220_187, s220_188, s220_189, s220_190, s220_191, s220_193, s220_194, s220_195, s220_196, s220_197, s220_198, s220_199, s220_200, s220_203, s220_204, s220_205, s220_206, s220_207, s220_208, s220_209, s220_210, isRf_ref, true_and, and_true, aPs_s, aPs_n, b01_0, b01_1, nI_clamp, ix_nI, inb_nI, lt_nI, eq_nI, nn_nI, eq0_nI, pk_mul, nI_add, lt_T, lt_F, if_true, if_false, true_and, and_true, neg1_nI, neg1_lt, neg1_neg, lt_neg1, eqN_F, eq_self, a0, q2]
  refine Pr_k (p_feed R) (fun w h1 kp k => ?_)
  have u65 := kp.1 _ _ t65
  have u0 := kp.1 _ _ t0
  have b0 := aI_0 u0
  have g1 : gI h1 0 = gI hs 0 := (kp.2 Ln t0).trans q2
  simp (disch := first | omega | assumption | fail) only [s220_213, s220_214, s220_215, s220_216, s220_217, s220_218, s220_219, s220_220, s220_222, s220_223, s220_224, s220_225, s220_226, s220_227, s220_228, s220_229, s220_232, s220_233, s220_234, s220_235, s220_236, s220_237, s220_238, s220_239, isRf_ref, true_and, and_true, aPs_s, aPs_n, b01_0, b01_1, nI_clamp, ix_nI, inb_nI, lt_nI, eq_nI, nn_nI, eq0_nI, pk_mul, nI_add, lt_T, lt_F, if_true, if_false, true_and, and_true, neg1_nI, neg1_lt, neg1_neg, lt_neg1, eqN_F, eq_self, b0, g1]
  refine k _ (fun h2 R2 => ?_)
  simp (disch := first | omega | assumption | fail) only [s220_242, s220_245, s220_246, s220_1166, s220_1169, isRf_ref, true_and, and_true, aPs_s, aPs_n, b01_0, b01_1, nI_clamp, ix_nI, inb_nI, lt_nI, eq_nI, nn_nI, eq0_nI, pk_mul, nI_add, lt_T, lt_F, if_true, if_false, true_and, and_true, neg1_nI, neg1_lt, neg1_neg, lt_neg1, eqN_F, eq_self]
  exact ih h2 R2
set_option maxHeartbeats 8000000 in
theorem lw_1 {h : abH} (R : Rel hs h) (T0 : gT hs 0 = some (100, Ln)) (hL : Ln ≤ 384) {i : Nat} (h6 : i + 6 ≤ Ln) {Q : Option Value → abH → Prop} (ih : ∀ h2, Rel hs h2 → aW (d + 21) 220 18 [.ref 0, .ref 2, .ref 65, .int (nI (i + 6))] [] h2 Q) : aW (d + 21) 220 247 [.ref 0, .ref 2, .ref 65, .int (nI i)] [] h Q := by
  obtain ⟨p, P, tl, r1, -⟩ := id R
  obtain ⟨q1, q2, H, HM, -⟩ := r1
  have t0 : gT h 0 = some (100, Ln) := by unfold gT at *; rw [q1]; exact T0
  have a0 := aI_0 t0
  have t2 := gt_2 H
  have t65 := gt_65 HM
  simp (disch := first | omega | assumption | fail) only [s220_247, s220_248, isRf_ref, true_and, and_true, aPs_s, aPs_n, b01_0, b01_1, nI_clamp, ix_nI, inb_nI, lt_nI, eq_nI, nn_nI, eq0_nI, pk_mul, nI_add, lt_T, lt_F, if_true, if_false, true_and, and_true, neg1_nI, neg1_lt, neg1_neg, lt_neg1, eqN_F, eq_self, a0, q2]
  refine Pr_k (p_prog R) (fun w h1 kp k => ?_)
  have u65 := kp.1 _ _ t65
  have u0 := kp.1 _ _ t0
  have b0 := aI_0 u0
  have g1 : gI h1 0 = gI hs 0 := (kp.2 Ln t0).trans q2
  simp (disch := first | omega | assumption | fail) only [s220_251, s220_252, isRf_ref, true_and, and_true, aPs_s, aPs_n, b01_0, b01_1, nI_clamp, ix_nI, inb_nI, lt_nI, eq_nI, nn_nI, eq0_nI, pk_mul, nI_add, lt_T, lt_F, if_true, if_false, true_and, and_true, neg1_nI, neg1_lt, neg1_neg, lt_neg1, eqN_F, eq_self, b0, g1]
  refine k _ (fun h2 R2 => ?_)
  simp (disch := first | omega | assumption | fail) only [s220_255, s220_258, s220_259, s220_1166, s220_1169, isRf_ref, true_and, and_true, aPs_s, aPs_n, b01_0, b01_1, nI_clamp, ix_nI, inb_nI, lt_nI, eq_nI, nn_nI, eq0_nI, pk_mul, nI_add, lt_T, lt_F, if_true, if_false, true_and, and_true, neg1_nI, neg1_lt, neg1_neg, lt_neg1, eqN_F, eq_self]
  exact ih h2 R2
set_option maxHeartbeats 8000000 in
theorem lw_2 {h : abH} (R : Rel hs h) (T0 : gT hs 0 = some (100, Ln)) (hL : Ln ≤ 384) {i : Nat} (h6 : i + 6 ≤ Ln) {Q : Option Value → abH → Prop} (ih : ∀ h2, Rel hs h2 → aW (d + 21) 220 18 [.ref 0, .ref 2, .ref 65, .int (nI (i + 6))] [] h2 Q) : aW (d + 21) 220 260 [.ref 0, .ref 2, .ref 65, .int (nI i)] [] h Q := by
  obtain ⟨p, P, tl, r1, -⟩ := id R
  obtain ⟨q1, q2, H, HM, -⟩ := r1
  have t0 : gT h 0 = some (100, Ln) := by unfold gT at *; rw [q1]; exact T0
  have a0 := aI_0 t0
  have t2 := gt_2 H
  have t65 := gt_65 HM
  simp (disch := first | omega | assumption | fail) only [s220_260, s220_261, s220_262, s220_263, s220_264, s220_265, s220_266, s220_267, s220_268, s220_269, s220_270, s220_271, isRf_ref, true_and, and_true, aPs_s, aPs_n, b01_0, b01_1, nI_clamp, ix_nI, inb_nI, lt_nI, eq_nI, nn_nI, eq0_nI, pk_mul, nI_add, lt_T, lt_F, if_true, if_false, true_and, and_true, neg1_nI, neg1_lt, neg1_neg, lt_neg1, eqN_F, eq_self, a0, q2]
  refine Pr_k (p_letter R) (fun w h1 kp k => ?_)
  have u65 := kp.1 _ _ t65
  have u0 := kp.1 _ _ t0
  have b0 := aI_0 u0
  have g1 : gI h1 0 = gI hs 0 := (kp.2 Ln t0).trans q2
  simp (disch := first | omega | assumption | fail) only [s220_274, s220_275, s220_276, s220_277, s220_278, s220_279, s220_280, s220_281, s220_282, s220_283, s220_284, s220_285, isRf_ref, true_and, and_true, aPs_s, aPs_n, b01_0, b01_1, nI_clamp, ix_nI, inb_nI, lt_nI, eq_nI, nn_nI, eq0_nI, pk_mul, nI_add, lt_T, lt_F, if_true, if_false, true_and, and_true, neg1_nI, neg1_lt, neg1_neg, lt_neg1, eqN_F, eq_self, b0, g1]
  refine k _ (fun h2 R2 => ?_)
  simp (disch := first | omega | assumption | fail) only [s220_288, s220_291, s220_292, s220_1166, s220_1169, isRf_ref, true_and, and_true, aPs_s, aPs_n, b01_0, b01_1, nI_clamp, ix_nI, inb_nI, lt_nI, eq_nI, nn_nI, eq0_nI, pk_mul, nI_add, lt_T, lt_F, if_true, if_false, true_and, and_true, neg1_nI, neg1_lt, neg1_neg, lt_neg1, eqN_F, eq_self]
  exact ih h2 R2
set_option maxHeartbeats 8000000 in
theorem lw_3 {h : abH} (R : Rel hs h) (T0 : gT hs 0 = some (100, Ln)) (hL : Ln ≤ 384) {i : Nat} (h6 : i + 6 ≤ Ln) {Q : Option Value → abH → Prop} (ih : ∀ h2, Rel hs h2 → aW (d + 21) 220 18 [.ref 0, .ref 2, .ref 65, .int (nI (i + 6))] [] h2 Q) : aW (d + 21) 220 293 [.ref 0, .ref 2, .ref 65, .int (nI i)] [] h Q := by
  obtain ⟨p, P, tl, r1, -⟩ := id R
  obtain ⟨q1, q2, H, HM, -⟩ := r1
  have t0 : gT h 0 = some (100, Ln) := by unfold gT at *; rw [q1]; exact T0
  have a0 := aI_0 t0
  have t2 := gt_2 H
  have t65 := gt_65 HM
  simp (disch := first | omega | assumption | fail) only [s220_293, s220_294, s220_295, s220_296, s220_297, s220_298, s220_299, isRf_ref, true_and, and_true, aPs_s, aPs_n, b01_0, b01_1, nI_clamp, ix_nI, inb_nI, lt_nI, eq_nI, nn_nI, eq0_nI, pk_mul, nI_add, lt_T, lt_F, if_true, if_false, true_and, and_true, neg1_nI, neg1_lt, neg1_neg, lt_neg1, eqN_F, eq_self, a0, q2]
  refine Pr_k (p_order R) (fun w h1 kp k => ?_)
  have u65 := kp.1 _ _ t65
  have u0 := kp.1 _ _ t0
  have b0 := aI_0 u0
  have g1 : gI h1 0 = gI hs 0 := (kp.2 Ln t0).trans q2
  simp (disch := first | omega | assumption | fail) only [s220_302, s220_303, s220_304, s220_305, s220_306, s220_307, s220_308, isRf_ref, true_and, and_true, aPs_s, aPs_n, b01_0, b01_1, nI_clamp, ix_nI, inb_nI, lt_nI, eq_nI, nn_nI, eq0_nI, pk_mul, nI_add, lt_T, lt_F, if_true, if_false, true_and, and_true, neg1_nI, neg1_lt, neg1_neg, lt_neg1, eqN_F, eq_self, b0, g1]
  refine k _ (fun h2 R2 => ?_)
  simp (disch := first | omega | assumption | fail) only [s220_311, s220_314, s220_315, s220_1166, s220_1169, isRf_ref, true_and, and_true, aPs_s, aPs_n, b01_0, b01_1, nI_clamp, ix_nI, inb_nI, lt_nI, eq_nI, nn_nI, eq0_nI, pk_mul, nI_add, lt_T, lt_F, if_true, if_false, true_and, and_true, neg1_nI, neg1_lt, neg1_neg, lt_neg1, eqN_F, eq_self]
  exact ih h2 R2
set_option maxHeartbeats 8000000 in
theorem lw_4 {h : abH} (R : Rel hs h) (T0 : gT hs 0 = some (100, Ln)) (hL : Ln ≤ 384) {i : Nat} (h6 : i + 6 ≤ Ln) {Q : Option Value → abH → Prop} (ih : ∀ h2, Rel hs h2 → aW (d + 21) 220 18 [.ref 0, .ref 2, .ref 65, .int (nI (i + 6))] [] h2 Q) : aW (d + 21) 220 316 [.ref 0, .ref 2, .ref 65, .int (nI i)] [] h Q := by
  obtain ⟨p, P, tl, r1, -⟩ := id R
  obtain ⟨q1, q2, H, HM, -⟩ := r1
  have t0 : gT h 0 = some (100, Ln) := by unfold gT at *; rw [q1]; exact T0
  have a0 := aI_0 t0
  have t2 := gt_2 H
  have t65 := gt_65 HM
  simp (disch := first | omega | assumption | fail) only [s220_316, s220_317, s220_318, s220_319, s220_320, s220_321, s220_322, isRf_ref, true_and, and_true, aPs_s, aPs_n, b01_0, b01_1, nI_clamp, ix_nI, inb_nI, lt_nI, eq_nI, nn_nI, eq0_nI, pk_mul, nI_add, lt_T, lt_F, if_true, if_false, true_and, and_true, neg1_nI, neg1_lt, neg1_neg, lt_neg1, eqN_F, eq_self, a0, q2]
  refine Pr_k (p_oTold R) (fun w h1 kp k => ?_)
  have u65 := kp.1 _ _ t65
  have u0 := kp.1 _ _ t0
  have b0 := aI_0 u0
  have g1 : gI h1 0 = gI hs 0 := (kp.2 Ln t0).trans q2
  simp (disch := first | omega | assumption | fail) only [s220_325, s220_326, s220_327, s220_328, s220_329, s220_330, s220_331, isRf_ref, true_and, and_true, aPs_s, aPs_n, b01_0, b01_1, nI_clamp, ix_nI, inb_nI, lt_nI, eq_nI, nn_nI, eq0_nI, pk_mul, nI_add, lt_T, lt_F, if_true, if_false, true_and, and_true, neg1_nI, neg1_lt, neg1_neg, lt_neg1, eqN_F, eq_self, b0, g1]
  refine k _ (fun h2 R2 => ?_)
  simp (disch := first | omega | assumption | fail) only [s220_334, s220_337, s220_338, s220_1166, s220_1169, isRf_ref, true_and, and_true, aPs_s, aPs_n, b01_0, b01_1, nI_clamp, ix_nI, inb_nI, lt_nI, eq_nI, nn_nI, eq0_nI, pk_mul, nI_add, lt_T, lt_F, if_true, if_false, true_and, and_true, neg1_nI, neg1_lt, neg1_neg, lt_neg1, eqN_F, eq_self]
  exact ih h2 R2
set_option maxHeartbeats 8000000 in
theorem lw_5 {h : abH} (R : Rel hs h) (T0 : gT hs 0 = some (100, Ln)) (hL : Ln ≤ 384) {i : Nat} (h6 : i + 6 ≤ Ln) {Q : Option Value → abH → Prop} (ih : ∀ h2, Rel hs h2 → aW (d + 21) 220 18 [.ref 0, .ref 2, .ref 65, .int (nI (i + 6))] [] h2 Q) : aW (d + 21) 220 339 [.ref 0, .ref 2, .ref 65, .int (nI i)] [] h Q := by
  obtain ⟨p, P, tl, r1, -⟩ := id R
  obtain ⟨q1, q2, H, HM, -⟩ := r1
  have t0 : gT h 0 = some (100, Ln) := by unfold gT at *; rw [q1]; exact T0
  have a0 := aI_0 t0
  have t2 := gt_2 H
  have t65 := gt_65 HM
  simp (disch := first | omega | assumption | fail) only [s220_339, s220_340, s220_341, s220_342, s220_343, s220_344, s220_345, isRf_ref, true_and, and_true, aPs_s, aPs_n, b01_0, b01_1, nI_clamp, ix_nI, inb_nI, lt_nI, eq_nI, nn_nI, eq0_nI, pk_mul, nI_add, lt_T, lt_F, if_true, if_false, true_and, and_true, neg1_nI, neg1_lt, neg1_neg, lt_neg1, eqN_F, eq_self, a0, q2]
  refine Pr_k (p_load R) (fun w h1 kp k => ?_)
  have u65 := kp.1 _ _ t65
  have u0 := kp.1 _ _ t0
  have b0 := aI_0 u0
  have g1 : gI h1 0 = gI hs 0 := (kp.2 Ln t0).trans q2
  simp (disch := first | omega | assumption | fail) only [s220_348, s220_349, s220_350, s220_351, s220_352, s220_353, s220_354, isRf_ref, true_and, and_true, aPs_s, aPs_n, b01_0, b01_1, nI_clamp, ix_nI, inb_nI, lt_nI, eq_nI, nn_nI, eq0_nI, pk_mul, nI_add, lt_T, lt_F, if_true, if_false, true_and, and_true, neg1_nI, neg1_lt, neg1_neg, lt_neg1, eqN_F, eq_self, b0, g1]
  refine k _ (fun h2 R2 => ?_)
  simp (disch := first | omega | assumption | fail) only [s220_357, s220_360, s220_361, s220_1166, s220_1169, isRf_ref, true_and, and_true, aPs_s, aPs_n, b01_0, b01_1, nI_clamp, ix_nI, inb_nI, lt_nI, eq_nI, nn_nI, eq0_nI, pk_mul, nI_add, lt_T, lt_F, if_true, if_false, true_and, and_true, neg1_nI, neg1_lt, neg1_neg, lt_neg1, eqN_F, eq_self]
  exact ih h2 R2
set_option maxHeartbeats 8000000 in
theorem lw_6 {h : abH} (R : Rel hs h) (T0 : gT hs 0 = some (100, Ln)) (hL : Ln ≤ 384) {i : Nat} (h6 : i + 6 ≤ Ln) {Q : Option Value → abH → Prop} (ih : ∀ h2, Rel hs h2 → aW (d + 21) 220 18 [.ref 0, .ref 2, .ref 65, .int (nI (i + 6))] [] h2 Q) : aW (d + 21) 220 362 [.ref 0, .ref 2, .ref 65, .int (nI i)] [] h Q := by
  obtain ⟨p, P, tl, r1, -⟩ := id R
  obtain ⟨q1, q2, H, HM, -⟩ := r1
  have t0 : gT h 0 = some (100, Ln) := by unfold gT at *; rw [q1]; exact T0
  have a0 := aI_0 t0
  have t2 := gt_2 H
  have t65 := gt_65 HM
  simp (disch := first | omega | assumption | fail) only [s220_362, s220_363, s220_364, s220_365, s220_366, s220_367, s220_368, isRf_ref, true_and, and_true, aPs_s, aPs_n, b01_0, b01_1, nI_clamp, ix_nI, inb_nI, lt_nI, eq_nI, nn_nI, eq0_nI, pk_mul, nI_add, lt_T, lt_F, if_true, if_false, true_and, and_true, neg1_nI, neg1_lt, neg1_neg, lt_neg1, eqN_F, eq_self, a0, q2]
  refine Pr_k (p_over R) (fun w h1 kp k => ?_)
  have u65 := kp.1 _ _ t65
  have u0 := kp.1 _ _ t0
  have b0 := aI_0 u0
  have g1 : gI h1 0 = gI hs 0 := (kp.2 Ln t0).trans q2
  simp (disch := first | omega | assumption | fail) only [s220_371, s220_372, s220_373, s220_374, s220_375, s220_376, s220_377, isRf_ref, true_and, and_true, aPs_s, aPs_n, b01_0, b01_1, nI_clamp, ix_nI, inb_nI, lt_nI, eq_nI, nn_nI, eq0_nI, pk_mul, nI_add, lt_T, lt_F, if_true, if_false, true_and, and_true, neg1_nI, neg1_lt, neg1_neg, lt_neg1, eqN_F, eq_self, b0, g1]
  refine k _ (fun h2 R2 => ?_)
  simp (disch := first | omega | assumption | fail) only [s220_380, s220_383, s220_384, s220_1166, s220_1169, isRf_ref, true_and, and_true, aPs_s, aPs_n, b01_0, b01_1, nI_clamp, ix_nI, inb_nI, lt_nI, eq_nI, nn_nI, eq0_nI, pk_mul, nI_add, lt_T, lt_F, if_true, if_false, true_and, and_true, neg1_nI, neg1_lt, neg1_neg, lt_neg1, eqN_F, eq_self]
  exact ih h2 R2
set_option maxHeartbeats 8000000 in
theorem lw_7 {h : abH} (R : Rel hs h) (T0 : gT hs 0 = some (100, Ln)) (hL : Ln ≤ 384) {i : Nat} (h6 : i + 6 ≤ Ln) {Q : Option Value → abH → Prop} (ih : ∀ h2, Rel hs h2 → aW (d + 21) 220 18 [.ref 0, .ref 2, .ref 65, .int (nI (i + 6))] [] h2 Q) : aW (d + 21) 220 385 [.ref 0, .ref 2, .ref 65, .int (nI i)] [] h Q := by
  obtain ⟨p, P, tl, r1, -⟩ := id R
  obtain ⟨q1, q2, H, HM, -⟩ := r1
  have t0 : gT h 0 = some (100, Ln) := by unfold gT at *; rw [q1]; exact T0
  have a0 := aI_0 t0
  have t2 := gt_2 H
  have t65 := gt_65 HM
  simp (disch := first | omega | assumption | fail) only [s220_385, s220_386, s220_387, s220_388, s220_389, s220_390, s220_391, isRf_ref, true_and, and_true, aPs_s, aPs_n, b01_0, b01_1, nI_clamp, ix_nI, inb_nI, lt_nI, eq_nI, nn_nI, eq0_nI, pk_mul, nI_add, lt_T, lt_F, if_true, if_false, true_and, and_true, neg1_nI, neg1_lt, neg1_neg, lt_neg1, eqN_F, eq_self, a0, q2]
  refine Pr_k (p_peak R) (fun w h1 kp k => ?_)
  have u65 := kp.1 _ _ t65
  have u0 := kp.1 _ _ t0
  have b0 := aI_0 u0
  have g1 : gI h1 0 = gI hs 0 := (kp.2 Ln t0).trans q2
  simp (disch := first | omega | assumption | fail) only [s220_394, s220_395, s220_396, s220_397, s220_398, s220_399, s220_400, isRf_ref, true_and, and_true, aPs_s, aPs_n, b01_0, b01_1, nI_clamp, ix_nI, inb_nI, lt_nI, eq_nI, nn_nI, eq0_nI, pk_mul, nI_add, lt_T, lt_F, if_true, if_false, true_and, and_true, neg1_nI, neg1_lt, neg1_neg, lt_neg1, eqN_F, eq_self, b0, g1]
  refine k _ (fun h2 R2 => ?_)
  simp (disch := first | omega | assumption | fail) only [s220_403, s220_406, s220_407, s220_1166, s220_1169, isRf_ref, true_and, and_true, aPs_s, aPs_n, b01_0, b01_1, nI_clamp, ix_nI, inb_nI, lt_nI, eq_nI, nn_nI, eq0_nI, pk_mul, nI_add, lt_T, lt_F, if_true, if_false, true_and, and_true, neg1_nI, neg1_lt, neg1_neg, lt_neg1, eqN_F, eq_self]
  exact ih h2 R2
set_option maxHeartbeats 8000000 in
theorem lw_8 {h : abH} (R : Rel hs h) (T0 : gT hs 0 = some (100, Ln)) (hL : Ln ≤ 384) {i : Nat} (h6 : i + 6 ≤ Ln) {Q : Option Value → abH → Prop} (ih : ∀ h2, Rel hs h2 → aW (d + 21) 220 18 [.ref 0, .ref 2, .ref 65, .int (nI (i + 6))] [] h2 Q) : aW (d + 21) 220 408 [.ref 0, .ref 2, .ref 65, .int (nI i)] [] h Q := by
  obtain ⟨p, P, tl, r1, -⟩ := id R
  obtain ⟨q1, q2, H, HM, -⟩ := r1
  have t0 : gT h 0 = some (100, Ln) := by unfold gT at *; rw [q1]; exact T0
  have a0 := aI_0 t0
  have t2 := gt_2 H
  have t65 := gt_65 HM
  simp (disch := first | omega | assumption | fail) only [s220_408, s220_409, s220_410, s220_411, s220_412, s220_413, s220_414, s220_415, s220_416, s220_417, s220_418, s220_419, isRf_ref, true_and, and_true, aPs_s, aPs_n, b01_0, b01_1, nI_clamp, ix_nI, inb_nI, lt_nI, eq_nI, nn_nI, eq0_nI, pk_mul, nI_add, lt_T, lt_F, if_true, if_false, true_and, and_true, neg1_nI, neg1_lt, neg1_neg, lt_neg1, eqN_F, eq_self, a0, q2]
  refine Pr_k (p_buf R) (fun w h1 kp k => ?_)
  have u65 := kp.1 _ _ t65
  have u0 := kp.1 _ _ t0
  have b0 := aI_0 u0
  have g1 : gI h1 0 = gI hs 0 := (kp.2 Ln t0).trans q2
  simp (disch := first | omega | assumption | fail) only [s220_422, s220_423, s220_424, s220_425, s220_426, s220_427, s220_428, s220_429, s220_430, s220_431, s220_432, s220_433, isRf_ref, true_and, and_true, aPs_s, aPs_n, b01_0, b01_1, nI_clamp, ix_nI, inb_nI, lt_nI, eq_nI, nn_nI, eq0_nI, pk_mul, nI_add, lt_T, lt_F, if_true, if_false, true_and, and_true, neg1_nI, neg1_lt, neg1_neg, lt_neg1, eqN_F, eq_self, b0, g1]
  refine k _ (fun h2 R2 => ?_)
  simp (disch := first | omega | assumption | fail) only [s220_436, s220_439, s220_440, s220_1166, s220_1169, isRf_ref, true_and, and_true, aPs_s, aPs_n, b01_0, b01_1, nI_clamp, ix_nI, inb_nI, lt_nI, eq_nI, nn_nI, eq0_nI, pk_mul, nI_add, lt_T, lt_F, if_true, if_false, true_and, and_true, neg1_nI, neg1_lt, neg1_neg, lt_neg1, eqN_F, eq_self]
  exact ih h2 R2
set_option maxHeartbeats 8000000 in
theorem lw_9 {h : abH} (R : Rel hs h) (T0 : gT hs 0 = some (100, Ln)) (hL : Ln ≤ 384) {i : Nat} (h6 : i + 6 ≤ Ln) {Q : Option Value → abH → Prop} (ih : ∀ h2, Rel hs h2 → aW (d + 21) 220 18 [.ref 0, .ref 2, .ref 65, .int (nI (i + 6))] [] h2 Q) : aW (d + 21) 220 441 [.ref 0, .ref 2, .ref 65, .int (nI i)] [] h Q := by
  obtain ⟨p, P, tl, r1, -⟩ := id R
  obtain ⟨q1, q2, H, HM, -⟩ := r1
  have t0 : gT h 0 = some (100, Ln) := by unfold gT at *; rw [q1]; exact T0
  have a0 := aI_0 t0
  have t2 := gt_2 H
  have t65 := gt_65 HM
  simp (disch := first | omega | assumption | fail) only [s220_441, s220_442, s220_443, s220_444, s220_445, s220_446, s220_447, s220_448, s220_449, s220_450, s220_451, s220_452, isRf_ref, true_and, and_true, aPs_s, aPs_n, b01_0, b01_1, nI_clamp, ix_nI, inb_nI, lt_nI, eq_nI, nn_nI, eq0_nI, pk_mul, nI_add, lt_T, lt_F, if_true, if_false, true_and, and_true, neg1_nI, neg1_lt, neg1_neg, lt_neg1, eqN_F, eq_self, a0, q2]
  refine Pr_k (p_step R) (fun w h1 kp k => ?_)
  have u65 := kp.1 _ _ t65
  have u0 := kp.1 _ _ t0
  have b0 := aI_0 u0
  have g1 : gI h1 0 = gI hs 0 := (kp.2 Ln t0).trans q2
  simp (disch := first | omega | assumption | fail) only [s220_455, s220_456, s220_457, s220_458, s220_459, s220_460, s220_461, s220_462, s220_463, s220_464, s220_465, s220_466, isRf_ref, true_and, and_true, aPs_s, aPs_n, b01_0, b01_1, nI_clamp, ix_nI, inb_nI, lt_nI, eq_nI, nn_nI, eq0_nI, pk_mul, nI_add, lt_T, lt_F, if_true, if_false, true_and, and_true, neg1_nI, neg1_lt, neg1_neg, lt_neg1, eqN_F, eq_self, b0, g1]
  refine k _ (fun h2 R2 => ?_)
  simp (disch := first | omega | assumption | fail) only [s220_469, s220_472, s220_473, s220_1166, s220_1169, isRf_ref, true_and, and_true, aPs_s, aPs_n, b01_0, b01_1, nI_clamp, ix_nI, inb_nI, lt_nI, eq_nI, nn_nI, eq0_nI, pk_mul, nI_add, lt_T, lt_F, if_true, if_false, true_and, and_true, neg1_nI, neg1_lt, neg1_neg, lt_neg1, eqN_F, eq_self]
  exact ih h2 R2
set_option maxHeartbeats 8000000 in
theorem lw_10 {h : abH} (R : Rel hs h) (T0 : gT hs 0 = some (100, Ln)) (hL : Ln ≤ 384) {i : Nat} (h6 : i + 6 ≤ Ln) {Q : Option Value → abH → Prop} (ih : ∀ h2, Rel hs h2 → aW (d + 21) 220 18 [.ref 0, .ref 2, .ref 65, .int (nI (i + 6))] [] h2 Q) : aW (d + 21) 220 474 [.ref 0, .ref 2, .ref 65, .int (nI i)] [] h Q := by
  obtain ⟨p, P, tl, r1, -⟩ := id R
  obtain ⟨q1, q2, H, HM, -⟩ := r1
  have t0 : gT h 0 = some (100, Ln) := by unfold gT at *; rw [q1]; exact T0
  have a0 := aI_0 t0
  have t2 := gt_2 H
  have t65 := gt_65 HM
  simp (disch := first | omega | assumption | fail) only [s220_474, s220_475, s220_476, s220_477, s220_478, s220_479, s220_480, isRf_ref, true_and, and_true, aPs_s, aPs_n, b01_0, b01_1, nI_clamp, ix_nI, inb_nI, lt_nI, eq_nI, nn_nI, eq0_nI, pk_mul, nI_add, lt_T, lt_F, if_true, if_false, true_and, and_true, neg1_nI, neg1_lt, neg1_neg, lt_neg1, eqN_F, eq_self, a0, q2]
  refine Pr_k (p_least R) (fun w h1 kp k => ?_)
  have u65 := kp.1 _ _ t65
  have u0 := kp.1 _ _ t0
  have b0 := aI_0 u0
  have g1 : gI h1 0 = gI hs 0 := (kp.2 Ln t0).trans q2
  simp (disch := first | omega | assumption | fail) only [s220_483, s220_484, s220_485, s220_486, s220_487, s220_488, s220_489, isRf_ref, true_and, and_true, aPs_s, aPs_n, b01_0, b01_1, nI_clamp, ix_nI, inb_nI, lt_nI, eq_nI, nn_nI, eq0_nI, pk_mul, nI_add, lt_T, lt_F, if_true, if_false, true_and, and_true, neg1_nI, neg1_lt, neg1_neg, lt_neg1, eqN_F, eq_self, b0, g1]
  refine k _ (fun h2 R2 => ?_)
  simp (disch := first | omega | assumption | fail) only [s220_492, s220_495, s220_496, s220_1166, s220_1169, isRf_ref, true_and, and_true, aPs_s, aPs_n, b01_0, b01_1, nI_clamp, ix_nI, inb_nI, lt_nI, eq_nI, nn_nI, eq0_nI, pk_mul, nI_add, lt_T, lt_F, if_true, if_false, true_and, and_true, neg1_nI, neg1_lt, neg1_neg, lt_neg1, eqN_F, eq_self]
  exact ih h2 R2
set_option maxHeartbeats 8000000 in
theorem lw_11 {h : abH} (R : Rel hs h) (T0 : gT hs 0 = some (100, Ln)) (hL : Ln ≤ 384) {i : Nat} (h6 : i + 6 ≤ Ln) {Q : Option Value → abH → Prop} (ih : ∀ h2, Rel hs h2 → aW (d + 21) 220 18 [.ref 0, .ref 2, .ref 65, .int (nI (i + 6))] [] h2 Q) : aW (d + 21) 220 497 [.ref 0, .ref 2, .ref 65, .int (nI i)] [] h Q := by
  obtain ⟨p, P, tl, r1, -⟩ := id R
  obtain ⟨q1, q2, H, HM, -⟩ := r1
  have t0 : gT h 0 = some (100, Ln) := by unfold gT at *; rw [q1]; exact T0
  have a0 := aI_0 t0
  have t2 := gt_2 H
  have t65 := gt_65 HM
  simp (disch := first | omega | assumption | fail) only [s220_497, s220_498, s220_499, s220_500, s220_501, s220_502, s220_503, isRf_ref, true_and, and_true, aPs_s, aPs_n, b01_0, b01_1, nI_clamp, ix_nI, inb_nI, lt_nI, eq_nI, nn_nI, eq0_nI, pk_mul, nI_add, lt_T, lt_F, if_true, if_false, true_and, and_true, neg1_nI, neg1_lt, neg1_neg, lt_neg1, eqN_F, eq_self, a0, q2]
  refine Pr_k (p_height R) (fun w h1 kp k => ?_)
  have u65 := kp.1 _ _ t65
  have u0 := kp.1 _ _ t0
  have b0 := aI_0 u0
  have g1 : gI h1 0 = gI hs 0 := (kp.2 Ln t0).trans q2
  simp (disch := first | omega | assumption | fail) only [s220_506, s220_507, s220_508, s220_509, s220_510, s220_511, s220_512, isRf_ref, true_and, and_true, aPs_s, aPs_n, b01_0, b01_1, nI_clamp, ix_nI, inb_nI, lt_nI, eq_nI, nn_nI, eq0_nI, pk_mul, nI_add, lt_T, lt_F, if_true, if_false, true_and, and_true, neg1_nI, neg1_lt, neg1_neg, lt_neg1, eqN_F, eq_self, b0, g1]
  refine k _ (fun h2 R2 => ?_)
  simp (disch := first | omega | assumption | fail) only [s220_515, s220_518, s220_519, s220_1166, s220_1169, isRf_ref, true_and, and_true, aPs_s, aPs_n, b01_0, b01_1, nI_clamp, ix_nI, inb_nI, lt_nI, eq_nI, nn_nI, eq0_nI, pk_mul, nI_add, lt_T, lt_F, if_true, if_false, true_and, and_true, neg1_nI, neg1_lt, neg1_neg, lt_neg1, eqN_F, eq_self]
  exact ih h2 R2
set_option maxHeartbeats 8000000 in
theorem lw_12 {h : abH} (R : Rel hs h) (T0 : gT hs 0 = some (100, Ln)) (hL : Ln ≤ 384) {i : Nat} (h6 : i + 6 ≤ Ln) {Q : Option Value → abH → Prop} (ih : ∀ h2, Rel hs h2 → aW (d + 21) 220 18 [.ref 0, .ref 2, .ref 65, .int (nI (i + 6))] [] h2 Q) : aW (d + 21) 220 520 [.ref 0, .ref 2, .ref 65, .int (nI i)] [] h Q := by
  obtain ⟨p, P, tl, r1, -⟩ := id R
  obtain ⟨q1, q2, H, HM, -⟩ := r1
  have t0 : gT h 0 = some (100, Ln) := by unfold gT at *; rw [q1]; exact T0
  have a0 := aI_0 t0
  have t2 := gt_2 H
  have t65 := gt_65 HM
  simp (disch := first | omega | assumption | fail) only [s220_520, s220_521, s220_522, s220_523, s220_524, s220_525, s220_526, isRf_ref, true_and, and_true, aPs_s, aPs_n, b01_0, b01_1, nI_clamp, ix_nI, inb_nI, lt_nI, eq_nI, nn_nI, eq0_nI, pk_mul, nI_add, lt_T, lt_F, if_true, if_false, true_and, and_true, neg1_nI, neg1_lt, neg1_neg, lt_neg1, eqN_F, eq_self, a0, q2]
  refine Pr_k (p_hAt R) (fun w h1 kp k => ?_)
  have u65 := kp.1 _ _ t65
  have u0 := kp.1 _ _ t0
  have b0 := aI_0 u0
  have g1 : gI h1 0 = gI hs 0 := (kp.2 Ln t0).trans q2
  simp (disch := first | omega | assumption | fail) only [s220_529, s220_530, s220_531, s220_532, s220_533, s220_534, s220_535, isRf_ref, true_and, and_true, aPs_s, aPs_n, b01_0, b01_1, nI_clamp, ix_nI, inb_nI, lt_nI, eq_nI, nn_nI, eq0_nI, pk_mul, nI_add, lt_T, lt_F, if_true, if_false, true_and, and_true, neg1_nI, neg1_lt, neg1_neg, lt_neg1, eqN_F, eq_self, b0, g1]
  refine k _ (fun h2 R2 => ?_)
  simp (disch := first | omega | assumption | fail) only [s220_538, s220_541, s220_542, s220_1166, s220_1169, isRf_ref, true_and, and_true, aPs_s, aPs_n, b01_0, b01_1, nI_clamp, ix_nI, inb_nI, lt_nI, eq_nI, nn_nI, eq0_nI, pk_mul, nI_add, lt_T, lt_F, if_true, if_false, true_and, and_true, neg1_nI, neg1_lt, neg1_neg, lt_neg1, eqN_F, eq_self]
  exact ih h2 R2
set_option maxHeartbeats 8000000 in
theorem lw_13 {h : abH} (R : Rel hs h) (T0 : gT hs 0 = some (100, Ln)) (hL : Ln ≤ 384) {i : Nat} (h6 : i + 6 ≤ Ln) {Q : Option Value → abH → Prop} (ih : ∀ h2, Rel hs h2 → aW (d + 21) 220 18 [.ref 0, .ref 2, .ref 65, .int (nI (i + 6))] [] h2 Q) : aW (d + 21) 220 543 [.ref 0, .ref 2, .ref 65, .int (nI i)] [] h Q := by
  obtain ⟨p, P, tl, r1, -⟩ := id R
  obtain ⟨q1, q2, H, HM, -⟩ := r1
  have t0 : gT h 0 = some (100, Ln) := by unfold gT at *; rw [q1]; exact T0
  have a0 := aI_0 t0
  have t2 := gt_2 H
  have t65 := gt_65 HM
  simp (disch := first | omega | assumption | fail) only [s220_543, s220_544, s220_545, s220_546, s220_547, s220_548, s220_549, s220_550, s220_551, s220_552, s220_553, s220_554, isRf_ref, true_and, and_true, aPs_s, aPs_n, b01_0, b01_1, nI_clamp, ix_nI, inb_nI, lt_nI, eq_nI, nn_nI, eq0_nI, pk_mul, nI_add, lt_T, lt_F, if_true, if_false, true_and, and_true, neg1_nI, neg1_lt, neg1_neg, lt_neg1, eqN_F, eq_self, a0, q2]
  refine Pr_k (p_lay R) (fun w h1 kp k => ?_)
  have u65 := kp.1 _ _ t65
  have u0 := kp.1 _ _ t0
  have b0 := aI_0 u0
  have g1 : gI h1 0 = gI hs 0 := (kp.2 Ln t0).trans q2
  simp (disch := first | omega | assumption | fail) only [s220_557, s220_558, s220_559, s220_560, s220_561, s220_562, s220_563, s220_564, s220_565, s220_566, s220_567, s220_568, isRf_ref, true_and, and_true, aPs_s, aPs_n, b01_0, b01_1, nI_clamp, ix_nI, inb_nI, lt_nI, eq_nI, nn_nI, eq0_nI, pk_mul, nI_add, lt_T, lt_F, if_true, if_false, true_and, and_true, neg1_nI, neg1_lt, neg1_neg, lt_neg1, eqN_F, eq_self, b0, g1]
  refine k _ (fun h2 R2 => ?_)
  simp (disch := first | omega | assumption | fail) only [s220_571, s220_574, s220_575, s220_1166, s220_1169, isRf_ref, true_and, and_true, aPs_s, aPs_n, b01_0, b01_1, nI_clamp, ix_nI, inb_nI, lt_nI, eq_nI, nn_nI, eq0_nI, pk_mul, nI_add, lt_T, lt_F, if_true, if_false, true_and, and_true, neg1_nI, neg1_lt, neg1_neg, lt_neg1, eqN_F, eq_self]
  exact ih h2 R2
set_option maxHeartbeats 8000000 in
theorem lw_14 {h : abH} (R : Rel hs h) (T0 : gT hs 0 = some (100, Ln)) (hL : Ln ≤ 384) {i : Nat} (h6 : i + 6 ≤ Ln) {Q : Option Value → abH → Prop} (ih : ∀ h2, Rel hs h2 → aW (d + 21) 220 18 [.ref 0, .ref 2, .ref 65, .int (nI (i + 6))] [] h2 Q) : aW (d + 21) 220 576 [.ref 0, .ref 2, .ref 65, .int (nI i)] [] h Q := by
  obtain ⟨p, P, tl, r1, -⟩ := id R
  obtain ⟨q1, q2, H, HM, -⟩ := r1
  have t0 : gT h 0 = some (100, Ln) := by unfold gT at *; rw [q1]; exact T0
  have a0 := aI_0 t0
  have t2 := gt_2 H
  have t65 := gt_65 HM
  simp (disch := first | omega | assumption | fail) only [s220_576, s220_577, isRf_ref, true_and, and_true, aPs_s, aPs_n, b01_0, b01_1, nI_clamp, ix_nI, inb_nI, lt_nI, eq_nI, nn_nI, eq0_nI, pk_mul, nI_add, lt_T, lt_F, if_true, if_false, true_and, and_true, neg1_nI, neg1_lt, neg1_neg, lt_neg1, eqN_F, eq_self, a0, q2]
  refine Pr_k (p_clash R) (fun w h1 kp k => ?_)
  have u65 := kp.1 _ _ t65
  have u0 := kp.1 _ _ t0
  have b0 := aI_0 u0
  have g1 : gI h1 0 = gI hs 0 := (kp.2 Ln t0).trans q2
  simp (disch := first | omega | assumption | fail) only [s220_580, s220_581, isRf_ref, true_and, and_true, aPs_s, aPs_n, b01_0, b01_1, nI_clamp, ix_nI, inb_nI, lt_nI, eq_nI, nn_nI, eq0_nI, pk_mul, nI_add, lt_T, lt_F, if_true, if_false, true_and, and_true, neg1_nI, neg1_lt, neg1_neg, lt_neg1, eqN_F, eq_self, b0, g1]
  refine k _ (fun h2 R2 => ?_)
  simp (disch := first | omega | assumption | fail) only [s220_584, s220_587, s220_588, s220_1166, s220_1169, isRf_ref, true_and, and_true, aPs_s, aPs_n, b01_0, b01_1, nI_clamp, ix_nI, inb_nI, lt_nI, eq_nI, nn_nI, eq0_nI, pk_mul, nI_add, lt_T, lt_F, if_true, if_false, true_and, and_true, neg1_nI, neg1_lt, neg1_neg, lt_neg1, eqN_F, eq_self]
  exact ih h2 R2
set_option maxHeartbeats 8000000 in
theorem lw_15 {h : abH} (R : Rel hs h) (T0 : gT hs 0 = some (100, Ln)) (hL : Ln ≤ 384) {i : Nat} (h6 : i + 6 ≤ Ln) {Q : Option Value → abH → Prop} (ih : ∀ h2, Rel hs h2 → aW (d + 21) 220 18 [.ref 0, .ref 2, .ref 65, .int (nI (i + 6))] [] h2 Q) : aW (d + 21) 220 589 [.ref 0, .ref 2, .ref 65, .int (nI i)] [] h Q := by
  obtain ⟨p, P, tl, r1, -⟩ := id R
  obtain ⟨q1, q2, H, HM, -⟩ := r1
  have t0 : gT h 0 = some (100, Ln) := by unfold gT at *; rw [q1]; exact T0
  have a0 := aI_0 t0
  have t2 := gt_2 H
  have t65 := gt_65 HM
  simp (disch := first | omega | assumption | fail) only [s220_589, s220_590, s220_591, s220_592, s220_593, s220_594, s220_595, s220_596, s220_597, s220_598, s220_599, s220_600, s220_601, s220_602, s220_603, s220_604, s220_605, isRf_ref, true_and, and_true, aPs_s, aPs_n, b01_0, b01_1, nI_clamp, ix_nI, inb_nI, lt_nI, eq_nI, nn_nI, eq0_nI, pk_mul, nI_add, lt_T, lt_F, if_true, if_false, true_and, and_true, neg1_nI, neg1_lt, neg1_neg, lt_neg1, eqN_F, eq_self, a0, q2]
  refine Pr_k (p_send R) (fun w h1 kp k => ?_)
  have u65 := kp.1 _ _ t65
  have u0 := kp.1 _ _ t0
  have b0 := aI_0 u0
  have g1 : gI h1 0 = gI hs 0 := (kp.2 Ln t0).trans q2
  simp (disch := first | omega | assumption | fail) only [s220_608, s220_609, s220_610, s220_611, s220_612, s220_613, s220_614, s220_615, s220_616, s220_617, s220_618, s220_619, s220_620, s220_621, s220_622, s220_623, s220_624, isRf_ref, true_and, and_true, aPs_s, aPs_n, b01_0, b01_1, nI_clamp, ix_nI, inb_nI, lt_nI, eq_nI, nn_nI, eq0_nI, pk_mul, nI_add, lt_T, lt_F, if_true, if_false, true_and, and_true, neg1_nI, neg1_lt, neg1_neg, lt_neg1, eqN_F, eq_self, b0, g1]
  refine k _ (fun h2 R2 => ?_)
  simp (disch := first | omega | assumption | fail) only [s220_627, s220_630, s220_631, s220_1166, s220_1169, isRf_ref, true_and, and_true, aPs_s, aPs_n, b01_0, b01_1, nI_clamp, ix_nI, inb_nI, lt_nI, eq_nI, nn_nI, eq0_nI, pk_mul, nI_add, lt_T, lt_F, if_true, if_false, true_and, and_true, neg1_nI, neg1_lt, neg1_neg, lt_neg1, eqN_F, eq_self]
  exact ih h2 R2
set_option maxHeartbeats 8000000 in
theorem lw_16 {h : abH} (R : Rel hs h) (T0 : gT hs 0 = some (100, Ln)) (hL : Ln ≤ 384) {i : Nat} (h6 : i + 6 ≤ Ln) {Q : Option Value → abH → Prop} (ih : ∀ h2, Rel hs h2 → aW (d + 21) 220 18 [.ref 0, .ref 2, .ref 65, .int (nI (i + 6))] [] h2 Q) : aW (d + 21) 220 632 [.ref 0, .ref 2, .ref 65, .int (nI i)] [] h Q := by
  obtain ⟨p, P, tl, r1, -⟩ := id R
  obtain ⟨q1, q2, H, HM, -⟩ := r1
  have t0 : gT h 0 = some (100, Ln) := by unfold gT at *; rw [q1]; exact T0
  have a0 := aI_0 t0
  have t2 := gt_2 H
  have t65 := gt_65 HM
  simp (disch := first | omega | assumption | fail) only [s220_632, s220_633, isRf_ref, true_and, and_true, aPs_s, aPs_n, b01_0, b01_1, nI_clamp, ix_nI, inb_nI, lt_nI, eq_nI, nn_nI, eq0_nI, pk_mul, nI_add, lt_T, lt_F, if_true, if_false, true_and, and_true, neg1_nI, neg1_lt, neg1_neg, lt_neg1, eqN_F, eq_self, a0, q2]
  refine Pr_k (p_outs R) (fun w h1 kp k => ?_)
  have u65 := kp.1 _ _ t65
  have u0 := kp.1 _ _ t0
  have b0 := aI_0 u0
  have g1 : gI h1 0 = gI hs 0 := (kp.2 Ln t0).trans q2
  simp (disch := first | omega | assumption | fail) only [s220_636, s220_637, isRf_ref, true_and, and_true, aPs_s, aPs_n, b01_0, b01_1, nI_clamp, ix_nI, inb_nI, lt_nI, eq_nI, nn_nI, eq0_nI, pk_mul, nI_add, lt_T, lt_F, if_true, if_false, true_and, and_true, neg1_nI, neg1_lt, neg1_neg, lt_neg1, eqN_F, eq_self, b0, g1]
  refine k _ (fun h2 R2 => ?_)
  simp (disch := first | omega | assumption | fail) only [s220_640, s220_643, s220_644, s220_1166, s220_1169, isRf_ref, true_and, and_true, aPs_s, aPs_n, b01_0, b01_1, nI_clamp, ix_nI, inb_nI, lt_nI, eq_nI, nn_nI, eq0_nI, pk_mul, nI_add, lt_T, lt_F, if_true, if_false, true_and, and_true, neg1_nI, neg1_lt, neg1_neg, lt_neg1, eqN_F, eq_self]
  exact ih h2 R2
set_option maxHeartbeats 8000000 in
theorem lw_17 {h : abH} (R : Rel hs h) (T0 : gT hs 0 = some (100, Ln)) (hL : Ln ≤ 384) {i : Nat} (h6 : i + 6 ≤ Ln) {Q : Option Value → abH → Prop} (ih : ∀ h2, Rel hs h2 → aW (d + 21) 220 18 [.ref 0, .ref 2, .ref 65, .int (nI (i + 6))] [] h2 Q) : aW (d + 21) 220 645 [.ref 0, .ref 2, .ref 65, .int (nI i)] [] h Q := by
  obtain ⟨p, P, tl, r1, -⟩ := id R
  obtain ⟨q1, q2, H, HM, -⟩ := r1
  have t0 : gT h 0 = some (100, Ln) := by unfold gT at *; rw [q1]; exact T0
  have a0 := aI_0 t0
  have t2 := gt_2 H
  have t65 := gt_65 HM
  simp (disch := first | omega | assumption | fail) only [s220_645, s220_646, s220_647, s220_648, s220_649, s220_650, s220_651, isRf_ref, true_and, and_true, aPs_s, aPs_n, b01_0, b01_1, nI_clamp, ix_nI, inb_nI, lt_nI, eq_nI, nn_nI, eq0_nI, pk_mul, nI_add, lt_T, lt_F, if_true, if_false, true_and, and_true, neg1_nI, neg1_lt, neg1_neg, lt_neg1, eqN_F, eq_self, a0, q2]
  refine Pr_k (p_pair R) (fun w h1 kp k => ?_)
  have u65 := kp.1 _ _ t65
  have u0 := kp.1 _ _ t0
  have b0 := aI_0 u0
  have g1 : gI h1 0 = gI hs 0 := (kp.2 Ln t0).trans q2
  simp (disch := first | omega | assumption | fail) only [s220_654, s220_655, s220_656, s220_657, s220_658, s220_659, s220_660, isRf_ref, true_and, and_true, aPs_s, aPs_n, b01_0, b01_1, nI_clamp, ix_nI, inb_nI, lt_nI, eq_nI, nn_nI, eq0_nI, pk_mul, nI_add, lt_T, lt_F, if_true, if_false, true_and, and_true, neg1_nI, neg1_lt, neg1_neg, lt_neg1, eqN_F, eq_self, b0, g1]
  refine k _ (fun h2 R2 => ?_)
  simp (disch := first | omega | assumption | fail) only [s220_663, s220_666, s220_667, s220_1166, s220_1169, isRf_ref, true_and, and_true, aPs_s, aPs_n, b01_0, b01_1, nI_clamp, ix_nI, inb_nI, lt_nI, eq_nI, nn_nI, eq0_nI, pk_mul, nI_add, lt_T, lt_F, if_true, if_false, true_and, and_true, neg1_nI, neg1_lt, neg1_neg, lt_neg1, eqN_F, eq_self]
  exact ih h2 R2
set_option maxHeartbeats 8000000 in
theorem lw_18 {h : abH} (R : Rel hs h) (T0 : gT hs 0 = some (100, Ln)) (hL : Ln ≤ 384) {i : Nat} (h6 : i + 6 ≤ Ln) {Q : Option Value → abH → Prop} (ih : ∀ h2, Rel hs h2 → aW (d + 21) 220 18 [.ref 0, .ref 2, .ref 65, .int (nI (i + 6))] [] h2 Q) : aW (d + 21) 220 668 [.ref 0, .ref 2, .ref 65, .int (nI i)] [] h Q := by
  obtain ⟨p, P, tl, r1, -⟩ := id R
  obtain ⟨q1, q2, H, HM, -⟩ := r1
  have t0 : gT h 0 = some (100, Ln) := by unfold gT at *; rw [q1]; exact T0
  have a0 := aI_0 t0
  have t2 := gt_2 H
  have t65 := gt_65 HM
  simp (disch := first | omega | assumption | fail) only [s220_668, s220_669, s220_670, s220_671, s220_672, s220_673, s220_674, isRf_ref, true_and, and_true, aPs_s, aPs_n, b01_0, b01_1, nI_clamp, ix_nI, inb_nI, lt_nI, eq_nI, nn_nI, eq0_nI, pk_mul, nI_add, lt_T, lt_F, if_true, if_false, true_and, and_true, neg1_nI, neg1_lt, neg1_neg, lt_neg1, eqN_F, eq_self, a0, q2]
  refine Pr_k (p_phase R) (fun w h1 kp k => ?_)
  have u65 := kp.1 _ _ t65
  have u0 := kp.1 _ _ t0
  have b0 := aI_0 u0
  have g1 : gI h1 0 = gI hs 0 := (kp.2 Ln t0).trans q2
  simp (disch := first | omega | assumption | fail) only [s220_677, s220_678, s220_679, s220_680, s220_681, s220_682, s220_683, isRf_ref, true_and, and_true, aPs_s, aPs_n, b01_0, b01_1, nI_clamp, ix_nI, inb_nI, lt_nI, eq_nI, nn_nI, eq0_nI, pk_mul, nI_add, lt_T, lt_F, if_true, if_false, true_and, and_true, neg1_nI, neg1_lt, neg1_neg, lt_neg1, eqN_F, eq_self, b0, g1]
  refine k _ (fun h2 R2 => ?_)
  simp (disch := first | omega | assumption | fail) only [s220_686, s220_689, s220_690, s220_1166, s220_1169, isRf_ref, true_and, and_true, aPs_s, aPs_n, b01_0, b01_1, nI_clamp, ix_nI, inb_nI, lt_nI, eq_nI, nn_nI, eq0_nI, pk_mul, nI_add, lt_T, lt_F, if_true, if_false, true_and, and_true, neg1_nI, neg1_lt, neg1_neg, lt_neg1, eqN_F, eq_self]
  exact ih h2 R2
set_option maxHeartbeats 8000000 in
theorem lw_19 {h : abH} (R : Rel hs h) (T0 : gT hs 0 = some (100, Ln)) (hL : Ln ≤ 384) {i : Nat} (h6 : i + 6 ≤ Ln) {Q : Option Value → abH → Prop} (ih : ∀ h2, Rel hs h2 → aW (d + 21) 220 18 [.ref 0, .ref 2, .ref 65, .int (nI (i + 6))] [] h2 Q) : aW (d + 21) 220 691 [.ref 0, .ref 2, .ref 65, .int (nI i)] [] h Q := by
  obtain ⟨p, P, tl, r1, -⟩ := id R
  obtain ⟨q1, q2, H, HM, -⟩ := r1
  have t0 : gT h 0 = some (100, Ln) := by unfold gT at *; rw [q1]; exact T0
  have a0 := aI_0 t0
  have t2 := gt_2 H
  have t65 := gt_65 HM
  simp (disch := first | omega | assumption | fail) only [s220_691, s220_692, s220_693, s220_694, s220_695, s220_696, s220_697, isRf_ref, true_and, and_true, aPs_s, aPs_n, b01_0, b01_1, nI_clamp, ix_nI, inb_nI, lt_nI, eq_nI, nn_nI, eq0_nI, pk_mul, nI_add, lt_T, lt_F, if_true, if_false, true_and, and_true, neg1_nI, neg1_lt, neg1_neg, lt_neg1, eqN_F, eq_self, a0, q2]
  refine Pr_k (p_rule R) (fun w h1 kp k => ?_)
  have u65 := kp.1 _ _ t65
  have u0 := kp.1 _ _ t0
  have b0 := aI_0 u0
  have g1 : gI h1 0 = gI hs 0 := (kp.2 Ln t0).trans q2
  simp (disch := first | omega | assumption | fail) only [s220_700, s220_701, s220_702, s220_703, s220_704, s220_705, s220_706, isRf_ref, true_and, and_true, aPs_s, aPs_n, b01_0, b01_1, nI_clamp, ix_nI, inb_nI, lt_nI, eq_nI, nn_nI, eq0_nI, pk_mul, nI_add, lt_T, lt_F, if_true, if_false, true_and, and_true, neg1_nI, neg1_lt, neg1_neg, lt_neg1, eqN_F, eq_self, b0, g1]
  refine k _ (fun h2 R2 => ?_)
  simp (disch := first | omega | assumption | fail) only [s220_709, s220_712, s220_713, s220_1166, s220_1169, isRf_ref, true_and, and_true, aPs_s, aPs_n, b01_0, b01_1, nI_clamp, ix_nI, inb_nI, lt_nI, eq_nI, nn_nI, eq0_nI, pk_mul, nI_add, lt_T, lt_F, if_true, if_false, true_and, and_true, neg1_nI, neg1_lt, neg1_neg, lt_neg1, eqN_F, eq_self]
  exact ih h2 R2
set_option maxHeartbeats 8000000 in
theorem lw_20 {h : abH} (R : Rel hs h) (T0 : gT hs 0 = some (100, Ln)) (hL : Ln ≤ 384) {i : Nat} (h6 : i + 6 ≤ Ln) {Q : Option Value → abH → Prop} (ih : ∀ h2, Rel hs h2 → aW (d + 21) 220 18 [.ref 0, .ref 2, .ref 65, .int (nI (i + 6))] [] h2 Q) : aW (d + 21) 220 714 [.ref 0, .ref 2, .ref 65, .int (nI i)] [] h Q := by
  obtain ⟨p, P, tl, r1, -⟩ := id R
  obtain ⟨q1, q2, H, HM, -⟩ := r1
  have t0 : gT h 0 = some (100, Ln) := by unfold gT at *; rw [q1]; exact T0
  have a0 := aI_0 t0
  have t2 := gt_2 H
  have t65 := gt_65 HM
  simp (disch := first | omega | assumption | fail) only [s220_714, s220_715, s220_716, s220_717, s220_718, s220_719, s220_720, isRf_ref, true_and, and_true, aPs_s, aPs_n, b01_0, b01_1, nI_clamp, ix_nI, inb_nI, lt_nI, eq_nI, nn_nI, eq0_nI, pk_mul, nI_add, lt_T, lt_F, if_true, if_false, true_and, and_true, neg1_nI, neg1_lt, neg1_neg, lt_neg1, eqN_F, eq_self, a0, q2]
  refine Pr_k (p_go R) (fun w h1 kp k => ?_)
  have u65 := kp.1 _ _ t65
  have u0 := kp.1 _ _ t0
  have b0 := aI_0 u0
  have g1 : gI h1 0 = gI hs 0 := (kp.2 Ln t0).trans q2
  simp (disch := first | omega | assumption | fail) only [s220_723, s220_724, s220_725, s220_726, s220_727, s220_728, s220_729, isRf_ref, true_and, and_true, aPs_s, aPs_n, b01_0, b01_1, nI_clamp, ix_nI, inb_nI, lt_nI, eq_nI, nn_nI, eq0_nI, pk_mul, nI_add, lt_T, lt_F, if_true, if_false, true_and, and_true, neg1_nI, neg1_lt, neg1_neg, lt_neg1, eqN_F, eq_self, b0, g1]
  refine k _ (fun h2 R2 => ?_)
  simp (disch := first | omega | assumption | fail) only [s220_732, s220_735, s220_736, s220_1166, s220_1169, isRf_ref, true_and, and_true, aPs_s, aPs_n, b01_0, b01_1, nI_clamp, ix_nI, inb_nI, lt_nI, eq_nI, nn_nI, eq0_nI, pk_mul, nI_add, lt_T, lt_F, if_true, if_false, true_and, and_true, neg1_nI, neg1_lt, neg1_neg, lt_neg1, eqN_F, eq_self]
  exact ih h2 R2
set_option maxHeartbeats 8000000 in
theorem lw_21 {h : abH} (R : Rel hs h) (T0 : gT hs 0 = some (100, Ln)) (hL : Ln ≤ 384) {i : Nat} (h6 : i + 6 ≤ Ln) {Q : Option Value → abH → Prop} (ih : ∀ h2, Rel hs h2 → aW (d + 21) 220 18 [.ref 0, .ref 2, .ref 65, .int (nI (i + 6))] [] h2 Q) : aW (d + 21) 220 737 [.ref 0, .ref 2, .ref 65, .int (nI i)] [] h Q := by
  obtain ⟨p, P, tl, r1, -⟩ := id R
  obtain ⟨q1, q2, H, HM, -⟩ := r1
  have t0 : gT h 0 = some (100, Ln) := by unfold gT at *; rw [q1]; exact T0
  have a0 := aI_0 t0
  have t2 := gt_2 H
  have t65 := gt_65 HM
  simp (disch := first | omega | assumption | fail) only [s220_737, s220_738, isRf_ref, true_and, and_true, aPs_s, aPs_n, b01_0, b01_1, nI_clamp, ix_nI, inb_nI, lt_nI, eq_nI, nn_nI, eq0_nI, pk_mul, nI_add, lt_T, lt_F, if_true, if_false, true_and, and_true, neg1_nI, neg1_lt, neg1_neg, lt_neg1, eqN_F, eq_self, a0, q2]
  refine Pr_k (p_compact R) (fun w h1 kp k => ?_)
  have u65 := kp.1 _ _ t65
  have u0 := kp.1 _ _ t0
  have b0 := aI_0 u0
  have g1 : gI h1 0 = gI hs 0 := (kp.2 Ln t0).trans q2
  simp (disch := first | omega | assumption | fail) only [s220_741, s220_742, isRf_ref, true_and, and_true, aPs_s, aPs_n, b01_0, b01_1, nI_clamp, ix_nI, inb_nI, lt_nI, eq_nI, nn_nI, eq0_nI, pk_mul, nI_add, lt_T, lt_F, if_true, if_false, true_and, and_true, neg1_nI, neg1_lt, neg1_neg, lt_neg1, eqN_F, eq_self, b0, g1]
  refine k _ (fun h2 R2 => ?_)
  simp (disch := first | omega | assumption | fail) only [s220_745, s220_748, s220_749, s220_1166, s220_1169, isRf_ref, true_and, and_true, aPs_s, aPs_n, b01_0, b01_1, nI_clamp, ix_nI, inb_nI, lt_nI, eq_nI, nn_nI, eq0_nI, pk_mul, nI_add, lt_T, lt_F, if_true, if_false, true_and, and_true, neg1_nI, neg1_lt, neg1_neg, lt_neg1, eqN_F, eq_self]
  exact ih h2 R2
set_option maxHeartbeats 8000000 in
theorem lw_22 {h : abH} (R : Rel hs h) (T0 : gT hs 0 = some (100, Ln)) (hL : Ln ≤ 384) {i : Nat} (h6 : i + 6 ≤ Ln) {Q : Option Value → abH → Prop} (ih : ∀ h2, Rel hs h2 → aW (d + 21) 220 18 [.ref 0, .ref 2, .ref 65, .int (nI (i + 6))] [] h2 Q) : aW (d + 21) 220 750 [.ref 0, .ref 2, .ref 65, .int (nI i)] [] h Q := by
  obtain ⟨p, P, tl, r1, -⟩ := id R
  obtain ⟨q1, q2, H, HM, -⟩ := r1
  have t0 : gT h 0 = some (100, Ln) := by unfold gT at *; rw [q1]; exact T0
  have a0 := aI_0 t0
  have t2 := gt_2 H
  have t65 := gt_65 HM
  simp (disch := first | omega | assumption | fail) only [s220_750, s220_751, s220_752, s220_753, s220_754, s220_755, s220_756, s220_757, s220_758, s220_759, s220_760, s220_761, isRf_ref, true_and, and_true, aPs_s, aPs_n, b01_0, b01_1, nI_clamp, ix_nI, inb_nI, lt_nI, eq_nI, nn_nI, eq0_nI, pk_mul, nI_add, lt_T, lt_F, if_true, if_false, true_and, and_true, neg1_nI, neg1_lt, neg1_neg, lt_neg1, eqN_F, eq_self, a0, q2]
  refine Pr_k (p_room R) (fun w h1 kp k => ?_)
  have u65 := kp.1 _ _ t65
  have u0 := kp.1 _ _ t0
  have b0 := aI_0 u0
  have g1 : gI h1 0 = gI hs 0 := (kp.2 Ln t0).trans q2
  simp (disch := first | omega | assumption | fail) only [s220_764, s220_765, s220_766, s220_767, s220_768, s220_769, s220_770, s220_771, s220_772, s220_773, s220_774, s220_775, isRf_ref, true_and, and_true, aPs_s, aPs_n, b01_0, b01_1, nI_clamp, ix_nI, inb_nI, lt_nI, eq_nI, nn_nI, eq0_nI, pk_mul, nI_add, lt_T, lt_F, if_true, if_false, true_and, and_true, neg1_nI, neg1_lt, neg1_neg, lt_neg1, eqN_F, eq_self, b0, g1]
  refine k _ (fun h2 R2 => ?_)
  simp (disch := first | omega | assumption | fail) only [s220_778, s220_781, s220_782, s220_1166, s220_1169, isRf_ref, true_and, and_true, aPs_s, aPs_n, b01_0, b01_1, nI_clamp, ix_nI, inb_nI, lt_nI, eq_nI, nn_nI, eq0_nI, pk_mul, nI_add, lt_T, lt_F, if_true, if_false, true_and, and_true, neg1_nI, neg1_lt, neg1_neg, lt_neg1, eqN_F, eq_self]
  exact ih h2 R2
set_option maxHeartbeats 8000000 in
theorem lw_23 {h : abH} (R : Rel hs h) (T0 : gT hs 0 = some (100, Ln)) (hL : Ln ≤ 384) {i : Nat} (h6 : i + 6 ≤ Ln) {Q : Option Value → abH → Prop} (ih : ∀ h2, Rel hs h2 → aW (d + 21) 220 18 [.ref 0, .ref 2, .ref 65, .int (nI (i + 6))] [] h2 Q) : aW (d + 21) 220 783 [.ref 0, .ref 2, .ref 65, .int (nI i)] [] h Q := by
  obtain ⟨p, P, tl, r1, -⟩ := id R
  obtain ⟨q1, q2, H, HM, -⟩ := r1
  have t0 : gT h 0 = some (100, Ln) := by unfold gT at *; rw [q1]; exact T0
  have a0 := aI_0 t0
  have t2 := gt_2 H
  have t65 := gt_65 HM
  simp (disch := first | omega | assumption | fail) only [s220_783, s220_784, s220_785, s220_786, s220_787, s220_788, s220_789, isRf_ref, true_and, and_true, aPs_s, aPs_n, b01_0, b01_1, nI_clamp, ix_nI, inb_nI, lt_nI, eq_nI, nn_nI, eq0_nI, pk_mul, nI_add, lt_T, lt_F, if_true, if_false, true_and, and_true, neg1_nI, neg1_lt, neg1_neg, lt_neg1, eqN_F, eq_self, a0, q2]
  refine Pr_k (p_holder R) (fun w h1 kp k => ?_)
  have u65 := kp.1 _ _ t65
  have u0 := kp.1 _ _ t0
  have b0 := aI_0 u0
  have g1 : gI h1 0 = gI hs 0 := (kp.2 Ln t0).trans q2
  simp (disch := first | omega | assumption | fail) only [s220_792, s220_793, s220_794, s220_795, s220_796, s220_797, s220_798, isRf_ref, true_and, and_true, aPs_s, aPs_n, b01_0, b01_1, nI_clamp, ix_nI, inb_nI, lt_nI, eq_nI, nn_nI, eq0_nI, pk_mul, nI_add, lt_T, lt_F, if_true, if_false, true_and, and_true, neg1_nI, neg1_lt, neg1_neg, lt_neg1, eqN_F, eq_self, b0, g1]
  refine k _ (fun h2 R2 => ?_)
  simp (disch := first | omega | assumption | fail) only [s220_801, s220_804, s220_805, s220_1166, s220_1169, isRf_ref, true_and, and_true, aPs_s, aPs_n, b01_0, b01_1, nI_clamp, ix_nI, inb_nI, lt_nI, eq_nI, nn_nI, eq0_nI, pk_mul, nI_add, lt_T, lt_F, if_true, if_false, true_and, and_true, neg1_nI, neg1_lt, neg1_neg, lt_neg1, eqN_F, eq_self]
  exact ih h2 R2
set_option maxHeartbeats 8000000 in
theorem lw_24 {h : abH} (R : Rel hs h) (T0 : gT hs 0 = some (100, Ln)) (hL : Ln ≤ 384) {i : Nat} (h6 : i + 6 ≤ Ln) {Q : Option Value → abH → Prop} (ih : ∀ h2, Rel hs h2 → aW (d + 21) 220 18 [.ref 0, .ref 2, .ref 65, .int (nI (i + 6))] [] h2 Q) : aW (d + 21) 220 806 [.ref 0, .ref 2, .ref 65, .int (nI i)] [] h Q := by
  obtain ⟨p, P, tl, r1, -⟩ := id R
  obtain ⟨q1, q2, H, HM, -⟩ := r1
  have t0 : gT h 0 = some (100, Ln) := by unfold gT at *; rw [q1]; exact T0
  have a0 := aI_0 t0
  have t2 := gt_2 H
  have t65 := gt_65 HM
  simp (disch := first | omega | assumption | fail) only [s220_806, s220_807, isRf_ref, true_and, and_true, aPs_s, aPs_n, b01_0, b01_1, nI_clamp, ix_nI, inb_nI, lt_nI, eq_nI, nn_nI, eq0_nI, pk_mul, nI_add, lt_T, lt_F, if_true, if_false, true_and, and_true, neg1_nI, neg1_lt, neg1_neg, lt_neg1, eqN_F, eq_self, a0, q2]
  refine Pr_k (p_again R) (fun w h1 kp k => ?_)
  have u65 := kp.1 _ _ t65
  have u0 := kp.1 _ _ t0
  have b0 := aI_0 u0
  have g1 : gI h1 0 = gI hs 0 := (kp.2 Ln t0).trans q2
  simp (disch := first | omega | assumption | fail) only [s220_810, s220_811, isRf_ref, true_and, and_true, aPs_s, aPs_n, b01_0, b01_1, nI_clamp, ix_nI, inb_nI, lt_nI, eq_nI, nn_nI, eq0_nI, pk_mul, nI_add, lt_T, lt_F, if_true, if_false, true_and, and_true, neg1_nI, neg1_lt, neg1_neg, lt_neg1, eqN_F, eq_self, b0, g1]
  refine k _ (fun h2 R2 => ?_)
  simp (disch := first | omega | assumption | fail) only [s220_814, s220_817, s220_818, s220_1166, s220_1169, isRf_ref, true_and, and_true, aPs_s, aPs_n, b01_0, b01_1, nI_clamp, ix_nI, inb_nI, lt_nI, eq_nI, nn_nI, eq0_nI, pk_mul, nI_add, lt_T, lt_F, if_true, if_false, true_and, and_true, neg1_nI, neg1_lt, neg1_neg, lt_neg1, eqN_F, eq_self]
  exact ih h2 R2
set_option maxHeartbeats 8000000 in
theorem lw_25 {h : abH} (R : Rel hs h) (T0 : gT hs 0 = some (100, Ln)) (hL : Ln ≤ 384) {i : Nat} (h6 : i + 6 ≤ Ln) {Q : Option Value → abH → Prop} (ih : ∀ h2, Rel hs h2 → aW (d + 21) 220 18 [.ref 0, .ref 2, .ref 65, .int (nI (i + 6))] [] h2 Q) : aW (d + 21) 220 819 [.ref 0, .ref 2, .ref 65, .int (nI i)] [] h Q := by
  obtain ⟨p, P, tl, r1, -⟩ := id R
  obtain ⟨q1, q2, H, HM, -⟩ := r1
  have t0 : gT h 0 = some (100, Ln) := by unfold gT at *; rw [q1]; exact T0
  have a0 := aI_0 t0
  have t2 := gt_2 H
  have t65 := gt_65 HM
  simp (disch := first | omega | assumption | fail) only [s220_819, s220_820, isRf_ref, true_and, and_true, aPs_s, aPs_n, b01_0, b01_1, nI_clamp, ix_nI, inb_nI, lt_nI, eq_nI, nn_nI, eq0_nI, pk_mul, nI_add, lt_T, lt_F, if_true, if_false, true_and, and_true, neg1_nI, neg1_lt, neg1_neg, lt_neg1, eqN_F, eq_self, a0, q2]
  refine Pr_k (p_image R) (fun w h1 kp k => ?_)
  have u65 := kp.1 _ _ t65
  have u0 := kp.1 _ _ t0
  have b0 := aI_0 u0
  have g1 : gI h1 0 = gI hs 0 := (kp.2 Ln t0).trans q2
  simp (disch := first | omega | assumption | fail) only [s220_823, s220_824, isRf_ref, true_and, and_true, aPs_s, aPs_n, b01_0, b01_1, nI_clamp, ix_nI, inb_nI, lt_nI, eq_nI, nn_nI, eq0_nI, pk_mul, nI_add, lt_T, lt_F, if_true, if_false, true_and, and_true, neg1_nI, neg1_lt, neg1_neg, lt_neg1, eqN_F, eq_self, b0, g1]
  refine k _ (fun h2 R2 => ?_)
  simp (disch := first | omega | assumption | fail) only [s220_827, s220_830, s220_831, s220_1166, s220_1169, isRf_ref, true_and, and_true, aPs_s, aPs_n, b01_0, b01_1, nI_clamp, ix_nI, inb_nI, lt_nI, eq_nI, nn_nI, eq0_nI, pk_mul, nI_add, lt_T, lt_F, if_true, if_false, true_and, and_true, neg1_nI, neg1_lt, neg1_neg, lt_neg1, eqN_F, eq_self]
  exact ih h2 R2
set_option maxHeartbeats 8000000 in
theorem lw_26 {h : abH} (R : Rel hs h) (T0 : gT hs 0 = some (100, Ln)) (hL : Ln ≤ 384) {i : Nat} (h6 : i + 6 ≤ Ln) {Q : Option Value → abH → Prop} (ih : ∀ h2, Rel hs h2 → aW (d + 21) 220 18 [.ref 0, .ref 2, .ref 65, .int (nI (i + 6))] [] h2 Q) : aW (d + 21) 220 832 [.ref 0, .ref 2, .ref 65, .int (nI i)] [] h Q := by
  obtain ⟨p, P, tl, r1, -⟩ := id R
  obtain ⟨q1, q2, H, HM, -⟩ := r1
  have t0 : gT h 0 = some (100, Ln) := by unfold gT at *; rw [q1]; exact T0
  have a0 := aI_0 t0
  have t2 := gt_2 H
  have t65 := gt_65 HM
  simp (disch := first | omega | assumption | fail) only [s220_832, s220_833, isRf_ref, true_and, and_true, aPs_s, aPs_n, b01_0, b01_1, nI_clamp, ix_nI, inb_nI, lt_nI, eq_nI, nn_nI, eq0_nI, pk_mul, nI_add, lt_T, lt_F, if_true, if_false, true_and, and_true, neg1_nI, neg1_lt, neg1_neg, lt_neg1, eqN_F, eq_self, a0, q2]
  refine Pr_k (p_back R) (fun w h1 kp k => ?_)
  have u65 := kp.1 _ _ t65
  have u0 := kp.1 _ _ t0
  have b0 := aI_0 u0
  have g1 : gI h1 0 = gI hs 0 := (kp.2 Ln t0).trans q2
  simp (disch := first | omega | assumption | fail) only [s220_836, s220_837, isRf_ref, true_and, and_true, aPs_s, aPs_n, b01_0, b01_1, nI_clamp, ix_nI, inb_nI, lt_nI, eq_nI, nn_nI, eq0_nI, pk_mul, nI_add, lt_T, lt_F, if_true, if_false, true_and, and_true, neg1_nI, neg1_lt, neg1_neg, lt_neg1, eqN_F, eq_self, b0, g1]
  refine k _ (fun h2 R2 => ?_)
  simp (disch := first | omega | assumption | fail) only [s220_840, s220_843, s220_844, s220_1166, s220_1169, isRf_ref, true_and, and_true, aPs_s, aPs_n, b01_0, b01_1, nI_clamp, ix_nI, inb_nI, lt_nI, eq_nI, nn_nI, eq0_nI, pk_mul, nI_add, lt_T, lt_F, if_true, if_false, true_and, and_true, neg1_nI, neg1_lt, neg1_neg, lt_neg1, eqN_F, eq_self]
  exact ih h2 R2
set_option maxHeartbeats 8000000 in
theorem lw_27 {h : abH} (R : Rel hs h) (T0 : gT hs 0 = some (100, Ln)) (hL : Ln ≤ 384) {i : Nat} (h6 : i + 6 ≤ Ln) {Q : Option Value → abH → Prop} (ih : ∀ h2, Rel hs h2 → aW (d + 21) 220 18 [.ref 0, .ref 2, .ref 65, .int (nI (i + 6))] [] h2 Q) : aW (d + 21) 220 845 [.ref 0, .ref 2, .ref 65, .int (nI i)] [] h Q := by
  obtain ⟨p, P, tl, r1, -⟩ := id R
  obtain ⟨q1, q2, H, HM, -⟩ := r1
  have t0 : gT h 0 = some (100, Ln) := by unfold gT at *; rw [q1]; exact T0
  have a0 := aI_0 t0
  have t2 := gt_2 H
  have t65 := gt_65 HM
  simp (disch := first | omega | assumption | fail) only [s220_845, s220_846, s220_847, s220_848, s220_849, s220_850, s220_851, s220_852, s220_853, s220_854, s220_855, s220_856, s220_857, s220_858, s220_859, s220_860, s220_861, s220_862, s220_863, s220_864, s220_865, s220_866, isRf_ref, true_and, and_true, aPs_s, aPs_n, b01_0, b01_1, nI_clamp, ix_nI, inb_nI, lt_nI, eq_nI, nn_nI, eq0_nI, pk_mul, nI_add, lt_T, lt_F, if_true, if_false, true_and, and_true, neg1_nI, neg1_lt, neg1_neg, lt_neg1, eqN_F, eq_self, a0, q2]
  refine Pr_k (p_kind R) (fun w h1 kp k => ?_)
  have u65 := kp.1 _ _ t65
  have u0 := kp.1 _ _ t0
  have b0 := aI_0 u0
  have g1 : gI h1 0 = gI hs 0 := (kp.2 Ln t0).trans q2
  simp (disch := first | omega | assumption | fail) only [s220_869, s220_870, s220_871, s220_872, s220_873, s220_874, s220_875, s220_876, s220_877, s220_878, s220_879, s220_880, s220_881, s220_882, s220_883, s220_884, s220_885, s220_886, s220_887, s220_888, s220_889, s220_890, isRf_ref, true_and, and_true, aPs_s, aPs_n, b01_0, b01_1, nI_clamp, ix_nI, inb_nI, lt_nI, eq_nI, nn_nI, eq0_nI, pk_mul, nI_add, lt_T, lt_F, if_true, if_false, true_and, and_true, neg1_nI, neg1_lt, neg1_neg, lt_neg1, eqN_F, eq_self, b0, g1]
  refine k _ (fun h2 R2 => ?_)
  simp (disch := first | omega | assumption | fail) only [s220_893, s220_896, s220_897, s220_1166, s220_1169, isRf_ref, true_and, and_true, aPs_s, aPs_n, b01_0, b01_1, nI_clamp, ix_nI, inb_nI, lt_nI, eq_nI, nn_nI, eq0_nI, pk_mul, nI_add, lt_T, lt_F, if_true, if_false, true_and, and_true, neg1_nI, neg1_lt, neg1_neg, lt_neg1, eqN_F, eq_self]
  exact ih h2 R2
set_option maxHeartbeats 8000000 in
theorem lw_28 {h : abH} (R : Rel hs h) (T0 : gT hs 0 = some (100, Ln)) (hL : Ln ≤ 384) {i : Nat} (h6 : i + 6 ≤ Ln) {Q : Option Value → abH → Prop} (ih : ∀ h2, Rel hs h2 → aW (d + 21) 220 18 [.ref 0, .ref 2, .ref 65, .int (nI (i + 6))] [] h2 Q) : aW (d + 21) 220 898 [.ref 0, .ref 2, .ref 65, .int (nI i)] [] h Q := by
  obtain ⟨p, P, tl, r1, -⟩ := id R
  obtain ⟨q1, q2, H, HM, -⟩ := r1
  have t0 : gT h 0 = some (100, Ln) := by unfold gT at *; rw [q1]; exact T0
  have a0 := aI_0 t0
  have t2 := gt_2 H
  have t65 := gt_65 HM
  simp (disch := first | omega | assumption | fail) only [s220_898, s220_899, s220_900, s220_901, s220_902, s220_903, s220_904, isRf_ref, true_and, and_true, aPs_s, aPs_n, b01_0, b01_1, nI_clamp, ix_nI, inb_nI, lt_nI, eq_nI, nn_nI, eq0_nI, pk_mul, nI_add, lt_T, lt_F, if_true, if_false, true_and, and_true, neg1_nI, neg1_lt, neg1_neg, lt_neg1, eqN_F, eq_self, a0, q2]
  refine Pr_k (p_count R) (fun w h1 kp k => ?_)
  have u65 := kp.1 _ _ t65
  have u0 := kp.1 _ _ t0
  have b0 := aI_0 u0
  have g1 : gI h1 0 = gI hs 0 := (kp.2 Ln t0).trans q2
  simp (disch := first | omega | assumption | fail) only [s220_907, s220_908, s220_909, s220_910, s220_911, s220_912, s220_913, isRf_ref, true_and, and_true, aPs_s, aPs_n, b01_0, b01_1, nI_clamp, ix_nI, inb_nI, lt_nI, eq_nI, nn_nI, eq0_nI, pk_mul, nI_add, lt_T, lt_F, if_true, if_false, true_and, and_true, neg1_nI, neg1_lt, neg1_neg, lt_neg1, eqN_F, eq_self, b0, g1]
  refine k _ (fun h2 R2 => ?_)
  simp (disch := first | omega | assumption | fail) only [s220_916, s220_919, s220_920, s220_1166, s220_1169, isRf_ref, true_and, and_true, aPs_s, aPs_n, b01_0, b01_1, nI_clamp, ix_nI, inb_nI, lt_nI, eq_nI, nn_nI, eq0_nI, pk_mul, nI_add, lt_T, lt_F, if_true, if_false, true_and, and_true, neg1_nI, neg1_lt, neg1_neg, lt_neg1, eqN_F, eq_self]
  exact ih h2 R2
set_option maxHeartbeats 8000000 in
theorem lw_29 {h : abH} (R : Rel hs h) (T0 : gT hs 0 = some (100, Ln)) (hL : Ln ≤ 384) {i : Nat} (h6 : i + 6 ≤ Ln) {Q : Option Value → abH → Prop} (ih : ∀ h2, Rel hs h2 → aW (d + 21) 220 18 [.ref 0, .ref 2, .ref 65, .int (nI (i + 6))] [] h2 Q) : aW (d + 21) 220 921 [.ref 0, .ref 2, .ref 65, .int (nI i)] [] h Q := by
  obtain ⟨p, P, tl, r1, -⟩ := id R
  obtain ⟨q1, q2, H, HM, -⟩ := r1
  have t0 : gT h 0 = some (100, Ln) := by unfold gT at *; rw [q1]; exact T0
  have a0 := aI_0 t0
  have t2 := gt_2 H
  have t65 := gt_65 HM
  simp (disch := first | omega | assumption | fail) only [s220_921, s220_922, s220_923, s220_924, s220_925, s220_926, s220_927, s220_928, s220_929, s220_930, s220_931, s220_932, s220_933, s220_934, s220_935, s220_936, s220_937, isRf_ref, true_and, and_true, aPs_s, aPs_n, b01_0, b01_1, nI_clamp, ix_nI, inb_nI, lt_nI, eq_nI, nn_nI, eq0_nI, pk_mul, nI_add, lt_T, lt_F, if_true, if_false, true_and, and_true, neg1_nI, neg1_lt, neg1_neg, lt_neg1, eqN_F, eq_self, a0, q2]
  refine Pr_k (p_sheet R) (fun w h1 kp k => ?_)
  have u65 := kp.1 _ _ t65
  have u0 := kp.1 _ _ t0
  have b0 := aI_0 u0
  have g1 : gI h1 0 = gI hs 0 := (kp.2 Ln t0).trans q2
  simp (disch := first | omega | assumption | fail) only [s220_940, s220_941, s220_942, s220_943, s220_944, s220_945, s220_946, s220_947, s220_948, s220_949, s220_950, s220_951, s220_952, s220_953, s220_954, s220_955, s220_956, isRf_ref, true_and, and_true, aPs_s, aPs_n, b01_0, b01_1, nI_clamp, ix_nI, inb_nI, lt_nI, eq_nI, nn_nI, eq0_nI, pk_mul, nI_add, lt_T, lt_F, if_true, if_false, true_and, and_true, neg1_nI, neg1_lt, neg1_neg, lt_neg1, eqN_F, eq_self, b0, g1]
  refine k _ (fun h2 R2 => ?_)
  simp (disch := first | omega | assumption | fail) only [s220_959, s220_962, s220_963, s220_1166, s220_1169, isRf_ref, true_and, and_true, aPs_s, aPs_n, b01_0, b01_1, nI_clamp, ix_nI, inb_nI, lt_nI, eq_nI, nn_nI, eq0_nI, pk_mul, nI_add, lt_T, lt_F, if_true, if_false, true_and, and_true, neg1_nI, neg1_lt, neg1_neg, lt_neg1, eqN_F, eq_self]
  exact ih h2 R2
set_option maxHeartbeats 8000000 in
theorem lw_30 {h : abH} (R : Rel hs h) (T0 : gT hs 0 = some (100, Ln)) (hL : Ln ≤ 384) {i : Nat} (h6 : i + 6 ≤ Ln) {Q : Option Value → abH → Prop} (ih : ∀ h2, Rel hs h2 → aW (d + 21) 220 18 [.ref 0, .ref 2, .ref 65, .int (nI (i + 6))] [] h2 Q) : aW (d + 21) 220 964 [.ref 0, .ref 2, .ref 65, .int (nI i)] [] h Q := by
  obtain ⟨p, P, tl, r1, -⟩ := id R
  obtain ⟨q1, q2, H, HM, -⟩ := r1
  have t0 : gT h 0 = some (100, Ln) := by unfold gT at *; rw [q1]; exact T0
  have a0 := aI_0 t0
  have t2 := gt_2 H
  have t65 := gt_65 HM
  simp (disch := first | omega | assumption | fail) only [s220_964, s220_965, s220_966, s220_967, s220_968, s220_969, s220_970, s220_971, s220_972, s220_973, s220_974, s220_975, s220_976, s220_977, s220_978, s220_979, s220_980, isRf_ref, true_and, and_true, aPs_s, aPs_n, b01_0, b01_1, nI_clamp, ix_nI, inb_nI, lt_nI, eq_nI, nn_nI, eq0_nI, pk_mul, nI_add, lt_T, lt_F, if_true, if_false, true_and, and_true, neg1_nI, neg1_lt, neg1_neg, lt_neg1, eqN_F, eq_self, a0, q2]
  refine Pr_k (p_cell R) (fun w h1 kp k => ?_)
  have u65 := kp.1 _ _ t65
  have u0 := kp.1 _ _ t0
  have b0 := aI_0 u0
  have g1 : gI h1 0 = gI hs 0 := (kp.2 Ln t0).trans q2
  simp (disch := first | omega | assumption | fail) only [s220_983, s220_984, s220_985, s220_986, s220_987, s220_988, s220_989, s220_990, s220_991, s220_992, s220_993, s220_994, s220_995, s220_996, s220_997, s220_998, s220_999, isRf_ref, true_and, and_true, aPs_s, aPs_n, b01_0, b01_1, nI_clamp, ix_nI, inb_nI, lt_nI, eq_nI, nn_nI, eq0_nI, pk_mul, nI_add, lt_T, lt_F, if_true, if_false, true_and, and_true, neg1_nI, neg1_lt, neg1_neg, lt_neg1, eqN_F, eq_self, b0, g1]
  refine k _ (fun h2 R2 => ?_)
  simp (disch := first | omega | assumption | fail) only [s220_1002, s220_1005, s220_1006, s220_1166, s220_1169, isRf_ref, true_and, and_true, aPs_s, aPs_n, b01_0, b01_1, nI_clamp, ix_nI, inb_nI, lt_nI, eq_nI, nn_nI, eq0_nI, pk_mul, nI_add, lt_T, lt_F, if_true, if_false, true_and, and_true, neg1_nI, neg1_lt, neg1_neg, lt_neg1, eqN_F, eq_self]
  exact ih h2 R2
set_option maxHeartbeats 8000000 in
theorem lw_31 {h : abH} (R : Rel hs h) (T0 : gT hs 0 = some (100, Ln)) (hL : Ln ≤ 384) {i : Nat} (h6 : i + 6 ≤ Ln) {Q : Option Value → abH → Prop} (ih : ∀ h2, Rel hs h2 → aW (d + 21) 220 18 [.ref 0, .ref 2, .ref 65, .int (nI (i + 6))] [] h2 Q) : aW (d + 21) 220 1007 [.ref 0, .ref 2, .ref 65, .int (nI i)] [] h Q := by
  obtain ⟨p, P, tl, r1, -⟩ := id R
  obtain ⟨q1, q2, H, HM, -⟩ := r1
  have t0 : gT h 0 = some (100, Ln) := by unfold gT at *; rw [q1]; exact T0
  have a0 := aI_0 t0
  have t2 := gt_2 H
  have t65 := gt_65 HM
  simp (disch := first | omega | assumption | fail) only [s220_1007, s220_1008, s220_1009, s220_1010, s220_1011, s220_1012, s220_1013, s220_1014, s220_1015, s220_1016, s220_1017, s220_1018, s220_1019, s220_1020, s220_1021, s220_1022, s220_1023, s220_1024, s220_1025, s220_1026, s220_1027, s220_1028, s220_1029, s220_1030, s220_1031, s220_1032, s220_1033, isRf_ref, true_and, and_true, aPs_s, aPs_n, b01_0, b01_1, nI_clamp, ix_nI, inb_nI, lt_nI, eq_nI, nn_nI, eq0_nI, pk_mul, nI_add, lt_T, lt_F, if_true, if_false, true_and, and_true, neg1_nI, neg1_lt, neg1_neg, lt_neg1, eqN_F, eq_self, a0, q2]
  refine Pr_k (p_copy R) (fun w h1 kp k => ?_)
  have u65 := kp.1 _ _ t65
  have u0 := kp.1 _ _ t0
  have b0 := aI_0 u0
  have g1 : gI h1 0 = gI hs 0 := (kp.2 Ln t0).trans q2
  simp (disch := first | omega | assumption | fail) only [s220_1036, s220_1037, s220_1038, s220_1039, s220_1040, s220_1041, s220_1042, s220_1043, s220_1044, s220_1045, s220_1046, s220_1047, s220_1048, s220_1049, s220_1050, s220_1051, s220_1052, s220_1053, s220_1054, s220_1055, s220_1056, s220_1057, s220_1058, s220_1059, s220_1060, s220_1061, s220_1062, isRf_ref, true_and, and_true, aPs_s, aPs_n, b01_0, b01_1, nI_clamp, ix_nI, inb_nI, lt_nI, eq_nI, nn_nI, eq0_nI, pk_mul, nI_add, lt_T, lt_F, if_true, if_false, true_and, and_true, neg1_nI, neg1_lt, neg1_neg, lt_neg1, eqN_F, eq_self, b0, g1]
  refine k _ (fun h2 R2 => ?_)
  simp (disch := first | omega | assumption | fail) only [s220_1065, s220_1068, s220_1069, s220_1166, s220_1169, isRf_ref, true_and, and_true, aPs_s, aPs_n, b01_0, b01_1, nI_clamp, ix_nI, inb_nI, lt_nI, eq_nI, nn_nI, eq0_nI, pk_mul, nI_add, lt_T, lt_F, if_true, if_false, true_and, and_true, neg1_nI, neg1_lt, neg1_neg, lt_neg1, eqN_F, eq_self]
  exact ih h2 R2
set_option maxHeartbeats 8000000 in
theorem lw_32 {h : abH} (R : Rel hs h) (T0 : gT hs 0 = some (100, Ln)) (hL : Ln ≤ 384) {i : Nat} (h6 : i + 6 ≤ Ln) {Q : Option Value → abH → Prop} (ih : ∀ h2, Rel hs h2 → aW (d + 21) 220 18 [.ref 0, .ref 2, .ref 65, .int (nI (i + 6))] [] h2 Q) : aW (d + 21) 220 1070 [.ref 0, .ref 2, .ref 65, .int (nI i)] [] h Q := by
  obtain ⟨p, P, tl, r1, -⟩ := id R
  obtain ⟨q1, q2, H, HM, -⟩ := r1
  have t0 : gT h 0 = some (100, Ln) := by unfold gT at *; rw [q1]; exact T0
  have a0 := aI_0 t0
  have t2 := gt_2 H
  have t65 := gt_65 HM
  simp (disch := first | omega | assumption | fail) only [s220_1070, s220_1071, s220_1072, s220_1073, s220_1074, s220_1075, s220_1076, s220_1077, s220_1078, s220_1079, s220_1080, s220_1081, s220_1082, s220_1083, s220_1084, s220_1085, s220_1086, s220_1087, s220_1088, s220_1089, s220_1090, s220_1091, isRf_ref, true_and, and_true, aPs_s, aPs_n, b01_0, b01_1, nI_clamp, ix_nI, inb_nI, lt_nI, eq_nI, nn_nI, eq0_nI, pk_mul, nI_add, lt_T, lt_F, if_true, if_false, true_and, and_true, neg1_nI, neg1_lt, neg1_neg, lt_neg1, eqN_F, eq_self, a0, q2]
  refine Pr_k (p_lays R) (fun w h1 kp k => ?_)
  have u65 := kp.1 _ _ t65
  have u0 := kp.1 _ _ t0
  have b0 := aI_0 u0
  have g1 : gI h1 0 = gI hs 0 := (kp.2 Ln t0).trans q2
  simp (disch := first | omega | assumption | fail) only [s220_1094, s220_1095, s220_1096, s220_1097, s220_1098, s220_1099, s220_1100, s220_1101, s220_1102, s220_1103, s220_1104, s220_1105, s220_1106, s220_1107, s220_1108, s220_1109, s220_1110, s220_1111, s220_1112, s220_1113, s220_1114, s220_1115, isRf_ref, true_and, and_true, aPs_s, aPs_n, b01_0, b01_1, nI_clamp, ix_nI, inb_nI, lt_nI, eq_nI, nn_nI, eq0_nI, pk_mul, nI_add, lt_T, lt_F, if_true, if_false, true_and, and_true, neg1_nI, neg1_lt, neg1_neg, lt_neg1, eqN_F, eq_self, b0, g1]
  refine k _ (fun h2 R2 => ?_)
  simp (disch := first | omega | assumption | fail) only [s220_1118, s220_1121, s220_1122, s220_1166, s220_1169, isRf_ref, true_and, and_true, aPs_s, aPs_n, b01_0, b01_1, nI_clamp, ix_nI, inb_nI, lt_nI, eq_nI, nn_nI, eq0_nI, pk_mul, nI_add, lt_T, lt_F, if_true, if_false, true_and, and_true, neg1_nI, neg1_lt, neg1_neg, lt_neg1, eqN_F, eq_self]
  exact ih h2 R2
set_option maxHeartbeats 8000000 in
theorem lw_33 {h : abH} (R : Rel hs h) (T0 : gT hs 0 = some (100, Ln)) (hL : Ln ≤ 384) {i : Nat} (h6 : i + 6 ≤ Ln) {Q : Option Value → abH → Prop} (ih : ∀ h2, Rel hs h2 → aW (d + 21) 220 18 [.ref 0, .ref 2, .ref 65, .int (nI (i + 6))] [] h2 Q) : aW (d + 21) 220 1123 [.ref 0, .ref 2, .ref 65, .int (nI i)] [] h Q := by
  obtain ⟨p, P, tl, r1, -⟩ := id R
  obtain ⟨q1, q2, H, HM, -⟩ := r1
  have t0 : gT h 0 = some (100, Ln) := by unfold gT at *; rw [q1]; exact T0
  have a0 := aI_0 t0
  have t2 := gt_2 H
  have t65 := gt_65 HM
  simp (disch := first | omega | assumption | fail) only [s220_1123, s220_1124, s220_1125, s220_1126, s220_1127, s220_1128, s220_1129, s220_1130, s220_1131, s220_1132, s220_1133, s220_1134, s220_1135, s220_1136, s220_1137, s220_1138, s220_1139, isRf_ref, true_and, and_true, aPs_s, aPs_n, b01_0, b01_1, nI_clamp, ix_nI, inb_nI, lt_nI, eq_nI, nn_nI, eq0_nI, pk_mul, nI_add, lt_T, lt_F, if_true, if_false, true_and, and_true, neg1_nI, neg1_lt, neg1_neg, lt_neg1, eqN_F, eq_self, a0, q2]
  refine Pr_k (p_taken R) (fun w h1 kp k => ?_)
  have u65 := kp.1 _ _ t65
  have u0 := kp.1 _ _ t0
  have b0 := aI_0 u0
  have g1 : gI h1 0 = gI hs 0 := (kp.2 Ln t0).trans q2
  simp (disch := first | omega | assumption | fail) only [s220_1142, s220_1143, s220_1144, s220_1145, s220_1146, s220_1147, s220_1148, s220_1149, s220_1150, s220_1151, s220_1152, s220_1153, s220_1154, s220_1155, s220_1156, s220_1157, s220_1158, isRf_ref, true_and, and_true, aPs_s, aPs_n, b01_0, b01_1, nI_clamp, ix_nI, inb_nI, lt_nI, eq_nI, nn_nI, eq0_nI, pk_mul, nI_add, lt_T, lt_F, if_true, if_false, true_and, and_true, neg1_nI, neg1_lt, neg1_neg, lt_neg1, eqN_F, eq_self, b0, g1]
  refine k _ (fun h2 R2 => ?_)
  simp (disch := first | omega | assumption | fail) only [s220_1161, s220_1164, s220_1165, s220_1166, s220_1169, isRf_ref, true_and, and_true, aPs_s, aPs_n, b01_0, b01_1, nI_clamp, ix_nI, inb_nI, lt_nI, eq_nI, nn_nI, eq0_nI, pk_mul, nI_add, lt_T, lt_F, if_true, if_false, true_and, and_true, neg1_nI, neg1_lt, neg1_neg, lt_neg1, eqN_F, eq_self]
  exact ih h2 R2
set_option maxHeartbeats 8000000 in
theorem law_loop (T0 : gT hs 0 = some (100, Ln)) (hL : Ln ≤ 384) : ∀ (m i : Nat) (h : abH), i ≤ 390 → Ln ≤ i + m → Rel hs h → aW (d + 21) 220 18 [.ref 0, .ref 2, .ref 65, .int (nI i)] [] h (fun v h' => v = some (.int 1) ∧ h'.1 = hs.1) := by
  intro m
  induction m with
  | zero =>
    intro i h hi hm R
    obtain ⟨p, P, tl, r1, -⟩ := id R
    obtain ⟨q1, q2, H, HM, -⟩ := r1
    have t0 : gT h 0 = some (100, Ln) := by unfold gT at *; rw [q1]; exact T0
    have t0' : gT h 0 = some (100, Ln) ∧ (0 : Nat) = 0 ∨ gT h 0 = some (101, Ln) ∧ (0 : Nat) = 1 := Or.inl ⟨t0, rfl⟩
    have g : (Ln < i + 6) = True := eq_true (by omega)
    rw [s220_18]
    simp (disch := first | omega | assumption | fail) only [s220_19, s220_20, s220_21, s220_23, s220_24, s220_1172, s220_1173, isRf_ref, true_and, and_true, aPs_s, aPs_n, b01_0, b01_1, nI_clamp, ix_nI, inb_nI, lt_nI, eq_nI, nn_nI, eq0_nI, pk_mul, nI_add, lt_T, lt_F, if_true, if_false, true_and, and_true, neg1_nI, neg1_lt, neg1_neg, lt_neg1, eqN_F, eq_self, lw_out hL hi, t0', g]
    exact ⟨rfl, q1⟩
  | succ m ihm =>
    intro i h hi hm R
    obtain ⟨p, P, tl, r1, -⟩ := id R
    obtain ⟨q1, q2, H, HM, -⟩ := r1
    have t0 : gT h 0 = some (100, Ln) := by unfold gT at *; rw [q1]; exact T0
    have t0' : gT h 0 = some (100, Ln) ∧ (0 : Nat) = 0 ∨ gT h 0 = some (101, Ln) ∧ (0 : Nat) = 1 := Or.inl ⟨t0, rfl⟩
    have a0 := aI_0 t0
    by_cases h6 : Ln < i + 6
    · rw [s220_18]
      simp (disch := first | omega | assumption | fail) only [s220_19, s220_20, s220_21, s220_23, s220_24, s220_1172, s220_1173, isRf_ref, true_and, and_true, aPs_s, aPs_n, b01_0, b01_1, nI_clamp, ix_nI, inb_nI, lt_nI, eq_nI, nn_nI, eq0_nI, pk_mul, nI_add, lt_T, lt_F, if_true, if_false, true_and, and_true, neg1_nI, neg1_lt, neg1_neg, lt_neg1, eqN_F, eq_self, lw_out hL hi, t0', eq_true h6]
      exact ⟨rfl, q1⟩
    · have h6' : i + 6 ≤ Ln := by omega
      have g : (Ln < i + 6) = False := eq_false h6
      have ih : ∀ h2, Rel hs h2 → aW (d + 21) 220 18 [.ref 0, .ref 2, .ref 65, .int (nI (i + 6))] [] h2 (fun v h' => v = some (.int 1) ∧ h'.1 = hs.1) := fun h2 R2 => ihm (i + 6) h2 (by omega) (by omega) R2
      rw [s220_18]
      simp (disch := first | omega | assumption | fail) only [s220_19, s220_20, s220_21, s220_23, s220_24, s220_27, s220_28, s220_29, s220_30, s220_32, isRf_ref, true_and, and_true, aPs_s, aPs_n, b01_0, b01_1, nI_clamp, ix_nI, inb_nI, lt_nI, eq_nI, nn_nI, eq0_nI, pk_mul, nI_add, lt_T, lt_F, if_true, if_false, true_and, and_true, neg1_nI, neg1_lt, neg1_neg, lt_neg1, eqN_F, eq_self, lw_out hL hi, t0', g, a0, q2]
      generalize gI hs 0 i &&& nI 63 = a
      rw [s220_33]
      by_cases e0 : a = nI 0
      · rw [if_pos e0]
        exact lw_0 R T0 hL h6' ih
      rw [if_neg e0]
      by_cases e1 : a = nI 1
      · rw [if_pos e1]
        exact lw_1 R T0 hL h6' ih
      rw [if_neg e1]
      by_cases e2 : a = nI 2
      · rw [if_pos e2]
        exact lw_2 R T0 hL h6' ih
      rw [if_neg e2]
      by_cases e3 : a = nI 3
      · rw [if_pos e3]
        exact lw_3 R T0 hL h6' ih
      rw [if_neg e3]
      by_cases e4 : a = nI 4
      · rw [if_pos e4]
        exact lw_4 R T0 hL h6' ih
      rw [if_neg e4]
      by_cases e5 : a = nI 5
      · rw [if_pos e5]
        exact lw_5 R T0 hL h6' ih
      rw [if_neg e5]
      by_cases e6 : a = nI 6
      · rw [if_pos e6]
        exact lw_6 R T0 hL h6' ih
      rw [if_neg e6]
      by_cases e7 : a = nI 7
      · rw [if_pos e7]
        exact lw_7 R T0 hL h6' ih
      rw [if_neg e7]
      by_cases e8 : a = nI 8
      · rw [if_pos e8]
        exact lw_8 R T0 hL h6' ih
      rw [if_neg e8]
      by_cases e9 : a = nI 9
      · rw [if_pos e9]
        exact lw_9 R T0 hL h6' ih
      rw [if_neg e9]
      by_cases e10 : a = nI 10
      · rw [if_pos e10]
        exact lw_10 R T0 hL h6' ih
      rw [if_neg e10]
      by_cases e11 : a = nI 11
      · rw [if_pos e11]
        exact lw_11 R T0 hL h6' ih
      rw [if_neg e11]
      by_cases e12 : a = nI 12
      · rw [if_pos e12]
        exact lw_12 R T0 hL h6' ih
      rw [if_neg e12]
      by_cases e13 : a = nI 13
      · rw [if_pos e13]
        exact lw_13 R T0 hL h6' ih
      rw [if_neg e13]
      by_cases e14 : a = nI 14
      · rw [if_pos e14]
        exact lw_14 R T0 hL h6' ih
      rw [if_neg e14]
      by_cases e15 : a = nI 15
      · rw [if_pos e15]
        exact lw_15 R T0 hL h6' ih
      rw [if_neg e15]
      by_cases e16 : a = nI 16
      · rw [if_pos e16]
        exact lw_16 R T0 hL h6' ih
      rw [if_neg e16]
      by_cases e17 : a = nI 17
      · rw [if_pos e17]
        exact lw_17 R T0 hL h6' ih
      rw [if_neg e17]
      by_cases e18 : a = nI 18
      · rw [if_pos e18]
        exact lw_18 R T0 hL h6' ih
      rw [if_neg e18]
      by_cases e19 : a = nI 19
      · rw [if_pos e19]
        exact lw_19 R T0 hL h6' ih
      rw [if_neg e19]
      by_cases e20 : a = nI 20
      · rw [if_pos e20]
        exact lw_20 R T0 hL h6' ih
      rw [if_neg e20]
      by_cases e21 : a = nI 21
      · rw [if_pos e21]
        exact lw_21 R T0 hL h6' ih
      rw [if_neg e21]
      by_cases e22 : a = nI 22
      · rw [if_pos e22]
        exact lw_22 R T0 hL h6' ih
      rw [if_neg e22]
      by_cases e23 : a = nI 23
      · rw [if_pos e23]
        exact lw_23 R T0 hL h6' ih
      rw [if_neg e23]
      by_cases e24 : a = nI 24
      · rw [if_pos e24]
        exact lw_24 R T0 hL h6' ih
      rw [if_neg e24]
      by_cases e25 : a = nI 25
      · rw [if_pos e25]
        exact lw_25 R T0 hL h6' ih
      rw [if_neg e25]
      by_cases e26 : a = nI 26
      · rw [if_pos e26]
        exact lw_26 R T0 hL h6' ih
      rw [if_neg e26]
      by_cases e27 : a = nI 27
      · rw [if_pos e27]
        exact lw_27 R T0 hL h6' ih
      rw [if_neg e27]
      by_cases e28 : a = nI 28
      · rw [if_pos e28]
        exact lw_28 R T0 hL h6' ih
      rw [if_neg e28]
      by_cases e29 : a = nI 29
      · rw [if_pos e29]
        exact lw_29 R T0 hL h6' ih
      rw [if_neg e29]
      by_cases e30 : a = nI 30
      · rw [if_pos e30]
        exact lw_30 R T0 hL h6' ih
      rw [if_neg e30]
      by_cases e31 : a = nI 31
      · rw [if_pos e31]
        exact lw_31 R T0 hL h6' ih
      rw [if_neg e31]
      by_cases e32 : a = nI 32
      · rw [if_pos e32]
        exact lw_32 R T0 hL h6' ih
      rw [if_neg e32]
      by_cases e33 : a = nI 33
      · rw [if_pos e33]
        exact lw_33 R T0 hL h6' ih
      rw [if_neg e33]
      simp (disch := first | omega | assumption | fail) only [s220_1166, s220_1169, isRf_ref, true_and, and_true, aPs_s, aPs_n, b01_0, b01_1, nI_clamp, ix_nI, inb_nI, lt_nI, eq_nI, nn_nI, eq0_nI, pk_mul, nI_add, lt_T, lt_F, if_true, if_false, true_and, and_true, neg1_nI, neg1_lt, neg1_neg, lt_neg1, eqN_F, eq_self]
      exact ih h R
end LW
