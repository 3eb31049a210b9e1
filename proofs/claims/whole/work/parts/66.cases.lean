/-! the law's cases -/
theorem lg_self (v : Int64) : lg_cmp v v = 0 := by
  unfold lg_cmp
  have h : ¬ v > v := by
    show ¬ v < v
    rw [Int64.lt_iff_toInt_lt]
    omega
  rw [if_neg h, if_pos rfl]
abbrev lwL (i : Nat) : List (Option Value) := [some (.retAddr 0), some (.ref 0), some (.ref 36), some (.int (nI i))]
theorem law_0 {X : pm_X} {I : st_I} {J : st_J} {i : Nat} (hR : R I) (hi : i + 5 ≤ X.1) (hL : X.1 ≤ 2560) : ∃ I2 J2, R I2 ∧ ∀ d, pm_ev X (d + 14) 228 (216, lwL i, [], st_E I J) = pm_ev X (d + 14) 228 (18, lwL (i + 5), [], st_E I2 J2) := by
  have h : OK X 5 131 [.int (X.2 (i + 1))] I J := op_5 hR
  obtain ⟨v, I1, J1, I2, J2, h1, h2, hR2, hv⟩ := h
  obtain ⟨v, rfl⟩ : ∃ w, v = .int w := by
    rcases hv with ⟨-, h⟩ | ⟨h, -⟩
    · exact h
    · have h : (some FieldType.int : Option FieldType) = some FieldType.long := h
      cases h
  have a1 : nI i + 1 = nI (i + 1) := nI_add i 1
  have g1 : pm_ok (nI (i + 1)) X.1 = true := decide_eq_true (nI_in (by omega) (by omega))
  have f1 : (nI (i + 1)).toNatClampNeg = i + 1 := nI_clamp (by omega)
  have a5 : nI i + 5 = nI (i + 5) := nI_add i 5
  refine ⟨I2, J2, hR2, fun d => ?_⟩
  have c1 := fun F => h1 d F
  have c2 := fun F => h2 d F
  simp only [lwL, ↓ps_228_216, ↓ps_228_217, ↓ps_228_218, ↓ps_228_219, ↓ps_228_220, ↓ps_228_221, ↓ps_228_222, ↓ps_228_225, ↓ps_228_226, ↓ps_228_227, ↓ps_228_228, ↓ps_228_229, ↓ps_228_230, ↓ps_228_231, ↓ps_228_234, ↓ps_228_237, ↓ps_228_238, ↓ps_228_1654, ↓ps_228_1657, ↓q_i1, ↓q_i2, ↓q_l1, ↓q_l2, ↓q_r1, ↓q_v1, ↓q_rs, ↓q_if, ↓q_gi, ↓q_gi', ↓q_gl, ↓q_gl', ↓q_ga, ↓q_ga', ↓q_s1, ↓q_s1n, ↓q_s1i, ↓q_s1r, ↓q_s1', ↓q_s2, ↓q_s2n, ↓q_s2i, ↓q_s2r, ↓q_s2', ↓q_ar0, ↓q_ar, q_w0, q_wi, q_wl, q_wr, q_wii, q_wil, q_wli, q_wll, q_wir, q_wri, q_wlr, q_wrl, q_wrr, q_wirr, q_wiir, q_wiii, q_ni, q_nl, q_fi, q_fl, q_z0, q_z1, q_fz0, q_fz1, ↓q_ts, ↓q_tn, q_e, q_ci, q_cr, ↓q_rfs, decide_true, Bool.and_true, Bool.and_self, Nat.zero_add, Nat.reduceAdd, Nat.reduceBEq, beq_self_eq_true, q_le, q_lel, q_ge, q_gel, q_gt, q_gtl, ite_not, Bool.not_eq_true', Bool.not_eq_false', ↓reduceIte, ↓fg_0_0, ↓fg_0_1, ↓fg_0_2, ↓fg_0_3, ↓fg_0_4, ↓fg_0_5, ↓fg_0_6, ↓fg_0_7, ↓fg_0_8, ↓fp_0_7, ↓fp_0_8, ↓oc_0, ↓fg_31_0, ↓fg_31_1, ↓fp_31_1, ↓oc_31, ↓ai_32, ↓wi_32, ↓fg_33_0, ↓fp_33_0, ↓fg_33_1, ↓fp_33_1, ↓fg_33_2, ↓fp_33_2, ↓fg_33_3, ↓fp_33_3, ↓oc_33, ↓ai_34, ↓wi_34, ↓ai_35, ↓wi_35, ↓fg_36_0, ↓fg_36_1, ↓fg_36_2, ↓fg_36_3, ↓fg_36_4, ↓fg_36_5, ↓fg_36_6, ↓fg_36_7, ↓fp_36_7, ↓fg_36_8, ↓fg_36_9, ↓fg_36_10, ↓fg_36_11, ↓fg_36_12, ↓fp_36_12, ↓fg_36_13, ↓fp_36_13, ↓fg_36_14, ↓fp_36_14, ↓fg_36_15, ↓fg_36_16, ↓fp_36_16, ↓fg_36_17, ↓fp_36_17, ↓fg_36_18, ↓fp_36_18, ↓fg_36_19, ↓fp_36_19, ↓fg_36_20, ↓fp_36_20, ↓fg_36_21, ↓fp_36_21, ↓fg_36_22, ↓fp_36_22, ↓fg_36_23, ↓fp_36_23, ↓fg_36_24, ↓fp_36_24, ↓fg_36_25, ↓fg_36_26, ↓fg_36_27, ↓fg_36_28, ↓fp_36_28, ↓fg_36_29, ↓fp_36_29, ↓oc_36, ↓ai_37, ↓wi_37, ↓ai_38, ↓wi_38, ↓ai_39, ↓wi_39, ↓ai_40, ↓wi_40, ↓ai_41, ↓wi_41, ↓ai_42, ↓wi_42, ↓ai_43, ↓wi_43, ↓ai_44, ↓wi_44, ↓ai_45, ↓wi_45, ↓ai_46, ↓wi_46, ↓ai_47, ↓wi_47, ↓ai_48, ↓wi_48, ↓ai_51, ↓wi_51, ↓al_49, ↓wl_49, ↓al_50, ↓wl_50, isW_1, isW_11, isW_21, isS_3, isS_5, isS_13, isS_15, isS_23, isS_25, ↓q_ga2, ↓q_rs2, ↓q_s1q, ↓c1, ↓c2, a5, lg_self, a1, g1, f1]
theorem law_1 {X : pm_X} {I : st_I} {J : st_J} {i : Nat} (hR : R I) (hi : i + 5 ≤ X.1) (hL : X.1 ≤ 2560) : ∃ I2 J2, R I2 ∧ ∀ d, pm_ev X (d + 14) 228 (239, lwL i, [], st_E I J) = pm_ev X (d + 14) 228 (18, lwL (i + 5), [], st_E I2 J2) := by
  have h : OK X 8 134 [] I J := oo_8 hR
  obtain ⟨v, I1, J1, I2, J2, h1, h2, hR2, hv⟩ := h
  obtain ⟨v, rfl⟩ : ∃ w, v = .int w := by
    rcases hv with ⟨-, h⟩ | ⟨h, -⟩
    · exact h
    · have h : (some FieldType.int : Option FieldType) = some FieldType.long := h
      cases h
  have a5 : nI i + 5 = nI (i + 5) := nI_add i 5
  refine ⟨I2, J2, hR2, fun d => ?_⟩
  have c1 := fun F => h1 d F
  have c2 := fun F => h2 d F
  simp only [lwL, ↓ps_228_239, ↓ps_228_240, ↓ps_228_243, ↓ps_228_244, ↓ps_228_247, ↓ps_228_250, ↓ps_228_251, ↓ps_228_1654, ↓ps_228_1657, ↓q_i1, ↓q_i2, ↓q_l1, ↓q_l2, ↓q_r1, ↓q_v1, ↓q_rs, ↓q_if, ↓q_gi, ↓q_gi', ↓q_gl, ↓q_gl', ↓q_ga, ↓q_ga', ↓q_s1, ↓q_s1n, ↓q_s1i, ↓q_s1r, ↓q_s1', ↓q_s2, ↓q_s2n, ↓q_s2i, ↓q_s2r, ↓q_s2', ↓q_ar0, ↓q_ar, q_w0, q_wi, q_wl, q_wr, q_wii, q_wil, q_wli, q_wll, q_wir, q_wri, q_wlr, q_wrl, q_wrr, q_wirr, q_wiir, q_wiii, q_ni, q_nl, q_fi, q_fl, q_z0, q_z1, q_fz0, q_fz1, ↓q_ts, ↓q_tn, q_e, q_ci, q_cr, ↓q_rfs, decide_true, Bool.and_true, Bool.and_self, Nat.zero_add, Nat.reduceAdd, Nat.reduceBEq, beq_self_eq_true, q_le, q_lel, q_ge, q_gel, q_gt, q_gtl, ite_not, Bool.not_eq_true', Bool.not_eq_false', ↓reduceIte, ↓fg_0_0, ↓fg_0_1, ↓fg_0_2, ↓fg_0_3, ↓fg_0_4, ↓fg_0_5, ↓fg_0_6, ↓fg_0_7, ↓fg_0_8, ↓fp_0_7, ↓fp_0_8, ↓oc_0, ↓fg_31_0, ↓fg_31_1, ↓fp_31_1, ↓oc_31, ↓ai_32, ↓wi_32, ↓fg_33_0, ↓fp_33_0, ↓fg_33_1, ↓fp_33_1, ↓fg_33_2, ↓fp_33_2, ↓fg_33_3, ↓fp_33_3, ↓oc_33, ↓ai_34, ↓wi_34, ↓ai_35, ↓wi_35, ↓fg_36_0, ↓fg_36_1, ↓fg_36_2, ↓fg_36_3, ↓fg_36_4, ↓fg_36_5, ↓fg_36_6, ↓fg_36_7, ↓fp_36_7, ↓fg_36_8, ↓fg_36_9, ↓fg_36_10, ↓fg_36_11, ↓fg_36_12, ↓fp_36_12, ↓fg_36_13, ↓fp_36_13, ↓fg_36_14, ↓fp_36_14, ↓fg_36_15, ↓fg_36_16, ↓fp_36_16, ↓fg_36_17, ↓fp_36_17, ↓fg_36_18, ↓fp_36_18, ↓fg_36_19, ↓fp_36_19, ↓fg_36_20, ↓fp_36_20, ↓fg_36_21, ↓fp_36_21, ↓fg_36_22, ↓fp_36_22, ↓fg_36_23, ↓fp_36_23, ↓fg_36_24, ↓fp_36_24, ↓fg_36_25, ↓fg_36_26, ↓fg_36_27, ↓fg_36_28, ↓fp_36_28, ↓fg_36_29, ↓fp_36_29, ↓oc_36, ↓ai_37, ↓wi_37, ↓ai_38, ↓wi_38, ↓ai_39, ↓wi_39, ↓ai_40, ↓wi_40, ↓ai_41, ↓wi_41, ↓ai_42, ↓wi_42, ↓ai_43, ↓wi_43, ↓ai_44, ↓wi_44, ↓ai_45, ↓wi_45, ↓ai_46, ↓wi_46, ↓ai_47, ↓wi_47, ↓ai_48, ↓wi_48, ↓ai_51, ↓wi_51, ↓al_49, ↓wl_49, ↓al_50, ↓wl_50, isW_1, isW_11, isW_21, isS_3, isS_5, isS_13, isS_15, isS_23, isS_25, ↓q_ga2, ↓q_rs2, ↓q_s1q, ↓c1, ↓c2, a5, lg_self]
theorem law_2 {X : pm_X} {I : st_I} {J : st_J} {i : Nat} (hR : R I) (hi : i + 5 ≤ X.1) (hL : X.1 ≤ 2560) : ∃ I2 J2, R I2 ∧ ∀ d, pm_ev X (d + 14) 228 (252, lwL i, [], st_E I J) = pm_ev X (d + 14) 228 (18, lwL (i + 5), [], st_E I2 J2) := by
  have h : OK X 32 155 [.int (X.2 (i + 1)), .int (X.2 (i + 2))] I J := oo_32 hR
  obtain ⟨v, I1, J1, I2, J2, h1, h2, hR2, hv⟩ := h
  obtain ⟨v, rfl⟩ : ∃ w, v = .int w := by
    rcases hv with ⟨-, h⟩ | ⟨h, -⟩
    · exact h
    · have h : (some FieldType.int : Option FieldType) = some FieldType.long := h
      cases h
  have a1 : nI i + 1 = nI (i + 1) := nI_add i 1
  have g1 : pm_ok (nI (i + 1)) X.1 = true := decide_eq_true (nI_in (by omega) (by omega))
  have f1 : (nI (i + 1)).toNatClampNeg = i + 1 := nI_clamp (by omega)
  have a2 : nI i + 2 = nI (i + 2) := nI_add i 2
  have g2 : pm_ok (nI (i + 2)) X.1 = true := decide_eq_true (nI_in (by omega) (by omega))
  have f2 : (nI (i + 2)).toNatClampNeg = i + 2 := nI_clamp (by omega)
  have a5 : nI i + 5 = nI (i + 5) := nI_add i 5
  refine ⟨I2, J2, hR2, fun d => ?_⟩
  have c1 := fun F => h1 d F
  have c2 := fun F => h2 d F
  simp only [lwL, ↓ps_228_252, ↓ps_228_253, ↓ps_228_254, ↓ps_228_255, ↓ps_228_256, ↓ps_228_257, ↓ps_228_258, ↓ps_228_259, ↓ps_228_260, ↓ps_228_261, ↓ps_228_262, ↓ps_228_263, ↓ps_228_266, ↓ps_228_267, ↓ps_228_268, ↓ps_228_269, ↓ps_228_270, ↓ps_228_271, ↓ps_228_272, ↓ps_228_273, ↓ps_228_274, ↓ps_228_275, ↓ps_228_276, ↓ps_228_277, ↓ps_228_280, ↓ps_228_283, ↓ps_228_284, ↓ps_228_1654, ↓ps_228_1657, ↓q_i1, ↓q_i2, ↓q_l1, ↓q_l2, ↓q_r1, ↓q_v1, ↓q_rs, ↓q_if, ↓q_gi, ↓q_gi', ↓q_gl, ↓q_gl', ↓q_ga, ↓q_ga', ↓q_s1, ↓q_s1n, ↓q_s1i, ↓q_s1r, ↓q_s1', ↓q_s2, ↓q_s2n, ↓q_s2i, ↓q_s2r, ↓q_s2', ↓q_ar0, ↓q_ar, q_w0, q_wi, q_wl, q_wr, q_wii, q_wil, q_wli, q_wll, q_wir, q_wri, q_wlr, q_wrl, q_wrr, q_wirr, q_wiir, q_wiii, q_ni, q_nl, q_fi, q_fl, q_z0, q_z1, q_fz0, q_fz1, ↓q_ts, ↓q_tn, q_e, q_ci, q_cr, ↓q_rfs, decide_true, Bool.and_true, Bool.and_self, Nat.zero_add, Nat.reduceAdd, Nat.reduceBEq, beq_self_eq_true, q_le, q_lel, q_ge, q_gel, q_gt, q_gtl, ite_not, Bool.not_eq_true', Bool.not_eq_false', ↓reduceIte, ↓fg_0_0, ↓fg_0_1, ↓fg_0_2, ↓fg_0_3, ↓fg_0_4, ↓fg_0_5, ↓fg_0_6, ↓fg_0_7, ↓fg_0_8, ↓fp_0_7, ↓fp_0_8, ↓oc_0, ↓fg_31_0, ↓fg_31_1, ↓fp_31_1, ↓oc_31, ↓ai_32, ↓wi_32, ↓fg_33_0, ↓fp_33_0, ↓fg_33_1, ↓fp_33_1, ↓fg_33_2, ↓fp_33_2, ↓fg_33_3, ↓fp_33_3, ↓oc_33, ↓ai_34, ↓wi_34, ↓ai_35, ↓wi_35, ↓fg_36_0, ↓fg_36_1, ↓fg_36_2, ↓fg_36_3, ↓fg_36_4, ↓fg_36_5, ↓fg_36_6, ↓fg_36_7, ↓fp_36_7, ↓fg_36_8, ↓fg_36_9, ↓fg_36_10, ↓fg_36_11, ↓fg_36_12, ↓fp_36_12, ↓fg_36_13, ↓fp_36_13, ↓fg_36_14, ↓fp_36_14, ↓fg_36_15, ↓fg_36_16, ↓fp_36_16, ↓fg_36_17, ↓fp_36_17, ↓fg_36_18, ↓fp_36_18, ↓fg_36_19, ↓fp_36_19, ↓fg_36_20, ↓fp_36_20, ↓fg_36_21, ↓fp_36_21, ↓fg_36_22, ↓fp_36_22, ↓fg_36_23, ↓fp_36_23, ↓fg_36_24, ↓fp_36_24, ↓fg_36_25, ↓fg_36_26, ↓fg_36_27, ↓fg_36_28, ↓fp_36_28, ↓fg_36_29, ↓fp_36_29, ↓oc_36, ↓ai_37, ↓wi_37, ↓ai_38, ↓wi_38, ↓ai_39, ↓wi_39, ↓ai_40, ↓wi_40, ↓ai_41, ↓wi_41, ↓ai_42, ↓wi_42, ↓ai_43, ↓wi_43, ↓ai_44, ↓wi_44, ↓ai_45, ↓wi_45, ↓ai_46, ↓wi_46, ↓ai_47, ↓wi_47, ↓ai_48, ↓wi_48, ↓ai_51, ↓wi_51, ↓al_49, ↓wl_49, ↓al_50, ↓wl_50, isW_1, isW_11, isW_21, isS_3, isS_5, isS_13, isS_15, isS_23, isS_25, ↓q_ga2, ↓q_rs2, ↓q_s1q, ↓c1, ↓c2, a5, lg_self, a1, g1, f1, a2, g2, f2]
theorem law_3 {X : pm_X} {I : st_I} {J : st_J} {i : Nat} (hR : R I) (hi : i + 5 ≤ X.1) (hL : X.1 ≤ 2560) : ∃ I2 J2, R I2 ∧ ∀ d, pm_ev X (d + 14) 228 (285, lwL i, [], st_E I J) = pm_ev X (d + 14) 228 (18, lwL (i + 5), [], st_E I2 J2) := by
  have h : OK X 33 156 [.int (X.2 (i + 1))] I J := oo_33 hR
  obtain ⟨v, I1, J1, I2, J2, h1, h2, hR2, hv⟩ := h
  obtain ⟨v, rfl⟩ : ∃ w, v = .int w := by
    rcases hv with ⟨-, h⟩ | ⟨h, -⟩
    · exact h
    · have h : (some FieldType.int : Option FieldType) = some FieldType.long := h
      cases h
  have a1 : nI i + 1 = nI (i + 1) := nI_add i 1
  have g1 : pm_ok (nI (i + 1)) X.1 = true := decide_eq_true (nI_in (by omega) (by omega))
  have f1 : (nI (i + 1)).toNatClampNeg = i + 1 := nI_clamp (by omega)
  have a5 : nI i + 5 = nI (i + 5) := nI_add i 5
  refine ⟨I2, J2, hR2, fun d => ?_⟩
  have c1 := fun F => h1 d F
  have c2 := fun F => h2 d F
  simp only [lwL, ↓ps_228_285, ↓ps_228_286, ↓ps_228_287, ↓ps_228_288, ↓ps_228_289, ↓ps_228_290, ↓ps_228_291, ↓ps_228_294, ↓ps_228_295, ↓ps_228_296, ↓ps_228_297, ↓ps_228_298, ↓ps_228_299, ↓ps_228_300, ↓ps_228_303, ↓ps_228_306, ↓ps_228_307, ↓ps_228_1654, ↓ps_228_1657, ↓q_i1, ↓q_i2, ↓q_l1, ↓q_l2, ↓q_r1, ↓q_v1, ↓q_rs, ↓q_if, ↓q_gi, ↓q_gi', ↓q_gl, ↓q_gl', ↓q_ga, ↓q_ga', ↓q_s1, ↓q_s1n, ↓q_s1i, ↓q_s1r, ↓q_s1', ↓q_s2, ↓q_s2n, ↓q_s2i, ↓q_s2r, ↓q_s2', ↓q_ar0, ↓q_ar, q_w0, q_wi, q_wl, q_wr, q_wii, q_wil, q_wli, q_wll, q_wir, q_wri, q_wlr, q_wrl, q_wrr, q_wirr, q_wiir, q_wiii, q_ni, q_nl, q_fi, q_fl, q_z0, q_z1, q_fz0, q_fz1, ↓q_ts, ↓q_tn, q_e, q_ci, q_cr, ↓q_rfs, decide_true, Bool.and_true, Bool.and_self, Nat.zero_add, Nat.reduceAdd, Nat.reduceBEq, beq_self_eq_true, q_le, q_lel, q_ge, q_gel, q_gt, q_gtl, ite_not, Bool.not_eq_true', Bool.not_eq_false', ↓reduceIte, ↓fg_0_0, ↓fg_0_1, ↓fg_0_2, ↓fg_0_3, ↓fg_0_4, ↓fg_0_5, ↓fg_0_6, ↓fg_0_7, ↓fg_0_8, ↓fp_0_7, ↓fp_0_8, ↓oc_0, ↓fg_31_0, ↓fg_31_1, ↓fp_31_1, ↓oc_31, ↓ai_32, ↓wi_32, ↓fg_33_0, ↓fp_33_0, ↓fg_33_1, ↓fp_33_1, ↓fg_33_2, ↓fp_33_2, ↓fg_33_3, ↓fp_33_3, ↓oc_33, ↓ai_34, ↓wi_34, ↓ai_35, ↓wi_35, ↓fg_36_0, ↓fg_36_1, ↓fg_36_2, ↓fg_36_3, ↓fg_36_4, ↓fg_36_5, ↓fg_36_6, ↓fg_36_7, ↓fp_36_7, ↓fg_36_8, ↓fg_36_9, ↓fg_36_10, ↓fg_36_11, ↓fg_36_12, ↓fp_36_12, ↓fg_36_13, ↓fp_36_13, ↓fg_36_14, ↓fp_36_14, ↓fg_36_15, ↓fg_36_16, ↓fp_36_16, ↓fg_36_17, ↓fp_36_17, ↓fg_36_18, ↓fp_36_18, ↓fg_36_19, ↓fp_36_19, ↓fg_36_20, ↓fp_36_20, ↓fg_36_21, ↓fp_36_21, ↓fg_36_22, ↓fp_36_22, ↓fg_36_23, ↓fp_36_23, ↓fg_36_24, ↓fp_36_24, ↓fg_36_25, ↓fg_36_26, ↓fg_36_27, ↓fg_36_28, ↓fp_36_28, ↓fg_36_29, ↓fp_36_29, ↓oc_36, ↓ai_37, ↓wi_37, ↓ai_38, ↓wi_38, ↓ai_39, ↓wi_39, ↓ai_40, ↓wi_40, ↓ai_41, ↓wi_41, ↓ai_42, ↓wi_42, ↓ai_43, ↓wi_43, ↓ai_44, ↓wi_44, ↓ai_45, ↓wi_45, ↓ai_46, ↓wi_46, ↓ai_47, ↓wi_47, ↓ai_48, ↓wi_48, ↓ai_51, ↓wi_51, ↓al_49, ↓wl_49, ↓al_50, ↓wl_50, isW_1, isW_11, isW_21, isS_3, isS_5, isS_13, isS_15, isS_23, isS_25, ↓q_ga2, ↓q_rs2, ↓q_s1q, ↓c1, ↓c2, a5, lg_self, a1, g1, f1]
theorem law_4 {X : pm_X} {I : st_I} {J : st_J} {i : Nat} (hR : R I) (hi : i + 5 ≤ X.1) (hL : X.1 ≤ 2560) : ∃ I2 J2, R I2 ∧ ∀ d, pm_ev X (d + 14) 228 (308, lwL i, [], st_E I J) = pm_ev X (d + 14) 228 (18, lwL (i + 5), [], st_E I2 J2) := by
  have h : OK X 35 157 [.int (X.2 (i + 1)), .int (X.2 (i + 2))] I J := oo_35 hR
  obtain ⟨v, I1, J1, I2, J2, h1, h2, hR2, hv⟩ := h
  obtain ⟨v, rfl⟩ : ∃ w, v = .int w := by
    rcases hv with ⟨-, h⟩ | ⟨h, -⟩
    · exact h
    · have h : (some FieldType.int : Option FieldType) = some FieldType.long := h
      cases h
  have a1 : nI i + 1 = nI (i + 1) := nI_add i 1
  have g1 : pm_ok (nI (i + 1)) X.1 = true := decide_eq_true (nI_in (by omega) (by omega))
  have f1 : (nI (i + 1)).toNatClampNeg = i + 1 := nI_clamp (by omega)
  have a2 : nI i + 2 = nI (i + 2) := nI_add i 2
  have g2 : pm_ok (nI (i + 2)) X.1 = true := decide_eq_true (nI_in (by omega) (by omega))
  have f2 : (nI (i + 2)).toNatClampNeg = i + 2 := nI_clamp (by omega)
  have a5 : nI i + 5 = nI (i + 5) := nI_add i 5
  refine ⟨I2, J2, hR2, fun d => ?_⟩
  have c1 := fun F => h1 d F
  have c2 := fun F => h2 d F
  simp only [lwL, ↓ps_228_308, ↓ps_228_309, ↓ps_228_310, ↓ps_228_311, ↓ps_228_312, ↓ps_228_313, ↓ps_228_314, ↓ps_228_315, ↓ps_228_316, ↓ps_228_317, ↓ps_228_318, ↓ps_228_319, ↓ps_228_322, ↓ps_228_323, ↓ps_228_324, ↓ps_228_325, ↓ps_228_326, ↓ps_228_327, ↓ps_228_328, ↓ps_228_329, ↓ps_228_330, ↓ps_228_331, ↓ps_228_332, ↓ps_228_333, ↓ps_228_336, ↓ps_228_339, ↓ps_228_340, ↓ps_228_1654, ↓ps_228_1657, ↓q_i1, ↓q_i2, ↓q_l1, ↓q_l2, ↓q_r1, ↓q_v1, ↓q_rs, ↓q_if, ↓q_gi, ↓q_gi', ↓q_gl, ↓q_gl', ↓q_ga, ↓q_ga', ↓q_s1, ↓q_s1n, ↓q_s1i, ↓q_s1r, ↓q_s1', ↓q_s2, ↓q_s2n, ↓q_s2i, ↓q_s2r, ↓q_s2', ↓q_ar0, ↓q_ar, q_w0, q_wi, q_wl, q_wr, q_wii, q_wil, q_wli, q_wll, q_wir, q_wri, q_wlr, q_wrl, q_wrr, q_wirr, q_wiir, q_wiii, q_ni, q_nl, q_fi, q_fl, q_z0, q_z1, q_fz0, q_fz1, ↓q_ts, ↓q_tn, q_e, q_ci, q_cr, ↓q_rfs, decide_true, Bool.and_true, Bool.and_self, Nat.zero_add, Nat.reduceAdd, Nat.reduceBEq, beq_self_eq_true, q_le, q_lel, q_ge, q_gel, q_gt, q_gtl, ite_not, Bool.not_eq_true', Bool.not_eq_false', ↓reduceIte, ↓fg_0_0, ↓fg_0_1, ↓fg_0_2, ↓fg_0_3, ↓fg_0_4, ↓fg_0_5, ↓fg_0_6, ↓fg_0_7, ↓fg_0_8, ↓fp_0_7, ↓fp_0_8, ↓oc_0, ↓fg_31_0, ↓fg_31_1, ↓fp_31_1, ↓oc_31, ↓ai_32, ↓wi_32, ↓fg_33_0, ↓fp_33_0, ↓fg_33_1, ↓fp_33_1, ↓fg_33_2, ↓fp_33_2, ↓fg_33_3, ↓fp_33_3, ↓oc_33, ↓ai_34, ↓wi_34, ↓ai_35, ↓wi_35, ↓fg_36_0, ↓fg_36_1, ↓fg_36_2, ↓fg_36_3, ↓fg_36_4, ↓fg_36_5, ↓fg_36_6, ↓fg_36_7, ↓fp_36_7, ↓fg_36_8, ↓fg_36_9, ↓fg_36_10, ↓fg_36_11, ↓fg_36_12, ↓fp_36_12, ↓fg_36_13, ↓fp_36_13, ↓fg_36_14, ↓fp_36_14, ↓fg_36_15, ↓fg_36_16, ↓fp_36_16, ↓fg_36_17, ↓fp_36_17, ↓fg_36_18, ↓fp_36_18, ↓fg_36_19, ↓fp_36_19, ↓fg_36_20, ↓fp_36_20, ↓fg_36_21, ↓fp_36_21, ↓fg_36_22, ↓fp_36_22, ↓fg_36_23, ↓fp_36_23, ↓fg_36_24, ↓fp_36_24, ↓fg_36_25, ↓fg_36_26, ↓fg_36_27, ↓fg_36_28, ↓fp_36_28, ↓fg_36_29, ↓fp_36_29, ↓oc_36, ↓ai_37, ↓wi_37, ↓ai_38, ↓wi_38, ↓ai_39, ↓wi_39, ↓ai_40, ↓wi_40, ↓ai_41, ↓wi_41, ↓ai_42, ↓wi_42, ↓ai_43, ↓wi_43, ↓ai_44, ↓wi_44, ↓ai_45, ↓wi_45, ↓ai_46, ↓wi_46, ↓ai_47, ↓wi_47, ↓ai_48, ↓wi_48, ↓ai_51, ↓wi_51, ↓al_49, ↓wl_49, ↓al_50, ↓wl_50, isW_1, isW_11, isW_21, isS_3, isS_5, isS_13, isS_15, isS_23, isS_25, ↓q_ga2, ↓q_rs2, ↓q_s1q, ↓c1, ↓c2, a5, lg_self, a1, g1, f1, a2, g2, f2]
theorem law_5 {X : pm_X} {I : st_I} {J : st_J} {i : Nat} (hR : R I) (hi : i + 5 ≤ X.1) (hL : X.1 ≤ 2560) : ∃ I2 J2, R I2 ∧ ∀ d, pm_ev X (d + 14) 228 (341, lwL i, [], st_E I J) = pm_ev X (d + 14) 228 (18, lwL (i + 5), [], st_E I2 J2) := by
  have h : OK X 36 158 [.int (X.2 (i + 1)), .int (X.2 (i + 2))] I J := oo_36 hR
  obtain ⟨v, I1, J1, I2, J2, h1, h2, hR2, hv⟩ := h
  obtain ⟨v, rfl⟩ : ∃ w, v = .int w := by
    rcases hv with ⟨-, h⟩ | ⟨h, -⟩
    · exact h
    · have h : (some FieldType.int : Option FieldType) = some FieldType.long := h
      cases h
  have a1 : nI i + 1 = nI (i + 1) := nI_add i 1
  have g1 : pm_ok (nI (i + 1)) X.1 = true := decide_eq_true (nI_in (by omega) (by omega))
  have f1 : (nI (i + 1)).toNatClampNeg = i + 1 := nI_clamp (by omega)
  have a2 : nI i + 2 = nI (i + 2) := nI_add i 2
  have g2 : pm_ok (nI (i + 2)) X.1 = true := decide_eq_true (nI_in (by omega) (by omega))
  have f2 : (nI (i + 2)).toNatClampNeg = i + 2 := nI_clamp (by omega)
  have a5 : nI i + 5 = nI (i + 5) := nI_add i 5
  refine ⟨I2, J2, hR2, fun d => ?_⟩
  have c1 := fun F => h1 d F
  have c2 := fun F => h2 d F
  simp only [lwL, ↓ps_228_341, ↓ps_228_342, ↓ps_228_343, ↓ps_228_344, ↓ps_228_345, ↓ps_228_346, ↓ps_228_347, ↓ps_228_348, ↓ps_228_349, ↓ps_228_350, ↓ps_228_351, ↓ps_228_352, ↓ps_228_355, ↓ps_228_356, ↓ps_228_357, ↓ps_228_358, ↓ps_228_359, ↓ps_228_360, ↓ps_228_361, ↓ps_228_362, ↓ps_228_363, ↓ps_228_364, ↓ps_228_365, ↓ps_228_366, ↓ps_228_369, ↓ps_228_372, ↓ps_228_373, ↓ps_228_1654, ↓ps_228_1657, ↓q_i1, ↓q_i2, ↓q_l1, ↓q_l2, ↓q_r1, ↓q_v1, ↓q_rs, ↓q_if, ↓q_gi, ↓q_gi', ↓q_gl, ↓q_gl', ↓q_ga, ↓q_ga', ↓q_s1, ↓q_s1n, ↓q_s1i, ↓q_s1r, ↓q_s1', ↓q_s2, ↓q_s2n, ↓q_s2i, ↓q_s2r, ↓q_s2', ↓q_ar0, ↓q_ar, q_w0, q_wi, q_wl, q_wr, q_wii, q_wil, q_wli, q_wll, q_wir, q_wri, q_wlr, q_wrl, q_wrr, q_wirr, q_wiir, q_wiii, q_ni, q_nl, q_fi, q_fl, q_z0, q_z1, q_fz0, q_fz1, ↓q_ts, ↓q_tn, q_e, q_ci, q_cr, ↓q_rfs, decide_true, Bool.and_true, Bool.and_self, Nat.zero_add, Nat.reduceAdd, Nat.reduceBEq, beq_self_eq_true, q_le, q_lel, q_ge, q_gel, q_gt, q_gtl, ite_not, Bool.not_eq_true', Bool.not_eq_false', ↓reduceIte, ↓fg_0_0, ↓fg_0_1, ↓fg_0_2, ↓fg_0_3, ↓fg_0_4, ↓fg_0_5, ↓fg_0_6, ↓fg_0_7, ↓fg_0_8, ↓fp_0_7, ↓fp_0_8, ↓oc_0, ↓fg_31_0, ↓fg_31_1, ↓fp_31_1, ↓oc_31, ↓ai_32, ↓wi_32, ↓fg_33_0, ↓fp_33_0, ↓fg_33_1, ↓fp_33_1, ↓fg_33_2, ↓fp_33_2, ↓fg_33_3, ↓fp_33_3, ↓oc_33, ↓ai_34, ↓wi_34, ↓ai_35, ↓wi_35, ↓fg_36_0, ↓fg_36_1, ↓fg_36_2, ↓fg_36_3, ↓fg_36_4, ↓fg_36_5, ↓fg_36_6, ↓fg_36_7, ↓fp_36_7, ↓fg_36_8, ↓fg_36_9, ↓fg_36_10, ↓fg_36_11, ↓fg_36_12, ↓fp_36_12, ↓fg_36_13, ↓fp_36_13, ↓fg_36_14, ↓fp_36_14, ↓fg_36_15, ↓fg_36_16, ↓fp_36_16, ↓fg_36_17, ↓fp_36_17, ↓fg_36_18, ↓fp_36_18, ↓fg_36_19, ↓fp_36_19, ↓fg_36_20, ↓fp_36_20, ↓fg_36_21, ↓fp_36_21, ↓fg_36_22, ↓fp_36_22, ↓fg_36_23, ↓fp_36_23, ↓fg_36_24, ↓fp_36_24, ↓fg_36_25, ↓fg_36_26, ↓fg_36_27, ↓fg_36_28, ↓fp_36_28, ↓fg_36_29, ↓fp_36_29, ↓oc_36, ↓ai_37, ↓wi_37, ↓ai_38, ↓wi_38, ↓ai_39, ↓wi_39, ↓ai_40, ↓wi_40, ↓ai_41, ↓wi_41, ↓ai_42, ↓wi_42, ↓ai_43, ↓wi_43, ↓ai_44, ↓wi_44, ↓ai_45, ↓wi_45, ↓ai_46, ↓wi_46, ↓ai_47, ↓wi_47, ↓ai_48, ↓wi_48, ↓ai_51, ↓wi_51, ↓al_49, ↓wl_49, ↓al_50, ↓wl_50, isW_1, isW_11, isW_21, isS_3, isS_5, isS_13, isS_15, isS_23, isS_25, ↓q_ga2, ↓q_rs2, ↓q_s1q, ↓c1, ↓c2, a5, lg_self, a1, g1, f1, a2, g2, f2]
theorem law_6 {X : pm_X} {I : st_I} {J : st_J} {i : Nat} (hR : R I) (hi : i + 5 ≤ X.1) (hL : X.1 ≤ 2560) : ∃ I2 J2, R I2 ∧ ∀ d, pm_ev X (d + 14) 228 (374, lwL i, [], st_E I J) = pm_ev X (d + 14) 228 (18, lwL (i + 5), [], st_E I2 J2) := by
  have h : OK X 42 163 [.int (X.2 (i + 1)), .int (X.2 (i + 2))] I J := op_6 hR
  obtain ⟨v, I1, J1, I2, J2, h1, h2, hR2, hv⟩ := h
  obtain ⟨v, rfl⟩ : ∃ w, v = .int w := by
    rcases hv with ⟨-, h⟩ | ⟨h, -⟩
    · exact h
    · have h : (some FieldType.int : Option FieldType) = some FieldType.long := h
      cases h
  have a1 : nI i + 1 = nI (i + 1) := nI_add i 1
  have g1 : pm_ok (nI (i + 1)) X.1 = true := decide_eq_true (nI_in (by omega) (by omega))
  have f1 : (nI (i + 1)).toNatClampNeg = i + 1 := nI_clamp (by omega)
  have a2 : nI i + 2 = nI (i + 2) := nI_add i 2
  have g2 : pm_ok (nI (i + 2)) X.1 = true := decide_eq_true (nI_in (by omega) (by omega))
  have f2 : (nI (i + 2)).toNatClampNeg = i + 2 := nI_clamp (by omega)
  have a5 : nI i + 5 = nI (i + 5) := nI_add i 5
  refine ⟨I2, J2, hR2, fun d => ?_⟩
  have c1 := fun F => h1 d F
  have c2 := fun F => h2 d F
  simp only [lwL, ↓ps_228_374, ↓ps_228_375, ↓ps_228_376, ↓ps_228_377, ↓ps_228_378, ↓ps_228_379, ↓ps_228_380, ↓ps_228_381, ↓ps_228_382, ↓ps_228_383, ↓ps_228_384, ↓ps_228_385, ↓ps_228_388, ↓ps_228_389, ↓ps_228_390, ↓ps_228_391, ↓ps_228_392, ↓ps_228_393, ↓ps_228_394, ↓ps_228_395, ↓ps_228_396, ↓ps_228_397, ↓ps_228_398, ↓ps_228_399, ↓ps_228_402, ↓ps_228_405, ↓ps_228_406, ↓ps_228_1654, ↓ps_228_1657, ↓q_i1, ↓q_i2, ↓q_l1, ↓q_l2, ↓q_r1, ↓q_v1, ↓q_rs, ↓q_if, ↓q_gi, ↓q_gi', ↓q_gl, ↓q_gl', ↓q_ga, ↓q_ga', ↓q_s1, ↓q_s1n, ↓q_s1i, ↓q_s1r, ↓q_s1', ↓q_s2, ↓q_s2n, ↓q_s2i, ↓q_s2r, ↓q_s2', ↓q_ar0, ↓q_ar, q_w0, q_wi, q_wl, q_wr, q_wii, q_wil, q_wli, q_wll, q_wir, q_wri, q_wlr, q_wrl, q_wrr, q_wirr, q_wiir, q_wiii, q_ni, q_nl, q_fi, q_fl, q_z0, q_z1, q_fz0, q_fz1, ↓q_ts, ↓q_tn, q_e, q_ci, q_cr, ↓q_rfs, decide_true, Bool.and_true, Bool.and_self, Nat.zero_add, Nat.reduceAdd, Nat.reduceBEq, beq_self_eq_true, q_le, q_lel, q_ge, q_gel, q_gt, q_gtl, ite_not, Bool.not_eq_true', Bool.not_eq_false', ↓reduceIte, ↓fg_0_0, ↓fg_0_1, ↓fg_0_2, ↓fg_0_3, ↓fg_0_4, ↓fg_0_5, ↓fg_0_6, ↓fg_0_7, ↓fg_0_8, ↓fp_0_7, ↓fp_0_8, ↓oc_0, ↓fg_31_0, ↓fg_31_1, ↓fp_31_1, ↓oc_31, ↓ai_32, ↓wi_32, ↓fg_33_0, ↓fp_33_0, ↓fg_33_1, ↓fp_33_1, ↓fg_33_2, ↓fp_33_2, ↓fg_33_3, ↓fp_33_3, ↓oc_33, ↓ai_34, ↓wi_34, ↓ai_35, ↓wi_35, ↓fg_36_0, ↓fg_36_1, ↓fg_36_2, ↓fg_36_3, ↓fg_36_4, ↓fg_36_5, ↓fg_36_6, ↓fg_36_7, ↓fp_36_7, ↓fg_36_8, ↓fg_36_9, ↓fg_36_10, ↓fg_36_11, ↓fg_36_12, ↓fp_36_12, ↓fg_36_13, ↓fp_36_13, ↓fg_36_14, ↓fp_36_14, ↓fg_36_15, ↓fg_36_16, ↓fp_36_16, ↓fg_36_17, ↓fp_36_17, ↓fg_36_18, ↓fp_36_18, ↓fg_36_19, ↓fp_36_19, ↓fg_36_20, ↓fp_36_20, ↓fg_36_21, ↓fp_36_21, ↓fg_36_22, ↓fp_36_22, ↓fg_36_23, ↓fp_36_23, ↓fg_36_24, ↓fp_36_24, ↓fg_36_25, ↓fg_36_26, ↓fg_36_27, ↓fg_36_28, ↓fp_36_28, ↓fg_36_29, ↓fp_36_29, ↓oc_36, ↓ai_37, ↓wi_37, ↓ai_38, ↓wi_38, ↓ai_39, ↓wi_39, ↓ai_40, ↓wi_40, ↓ai_41, ↓wi_41, ↓ai_42, ↓wi_42, ↓ai_43, ↓wi_43, ↓ai_44, ↓wi_44, ↓ai_45, ↓wi_45, ↓ai_46, ↓wi_46, ↓ai_47, ↓wi_47, ↓ai_48, ↓wi_48, ↓ai_51, ↓wi_51, ↓al_49, ↓wl_49, ↓al_50, ↓wl_50, isW_1, isW_11, isW_21, isS_3, isS_5, isS_13, isS_15, isS_23, isS_25, ↓q_ga2, ↓q_rs2, ↓q_s1q, ↓c1, ↓c2, a5, lg_self, a1, g1, f1, a2, g2, f2]
theorem law_7 {X : pm_X} {I : st_I} {J : st_J} {i : Nat} (hR : R I) (hi : i + 5 ≤ X.1) (hL : X.1 ≤ 2560) : ∃ I2 J2, R I2 ∧ ∀ d, pm_ev X (d + 14) 228 (407, lwL i, [], st_E I J) = pm_ev X (d + 14) 228 (18, lwL (i + 5), [], st_E I2 J2) := by
  have h : OK X 44 164 [.int (X.2 (i + 1)), .int (X.2 (i + 2))] I J := op_7 hR
  obtain ⟨v, I1, J1, I2, J2, h1, h2, hR2, hv⟩ := h
  obtain ⟨v, rfl⟩ : ∃ w, v = .int w := by
    rcases hv with ⟨-, h⟩ | ⟨h, -⟩
    · exact h
    · have h : (some FieldType.int : Option FieldType) = some FieldType.long := h
      cases h
  have a1 : nI i + 1 = nI (i + 1) := nI_add i 1
  have g1 : pm_ok (nI (i + 1)) X.1 = true := decide_eq_true (nI_in (by omega) (by omega))
  have f1 : (nI (i + 1)).toNatClampNeg = i + 1 := nI_clamp (by omega)
  have a2 : nI i + 2 = nI (i + 2) := nI_add i 2
  have g2 : pm_ok (nI (i + 2)) X.1 = true := decide_eq_true (nI_in (by omega) (by omega))
  have f2 : (nI (i + 2)).toNatClampNeg = i + 2 := nI_clamp (by omega)
  have a5 : nI i + 5 = nI (i + 5) := nI_add i 5
  refine ⟨I2, J2, hR2, fun d => ?_⟩
  have c1 := fun F => h1 d F
  have c2 := fun F => h2 d F
  simp only [lwL, ↓ps_228_407, ↓ps_228_408, ↓ps_228_409, ↓ps_228_410, ↓ps_228_411, ↓ps_228_412, ↓ps_228_413, ↓ps_228_414, ↓ps_228_415, ↓ps_228_416, ↓ps_228_417, ↓ps_228_418, ↓ps_228_421, ↓ps_228_422, ↓ps_228_423, ↓ps_228_424, ↓ps_228_425, ↓ps_228_426, ↓ps_228_427, ↓ps_228_428, ↓ps_228_429, ↓ps_228_430, ↓ps_228_431, ↓ps_228_432, ↓ps_228_435, ↓ps_228_438, ↓ps_228_439, ↓ps_228_1654, ↓ps_228_1657, ↓q_i1, ↓q_i2, ↓q_l1, ↓q_l2, ↓q_r1, ↓q_v1, ↓q_rs, ↓q_if, ↓q_gi, ↓q_gi', ↓q_gl, ↓q_gl', ↓q_ga, ↓q_ga', ↓q_s1, ↓q_s1n, ↓q_s1i, ↓q_s1r, ↓q_s1', ↓q_s2, ↓q_s2n, ↓q_s2i, ↓q_s2r, ↓q_s2', ↓q_ar0, ↓q_ar, q_w0, q_wi, q_wl, q_wr, q_wii, q_wil, q_wli, q_wll, q_wir, q_wri, q_wlr, q_wrl, q_wrr, q_wirr, q_wiir, q_wiii, q_ni, q_nl, q_fi, q_fl, q_z0, q_z1, q_fz0, q_fz1, ↓q_ts, ↓q_tn, q_e, q_ci, q_cr, ↓q_rfs, decide_true, Bool.and_true, Bool.and_self, Nat.zero_add, Nat.reduceAdd, Nat.reduceBEq, beq_self_eq_true, q_le, q_lel, q_ge, q_gel, q_gt, q_gtl, ite_not, Bool.not_eq_true', Bool.not_eq_false', ↓reduceIte, ↓fg_0_0, ↓fg_0_1, ↓fg_0_2, ↓fg_0_3, ↓fg_0_4, ↓fg_0_5, ↓fg_0_6, ↓fg_0_7, ↓fg_0_8, ↓fp_0_7, ↓fp_0_8, ↓oc_0, ↓fg_31_0, ↓fg_31_1, ↓fp_31_1, ↓oc_31, ↓ai_32, ↓wi_32, ↓fg_33_0, ↓fp_33_0, ↓fg_33_1, ↓fp_33_1, ↓fg_33_2, ↓fp_33_2, ↓fg_33_3, ↓fp_33_3, ↓oc_33, ↓ai_34, ↓wi_34, ↓ai_35, ↓wi_35, ↓fg_36_0, ↓fg_36_1, ↓fg_36_2, ↓fg_36_3, ↓fg_36_4, ↓fg_36_5, ↓fg_36_6, ↓fg_36_7, ↓fp_36_7, ↓fg_36_8, ↓fg_36_9, ↓fg_36_10, ↓fg_36_11, ↓fg_36_12, ↓fp_36_12, ↓fg_36_13, ↓fp_36_13, ↓fg_36_14, ↓fp_36_14, ↓fg_36_15, ↓fg_36_16, ↓fp_36_16, ↓fg_36_17, ↓fp_36_17, ↓fg_36_18, ↓fp_36_18, ↓fg_36_19, ↓fp_36_19, ↓fg_36_20, ↓fp_36_20, ↓fg_36_21, ↓fp_36_21, ↓fg_36_22, ↓fp_36_22, ↓fg_36_23, ↓fp_36_23, ↓fg_36_24, ↓fp_36_24, ↓fg_36_25, ↓fg_36_26, ↓fg_36_27, ↓fg_36_28, ↓fp_36_28, ↓fg_36_29, ↓fp_36_29, ↓oc_36, ↓ai_37, ↓wi_37, ↓ai_38, ↓wi_38, ↓ai_39, ↓wi_39, ↓ai_40, ↓wi_40, ↓ai_41, ↓wi_41, ↓ai_42, ↓wi_42, ↓ai_43, ↓wi_43, ↓ai_44, ↓wi_44, ↓ai_45, ↓wi_45, ↓ai_46, ↓wi_46, ↓ai_47, ↓wi_47, ↓ai_48, ↓wi_48, ↓ai_51, ↓wi_51, ↓al_49, ↓wl_49, ↓al_50, ↓wl_50, isW_1, isW_11, isW_21, isS_3, isS_5, isS_13, isS_15, isS_23, isS_25, ↓q_ga2, ↓q_rs2, ↓q_s1q, ↓c1, ↓c2, a5, lg_self, a1, g1, f1, a2, g2, f2]
theorem law_8 {X : pm_X} {I : st_I} {J : st_J} {i : Nat} (hR : R I) (hi : i + 5 ≤ X.1) (hL : X.1 ≤ 2560) : ∃ I2 J2, R I2 ∧ ∀ d, pm_ev X (d + 14) 228 (440, lwL i, [], st_E I J) = pm_ev X (d + 14) 228 (18, lwL (i + 5), [], st_E I2 J2) := by
  have h : OK X 45 165 [.int (X.2 (i + 1))] I J := op_8 hR
  obtain ⟨v, I1, J1, I2, J2, h1, h2, hR2, hv⟩ := h
  obtain ⟨v, rfl⟩ : ∃ w, v = .int w := by
    rcases hv with ⟨-, h⟩ | ⟨h, -⟩
    · exact h
    · have h : (some FieldType.int : Option FieldType) = some FieldType.long := h
      cases h
  have a1 : nI i + 1 = nI (i + 1) := nI_add i 1
  have g1 : pm_ok (nI (i + 1)) X.1 = true := decide_eq_true (nI_in (by omega) (by omega))
  have f1 : (nI (i + 1)).toNatClampNeg = i + 1 := nI_clamp (by omega)
  have a5 : nI i + 5 = nI (i + 5) := nI_add i 5
  refine ⟨I2, J2, hR2, fun d => ?_⟩
  have c1 := fun F => h1 d F
  have c2 := fun F => h2 d F
  simp only [lwL, ↓ps_228_440, ↓ps_228_441, ↓ps_228_442, ↓ps_228_443, ↓ps_228_444, ↓ps_228_445, ↓ps_228_446, ↓ps_228_449, ↓ps_228_450, ↓ps_228_451, ↓ps_228_452, ↓ps_228_453, ↓ps_228_454, ↓ps_228_455, ↓ps_228_458, ↓ps_228_461, ↓ps_228_462, ↓ps_228_1654, ↓ps_228_1657, ↓q_i1, ↓q_i2, ↓q_l1, ↓q_l2, ↓q_r1, ↓q_v1, ↓q_rs, ↓q_if, ↓q_gi, ↓q_gi', ↓q_gl, ↓q_gl', ↓q_ga, ↓q_ga', ↓q_s1, ↓q_s1n, ↓q_s1i, ↓q_s1r, ↓q_s1', ↓q_s2, ↓q_s2n, ↓q_s2i, ↓q_s2r, ↓q_s2', ↓q_ar0, ↓q_ar, q_w0, q_wi, q_wl, q_wr, q_wii, q_wil, q_wli, q_wll, q_wir, q_wri, q_wlr, q_wrl, q_wrr, q_wirr, q_wiir, q_wiii, q_ni, q_nl, q_fi, q_fl, q_z0, q_z1, q_fz0, q_fz1, ↓q_ts, ↓q_tn, q_e, q_ci, q_cr, ↓q_rfs, decide_true, Bool.and_true, Bool.and_self, Nat.zero_add, Nat.reduceAdd, Nat.reduceBEq, beq_self_eq_true, q_le, q_lel, q_ge, q_gel, q_gt, q_gtl, ite_not, Bool.not_eq_true', Bool.not_eq_false', ↓reduceIte, ↓fg_0_0, ↓fg_0_1, ↓fg_0_2, ↓fg_0_3, ↓fg_0_4, ↓fg_0_5, ↓fg_0_6, ↓fg_0_7, ↓fg_0_8, ↓fp_0_7, ↓fp_0_8, ↓oc_0, ↓fg_31_0, ↓fg_31_1, ↓fp_31_1, ↓oc_31, ↓ai_32, ↓wi_32, ↓fg_33_0, ↓fp_33_0, ↓fg_33_1, ↓fp_33_1, ↓fg_33_2, ↓fp_33_2, ↓fg_33_3, ↓fp_33_3, ↓oc_33, ↓ai_34, ↓wi_34, ↓ai_35, ↓wi_35, ↓fg_36_0, ↓fg_36_1, ↓fg_36_2, ↓fg_36_3, ↓fg_36_4, ↓fg_36_5, ↓fg_36_6, ↓fg_36_7, ↓fp_36_7, ↓fg_36_8, ↓fg_36_9, ↓fg_36_10, ↓fg_36_11, ↓fg_36_12, ↓fp_36_12, ↓fg_36_13, ↓fp_36_13, ↓fg_36_14, ↓fp_36_14, ↓fg_36_15, ↓fg_36_16, ↓fp_36_16, ↓fg_36_17, ↓fp_36_17, ↓fg_36_18, ↓fp_36_18, ↓fg_36_19, ↓fp_36_19, ↓fg_36_20, ↓fp_36_20, ↓fg_36_21, ↓fp_36_21, ↓fg_36_22, ↓fp_36_22, ↓fg_36_23, ↓fp_36_23, ↓fg_36_24, ↓fp_36_24, ↓fg_36_25, ↓fg_36_26, ↓fg_36_27, ↓fg_36_28, ↓fp_36_28, ↓fg_36_29, ↓fp_36_29, ↓oc_36, ↓ai_37, ↓wi_37, ↓ai_38, ↓wi_38, ↓ai_39, ↓wi_39, ↓ai_40, ↓wi_40, ↓ai_41, ↓wi_41, ↓ai_42, ↓wi_42, ↓ai_43, ↓wi_43, ↓ai_44, ↓wi_44, ↓ai_45, ↓wi_45, ↓ai_46, ↓wi_46, ↓ai_47, ↓wi_47, ↓ai_48, ↓wi_48, ↓ai_51, ↓wi_51, ↓al_49, ↓wl_49, ↓al_50, ↓wl_50, isW_1, isW_11, isW_21, isS_3, isS_5, isS_13, isS_15, isS_23, isS_25, ↓q_ga2, ↓q_rs2, ↓q_s1q, ↓c1, ↓c2, a5, lg_self, a1, g1, f1]
theorem law_9 {X : pm_X} {I : st_I} {J : st_J} {i : Nat} (hR : R I) (hi : i + 5 ≤ X.1) (hL : X.1 ≤ 2560) : ∃ I2 J2, R I2 ∧ ∀ d, pm_ev X (d + 14) 228 (463, lwL i, [], st_E I J) = pm_ev X (d + 14) 228 (18, lwL (i + 5), [], st_E I2 J2) := by
  have h : OK X 47 166 [.int (X.2 (i + 1)), .int (X.2 (i + 2)), .int (X.2 (i + 3))] I J := op_9 hR
  obtain ⟨v, I1, J1, I2, J2, h1, h2, hR2, hv⟩ := h
  obtain ⟨v, rfl⟩ : ∃ w, v = .int w := by
    rcases hv with ⟨-, h⟩ | ⟨h, -⟩
    · exact h
    · have h : (some FieldType.int : Option FieldType) = some FieldType.long := h
      cases h
  have a1 : nI i + 1 = nI (i + 1) := nI_add i 1
  have g1 : pm_ok (nI (i + 1)) X.1 = true := decide_eq_true (nI_in (by omega) (by omega))
  have f1 : (nI (i + 1)).toNatClampNeg = i + 1 := nI_clamp (by omega)
  have a2 : nI i + 2 = nI (i + 2) := nI_add i 2
  have g2 : pm_ok (nI (i + 2)) X.1 = true := decide_eq_true (nI_in (by omega) (by omega))
  have f2 : (nI (i + 2)).toNatClampNeg = i + 2 := nI_clamp (by omega)
  have a3 : nI i + 3 = nI (i + 3) := nI_add i 3
  have g3 : pm_ok (nI (i + 3)) X.1 = true := decide_eq_true (nI_in (by omega) (by omega))
  have f3 : (nI (i + 3)).toNatClampNeg = i + 3 := nI_clamp (by omega)
  have a5 : nI i + 5 = nI (i + 5) := nI_add i 5
  refine ⟨I2, J2, hR2, fun d => ?_⟩
  have c1 := fun F => h1 d F
  have c2 := fun F => h2 d F
  simp only [lwL, ↓ps_228_463, ↓ps_228_464, ↓ps_228_465, ↓ps_228_466, ↓ps_228_467, ↓ps_228_468, ↓ps_228_469, ↓ps_228_470, ↓ps_228_471, ↓ps_228_472, ↓ps_228_473, ↓ps_228_474, ↓ps_228_475, ↓ps_228_476, ↓ps_228_477, ↓ps_228_478, ↓ps_228_479, ↓ps_228_482, ↓ps_228_483, ↓ps_228_484, ↓ps_228_485, ↓ps_228_486, ↓ps_228_487, ↓ps_228_488, ↓ps_228_489, ↓ps_228_490, ↓ps_228_491, ↓ps_228_492, ↓ps_228_493, ↓ps_228_494, ↓ps_228_495, ↓ps_228_496, ↓ps_228_497, ↓ps_228_498, ↓ps_228_501, ↓ps_228_504, ↓ps_228_505, ↓ps_228_1654, ↓ps_228_1657, ↓q_i1, ↓q_i2, ↓q_l1, ↓q_l2, ↓q_r1, ↓q_v1, ↓q_rs, ↓q_if, ↓q_gi, ↓q_gi', ↓q_gl, ↓q_gl', ↓q_ga, ↓q_ga', ↓q_s1, ↓q_s1n, ↓q_s1i, ↓q_s1r, ↓q_s1', ↓q_s2, ↓q_s2n, ↓q_s2i, ↓q_s2r, ↓q_s2', ↓q_ar0, ↓q_ar, q_w0, q_wi, q_wl, q_wr, q_wii, q_wil, q_wli, q_wll, q_wir, q_wri, q_wlr, q_wrl, q_wrr, q_wirr, q_wiir, q_wiii, q_ni, q_nl, q_fi, q_fl, q_z0, q_z1, q_fz0, q_fz1, ↓q_ts, ↓q_tn, q_e, q_ci, q_cr, ↓q_rfs, decide_true, Bool.and_true, Bool.and_self, Nat.zero_add, Nat.reduceAdd, Nat.reduceBEq, beq_self_eq_true, q_le, q_lel, q_ge, q_gel, q_gt, q_gtl, ite_not, Bool.not_eq_true', Bool.not_eq_false', ↓reduceIte, ↓fg_0_0, ↓fg_0_1, ↓fg_0_2, ↓fg_0_3, ↓fg_0_4, ↓fg_0_5, ↓fg_0_6, ↓fg_0_7, ↓fg_0_8, ↓fp_0_7, ↓fp_0_8, ↓oc_0, ↓fg_31_0, ↓fg_31_1, ↓fp_31_1, ↓oc_31, ↓ai_32, ↓wi_32, ↓fg_33_0, ↓fp_33_0, ↓fg_33_1, ↓fp_33_1, ↓fg_33_2, ↓fp_33_2, ↓fg_33_3, ↓fp_33_3, ↓oc_33, ↓ai_34, ↓wi_34, ↓ai_35, ↓wi_35, ↓fg_36_0, ↓fg_36_1, ↓fg_36_2, ↓fg_36_3, ↓fg_36_4, ↓fg_36_5, ↓fg_36_6, ↓fg_36_7, ↓fp_36_7, ↓fg_36_8, ↓fg_36_9, ↓fg_36_10, ↓fg_36_11, ↓fg_36_12, ↓fp_36_12, ↓fg_36_13, ↓fp_36_13, ↓fg_36_14, ↓fp_36_14, ↓fg_36_15, ↓fg_36_16, ↓fp_36_16, ↓fg_36_17, ↓fp_36_17, ↓fg_36_18, ↓fp_36_18, ↓fg_36_19, ↓fp_36_19, ↓fg_36_20, ↓fp_36_20, ↓fg_36_21, ↓fp_36_21, ↓fg_36_22, ↓fp_36_22, ↓fg_36_23, ↓fp_36_23, ↓fg_36_24, ↓fp_36_24, ↓fg_36_25, ↓fg_36_26, ↓fg_36_27, ↓fg_36_28, ↓fp_36_28, ↓fg_36_29, ↓fp_36_29, ↓oc_36, ↓ai_37, ↓wi_37, ↓ai_38, ↓wi_38, ↓ai_39, ↓wi_39, ↓ai_40, ↓wi_40, ↓ai_41, ↓wi_41, ↓ai_42, ↓wi_42, ↓ai_43, ↓wi_43, ↓ai_44, ↓wi_44, ↓ai_45, ↓wi_45, ↓ai_46, ↓wi_46, ↓ai_47, ↓wi_47, ↓ai_48, ↓wi_48, ↓ai_51, ↓wi_51, ↓al_49, ↓wl_49, ↓al_50, ↓wl_50, isW_1, isW_11, isW_21, isS_3, isS_5, isS_13, isS_15, isS_23, isS_25, ↓q_ga2, ↓q_rs2, ↓q_s1q, ↓c1, ↓c2, a5, lg_self, a1, g1, f1, a2, g2, f2, a3, g3, f3]
theorem law_10 {X : pm_X} {I : st_I} {J : st_J} {i : Nat} (hR : R I) (hi : i + 5 ≤ X.1) (hL : X.1 ≤ 2560) : ∃ I2 J2, R I2 ∧ ∀ d, pm_ev X (d + 14) 228 (506, lwL i, [], st_E I J) = pm_ev X (d + 14) 228 (18, lwL (i + 5), [], st_E I2 J2) := by
  have h : OK X 48 182 [.int (X.2 (i + 1)), .int (X.2 (i + 2))] I J := oo_48 hR
  obtain ⟨v, I1, J1, I2, J2, h1, h2, hR2, hv⟩ := h
  obtain ⟨v, rfl⟩ : ∃ w, v = .int w := by
    rcases hv with ⟨-, h⟩ | ⟨h, -⟩
    · exact h
    · have h : (some FieldType.int : Option FieldType) = some FieldType.long := h
      cases h
  have a1 : nI i + 1 = nI (i + 1) := nI_add i 1
  have g1 : pm_ok (nI (i + 1)) X.1 = true := decide_eq_true (nI_in (by omega) (by omega))
  have f1 : (nI (i + 1)).toNatClampNeg = i + 1 := nI_clamp (by omega)
  have a2 : nI i + 2 = nI (i + 2) := nI_add i 2
  have g2 : pm_ok (nI (i + 2)) X.1 = true := decide_eq_true (nI_in (by omega) (by omega))
  have f2 : (nI (i + 2)).toNatClampNeg = i + 2 := nI_clamp (by omega)
  have a5 : nI i + 5 = nI (i + 5) := nI_add i 5
  refine ⟨I2, J2, hR2, fun d => ?_⟩
  have c1 := fun F => h1 d F
  have c2 := fun F => h2 d F
  simp only [lwL, ↓ps_228_506, ↓ps_228_507, ↓ps_228_508, ↓ps_228_509, ↓ps_228_510, ↓ps_228_511, ↓ps_228_512, ↓ps_228_513, ↓ps_228_514, ↓ps_228_515, ↓ps_228_516, ↓ps_228_517, ↓ps_228_520, ↓ps_228_521, ↓ps_228_522, ↓ps_228_523, ↓ps_228_524, ↓ps_228_525, ↓ps_228_526, ↓ps_228_527, ↓ps_228_528, ↓ps_228_529, ↓ps_228_530, ↓ps_228_531, ↓ps_228_534, ↓ps_228_537, ↓ps_228_538, ↓ps_228_1654, ↓ps_228_1657, ↓q_i1, ↓q_i2, ↓q_l1, ↓q_l2, ↓q_r1, ↓q_v1, ↓q_rs, ↓q_if, ↓q_gi, ↓q_gi', ↓q_gl, ↓q_gl', ↓q_ga, ↓q_ga', ↓q_s1, ↓q_s1n, ↓q_s1i, ↓q_s1r, ↓q_s1', ↓q_s2, ↓q_s2n, ↓q_s2i, ↓q_s2r, ↓q_s2', ↓q_ar0, ↓q_ar, q_w0, q_wi, q_wl, q_wr, q_wii, q_wil, q_wli, q_wll, q_wir, q_wri, q_wlr, q_wrl, q_wrr, q_wirr, q_wiir, q_wiii, q_ni, q_nl, q_fi, q_fl, q_z0, q_z1, q_fz0, q_fz1, ↓q_ts, ↓q_tn, q_e, q_ci, q_cr, ↓q_rfs, decide_true, Bool.and_true, Bool.and_self, Nat.zero_add, Nat.reduceAdd, Nat.reduceBEq, beq_self_eq_true, q_le, q_lel, q_ge, q_gel, q_gt, q_gtl, ite_not, Bool.not_eq_true', Bool.not_eq_false', ↓reduceIte, ↓fg_0_0, ↓fg_0_1, ↓fg_0_2, ↓fg_0_3, ↓fg_0_4, ↓fg_0_5, ↓fg_0_6, ↓fg_0_7, ↓fg_0_8, ↓fp_0_7, ↓fp_0_8, ↓oc_0, ↓fg_31_0, ↓fg_31_1, ↓fp_31_1, ↓oc_31, ↓ai_32, ↓wi_32, ↓fg_33_0, ↓fp_33_0, ↓fg_33_1, ↓fp_33_1, ↓fg_33_2, ↓fp_33_2, ↓fg_33_3, ↓fp_33_3, ↓oc_33, ↓ai_34, ↓wi_34, ↓ai_35, ↓wi_35, ↓fg_36_0, ↓fg_36_1, ↓fg_36_2, ↓fg_36_3, ↓fg_36_4, ↓fg_36_5, ↓fg_36_6, ↓fg_36_7, ↓fp_36_7, ↓fg_36_8, ↓fg_36_9, ↓fg_36_10, ↓fg_36_11, ↓fg_36_12, ↓fp_36_12, ↓fg_36_13, ↓fp_36_13, ↓fg_36_14, ↓fp_36_14, ↓fg_36_15, ↓fg_36_16, ↓fp_36_16, ↓fg_36_17, ↓fp_36_17, ↓fg_36_18, ↓fp_36_18, ↓fg_36_19, ↓fp_36_19, ↓fg_36_20, ↓fp_36_20, ↓fg_36_21, ↓fp_36_21, ↓fg_36_22, ↓fp_36_22, ↓fg_36_23, ↓fp_36_23, ↓fg_36_24, ↓fp_36_24, ↓fg_36_25, ↓fg_36_26, ↓fg_36_27, ↓fg_36_28, ↓fp_36_28, ↓fg_36_29, ↓fp_36_29, ↓oc_36, ↓ai_37, ↓wi_37, ↓ai_38, ↓wi_38, ↓ai_39, ↓wi_39, ↓ai_40, ↓wi_40, ↓ai_41, ↓wi_41, ↓ai_42, ↓wi_42, ↓ai_43, ↓wi_43, ↓ai_44, ↓wi_44, ↓ai_45, ↓wi_45, ↓ai_46, ↓wi_46, ↓ai_47, ↓wi_47, ↓ai_48, ↓wi_48, ↓ai_51, ↓wi_51, ↓al_49, ↓wl_49, ↓al_50, ↓wl_50, isW_1, isW_11, isW_21, isS_3, isS_5, isS_13, isS_15, isS_23, isS_25, ↓q_ga2, ↓q_rs2, ↓q_s1q, ↓c1, ↓c2, a5, lg_self, a1, g1, f1, a2, g2, f2]
theorem law_11 {X : pm_X} {I : st_I} {J : st_J} {i : Nat} (hR : R I) (hi : i + 5 ≤ X.1) (hL : X.1 ≤ 2560) : ∃ I2 J2, R I2 ∧ ∀ d, pm_ev X (d + 14) 228 (539, lwL i, [], st_E I J) = pm_ev X (d + 14) 228 (18, lwL (i + 5), [], st_E I2 J2) := by
  have h : OK X 61 167 [.int (X.2 (i + 1)), .int (X.2 (i + 2)), .int (X.2 (i + 3)), .int (X.2 (i + 4))] I J := oo_61 hR
  obtain ⟨v, I1, J1, I2, J2, h1, h2, hR2, hv⟩ := h
  obtain ⟨v, rfl⟩ : ∃ w, v = .long w := by
    rcases hv with ⟨h, -⟩ | ⟨-, h⟩
    · have h : (some FieldType.long : Option FieldType) = some FieldType.int := h
      cases h
    · exact h
  have a1 : nI i + 1 = nI (i + 1) := nI_add i 1
  have g1 : pm_ok (nI (i + 1)) X.1 = true := decide_eq_true (nI_in (by omega) (by omega))
  have f1 : (nI (i + 1)).toNatClampNeg = i + 1 := nI_clamp (by omega)
  have a2 : nI i + 2 = nI (i + 2) := nI_add i 2
  have g2 : pm_ok (nI (i + 2)) X.1 = true := decide_eq_true (nI_in (by omega) (by omega))
  have f2 : (nI (i + 2)).toNatClampNeg = i + 2 := nI_clamp (by omega)
  have a3 : nI i + 3 = nI (i + 3) := nI_add i 3
  have g3 : pm_ok (nI (i + 3)) X.1 = true := decide_eq_true (nI_in (by omega) (by omega))
  have f3 : (nI (i + 3)).toNatClampNeg = i + 3 := nI_clamp (by omega)
  have a4 : nI i + 4 = nI (i + 4) := nI_add i 4
  have g4 : pm_ok (nI (i + 4)) X.1 = true := decide_eq_true (nI_in (by omega) (by omega))
  have f4 : (nI (i + 4)).toNatClampNeg = i + 4 := nI_clamp (by omega)
  have a5 : nI i + 5 = nI (i + 5) := nI_add i 5
  refine ⟨I2, J2, hR2, fun d => ?_⟩
  have c1 := fun F => h1 d F
  have c2 := fun F => h2 d F
  simp only [lwL, ↓ps_228_539, ↓ps_228_540, ↓ps_228_541, ↓ps_228_542, ↓ps_228_543, ↓ps_228_544, ↓ps_228_545, ↓ps_228_546, ↓ps_228_547, ↓ps_228_548, ↓ps_228_549, ↓ps_228_550, ↓ps_228_551, ↓ps_228_552, ↓ps_228_553, ↓ps_228_554, ↓ps_228_555, ↓ps_228_556, ↓ps_228_557, ↓ps_228_558, ↓ps_228_559, ↓ps_228_560, ↓ps_228_563, ↓ps_228_564, ↓ps_228_565, ↓ps_228_566, ↓ps_228_567, ↓ps_228_568, ↓ps_228_569, ↓ps_228_570, ↓ps_228_571, ↓ps_228_572, ↓ps_228_573, ↓ps_228_574, ↓ps_228_575, ↓ps_228_576, ↓ps_228_577, ↓ps_228_578, ↓ps_228_579, ↓ps_228_580, ↓ps_228_581, ↓ps_228_582, ↓ps_228_583, ↓ps_228_584, ↓ps_228_587, ↓ps_228_588, ↓ps_228_591, ↓ps_228_592, ↓ps_228_1654, ↓ps_228_1657, ↓q_i1, ↓q_i2, ↓q_l1, ↓q_l2, ↓q_r1, ↓q_v1, ↓q_rs, ↓q_if, ↓q_gi, ↓q_gi', ↓q_gl, ↓q_gl', ↓q_ga, ↓q_ga', ↓q_s1, ↓q_s1n, ↓q_s1i, ↓q_s1r, ↓q_s1', ↓q_s2, ↓q_s2n, ↓q_s2i, ↓q_s2r, ↓q_s2', ↓q_ar0, ↓q_ar, q_w0, q_wi, q_wl, q_wr, q_wii, q_wil, q_wli, q_wll, q_wir, q_wri, q_wlr, q_wrl, q_wrr, q_wirr, q_wiir, q_wiii, q_ni, q_nl, q_fi, q_fl, q_z0, q_z1, q_fz0, q_fz1, ↓q_ts, ↓q_tn, q_e, q_ci, q_cr, ↓q_rfs, decide_true, Bool.and_true, Bool.and_self, Nat.zero_add, Nat.reduceAdd, Nat.reduceBEq, beq_self_eq_true, q_le, q_lel, q_ge, q_gel, q_gt, q_gtl, ite_not, Bool.not_eq_true', Bool.not_eq_false', ↓reduceIte, ↓fg_0_0, ↓fg_0_1, ↓fg_0_2, ↓fg_0_3, ↓fg_0_4, ↓fg_0_5, ↓fg_0_6, ↓fg_0_7, ↓fg_0_8, ↓fp_0_7, ↓fp_0_8, ↓oc_0, ↓fg_31_0, ↓fg_31_1, ↓fp_31_1, ↓oc_31, ↓ai_32, ↓wi_32, ↓fg_33_0, ↓fp_33_0, ↓fg_33_1, ↓fp_33_1, ↓fg_33_2, ↓fp_33_2, ↓fg_33_3, ↓fp_33_3, ↓oc_33, ↓ai_34, ↓wi_34, ↓ai_35, ↓wi_35, ↓fg_36_0, ↓fg_36_1, ↓fg_36_2, ↓fg_36_3, ↓fg_36_4, ↓fg_36_5, ↓fg_36_6, ↓fg_36_7, ↓fp_36_7, ↓fg_36_8, ↓fg_36_9, ↓fg_36_10, ↓fg_36_11, ↓fg_36_12, ↓fp_36_12, ↓fg_36_13, ↓fp_36_13, ↓fg_36_14, ↓fp_36_14, ↓fg_36_15, ↓fg_36_16, ↓fp_36_16, ↓fg_36_17, ↓fp_36_17, ↓fg_36_18, ↓fp_36_18, ↓fg_36_19, ↓fp_36_19, ↓fg_36_20, ↓fp_36_20, ↓fg_36_21, ↓fp_36_21, ↓fg_36_22, ↓fp_36_22, ↓fg_36_23, ↓fp_36_23, ↓fg_36_24, ↓fp_36_24, ↓fg_36_25, ↓fg_36_26, ↓fg_36_27, ↓fg_36_28, ↓fp_36_28, ↓fg_36_29, ↓fp_36_29, ↓oc_36, ↓ai_37, ↓wi_37, ↓ai_38, ↓wi_38, ↓ai_39, ↓wi_39, ↓ai_40, ↓wi_40, ↓ai_41, ↓wi_41, ↓ai_42, ↓wi_42, ↓ai_43, ↓wi_43, ↓ai_44, ↓wi_44, ↓ai_45, ↓wi_45, ↓ai_46, ↓wi_46, ↓ai_47, ↓wi_47, ↓ai_48, ↓wi_48, ↓ai_51, ↓wi_51, ↓al_49, ↓wl_49, ↓al_50, ↓wl_50, isW_1, isW_11, isW_21, isS_3, isS_5, isS_13, isS_15, isS_23, isS_25, ↓q_ga2, ↓q_rs2, ↓q_s1q, ↓c1, ↓c2, a5, lg_self, a1, g1, f1, a2, g2, f2, a3, g3, f3, a4, g4, f4]
theorem law_12 {X : pm_X} {I : st_I} {J : st_J} {i : Nat} (hR : R I) (hi : i + 5 ≤ X.1) (hL : X.1 ≤ 2560) : ∃ I2 J2, R I2 ∧ ∀ d, pm_ev X (d + 14) 228 (593, lwL i, [], st_E I J) = pm_ev X (d + 14) 228 (18, lwL (i + 5), [], st_E I2 J2) := by
  have h : OK X 70 173 [.int (X.2 (i + 1)), .int (X.2 (i + 2)), .int (X.2 (i + 3)), .int (X.2 (i + 4))] I J := oo_70 hR
  obtain ⟨v, I1, J1, I2, J2, h1, h2, hR2, hv⟩ := h
  obtain ⟨v, rfl⟩ : ∃ w, v = .long w := by
    rcases hv with ⟨h, -⟩ | ⟨-, h⟩
    · have h : (some FieldType.long : Option FieldType) = some FieldType.int := h
      cases h
    · exact h
  have a1 : nI i + 1 = nI (i + 1) := nI_add i 1
  have g1 : pm_ok (nI (i + 1)) X.1 = true := decide_eq_true (nI_in (by omega) (by omega))
  have f1 : (nI (i + 1)).toNatClampNeg = i + 1 := nI_clamp (by omega)
  have a2 : nI i + 2 = nI (i + 2) := nI_add i 2
  have g2 : pm_ok (nI (i + 2)) X.1 = true := decide_eq_true (nI_in (by omega) (by omega))
  have f2 : (nI (i + 2)).toNatClampNeg = i + 2 := nI_clamp (by omega)
  have a3 : nI i + 3 = nI (i + 3) := nI_add i 3
  have g3 : pm_ok (nI (i + 3)) X.1 = true := decide_eq_true (nI_in (by omega) (by omega))
  have f3 : (nI (i + 3)).toNatClampNeg = i + 3 := nI_clamp (by omega)
  have a4 : nI i + 4 = nI (i + 4) := nI_add i 4
  have g4 : pm_ok (nI (i + 4)) X.1 = true := decide_eq_true (nI_in (by omega) (by omega))
  have f4 : (nI (i + 4)).toNatClampNeg = i + 4 := nI_clamp (by omega)
  have a5 : nI i + 5 = nI (i + 5) := nI_add i 5
  refine ⟨I2, J2, hR2, fun d => ?_⟩
  have c1 := fun F => h1 d F
  have c2 := fun F => h2 d F
  simp only [lwL, ↓ps_228_593, ↓ps_228_594, ↓ps_228_595, ↓ps_228_596, ↓ps_228_597, ↓ps_228_598, ↓ps_228_599, ↓ps_228_600, ↓ps_228_601, ↓ps_228_602, ↓ps_228_603, ↓ps_228_604, ↓ps_228_605, ↓ps_228_606, ↓ps_228_607, ↓ps_228_608, ↓ps_228_609, ↓ps_228_610, ↓ps_228_611, ↓ps_228_612, ↓ps_228_613, ↓ps_228_614, ↓ps_228_617, ↓ps_228_618, ↓ps_228_619, ↓ps_228_620, ↓ps_228_621, ↓ps_228_622, ↓ps_228_623, ↓ps_228_624, ↓ps_228_625, ↓ps_228_626, ↓ps_228_627, ↓ps_228_628, ↓ps_228_629, ↓ps_228_630, ↓ps_228_631, ↓ps_228_632, ↓ps_228_633, ↓ps_228_634, ↓ps_228_635, ↓ps_228_636, ↓ps_228_637, ↓ps_228_638, ↓ps_228_641, ↓ps_228_642, ↓ps_228_645, ↓ps_228_646, ↓ps_228_1654, ↓ps_228_1657, ↓q_i1, ↓q_i2, ↓q_l1, ↓q_l2, ↓q_r1, ↓q_v1, ↓q_rs, ↓q_if, ↓q_gi, ↓q_gi', ↓q_gl, ↓q_gl', ↓q_ga, ↓q_ga', ↓q_s1, ↓q_s1n, ↓q_s1i, ↓q_s1r, ↓q_s1', ↓q_s2, ↓q_s2n, ↓q_s2i, ↓q_s2r, ↓q_s2', ↓q_ar0, ↓q_ar, q_w0, q_wi, q_wl, q_wr, q_wii, q_wil, q_wli, q_wll, q_wir, q_wri, q_wlr, q_wrl, q_wrr, q_wirr, q_wiir, q_wiii, q_ni, q_nl, q_fi, q_fl, q_z0, q_z1, q_fz0, q_fz1, ↓q_ts, ↓q_tn, q_e, q_ci, q_cr, ↓q_rfs, decide_true, Bool.and_true, Bool.and_self, Nat.zero_add, Nat.reduceAdd, Nat.reduceBEq, beq_self_eq_true, q_le, q_lel, q_ge, q_gel, q_gt, q_gtl, ite_not, Bool.not_eq_true', Bool.not_eq_false', ↓reduceIte, ↓fg_0_0, ↓fg_0_1, ↓fg_0_2, ↓fg_0_3, ↓fg_0_4, ↓fg_0_5, ↓fg_0_6, ↓fg_0_7, ↓fg_0_8, ↓fp_0_7, ↓fp_0_8, ↓oc_0, ↓fg_31_0, ↓fg_31_1, ↓fp_31_1, ↓oc_31, ↓ai_32, ↓wi_32, ↓fg_33_0, ↓fp_33_0, ↓fg_33_1, ↓fp_33_1, ↓fg_33_2, ↓fp_33_2, ↓fg_33_3, ↓fp_33_3, ↓oc_33, ↓ai_34, ↓wi_34, ↓ai_35, ↓wi_35, ↓fg_36_0, ↓fg_36_1, ↓fg_36_2, ↓fg_36_3, ↓fg_36_4, ↓fg_36_5, ↓fg_36_6, ↓fg_36_7, ↓fp_36_7, ↓fg_36_8, ↓fg_36_9, ↓fg_36_10, ↓fg_36_11, ↓fg_36_12, ↓fp_36_12, ↓fg_36_13, ↓fp_36_13, ↓fg_36_14, ↓fp_36_14, ↓fg_36_15, ↓fg_36_16, ↓fp_36_16, ↓fg_36_17, ↓fp_36_17, ↓fg_36_18, ↓fp_36_18, ↓fg_36_19, ↓fp_36_19, ↓fg_36_20, ↓fp_36_20, ↓fg_36_21, ↓fp_36_21, ↓fg_36_22, ↓fp_36_22, ↓fg_36_23, ↓fp_36_23, ↓fg_36_24, ↓fp_36_24, ↓fg_36_25, ↓fg_36_26, ↓fg_36_27, ↓fg_36_28, ↓fp_36_28, ↓fg_36_29, ↓fp_36_29, ↓oc_36, ↓ai_37, ↓wi_37, ↓ai_38, ↓wi_38, ↓ai_39, ↓wi_39, ↓ai_40, ↓wi_40, ↓ai_41, ↓wi_41, ↓ai_42, ↓wi_42, ↓ai_43, ↓wi_43, ↓ai_44, ↓wi_44, ↓ai_45, ↓wi_45, ↓ai_46, ↓wi_46, ↓ai_47, ↓wi_47, ↓ai_48, ↓wi_48, ↓ai_51, ↓wi_51, ↓al_49, ↓wl_49, ↓al_50, ↓wl_50, isW_1, isW_11, isW_21, isS_3, isS_5, isS_13, isS_15, isS_23, isS_25, ↓q_ga2, ↓q_rs2, ↓q_s1q, ↓c1, ↓c2, a5, lg_self, a1, g1, f1, a2, g2, f2, a3, g3, f3, a4, g4, f4]
theorem law_13 {X : pm_X} {I : st_I} {J : st_J} {i : Nat} (hR : R I) (hi : i + 5 ≤ X.1) (hL : X.1 ≤ 2560) : ∃ I2 J2, R I2 ∧ ∀ d, pm_ev X (d + 14) 228 (647, lwL i, [], st_E I J) = pm_ev X (d + 14) 228 (18, lwL (i + 5), [], st_E I2 J2) := by
  have h : OK X 71 174 [.int (X.2 (i + 1)), .int (X.2 (i + 2)), .int (X.2 (i + 3))] I J := oo_71 hR
  obtain ⟨v, I1, J1, I2, J2, h1, h2, hR2, hv⟩ := h
  obtain ⟨v, rfl⟩ : ∃ w, v = .long w := by
    rcases hv with ⟨h, -⟩ | ⟨-, h⟩
    · have h : (some FieldType.long : Option FieldType) = some FieldType.int := h
      cases h
    · exact h
  have a1 : nI i + 1 = nI (i + 1) := nI_add i 1
  have g1 : pm_ok (nI (i + 1)) X.1 = true := decide_eq_true (nI_in (by omega) (by omega))
  have f1 : (nI (i + 1)).toNatClampNeg = i + 1 := nI_clamp (by omega)
  have a2 : nI i + 2 = nI (i + 2) := nI_add i 2
  have g2 : pm_ok (nI (i + 2)) X.1 = true := decide_eq_true (nI_in (by omega) (by omega))
  have f2 : (nI (i + 2)).toNatClampNeg = i + 2 := nI_clamp (by omega)
  have a3 : nI i + 3 = nI (i + 3) := nI_add i 3
  have g3 : pm_ok (nI (i + 3)) X.1 = true := decide_eq_true (nI_in (by omega) (by omega))
  have f3 : (nI (i + 3)).toNatClampNeg = i + 3 := nI_clamp (by omega)
  have a5 : nI i + 5 = nI (i + 5) := nI_add i 5
  refine ⟨I2, J2, hR2, fun d => ?_⟩
  have c1 := fun F => h1 d F
  have c2 := fun F => h2 d F
  simp only [lwL, ↓ps_228_647, ↓ps_228_648, ↓ps_228_649, ↓ps_228_650, ↓ps_228_651, ↓ps_228_652, ↓ps_228_653, ↓ps_228_654, ↓ps_228_655, ↓ps_228_656, ↓ps_228_657, ↓ps_228_658, ↓ps_228_659, ↓ps_228_660, ↓ps_228_661, ↓ps_228_662, ↓ps_228_663, ↓ps_228_666, ↓ps_228_667, ↓ps_228_668, ↓ps_228_669, ↓ps_228_670, ↓ps_228_671, ↓ps_228_672, ↓ps_228_673, ↓ps_228_674, ↓ps_228_675, ↓ps_228_676, ↓ps_228_677, ↓ps_228_678, ↓ps_228_679, ↓ps_228_680, ↓ps_228_681, ↓ps_228_682, ↓ps_228_685, ↓ps_228_686, ↓ps_228_689, ↓ps_228_690, ↓ps_228_1654, ↓ps_228_1657, ↓q_i1, ↓q_i2, ↓q_l1, ↓q_l2, ↓q_r1, ↓q_v1, ↓q_rs, ↓q_if, ↓q_gi, ↓q_gi', ↓q_gl, ↓q_gl', ↓q_ga, ↓q_ga', ↓q_s1, ↓q_s1n, ↓q_s1i, ↓q_s1r, ↓q_s1', ↓q_s2, ↓q_s2n, ↓q_s2i, ↓q_s2r, ↓q_s2', ↓q_ar0, ↓q_ar, q_w0, q_wi, q_wl, q_wr, q_wii, q_wil, q_wli, q_wll, q_wir, q_wri, q_wlr, q_wrl, q_wrr, q_wirr, q_wiir, q_wiii, q_ni, q_nl, q_fi, q_fl, q_z0, q_z1, q_fz0, q_fz1, ↓q_ts, ↓q_tn, q_e, q_ci, q_cr, ↓q_rfs, decide_true, Bool.and_true, Bool.and_self, Nat.zero_add, Nat.reduceAdd, Nat.reduceBEq, beq_self_eq_true, q_le, q_lel, q_ge, q_gel, q_gt, q_gtl, ite_not, Bool.not_eq_true', Bool.not_eq_false', ↓reduceIte, ↓fg_0_0, ↓fg_0_1, ↓fg_0_2, ↓fg_0_3, ↓fg_0_4, ↓fg_0_5, ↓fg_0_6, ↓fg_0_7, ↓fg_0_8, ↓fp_0_7, ↓fp_0_8, ↓oc_0, ↓fg_31_0, ↓fg_31_1, ↓fp_31_1, ↓oc_31, ↓ai_32, ↓wi_32, ↓fg_33_0, ↓fp_33_0, ↓fg_33_1, ↓fp_33_1, ↓fg_33_2, ↓fp_33_2, ↓fg_33_3, ↓fp_33_3, ↓oc_33, ↓ai_34, ↓wi_34, ↓ai_35, ↓wi_35, ↓fg_36_0, ↓fg_36_1, ↓fg_36_2, ↓fg_36_3, ↓fg_36_4, ↓fg_36_5, ↓fg_36_6, ↓fg_36_7, ↓fp_36_7, ↓fg_36_8, ↓fg_36_9, ↓fg_36_10, ↓fg_36_11, ↓fg_36_12, ↓fp_36_12, ↓fg_36_13, ↓fp_36_13, ↓fg_36_14, ↓fp_36_14, ↓fg_36_15, ↓fg_36_16, ↓fp_36_16, ↓fg_36_17, ↓fp_36_17, ↓fg_36_18, ↓fp_36_18, ↓fg_36_19, ↓fp_36_19, ↓fg_36_20, ↓fp_36_20, ↓fg_36_21, ↓fp_36_21, ↓fg_36_22, ↓fp_36_22, ↓fg_36_23, ↓fp_36_23, ↓fg_36_24, ↓fp_36_24, ↓fg_36_25, ↓fg_36_26, ↓fg_36_27, ↓fg_36_28, ↓fp_36_28, ↓fg_36_29, ↓fp_36_29, ↓oc_36, ↓ai_37, ↓wi_37, ↓ai_38, ↓wi_38, ↓ai_39, ↓wi_39, ↓ai_40, ↓wi_40, ↓ai_41, ↓wi_41, ↓ai_42, ↓wi_42, ↓ai_43, ↓wi_43, ↓ai_44, ↓wi_44, ↓ai_45, ↓wi_45, ↓ai_46, ↓wi_46, ↓ai_47, ↓wi_47, ↓ai_48, ↓wi_48, ↓ai_51, ↓wi_51, ↓al_49, ↓wl_49, ↓al_50, ↓wl_50, isW_1, isW_11, isW_21, isS_3, isS_5, isS_13, isS_15, isS_23, isS_25, ↓q_ga2, ↓q_rs2, ↓q_s1q, ↓c1, ↓c2, a5, lg_self, a1, g1, f1, a2, g2, f2, a3, g3, f3]
theorem law_14 {X : pm_X} {I : st_I} {J : st_J} {i : Nat} (hR : R I) (hi : i + 5 ≤ X.1) (hL : X.1 ≤ 2560) : ∃ I2 J2, R I2 ∧ ∀ d, pm_ev X (d + 14) 228 (691, lwL i, [], st_E I J) = pm_ev X (d + 14) 228 (18, lwL (i + 5), [], st_E I2 J2) := by
  have h : OK X 73 177 [.int (X.2 (i + 1)), .int (X.2 (i + 2))] I J := oo_73 hR
  obtain ⟨v, I1, J1, I2, J2, h1, h2, hR2, hv⟩ := h
  obtain ⟨v, rfl⟩ : ∃ w, v = .int w := by
    rcases hv with ⟨-, h⟩ | ⟨h, -⟩
    · exact h
    · have h : (some FieldType.int : Option FieldType) = some FieldType.long := h
      cases h
  have a1 : nI i + 1 = nI (i + 1) := nI_add i 1
  have g1 : pm_ok (nI (i + 1)) X.1 = true := decide_eq_true (nI_in (by omega) (by omega))
  have f1 : (nI (i + 1)).toNatClampNeg = i + 1 := nI_clamp (by omega)
  have a2 : nI i + 2 = nI (i + 2) := nI_add i 2
  have g2 : pm_ok (nI (i + 2)) X.1 = true := decide_eq_true (nI_in (by omega) (by omega))
  have f2 : (nI (i + 2)).toNatClampNeg = i + 2 := nI_clamp (by omega)
  have a5 : nI i + 5 = nI (i + 5) := nI_add i 5
  refine ⟨I2, J2, hR2, fun d => ?_⟩
  have c1 := fun F => h1 d F
  have c2 := fun F => h2 d F
  simp only [lwL, ↓ps_228_691, ↓ps_228_692, ↓ps_228_693, ↓ps_228_694, ↓ps_228_695, ↓ps_228_696, ↓ps_228_697, ↓ps_228_698, ↓ps_228_699, ↓ps_228_700, ↓ps_228_701, ↓ps_228_702, ↓ps_228_705, ↓ps_228_706, ↓ps_228_707, ↓ps_228_708, ↓ps_228_709, ↓ps_228_710, ↓ps_228_711, ↓ps_228_712, ↓ps_228_713, ↓ps_228_714, ↓ps_228_715, ↓ps_228_716, ↓ps_228_719, ↓ps_228_722, ↓ps_228_723, ↓ps_228_1654, ↓ps_228_1657, ↓q_i1, ↓q_i2, ↓q_l1, ↓q_l2, ↓q_r1, ↓q_v1, ↓q_rs, ↓q_if, ↓q_gi, ↓q_gi', ↓q_gl, ↓q_gl', ↓q_ga, ↓q_ga', ↓q_s1, ↓q_s1n, ↓q_s1i, ↓q_s1r, ↓q_s1', ↓q_s2, ↓q_s2n, ↓q_s2i, ↓q_s2r, ↓q_s2', ↓q_ar0, ↓q_ar, q_w0, q_wi, q_wl, q_wr, q_wii, q_wil, q_wli, q_wll, q_wir, q_wri, q_wlr, q_wrl, q_wrr, q_wirr, q_wiir, q_wiii, q_ni, q_nl, q_fi, q_fl, q_z0, q_z1, q_fz0, q_fz1, ↓q_ts, ↓q_tn, q_e, q_ci, q_cr, ↓q_rfs, decide_true, Bool.and_true, Bool.and_self, Nat.zero_add, Nat.reduceAdd, Nat.reduceBEq, beq_self_eq_true, q_le, q_lel, q_ge, q_gel, q_gt, q_gtl, ite_not, Bool.not_eq_true', Bool.not_eq_false', ↓reduceIte, ↓fg_0_0, ↓fg_0_1, ↓fg_0_2, ↓fg_0_3, ↓fg_0_4, ↓fg_0_5, ↓fg_0_6, ↓fg_0_7, ↓fg_0_8, ↓fp_0_7, ↓fp_0_8, ↓oc_0, ↓fg_31_0, ↓fg_31_1, ↓fp_31_1, ↓oc_31, ↓ai_32, ↓wi_32, ↓fg_33_0, ↓fp_33_0, ↓fg_33_1, ↓fp_33_1, ↓fg_33_2, ↓fp_33_2, ↓fg_33_3, ↓fp_33_3, ↓oc_33, ↓ai_34, ↓wi_34, ↓ai_35, ↓wi_35, ↓fg_36_0, ↓fg_36_1, ↓fg_36_2, ↓fg_36_3, ↓fg_36_4, ↓fg_36_5, ↓fg_36_6, ↓fg_36_7, ↓fp_36_7, ↓fg_36_8, ↓fg_36_9, ↓fg_36_10, ↓fg_36_11, ↓fg_36_12, ↓fp_36_12, ↓fg_36_13, ↓fp_36_13, ↓fg_36_14, ↓fp_36_14, ↓fg_36_15, ↓fg_36_16, ↓fp_36_16, ↓fg_36_17, ↓fp_36_17, ↓fg_36_18, ↓fp_36_18, ↓fg_36_19, ↓fp_36_19, ↓fg_36_20, ↓fp_36_20, ↓fg_36_21, ↓fp_36_21, ↓fg_36_22, ↓fp_36_22, ↓fg_36_23, ↓fp_36_23, ↓fg_36_24, ↓fp_36_24, ↓fg_36_25, ↓fg_36_26, ↓fg_36_27, ↓fg_36_28, ↓fp_36_28, ↓fg_36_29, ↓fp_36_29, ↓oc_36, ↓ai_37, ↓wi_37, ↓ai_38, ↓wi_38, ↓ai_39, ↓wi_39, ↓ai_40, ↓wi_40, ↓ai_41, ↓wi_41, ↓ai_42, ↓wi_42, ↓ai_43, ↓wi_43, ↓ai_44, ↓wi_44, ↓ai_45, ↓wi_45, ↓ai_46, ↓wi_46, ↓ai_47, ↓wi_47, ↓ai_48, ↓wi_48, ↓ai_51, ↓wi_51, ↓al_49, ↓wl_49, ↓al_50, ↓wl_50, isW_1, isW_11, isW_21, isS_3, isS_5, isS_13, isS_15, isS_23, isS_25, ↓q_ga2, ↓q_rs2, ↓q_s1q, ↓c1, ↓c2, a5, lg_self, a1, g1, f1, a2, g2, f2]
theorem law_15 {X : pm_X} {I : st_I} {J : st_J} {i : Nat} (hR : R I) (hi : i + 5 ≤ X.1) (hL : X.1 ≤ 2560) : ∃ I2 J2, R I2 ∧ ∀ d, pm_ev X (d + 14) 228 (724, lwL i, [], st_E I J) = pm_ev X (d + 14) 228 (18, lwL (i + 5), [], st_E I2 J2) := by
  have h : OK X 74 183 [.int (X.2 (i + 1)), .int (X.2 (i + 2))] I J := oo_74 hR
  obtain ⟨v, I1, J1, I2, J2, h1, h2, hR2, hv⟩ := h
  obtain ⟨v, rfl⟩ : ∃ w, v = .int w := by
    rcases hv with ⟨-, h⟩ | ⟨h, -⟩
    · exact h
    · have h : (some FieldType.int : Option FieldType) = some FieldType.long := h
      cases h
  have a1 : nI i + 1 = nI (i + 1) := nI_add i 1
  have g1 : pm_ok (nI (i + 1)) X.1 = true := decide_eq_true (nI_in (by omega) (by omega))
  have f1 : (nI (i + 1)).toNatClampNeg = i + 1 := nI_clamp (by omega)
  have a2 : nI i + 2 = nI (i + 2) := nI_add i 2
  have g2 : pm_ok (nI (i + 2)) X.1 = true := decide_eq_true (nI_in (by omega) (by omega))
  have f2 : (nI (i + 2)).toNatClampNeg = i + 2 := nI_clamp (by omega)
  have a5 : nI i + 5 = nI (i + 5) := nI_add i 5
  refine ⟨I2, J2, hR2, fun d => ?_⟩
  have c1 := fun F => h1 d F
  have c2 := fun F => h2 d F
  simp only [lwL, ↓ps_228_724, ↓ps_228_725, ↓ps_228_726, ↓ps_228_727, ↓ps_228_728, ↓ps_228_729, ↓ps_228_730, ↓ps_228_731, ↓ps_228_732, ↓ps_228_733, ↓ps_228_734, ↓ps_228_735, ↓ps_228_738, ↓ps_228_739, ↓ps_228_740, ↓ps_228_741, ↓ps_228_742, ↓ps_228_743, ↓ps_228_744, ↓ps_228_745, ↓ps_228_746, ↓ps_228_747, ↓ps_228_748, ↓ps_228_749, ↓ps_228_752, ↓ps_228_755, ↓ps_228_756, ↓ps_228_1654, ↓ps_228_1657, ↓q_i1, ↓q_i2, ↓q_l1, ↓q_l2, ↓q_r1, ↓q_v1, ↓q_rs, ↓q_if, ↓q_gi, ↓q_gi', ↓q_gl, ↓q_gl', ↓q_ga, ↓q_ga', ↓q_s1, ↓q_s1n, ↓q_s1i, ↓q_s1r, ↓q_s1', ↓q_s2, ↓q_s2n, ↓q_s2i, ↓q_s2r, ↓q_s2', ↓q_ar0, ↓q_ar, q_w0, q_wi, q_wl, q_wr, q_wii, q_wil, q_wli, q_wll, q_wir, q_wri, q_wlr, q_wrl, q_wrr, q_wirr, q_wiir, q_wiii, q_ni, q_nl, q_fi, q_fl, q_z0, q_z1, q_fz0, q_fz1, ↓q_ts, ↓q_tn, q_e, q_ci, q_cr, ↓q_rfs, decide_true, Bool.and_true, Bool.and_self, Nat.zero_add, Nat.reduceAdd, Nat.reduceBEq, beq_self_eq_true, q_le, q_lel, q_ge, q_gel, q_gt, q_gtl, ite_not, Bool.not_eq_true', Bool.not_eq_false', ↓reduceIte, ↓fg_0_0, ↓fg_0_1, ↓fg_0_2, ↓fg_0_3, ↓fg_0_4, ↓fg_0_5, ↓fg_0_6, ↓fg_0_7, ↓fg_0_8, ↓fp_0_7, ↓fp_0_8, ↓oc_0, ↓fg_31_0, ↓fg_31_1, ↓fp_31_1, ↓oc_31, ↓ai_32, ↓wi_32, ↓fg_33_0, ↓fp_33_0, ↓fg_33_1, ↓fp_33_1, ↓fg_33_2, ↓fp_33_2, ↓fg_33_3, ↓fp_33_3, ↓oc_33, ↓ai_34, ↓wi_34, ↓ai_35, ↓wi_35, ↓fg_36_0, ↓fg_36_1, ↓fg_36_2, ↓fg_36_3, ↓fg_36_4, ↓fg_36_5, ↓fg_36_6, ↓fg_36_7, ↓fp_36_7, ↓fg_36_8, ↓fg_36_9, ↓fg_36_10, ↓fg_36_11, ↓fg_36_12, ↓fp_36_12, ↓fg_36_13, ↓fp_36_13, ↓fg_36_14, ↓fp_36_14, ↓fg_36_15, ↓fg_36_16, ↓fp_36_16, ↓fg_36_17, ↓fp_36_17, ↓fg_36_18, ↓fp_36_18, ↓fg_36_19, ↓fp_36_19, ↓fg_36_20, ↓fp_36_20, ↓fg_36_21, ↓fp_36_21, ↓fg_36_22, ↓fp_36_22, ↓fg_36_23, ↓fp_36_23, ↓fg_36_24, ↓fp_36_24, ↓fg_36_25, ↓fg_36_26, ↓fg_36_27, ↓fg_36_28, ↓fp_36_28, ↓fg_36_29, ↓fp_36_29, ↓oc_36, ↓ai_37, ↓wi_37, ↓ai_38, ↓wi_38, ↓ai_39, ↓wi_39, ↓ai_40, ↓wi_40, ↓ai_41, ↓wi_41, ↓ai_42, ↓wi_42, ↓ai_43, ↓wi_43, ↓ai_44, ↓wi_44, ↓ai_45, ↓wi_45, ↓ai_46, ↓wi_46, ↓ai_47, ↓wi_47, ↓ai_48, ↓wi_48, ↓ai_51, ↓wi_51, ↓al_49, ↓wl_49, ↓al_50, ↓wl_50, isW_1, isW_11, isW_21, isS_3, isS_5, isS_13, isS_15, isS_23, isS_25, ↓q_ga2, ↓q_rs2, ↓q_s1q, ↓c1, ↓c2, a5, lg_self, a1, g1, f1, a2, g2, f2]
theorem law_16 {X : pm_X} {I : st_I} {J : st_J} {i : Nat} (hR : R I) (hi : i + 5 ≤ X.1) (hL : X.1 ≤ 2560) : ∃ I2 J2, R I2 ∧ ∀ d, pm_ev X (d + 14) 228 (757, lwL i, [], st_E I J) = pm_ev X (d + 14) 228 (18, lwL (i + 5), [], st_E I2 J2) := by
  have h : OK X 76 185 [.int (X.2 (i + 1)), .int (X.2 (i + 2)), .int (X.2 (i + 3)), .int (X.2 (i + 4))] I J := oo_76 hR
  obtain ⟨v, I1, J1, I2, J2, h1, h2, hR2, hv⟩ := h
  obtain ⟨v, rfl⟩ : ∃ w, v = .long w := by
    rcases hv with ⟨h, -⟩ | ⟨-, h⟩
    · have h : (some FieldType.long : Option FieldType) = some FieldType.int := h
      cases h
    · exact h
  have a1 : nI i + 1 = nI (i + 1) := nI_add i 1
  have g1 : pm_ok (nI (i + 1)) X.1 = true := decide_eq_true (nI_in (by omega) (by omega))
  have f1 : (nI (i + 1)).toNatClampNeg = i + 1 := nI_clamp (by omega)
  have a2 : nI i + 2 = nI (i + 2) := nI_add i 2
  have g2 : pm_ok (nI (i + 2)) X.1 = true := decide_eq_true (nI_in (by omega) (by omega))
  have f2 : (nI (i + 2)).toNatClampNeg = i + 2 := nI_clamp (by omega)
  have a3 : nI i + 3 = nI (i + 3) := nI_add i 3
  have g3 : pm_ok (nI (i + 3)) X.1 = true := decide_eq_true (nI_in (by omega) (by omega))
  have f3 : (nI (i + 3)).toNatClampNeg = i + 3 := nI_clamp (by omega)
  have a4 : nI i + 4 = nI (i + 4) := nI_add i 4
  have g4 : pm_ok (nI (i + 4)) X.1 = true := decide_eq_true (nI_in (by omega) (by omega))
  have f4 : (nI (i + 4)).toNatClampNeg = i + 4 := nI_clamp (by omega)
  have a5 : nI i + 5 = nI (i + 5) := nI_add i 5
  refine ⟨I2, J2, hR2, fun d => ?_⟩
  have c1 := fun F => h1 d F
  have c2 := fun F => h2 d F
  simp only [lwL, ↓ps_228_757, ↓ps_228_758, ↓ps_228_759, ↓ps_228_760, ↓ps_228_761, ↓ps_228_762, ↓ps_228_763, ↓ps_228_764, ↓ps_228_765, ↓ps_228_766, ↓ps_228_767, ↓ps_228_768, ↓ps_228_769, ↓ps_228_770, ↓ps_228_771, ↓ps_228_772, ↓ps_228_773, ↓ps_228_774, ↓ps_228_775, ↓ps_228_776, ↓ps_228_777, ↓ps_228_778, ↓ps_228_781, ↓ps_228_782, ↓ps_228_783, ↓ps_228_784, ↓ps_228_785, ↓ps_228_786, ↓ps_228_787, ↓ps_228_788, ↓ps_228_789, ↓ps_228_790, ↓ps_228_791, ↓ps_228_792, ↓ps_228_793, ↓ps_228_794, ↓ps_228_795, ↓ps_228_796, ↓ps_228_797, ↓ps_228_798, ↓ps_228_799, ↓ps_228_800, ↓ps_228_801, ↓ps_228_802, ↓ps_228_805, ↓ps_228_806, ↓ps_228_809, ↓ps_228_810, ↓ps_228_1654, ↓ps_228_1657, ↓q_i1, ↓q_i2, ↓q_l1, ↓q_l2, ↓q_r1, ↓q_v1, ↓q_rs, ↓q_if, ↓q_gi, ↓q_gi', ↓q_gl, ↓q_gl', ↓q_ga, ↓q_ga', ↓q_s1, ↓q_s1n, ↓q_s1i, ↓q_s1r, ↓q_s1', ↓q_s2, ↓q_s2n, ↓q_s2i, ↓q_s2r, ↓q_s2', ↓q_ar0, ↓q_ar, q_w0, q_wi, q_wl, q_wr, q_wii, q_wil, q_wli, q_wll, q_wir, q_wri, q_wlr, q_wrl, q_wrr, q_wirr, q_wiir, q_wiii, q_ni, q_nl, q_fi, q_fl, q_z0, q_z1, q_fz0, q_fz1, ↓q_ts, ↓q_tn, q_e, q_ci, q_cr, ↓q_rfs, decide_true, Bool.and_true, Bool.and_self, Nat.zero_add, Nat.reduceAdd, Nat.reduceBEq, beq_self_eq_true, q_le, q_lel, q_ge, q_gel, q_gt, q_gtl, ite_not, Bool.not_eq_true', Bool.not_eq_false', ↓reduceIte, ↓fg_0_0, ↓fg_0_1, ↓fg_0_2, ↓fg_0_3, ↓fg_0_4, ↓fg_0_5, ↓fg_0_6, ↓fg_0_7, ↓fg_0_8, ↓fp_0_7, ↓fp_0_8, ↓oc_0, ↓fg_31_0, ↓fg_31_1, ↓fp_31_1, ↓oc_31, ↓ai_32, ↓wi_32, ↓fg_33_0, ↓fp_33_0, ↓fg_33_1, ↓fp_33_1, ↓fg_33_2, ↓fp_33_2, ↓fg_33_3, ↓fp_33_3, ↓oc_33, ↓ai_34, ↓wi_34, ↓ai_35, ↓wi_35, ↓fg_36_0, ↓fg_36_1, ↓fg_36_2, ↓fg_36_3, ↓fg_36_4, ↓fg_36_5, ↓fg_36_6, ↓fg_36_7, ↓fp_36_7, ↓fg_36_8, ↓fg_36_9, ↓fg_36_10, ↓fg_36_11, ↓fg_36_12, ↓fp_36_12, ↓fg_36_13, ↓fp_36_13, ↓fg_36_14, ↓fp_36_14, ↓fg_36_15, ↓fg_36_16, ↓fp_36_16, ↓fg_36_17, ↓fp_36_17, ↓fg_36_18, ↓fp_36_18, ↓fg_36_19, ↓fp_36_19, ↓fg_36_20, ↓fp_36_20, ↓fg_36_21, ↓fp_36_21, ↓fg_36_22, ↓fp_36_22, ↓fg_36_23, ↓fp_36_23, ↓fg_36_24, ↓fp_36_24, ↓fg_36_25, ↓fg_36_26, ↓fg_36_27, ↓fg_36_28, ↓fp_36_28, ↓fg_36_29, ↓fp_36_29, ↓oc_36, ↓ai_37, ↓wi_37, ↓ai_38, ↓wi_38, ↓ai_39, ↓wi_39, ↓ai_40, ↓wi_40, ↓ai_41, ↓wi_41, ↓ai_42, ↓wi_42, ↓ai_43, ↓wi_43, ↓ai_44, ↓wi_44, ↓ai_45, ↓wi_45, ↓ai_46, ↓wi_46, ↓ai_47, ↓wi_47, ↓ai_48, ↓wi_48, ↓ai_51, ↓wi_51, ↓al_49, ↓wl_49, ↓al_50, ↓wl_50, isW_1, isW_11, isW_21, isS_3, isS_5, isS_13, isS_15, isS_23, isS_25, ↓q_ga2, ↓q_rs2, ↓q_s1q, ↓c1, ↓c2, a5, lg_self, a1, g1, f1, a2, g2, f2, a3, g3, f3, a4, g4, f4]
theorem law_17 {X : pm_X} {I : st_I} {J : st_J} {i : Nat} (hR : R I) (hi : i + 5 ≤ X.1) (hL : X.1 ≤ 2560) : ∃ I2 J2, R I2 ∧ ∀ d, pm_ev X (d + 14) 228 (811, lwL i, [], st_E I J) = pm_ev X (d + 14) 228 (18, lwL (i + 5), [], st_E I2 J2) := by
  have h : OK X 81 192 [.int (X.2 (i + 1)), .int (X.2 (i + 2)), .int (X.2 (i + 3)), .int (X.2 (i + 4))] I J := oo_81 hR
  obtain ⟨v, I1, J1, I2, J2, h1, h2, hR2, hv⟩ := h
  obtain ⟨v, rfl⟩ : ∃ w, v = .long w := by
    rcases hv with ⟨h, -⟩ | ⟨-, h⟩
    · have h : (some FieldType.long : Option FieldType) = some FieldType.int := h
      cases h
    · exact h
  have a1 : nI i + 1 = nI (i + 1) := nI_add i 1
  have g1 : pm_ok (nI (i + 1)) X.1 = true := decide_eq_true (nI_in (by omega) (by omega))
  have f1 : (nI (i + 1)).toNatClampNeg = i + 1 := nI_clamp (by omega)
  have a2 : nI i + 2 = nI (i + 2) := nI_add i 2
  have g2 : pm_ok (nI (i + 2)) X.1 = true := decide_eq_true (nI_in (by omega) (by omega))
  have f2 : (nI (i + 2)).toNatClampNeg = i + 2 := nI_clamp (by omega)
  have a3 : nI i + 3 = nI (i + 3) := nI_add i 3
  have g3 : pm_ok (nI (i + 3)) X.1 = true := decide_eq_true (nI_in (by omega) (by omega))
  have f3 : (nI (i + 3)).toNatClampNeg = i + 3 := nI_clamp (by omega)
  have a4 : nI i + 4 = nI (i + 4) := nI_add i 4
  have g4 : pm_ok (nI (i + 4)) X.1 = true := decide_eq_true (nI_in (by omega) (by omega))
  have f4 : (nI (i + 4)).toNatClampNeg = i + 4 := nI_clamp (by omega)
  have a5 : nI i + 5 = nI (i + 5) := nI_add i 5
  refine ⟨I2, J2, hR2, fun d => ?_⟩
  have c1 := fun F => h1 d F
  have c2 := fun F => h2 d F
  simp only [lwL, ↓ps_228_811, ↓ps_228_812, ↓ps_228_813, ↓ps_228_814, ↓ps_228_815, ↓ps_228_816, ↓ps_228_817, ↓ps_228_818, ↓ps_228_819, ↓ps_228_820, ↓ps_228_821, ↓ps_228_822, ↓ps_228_823, ↓ps_228_824, ↓ps_228_825, ↓ps_228_826, ↓ps_228_827, ↓ps_228_828, ↓ps_228_829, ↓ps_228_830, ↓ps_228_831, ↓ps_228_832, ↓ps_228_835, ↓ps_228_836, ↓ps_228_837, ↓ps_228_838, ↓ps_228_839, ↓ps_228_840, ↓ps_228_841, ↓ps_228_842, ↓ps_228_843, ↓ps_228_844, ↓ps_228_845, ↓ps_228_846, ↓ps_228_847, ↓ps_228_848, ↓ps_228_849, ↓ps_228_850, ↓ps_228_851, ↓ps_228_852, ↓ps_228_853, ↓ps_228_854, ↓ps_228_855, ↓ps_228_856, ↓ps_228_859, ↓ps_228_860, ↓ps_228_863, ↓ps_228_864, ↓ps_228_1654, ↓ps_228_1657, ↓q_i1, ↓q_i2, ↓q_l1, ↓q_l2, ↓q_r1, ↓q_v1, ↓q_rs, ↓q_if, ↓q_gi, ↓q_gi', ↓q_gl, ↓q_gl', ↓q_ga, ↓q_ga', ↓q_s1, ↓q_s1n, ↓q_s1i, ↓q_s1r, ↓q_s1', ↓q_s2, ↓q_s2n, ↓q_s2i, ↓q_s2r, ↓q_s2', ↓q_ar0, ↓q_ar, q_w0, q_wi, q_wl, q_wr, q_wii, q_wil, q_wli, q_wll, q_wir, q_wri, q_wlr, q_wrl, q_wrr, q_wirr, q_wiir, q_wiii, q_ni, q_nl, q_fi, q_fl, q_z0, q_z1, q_fz0, q_fz1, ↓q_ts, ↓q_tn, q_e, q_ci, q_cr, ↓q_rfs, decide_true, Bool.and_true, Bool.and_self, Nat.zero_add, Nat.reduceAdd, Nat.reduceBEq, beq_self_eq_true, q_le, q_lel, q_ge, q_gel, q_gt, q_gtl, ite_not, Bool.not_eq_true', Bool.not_eq_false', ↓reduceIte, ↓fg_0_0, ↓fg_0_1, ↓fg_0_2, ↓fg_0_3, ↓fg_0_4, ↓fg_0_5, ↓fg_0_6, ↓fg_0_7, ↓fg_0_8, ↓fp_0_7, ↓fp_0_8, ↓oc_0, ↓fg_31_0, ↓fg_31_1, ↓fp_31_1, ↓oc_31, ↓ai_32, ↓wi_32, ↓fg_33_0, ↓fp_33_0, ↓fg_33_1, ↓fp_33_1, ↓fg_33_2, ↓fp_33_2, ↓fg_33_3, ↓fp_33_3, ↓oc_33, ↓ai_34, ↓wi_34, ↓ai_35, ↓wi_35, ↓fg_36_0, ↓fg_36_1, ↓fg_36_2, ↓fg_36_3, ↓fg_36_4, ↓fg_36_5, ↓fg_36_6, ↓fg_36_7, ↓fp_36_7, ↓fg_36_8, ↓fg_36_9, ↓fg_36_10, ↓fg_36_11, ↓fg_36_12, ↓fp_36_12, ↓fg_36_13, ↓fp_36_13, ↓fg_36_14, ↓fp_36_14, ↓fg_36_15, ↓fg_36_16, ↓fp_36_16, ↓fg_36_17, ↓fp_36_17, ↓fg_36_18, ↓fp_36_18, ↓fg_36_19, ↓fp_36_19, ↓fg_36_20, ↓fp_36_20, ↓fg_36_21, ↓fp_36_21, ↓fg_36_22, ↓fp_36_22, ↓fg_36_23, ↓fp_36_23, ↓fg_36_24, ↓fp_36_24, ↓fg_36_25, ↓fg_36_26, ↓fg_36_27, ↓fg_36_28, ↓fp_36_28, ↓fg_36_29, ↓fp_36_29, ↓oc_36, ↓ai_37, ↓wi_37, ↓ai_38, ↓wi_38, ↓ai_39, ↓wi_39, ↓ai_40, ↓wi_40, ↓ai_41, ↓wi_41, ↓ai_42, ↓wi_42, ↓ai_43, ↓wi_43, ↓ai_44, ↓wi_44, ↓ai_45, ↓wi_45, ↓ai_46, ↓wi_46, ↓ai_47, ↓wi_47, ↓ai_48, ↓wi_48, ↓ai_51, ↓wi_51, ↓al_49, ↓wl_49, ↓al_50, ↓wl_50, isW_1, isW_11, isW_21, isS_3, isS_5, isS_13, isS_15, isS_23, isS_25, ↓q_ga2, ↓q_rs2, ↓q_s1q, ↓c1, ↓c2, a5, lg_self, a1, g1, f1, a2, g2, f2, a3, g3, f3, a4, g4, f4]
theorem law_18 {X : pm_X} {I : st_I} {J : st_J} {i : Nat} (hR : R I) (hi : i + 5 ≤ X.1) (hL : X.1 ≤ 2560) : ∃ I2 J2, R I2 ∧ ∀ d, pm_ev X (d + 14) 228 (865, lwL i, [], st_E I J) = pm_ev X (d + 14) 228 (18, lwL (i + 5), [], st_E I2 J2) := by
  have h : OK X 83 193 [.int (X.2 (i + 1)), .int (X.2 (i + 2))] I J := oo_83 hR
  obtain ⟨v, I1, J1, I2, J2, h1, h2, hR2, hv⟩ := h
  obtain ⟨v, rfl⟩ : ∃ w, v = .int w := by
    rcases hv with ⟨-, h⟩ | ⟨h, -⟩
    · exact h
    · have h : (some FieldType.int : Option FieldType) = some FieldType.long := h
      cases h
  have a1 : nI i + 1 = nI (i + 1) := nI_add i 1
  have g1 : pm_ok (nI (i + 1)) X.1 = true := decide_eq_true (nI_in (by omega) (by omega))
  have f1 : (nI (i + 1)).toNatClampNeg = i + 1 := nI_clamp (by omega)
  have a2 : nI i + 2 = nI (i + 2) := nI_add i 2
  have g2 : pm_ok (nI (i + 2)) X.1 = true := decide_eq_true (nI_in (by omega) (by omega))
  have f2 : (nI (i + 2)).toNatClampNeg = i + 2 := nI_clamp (by omega)
  have a5 : nI i + 5 = nI (i + 5) := nI_add i 5
  refine ⟨I2, J2, hR2, fun d => ?_⟩
  have c1 := fun F => h1 d F
  have c2 := fun F => h2 d F
  simp only [lwL, ↓ps_228_865, ↓ps_228_866, ↓ps_228_867, ↓ps_228_868, ↓ps_228_869, ↓ps_228_870, ↓ps_228_871, ↓ps_228_872, ↓ps_228_873, ↓ps_228_874, ↓ps_228_875, ↓ps_228_876, ↓ps_228_879, ↓ps_228_880, ↓ps_228_881, ↓ps_228_882, ↓ps_228_883, ↓ps_228_884, ↓ps_228_885, ↓ps_228_886, ↓ps_228_887, ↓ps_228_888, ↓ps_228_889, ↓ps_228_890, ↓ps_228_893, ↓ps_228_896, ↓ps_228_897, ↓ps_228_1654, ↓ps_228_1657, ↓q_i1, ↓q_i2, ↓q_l1, ↓q_l2, ↓q_r1, ↓q_v1, ↓q_rs, ↓q_if, ↓q_gi, ↓q_gi', ↓q_gl, ↓q_gl', ↓q_ga, ↓q_ga', ↓q_s1, ↓q_s1n, ↓q_s1i, ↓q_s1r, ↓q_s1', ↓q_s2, ↓q_s2n, ↓q_s2i, ↓q_s2r, ↓q_s2', ↓q_ar0, ↓q_ar, q_w0, q_wi, q_wl, q_wr, q_wii, q_wil, q_wli, q_wll, q_wir, q_wri, q_wlr, q_wrl, q_wrr, q_wirr, q_wiir, q_wiii, q_ni, q_nl, q_fi, q_fl, q_z0, q_z1, q_fz0, q_fz1, ↓q_ts, ↓q_tn, q_e, q_ci, q_cr, ↓q_rfs, decide_true, Bool.and_true, Bool.and_self, Nat.zero_add, Nat.reduceAdd, Nat.reduceBEq, beq_self_eq_true, q_le, q_lel, q_ge, q_gel, q_gt, q_gtl, ite_not, Bool.not_eq_true', Bool.not_eq_false', ↓reduceIte, ↓fg_0_0, ↓fg_0_1, ↓fg_0_2, ↓fg_0_3, ↓fg_0_4, ↓fg_0_5, ↓fg_0_6, ↓fg_0_7, ↓fg_0_8, ↓fp_0_7, ↓fp_0_8, ↓oc_0, ↓fg_31_0, ↓fg_31_1, ↓fp_31_1, ↓oc_31, ↓ai_32, ↓wi_32, ↓fg_33_0, ↓fp_33_0, ↓fg_33_1, ↓fp_33_1, ↓fg_33_2, ↓fp_33_2, ↓fg_33_3, ↓fp_33_3, ↓oc_33, ↓ai_34, ↓wi_34, ↓ai_35, ↓wi_35, ↓fg_36_0, ↓fg_36_1, ↓fg_36_2, ↓fg_36_3, ↓fg_36_4, ↓fg_36_5, ↓fg_36_6, ↓fg_36_7, ↓fp_36_7, ↓fg_36_8, ↓fg_36_9, ↓fg_36_10, ↓fg_36_11, ↓fg_36_12, ↓fp_36_12, ↓fg_36_13, ↓fp_36_13, ↓fg_36_14, ↓fp_36_14, ↓fg_36_15, ↓fg_36_16, ↓fp_36_16, ↓fg_36_17, ↓fp_36_17, ↓fg_36_18, ↓fp_36_18, ↓fg_36_19, ↓fp_36_19, ↓fg_36_20, ↓fp_36_20, ↓fg_36_21, ↓fp_36_21, ↓fg_36_22, ↓fp_36_22, ↓fg_36_23, ↓fp_36_23, ↓fg_36_24, ↓fp_36_24, ↓fg_36_25, ↓fg_36_26, ↓fg_36_27, ↓fg_36_28, ↓fp_36_28, ↓fg_36_29, ↓fp_36_29, ↓oc_36, ↓ai_37, ↓wi_37, ↓ai_38, ↓wi_38, ↓ai_39, ↓wi_39, ↓ai_40, ↓wi_40, ↓ai_41, ↓wi_41, ↓ai_42, ↓wi_42, ↓ai_43, ↓wi_43, ↓ai_44, ↓wi_44, ↓ai_45, ↓wi_45, ↓ai_46, ↓wi_46, ↓ai_47, ↓wi_47, ↓ai_48, ↓wi_48, ↓ai_51, ↓wi_51, ↓al_49, ↓wl_49, ↓al_50, ↓wl_50, isW_1, isW_11, isW_21, isS_3, isS_5, isS_13, isS_15, isS_23, isS_25, ↓q_ga2, ↓q_rs2, ↓q_s1q, ↓c1, ↓c2, a5, lg_self, a1, g1, f1, a2, g2, f2]
theorem law_19 {X : pm_X} {I : st_I} {J : st_J} {i : Nat} (hR : R I) (hi : i + 5 ≤ X.1) (hL : X.1 ≤ 2560) : ∃ I2 J2, R I2 ∧ ∀ d, pm_ev X (d + 14) 228 (898, lwL i, [], st_E I J) = pm_ev X (d + 14) 228 (18, lwL (i + 5), [], st_E I2 J2) := by
  have h : OK X 84 194 [.int (X.2 (i + 1)), .int (X.2 (i + 2))] I J := oo_84 hR
  obtain ⟨v, I1, J1, I2, J2, h1, h2, hR2, hv⟩ := h
  obtain ⟨v, rfl⟩ : ∃ w, v = .int w := by
    rcases hv with ⟨-, h⟩ | ⟨h, -⟩
    · exact h
    · have h : (some FieldType.int : Option FieldType) = some FieldType.long := h
      cases h
  have a1 : nI i + 1 = nI (i + 1) := nI_add i 1
  have g1 : pm_ok (nI (i + 1)) X.1 = true := decide_eq_true (nI_in (by omega) (by omega))
  have f1 : (nI (i + 1)).toNatClampNeg = i + 1 := nI_clamp (by omega)
  have a2 : nI i + 2 = nI (i + 2) := nI_add i 2
  have g2 : pm_ok (nI (i + 2)) X.1 = true := decide_eq_true (nI_in (by omega) (by omega))
  have f2 : (nI (i + 2)).toNatClampNeg = i + 2 := nI_clamp (by omega)
  have a5 : nI i + 5 = nI (i + 5) := nI_add i 5
  refine ⟨I2, J2, hR2, fun d => ?_⟩
  have c1 := fun F => h1 d F
  have c2 := fun F => h2 d F
  simp only [lwL, ↓ps_228_898, ↓ps_228_899, ↓ps_228_900, ↓ps_228_901, ↓ps_228_902, ↓ps_228_903, ↓ps_228_904, ↓ps_228_905, ↓ps_228_906, ↓ps_228_907, ↓ps_228_908, ↓ps_228_909, ↓ps_228_912, ↓ps_228_913, ↓ps_228_914, ↓ps_228_915, ↓ps_228_916, ↓ps_228_917, ↓ps_228_918, ↓ps_228_919, ↓ps_228_920, ↓ps_228_921, ↓ps_228_922, ↓ps_228_923, ↓ps_228_926, ↓ps_228_929, ↓ps_228_930, ↓ps_228_1654, ↓ps_228_1657, ↓q_i1, ↓q_i2, ↓q_l1, ↓q_l2, ↓q_r1, ↓q_v1, ↓q_rs, ↓q_if, ↓q_gi, ↓q_gi', ↓q_gl, ↓q_gl', ↓q_ga, ↓q_ga', ↓q_s1, ↓q_s1n, ↓q_s1i, ↓q_s1r, ↓q_s1', ↓q_s2, ↓q_s2n, ↓q_s2i, ↓q_s2r, ↓q_s2', ↓q_ar0, ↓q_ar, q_w0, q_wi, q_wl, q_wr, q_wii, q_wil, q_wli, q_wll, q_wir, q_wri, q_wlr, q_wrl, q_wrr, q_wirr, q_wiir, q_wiii, q_ni, q_nl, q_fi, q_fl, q_z0, q_z1, q_fz0, q_fz1, ↓q_ts, ↓q_tn, q_e, q_ci, q_cr, ↓q_rfs, decide_true, Bool.and_true, Bool.and_self, Nat.zero_add, Nat.reduceAdd, Nat.reduceBEq, beq_self_eq_true, q_le, q_lel, q_ge, q_gel, q_gt, q_gtl, ite_not, Bool.not_eq_true', Bool.not_eq_false', ↓reduceIte, ↓fg_0_0, ↓fg_0_1, ↓fg_0_2, ↓fg_0_3, ↓fg_0_4, ↓fg_0_5, ↓fg_0_6, ↓fg_0_7, ↓fg_0_8, ↓fp_0_7, ↓fp_0_8, ↓oc_0, ↓fg_31_0, ↓fg_31_1, ↓fp_31_1, ↓oc_31, ↓ai_32, ↓wi_32, ↓fg_33_0, ↓fp_33_0, ↓fg_33_1, ↓fp_33_1, ↓fg_33_2, ↓fp_33_2, ↓fg_33_3, ↓fp_33_3, ↓oc_33, ↓ai_34, ↓wi_34, ↓ai_35, ↓wi_35, ↓fg_36_0, ↓fg_36_1, ↓fg_36_2, ↓fg_36_3, ↓fg_36_4, ↓fg_36_5, ↓fg_36_6, ↓fg_36_7, ↓fp_36_7, ↓fg_36_8, ↓fg_36_9, ↓fg_36_10, ↓fg_36_11, ↓fg_36_12, ↓fp_36_12, ↓fg_36_13, ↓fp_36_13, ↓fg_36_14, ↓fp_36_14, ↓fg_36_15, ↓fg_36_16, ↓fp_36_16, ↓fg_36_17, ↓fp_36_17, ↓fg_36_18, ↓fp_36_18, ↓fg_36_19, ↓fp_36_19, ↓fg_36_20, ↓fp_36_20, ↓fg_36_21, ↓fp_36_21, ↓fg_36_22, ↓fp_36_22, ↓fg_36_23, ↓fp_36_23, ↓fg_36_24, ↓fp_36_24, ↓fg_36_25, ↓fg_36_26, ↓fg_36_27, ↓fg_36_28, ↓fp_36_28, ↓fg_36_29, ↓fp_36_29, ↓oc_36, ↓ai_37, ↓wi_37, ↓ai_38, ↓wi_38, ↓ai_39, ↓wi_39, ↓ai_40, ↓wi_40, ↓ai_41, ↓wi_41, ↓ai_42, ↓wi_42, ↓ai_43, ↓wi_43, ↓ai_44, ↓wi_44, ↓ai_45, ↓wi_45, ↓ai_46, ↓wi_46, ↓ai_47, ↓wi_47, ↓ai_48, ↓wi_48, ↓ai_51, ↓wi_51, ↓al_49, ↓wl_49, ↓al_50, ↓wl_50, isW_1, isW_11, isW_21, isS_3, isS_5, isS_13, isS_15, isS_23, isS_25, ↓q_ga2, ↓q_rs2, ↓q_s1q, ↓c1, ↓c2, a5, lg_self, a1, g1, f1, a2, g2, f2]
theorem law_20 {X : pm_X} {I : st_I} {J : st_J} {i : Nat} (hR : R I) (hi : i + 5 ≤ X.1) (hL : X.1 ≤ 2560) : ∃ I2 J2, R I2 ∧ ∀ d, pm_ev X (d + 14) 228 (931, lwL i, [], st_E I J) = pm_ev X (d + 14) 228 (18, lwL (i + 5), [], st_E I2 J2) := by
  have h : OK X 85 195 [.int (X.2 (i + 1)), .int (X.2 (i + 2)), .int (X.2 (i + 3))] I J := oo_85 hR
  obtain ⟨v, I1, J1, I2, J2, h1, h2, hR2, hv⟩ := h
  obtain ⟨v, rfl⟩ : ∃ w, v = .int w := by
    rcases hv with ⟨-, h⟩ | ⟨h, -⟩
    · exact h
    · have h : (some FieldType.int : Option FieldType) = some FieldType.long := h
      cases h
  have a1 : nI i + 1 = nI (i + 1) := nI_add i 1
  have g1 : pm_ok (nI (i + 1)) X.1 = true := decide_eq_true (nI_in (by omega) (by omega))
  have f1 : (nI (i + 1)).toNatClampNeg = i + 1 := nI_clamp (by omega)
  have a2 : nI i + 2 = nI (i + 2) := nI_add i 2
  have g2 : pm_ok (nI (i + 2)) X.1 = true := decide_eq_true (nI_in (by omega) (by omega))
  have f2 : (nI (i + 2)).toNatClampNeg = i + 2 := nI_clamp (by omega)
  have a3 : nI i + 3 = nI (i + 3) := nI_add i 3
  have g3 : pm_ok (nI (i + 3)) X.1 = true := decide_eq_true (nI_in (by omega) (by omega))
  have f3 : (nI (i + 3)).toNatClampNeg = i + 3 := nI_clamp (by omega)
  have a5 : nI i + 5 = nI (i + 5) := nI_add i 5
  refine ⟨I2, J2, hR2, fun d => ?_⟩
  have c1 := fun F => h1 d F
  have c2 := fun F => h2 d F
  simp only [lwL, ↓ps_228_931, ↓ps_228_932, ↓ps_228_933, ↓ps_228_934, ↓ps_228_935, ↓ps_228_936, ↓ps_228_937, ↓ps_228_938, ↓ps_228_939, ↓ps_228_940, ↓ps_228_941, ↓ps_228_942, ↓ps_228_943, ↓ps_228_944, ↓ps_228_945, ↓ps_228_946, ↓ps_228_947, ↓ps_228_950, ↓ps_228_951, ↓ps_228_952, ↓ps_228_953, ↓ps_228_954, ↓ps_228_955, ↓ps_228_956, ↓ps_228_957, ↓ps_228_958, ↓ps_228_959, ↓ps_228_960, ↓ps_228_961, ↓ps_228_962, ↓ps_228_963, ↓ps_228_964, ↓ps_228_965, ↓ps_228_966, ↓ps_228_969, ↓ps_228_972, ↓ps_228_973, ↓ps_228_1654, ↓ps_228_1657, ↓q_i1, ↓q_i2, ↓q_l1, ↓q_l2, ↓q_r1, ↓q_v1, ↓q_rs, ↓q_if, ↓q_gi, ↓q_gi', ↓q_gl, ↓q_gl', ↓q_ga, ↓q_ga', ↓q_s1, ↓q_s1n, ↓q_s1i, ↓q_s1r, ↓q_s1', ↓q_s2, ↓q_s2n, ↓q_s2i, ↓q_s2r, ↓q_s2', ↓q_ar0, ↓q_ar, q_w0, q_wi, q_wl, q_wr, q_wii, q_wil, q_wli, q_wll, q_wir, q_wri, q_wlr, q_wrl, q_wrr, q_wirr, q_wiir, q_wiii, q_ni, q_nl, q_fi, q_fl, q_z0, q_z1, q_fz0, q_fz1, ↓q_ts, ↓q_tn, q_e, q_ci, q_cr, ↓q_rfs, decide_true, Bool.and_true, Bool.and_self, Nat.zero_add, Nat.reduceAdd, Nat.reduceBEq, beq_self_eq_true, q_le, q_lel, q_ge, q_gel, q_gt, q_gtl, ite_not, Bool.not_eq_true', Bool.not_eq_false', ↓reduceIte, ↓fg_0_0, ↓fg_0_1, ↓fg_0_2, ↓fg_0_3, ↓fg_0_4, ↓fg_0_5, ↓fg_0_6, ↓fg_0_7, ↓fg_0_8, ↓fp_0_7, ↓fp_0_8, ↓oc_0, ↓fg_31_0, ↓fg_31_1, ↓fp_31_1, ↓oc_31, ↓ai_32, ↓wi_32, ↓fg_33_0, ↓fp_33_0, ↓fg_33_1, ↓fp_33_1, ↓fg_33_2, ↓fp_33_2, ↓fg_33_3, ↓fp_33_3, ↓oc_33, ↓ai_34, ↓wi_34, ↓ai_35, ↓wi_35, ↓fg_36_0, ↓fg_36_1, ↓fg_36_2, ↓fg_36_3, ↓fg_36_4, ↓fg_36_5, ↓fg_36_6, ↓fg_36_7, ↓fp_36_7, ↓fg_36_8, ↓fg_36_9, ↓fg_36_10, ↓fg_36_11, ↓fg_36_12, ↓fp_36_12, ↓fg_36_13, ↓fp_36_13, ↓fg_36_14, ↓fp_36_14, ↓fg_36_15, ↓fg_36_16, ↓fp_36_16, ↓fg_36_17, ↓fp_36_17, ↓fg_36_18, ↓fp_36_18, ↓fg_36_19, ↓fp_36_19, ↓fg_36_20, ↓fp_36_20, ↓fg_36_21, ↓fp_36_21, ↓fg_36_22, ↓fp_36_22, ↓fg_36_23, ↓fp_36_23, ↓fg_36_24, ↓fp_36_24, ↓fg_36_25, ↓fg_36_26, ↓fg_36_27, ↓fg_36_28, ↓fp_36_28, ↓fg_36_29, ↓fp_36_29, ↓oc_36, ↓ai_37, ↓wi_37, ↓ai_38, ↓wi_38, ↓ai_39, ↓wi_39, ↓ai_40, ↓wi_40, ↓ai_41, ↓wi_41, ↓ai_42, ↓wi_42, ↓ai_43, ↓wi_43, ↓ai_44, ↓wi_44, ↓ai_45, ↓wi_45, ↓ai_46, ↓wi_46, ↓ai_47, ↓wi_47, ↓ai_48, ↓wi_48, ↓ai_51, ↓wi_51, ↓al_49, ↓wl_49, ↓al_50, ↓wl_50, isW_1, isW_11, isW_21, isS_3, isS_5, isS_13, isS_15, isS_23, isS_25, ↓q_ga2, ↓q_rs2, ↓q_s1q, ↓c1, ↓c2, a5, lg_self, a1, g1, f1, a2, g2, f2, a3, g3, f3]
theorem law_21 {X : pm_X} {I : st_I} {J : st_J} {i : Nat} (hR : R I) (hi : i + 5 ≤ X.1) (hL : X.1 ≤ 2560) : ∃ I2 J2, R I2 ∧ ∀ d, pm_ev X (d + 14) 228 (974, lwL i, [], st_E I J) = pm_ev X (d + 14) 228 (18, lwL (i + 5), [], st_E I2 J2) := by
  have h : OK X 87 196 [.int (X.2 (i + 1)), .int (X.2 (i + 2))] I J := oo_87 hR
  obtain ⟨v, I1, J1, I2, J2, h1, h2, hR2, hv⟩ := h
  obtain ⟨v, rfl⟩ : ∃ w, v = .int w := by
    rcases hv with ⟨-, h⟩ | ⟨h, -⟩
    · exact h
    · have h : (some FieldType.int : Option FieldType) = some FieldType.long := h
      cases h
  have a1 : nI i + 1 = nI (i + 1) := nI_add i 1
  have g1 : pm_ok (nI (i + 1)) X.1 = true := decide_eq_true (nI_in (by omega) (by omega))
  have f1 : (nI (i + 1)).toNatClampNeg = i + 1 := nI_clamp (by omega)
  have a2 : nI i + 2 = nI (i + 2) := nI_add i 2
  have g2 : pm_ok (nI (i + 2)) X.1 = true := decide_eq_true (nI_in (by omega) (by omega))
  have f2 : (nI (i + 2)).toNatClampNeg = i + 2 := nI_clamp (by omega)
  have a5 : nI i + 5 = nI (i + 5) := nI_add i 5
  refine ⟨I2, J2, hR2, fun d => ?_⟩
  have c1 := fun F => h1 d F
  have c2 := fun F => h2 d F
  simp only [lwL, ↓ps_228_974, ↓ps_228_975, ↓ps_228_976, ↓ps_228_977, ↓ps_228_978, ↓ps_228_979, ↓ps_228_980, ↓ps_228_981, ↓ps_228_982, ↓ps_228_983, ↓ps_228_984, ↓ps_228_985, ↓ps_228_988, ↓ps_228_989, ↓ps_228_990, ↓ps_228_991, ↓ps_228_992, ↓ps_228_993, ↓ps_228_994, ↓ps_228_995, ↓ps_228_996, ↓ps_228_997, ↓ps_228_998, ↓ps_228_999, ↓ps_228_1002, ↓ps_228_1005, ↓ps_228_1006, ↓ps_228_1654, ↓ps_228_1657, ↓q_i1, ↓q_i2, ↓q_l1, ↓q_l2, ↓q_r1, ↓q_v1, ↓q_rs, ↓q_if, ↓q_gi, ↓q_gi', ↓q_gl, ↓q_gl', ↓q_ga, ↓q_ga', ↓q_s1, ↓q_s1n, ↓q_s1i, ↓q_s1r, ↓q_s1', ↓q_s2, ↓q_s2n, ↓q_s2i, ↓q_s2r, ↓q_s2', ↓q_ar0, ↓q_ar, q_w0, q_wi, q_wl, q_wr, q_wii, q_wil, q_wli, q_wll, q_wir, q_wri, q_wlr, q_wrl, q_wrr, q_wirr, q_wiir, q_wiii, q_ni, q_nl, q_fi, q_fl, q_z0, q_z1, q_fz0, q_fz1, ↓q_ts, ↓q_tn, q_e, q_ci, q_cr, ↓q_rfs, decide_true, Bool.and_true, Bool.and_self, Nat.zero_add, Nat.reduceAdd, Nat.reduceBEq, beq_self_eq_true, q_le, q_lel, q_ge, q_gel, q_gt, q_gtl, ite_not, Bool.not_eq_true', Bool.not_eq_false', ↓reduceIte, ↓fg_0_0, ↓fg_0_1, ↓fg_0_2, ↓fg_0_3, ↓fg_0_4, ↓fg_0_5, ↓fg_0_6, ↓fg_0_7, ↓fg_0_8, ↓fp_0_7, ↓fp_0_8, ↓oc_0, ↓fg_31_0, ↓fg_31_1, ↓fp_31_1, ↓oc_31, ↓ai_32, ↓wi_32, ↓fg_33_0, ↓fp_33_0, ↓fg_33_1, ↓fp_33_1, ↓fg_33_2, ↓fp_33_2, ↓fg_33_3, ↓fp_33_3, ↓oc_33, ↓ai_34, ↓wi_34, ↓ai_35, ↓wi_35, ↓fg_36_0, ↓fg_36_1, ↓fg_36_2, ↓fg_36_3, ↓fg_36_4, ↓fg_36_5, ↓fg_36_6, ↓fg_36_7, ↓fp_36_7, ↓fg_36_8, ↓fg_36_9, ↓fg_36_10, ↓fg_36_11, ↓fg_36_12, ↓fp_36_12, ↓fg_36_13, ↓fp_36_13, ↓fg_36_14, ↓fp_36_14, ↓fg_36_15, ↓fg_36_16, ↓fp_36_16, ↓fg_36_17, ↓fp_36_17, ↓fg_36_18, ↓fp_36_18, ↓fg_36_19, ↓fp_36_19, ↓fg_36_20, ↓fp_36_20, ↓fg_36_21, ↓fp_36_21, ↓fg_36_22, ↓fp_36_22, ↓fg_36_23, ↓fp_36_23, ↓fg_36_24, ↓fp_36_24, ↓fg_36_25, ↓fg_36_26, ↓fg_36_27, ↓fg_36_28, ↓fp_36_28, ↓fg_36_29, ↓fp_36_29, ↓oc_36, ↓ai_37, ↓wi_37, ↓ai_38, ↓wi_38, ↓ai_39, ↓wi_39, ↓ai_40, ↓wi_40, ↓ai_41, ↓wi_41, ↓ai_42, ↓wi_42, ↓ai_43, ↓wi_43, ↓ai_44, ↓wi_44, ↓ai_45, ↓wi_45, ↓ai_46, ↓wi_46, ↓ai_47, ↓wi_47, ↓ai_48, ↓wi_48, ↓ai_51, ↓wi_51, ↓al_49, ↓wl_49, ↓al_50, ↓wl_50, isW_1, isW_11, isW_21, isS_3, isS_5, isS_13, isS_15, isS_23, isS_25, ↓q_ga2, ↓q_rs2, ↓q_s1q, ↓c1, ↓c2, a5, lg_self, a1, g1, f1, a2, g2, f2]
theorem law_22 {X : pm_X} {I : st_I} {J : st_J} {i : Nat} (hR : R I) (hi : i + 5 ≤ X.1) (hL : X.1 ≤ 2560) : ∃ I2 J2, R I2 ∧ ∀ d, pm_ev X (d + 14) 228 (1007, lwL i, [], st_E I J) = pm_ev X (d + 14) 228 (18, lwL (i + 5), [], st_E I2 J2) := by
  have h : OK X 88 197 [.int (X.2 (i + 1)), .int (X.2 (i + 2))] I J := oo_88 hR
  obtain ⟨v, I1, J1, I2, J2, h1, h2, hR2, hv⟩ := h
  obtain ⟨v, rfl⟩ : ∃ w, v = .long w := by
    rcases hv with ⟨h, -⟩ | ⟨-, h⟩
    · have h : (some FieldType.long : Option FieldType) = some FieldType.int := h
      cases h
    · exact h
  have a1 : nI i + 1 = nI (i + 1) := nI_add i 1
  have g1 : pm_ok (nI (i + 1)) X.1 = true := decide_eq_true (nI_in (by omega) (by omega))
  have f1 : (nI (i + 1)).toNatClampNeg = i + 1 := nI_clamp (by omega)
  have a2 : nI i + 2 = nI (i + 2) := nI_add i 2
  have g2 : pm_ok (nI (i + 2)) X.1 = true := decide_eq_true (nI_in (by omega) (by omega))
  have f2 : (nI (i + 2)).toNatClampNeg = i + 2 := nI_clamp (by omega)
  have a5 : nI i + 5 = nI (i + 5) := nI_add i 5
  refine ⟨I2, J2, hR2, fun d => ?_⟩
  have c1 := fun F => h1 d F
  have c2 := fun F => h2 d F
  simp only [lwL, ↓ps_228_1007, ↓ps_228_1008, ↓ps_228_1009, ↓ps_228_1010, ↓ps_228_1011, ↓ps_228_1012, ↓ps_228_1013, ↓ps_228_1014, ↓ps_228_1015, ↓ps_228_1016, ↓ps_228_1017, ↓ps_228_1018, ↓ps_228_1021, ↓ps_228_1022, ↓ps_228_1023, ↓ps_228_1024, ↓ps_228_1025, ↓ps_228_1026, ↓ps_228_1027, ↓ps_228_1028, ↓ps_228_1029, ↓ps_228_1030, ↓ps_228_1031, ↓ps_228_1032, ↓ps_228_1035, ↓ps_228_1036, ↓ps_228_1039, ↓ps_228_1040, ↓ps_228_1654, ↓ps_228_1657, ↓q_i1, ↓q_i2, ↓q_l1, ↓q_l2, ↓q_r1, ↓q_v1, ↓q_rs, ↓q_if, ↓q_gi, ↓q_gi', ↓q_gl, ↓q_gl', ↓q_ga, ↓q_ga', ↓q_s1, ↓q_s1n, ↓q_s1i, ↓q_s1r, ↓q_s1', ↓q_s2, ↓q_s2n, ↓q_s2i, ↓q_s2r, ↓q_s2', ↓q_ar0, ↓q_ar, q_w0, q_wi, q_wl, q_wr, q_wii, q_wil, q_wli, q_wll, q_wir, q_wri, q_wlr, q_wrl, q_wrr, q_wirr, q_wiir, q_wiii, q_ni, q_nl, q_fi, q_fl, q_z0, q_z1, q_fz0, q_fz1, ↓q_ts, ↓q_tn, q_e, q_ci, q_cr, ↓q_rfs, decide_true, Bool.and_true, Bool.and_self, Nat.zero_add, Nat.reduceAdd, Nat.reduceBEq, beq_self_eq_true, q_le, q_lel, q_ge, q_gel, q_gt, q_gtl, ite_not, Bool.not_eq_true', Bool.not_eq_false', ↓reduceIte, ↓fg_0_0, ↓fg_0_1, ↓fg_0_2, ↓fg_0_3, ↓fg_0_4, ↓fg_0_5, ↓fg_0_6, ↓fg_0_7, ↓fg_0_8, ↓fp_0_7, ↓fp_0_8, ↓oc_0, ↓fg_31_0, ↓fg_31_1, ↓fp_31_1, ↓oc_31, ↓ai_32, ↓wi_32, ↓fg_33_0, ↓fp_33_0, ↓fg_33_1, ↓fp_33_1, ↓fg_33_2, ↓fp_33_2, ↓fg_33_3, ↓fp_33_3, ↓oc_33, ↓ai_34, ↓wi_34, ↓ai_35, ↓wi_35, ↓fg_36_0, ↓fg_36_1, ↓fg_36_2, ↓fg_36_3, ↓fg_36_4, ↓fg_36_5, ↓fg_36_6, ↓fg_36_7, ↓fp_36_7, ↓fg_36_8, ↓fg_36_9, ↓fg_36_10, ↓fg_36_11, ↓fg_36_12, ↓fp_36_12, ↓fg_36_13, ↓fp_36_13, ↓fg_36_14, ↓fp_36_14, ↓fg_36_15, ↓fg_36_16, ↓fp_36_16, ↓fg_36_17, ↓fp_36_17, ↓fg_36_18, ↓fp_36_18, ↓fg_36_19, ↓fp_36_19, ↓fg_36_20, ↓fp_36_20, ↓fg_36_21, ↓fp_36_21, ↓fg_36_22, ↓fp_36_22, ↓fg_36_23, ↓fp_36_23, ↓fg_36_24, ↓fp_36_24, ↓fg_36_25, ↓fg_36_26, ↓fg_36_27, ↓fg_36_28, ↓fp_36_28, ↓fg_36_29, ↓fp_36_29, ↓oc_36, ↓ai_37, ↓wi_37, ↓ai_38, ↓wi_38, ↓ai_39, ↓wi_39, ↓ai_40, ↓wi_40, ↓ai_41, ↓wi_41, ↓ai_42, ↓wi_42, ↓ai_43, ↓wi_43, ↓ai_44, ↓wi_44, ↓ai_45, ↓wi_45, ↓ai_46, ↓wi_46, ↓ai_47, ↓wi_47, ↓ai_48, ↓wi_48, ↓ai_51, ↓wi_51, ↓al_49, ↓wl_49, ↓al_50, ↓wl_50, isW_1, isW_11, isW_21, isS_3, isS_5, isS_13, isS_15, isS_23, isS_25, ↓q_ga2, ↓q_rs2, ↓q_s1q, ↓c1, ↓c2, a5, lg_self, a1, g1, f1, a2, g2, f2]
theorem law_23 {X : pm_X} {I : st_I} {J : st_J} {i : Nat} (hR : R I) (hi : i + 5 ≤ X.1) (hL : X.1 ≤ 2560) : ∃ I2 J2, R I2 ∧ ∀ d, pm_ev X (d + 14) 228 (1041, lwL i, [], st_E I J) = pm_ev X (d + 14) 228 (18, lwL (i + 5), [], st_E I2 J2) := by
  have h : OK X 90 199 [.int (X.2 (i + 1)), .int (X.2 (i + 2)), .int (X.2 (i + 3))] I J := oo_90 hR
  obtain ⟨v, I1, J1, I2, J2, h1, h2, hR2, hv⟩ := h
  obtain ⟨v, rfl⟩ : ∃ w, v = .long w := by
    rcases hv with ⟨h, -⟩ | ⟨-, h⟩
    · have h : (some FieldType.long : Option FieldType) = some FieldType.int := h
      cases h
    · exact h
  have a1 : nI i + 1 = nI (i + 1) := nI_add i 1
  have g1 : pm_ok (nI (i + 1)) X.1 = true := decide_eq_true (nI_in (by omega) (by omega))
  have f1 : (nI (i + 1)).toNatClampNeg = i + 1 := nI_clamp (by omega)
  have a2 : nI i + 2 = nI (i + 2) := nI_add i 2
  have g2 : pm_ok (nI (i + 2)) X.1 = true := decide_eq_true (nI_in (by omega) (by omega))
  have f2 : (nI (i + 2)).toNatClampNeg = i + 2 := nI_clamp (by omega)
  have a3 : nI i + 3 = nI (i + 3) := nI_add i 3
  have g3 : pm_ok (nI (i + 3)) X.1 = true := decide_eq_true (nI_in (by omega) (by omega))
  have f3 : (nI (i + 3)).toNatClampNeg = i + 3 := nI_clamp (by omega)
  have a5 : nI i + 5 = nI (i + 5) := nI_add i 5
  refine ⟨I2, J2, hR2, fun d => ?_⟩
  have c1 := fun F => h1 d F
  have c2 := fun F => h2 d F
  simp only [lwL, ↓ps_228_1041, ↓ps_228_1042, ↓ps_228_1043, ↓ps_228_1044, ↓ps_228_1045, ↓ps_228_1046, ↓ps_228_1047, ↓ps_228_1048, ↓ps_228_1049, ↓ps_228_1050, ↓ps_228_1051, ↓ps_228_1052, ↓ps_228_1053, ↓ps_228_1054, ↓ps_228_1055, ↓ps_228_1056, ↓ps_228_1057, ↓ps_228_1060, ↓ps_228_1061, ↓ps_228_1062, ↓ps_228_1063, ↓ps_228_1064, ↓ps_228_1065, ↓ps_228_1066, ↓ps_228_1067, ↓ps_228_1068, ↓ps_228_1069, ↓ps_228_1070, ↓ps_228_1071, ↓ps_228_1072, ↓ps_228_1073, ↓ps_228_1074, ↓ps_228_1075, ↓ps_228_1076, ↓ps_228_1079, ↓ps_228_1080, ↓ps_228_1083, ↓ps_228_1084, ↓ps_228_1654, ↓ps_228_1657, ↓q_i1, ↓q_i2, ↓q_l1, ↓q_l2, ↓q_r1, ↓q_v1, ↓q_rs, ↓q_if, ↓q_gi, ↓q_gi', ↓q_gl, ↓q_gl', ↓q_ga, ↓q_ga', ↓q_s1, ↓q_s1n, ↓q_s1i, ↓q_s1r, ↓q_s1', ↓q_s2, ↓q_s2n, ↓q_s2i, ↓q_s2r, ↓q_s2', ↓q_ar0, ↓q_ar, q_w0, q_wi, q_wl, q_wr, q_wii, q_wil, q_wli, q_wll, q_wir, q_wri, q_wlr, q_wrl, q_wrr, q_wirr, q_wiir, q_wiii, q_ni, q_nl, q_fi, q_fl, q_z0, q_z1, q_fz0, q_fz1, ↓q_ts, ↓q_tn, q_e, q_ci, q_cr, ↓q_rfs, decide_true, Bool.and_true, Bool.and_self, Nat.zero_add, Nat.reduceAdd, Nat.reduceBEq, beq_self_eq_true, q_le, q_lel, q_ge, q_gel, q_gt, q_gtl, ite_not, Bool.not_eq_true', Bool.not_eq_false', ↓reduceIte, ↓fg_0_0, ↓fg_0_1, ↓fg_0_2, ↓fg_0_3, ↓fg_0_4, ↓fg_0_5, ↓fg_0_6, ↓fg_0_7, ↓fg_0_8, ↓fp_0_7, ↓fp_0_8, ↓oc_0, ↓fg_31_0, ↓fg_31_1, ↓fp_31_1, ↓oc_31, ↓ai_32, ↓wi_32, ↓fg_33_0, ↓fp_33_0, ↓fg_33_1, ↓fp_33_1, ↓fg_33_2, ↓fp_33_2, ↓fg_33_3, ↓fp_33_3, ↓oc_33, ↓ai_34, ↓wi_34, ↓ai_35, ↓wi_35, ↓fg_36_0, ↓fg_36_1, ↓fg_36_2, ↓fg_36_3, ↓fg_36_4, ↓fg_36_5, ↓fg_36_6, ↓fg_36_7, ↓fp_36_7, ↓fg_36_8, ↓fg_36_9, ↓fg_36_10, ↓fg_36_11, ↓fg_36_12, ↓fp_36_12, ↓fg_36_13, ↓fp_36_13, ↓fg_36_14, ↓fp_36_14, ↓fg_36_15, ↓fg_36_16, ↓fp_36_16, ↓fg_36_17, ↓fp_36_17, ↓fg_36_18, ↓fp_36_18, ↓fg_36_19, ↓fp_36_19, ↓fg_36_20, ↓fp_36_20, ↓fg_36_21, ↓fp_36_21, ↓fg_36_22, ↓fp_36_22, ↓fg_36_23, ↓fp_36_23, ↓fg_36_24, ↓fp_36_24, ↓fg_36_25, ↓fg_36_26, ↓fg_36_27, ↓fg_36_28, ↓fp_36_28, ↓fg_36_29, ↓fp_36_29, ↓oc_36, ↓ai_37, ↓wi_37, ↓ai_38, ↓wi_38, ↓ai_39, ↓wi_39, ↓ai_40, ↓wi_40, ↓ai_41, ↓wi_41, ↓ai_42, ↓wi_42, ↓ai_43, ↓wi_43, ↓ai_44, ↓wi_44, ↓ai_45, ↓wi_45, ↓ai_46, ↓wi_46, ↓ai_47, ↓wi_47, ↓ai_48, ↓wi_48, ↓ai_51, ↓wi_51, ↓al_49, ↓wl_49, ↓al_50, ↓wl_50, isW_1, isW_11, isW_21, isS_3, isS_5, isS_13, isS_15, isS_23, isS_25, ↓q_ga2, ↓q_rs2, ↓q_s1q, ↓c1, ↓c2, a5, lg_self, a1, g1, f1, a2, g2, f2, a3, g3, f3]
theorem law_24 {X : pm_X} {I : st_I} {J : st_J} {i : Nat} (hR : R I) (hi : i + 5 ≤ X.1) (hL : X.1 ≤ 2560) : ∃ I2 J2, R I2 ∧ ∀ d, pm_ev X (d + 14) 228 (1085, lwL i, [], st_E I J) = pm_ev X (d + 14) 228 (18, lwL (i + 5), [], st_E I2 J2) := by
  have h : OK X 94 202 [.int (X.2 (i + 1))] I J := oo_94 hR
  obtain ⟨v, I1, J1, I2, J2, h1, h2, hR2, hv⟩ := h
  obtain ⟨v, rfl⟩ : ∃ w, v = .int w := by
    rcases hv with ⟨-, h⟩ | ⟨h, -⟩
    · exact h
    · have h : (some FieldType.int : Option FieldType) = some FieldType.long := h
      cases h
  have a1 : nI i + 1 = nI (i + 1) := nI_add i 1
  have g1 : pm_ok (nI (i + 1)) X.1 = true := decide_eq_true (nI_in (by omega) (by omega))
  have f1 : (nI (i + 1)).toNatClampNeg = i + 1 := nI_clamp (by omega)
  have a5 : nI i + 5 = nI (i + 5) := nI_add i 5
  refine ⟨I2, J2, hR2, fun d => ?_⟩
  have c1 := fun F => h1 d F
  have c2 := fun F => h2 d F
  simp only [lwL, ↓ps_228_1085, ↓ps_228_1086, ↓ps_228_1087, ↓ps_228_1088, ↓ps_228_1089, ↓ps_228_1090, ↓ps_228_1091, ↓ps_228_1094, ↓ps_228_1095, ↓ps_228_1096, ↓ps_228_1097, ↓ps_228_1098, ↓ps_228_1099, ↓ps_228_1100, ↓ps_228_1103, ↓ps_228_1106, ↓ps_228_1107, ↓ps_228_1654, ↓ps_228_1657, ↓q_i1, ↓q_i2, ↓q_l1, ↓q_l2, ↓q_r1, ↓q_v1, ↓q_rs, ↓q_if, ↓q_gi, ↓q_gi', ↓q_gl, ↓q_gl', ↓q_ga, ↓q_ga', ↓q_s1, ↓q_s1n, ↓q_s1i, ↓q_s1r, ↓q_s1', ↓q_s2, ↓q_s2n, ↓q_s2i, ↓q_s2r, ↓q_s2', ↓q_ar0, ↓q_ar, q_w0, q_wi, q_wl, q_wr, q_wii, q_wil, q_wli, q_wll, q_wir, q_wri, q_wlr, q_wrl, q_wrr, q_wirr, q_wiir, q_wiii, q_ni, q_nl, q_fi, q_fl, q_z0, q_z1, q_fz0, q_fz1, ↓q_ts, ↓q_tn, q_e, q_ci, q_cr, ↓q_rfs, decide_true, Bool.and_true, Bool.and_self, Nat.zero_add, Nat.reduceAdd, Nat.reduceBEq, beq_self_eq_true, q_le, q_lel, q_ge, q_gel, q_gt, q_gtl, ite_not, Bool.not_eq_true', Bool.not_eq_false', ↓reduceIte, ↓fg_0_0, ↓fg_0_1, ↓fg_0_2, ↓fg_0_3, ↓fg_0_4, ↓fg_0_5, ↓fg_0_6, ↓fg_0_7, ↓fg_0_8, ↓fp_0_7, ↓fp_0_8, ↓oc_0, ↓fg_31_0, ↓fg_31_1, ↓fp_31_1, ↓oc_31, ↓ai_32, ↓wi_32, ↓fg_33_0, ↓fp_33_0, ↓fg_33_1, ↓fp_33_1, ↓fg_33_2, ↓fp_33_2, ↓fg_33_3, ↓fp_33_3, ↓oc_33, ↓ai_34, ↓wi_34, ↓ai_35, ↓wi_35, ↓fg_36_0, ↓fg_36_1, ↓fg_36_2, ↓fg_36_3, ↓fg_36_4, ↓fg_36_5, ↓fg_36_6, ↓fg_36_7, ↓fp_36_7, ↓fg_36_8, ↓fg_36_9, ↓fg_36_10, ↓fg_36_11, ↓fg_36_12, ↓fp_36_12, ↓fg_36_13, ↓fp_36_13, ↓fg_36_14, ↓fp_36_14, ↓fg_36_15, ↓fg_36_16, ↓fp_36_16, ↓fg_36_17, ↓fp_36_17, ↓fg_36_18, ↓fp_36_18, ↓fg_36_19, ↓fp_36_19, ↓fg_36_20, ↓fp_36_20, ↓fg_36_21, ↓fp_36_21, ↓fg_36_22, ↓fp_36_22, ↓fg_36_23, ↓fp_36_23, ↓fg_36_24, ↓fp_36_24, ↓fg_36_25, ↓fg_36_26, ↓fg_36_27, ↓fg_36_28, ↓fp_36_28, ↓fg_36_29, ↓fp_36_29, ↓oc_36, ↓ai_37, ↓wi_37, ↓ai_38, ↓wi_38, ↓ai_39, ↓wi_39, ↓ai_40, ↓wi_40, ↓ai_41, ↓wi_41, ↓ai_42, ↓wi_42, ↓ai_43, ↓wi_43, ↓ai_44, ↓wi_44, ↓ai_45, ↓wi_45, ↓ai_46, ↓wi_46, ↓ai_47, ↓wi_47, ↓ai_48, ↓wi_48, ↓ai_51, ↓wi_51, ↓al_49, ↓wl_49, ↓al_50, ↓wl_50, isW_1, isW_11, isW_21, isS_3, isS_5, isS_13, isS_15, isS_23, isS_25, ↓q_ga2, ↓q_rs2, ↓q_s1q, ↓c1, ↓c2, a5, lg_self, a1, g1, f1]
theorem law_25 {X : pm_X} {I : st_I} {J : st_J} {i : Nat} (hR : R I) (hi : i + 5 ≤ X.1) (hL : X.1 ≤ 2560) : ∃ I2 J2, R I2 ∧ ∀ d, pm_ev X (d + 14) 228 (1108, lwL i, [], st_E I J) = pm_ev X (d + 14) 228 (18, lwL (i + 5), [], st_E I2 J2) := by
  have h : OK X 95 203 [.int (X.2 (i + 1)), .int (X.2 (i + 2))] I J := oo_95 hR
  obtain ⟨v, I1, J1, I2, J2, h1, h2, hR2, hv⟩ := h
  obtain ⟨v, rfl⟩ : ∃ w, v = .long w := by
    rcases hv with ⟨h, -⟩ | ⟨-, h⟩
    · have h : (some FieldType.long : Option FieldType) = some FieldType.int := h
      cases h
    · exact h
  have a1 : nI i + 1 = nI (i + 1) := nI_add i 1
  have g1 : pm_ok (nI (i + 1)) X.1 = true := decide_eq_true (nI_in (by omega) (by omega))
  have f1 : (nI (i + 1)).toNatClampNeg = i + 1 := nI_clamp (by omega)
  have a2 : nI i + 2 = nI (i + 2) := nI_add i 2
  have g2 : pm_ok (nI (i + 2)) X.1 = true := decide_eq_true (nI_in (by omega) (by omega))
  have f2 : (nI (i + 2)).toNatClampNeg = i + 2 := nI_clamp (by omega)
  have a5 : nI i + 5 = nI (i + 5) := nI_add i 5
  refine ⟨I2, J2, hR2, fun d => ?_⟩
  have c1 := fun F => h1 d F
  have c2 := fun F => h2 d F
  simp only [lwL, ↓ps_228_1108, ↓ps_228_1109, ↓ps_228_1110, ↓ps_228_1111, ↓ps_228_1112, ↓ps_228_1113, ↓ps_228_1114, ↓ps_228_1115, ↓ps_228_1116, ↓ps_228_1117, ↓ps_228_1118, ↓ps_228_1119, ↓ps_228_1122, ↓ps_228_1123, ↓ps_228_1124, ↓ps_228_1125, ↓ps_228_1126, ↓ps_228_1127, ↓ps_228_1128, ↓ps_228_1129, ↓ps_228_1130, ↓ps_228_1131, ↓ps_228_1132, ↓ps_228_1133, ↓ps_228_1136, ↓ps_228_1137, ↓ps_228_1140, ↓ps_228_1141, ↓ps_228_1654, ↓ps_228_1657, ↓q_i1, ↓q_i2, ↓q_l1, ↓q_l2, ↓q_r1, ↓q_v1, ↓q_rs, ↓q_if, ↓q_gi, ↓q_gi', ↓q_gl, ↓q_gl', ↓q_ga, ↓q_ga', ↓q_s1, ↓q_s1n, ↓q_s1i, ↓q_s1r, ↓q_s1', ↓q_s2, ↓q_s2n, ↓q_s2i, ↓q_s2r, ↓q_s2', ↓q_ar0, ↓q_ar, q_w0, q_wi, q_wl, q_wr, q_wii, q_wil, q_wli, q_wll, q_wir, q_wri, q_wlr, q_wrl, q_wrr, q_wirr, q_wiir, q_wiii, q_ni, q_nl, q_fi, q_fl, q_z0, q_z1, q_fz0, q_fz1, ↓q_ts, ↓q_tn, q_e, q_ci, q_cr, ↓q_rfs, decide_true, Bool.and_true, Bool.and_self, Nat.zero_add, Nat.reduceAdd, Nat.reduceBEq, beq_self_eq_true, q_le, q_lel, q_ge, q_gel, q_gt, q_gtl, ite_not, Bool.not_eq_true', Bool.not_eq_false', ↓reduceIte, ↓fg_0_0, ↓fg_0_1, ↓fg_0_2, ↓fg_0_3, ↓fg_0_4, ↓fg_0_5, ↓fg_0_6, ↓fg_0_7, ↓fg_0_8, ↓fp_0_7, ↓fp_0_8, ↓oc_0, ↓fg_31_0, ↓fg_31_1, ↓fp_31_1, ↓oc_31, ↓ai_32, ↓wi_32, ↓fg_33_0, ↓fp_33_0, ↓fg_33_1, ↓fp_33_1, ↓fg_33_2, ↓fp_33_2, ↓fg_33_3, ↓fp_33_3, ↓oc_33, ↓ai_34, ↓wi_34, ↓ai_35, ↓wi_35, ↓fg_36_0, ↓fg_36_1, ↓fg_36_2, ↓fg_36_3, ↓fg_36_4, ↓fg_36_5, ↓fg_36_6, ↓fg_36_7, ↓fp_36_7, ↓fg_36_8, ↓fg_36_9, ↓fg_36_10, ↓fg_36_11, ↓fg_36_12, ↓fp_36_12, ↓fg_36_13, ↓fp_36_13, ↓fg_36_14, ↓fp_36_14, ↓fg_36_15, ↓fg_36_16, ↓fp_36_16, ↓fg_36_17, ↓fp_36_17, ↓fg_36_18, ↓fp_36_18, ↓fg_36_19, ↓fp_36_19, ↓fg_36_20, ↓fp_36_20, ↓fg_36_21, ↓fp_36_21, ↓fg_36_22, ↓fp_36_22, ↓fg_36_23, ↓fp_36_23, ↓fg_36_24, ↓fp_36_24, ↓fg_36_25, ↓fg_36_26, ↓fg_36_27, ↓fg_36_28, ↓fp_36_28, ↓fg_36_29, ↓fp_36_29, ↓oc_36, ↓ai_37, ↓wi_37, ↓ai_38, ↓wi_38, ↓ai_39, ↓wi_39, ↓ai_40, ↓wi_40, ↓ai_41, ↓wi_41, ↓ai_42, ↓wi_42, ↓ai_43, ↓wi_43, ↓ai_44, ↓wi_44, ↓ai_45, ↓wi_45, ↓ai_46, ↓wi_46, ↓ai_47, ↓wi_47, ↓ai_48, ↓wi_48, ↓ai_51, ↓wi_51, ↓al_49, ↓wl_49, ↓al_50, ↓wl_50, isW_1, isW_11, isW_21, isS_3, isS_5, isS_13, isS_15, isS_23, isS_25, ↓q_ga2, ↓q_rs2, ↓q_s1q, ↓c1, ↓c2, a5, lg_self, a1, g1, f1, a2, g2, f2]
theorem law_26 {X : pm_X} {I : st_I} {J : st_J} {i : Nat} (hR : R I) (hi : i + 5 ≤ X.1) (hL : X.1 ≤ 2560) : ∃ I2 J2, R I2 ∧ ∀ d, pm_ev X (d + 14) 228 (1142, lwL i, [], st_E I J) = pm_ev X (d + 14) 228 (18, lwL (i + 5), [], st_E I2 J2) := by
  have h : OK X 96 205 [.int (X.2 (i + 1)), .int (X.2 (i + 2))] I J := oo_96 hR
  obtain ⟨v, I1, J1, I2, J2, h1, h2, hR2, hv⟩ := h
  obtain ⟨v, rfl⟩ : ∃ w, v = .long w := by
    rcases hv with ⟨h, -⟩ | ⟨-, h⟩
    · have h : (some FieldType.long : Option FieldType) = some FieldType.int := h
      cases h
    · exact h
  have a1 : nI i + 1 = nI (i + 1) := nI_add i 1
  have g1 : pm_ok (nI (i + 1)) X.1 = true := decide_eq_true (nI_in (by omega) (by omega))
  have f1 : (nI (i + 1)).toNatClampNeg = i + 1 := nI_clamp (by omega)
  have a2 : nI i + 2 = nI (i + 2) := nI_add i 2
  have g2 : pm_ok (nI (i + 2)) X.1 = true := decide_eq_true (nI_in (by omega) (by omega))
  have f2 : (nI (i + 2)).toNatClampNeg = i + 2 := nI_clamp (by omega)
  have a5 : nI i + 5 = nI (i + 5) := nI_add i 5
  refine ⟨I2, J2, hR2, fun d => ?_⟩
  have c1 := fun F => h1 d F
  have c2 := fun F => h2 d F
  simp only [lwL, ↓ps_228_1142, ↓ps_228_1143, ↓ps_228_1144, ↓ps_228_1145, ↓ps_228_1146, ↓ps_228_1147, ↓ps_228_1148, ↓ps_228_1149, ↓ps_228_1150, ↓ps_228_1151, ↓ps_228_1152, ↓ps_228_1153, ↓ps_228_1156, ↓ps_228_1157, ↓ps_228_1158, ↓ps_228_1159, ↓ps_228_1160, ↓ps_228_1161, ↓ps_228_1162, ↓ps_228_1163, ↓ps_228_1164, ↓ps_228_1165, ↓ps_228_1166, ↓ps_228_1167, ↓ps_228_1170, ↓ps_228_1171, ↓ps_228_1174, ↓ps_228_1175, ↓ps_228_1654, ↓ps_228_1657, ↓q_i1, ↓q_i2, ↓q_l1, ↓q_l2, ↓q_r1, ↓q_v1, ↓q_rs, ↓q_if, ↓q_gi, ↓q_gi', ↓q_gl, ↓q_gl', ↓q_ga, ↓q_ga', ↓q_s1, ↓q_s1n, ↓q_s1i, ↓q_s1r, ↓q_s1', ↓q_s2, ↓q_s2n, ↓q_s2i, ↓q_s2r, ↓q_s2', ↓q_ar0, ↓q_ar, q_w0, q_wi, q_wl, q_wr, q_wii, q_wil, q_wli, q_wll, q_wir, q_wri, q_wlr, q_wrl, q_wrr, q_wirr, q_wiir, q_wiii, q_ni, q_nl, q_fi, q_fl, q_z0, q_z1, q_fz0, q_fz1, ↓q_ts, ↓q_tn, q_e, q_ci, q_cr, ↓q_rfs, decide_true, Bool.and_true, Bool.and_self, Nat.zero_add, Nat.reduceAdd, Nat.reduceBEq, beq_self_eq_true, q_le, q_lel, q_ge, q_gel, q_gt, q_gtl, ite_not, Bool.not_eq_true', Bool.not_eq_false', ↓reduceIte, ↓fg_0_0, ↓fg_0_1, ↓fg_0_2, ↓fg_0_3, ↓fg_0_4, ↓fg_0_5, ↓fg_0_6, ↓fg_0_7, ↓fg_0_8, ↓fp_0_7, ↓fp_0_8, ↓oc_0, ↓fg_31_0, ↓fg_31_1, ↓fp_31_1, ↓oc_31, ↓ai_32, ↓wi_32, ↓fg_33_0, ↓fp_33_0, ↓fg_33_1, ↓fp_33_1, ↓fg_33_2, ↓fp_33_2, ↓fg_33_3, ↓fp_33_3, ↓oc_33, ↓ai_34, ↓wi_34, ↓ai_35, ↓wi_35, ↓fg_36_0, ↓fg_36_1, ↓fg_36_2, ↓fg_36_3, ↓fg_36_4, ↓fg_36_5, ↓fg_36_6, ↓fg_36_7, ↓fp_36_7, ↓fg_36_8, ↓fg_36_9, ↓fg_36_10, ↓fg_36_11, ↓fg_36_12, ↓fp_36_12, ↓fg_36_13, ↓fp_36_13, ↓fg_36_14, ↓fp_36_14, ↓fg_36_15, ↓fg_36_16, ↓fp_36_16, ↓fg_36_17, ↓fp_36_17, ↓fg_36_18, ↓fp_36_18, ↓fg_36_19, ↓fp_36_19, ↓fg_36_20, ↓fp_36_20, ↓fg_36_21, ↓fp_36_21, ↓fg_36_22, ↓fp_36_22, ↓fg_36_23, ↓fp_36_23, ↓fg_36_24, ↓fp_36_24, ↓fg_36_25, ↓fg_36_26, ↓fg_36_27, ↓fg_36_28, ↓fp_36_28, ↓fg_36_29, ↓fp_36_29, ↓oc_36, ↓ai_37, ↓wi_37, ↓ai_38, ↓wi_38, ↓ai_39, ↓wi_39, ↓ai_40, ↓wi_40, ↓ai_41, ↓wi_41, ↓ai_42, ↓wi_42, ↓ai_43, ↓wi_43, ↓ai_44, ↓wi_44, ↓ai_45, ↓wi_45, ↓ai_46, ↓wi_46, ↓ai_47, ↓wi_47, ↓ai_48, ↓wi_48, ↓ai_51, ↓wi_51, ↓al_49, ↓wl_49, ↓al_50, ↓wl_50, isW_1, isW_11, isW_21, isS_3, isS_5, isS_13, isS_15, isS_23, isS_25, ↓q_ga2, ↓q_rs2, ↓q_s1q, ↓c1, ↓c2, a5, lg_self, a1, g1, f1, a2, g2, f2]
theorem law_27 {X : pm_X} {I : st_I} {J : st_J} {i : Nat} (hR : R I) (hi : i + 5 ≤ X.1) (hL : X.1 ≤ 2560) : ∃ I2 J2, R I2 ∧ ∀ d, pm_ev X (d + 14) 228 (1176, lwL i, [], st_E I J) = pm_ev X (d + 14) 228 (18, lwL (i + 5), [], st_E I2 J2) := by
  have h : OK X 97 206 [.int (X.2 (i + 1)), .int (X.2 (i + 2)), .int (X.2 (i + 3)), .int (X.2 (i + 4))] I J := oo_97 hR
  obtain ⟨v, I1, J1, I2, J2, h1, h2, hR2, hv⟩ := h
  obtain ⟨v, rfl⟩ : ∃ w, v = .long w := by
    rcases hv with ⟨h, -⟩ | ⟨-, h⟩
    · have h : (some FieldType.long : Option FieldType) = some FieldType.int := h
      cases h
    · exact h
  have a1 : nI i + 1 = nI (i + 1) := nI_add i 1
  have g1 : pm_ok (nI (i + 1)) X.1 = true := decide_eq_true (nI_in (by omega) (by omega))
  have f1 : (nI (i + 1)).toNatClampNeg = i + 1 := nI_clamp (by omega)
  have a2 : nI i + 2 = nI (i + 2) := nI_add i 2
  have g2 : pm_ok (nI (i + 2)) X.1 = true := decide_eq_true (nI_in (by omega) (by omega))
  have f2 : (nI (i + 2)).toNatClampNeg = i + 2 := nI_clamp (by omega)
  have a3 : nI i + 3 = nI (i + 3) := nI_add i 3
  have g3 : pm_ok (nI (i + 3)) X.1 = true := decide_eq_true (nI_in (by omega) (by omega))
  have f3 : (nI (i + 3)).toNatClampNeg = i + 3 := nI_clamp (by omega)
  have a4 : nI i + 4 = nI (i + 4) := nI_add i 4
  have g4 : pm_ok (nI (i + 4)) X.1 = true := decide_eq_true (nI_in (by omega) (by omega))
  have f4 : (nI (i + 4)).toNatClampNeg = i + 4 := nI_clamp (by omega)
  have a5 : nI i + 5 = nI (i + 5) := nI_add i 5
  refine ⟨I2, J2, hR2, fun d => ?_⟩
  have c1 := fun F => h1 d F
  have c2 := fun F => h2 d F
  simp only [lwL, ↓ps_228_1176, ↓ps_228_1177, ↓ps_228_1178, ↓ps_228_1179, ↓ps_228_1180, ↓ps_228_1181, ↓ps_228_1182, ↓ps_228_1183, ↓ps_228_1184, ↓ps_228_1185, ↓ps_228_1186, ↓ps_228_1187, ↓ps_228_1188, ↓ps_228_1189, ↓ps_228_1190, ↓ps_228_1191, ↓ps_228_1192, ↓ps_228_1193, ↓ps_228_1194, ↓ps_228_1195, ↓ps_228_1196, ↓ps_228_1197, ↓ps_228_1200, ↓ps_228_1201, ↓ps_228_1202, ↓ps_228_1203, ↓ps_228_1204, ↓ps_228_1205, ↓ps_228_1206, ↓ps_228_1207, ↓ps_228_1208, ↓ps_228_1209, ↓ps_228_1210, ↓ps_228_1211, ↓ps_228_1212, ↓ps_228_1213, ↓ps_228_1214, ↓ps_228_1215, ↓ps_228_1216, ↓ps_228_1217, ↓ps_228_1218, ↓ps_228_1219, ↓ps_228_1220, ↓ps_228_1221, ↓ps_228_1224, ↓ps_228_1225, ↓ps_228_1228, ↓ps_228_1229, ↓ps_228_1654, ↓ps_228_1657, ↓q_i1, ↓q_i2, ↓q_l1, ↓q_l2, ↓q_r1, ↓q_v1, ↓q_rs, ↓q_if, ↓q_gi, ↓q_gi', ↓q_gl, ↓q_gl', ↓q_ga, ↓q_ga', ↓q_s1, ↓q_s1n, ↓q_s1i, ↓q_s1r, ↓q_s1', ↓q_s2, ↓q_s2n, ↓q_s2i, ↓q_s2r, ↓q_s2', ↓q_ar0, ↓q_ar, q_w0, q_wi, q_wl, q_wr, q_wii, q_wil, q_wli, q_wll, q_wir, q_wri, q_wlr, q_wrl, q_wrr, q_wirr, q_wiir, q_wiii, q_ni, q_nl, q_fi, q_fl, q_z0, q_z1, q_fz0, q_fz1, ↓q_ts, ↓q_tn, q_e, q_ci, q_cr, ↓q_rfs, decide_true, Bool.and_true, Bool.and_self, Nat.zero_add, Nat.reduceAdd, Nat.reduceBEq, beq_self_eq_true, q_le, q_lel, q_ge, q_gel, q_gt, q_gtl, ite_not, Bool.not_eq_true', Bool.not_eq_false', ↓reduceIte, ↓fg_0_0, ↓fg_0_1, ↓fg_0_2, ↓fg_0_3, ↓fg_0_4, ↓fg_0_5, ↓fg_0_6, ↓fg_0_7, ↓fg_0_8, ↓fp_0_7, ↓fp_0_8, ↓oc_0, ↓fg_31_0, ↓fg_31_1, ↓fp_31_1, ↓oc_31, ↓ai_32, ↓wi_32, ↓fg_33_0, ↓fp_33_0, ↓fg_33_1, ↓fp_33_1, ↓fg_33_2, ↓fp_33_2, ↓fg_33_3, ↓fp_33_3, ↓oc_33, ↓ai_34, ↓wi_34, ↓ai_35, ↓wi_35, ↓fg_36_0, ↓fg_36_1, ↓fg_36_2, ↓fg_36_3, ↓fg_36_4, ↓fg_36_5, ↓fg_36_6, ↓fg_36_7, ↓fp_36_7, ↓fg_36_8, ↓fg_36_9, ↓fg_36_10, ↓fg_36_11, ↓fg_36_12, ↓fp_36_12, ↓fg_36_13, ↓fp_36_13, ↓fg_36_14, ↓fp_36_14, ↓fg_36_15, ↓fg_36_16, ↓fp_36_16, ↓fg_36_17, ↓fp_36_17, ↓fg_36_18, ↓fp_36_18, ↓fg_36_19, ↓fp_36_19, ↓fg_36_20, ↓fp_36_20, ↓fg_36_21, ↓fp_36_21, ↓fg_36_22, ↓fp_36_22, ↓fg_36_23, ↓fp_36_23, ↓fg_36_24, ↓fp_36_24, ↓fg_36_25, ↓fg_36_26, ↓fg_36_27, ↓fg_36_28, ↓fp_36_28, ↓fg_36_29, ↓fp_36_29, ↓oc_36, ↓ai_37, ↓wi_37, ↓ai_38, ↓wi_38, ↓ai_39, ↓wi_39, ↓ai_40, ↓wi_40, ↓ai_41, ↓wi_41, ↓ai_42, ↓wi_42, ↓ai_43, ↓wi_43, ↓ai_44, ↓wi_44, ↓ai_45, ↓wi_45, ↓ai_46, ↓wi_46, ↓ai_47, ↓wi_47, ↓ai_48, ↓wi_48, ↓ai_51, ↓wi_51, ↓al_49, ↓wl_49, ↓al_50, ↓wl_50, isW_1, isW_11, isW_21, isS_3, isS_5, isS_13, isS_15, isS_23, isS_25, ↓q_ga2, ↓q_rs2, ↓q_s1q, ↓c1, ↓c2, a5, lg_self, a1, g1, f1, a2, g2, f2, a3, g3, f3, a4, g4, f4]
theorem law_28 {X : pm_X} {I : st_I} {J : st_J} {i : Nat} (hR : R I) (hi : i + 5 ≤ X.1) (hL : X.1 ≤ 2560) : ∃ I2 J2, R I2 ∧ ∀ d, pm_ev X (d + 14) 228 (1230, lwL i, [], st_E I J) = pm_ev X (d + 14) 228 (18, lwL (i + 5), [], st_E I2 J2) := by
  have h : OK X 100 209 [.int (X.2 (i + 1)), .int (X.2 (i + 2))] I J := oo_100 hR
  obtain ⟨v, I1, J1, I2, J2, h1, h2, hR2, hv⟩ := h
  obtain ⟨v, rfl⟩ : ∃ w, v = .int w := by
    rcases hv with ⟨-, h⟩ | ⟨h, -⟩
    · exact h
    · have h : (some FieldType.int : Option FieldType) = some FieldType.long := h
      cases h
  have a1 : nI i + 1 = nI (i + 1) := nI_add i 1
  have g1 : pm_ok (nI (i + 1)) X.1 = true := decide_eq_true (nI_in (by omega) (by omega))
  have f1 : (nI (i + 1)).toNatClampNeg = i + 1 := nI_clamp (by omega)
  have a2 : nI i + 2 = nI (i + 2) := nI_add i 2
  have g2 : pm_ok (nI (i + 2)) X.1 = true := decide_eq_true (nI_in (by omega) (by omega))
  have f2 : (nI (i + 2)).toNatClampNeg = i + 2 := nI_clamp (by omega)
  have a5 : nI i + 5 = nI (i + 5) := nI_add i 5
  refine ⟨I2, J2, hR2, fun d => ?_⟩
  have c1 := fun F => h1 d F
  have c2 := fun F => h2 d F
  simp only [lwL, ↓ps_228_1230, ↓ps_228_1231, ↓ps_228_1232, ↓ps_228_1233, ↓ps_228_1234, ↓ps_228_1235, ↓ps_228_1236, ↓ps_228_1237, ↓ps_228_1238, ↓ps_228_1239, ↓ps_228_1240, ↓ps_228_1241, ↓ps_228_1244, ↓ps_228_1245, ↓ps_228_1246, ↓ps_228_1247, ↓ps_228_1248, ↓ps_228_1249, ↓ps_228_1250, ↓ps_228_1251, ↓ps_228_1252, ↓ps_228_1253, ↓ps_228_1254, ↓ps_228_1255, ↓ps_228_1258, ↓ps_228_1261, ↓ps_228_1262, ↓ps_228_1654, ↓ps_228_1657, ↓q_i1, ↓q_i2, ↓q_l1, ↓q_l2, ↓q_r1, ↓q_v1, ↓q_rs, ↓q_if, ↓q_gi, ↓q_gi', ↓q_gl, ↓q_gl', ↓q_ga, ↓q_ga', ↓q_s1, ↓q_s1n, ↓q_s1i, ↓q_s1r, ↓q_s1', ↓q_s2, ↓q_s2n, ↓q_s2i, ↓q_s2r, ↓q_s2', ↓q_ar0, ↓q_ar, q_w0, q_wi, q_wl, q_wr, q_wii, q_wil, q_wli, q_wll, q_wir, q_wri, q_wlr, q_wrl, q_wrr, q_wirr, q_wiir, q_wiii, q_ni, q_nl, q_fi, q_fl, q_z0, q_z1, q_fz0, q_fz1, ↓q_ts, ↓q_tn, q_e, q_ci, q_cr, ↓q_rfs, decide_true, Bool.and_true, Bool.and_self, Nat.zero_add, Nat.reduceAdd, Nat.reduceBEq, beq_self_eq_true, q_le, q_lel, q_ge, q_gel, q_gt, q_gtl, ite_not, Bool.not_eq_true', Bool.not_eq_false', ↓reduceIte, ↓fg_0_0, ↓fg_0_1, ↓fg_0_2, ↓fg_0_3, ↓fg_0_4, ↓fg_0_5, ↓fg_0_6, ↓fg_0_7, ↓fg_0_8, ↓fp_0_7, ↓fp_0_8, ↓oc_0, ↓fg_31_0, ↓fg_31_1, ↓fp_31_1, ↓oc_31, ↓ai_32, ↓wi_32, ↓fg_33_0, ↓fp_33_0, ↓fg_33_1, ↓fp_33_1, ↓fg_33_2, ↓fp_33_2, ↓fg_33_3, ↓fp_33_3, ↓oc_33, ↓ai_34, ↓wi_34, ↓ai_35, ↓wi_35, ↓fg_36_0, ↓fg_36_1, ↓fg_36_2, ↓fg_36_3, ↓fg_36_4, ↓fg_36_5, ↓fg_36_6, ↓fg_36_7, ↓fp_36_7, ↓fg_36_8, ↓fg_36_9, ↓fg_36_10, ↓fg_36_11, ↓fg_36_12, ↓fp_36_12, ↓fg_36_13, ↓fp_36_13, ↓fg_36_14, ↓fp_36_14, ↓fg_36_15, ↓fg_36_16, ↓fp_36_16, ↓fg_36_17, ↓fp_36_17, ↓fg_36_18, ↓fp_36_18, ↓fg_36_19, ↓fp_36_19, ↓fg_36_20, ↓fp_36_20, ↓fg_36_21, ↓fp_36_21, ↓fg_36_22, ↓fp_36_22, ↓fg_36_23, ↓fp_36_23, ↓fg_36_24, ↓fp_36_24, ↓fg_36_25, ↓fg_36_26, ↓fg_36_27, ↓fg_36_28, ↓fp_36_28, ↓fg_36_29, ↓fp_36_29, ↓oc_36, ↓ai_37, ↓wi_37, ↓ai_38, ↓wi_38, ↓ai_39, ↓wi_39, ↓ai_40, ↓wi_40, ↓ai_41, ↓wi_41, ↓ai_42, ↓wi_42, ↓ai_43, ↓wi_43, ↓ai_44, ↓wi_44, ↓ai_45, ↓wi_45, ↓ai_46, ↓wi_46, ↓ai_47, ↓wi_47, ↓ai_48, ↓wi_48, ↓ai_51, ↓wi_51, ↓al_49, ↓wl_49, ↓al_50, ↓wl_50, isW_1, isW_11, isW_21, isS_3, isS_5, isS_13, isS_15, isS_23, isS_25, ↓q_ga2, ↓q_rs2, ↓q_s1q, ↓c1, ↓c2, a5, lg_self, a1, g1, f1, a2, g2, f2]
theorem law_29 {X : pm_X} {I : st_I} {J : st_J} {i : Nat} (hR : R I) (hi : i + 5 ≤ X.1) (hL : X.1 ≤ 2560) : ∃ I2 J2, R I2 ∧ ∀ d, pm_ev X (d + 14) 228 (1263, lwL i, [], st_E I J) = pm_ev X (d + 14) 228 (18, lwL (i + 5), [], st_E I2 J2) := by
  have h : OK X 101 210 [.int (X.2 (i + 1)), .int (X.2 (i + 2))] I J := oo_101 hR
  obtain ⟨v, I1, J1, I2, J2, h1, h2, hR2, hv⟩ := h
  obtain ⟨v, rfl⟩ : ∃ w, v = .long w := by
    rcases hv with ⟨h, -⟩ | ⟨-, h⟩
    · have h : (some FieldType.long : Option FieldType) = some FieldType.int := h
      cases h
    · exact h
  have a1 : nI i + 1 = nI (i + 1) := nI_add i 1
  have g1 : pm_ok (nI (i + 1)) X.1 = true := decide_eq_true (nI_in (by omega) (by omega))
  have f1 : (nI (i + 1)).toNatClampNeg = i + 1 := nI_clamp (by omega)
  have a2 : nI i + 2 = nI (i + 2) := nI_add i 2
  have g2 : pm_ok (nI (i + 2)) X.1 = true := decide_eq_true (nI_in (by omega) (by omega))
  have f2 : (nI (i + 2)).toNatClampNeg = i + 2 := nI_clamp (by omega)
  have a5 : nI i + 5 = nI (i + 5) := nI_add i 5
  refine ⟨I2, J2, hR2, fun d => ?_⟩
  have c1 := fun F => h1 d F
  have c2 := fun F => h2 d F
  simp only [lwL, ↓ps_228_1263, ↓ps_228_1264, ↓ps_228_1265, ↓ps_228_1266, ↓ps_228_1267, ↓ps_228_1268, ↓ps_228_1269, ↓ps_228_1270, ↓ps_228_1271, ↓ps_228_1272, ↓ps_228_1273, ↓ps_228_1274, ↓ps_228_1277, ↓ps_228_1278, ↓ps_228_1279, ↓ps_228_1280, ↓ps_228_1281, ↓ps_228_1282, ↓ps_228_1283, ↓ps_228_1284, ↓ps_228_1285, ↓ps_228_1286, ↓ps_228_1287, ↓ps_228_1288, ↓ps_228_1291, ↓ps_228_1292, ↓ps_228_1295, ↓ps_228_1296, ↓ps_228_1654, ↓ps_228_1657, ↓q_i1, ↓q_i2, ↓q_l1, ↓q_l2, ↓q_r1, ↓q_v1, ↓q_rs, ↓q_if, ↓q_gi, ↓q_gi', ↓q_gl, ↓q_gl', ↓q_ga, ↓q_ga', ↓q_s1, ↓q_s1n, ↓q_s1i, ↓q_s1r, ↓q_s1', ↓q_s2, ↓q_s2n, ↓q_s2i, ↓q_s2r, ↓q_s2', ↓q_ar0, ↓q_ar, q_w0, q_wi, q_wl, q_wr, q_wii, q_wil, q_wli, q_wll, q_wir, q_wri, q_wlr, q_wrl, q_wrr, q_wirr, q_wiir, q_wiii, q_ni, q_nl, q_fi, q_fl, q_z0, q_z1, q_fz0, q_fz1, ↓q_ts, ↓q_tn, q_e, q_ci, q_cr, ↓q_rfs, decide_true, Bool.and_true, Bool.and_self, Nat.zero_add, Nat.reduceAdd, Nat.reduceBEq, beq_self_eq_true, q_le, q_lel, q_ge, q_gel, q_gt, q_gtl, ite_not, Bool.not_eq_true', Bool.not_eq_false', ↓reduceIte, ↓fg_0_0, ↓fg_0_1, ↓fg_0_2, ↓fg_0_3, ↓fg_0_4, ↓fg_0_5, ↓fg_0_6, ↓fg_0_7, ↓fg_0_8, ↓fp_0_7, ↓fp_0_8, ↓oc_0, ↓fg_31_0, ↓fg_31_1, ↓fp_31_1, ↓oc_31, ↓ai_32, ↓wi_32, ↓fg_33_0, ↓fp_33_0, ↓fg_33_1, ↓fp_33_1, ↓fg_33_2, ↓fp_33_2, ↓fg_33_3, ↓fp_33_3, ↓oc_33, ↓ai_34, ↓wi_34, ↓ai_35, ↓wi_35, ↓fg_36_0, ↓fg_36_1, ↓fg_36_2, ↓fg_36_3, ↓fg_36_4, ↓fg_36_5, ↓fg_36_6, ↓fg_36_7, ↓fp_36_7, ↓fg_36_8, ↓fg_36_9, ↓fg_36_10, ↓fg_36_11, ↓fg_36_12, ↓fp_36_12, ↓fg_36_13, ↓fp_36_13, ↓fg_36_14, ↓fp_36_14, ↓fg_36_15, ↓fg_36_16, ↓fp_36_16, ↓fg_36_17, ↓fp_36_17, ↓fg_36_18, ↓fp_36_18, ↓fg_36_19, ↓fp_36_19, ↓fg_36_20, ↓fp_36_20, ↓fg_36_21, ↓fp_36_21, ↓fg_36_22, ↓fp_36_22, ↓fg_36_23, ↓fp_36_23, ↓fg_36_24, ↓fp_36_24, ↓fg_36_25, ↓fg_36_26, ↓fg_36_27, ↓fg_36_28, ↓fp_36_28, ↓fg_36_29, ↓fp_36_29, ↓oc_36, ↓ai_37, ↓wi_37, ↓ai_38, ↓wi_38, ↓ai_39, ↓wi_39, ↓ai_40, ↓wi_40, ↓ai_41, ↓wi_41, ↓ai_42, ↓wi_42, ↓ai_43, ↓wi_43, ↓ai_44, ↓wi_44, ↓ai_45, ↓wi_45, ↓ai_46, ↓wi_46, ↓ai_47, ↓wi_47, ↓ai_48, ↓wi_48, ↓ai_51, ↓wi_51, ↓al_49, ↓wl_49, ↓al_50, ↓wl_50, isW_1, isW_11, isW_21, isS_3, isS_5, isS_13, isS_15, isS_23, isS_25, ↓q_ga2, ↓q_rs2, ↓q_s1q, ↓c1, ↓c2, a5, lg_self, a1, g1, f1, a2, g2, f2]
theorem law_30 {X : pm_X} {I : st_I} {J : st_J} {i : Nat} (hR : R I) (hi : i + 5 ≤ X.1) (hL : X.1 ≤ 2560) : ∃ I2 J2, R I2 ∧ ∀ d, pm_ev X (d + 14) 228 (1297, lwL i, [], st_E I J) = pm_ev X (d + 14) 228 (18, lwL (i + 5), [], st_E I2 J2) := by
  have h : OK X 104 212 [.int (X.2 (i + 1)), .int (X.2 (i + 2)), .int (X.2 (i + 3)), .int (X.2 (i + 4))] I J := oo_104 hR
  obtain ⟨v, I1, J1, I2, J2, h1, h2, hR2, hv⟩ := h
  obtain ⟨v, rfl⟩ : ∃ w, v = .long w := by
    rcases hv with ⟨h, -⟩ | ⟨-, h⟩
    · have h : (some FieldType.long : Option FieldType) = some FieldType.int := h
      cases h
    · exact h
  have a1 : nI i + 1 = nI (i + 1) := nI_add i 1
  have g1 : pm_ok (nI (i + 1)) X.1 = true := decide_eq_true (nI_in (by omega) (by omega))
  have f1 : (nI (i + 1)).toNatClampNeg = i + 1 := nI_clamp (by omega)
  have a2 : nI i + 2 = nI (i + 2) := nI_add i 2
  have g2 : pm_ok (nI (i + 2)) X.1 = true := decide_eq_true (nI_in (by omega) (by omega))
  have f2 : (nI (i + 2)).toNatClampNeg = i + 2 := nI_clamp (by omega)
  have a3 : nI i + 3 = nI (i + 3) := nI_add i 3
  have g3 : pm_ok (nI (i + 3)) X.1 = true := decide_eq_true (nI_in (by omega) (by omega))
  have f3 : (nI (i + 3)).toNatClampNeg = i + 3 := nI_clamp (by omega)
  have a4 : nI i + 4 = nI (i + 4) := nI_add i 4
  have g4 : pm_ok (nI (i + 4)) X.1 = true := decide_eq_true (nI_in (by omega) (by omega))
  have f4 : (nI (i + 4)).toNatClampNeg = i + 4 := nI_clamp (by omega)
  have a5 : nI i + 5 = nI (i + 5) := nI_add i 5
  refine ⟨I2, J2, hR2, fun d => ?_⟩
  have c1 := fun F => h1 d F
  have c2 := fun F => h2 d F
  simp only [lwL, ↓ps_228_1297, ↓ps_228_1298, ↓ps_228_1299, ↓ps_228_1300, ↓ps_228_1301, ↓ps_228_1302, ↓ps_228_1303, ↓ps_228_1304, ↓ps_228_1305, ↓ps_228_1306, ↓ps_228_1307, ↓ps_228_1308, ↓ps_228_1309, ↓ps_228_1310, ↓ps_228_1311, ↓ps_228_1312, ↓ps_228_1313, ↓ps_228_1314, ↓ps_228_1315, ↓ps_228_1316, ↓ps_228_1317, ↓ps_228_1318, ↓ps_228_1321, ↓ps_228_1322, ↓ps_228_1323, ↓ps_228_1324, ↓ps_228_1325, ↓ps_228_1326, ↓ps_228_1327, ↓ps_228_1328, ↓ps_228_1329, ↓ps_228_1330, ↓ps_228_1331, ↓ps_228_1332, ↓ps_228_1333, ↓ps_228_1334, ↓ps_228_1335, ↓ps_228_1336, ↓ps_228_1337, ↓ps_228_1338, ↓ps_228_1339, ↓ps_228_1340, ↓ps_228_1341, ↓ps_228_1342, ↓ps_228_1345, ↓ps_228_1346, ↓ps_228_1349, ↓ps_228_1350, ↓ps_228_1654, ↓ps_228_1657, ↓q_i1, ↓q_i2, ↓q_l1, ↓q_l2, ↓q_r1, ↓q_v1, ↓q_rs, ↓q_if, ↓q_gi, ↓q_gi', ↓q_gl, ↓q_gl', ↓q_ga, ↓q_ga', ↓q_s1, ↓q_s1n, ↓q_s1i, ↓q_s1r, ↓q_s1', ↓q_s2, ↓q_s2n, ↓q_s2i, ↓q_s2r, ↓q_s2', ↓q_ar0, ↓q_ar, q_w0, q_wi, q_wl, q_wr, q_wii, q_wil, q_wli, q_wll, q_wir, q_wri, q_wlr, q_wrl, q_wrr, q_wirr, q_wiir, q_wiii, q_ni, q_nl, q_fi, q_fl, q_z0, q_z1, q_fz0, q_fz1, ↓q_ts, ↓q_tn, q_e, q_ci, q_cr, ↓q_rfs, decide_true, Bool.and_true, Bool.and_self, Nat.zero_add, Nat.reduceAdd, Nat.reduceBEq, beq_self_eq_true, q_le, q_lel, q_ge, q_gel, q_gt, q_gtl, ite_not, Bool.not_eq_true', Bool.not_eq_false', ↓reduceIte, ↓fg_0_0, ↓fg_0_1, ↓fg_0_2, ↓fg_0_3, ↓fg_0_4, ↓fg_0_5, ↓fg_0_6, ↓fg_0_7, ↓fg_0_8, ↓fp_0_7, ↓fp_0_8, ↓oc_0, ↓fg_31_0, ↓fg_31_1, ↓fp_31_1, ↓oc_31, ↓ai_32, ↓wi_32, ↓fg_33_0, ↓fp_33_0, ↓fg_33_1, ↓fp_33_1, ↓fg_33_2, ↓fp_33_2, ↓fg_33_3, ↓fp_33_3, ↓oc_33, ↓ai_34, ↓wi_34, ↓ai_35, ↓wi_35, ↓fg_36_0, ↓fg_36_1, ↓fg_36_2, ↓fg_36_3, ↓fg_36_4, ↓fg_36_5, ↓fg_36_6, ↓fg_36_7, ↓fp_36_7, ↓fg_36_8, ↓fg_36_9, ↓fg_36_10, ↓fg_36_11, ↓fg_36_12, ↓fp_36_12, ↓fg_36_13, ↓fp_36_13, ↓fg_36_14, ↓fp_36_14, ↓fg_36_15, ↓fg_36_16, ↓fp_36_16, ↓fg_36_17, ↓fp_36_17, ↓fg_36_18, ↓fp_36_18, ↓fg_36_19, ↓fp_36_19, ↓fg_36_20, ↓fp_36_20, ↓fg_36_21, ↓fp_36_21, ↓fg_36_22, ↓fp_36_22, ↓fg_36_23, ↓fp_36_23, ↓fg_36_24, ↓fp_36_24, ↓fg_36_25, ↓fg_36_26, ↓fg_36_27, ↓fg_36_28, ↓fp_36_28, ↓fg_36_29, ↓fp_36_29, ↓oc_36, ↓ai_37, ↓wi_37, ↓ai_38, ↓wi_38, ↓ai_39, ↓wi_39, ↓ai_40, ↓wi_40, ↓ai_41, ↓wi_41, ↓ai_42, ↓wi_42, ↓ai_43, ↓wi_43, ↓ai_44, ↓wi_44, ↓ai_45, ↓wi_45, ↓ai_46, ↓wi_46, ↓ai_47, ↓wi_47, ↓ai_48, ↓wi_48, ↓ai_51, ↓wi_51, ↓al_49, ↓wl_49, ↓al_50, ↓wl_50, isW_1, isW_11, isW_21, isS_3, isS_5, isS_13, isS_15, isS_23, isS_25, ↓q_ga2, ↓q_rs2, ↓q_s1q, ↓c1, ↓c2, a5, lg_self, a1, g1, f1, a2, g2, f2, a3, g3, f3, a4, g4, f4]
theorem law_31 {X : pm_X} {I : st_I} {J : st_J} {i : Nat} (hR : R I) (hi : i + 5 ≤ X.1) (hL : X.1 ≤ 2560) : ∃ I2 J2, R I2 ∧ ∀ d, pm_ev X (d + 14) 228 (1351, lwL i, [], st_E I J) = pm_ev X (d + 14) 228 (18, lwL (i + 5), [], st_E I2 J2) := by
  have h : OK X 105 213 [.int (X.2 (i + 1)), .int (X.2 (i + 2))] I J := oo_105 hR
  obtain ⟨v, I1, J1, I2, J2, h1, h2, hR2, hv⟩ := h
  obtain ⟨v, rfl⟩ : ∃ w, v = .int w := by
    rcases hv with ⟨-, h⟩ | ⟨h, -⟩
    · exact h
    · have h : (some FieldType.int : Option FieldType) = some FieldType.long := h
      cases h
  have a1 : nI i + 1 = nI (i + 1) := nI_add i 1
  have g1 : pm_ok (nI (i + 1)) X.1 = true := decide_eq_true (nI_in (by omega) (by omega))
  have f1 : (nI (i + 1)).toNatClampNeg = i + 1 := nI_clamp (by omega)
  have a2 : nI i + 2 = nI (i + 2) := nI_add i 2
  have g2 : pm_ok (nI (i + 2)) X.1 = true := decide_eq_true (nI_in (by omega) (by omega))
  have f2 : (nI (i + 2)).toNatClampNeg = i + 2 := nI_clamp (by omega)
  have a5 : nI i + 5 = nI (i + 5) := nI_add i 5
  refine ⟨I2, J2, hR2, fun d => ?_⟩
  have c1 := fun F => h1 d F
  have c2 := fun F => h2 d F
  simp only [lwL, ↓ps_228_1351, ↓ps_228_1352, ↓ps_228_1353, ↓ps_228_1354, ↓ps_228_1355, ↓ps_228_1356, ↓ps_228_1357, ↓ps_228_1358, ↓ps_228_1359, ↓ps_228_1360, ↓ps_228_1361, ↓ps_228_1362, ↓ps_228_1365, ↓ps_228_1366, ↓ps_228_1367, ↓ps_228_1368, ↓ps_228_1369, ↓ps_228_1370, ↓ps_228_1371, ↓ps_228_1372, ↓ps_228_1373, ↓ps_228_1374, ↓ps_228_1375, ↓ps_228_1376, ↓ps_228_1379, ↓ps_228_1382, ↓ps_228_1383, ↓ps_228_1654, ↓ps_228_1657, ↓q_i1, ↓q_i2, ↓q_l1, ↓q_l2, ↓q_r1, ↓q_v1, ↓q_rs, ↓q_if, ↓q_gi, ↓q_gi', ↓q_gl, ↓q_gl', ↓q_ga, ↓q_ga', ↓q_s1, ↓q_s1n, ↓q_s1i, ↓q_s1r, ↓q_s1', ↓q_s2, ↓q_s2n, ↓q_s2i, ↓q_s2r, ↓q_s2', ↓q_ar0, ↓q_ar, q_w0, q_wi, q_wl, q_wr, q_wii, q_wil, q_wli, q_wll, q_wir, q_wri, q_wlr, q_wrl, q_wrr, q_wirr, q_wiir, q_wiii, q_ni, q_nl, q_fi, q_fl, q_z0, q_z1, q_fz0, q_fz1, ↓q_ts, ↓q_tn, q_e, q_ci, q_cr, ↓q_rfs, decide_true, Bool.and_true, Bool.and_self, Nat.zero_add, Nat.reduceAdd, Nat.reduceBEq, beq_self_eq_true, q_le, q_lel, q_ge, q_gel, q_gt, q_gtl, ite_not, Bool.not_eq_true', Bool.not_eq_false', ↓reduceIte, ↓fg_0_0, ↓fg_0_1, ↓fg_0_2, ↓fg_0_3, ↓fg_0_4, ↓fg_0_5, ↓fg_0_6, ↓fg_0_7, ↓fg_0_8, ↓fp_0_7, ↓fp_0_8, ↓oc_0, ↓fg_31_0, ↓fg_31_1, ↓fp_31_1, ↓oc_31, ↓ai_32, ↓wi_32, ↓fg_33_0, ↓fp_33_0, ↓fg_33_1, ↓fp_33_1, ↓fg_33_2, ↓fp_33_2, ↓fg_33_3, ↓fp_33_3, ↓oc_33, ↓ai_34, ↓wi_34, ↓ai_35, ↓wi_35, ↓fg_36_0, ↓fg_36_1, ↓fg_36_2, ↓fg_36_3, ↓fg_36_4, ↓fg_36_5, ↓fg_36_6, ↓fg_36_7, ↓fp_36_7, ↓fg_36_8, ↓fg_36_9, ↓fg_36_10, ↓fg_36_11, ↓fg_36_12, ↓fp_36_12, ↓fg_36_13, ↓fp_36_13, ↓fg_36_14, ↓fp_36_14, ↓fg_36_15, ↓fg_36_16, ↓fp_36_16, ↓fg_36_17, ↓fp_36_17, ↓fg_36_18, ↓fp_36_18, ↓fg_36_19, ↓fp_36_19, ↓fg_36_20, ↓fp_36_20, ↓fg_36_21, ↓fp_36_21, ↓fg_36_22, ↓fp_36_22, ↓fg_36_23, ↓fp_36_23, ↓fg_36_24, ↓fp_36_24, ↓fg_36_25, ↓fg_36_26, ↓fg_36_27, ↓fg_36_28, ↓fp_36_28, ↓fg_36_29, ↓fp_36_29, ↓oc_36, ↓ai_37, ↓wi_37, ↓ai_38, ↓wi_38, ↓ai_39, ↓wi_39, ↓ai_40, ↓wi_40, ↓ai_41, ↓wi_41, ↓ai_42, ↓wi_42, ↓ai_43, ↓wi_43, ↓ai_44, ↓wi_44, ↓ai_45, ↓wi_45, ↓ai_46, ↓wi_46, ↓ai_47, ↓wi_47, ↓ai_48, ↓wi_48, ↓ai_51, ↓wi_51, ↓al_49, ↓wl_49, ↓al_50, ↓wl_50, isW_1, isW_11, isW_21, isS_3, isS_5, isS_13, isS_15, isS_23, isS_25, ↓q_ga2, ↓q_rs2, ↓q_s1q, ↓c1, ↓c2, a5, lg_self, a1, g1, f1, a2, g2, f2]
theorem law_32 {X : pm_X} {I : st_I} {J : st_J} {i : Nat} (hR : R I) (hi : i + 5 ≤ X.1) (hL : X.1 ≤ 2560) : ∃ I2 J2, R I2 ∧ ∀ d, pm_ev X (d + 14) 228 (1384, lwL i, [], st_E I J) = pm_ev X (d + 14) 228 (18, lwL (i + 5), [], st_E I2 J2) := by
  have h : OK X 108 215 [.int (X.2 (i + 1))] I J := oo_108 hR
  obtain ⟨v, I1, J1, I2, J2, h1, h2, hR2, hv⟩ := h
  obtain ⟨v, rfl⟩ : ∃ w, v = .int w := by
    rcases hv with ⟨-, h⟩ | ⟨h, -⟩
    · exact h
    · have h : (some FieldType.int : Option FieldType) = some FieldType.long := h
      cases h
  have a1 : nI i + 1 = nI (i + 1) := nI_add i 1
  have g1 : pm_ok (nI (i + 1)) X.1 = true := decide_eq_true (nI_in (by omega) (by omega))
  have f1 : (nI (i + 1)).toNatClampNeg = i + 1 := nI_clamp (by omega)
  have a5 : nI i + 5 = nI (i + 5) := nI_add i 5
  refine ⟨I2, J2, hR2, fun d => ?_⟩
  have c1 := fun F => h1 d F
  have c2 := fun F => h2 d F
  simp only [lwL, ↓ps_228_1384, ↓ps_228_1385, ↓ps_228_1386, ↓ps_228_1387, ↓ps_228_1388, ↓ps_228_1389, ↓ps_228_1390, ↓ps_228_1393, ↓ps_228_1394, ↓ps_228_1395, ↓ps_228_1396, ↓ps_228_1397, ↓ps_228_1398, ↓ps_228_1399, ↓ps_228_1402, ↓ps_228_1405, ↓ps_228_1406, ↓ps_228_1654, ↓ps_228_1657, ↓q_i1, ↓q_i2, ↓q_l1, ↓q_l2, ↓q_r1, ↓q_v1, ↓q_rs, ↓q_if, ↓q_gi, ↓q_gi', ↓q_gl, ↓q_gl', ↓q_ga, ↓q_ga', ↓q_s1, ↓q_s1n, ↓q_s1i, ↓q_s1r, ↓q_s1', ↓q_s2, ↓q_s2n, ↓q_s2i, ↓q_s2r, ↓q_s2', ↓q_ar0, ↓q_ar, q_w0, q_wi, q_wl, q_wr, q_wii, q_wil, q_wli, q_wll, q_wir, q_wri, q_wlr, q_wrl, q_wrr, q_wirr, q_wiir, q_wiii, q_ni, q_nl, q_fi, q_fl, q_z0, q_z1, q_fz0, q_fz1, ↓q_ts, ↓q_tn, q_e, q_ci, q_cr, ↓q_rfs, decide_true, Bool.and_true, Bool.and_self, Nat.zero_add, Nat.reduceAdd, Nat.reduceBEq, beq_self_eq_true, q_le, q_lel, q_ge, q_gel, q_gt, q_gtl, ite_not, Bool.not_eq_true', Bool.not_eq_false', ↓reduceIte, ↓fg_0_0, ↓fg_0_1, ↓fg_0_2, ↓fg_0_3, ↓fg_0_4, ↓fg_0_5, ↓fg_0_6, ↓fg_0_7, ↓fg_0_8, ↓fp_0_7, ↓fp_0_8, ↓oc_0, ↓fg_31_0, ↓fg_31_1, ↓fp_31_1, ↓oc_31, ↓ai_32, ↓wi_32, ↓fg_33_0, ↓fp_33_0, ↓fg_33_1, ↓fp_33_1, ↓fg_33_2, ↓fp_33_2, ↓fg_33_3, ↓fp_33_3, ↓oc_33, ↓ai_34, ↓wi_34, ↓ai_35, ↓wi_35, ↓fg_36_0, ↓fg_36_1, ↓fg_36_2, ↓fg_36_3, ↓fg_36_4, ↓fg_36_5, ↓fg_36_6, ↓fg_36_7, ↓fp_36_7, ↓fg_36_8, ↓fg_36_9, ↓fg_36_10, ↓fg_36_11, ↓fg_36_12, ↓fp_36_12, ↓fg_36_13, ↓fp_36_13, ↓fg_36_14, ↓fp_36_14, ↓fg_36_15, ↓fg_36_16, ↓fp_36_16, ↓fg_36_17, ↓fp_36_17, ↓fg_36_18, ↓fp_36_18, ↓fg_36_19, ↓fp_36_19, ↓fg_36_20, ↓fp_36_20, ↓fg_36_21, ↓fp_36_21, ↓fg_36_22, ↓fp_36_22, ↓fg_36_23, ↓fp_36_23, ↓fg_36_24, ↓fp_36_24, ↓fg_36_25, ↓fg_36_26, ↓fg_36_27, ↓fg_36_28, ↓fp_36_28, ↓fg_36_29, ↓fp_36_29, ↓oc_36, ↓ai_37, ↓wi_37, ↓ai_38, ↓wi_38, ↓ai_39, ↓wi_39, ↓ai_40, ↓wi_40, ↓ai_41, ↓wi_41, ↓ai_42, ↓wi_42, ↓ai_43, ↓wi_43, ↓ai_44, ↓wi_44, ↓ai_45, ↓wi_45, ↓ai_46, ↓wi_46, ↓ai_47, ↓wi_47, ↓ai_48, ↓wi_48, ↓ai_51, ↓wi_51, ↓al_49, ↓wl_49, ↓al_50, ↓wl_50, isW_1, isW_11, isW_21, isS_3, isS_5, isS_13, isS_15, isS_23, isS_25, ↓q_ga2, ↓q_rs2, ↓q_s1q, ↓c1, ↓c2, a5, lg_self, a1, g1, f1]
theorem law_33 {X : pm_X} {I : st_I} {J : st_J} {i : Nat} (hR : R I) (hi : i + 5 ≤ X.1) (hL : X.1 ≤ 2560) : ∃ I2 J2, R I2 ∧ ∀ d, pm_ev X (d + 14) 228 (1407, lwL i, [], st_E I J) = pm_ev X (d + 14) 228 (18, lwL (i + 5), [], st_E I2 J2) := by
  have h : OK X 109 216 [.int (X.2 (i + 1)), .int (X.2 (i + 2)), .int (X.2 (i + 3)), .int (X.2 (i + 4))] I J := oo_109 hR
  obtain ⟨v, I1, J1, I2, J2, h1, h2, hR2, hv⟩ := h
  obtain ⟨v, rfl⟩ : ∃ w, v = .int w := by
    rcases hv with ⟨-, h⟩ | ⟨h, -⟩
    · exact h
    · have h : (some FieldType.int : Option FieldType) = some FieldType.long := h
      cases h
  have a1 : nI i + 1 = nI (i + 1) := nI_add i 1
  have g1 : pm_ok (nI (i + 1)) X.1 = true := decide_eq_true (nI_in (by omega) (by omega))
  have f1 : (nI (i + 1)).toNatClampNeg = i + 1 := nI_clamp (by omega)
  have a2 : nI i + 2 = nI (i + 2) := nI_add i 2
  have g2 : pm_ok (nI (i + 2)) X.1 = true := decide_eq_true (nI_in (by omega) (by omega))
  have f2 : (nI (i + 2)).toNatClampNeg = i + 2 := nI_clamp (by omega)
  have a3 : nI i + 3 = nI (i + 3) := nI_add i 3
  have g3 : pm_ok (nI (i + 3)) X.1 = true := decide_eq_true (nI_in (by omega) (by omega))
  have f3 : (nI (i + 3)).toNatClampNeg = i + 3 := nI_clamp (by omega)
  have a4 : nI i + 4 = nI (i + 4) := nI_add i 4
  have g4 : pm_ok (nI (i + 4)) X.1 = true := decide_eq_true (nI_in (by omega) (by omega))
  have f4 : (nI (i + 4)).toNatClampNeg = i + 4 := nI_clamp (by omega)
  have a5 : nI i + 5 = nI (i + 5) := nI_add i 5
  refine ⟨I2, J2, hR2, fun d => ?_⟩
  have c1 := fun F => h1 d F
  have c2 := fun F => h2 d F
  simp only [lwL, ↓ps_228_1407, ↓ps_228_1408, ↓ps_228_1409, ↓ps_228_1410, ↓ps_228_1411, ↓ps_228_1412, ↓ps_228_1413, ↓ps_228_1414, ↓ps_228_1415, ↓ps_228_1416, ↓ps_228_1417, ↓ps_228_1418, ↓ps_228_1419, ↓ps_228_1420, ↓ps_228_1421, ↓ps_228_1422, ↓ps_228_1423, ↓ps_228_1424, ↓ps_228_1425, ↓ps_228_1426, ↓ps_228_1427, ↓ps_228_1428, ↓ps_228_1431, ↓ps_228_1432, ↓ps_228_1433, ↓ps_228_1434, ↓ps_228_1435, ↓ps_228_1436, ↓ps_228_1437, ↓ps_228_1438, ↓ps_228_1439, ↓ps_228_1440, ↓ps_228_1441, ↓ps_228_1442, ↓ps_228_1443, ↓ps_228_1444, ↓ps_228_1445, ↓ps_228_1446, ↓ps_228_1447, ↓ps_228_1448, ↓ps_228_1449, ↓ps_228_1450, ↓ps_228_1451, ↓ps_228_1452, ↓ps_228_1455, ↓ps_228_1458, ↓ps_228_1459, ↓ps_228_1654, ↓ps_228_1657, ↓q_i1, ↓q_i2, ↓q_l1, ↓q_l2, ↓q_r1, ↓q_v1, ↓q_rs, ↓q_if, ↓q_gi, ↓q_gi', ↓q_gl, ↓q_gl', ↓q_ga, ↓q_ga', ↓q_s1, ↓q_s1n, ↓q_s1i, ↓q_s1r, ↓q_s1', ↓q_s2, ↓q_s2n, ↓q_s2i, ↓q_s2r, ↓q_s2', ↓q_ar0, ↓q_ar, q_w0, q_wi, q_wl, q_wr, q_wii, q_wil, q_wli, q_wll, q_wir, q_wri, q_wlr, q_wrl, q_wrr, q_wirr, q_wiir, q_wiii, q_ni, q_nl, q_fi, q_fl, q_z0, q_z1, q_fz0, q_fz1, ↓q_ts, ↓q_tn, q_e, q_ci, q_cr, ↓q_rfs, decide_true, Bool.and_true, Bool.and_self, Nat.zero_add, Nat.reduceAdd, Nat.reduceBEq, beq_self_eq_true, q_le, q_lel, q_ge, q_gel, q_gt, q_gtl, ite_not, Bool.not_eq_true', Bool.not_eq_false', ↓reduceIte, ↓fg_0_0, ↓fg_0_1, ↓fg_0_2, ↓fg_0_3, ↓fg_0_4, ↓fg_0_5, ↓fg_0_6, ↓fg_0_7, ↓fg_0_8, ↓fp_0_7, ↓fp_0_8, ↓oc_0, ↓fg_31_0, ↓fg_31_1, ↓fp_31_1, ↓oc_31, ↓ai_32, ↓wi_32, ↓fg_33_0, ↓fp_33_0, ↓fg_33_1, ↓fp_33_1, ↓fg_33_2, ↓fp_33_2, ↓fg_33_3, ↓fp_33_3, ↓oc_33, ↓ai_34, ↓wi_34, ↓ai_35, ↓wi_35, ↓fg_36_0, ↓fg_36_1, ↓fg_36_2, ↓fg_36_3, ↓fg_36_4, ↓fg_36_5, ↓fg_36_6, ↓fg_36_7, ↓fp_36_7, ↓fg_36_8, ↓fg_36_9, ↓fg_36_10, ↓fg_36_11, ↓fg_36_12, ↓fp_36_12, ↓fg_36_13, ↓fp_36_13, ↓fg_36_14, ↓fp_36_14, ↓fg_36_15, ↓fg_36_16, ↓fp_36_16, ↓fg_36_17, ↓fp_36_17, ↓fg_36_18, ↓fp_36_18, ↓fg_36_19, ↓fp_36_19, ↓fg_36_20, ↓fp_36_20, ↓fg_36_21, ↓fp_36_21, ↓fg_36_22, ↓fp_36_22, ↓fg_36_23, ↓fp_36_23, ↓fg_36_24, ↓fp_36_24, ↓fg_36_25, ↓fg_36_26, ↓fg_36_27, ↓fg_36_28, ↓fp_36_28, ↓fg_36_29, ↓fp_36_29, ↓oc_36, ↓ai_37, ↓wi_37, ↓ai_38, ↓wi_38, ↓ai_39, ↓wi_39, ↓ai_40, ↓wi_40, ↓ai_41, ↓wi_41, ↓ai_42, ↓wi_42, ↓ai_43, ↓wi_43, ↓ai_44, ↓wi_44, ↓ai_45, ↓wi_45, ↓ai_46, ↓wi_46, ↓ai_47, ↓wi_47, ↓ai_48, ↓wi_48, ↓ai_51, ↓wi_51, ↓al_49, ↓wl_49, ↓al_50, ↓wl_50, isW_1, isW_11, isW_21, isS_3, isS_5, isS_13, isS_15, isS_23, isS_25, ↓q_ga2, ↓q_rs2, ↓q_s1q, ↓c1, ↓c2, a5, lg_self, a1, g1, f1, a2, g2, f2, a3, g3, f3, a4, g4, f4]
theorem law_34 {X : pm_X} {I : st_I} {J : st_J} {i : Nat} (hR : R I) (hi : i + 5 ≤ X.1) (hL : X.1 ≤ 2560) : ∃ I2 J2, R I2 ∧ ∀ d, pm_ev X (d + 14) 228 (1460, lwL i, [], st_E I J) = pm_ev X (d + 14) 228 (18, lwL (i + 5), [], st_E I2 J2) := by
  have h : OK X 112 218 [.int (X.2 (i + 1)), .int (X.2 (i + 2)), .int (X.2 (i + 3))] I J := oo_112 hR
  obtain ⟨v, I1, J1, I2, J2, h1, h2, hR2, hv⟩ := h
  obtain ⟨v, rfl⟩ : ∃ w, v = .int w := by
    rcases hv with ⟨-, h⟩ | ⟨h, -⟩
    · exact h
    · have h : (some FieldType.int : Option FieldType) = some FieldType.long := h
      cases h
  have a1 : nI i + 1 = nI (i + 1) := nI_add i 1
  have g1 : pm_ok (nI (i + 1)) X.1 = true := decide_eq_true (nI_in (by omega) (by omega))
  have f1 : (nI (i + 1)).toNatClampNeg = i + 1 := nI_clamp (by omega)
  have a2 : nI i + 2 = nI (i + 2) := nI_add i 2
  have g2 : pm_ok (nI (i + 2)) X.1 = true := decide_eq_true (nI_in (by omega) (by omega))
  have f2 : (nI (i + 2)).toNatClampNeg = i + 2 := nI_clamp (by omega)
  have a3 : nI i + 3 = nI (i + 3) := nI_add i 3
  have g3 : pm_ok (nI (i + 3)) X.1 = true := decide_eq_true (nI_in (by omega) (by omega))
  have f3 : (nI (i + 3)).toNatClampNeg = i + 3 := nI_clamp (by omega)
  have a5 : nI i + 5 = nI (i + 5) := nI_add i 5
  refine ⟨I2, J2, hR2, fun d => ?_⟩
  have c1 := fun F => h1 d F
  have c2 := fun F => h2 d F
  simp only [lwL, ↓ps_228_1460, ↓ps_228_1461, ↓ps_228_1462, ↓ps_228_1463, ↓ps_228_1464, ↓ps_228_1465, ↓ps_228_1466, ↓ps_228_1467, ↓ps_228_1468, ↓ps_228_1469, ↓ps_228_1470, ↓ps_228_1471, ↓ps_228_1472, ↓ps_228_1473, ↓ps_228_1474, ↓ps_228_1475, ↓ps_228_1476, ↓ps_228_1479, ↓ps_228_1480, ↓ps_228_1481, ↓ps_228_1482, ↓ps_228_1483, ↓ps_228_1484, ↓ps_228_1485, ↓ps_228_1486, ↓ps_228_1487, ↓ps_228_1488, ↓ps_228_1489, ↓ps_228_1490, ↓ps_228_1491, ↓ps_228_1492, ↓ps_228_1493, ↓ps_228_1494, ↓ps_228_1495, ↓ps_228_1498, ↓ps_228_1501, ↓ps_228_1502, ↓ps_228_1654, ↓ps_228_1657, ↓q_i1, ↓q_i2, ↓q_l1, ↓q_l2, ↓q_r1, ↓q_v1, ↓q_rs, ↓q_if, ↓q_gi, ↓q_gi', ↓q_gl, ↓q_gl', ↓q_ga, ↓q_ga', ↓q_s1, ↓q_s1n, ↓q_s1i, ↓q_s1r, ↓q_s1', ↓q_s2, ↓q_s2n, ↓q_s2i, ↓q_s2r, ↓q_s2', ↓q_ar0, ↓q_ar, q_w0, q_wi, q_wl, q_wr, q_wii, q_wil, q_wli, q_wll, q_wir, q_wri, q_wlr, q_wrl, q_wrr, q_wirr, q_wiir, q_wiii, q_ni, q_nl, q_fi, q_fl, q_z0, q_z1, q_fz0, q_fz1, ↓q_ts, ↓q_tn, q_e, q_ci, q_cr, ↓q_rfs, decide_true, Bool.and_true, Bool.and_self, Nat.zero_add, Nat.reduceAdd, Nat.reduceBEq, beq_self_eq_true, q_le, q_lel, q_ge, q_gel, q_gt, q_gtl, ite_not, Bool.not_eq_true', Bool.not_eq_false', ↓reduceIte, ↓fg_0_0, ↓fg_0_1, ↓fg_0_2, ↓fg_0_3, ↓fg_0_4, ↓fg_0_5, ↓fg_0_6, ↓fg_0_7, ↓fg_0_8, ↓fp_0_7, ↓fp_0_8, ↓oc_0, ↓fg_31_0, ↓fg_31_1, ↓fp_31_1, ↓oc_31, ↓ai_32, ↓wi_32, ↓fg_33_0, ↓fp_33_0, ↓fg_33_1, ↓fp_33_1, ↓fg_33_2, ↓fp_33_2, ↓fg_33_3, ↓fp_33_3, ↓oc_33, ↓ai_34, ↓wi_34, ↓ai_35, ↓wi_35, ↓fg_36_0, ↓fg_36_1, ↓fg_36_2, ↓fg_36_3, ↓fg_36_4, ↓fg_36_5, ↓fg_36_6, ↓fg_36_7, ↓fp_36_7, ↓fg_36_8, ↓fg_36_9, ↓fg_36_10, ↓fg_36_11, ↓fg_36_12, ↓fp_36_12, ↓fg_36_13, ↓fp_36_13, ↓fg_36_14, ↓fp_36_14, ↓fg_36_15, ↓fg_36_16, ↓fp_36_16, ↓fg_36_17, ↓fp_36_17, ↓fg_36_18, ↓fp_36_18, ↓fg_36_19, ↓fp_36_19, ↓fg_36_20, ↓fp_36_20, ↓fg_36_21, ↓fp_36_21, ↓fg_36_22, ↓fp_36_22, ↓fg_36_23, ↓fp_36_23, ↓fg_36_24, ↓fp_36_24, ↓fg_36_25, ↓fg_36_26, ↓fg_36_27, ↓fg_36_28, ↓fp_36_28, ↓fg_36_29, ↓fp_36_29, ↓oc_36, ↓ai_37, ↓wi_37, ↓ai_38, ↓wi_38, ↓ai_39, ↓wi_39, ↓ai_40, ↓wi_40, ↓ai_41, ↓wi_41, ↓ai_42, ↓wi_42, ↓ai_43, ↓wi_43, ↓ai_44, ↓wi_44, ↓ai_45, ↓wi_45, ↓ai_46, ↓wi_46, ↓ai_47, ↓wi_47, ↓ai_48, ↓wi_48, ↓ai_51, ↓wi_51, ↓al_49, ↓wl_49, ↓al_50, ↓wl_50, isW_1, isW_11, isW_21, isS_3, isS_5, isS_13, isS_15, isS_23, isS_25, ↓q_ga2, ↓q_rs2, ↓q_s1q, ↓c1, ↓c2, a5, lg_self, a1, g1, f1, a2, g2, f2, a3, g3, f3]
theorem law_35 {X : pm_X} {I : st_I} {J : st_J} {i : Nat} (hR : R I) (hi : i + 5 ≤ X.1) (hL : X.1 ≤ 2560) : ∃ I2 J2, R I2 ∧ ∀ d, pm_ev X (d + 14) 228 (1503, lwL i, [], st_E I J) = pm_ev X (d + 14) 228 (18, lwL (i + 5), [], st_E I2 J2) := by
  have h : OK X 119 221 [.int (X.2 (i + 1))] I J := op_35 hR
  obtain ⟨v, I1, J1, I2, J2, h1, h2, hR2, hv⟩ := h
  obtain ⟨v, rfl⟩ : ∃ w, v = .int w := by
    rcases hv with ⟨-, h⟩ | ⟨h, -⟩
    · exact h
    · have h : (some FieldType.int : Option FieldType) = some FieldType.long := h
      cases h
  have a1 : nI i + 1 = nI (i + 1) := nI_add i 1
  have g1 : pm_ok (nI (i + 1)) X.1 = true := decide_eq_true (nI_in (by omega) (by omega))
  have f1 : (nI (i + 1)).toNatClampNeg = i + 1 := nI_clamp (by omega)
  have a5 : nI i + 5 = nI (i + 5) := nI_add i 5
  refine ⟨I2, J2, hR2, fun d => ?_⟩
  have c1 := fun F => h1 d F
  have c2 := fun F => h2 d F
  simp only [lwL, ↓ps_228_1503, ↓ps_228_1504, ↓ps_228_1505, ↓ps_228_1506, ↓ps_228_1507, ↓ps_228_1508, ↓ps_228_1509, ↓ps_228_1512, ↓ps_228_1513, ↓ps_228_1514, ↓ps_228_1515, ↓ps_228_1516, ↓ps_228_1517, ↓ps_228_1518, ↓ps_228_1521, ↓ps_228_1524, ↓ps_228_1525, ↓ps_228_1654, ↓ps_228_1657, ↓q_i1, ↓q_i2, ↓q_l1, ↓q_l2, ↓q_r1, ↓q_v1, ↓q_rs, ↓q_if, ↓q_gi, ↓q_gi', ↓q_gl, ↓q_gl', ↓q_ga, ↓q_ga', ↓q_s1, ↓q_s1n, ↓q_s1i, ↓q_s1r, ↓q_s1', ↓q_s2, ↓q_s2n, ↓q_s2i, ↓q_s2r, ↓q_s2', ↓q_ar0, ↓q_ar, q_w0, q_wi, q_wl, q_wr, q_wii, q_wil, q_wli, q_wll, q_wir, q_wri, q_wlr, q_wrl, q_wrr, q_wirr, q_wiir, q_wiii, q_ni, q_nl, q_fi, q_fl, q_z0, q_z1, q_fz0, q_fz1, ↓q_ts, ↓q_tn, q_e, q_ci, q_cr, ↓q_rfs, decide_true, Bool.and_true, Bool.and_self, Nat.zero_add, Nat.reduceAdd, Nat.reduceBEq, beq_self_eq_true, q_le, q_lel, q_ge, q_gel, q_gt, q_gtl, ite_not, Bool.not_eq_true', Bool.not_eq_false', ↓reduceIte, ↓fg_0_0, ↓fg_0_1, ↓fg_0_2, ↓fg_0_3, ↓fg_0_4, ↓fg_0_5, ↓fg_0_6, ↓fg_0_7, ↓fg_0_8, ↓fp_0_7, ↓fp_0_8, ↓oc_0, ↓fg_31_0, ↓fg_31_1, ↓fp_31_1, ↓oc_31, ↓ai_32, ↓wi_32, ↓fg_33_0, ↓fp_33_0, ↓fg_33_1, ↓fp_33_1, ↓fg_33_2, ↓fp_33_2, ↓fg_33_3, ↓fp_33_3, ↓oc_33, ↓ai_34, ↓wi_34, ↓ai_35, ↓wi_35, ↓fg_36_0, ↓fg_36_1, ↓fg_36_2, ↓fg_36_3, ↓fg_36_4, ↓fg_36_5, ↓fg_36_6, ↓fg_36_7, ↓fp_36_7, ↓fg_36_8, ↓fg_36_9, ↓fg_36_10, ↓fg_36_11, ↓fg_36_12, ↓fp_36_12, ↓fg_36_13, ↓fp_36_13, ↓fg_36_14, ↓fp_36_14, ↓fg_36_15, ↓fg_36_16, ↓fp_36_16, ↓fg_36_17, ↓fp_36_17, ↓fg_36_18, ↓fp_36_18, ↓fg_36_19, ↓fp_36_19, ↓fg_36_20, ↓fp_36_20, ↓fg_36_21, ↓fp_36_21, ↓fg_36_22, ↓fp_36_22, ↓fg_36_23, ↓fp_36_23, ↓fg_36_24, ↓fp_36_24, ↓fg_36_25, ↓fg_36_26, ↓fg_36_27, ↓fg_36_28, ↓fp_36_28, ↓fg_36_29, ↓fp_36_29, ↓oc_36, ↓ai_37, ↓wi_37, ↓ai_38, ↓wi_38, ↓ai_39, ↓wi_39, ↓ai_40, ↓wi_40, ↓ai_41, ↓wi_41, ↓ai_42, ↓wi_42, ↓ai_43, ↓wi_43, ↓ai_44, ↓wi_44, ↓ai_45, ↓wi_45, ↓ai_46, ↓wi_46, ↓ai_47, ↓wi_47, ↓ai_48, ↓wi_48, ↓ai_51, ↓wi_51, ↓al_49, ↓wl_49, ↓al_50, ↓wl_50, isW_1, isW_11, isW_21, isS_3, isS_5, isS_13, isS_15, isS_23, isS_25, ↓q_ga2, ↓q_rs2, ↓q_s1q, ↓c1, ↓c2, a5, lg_self, a1, g1, f1]
theorem law_36 {X : pm_X} {I : st_I} {J : st_J} {i : Nat} (hR : R I) (hi : i + 5 ≤ X.1) (hL : X.1 ≤ 2560) : ∃ I2 J2, R I2 ∧ ∀ d, pm_ev X (d + 14) 228 (1526, lwL i, [], st_E I J) = pm_ev X (d + 14) 228 (18, lwL (i + 5), [], st_E I2 J2) := by
  have h : OK X 120 222 [.int (X.2 (i + 1))] I J := oo_120 hR
  obtain ⟨v, I1, J1, I2, J2, h1, h2, hR2, hv⟩ := h
  obtain ⟨v, rfl⟩ : ∃ w, v = .int w := by
    rcases hv with ⟨-, h⟩ | ⟨h, -⟩
    · exact h
    · have h : (some FieldType.int : Option FieldType) = some FieldType.long := h
      cases h
  have a1 : nI i + 1 = nI (i + 1) := nI_add i 1
  have g1 : pm_ok (nI (i + 1)) X.1 = true := decide_eq_true (nI_in (by omega) (by omega))
  have f1 : (nI (i + 1)).toNatClampNeg = i + 1 := nI_clamp (by omega)
  have a5 : nI i + 5 = nI (i + 5) := nI_add i 5
  refine ⟨I2, J2, hR2, fun d => ?_⟩
  have c1 := fun F => h1 d F
  have c2 := fun F => h2 d F
  simp only [lwL, ↓ps_228_1526, ↓ps_228_1527, ↓ps_228_1528, ↓ps_228_1529, ↓ps_228_1530, ↓ps_228_1531, ↓ps_228_1532, ↓ps_228_1535, ↓ps_228_1536, ↓ps_228_1537, ↓ps_228_1538, ↓ps_228_1539, ↓ps_228_1540, ↓ps_228_1541, ↓ps_228_1544, ↓ps_228_1547, ↓ps_228_1548, ↓ps_228_1654, ↓ps_228_1657, ↓q_i1, ↓q_i2, ↓q_l1, ↓q_l2, ↓q_r1, ↓q_v1, ↓q_rs, ↓q_if, ↓q_gi, ↓q_gi', ↓q_gl, ↓q_gl', ↓q_ga, ↓q_ga', ↓q_s1, ↓q_s1n, ↓q_s1i, ↓q_s1r, ↓q_s1', ↓q_s2, ↓q_s2n, ↓q_s2i, ↓q_s2r, ↓q_s2', ↓q_ar0, ↓q_ar, q_w0, q_wi, q_wl, q_wr, q_wii, q_wil, q_wli, q_wll, q_wir, q_wri, q_wlr, q_wrl, q_wrr, q_wirr, q_wiir, q_wiii, q_ni, q_nl, q_fi, q_fl, q_z0, q_z1, q_fz0, q_fz1, ↓q_ts, ↓q_tn, q_e, q_ci, q_cr, ↓q_rfs, decide_true, Bool.and_true, Bool.and_self, Nat.zero_add, Nat.reduceAdd, Nat.reduceBEq, beq_self_eq_true, q_le, q_lel, q_ge, q_gel, q_gt, q_gtl, ite_not, Bool.not_eq_true', Bool.not_eq_false', ↓reduceIte, ↓fg_0_0, ↓fg_0_1, ↓fg_0_2, ↓fg_0_3, ↓fg_0_4, ↓fg_0_5, ↓fg_0_6, ↓fg_0_7, ↓fg_0_8, ↓fp_0_7, ↓fp_0_8, ↓oc_0, ↓fg_31_0, ↓fg_31_1, ↓fp_31_1, ↓oc_31, ↓ai_32, ↓wi_32, ↓fg_33_0, ↓fp_33_0, ↓fg_33_1, ↓fp_33_1, ↓fg_33_2, ↓fp_33_2, ↓fg_33_3, ↓fp_33_3, ↓oc_33, ↓ai_34, ↓wi_34, ↓ai_35, ↓wi_35, ↓fg_36_0, ↓fg_36_1, ↓fg_36_2, ↓fg_36_3, ↓fg_36_4, ↓fg_36_5, ↓fg_36_6, ↓fg_36_7, ↓fp_36_7, ↓fg_36_8, ↓fg_36_9, ↓fg_36_10, ↓fg_36_11, ↓fg_36_12, ↓fp_36_12, ↓fg_36_13, ↓fp_36_13, ↓fg_36_14, ↓fp_36_14, ↓fg_36_15, ↓fg_36_16, ↓fp_36_16, ↓fg_36_17, ↓fp_36_17, ↓fg_36_18, ↓fp_36_18, ↓fg_36_19, ↓fp_36_19, ↓fg_36_20, ↓fp_36_20, ↓fg_36_21, ↓fp_36_21, ↓fg_36_22, ↓fp_36_22, ↓fg_36_23, ↓fp_36_23, ↓fg_36_24, ↓fp_36_24, ↓fg_36_25, ↓fg_36_26, ↓fg_36_27, ↓fg_36_28, ↓fp_36_28, ↓fg_36_29, ↓fp_36_29, ↓oc_36, ↓ai_37, ↓wi_37, ↓ai_38, ↓wi_38, ↓ai_39, ↓wi_39, ↓ai_40, ↓wi_40, ↓ai_41, ↓wi_41, ↓ai_42, ↓wi_42, ↓ai_43, ↓wi_43, ↓ai_44, ↓wi_44, ↓ai_45, ↓wi_45, ↓ai_46, ↓wi_46, ↓ai_47, ↓wi_47, ↓ai_48, ↓wi_48, ↓ai_51, ↓wi_51, ↓al_49, ↓wl_49, ↓al_50, ↓wl_50, isW_1, isW_11, isW_21, isS_3, isS_5, isS_13, isS_15, isS_23, isS_25, ↓q_ga2, ↓q_rs2, ↓q_s1q, ↓c1, ↓c2, a5, lg_self, a1, g1, f1]
theorem law_37 {X : pm_X} {I : st_I} {J : st_J} {i : Nat} (hR : R I) (hi : i + 5 ≤ X.1) (hL : X.1 ≤ 2560) : ∃ I2 J2, R I2 ∧ ∀ d, pm_ev X (d + 14) 228 (1549, lwL i, [], st_E I J) = pm_ev X (d + 14) 228 (18, lwL (i + 5), [], st_E I2 J2) := by
  have h : OK X 122 223 [] I J := op_37 hR
  obtain ⟨v, I1, J1, I2, J2, h1, h2, hR2, hv⟩ := h
  obtain ⟨v, rfl⟩ : ∃ w, v = .int w := by
    rcases hv with ⟨-, h⟩ | ⟨h, -⟩
    · exact h
    · have h : (some FieldType.int : Option FieldType) = some FieldType.long := h
      cases h
  have a5 : nI i + 5 = nI (i + 5) := nI_add i 5
  refine ⟨I2, J2, hR2, fun d => ?_⟩
  have c1 := fun F => h1 d F
  have c2 := fun F => h2 d F
  simp only [lwL, ↓ps_228_1549, ↓ps_228_1550, ↓ps_228_1553, ↓ps_228_1554, ↓ps_228_1557, ↓ps_228_1560, ↓ps_228_1561, ↓ps_228_1654, ↓ps_228_1657, ↓q_i1, ↓q_i2, ↓q_l1, ↓q_l2, ↓q_r1, ↓q_v1, ↓q_rs, ↓q_if, ↓q_gi, ↓q_gi', ↓q_gl, ↓q_gl', ↓q_ga, ↓q_ga', ↓q_s1, ↓q_s1n, ↓q_s1i, ↓q_s1r, ↓q_s1', ↓q_s2, ↓q_s2n, ↓q_s2i, ↓q_s2r, ↓q_s2', ↓q_ar0, ↓q_ar, q_w0, q_wi, q_wl, q_wr, q_wii, q_wil, q_wli, q_wll, q_wir, q_wri, q_wlr, q_wrl, q_wrr, q_wirr, q_wiir, q_wiii, q_ni, q_nl, q_fi, q_fl, q_z0, q_z1, q_fz0, q_fz1, ↓q_ts, ↓q_tn, q_e, q_ci, q_cr, ↓q_rfs, decide_true, Bool.and_true, Bool.and_self, Nat.zero_add, Nat.reduceAdd, Nat.reduceBEq, beq_self_eq_true, q_le, q_lel, q_ge, q_gel, q_gt, q_gtl, ite_not, Bool.not_eq_true', Bool.not_eq_false', ↓reduceIte, ↓fg_0_0, ↓fg_0_1, ↓fg_0_2, ↓fg_0_3, ↓fg_0_4, ↓fg_0_5, ↓fg_0_6, ↓fg_0_7, ↓fg_0_8, ↓fp_0_7, ↓fp_0_8, ↓oc_0, ↓fg_31_0, ↓fg_31_1, ↓fp_31_1, ↓oc_31, ↓ai_32, ↓wi_32, ↓fg_33_0, ↓fp_33_0, ↓fg_33_1, ↓fp_33_1, ↓fg_33_2, ↓fp_33_2, ↓fg_33_3, ↓fp_33_3, ↓oc_33, ↓ai_34, ↓wi_34, ↓ai_35, ↓wi_35, ↓fg_36_0, ↓fg_36_1, ↓fg_36_2, ↓fg_36_3, ↓fg_36_4, ↓fg_36_5, ↓fg_36_6, ↓fg_36_7, ↓fp_36_7, ↓fg_36_8, ↓fg_36_9, ↓fg_36_10, ↓fg_36_11, ↓fg_36_12, ↓fp_36_12, ↓fg_36_13, ↓fp_36_13, ↓fg_36_14, ↓fp_36_14, ↓fg_36_15, ↓fg_36_16, ↓fp_36_16, ↓fg_36_17, ↓fp_36_17, ↓fg_36_18, ↓fp_36_18, ↓fg_36_19, ↓fp_36_19, ↓fg_36_20, ↓fp_36_20, ↓fg_36_21, ↓fp_36_21, ↓fg_36_22, ↓fp_36_22, ↓fg_36_23, ↓fp_36_23, ↓fg_36_24, ↓fp_36_24, ↓fg_36_25, ↓fg_36_26, ↓fg_36_27, ↓fg_36_28, ↓fp_36_28, ↓fg_36_29, ↓fp_36_29, ↓oc_36, ↓ai_37, ↓wi_37, ↓ai_38, ↓wi_38, ↓ai_39, ↓wi_39, ↓ai_40, ↓wi_40, ↓ai_41, ↓wi_41, ↓ai_42, ↓wi_42, ↓ai_43, ↓wi_43, ↓ai_44, ↓wi_44, ↓ai_45, ↓wi_45, ↓ai_46, ↓wi_46, ↓ai_47, ↓wi_47, ↓ai_48, ↓wi_48, ↓ai_51, ↓wi_51, ↓al_49, ↓wl_49, ↓al_50, ↓wl_50, isW_1, isW_11, isW_21, isS_3, isS_5, isS_13, isS_15, isS_23, isS_25, ↓q_ga2, ↓q_rs2, ↓q_s1q, ↓c1, ↓c2, a5, lg_self]
theorem law_38 {X : pm_X} {I : st_I} {J : st_J} {i : Nat} (hR : R I) (hi : i + 5 ≤ X.1) (hL : X.1 ≤ 2560) : ∃ I2 J2, R I2 ∧ ∀ d, pm_ev X (d + 14) 228 (1562, lwL i, [], st_E I J) = pm_ev X (d + 14) 228 (18, lwL (i + 5), [], st_E I2 J2) := by
  have h : OK X 123 224 [.int (X.2 (i + 1)), .int (X.2 (i + 2)), .int (X.2 (i + 3))] I J := oo_123 hR
  obtain ⟨v, I1, J1, I2, J2, h1, h2, hR2, hv⟩ := h
  obtain ⟨v, rfl⟩ : ∃ w, v = .int w := by
    rcases hv with ⟨-, h⟩ | ⟨h, -⟩
    · exact h
    · have h : (some FieldType.int : Option FieldType) = some FieldType.long := h
      cases h
  have a1 : nI i + 1 = nI (i + 1) := nI_add i 1
  have g1 : pm_ok (nI (i + 1)) X.1 = true := decide_eq_true (nI_in (by omega) (by omega))
  have f1 : (nI (i + 1)).toNatClampNeg = i + 1 := nI_clamp (by omega)
  have a2 : nI i + 2 = nI (i + 2) := nI_add i 2
  have g2 : pm_ok (nI (i + 2)) X.1 = true := decide_eq_true (nI_in (by omega) (by omega))
  have f2 : (nI (i + 2)).toNatClampNeg = i + 2 := nI_clamp (by omega)
  have a3 : nI i + 3 = nI (i + 3) := nI_add i 3
  have g3 : pm_ok (nI (i + 3)) X.1 = true := decide_eq_true (nI_in (by omega) (by omega))
  have f3 : (nI (i + 3)).toNatClampNeg = i + 3 := nI_clamp (by omega)
  have a5 : nI i + 5 = nI (i + 5) := nI_add i 5
  refine ⟨I2, J2, hR2, fun d => ?_⟩
  have c1 := fun F => h1 d F
  have c2 := fun F => h2 d F
  simp only [lwL, ↓ps_228_1562, ↓ps_228_1563, ↓ps_228_1564, ↓ps_228_1565, ↓ps_228_1566, ↓ps_228_1567, ↓ps_228_1568, ↓ps_228_1569, ↓ps_228_1570, ↓ps_228_1571, ↓ps_228_1572, ↓ps_228_1573, ↓ps_228_1574, ↓ps_228_1575, ↓ps_228_1576, ↓ps_228_1577, ↓ps_228_1578, ↓ps_228_1581, ↓ps_228_1582, ↓ps_228_1583, ↓ps_228_1584, ↓ps_228_1585, ↓ps_228_1586, ↓ps_228_1587, ↓ps_228_1588, ↓ps_228_1589, ↓ps_228_1590, ↓ps_228_1591, ↓ps_228_1592, ↓ps_228_1593, ↓ps_228_1594, ↓ps_228_1595, ↓ps_228_1596, ↓ps_228_1597, ↓ps_228_1600, ↓ps_228_1603, ↓ps_228_1604, ↓ps_228_1654, ↓ps_228_1657, ↓q_i1, ↓q_i2, ↓q_l1, ↓q_l2, ↓q_r1, ↓q_v1, ↓q_rs, ↓q_if, ↓q_gi, ↓q_gi', ↓q_gl, ↓q_gl', ↓q_ga, ↓q_ga', ↓q_s1, ↓q_s1n, ↓q_s1i, ↓q_s1r, ↓q_s1', ↓q_s2, ↓q_s2n, ↓q_s2i, ↓q_s2r, ↓q_s2', ↓q_ar0, ↓q_ar, q_w0, q_wi, q_wl, q_wr, q_wii, q_wil, q_wli, q_wll, q_wir, q_wri, q_wlr, q_wrl, q_wrr, q_wirr, q_wiir, q_wiii, q_ni, q_nl, q_fi, q_fl, q_z0, q_z1, q_fz0, q_fz1, ↓q_ts, ↓q_tn, q_e, q_ci, q_cr, ↓q_rfs, decide_true, Bool.and_true, Bool.and_self, Nat.zero_add, Nat.reduceAdd, Nat.reduceBEq, beq_self_eq_true, q_le, q_lel, q_ge, q_gel, q_gt, q_gtl, ite_not, Bool.not_eq_true', Bool.not_eq_false', ↓reduceIte, ↓fg_0_0, ↓fg_0_1, ↓fg_0_2, ↓fg_0_3, ↓fg_0_4, ↓fg_0_5, ↓fg_0_6, ↓fg_0_7, ↓fg_0_8, ↓fp_0_7, ↓fp_0_8, ↓oc_0, ↓fg_31_0, ↓fg_31_1, ↓fp_31_1, ↓oc_31, ↓ai_32, ↓wi_32, ↓fg_33_0, ↓fp_33_0, ↓fg_33_1, ↓fp_33_1, ↓fg_33_2, ↓fp_33_2, ↓fg_33_3, ↓fp_33_3, ↓oc_33, ↓ai_34, ↓wi_34, ↓ai_35, ↓wi_35, ↓fg_36_0, ↓fg_36_1, ↓fg_36_2, ↓fg_36_3, ↓fg_36_4, ↓fg_36_5, ↓fg_36_6, ↓fg_36_7, ↓fp_36_7, ↓fg_36_8, ↓fg_36_9, ↓fg_36_10, ↓fg_36_11, ↓fg_36_12, ↓fp_36_12, ↓fg_36_13, ↓fp_36_13, ↓fg_36_14, ↓fp_36_14, ↓fg_36_15, ↓fg_36_16, ↓fp_36_16, ↓fg_36_17, ↓fp_36_17, ↓fg_36_18, ↓fp_36_18, ↓fg_36_19, ↓fp_36_19, ↓fg_36_20, ↓fp_36_20, ↓fg_36_21, ↓fp_36_21, ↓fg_36_22, ↓fp_36_22, ↓fg_36_23, ↓fp_36_23, ↓fg_36_24, ↓fp_36_24, ↓fg_36_25, ↓fg_36_26, ↓fg_36_27, ↓fg_36_28, ↓fp_36_28, ↓fg_36_29, ↓fp_36_29, ↓oc_36, ↓ai_37, ↓wi_37, ↓ai_38, ↓wi_38, ↓ai_39, ↓wi_39, ↓ai_40, ↓wi_40, ↓ai_41, ↓wi_41, ↓ai_42, ↓wi_42, ↓ai_43, ↓wi_43, ↓ai_44, ↓wi_44, ↓ai_45, ↓wi_45, ↓ai_46, ↓wi_46, ↓ai_47, ↓wi_47, ↓ai_48, ↓wi_48, ↓ai_51, ↓wi_51, ↓al_49, ↓wl_49, ↓al_50, ↓wl_50, isW_1, isW_11, isW_21, isS_3, isS_5, isS_13, isS_15, isS_23, isS_25, ↓q_ga2, ↓q_rs2, ↓q_s1q, ↓c1, ↓c2, a5, lg_self, a1, g1, f1, a2, g2, f2, a3, g3, f3]
theorem law_39 {X : pm_X} {I : st_I} {J : st_J} {i : Nat} (hR : R I) (hi : i + 5 ≤ X.1) (hL : X.1 ≤ 2560) : ∃ I2 J2, R I2 ∧ ∀ d, pm_ev X (d + 14) 228 (1605, lwL i, [], st_E I J) = pm_ev X (d + 14) 228 (18, lwL (i + 5), [], st_E I2 J2) := by
  have h : OK X 125 153 [] I J := oo_125 hR
  obtain ⟨v, I1, J1, I2, J2, h1, h2, hR2, hv⟩ := h
  obtain ⟨v, rfl⟩ : ∃ w, v = .int w := by
    rcases hv with ⟨-, h⟩ | ⟨h, -⟩
    · exact h
    · have h : (some FieldType.int : Option FieldType) = some FieldType.long := h
      cases h
  have a5 : nI i + 5 = nI (i + 5) := nI_add i 5
  refine ⟨I2, J2, hR2, fun d => ?_⟩
  have c1 := fun F => h1 d F
  have c2 := fun F => h2 d F
  simp only [lwL, ↓ps_228_1605, ↓ps_228_1606, ↓ps_228_1609, ↓ps_228_1610, ↓ps_228_1613, ↓ps_228_1616, ↓ps_228_1617, ↓ps_228_1654, ↓ps_228_1657, ↓q_i1, ↓q_i2, ↓q_l1, ↓q_l2, ↓q_r1, ↓q_v1, ↓q_rs, ↓q_if, ↓q_gi, ↓q_gi', ↓q_gl, ↓q_gl', ↓q_ga, ↓q_ga', ↓q_s1, ↓q_s1n, ↓q_s1i, ↓q_s1r, ↓q_s1', ↓q_s2, ↓q_s2n, ↓q_s2i, ↓q_s2r, ↓q_s2', ↓q_ar0, ↓q_ar, q_w0, q_wi, q_wl, q_wr, q_wii, q_wil, q_wli, q_wll, q_wir, q_wri, q_wlr, q_wrl, q_wrr, q_wirr, q_wiir, q_wiii, q_ni, q_nl, q_fi, q_fl, q_z0, q_z1, q_fz0, q_fz1, ↓q_ts, ↓q_tn, q_e, q_ci, q_cr, ↓q_rfs, decide_true, Bool.and_true, Bool.and_self, Nat.zero_add, Nat.reduceAdd, Nat.reduceBEq, beq_self_eq_true, q_le, q_lel, q_ge, q_gel, q_gt, q_gtl, ite_not, Bool.not_eq_true', Bool.not_eq_false', ↓reduceIte, ↓fg_0_0, ↓fg_0_1, ↓fg_0_2, ↓fg_0_3, ↓fg_0_4, ↓fg_0_5, ↓fg_0_6, ↓fg_0_7, ↓fg_0_8, ↓fp_0_7, ↓fp_0_8, ↓oc_0, ↓fg_31_0, ↓fg_31_1, ↓fp_31_1, ↓oc_31, ↓ai_32, ↓wi_32, ↓fg_33_0, ↓fp_33_0, ↓fg_33_1, ↓fp_33_1, ↓fg_33_2, ↓fp_33_2, ↓fg_33_3, ↓fp_33_3, ↓oc_33, ↓ai_34, ↓wi_34, ↓ai_35, ↓wi_35, ↓fg_36_0, ↓fg_36_1, ↓fg_36_2, ↓fg_36_3, ↓fg_36_4, ↓fg_36_5, ↓fg_36_6, ↓fg_36_7, ↓fp_36_7, ↓fg_36_8, ↓fg_36_9, ↓fg_36_10, ↓fg_36_11, ↓fg_36_12, ↓fp_36_12, ↓fg_36_13, ↓fp_36_13, ↓fg_36_14, ↓fp_36_14, ↓fg_36_15, ↓fg_36_16, ↓fp_36_16, ↓fg_36_17, ↓fp_36_17, ↓fg_36_18, ↓fp_36_18, ↓fg_36_19, ↓fp_36_19, ↓fg_36_20, ↓fp_36_20, ↓fg_36_21, ↓fp_36_21, ↓fg_36_22, ↓fp_36_22, ↓fg_36_23, ↓fp_36_23, ↓fg_36_24, ↓fp_36_24, ↓fg_36_25, ↓fg_36_26, ↓fg_36_27, ↓fg_36_28, ↓fp_36_28, ↓fg_36_29, ↓fp_36_29, ↓oc_36, ↓ai_37, ↓wi_37, ↓ai_38, ↓wi_38, ↓ai_39, ↓wi_39, ↓ai_40, ↓wi_40, ↓ai_41, ↓wi_41, ↓ai_42, ↓wi_42, ↓ai_43, ↓wi_43, ↓ai_44, ↓wi_44, ↓ai_45, ↓wi_45, ↓ai_46, ↓wi_46, ↓ai_47, ↓wi_47, ↓ai_48, ↓wi_48, ↓ai_51, ↓wi_51, ↓al_49, ↓wl_49, ↓al_50, ↓wl_50, isW_1, isW_11, isW_21, isS_3, isS_5, isS_13, isS_15, isS_23, isS_25, ↓q_ga2, ↓q_rs2, ↓q_s1q, ↓c1, ↓c2, a5, lg_self]
theorem law_40 {X : pm_X} {I : st_I} {J : st_J} {i : Nat} (hR : R I) (hi : i + 5 ≤ X.1) (hL : X.1 ≤ 2560) : ∃ I2 J2, R I2 ∧ ∀ d, pm_ev X (d + 14) 228 (1618, lwL i, [], st_E I J) = pm_ev X (d + 14) 228 (18, lwL (i + 5), [], st_E I2 J2) := by
  have h : OK X 127 154 [] I J := oo_127 hR
  obtain ⟨v, I1, J1, I2, J2, h1, h2, hR2, hv⟩ := h
  obtain ⟨v, rfl⟩ : ∃ w, v = .int w := by
    rcases hv with ⟨-, h⟩ | ⟨h, -⟩
    · exact h
    · have h : (some FieldType.int : Option FieldType) = some FieldType.long := h
      cases h
  have a5 : nI i + 5 = nI (i + 5) := nI_add i 5
  refine ⟨I2, J2, hR2, fun d => ?_⟩
  have c1 := fun F => h1 d F
  have c2 := fun F => h2 d F
  simp only [lwL, ↓ps_228_1618, ↓ps_228_1619, ↓ps_228_1622, ↓ps_228_1623, ↓ps_228_1626, ↓ps_228_1629, ↓ps_228_1630, ↓ps_228_1654, ↓ps_228_1657, ↓q_i1, ↓q_i2, ↓q_l1, ↓q_l2, ↓q_r1, ↓q_v1, ↓q_rs, ↓q_if, ↓q_gi, ↓q_gi', ↓q_gl, ↓q_gl', ↓q_ga, ↓q_ga', ↓q_s1, ↓q_s1n, ↓q_s1i, ↓q_s1r, ↓q_s1', ↓q_s2, ↓q_s2n, ↓q_s2i, ↓q_s2r, ↓q_s2', ↓q_ar0, ↓q_ar, q_w0, q_wi, q_wl, q_wr, q_wii, q_wil, q_wli, q_wll, q_wir, q_wri, q_wlr, q_wrl, q_wrr, q_wirr, q_wiir, q_wiii, q_ni, q_nl, q_fi, q_fl, q_z0, q_z1, q_fz0, q_fz1, ↓q_ts, ↓q_tn, q_e, q_ci, q_cr, ↓q_rfs, decide_true, Bool.and_true, Bool.and_self, Nat.zero_add, Nat.reduceAdd, Nat.reduceBEq, beq_self_eq_true, q_le, q_lel, q_ge, q_gel, q_gt, q_gtl, ite_not, Bool.not_eq_true', Bool.not_eq_false', ↓reduceIte, ↓fg_0_0, ↓fg_0_1, ↓fg_0_2, ↓fg_0_3, ↓fg_0_4, ↓fg_0_5, ↓fg_0_6, ↓fg_0_7, ↓fg_0_8, ↓fp_0_7, ↓fp_0_8, ↓oc_0, ↓fg_31_0, ↓fg_31_1, ↓fp_31_1, ↓oc_31, ↓ai_32, ↓wi_32, ↓fg_33_0, ↓fp_33_0, ↓fg_33_1, ↓fp_33_1, ↓fg_33_2, ↓fp_33_2, ↓fg_33_3, ↓fp_33_3, ↓oc_33, ↓ai_34, ↓wi_34, ↓ai_35, ↓wi_35, ↓fg_36_0, ↓fg_36_1, ↓fg_36_2, ↓fg_36_3, ↓fg_36_4, ↓fg_36_5, ↓fg_36_6, ↓fg_36_7, ↓fp_36_7, ↓fg_36_8, ↓fg_36_9, ↓fg_36_10, ↓fg_36_11, ↓fg_36_12, ↓fp_36_12, ↓fg_36_13, ↓fp_36_13, ↓fg_36_14, ↓fp_36_14, ↓fg_36_15, ↓fg_36_16, ↓fp_36_16, ↓fg_36_17, ↓fp_36_17, ↓fg_36_18, ↓fp_36_18, ↓fg_36_19, ↓fp_36_19, ↓fg_36_20, ↓fp_36_20, ↓fg_36_21, ↓fp_36_21, ↓fg_36_22, ↓fp_36_22, ↓fg_36_23, ↓fp_36_23, ↓fg_36_24, ↓fp_36_24, ↓fg_36_25, ↓fg_36_26, ↓fg_36_27, ↓fg_36_28, ↓fp_36_28, ↓fg_36_29, ↓fp_36_29, ↓oc_36, ↓ai_37, ↓wi_37, ↓ai_38, ↓wi_38, ↓ai_39, ↓wi_39, ↓ai_40, ↓wi_40, ↓ai_41, ↓wi_41, ↓ai_42, ↓wi_42, ↓ai_43, ↓wi_43, ↓ai_44, ↓wi_44, ↓ai_45, ↓wi_45, ↓ai_46, ↓wi_46, ↓ai_47, ↓wi_47, ↓ai_48, ↓wi_48, ↓ai_51, ↓wi_51, ↓al_49, ↓wl_49, ↓al_50, ↓wl_50, isW_1, isW_11, isW_21, isS_3, isS_5, isS_13, isS_15, isS_23, isS_25, ↓q_ga2, ↓q_rs2, ↓q_s1q, ↓c1, ↓c2, a5, lg_self]
theorem law_41 {X : pm_X} {I : st_I} {J : st_J} {i : Nat} (hR : R I) (hi : i + 5 ≤ X.1) (hL : X.1 ≤ 2560) : ∃ I2 J2, R I2 ∧ ∀ d, pm_ev X (d + 14) 228 (1631, lwL i, [], st_E I J) = pm_ev X (d + 14) 228 (18, lwL (i + 5), [], st_E I2 J2) := by
  have h : OK X 128 227 [.int (X.2 (i + 1))] I J := oo_128 hR
  obtain ⟨v, I1, J1, I2, J2, h1, h2, hR2, hv⟩ := h
  obtain ⟨v, rfl⟩ : ∃ w, v = .int w := by
    rcases hv with ⟨-, h⟩ | ⟨h, -⟩
    · exact h
    · have h : (some FieldType.int : Option FieldType) = some FieldType.long := h
      cases h
  have a1 : nI i + 1 = nI (i + 1) := nI_add i 1
  have g1 : pm_ok (nI (i + 1)) X.1 = true := decide_eq_true (nI_in (by omega) (by omega))
  have f1 : (nI (i + 1)).toNatClampNeg = i + 1 := nI_clamp (by omega)
  have a5 : nI i + 5 = nI (i + 5) := nI_add i 5
  refine ⟨I2, J2, hR2, fun d => ?_⟩
  have c1 := fun F => h1 d F
  have c2 := fun F => h2 d F
  simp only [lwL, ↓ps_228_1631, ↓ps_228_1632, ↓ps_228_1633, ↓ps_228_1634, ↓ps_228_1635, ↓ps_228_1636, ↓ps_228_1637, ↓ps_228_1640, ↓ps_228_1641, ↓ps_228_1642, ↓ps_228_1643, ↓ps_228_1644, ↓ps_228_1645, ↓ps_228_1646, ↓ps_228_1649, ↓ps_228_1652, ↓ps_228_1653, ↓ps_228_1654, ↓ps_228_1657, ↓q_i1, ↓q_i2, ↓q_l1, ↓q_l2, ↓q_r1, ↓q_v1, ↓q_rs, ↓q_if, ↓q_gi, ↓q_gi', ↓q_gl, ↓q_gl', ↓q_ga, ↓q_ga', ↓q_s1, ↓q_s1n, ↓q_s1i, ↓q_s1r, ↓q_s1', ↓q_s2, ↓q_s2n, ↓q_s2i, ↓q_s2r, ↓q_s2', ↓q_ar0, ↓q_ar, q_w0, q_wi, q_wl, q_wr, q_wii, q_wil, q_wli, q_wll, q_wir, q_wri, q_wlr, q_wrl, q_wrr, q_wirr, q_wiir, q_wiii, q_ni, q_nl, q_fi, q_fl, q_z0, q_z1, q_fz0, q_fz1, ↓q_ts, ↓q_tn, q_e, q_ci, q_cr, ↓q_rfs, decide_true, Bool.and_true, Bool.and_self, Nat.zero_add, Nat.reduceAdd, Nat.reduceBEq, beq_self_eq_true, q_le, q_lel, q_ge, q_gel, q_gt, q_gtl, ite_not, Bool.not_eq_true', Bool.not_eq_false', ↓reduceIte, ↓fg_0_0, ↓fg_0_1, ↓fg_0_2, ↓fg_0_3, ↓fg_0_4, ↓fg_0_5, ↓fg_0_6, ↓fg_0_7, ↓fg_0_8, ↓fp_0_7, ↓fp_0_8, ↓oc_0, ↓fg_31_0, ↓fg_31_1, ↓fp_31_1, ↓oc_31, ↓ai_32, ↓wi_32, ↓fg_33_0, ↓fp_33_0, ↓fg_33_1, ↓fp_33_1, ↓fg_33_2, ↓fp_33_2, ↓fg_33_3, ↓fp_33_3, ↓oc_33, ↓ai_34, ↓wi_34, ↓ai_35, ↓wi_35, ↓fg_36_0, ↓fg_36_1, ↓fg_36_2, ↓fg_36_3, ↓fg_36_4, ↓fg_36_5, ↓fg_36_6, ↓fg_36_7, ↓fp_36_7, ↓fg_36_8, ↓fg_36_9, ↓fg_36_10, ↓fg_36_11, ↓fg_36_12, ↓fp_36_12, ↓fg_36_13, ↓fp_36_13, ↓fg_36_14, ↓fp_36_14, ↓fg_36_15, ↓fg_36_16, ↓fp_36_16, ↓fg_36_17, ↓fp_36_17, ↓fg_36_18, ↓fp_36_18, ↓fg_36_19, ↓fp_36_19, ↓fg_36_20, ↓fp_36_20, ↓fg_36_21, ↓fp_36_21, ↓fg_36_22, ↓fp_36_22, ↓fg_36_23, ↓fp_36_23, ↓fg_36_24, ↓fp_36_24, ↓fg_36_25, ↓fg_36_26, ↓fg_36_27, ↓fg_36_28, ↓fp_36_28, ↓fg_36_29, ↓fp_36_29, ↓oc_36, ↓ai_37, ↓wi_37, ↓ai_38, ↓wi_38, ↓ai_39, ↓wi_39, ↓ai_40, ↓wi_40, ↓ai_41, ↓wi_41, ↓ai_42, ↓wi_42, ↓ai_43, ↓wi_43, ↓ai_44, ↓wi_44, ↓ai_45, ↓wi_45, ↓ai_46, ↓wi_46, ↓ai_47, ↓wi_47, ↓ai_48, ↓wi_48, ↓ai_51, ↓wi_51, ↓al_49, ↓wl_49, ↓al_50, ↓wl_50, isW_1, isW_11, isW_21, isS_3, isS_5, isS_13, isS_15, isS_23, isS_25, ↓q_ga2, ↓q_rs2, ↓q_s1q, ↓c1, ↓c2, a5, lg_self, a1, g1, f1]
