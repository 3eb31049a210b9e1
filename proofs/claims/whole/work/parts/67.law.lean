/-! the law: its loop, its end -/
theorem pt_228_d : ∀ w : Int32, ¬ w = 0 → ¬ w = 1 → ¬ w = 2 → ¬ w = 3 → ¬ w = 4 → ¬ w = 5 → ¬ w = 6 → ¬ w = 7 → ¬ w = 8 → ¬ w = 9 → ¬ w = 10 → ¬ w = 11 → ¬ w = 12 → ¬ w = 13 → ¬ w = 14 → ¬ w = 15 → ¬ w = 16 → ¬ w = 17 → ¬ w = 18 → ¬ w = 19 → ¬ w = 20 → ¬ w = 21 → ¬ w = 22 → ¬ w = 23 → ¬ w = 24 → ¬ w = 25 → ¬ w = 26 → ¬ w = 27 → ¬ w = 28 → ¬ w = 29 → ¬ w = 30 → ¬ w = 31 → ¬ w = 32 → ¬ w = 33 → ¬ w = 34 → ¬ w = 35 → ¬ w = 36 → ¬ w = 37 → ¬ w = 38 → ¬ w = 39 → ¬ w = 40 → ¬ w = 41 → pt_228_32 w = 1654 := by
  intro w h0 h1 h2 h3 h4 h5 h6 h7 h8 h9 h10 h11 h12 h13 h14 h15 h16 h17 h18 h19 h20 h21 h22 h23 h24 h25 h26 h27 h28 h29 h30 h31 h32 h33 h34 h35 h36 h37 h38 h39 h40 h41
  unfold pt_228_32
  rw [if_neg h0, if_neg h1, if_neg h2, if_neg h3, if_neg h4, if_neg h5, if_neg h6, if_neg h7, if_neg h8, if_neg h9, if_neg h10, if_neg h11, if_neg h12, if_neg h13, if_neg h14, if_neg h15, if_neg h16, if_neg h17, if_neg h18, if_neg h19, if_neg h20, if_neg h21, if_neg h22, if_neg h23, if_neg h24, if_neg h25, if_neg h26, if_neg h27, if_neg h28, if_neg h29, if_neg h30, if_neg h31, if_neg h32, if_neg h33, if_neg h34, if_neg h35, if_neg h36, if_neg h37, if_neg h38, if_neg h39, if_neg h40, if_neg h41]
theorem law_step {X : pm_X} {I : st_I} {J : st_J} {i : Nat} (hR : R I) (hi : i + 5 ≤ X.1) (hL : X.1 ≤ 2560) : ∃ I2 J2, R I2 ∧ ∀ d, pm_ev X (d + 14) 228 (26, lwL i, [], st_E I J) = pm_ev X (d + 14) 228 (18, lwL (i + 5), [], st_E I2 J2) := by
  have g0 : pm_ok (nI i) X.1 = true := decide_eq_true (nI_in (by omega) (by omega))
  have f0 : (nI i).toNatClampNeg = i := nI_clamp (by omega)
  have go : ∀ t, pt_228_32 (X.2 i &&& 63) = t → ∀ d, pm_ev X (d + 14) 228 (26, lwL i, [], st_E I J) = pm_ev X (d + 14) 228 (t, lwL i, [], st_E I J) := by
    intro t ht d
    rw [← ht]
    simp only [lwL, ↓ps_228_26, ↓ps_228_27, ↓ps_228_28, ↓ps_228_29, ↓ps_228_31, ↓ps_228_32, ↓q_i1, ↓q_i2, ↓q_l1, ↓q_l2, ↓q_r1, ↓q_v1, ↓q_rs, ↓q_if, ↓q_gi, ↓q_gi', ↓q_gl, ↓q_gl', ↓q_ga, ↓q_ga', ↓q_s1, ↓q_s1n, ↓q_s1i, ↓q_s1r, ↓q_s1', ↓q_s2, ↓q_s2n, ↓q_s2i, ↓q_s2r, ↓q_s2', ↓q_ar0, ↓q_ar, q_w0, q_wi, q_wl, q_wr, q_wii, q_wil, q_wli, q_wll, q_wir, q_wri, q_wlr, q_wrl, q_wrr, q_wirr, q_wiir, q_wiii, q_ni, q_nl, q_fi, q_fl, q_z0, q_z1, q_fz0, q_fz1, ↓q_ts, ↓q_tn, q_e, q_ci, q_cr, ↓q_rfs, decide_true, Bool.and_true, Bool.and_self, Nat.zero_add, Nat.reduceAdd, Nat.reduceBEq, beq_self_eq_true, q_le, q_lel, q_ge, q_gel, q_gt, q_gtl, ite_not, Bool.not_eq_true', Bool.not_eq_false', ↓reduceIte, ↓fg_0_0, ↓fg_0_1, ↓fg_0_2, ↓fg_0_3, ↓fg_0_4, ↓fg_0_5, ↓fg_0_6, ↓fg_0_7, ↓fg_0_8, ↓fp_0_7, ↓fp_0_8, ↓oc_0, ↓fg_31_0, ↓fg_31_1, ↓fp_31_1, ↓oc_31, ↓ai_32, ↓wi_32, ↓fg_33_0, ↓fp_33_0, ↓fg_33_1, ↓fp_33_1, ↓fg_33_2, ↓fp_33_2, ↓fg_33_3, ↓fp_33_3, ↓oc_33, ↓ai_34, ↓wi_34, ↓ai_35, ↓wi_35, ↓fg_36_0, ↓fg_36_1, ↓fg_36_2, ↓fg_36_3, ↓fg_36_4, ↓fg_36_5, ↓fg_36_6, ↓fg_36_7, ↓fp_36_7, ↓fg_36_8, ↓fg_36_9, ↓fg_36_10, ↓fg_36_11, ↓fg_36_12, ↓fp_36_12, ↓fg_36_13, ↓fp_36_13, ↓fg_36_14, ↓fp_36_14, ↓fg_36_15, ↓fg_36_16, ↓fp_36_16, ↓fg_36_17, ↓fp_36_17, ↓fg_36_18, ↓fp_36_18, ↓fg_36_19, ↓fp_36_19, ↓fg_36_20, ↓fp_36_20, ↓fg_36_21, ↓fp_36_21, ↓fg_36_22, ↓fp_36_22, ↓fg_36_23, ↓fp_36_23, ↓fg_36_24, ↓fp_36_24, ↓fg_36_25, ↓fg_36_26, ↓fg_36_27, ↓fg_36_28, ↓fp_36_28, ↓fg_36_29, ↓fp_36_29, ↓oc_36, ↓ai_37, ↓wi_37, ↓ai_38, ↓wi_38, ↓ai_39, ↓wi_39, ↓ai_40, ↓wi_40, ↓ai_41, ↓wi_41, ↓ai_42, ↓wi_42, ↓ai_43, ↓wi_43, ↓ai_44, ↓wi_44, ↓ai_45, ↓wi_45, ↓ai_46, ↓wi_46, ↓ai_47, ↓wi_47, ↓ai_48, ↓wi_48, ↓ai_51, ↓wi_51, ↓al_49, ↓wl_49, ↓al_50, ↓wl_50, isW_1, isW_11, isW_21, isS_3, isS_5, isS_13, isS_15, isS_23, isS_25, ↓q_ga2, ↓q_rs2, ↓q_s1q, g0, f0]
  generalize X.2 i &&& 63 = w at go
  by_cases h0 : w = 0
  · obtain ⟨I2, J2, r, e⟩ := law_0 (J := J) hR hi hL
    exact ⟨I2, J2, r, fun d => (go 216 (by rw [h0]; rfl) d).trans (e d)⟩
  by_cases h1 : w = 1
  · obtain ⟨I2, J2, r, e⟩ := law_1 (J := J) hR hi hL
    exact ⟨I2, J2, r, fun d => (go 239 (by rw [h1]; rfl) d).trans (e d)⟩
  by_cases h2 : w = 2
  · obtain ⟨I2, J2, r, e⟩ := law_2 (J := J) hR hi hL
    exact ⟨I2, J2, r, fun d => (go 252 (by rw [h2]; rfl) d).trans (e d)⟩
  by_cases h3 : w = 3
  · obtain ⟨I2, J2, r, e⟩ := law_3 (J := J) hR hi hL
    exact ⟨I2, J2, r, fun d => (go 285 (by rw [h3]; rfl) d).trans (e d)⟩
  by_cases h4 : w = 4
  · obtain ⟨I2, J2, r, e⟩ := law_4 (J := J) hR hi hL
    exact ⟨I2, J2, r, fun d => (go 308 (by rw [h4]; rfl) d).trans (e d)⟩
  by_cases h5 : w = 5
  · obtain ⟨I2, J2, r, e⟩ := law_5 (J := J) hR hi hL
    exact ⟨I2, J2, r, fun d => (go 341 (by rw [h5]; rfl) d).trans (e d)⟩
  by_cases h6 : w = 6
  · obtain ⟨I2, J2, r, e⟩ := law_6 (J := J) hR hi hL
    exact ⟨I2, J2, r, fun d => (go 374 (by rw [h6]; rfl) d).trans (e d)⟩
  by_cases h7 : w = 7
  · obtain ⟨I2, J2, r, e⟩ := law_7 (J := J) hR hi hL
    exact ⟨I2, J2, r, fun d => (go 407 (by rw [h7]; rfl) d).trans (e d)⟩
  by_cases h8 : w = 8
  · obtain ⟨I2, J2, r, e⟩ := law_8 (J := J) hR hi hL
    exact ⟨I2, J2, r, fun d => (go 440 (by rw [h8]; rfl) d).trans (e d)⟩
  by_cases h9 : w = 9
  · obtain ⟨I2, J2, r, e⟩ := law_9 (J := J) hR hi hL
    exact ⟨I2, J2, r, fun d => (go 463 (by rw [h9]; rfl) d).trans (e d)⟩
  by_cases h10 : w = 10
  · obtain ⟨I2, J2, r, e⟩ := law_10 (J := J) hR hi hL
    exact ⟨I2, J2, r, fun d => (go 506 (by rw [h10]; rfl) d).trans (e d)⟩
  by_cases h11 : w = 11
  · obtain ⟨I2, J2, r, e⟩ := law_11 (J := J) hR hi hL
    exact ⟨I2, J2, r, fun d => (go 539 (by rw [h11]; rfl) d).trans (e d)⟩
  by_cases h12 : w = 12
  · obtain ⟨I2, J2, r, e⟩ := law_12 (J := J) hR hi hL
    exact ⟨I2, J2, r, fun d => (go 593 (by rw [h12]; rfl) d).trans (e d)⟩
  by_cases h13 : w = 13
  · obtain ⟨I2, J2, r, e⟩ := law_13 (J := J) hR hi hL
    exact ⟨I2, J2, r, fun d => (go 647 (by rw [h13]; rfl) d).trans (e d)⟩
  by_cases h14 : w = 14
  · obtain ⟨I2, J2, r, e⟩ := law_14 (J := J) hR hi hL
    exact ⟨I2, J2, r, fun d => (go 691 (by rw [h14]; rfl) d).trans (e d)⟩
  by_cases h15 : w = 15
  · obtain ⟨I2, J2, r, e⟩ := law_15 (J := J) hR hi hL
    exact ⟨I2, J2, r, fun d => (go 724 (by rw [h15]; rfl) d).trans (e d)⟩
  by_cases h16 : w = 16
  · obtain ⟨I2, J2, r, e⟩ := law_16 (J := J) hR hi hL
    exact ⟨I2, J2, r, fun d => (go 757 (by rw [h16]; rfl) d).trans (e d)⟩
  by_cases h17 : w = 17
  · obtain ⟨I2, J2, r, e⟩ := law_17 (J := J) hR hi hL
    exact ⟨I2, J2, r, fun d => (go 811 (by rw [h17]; rfl) d).trans (e d)⟩
  by_cases h18 : w = 18
  · obtain ⟨I2, J2, r, e⟩ := law_18 (J := J) hR hi hL
    exact ⟨I2, J2, r, fun d => (go 865 (by rw [h18]; rfl) d).trans (e d)⟩
  by_cases h19 : w = 19
  · obtain ⟨I2, J2, r, e⟩ := law_19 (J := J) hR hi hL
    exact ⟨I2, J2, r, fun d => (go 898 (by rw [h19]; rfl) d).trans (e d)⟩
  by_cases h20 : w = 20
  · obtain ⟨I2, J2, r, e⟩ := law_20 (J := J) hR hi hL
    exact ⟨I2, J2, r, fun d => (go 931 (by rw [h20]; rfl) d).trans (e d)⟩
  by_cases h21 : w = 21
  · obtain ⟨I2, J2, r, e⟩ := law_21 (J := J) hR hi hL
    exact ⟨I2, J2, r, fun d => (go 974 (by rw [h21]; rfl) d).trans (e d)⟩
  by_cases h22 : w = 22
  · obtain ⟨I2, J2, r, e⟩ := law_22 (J := J) hR hi hL
    exact ⟨I2, J2, r, fun d => (go 1007 (by rw [h22]; rfl) d).trans (e d)⟩
  by_cases h23 : w = 23
  · obtain ⟨I2, J2, r, e⟩ := law_23 (J := J) hR hi hL
    exact ⟨I2, J2, r, fun d => (go 1041 (by rw [h23]; rfl) d).trans (e d)⟩
  by_cases h24 : w = 24
  · obtain ⟨I2, J2, r, e⟩ := law_24 (J := J) hR hi hL
    exact ⟨I2, J2, r, fun d => (go 1085 (by rw [h24]; rfl) d).trans (e d)⟩
  by_cases h25 : w = 25
  · obtain ⟨I2, J2, r, e⟩ := law_25 (J := J) hR hi hL
    exact ⟨I2, J2, r, fun d => (go 1108 (by rw [h25]; rfl) d).trans (e d)⟩
  by_cases h26 : w = 26
  · obtain ⟨I2, J2, r, e⟩ := law_26 (J := J) hR hi hL
    exact ⟨I2, J2, r, fun d => (go 1142 (by rw [h26]; rfl) d).trans (e d)⟩
  by_cases h27 : w = 27
  · obtain ⟨I2, J2, r, e⟩ := law_27 (J := J) hR hi hL
    exact ⟨I2, J2, r, fun d => (go 1176 (by rw [h27]; rfl) d).trans (e d)⟩
  by_cases h28 : w = 28
  · obtain ⟨I2, J2, r, e⟩ := law_28 (J := J) hR hi hL
    exact ⟨I2, J2, r, fun d => (go 1230 (by rw [h28]; rfl) d).trans (e d)⟩
  by_cases h29 : w = 29
  · obtain ⟨I2, J2, r, e⟩ := law_29 (J := J) hR hi hL
    exact ⟨I2, J2, r, fun d => (go 1263 (by rw [h29]; rfl) d).trans (e d)⟩
  by_cases h30 : w = 30
  · obtain ⟨I2, J2, r, e⟩ := law_30 (J := J) hR hi hL
    exact ⟨I2, J2, r, fun d => (go 1297 (by rw [h30]; rfl) d).trans (e d)⟩
  by_cases h31 : w = 31
  · obtain ⟨I2, J2, r, e⟩ := law_31 (J := J) hR hi hL
    exact ⟨I2, J2, r, fun d => (go 1351 (by rw [h31]; rfl) d).trans (e d)⟩
  by_cases h32 : w = 32
  · obtain ⟨I2, J2, r, e⟩ := law_32 (J := J) hR hi hL
    exact ⟨I2, J2, r, fun d => (go 1384 (by rw [h32]; rfl) d).trans (e d)⟩
  by_cases h33 : w = 33
  · obtain ⟨I2, J2, r, e⟩ := law_33 (J := J) hR hi hL
    exact ⟨I2, J2, r, fun d => (go 1407 (by rw [h33]; rfl) d).trans (e d)⟩
  by_cases h34 : w = 34
  · obtain ⟨I2, J2, r, e⟩ := law_34 (J := J) hR hi hL
    exact ⟨I2, J2, r, fun d => (go 1460 (by rw [h34]; rfl) d).trans (e d)⟩
  by_cases h35 : w = 35
  · obtain ⟨I2, J2, r, e⟩ := law_35 (J := J) hR hi hL
    exact ⟨I2, J2, r, fun d => (go 1503 (by rw [h35]; rfl) d).trans (e d)⟩
  by_cases h36 : w = 36
  · obtain ⟨I2, J2, r, e⟩ := law_36 (J := J) hR hi hL
    exact ⟨I2, J2, r, fun d => (go 1526 (by rw [h36]; rfl) d).trans (e d)⟩
  by_cases h37 : w = 37
  · obtain ⟨I2, J2, r, e⟩ := law_37 (J := J) hR hi hL
    exact ⟨I2, J2, r, fun d => (go 1549 (by rw [h37]; rfl) d).trans (e d)⟩
  by_cases h38 : w = 38
  · obtain ⟨I2, J2, r, e⟩ := law_38 (J := J) hR hi hL
    exact ⟨I2, J2, r, fun d => (go 1562 (by rw [h38]; rfl) d).trans (e d)⟩
  by_cases h39 : w = 39
  · obtain ⟨I2, J2, r, e⟩ := law_39 (J := J) hR hi hL
    exact ⟨I2, J2, r, fun d => (go 1605 (by rw [h39]; rfl) d).trans (e d)⟩
  by_cases h40 : w = 40
  · obtain ⟨I2, J2, r, e⟩ := law_40 (J := J) hR hi hL
    exact ⟨I2, J2, r, fun d => (go 1618 (by rw [h40]; rfl) d).trans (e d)⟩
  by_cases h41 : w = 41
  · obtain ⟨I2, J2, r, e⟩ := law_41 (J := J) hR hi hL
    exact ⟨I2, J2, r, fun d => (go 1631 (by rw [h41]; rfl) d).trans (e d)⟩
  refine ⟨I, J, hR, fun d => (go 1654 (pt_228_d w h0 h1 h2 h3 h4 h5 h6 h7 h8 h9 h10 h11 h12 h13 h14 h15 h16 h17 h18 h19 h20 h21 h22 h23 h24 h25 h26 h27 h28 h29 h30 h31 h32 h33 h34 h35 h36 h37 h38 h39 h40 h41) d).trans ?_⟩
  have a5 : nI i + 5 = nI (i + 5) := nI_add i 5
  simp only [lwL, ↓ps_228_1654, ↓ps_228_1657, ↓q_i1, ↓q_i2, ↓q_l1, ↓q_l2, ↓q_r1, ↓q_v1, ↓q_rs, ↓q_if, ↓q_gi, ↓q_gi', ↓q_gl, ↓q_gl', ↓q_ga, ↓q_ga', ↓q_s1, ↓q_s1n, ↓q_s1i, ↓q_s1r, ↓q_s1', ↓q_s2, ↓q_s2n, ↓q_s2i, ↓q_s2r, ↓q_s2', ↓q_ar0, ↓q_ar, q_w0, q_wi, q_wl, q_wr, q_wii, q_wil, q_wli, q_wll, q_wir, q_wri, q_wlr, q_wrl, q_wrr, q_wirr, q_wiir, q_wiii, q_ni, q_nl, q_fi, q_fl, q_z0, q_z1, q_fz0, q_fz1, ↓q_ts, ↓q_tn, q_e, q_ci, q_cr, ↓q_rfs, decide_true, Bool.and_true, Bool.and_self, Nat.zero_add, Nat.reduceAdd, Nat.reduceBEq, beq_self_eq_true, q_le, q_lel, q_ge, q_gel, q_gt, q_gtl, ite_not, Bool.not_eq_true', Bool.not_eq_false', ↓reduceIte, ↓fg_0_0, ↓fg_0_1, ↓fg_0_2, ↓fg_0_3, ↓fg_0_4, ↓fg_0_5, ↓fg_0_6, ↓fg_0_7, ↓fg_0_8, ↓fp_0_7, ↓fp_0_8, ↓oc_0, ↓fg_31_0, ↓fg_31_1, ↓fp_31_1, ↓oc_31, ↓ai_32, ↓wi_32, ↓fg_33_0, ↓fp_33_0, ↓fg_33_1, ↓fp_33_1, ↓fg_33_2, ↓fp_33_2, ↓fg_33_3, ↓fp_33_3, ↓oc_33, ↓ai_34, ↓wi_34, ↓ai_35, ↓wi_35, ↓fg_36_0, ↓fg_36_1, ↓fg_36_2, ↓fg_36_3, ↓fg_36_4, ↓fg_36_5, ↓fg_36_6, ↓fg_36_7, ↓fp_36_7, ↓fg_36_8, ↓fg_36_9, ↓fg_36_10, ↓fg_36_11, ↓fg_36_12, ↓fp_36_12, ↓fg_36_13, ↓fp_36_13, ↓fg_36_14, ↓fp_36_14, ↓fg_36_15, ↓fg_36_16, ↓fp_36_16, ↓fg_36_17, ↓fp_36_17, ↓fg_36_18, ↓fp_36_18, ↓fg_36_19, ↓fp_36_19, ↓fg_36_20, ↓fp_36_20, ↓fg_36_21, ↓fp_36_21, ↓fg_36_22, ↓fp_36_22, ↓fg_36_23, ↓fp_36_23, ↓fg_36_24, ↓fp_36_24, ↓fg_36_25, ↓fg_36_26, ↓fg_36_27, ↓fg_36_28, ↓fp_36_28, ↓fg_36_29, ↓fp_36_29, ↓oc_36, ↓ai_37, ↓wi_37, ↓ai_38, ↓wi_38, ↓ai_39, ↓wi_39, ↓ai_40, ↓wi_40, ↓ai_41, ↓wi_41, ↓ai_42, ↓wi_42, ↓ai_43, ↓wi_43, ↓ai_44, ↓wi_44, ↓ai_45, ↓wi_45, ↓ai_46, ↓wi_46, ↓ai_47, ↓wi_47, ↓ai_48, ↓wi_48, ↓ai_51, ↓wi_51, ↓al_49, ↓wl_49, ↓al_50, ↓wl_50, isW_1, isW_11, isW_21, isS_3, isS_5, isS_13, isS_15, isS_23, isS_25, ↓q_ga2, ↓q_rs2, ↓q_s1q, a5]
theorem law_cond {L i : Nat} (hL : L ≤ 2560) (hi : i ≤ 3000) : (nI L - 5 < nI i) = (L < i + 5) := by
  have e : (nI L - nI 5).toInt = (L : Int) - 5 := pk_sub_toInt (by omega) (by omega)
  have e5 : nI L - 5 = nI L - nI 5 := rfl
  have ei : (nI i).toInt = i := nI_toInt (by omega)
  rw [e5, Int32.lt_iff_toInt_lt, e, ei]
  exact propext ⟨fun h => by omega, fun h => by omega⟩
theorem law_loop {X : pm_X} (hL : X.1 ≤ 2560) : ∀ (u i : Nat) (I : st_I) (J : st_J), X.1 ≤ i + u → i ≤ 2565 → R I → ∃ I' J', ∀ d, pm_ev X (d + 14) 228 (18, lwL i, [], st_E I J) = some (some (.int 1), st_E I' J')
  | 0, i, I, J, hu, hi, hR => by
    have h1 : nI X.1 - 5 < nI i := (law_cond hL (by omega)).mpr (by omega)
    refine ⟨I, J, fun d => ?_⟩
    rw [ps_228_18]
    simp only [lwL, ↓ps_228_19, ↓ps_228_20, ↓ps_228_21, ↓ps_228_22, ↓ps_228_23, ↓ps_228_1660, ↓ps_228_1661, ↓q_i1, ↓q_i2, ↓q_l1, ↓q_l2, ↓q_r1, ↓q_v1, ↓q_rs, ↓q_if, ↓q_gi, ↓q_gi', ↓q_gl, ↓q_gl', ↓q_ga, ↓q_ga', ↓q_s1, ↓q_s1n, ↓q_s1i, ↓q_s1r, ↓q_s1', ↓q_s2, ↓q_s2n, ↓q_s2i, ↓q_s2r, ↓q_s2', ↓q_ar0, ↓q_ar, q_w0, q_wi, q_wl, q_wr, q_wii, q_wil, q_wli, q_wll, q_wir, q_wri, q_wlr, q_wrl, q_wrr, q_wirr, q_wiir, q_wiii, q_ni, q_nl, q_fi, q_fl, q_z0, q_z1, q_fz0, q_fz1, ↓q_ts, ↓q_tn, q_e, q_ci, q_cr, ↓q_rfs, decide_true, Bool.and_true, Bool.and_self, Nat.zero_add, Nat.reduceAdd, Nat.reduceBEq, beq_self_eq_true, q_le, q_lel, q_ge, q_gel, q_gt, q_gtl, ite_not, Bool.not_eq_true', Bool.not_eq_false', ↓reduceIte, ↓fg_0_0, ↓fg_0_1, ↓fg_0_2, ↓fg_0_3, ↓fg_0_4, ↓fg_0_5, ↓fg_0_6, ↓fg_0_7, ↓fg_0_8, ↓fp_0_7, ↓fp_0_8, ↓oc_0, ↓fg_31_0, ↓fg_31_1, ↓fp_31_1, ↓oc_31, ↓ai_32, ↓wi_32, ↓fg_33_0, ↓fp_33_0, ↓fg_33_1, ↓fp_33_1, ↓fg_33_2, ↓fp_33_2, ↓fg_33_3, ↓fp_33_3, ↓oc_33, ↓ai_34, ↓wi_34, ↓ai_35, ↓wi_35, ↓fg_36_0, ↓fg_36_1, ↓fg_36_2, ↓fg_36_3, ↓fg_36_4, ↓fg_36_5, ↓fg_36_6, ↓fg_36_7, ↓fp_36_7, ↓fg_36_8, ↓fg_36_9, ↓fg_36_10, ↓fg_36_11, ↓fg_36_12, ↓fp_36_12, ↓fg_36_13, ↓fp_36_13, ↓fg_36_14, ↓fp_36_14, ↓fg_36_15, ↓fg_36_16, ↓fp_36_16, ↓fg_36_17, ↓fp_36_17, ↓fg_36_18, ↓fp_36_18, ↓fg_36_19, ↓fp_36_19, ↓fg_36_20, ↓fp_36_20, ↓fg_36_21, ↓fp_36_21, ↓fg_36_22, ↓fp_36_22, ↓fg_36_23, ↓fp_36_23, ↓fg_36_24, ↓fp_36_24, ↓fg_36_25, ↓fg_36_26, ↓fg_36_27, ↓fg_36_28, ↓fp_36_28, ↓fg_36_29, ↓fp_36_29, ↓oc_36, ↓ai_37, ↓wi_37, ↓ai_38, ↓wi_38, ↓ai_39, ↓wi_39, ↓ai_40, ↓wi_40, ↓ai_41, ↓wi_41, ↓ai_42, ↓wi_42, ↓ai_43, ↓wi_43, ↓ai_44, ↓wi_44, ↓ai_45, ↓wi_45, ↓ai_46, ↓wi_46, ↓ai_47, ↓wi_47, ↓ai_48, ↓wi_48, ↓ai_51, ↓wi_51, ↓al_49, ↓wl_49, ↓al_50, ↓wl_50, isW_1, isW_11, isW_21, isS_3, isS_5, isS_13, isS_15, isS_23, isS_25, ↓q_ga2, ↓q_rs2, ↓q_s1q, lenI, h1]
  | u + 1, i, I, J, hu, hi, hR => by
    by_cases q : i + 5 ≤ X.1
    · have h1 : ¬ nI X.1 - 5 < nI i := fun h => by
        rw [law_cond hL (by omega)] at h
        omega
      obtain ⟨I2, J2, r, e⟩ := law_step (J := J) hR q hL
      obtain ⟨I', J', ih⟩ := law_loop hL u (i + 5) I2 J2 (by omega) (by omega) r
      refine ⟨I', J', fun d => ?_⟩
      rw [← ih d, ← e d, ps_228_18]
      simp only [lwL, ↓ps_228_19, ↓ps_228_20, ↓ps_228_21, ↓ps_228_22, ↓ps_228_23, ↓q_i1, ↓q_i2, ↓q_l1, ↓q_l2, ↓q_r1, ↓q_v1, ↓q_rs, ↓q_if, ↓q_gi, ↓q_gi', ↓q_gl, ↓q_gl', ↓q_ga, ↓q_ga', ↓q_s1, ↓q_s1n, ↓q_s1i, ↓q_s1r, ↓q_s1', ↓q_s2, ↓q_s2n, ↓q_s2i, ↓q_s2r, ↓q_s2', ↓q_ar0, ↓q_ar, q_w0, q_wi, q_wl, q_wr, q_wii, q_wil, q_wli, q_wll, q_wir, q_wri, q_wlr, q_wrl, q_wrr, q_wirr, q_wiir, q_wiii, q_ni, q_nl, q_fi, q_fl, q_z0, q_z1, q_fz0, q_fz1, ↓q_ts, ↓q_tn, q_e, q_ci, q_cr, ↓q_rfs, decide_true, Bool.and_true, Bool.and_self, Nat.zero_add, Nat.reduceAdd, Nat.reduceBEq, beq_self_eq_true, q_le, q_lel, q_ge, q_gel, q_gt, q_gtl, ite_not, Bool.not_eq_true', Bool.not_eq_false', ↓reduceIte, ↓fg_0_0, ↓fg_0_1, ↓fg_0_2, ↓fg_0_3, ↓fg_0_4, ↓fg_0_5, ↓fg_0_6, ↓fg_0_7, ↓fg_0_8, ↓fp_0_7, ↓fp_0_8, ↓oc_0, ↓fg_31_0, ↓fg_31_1, ↓fp_31_1, ↓oc_31, ↓ai_32, ↓wi_32, ↓fg_33_0, ↓fp_33_0, ↓fg_33_1, ↓fp_33_1, ↓fg_33_2, ↓fp_33_2, ↓fg_33_3, ↓fp_33_3, ↓oc_33, ↓ai_34, ↓wi_34, ↓ai_35, ↓wi_35, ↓fg_36_0, ↓fg_36_1, ↓fg_36_2, ↓fg_36_3, ↓fg_36_4, ↓fg_36_5, ↓fg_36_6, ↓fg_36_7, ↓fp_36_7, ↓fg_36_8, ↓fg_36_9, ↓fg_36_10, ↓fg_36_11, ↓fg_36_12, ↓fp_36_12, ↓fg_36_13, ↓fp_36_13, ↓fg_36_14, ↓fp_36_14, ↓fg_36_15, ↓fg_36_16, ↓fp_36_16, ↓fg_36_17, ↓fp_36_17, ↓fg_36_18, ↓fp_36_18, ↓fg_36_19, ↓fp_36_19, ↓fg_36_20, ↓fp_36_20, ↓fg_36_21, ↓fp_36_21, ↓fg_36_22, ↓fp_36_22, ↓fg_36_23, ↓fp_36_23, ↓fg_36_24, ↓fp_36_24, ↓fg_36_25, ↓fg_36_26, ↓fg_36_27, ↓fg_36_28, ↓fp_36_28, ↓fg_36_29, ↓fp_36_29, ↓oc_36, ↓ai_37, ↓wi_37, ↓ai_38, ↓wi_38, ↓ai_39, ↓wi_39, ↓ai_40, ↓wi_40, ↓ai_41, ↓wi_41, ↓ai_42, ↓wi_42, ↓ai_43, ↓wi_43, ↓ai_44, ↓wi_44, ↓ai_45, ↓wi_45, ↓ai_46, ↓wi_46, ↓ai_47, ↓wi_47, ↓ai_48, ↓wi_48, ↓ai_51, ↓wi_51, ↓al_49, ↓wl_49, ↓al_50, ↓wl_50, isW_1, isW_11, isW_21, isS_3, isS_5, isS_13, isS_15, isS_23, isS_25, ↓q_ga2, ↓q_rs2, ↓q_s1q, lenI, h1]
    · have h1 : nI X.1 - 5 < nI i := (law_cond hL (by omega)).mpr (by omega)
      refine ⟨I, J, fun d => ?_⟩
      rw [ps_228_18]
      simp only [lwL, ↓ps_228_19, ↓ps_228_20, ↓ps_228_21, ↓ps_228_22, ↓ps_228_23, ↓ps_228_1660, ↓ps_228_1661, ↓q_i1, ↓q_i2, ↓q_l1, ↓q_l2, ↓q_r1, ↓q_v1, ↓q_rs, ↓q_if, ↓q_gi, ↓q_gi', ↓q_gl, ↓q_gl', ↓q_ga, ↓q_ga', ↓q_s1, ↓q_s1n, ↓q_s1i, ↓q_s1r, ↓q_s1', ↓q_s2, ↓q_s2n, ↓q_s2i, ↓q_s2r, ↓q_s2', ↓q_ar0, ↓q_ar, q_w0, q_wi, q_wl, q_wr, q_wii, q_wil, q_wli, q_wll, q_wir, q_wri, q_wlr, q_wrl, q_wrr, q_wirr, q_wiir, q_wiii, q_ni, q_nl, q_fi, q_fl, q_z0, q_z1, q_fz0, q_fz1, ↓q_ts, ↓q_tn, q_e, q_ci, q_cr, ↓q_rfs, decide_true, Bool.and_true, Bool.and_self, Nat.zero_add, Nat.reduceAdd, Nat.reduceBEq, beq_self_eq_true, q_le, q_lel, q_ge, q_gel, q_gt, q_gtl, ite_not, Bool.not_eq_true', Bool.not_eq_false', ↓reduceIte, ↓fg_0_0, ↓fg_0_1, ↓fg_0_2, ↓fg_0_3, ↓fg_0_4, ↓fg_0_5, ↓fg_0_6, ↓fg_0_7, ↓fg_0_8, ↓fp_0_7, ↓fp_0_8, ↓oc_0, ↓fg_31_0, ↓fg_31_1, ↓fp_31_1, ↓oc_31, ↓ai_32, ↓wi_32, ↓fg_33_0, ↓fp_33_0, ↓fg_33_1, ↓fp_33_1, ↓fg_33_2, ↓fp_33_2, ↓fg_33_3, ↓fp_33_3, ↓oc_33, ↓ai_34, ↓wi_34, ↓ai_35, ↓wi_35, ↓fg_36_0, ↓fg_36_1, ↓fg_36_2, ↓fg_36_3, ↓fg_36_4, ↓fg_36_5, ↓fg_36_6, ↓fg_36_7, ↓fp_36_7, ↓fg_36_8, ↓fg_36_9, ↓fg_36_10, ↓fg_36_11, ↓fg_36_12, ↓fp_36_12, ↓fg_36_13, ↓fp_36_13, ↓fg_36_14, ↓fp_36_14, ↓fg_36_15, ↓fg_36_16, ↓fp_36_16, ↓fg_36_17, ↓fp_36_17, ↓fg_36_18, ↓fp_36_18, ↓fg_36_19, ↓fp_36_19, ↓fg_36_20, ↓fp_36_20, ↓fg_36_21, ↓fp_36_21, ↓fg_36_22, ↓fp_36_22, ↓fg_36_23, ↓fp_36_23, ↓fg_36_24, ↓fp_36_24, ↓fg_36_25, ↓fg_36_26, ↓fg_36_27, ↓fg_36_28, ↓fp_36_28, ↓fg_36_29, ↓fp_36_29, ↓oc_36, ↓ai_37, ↓wi_37, ↓ai_38, ↓wi_38, ↓ai_39, ↓wi_39, ↓ai_40, ↓wi_40, ↓ai_41, ↓wi_41, ↓ai_42, ↓wi_42, ↓ai_43, ↓wi_43, ↓ai_44, ↓wi_44, ↓ai_45, ↓wi_45, ↓ai_46, ↓wi_46, ↓ai_47, ↓wi_47, ↓ai_48, ↓wi_48, ↓ai_51, ↓wi_51, ↓al_49, ↓wl_49, ↓al_50, ↓wl_50, isW_1, isW_11, isW_21, isS_3, isS_5, isS_13, isS_15, isS_23, isS_25, ↓q_ga2, ↓q_rs2, ↓q_s1q, lenI, h1]
theorem law_ini {X : pm_X} {d : Nat} : pm_ev X (d + 14) 228 (0, [some (.retAddr 0), none, none, none], [], []) = pm_ev X (d + 14) 228 (18, lwL 0, [], st_E I00 J00) := by
  have e0 : ([] : List va_E) = st_G 0 C00 := rfl
  have z : nI 0 = 0 := rfl
  rw [e0, ← init_E]
  simp only [lwL, ↓ps_228_0, ↓ps_228_3, ↓ps_228_4, ↓ps_228_7, ↓ps_228_8, ↓ps_228_11, ↓ps_228_12, ↓ps_228_15, ↓ps_228_16, ↓ps_228_17, ↓q_i1, ↓q_i2, ↓q_l1, ↓q_l2, ↓q_r1, ↓q_v1, ↓q_rs, ↓q_if, ↓q_gi, ↓q_gi', ↓q_gl, ↓q_gl', ↓q_ga, ↓q_ga', ↓q_s1, ↓q_s1n, ↓q_s1i, ↓q_s1r, ↓q_s1', ↓q_s2, ↓q_s2n, ↓q_s2i, ↓q_s2r, ↓q_s2', ↓q_ar0, ↓q_ar, q_w0, q_wi, q_wl, q_wr, q_wii, q_wil, q_wli, q_wll, q_wir, q_wri, q_wlr, q_wrl, q_wrr, q_wirr, q_wiir, q_wiii, q_ni, q_nl, q_fi, q_fl, q_z0, q_z1, q_fz0, q_fz1, ↓q_ts, ↓q_tn, q_e, q_ci, q_cr, ↓q_rfs, decide_true, Bool.and_true, Bool.and_self, Nat.zero_add, Nat.reduceAdd, Nat.reduceBEq, beq_self_eq_true, q_le, q_lel, q_ge, q_gel, q_gt, q_gtl, ite_not, Bool.not_eq_true', Bool.not_eq_false', ↓reduceIte, ↓q_ga2, ↓q_rs2, ↓q_s1q, g_len, g_app, ↓g_fg, ↓g_fp, ↓g_wi, ↓g_wq, e_fg, e_fp, e_v, e_wi, e_wq, df_0, df_1, df_2, df_3, df_4, df_5, upEA, upE_uu, List.getElem?_cons_zero, List.getElem?_cons_succ, List.set_cons_zero, List.set_cons_succ, List.length_cons, List.length_nil, Nat.reduceLT, Nat.reduceAdd, Nat.reduceEqDiff, Nat.reduceBEq, beq_self_eq_true, Bool.and_self, decide_true, Bool.and_true, Bool.true_and, if_true, if_false, nr_0, fr_0, nr_1, fr_1, nr_2, fr_2, nr_3, fr_3, nr_4, fr_4, nr_5, fr_5, na_2, nt_2, na_6, nt_6, na_7, nt_7, na_8, nt_8, na_12, nt_12, na_16, nt_16, na_17, nt_17, na_48, nt_48, na_96, nt_96, na_100, nt_100, q_e, q_tn, q_ts, not_false_eq_true, not_true_eq_false, decide_false, Bool.not_true, Bool.not_false, Int32.reduceLT, Int32.reduceAdd, tn_0, tn_1, ok_0_2, ok_1_2, ↓k_0, ↓k_130, z]
theorem law_all {X : pm_X} (hL : X.1 ≤ 2560) : ∃ I' J', ∀ d, pm_ev X (d + 14) 228 (0, [some (.retAddr 0), none, none, none], [], []) = some (some (.int 1), st_E I' J') := by
  obtain ⟨I', J', e⟩ := law_loop hL X.1 0 I00 J00 (by omega) (by omega) R_0
  exact ⟨I', J', fun d => Eq.trans law_ini (e d)⟩
