/-! the two objects are made: all of it -/
theorem wd_1_0 (C : Nat → va_E) : wdC_1 C 0 = C 0 := rfl
theorem wd_11_0 (C : Nat → va_E) : wdC_11 C 0 = C 0 := rfl
theorem wd_21_0 (C : Nat → va_E) : wdC_21 C 0 = C 0 := rfl
theorem k_3 {X : pm_X} {d : Nat} {C : Nat → va_E} {F} : pv_call X (d + 1) 3 [.ref 31] (st_G 32 (upE C 31 (.inr (0, [.null, .int 0])))) F = F none (st_G 33 (upE (upE (C) 31 (.inr (0, [.ref 32, .int 0]))) 32 (.inl (0, 96, .inl (fun _ => 0))))) := pv_call_ev rfl (by
  show pm_ev X (d + 1) 3 (0, [some (.ref 31)], [], _) = _
  simp only [↓ps_3_0, ↓ps_3_1, ↓ps_3_4, ↓ps_3_5, ↓ps_3_7, ↓ps_3_9, ↓ps_3_12, ↓ps_3_13, ↓ps_3_14, ↓ps_3_17, ↓q_i1, ↓q_i2, ↓q_l1, ↓q_l2, ↓q_r1, ↓q_v1, ↓q_rs, ↓q_if, ↓q_gi, ↓q_gi', ↓q_gl, ↓q_gl', ↓q_ga, ↓q_ga', ↓q_s1, ↓q_s1n, ↓q_s1i, ↓q_s1r, ↓q_s1', ↓q_s2, ↓q_s2n, ↓q_s2i, ↓q_s2r, ↓q_s2', ↓q_ar0, ↓q_ar, q_w0, q_wi, q_wl, q_wr, q_wii, q_wil, q_wli, q_wll, q_wir, q_wri, q_wlr, q_wrl, q_wrr, q_wirr, q_wiir, q_wiii, q_ni, q_nl, q_fi, q_fl, q_z0, q_z1, q_fz0, q_fz1, ↓q_ts, ↓q_tn, q_e, q_ci, q_cr, ↓q_rfs, decide_true, Bool.and_true, Bool.and_self, Nat.zero_add, Nat.reduceAdd, Nat.reduceBEq, beq_self_eq_true, q_le, q_lel, q_ge, q_gel, q_gt, q_gtl, ite_not, Bool.not_eq_true', Bool.not_eq_false', ↓reduceIte, g_len, g_app, ↓g_fg, ↓g_fp, ↓g_wi, ↓g_wq, e_fg, e_fp, e_v, e_wi, e_wq, df_0, df_1, df_2, df_3, df_4, df_5, upEA, upE_uu, List.getElem?_cons_zero, List.getElem?_cons_succ, List.set_cons_zero, List.set_cons_succ, List.length_cons, List.length_nil, Nat.reduceLT, Nat.reduceAdd, Nat.reduceEqDiff, Nat.reduceBEq, beq_self_eq_true, Bool.and_self, decide_true, Bool.and_true, Bool.true_and, if_true, if_false, nr_0, fr_0, nr_1, fr_1, nr_2, fr_2, nr_3, fr_3, nr_4, fr_4, nr_5, fr_5, na_2, nt_2, na_6, nt_6, na_7, nt_7, na_8, nt_8, na_12, nt_12, na_16, nt_16, na_17, nt_17, na_48, nt_48, na_96, nt_96, na_100, nt_100, q_e, q_tn, q_ts, not_false_eq_true, not_true_eq_false, decide_false, Bool.not_true, Bool.not_false, Int32.reduceLT, Int32.reduceAdd, tn_0, tn_1, ok_0_2, ok_1_2]
  refine congrArg (fun z => some (none, st_G _ z)) (funext fun b => ?_)
  by_cases e31 : b = 31
  · subst e31; rfl
  by_cases e32 : b = 32
  · subst e32; rfl
  simp only [upEA, e31, e32, if_false])
theorem k_4 {X : pm_X} {d : Nat} {h : List va_E} {F} : pv_call X (d + 1) 4 [.ref 33] h F = F none h := pv_call_ev rfl (by
  show pm_ev X (d + 1) 4 (0, [some (.ref 33)], [], _) = _
  simp only [↓ps_4_0, ↓ps_4_1, ↓ps_4_4, ↓q_i1, ↓q_i2, ↓q_l1, ↓q_l2, ↓q_r1, ↓q_v1, ↓q_rs, ↓q_if, ↓q_gi, ↓q_gi', ↓q_gl, ↓q_gl', ↓q_ga, ↓q_ga', ↓q_s1, ↓q_s1n, ↓q_s1i, ↓q_s1r, ↓q_s1', ↓q_s2, ↓q_s2n, ↓q_s2i, ↓q_s2r, ↓q_s2', ↓q_ar0, ↓q_ar, q_w0, q_wi, q_wl, q_wr, q_wii, q_wil, q_wli, q_wll, q_wir, q_wri, q_wlr, q_wrl, q_wrr, q_wirr, q_wiir, q_wiii, q_ni, q_nl, q_fi, q_fl, q_z0, q_z1, q_fz0, q_fz1, ↓q_ts, ↓q_tn, q_e, q_ci, q_cr, ↓q_rfs, decide_true, Bool.and_true, Bool.and_self, Nat.zero_add, Nat.reduceAdd, Nat.reduceBEq, beq_self_eq_true, q_le, q_lel, q_ge, q_gel, q_gt, q_gtl, ite_not, Bool.not_eq_true', Bool.not_eq_false', ↓reduceIte, g_len, g_app, ↓g_fg, ↓g_fp, ↓g_wi, ↓g_wq, e_fg, e_fp, e_v, e_wi, e_wq, df_0, df_1, df_2, df_3, df_4, df_5, upEA, upE_uu, List.getElem?_cons_zero, List.getElem?_cons_succ, List.set_cons_zero, List.set_cons_succ, List.length_cons, List.length_nil, Nat.reduceLT, Nat.reduceAdd, Nat.reduceEqDiff, Nat.reduceBEq, beq_self_eq_true, Bool.and_self, decide_true, Bool.and_true, Bool.true_and, if_true, if_false, nr_0, fr_0, nr_1, fr_1, nr_2, fr_2, nr_3, fr_3, nr_4, fr_4, nr_5, fr_5, na_2, nt_2, na_6, nt_6, na_7, nt_7, na_8, nt_8, na_12, nt_12, na_16, nt_16, na_17, nt_17, na_48, nt_48, na_96, nt_96, na_100, nt_100, q_e, q_tn, q_ts, not_false_eq_true, not_true_eq_false, decide_false, Bool.not_true, Bool.not_false, Int32.reduceLT, Int32.reduceAdd, tn_0, tn_1, ok_0_2, ok_1_2])
def mk0 (C : Nat → va_E) : Nat → va_E := upE (upE (upE (upE (upE (upE (upE (upE (upE (upE (upE (upE (upE (upE (upE (upE (upE (upE (upE (upE (upE (upE (upE (upE (upE (upE (upE (upE (upE (upE (upE (upE (upE (upE (upE (upE (C) 0 (.inr (4, [.ref 1, .ref 11, .ref 21, .ref 31, .ref 33, .ref 34, .ref 35, .int 0, .int 0]))) 1 (.inr (3, [.ref 2, .ref 7, .ref 8, .ref 9, .ref 10, .int 0]))) 2 (.inl (2, 2, .inr (.inr (.inr (.inr (va_up (va_up (fun _ => none) 0 (some 3)) 1 (some 5)))))))) 3 (.inr (1, [.ref 4, .int 0]))) 4 (.inl (0, 6, .inl (fun _ => 0)))) 5 (.inr (1, [.ref 6, .int 0]))) 6 (.inl (0, 6, .inl (fun _ => 0)))) 7 (.inl (0, 17, .inl (blF 16)))) 8 (.inl (0, 6, .inl (fun _ => 0)))) 9 (.inl (0, 6, .inl (fun _ => 0)))) 10 (.inl (0, 6, .inl (fun _ => 0)))) 11 (.inr (3, [.ref 12, .ref 17, .ref 18, .ref 19, .ref 20, .int 0]))) 12 (.inl (2, 2, .inr (.inr (.inr (.inr (va_up (va_up (fun _ => none) 0 (some 13)) 1 (some 15)))))))) 13 (.inr (1, [.ref 14, .int 0]))) 14 (.inl (0, 6, .inl (fun _ => 0)))) 15 (.inr (1, [.ref 16, .int 0]))) 16 (.inl (0, 6, .inl (fun _ => 0)))) 17 (.inl (0, 17, .inl (blF 16)))) 18 (.inl (0, 6, .inl (fun _ => 0)))) 19 (.inl (0, 6, .inl (fun _ => 0)))) 20 (.inl (0, 6, .inl (fun _ => 0)))) 21 (.inr (3, [.ref 22, .ref 27, .ref 28, .ref 29, .ref 30, .int 0]))) 22 (.inl (2, 2, .inr (.inr (.inr (.inr (va_up (va_up (fun _ => none) 0 (some 23)) 1 (some 25)))))))) 23 (.inr (1, [.ref 24, .int 0]))) 24 (.inl (0, 6, .inl (fun _ => 0)))) 25 (.inr (1, [.ref 26, .int 0]))) 26 (.inl (0, 6, .inl (fun _ => 0)))) 27 (.inl (0, 17, .inl (blF 16)))) 28 (.inl (0, 6, .inl (fun _ => 0)))) 29 (.inl (0, 6, .inl (fun _ => 0)))) 30 (.inl (0, 6, .inl (fun _ => 0)))) 31 (.inr (0, [.ref 32, .int 0]))) 32 (.inl (0, 96, .inl (fun _ => 0)))) 33 (.inr (2, [.int 0, .int 0, .int 0, .int 0]))) 34 (.inl (0, 16, .inl (fun _ => 0)))) 35 (.inl (0, 7, .inl (fun _ => 0)))
set_option maxRecDepth 20000 in
theorem k_0 {X : pm_X} {d : Nat} {C : Nat → va_E} {F} : pv_call X (d + 3) 0 [.ref 0] (st_G 1 (upE C 0 (.inr (4, [.null, .null, .null, .null, .null, .null, .null, .int 0, .int 0])))) F = F none (st_G 36 (mk0 C)) := pv_call_ev rfl (by
  show pm_ev X (d + 3) 0 (0, [some (.ref 0)], [], _) = _
  simp only [↓ps_0_0, ↓ps_0_1, ↓ps_0_4, ↓ps_0_5, ↓ps_0_8, ↓ps_0_9, ↓ps_0_12, ↓ps_0_15, ↓ps_0_16, ↓ps_0_19, ↓ps_0_20, ↓ps_0_23, ↓ps_0_26, ↓ps_0_27, ↓ps_0_30, ↓ps_0_31, ↓ps_0_34, ↓ps_0_37, ↓ps_0_38, ↓ps_0_41, ↓ps_0_42, ↓ps_0_45, ↓ps_0_48, ↓ps_0_49, ↓ps_0_52, ↓ps_0_53, ↓ps_0_56, ↓ps_0_59, ↓ps_0_60, ↓ps_0_62, ↓ps_0_64, ↓ps_0_67, ↓ps_0_68, ↓ps_0_70, ↓ps_0_72, ↓ps_0_75, ↓ps_0_76, ↓ps_0_77, ↓ps_0_80, ↓ps_0_81, ↓ps_0_82, ↓ps_0_85, ↓q_i1, ↓q_i2, ↓q_l1, ↓q_l2, ↓q_r1, ↓q_v1, ↓q_rs, ↓q_if, ↓q_gi, ↓q_gi', ↓q_gl, ↓q_gl', ↓q_ga, ↓q_ga', ↓q_s1, ↓q_s1n, ↓q_s1i, ↓q_s1r, ↓q_s1', ↓q_s2, ↓q_s2n, ↓q_s2i, ↓q_s2r, ↓q_s2', ↓q_ar0, ↓q_ar, q_w0, q_wi, q_wl, q_wr, q_wii, q_wil, q_wli, q_wll, q_wir, q_wri, q_wlr, q_wrl, q_wrr, q_wirr, q_wiir, q_wiii, q_ni, q_nl, q_fi, q_fl, q_z0, q_z1, q_fz0, q_fz1, ↓q_ts, ↓q_tn, q_e, q_ci, q_cr, ↓q_rfs, decide_true, Bool.and_true, Bool.and_self, Nat.zero_add, Nat.reduceAdd, Nat.reduceBEq, beq_self_eq_true, q_le, q_lel, q_ge, q_gel, q_gt, q_gtl, ite_not, Bool.not_eq_true', Bool.not_eq_false', ↓reduceIte, g_len, g_app, ↓g_fg, ↓g_fp, ↓g_wi, ↓g_wq, e_fg, e_fp, e_v, e_wi, e_wq, df_0, df_1, df_2, df_3, df_4, df_5, upEA, upE_uu, List.getElem?_cons_zero, List.getElem?_cons_succ, List.set_cons_zero, List.set_cons_succ, List.length_cons, List.length_nil, Nat.reduceLT, Nat.reduceAdd, Nat.reduceEqDiff, Nat.reduceBEq, beq_self_eq_true, Bool.and_self, decide_true, Bool.and_true, Bool.true_and, if_true, if_false, nr_0, fr_0, nr_1, fr_1, nr_2, fr_2, nr_3, fr_3, nr_4, fr_4, nr_5, fr_5, na_2, nt_2, na_6, nt_6, na_7, nt_7, na_8, nt_8, na_12, nt_12, na_16, nt_16, na_17, nt_17, na_48, nt_48, na_96, nt_96, na_100, nt_100, q_e, q_tn, q_ts, not_false_eq_true, not_true_eq_false, decide_false, Bool.not_true, Bool.not_false, Int32.reduceLT, Int32.reduceAdd, tn_0, tn_1, ok_0_2, ok_1_2, ↓k_1_1, ↓k_1_11, ↓k_1_21, ↓k_3, ↓k_4, wd_1_0, wd_11_0, wd_21_0, q_z0, q_fz0]
  unfold mk0
  refine congrArg (fun z => some (none, st_G _ z)) (funext fun b => ?_)
  by_cases e0 : b = 0
  · subst e0; rfl
  by_cases e1 : b = 1
  · subst e1; rfl
  by_cases e2 : b = 2
  · subst e2; rfl
  by_cases e3 : b = 3
  · subst e3; rfl
  by_cases e4 : b = 4
  · subst e4; rfl
  by_cases e5 : b = 5
  · subst e5; rfl
  by_cases e6 : b = 6
  · subst e6; rfl
  by_cases e7 : b = 7
  · subst e7; rfl
  by_cases e8 : b = 8
  · subst e8; rfl
  by_cases e9 : b = 9
  · subst e9; rfl
  by_cases e10 : b = 10
  · subst e10; rfl
  by_cases e11 : b = 11
  · subst e11; rfl
  by_cases e12 : b = 12
  · subst e12; rfl
  by_cases e13 : b = 13
  · subst e13; rfl
  by_cases e14 : b = 14
  · subst e14; rfl
  by_cases e15 : b = 15
  · subst e15; rfl
  by_cases e16 : b = 16
  · subst e16; rfl
  by_cases e17 : b = 17
  · subst e17; rfl
  by_cases e18 : b = 18
  · subst e18; rfl
  by_cases e19 : b = 19
  · subst e19; rfl
  by_cases e20 : b = 20
  · subst e20; rfl
  by_cases e21 : b = 21
  · subst e21; rfl
  by_cases e22 : b = 22
  · subst e22; rfl
  by_cases e23 : b = 23
  · subst e23; rfl
  by_cases e24 : b = 24
  · subst e24; rfl
  by_cases e25 : b = 25
  · subst e25; rfl
  by_cases e26 : b = 26
  · subst e26; rfl
  by_cases e27 : b = 27
  · subst e27; rfl
  by_cases e28 : b = 28
  · subst e28; rfl
  by_cases e29 : b = 29
  · subst e29; rfl
  by_cases e30 : b = 30
  · subst e30; rfl
  by_cases e31 : b = 31
  · subst e31; rfl
  by_cases e32 : b = 32
  · subst e32; rfl
  by_cases e33 : b = 33
  · subst e33; rfl
  by_cases e34 : b = 34
  · subst e34; rfl
  by_cases e35 : b = 35
  · subst e35; rfl
  simp only [upEA, wdC_1, wdC_11, wdC_21, e0, e1, e2, e3, e4, e5, e6, e7, e8, e9, e10, e11, e12, e13, e14, e15, e16, e17, e18, e19, e20, e21, e22, e23, e24, e25, e26, e27, e28, e29, e30, e31, e32, e33, e34, e35, if_false])
def mk1 (C : Nat → va_E) : Nat → va_E := upE (upE (upE (upE (upE (upE (upE (upE (upE (upE (upE (upE (upE (upE (upE (upE (C) 36 (.inr (5, [.ref 37, .ref 38, .ref 39, .ref 40, .ref 41, .ref 42, .ref 43, .int 0, .ref 44, .ref 45, .ref 46, .ref 47, .int 0, .int 0, .int 0, .ref 48, .int 0, .int 0, .int 0, .int 0, .int 0, .int 0, .int 0, .long 0, .long 0, .ref 49, .ref 50, .ref 51, .int 0, .int 0]))) 37 (.inl (0, 7, .inl (fun _ => 0)))) 38 (.inl (0, 12, .inl (fun _ => 0)))) 39 (.inl (0, 2, .inl (fun _ => 0)))) 40 (.inl (0, 17, .inl (blF 16)))) 41 (.inl (0, 6, .inl (fun _ => 0)))) 42 (.inl (0, 6, .inl (fun _ => 0)))) 43 (.inl (0, 6, .inl (fun _ => 0)))) 44 (.inl (0, 96, .inl (fun _ => 0)))) 45 (.inl (0, 48, .inl (fun _ => 0)))) 46 (.inl (0, 48, .inl (fun _ => 0)))) 47 (.inl (0, 96, .inl (fun _ => 0)))) 48 (.inl (0, 100, .inl (fun _ => 0)))) 49 (.inl (1, 8, .inr (.inl (fun _ => 0))))) 50 (.inl (1, 17, .inr (.inl (fun _ => 0))))) 51 (.inl (0, 16, .inl (fun _ => 0)))
theorem l_130_125 {X : pm_X} {d : Nat} {a0 a1 a2 : Value} {fs : List Value} : ∀ m i (G : Nat → va_E), i + m = 16 → G 36 = .inr (5, a0 :: a1 :: a2 :: .ref 40 :: fs) → G 40 = .inl (0, 17, .inl (blF i)) → pm_ev X (d + 1) 130 (125, [some (.ref 36), some (.int (nI (i + 1)))], [], st_G 52 G) = some (none, st_G 52 (upE G 40 (.inl (0, 17, .inl (blF 16)))))
  | 0, i, G, hi, hG, hB => by
    have hi : i = 16 := by omega
    subst hi
    have h1 : 16 < nI (16 + 1) := by decide
    rw [← hB, upE_s, ps_130_125]
    simp only [↓ps_130_0, ↓ps_130_1, ↓ps_130_4, ↓ps_130_5, ↓ps_130_7, ↓ps_130_9, ↓ps_130_12, ↓ps_130_13, ↓ps_130_15, ↓ps_130_17, ↓ps_130_20, ↓ps_130_21, ↓ps_130_22, ↓ps_130_24, ↓ps_130_27, ↓ps_130_28, ↓ps_130_30, ↓ps_130_32, ↓ps_130_35, ↓ps_130_36, ↓ps_130_38, ↓ps_130_40, ↓ps_130_43, ↓ps_130_44, ↓ps_130_46, ↓ps_130_48, ↓ps_130_51, ↓ps_130_52, ↓ps_130_54, ↓ps_130_56, ↓ps_130_59, ↓ps_130_60, ↓ps_130_62, ↓ps_130_64, ↓ps_130_67, ↓ps_130_68, ↓ps_130_70, ↓ps_130_72, ↓ps_130_75, ↓ps_130_76, ↓ps_130_78, ↓ps_130_80, ↓ps_130_83, ↓ps_130_84, ↓ps_130_86, ↓ps_130_88, ↓ps_130_91, ↓ps_130_92, ↓ps_130_94, ↓ps_130_96, ↓ps_130_99, ↓ps_130_100, ↓ps_130_102, ↓ps_130_104, ↓ps_130_107, ↓ps_130_108, ↓ps_130_110, ↓ps_130_112, ↓ps_130_115, ↓ps_130_116, ↓ps_130_118, ↓ps_130_120, ↓ps_130_123, ↓ps_130_124, ↓ps_130_126, ↓ps_130_128, ↓ps_130_131, ↓ps_130_132, ↓ps_130_135, ↓ps_130_136, ↓ps_130_137, ↓ps_130_138, ↓ps_130_141, ↓ps_130_144, ↓q_i1, ↓q_i2, ↓q_l1, ↓q_l2, ↓q_r1, ↓q_v1, ↓q_rs, ↓q_if, ↓q_gi, ↓q_gi', ↓q_gl, ↓q_gl', ↓q_ga, ↓q_ga', ↓q_s1, ↓q_s1n, ↓q_s1i, ↓q_s1r, ↓q_s1', ↓q_s2, ↓q_s2n, ↓q_s2i, ↓q_s2r, ↓q_s2', ↓q_ar0, ↓q_ar, q_w0, q_wi, q_wl, q_wr, q_wii, q_wil, q_wli, q_wll, q_wir, q_wri, q_wlr, q_wrl, q_wrr, q_wirr, q_wiir, q_wiii, q_ni, q_nl, q_fi, q_fl, q_z0, q_z1, q_fz0, q_fz1, ↓q_ts, ↓q_tn, q_e, q_ci, q_cr, ↓q_rfs, decide_true, Bool.and_true, Bool.and_self, Nat.zero_add, Nat.reduceAdd, Nat.reduceBEq, beq_self_eq_true, q_le, q_lel, q_ge, q_gel, q_gt, q_gtl, ite_not, Bool.not_eq_true', Bool.not_eq_false', ↓reduceIte, g_len, g_app, ↓g_fg, ↓g_fp, ↓g_wi, ↓g_wq, e_fg, e_fp, e_v, e_wi, e_wq, df_0, df_1, df_2, df_3, df_4, df_5, upEA, upE_uu, List.getElem?_cons_zero, List.getElem?_cons_succ, List.set_cons_zero, List.set_cons_succ, List.length_cons, List.length_nil, Nat.reduceLT, Nat.reduceAdd, Nat.reduceEqDiff, Nat.reduceBEq, beq_self_eq_true, Bool.and_self, decide_true, Bool.and_true, Bool.true_and, if_true, if_false, nr_0, fr_0, nr_1, fr_1, nr_2, fr_2, nr_3, fr_3, nr_4, fr_4, nr_5, fr_5, na_2, nt_2, na_6, nt_6, na_7, nt_7, na_8, nt_8, na_12, nt_12, na_16, nt_16, na_17, nt_17, na_48, nt_48, na_96, nt_96, na_100, nt_100, q_e, q_tn, q_ts, not_false_eq_true, not_true_eq_false, decide_false, Bool.not_true, Bool.not_false, Int32.reduceLT, Int32.reduceAdd, tn_0, tn_1, ok_0_2, ok_1_2, h1]
  | m + 1, i, G, hi, hG, hB => by
    have ih := l_130_125 (X := X) (d := d) (a0 := a0) (a1 := a1) (a2 := a2) (fs := fs) m (i + 1) (upE G 40 (.inl (0, 17, .inl (blF (i + 1))))) (by omega) hG rfl
    rw [upE_uu] at ih
    have h1 : ¬ 16 < nI (i + 1) := nI_nl (n := 16) (by omega) (by decide)
    have k1 : pm_ok (nI (i + 1)) 17 = true := decide_eq_true (nI_in (by omega) (by decide))
    have k2 : (nI (i + 1)).toNatClampNeg = i + 1 := nI_clamp (by omega)
    rw [ps_130_125]
    simp only [↓ps_130_0, ↓ps_130_1, ↓ps_130_4, ↓ps_130_5, ↓ps_130_7, ↓ps_130_9, ↓ps_130_12, ↓ps_130_13, ↓ps_130_15, ↓ps_130_17, ↓ps_130_20, ↓ps_130_21, ↓ps_130_22, ↓ps_130_24, ↓ps_130_27, ↓ps_130_28, ↓ps_130_30, ↓ps_130_32, ↓ps_130_35, ↓ps_130_36, ↓ps_130_38, ↓ps_130_40, ↓ps_130_43, ↓ps_130_44, ↓ps_130_46, ↓ps_130_48, ↓ps_130_51, ↓ps_130_52, ↓ps_130_54, ↓ps_130_56, ↓ps_130_59, ↓ps_130_60, ↓ps_130_62, ↓ps_130_64, ↓ps_130_67, ↓ps_130_68, ↓ps_130_70, ↓ps_130_72, ↓ps_130_75, ↓ps_130_76, ↓ps_130_78, ↓ps_130_80, ↓ps_130_83, ↓ps_130_84, ↓ps_130_86, ↓ps_130_88, ↓ps_130_91, ↓ps_130_92, ↓ps_130_94, ↓ps_130_96, ↓ps_130_99, ↓ps_130_100, ↓ps_130_102, ↓ps_130_104, ↓ps_130_107, ↓ps_130_108, ↓ps_130_110, ↓ps_130_112, ↓ps_130_115, ↓ps_130_116, ↓ps_130_118, ↓ps_130_120, ↓ps_130_123, ↓ps_130_124, ↓ps_130_126, ↓ps_130_128, ↓ps_130_131, ↓ps_130_132, ↓ps_130_135, ↓ps_130_136, ↓ps_130_137, ↓ps_130_138, ↓ps_130_141, ↓ps_130_144, ↓q_i1, ↓q_i2, ↓q_l1, ↓q_l2, ↓q_r1, ↓q_v1, ↓q_rs, ↓q_if, ↓q_gi, ↓q_gi', ↓q_gl, ↓q_gl', ↓q_ga, ↓q_ga', ↓q_s1, ↓q_s1n, ↓q_s1i, ↓q_s1r, ↓q_s1', ↓q_s2, ↓q_s2n, ↓q_s2i, ↓q_s2r, ↓q_s2', ↓q_ar0, ↓q_ar, q_w0, q_wi, q_wl, q_wr, q_wii, q_wil, q_wli, q_wll, q_wir, q_wri, q_wlr, q_wrl, q_wrr, q_wirr, q_wiir, q_wiii, q_ni, q_nl, q_fi, q_fl, q_z0, q_z1, q_fz0, q_fz1, ↓q_ts, ↓q_tn, q_e, q_ci, q_cr, ↓q_rfs, decide_true, Bool.and_true, Bool.and_self, Nat.zero_add, Nat.reduceAdd, Nat.reduceBEq, beq_self_eq_true, q_le, q_lel, q_ge, q_gel, q_gt, q_gtl, ite_not, Bool.not_eq_true', Bool.not_eq_false', ↓reduceIte, g_len, g_app, ↓g_fg, ↓g_fp, ↓g_wi, ↓g_wq, e_fg, e_fp, e_v, e_wi, e_wq, df_0, df_1, df_2, df_3, df_4, df_5, upEA, upE_uu, List.getElem?_cons_zero, List.getElem?_cons_succ, List.set_cons_zero, List.set_cons_succ, List.length_cons, List.length_nil, Nat.reduceLT, Nat.reduceAdd, Nat.reduceEqDiff, Nat.reduceBEq, beq_self_eq_true, Bool.and_self, decide_true, Bool.and_true, Bool.true_and, if_true, if_false, nr_0, fr_0, nr_1, fr_1, nr_2, fr_2, nr_3, fr_3, nr_4, fr_4, nr_5, fr_5, na_2, nt_2, na_6, nt_6, na_7, nt_7, na_8, nt_8, na_12, nt_12, na_16, nt_16, na_17, nt_17, na_48, nt_48, na_96, nt_96, na_100, nt_100, q_e, q_tn, q_ts, not_false_eq_true, not_true_eq_false, decide_false, Bool.not_true, Bool.not_false, Int32.reduceLT, Int32.reduceAdd, tn_0, tn_1, ok_0_2, ok_1_2, h1, hG, hB, k1, k2, blF_S, nI_1]
    exact ih
set_option maxRecDepth 20000 in
theorem k_130 {X : pm_X} {d : Nat} {C : Nat → va_E} {F} : pv_call X (d + 1) 130 [.ref 36] (st_G 37 (upE C 36 (.inr (5, [.null, .null, .null, .null, .null, .null, .null, .int 0, .null, .null, .null, .null, .int 0, .int 0, .int 0, .null, .int 0, .int 0, .int 0, .int 0, .int 0, .int 0, .int 0, .long 0, .long 0, .null, .null, .null, .int 0, .int 0])))) F = F none (st_G 52 (mk1 C)) := pv_call_ev rfl (by
  show pm_ev X (d + 1) 130 (0, [some (.ref 36), none], [], _) = _
  simp only [↓ps_130_0, ↓ps_130_1, ↓ps_130_4, ↓ps_130_5, ↓ps_130_7, ↓ps_130_9, ↓ps_130_12, ↓ps_130_13, ↓ps_130_15, ↓ps_130_17, ↓ps_130_20, ↓ps_130_21, ↓ps_130_22, ↓ps_130_24, ↓ps_130_27, ↓ps_130_28, ↓ps_130_30, ↓ps_130_32, ↓ps_130_35, ↓ps_130_36, ↓ps_130_38, ↓ps_130_40, ↓ps_130_43, ↓ps_130_44, ↓ps_130_46, ↓ps_130_48, ↓ps_130_51, ↓ps_130_52, ↓ps_130_54, ↓ps_130_56, ↓ps_130_59, ↓ps_130_60, ↓ps_130_62, ↓ps_130_64, ↓ps_130_67, ↓ps_130_68, ↓ps_130_70, ↓ps_130_72, ↓ps_130_75, ↓ps_130_76, ↓ps_130_78, ↓ps_130_80, ↓ps_130_83, ↓ps_130_84, ↓ps_130_86, ↓ps_130_88, ↓ps_130_91, ↓ps_130_92, ↓ps_130_94, ↓ps_130_96, ↓ps_130_99, ↓ps_130_100, ↓ps_130_102, ↓ps_130_104, ↓ps_130_107, ↓ps_130_108, ↓ps_130_110, ↓ps_130_112, ↓ps_130_115, ↓ps_130_116, ↓ps_130_118, ↓ps_130_120, ↓ps_130_123, ↓ps_130_124, ↓ps_130_126, ↓ps_130_128, ↓ps_130_131, ↓ps_130_132, ↓ps_130_135, ↓ps_130_136, ↓ps_130_137, ↓ps_130_138, ↓ps_130_141, ↓ps_130_144, ↓q_i1, ↓q_i2, ↓q_l1, ↓q_l2, ↓q_r1, ↓q_v1, ↓q_rs, ↓q_if, ↓q_gi, ↓q_gi', ↓q_gl, ↓q_gl', ↓q_ga, ↓q_ga', ↓q_s1, ↓q_s1n, ↓q_s1i, ↓q_s1r, ↓q_s1', ↓q_s2, ↓q_s2n, ↓q_s2i, ↓q_s2r, ↓q_s2', ↓q_ar0, ↓q_ar, q_w0, q_wi, q_wl, q_wr, q_wii, q_wil, q_wli, q_wll, q_wir, q_wri, q_wlr, q_wrl, q_wrr, q_wirr, q_wiir, q_wiii, q_ni, q_nl, q_fi, q_fl, q_z0, q_z1, q_fz0, q_fz1, ↓q_ts, ↓q_tn, q_e, q_ci, q_cr, ↓q_rfs, decide_true, Bool.and_true, Bool.and_self, Nat.zero_add, Nat.reduceAdd, Nat.reduceBEq, beq_self_eq_true, q_le, q_lel, q_ge, q_gel, q_gt, q_gtl, ite_not, Bool.not_eq_true', Bool.not_eq_false', ↓reduceIte, g_len, g_app, ↓g_fg, ↓g_fp, ↓g_wi, ↓g_wq, e_fg, e_fp, e_v, e_wi, e_wq, df_0, df_1, df_2, df_3, df_4, df_5, upEA, upE_uu, List.getElem?_cons_zero, List.getElem?_cons_succ, List.set_cons_zero, List.set_cons_succ, List.length_cons, List.length_nil, Nat.reduceLT, Nat.reduceAdd, Nat.reduceEqDiff, Nat.reduceBEq, beq_self_eq_true, Bool.and_self, decide_true, Bool.and_true, Bool.true_and, if_true, if_false, nr_0, fr_0, nr_1, fr_1, nr_2, fr_2, nr_3, fr_3, nr_4, fr_4, nr_5, fr_5, na_2, nt_2, na_6, nt_6, na_7, nt_7, na_8, nt_8, na_12, nt_12, na_16, nt_16, na_17, nt_17, na_48, nt_48, na_96, nt_96, na_100, nt_100, q_e, q_tn, q_ts, not_false_eq_true, not_true_eq_false, decide_false, Bool.not_true, Bool.not_false, Int32.reduceLT, Int32.reduceAdd, tn_0, tn_1, ok_0_2, ok_1_2]
  refine (l_130_125 (X := X) (d := d) 16 0 _ (by omega) rfl (by rw [← blF_0]; rfl)).trans ?_
  unfold mk1
  refine congrArg (fun z => some (none, st_G _ z)) (funext fun b => ?_)
  by_cases e36 : b = 36
  · subst e36; rfl
  by_cases e37 : b = 37
  · subst e37; rfl
  by_cases e38 : b = 38
  · subst e38; rfl
  by_cases e39 : b = 39
  · subst e39; rfl
  by_cases e40 : b = 40
  · subst e40; rfl
  by_cases e41 : b = 41
  · subst e41; rfl
  by_cases e42 : b = 42
  · subst e42; rfl
  by_cases e43 : b = 43
  · subst e43; rfl
  by_cases e44 : b = 44
  · subst e44; rfl
  by_cases e45 : b = 45
  · subst e45; rfl
  by_cases e46 : b = 46
  · subst e46; rfl
  by_cases e47 : b = 47
  · subst e47; rfl
  by_cases e48 : b = 48
  · subst e48; rfl
  by_cases e49 : b = 49
  · subst e49; rfl
  by_cases e50 : b = 50
  · subst e50; rfl
  by_cases e51 : b = 51
  · subst e51; rfl
  simp only [upEA, e36, e37, e38, e39, e40, e41, e42, e43, e44, e45, e46, e47, e48, e49, e50, e51, if_false])
def C00 : Nat → va_E := fun _ => .inr (0, [])
def I00 : st_I := fun a => if a = 7 then blF 16 else if a = 17 then blF 16 else if a = 27 then blF 16 else if a = 40 then blF 16 else fun _ => 0
def J00 : st_J := fun _ _ => 0
theorem mk_E : ∀ a, a < 52 → mk1 (mk0 C00) a = st_c a (I00 a) (J00 a) := fun a h => match a, h with
  | 0, _ => rfl
  | 1, _ => rfl
  | 2, _ => rfl
  | 3, _ => rfl
  | 4, _ => rfl
  | 5, _ => rfl
  | 6, _ => rfl
  | 7, _ => rfl
  | 8, _ => rfl
  | 9, _ => rfl
  | 10, _ => rfl
  | 11, _ => rfl
  | 12, _ => rfl
  | 13, _ => rfl
  | 14, _ => rfl
  | 15, _ => rfl
  | 16, _ => rfl
  | 17, _ => rfl
  | 18, _ => rfl
  | 19, _ => rfl
  | 20, _ => rfl
  | 21, _ => rfl
  | 22, _ => rfl
  | 23, _ => rfl
  | 24, _ => rfl
  | 25, _ => rfl
  | 26, _ => rfl
  | 27, _ => rfl
  | 28, _ => rfl
  | 29, _ => rfl
  | 30, _ => rfl
  | 31, _ => rfl
  | 32, _ => rfl
  | 33, _ => rfl
  | 34, _ => rfl
  | 35, _ => rfl
  | 36, _ => rfl
  | 37, _ => rfl
  | 38, _ => rfl
  | 39, _ => rfl
  | 40, _ => rfl
  | 41, _ => rfl
  | 42, _ => rfl
  | 43, _ => rfl
  | 44, _ => rfl
  | 45, _ => rfl
  | 46, _ => rfl
  | 47, _ => rfl
  | 48, _ => rfl
  | 49, _ => rfl
  | 50, _ => rfl
  | 51, _ => rfl
  | n + 52, h => absurd h (by omega)
theorem init_E : st_G 52 (mk1 (mk0 C00)) = st_E I00 J00 := List.map_congr_left (fun a ha => mk_E a (List.mem_range.mp ha))
theorem RSh_0 {f h : Nat → Int32} : RSh 0 0 f h := ⟨0, by decide, rfl, rfl, fun k hk => absurd hk (Nat.not_lt_zero k), fun k hk => absurd hk (Nat.not_lt_zero k), fun i j _ hj => absurd hj (Nat.not_lt_zero j)⟩
theorem R_0 : R I00 := ⟨⟨RSh_0, RSh_0, fun k k1 k2 => ⟨rfl, 1, by decide, if_pos ⟨k1, k2⟩⟩, ⟨0, by decide, rfl, rfl, fun l hl => absurd hl (Nat.not_lt_zero l)⟩⟩, ⟨0, by decide, rfl, rfl, fun k hk => absurd hk (Nat.not_lt_zero k)⟩, ⟨0, by decide, rfl, rfl, fun k hk => absurd hk (Nat.not_lt_zero k)⟩, fun _ _ _ => rfl, rfl, Or.inl rfl⟩
