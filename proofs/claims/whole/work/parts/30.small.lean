/-! the small methods of both sides, by common words -/
theorem b2i_n (b : Bool) : (¬ b2i b = 0) = (b = true) := by cases b <;> simp [b2i]
theorem b2i_d (b : Bool) : decide (narrow .boolean (.int (b2i b)) = .int (b2i b)) = true := by cases b <;> rfl
theorem b2i_fz (b : Bool) : fits .boolean (.int (b2i b)) = true := by cases b <;> rfl
def noCol (c : Int32) : Bool := decide (c < 0) || decide (2 ≤ c)
def noPart (p : Int32) : Bool := decide (p < 0) || decide (1 < p)
def noLk (L l : Int32) : Bool := decide (l < 0) || decide (L ≤ l)
def wCabs (n : Int32) : Int32 := if n < 1 then -4 else if 16 < n then -6 else 0
def wSheet (c n : Int32) : Int32 := if noCol c = true then -1 else wCabs n
def wPart (w p : Int32) : Int32 := if w = 0 then (if noPart p = true then -2 else 0) else w
def wWays (n k mc mk : Int32) : Int32 := if n < 1 then -4 else if k < 1 then -4 else if mc < n then -6 else if mk < k then -6 else if n < k then -6 else 0
def wSeen (n k p : Int32) : Int32 := wPart (wWays n k 16 6) p
theorem noCol_or {c : Int32} (h : noCol c = false) : c = 0 ∨ c = 1 := by
  simp only [noCol, Bool.or_eq_false_iff, decide_eq_false_iff_not, Int32.lt_iff_toInt_lt, Int32.le_iff_toInt_le] at h
  obtain ⟨h1, h2⟩ := h
  have e0 : (0 : Int32).toInt = 0 := by decide
  have e1 : (1 : Int32).toInt = 1 := by decide
  have e2 : (2 : Int32).toInt = 2 := by decide
  rcases (by omega : c.toInt = 0 ∨ c.toInt = 1) with h | h
  · exact Or.inl (Int32.toInt_inj.mp (h.trans e0.symm))
  · exact Or.inr (Int32.toInt_inj.mp (h.trans e1.symm))
theorem noCol_0 : noCol 0 = false := by decide
theorem noCol_1 : noCol 1 = false := by decide
theorem isCol_eq (c : Int32) : (decide (c = 0) || decide (c = 1)) = !noCol c := by
  cases h : noCol c with
  | false => rcases noCol_or h with rfl | rfl <;> rfl
  | true =>
    by_cases h0 : c = 0
    · subst h0; rw [noCol_0] at h; cases h
    · by_cases h1 : c = 1
      · subst h1; rw [noCol_1] at h; cases h
      · simp [h0, h1]
theorem noPart_eq (p : Int32) : (decide (0 ≤ p) && decide (p ≤ 1)) = !noPart p := by
  unfold noPart
  rw [Bool.not_or]
  simp only [← Int32.not_lt, decide_not]
theorem noLk_eq (L l : Int32) : (decide (0 ≤ l) && decide (l < L)) = !noLk L l := by
  unfold noLk
  rw [Bool.not_or]
  simp only [← Int32.not_lt, ← Int32.not_le, decide_not]
theorem c_24 {X : pm_X} {d : Nat} {I : st_I} {J : st_J} {c : Int32} {F}  : pv_call X (d + 1) 24 [.int c] (st_E I J) F = F (some (.int (b2i (noCol c)))) (st_E (I) (J)) := pv_call_ev rfl (by
  show pm_ev X (d + 1) 24 (0, [some (.int c)], [], st_E I J) = _
  simp only [ps_24_0, ps_24_1, ps_24_4, ps_24_5, ps_24_6, ps_24_9, ps_24_10, ps_24_13, ps_24_14, q_i1, q_i2, q_l1, q_l2, q_r1, q_v1, q_rs, q_if, q_gi, q_gi', q_gl, q_gl', q_ga, q_ga', q_s1, q_s1n, q_s1i, q_s1r, q_s1', q_s2, q_s2n, q_s2i, q_s2r, q_s2', q_ar0, q_ar, q_w0, q_wi, q_wl, q_wr, q_wii, q_wil, q_wli, q_wll, q_wir, q_wri, q_wlr, q_wrl, q_wrr, q_wirr, q_wiir, q_wiii, q_ni, q_nl, q_fi, q_fl, q_z0, q_z1, q_fz0, q_fz1, q_ts, q_tn, q_e, q_ci, q_cr, q_rfs, decide_true, Bool.and_true, Bool.and_self, Nat.zero_add, Nat.reduceAdd, Nat.reduceBEq, beq_self_eq_true, ↓reduceIte]
  unfold noCol b2i
  repeat' split
  all_goals first
    | rfl
    | simp_all [b2i, noCol, noPart, noLk, wCabs, wSheet, wPart, wWays, Int32.not_lt, Int32.not_le])
theorem c_65 {X : pm_X} {d : Nat} {I : st_I} {J : st_J} {c : Int32} {F}  : pv_call X (d + 1) 65 [.int c] (st_E I J) F = F (some (.int (b2i (noPart c)))) (st_E (I) (J)) := pv_call_ev rfl (by
  show pm_ev X (d + 1) 65 (0, [some (.int c)], [], st_E I J) = _
  simp only [ps_65_0, ps_65_1, ps_65_4, ps_65_5, ps_65_6, ps_65_9, ps_65_10, ps_65_13, ps_65_14, q_i1, q_i2, q_l1, q_l2, q_r1, q_v1, q_rs, q_if, q_gi, q_gi', q_gl, q_gl', q_ga, q_ga', q_s1, q_s1n, q_s1i, q_s1r, q_s1', q_s2, q_s2n, q_s2i, q_s2r, q_s2', q_ar0, q_ar, q_w0, q_wi, q_wl, q_wr, q_wii, q_wil, q_wli, q_wll, q_wir, q_wri, q_wlr, q_wrl, q_wrr, q_wirr, q_wiir, q_wiii, q_ni, q_nl, q_fi, q_fl, q_z0, q_z1, q_fz0, q_fz1, q_ts, q_tn, q_e, q_ci, q_cr, q_rfs, decide_true, Bool.and_true, Bool.and_self, Nat.zero_add, Nat.reduceAdd, Nat.reduceBEq, beq_self_eq_true, ↓reduceIte]
  unfold noPart b2i
  repeat' split
  all_goals first
    | rfl
    | simp_all [b2i, noCol, noPart, noLk, wCabs, wSheet, wPart, wWays, Int32.not_lt, Int32.not_le])
theorem c_43 {X : pm_X} {d : Nat} {I : st_I} {J : st_J} {c : Int32} {F}  : pv_call X (d + 1) 43 [.ref 0, .int c] (st_E I J) F = F (some (.int (b2i (noLk (I 1 5) c)))) (st_E (I) (J)) := pv_call_ev rfl (by
  show pm_ev X (d + 1) 43 (0, [some (.ref 0), some (.int c)], [], st_E I J) = _
  simp only [ps_43_0, ps_43_1, ps_43_4, ps_43_5, ps_43_6, ps_43_9, ps_43_12, ps_43_15, ps_43_16, ps_43_19, ps_43_20, q_i1, q_i2, q_l1, q_l2, q_r1, q_v1, q_rs, q_if, q_gi, q_gi', q_gl, q_gl', q_ga, q_ga', q_s1, q_s1n, q_s1i, q_s1r, q_s1', q_s2, q_s2n, q_s2i, q_s2r, q_s2', q_ar0, q_ar, q_w0, q_wi, q_wl, q_wr, q_wii, q_wil, q_wli, q_wll, q_wir, q_wri, q_wlr, q_wrl, q_wrr, q_wirr, q_wiir, q_wiii, q_ni, q_nl, q_fi, q_fl, q_z0, q_z1, q_fz0, q_fz1, q_ts, q_tn, q_e, q_ci, q_cr, q_rfs, decide_true, Bool.and_true, Bool.and_self, Nat.zero_add, Nat.reduceAdd, Nat.reduceBEq, beq_self_eq_true, ↓reduceIte, fg_0_0, fgW_5 isW_1]
  unfold noLk b2i
  repeat' split
  all_goals first
    | rfl
    | simp_all [b2i, noCol, noPart, noLk, wCabs, wSheet, wPart, wWays, Int32.not_lt, Int32.not_le])
theorem c_46 {X : pm_X} {d : Nat} {I : st_I} {J : st_J} {n : Int32} {F}  : pv_call X (d + 1) 46 [.int n] (st_E I J) F = F (some (.int (wCabs n))) (st_E (I) (J)) := pv_call_ev rfl (by
  show pm_ev X (d + 1) 46 (0, [some (.int n)], [], st_E I J) = _
  simp only [ps_46_0, ps_46_1, ps_46_2, ps_46_5, ps_46_7, ps_46_8, ps_46_9, ps_46_11, ps_46_14, ps_46_16, ps_46_19, ps_46_20, q_i1, q_i2, q_l1, q_l2, q_r1, q_v1, q_rs, q_if, q_gi, q_gi', q_gl, q_gl', q_ga, q_ga', q_s1, q_s1n, q_s1i, q_s1r, q_s1', q_s2, q_s2n, q_s2i, q_s2r, q_s2', q_ar0, q_ar, q_w0, q_wi, q_wl, q_wr, q_wii, q_wil, q_wli, q_wll, q_wir, q_wri, q_wlr, q_wrl, q_wrr, q_wirr, q_wiir, q_wiii, q_ni, q_nl, q_fi, q_fl, q_z0, q_z1, q_fz0, q_fz1, q_ts, q_tn, q_e, q_ci, q_cr, q_rfs, decide_true, Bool.and_true, Bool.and_self, Nat.zero_add, Nat.reduceAdd, Nat.reduceBEq, beq_self_eq_true, ↓reduceIte]
  unfold wCabs
  repeat' split
  all_goals first
    | rfl
    | simp_all [b2i, noCol, noPart, noLk, wCabs, wSheet, wPart, wWays, Int32.not_lt, Int32.not_le])
theorem c_49 {X : pm_X} {d : Nat} {I : st_I} {J : st_J} {c n : Int32} {F}  : pv_call X (d + 2) 49 [.int c, .int n] (st_E I J) F = F (some (.int (wSheet c n))) (st_E (I) (J)) := pv_call_ev rfl (by
  show pm_ev X (d + 2) 49 (0, [some (.int c), some (.int n)], [], st_E I J) = _
  simp only [ps_49_0, ps_49_1, ps_49_4, ps_49_7, ps_49_8, ps_49_11, ps_49_12, ps_49_15, q_i1, q_i2, q_l1, q_l2, q_r1, q_v1, q_rs, q_if, q_gi, q_gi', q_gl, q_gl', q_ga, q_ga', q_s1, q_s1n, q_s1i, q_s1r, q_s1', q_s2, q_s2n, q_s2i, q_s2r, q_s2', q_ar0, q_ar, q_w0, q_wi, q_wl, q_wr, q_wii, q_wil, q_wli, q_wll, q_wir, q_wri, q_wlr, q_wrl, q_wrr, q_wirr, q_wiir, q_wiii, q_ni, q_nl, q_fi, q_fl, q_z0, q_z1, q_fz0, q_fz1, q_ts, q_tn, q_e, q_ci, q_cr, q_rfs, decide_true, Bool.and_true, Bool.and_self, Nat.zero_add, Nat.reduceAdd, Nat.reduceBEq, beq_self_eq_true, ↓reduceIte, c_24, c_46, b2i_e, b2i_n, Bool.not_eq_false]
  unfold wSheet
  repeat' split
  all_goals first
    | rfl
    | simp_all [b2i, noCol, noPart, noLk, wCabs, wSheet, wPart, wWays, Int32.not_lt, Int32.not_le])
theorem c_64 {X : pm_X} {d : Nat} {I : st_I} {J : st_J} {c n : Int32} {F}  : pv_call X (d + 2) 64 [.int c, .int n] (st_E I J) F = F (some (.int (wPart c n))) (st_E (I) (J)) := pv_call_ev rfl (by
  show pm_ev X (d + 2) 64 (0, [some (.int c), some (.int n)], [], st_E I J) = _
  simp only [ps_64_0, ps_64_1, ps_64_4, ps_64_5, ps_64_6, ps_64_7, ps_64_10, ps_64_13, ps_64_15, ps_64_18, ps_64_19, q_i1, q_i2, q_l1, q_l2, q_r1, q_v1, q_rs, q_if, q_gi, q_gi', q_gl, q_gl', q_ga, q_ga', q_s1, q_s1n, q_s1i, q_s1r, q_s1', q_s2, q_s2n, q_s2i, q_s2r, q_s2', q_ar0, q_ar, q_w0, q_wi, q_wl, q_wr, q_wii, q_wil, q_wli, q_wll, q_wir, q_wri, q_wlr, q_wrl, q_wrr, q_wirr, q_wiir, q_wiii, q_ni, q_nl, q_fi, q_fl, q_z0, q_z1, q_fz0, q_fz1, q_ts, q_tn, q_e, q_ci, q_cr, q_rfs, decide_true, Bool.and_true, Bool.and_self, Nat.zero_add, Nat.reduceAdd, Nat.reduceBEq, beq_self_eq_true, ↓reduceIte, c_65, b2i_e, b2i_n]
  unfold wPart
  repeat' split
  all_goals first
    | rfl
    | simp_all [b2i, noCol, noPart, noLk, wCabs, wSheet, wPart, wWays, Int32.not_lt, Int32.not_le])
theorem c_63 {X : pm_X} {d : Nat} {I : st_I} {J : st_J} {a b e f : Int32} {F}  : pv_call X (d + 1) 63 [.int a, .int b, .int e, .int f] (st_E I J) F = F (some (.int (wWays a b e f))) (st_E (I) (J)) := pv_call_ev rfl (by
  show pm_ev X (d + 1) 63 (0, [some (.int a), some (.int b), some (.int e), some (.int f)], [], st_E I J) = _
  simp only [ps_63_0, ps_63_1, ps_63_2, ps_63_5, ps_63_6, ps_63_7, ps_63_10, ps_63_12, ps_63_13, ps_63_14, ps_63_15, ps_63_18, ps_63_19, ps_63_20, ps_63_23, ps_63_24, ps_63_25, ps_63_28, ps_63_30, ps_63_33, ps_63_34, q_i1, q_i2, q_l1, q_l2, q_r1, q_v1, q_rs, q_if, q_gi, q_gi', q_gl, q_gl', q_ga, q_ga', q_s1, q_s1n, q_s1i, q_s1r, q_s1', q_s2, q_s2n, q_s2i, q_s2r, q_s2', q_ar0, q_ar, q_w0, q_wi, q_wl, q_wr, q_wii, q_wil, q_wli, q_wll, q_wir, q_wri, q_wlr, q_wrl, q_wrr, q_wirr, q_wiir, q_wiii, q_ni, q_nl, q_fi, q_fl, q_z0, q_z1, q_fz0, q_fz1, q_ts, q_tn, q_e, q_ci, q_cr, q_rfs, decide_true, Bool.and_true, Bool.and_self, Nat.zero_add, Nat.reduceAdd, Nat.reduceBEq, beq_self_eq_true, ↓reduceIte]
  unfold wWays
  repeat' split
  all_goals first
    | rfl
    | simp_all [b2i, noCol, noPart, noLk, wCabs, wSheet, wPart, wWays, Int32.not_lt, Int32.not_le])
theorem c_62 {X : pm_X} {d : Nat} {I : st_I} {J : st_J} {a b e : Int32} {F}  : pv_call X (d + 3) 62 [.int a, .int b, .int e] (st_E I J) F = F (some (.int (wSeen a b e))) (st_E (I) (J)) := pv_call_ev rfl (by
  show pm_ev X (d + 3) 62 (0, [some (.int a), some (.int b), some (.int e)], [], st_E I J) = _
  simp only [ps_62_0, ps_62_1, ps_62_2, ps_62_4, ps_62_6, ps_62_9, ps_62_10, ps_62_13, q_i1, q_i2, q_l1, q_l2, q_r1, q_v1, q_rs, q_if, q_gi, q_gi', q_gl, q_gl', q_ga, q_ga', q_s1, q_s1n, q_s1i, q_s1r, q_s1', q_s2, q_s2n, q_s2i, q_s2r, q_s2', q_ar0, q_ar, q_w0, q_wi, q_wl, q_wr, q_wii, q_wil, q_wli, q_wll, q_wir, q_wri, q_wlr, q_wrl, q_wrr, q_wirr, q_wiir, q_wiii, q_ni, q_nl, q_fi, q_fl, q_z0, q_z1, q_fz0, q_fz1, q_ts, q_tn, q_e, q_ci, q_cr, q_rfs, decide_true, Bool.and_true, Bool.and_self, Nat.zero_add, Nat.reduceAdd, Nat.reduceBEq, beq_self_eq_true, ↓reduceIte, c_63, c_64]
  rfl)
def wOff (L l n k p : Int32) : Int32 := if noLk L l = true then -1 else wPart (wWays n k 10 4) p
theorem c_77 {X : pm_X} {d : Nat} {I : st_I} {J : st_J} {l a b e : Int32} {F}  : pv_call X (d + 3) 77 [.ref 0, .int l, .int a, .int b, .int e] (st_E I J) F = F (some (.int (wOff (I 1 5) l a b e))) (st_E (I) (J)) := pv_call_ev rfl (by
  show pm_ev X (d + 3) 77 (0, [some (.ref 0), some (.int l), some (.int a), some (.int b), some (.int e)], [], st_E I J) = _
  simp only [ps_77_0, ps_77_1, ps_77_2, ps_77_5, ps_77_8, ps_77_9, ps_77_10, ps_77_11, ps_77_12, ps_77_14, ps_77_15, ps_77_18, ps_77_20, ps_77_23, q_i1, q_i2, q_l1, q_l2, q_r1, q_v1, q_rs, q_if, q_gi, q_gi', q_gl, q_gl', q_ga, q_ga', q_s1, q_s1n, q_s1i, q_s1r, q_s1', q_s2, q_s2n, q_s2i, q_s2r, q_s2', q_ar0, q_ar, q_w0, q_wi, q_wl, q_wr, q_wii, q_wil, q_wli, q_wll, q_wir, q_wri, q_wlr, q_wrl, q_wrr, q_wirr, q_wiir, q_wiii, q_ni, q_nl, q_fi, q_fl, q_z0, q_z1, q_fz0, q_fz1, q_ts, q_tn, q_e, q_ci, q_cr, q_rfs, decide_true, Bool.and_true, Bool.and_self, Nat.zero_add, Nat.reduceAdd, Nat.reduceBEq, beq_self_eq_true, ↓reduceIte, c_43, c_63, c_64, b2i_e, b2i_n]
  unfold wOff
  repeat' split
  all_goals first
    | rfl
    | simp_all [b2i, noCol, noPart, noLk, wCabs, wSheet, wPart, wWays, Int32.not_lt, Int32.not_le])
theorem c_139 {X : pm_X} {d : Nat} {I : st_I} {J : st_J} {a b e : Int32} {F}  : pv_call X (d + 1) 139 [.int a, .int b, .int e] (st_E I J) F = F (some (.int (b2i (decide (b ≤ a) && decide (a ≤ e))))) (st_E (I) (J)) := pv_call_ev rfl (by
  show pm_ev X (d + 1) 139 (0, [some (.int a), some (.int b), some (.int e)], [], st_E I J) = _
  simp only [ps_139_0, ps_139_1, ps_139_2, ps_139_5, ps_139_6, ps_139_7, ps_139_10, ps_139_11, ps_139_14, ps_139_15, q_i1, q_i2, q_l1, q_l2, q_r1, q_v1, q_rs, q_if, q_gi, q_gi', q_gl, q_gl', q_ga, q_ga', q_s1, q_s1n, q_s1i, q_s1r, q_s1', q_s2, q_s2n, q_s2i, q_s2r, q_s2', q_ar0, q_ar, q_w0, q_wi, q_wl, q_wr, q_wii, q_wil, q_wli, q_wll, q_wir, q_wri, q_wlr, q_wrl, q_wrr, q_wirr, q_wiir, q_wiii, q_ni, q_nl, q_fi, q_fl, q_z0, q_z1, q_fz0, q_fz1, q_ts, q_tn, q_e, q_ci, q_cr, q_rfs, decide_true, Bool.and_true, Bool.and_self, Nat.zero_add, Nat.reduceAdd, Nat.reduceBEq, beq_self_eq_true, ↓reduceIte]
  unfold b2i
  repeat' split
  all_goals first
    | rfl
    | simp_all [b2i, noCol, noPart, noLk, wCabs, wSheet, wPart, wWays, Int32.not_lt, Int32.not_le])
theorem c_132 {X : pm_X} {d : Nat} {I : st_I} {J : st_J} {a b e : Int32} {F}  : pv_call X (d + 1) 132 [.int a, .int b, .int e] (st_E I J) F = F (some (.int (if a < b then -4 else if e < a then -6 else 0))) (st_E (I) (J)) := pv_call_ev rfl (by
  show pm_ev X (d + 1) 132 (0, [some (.int a), some (.int b), some (.int e)], [], st_E I J) = _
  simp only [ps_132_0, ps_132_1, ps_132_2, ps_132_5, ps_132_7, ps_132_10, ps_132_11, ps_132_12, ps_132_15, ps_132_17, ps_132_20, ps_132_21, q_i1, q_i2, q_l1, q_l2, q_r1, q_v1, q_rs, q_if, q_gi, q_gi', q_gl, q_gl', q_ga, q_ga', q_s1, q_s1n, q_s1i, q_s1r, q_s1', q_s2, q_s2n, q_s2i, q_s2r, q_s2', q_ar0, q_ar, q_w0, q_wi, q_wl, q_wr, q_wii, q_wil, q_wli, q_wll, q_wir, q_wri, q_wlr, q_wrl, q_wrr, q_wirr, q_wiir, q_wiii, q_ni, q_nl, q_fi, q_fl, q_z0, q_z1, q_fz0, q_fz1, q_ts, q_tn, q_e, q_ci, q_cr, q_rfs, decide_true, Bool.and_true, Bool.and_self, Nat.zero_add, Nat.reduceAdd, Nat.reduceBEq, beq_self_eq_true, ↓reduceIte]
  repeat' split
  all_goals first
    | rfl
    | simp_all [b2i, noCol, noPart, noLk, wCabs, wSheet, wPart, wWays, Int32.not_lt, Int32.not_le])
theorem c_191 {X : pm_X} {d : Nat} {I : st_I} {J : st_J} {a b : Int32} {F}  : pv_call X (d + 1) 191 [.int a, .int b] (st_E I J) F = F (some (.int (b2i (decide (a >>> (b &&& 31) &&& 1 = 1))))) (st_E (I) (J)) := pv_call_ev rfl (by
  show pm_ev X (d + 1) 191 (0, [some (.int a), some (.int b)], [], st_E I J) = _
  simp only [ps_191_0, ps_191_1, ps_191_2, ps_191_3, ps_191_4, ps_191_5, ps_191_6, ps_191_9, ps_191_10, ps_191_13, ps_191_14, q_i1, q_i2, q_l1, q_l2, q_r1, q_v1, q_rs, q_if, q_gi, q_gi', q_gl, q_gl', q_ga, q_ga', q_s1, q_s1n, q_s1i, q_s1r, q_s1', q_s2, q_s2n, q_s2i, q_s2r, q_s2', q_ar0, q_ar, q_w0, q_wi, q_wl, q_wr, q_wii, q_wil, q_wli, q_wll, q_wir, q_wri, q_wlr, q_wrl, q_wrr, q_wirr, q_wiir, q_wiii, q_ni, q_nl, q_fi, q_fl, q_z0, q_z1, q_fz0, q_fz1, q_ts, q_tn, q_e, q_ci, q_cr, q_rfs, decide_true, Bool.and_true, Bool.and_self, Nat.zero_add, Nat.reduceAdd, Nat.reduceBEq, beq_self_eq_true, ↓reduceIte]
  unfold b2i
  repeat' split
  all_goals first
    | rfl
    | simp_all [b2i, noCol, noPart, noLk, wCabs, wSheet, wPart, wWays, Int32.not_lt, Int32.not_le])
theorem c_146 {X : pm_X} {d : Nat} {I : st_I} {J : st_J} {c : Int32} {F}  : pv_call X (d + 1) 146 [.int c] (st_E I J) F = F (some (.int (b2i (!noCol c)))) (st_E (I) (J)) := pv_call_ev rfl (by
  show pm_ev X (d + 1) 146 (0, [some (.int c)], [], st_E I J) = _
  simp only [ps_146_0, ps_146_1, ps_146_4, ps_146_5, ps_146_6, ps_146_9, ps_146_10, ps_146_13, ps_146_14, q_i1, q_i2, q_l1, q_l2, q_r1, q_v1, q_rs, q_if, q_gi, q_gi', q_gl, q_gl', q_ga, q_ga', q_s1, q_s1n, q_s1i, q_s1r, q_s1', q_s2, q_s2n, q_s2i, q_s2r, q_s2', q_ar0, q_ar, q_w0, q_wi, q_wl, q_wr, q_wii, q_wil, q_wli, q_wll, q_wir, q_wri, q_wlr, q_wrl, q_wrr, q_wirr, q_wiir, q_wiii, q_ni, q_nl, q_fi, q_fl, q_z0, q_z1, q_fz0, q_fz1, q_ts, q_tn, q_e, q_ci, q_cr, q_rfs, decide_true, Bool.and_true, Bool.and_self, Nat.zero_add, Nat.reduceAdd, Nat.reduceBEq, beq_self_eq_true, ↓reduceIte]
  rw [← isCol_eq]
  unfold b2i
  repeat' split
  all_goals first
    | rfl
    | simp_all [b2i, noCol, noPart, noLk, wCabs, wSheet, wPart, wWays, Int32.not_lt, Int32.not_le])
theorem c_150 {X : pm_X} {d : Nat} {I : st_I} {J : st_J} {l : Int32} {F}  : pv_call X (d + 1) 150 [.ref 36, .int l] (st_E I J) F = F (some (.int (b2i (!noLk (I 36 7) l)))) (st_E (I) (J)) := pv_call_ev rfl (by
  show pm_ev X (d + 1) 150 (0, [some (.ref 36), some (.int l)], [], st_E I J) = _
  simp only [ps_150_0, ps_150_1, ps_150_4, ps_150_5, ps_150_6, ps_150_9, ps_150_12, ps_150_13, ps_150_16, ps_150_17, q_i1, q_i2, q_l1, q_l2, q_r1, q_v1, q_rs, q_if, q_gi, q_gi', q_gl, q_gl', q_ga, q_ga', q_s1, q_s1n, q_s1i, q_s1r, q_s1', q_s2, q_s2n, q_s2i, q_s2r, q_s2', q_ar0, q_ar, q_w0, q_wi, q_wl, q_wr, q_wii, q_wil, q_wli, q_wll, q_wir, q_wri, q_wlr, q_wrl, q_wrr, q_wirr, q_wiir, q_wiii, q_ni, q_nl, q_fi, q_fl, q_z0, q_z1, q_fz0, q_fz1, q_ts, q_tn, q_e, q_ci, q_cr, q_rfs, decide_true, Bool.and_true, Bool.and_self, Nat.zero_add, Nat.reduceAdd, Nat.reduceBEq, beq_self_eq_true, ↓reduceIte, fg_36_7]
  rw [← noLk_eq]
  unfold b2i
  repeat' split
  all_goals first
    | rfl
    | simp_all [b2i, noCol, noPart, noLk, wCabs, wSheet, wPart, wWays, Int32.not_lt, Int32.not_le])
theorem c_178 {X : pm_X} {d : Nat} {I : st_I} {J : st_J} {c n : Int32} {F}  : pv_call X (d + 2) 178 [.int c, .int n] (st_E I J) F = F (some (.int (wSheet c n))) (st_E (I) (J)) := pv_call_ev rfl (by
  show pm_ev X (d + 2) 178 (0, [some (.int c), some (.int n)], [], st_E I J) = _
  simp only [ps_178_0, ps_178_1, ps_178_4, ps_178_7, ps_178_8, ps_178_11, ps_178_12, ps_178_13, ps_178_15, ps_178_18, q_i1, q_i2, q_l1, q_l2, q_r1, q_v1, q_rs, q_if, q_gi, q_gi', q_gl, q_gl', q_ga, q_ga', q_s1, q_s1n, q_s1i, q_s1r, q_s1', q_s2, q_s2n, q_s2i, q_s2r, q_s2', q_ar0, q_ar, q_w0, q_wi, q_wl, q_wr, q_wii, q_wil, q_wli, q_wll, q_wir, q_wri, q_wlr, q_wrl, q_wrr, q_wirr, q_wiir, q_wiii, q_ni, q_nl, q_fi, q_fl, q_z0, q_z1, q_fz0, q_fz1, q_ts, q_tn, q_e, q_ci, q_cr, q_rfs, decide_true, Bool.and_true, Bool.and_self, Nat.zero_add, Nat.reduceAdd, Nat.reduceBEq, beq_self_eq_true, ↓reduceIte, c_146, c_132, b2i_e, b2i_n]
  unfold wSheet wCabs
  repeat' split
  all_goals first
    | rfl
    | simp_all [b2i, noCol, noPart, noLk, wCabs, wSheet, wPart, wWays, Int32.not_lt, Int32.not_le])
theorem c_187 {X : pm_X} {d : Nat} {I : st_I} {J : st_J} {a b : Int32} {F}  : pv_call X (d + 1) 187 [.int a, .int b] (st_E I J) F = F (some (.int (wWays a b 10 4))) (st_E (I) (J)) := pv_call_ev rfl (by
  show pm_ev X (d + 1) 187 (0, [some (.int a), some (.int b)], [], st_E I J) = _
  simp only [ps_187_0, ps_187_1, ps_187_2, ps_187_5, ps_187_6, ps_187_7, ps_187_10, ps_187_12, ps_187_15, ps_187_16, ps_187_18, ps_187_21, ps_187_22, ps_187_23, ps_187_26, ps_187_27, ps_187_28, ps_187_31, ps_187_33, ps_187_36, ps_187_37, q_i1, q_i2, q_l1, q_l2, q_r1, q_v1, q_rs, q_if, q_gi, q_gi', q_gl, q_gl', q_ga, q_ga', q_s1, q_s1n, q_s1i, q_s1r, q_s1', q_s2, q_s2n, q_s2i, q_s2r, q_s2', q_ar0, q_ar, q_w0, q_wi, q_wl, q_wr, q_wii, q_wil, q_wli, q_wll, q_wir, q_wri, q_wlr, q_wrl, q_wrr, q_wirr, q_wiir, q_wiii, q_ni, q_nl, q_fi, q_fl, q_z0, q_z1, q_fz0, q_fz1, q_ts, q_tn, q_e, q_ci, q_cr, q_rfs, decide_true, Bool.and_true, Bool.and_self, Nat.zero_add, Nat.reduceAdd, Nat.reduceBEq, beq_self_eq_true, ↓reduceIte]
  unfold wWays
  repeat' split
  all_goals first
    | rfl
    | simp_all [b2i, noCol, noPart, noLk, wCabs, wSheet, wPart, wWays, Int32.not_lt, Int32.not_le])
theorem c_168 {X : pm_X} {d : Nat} {I : st_I} {J : st_J} {a b e : Int32} {F}  : pv_call X (d + 2) 168 [.int a, .int b, .int e] (st_E I J) F = F (some (.int (wSeen a b e))) (st_E (I) (J)) := pv_call_ev rfl (by
  show pm_ev X (d + 2) 168 (0, [some (.int a), some (.int b), some (.int e), none], [], st_E I J) = _
  simp only [ps_168_0, ps_168_1, ps_168_2, ps_168_5, ps_168_6, ps_168_7, ps_168_10, ps_168_12, ps_168_15, ps_168_16, ps_168_18, ps_168_21, ps_168_22, ps_168_24, ps_168_27, ps_168_28, ps_168_29, ps_168_32, ps_168_34, ps_168_37, ps_168_38, ps_168_39, ps_168_40, ps_168_43, ps_168_44, ps_168_47, ps_168_48, ps_168_49, ps_168_50, ps_168_53, ps_168_56, ps_168_57, ps_168_60, ps_168_62, q_i1, q_i2, q_l1, q_l2, q_r1, q_v1, q_rs, q_if, q_gi, q_gi', q_gl, q_gl', q_ga, q_ga', q_s1, q_s1n, q_s1i, q_s1r, q_s1', q_s2, q_s2n, q_s2i, q_s2r, q_s2', q_ar0, q_ar, q_w0, q_wi, q_wl, q_wr, q_wii, q_wil, q_wli, q_wll, q_wir, q_wri, q_wlr, q_wrl, q_wrr, q_wirr, q_wiir, q_wiii, q_ni, q_nl, q_fi, q_fl, q_z0, q_z1, q_fz0, q_fz1, q_ts, q_tn, q_e, q_ci, q_cr, q_rfs, decide_true, Bool.and_true, Bool.and_self, Nat.zero_add, Nat.reduceAdd, Nat.reduceBEq, beq_self_eq_true, ↓reduceIte, c_139, b2i_e, b2i_n, noPart_eq]
  unfold wSeen wPart wWays
  repeat' split
  all_goals first
    | rfl
    | simp_all [b2i, noCol, noPart, noLk, wCabs, wSheet, wPart, wWays, Int32.not_lt, Int32.not_le])
theorem c_186 {X : pm_X} {d : Nat} {I : st_I} {J : st_J} {l a b e : Int32} {F}  : pv_call X (d + 2) 186 [.ref 36, .int l, .int a, .int b, .int e] (st_E I J) F = F (some (.int (wOff (I 36 7) l a b e))) (st_E (I) (J)) := pv_call_ev rfl (by
  show pm_ev X (d + 2) 186 (0, [some (.ref 36), some (.int l), some (.int a), some (.int b), some (.int e), none], [], st_E I J) = _
  simp only [ps_186_0, ps_186_1, ps_186_2, ps_186_5, ps_186_8, ps_186_9, ps_186_12, ps_186_13, ps_186_14, ps_186_17, ps_186_19, ps_186_21, ps_186_24, ps_186_26, ps_186_29, ps_186_31, ps_186_32, ps_186_33, ps_186_36, ps_186_39, ps_186_40, ps_186_43, ps_186_45, q_i1, q_i2, q_l1, q_l2, q_r1, q_v1, q_rs, q_if, q_gi, q_gi', q_gl, q_gl', q_ga, q_ga', q_s1, q_s1n, q_s1i, q_s1r, q_s1', q_s2, q_s2n, q_s2i, q_s2r, q_s2', q_ar0, q_ar, q_w0, q_wi, q_wl, q_wr, q_wii, q_wil, q_wli, q_wll, q_wir, q_wri, q_wlr, q_wrl, q_wrr, q_wirr, q_wiir, q_wiii, q_ni, q_nl, q_fi, q_fl, q_z0, q_z1, q_fz0, q_fz1, q_ts, q_tn, q_e, q_ci, q_cr, q_rfs, decide_true, Bool.and_true, Bool.and_self, Nat.zero_add, Nat.reduceAdd, Nat.reduceBEq, beq_self_eq_true, ↓reduceIte, c_139, c_150, c_187, b2i_e, b2i_n, noPart_eq]
  unfold wOff wPart
  repeat' split
  all_goals first
    | rfl
    | simp_all [b2i, noCol, noPart, noLk, wCabs, wSheet, wPart, wWays, Int32.not_lt, Int32.not_le])
theorem c_198 {X : pm_X} {d : Nat} {I : st_I} {J : st_J} {a b : Int32} {F}  : pv_call X (d + 2) 198 [.int a, .int b] (st_E I J) F = F (some (.int (wPart (wCabs a) b))) (st_E (I) (J)) := pv_call_ev rfl (by
  show pm_ev X (d + 2) 198 (0, [some (.int a), some (.int b), none], [], st_E I J) = _
  simp only [ps_198_0, ps_198_1, ps_198_2, ps_198_4, ps_198_7, ps_198_8, ps_198_9, ps_198_12, ps_198_13, ps_198_16, ps_198_17, ps_198_18, ps_198_19, ps_198_22, ps_198_25, ps_198_26, ps_198_29, ps_198_31, q_i1, q_i2, q_l1, q_l2, q_r1, q_v1, q_rs, q_if, q_gi, q_gi', q_gl, q_gl', q_ga, q_ga', q_s1, q_s1n, q_s1i, q_s1r, q_s1', q_s2, q_s2n, q_s2i, q_s2r, q_s2', q_ar0, q_ar, q_w0, q_wi, q_wl, q_wr, q_wii, q_wil, q_wli, q_wll, q_wir, q_wri, q_wlr, q_wrl, q_wrr, q_wirr, q_wiir, q_wiii, q_ni, q_nl, q_fi, q_fl, q_z0, q_z1, q_fz0, q_fz1, q_ts, q_tn, q_e, q_ci, q_cr, q_rfs, decide_true, Bool.and_true, Bool.and_self, Nat.zero_add, Nat.reduceAdd, Nat.reduceBEq, beq_self_eq_true, ↓reduceIte, c_139, c_132, b2i_e, b2i_n, noPart_eq]
  unfold wPart wCabs
  repeat' split
  all_goals first
    | rfl
    | simp_all [b2i, noCol, noPart, noLk, wCabs, wSheet, wPart, wWays, Int32.not_lt, Int32.not_le])
def wCP (c p : Int32) : Int32 := if noCol c = true then -1 else if noPart p = true then -2 else 0
theorem c_204 {X : pm_X} {d : Nat} {I : st_I} {J : st_J} {a b : Int32} {F}  : pv_call X (d + 2) 204 [.int a, .int b] (st_E I J) F = F (some (.int (wCP a b))) (st_E (I) (J)) := pv_call_ev rfl (by
  show pm_ev X (d + 2) 204 (0, [some (.int a), some (.int b)], [], st_E I J) = _
  simp only [ps_204_0, ps_204_1, ps_204_4, ps_204_7, ps_204_8, ps_204_11, ps_204_12, ps_204_13, ps_204_14, ps_204_17, ps_204_20, ps_204_21, ps_204_24, ps_204_26, q_i1, q_i2, q_l1, q_l2, q_r1, q_v1, q_rs, q_if, q_gi, q_gi', q_gl, q_gl', q_ga, q_ga', q_s1, q_s1n, q_s1i, q_s1r, q_s1', q_s2, q_s2n, q_s2i, q_s2r, q_s2', q_ar0, q_ar, q_w0, q_wi, q_wl, q_wr, q_wii, q_wil, q_wli, q_wll, q_wir, q_wri, q_wlr, q_wrl, q_wrr, q_wirr, q_wiir, q_wiii, q_ni, q_nl, q_fi, q_fl, q_z0, q_z1, q_fz0, q_fz1, q_ts, q_tn, q_e, q_ci, q_cr, q_rfs, decide_true, Bool.and_true, Bool.and_self, Nat.zero_add, Nat.reduceAdd, Nat.reduceBEq, beq_self_eq_true, ↓reduceIte, c_139, c_146, b2i_e, b2i_n, noPart_eq]
  unfold wCP
  repeat' split
  all_goals first
    | rfl
    | simp_all [b2i, noCol, noPart, noLk, wCabs, wSheet, wPart, wWays, Int32.not_lt, Int32.not_le])
