/-! the two objects are made -/
def st_G (n : Nat) (C : Nat → va_E) : List va_E := (List.range n).map C
def upE (C : Nat → va_E) (a : Nat) (e : va_E) : Nat → va_E := fun b => if b = a then e else C b
theorem upEA (C : Nat → va_E) (a : Nat) (e : va_E) (b : Nat) : upE C a e b = if b = a then e else C b := rfl
theorem upE_uu (C : Nat → va_E) (a : Nat) (e e' : va_E) : upE (upE C a e) a e' = upE C a e' := by
  funext b
  rw [upEA, upEA, upEA]
  split <;> rfl
theorem upE_s (C : Nat → va_E) (a : Nat) : upE C a (C a) = C := by
  funext b
  rw [upEA]
  split
  · rename_i e; rw [e]
  · rfl
theorem g_len (n : Nat) (C : Nat → va_E) : (st_G n C).length = n := by simp [st_G]
theorem g_get {n a : Nat} {C : Nat → va_E} (h : a < n) : (st_G n C)[a]? = some (C a) := by
  simp [st_G, List.getElem?_range, h]
theorem g_app (n : Nat) (C : Nat → va_E) (e : va_E) : st_G n C ++ [e] = st_G (n + 1) (upE C n e) := by
  unfold st_G
  rw [List.range_succ, List.map_append]
  congr 1
  · apply List.map_congr_left
    intro b hb
    have : b < n := List.mem_range.mp hb
    rw [upEA, if_neg (by omega)]
  · show [e] = [upE C n e n]
    rw [upEA, if_pos rfl]
theorem g_set {n a : Nat} {C : Nat → va_E} (e : va_E) : (st_G n C).set a e = st_G n (upE C a e) := by
  apply List.ext_getElem?
  intro b
  rw [List.getElem?_set, g_len]
  by_cases hb : b < n
  · rw [g_get hb, g_get hb, upEA]
    by_cases q : a = b
    · subst q; rw [if_pos rfl, if_pos hb, if_pos rfl]
    · rw [if_neg q, if_neg (fun z => q z.symm)]
  · rw [List.getElem?_eq_none (l := st_G n C) (by rw [g_len]; omega), List.getElem?_eq_none (l := st_G n (upE C a e)) (by rw [g_len]; omega)]
    by_cases q : a = b
    · subst q; rw [if_pos rfl, if_neg hb]
    · rw [if_neg q]
def eV (o : Option Value) (F : Value → pv_R) : pv_R := match o with
  | some v => F v
  | none => none
def eFg (e : va_E) (ci k : Nat) (F : Value → pv_R) : pv_R := match e with
  | .inr (c, fs) => pv_if (c == ci) (eV fs[k]? F)
  | .inl _ => none
def eFp (e : va_E) (ci k : Nat) (v : Value) (F : va_E → pv_R) : pv_R := match e with
  | .inr (c, fs) => pv_if (c == ci && decide (k < fs.length)) (F (.inr (c, fs.set k v)))
  | .inl _ => none
def eOc (e : va_E) (F : Nat → pv_R) : pv_R := match e with
  | .inr (c, _) => F c
  | .inl _ => none
def eWi (e : va_E) (j x : Int32) (F : va_E → pv_R) : pv_R := match e with
  | .inl (0, n, .inl f) => pv_if (pm_ok j n) (F (.inl (0, n, .inl (upd f j.toNatClampNeg x))))
  | _ => none
def eWq (e : va_E) (j : Int32) (v : Nat) (ev : va_E) (F : va_E → pv_R) : pv_R := match e with
  | .inl (2, n, .inr (.inr (.inr (.inr f)))) => eOc ev fun c => pv_if (pm_ok j n && c == 1) (F (.inl (2, n, .inr (.inr (.inr (.inr (va_up f j.toNatClampNeg (some v))))))))
  | _ => none
theorem g_fg {n a ci k : Nat} {C : Nat → va_E} {F : Value → pv_R} (h : a < n) : pv_fg (st_G n C) a ci k F = eFg (C a) ci k F := by
  unfold pv_fg eFg
  rw [g_get h]
  cases C a with
  | inl x => rfl
  | inr x => rfl
theorem g_fp {n a ci k : Nat} {C : Nat → va_E} {v : Value} {F : List va_E → pv_R} (h : a < n) : pv_fp (st_G n C) a ci k v F = eFp (C a) ci k v (fun e => F (st_G n (upE C a e))) := by
  unfold pv_fp eFp
  rw [g_get h]
  cases C a with
  | inl x => rfl
  | inr x => simp only [g_set]
theorem g_wi {n a : Nat} {j x : Int32} {C : Nat → va_E} {F : List va_E → pv_R} (h : a < n) : pv_wi (st_G n C) a j x F = eWi (C a) j x (fun e => F (st_G n (upE C a e))) := by
  unfold pv_wi pv_ai eWi
  rw [g_get h]
  simp only [g_set]
  generalize C a = e
  split
  · rename_i q
    cases Option.some.inj q
    rfl
  · rename_i q
    split
    · exact (q _ _ rfl).elim
    · rfl
theorem g_wq {n a v : Nat} {j : Int32} {C : Nat → va_E} {F : List va_E → pv_R} (h : a < n) (h2 : v < n) : pv_wq (st_G n C) a j v F = eWq (C a) j v (C v) (fun e => F (st_G n (upE C a e))) := by
  unfold pv_wq pv_aq pv_oc eWq eOc
  rw [g_get h, g_get h2]
  simp only [g_set]
  generalize C a = e
  generalize C v = ev
  split
  · rename_i q
    cases Option.some.inj q
    cases ev with
    | inl x => rfl
    | inr x => rfl
  · rename_i q
    split
    · exact (q _ _ rfl).elim
    · rfl
theorem e_fg {c ci k : Nat} {fs : List Value} {F : Value → pv_R} : eFg (.inr (c, fs)) ci k F = pv_if (c == ci) (eV fs[k]? F) := rfl
theorem e_fp {c ci k : Nat} {fs : List Value} {v : Value} {F : va_E → pv_R} : eFp (.inr (c, fs)) ci k v F = pv_if (c == ci && decide (k < fs.length)) (F (.inr (c, fs.set k v))) := rfl
theorem e_v {v : Value} {F : Value → pv_R} : eV (some v) F = F v := rfl
theorem e_wi {n : Nat} {f : Nat → Int32} {j x : Int32} {F : va_E → pv_R} : eWi (.inl (0, n, .inl f)) j x F = pv_if (pm_ok j n) (F (.inl (0, n, .inl (upd f j.toNatClampNeg x)))) := rfl
theorem e_wq {n c v : Nat} {fs : List Value} {f : Nat → Option Nat} {j : Int32} {F : va_E → pv_R} : eWq (.inl (2, n, .inr (.inr (.inr (.inr f))))) j v (.inr (c, fs)) F = pv_if (pm_ok j n && c == 1) (F (.inl (2, n, .inr (.inr (.inr (.inr (va_up f j.toNatClampNeg (some v)))))))) := rfl
theorem df_0 : pm_df 0 = [.null, .int 0] := rfl
theorem df_1 : pm_df 1 = [.null, .int 0] := rfl
theorem df_2 : pm_df 2 = [.int 0, .int 0, .int 0, .int 0] := rfl
theorem df_3 : pm_df 3 = [.null, .null, .null, .null, .null, .int 0] := rfl
theorem df_4 : pm_df 4 = [.null, .null, .null, .null, .null, .null, .null, .int 0, .int 0] := rfl
theorem df_5 : pm_df 5 = [.null, .null, .null, .null, .null, .null, .null, .int 0, .null, .null, .null, .null, .int 0, .int 0, .int 0, .null, .int 0, .int 0, .int 0, .int 0, .int 0, .int 0, .int 0, .long 0, .long 0, .null, .null, .null, .int 0, .int 0] := rfl
def blF (i : Nat) : Nat → Int32 := fun k => if 1 ≤ k ∧ k ≤ i then 1 else 0
theorem blF_0 : (fun _ => 0 : Nat → Int32) = blF 0 := by
  funext k
  unfold blF
  rw [if_neg (by omega)]
theorem blF_S (i : Nat) : upd (blF i) (i + 1) 1 = blF (i + 1) := by
  funext k
  rw [updA]
  unfold blF
  by_cases e : k = i + 1
  · rw [if_pos e, if_pos (by omega)]
  · rw [if_neg e]
    by_cases q : 1 ≤ k ∧ k ≤ i
    · rw [if_pos q, if_pos (by omega)]
    · rw [if_neg q, if_neg (by omega)]
theorem nr_0 (a : Nat) : decide (narrow (.array .int) (.ref a) = .ref a) = true := decide_eq_true rfl
theorem fr_0 (a : Nat) : fits (.array .int) (.ref a) = true := rfl
theorem nr_1 (a : Nat) : decide (narrow (.array .long) (.ref a) = .ref a) = true := decide_eq_true rfl
theorem fr_1 (a : Nat) : fits (.array .long) (.ref a) = true := rfl
theorem nr_2 (a : Nat) : decide (narrow (.object "SixtyOneCabs$World") (.ref a) = .ref a) = true := decide_eq_true rfl
theorem fr_2 (a : Nat) : fits (.object "SixtyOneCabs$World") (.ref a) = true := rfl
theorem nr_3 (a : Nat) : decide (narrow (.object "SixtyOneCabs$Letters") (.ref a) = .ref a) = true := decide_eq_true rfl
theorem fr_3 (a : Nat) : fits (.object "SixtyOneCabs$Letters") (.ref a) = true := rfl
theorem nr_4 (a : Nat) : decide (narrow (.object "SixtyOneCabs$Tally") (.ref a) = .ref a) = true := decide_eq_true rfl
theorem fr_4 (a : Nat) : fits (.object "SixtyOneCabs$Tally") (.ref a) = true := rfl
theorem nr_5 (a : Nat) : decide (narrow (.array (.object "SixtyOneCabs$Sheet")) (.ref a) = .ref a) = true := decide_eq_true rfl
theorem fr_5 (a : Nat) : fits (.array (.object "SixtyOneCabs$Sheet")) (.ref a) = true := rfl
theorem na_2 : (!decide ((2 : Int32) < 0) && decide (Int32.toNatClampNeg 2 ≤ 1000)) = true := by decide
theorem nt_2 : Int32.toNatClampNeg 2 = 2 := rfl
theorem na_6 : (!decide ((6 : Int32) < 0) && decide (Int32.toNatClampNeg 6 ≤ 1000)) = true := by decide
theorem nt_6 : Int32.toNatClampNeg 6 = 6 := rfl
theorem na_7 : (!decide ((7 : Int32) < 0) && decide (Int32.toNatClampNeg 7 ≤ 1000)) = true := by decide
theorem nt_7 : Int32.toNatClampNeg 7 = 7 := rfl
theorem na_8 : (!decide ((8 : Int32) < 0) && decide (Int32.toNatClampNeg 8 ≤ 1000)) = true := by decide
theorem nt_8 : Int32.toNatClampNeg 8 = 8 := rfl
theorem na_12 : (!decide ((12 : Int32) < 0) && decide (Int32.toNatClampNeg 12 ≤ 1000)) = true := by decide
theorem nt_12 : Int32.toNatClampNeg 12 = 12 := rfl
theorem na_16 : (!decide ((16 : Int32) < 0) && decide (Int32.toNatClampNeg 16 ≤ 1000)) = true := by decide
theorem nt_16 : Int32.toNatClampNeg 16 = 16 := rfl
theorem na_17 : (!decide ((17 : Int32) < 0) && decide (Int32.toNatClampNeg 17 ≤ 1000)) = true := by decide
theorem nt_17 : Int32.toNatClampNeg 17 = 17 := rfl
theorem na_48 : (!decide ((48 : Int32) < 0) && decide (Int32.toNatClampNeg 48 ≤ 1000)) = true := by decide
theorem nt_48 : Int32.toNatClampNeg 48 = 48 := rfl
theorem na_96 : (!decide ((96 : Int32) < 0) && decide (Int32.toNatClampNeg 96 ≤ 1000)) = true := by decide
theorem nt_96 : Int32.toNatClampNeg 96 = 96 := rfl
theorem na_100 : (!decide ((100 : Int32) < 0) && decide (Int32.toNatClampNeg 100 ≤ 1000)) = true := by decide
theorem nt_100 : Int32.toNatClampNeg 100 = 100 := rfl
theorem k_2_3 {X : pm_X} {d : Nat} {C : Nat → va_E} {F} : pv_call X (d + 1) 2 [.ref 3] (st_G 4 (upE C 3 (.inr (1, [.null, .int 0])))) F = F none (st_G 5 (upE (upE (C) 3 (.inr (1, [.ref 4, .int 0]))) 4 (.inl (0, 6, .inl (fun _ => 0))))) := pv_call_ev rfl (by
  show pm_ev X (d + 1) 2 (0, [some (.ref 3)], [], _) = _
  simp only [↓ps_2_0, ↓ps_2_1, ↓ps_2_4, ↓ps_2_5, ↓ps_2_7, ↓ps_2_9, ↓ps_2_12, ↓ps_2_13, ↓ps_2_14, ↓ps_2_17, ↓q_i1, ↓q_i2, ↓q_l1, ↓q_l2, ↓q_r1, ↓q_v1, ↓q_rs, ↓q_if, ↓q_gi, ↓q_gi', ↓q_gl, ↓q_gl', ↓q_ga, ↓q_ga', ↓q_s1, ↓q_s1n, ↓q_s1i, ↓q_s1r, ↓q_s1', ↓q_s2, ↓q_s2n, ↓q_s2i, ↓q_s2r, ↓q_s2', ↓q_ar0, ↓q_ar, q_w0, q_wi, q_wl, q_wr, q_wii, q_wil, q_wli, q_wll, q_wir, q_wri, q_wlr, q_wrl, q_wrr, q_wirr, q_wiir, q_wiii, q_ni, q_nl, q_fi, q_fl, q_z0, q_z1, q_fz0, q_fz1, ↓q_ts, ↓q_tn, q_e, q_ci, q_cr, ↓q_rfs, decide_true, Bool.and_true, Bool.and_self, Nat.zero_add, Nat.reduceAdd, Nat.reduceBEq, beq_self_eq_true, q_le, q_lel, q_ge, q_gel, q_gt, q_gtl, ite_not, Bool.not_eq_true', Bool.not_eq_false', ↓reduceIte, g_len, g_app, ↓g_fg, ↓g_fp, ↓g_wi, ↓g_wq, e_fg, e_fp, e_v, e_wi, e_wq, df_0, df_1, df_2, df_3, df_4, df_5, upEA, upE_uu, List.getElem?_cons_zero, List.getElem?_cons_succ, List.set_cons_zero, List.set_cons_succ, List.length_cons, List.length_nil, Nat.reduceLT, Nat.reduceAdd, Nat.reduceEqDiff, Nat.reduceBEq, beq_self_eq_true, Bool.and_self, decide_true, Bool.and_true, Bool.true_and, if_true, if_false, nr_0, fr_0, nr_1, fr_1, nr_2, fr_2, nr_3, fr_3, nr_4, fr_4, nr_5, fr_5, na_2, nt_2, na_6, nt_6, na_7, nt_7, na_8, nt_8, na_12, nt_12, na_16, nt_16, na_17, nt_17, na_48, nt_48, na_96, nt_96, na_100, nt_100, q_e, q_tn, q_ts, not_false_eq_true, not_true_eq_false, decide_false, Bool.not_true, Bool.not_false, Int32.reduceLT, Int32.reduceAdd, tn_0, tn_1, ok_0_2, ok_1_2]
  refine congrArg (fun z => some (none, st_G _ z)) (funext fun b => ?_)
  by_cases e3 : b = 3
  · subst e3; rfl
  by_cases e4 : b = 4
  · subst e4; rfl
  simp only [upEA, e3, e4, if_false])
theorem k_2_5 {X : pm_X} {d : Nat} {C : Nat → va_E} {F} : pv_call X (d + 1) 2 [.ref 5] (st_G 6 (upE C 5 (.inr (1, [.null, .int 0])))) F = F none (st_G 7 (upE (upE (C) 5 (.inr (1, [.ref 6, .int 0]))) 6 (.inl (0, 6, .inl (fun _ => 0))))) := pv_call_ev rfl (by
  show pm_ev X (d + 1) 2 (0, [some (.ref 5)], [], _) = _
  simp only [↓ps_2_0, ↓ps_2_1, ↓ps_2_4, ↓ps_2_5, ↓ps_2_7, ↓ps_2_9, ↓ps_2_12, ↓ps_2_13, ↓ps_2_14, ↓ps_2_17, ↓q_i1, ↓q_i2, ↓q_l1, ↓q_l2, ↓q_r1, ↓q_v1, ↓q_rs, ↓q_if, ↓q_gi, ↓q_gi', ↓q_gl, ↓q_gl', ↓q_ga, ↓q_ga', ↓q_s1, ↓q_s1n, ↓q_s1i, ↓q_s1r, ↓q_s1', ↓q_s2, ↓q_s2n, ↓q_s2i, ↓q_s2r, ↓q_s2', ↓q_ar0, ↓q_ar, q_w0, q_wi, q_wl, q_wr, q_wii, q_wil, q_wli, q_wll, q_wir, q_wri, q_wlr, q_wrl, q_wrr, q_wirr, q_wiir, q_wiii, q_ni, q_nl, q_fi, q_fl, q_z0, q_z1, q_fz0, q_fz1, ↓q_ts, ↓q_tn, q_e, q_ci, q_cr, ↓q_rfs, decide_true, Bool.and_true, Bool.and_self, Nat.zero_add, Nat.reduceAdd, Nat.reduceBEq, beq_self_eq_true, q_le, q_lel, q_ge, q_gel, q_gt, q_gtl, ite_not, Bool.not_eq_true', Bool.not_eq_false', ↓reduceIte, g_len, g_app, ↓g_fg, ↓g_fp, ↓g_wi, ↓g_wq, e_fg, e_fp, e_v, e_wi, e_wq, df_0, df_1, df_2, df_3, df_4, df_5, upEA, upE_uu, List.getElem?_cons_zero, List.getElem?_cons_succ, List.set_cons_zero, List.set_cons_succ, List.length_cons, List.length_nil, Nat.reduceLT, Nat.reduceAdd, Nat.reduceEqDiff, Nat.reduceBEq, beq_self_eq_true, Bool.and_self, decide_true, Bool.and_true, Bool.true_and, if_true, if_false, nr_0, fr_0, nr_1, fr_1, nr_2, fr_2, nr_3, fr_3, nr_4, fr_4, nr_5, fr_5, na_2, nt_2, na_6, nt_6, na_7, nt_7, na_8, nt_8, na_12, nt_12, na_16, nt_16, na_17, nt_17, na_48, nt_48, na_96, nt_96, na_100, nt_100, q_e, q_tn, q_ts, not_false_eq_true, not_true_eq_false, decide_false, Bool.not_true, Bool.not_false, Int32.reduceLT, Int32.reduceAdd, tn_0, tn_1, ok_0_2, ok_1_2]
  refine congrArg (fun z => some (none, st_G _ z)) (funext fun b => ?_)
  by_cases e5 : b = 5
  · subst e5; rfl
  by_cases e6 : b = 6
  · subst e6; rfl
  simp only [upEA, e5, e6, if_false])
theorem k_2_13 {X : pm_X} {d : Nat} {C : Nat → va_E} {F} : pv_call X (d + 1) 2 [.ref 13] (st_G 14 (upE C 13 (.inr (1, [.null, .int 0])))) F = F none (st_G 15 (upE (upE (C) 13 (.inr (1, [.ref 14, .int 0]))) 14 (.inl (0, 6, .inl (fun _ => 0))))) := pv_call_ev rfl (by
  show pm_ev X (d + 1) 2 (0, [some (.ref 13)], [], _) = _
  simp only [↓ps_2_0, ↓ps_2_1, ↓ps_2_4, ↓ps_2_5, ↓ps_2_7, ↓ps_2_9, ↓ps_2_12, ↓ps_2_13, ↓ps_2_14, ↓ps_2_17, ↓q_i1, ↓q_i2, ↓q_l1, ↓q_l2, ↓q_r1, ↓q_v1, ↓q_rs, ↓q_if, ↓q_gi, ↓q_gi', ↓q_gl, ↓q_gl', ↓q_ga, ↓q_ga', ↓q_s1, ↓q_s1n, ↓q_s1i, ↓q_s1r, ↓q_s1', ↓q_s2, ↓q_s2n, ↓q_s2i, ↓q_s2r, ↓q_s2', ↓q_ar0, ↓q_ar, q_w0, q_wi, q_wl, q_wr, q_wii, q_wil, q_wli, q_wll, q_wir, q_wri, q_wlr, q_wrl, q_wrr, q_wirr, q_wiir, q_wiii, q_ni, q_nl, q_fi, q_fl, q_z0, q_z1, q_fz0, q_fz1, ↓q_ts, ↓q_tn, q_e, q_ci, q_cr, ↓q_rfs, decide_true, Bool.and_true, Bool.and_self, Nat.zero_add, Nat.reduceAdd, Nat.reduceBEq, beq_self_eq_true, q_le, q_lel, q_ge, q_gel, q_gt, q_gtl, ite_not, Bool.not_eq_true', Bool.not_eq_false', ↓reduceIte, g_len, g_app, ↓g_fg, ↓g_fp, ↓g_wi, ↓g_wq, e_fg, e_fp, e_v, e_wi, e_wq, df_0, df_1, df_2, df_3, df_4, df_5, upEA, upE_uu, List.getElem?_cons_zero, List.getElem?_cons_succ, List.set_cons_zero, List.set_cons_succ, List.length_cons, List.length_nil, Nat.reduceLT, Nat.reduceAdd, Nat.reduceEqDiff, Nat.reduceBEq, beq_self_eq_true, Bool.and_self, decide_true, Bool.and_true, Bool.true_and, if_true, if_false, nr_0, fr_0, nr_1, fr_1, nr_2, fr_2, nr_3, fr_3, nr_4, fr_4, nr_5, fr_5, na_2, nt_2, na_6, nt_6, na_7, nt_7, na_8, nt_8, na_12, nt_12, na_16, nt_16, na_17, nt_17, na_48, nt_48, na_96, nt_96, na_100, nt_100, q_e, q_tn, q_ts, not_false_eq_true, not_true_eq_false, decide_false, Bool.not_true, Bool.not_false, Int32.reduceLT, Int32.reduceAdd, tn_0, tn_1, ok_0_2, ok_1_2]
  refine congrArg (fun z => some (none, st_G _ z)) (funext fun b => ?_)
  by_cases e13 : b = 13
  · subst e13; rfl
  by_cases e14 : b = 14
  · subst e14; rfl
  simp only [upEA, e13, e14, if_false])
theorem k_2_15 {X : pm_X} {d : Nat} {C : Nat → va_E} {F} : pv_call X (d + 1) 2 [.ref 15] (st_G 16 (upE C 15 (.inr (1, [.null, .int 0])))) F = F none (st_G 17 (upE (upE (C) 15 (.inr (1, [.ref 16, .int 0]))) 16 (.inl (0, 6, .inl (fun _ => 0))))) := pv_call_ev rfl (by
  show pm_ev X (d + 1) 2 (0, [some (.ref 15)], [], _) = _
  simp only [↓ps_2_0, ↓ps_2_1, ↓ps_2_4, ↓ps_2_5, ↓ps_2_7, ↓ps_2_9, ↓ps_2_12, ↓ps_2_13, ↓ps_2_14, ↓ps_2_17, ↓q_i1, ↓q_i2, ↓q_l1, ↓q_l2, ↓q_r1, ↓q_v1, ↓q_rs, ↓q_if, ↓q_gi, ↓q_gi', ↓q_gl, ↓q_gl', ↓q_ga, ↓q_ga', ↓q_s1, ↓q_s1n, ↓q_s1i, ↓q_s1r, ↓q_s1', ↓q_s2, ↓q_s2n, ↓q_s2i, ↓q_s2r, ↓q_s2', ↓q_ar0, ↓q_ar, q_w0, q_wi, q_wl, q_wr, q_wii, q_wil, q_wli, q_wll, q_wir, q_wri, q_wlr, q_wrl, q_wrr, q_wirr, q_wiir, q_wiii, q_ni, q_nl, q_fi, q_fl, q_z0, q_z1, q_fz0, q_fz1, ↓q_ts, ↓q_tn, q_e, q_ci, q_cr, ↓q_rfs, decide_true, Bool.and_true, Bool.and_self, Nat.zero_add, Nat.reduceAdd, Nat.reduceBEq, beq_self_eq_true, q_le, q_lel, q_ge, q_gel, q_gt, q_gtl, ite_not, Bool.not_eq_true', Bool.not_eq_false', ↓reduceIte, g_len, g_app, ↓g_fg, ↓g_fp, ↓g_wi, ↓g_wq, e_fg, e_fp, e_v, e_wi, e_wq, df_0, df_1, df_2, df_3, df_4, df_5, upEA, upE_uu, List.getElem?_cons_zero, List.getElem?_cons_succ, List.set_cons_zero, List.set_cons_succ, List.length_cons, List.length_nil, Nat.reduceLT, Nat.reduceAdd, Nat.reduceEqDiff, Nat.reduceBEq, beq_self_eq_true, Bool.and_self, decide_true, Bool.and_true, Bool.true_and, if_true, if_false, nr_0, fr_0, nr_1, fr_1, nr_2, fr_2, nr_3, fr_3, nr_4, fr_4, nr_5, fr_5, na_2, nt_2, na_6, nt_6, na_7, nt_7, na_8, nt_8, na_12, nt_12, na_16, nt_16, na_17, nt_17, na_48, nt_48, na_96, nt_96, na_100, nt_100, q_e, q_tn, q_ts, not_false_eq_true, not_true_eq_false, decide_false, Bool.not_true, Bool.not_false, Int32.reduceLT, Int32.reduceAdd, tn_0, tn_1, ok_0_2, ok_1_2]
  refine congrArg (fun z => some (none, st_G _ z)) (funext fun b => ?_)
  by_cases e15 : b = 15
  · subst e15; rfl
  by_cases e16 : b = 16
  · subst e16; rfl
  simp only [upEA, e15, e16, if_false])
theorem k_2_23 {X : pm_X} {d : Nat} {C : Nat → va_E} {F} : pv_call X (d + 1) 2 [.ref 23] (st_G 24 (upE C 23 (.inr (1, [.null, .int 0])))) F = F none (st_G 25 (upE (upE (C) 23 (.inr (1, [.ref 24, .int 0]))) 24 (.inl (0, 6, .inl (fun _ => 0))))) := pv_call_ev rfl (by
  show pm_ev X (d + 1) 2 (0, [some (.ref 23)], [], _) = _
  simp only [↓ps_2_0, ↓ps_2_1, ↓ps_2_4, ↓ps_2_5, ↓ps_2_7, ↓ps_2_9, ↓ps_2_12, ↓ps_2_13, ↓ps_2_14, ↓ps_2_17, ↓q_i1, ↓q_i2, ↓q_l1, ↓q_l2, ↓q_r1, ↓q_v1, ↓q_rs, ↓q_if, ↓q_gi, ↓q_gi', ↓q_gl, ↓q_gl', ↓q_ga, ↓q_ga', ↓q_s1, ↓q_s1n, ↓q_s1i, ↓q_s1r, ↓q_s1', ↓q_s2, ↓q_s2n, ↓q_s2i, ↓q_s2r, ↓q_s2', ↓q_ar0, ↓q_ar, q_w0, q_wi, q_wl, q_wr, q_wii, q_wil, q_wli, q_wll, q_wir, q_wri, q_wlr, q_wrl, q_wrr, q_wirr, q_wiir, q_wiii, q_ni, q_nl, q_fi, q_fl, q_z0, q_z1, q_fz0, q_fz1, ↓q_ts, ↓q_tn, q_e, q_ci, q_cr, ↓q_rfs, decide_true, Bool.and_true, Bool.and_self, Nat.zero_add, Nat.reduceAdd, Nat.reduceBEq, beq_self_eq_true, q_le, q_lel, q_ge, q_gel, q_gt, q_gtl, ite_not, Bool.not_eq_true', Bool.not_eq_false', ↓reduceIte, g_len, g_app, ↓g_fg, ↓g_fp, ↓g_wi, ↓g_wq, e_fg, e_fp, e_v, e_wi, e_wq, df_0, df_1, df_2, df_3, df_4, df_5, upEA, upE_uu, List.getElem?_cons_zero, List.getElem?_cons_succ, List.set_cons_zero, List.set_cons_succ, List.length_cons, List.length_nil, Nat.reduceLT, Nat.reduceAdd, Nat.reduceEqDiff, Nat.reduceBEq, beq_self_eq_true, Bool.and_self, decide_true, Bool.and_true, Bool.true_and, if_true, if_false, nr_0, fr_0, nr_1, fr_1, nr_2, fr_2, nr_3, fr_3, nr_4, fr_4, nr_5, fr_5, na_2, nt_2, na_6, nt_6, na_7, nt_7, na_8, nt_8, na_12, nt_12, na_16, nt_16, na_17, nt_17, na_48, nt_48, na_96, nt_96, na_100, nt_100, q_e, q_tn, q_ts, not_false_eq_true, not_true_eq_false, decide_false, Bool.not_true, Bool.not_false, Int32.reduceLT, Int32.reduceAdd, tn_0, tn_1, ok_0_2, ok_1_2]
  refine congrArg (fun z => some (none, st_G _ z)) (funext fun b => ?_)
  by_cases e23 : b = 23
  · subst e23; rfl
  by_cases e24 : b = 24
  · subst e24; rfl
  simp only [upEA, e23, e24, if_false])
theorem k_2_25 {X : pm_X} {d : Nat} {C : Nat → va_E} {F} : pv_call X (d + 1) 2 [.ref 25] (st_G 26 (upE C 25 (.inr (1, [.null, .int 0])))) F = F none (st_G 27 (upE (upE (C) 25 (.inr (1, [.ref 26, .int 0]))) 26 (.inl (0, 6, .inl (fun _ => 0))))) := pv_call_ev rfl (by
  show pm_ev X (d + 1) 2 (0, [some (.ref 25)], [], _) = _
  simp only [↓ps_2_0, ↓ps_2_1, ↓ps_2_4, ↓ps_2_5, ↓ps_2_7, ↓ps_2_9, ↓ps_2_12, ↓ps_2_13, ↓ps_2_14, ↓ps_2_17, ↓q_i1, ↓q_i2, ↓q_l1, ↓q_l2, ↓q_r1, ↓q_v1, ↓q_rs, ↓q_if, ↓q_gi, ↓q_gi', ↓q_gl, ↓q_gl', ↓q_ga, ↓q_ga', ↓q_s1, ↓q_s1n, ↓q_s1i, ↓q_s1r, ↓q_s1', ↓q_s2, ↓q_s2n, ↓q_s2i, ↓q_s2r, ↓q_s2', ↓q_ar0, ↓q_ar, q_w0, q_wi, q_wl, q_wr, q_wii, q_wil, q_wli, q_wll, q_wir, q_wri, q_wlr, q_wrl, q_wrr, q_wirr, q_wiir, q_wiii, q_ni, q_nl, q_fi, q_fl, q_z0, q_z1, q_fz0, q_fz1, ↓q_ts, ↓q_tn, q_e, q_ci, q_cr, ↓q_rfs, decide_true, Bool.and_true, Bool.and_self, Nat.zero_add, Nat.reduceAdd, Nat.reduceBEq, beq_self_eq_true, q_le, q_lel, q_ge, q_gel, q_gt, q_gtl, ite_not, Bool.not_eq_true', Bool.not_eq_false', ↓reduceIte, g_len, g_app, ↓g_fg, ↓g_fp, ↓g_wi, ↓g_wq, e_fg, e_fp, e_v, e_wi, e_wq, df_0, df_1, df_2, df_3, df_4, df_5, upEA, upE_uu, List.getElem?_cons_zero, List.getElem?_cons_succ, List.set_cons_zero, List.set_cons_succ, List.length_cons, List.length_nil, Nat.reduceLT, Nat.reduceAdd, Nat.reduceEqDiff, Nat.reduceBEq, beq_self_eq_true, Bool.and_self, decide_true, Bool.and_true, Bool.true_and, if_true, if_false, nr_0, fr_0, nr_1, fr_1, nr_2, fr_2, nr_3, fr_3, nr_4, fr_4, nr_5, fr_5, na_2, nt_2, na_6, nt_6, na_7, nt_7, na_8, nt_8, na_12, nt_12, na_16, nt_16, na_17, nt_17, na_48, nt_48, na_96, nt_96, na_100, nt_100, q_e, q_tn, q_ts, not_false_eq_true, not_true_eq_false, decide_false, Bool.not_true, Bool.not_false, Int32.reduceLT, Int32.reduceAdd, tn_0, tn_1, ok_0_2, ok_1_2]
  refine congrArg (fun z => some (none, st_G _ z)) (funext fun b => ?_)
  by_cases e25 : b = 25
  · subst e25; rfl
  by_cases e26 : b = 26
  · subst e26; rfl
  simp only [upEA, e25, e26, if_false])
theorem l_1_48_1 {X : pm_X} {d : Nat} {fs : List Value} : ∀ m i (G : Nat → va_E), i + m = 16 → G 1 = .inr (3, .ref 2 :: .ref 7 :: fs) → G 7 = .inl (0, 17, .inl (blF i)) → pm_ev X (d + 2) 1 (48, [some (.ref 1), some (.int (nI (i + 1)))], [], st_G 8 G) = pm_ev X (d + 2) 1 (67, [some (.ref 1), some (.int (nI (16 + 1)))], [], st_G 8 (upE G 7 (.inl (0, 17, .inl (blF 16)))))
  | 0, i, G, hi, hG, hB => by
    have hi : i = 16 := by omega
    subst hi
    have h1 : 16 < nI (16 + 1) := by decide
    rw [← hB, upE_s, ps_1_48]
    simp only [↓ps_1_0, ↓ps_1_1, ↓ps_1_4, ↓ps_1_5, ↓ps_1_6, ↓ps_1_9, ↓ps_1_12, ↓ps_1_13, ↓ps_1_14, ↓ps_1_15, ↓ps_1_16, ↓ps_1_19, ↓ps_1_20, ↓ps_1_23, ↓ps_1_24, ↓ps_1_27, ↓ps_1_28, ↓ps_1_31, ↓ps_1_32, ↓ps_1_35, ↓ps_1_38, ↓ps_1_39, ↓ps_1_41, ↓ps_1_43, ↓ps_1_46, ↓ps_1_47, ↓ps_1_49, ↓ps_1_51, ↓ps_1_54, ↓ps_1_55, ↓ps_1_58, ↓ps_1_59, ↓ps_1_60, ↓ps_1_61, ↓ps_1_64, ↓ps_1_68, ↓ps_1_70, ↓ps_1_72, ↓ps_1_75, ↓ps_1_76, ↓ps_1_78, ↓ps_1_80, ↓ps_1_83, ↓ps_1_84, ↓ps_1_86, ↓ps_1_88, ↓ps_1_91, ↓ps_1_92, ↓ps_1_93, ↓ps_1_96, ↓q_i1, ↓q_i2, ↓q_l1, ↓q_l2, ↓q_r1, ↓q_v1, ↓q_rs, ↓q_if, ↓q_gi, ↓q_gi', ↓q_gl, ↓q_gl', ↓q_ga, ↓q_ga', ↓q_s1, ↓q_s1n, ↓q_s1i, ↓q_s1r, ↓q_s1', ↓q_s2, ↓q_s2n, ↓q_s2i, ↓q_s2r, ↓q_s2', ↓q_ar0, ↓q_ar, q_w0, q_wi, q_wl, q_wr, q_wii, q_wil, q_wli, q_wll, q_wir, q_wri, q_wlr, q_wrl, q_wrr, q_wirr, q_wiir, q_wiii, q_ni, q_nl, q_fi, q_fl, q_z0, q_z1, q_fz0, q_fz1, ↓q_ts, ↓q_tn, q_e, q_ci, q_cr, ↓q_rfs, decide_true, Bool.and_true, Bool.and_self, Nat.zero_add, Nat.reduceAdd, Nat.reduceBEq, beq_self_eq_true, q_le, q_lel, q_ge, q_gel, q_gt, q_gtl, ite_not, Bool.not_eq_true', Bool.not_eq_false', ↓reduceIte, g_len, g_app, ↓g_fg, ↓g_fp, ↓g_wi, ↓g_wq, e_fg, e_fp, e_v, e_wi, e_wq, df_0, df_1, df_2, df_3, df_4, df_5, upEA, upE_uu, List.getElem?_cons_zero, List.getElem?_cons_succ, List.set_cons_zero, List.set_cons_succ, List.length_cons, List.length_nil, Nat.reduceLT, Nat.reduceAdd, Nat.reduceEqDiff, Nat.reduceBEq, beq_self_eq_true, Bool.and_self, decide_true, Bool.and_true, Bool.true_and, if_true, if_false, nr_0, fr_0, nr_1, fr_1, nr_2, fr_2, nr_3, fr_3, nr_4, fr_4, nr_5, fr_5, na_2, nt_2, na_6, nt_6, na_7, nt_7, na_8, nt_8, na_12, nt_12, na_16, nt_16, na_17, nt_17, na_48, nt_48, na_96, nt_96, na_100, nt_100, q_e, q_tn, q_ts, not_false_eq_true, not_true_eq_false, decide_false, Bool.not_true, Bool.not_false, Int32.reduceLT, Int32.reduceAdd, tn_0, tn_1, ok_0_2, ok_1_2, h1]
  | m + 1, i, G, hi, hG, hB => by
    have ih := l_1_48_1 (X := X) (d := d) (fs := fs) m (i + 1) (upE G 7 (.inl (0, 17, .inl (blF (i + 1))))) (by omega) hG rfl
    rw [upE_uu] at ih
    have h1 : ¬ 16 < nI (i + 1) := nI_nl (n := 16) (by omega) (by decide)
    have k1 : pm_ok (nI (i + 1)) 17 = true := decide_eq_true (nI_in (by omega) (by decide))
    have k2 : (nI (i + 1)).toNatClampNeg = i + 1 := nI_clamp (by omega)
    rw [ps_1_48]
    simp only [↓ps_1_0, ↓ps_1_1, ↓ps_1_4, ↓ps_1_5, ↓ps_1_6, ↓ps_1_9, ↓ps_1_12, ↓ps_1_13, ↓ps_1_14, ↓ps_1_15, ↓ps_1_16, ↓ps_1_19, ↓ps_1_20, ↓ps_1_23, ↓ps_1_24, ↓ps_1_27, ↓ps_1_28, ↓ps_1_31, ↓ps_1_32, ↓ps_1_35, ↓ps_1_38, ↓ps_1_39, ↓ps_1_41, ↓ps_1_43, ↓ps_1_46, ↓ps_1_47, ↓ps_1_49, ↓ps_1_51, ↓ps_1_54, ↓ps_1_55, ↓ps_1_58, ↓ps_1_59, ↓ps_1_60, ↓ps_1_61, ↓ps_1_64, ↓ps_1_68, ↓ps_1_70, ↓ps_1_72, ↓ps_1_75, ↓ps_1_76, ↓ps_1_78, ↓ps_1_80, ↓ps_1_83, ↓ps_1_84, ↓ps_1_86, ↓ps_1_88, ↓ps_1_91, ↓ps_1_92, ↓ps_1_93, ↓ps_1_96, ↓q_i1, ↓q_i2, ↓q_l1, ↓q_l2, ↓q_r1, ↓q_v1, ↓q_rs, ↓q_if, ↓q_gi, ↓q_gi', ↓q_gl, ↓q_gl', ↓q_ga, ↓q_ga', ↓q_s1, ↓q_s1n, ↓q_s1i, ↓q_s1r, ↓q_s1', ↓q_s2, ↓q_s2n, ↓q_s2i, ↓q_s2r, ↓q_s2', ↓q_ar0, ↓q_ar, q_w0, q_wi, q_wl, q_wr, q_wii, q_wil, q_wli, q_wll, q_wir, q_wri, q_wlr, q_wrl, q_wrr, q_wirr, q_wiir, q_wiii, q_ni, q_nl, q_fi, q_fl, q_z0, q_z1, q_fz0, q_fz1, ↓q_ts, ↓q_tn, q_e, q_ci, q_cr, ↓q_rfs, decide_true, Bool.and_true, Bool.and_self, Nat.zero_add, Nat.reduceAdd, Nat.reduceBEq, beq_self_eq_true, q_le, q_lel, q_ge, q_gel, q_gt, q_gtl, ite_not, Bool.not_eq_true', Bool.not_eq_false', ↓reduceIte, g_len, g_app, ↓g_fg, ↓g_fp, ↓g_wi, ↓g_wq, e_fg, e_fp, e_v, e_wi, e_wq, df_0, df_1, df_2, df_3, df_4, df_5, upEA, upE_uu, List.getElem?_cons_zero, List.getElem?_cons_succ, List.set_cons_zero, List.set_cons_succ, List.length_cons, List.length_nil, Nat.reduceLT, Nat.reduceAdd, Nat.reduceEqDiff, Nat.reduceBEq, beq_self_eq_true, Bool.and_self, decide_true, Bool.and_true, Bool.true_and, if_true, if_false, nr_0, fr_0, nr_1, fr_1, nr_2, fr_2, nr_3, fr_3, nr_4, fr_4, nr_5, fr_5, na_2, nt_2, na_6, nt_6, na_7, nt_7, na_8, nt_8, na_12, nt_12, na_16, nt_16, na_17, nt_17, na_48, nt_48, na_96, nt_96, na_100, nt_100, q_e, q_tn, q_ts, not_false_eq_true, not_true_eq_false, decide_false, Bool.not_true, Bool.not_false, Int32.reduceLT, Int32.reduceAdd, tn_0, tn_1, ok_0_2, ok_1_2, h1, hG, hB, k1, k2, blF_S, nI_1]
    exact ih
def wdC_1 (C : Nat → va_E) : Nat → va_E := upE (upE (upE (upE (upE (upE (upE (upE (upE (upE (C) 1 (.inr (3, [.ref 2, .ref 7, .ref 8, .ref 9, .ref 10, .int 0]))) 2 (.inl (2, 2, .inr (.inr (.inr (.inr (va_up (va_up (fun _ => none) 0 (some 3)) 1 (some 5)))))))) 3 (.inr (1, [.ref 4, .int 0]))) 4 (.inl (0, 6, .inl (fun _ => 0)))) 5 (.inr (1, [.ref 6, .int 0]))) 6 (.inl (0, 6, .inl (fun _ => 0)))) 7 (.inl (0, 17, .inl (blF 16)))) 8 (.inl (0, 6, .inl (fun _ => 0)))) 9 (.inl (0, 6, .inl (fun _ => 0)))) 10 (.inl (0, 6, .inl (fun _ => 0)))
theorem k_1_1 {X : pm_X} {d : Nat} {C : Nat → va_E} {F} : pv_call X (d + 2) 1 [.ref 1] (st_G 2 (upE C 1 (.inr (3, [.null, .null, .null, .null, .null, .int 0])))) F = F none (st_G 11 (wdC_1 C)) := pv_call_ev rfl (by
  show pm_ev X (d + 2) 1 (0, [some (.ref 1), none], [], _) = _
  simp only [↓ps_1_0, ↓ps_1_1, ↓ps_1_4, ↓ps_1_5, ↓ps_1_6, ↓ps_1_9, ↓ps_1_12, ↓ps_1_13, ↓ps_1_15, ↓ps_1_16, ↓ps_1_19, ↓ps_1_20, ↓ps_1_23, ↓ps_1_24, ↓ps_1_27, ↓ps_1_28, ↓ps_1_31, ↓ps_1_32, ↓ps_1_35, ↓ps_1_38, ↓ps_1_39, ↓ps_1_41, ↓ps_1_43, ↓ps_1_46, ↓ps_1_47, ↓ps_1_49, ↓ps_1_51, ↓ps_1_54, ↓ps_1_55, ↓ps_1_58, ↓ps_1_59, ↓ps_1_60, ↓ps_1_61, ↓ps_1_64, ↓ps_1_68, ↓ps_1_70, ↓ps_1_72, ↓ps_1_75, ↓ps_1_76, ↓ps_1_78, ↓ps_1_80, ↓ps_1_83, ↓ps_1_84, ↓ps_1_86, ↓ps_1_88, ↓ps_1_91, ↓ps_1_92, ↓ps_1_93, ↓ps_1_96, ↓q_i1, ↓q_i2, ↓q_l1, ↓q_l2, ↓q_r1, ↓q_v1, ↓q_rs, ↓q_if, ↓q_gi, ↓q_gi', ↓q_gl, ↓q_gl', ↓q_ga, ↓q_ga', ↓q_s1, ↓q_s1n, ↓q_s1i, ↓q_s1r, ↓q_s1', ↓q_s2, ↓q_s2n, ↓q_s2i, ↓q_s2r, ↓q_s2', ↓q_ar0, ↓q_ar, q_w0, q_wi, q_wl, q_wr, q_wii, q_wil, q_wli, q_wll, q_wir, q_wri, q_wlr, q_wrl, q_wrr, q_wirr, q_wiir, q_wiii, q_ni, q_nl, q_fi, q_fl, q_z0, q_z1, q_fz0, q_fz1, ↓q_ts, ↓q_tn, q_e, q_ci, q_cr, ↓q_rfs, decide_true, Bool.and_true, Bool.and_self, Nat.zero_add, Nat.reduceAdd, Nat.reduceBEq, beq_self_eq_true, q_le, q_lel, q_ge, q_gel, q_gt, q_gtl, ite_not, Bool.not_eq_true', Bool.not_eq_false', ↓reduceIte, g_len, g_app, ↓g_fg, ↓g_fp, ↓g_wi, ↓g_wq, e_fg, e_fp, e_v, e_wi, e_wq, df_0, df_1, df_2, df_3, df_4, df_5, upEA, upE_uu, List.getElem?_cons_zero, List.getElem?_cons_succ, List.set_cons_zero, List.set_cons_succ, List.length_cons, List.length_nil, Nat.reduceLT, Nat.reduceAdd, Nat.reduceEqDiff, Nat.reduceBEq, beq_self_eq_true, Bool.and_self, decide_true, Bool.and_true, Bool.true_and, if_true, if_false, nr_0, fr_0, nr_1, fr_1, nr_2, fr_2, nr_3, fr_3, nr_4, fr_4, nr_5, fr_5, na_2, nt_2, na_6, nt_6, na_7, nt_7, na_8, nt_8, na_12, nt_12, na_16, nt_16, na_17, nt_17, na_48, nt_48, na_96, nt_96, na_100, nt_100, q_e, q_tn, q_ts, not_false_eq_true, not_true_eq_false, decide_false, Bool.not_true, Bool.not_false, Int32.reduceLT, Int32.reduceAdd, tn_0, tn_1, ok_0_2, ok_1_2]
  rw [ps_1_14]
  simp only [↓ps_1_0, ↓ps_1_1, ↓ps_1_4, ↓ps_1_5, ↓ps_1_6, ↓ps_1_9, ↓ps_1_12, ↓ps_1_13, ↓ps_1_15, ↓ps_1_16, ↓ps_1_19, ↓ps_1_20, ↓ps_1_23, ↓ps_1_24, ↓ps_1_27, ↓ps_1_28, ↓ps_1_31, ↓ps_1_32, ↓ps_1_35, ↓ps_1_38, ↓ps_1_39, ↓ps_1_41, ↓ps_1_43, ↓ps_1_46, ↓ps_1_47, ↓ps_1_49, ↓ps_1_51, ↓ps_1_54, ↓ps_1_55, ↓ps_1_58, ↓ps_1_59, ↓ps_1_60, ↓ps_1_61, ↓ps_1_64, ↓ps_1_68, ↓ps_1_70, ↓ps_1_72, ↓ps_1_75, ↓ps_1_76, ↓ps_1_78, ↓ps_1_80, ↓ps_1_83, ↓ps_1_84, ↓ps_1_86, ↓ps_1_88, ↓ps_1_91, ↓ps_1_92, ↓ps_1_93, ↓ps_1_96, ↓q_i1, ↓q_i2, ↓q_l1, ↓q_l2, ↓q_r1, ↓q_v1, ↓q_rs, ↓q_if, ↓q_gi, ↓q_gi', ↓q_gl, ↓q_gl', ↓q_ga, ↓q_ga', ↓q_s1, ↓q_s1n, ↓q_s1i, ↓q_s1r, ↓q_s1', ↓q_s2, ↓q_s2n, ↓q_s2i, ↓q_s2r, ↓q_s2', ↓q_ar0, ↓q_ar, q_w0, q_wi, q_wl, q_wr, q_wii, q_wil, q_wli, q_wll, q_wir, q_wri, q_wlr, q_wrl, q_wrr, q_wirr, q_wiir, q_wiii, q_ni, q_nl, q_fi, q_fl, q_z0, q_z1, q_fz0, q_fz1, ↓q_ts, ↓q_tn, q_e, q_ci, q_cr, ↓q_rfs, decide_true, Bool.and_true, Bool.and_self, Nat.zero_add, Nat.reduceAdd, Nat.reduceBEq, beq_self_eq_true, q_le, q_lel, q_ge, q_gel, q_gt, q_gtl, ite_not, Bool.not_eq_true', Bool.not_eq_false', ↓reduceIte, g_len, g_app, ↓g_fg, ↓g_fp, ↓g_wi, ↓g_wq, e_fg, e_fp, e_v, e_wi, e_wq, df_0, df_1, df_2, df_3, df_4, df_5, upEA, upE_uu, List.getElem?_cons_zero, List.getElem?_cons_succ, List.set_cons_zero, List.set_cons_succ, List.length_cons, List.length_nil, Nat.reduceLT, Nat.reduceAdd, Nat.reduceEqDiff, Nat.reduceBEq, beq_self_eq_true, Bool.and_self, decide_true, Bool.and_true, Bool.true_and, if_true, if_false, nr_0, fr_0, nr_1, fr_1, nr_2, fr_2, nr_3, fr_3, nr_4, fr_4, nr_5, fr_5, na_2, nt_2, na_6, nt_6, na_7, nt_7, na_8, nt_8, na_12, nt_12, na_16, nt_16, na_17, nt_17, na_48, nt_48, na_96, nt_96, na_100, nt_100, q_e, q_tn, q_ts, not_false_eq_true, not_true_eq_false, decide_false, Bool.not_true, Bool.not_false, Int32.reduceLT, Int32.reduceAdd, tn_0, tn_1, ok_0_2, ok_1_2, ↓k_2_3]
  rw [ps_1_14]
  simp only [↓ps_1_0, ↓ps_1_1, ↓ps_1_4, ↓ps_1_5, ↓ps_1_6, ↓ps_1_9, ↓ps_1_12, ↓ps_1_13, ↓ps_1_15, ↓ps_1_16, ↓ps_1_19, ↓ps_1_20, ↓ps_1_23, ↓ps_1_24, ↓ps_1_27, ↓ps_1_28, ↓ps_1_31, ↓ps_1_32, ↓ps_1_35, ↓ps_1_38, ↓ps_1_39, ↓ps_1_41, ↓ps_1_43, ↓ps_1_46, ↓ps_1_47, ↓ps_1_49, ↓ps_1_51, ↓ps_1_54, ↓ps_1_55, ↓ps_1_58, ↓ps_1_59, ↓ps_1_60, ↓ps_1_61, ↓ps_1_64, ↓ps_1_68, ↓ps_1_70, ↓ps_1_72, ↓ps_1_75, ↓ps_1_76, ↓ps_1_78, ↓ps_1_80, ↓ps_1_83, ↓ps_1_84, ↓ps_1_86, ↓ps_1_88, ↓ps_1_91, ↓ps_1_92, ↓ps_1_93, ↓ps_1_96, ↓q_i1, ↓q_i2, ↓q_l1, ↓q_l2, ↓q_r1, ↓q_v1, ↓q_rs, ↓q_if, ↓q_gi, ↓q_gi', ↓q_gl, ↓q_gl', ↓q_ga, ↓q_ga', ↓q_s1, ↓q_s1n, ↓q_s1i, ↓q_s1r, ↓q_s1', ↓q_s2, ↓q_s2n, ↓q_s2i, ↓q_s2r, ↓q_s2', ↓q_ar0, ↓q_ar, q_w0, q_wi, q_wl, q_wr, q_wii, q_wil, q_wli, q_wll, q_wir, q_wri, q_wlr, q_wrl, q_wrr, q_wirr, q_wiir, q_wiii, q_ni, q_nl, q_fi, q_fl, q_z0, q_z1, q_fz0, q_fz1, ↓q_ts, ↓q_tn, q_e, q_ci, q_cr, ↓q_rfs, decide_true, Bool.and_true, Bool.and_self, Nat.zero_add, Nat.reduceAdd, Nat.reduceBEq, beq_self_eq_true, q_le, q_lel, q_ge, q_gel, q_gt, q_gtl, ite_not, Bool.not_eq_true', Bool.not_eq_false', ↓reduceIte, g_len, g_app, ↓g_fg, ↓g_fp, ↓g_wi, ↓g_wq, e_fg, e_fp, e_v, e_wi, e_wq, df_0, df_1, df_2, df_3, df_4, df_5, upEA, upE_uu, List.getElem?_cons_zero, List.getElem?_cons_succ, List.set_cons_zero, List.set_cons_succ, List.length_cons, List.length_nil, Nat.reduceLT, Nat.reduceAdd, Nat.reduceEqDiff, Nat.reduceBEq, beq_self_eq_true, Bool.and_self, decide_true, Bool.and_true, Bool.true_and, if_true, if_false, nr_0, fr_0, nr_1, fr_1, nr_2, fr_2, nr_3, fr_3, nr_4, fr_4, nr_5, fr_5, na_2, nt_2, na_6, nt_6, na_7, nt_7, na_8, nt_8, na_12, nt_12, na_16, nt_16, na_17, nt_17, na_48, nt_48, na_96, nt_96, na_100, nt_100, q_e, q_tn, q_ts, not_false_eq_true, not_true_eq_false, decide_false, Bool.not_true, Bool.not_false, Int32.reduceLT, Int32.reduceAdd, tn_0, tn_1, ok_0_2, ok_1_2, ↓k_2_5]
  rw [ps_1_14]
  simp only [↓ps_1_0, ↓ps_1_1, ↓ps_1_4, ↓ps_1_5, ↓ps_1_6, ↓ps_1_9, ↓ps_1_12, ↓ps_1_13, ↓ps_1_15, ↓ps_1_16, ↓ps_1_19, ↓ps_1_20, ↓ps_1_23, ↓ps_1_24, ↓ps_1_27, ↓ps_1_28, ↓ps_1_31, ↓ps_1_32, ↓ps_1_35, ↓ps_1_38, ↓ps_1_39, ↓ps_1_41, ↓ps_1_43, ↓ps_1_46, ↓ps_1_47, ↓ps_1_49, ↓ps_1_51, ↓ps_1_54, ↓ps_1_55, ↓ps_1_58, ↓ps_1_59, ↓ps_1_60, ↓ps_1_61, ↓ps_1_64, ↓ps_1_68, ↓ps_1_70, ↓ps_1_72, ↓ps_1_75, ↓ps_1_76, ↓ps_1_78, ↓ps_1_80, ↓ps_1_83, ↓ps_1_84, ↓ps_1_86, ↓ps_1_88, ↓ps_1_91, ↓ps_1_92, ↓ps_1_93, ↓ps_1_96, ↓q_i1, ↓q_i2, ↓q_l1, ↓q_l2, ↓q_r1, ↓q_v1, ↓q_rs, ↓q_if, ↓q_gi, ↓q_gi', ↓q_gl, ↓q_gl', ↓q_ga, ↓q_ga', ↓q_s1, ↓q_s1n, ↓q_s1i, ↓q_s1r, ↓q_s1', ↓q_s2, ↓q_s2n, ↓q_s2i, ↓q_s2r, ↓q_s2', ↓q_ar0, ↓q_ar, q_w0, q_wi, q_wl, q_wr, q_wii, q_wil, q_wli, q_wll, q_wir, q_wri, q_wlr, q_wrl, q_wrr, q_wirr, q_wiir, q_wiii, q_ni, q_nl, q_fi, q_fl, q_z0, q_z1, q_fz0, q_fz1, ↓q_ts, ↓q_tn, q_e, q_ci, q_cr, ↓q_rfs, decide_true, Bool.and_true, Bool.and_self, Nat.zero_add, Nat.reduceAdd, Nat.reduceBEq, beq_self_eq_true, q_le, q_lel, q_ge, q_gel, q_gt, q_gtl, ite_not, Bool.not_eq_true', Bool.not_eq_false', ↓reduceIte, g_len, g_app, ↓g_fg, ↓g_fp, ↓g_wi, ↓g_wq, e_fg, e_fp, e_v, e_wi, e_wq, df_0, df_1, df_2, df_3, df_4, df_5, upEA, upE_uu, List.getElem?_cons_zero, List.getElem?_cons_succ, List.set_cons_zero, List.set_cons_succ, List.length_cons, List.length_nil, Nat.reduceLT, Nat.reduceAdd, Nat.reduceEqDiff, Nat.reduceBEq, beq_self_eq_true, Bool.and_self, decide_true, Bool.and_true, Bool.true_and, if_true, if_false, nr_0, fr_0, nr_1, fr_1, nr_2, fr_2, nr_3, fr_3, nr_4, fr_4, nr_5, fr_5, na_2, nt_2, na_6, nt_6, na_7, nt_7, na_8, nt_8, na_12, nt_12, na_16, nt_16, na_17, nt_17, na_48, nt_48, na_96, nt_96, na_100, nt_100, q_e, q_tn, q_ts, not_false_eq_true, not_true_eq_false, decide_false, Bool.not_true, Bool.not_false, Int32.reduceLT, Int32.reduceAdd, tn_0, tn_1, ok_0_2, ok_1_2]
  refine (l_1_48_1 (X := X) (d := d) 16 0 _ (by omega) rfl (by rw [← blF_0]; rfl)).trans ?_
  rw [ps_1_67]
  simp only [↓ps_1_0, ↓ps_1_1, ↓ps_1_4, ↓ps_1_5, ↓ps_1_6, ↓ps_1_9, ↓ps_1_12, ↓ps_1_13, ↓ps_1_15, ↓ps_1_16, ↓ps_1_19, ↓ps_1_20, ↓ps_1_23, ↓ps_1_24, ↓ps_1_27, ↓ps_1_28, ↓ps_1_31, ↓ps_1_32, ↓ps_1_35, ↓ps_1_38, ↓ps_1_39, ↓ps_1_41, ↓ps_1_43, ↓ps_1_46, ↓ps_1_47, ↓ps_1_49, ↓ps_1_51, ↓ps_1_54, ↓ps_1_55, ↓ps_1_58, ↓ps_1_59, ↓ps_1_60, ↓ps_1_61, ↓ps_1_64, ↓ps_1_67, ↓ps_1_68, ↓ps_1_70, ↓ps_1_72, ↓ps_1_75, ↓ps_1_76, ↓ps_1_78, ↓ps_1_80, ↓ps_1_83, ↓ps_1_84, ↓ps_1_86, ↓ps_1_88, ↓ps_1_91, ↓ps_1_92, ↓ps_1_93, ↓ps_1_96, ↓q_i1, ↓q_i2, ↓q_l1, ↓q_l2, ↓q_r1, ↓q_v1, ↓q_rs, ↓q_if, ↓q_gi, ↓q_gi', ↓q_gl, ↓q_gl', ↓q_ga, ↓q_ga', ↓q_s1, ↓q_s1n, ↓q_s1i, ↓q_s1r, ↓q_s1', ↓q_s2, ↓q_s2n, ↓q_s2i, ↓q_s2r, ↓q_s2', ↓q_ar0, ↓q_ar, q_w0, q_wi, q_wl, q_wr, q_wii, q_wil, q_wli, q_wll, q_wir, q_wri, q_wlr, q_wrl, q_wrr, q_wirr, q_wiir, q_wiii, q_ni, q_nl, q_fi, q_fl, q_z0, q_z1, q_fz0, q_fz1, ↓q_ts, ↓q_tn, q_e, q_ci, q_cr, ↓q_rfs, decide_true, Bool.and_true, Bool.and_self, Nat.zero_add, Nat.reduceAdd, Nat.reduceBEq, beq_self_eq_true, q_le, q_lel, q_ge, q_gel, q_gt, q_gtl, ite_not, Bool.not_eq_true', Bool.not_eq_false', ↓reduceIte, g_len, g_app, ↓g_fg, ↓g_fp, ↓g_wi, ↓g_wq, e_fg, e_fp, e_v, e_wi, e_wq, df_0, df_1, df_2, df_3, df_4, df_5, upEA, upE_uu, List.getElem?_cons_zero, List.getElem?_cons_succ, List.set_cons_zero, List.set_cons_succ, List.length_cons, List.length_nil, Nat.reduceLT, Nat.reduceAdd, Nat.reduceEqDiff, Nat.reduceBEq, beq_self_eq_true, Bool.and_self, decide_true, Bool.and_true, Bool.true_and, if_true, if_false, nr_0, fr_0, nr_1, fr_1, nr_2, fr_2, nr_3, fr_3, nr_4, fr_4, nr_5, fr_5, na_2, nt_2, na_6, nt_6, na_7, nt_7, na_8, nt_8, na_12, nt_12, na_16, nt_16, na_17, nt_17, na_48, nt_48, na_96, nt_96, na_100, nt_100, q_e, q_tn, q_ts, not_false_eq_true, not_true_eq_false, decide_false, Bool.not_true, Bool.not_false, Int32.reduceLT, Int32.reduceAdd, tn_0, tn_1, ok_0_2, ok_1_2]
  unfold wdC_1
  refine congrArg (fun z => some (none, st_G _ z)) (funext fun b => ?_)
  by_cases e1 : b = 1
  · subst e1; rfl
  by_cases e2 : b = 2
  · subst e2; rfl
  by_cases e3 : b = 3
  · subst e3; rfl
  by_cases e4 : b = 4
  · subst e4; rfl
  by_cases e5 : b = 5
  · subst e5; rfl
  by_cases e6 : b = 6
  · subst e6; rfl
  by_cases e7 : b = 7
  · subst e7; rfl
  by_cases e8 : b = 8
  · subst e8; rfl
  by_cases e9 : b = 9
  · subst e9; rfl
  by_cases e10 : b = 10
  · subst e10; rfl
  simp only [upEA, e1, e2, e3, e4, e5, e6, e7, e8, e9, e10, if_false])
theorem l_1_48_11 {X : pm_X} {d : Nat} {fs : List Value} : ∀ m i (G : Nat → va_E), i + m = 16 → G 11 = .inr (3, .ref 12 :: .ref 17 :: fs) → G 17 = .inl (0, 17, .inl (blF i)) → pm_ev X (d + 2) 1 (48, [some (.ref 11), some (.int (nI (i + 1)))], [], st_G 18 G) = pm_ev X (d + 2) 1 (67, [some (.ref 11), some (.int (nI (16 + 1)))], [], st_G 18 (upE G 17 (.inl (0, 17, .inl (blF 16)))))
  | 0, i, G, hi, hG, hB => by
    have hi : i = 16 := by omega
    subst hi
    have h1 : 16 < nI (16 + 1) := by decide
    rw [← hB, upE_s, ps_1_48]
    simp only [↓ps_1_0, ↓ps_1_1, ↓ps_1_4, ↓ps_1_5, ↓ps_1_6, ↓ps_1_9, ↓ps_1_12, ↓ps_1_13, ↓ps_1_14, ↓ps_1_15, ↓ps_1_16, ↓ps_1_19, ↓ps_1_20, ↓ps_1_23, ↓ps_1_24, ↓ps_1_27, ↓ps_1_28, ↓ps_1_31, ↓ps_1_32, ↓ps_1_35, ↓ps_1_38, ↓ps_1_39, ↓ps_1_41, ↓ps_1_43, ↓ps_1_46, ↓ps_1_47, ↓ps_1_49, ↓ps_1_51, ↓ps_1_54, ↓ps_1_55, ↓ps_1_58, ↓ps_1_59, ↓ps_1_60, ↓ps_1_61, ↓ps_1_64, ↓ps_1_68, ↓ps_1_70, ↓ps_1_72, ↓ps_1_75, ↓ps_1_76, ↓ps_1_78, ↓ps_1_80, ↓ps_1_83, ↓ps_1_84, ↓ps_1_86, ↓ps_1_88, ↓ps_1_91, ↓ps_1_92, ↓ps_1_93, ↓ps_1_96, ↓q_i1, ↓q_i2, ↓q_l1, ↓q_l2, ↓q_r1, ↓q_v1, ↓q_rs, ↓q_if, ↓q_gi, ↓q_gi', ↓q_gl, ↓q_gl', ↓q_ga, ↓q_ga', ↓q_s1, ↓q_s1n, ↓q_s1i, ↓q_s1r, ↓q_s1', ↓q_s2, ↓q_s2n, ↓q_s2i, ↓q_s2r, ↓q_s2', ↓q_ar0, ↓q_ar, q_w0, q_wi, q_wl, q_wr, q_wii, q_wil, q_wli, q_wll, q_wir, q_wri, q_wlr, q_wrl, q_wrr, q_wirr, q_wiir, q_wiii, q_ni, q_nl, q_fi, q_fl, q_z0, q_z1, q_fz0, q_fz1, ↓q_ts, ↓q_tn, q_e, q_ci, q_cr, ↓q_rfs, decide_true, Bool.and_true, Bool.and_self, Nat.zero_add, Nat.reduceAdd, Nat.reduceBEq, beq_self_eq_true, q_le, q_lel, q_ge, q_gel, q_gt, q_gtl, ite_not, Bool.not_eq_true', Bool.not_eq_false', ↓reduceIte, g_len, g_app, ↓g_fg, ↓g_fp, ↓g_wi, ↓g_wq, e_fg, e_fp, e_v, e_wi, e_wq, df_0, df_1, df_2, df_3, df_4, df_5, upEA, upE_uu, List.getElem?_cons_zero, List.getElem?_cons_succ, List.set_cons_zero, List.set_cons_succ, List.length_cons, List.length_nil, Nat.reduceLT, Nat.reduceAdd, Nat.reduceEqDiff, Nat.reduceBEq, beq_self_eq_true, Bool.and_self, decide_true, Bool.and_true, Bool.true_and, if_true, if_false, nr_0, fr_0, nr_1, fr_1, nr_2, fr_2, nr_3, fr_3, nr_4, fr_4, nr_5, fr_5, na_2, nt_2, na_6, nt_6, na_7, nt_7, na_8, nt_8, na_12, nt_12, na_16, nt_16, na_17, nt_17, na_48, nt_48, na_96, nt_96, na_100, nt_100, q_e, q_tn, q_ts, not_false_eq_true, not_true_eq_false, decide_false, Bool.not_true, Bool.not_false, Int32.reduceLT, Int32.reduceAdd, tn_0, tn_1, ok_0_2, ok_1_2, h1]
  | m + 1, i, G, hi, hG, hB => by
    have ih := l_1_48_11 (X := X) (d := d) (fs := fs) m (i + 1) (upE G 17 (.inl (0, 17, .inl (blF (i + 1))))) (by omega) hG rfl
    rw [upE_uu] at ih
    have h1 : ¬ 16 < nI (i + 1) := nI_nl (n := 16) (by omega) (by decide)
    have k1 : pm_ok (nI (i + 1)) 17 = true := decide_eq_true (nI_in (by omega) (by decide))
    have k2 : (nI (i + 1)).toNatClampNeg = i + 1 := nI_clamp (by omega)
    rw [ps_1_48]
    simp only [↓ps_1_0, ↓ps_1_1, ↓ps_1_4, ↓ps_1_5, ↓ps_1_6, ↓ps_1_9, ↓ps_1_12, ↓ps_1_13, ↓ps_1_14, ↓ps_1_15, ↓ps_1_16, ↓ps_1_19, ↓ps_1_20, ↓ps_1_23, ↓ps_1_24, ↓ps_1_27, ↓ps_1_28, ↓ps_1_31, ↓ps_1_32, ↓ps_1_35, ↓ps_1_38, ↓ps_1_39, ↓ps_1_41, ↓ps_1_43, ↓ps_1_46, ↓ps_1_47, ↓ps_1_49, ↓ps_1_51, ↓ps_1_54, ↓ps_1_55, ↓ps_1_58, ↓ps_1_59, ↓ps_1_60, ↓ps_1_61, ↓ps_1_64, ↓ps_1_68, ↓ps_1_70, ↓ps_1_72, ↓ps_1_75, ↓ps_1_76, ↓ps_1_78, ↓ps_1_80, ↓ps_1_83, ↓ps_1_84, ↓ps_1_86, ↓ps_1_88, ↓ps_1_91, ↓ps_1_92, ↓ps_1_93, ↓ps_1_96, ↓q_i1, ↓q_i2, ↓q_l1, ↓q_l2, ↓q_r1, ↓q_v1, ↓q_rs, ↓q_if, ↓q_gi, ↓q_gi', ↓q_gl, ↓q_gl', ↓q_ga, ↓q_ga', ↓q_s1, ↓q_s1n, ↓q_s1i, ↓q_s1r, ↓q_s1', ↓q_s2, ↓q_s2n, ↓q_s2i, ↓q_s2r, ↓q_s2', ↓q_ar0, ↓q_ar, q_w0, q_wi, q_wl, q_wr, q_wii, q_wil, q_wli, q_wll, q_wir, q_wri, q_wlr, q_wrl, q_wrr, q_wirr, q_wiir, q_wiii, q_ni, q_nl, q_fi, q_fl, q_z0, q_z1, q_fz0, q_fz1, ↓q_ts, ↓q_tn, q_e, q_ci, q_cr, ↓q_rfs, decide_true, Bool.and_true, Bool.and_self, Nat.zero_add, Nat.reduceAdd, Nat.reduceBEq, beq_self_eq_true, q_le, q_lel, q_ge, q_gel, q_gt, q_gtl, ite_not, Bool.not_eq_true', Bool.not_eq_false', ↓reduceIte, g_len, g_app, ↓g_fg, ↓g_fp, ↓g_wi, ↓g_wq, e_fg, e_fp, e_v, e_wi, e_wq, df_0, df_1, df_2, df_3, df_4, df_5, upEA, upE_uu, List.getElem?_cons_zero, List.getElem?_cons_succ, List.set_cons_zero, List.set_cons_succ, List.length_cons, List.length_nil, Nat.reduceLT, Nat.reduceAdd, Nat.reduceEqDiff, Nat.reduceBEq, beq_self_eq_true, Bool.and_self, decide_true, Bool.and_true, Bool.true_and, if_true, if_false, nr_0, fr_0, nr_1, fr_1, nr_2, fr_2, nr_3, fr_3, nr_4, fr_4, nr_5, fr_5, na_2, nt_2, na_6, nt_6, na_7, nt_7, na_8, nt_8, na_12, nt_12, na_16, nt_16, na_17, nt_17, na_48, nt_48, na_96, nt_96, na_100, nt_100, q_e, q_tn, q_ts, not_false_eq_true, not_true_eq_false, decide_false, Bool.not_true, Bool.not_false, Int32.reduceLT, Int32.reduceAdd, tn_0, tn_1, ok_0_2, ok_1_2, h1, hG, hB, k1, k2, blF_S, nI_1]
    exact ih
def wdC_11 (C : Nat → va_E) : Nat → va_E := upE (upE (upE (upE (upE (upE (upE (upE (upE (upE (C) 11 (.inr (3, [.ref 12, .ref 17, .ref 18, .ref 19, .ref 20, .int 0]))) 12 (.inl (2, 2, .inr (.inr (.inr (.inr (va_up (va_up (fun _ => none) 0 (some 13)) 1 (some 15)))))))) 13 (.inr (1, [.ref 14, .int 0]))) 14 (.inl (0, 6, .inl (fun _ => 0)))) 15 (.inr (1, [.ref 16, .int 0]))) 16 (.inl (0, 6, .inl (fun _ => 0)))) 17 (.inl (0, 17, .inl (blF 16)))) 18 (.inl (0, 6, .inl (fun _ => 0)))) 19 (.inl (0, 6, .inl (fun _ => 0)))) 20 (.inl (0, 6, .inl (fun _ => 0)))
theorem k_1_11 {X : pm_X} {d : Nat} {C : Nat → va_E} {F} : pv_call X (d + 2) 1 [.ref 11] (st_G 12 (upE C 11 (.inr (3, [.null, .null, .null, .null, .null, .int 0])))) F = F none (st_G 21 (wdC_11 C)) := pv_call_ev rfl (by
  show pm_ev X (d + 2) 1 (0, [some (.ref 11), none], [], _) = _
  simp only [↓ps_1_0, ↓ps_1_1, ↓ps_1_4, ↓ps_1_5, ↓ps_1_6, ↓ps_1_9, ↓ps_1_12, ↓ps_1_13, ↓ps_1_15, ↓ps_1_16, ↓ps_1_19, ↓ps_1_20, ↓ps_1_23, ↓ps_1_24, ↓ps_1_27, ↓ps_1_28, ↓ps_1_31, ↓ps_1_32, ↓ps_1_35, ↓ps_1_38, ↓ps_1_39, ↓ps_1_41, ↓ps_1_43, ↓ps_1_46, ↓ps_1_47, ↓ps_1_49, ↓ps_1_51, ↓ps_1_54, ↓ps_1_55, ↓ps_1_58, ↓ps_1_59, ↓ps_1_60, ↓ps_1_61, ↓ps_1_64, ↓ps_1_68, ↓ps_1_70, ↓ps_1_72, ↓ps_1_75, ↓ps_1_76, ↓ps_1_78, ↓ps_1_80, ↓ps_1_83, ↓ps_1_84, ↓ps_1_86, ↓ps_1_88, ↓ps_1_91, ↓ps_1_92, ↓ps_1_93, ↓ps_1_96, ↓q_i1, ↓q_i2, ↓q_l1, ↓q_l2, ↓q_r1, ↓q_v1, ↓q_rs, ↓q_if, ↓q_gi, ↓q_gi', ↓q_gl, ↓q_gl', ↓q_ga, ↓q_ga', ↓q_s1, ↓q_s1n, ↓q_s1i, ↓q_s1r, ↓q_s1', ↓q_s2, ↓q_s2n, ↓q_s2i, ↓q_s2r, ↓q_s2', ↓q_ar0, ↓q_ar, q_w0, q_wi, q_wl, q_wr, q_wii, q_wil, q_wli, q_wll, q_wir, q_wri, q_wlr, q_wrl, q_wrr, q_wirr, q_wiir, q_wiii, q_ni, q_nl, q_fi, q_fl, q_z0, q_z1, q_fz0, q_fz1, ↓q_ts, ↓q_tn, q_e, q_ci, q_cr, ↓q_rfs, decide_true, Bool.and_true, Bool.and_self, Nat.zero_add, Nat.reduceAdd, Nat.reduceBEq, beq_self_eq_true, q_le, q_lel, q_ge, q_gel, q_gt, q_gtl, ite_not, Bool.not_eq_true', Bool.not_eq_false', ↓reduceIte, g_len, g_app, ↓g_fg, ↓g_fp, ↓g_wi, ↓g_wq, e_fg, e_fp, e_v, e_wi, e_wq, df_0, df_1, df_2, df_3, df_4, df_5, upEA, upE_uu, List.getElem?_cons_zero, List.getElem?_cons_succ, List.set_cons_zero, List.set_cons_succ, List.length_cons, List.length_nil, Nat.reduceLT, Nat.reduceAdd, Nat.reduceEqDiff, Nat.reduceBEq, beq_self_eq_true, Bool.and_self, decide_true, Bool.and_true, Bool.true_and, if_true, if_false, nr_0, fr_0, nr_1, fr_1, nr_2, fr_2, nr_3, fr_3, nr_4, fr_4, nr_5, fr_5, na_2, nt_2, na_6, nt_6, na_7, nt_7, na_8, nt_8, na_12, nt_12, na_16, nt_16, na_17, nt_17, na_48, nt_48, na_96, nt_96, na_100, nt_100, q_e, q_tn, q_ts, not_false_eq_true, not_true_eq_false, decide_false, Bool.not_true, Bool.not_false, Int32.reduceLT, Int32.reduceAdd, tn_0, tn_1, ok_0_2, ok_1_2]
  rw [ps_1_14]
  simp only [↓ps_1_0, ↓ps_1_1, ↓ps_1_4, ↓ps_1_5, ↓ps_1_6, ↓ps_1_9, ↓ps_1_12, ↓ps_1_13, ↓ps_1_15, ↓ps_1_16, ↓ps_1_19, ↓ps_1_20, ↓ps_1_23, ↓ps_1_24, ↓ps_1_27, ↓ps_1_28, ↓ps_1_31, ↓ps_1_32, ↓ps_1_35, ↓ps_1_38, ↓ps_1_39, ↓ps_1_41, ↓ps_1_43, ↓ps_1_46, ↓ps_1_47, ↓ps_1_49, ↓ps_1_51, ↓ps_1_54, ↓ps_1_55, ↓ps_1_58, ↓ps_1_59, ↓ps_1_60, ↓ps_1_61, ↓ps_1_64, ↓ps_1_68, ↓ps_1_70, ↓ps_1_72, ↓ps_1_75, ↓ps_1_76, ↓ps_1_78, ↓ps_1_80, ↓ps_1_83, ↓ps_1_84, ↓ps_1_86, ↓ps_1_88, ↓ps_1_91, ↓ps_1_92, ↓ps_1_93, ↓ps_1_96, ↓q_i1, ↓q_i2, ↓q_l1, ↓q_l2, ↓q_r1, ↓q_v1, ↓q_rs, ↓q_if, ↓q_gi, ↓q_gi', ↓q_gl, ↓q_gl', ↓q_ga, ↓q_ga', ↓q_s1, ↓q_s1n, ↓q_s1i, ↓q_s1r, ↓q_s1', ↓q_s2, ↓q_s2n, ↓q_s2i, ↓q_s2r, ↓q_s2', ↓q_ar0, ↓q_ar, q_w0, q_wi, q_wl, q_wr, q_wii, q_wil, q_wli, q_wll, q_wir, q_wri, q_wlr, q_wrl, q_wrr, q_wirr, q_wiir, q_wiii, q_ni, q_nl, q_fi, q_fl, q_z0, q_z1, q_fz0, q_fz1, ↓q_ts, ↓q_tn, q_e, q_ci, q_cr, ↓q_rfs, decide_true, Bool.and_true, Bool.and_self, Nat.zero_add, Nat.reduceAdd, Nat.reduceBEq, beq_self_eq_true, q_le, q_lel, q_ge, q_gel, q_gt, q_gtl, ite_not, Bool.not_eq_true', Bool.not_eq_false', ↓reduceIte, g_len, g_app, ↓g_fg, ↓g_fp, ↓g_wi, ↓g_wq, e_fg, e_fp, e_v, e_wi, e_wq, df_0, df_1, df_2, df_3, df_4, df_5, upEA, upE_uu, List.getElem?_cons_zero, List.getElem?_cons_succ, List.set_cons_zero, List.set_cons_succ, List.length_cons, List.length_nil, Nat.reduceLT, Nat.reduceAdd, Nat.reduceEqDiff, Nat.reduceBEq, beq_self_eq_true, Bool.and_self, decide_true, Bool.and_true, Bool.true_and, if_true, if_false, nr_0, fr_0, nr_1, fr_1, nr_2, fr_2, nr_3, fr_3, nr_4, fr_4, nr_5, fr_5, na_2, nt_2, na_6, nt_6, na_7, nt_7, na_8, nt_8, na_12, nt_12, na_16, nt_16, na_17, nt_17, na_48, nt_48, na_96, nt_96, na_100, nt_100, q_e, q_tn, q_ts, not_false_eq_true, not_true_eq_false, decide_false, Bool.not_true, Bool.not_false, Int32.reduceLT, Int32.reduceAdd, tn_0, tn_1, ok_0_2, ok_1_2, ↓k_2_13]
  rw [ps_1_14]
  simp only [↓ps_1_0, ↓ps_1_1, ↓ps_1_4, ↓ps_1_5, ↓ps_1_6, ↓ps_1_9, ↓ps_1_12, ↓ps_1_13, ↓ps_1_15, ↓ps_1_16, ↓ps_1_19, ↓ps_1_20, ↓ps_1_23, ↓ps_1_24, ↓ps_1_27, ↓ps_1_28, ↓ps_1_31, ↓ps_1_32, ↓ps_1_35, ↓ps_1_38, ↓ps_1_39, ↓ps_1_41, ↓ps_1_43, ↓ps_1_46, ↓ps_1_47, ↓ps_1_49, ↓ps_1_51, ↓ps_1_54, ↓ps_1_55, ↓ps_1_58, ↓ps_1_59, ↓ps_1_60, ↓ps_1_61, ↓ps_1_64, ↓ps_1_68, ↓ps_1_70, ↓ps_1_72, ↓ps_1_75, ↓ps_1_76, ↓ps_1_78, ↓ps_1_80, ↓ps_1_83, ↓ps_1_84, ↓ps_1_86, ↓ps_1_88, ↓ps_1_91, ↓ps_1_92, ↓ps_1_93, ↓ps_1_96, ↓q_i1, ↓q_i2, ↓q_l1, ↓q_l2, ↓q_r1, ↓q_v1, ↓q_rs, ↓q_if, ↓q_gi, ↓q_gi', ↓q_gl, ↓q_gl', ↓q_ga, ↓q_ga', ↓q_s1, ↓q_s1n, ↓q_s1i, ↓q_s1r, ↓q_s1', ↓q_s2, ↓q_s2n, ↓q_s2i, ↓q_s2r, ↓q_s2', ↓q_ar0, ↓q_ar, q_w0, q_wi, q_wl, q_wr, q_wii, q_wil, q_wli, q_wll, q_wir, q_wri, q_wlr, q_wrl, q_wrr, q_wirr, q_wiir, q_wiii, q_ni, q_nl, q_fi, q_fl, q_z0, q_z1, q_fz0, q_fz1, ↓q_ts, ↓q_tn, q_e, q_ci, q_cr, ↓q_rfs, decide_true, Bool.and_true, Bool.and_self, Nat.zero_add, Nat.reduceAdd, Nat.reduceBEq, beq_self_eq_true, q_le, q_lel, q_ge, q_gel, q_gt, q_gtl, ite_not, Bool.not_eq_true', Bool.not_eq_false', ↓reduceIte, g_len, g_app, ↓g_fg, ↓g_fp, ↓g_wi, ↓g_wq, e_fg, e_fp, e_v, e_wi, e_wq, df_0, df_1, df_2, df_3, df_4, df_5, upEA, upE_uu, List.getElem?_cons_zero, List.getElem?_cons_succ, List.set_cons_zero, List.set_cons_succ, List.length_cons, List.length_nil, Nat.reduceLT, Nat.reduceAdd, Nat.reduceEqDiff, Nat.reduceBEq, beq_self_eq_true, Bool.and_self, decide_true, Bool.and_true, Bool.true_and, if_true, if_false, nr_0, fr_0, nr_1, fr_1, nr_2, fr_2, nr_3, fr_3, nr_4, fr_4, nr_5, fr_5, na_2, nt_2, na_6, nt_6, na_7, nt_7, na_8, nt_8, na_12, nt_12, na_16, nt_16, na_17, nt_17, na_48, nt_48, na_96, nt_96, na_100, nt_100, q_e, q_tn, q_ts, not_false_eq_true, not_true_eq_false, decide_false, Bool.not_true, Bool.not_false, Int32.reduceLT, Int32.reduceAdd, tn_0, tn_1, ok_0_2, ok_1_2, ↓k_2_15]
  rw [ps_1_14]
  simp only [↓ps_1_0, ↓ps_1_1, ↓ps_1_4, ↓ps_1_5, ↓ps_1_6, ↓ps_1_9, ↓ps_1_12, ↓ps_1_13, ↓ps_1_15, ↓ps_1_16, ↓ps_1_19, ↓ps_1_20, ↓ps_1_23, ↓ps_1_24, ↓ps_1_27, ↓ps_1_28, ↓ps_1_31, ↓ps_1_32, ↓ps_1_35, ↓ps_1_38, ↓ps_1_39, ↓ps_1_41, ↓ps_1_43, ↓ps_1_46, ↓ps_1_47, ↓ps_1_49, ↓ps_1_51, ↓ps_1_54, ↓ps_1_55, ↓ps_1_58, ↓ps_1_59, ↓ps_1_60, ↓ps_1_61, ↓ps_1_64, ↓ps_1_68, ↓ps_1_70, ↓ps_1_72, ↓ps_1_75, ↓ps_1_76, ↓ps_1_78, ↓ps_1_80, ↓ps_1_83, ↓ps_1_84, ↓ps_1_86, ↓ps_1_88, ↓ps_1_91, ↓ps_1_92, ↓ps_1_93, ↓ps_1_96, ↓q_i1, ↓q_i2, ↓q_l1, ↓q_l2, ↓q_r1, ↓q_v1, ↓q_rs, ↓q_if, ↓q_gi, ↓q_gi', ↓q_gl, ↓q_gl', ↓q_ga, ↓q_ga', ↓q_s1, ↓q_s1n, ↓q_s1i, ↓q_s1r, ↓q_s1', ↓q_s2, ↓q_s2n, ↓q_s2i, ↓q_s2r, ↓q_s2', ↓q_ar0, ↓q_ar, q_w0, q_wi, q_wl, q_wr, q_wii, q_wil, q_wli, q_wll, q_wir, q_wri, q_wlr, q_wrl, q_wrr, q_wirr, q_wiir, q_wiii, q_ni, q_nl, q_fi, q_fl, q_z0, q_z1, q_fz0, q_fz1, ↓q_ts, ↓q_tn, q_e, q_ci, q_cr, ↓q_rfs, decide_true, Bool.and_true, Bool.and_self, Nat.zero_add, Nat.reduceAdd, Nat.reduceBEq, beq_self_eq_true, q_le, q_lel, q_ge, q_gel, q_gt, q_gtl, ite_not, Bool.not_eq_true', Bool.not_eq_false', ↓reduceIte, g_len, g_app, ↓g_fg, ↓g_fp, ↓g_wi, ↓g_wq, e_fg, e_fp, e_v, e_wi, e_wq, df_0, df_1, df_2, df_3, df_4, df_5, upEA, upE_uu, List.getElem?_cons_zero, List.getElem?_cons_succ, List.set_cons_zero, List.set_cons_succ, List.length_cons, List.length_nil, Nat.reduceLT, Nat.reduceAdd, Nat.reduceEqDiff, Nat.reduceBEq, beq_self_eq_true, Bool.and_self, decide_true, Bool.and_true, Bool.true_and, if_true, if_false, nr_0, fr_0, nr_1, fr_1, nr_2, fr_2, nr_3, fr_3, nr_4, fr_4, nr_5, fr_5, na_2, nt_2, na_6, nt_6, na_7, nt_7, na_8, nt_8, na_12, nt_12, na_16, nt_16, na_17, nt_17, na_48, nt_48, na_96, nt_96, na_100, nt_100, q_e, q_tn, q_ts, not_false_eq_true, not_true_eq_false, decide_false, Bool.not_true, Bool.not_false, Int32.reduceLT, Int32.reduceAdd, tn_0, tn_1, ok_0_2, ok_1_2]
  refine (l_1_48_11 (X := X) (d := d) 16 0 _ (by omega) rfl (by rw [← blF_0]; rfl)).trans ?_
  rw [ps_1_67]
  simp only [↓ps_1_0, ↓ps_1_1, ↓ps_1_4, ↓ps_1_5, ↓ps_1_6, ↓ps_1_9, ↓ps_1_12, ↓ps_1_13, ↓ps_1_15, ↓ps_1_16, ↓ps_1_19, ↓ps_1_20, ↓ps_1_23, ↓ps_1_24, ↓ps_1_27, ↓ps_1_28, ↓ps_1_31, ↓ps_1_32, ↓ps_1_35, ↓ps_1_38, ↓ps_1_39, ↓ps_1_41, ↓ps_1_43, ↓ps_1_46, ↓ps_1_47, ↓ps_1_49, ↓ps_1_51, ↓ps_1_54, ↓ps_1_55, ↓ps_1_58, ↓ps_1_59, ↓ps_1_60, ↓ps_1_61, ↓ps_1_64, ↓ps_1_67, ↓ps_1_68, ↓ps_1_70, ↓ps_1_72, ↓ps_1_75, ↓ps_1_76, ↓ps_1_78, ↓ps_1_80, ↓ps_1_83, ↓ps_1_84, ↓ps_1_86, ↓ps_1_88, ↓ps_1_91, ↓ps_1_92, ↓ps_1_93, ↓ps_1_96, ↓q_i1, ↓q_i2, ↓q_l1, ↓q_l2, ↓q_r1, ↓q_v1, ↓q_rs, ↓q_if, ↓q_gi, ↓q_gi', ↓q_gl, ↓q_gl', ↓q_ga, ↓q_ga', ↓q_s1, ↓q_s1n, ↓q_s1i, ↓q_s1r, ↓q_s1', ↓q_s2, ↓q_s2n, ↓q_s2i, ↓q_s2r, ↓q_s2', ↓q_ar0, ↓q_ar, q_w0, q_wi, q_wl, q_wr, q_wii, q_wil, q_wli, q_wll, q_wir, q_wri, q_wlr, q_wrl, q_wrr, q_wirr, q_wiir, q_wiii, q_ni, q_nl, q_fi, q_fl, q_z0, q_z1, q_fz0, q_fz1, ↓q_ts, ↓q_tn, q_e, q_ci, q_cr, ↓q_rfs, decide_true, Bool.and_true, Bool.and_self, Nat.zero_add, Nat.reduceAdd, Nat.reduceBEq, beq_self_eq_true, q_le, q_lel, q_ge, q_gel, q_gt, q_gtl, ite_not, Bool.not_eq_true', Bool.not_eq_false', ↓reduceIte, g_len, g_app, ↓g_fg, ↓g_fp, ↓g_wi, ↓g_wq, e_fg, e_fp, e_v, e_wi, e_wq, df_0, df_1, df_2, df_3, df_4, df_5, upEA, upE_uu, List.getElem?_cons_zero, List.getElem?_cons_succ, List.set_cons_zero, List.set_cons_succ, List.length_cons, List.length_nil, Nat.reduceLT, Nat.reduceAdd, Nat.reduceEqDiff, Nat.reduceBEq, beq_self_eq_true, Bool.and_self, decide_true, Bool.and_true, Bool.true_and, if_true, if_false, nr_0, fr_0, nr_1, fr_1, nr_2, fr_2, nr_3, fr_3, nr_4, fr_4, nr_5, fr_5, na_2, nt_2, na_6, nt_6, na_7, nt_7, na_8, nt_8, na_12, nt_12, na_16, nt_16, na_17, nt_17, na_48, nt_48, na_96, nt_96, na_100, nt_100, q_e, q_tn, q_ts, not_false_eq_true, not_true_eq_false, decide_false, Bool.not_true, Bool.not_false, Int32.reduceLT, Int32.reduceAdd, tn_0, tn_1, ok_0_2, ok_1_2]
  unfold wdC_11
  refine congrArg (fun z => some (none, st_G _ z)) (funext fun b => ?_)
  by_cases e11 : b = 11
  · subst e11; rfl
  by_cases e12 : b = 12
  · subst e12; rfl
  by_cases e13 : b = 13
  · subst e13; rfl
  by_cases e14 : b = 14
  · subst e14; rfl
  by_cases e15 : b = 15
  · subst e15; rfl
  by_cases e16 : b = 16
  · subst e16; rfl
  by_cases e17 : b = 17
  · subst e17; rfl
  by_cases e18 : b = 18
  · subst e18; rfl
  by_cases e19 : b = 19
  · subst e19; rfl
  by_cases e20 : b = 20
  · subst e20; rfl
  simp only [upEA, e11, e12, e13, e14, e15, e16, e17, e18, e19, e20, if_false])
theorem l_1_48_21 {X : pm_X} {d : Nat} {fs : List Value} : ∀ m i (G : Nat → va_E), i + m = 16 → G 21 = .inr (3, .ref 22 :: .ref 27 :: fs) → G 27 = .inl (0, 17, .inl (blF i)) → pm_ev X (d + 2) 1 (48, [some (.ref 21), some (.int (nI (i + 1)))], [], st_G 28 G) = pm_ev X (d + 2) 1 (67, [some (.ref 21), some (.int (nI (16 + 1)))], [], st_G 28 (upE G 27 (.inl (0, 17, .inl (blF 16)))))
  | 0, i, G, hi, hG, hB => by
    have hi : i = 16 := by omega
    subst hi
    have h1 : 16 < nI (16 + 1) := by decide
    rw [← hB, upE_s, ps_1_48]
    simp only [↓ps_1_0, ↓ps_1_1, ↓ps_1_4, ↓ps_1_5, ↓ps_1_6, ↓ps_1_9, ↓ps_1_12, ↓ps_1_13, ↓ps_1_14, ↓ps_1_15, ↓ps_1_16, ↓ps_1_19, ↓ps_1_20, ↓ps_1_23, ↓ps_1_24, ↓ps_1_27, ↓ps_1_28, ↓ps_1_31, ↓ps_1_32, ↓ps_1_35, ↓ps_1_38, ↓ps_1_39, ↓ps_1_41, ↓ps_1_43, ↓ps_1_46, ↓ps_1_47, ↓ps_1_49, ↓ps_1_51, ↓ps_1_54, ↓ps_1_55, ↓ps_1_58, ↓ps_1_59, ↓ps_1_60, ↓ps_1_61, ↓ps_1_64, ↓ps_1_68, ↓ps_1_70, ↓ps_1_72, ↓ps_1_75, ↓ps_1_76, ↓ps_1_78, ↓ps_1_80, ↓ps_1_83, ↓ps_1_84, ↓ps_1_86, ↓ps_1_88, ↓ps_1_91, ↓ps_1_92, ↓ps_1_93, ↓ps_1_96, ↓q_i1, ↓q_i2, ↓q_l1, ↓q_l2, ↓q_r1, ↓q_v1, ↓q_rs, ↓q_if, ↓q_gi, ↓q_gi', ↓q_gl, ↓q_gl', ↓q_ga, ↓q_ga', ↓q_s1, ↓q_s1n, ↓q_s1i, ↓q_s1r, ↓q_s1', ↓q_s2, ↓q_s2n, ↓q_s2i, ↓q_s2r, ↓q_s2', ↓q_ar0, ↓q_ar, q_w0, q_wi, q_wl, q_wr, q_wii, q_wil, q_wli, q_wll, q_wir, q_wri, q_wlr, q_wrl, q_wrr, q_wirr, q_wiir, q_wiii, q_ni, q_nl, q_fi, q_fl, q_z0, q_z1, q_fz0, q_fz1, ↓q_ts, ↓q_tn, q_e, q_ci, q_cr, ↓q_rfs, decide_true, Bool.and_true, Bool.and_self, Nat.zero_add, Nat.reduceAdd, Nat.reduceBEq, beq_self_eq_true, q_le, q_lel, q_ge, q_gel, q_gt, q_gtl, ite_not, Bool.not_eq_true', Bool.not_eq_false', ↓reduceIte, g_len, g_app, ↓g_fg, ↓g_fp, ↓g_wi, ↓g_wq, e_fg, e_fp, e_v, e_wi, e_wq, df_0, df_1, df_2, df_3, df_4, df_5, upEA, upE_uu, List.getElem?_cons_zero, List.getElem?_cons_succ, List.set_cons_zero, List.set_cons_succ, List.length_cons, List.length_nil, Nat.reduceLT, Nat.reduceAdd, Nat.reduceEqDiff, Nat.reduceBEq, beq_self_eq_true, Bool.and_self, decide_true, Bool.and_true, Bool.true_and, if_true, if_false, nr_0, fr_0, nr_1, fr_1, nr_2, fr_2, nr_3, fr_3, nr_4, fr_4, nr_5, fr_5, na_2, nt_2, na_6, nt_6, na_7, nt_7, na_8, nt_8, na_12, nt_12, na_16, nt_16, na_17, nt_17, na_48, nt_48, na_96, nt_96, na_100, nt_100, q_e, q_tn, q_ts, not_false_eq_true, not_true_eq_false, decide_false, Bool.not_true, Bool.not_false, Int32.reduceLT, Int32.reduceAdd, tn_0, tn_1, ok_0_2, ok_1_2, h1]
  | m + 1, i, G, hi, hG, hB => by
    have ih := l_1_48_21 (X := X) (d := d) (fs := fs) m (i + 1) (upE G 27 (.inl (0, 17, .inl (blF (i + 1))))) (by omega) hG rfl
    rw [upE_uu] at ih
    have h1 : ¬ 16 < nI (i + 1) := nI_nl (n := 16) (by omega) (by decide)
    have k1 : pm_ok (nI (i + 1)) 17 = true := decide_eq_true (nI_in (by omega) (by decide))
    have k2 : (nI (i + 1)).toNatClampNeg = i + 1 := nI_clamp (by omega)
    rw [ps_1_48]
    simp only [↓ps_1_0, ↓ps_1_1, ↓ps_1_4, ↓ps_1_5, ↓ps_1_6, ↓ps_1_9, ↓ps_1_12, ↓ps_1_13, ↓ps_1_14, ↓ps_1_15, ↓ps_1_16, ↓ps_1_19, ↓ps_1_20, ↓ps_1_23, ↓ps_1_24, ↓ps_1_27, ↓ps_1_28, ↓ps_1_31, ↓ps_1_32, ↓ps_1_35, ↓ps_1_38, ↓ps_1_39, ↓ps_1_41, ↓ps_1_43, ↓ps_1_46, ↓ps_1_47, ↓ps_1_49, ↓ps_1_51, ↓ps_1_54, ↓ps_1_55, ↓ps_1_58, ↓ps_1_59, ↓ps_1_60, ↓ps_1_61, ↓ps_1_64, ↓ps_1_68, ↓ps_1_70, ↓ps_1_72, ↓ps_1_75, ↓ps_1_76, ↓ps_1_78, ↓ps_1_80, ↓ps_1_83, ↓ps_1_84, ↓ps_1_86, ↓ps_1_88, ↓ps_1_91, ↓ps_1_92, ↓ps_1_93, ↓ps_1_96, ↓q_i1, ↓q_i2, ↓q_l1, ↓q_l2, ↓q_r1, ↓q_v1, ↓q_rs, ↓q_if, ↓q_gi, ↓q_gi', ↓q_gl, ↓q_gl', ↓q_ga, ↓q_ga', ↓q_s1, ↓q_s1n, ↓q_s1i, ↓q_s1r, ↓q_s1', ↓q_s2, ↓q_s2n, ↓q_s2i, ↓q_s2r, ↓q_s2', ↓q_ar0, ↓q_ar, q_w0, q_wi, q_wl, q_wr, q_wii, q_wil, q_wli, q_wll, q_wir, q_wri, q_wlr, q_wrl, q_wrr, q_wirr, q_wiir, q_wiii, q_ni, q_nl, q_fi, q_fl, q_z0, q_z1, q_fz0, q_fz1, ↓q_ts, ↓q_tn, q_e, q_ci, q_cr, ↓q_rfs, decide_true, Bool.and_true, Bool.and_self, Nat.zero_add, Nat.reduceAdd, Nat.reduceBEq, beq_self_eq_true, q_le, q_lel, q_ge, q_gel, q_gt, q_gtl, ite_not, Bool.not_eq_true', Bool.not_eq_false', ↓reduceIte, g_len, g_app, ↓g_fg, ↓g_fp, ↓g_wi, ↓g_wq, e_fg, e_fp, e_v, e_wi, e_wq, df_0, df_1, df_2, df_3, df_4, df_5, upEA, upE_uu, List.getElem?_cons_zero, List.getElem?_cons_succ, List.set_cons_zero, List.set_cons_succ, List.length_cons, List.length_nil, Nat.reduceLT, Nat.reduceAdd, Nat.reduceEqDiff, Nat.reduceBEq, beq_self_eq_true, Bool.and_self, decide_true, Bool.and_true, Bool.true_and, if_true, if_false, nr_0, fr_0, nr_1, fr_1, nr_2, fr_2, nr_3, fr_3, nr_4, fr_4, nr_5, fr_5, na_2, nt_2, na_6, nt_6, na_7, nt_7, na_8, nt_8, na_12, nt_12, na_16, nt_16, na_17, nt_17, na_48, nt_48, na_96, nt_96, na_100, nt_100, q_e, q_tn, q_ts, not_false_eq_true, not_true_eq_false, decide_false, Bool.not_true, Bool.not_false, Int32.reduceLT, Int32.reduceAdd, tn_0, tn_1, ok_0_2, ok_1_2, h1, hG, hB, k1, k2, blF_S, nI_1]
    exact ih
def wdC_21 (C : Nat → va_E) : Nat → va_E := upE (upE (upE (upE (upE (upE (upE (upE (upE (upE (C) 21 (.inr (3, [.ref 22, .ref 27, .ref 28, .ref 29, .ref 30, .int 0]))) 22 (.inl (2, 2, .inr (.inr (.inr (.inr (va_up (va_up (fun _ => none) 0 (some 23)) 1 (some 25)))))))) 23 (.inr (1, [.ref 24, .int 0]))) 24 (.inl (0, 6, .inl (fun _ => 0)))) 25 (.inr (1, [.ref 26, .int 0]))) 26 (.inl (0, 6, .inl (fun _ => 0)))) 27 (.inl (0, 17, .inl (blF 16)))) 28 (.inl (0, 6, .inl (fun _ => 0)))) 29 (.inl (0, 6, .inl (fun _ => 0)))) 30 (.inl (0, 6, .inl (fun _ => 0)))
theorem k_1_21 {X : pm_X} {d : Nat} {C : Nat → va_E} {F} : pv_call X (d + 2) 1 [.ref 21] (st_G 22 (upE C 21 (.inr (3, [.null, .null, .null, .null, .null, .int 0])))) F = F none (st_G 31 (wdC_21 C)) := pv_call_ev rfl (by
  show pm_ev X (d + 2) 1 (0, [some (.ref 21), none], [], _) = _
  simp only [↓ps_1_0, ↓ps_1_1, ↓ps_1_4, ↓ps_1_5, ↓ps_1_6, ↓ps_1_9, ↓ps_1_12, ↓ps_1_13, ↓ps_1_15, ↓ps_1_16, ↓ps_1_19, ↓ps_1_20, ↓ps_1_23, ↓ps_1_24, ↓ps_1_27, ↓ps_1_28, ↓ps_1_31, ↓ps_1_32, ↓ps_1_35, ↓ps_1_38, ↓ps_1_39, ↓ps_1_41, ↓ps_1_43, ↓ps_1_46, ↓ps_1_47, ↓ps_1_49, ↓ps_1_51, ↓ps_1_54, ↓ps_1_55, ↓ps_1_58, ↓ps_1_59, ↓ps_1_60, ↓ps_1_61, ↓ps_1_64, ↓ps_1_68, ↓ps_1_70, ↓ps_1_72, ↓ps_1_75, ↓ps_1_76, ↓ps_1_78, ↓ps_1_80, ↓ps_1_83, ↓ps_1_84, ↓ps_1_86, ↓ps_1_88, ↓ps_1_91, ↓ps_1_92, ↓ps_1_93, ↓ps_1_96, ↓q_i1, ↓q_i2, ↓q_l1, ↓q_l2, ↓q_r1, ↓q_v1, ↓q_rs, ↓q_if, ↓q_gi, ↓q_gi', ↓q_gl, ↓q_gl', ↓q_ga, ↓q_ga', ↓q_s1, ↓q_s1n, ↓q_s1i, ↓q_s1r, ↓q_s1', ↓q_s2, ↓q_s2n, ↓q_s2i, ↓q_s2r, ↓q_s2', ↓q_ar0, ↓q_ar, q_w0, q_wi, q_wl, q_wr, q_wii, q_wil, q_wli, q_wll, q_wir, q_wri, q_wlr, q_wrl, q_wrr, q_wirr, q_wiir, q_wiii, q_ni, q_nl, q_fi, q_fl, q_z0, q_z1, q_fz0, q_fz1, ↓q_ts, ↓q_tn, q_e, q_ci, q_cr, ↓q_rfs, decide_true, Bool.and_true, Bool.and_self, Nat.zero_add, Nat.reduceAdd, Nat.reduceBEq, beq_self_eq_true, q_le, q_lel, q_ge, q_gel, q_gt, q_gtl, ite_not, Bool.not_eq_true', Bool.not_eq_false', ↓reduceIte, g_len, g_app, ↓g_fg, ↓g_fp, ↓g_wi, ↓g_wq, e_fg, e_fp, e_v, e_wi, e_wq, df_0, df_1, df_2, df_3, df_4, df_5, upEA, upE_uu, List.getElem?_cons_zero, List.getElem?_cons_succ, List.set_cons_zero, List.set_cons_succ, List.length_cons, List.length_nil, Nat.reduceLT, Nat.reduceAdd, Nat.reduceEqDiff, Nat.reduceBEq, beq_self_eq_true, Bool.and_self, decide_true, Bool.and_true, Bool.true_and, if_true, if_false, nr_0, fr_0, nr_1, fr_1, nr_2, fr_2, nr_3, fr_3, nr_4, fr_4, nr_5, fr_5, na_2, nt_2, na_6, nt_6, na_7, nt_7, na_8, nt_8, na_12, nt_12, na_16, nt_16, na_17, nt_17, na_48, nt_48, na_96, nt_96, na_100, nt_100, q_e, q_tn, q_ts, not_false_eq_true, not_true_eq_false, decide_false, Bool.not_true, Bool.not_false, Int32.reduceLT, Int32.reduceAdd, tn_0, tn_1, ok_0_2, ok_1_2]
  rw [ps_1_14]
  simp only [↓ps_1_0, ↓ps_1_1, ↓ps_1_4, ↓ps_1_5, ↓ps_1_6, ↓ps_1_9, ↓ps_1_12, ↓ps_1_13, ↓ps_1_15, ↓ps_1_16, ↓ps_1_19, ↓ps_1_20, ↓ps_1_23, ↓ps_1_24, ↓ps_1_27, ↓ps_1_28, ↓ps_1_31, ↓ps_1_32, ↓ps_1_35, ↓ps_1_38, ↓ps_1_39, ↓ps_1_41, ↓ps_1_43, ↓ps_1_46, ↓ps_1_47, ↓ps_1_49, ↓ps_1_51, ↓ps_1_54, ↓ps_1_55, ↓ps_1_58, ↓ps_1_59, ↓ps_1_60, ↓ps_1_61, ↓ps_1_64, ↓ps_1_68, ↓ps_1_70, ↓ps_1_72, ↓ps_1_75, ↓ps_1_76, ↓ps_1_78, ↓ps_1_80, ↓ps_1_83, ↓ps_1_84, ↓ps_1_86, ↓ps_1_88, ↓ps_1_91, ↓ps_1_92, ↓ps_1_93, ↓ps_1_96, ↓q_i1, ↓q_i2, ↓q_l1, ↓q_l2, ↓q_r1, ↓q_v1, ↓q_rs, ↓q_if, ↓q_gi, ↓q_gi', ↓q_gl, ↓q_gl', ↓q_ga, ↓q_ga', ↓q_s1, ↓q_s1n, ↓q_s1i, ↓q_s1r, ↓q_s1', ↓q_s2, ↓q_s2n, ↓q_s2i, ↓q_s2r, ↓q_s2', ↓q_ar0, ↓q_ar, q_w0, q_wi, q_wl, q_wr, q_wii, q_wil, q_wli, q_wll, q_wir, q_wri, q_wlr, q_wrl, q_wrr, q_wirr, q_wiir, q_wiii, q_ni, q_nl, q_fi, q_fl, q_z0, q_z1, q_fz0, q_fz1, ↓q_ts, ↓q_tn, q_e, q_ci, q_cr, ↓q_rfs, decide_true, Bool.and_true, Bool.and_self, Nat.zero_add, Nat.reduceAdd, Nat.reduceBEq, beq_self_eq_true, q_le, q_lel, q_ge, q_gel, q_gt, q_gtl, ite_not, Bool.not_eq_true', Bool.not_eq_false', ↓reduceIte, g_len, g_app, ↓g_fg, ↓g_fp, ↓g_wi, ↓g_wq, e_fg, e_fp, e_v, e_wi, e_wq, df_0, df_1, df_2, df_3, df_4, df_5, upEA, upE_uu, List.getElem?_cons_zero, List.getElem?_cons_succ, List.set_cons_zero, List.set_cons_succ, List.length_cons, List.length_nil, Nat.reduceLT, Nat.reduceAdd, Nat.reduceEqDiff, Nat.reduceBEq, beq_self_eq_true, Bool.and_self, decide_true, Bool.and_true, Bool.true_and, if_true, if_false, nr_0, fr_0, nr_1, fr_1, nr_2, fr_2, nr_3, fr_3, nr_4, fr_4, nr_5, fr_5, na_2, nt_2, na_6, nt_6, na_7, nt_7, na_8, nt_8, na_12, nt_12, na_16, nt_16, na_17, nt_17, na_48, nt_48, na_96, nt_96, na_100, nt_100, q_e, q_tn, q_ts, not_false_eq_true, not_true_eq_false, decide_false, Bool.not_true, Bool.not_false, Int32.reduceLT, Int32.reduceAdd, tn_0, tn_1, ok_0_2, ok_1_2, ↓k_2_23]
  rw [ps_1_14]
  simp only [↓ps_1_0, ↓ps_1_1, ↓ps_1_4, ↓ps_1_5, ↓ps_1_6, ↓ps_1_9, ↓ps_1_12, ↓ps_1_13, ↓ps_1_15, ↓ps_1_16, ↓ps_1_19, ↓ps_1_20, ↓ps_1_23, ↓ps_1_24, ↓ps_1_27, ↓ps_1_28, ↓ps_1_31, ↓ps_1_32, ↓ps_1_35, ↓ps_1_38, ↓ps_1_39, ↓ps_1_41, ↓ps_1_43, ↓ps_1_46, ↓ps_1_47, ↓ps_1_49, ↓ps_1_51, ↓ps_1_54, ↓ps_1_55, ↓ps_1_58, ↓ps_1_59, ↓ps_1_60, ↓ps_1_61, ↓ps_1_64, ↓ps_1_68, ↓ps_1_70, ↓ps_1_72, ↓ps_1_75, ↓ps_1_76, ↓ps_1_78, ↓ps_1_80, ↓ps_1_83, ↓ps_1_84, ↓ps_1_86, ↓ps_1_88, ↓ps_1_91, ↓ps_1_92, ↓ps_1_93, ↓ps_1_96, ↓q_i1, ↓q_i2, ↓q_l1, ↓q_l2, ↓q_r1, ↓q_v1, ↓q_rs, ↓q_if, ↓q_gi, ↓q_gi', ↓q_gl, ↓q_gl', ↓q_ga, ↓q_ga', ↓q_s1, ↓q_s1n, ↓q_s1i, ↓q_s1r, ↓q_s1', ↓q_s2, ↓q_s2n, ↓q_s2i, ↓q_s2r, ↓q_s2', ↓q_ar0, ↓q_ar, q_w0, q_wi, q_wl, q_wr, q_wii, q_wil, q_wli, q_wll, q_wir, q_wri, q_wlr, q_wrl, q_wrr, q_wirr, q_wiir, q_wiii, q_ni, q_nl, q_fi, q_fl, q_z0, q_z1, q_fz0, q_fz1, ↓q_ts, ↓q_tn, q_e, q_ci, q_cr, ↓q_rfs, decide_true, Bool.and_true, Bool.and_self, Nat.zero_add, Nat.reduceAdd, Nat.reduceBEq, beq_self_eq_true, q_le, q_lel, q_ge, q_gel, q_gt, q_gtl, ite_not, Bool.not_eq_true', Bool.not_eq_false', ↓reduceIte, g_len, g_app, ↓g_fg, ↓g_fp, ↓g_wi, ↓g_wq, e_fg, e_fp, e_v, e_wi, e_wq, df_0, df_1, df_2, df_3, df_4, df_5, upEA, upE_uu, List.getElem?_cons_zero, List.getElem?_cons_succ, List.set_cons_zero, List.set_cons_succ, List.length_cons, List.length_nil, Nat.reduceLT, Nat.reduceAdd, Nat.reduceEqDiff, Nat.reduceBEq, beq_self_eq_true, Bool.and_self, decide_true, Bool.and_true, Bool.true_and, if_true, if_false, nr_0, fr_0, nr_1, fr_1, nr_2, fr_2, nr_3, fr_3, nr_4, fr_4, nr_5, fr_5, na_2, nt_2, na_6, nt_6, na_7, nt_7, na_8, nt_8, na_12, nt_12, na_16, nt_16, na_17, nt_17, na_48, nt_48, na_96, nt_96, na_100, nt_100, q_e, q_tn, q_ts, not_false_eq_true, not_true_eq_false, decide_false, Bool.not_true, Bool.not_false, Int32.reduceLT, Int32.reduceAdd, tn_0, tn_1, ok_0_2, ok_1_2, ↓k_2_25]
  rw [ps_1_14]
  simp only [↓ps_1_0, ↓ps_1_1, ↓ps_1_4, ↓ps_1_5, ↓ps_1_6, ↓ps_1_9, ↓ps_1_12, ↓ps_1_13, ↓ps_1_15, ↓ps_1_16, ↓ps_1_19, ↓ps_1_20, ↓ps_1_23, ↓ps_1_24, ↓ps_1_27, ↓ps_1_28, ↓ps_1_31, ↓ps_1_32, ↓ps_1_35, ↓ps_1_38, ↓ps_1_39, ↓ps_1_41, ↓ps_1_43, ↓ps_1_46, ↓ps_1_47, ↓ps_1_49, ↓ps_1_51, ↓ps_1_54, ↓ps_1_55, ↓ps_1_58, ↓ps_1_59, ↓ps_1_60, ↓ps_1_61, ↓ps_1_64, ↓ps_1_68, ↓ps_1_70, ↓ps_1_72, ↓ps_1_75, ↓ps_1_76, ↓ps_1_78, ↓ps_1_80, ↓ps_1_83, ↓ps_1_84, ↓ps_1_86, ↓ps_1_88, ↓ps_1_91, ↓ps_1_92, ↓ps_1_93, ↓ps_1_96, ↓q_i1, ↓q_i2, ↓q_l1, ↓q_l2, ↓q_r1, ↓q_v1, ↓q_rs, ↓q_if, ↓q_gi, ↓q_gi', ↓q_gl, ↓q_gl', ↓q_ga, ↓q_ga', ↓q_s1, ↓q_s1n, ↓q_s1i, ↓q_s1r, ↓q_s1', ↓q_s2, ↓q_s2n, ↓q_s2i, ↓q_s2r, ↓q_s2', ↓q_ar0, ↓q_ar, q_w0, q_wi, q_wl, q_wr, q_wii, q_wil, q_wli, q_wll, q_wir, q_wri, q_wlr, q_wrl, q_wrr, q_wirr, q_wiir, q_wiii, q_ni, q_nl, q_fi, q_fl, q_z0, q_z1, q_fz0, q_fz1, ↓q_ts, ↓q_tn, q_e, q_ci, q_cr, ↓q_rfs, decide_true, Bool.and_true, Bool.and_self, Nat.zero_add, Nat.reduceAdd, Nat.reduceBEq, beq_self_eq_true, q_le, q_lel, q_ge, q_gel, q_gt, q_gtl, ite_not, Bool.not_eq_true', Bool.not_eq_false', ↓reduceIte, g_len, g_app, ↓g_fg, ↓g_fp, ↓g_wi, ↓g_wq, e_fg, e_fp, e_v, e_wi, e_wq, df_0, df_1, df_2, df_3, df_4, df_5, upEA, upE_uu, List.getElem?_cons_zero, List.getElem?_cons_succ, List.set_cons_zero, List.set_cons_succ, List.length_cons, List.length_nil, Nat.reduceLT, Nat.reduceAdd, Nat.reduceEqDiff, Nat.reduceBEq, beq_self_eq_true, Bool.and_self, decide_true, Bool.and_true, Bool.true_and, if_true, if_false, nr_0, fr_0, nr_1, fr_1, nr_2, fr_2, nr_3, fr_3, nr_4, fr_4, nr_5, fr_5, na_2, nt_2, na_6, nt_6, na_7, nt_7, na_8, nt_8, na_12, nt_12, na_16, nt_16, na_17, nt_17, na_48, nt_48, na_96, nt_96, na_100, nt_100, q_e, q_tn, q_ts, not_false_eq_true, not_true_eq_false, decide_false, Bool.not_true, Bool.not_false, Int32.reduceLT, Int32.reduceAdd, tn_0, tn_1, ok_0_2, ok_1_2]
  refine (l_1_48_21 (X := X) (d := d) 16 0 _ (by omega) rfl (by rw [← blF_0]; rfl)).trans ?_
  rw [ps_1_67]
  simp only [↓ps_1_0, ↓ps_1_1, ↓ps_1_4, ↓ps_1_5, ↓ps_1_6, ↓ps_1_9, ↓ps_1_12, ↓ps_1_13, ↓ps_1_15, ↓ps_1_16, ↓ps_1_19, ↓ps_1_20, ↓ps_1_23, ↓ps_1_24, ↓ps_1_27, ↓ps_1_28, ↓ps_1_31, ↓ps_1_32, ↓ps_1_35, ↓ps_1_38, ↓ps_1_39, ↓ps_1_41, ↓ps_1_43, ↓ps_1_46, ↓ps_1_47, ↓ps_1_49, ↓ps_1_51, ↓ps_1_54, ↓ps_1_55, ↓ps_1_58, ↓ps_1_59, ↓ps_1_60, ↓ps_1_61, ↓ps_1_64, ↓ps_1_67, ↓ps_1_68, ↓ps_1_70, ↓ps_1_72, ↓ps_1_75, ↓ps_1_76, ↓ps_1_78, ↓ps_1_80, ↓ps_1_83, ↓ps_1_84, ↓ps_1_86, ↓ps_1_88, ↓ps_1_91, ↓ps_1_92, ↓ps_1_93, ↓ps_1_96, ↓q_i1, ↓q_i2, ↓q_l1, ↓q_l2, ↓q_r1, ↓q_v1, ↓q_rs, ↓q_if, ↓q_gi, ↓q_gi', ↓q_gl, ↓q_gl', ↓q_ga, ↓q_ga', ↓q_s1, ↓q_s1n, ↓q_s1i, ↓q_s1r, ↓q_s1', ↓q_s2, ↓q_s2n, ↓q_s2i, ↓q_s2r, ↓q_s2', ↓q_ar0, ↓q_ar, q_w0, q_wi, q_wl, q_wr, q_wii, q_wil, q_wli, q_wll, q_wir, q_wri, q_wlr, q_wrl, q_wrr, q_wirr, q_wiir, q_wiii, q_ni, q_nl, q_fi, q_fl, q_z0, q_z1, q_fz0, q_fz1, ↓q_ts, ↓q_tn, q_e, q_ci, q_cr, ↓q_rfs, decide_true, Bool.and_true, Bool.and_self, Nat.zero_add, Nat.reduceAdd, Nat.reduceBEq, beq_self_eq_true, q_le, q_lel, q_ge, q_gel, q_gt, q_gtl, ite_not, Bool.not_eq_true', Bool.not_eq_false', ↓reduceIte, g_len, g_app, ↓g_fg, ↓g_fp, ↓g_wi, ↓g_wq, e_fg, e_fp, e_v, e_wi, e_wq, df_0, df_1, df_2, df_3, df_4, df_5, upEA, upE_uu, List.getElem?_cons_zero, List.getElem?_cons_succ, List.set_cons_zero, List.set_cons_succ, List.length_cons, List.length_nil, Nat.reduceLT, Nat.reduceAdd, Nat.reduceEqDiff, Nat.reduceBEq, beq_self_eq_true, Bool.and_self, decide_true, Bool.and_true, Bool.true_and, if_true, if_false, nr_0, fr_0, nr_1, fr_1, nr_2, fr_2, nr_3, fr_3, nr_4, fr_4, nr_5, fr_5, na_2, nt_2, na_6, nt_6, na_7, nt_7, na_8, nt_8, na_12, nt_12, na_16, nt_16, na_17, nt_17, na_48, nt_48, na_96, nt_96, na_100, nt_100, q_e, q_tn, q_ts, not_false_eq_true, not_true_eq_false, decide_false, Bool.not_true, Bool.not_false, Int32.reduceLT, Int32.reduceAdd, tn_0, tn_1, ok_0_2, ok_1_2]
  unfold wdC_21
  refine congrArg (fun z => some (none, st_G _ z)) (funext fun b => ?_)
  by_cases e21 : b = 21
  · subst e21; rfl
  by_cases e22 : b = 22
  · subst e22; rfl
  by_cases e23 : b = 23
  · subst e23; rfl
  by_cases e24 : b = 24
  · subst e24; rfl
  by_cases e25 : b = 25
  · subst e25; rfl
  by_cases e26 : b = 26
  · subst e26; rfl
  by_cases e27 : b = 27
  · subst e27; rfl
  by_cases e28 : b = 28
  · subst e28; rfl
  by_cases e29 : b = 29
  · subst e29; rfl
  by_cases e30 : b = 30
  · subst e30; rfl
  simp only [upEA, e21, e22, e23, e24, e25, e26, e27, e28, e29, e30, if_false])
