/-! sheets: what is read off a row of n numbers -/
def bitsN (f : Nat → Int32) : Nat → Int32
  | 0 => 0
  | n + 1 => bitsN f n ||| (1 <<< (f n &&& 31))
def grN (f : Nat → Int32) : Nat → Int32
  | 0 => 0
  | n + 1 => if grN f n < f n then f n else grN f n
def leN (f : Nat → Int32) : Nat → Int32
  | 0 => 0
  | n + 1 => if n = 0 then f n else if f n < leN f n then f n else leN f n
def toN (f : Nat → Int32) : Nat → Int32
  | 0 => 0
  | n + 1 => toN f n + f n
def riN (f : Nat → Int32) : Nat → Int32
  | 0 => 0
  | n + 1 => if grN f n < f n then riN f n + 1 else riN f n
theorem bitsN_congr {f h : Nat → Int32} : ∀ n, (∀ k, k < n → f k = h k) → bitsN f n = bitsN h n
  | 0, _ => rfl
  | n + 1, e => by rw [bitsN, bitsN, bitsN_congr n (fun k hk => e k (by omega)), e n (by omega)]
theorem grN_congr {f h : Nat → Int32} : ∀ n, (∀ k, k < n → f k = h k) → grN f n = grN h n
  | 0, _ => rfl
  | n + 1, e => by rw [grN, grN, grN_congr n (fun k hk => e k (by omega)), e n (by omega)]
theorem leN_congr {f h : Nat → Int32} : ∀ n, (∀ k, k < n → f k = h k) → leN f n = leN h n
  | 0, _ => rfl
  | n + 1, e => by rw [leN, leN, leN_congr n (fun k hk => e k (by omega)), e n (by omega)]
theorem toN_congr {f h : Nat → Int32} : ∀ n, (∀ k, k < n → f k = h k) → toN f n = toN h n
  | 0, _ => rfl
  | n + 1, e => by rw [toN, toN, toN_congr n (fun k hk => e k (by omega)), e n (by omega)]
theorem riN_congr {f h : Nat → Int32} : ∀ n, (∀ k, k < n → f k = h k) → riN f n = riN h n
  | 0, _ => rfl
  | n + 1, e => by rw [riN, riN, riN_congr n (fun k hk => e k (by omega)), grN_congr n (fun k hk => e k (by omega)), e n (by omega)]
/-- the tally of the one, and of the other -/
def tyR (f : Nat → Int32) (m g l t : Int32) : Nat → Int32 := fun k => if k = 0 then m else if k = 1 then g else if k = 2 then l else if k = 3 then t else f k
def st_T (I : st_I) (m g l t : Int32) : st_I := st_r I 33 (tyR (I 33) m g l t)
def mtR (f : Nat → Int32) (m g l t : Int32) : Nat → Int32 := fun k => if k = 19 then m else if k = 20 then g else if k = 21 then l else if k = 22 then t else f k
def st_M (I : st_I) (m g l t : Int32) : st_I := st_r I 36 (mtR (I 36) m g l t)
theorem st_r_r (I : st_I) (a : Nat) (f h : Nat → Int32) : st_r (st_r I a f) a h = st_r I a h := by
  funext b; simp only [st_rA]; split <;> rfl
theorem stTA (I : st_I) (m g l t : Int32) (b : Nat) : st_T I m g l t b = if b = 33 then tyR (I 33) m g l t else I b := rfl
theorem stMA (I : st_I) (m g l t : Int32) (b : Nat) : st_M I m g l t b = if b = 36 then mtR (I 36) m g l t else I b := rfl
theorem tyR0 (f : Nat → Int32) (m g l t : Int32) : tyR f m g l t 0 = m := rfl
theorem tyR1 (f : Nat → Int32) (m g l t : Int32) : tyR f m g l t 1 = g := rfl
theorem tyR2 (f : Nat → Int32) (m g l t : Int32) : tyR f m g l t 2 = l := rfl
theorem tyR3 (f : Nat → Int32) (m g l t : Int32) : tyR f m g l t 3 = t := rfl
theorem mtR0 (f : Nat → Int32) (m g l t : Int32) : mtR f m g l t 19 = m := rfl
theorem mtR1 (f : Nat → Int32) (m g l t : Int32) : mtR f m g l t 20 = g := rfl
theorem mtR2 (f : Nat → Int32) (m g l t : Int32) : mtR f m g l t 21 = l := rfl
theorem mtR3 (f : Nat → Int32) (m g l t : Int32) : mtR f m g l t 22 = t := rfl
theorem mtRo (f : Nat → Int32) (m g l t : Int32) {k : Nat} (h : ¬ k = 19 ∧ ¬ k = 20 ∧ ¬ k = 21 ∧ ¬ k = 22) : mtR f m g l t k = f k := by
  simp only [mtR, h, if_false]
theorem stTu0 (I : st_I) (m g l t v : Int32) : st_u (st_T I m g l t) 33 0 v = st_T I v g l t := by
  unfold st_u st_T
  rw [st_r_r]
  congr 1
  funext j
  simp only [updA, st_rA, if_true, tyR]
  (repeat' split) <;> simp_all
theorem stMu0 (I : st_I) (m g l t v : Int32) : st_u (st_M I m g l t) 36 19 v = st_M I v g l t := by
  unfold st_u st_M
  rw [st_r_r]
  congr 1
  funext j
  simp only [updA, st_rA, if_true, mtR]
  (repeat' split) <;> simp_all
theorem stTu1 (I : st_I) (m g l t v : Int32) : st_u (st_T I m g l t) 33 1 v = st_T I m v l t := by
  unfold st_u st_T
  rw [st_r_r]
  congr 1
  funext j
  simp only [updA, st_rA, if_true, tyR]
  (repeat' split) <;> simp_all
theorem stMu1 (I : st_I) (m g l t v : Int32) : st_u (st_M I m g l t) 36 20 v = st_M I m v l t := by
  unfold st_u st_M
  rw [st_r_r]
  congr 1
  funext j
  simp only [updA, st_rA, if_true, mtR]
  (repeat' split) <;> simp_all
theorem stTu2 (I : st_I) (m g l t v : Int32) : st_u (st_T I m g l t) 33 2 v = st_T I m g v t := by
  unfold st_u st_T
  rw [st_r_r]
  congr 1
  funext j
  simp only [updA, st_rA, if_true, tyR]
  (repeat' split) <;> simp_all
theorem stMu2 (I : st_I) (m g l t v : Int32) : st_u (st_M I m g l t) 36 21 v = st_M I m g v t := by
  unfold st_u st_M
  rw [st_r_r]
  congr 1
  funext j
  simp only [updA, st_rA, if_true, mtR]
  (repeat' split) <;> simp_all
theorem stTu3 (I : st_I) (m g l t v : Int32) : st_u (st_T I m g l t) 33 3 v = st_T I m g l v := by
  unfold st_u st_T
  rw [st_r_r]
  congr 1
  funext j
  simp only [updA, st_rA, if_true, tyR]
  (repeat' split) <;> simp_all
theorem stMu3 (I : st_I) (m g l t v : Int32) : st_u (st_M I m g l t) 36 22 v = st_M I m g l v := by
  unfold st_u st_M
  rw [st_r_r]
  congr 1
  funext j
  simp only [updA, st_rA, if_true, mtR]
  (repeat' split) <;> simp_all
theorem stT00 (I : st_I) : st_u (st_u (st_u (st_u I 33 0 0) 33 1 0) 33 2 0) 33 3 0 = st_T I 0 0 0 0 := by
  unfold st_u st_T
  simp only [st_r_r, st_rA, if_true]
  congr 1
  funext j
  simp only [updA, tyR]
  (repeat' split) <;> simp_all
theorem stM00 (I : st_I) : st_u (st_u (st_u (st_u I 36 19 0) 36 20 0) 36 21 0) 36 22 0 = st_M I 0 0 0 0 := by
  unfold st_u st_M
  simp only [st_r_r, st_rA, if_true]
  congr 1
  funext j
  simp only [updA, mtR]
  (repeat' split) <;> simp_all
theorem stT_T (I : st_I) (m g l t m' g' l' t' : Int32) : st_T (st_T I m g l t) m' g' l' t' = st_T I m' g' l' t' := by
  unfold st_T
  rw [st_r_r]
  congr 1
  funext j
  simp only [st_rA, if_true, tyR]
  (repeat' split) <;> simp_all
theorem stM_M (I : st_I) (m g l t m' g' l' t' : Int32) : st_M (st_M I m g l t) m' g' l' t' = st_M I m' g' l' t' := by
  unfold st_M
  rw [st_r_r]
  congr 1
  funext j
  simp only [st_rA, if_true, mtR]
  (repeat' split) <;> simp_all
theorem stT_S {I : st_I} {m g l t : Int32} {s : Nat} (h : isS s = true) : st_T I m g l t (s + 1) = I (s + 1) ∧ st_T I m g l t s = I s := by
  rcases isS_or h with rfl | rfl | rfl | rfl | rfl | rfl <;> exact ⟨rfl, rfl⟩
theorem c_39 {X : pm_X} {d : Nat} {I : st_I} {J : st_J}  {F}  : pv_call X (d + 1) 39 [.ref 33] (st_E I J) F = F (none) (st_E (st_T I 0 0 0 0) (J)) := pv_call_ev rfl (by
  show pm_ev X (d + 1) 39 (0, [some (.ref 33)], [], st_E I J) = _
  simp only [↓ps_39_0, ↓ps_39_1, ↓ps_39_2, ↓ps_39_5, ↓ps_39_6, ↓ps_39_7, ↓ps_39_10, ↓ps_39_11, ↓ps_39_12, ↓ps_39_15, ↓ps_39_16, ↓ps_39_17, ↓ps_39_20, ↓q_i1, ↓q_i2, ↓q_l1, ↓q_l2, ↓q_r1, ↓q_v1, ↓q_rs, ↓q_if, ↓q_gi, ↓q_gi', ↓q_gl, ↓q_gl', ↓q_ga, ↓q_ga', ↓q_s1, ↓q_s1n, ↓q_s1i, ↓q_s1r, ↓q_s1', ↓q_s2, ↓q_s2n, ↓q_s2i, ↓q_s2r, ↓q_s2', ↓q_ar0, ↓q_ar, q_w0, q_wi, q_wl, q_wr, q_wii, q_wil, q_wli, q_wll, q_wir, q_wri, q_wlr, q_wrl, q_wrr, q_wirr, q_wiir, q_wiii, q_ni, q_nl, q_fi, q_fl, q_z0, q_z1, q_fz0, q_fz1, ↓q_ts, ↓q_tn, q_e, q_ci, q_cr, ↓q_rfs, decide_true, Bool.and_true, Bool.and_self, Nat.zero_add, Nat.reduceAdd, Nat.reduceBEq, beq_self_eq_true, q_le, q_lel, q_ge, q_gel, q_gt, q_gtl, ite_not, Bool.not_eq_true', Bool.not_eq_false', ↓reduceIte, ↓fg_0_0, ↓fg_0_1, ↓fg_0_2, ↓fg_0_3, ↓fg_0_4, ↓fg_0_5, ↓fg_0_6, ↓fg_0_7, ↓fg_0_8, ↓fp_0_7, ↓fp_0_8, ↓oc_0, ↓fg_31_0, ↓fg_31_1, ↓fp_31_1, ↓oc_31, ↓ai_32, ↓wi_32, ↓fg_33_0, ↓fp_33_0, ↓fg_33_1, ↓fp_33_1, ↓fg_33_2, ↓fp_33_2, ↓fg_33_3, ↓fp_33_3, ↓oc_33, ↓ai_34, ↓wi_34, ↓ai_35, ↓wi_35, ↓fg_36_0, ↓fg_36_1, ↓fg_36_2, ↓fg_36_3, ↓fg_36_4, ↓fg_36_5, ↓fg_36_6, ↓fg_36_7, ↓fp_36_7, ↓fg_36_8, ↓fg_36_9, ↓fg_36_10, ↓fg_36_11, ↓fg_36_12, ↓fp_36_12, ↓fg_36_13, ↓fp_36_13, ↓fg_36_14, ↓fp_36_14, ↓fg_36_15, ↓fg_36_16, ↓fp_36_16, ↓fg_36_17, ↓fp_36_17, ↓fg_36_18, ↓fp_36_18, ↓fg_36_19, ↓fp_36_19, ↓fg_36_20, ↓fp_36_20, ↓fg_36_21, ↓fp_36_21, ↓fg_36_22, ↓fp_36_22, ↓fg_36_23, ↓fp_36_23, ↓fg_36_24, ↓fp_36_24, ↓fg_36_25, ↓fg_36_26, ↓fg_36_27, ↓fg_36_28, ↓fp_36_28, ↓fg_36_29, ↓fp_36_29, ↓oc_36, ↓ai_37, ↓wi_37, ↓ai_38, ↓wi_38, ↓ai_39, ↓wi_39, ↓ai_40, ↓wi_40, ↓ai_41, ↓wi_41, ↓ai_42, ↓wi_42, ↓ai_43, ↓wi_43, ↓ai_44, ↓wi_44, ↓ai_45, ↓wi_45, ↓ai_46, ↓wi_46, ↓ai_47, ↓wi_47, ↓ai_48, ↓wi_48, ↓ai_51, ↓wi_51, ↓al_49, ↓wl_49, ↓al_50, ↓wl_50, isW_1, isW_11, isW_21, isS_3, isS_5, isS_13, isS_15, isS_23, isS_25, stT00]
  done)
theorem c_40 {X : pm_X} {d : Nat} {I : st_I} {J : st_J} {m g l t v : Int32} {F}  : pv_call X (d + 1) 40 [.ref 33, .int v] (st_E (st_T I m g l t) J) F = F (none) (st_E (st_T I (m + 1) (if g < v then v else g) (if m = 0 then v else if v < l then v else l) (t + v)) (J)) := pv_call_ev rfl (by
  show pm_ev X (d + 1) 40 (0, [some (.ref 33), some (.int v)], [], st_E (st_T I m g l t) J) = _
  simp only [↓ps_40_0, ↓ps_40_1, ↓ps_40_2, ↓ps_40_5, ↓ps_40_6, ↓ps_40_9, ↓ps_40_12, ↓ps_40_13, ↓ps_40_14, ↓ps_40_17, ↓ps_40_20, ↓ps_40_21, ↓ps_40_24, ↓ps_40_25, ↓ps_40_28, ↓ps_40_29, ↓ps_40_32, ↓ps_40_35, ↓ps_40_36, ↓ps_40_37, ↓ps_40_40, ↓ps_40_41, ↓ps_40_42, ↓ps_40_45, ↓ps_40_46, ↓ps_40_47, ↓ps_40_50, ↓ps_40_51, ↓ps_40_52, ↓ps_40_55, ↓q_i1, ↓q_i2, ↓q_l1, ↓q_l2, ↓q_r1, ↓q_v1, ↓q_rs, ↓q_if, ↓q_gi, ↓q_gi', ↓q_gl, ↓q_gl', ↓q_ga, ↓q_ga', ↓q_s1, ↓q_s1n, ↓q_s1i, ↓q_s1r, ↓q_s1', ↓q_s2, ↓q_s2n, ↓q_s2i, ↓q_s2r, ↓q_s2', ↓q_ar0, ↓q_ar, q_w0, q_wi, q_wl, q_wr, q_wii, q_wil, q_wli, q_wll, q_wir, q_wri, q_wlr, q_wrl, q_wrr, q_wirr, q_wiir, q_wiii, q_ni, q_nl, q_fi, q_fl, q_z0, q_z1, q_fz0, q_fz1, ↓q_ts, ↓q_tn, q_e, q_ci, q_cr, ↓q_rfs, decide_true, Bool.and_true, Bool.and_self, Nat.zero_add, Nat.reduceAdd, Nat.reduceBEq, beq_self_eq_true, q_le, q_lel, q_ge, q_gel, q_gt, q_gtl, ite_not, Bool.not_eq_true', Bool.not_eq_false', ↓reduceIte, ↓fg_0_0, ↓fg_0_1, ↓fg_0_2, ↓fg_0_3, ↓fg_0_4, ↓fg_0_5, ↓fg_0_6, ↓fg_0_7, ↓fg_0_8, ↓fp_0_7, ↓fp_0_8, ↓oc_0, ↓fg_31_0, ↓fg_31_1, ↓fp_31_1, ↓oc_31, ↓ai_32, ↓wi_32, ↓fg_33_0, ↓fp_33_0, ↓fg_33_1, ↓fp_33_1, ↓fg_33_2, ↓fp_33_2, ↓fg_33_3, ↓fp_33_3, ↓oc_33, ↓ai_34, ↓wi_34, ↓ai_35, ↓wi_35, ↓fg_36_0, ↓fg_36_1, ↓fg_36_2, ↓fg_36_3, ↓fg_36_4, ↓fg_36_5, ↓fg_36_6, ↓fg_36_7, ↓fp_36_7, ↓fg_36_8, ↓fg_36_9, ↓fg_36_10, ↓fg_36_11, ↓fg_36_12, ↓fp_36_12, ↓fg_36_13, ↓fp_36_13, ↓fg_36_14, ↓fp_36_14, ↓fg_36_15, ↓fg_36_16, ↓fp_36_16, ↓fg_36_17, ↓fp_36_17, ↓fg_36_18, ↓fp_36_18, ↓fg_36_19, ↓fp_36_19, ↓fg_36_20, ↓fp_36_20, ↓fg_36_21, ↓fp_36_21, ↓fg_36_22, ↓fp_36_22, ↓fg_36_23, ↓fp_36_23, ↓fg_36_24, ↓fp_36_24, ↓fg_36_25, ↓fg_36_26, ↓fg_36_27, ↓fg_36_28, ↓fp_36_28, ↓fg_36_29, ↓fp_36_29, ↓oc_36, ↓ai_37, ↓wi_37, ↓ai_38, ↓wi_38, ↓ai_39, ↓wi_39, ↓ai_40, ↓wi_40, ↓ai_41, ↓wi_41, ↓ai_42, ↓wi_42, ↓ai_43, ↓wi_43, ↓ai_44, ↓wi_44, ↓ai_45, ↓wi_45, ↓ai_46, ↓wi_46, ↓ai_47, ↓wi_47, ↓ai_48, ↓wi_48, ↓ai_51, ↓wi_51, ↓al_49, ↓wl_49, ↓al_50, ↓wl_50, isW_1, isW_11, isW_21, isS_3, isS_5, isS_13, isS_15, isS_23, isS_25, ↓fg_1_0, ↓fg_1_1, ↓fg_1_2, ↓fg_1_3, ↓fg_1_4, ↓fg_1_5, ↓fp_1_5, ↓oc_1, ↓aq_2, ↓fg_3_0, ↓fg_3_1, ↓fp_3_1, ↓oc_3, ↓ai_4, ↓wi_4, ↓fg_5_0, ↓fg_5_1, ↓fp_5_1, ↓oc_5, ↓ai_6, ↓wi_6, ↓ai_7, ↓wi_7, ↓ai_8, ↓wi_8, ↓ai_9, ↓wi_9, ↓ai_10, ↓wi_10, ↓fg_11_0, ↓fg_11_1, ↓fg_11_2, ↓fg_11_3, ↓fg_11_4, ↓fg_11_5, ↓fp_11_5, ↓oc_11, ↓aq_12, ↓fg_13_0, ↓fg_13_1, ↓fp_13_1, ↓oc_13, ↓ai_14, ↓wi_14, ↓fg_15_0, ↓fg_15_1, ↓fp_15_1, ↓oc_15, ↓ai_16, ↓wi_16, ↓ai_17, ↓wi_17, ↓ai_18, ↓wi_18, ↓ai_19, ↓wi_19, ↓ai_20, ↓wi_20, ↓fg_21_0, ↓fg_21_1, ↓fg_21_2, ↓fg_21_3, ↓fg_21_4, ↓fg_21_5, ↓fp_21_5, ↓oc_21, ↓aq_22, ↓fg_23_0, ↓fg_23_1, ↓fp_23_1, ↓oc_23, ↓ai_24, ↓wi_24, ↓fg_25_0, ↓fg_25_1, ↓fp_25_1, ↓oc_25, ↓ai_26, ↓wi_26, ↓ai_27, ↓wi_27, ↓ai_28, ↓wi_28, ↓ai_29, ↓wi_29, ↓ai_30, ↓wi_30, tn_0, tn_1, tn_2, tn_3, tn_4, tn_5, tn_6, tn_7, tn_8, tn_9, tn_10, tn_11, tn_12, tn_13, tn_14, tn_15, tn_16, tn_17, ok_0_2, ok_1_2, ok_0_6, ok_1_6, ok_2_6, ok_3_6, ok_4_6, ok_5_6, ok_0_7, ok_1_7, ok_2_7, ok_3_7, ok_4_7, ok_5_7, ok_6_7, ok_0_12, ok_1_12, ok_2_12, ok_3_12, ok_4_12, ok_5_12, ok_6_12, ok_7_12, ok_8_12, ok_9_12, ok_10_12, ok_11_12, ok_0_17, ok_1_17, ok_2_17, ok_3_17, ok_4_17, ok_5_17, ok_6_17, ok_7_17, ok_8_17, ok_9_17, ok_10_17, ok_11_17, ok_12_17, ok_13_17, ok_14_17, ok_15_17, ok_16_17, iq_n1_1, iq_n1_2, iq_n1_3, iq_n1_4, iq_n1_5, iq_n1_6, iq_n1_7, iq_0_n1, iq_0_1, iq_0_2, iq_0_3, iq_0_4, iq_0_5, iq_0_6, iq_0_7, iq_1_n1, iq_1_0, iq_1_2, iq_1_3, iq_1_4, iq_1_5, iq_1_6, iq_1_7, iq_2_n1, iq_2_0, iq_2_1, iq_2_3, iq_2_4, iq_2_5, iq_2_6, iq_2_7, iq_3_n1, iq_3_0, iq_3_1, iq_3_2, iq_3_4, iq_3_5, iq_3_6, iq_3_7, iq_4_n1, iq_4_0, iq_4_1, iq_4_2, iq_4_3, iq_4_5, iq_4_6, iq_4_7, iq_5_n1, iq_5_0, iq_5_1, iq_5_2, iq_5_3, iq_5_4, iq_5_6, iq_5_7, iq_6_n1, iq_6_0, iq_6_1, iq_6_2, iq_6_3, iq_6_4, iq_6_5, iq_6_7, iq_7_n1, iq_7_0, iq_7_1, iq_7_2, iq_7_3, iq_7_4, iq_7_5, iq_7_6, not_false_eq_true, not_true_eq_false, decide_false, Bool.false_and, Bool.and_false, Bool.true_and, Bool.or_false, Bool.false_or, Bool.true_or, Bool.or_true, Bool.not_true, Bool.not_false, Bool.true_eq_false, Bool.false_eq_true, Int32.reduceLT, Int32.reduceAdd, Int32.reduceSub, Int32.reduceToNatClampNeg, Int64.reduceLT, zn1, zl1, zn2, zl2, zn3, zl3, zn4, zl4, zn6, zl6, zn9, zl9, z01, z10, z00, rfA, st_uA, st_rA, updA, Nat.reduceEqDiff, if_false, if_true, st_qA, st_lA, stTu0, stTu1, stTu2, stTu3, stT00, tyR0, tyR1, tyR2, tyR3, stTA, stMu0, stMu1, stMu2, stMu3, stM00, mtR0, mtR1, mtR2, mtR3, stMA]
  by_cases hm : m = 0
  · simp only [hm, if_true, stTu0, stTu1, stTu2, stTu3]
  · simp only [hm, if_false, stTu0, stTu1, stTu2, stTu3])
theorem l_38 {X : pm_X} {d : Nat} {I : st_I} {J : st_J} {s n j : Nat} (hs : isS s = true) (hn : n ≤ 6) (hj : j ≤ n) (hz : I s 1 = nI n) : ∀ (m i : Nat), i + m = j → pm_ev X (d + 2) 38 (6, [some (.ref s), some (.int (nI j)), some (.ref 33), some (.int (nI i))], [], st_E (st_T I (nI i) (grN (I (s + 1)) i) (leN (I (s + 1)) i) (toN (I (s + 1)) i)) J) = some (none, st_E (st_T I (nI j) (grN (I (s + 1)) j) (leN (I (s + 1)) j) (toN (I (s + 1)) j)) J)
  | 0, i, hi => by
    have hi : i = j := by omega
    subst hi
    have h1 : ¬ nI i < nI i := nI_nl (Nat.le_refl _) (by omega)
    rw [ps_38_6]
    simp only [↓ps_38_0, ↓ps_38_1, ↓ps_38_4, ↓ps_38_5, ↓ps_38_7, ↓ps_38_8, ↓ps_38_11, ↓ps_38_12, ↓ps_38_13, ↓ps_38_16, ↓ps_38_19, ↓ps_38_20, ↓ps_38_21, ↓ps_38_24, ↓ps_38_25, ↓ps_38_26, ↓ps_38_29, ↓ps_38_32, ↓ps_38_35, ↓q_i1, ↓q_i2, ↓q_l1, ↓q_l2, ↓q_r1, ↓q_v1, ↓q_rs, ↓q_if, ↓q_gi, ↓q_gi', ↓q_gl, ↓q_gl', ↓q_ga, ↓q_ga', ↓q_s1, ↓q_s1n, ↓q_s1i, ↓q_s1r, ↓q_s1', ↓q_s2, ↓q_s2n, ↓q_s2i, ↓q_s2r, ↓q_s2', ↓q_ar0, ↓q_ar, q_w0, q_wi, q_wl, q_wr, q_wii, q_wil, q_wli, q_wll, q_wir, q_wri, q_wlr, q_wrl, q_wrr, q_wirr, q_wiir, q_wiii, q_ni, q_nl, q_fi, q_fl, q_z0, q_z1, q_fz0, q_fz1, ↓q_ts, ↓q_tn, q_e, q_ci, q_cr, ↓q_rfs, decide_true, Bool.and_true, Bool.and_self, Nat.zero_add, Nat.reduceAdd, Nat.reduceBEq, beq_self_eq_true, q_le, q_lel, q_ge, q_gel, q_gt, q_gtl, ite_not, Bool.not_eq_true', Bool.not_eq_false', ↓reduceIte, ↓fg_0_0, ↓fg_0_1, ↓fg_0_2, ↓fg_0_3, ↓fg_0_4, ↓fg_0_5, ↓fg_0_6, ↓fg_0_7, ↓fg_0_8, ↓fp_0_7, ↓fp_0_8, ↓oc_0, ↓fg_31_0, ↓fg_31_1, ↓fp_31_1, ↓oc_31, ↓ai_32, ↓wi_32, ↓fg_33_0, ↓fp_33_0, ↓fg_33_1, ↓fp_33_1, ↓fg_33_2, ↓fp_33_2, ↓fg_33_3, ↓fp_33_3, ↓oc_33, ↓ai_34, ↓wi_34, ↓ai_35, ↓wi_35, ↓fg_36_0, ↓fg_36_1, ↓fg_36_2, ↓fg_36_3, ↓fg_36_4, ↓fg_36_5, ↓fg_36_6, ↓fg_36_7, ↓fp_36_7, ↓fg_36_8, ↓fg_36_9, ↓fg_36_10, ↓fg_36_11, ↓fg_36_12, ↓fp_36_12, ↓fg_36_13, ↓fp_36_13, ↓fg_36_14, ↓fp_36_14, ↓fg_36_15, ↓fg_36_16, ↓fp_36_16, ↓fg_36_17, ↓fp_36_17, ↓fg_36_18, ↓fp_36_18, ↓fg_36_19, ↓fp_36_19, ↓fg_36_20, ↓fp_36_20, ↓fg_36_21, ↓fp_36_21, ↓fg_36_22, ↓fp_36_22, ↓fg_36_23, ↓fp_36_23, ↓fg_36_24, ↓fp_36_24, ↓fg_36_25, ↓fg_36_26, ↓fg_36_27, ↓fg_36_28, ↓fp_36_28, ↓fg_36_29, ↓fp_36_29, ↓oc_36, ↓ai_37, ↓wi_37, ↓ai_38, ↓wi_38, ↓ai_39, ↓wi_39, ↓ai_40, ↓wi_40, ↓ai_41, ↓wi_41, ↓ai_42, ↓wi_42, ↓ai_43, ↓wi_43, ↓ai_44, ↓wi_44, ↓ai_45, ↓wi_45, ↓ai_46, ↓wi_46, ↓ai_47, ↓wi_47, ↓ai_48, ↓wi_48, ↓ai_51, ↓wi_51, ↓al_49, ↓wl_49, ↓al_50, ↓wl_50, isW_1, isW_11, isW_21, isS_3, isS_5, isS_13, isS_15, isS_23, isS_25, ↓fg_1_0, ↓fg_1_1, ↓fg_1_2, ↓fg_1_3, ↓fg_1_4, ↓fg_1_5, ↓fp_1_5, ↓oc_1, ↓aq_2, ↓fg_3_0, ↓fg_3_1, ↓fp_3_1, ↓oc_3, ↓ai_4, ↓wi_4, ↓fg_5_0, ↓fg_5_1, ↓fp_5_1, ↓oc_5, ↓ai_6, ↓wi_6, ↓ai_7, ↓wi_7, ↓ai_8, ↓wi_8, ↓ai_9, ↓wi_9, ↓ai_10, ↓wi_10, ↓fg_11_0, ↓fg_11_1, ↓fg_11_2, ↓fg_11_3, ↓fg_11_4, ↓fg_11_5, ↓fp_11_5, ↓oc_11, ↓aq_12, ↓fg_13_0, ↓fg_13_1, ↓fp_13_1, ↓oc_13, ↓ai_14, ↓wi_14, ↓fg_15_0, ↓fg_15_1, ↓fp_15_1, ↓oc_15, ↓ai_16, ↓wi_16, ↓ai_17, ↓wi_17, ↓ai_18, ↓wi_18, ↓ai_19, ↓wi_19, ↓ai_20, ↓wi_20, ↓fg_21_0, ↓fg_21_1, ↓fg_21_2, ↓fg_21_3, ↓fg_21_4, ↓fg_21_5, ↓fp_21_5, ↓oc_21, ↓aq_22, ↓fg_23_0, ↓fg_23_1, ↓fp_23_1, ↓oc_23, ↓ai_24, ↓wi_24, ↓fg_25_0, ↓fg_25_1, ↓fp_25_1, ↓oc_25, ↓ai_26, ↓wi_26, ↓ai_27, ↓wi_27, ↓ai_28, ↓wi_28, ↓ai_29, ↓wi_29, ↓ai_30, ↓wi_30, tn_0, tn_1, tn_2, tn_3, tn_4, tn_5, tn_6, tn_7, tn_8, tn_9, tn_10, tn_11, tn_12, tn_13, tn_14, tn_15, tn_16, tn_17, ok_0_2, ok_1_2, ok_0_6, ok_1_6, ok_2_6, ok_3_6, ok_4_6, ok_5_6, ok_0_7, ok_1_7, ok_2_7, ok_3_7, ok_4_7, ok_5_7, ok_6_7, ok_0_12, ok_1_12, ok_2_12, ok_3_12, ok_4_12, ok_5_12, ok_6_12, ok_7_12, ok_8_12, ok_9_12, ok_10_12, ok_11_12, ok_0_17, ok_1_17, ok_2_17, ok_3_17, ok_4_17, ok_5_17, ok_6_17, ok_7_17, ok_8_17, ok_9_17, ok_10_17, ok_11_17, ok_12_17, ok_13_17, ok_14_17, ok_15_17, ok_16_17, iq_n1_1, iq_n1_2, iq_n1_3, iq_n1_4, iq_n1_5, iq_n1_6, iq_n1_7, iq_0_n1, iq_0_1, iq_0_2, iq_0_3, iq_0_4, iq_0_5, iq_0_6, iq_0_7, iq_1_n1, iq_1_0, iq_1_2, iq_1_3, iq_1_4, iq_1_5, iq_1_6, iq_1_7, iq_2_n1, iq_2_0, iq_2_1, iq_2_3, iq_2_4, iq_2_5, iq_2_6, iq_2_7, iq_3_n1, iq_3_0, iq_3_1, iq_3_2, iq_3_4, iq_3_5, iq_3_6, iq_3_7, iq_4_n1, iq_4_0, iq_4_1, iq_4_2, iq_4_3, iq_4_5, iq_4_6, iq_4_7, iq_5_n1, iq_5_0, iq_5_1, iq_5_2, iq_5_3, iq_5_4, iq_5_6, iq_5_7, iq_6_n1, iq_6_0, iq_6_1, iq_6_2, iq_6_3, iq_6_4, iq_6_5, iq_6_7, iq_7_n1, iq_7_0, iq_7_1, iq_7_2, iq_7_3, iq_7_4, iq_7_5, iq_7_6, not_false_eq_true, not_true_eq_false, decide_false, Bool.false_and, Bool.and_false, Bool.true_and, Bool.or_false, Bool.false_or, Bool.true_or, Bool.or_true, Bool.not_true, Bool.not_false, Bool.true_eq_false, Bool.false_eq_true, Int32.reduceLT, Int32.reduceAdd, Int32.reduceSub, Int32.reduceToNatClampNeg, Int64.reduceLT, zn1, zl1, zn2, zl2, zn3, zl3, zn4, zl4, zn6, zl6, zn9, zl9, z01, z10, z00, rfA, st_uA, st_rA, updA, Nat.reduceEqDiff, if_false, if_true, st_qA, st_lA, h1]
  | m + 1, i, hi => by
    have ih := l_38 (X := X) (d := d) (J := J) hs hn hj hz m (i + 1) (by omega)
    have h1 : nI i < nI j := nI_lt1 (by omega) (by omega)
    have h2 : nI i < nI n := nI_lt1 (by omega) (by omega)
    have h3 : pm_ok (nI i) 6 = true := decide_eq_true (nI_in (by omega) (by decide))
    have h4 : (nI i).toNatClampNeg = i := nI_clamp (by omega)
    have e1 := (stT_S (I := I) (m := nI i) (g := grN (I (s + 1)) i) (l := leN (I (s + 1)) i) (t := toN (I (s + 1)) i) hs).1
    have e2 := (stT_S (I := I) (m := nI i) (g := grN (I (s + 1)) i) (l := leN (I (s + 1)) i) (t := toN (I (s + 1)) i) hs).2
    have e5 : (nI i = 0) = (i = 0) := propext ⟨fun e => (nI_eq (by omega) (by decide)).mp e, fun e => by rw [e]; rfl⟩
    rw [ps_38_6]
    simp only [↓ps_38_0, ↓ps_38_1, ↓ps_38_4, ↓ps_38_5, ↓ps_38_7, ↓ps_38_8, ↓ps_38_11, ↓ps_38_12, ↓ps_38_13, ↓ps_38_16, ↓ps_38_19, ↓ps_38_20, ↓ps_38_21, ↓ps_38_24, ↓ps_38_25, ↓ps_38_26, ↓ps_38_29, ↓ps_38_32, ↓ps_38_35, ↓q_i1, ↓q_i2, ↓q_l1, ↓q_l2, ↓q_r1, ↓q_v1, ↓q_rs, ↓q_if, ↓q_gi, ↓q_gi', ↓q_gl, ↓q_gl', ↓q_ga, ↓q_ga', ↓q_s1, ↓q_s1n, ↓q_s1i, ↓q_s1r, ↓q_s1', ↓q_s2, ↓q_s2n, ↓q_s2i, ↓q_s2r, ↓q_s2', ↓q_ar0, ↓q_ar, q_w0, q_wi, q_wl, q_wr, q_wii, q_wil, q_wli, q_wll, q_wir, q_wri, q_wlr, q_wrl, q_wrr, q_wirr, q_wiir, q_wiii, q_ni, q_nl, q_fi, q_fl, q_z0, q_z1, q_fz0, q_fz1, ↓q_ts, ↓q_tn, q_e, q_ci, q_cr, ↓q_rfs, decide_true, Bool.and_true, Bool.and_self, Nat.zero_add, Nat.reduceAdd, Nat.reduceBEq, beq_self_eq_true, q_le, q_lel, q_ge, q_gel, q_gt, q_gtl, ite_not, Bool.not_eq_true', Bool.not_eq_false', ↓reduceIte, ↓fg_0_0, ↓fg_0_1, ↓fg_0_2, ↓fg_0_3, ↓fg_0_4, ↓fg_0_5, ↓fg_0_6, ↓fg_0_7, ↓fg_0_8, ↓fp_0_7, ↓fp_0_8, ↓oc_0, ↓fg_31_0, ↓fg_31_1, ↓fp_31_1, ↓oc_31, ↓ai_32, ↓wi_32, ↓fg_33_0, ↓fp_33_0, ↓fg_33_1, ↓fp_33_1, ↓fg_33_2, ↓fp_33_2, ↓fg_33_3, ↓fp_33_3, ↓oc_33, ↓ai_34, ↓wi_34, ↓ai_35, ↓wi_35, ↓fg_36_0, ↓fg_36_1, ↓fg_36_2, ↓fg_36_3, ↓fg_36_4, ↓fg_36_5, ↓fg_36_6, ↓fg_36_7, ↓fp_36_7, ↓fg_36_8, ↓fg_36_9, ↓fg_36_10, ↓fg_36_11, ↓fg_36_12, ↓fp_36_12, ↓fg_36_13, ↓fp_36_13, ↓fg_36_14, ↓fp_36_14, ↓fg_36_15, ↓fg_36_16, ↓fp_36_16, ↓fg_36_17, ↓fp_36_17, ↓fg_36_18, ↓fp_36_18, ↓fg_36_19, ↓fp_36_19, ↓fg_36_20, ↓fp_36_20, ↓fg_36_21, ↓fp_36_21, ↓fg_36_22, ↓fp_36_22, ↓fg_36_23, ↓fp_36_23, ↓fg_36_24, ↓fp_36_24, ↓fg_36_25, ↓fg_36_26, ↓fg_36_27, ↓fg_36_28, ↓fp_36_28, ↓fg_36_29, ↓fp_36_29, ↓oc_36, ↓ai_37, ↓wi_37, ↓ai_38, ↓wi_38, ↓ai_39, ↓wi_39, ↓ai_40, ↓wi_40, ↓ai_41, ↓wi_41, ↓ai_42, ↓wi_42, ↓ai_43, ↓wi_43, ↓ai_44, ↓wi_44, ↓ai_45, ↓wi_45, ↓ai_46, ↓wi_46, ↓ai_47, ↓wi_47, ↓ai_48, ↓wi_48, ↓ai_51, ↓wi_51, ↓al_49, ↓wl_49, ↓al_50, ↓wl_50, isW_1, isW_11, isW_21, isS_3, isS_5, isS_13, isS_15, isS_23, isS_25, ↓fg_1_0, ↓fg_1_1, ↓fg_1_2, ↓fg_1_3, ↓fg_1_4, ↓fg_1_5, ↓fp_1_5, ↓oc_1, ↓aq_2, ↓fg_3_0, ↓fg_3_1, ↓fp_3_1, ↓oc_3, ↓ai_4, ↓wi_4, ↓fg_5_0, ↓fg_5_1, ↓fp_5_1, ↓oc_5, ↓ai_6, ↓wi_6, ↓ai_7, ↓wi_7, ↓ai_8, ↓wi_8, ↓ai_9, ↓wi_9, ↓ai_10, ↓wi_10, ↓fg_11_0, ↓fg_11_1, ↓fg_11_2, ↓fg_11_3, ↓fg_11_4, ↓fg_11_5, ↓fp_11_5, ↓oc_11, ↓aq_12, ↓fg_13_0, ↓fg_13_1, ↓fp_13_1, ↓oc_13, ↓ai_14, ↓wi_14, ↓fg_15_0, ↓fg_15_1, ↓fp_15_1, ↓oc_15, ↓ai_16, ↓wi_16, ↓ai_17, ↓wi_17, ↓ai_18, ↓wi_18, ↓ai_19, ↓wi_19, ↓ai_20, ↓wi_20, ↓fg_21_0, ↓fg_21_1, ↓fg_21_2, ↓fg_21_3, ↓fg_21_4, ↓fg_21_5, ↓fp_21_5, ↓oc_21, ↓aq_22, ↓fg_23_0, ↓fg_23_1, ↓fp_23_1, ↓oc_23, ↓ai_24, ↓wi_24, ↓fg_25_0, ↓fg_25_1, ↓fp_25_1, ↓oc_25, ↓ai_26, ↓wi_26, ↓ai_27, ↓wi_27, ↓ai_28, ↓wi_28, ↓ai_29, ↓wi_29, ↓ai_30, ↓wi_30, tn_0, tn_1, tn_2, tn_3, tn_4, tn_5, tn_6, tn_7, tn_8, tn_9, tn_10, tn_11, tn_12, tn_13, tn_14, tn_15, tn_16, tn_17, ok_0_2, ok_1_2, ok_0_6, ok_1_6, ok_2_6, ok_3_6, ok_4_6, ok_5_6, ok_0_7, ok_1_7, ok_2_7, ok_3_7, ok_4_7, ok_5_7, ok_6_7, ok_0_12, ok_1_12, ok_2_12, ok_3_12, ok_4_12, ok_5_12, ok_6_12, ok_7_12, ok_8_12, ok_9_12, ok_10_12, ok_11_12, ok_0_17, ok_1_17, ok_2_17, ok_3_17, ok_4_17, ok_5_17, ok_6_17, ok_7_17, ok_8_17, ok_9_17, ok_10_17, ok_11_17, ok_12_17, ok_13_17, ok_14_17, ok_15_17, ok_16_17, iq_n1_1, iq_n1_2, iq_n1_3, iq_n1_4, iq_n1_5, iq_n1_6, iq_n1_7, iq_0_n1, iq_0_1, iq_0_2, iq_0_3, iq_0_4, iq_0_5, iq_0_6, iq_0_7, iq_1_n1, iq_1_0, iq_1_2, iq_1_3, iq_1_4, iq_1_5, iq_1_6, iq_1_7, iq_2_n1, iq_2_0, iq_2_1, iq_2_3, iq_2_4, iq_2_5, iq_2_6, iq_2_7, iq_3_n1, iq_3_0, iq_3_1, iq_3_2, iq_3_4, iq_3_5, iq_3_6, iq_3_7, iq_4_n1, iq_4_0, iq_4_1, iq_4_2, iq_4_3, iq_4_5, iq_4_6, iq_4_7, iq_5_n1, iq_5_0, iq_5_1, iq_5_2, iq_5_3, iq_5_4, iq_5_6, iq_5_7, iq_6_n1, iq_6_0, iq_6_1, iq_6_2, iq_6_3, iq_6_4, iq_6_5, iq_6_7, iq_7_n1, iq_7_0, iq_7_1, iq_7_2, iq_7_3, iq_7_4, iq_7_5, iq_7_6, not_false_eq_true, not_true_eq_false, decide_false, Bool.false_and, Bool.and_false, Bool.true_and, Bool.or_false, Bool.false_or, Bool.true_or, Bool.or_true, Bool.not_true, Bool.not_false, Bool.true_eq_false, Bool.false_eq_true, Int32.reduceLT, Int32.reduceAdd, Int32.reduceSub, Int32.reduceToNatClampNeg, Int64.reduceLT, zn1, zl1, zn2, zl2, zn3, zl3, zn4, zl4, zn6, zl6, zn9, zl9, z01, z10, z00, rfA, st_uA, st_rA, updA, Nat.reduceEqDiff, if_false, if_true, st_qA, st_lA, h1, h2, h3, h4, ↓fgS_1 hs, ↓fgS_0 hs, ↓aiS hs, e1, e2, hz, ↓c_40, nI_1, e5]
    exact ih
theorem c_38 {X : pm_X} {d : Nat} {I : st_I} {J : st_J} {s n j : Nat} {F} (hs : isS s = true) (hn : n ≤ 6) (hj : j ≤ n) (hz : I s 1 = nI n) : pv_call X (d + 2) 38 [.ref s, .int (nI j), .ref 33] (st_E I J) F = F (none) (st_E (st_T I (nI j) (grN (I (s + 1)) j) (leN (I (s + 1)) j) (toN (I (s + 1)) j)) (J)) := pv_call_ev rfl (by
  show pm_ev X (d + 2) 38 (0, [some (.ref s), some (.int (nI j)), some (.ref 33), none], [], st_E I J) = _
  simp only [↓ps_38_0, ↓ps_38_1, ↓ps_38_4, ↓ps_38_5, ↓ps_38_7, ↓ps_38_8, ↓ps_38_11, ↓ps_38_12, ↓ps_38_13, ↓ps_38_16, ↓ps_38_19, ↓ps_38_20, ↓ps_38_21, ↓ps_38_24, ↓ps_38_25, ↓ps_38_26, ↓ps_38_29, ↓ps_38_32, ↓ps_38_35, ↓q_i1, ↓q_i2, ↓q_l1, ↓q_l2, ↓q_r1, ↓q_v1, ↓q_rs, ↓q_if, ↓q_gi, ↓q_gi', ↓q_gl, ↓q_gl', ↓q_ga, ↓q_ga', ↓q_s1, ↓q_s1n, ↓q_s1i, ↓q_s1r, ↓q_s1', ↓q_s2, ↓q_s2n, ↓q_s2i, ↓q_s2r, ↓q_s2', ↓q_ar0, ↓q_ar, q_w0, q_wi, q_wl, q_wr, q_wii, q_wil, q_wli, q_wll, q_wir, q_wri, q_wlr, q_wrl, q_wrr, q_wirr, q_wiir, q_wiii, q_ni, q_nl, q_fi, q_fl, q_z0, q_z1, q_fz0, q_fz1, ↓q_ts, ↓q_tn, q_e, q_ci, q_cr, ↓q_rfs, decide_true, Bool.and_true, Bool.and_self, Nat.zero_add, Nat.reduceAdd, Nat.reduceBEq, beq_self_eq_true, q_le, q_lel, q_ge, q_gel, q_gt, q_gtl, ite_not, Bool.not_eq_true', Bool.not_eq_false', ↓reduceIte, ↓fg_0_0, ↓fg_0_1, ↓fg_0_2, ↓fg_0_3, ↓fg_0_4, ↓fg_0_5, ↓fg_0_6, ↓fg_0_7, ↓fg_0_8, ↓fp_0_7, ↓fp_0_8, ↓oc_0, ↓fg_31_0, ↓fg_31_1, ↓fp_31_1, ↓oc_31, ↓ai_32, ↓wi_32, ↓fg_33_0, ↓fp_33_0, ↓fg_33_1, ↓fp_33_1, ↓fg_33_2, ↓fp_33_2, ↓fg_33_3, ↓fp_33_3, ↓oc_33, ↓ai_34, ↓wi_34, ↓ai_35, ↓wi_35, ↓fg_36_0, ↓fg_36_1, ↓fg_36_2, ↓fg_36_3, ↓fg_36_4, ↓fg_36_5, ↓fg_36_6, ↓fg_36_7, ↓fp_36_7, ↓fg_36_8, ↓fg_36_9, ↓fg_36_10, ↓fg_36_11, ↓fg_36_12, ↓fp_36_12, ↓fg_36_13, ↓fp_36_13, ↓fg_36_14, ↓fp_36_14, ↓fg_36_15, ↓fg_36_16, ↓fp_36_16, ↓fg_36_17, ↓fp_36_17, ↓fg_36_18, ↓fp_36_18, ↓fg_36_19, ↓fp_36_19, ↓fg_36_20, ↓fp_36_20, ↓fg_36_21, ↓fp_36_21, ↓fg_36_22, ↓fp_36_22, ↓fg_36_23, ↓fp_36_23, ↓fg_36_24, ↓fp_36_24, ↓fg_36_25, ↓fg_36_26, ↓fg_36_27, ↓fg_36_28, ↓fp_36_28, ↓fg_36_29, ↓fp_36_29, ↓oc_36, ↓ai_37, ↓wi_37, ↓ai_38, ↓wi_38, ↓ai_39, ↓wi_39, ↓ai_40, ↓wi_40, ↓ai_41, ↓wi_41, ↓ai_42, ↓wi_42, ↓ai_43, ↓wi_43, ↓ai_44, ↓wi_44, ↓ai_45, ↓wi_45, ↓ai_46, ↓wi_46, ↓ai_47, ↓wi_47, ↓ai_48, ↓wi_48, ↓ai_51, ↓wi_51, ↓al_49, ↓wl_49, ↓al_50, ↓wl_50, isW_1, isW_11, isW_21, isS_3, isS_5, isS_13, isS_15, isS_23, isS_25, ↓c_39]
  exact l_38 hs hn hj hz j 0 (by omega))
