/-! what the tables of the pure machine rest on: their words stand in lw_tbl -/
set_option maxRecDepth 100000 in
theorem pm_own_ok : ∀ k, k < 229 → (pm_y k).cls = pm_cn (pm_own k) ∧ (pm_isM k = true ∨ plainName (pm_y k).cls = true) ∧ (pm_y k).cls ≠ "java/lang/invoke/MethodHandle" ∧ (pm_y k).cls ≠ "java/lang/invoke/VarHandle" ∧ pm_l k ≤ 14 := by decide +kernel
def pm_fchk (e : pm_F) : Bool := match vwCl[e.2.1.1]? with
  | some (_, T, N) => decide (e.2.1.2.1 < N) && (decide (parseFieldDescriptor (T e.2.1.2.1).2.2.1 = some e.2.1.2.2.2.1) && (decide ((T e.2.1.2.1).2.2.2 = e.2.1.2.2.2.2) && ((if e.2.1.2.2.1 = true then decide (lw_tbl[e.2.2]? = some (.fieldLinkNest (pm_cn e.1.1) e.1.2 (T e.2.1.2.1).1 (T e.2.1.2.1).2.1 (T e.2.1.2.1).2.2.1 "SixtyOneCabs")) else decide (lw_tbl[e.2.2]? = some (.fieldLink (pm_cn e.1.1) e.1.2 (T e.2.1.2.1).1 (T e.2.1.2.1).2.1 (T e.2.1.2.1).2.2.1))) && (if e.2.1.2.2.1 = false ∧ e.2.1.2.2.2.2 = true then decide ((T e.2.1.2.1).1 = pm_cn e.1.1) else true))))
  | none => false
set_option maxRecDepth 100000 in
theorem pm_ft_ok : pm_ft.all pm_fchk = true := by decide +kernel
theorem pm_fld_ok {w i ci k : Nat} {nest fin : Bool} {ty : FieldType} (h : pm_fld w i = some (ci, k, nest, ty, fin)) : ∃ (C : String) (T : u_T) (N : Nat), vwCl[ci]? = some (C, T, N) ∧ k < N ∧ parseFieldDescriptor (T k).2.2.1 = some ty ∧ (T k).2.2.2 = fin ∧
    (nest = false → Cond.fieldLink (pm_cn w) i (T k).1 (T k).2.1 (T k).2.2.1 ∈ pm_T) ∧ (nest = true → Cond.fieldLinkNest (pm_cn w) i (T k).1 (T k).2.1 (T k).2.2.1 "SixtyOneCabs" ∈ lw_tbl) ∧ (nest = false → fin = true → (T k).1 = pm_cn w) := by
  unfold pm_fld at h
  obtain ⟨e, h1, h2⟩ := Option.map_eq_some_iff.mp h
  have h3 := List.find?_some h1
  have h4 := List.all_eq_true.mp pm_ft_ok e (List.mem_of_find?_eq_some h1)
  obtain ⟨⟨w', i'⟩, ⟨ci', k', nest', ty', fin'⟩, pos⟩ := e
  simp only [Bool.and_eq_true, beq_iff_eq] at h3
  obtain ⟨rfl, rfl⟩ := h3
  cases h2
  unfold pm_fchk at h4
  dsimp only at h4
  split at h4
  next C T N hc =>
    simp only [Bool.and_eq_true, decide_eq_true_eq] at h4
    obtain ⟨a1, a2, a3, a4, a5⟩ := h4
    refine ⟨C, T, N, hc, a1, a2, a3, fun hn => ?_, fun hn => ?_, fun hn hf => ?_⟩
    · subst hn
      rw [if_neg (by simp)] at a4
      exact pm_in pos (of_decide_eq_true a4) rfl
    · subst hn
      rw [if_pos rfl] at a4
      exact List.mem_of_getElem? (of_decide_eq_true a4)
    · rw [if_pos ⟨hn, hf⟩] at a5
      exact of_decide_eq_true a5
  next => cases h4
def pm_cchk (e : pm_C) : Bool := decide (e.2.1.1 < 228) && (decide ((parseMethodDescriptor (pm_y e.2.1.1).desc).map (fun d => d.parameters.length) = some e.2.1.2.1) && (decide (lw_tbl[e.2.2.2.2.2]? = some (.initialized (pm_y e.2.1.1).cls)) && ((if e.2.1.2.2.2 = true then decide (lw_tbl[e.2.2.1]? = some (.methodLinkNest (pm_cn e.1.1) e.1.2 (pm_y e.2.1.1) "SixtyOneCabs")) else decide (lw_tbl[e.2.2.1]? = some (.methodLink (pm_cn e.1.1) e.1.2 (pm_y e.2.1.1)))) &&
  (match e.2.1.2.2.1 with
    | 0 => decide (lw_tbl[e.2.2.2.1]? = some (.static (pm_y e.2.1.1)))
    | 1 => decide (lw_tbl[e.2.2.2.1]? = some (.instanceMethod (pm_y e.2.1.1))) && decide (lw_tbl[e.2.2.2.2.1]? = some (.selects (pm_y e.2.1.1).cls (pm_y e.2.1.1) (pm_y e.2.1.1)))
    | _ => decide (lw_tbl[e.2.2.2.1]? = some (.instanceMethod (pm_y e.2.1.1))) && (decide ((pm_y e.2.1.1).name = "<init>") && decide (pm_r e.2.1.1 = none))))))
set_option maxRecDepth 100000 in
theorem pm_ct_ok0 : pm_ct0.all pm_cchk = true := by decide +kernel
set_option maxRecDepth 100000 in
theorem pm_ct_ok1 : pm_ct1.all pm_cchk = true := by decide +kernel
set_option maxRecDepth 100000 in
theorem pm_ct_ok2 : pm_ct2.all pm_cchk = true := by decide +kernel
set_option maxRecDepth 100000 in
theorem pm_ct_ok3 : pm_ct3.all pm_cchk = true := by decide +kernel
set_option maxRecDepth 100000 in
theorem pm_ct_ok4 : pm_ct4.all pm_cchk = true := by decide +kernel
set_option maxRecDepth 100000 in
theorem pm_ct_ok5 : pm_ct5.all pm_cchk = true := by decide +kernel
set_option maxRecDepth 100000 in
theorem pm_ct_ok6 : pm_ct6.all pm_cchk = true := by decide +kernel
set_option maxRecDepth 100000 in
theorem pm_ct_ok7 : pm_ct7.all pm_cchk = true := by decide +kernel
set_option maxRecDepth 100000 in
theorem pm_ct_ok8 : pm_ct8.all pm_cchk = true := by decide +kernel
set_option maxRecDepth 100000 in
theorem pm_ct_ok9 : pm_ct9.all pm_cchk = true := by decide +kernel
set_option maxRecDepth 100000 in
theorem pm_ct_ok10 : pm_ct10.all pm_cchk = true := by decide +kernel
set_option maxRecDepth 100000 in
theorem pm_ct_ok11 : pm_ct11.all pm_cchk = true := by decide +kernel
set_option maxRecDepth 100000 in
theorem pm_ct_ok12 : pm_ct12.all pm_cchk = true := by decide +kernel
theorem pm_ct_ok : pm_ct.all pm_cchk = true := by
  simp only [pm_ct, List.all_append, pm_ct_ok0, pm_ct_ok1, pm_ct_ok2, pm_ct_ok3, pm_ct_ok4, pm_ct_ok5, pm_ct_ok6, pm_ct_ok7, pm_ct_ok8, pm_ct_ok9, pm_ct_ok10, pm_ct_ok11, pm_ct_ok12, Bool.and_self]
theorem pm_cal_ok {w i k n kind : Nat} {nest : Bool} (h : pm_cal w i = some (k, n, kind, nest)) : k < 228 ∧ (parseMethodDescriptor (pm_y k).desc).map (fun d => d.parameters.length) = some n ∧ Cond.initialized (pm_y k).cls ∈ pm_T ∧
    (nest = false → Cond.methodLink (pm_cn w) i (pm_y k) ∈ pm_T) ∧ (nest = true → Cond.methodLinkNest (pm_cn w) i (pm_y k) "SixtyOneCabs" ∈ lw_tbl) ∧ (kind = 0 → Cond.static (pm_y k) ∈ pm_T) ∧ (kind = 1 → Cond.instanceMethod (pm_y k) ∈ pm_T ∧ Cond.selects (pm_y k).cls (pm_y k) (pm_y k) ∈ pm_T) ∧ (kind = 2 → Cond.instanceMethod (pm_y k) ∈ pm_T ∧ (pm_y k).name = "<init>" ∧ pm_r k = none) := by
  unfold pm_cal at h
  obtain ⟨e, h1, h2⟩ := Option.map_eq_some_iff.mp h
  have h3 := List.find?_some h1
  have h4 := List.all_eq_true.mp pm_ct_ok e (List.mem_of_find?_eq_some h1)
  obtain ⟨⟨w', i'⟩, ⟨k', n', kind', nest'⟩, p1, p2, p3, p4⟩ := e
  simp only [Bool.and_eq_true, beq_iff_eq] at h3
  obtain ⟨rfl, rfl⟩ := h3
  cases h2
  unfold pm_cchk at h4
  simp only [Bool.and_eq_true, decide_eq_true_eq] at h4
  obtain ⟨a1, a2, a3, a4, a5⟩ := h4
  refine ⟨a1, a2, pm_in _ a3 rfl, fun hn => ?_, fun hn => ?_, fun hn => ?_, fun hn => ?_, fun hn => ?_⟩
  · subst hn
    rw [if_neg (by simp)] at a4
    exact pm_in _ (of_decide_eq_true a4) rfl
  · subst hn
    rw [if_pos rfl] at a4
    exact List.mem_of_getElem? (of_decide_eq_true a4)
  · subst hn
    exact pm_in _ (of_decide_eq_true a5) rfl
  · subst hn
    simp only [Bool.and_eq_true, decide_eq_true_eq] at a5
    exact ⟨pm_in _ a5.1 rfl, pm_in _ a5.2 rfl⟩
  · subst hn
    simp only [Bool.and_eq_true, decide_eq_true_eq] at a5
    exact ⟨pm_in _ a5.1 rfl, a5.2.1, a5.2.2⟩
set_option maxRecDepth 100000 in
theorem pm_ot_ok : pm_ot.all (fun e => decide (lw_tbl[e.2]? = some (.methodLink (pm_cn e.1.1) e.1.2 Lib.objectInit))) = true := by decide +kernel
theorem pm_obj_ok {w i : Nat} (h : pm_obj w i = true) : Cond.methodLink (pm_cn w) i Lib.objectInit ∈ pm_T := by
  unfold pm_obj at h
  obtain ⟨e, h1⟩ := Option.isSome_iff_exists.mp h
  have h3 := List.find?_some h1
  have h4 := List.all_eq_true.mp pm_ot_ok e (List.mem_of_find?_eq_some h1)
  simp only [Bool.and_eq_true, beq_iff_eq] at h3
  rw [← h3.1, ← h3.2]
  exact pm_in _ (of_decide_eq_true h4) rfl
set_option maxRecDepth 100000 in
theorem pm_at_ok : pm_at.all (fun e => decide (lw_tbl[e.2]? = some (.methodLink (pm_cn e.1.1) e.1.2 arraycopyName))) = true := by decide +kernel
theorem pm_arc_ok {w i : Nat} (h : pm_arc w i = true) : Cond.methodLink (pm_cn w) i arraycopyName ∈ pm_T := by
  unfold pm_arc at h
  obtain ⟨e, h1⟩ := Option.isSome_iff_exists.mp h
  have h3 := List.find?_some h1
  have h4 := List.all_eq_true.mp pm_at_ok e (List.mem_of_find?_eq_some h1)
  simp only [Bool.and_eq_true, beq_iff_eq] at h3
  rw [← h3.1, ← h3.2]
  exact pm_in _ (of_decide_eq_true h4) rfl
set_option maxRecDepth 100000 in
theorem pm_it_ok : pm_it.all (fun e => decide (lw_tbl[e.2.2]? = some (.constant (pm_cn e.1.1) e.1.2 e.2.1))) = true := by decide +kernel
theorem pm_ki_ok {w i : Nat} {v : Int32} (h : pm_ki w i = some v) : Cond.constant (pm_cn w) i v ∈ pm_T := by
  unfold pm_ki at h
  obtain ⟨e, h1, h2⟩ := Option.map_eq_some_iff.mp h
  have h3 := List.find?_some h1
  have h4 := List.all_eq_true.mp pm_it_ok e (List.mem_of_find?_eq_some h1)
  simp only [Bool.and_eq_true, beq_iff_eq] at h3
  rw [← h3.1, ← h3.2, ← h2]
  exact pm_in _ (of_decide_eq_true h4) rfl
set_option maxRecDepth 100000 in
theorem pm_lt_ok : pm_lt.all (fun e => decide (lw_tbl[e.2.2]? = some (.constantLong (pm_cn e.1.1) e.1.2 e.2.1))) = true := by decide +kernel
theorem pm_kl_ok {w i : Nat} {v : Int64} (h : pm_kl w i = some v) : Cond.constantLong (pm_cn w) i v ∈ pm_T := by
  unfold pm_kl at h
  obtain ⟨e, h1, h2⟩ := Option.map_eq_some_iff.mp h
  have h3 := List.find?_some h1
  have h4 := List.all_eq_true.mp pm_lt_ok e (List.mem_of_find?_eq_some h1)
  simp only [Bool.and_eq_true, beq_iff_eq] at h3
  rw [← h3.1, ← h3.2, ← h2]
  exact pm_in _ (of_decide_eq_true h4) rfl
def pm_nchk (e : (Nat × Nat) × Nat × (Nat × Nat × Nat)) : Bool := match vwCl[e.2.1]? with
  | some (C, _, N) => decide (lw_tbl[e.2.2.1]? = some (.classLink (pm_cn e.1.1) e.1.2 C)) && (decide (lw_tbl[e.2.2.2.1]? = some (.instantiable C N)) && decide (lw_tbl[e.2.2.2.2]? = some (.initialized C)))
  | none => false
set_option maxRecDepth 100000 in
theorem pm_nt_ok : pm_nt.all pm_nchk = true := by decide +kernel
theorem pm_new_ok {w i ci : Nat} (h : pm_new w i = some ci) : ∃ (C : String) (T : u_T) (N : Nat), vwCl[ci]? = some (C, T, N) ∧ Cond.classLink (pm_cn w) i C ∈ pm_T ∧ Cond.instantiable C N ∈ pm_T ∧ Cond.initialized C ∈ pm_T := by
  unfold pm_new at h
  obtain ⟨e, h1, h2⟩ := Option.map_eq_some_iff.mp h
  have h3 := List.find?_some h1
  have h4 := List.all_eq_true.mp pm_nt_ok e (List.mem_of_find?_eq_some h1)
  simp only [Bool.and_eq_true, beq_iff_eq] at h3
  unfold pm_nchk at h4
  rw [h2] at h4
  split at h4
  next C T N hc =>
    simp only [Bool.and_eq_true, decide_eq_true_eq] at h4
    rw [← h3.1, ← h3.2]
    exact ⟨C, T, N, hc, pm_in _ h4.1 rfl, pm_in _ h4.2.1 rfl, pm_in _ h4.2.2 rfl⟩
  next => cases h4
/-- the classes of the worlds -/
theorem pm_cl6 {P : Nat → vw_C → Prop} (h0 : P 0 (RX2, TX2, 2)) (h1 : P 1 (RX3, TX3, 2)) (h2 : P 2 (RX4, TX4, 4)) (h3 : P 3 (RX5, TX5, 6)) (h4 : P 4 (RX6, TX6, 9)) (h5 : P 5 (RX7, TX7, 30)) : ∀ (ci : Nat) (q : vw_C), vwCl[ci]? = some q → P ci q
  | 0, q, h => by cases h; exact h0
  | 1, q, h => by cases h; exact h1
  | 2, q, h => by cases h; exact h2
  | 3, q, h => by cases h; exact h3
  | 4, q, h => by cases h; exact h4
  | 5, q, h => by cases h; exact h5
  | k + 6, q, h => by simp [vwCl] at h
set_option maxRecDepth 100000 in
theorem pm_u2 : (u_ws RX2 TX2 2).all (fun w => decide (w ∈ lw_tbl) && goodWord w) = true := by decide +kernel
set_option maxRecDepth 100000 in
theorem pm_u3 : (u_ws RX3 TX3 2).all (fun w => decide (w ∈ lw_tbl) && goodWord w) = true := by decide +kernel
set_option maxRecDepth 100000 in
theorem pm_u4 : (u_ws RX4 TX4 4).all (fun w => decide (w ∈ lw_tbl) && goodWord w) = true := by decide +kernel
set_option maxRecDepth 100000 in
theorem pm_u5 : (u_ws RX5 TX5 6).all (fun w => decide (w ∈ lw_tbl) && goodWord w) = true := by decide +kernel
set_option maxRecDepth 100000 in
theorem pm_u6 : (u_ws RX6 TX6 9).all (fun w => decide (w ∈ lw_tbl) && goodWord w) = true := by decide +kernel
set_option maxRecDepth 100000 in
theorem pm_u7 : (u_ws RX7 TX7 30).all (fun w => decide (w ∈ lw_tbl) && goodWord w) = true := by decide +kernel
theorem pm_u_of {ws : List Cond} (h : ws.all (fun w => decide (w ∈ lw_tbl) && goodWord w) = true) : ∀ w ∈ ws, w ∈ pm_T := fun w hw => by
  have h1 := List.all_eq_true.mp h w hw
  simp only [Bool.and_eq_true, decide_eq_true_eq] at h1
  exact List.mem_filter.mpr h1
theorem pm_cl_in : ∀ (ci : Nat) (q : vw_C), vwCl[ci]? = some q → ∀ w ∈ u_ws q.1 q.2.1 q.2.2, w ∈ pm_T := pm_cl6 (pm_u_of pm_u2) (pm_u_of pm_u3) (pm_u_of pm_u4) (pm_u_of pm_u5) (pm_u_of pm_u6) (pm_u_of pm_u7)
theorem pm_cl_ty : ∀ (ci : Nat) (q : vw_C), vwCl[ci]? = some q → ∃ ty : Nat → FieldType, ∀ k, k < q.2.2 → parseFieldDescriptor (q.2.1 k).2.2.1 = some (ty k) := pm_cl6 ⟨_, tyX2_ok⟩ ⟨_, tyX3_ok⟩ ⟨_, tyX4_ok⟩ ⟨_, tyX5_ok⟩ ⟨_, tyX6_ok⟩ ⟨_, tyX7_ok⟩
theorem pm_cl_nm : ∀ (ci : Nat) (q : vw_C), vwCl[ci]? = some q → ∀ a, a < q.2.2 → ∀ b, b < q.2.2 → a ≠ b → (q.2.1 a).2.1 ≠ (q.2.1 b).2.1 := pm_cl6 nmX2 nmX3 nmX4 nmX5 nmX6 nmX7
theorem pm_cl_df : ∀ (ci : Nat) (q : vw_C), vwCl[ci]? = some q → (pm_df ci).length = q.2.2 ∧ ∃ ty : Nat → FieldType, (∀ k, k < q.2.2 → parseFieldDescriptor (q.2.1 k).2.2.1 = some (ty k)) ∧ ∀ j, j < q.2.2 → defaultValue (ty j) = vp_V (pm_df ci) j :=
  pm_cl6 ⟨rfl, _, tyX2_ok, by decide +kernel⟩ ⟨rfl, _, tyX3_ok, by decide +kernel⟩ ⟨rfl, _, tyX4_ok, by decide +kernel⟩ ⟨rfl, _, tyX5_ok, by decide +kernel⟩ ⟨rfl, _, tyX6_ok, by decide +kernel⟩ ⟨rfl, _, tyX7_ok, by decide +kernel⟩
theorem pm_cl_own : ∀ (ci : Nat) (q : vw_C), vwCl[ci]? = some q → q.1 = pm_cn (ci + 2) := pm_cl6 rfl rfl rfl rfl rfl rfl
