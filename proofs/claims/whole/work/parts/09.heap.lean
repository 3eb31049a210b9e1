/-! instructions that change the heap, and the library's own -/
set_option maxRecDepth 100000 in
theorem pm_wI : Cond.arrayClass .int ∈ pm_T := pm_in 145 rfl rfl
set_option maxRecDepth 100000 in
theorem pm_wJ : Cond.arrayClass .long ∈ pm_T := pm_in 928 rfl rfl
set_option maxRecDepth 100000 in
theorem pm_wN : Cond.native arraycopyName ∈ pm_T := pm_in 370 rfl rfl
set_option maxRecDepth 100000 in
theorem pm_wS : Cond.static arraycopyName ∈ pm_T := pm_in 369 rfl rfl
set_option maxRecDepth 100000 in
theorem pm_wY : Cond.initialized "java/lang/System" ∈ pm_T := pm_in 108 rfl rfl
set_option maxRecDepth 100000 in
theorem pm_wO : Cond.instanceMethod Lib.objectInit ∈ pm_T := pm_in 119 rfl rfl
set_option maxRecDepth 100000 in
theorem pm_wC : Cond.code Lib.objectInit ⟨#[0xb1]⟩ 1 none ∈ pm_T := pm_in 120 rfl rfl
section PMH
variable {p : Program} {l : Launch} {e : Env} {R : Room} {s : State} {m : MethodId} {args : Array Value} {below : List Frame} {meth : Method} {c : Code} {Q : State → Prop} {D : va_G} {cy : Nat → ClassId} {bs sb : Nat} {KX : State → Prop} {mi S0 : Nat} {X : pm_X}
theorem pm_arr_eq {s : State} {tys : List (ClassId × FieldType)} {cA : ClassId} {ty : FieldType} {k : Nat} (hK1 : va_K D vwCl (tys ++ [(cA, ty)]) s) {cB : ClassId} (hk : tys[k]? = some (cB, ty)) (hty : (∃ C, ty = .object C) ∨ ∀ U cA, va_RA U cA ty = (U.vm.findClass ("[" ++ ty.toString) = some cA)) : cA = cB := by
  have h1 := (hK1.2 tys.length (cA, ty) (by simp)).2
  have h2 := (hK1.2 k (cB, ty) (by rw [List.getElem?_append_left (List.getElem?_eq_some_iff.mp hk).1]; exact hk)).2
  rcases hty with ⟨C, rfl⟩ | hty
  · obtain ⟨kA, comp, -, -, -, h3⟩ := h1
    obtain ⟨kA', comp', -, -, -, h4⟩ := h2
    exact Option.some.inj (h3.symm.trans h4)
  · dsimp only at h1 h2
    rw [hty] at h1 h2
    exact Option.some.inj (h1.symm.trans h2)
theorem pm_w8_of {st : List Value} (h : pm_w8 st = true) : ((st.map (pm_v bs sb)).map fun v => v.category).sum ≤ 8 := by
  rw [pm_cats]
  exact of_decide_eq_true h
set_option maxHeartbeats 4000000 in
theorem pm_ins_heap (Fx : pm_Fx p s m args meth c D cy KX mi) (hmi : mi < 229) (hbs : bs ≤ s.heap.size) (hsb : sb < bs) (hR : 1 ≤ R.frames ∧ 35 ≤ R.locals) {i : Instr} {ln pc : Nat} {L : List (Option Value)} {st : List Value} {h : List va_E} {g : pm_F4}
    (hd : decode (pm_b mi) pc = .ok (i, ln)) (hln : pm_ln i ln = true) (hs : pm_ins X mi i pc L st h = some (.inl g)) (hk : pm_Wf p l e R s m args below meth c Q D cy bs sb mi S0 g)
    (hrc : bs + g.2.2.2.length ≤ s.heap.size + R.cells) (hrs : pm_sl g.2.2.2 ≤ R.slots + S0) (hez : pm_easy i = false) : pm_Wf p l e R s m args below meth c Q D cy bs sb mi S0 (pc, L, st, h) := by
  obtain ⟨hx, hb, hml, hown, hts, hnm, hK⟩ := Fx
  intro ls H locs cells slots hLn hL hH hcl hsl
  dsimp only at hLn hL hH hcl hsl ⊢
  have hcn : (pm_y mi).cls = pm_cn (pm_own mi) := (pm_own_ok mi hmi).1
  have hD0 : va_D (fun q => bs ≤ q) (pm_W cy bs sb h) := pm_W_D
  have hA : ∀ q, s.heap.size ≤ q → (fun q => bs ≤ q) q := fun q hq => Nat.le_trans hbs hq
  have hls : c.maxLocals = ls.size := by rw [hml, ← hLn]; exact hL.1.symm
  cases i with
  | putfield j =>
    dsimp only [pm_ins] at hs
    obtain ⟨v, st', rfl, hq⟩ := pm_v1_inv hs
    clear hs
    obtain ⟨a, st', rfl, hs⟩ := pm_r1_inv hq
    clear hq
    obtain ⟨⟨ci, k, nest, ty, fin⟩, h1, hs⟩ := pm_sm_inv hs
    obtain ⟨c0, fs, h2, hs⟩ := pm_ob_inv hs
    obtain ⟨h3, hs⟩ := pm_if_inv hs
    have := pm_nx_inv hs; cases this
    cases (beq_iff_eq.mp hln : ln = 3)
    simp only [Bool.and_eq_true, beq_iff_eq, decide_eq_true_eq, Bool.or_eq_true, Bool.not_eq_true'] at h3
    obtain ⟨rfl, a2, a3, a4, a5⟩ := h3
    obtain ⟨C, T, N, f1, f2, f3, f4, f5, f6, f7⟩ := pm_fld_ok h1
    obtain ⟨ty0, hty0⟩ := pm_cl_ty _ _ f1
    have hg := pm_W_get (cy := cy) (bs := bs) (sb := sb) h2
    have hnf := pm_v_nar (bs := bs) (sb := sb) a3 a4
    have hset : pm_e cy bs sb (.inr (c0, fs.set k v)) = .inr (c0, (fs.map (pm_v bs sb)).set k (pm_v bs sb v)) := by simp [pm_e, List.map_set]
    have fin1 : ∀ (H1 : Heap) (locs1 : List Loc), va_P D vwCl ((pm_W cy bs sb h).set a (bs + a, .inr (c0, (fs.map (pm_v bs sb)).set k (pm_v bs sb v)))) H1 → va_D (fun q => bs ≤ q) ((pm_W cy bs sb h).set a (bs + a, .inr (c0, (fs.map (pm_v bs sb)).set k (pm_v bs sb v)))) → va_S (fun q => bs ≤ q) s.heap H1 locs1 → W p l e R s m args below meth c H1 locs1 cells slots Q (F0 m (pc + 3) ls (st'.map (pm_v bs sb))) := by
      intro H1 locs1 hP1 _ hS1
      refine pm_size fun hz => ?_
      refine hk _ _ _ _ _ hLn hL (pm_H_of h2 rfl (by rw [List.length_set]; omega) (by rw [hset]; exact hP1) hS1) (by simp only [List.length_set]; exact hcl) ?_
      show slots + S0 = pm_sl (h.set a _)
      rw [pm_sl_set h a _ _ h2 (by simp [pm_es])]
      exact hsl
    cases fin with
    | false =>
      cases nest with
      | false => exact va_put hx hb hts (pm_cl_in _ _ f1) ty0 hty0 (pm_cl_nm _ _ f1) hown hK.1 hH.2.1 hD0 hH.2.2 a hg f1 k f2 (by rw [hcn]; exact hts _ (f5 rfl)) (fun _ z => z) f4 f3 hnf.1 hnf.2 (by rw [List.length_map]; exact a2) hd fin1
      | true => exact va_putN hx hb hts (pm_cl_in _ _ f1) ty0 hty0 (pm_cl_nm _ _ f1) hown hK.1 hH.2.1 hD0 hH.2.2 a hg f1 k f2 (by rw [hcn]; exact va_Nw.use rfl (hK.2.1 _ (f6 rfl) rfl)) (fun _ z => z) f4 f3 hnf.1 hnf.2 (by rw [List.length_map]; exact a2) hd fin1
    | true =>
      have a6 : nest = false ∧ (pm_y mi).name = "<init>" := by
        rcases a5 with z | z
        · cases z
        · exact z
      exact va_putF hx hb hts (pm_cl_in _ _ f1) ty0 hty0 (pm_cl_nm _ _ f1) hown hK.1 hH.2.1 hD0 hH.2.2 a hg f1 k f2 (by rw [hcn]; exact hts _ (f5 a6.1)) (fun _ z => z) f4 (by rw [hnm]; exact a6.2) (by rw [hcn]; exact f7 a6.1 rfl) f3 hnf.1 hnf.2 (by rw [List.length_map]; exact a2) hd fin1
  | iastore =>
    dsimp only [pm_ins] at hs
    obtain ⟨j, x, st', rfl, hq⟩ := pm_i2_inv hs
    clear hs
    obtain ⟨a, st', rfl, hs⟩ := pm_r1_inv hq
    clear hq
    obtain ⟨n, f, h2, hs⟩ := pm_ai_inv hs
    obtain ⟨h3, hs⟩ := pm_if_inv hs
    have := pm_nx_inv hs; cases this
    cases (beq_iff_eq.mp hln : ln = 1)
    refine va_iast hx hb hK.1 hH.2.1 hD0 hH.2.2 a 0 (pm_W_get h2) rfl (pm_ok_in h3) hd fun H1 locs1 hP1 _ hS1 => ?_
    refine pm_size fun hz => ?_
    refine hk _ _ _ _ _ hLn hL (pm_H_of h2 rfl (by rw [List.length_set]; omega) hP1 hS1) (by simp only [List.length_set]; exact hcl) ?_
    show slots + S0 = pm_sl (h.set a _)
    rw [pm_sl_set h a _ _ h2 (by simp [pm_es])]
    exact hsl
  | lastore =>
    dsimp only [pm_ins] at hs
    obtain ⟨x, st', rfl, hq⟩ := pm_l1_inv hs
    clear hs
    obtain ⟨j, st', rfl, hs⟩ := pm_i1_inv hq
    clear hq
    obtain ⟨a, st', rfl, hq⟩ := pm_r1_inv hs
    clear hs
    obtain ⟨n, f, h2, hs⟩ := pm_al_inv hq
    obtain ⟨h3, hs⟩ := pm_if_inv hs
    have := pm_nx_inv hs; cases this
    cases (beq_iff_eq.mp hln : ln = 1)
    refine va_last hx hb hK.1 hH.2.1 hD0 hH.2.2 a 1 (pm_W_get h2) rfl (pm_ok_in h3) hd fun H1 locs1 hP1 _ hS1 => ?_
    refine pm_size fun hz => ?_
    refine hk _ _ _ _ _ hLn hL (pm_H_of h2 rfl (by rw [List.length_set]; omega) hP1 hS1) (by simp only [List.length_set]; exact hcl) ?_
    show slots + S0 = pm_sl (h.set a _)
    rw [pm_sl_set h a _ _ h2 (by simp [pm_es])]
    exact hsl
  | aastore =>
    dsimp only [pm_ins] at hs
    obtain ⟨v, st', rfl, hq⟩ := pm_r1_inv hs
    clear hs
    obtain ⟨j, st', rfl, hs⟩ := pm_i1_inv hq
    clear hq
    obtain ⟨a, st', rfl, hq⟩ := pm_r1_inv hs
    clear hs
    obtain ⟨n, f, h2, hs⟩ := pm_aq_inv hq
    obtain ⟨c0, fs, h4, hs⟩ := pm_ob_inv hs
    obtain ⟨h3, hs⟩ := pm_if_inv hs
    have := pm_nx_inv hs; cases this
    cases (beq_iff_eq.mp hln : ln = 1)
    simp only [Bool.and_eq_true, beq_iff_eq] at h3
    obtain ⟨h3, rfl⟩ := h3
    refine va_astq hx hb hK.1 hH.2.1 hD0 hH.2.2 a 2 v 1 (r := (RX3, TX3, 2)) (pm_W_get h2) rfl (pm_W_get h4) rfl (pm_ok_in h3) hd fun H1 locs1 hP1 _ hS1 => ?_
    refine pm_size fun hz => ?_
    have hset : pm_e cy bs sb (.inl (2, n, .inr (.inr (.inr (.inr (va_up f j.toNatClampNeg (some v))))))) = .inl (cy 2, n, .inr (.inr (.inr (.inr (va_up (fun j => (f j).map (fun a => bs + a)) j.toNatClampNeg (some (bs + v))))))) := by
      have hfun : (fun q => (va_up f j.toNatClampNeg (some v) q).map (fun a => bs + a)) = va_up (fun j => (f j).map (fun a => bs + a)) j.toNatClampNeg (some (bs + v)) := by
        funext q
        by_cases hq : q = j.toNatClampNeg
        · subst hq; simp [va_up]
        · simp [va_up, hq]
      simp only [pm_e, pm_xa, hfun]
    refine hk _ _ _ _ _ hLn hL (pm_H_of h2 rfl (by rw [List.length_set]; omega) (by rw [hset]; exact hP1) hS1) (by simp only [List.length_set]; exact hcl) ?_
    show slots + S0 = pm_sl (h.set a _)
    rw [pm_sl_set h a _ _ h2 (by simp [pm_es])]
    exact hsl
  | newarray t =>
    dsimp only [pm_ins] at hs
    obtain ⟨n, st', rfl, hq⟩ := pm_i1_inv hs
    clear hs
    obtain ⟨h3, hs⟩ := pm_if_inv hq
    clear hq
    simp only [Bool.and_eq_true, Bool.not_eq_true', decide_eq_false_iff_not, decide_eq_true_eq] at h3
    cases t with
    | int =>
      have := pm_nx_inv hs; cases this
      cases (beq_iff_eq.mp hln : ln = 2)
      dsimp only at hrc hrs
      rw [List.length_append, List.length_singleton] at hrc
      rw [pm_sl_app] at hrs
      simp only [pm_es] at hrs
      refine va_newa (atype := .int) (ty := .int) (N' := n.toNatClampNeg) (a0 := (n.toNatClampNeg, .inl (fun _ => 0))) hx hb (hts _ pm_wI) rfl hK.1 hH.2.1 hD0 hH.2.2 hA (fun cA => by rw [vp_cell_i]; rfl) h3.1 rfl (by show n.toNatClampNeg * 4 ≤ _; omega) (by omega) (by omega) hd fun q cA H1 hK1 hP1 hD1 hS1 => ?_
      refine pm_size fun hz => ?_
      have hcA : cA = cy 0 := pm_arr_eq hK1 (k := 0) rfl (Or.inr fun _ _ => rfl)
      subst hcA
      obtain ⟨rfl, hH1⟩ := pm_H_new (sb := sb) (x := .inl (0, n.toNatClampNeg, .inl (fun _ => 0))) (by omega) hP1 hD1 hS1
      exact hk _ _ _ _ _ hLn hL hH1 (by simp only [List.length_append, List.length_singleton]; omega) (by simp only [pm_sl_app, pm_es]; omega)
    | long =>
      have := pm_nx_inv hs; cases this
      cases (beq_iff_eq.mp hln : ln = 2)
      dsimp only at hrc hrs
      rw [List.length_append, List.length_singleton] at hrc
      rw [pm_sl_app] at hrs
      simp only [pm_es] at hrs
      refine va_newa (atype := .long) (ty := .long) (N' := n.toNatClampNeg) (a0 := (n.toNatClampNeg, .inr (.inl (fun _ => 0)))) hx hb (hts _ pm_wJ) rfl hK.1 hH.2.1 hD0 hH.2.2 hA (fun cA => by rw [vp_cell_l]; rfl) h3.1 rfl (by show n.toNatClampNeg * 8 ≤ _; omega) (by omega) (by omega) hd fun q cA H1 hK1 hP1 hD1 hS1 => ?_
      refine pm_size fun hz => ?_
      have hcA : cA = cy 1 := pm_arr_eq hK1 (k := 1) rfl (Or.inr fun _ _ => rfl)
      subst hcA
      obtain ⟨rfl, hH1⟩ := pm_H_new (sb := sb) (x := .inl (1, n.toNatClampNeg, .inr (.inl (fun _ => 0)))) (by omega) hP1 hD1 hS1
      exact hk _ _ _ _ _ hLn hL hH1 (by simp only [List.length_append, List.length_singleton]; omega) (by simp only [pm_sl_app, pm_es]; omega)
    | _ => cases hs
  | anewarray j =>
    dsimp only [pm_ins] at hs
    obtain ⟨n, st', rfl, hq⟩ := pm_i1_inv hs
    clear hs
    obtain ⟨h3, hs⟩ := pm_if_inv hq
    clear hq
    simp only [Bool.and_eq_true, Bool.not_eq_true', decide_eq_false_iff_not, decide_eq_true_eq] at h3
    obtain ⟨h3, h4, h5⟩ := h3
    have := pm_nx_inv hs; cases this
    cases (beq_iff_eq.mp hln : ln = 3)
    obtain ⟨C, T, N, f1, f2, f3, f4⟩ := pm_new_ok h5
    cases f1
    dsimp only at hrc hrs
    rw [List.length_append, List.length_singleton] at hrc
    rw [pm_sl_app] at hrs
    simp only [pm_es] at hrs
    refine va_newq (C := RX3) (N' := n.toNatClampNeg) hx hb hown (by rw [hcn]; exact hts _ f2) hK.2.2.1 hK.1 hH.2.1 hD0 hH.2.2 hA h3 rfl (by omega) (by omega) (by omega) hd fun q cA H1 hK1 hP1 hD1 hS1 => ?_
    refine pm_size fun hz => ?_
    have hcA : cA = cy 2 := pm_arr_eq hK1 (k := 2) rfl (Or.inl ⟨_, rfl⟩)
    subst hcA
    obtain ⟨rfl, hH1⟩ := pm_H_new (sb := sb) (x := .inl (2, n.toNatClampNeg, .inr (.inr (.inr (.inr (fun _ => none)))))) (by omega) hP1 hD1 hS1
    exact hk _ _ _ _ _ hLn hL hH1 (by simp only [List.length_append, List.length_singleton]; omega) (by simp only [pm_sl_app, pm_es]; omega)
  | new j =>
    dsimp only [pm_ins] at hs
    obtain ⟨ci, h1, hs⟩ := pm_sm_inv hs
    have := pm_nx_inv hs; cases this
    cases (beq_iff_eq.mp hln : ln = 3)
    obtain ⟨C, T, N, f1, f2, f3, f4⟩ := pm_new_ok h1
    obtain ⟨hlen, ty, hty, hdf⟩ := pm_cl_df _ _ f1
    dsimp only at hrc hrs hlen hty hdf
    rw [List.length_append, List.length_singleton] at hrc
    rw [pm_sl_app] at hrs
    simp only [pm_es, hlen] at hrs
    have hmap : pm_e cy bs sb (.inr (ci, pm_df ci)) = .inr (ci, pm_df ci) := by
      have : ∀ (ci : Nat) (q : vw_C), vwCl[ci]? = some q → (pm_df ci).map (pm_v bs sb) = pm_df ci := pm_cl6 rfl rfl rfl rfl rfl rfl
      simp only [pm_e, this _ _ f1]
    refine va_new (C := C) (T := T) (N := N) (ci := ci) (fs := pm_df ci) hx hb hts (pm_cl_in _ _ f1) ty hty hown (by rw [hcn]; exact hts _ f2) (hts _ f3) (hts _ f4) hK.1 hH.2.1 hD0 hH.2.2 hA f1 hdf (by omega) (by omega) hd fun q H1 hP1 hD1 hS1 => ?_
    refine pm_size fun hz => ?_
    rw [← hmap] at hP1 hD1
    obtain ⟨rfl, hH1⟩ := pm_H_new (sb := sb) (x := .inr (ci, pm_df ci)) (by omega) hP1 hD1 hS1
    exact hk _ _ _ _ _ hLn hL hH1 (by simp only [List.length_append, List.length_singleton]; omega) (by simp only [pm_sl_app, pm_es, hlen]; omega)
  | invokevirtual j =>
    dsimp only [pm_ins] at hs
    obtain ⟨q, h1, q1⟩ := pm_sm_inv hs
    clear hs
    obtain ⟨h2, q2⟩ := pm_if_inv q1
    clear q1
    obtain ⟨as, st', -, rfl, q3⟩ := pm_cut_inv q2
    clear q2
    obtain ⟨a, st', rfl, q4⟩ := pm_r1_inv q3
    clear q3
    obtain ⟨c0, fs, h4, q5⟩ := pm_ob_inv q4
    obtain ⟨h3, q6⟩ := pm_if_inv q5
    cases (pm_inv_inv q6).2
  | invokestatic j =>
    dsimp only [pm_ins] at hs
    by_cases harc : pm_arc (pm_own mi) j = true
    · rw [if_pos harc] at hs
      obtain ⟨dp, n, st', rfl, hq⟩ := pm_i2_inv hs
      clear hs
      obtain ⟨a, st', rfl, hs⟩ := pm_r1_inv hq
      clear hq
      obtain ⟨sp, st', rfl, hq⟩ := pm_i1_inv hs
      clear hs
      obtain ⟨a0, st', rfl, hs⟩ := pm_r1_inv hq
      clear hq
      obtain ⟨n0, f, h1, hs⟩ := pm_ai_inv hs
      obtain ⟨n1, f1, h2, hs⟩ := pm_ai_inv hs
      obtain ⟨h3, hs⟩ := pm_if_inv hs
      have := pm_nx_inv hs; cases this
      cases (beq_iff_eq.mp hln : ln = 3)
      simp only [Bool.and_eq_true, Bool.not_eq_true', decide_eq_false_iff_not, decide_eq_true_eq] at h3
      obtain ⟨a1, a2, a3, a4, a5, a6⟩ := h3
      have h7 : nativeFrameWords "java/lang/System" "arraycopy" 5 = 7 := by decide +kernel
      have h8 := pm_w8_of (bs := bs) (sb := sb) a6
      refine va_copyi hx hb hls hown (by rw [hcn]; exact hts _ (pm_arc_ok harc)) (hts _ pm_wN) (hts _ pm_wS) (hts _ pm_wY) hK.1 hH.2.1 hD0 hH.2.2 a0 a 0 0 (pm_W_get h1) (pm_W_get h2) rfl rfl rfl a1 a2 a3 a4 a5 (fun _ _ => rfl) hR.1 (by rw [h7]; omega) hd fun H1 locs1 hP1 _ hS1 => ?_
      refine pm_size fun hz => ?_
      refine hk _ _ _ _ _ hLn hL (pm_H_of h2 rfl (by rw [List.length_set]; omega) hP1 hS1) (by simp only [List.length_set]; exact hcl) ?_
      show slots + S0 = pm_sl (h.set a _)
      rw [pm_sl_set h a _ _ h2 (by simp [pm_es])]
      exact hsl
    · rw [if_neg harc] at hs
      obtain ⟨⟨k, n, kind, nest⟩, h1, hs⟩ := pm_sm_inv hs
      obtain ⟨h2, hs⟩ := pm_if_inv hs
      dsimp only at h2 hs
      have h2 := beq_iff_eq.mp h2
      subst h2
      by_cases hM : pm_isM k = true
      · rw [if_pos hM] at hs
        obtain ⟨h3, hs⟩ := pm_if_inv hs
        obtain ⟨k1, -, k3, k4, -, k6, -, -⟩ := pm_cal_ok h1
        have hlink : (Cond.methodLink (pm_y mi).cls j (pm_y k)).before args s = true := by rw [hcn]; exact hts _ (k4 (by simpa using h3))
        have hstat : (Cond.static (pm_y k)).before args s = true := hts _ (k6 rfl)
        have hcode := hts _ (pm_code_in k k1)
        have hini := hts _ k3
        by_cases epm_MX : k = pm_MX
        · subst epm_MX
          rw [pm_mth] at hs
          repeat rw [if_neg (by decide)] at hs
          rw [if_pos rfl] at hs
          obtain ⟨x, y, st', rfl, hq⟩ := pm_i2_inv hs
          clear hs
          obtain ⟨h8, hs⟩ := pm_if_inv hq
          have := pm_nx_inv hs; cases this
          cases (beq_iff_eq.mp hln : ln = 3)
          have h9 := pm_w8_of (bs := bs) (sb := sb) h8
          dsimp only at hrc hrs
          exact va_mmax hx hb hls hown hlink hstat hini hcode hR.1 (by omega) (by omega) (by omega) hd (hk _ _ _ _ _ hLn hL hH hcl hsl)
        by_cases epm_MN : k = pm_MN
        · subst epm_MN
          rw [pm_mth] at hs
          repeat rw [if_neg (by decide)] at hs
          rw [if_pos rfl] at hs
          obtain ⟨x, y, st', rfl, hq⟩ := pm_i2_inv hs
          clear hs
          obtain ⟨h8, hs⟩ := pm_if_inv hq
          have := pm_nx_inv hs; cases this
          cases (beq_iff_eq.mp hln : ln = 3)
          have h9 := pm_w8_of (bs := bs) (sb := sb) h8
          dsimp only at hrc hrs
          exact va_mmin hx hb hls hown hlink hstat hini hcode hR.1 (by omega) (by omega) (by omega) hd (hk _ _ _ _ _ hLn hL hH hcl hsl)
        by_cases epm_AB : k = pm_AB
        · subst epm_AB
          rw [pm_mth] at hs
          repeat rw [if_neg (by decide)] at hs
          rw [if_pos rfl] at hs
          obtain ⟨x, st', rfl, hq⟩ := pm_l1_inv hs
          clear hs
          obtain ⟨h8, hs⟩ := pm_if_inv hq
          have := pm_nx_inv hs; cases this
          cases (beq_iff_eq.mp hln : ln = 3)
          have h9 := pm_w8_of (bs := bs) (sb := sb) h8
          dsimp only at hrc hrs
          exact va_mabs_long hx hb hls hown hlink hstat hini hcode hR.1 (by omega) (by omega) (by omega) hd (hk _ _ _ _ _ hLn hL hH hcl hsl)
        by_cases epm_XL : k = pm_XL
        · subst epm_XL
          rw [pm_mth] at hs
          repeat rw [if_neg (by decide)] at hs
          rw [if_pos rfl] at hs
          obtain ⟨x, y, st', rfl, hq⟩ := pm_l2_inv hs
          clear hs
          obtain ⟨h8, hs⟩ := pm_if_inv hq
          have := pm_nx_inv hs; cases this
          cases (beq_iff_eq.mp hln : ln = 3)
          have h9 := pm_w8_of (bs := bs) (sb := sb) h8
          dsimp only at hrc hrs
          exact va_mmax_long hx hb hls hown hlink hstat hini hcode hR.1 (by omega) (by omega) (by omega) hd (hk _ _ _ _ _ hLn hL hH hcl hsl)
        by_cases epm_NL : k = pm_NL
        · subst epm_NL
          rw [pm_mth] at hs
          repeat rw [if_neg (by decide)] at hs
          rw [if_pos rfl] at hs
          obtain ⟨x, y, st', rfl, hq⟩ := pm_l2_inv hs
          clear hs
          obtain ⟨h8, hs⟩ := pm_if_inv hq
          have := pm_nx_inv hs; cases this
          cases (beq_iff_eq.mp hln : ln = 3)
          have h9 := pm_w8_of (bs := bs) (sb := sb) h8
          dsimp only at hrc hrs
          exact va_mmin_long hx hb hls hown hlink hstat hini hcode hR.1 (by omega) (by omega) (by omega) hd (hk _ _ _ _ _ hLn hL hH hcl hsl)
        · exfalso
          rw [pm_mth, if_neg epm_MX, if_neg epm_MN, if_neg epm_AB, if_neg epm_XL, if_neg epm_NL] at hs
          cases hs
      · rw [if_neg hM] at hs
        obtain ⟨as, st', -, rfl, hq⟩ := pm_cut_inv hs
        clear hs
        cases (pm_inv_inv hq).2
  | invokespecial j =>
    dsimp only [pm_ins] at hs
    by_cases hob : pm_obj (pm_own mi) j = true
    · rw [if_pos hob] at hs
      obtain ⟨a, st', rfl, hq⟩ := pm_r1_inv hs
      clear hs
      obtain ⟨h8, hs⟩ := pm_if_inv hq
      have := pm_nx_inv hs; cases this
      cases (beq_iff_eq.mp hln : ln = 3)
      have h9 := pm_w8_of (bs := bs) (sb := sb) h8
      exact W.objInit hx hb hown (by rw [hcn]; exact hts _ (pm_obj_ok hob)) (hts _ pm_wO) (hts _ pm_wC) rfl hls.symm rfl hd hR.1 (by show 2 * 0 + _ + 12 ≤ _; omega) (W.eq (g2 := F0 m (pc + 3) ls (st'.map (pm_v bs sb))) rfl (hk _ _ _ _ _ hLn hL hH hcl hsl))
    · rw [if_neg hob] at hs
      obtain ⟨⟨k, n, kind, nest⟩, h1, q1⟩ := pm_sm_inv hs
      clear hs
      obtain ⟨h2, q2⟩ := pm_if_inv q1
      clear q1
      obtain ⟨as, st', -, rfl, q3⟩ := pm_cut_inv q2
      clear q2
      obtain ⟨a, st', rfl, q4⟩ := pm_r1_inv q3
      cases (pm_inv_inv q4).2
  | _ => exact absurd (show true = false from hez) (by decide)
end PMH
