/-! one instruction of the pure machine is one of the real machine's -/
section PMI
variable {p : Program} {l : Launch} {e : Env} {R : Room} {s : State} {m : MethodId} {args : Array Value} {below : List Frame} {meth : Method} {c : Code} {Q : State → Prop} {D : va_G} {cy : Nat → ClassId} {bs sb : Nat} {KX : State → Prop} {mi S0 : Nat} {X : pm_X}
theorem pm_size {H : Heap} {locs : List Loc} {cells slots : Nat} {g : JFrame} (k : H.size ≤ s.heap.size + cells → W p l e R s m args below meth c H locs cells slots Q g) : W p l e R s m args below meth c H locs cells slots Q g :=
  fun T hT Y => k (by rw [← hT]; exact Y.same.2.2.1) T hT Y
def pm_Wf (p : Program) (l : Launch) (e : Env) (R : Room) (s : State) (m : MethodId) (args : Array Value) (below : List Frame) (meth : Method) (c : Code) (Q : State → Prop) (D : va_G) (cy : Nat → ClassId) (bs sb mi S0 : Nat) (f : pm_F4) : Prop :=
  ∀ (ls : Array Slot) (H : Heap) (locs : List Loc) (cells slots : Nat), f.2.1.length = pm_l mi → pm_L bs sb f.2.1 ls → pm_H D cy bs sb f.2.2.2 s.heap H locs → s.heap.size + cells = bs + f.2.2.2.length → slots + S0 = pm_sl f.2.2.2 →
    W p l e R s m args below meth c H locs cells slots Q (F0 m f.1 ls (f.2.2.1.map (pm_v bs sb)))
theorem pm_H_of {h h' : List va_E} {H1 : Heap} {H0 : Heap} {locs1 : List Loc} {a : Nat} {e0 e' : va_E} (he : h[a]? = some e0) (hh : h' = h.set a e') (hz : H1.size ≤ bs + h'.length) (hP : va_P D vwCl ((pm_W cy bs sb h).set a (bs + a, pm_e cy bs sb e')) H1) (hS : va_S (fun q => bs ≤ q) H0 H1 locs1) : pm_H D cy bs sb h' H0 H1 locs1 := by
  subst hh
  rw [← pm_W_set] at hP
  refine ⟨?_, hP, hS⟩
  have hl : a < h.length := (List.getElem?_eq_some_iff.mp he).1
  rw [List.length_set] at hz ⊢
  have h1 : ((h.set a e')[h.length - 1]?).isSome := by
    rw [List.getElem?_eq_getElem (by rw [List.length_set]; omega)]; rfl
  obtain ⟨x, hx⟩ := Option.isSome_iff_exists.mp h1
  have := (hP _ _ (pm_W_get hx)).lt
  have h2 : bs + (h.length - 1) < H1.size := this
  omega
theorem pm_H_new {h : List va_E} {H1 H0 : Heap} {locs1 : List Loc} {q : Nat} {x : va_E} (hz : H1.size ≤ bs + h.length + 1) (hP : va_P D vwCl (pm_W cy bs sb h ++ [(q, pm_e cy bs sb x)]) H1) (hD : va_D (fun q => bs ≤ q) (pm_W cy bs sb h ++ [(q, pm_e cy bs sb x)])) (hS : va_S (fun q => bs ≤ q) H0 H1 locs1) : q = bs + h.length ∧ pm_H D cy bs sb (h ++ [x]) H0 H1 locs1 := by
  have hlast : (pm_W cy bs sb h ++ [(q, pm_e cy bs sb x)])[h.length]? = some (q, pm_e cy bs sb x) := by
    rw [List.getElem?_append_right (Nat.le_of_eq pm_W_len), pm_W_len, Nat.sub_self]
    rfl
  have h1 : q < H1.size := (hP _ _ hlast).lt
  have h2 : bs ≤ q := hD.2 _ _ hlast
  have h3 : q = bs + h.length := by
    by_cases hq : q < bs + h.length
    · exfalso
      have hl : q - bs < h.length := by omega
      have hg := pm_W_get (cy := cy) (bs := bs) (sb := sb) (List.getElem?_eq_getElem hl)
      have hg' : (pm_W cy bs sb h ++ [(q, pm_e cy bs sb x)])[q - bs]? = some (bs + (q - bs), pm_e cy bs sb h[q - bs]) := by
        rw [List.getElem?_append_left (by rw [pm_W_len]; exact hl)]
        exact hg
      have := hD.1 _ _ _ _ hg' hlast (by show bs + (q - bs) = q; omega)
      omega
    · omega
  refine ⟨h3, ?_, ?_, hS⟩
  · rw [List.length_append, List.length_singleton]; omega
  · rw [pm_W_app, ← h3]; exact hP
theorem pm_ok_in {i : Int32} {n : Nat} (h : pm_ok i n = true) : vp_in i n := by
  show ¬ (i < 0 ∨ n ≤ i.toNatClampNeg)
  exact of_decide_eq_true h
theorem pm_br {b : Bool} {pr : Prop} {A B : pm_O} {r} (hb : b = true ↔ pr) (h : (if b = true then A else B) = some r) : (pr → A = some r) ∧ (¬ pr → B = some r) := by
  refine ⟨fun q => ?_, fun q => ?_⟩
  · rw [if_pos (hb.mpr q)] at h; exact h
  · rw [if_neg (fun z => q (hb.mp z))] at h; exact h
/-- instructions that leave the heap as it is, calls aside -/
def pm_easy (i : Instr) : Bool := match i with
  | .putfield _ | .iastore | .lastore | .aastore | .newarray _ | .anewarray _ | .new _ | .invokevirtual _ | .invokestatic _ | .invokespecial _ => false
  | _ => true
set_option maxHeartbeats 4000000 in
/-- instructions that leave the heap as it is, calls aside -/
theorem pm_ins_pure (Fx : pm_Fx p s m args meth c D cy KX mi) (hmi : mi < 229) (hbs : bs ≤ s.heap.size) (hsb : sb < bs) (hX : va_X sb X.1 X.2 s s.heap) {i : Instr} {ln pc : Nat} {L : List (Option Value)} {st : List Value} {h : List va_E} {g : pm_F4}
    (hd : decode (pm_b mi) pc = .ok (i, ln)) (hln : pm_ln i ln = true) (hs : pm_ins X mi i pc L st h = some (.inl g)) (hk : pm_Wf p l e R s m args below meth c Q D cy bs sb mi S0 g)
    (hez : pm_easy i = true) : pm_Wf p l e R s m args below meth c Q D cy bs sb mi S0 (pc, L, st, h) := by
  obtain ⟨hx, hb, hml, hown, hts, hnm, hK⟩ := Fx
  intro ls H locs cells slots hLn hL hH hcl hsl
  dsimp only at hLn hL hH hcl hsl ⊢
  have hbA : ¬ (fun q : Nat => bs ≤ q) sb := by show ¬ bs ≤ sb; omega
  have hcn : (pm_y mi).cls = pm_cn (pm_own mi) := (pm_own_ok mi hmi).1
  cases i with
  | iconst n =>
    dsimp only [pm_ins] at hs
    have := pm_nx_inv hs; cases this
    cases (beq_iff_eq.mp hln : ln = 1)
    exact lv_iconst hx hb hd rfl (hk _ _ _ _ _ hLn hL hH hcl hsl)
  | lconst n =>
    dsimp only [pm_ins] at hs
    have := pm_nx_inv hs; cases this
    cases (beq_iff_eq.mp hln : ln = 1)
    exact lv_lconst hx hb hd rfl (hk _ _ _ _ _ hLn hL hH hcl hsl)
  | bipush n =>
    dsimp only [pm_ins] at hs
    have := pm_nx_inv hs; cases this
    cases (beq_iff_eq.mp hln : ln = 2)
    exact lv_bipush hx hb hd rfl (hk _ _ _ _ _ hLn hL hH hcl hsl)
  | sipush n =>
    dsimp only [pm_ins] at hs
    have := pm_nx_inv hs; cases this
    cases (beq_iff_eq.mp hln : ln = 3)
    exact lv_sipush hx hb hd rfl (hk _ _ _ _ _ hLn hL hH hcl hsl)
  | ldc_w j =>
    dsimp only [pm_ins] at hs
    obtain ⟨v, h1, hs⟩ := pm_sm_inv hs
    have := pm_nx_inv hs; cases this
    cases (beq_iff_eq.mp hln : ln = 3)
    exact lv_ldcw hx hb hown (by rw [hcn]; exact hts _ (pm_ki_ok h1)) hd (hk _ _ _ _ _ hLn hL hH hcl hsl)
  | ldc2_w j =>
    dsimp only [pm_ins] at hs
    obtain ⟨v, h1, hs⟩ := pm_sm_inv hs
    have := pm_nx_inv hs; cases this
    cases (beq_iff_eq.mp hln : ln = 3)
    exact lv_ldc2 hx hb hown (by rw [hcn]; exact hts _ (pm_kl_ok h1)) hd (hk _ _ _ _ _ hLn hL hH hcl hsl)
  | iload_n k =>
    dsimp only [pm_ins] at hs
    obtain ⟨x, h1, hs⟩ := pm_gi_inv hs
    have := pm_nx_inv hs; cases this
    cases (beq_iff_eq.mp hln : ln = 1)
    exact lv_iload_n hx hb hd rfl (pm_L_at hL h1) (hk _ _ _ _ _ hLn hL hH hcl hsl)
  | iload k =>
    dsimp only [pm_ins] at hs
    obtain ⟨x, h1, hs⟩ := pm_gi_inv hs
    have := pm_nx_inv hs; cases this
    cases (beq_iff_eq.mp hln : ln = 2)
    exact lv_iload hx hb hd (pm_L_at hL h1) (hk _ _ _ _ _ hLn hL hH hcl hsl)
  | lload_n k =>
    dsimp only [pm_ins] at hs
    obtain ⟨x, h1, hs⟩ := pm_gl_inv hs
    have := pm_nx_inv hs; cases this
    cases (beq_iff_eq.mp hln : ln = 1)
    exact lv_lload_n hx hb hd rfl (pm_L_at hL h1) (hk _ _ _ _ _ hLn hL hH hcl hsl)
  | lload k =>
    dsimp only [pm_ins] at hs
    obtain ⟨x, h1, hs⟩ := pm_gl_inv hs
    have := pm_nx_inv hs; cases this
    cases (beq_iff_eq.mp hln : ln = 2)
    exact lv_lload hx hb hd (pm_L_at hL h1) (hk _ _ _ _ _ hLn hL hH hcl hsl)
  | aload_n k =>
    dsimp only [pm_ins] at hs
    obtain ⟨v, a, h1, hv, hs⟩ := pm_ga_inv bs sb hs
    have := pm_nx_inv hs; cases this
    cases (beq_iff_eq.mp hln : ln = 1)
    have h2 := pm_L_at hL h1
    rw [hv] at h2
    have h3 := hk _ _ _ _ _ hLn hL hH hcl hsl
    simp only [List.map_cons, hv] at h3
    exact lv_aload_n hx hb hd rfl h2 h3
  | aload k =>
    dsimp only [pm_ins] at hs
    obtain ⟨v, a, h1, hv, hs⟩ := pm_ga_inv bs sb hs
    have := pm_nx_inv hs; cases this
    cases (beq_iff_eq.mp hln : ln = 2)
    have h2 := pm_L_at hL h1
    rw [hv] at h2
    have h3 := hk _ _ _ _ _ hLn hL hH hcl hsl
    simp only [List.map_cons, hv] at h3
    exact lv_aload hx hb hd h2 h3
  | istore_n k =>
    dsimp only [pm_ins] at hs
    obtain ⟨x, st', rfl, hq⟩ := pm_i1_inv hs
    clear hs; have hs := hq; clear hq
    obtain ⟨h1, h2, hs⟩ := pm_s1_inv hs
    have := pm_nx_inv hs; cases this
    cases (beq_iff_eq.mp hln : ln = 1)
    exact lv_istore_n hx hb hd rfl hL h1 rfl (fun ls' hl' => hk _ _ _ _ _ (by simpa using hLn) (pm_L_set1 h2 hl') hH hcl hsl)
  | istore k =>
    dsimp only [pm_ins] at hs
    obtain ⟨x, st', rfl, hq⟩ := pm_i1_inv hs
    clear hs; have hs := hq; clear hq
    obtain ⟨h1, h2, hs⟩ := pm_s1_inv hs
    have := pm_nx_inv hs; cases this
    cases (beq_iff_eq.mp hln : ln = 2)
    exact lv_istore hx hb hd hL h1 rfl (fun ls' hl' => hk _ _ _ _ _ (by simpa using hLn) (pm_L_set1 h2 hl') hH hcl hsl)
  | lstore_n k =>
    dsimp only [pm_ins] at hs
    obtain ⟨x, st', rfl, hq⟩ := pm_l1_inv hs
    clear hs; have hs := hq; clear hq
    obtain ⟨h1, h2, hs⟩ := pm_s2_inv hs
    have := pm_nx_inv hs; cases this
    cases (beq_iff_eq.mp hln : ln = 1)
    exact lv_lstore_n hx hb hd rfl hL h1 rfl (fun ls' hl' => hk _ _ _ _ _ (by simpa using hLn) (pm_L_set2 h2 hl') hH hcl hsl)
  | lstore k =>
    dsimp only [pm_ins] at hs
    obtain ⟨x, st', rfl, hq⟩ := pm_l1_inv hs
    clear hs; have hs := hq; clear hq
    obtain ⟨h1, h2, hs⟩ := pm_s2_inv hs
    have := pm_nx_inv hs; cases this
    cases (beq_iff_eq.mp hln : ln = 2)
    exact lv_lstore hx hb hd hL h1 rfl (fun ls' hl' => hk _ _ _ _ _ (by simpa using hLn) (pm_L_set2 h2 hl') hH hcl hsl)
  | astore_n k =>
    dsimp only [pm_ins] at hs
    obtain ⟨x, st', rfl, hq⟩ := pm_r1_inv hs
    clear hs; have hs := hq; clear hq
    obtain ⟨h1, h2, hs⟩ := pm_s1_inv hs
    have := pm_nx_inv hs; cases this
    cases (beq_iff_eq.mp hln : ln = 1)
    exact lv_astore_n hx hb hd rfl hL h1 rfl (fun ls' hl' => hk _ _ _ _ _ (by simpa using hLn) (pm_L_set1 (v := .ref x) h2 hl') hH hcl hsl)
  | iinc k n =>
    dsimp only [pm_ins] at hs
    obtain ⟨x, h0, hs⟩ := pm_gi_inv hs
    obtain ⟨h1, h2, hs⟩ := pm_s1_inv hs
    have := pm_nx_inv hs; cases this
    cases (beq_iff_eq.mp hln : ln = 3)
    obtain ⟨j, hj⟩ := List.getElem?_of_mem ((pm_ll_mem (bs := bs) (sb := sb) L 0 k (.int x)).mpr ⟨.int x, Nat.zero_le _, by simpa using h0, rfl⟩)
    exact lv_iinc hx hb hd hL hj rfl h1 rfl (fun ls' hl' => hk _ _ _ _ _ (by simpa using hLn) (pm_L_set1 (v := .int (x + Int32.ofInt n)) h2 hl') hH hcl hsl)
  | iadd =>
    dsimp only [pm_ins] at hs
    obtain ⟨x, y, st', rfl, hq⟩ := pm_i2_inv hs
    clear hs; have hs := hq; clear hq
    have := pm_nx_inv hs; cases this
    cases (beq_iff_eq.mp hln : ln = 1)
    exact lv_iadd hx hb hd (hk _ _ _ _ _ hLn hL hH hcl hsl)
  | isub =>
    dsimp only [pm_ins] at hs
    obtain ⟨x, y, st', rfl, hq⟩ := pm_i2_inv hs
    clear hs; have hs := hq; clear hq
    have := pm_nx_inv hs; cases this
    cases (beq_iff_eq.mp hln : ln = 1)
    exact lv_isub hx hb hd (hk _ _ _ _ _ hLn hL hH hcl hsl)
  | imul =>
    dsimp only [pm_ins] at hs
    obtain ⟨x, y, st', rfl, hq⟩ := pm_i2_inv hs
    clear hs; have hs := hq; clear hq
    have := pm_nx_inv hs; cases this
    cases (beq_iff_eq.mp hln : ln = 1)
    exact lv_imul hx hb hd (hk _ _ _ _ _ hLn hL hH hcl hsl)
  | iand =>
    dsimp only [pm_ins] at hs
    obtain ⟨x, y, st', rfl, hq⟩ := pm_i2_inv hs
    clear hs; have hs := hq; clear hq
    have := pm_nx_inv hs; cases this
    cases (beq_iff_eq.mp hln : ln = 1)
    exact lv_iand hx hb hd (hk _ _ _ _ _ hLn hL hH hcl hsl)
  | ior =>
    dsimp only [pm_ins] at hs
    obtain ⟨x, y, st', rfl, hq⟩ := pm_i2_inv hs
    clear hs; have hs := hq; clear hq
    have := pm_nx_inv hs; cases this
    cases (beq_iff_eq.mp hln : ln = 1)
    exact lv_ior hx hb hd (hk _ _ _ _ _ hLn hL hH hcl hsl)
  | ixor =>
    dsimp only [pm_ins] at hs
    obtain ⟨x, y, st', rfl, hq⟩ := pm_i2_inv hs
    clear hs; have hs := hq; clear hq
    have := pm_nx_inv hs; cases this
    cases (beq_iff_eq.mp hln : ln = 1)
    exact lv_ixor hx hb hd (hk _ _ _ _ _ hLn hL hH hcl hsl)
  | ishl =>
    dsimp only [pm_ins] at hs
    obtain ⟨x, y, st', rfl, hq⟩ := pm_i2_inv hs
    clear hs; have hs := hq; clear hq
    have := pm_nx_inv hs; cases this
    cases (beq_iff_eq.mp hln : ln = 1)
    exact lv_ishl hx hb hd (hk _ _ _ _ _ hLn hL hH hcl hsl)
  | ishr =>
    dsimp only [pm_ins] at hs
    obtain ⟨x, y, st', rfl, hq⟩ := pm_i2_inv hs
    clear hs; have hs := hq; clear hq
    have := pm_nx_inv hs; cases this
    cases (beq_iff_eq.mp hln : ln = 1)
    exact lv_ishr hx hb hd (hk _ _ _ _ _ hLn hL hH hcl hsl)
  | iushr =>
    dsimp only [pm_ins] at hs
    obtain ⟨x, y, st', rfl, hq⟩ := pm_i2_inv hs
    clear hs; have hs := hq; clear hq
    have := pm_nx_inv hs; cases this
    cases (beq_iff_eq.mp hln : ln = 1)
    exact lv_iushr hx hb hd rfl (hk _ _ _ _ _ hLn hL hH hcl hsl)
  | ladd =>
    dsimp only [pm_ins] at hs
    obtain ⟨x, y, st', rfl, hq⟩ := pm_l2_inv hs
    clear hs; have hs := hq; clear hq
    have := pm_nx_inv hs; cases this
    cases (beq_iff_eq.mp hln : ln = 1)
    exact lv_ladd hx hb hd (hk _ _ _ _ _ hLn hL hH hcl hsl)
  | lsub =>
    dsimp only [pm_ins] at hs
    obtain ⟨x, y, st', rfl, hq⟩ := pm_l2_inv hs
    clear hs; have hs := hq; clear hq
    have := pm_nx_inv hs; cases this
    cases (beq_iff_eq.mp hln : ln = 1)
    exact lv_lsub hx hb hd (hk _ _ _ _ _ hLn hL hH hcl hsl)
  | lmul =>
    dsimp only [pm_ins] at hs
    obtain ⟨x, y, st', rfl, hq⟩ := pm_l2_inv hs
    clear hs; have hs := hq; clear hq
    have := pm_nx_inv hs; cases this
    cases (beq_iff_eq.mp hln : ln = 1)
    exact lv_lmul hx hb hd (hk _ _ _ _ _ hLn hL hH hcl hsl)
  | lcmp =>
    dsimp only [pm_ins] at hs
    obtain ⟨x, y, st', rfl, hq⟩ := pm_l2_inv hs
    clear hs; have hs := hq; clear hq
    have := pm_nx_inv hs; cases this
    cases (beq_iff_eq.mp hln : ln = 1)
    exact W.lcmp hx hb hd (hk _ _ _ _ _ hLn hL hH hcl hsl)
  | idiv =>
    dsimp only [pm_ins] at hs
    obtain ⟨x, y, st', rfl, hq⟩ := pm_i2_inv hs
    clear hs; have hs := hq; clear hq
    obtain ⟨h0, hs⟩ := pm_if_inv hs
    have := pm_nx_inv hs; cases this
    cases (beq_iff_eq.mp hln : ln = 1)
    exact lv_idiv hx hb hd (by simpa using h0) (hk _ _ _ _ _ hLn hL hH hcl hsl)
  | irem =>
    dsimp only [pm_ins] at hs
    obtain ⟨x, y, st', rfl, hq⟩ := pm_i2_inv hs
    clear hs; have hs := hq; clear hq
    obtain ⟨h0, hs⟩ := pm_if_inv hs
    have := pm_nx_inv hs; cases this
    cases (beq_iff_eq.mp hln : ln = 1)
    exact lv_irem hx hb hd (by simpa using h0) (hk _ _ _ _ _ hLn hL hH hcl hsl)
  | ldiv =>
    dsimp only [pm_ins] at hs
    obtain ⟨x, y, st', rfl, hq⟩ := pm_l2_inv hs
    clear hs; have hs := hq; clear hq
    obtain ⟨h0, hs⟩ := pm_if_inv hs
    have := pm_nx_inv hs; cases this
    cases (beq_iff_eq.mp hln : ln = 1)
    exact lv_ldiv hx hb hd (by simpa using h0) (hk _ _ _ _ _ hLn hL hH hcl hsl)
  | lrem =>
    dsimp only [pm_ins] at hs
    obtain ⟨x, y, st', rfl, hq⟩ := pm_l2_inv hs
    clear hs; have hs := hq; clear hq
    obtain ⟨h0, hs⟩ := pm_if_inv hs
    have := pm_nx_inv hs; cases this
    cases (beq_iff_eq.mp hln : ln = 1)
    exact lv_lrem hx hb hd (by simpa using h0) (hk _ _ _ _ _ hLn hL hH hcl hsl)
  | ineg =>
    dsimp only [pm_ins] at hs
    obtain ⟨x, st', rfl, hq⟩ := pm_i1_inv hs
    clear hs; have hs := hq; clear hq
    have := pm_nx_inv hs; cases this
    cases (beq_iff_eq.mp hln : ln = 1)
    exact lv_ineg hx hb hd (hk _ _ _ _ _ hLn hL hH hcl hsl)
  | lneg =>
    dsimp only [pm_ins] at hs
    obtain ⟨x, st', rfl, hq⟩ := pm_l1_inv hs
    clear hs; have hs := hq; clear hq
    have := pm_nx_inv hs; cases this
    cases (beq_iff_eq.mp hln : ln = 1)
    exact lv_lneg hx hb hd (hk _ _ _ _ _ hLn hL hH hcl hsl)
  | i2l =>
    dsimp only [pm_ins] at hs
    obtain ⟨x, st', rfl, hq⟩ := pm_i1_inv hs
    clear hs; have hs := hq; clear hq
    have := pm_nx_inv hs; cases this
    cases (beq_iff_eq.mp hln : ln = 1)
    exact lv_i2l hx hb hd rfl (hk _ _ _ _ _ hLn hL hH hcl hsl)
  | ifCond cd off =>
    dsimp only [pm_ins] at hs
    obtain ⟨x, st', rfl, hq⟩ := pm_i1_inv hs
    clear hs; have hs := hq; clear hq
    obtain ⟨t, ht, hs⟩ := pm_to_inv hs
    cases (beq_iff_eq.mp hln : ln = 3)
    cases cd with
    | eq =>
      obtain ⟨b1, b2⟩ := pm_br decide_eq_true_iff hs
      exact lv_if_eq hx hb hd ht (fun q => by have := pm_nx_inv (b1 q); cases this; exact hk _ _ _ _ _ hLn hL hH hcl hsl) (fun q => by have := pm_nx_inv (b2 q); cases this; exact hk _ _ _ _ _ hLn hL hH hcl hsl)
    | ne =>
      obtain ⟨b1, b2⟩ := pm_br decide_eq_true_iff hs
      exact lv_if_ne hx hb hd ht (fun q => by have := pm_nx_inv (b1 q); cases this; exact hk _ _ _ _ _ hLn hL hH hcl hsl) (fun q => by have := pm_nx_inv (b2 (fun z => z q)); cases this; exact hk _ _ _ _ _ hLn hL hH hcl hsl)
    | lt =>
      obtain ⟨b1, b2⟩ := pm_br decide_eq_true_iff hs
      exact lv_if_lt hx hb hd ht (fun q => by have := pm_nx_inv (b1 q); cases this; exact hk _ _ _ _ _ hLn hL hH hcl hsl) (fun q => by have := pm_nx_inv (b2 q); cases this; exact hk _ _ _ _ _ hLn hL hH hcl hsl)
    | ge =>
      obtain ⟨b1, b2⟩ := pm_br decide_eq_true_iff hs
      exact lv_if_ge hx hb hd ht (fun q => by have := pm_nx_inv (b1 q); cases this; exact hk _ _ _ _ _ hLn hL hH hcl hsl) (fun q => by have := pm_nx_inv (b2 q); cases this; exact hk _ _ _ _ _ hLn hL hH hcl hsl)
    | gt =>
      obtain ⟨b1, b2⟩ := pm_br decide_eq_true_iff hs
      exact lv_if_gt hx hb hd ht (fun q => by have := pm_nx_inv (b1 q); cases this; exact hk _ _ _ _ _ hLn hL hH hcl hsl) (fun q => by have := pm_nx_inv (b2 q); cases this; exact hk _ _ _ _ _ hLn hL hH hcl hsl)
    | le =>
      obtain ⟨b1, b2⟩ := pm_br decide_eq_true_iff hs
      exact lv_if_le hx hb hd ht (fun q => by have := pm_nx_inv (b1 q); cases this; exact hk _ _ _ _ _ hLn hL hH hcl hsl) (fun q => by have := pm_nx_inv (b2 q); cases this; exact hk _ _ _ _ _ hLn hL hH hcl hsl)
  | if_icmp cd off =>
    dsimp only [pm_ins] at hs
    obtain ⟨x, y, st', rfl, hq⟩ := pm_i2_inv hs
    clear hs; have hs := hq; clear hq
    obtain ⟨t, ht, hs⟩ := pm_to_inv hs
    cases (beq_iff_eq.mp hln : ln = 3)
    cases cd with
    | eq =>
      obtain ⟨b1, b2⟩ := pm_br decide_eq_true_iff hs
      exact lv_icmp_eq hx hb hd ht (fun q => by have := pm_nx_inv (b1 q); cases this; exact hk _ _ _ _ _ hLn hL hH hcl hsl) (fun q => by have := pm_nx_inv (b2 q); cases this; exact hk _ _ _ _ _ hLn hL hH hcl hsl)
    | ne =>
      obtain ⟨b1, b2⟩ := pm_br decide_eq_true_iff hs
      exact lv_icmp_ne hx hb hd ht (fun q => by have := pm_nx_inv (b1 q); cases this; exact hk _ _ _ _ _ hLn hL hH hcl hsl) (fun q => by have := pm_nx_inv (b2 (fun z => z q)); cases this; exact hk _ _ _ _ _ hLn hL hH hcl hsl)
    | lt =>
      obtain ⟨b1, b2⟩ := pm_br decide_eq_true_iff hs
      exact lv_icmp_lt hx hb hd ht (fun q => by have := pm_nx_inv (b1 q); cases this; exact hk _ _ _ _ _ hLn hL hH hcl hsl) (fun q => by have := pm_nx_inv (b2 q); cases this; exact hk _ _ _ _ _ hLn hL hH hcl hsl)
    | ge =>
      obtain ⟨b1, b2⟩ := pm_br decide_eq_true_iff hs
      exact lv_icmp_ge hx hb hd ht (fun q => by have := pm_nx_inv (b1 q); cases this; exact hk _ _ _ _ _ hLn hL hH hcl hsl) (fun q => by have := pm_nx_inv (b2 q); cases this; exact hk _ _ _ _ _ hLn hL hH hcl hsl)
    | gt =>
      obtain ⟨b1, b2⟩ := pm_br decide_eq_true_iff hs
      exact lv_icmp_gt hx hb hd ht (fun q => by have := pm_nx_inv (b1 q); cases this; exact hk _ _ _ _ _ hLn hL hH hcl hsl) (fun q => by have := pm_nx_inv (b2 q); cases this; exact hk _ _ _ _ _ hLn hL hH hcl hsl)
    | le =>
      obtain ⟨b1, b2⟩ := pm_br decide_eq_true_iff hs
      exact lv_icmp_le hx hb hd ht (fun q => by have := pm_nx_inv (b1 q); cases this; exact hk _ _ _ _ _ hLn hL hH hcl hsl) (fun q => by have := pm_nx_inv (b2 q); cases this; exact hk _ _ _ _ _ hLn hL hH hcl hsl)
  | goto off =>
    dsimp only [pm_ins] at hs
    obtain ⟨t, ht, hs⟩ := pm_to_inv hs
    have := pm_nx_inv hs; cases this
    cases (beq_iff_eq.mp hln : ln = 3)
    exact lv_goto hx hb hd ht (hk _ _ _ _ _ hLn hL hH hcl hsl)
  | dup =>
    dsimp only [pm_ins] at hs
    obtain ⟨v, st', rfl, hq⟩ := pm_v1_inv hs
    clear hs; have hs := hq; clear hq
    obtain ⟨h0, hs⟩ := pm_if_inv hs
    have := pm_nx_inv hs; cases this
    cases (beq_iff_eq.mp hln : ln = 1)
    exact lv_dup hx hb hd (by rw [pm_v_cat]; exact beq_iff_eq.mp h0) (hk _ _ _ _ _ hLn hL hH hcl hsl)
  | dup2 =>
    dsimp only [pm_ins] at hs
    obtain ⟨v, st', rfl, hq⟩ := pm_v1_inv hs
    clear hs; have hs := hq; clear hq
    obtain ⟨u, st', rfl, hq⟩ := pm_v1_inv hs
    clear hs; have hs := hq; clear hq
    obtain ⟨h0, hs⟩ := pm_if_inv hs
    have := pm_nx_inv hs; cases this
    cases (beq_iff_eq.mp hln : ln = 1)
    simp only [Bool.and_eq_true, beq_iff_eq] at h0
    exact lv_dup2_11 hx hb hd (by rw [pm_v_cat]; exact h0.1) (by rw [pm_v_cat]; exact h0.2) (hk _ _ _ _ _ hLn hL hH hcl hsl)
  | pop =>
    dsimp only [pm_ins] at hs
    obtain ⟨v, st', rfl, hq⟩ := pm_v1_inv hs
    clear hs; have hs := hq; clear hq
    obtain ⟨h0, hs⟩ := pm_if_inv hs
    have := pm_nx_inv hs; cases this
    cases (beq_iff_eq.mp hln : ln = 1)
    exact lv_pop hx hb hd (by rw [pm_v_cat]; exact beq_iff_eq.mp h0) (hk _ _ _ _ _ hLn hL hH hcl hsl)
  | tableswitch dflt lo hi offs =>
    dsimp only [pm_ins] at hs
    obtain ⟨x, st', rfl, hq⟩ := pm_i1_inv hs
    clear hs; have hs := hq; clear hq
    by_cases hr : x.toInt < lo ∨ hi < x.toInt
    · rw [if_pos hr] at hs
      obtain ⟨t, ht, hs⟩ := pm_to_inv hs
      have := pm_nx_inv hs; cases this
      exact lv_tableOut hx hb hd hr ht (hk _ _ _ _ _ hLn hL hH hcl hsl)
    · rw [if_neg hr] at hs
      obtain ⟨off, ho, hs⟩ := pm_sm_inv hs
      obtain ⟨t, ht, hs⟩ := pm_to_inv hs
      have := pm_nx_inv hs; cases this
      exact lv_tableIn hx hb hd (fun q => hr (Or.inl q)) (fun q => hr (Or.inr q)) ho ht (hk _ _ _ _ _ hLn hL hH hcl hsl)
  | lookupswitch dflt ps =>
    dsimp only [pm_ins] at hs
    obtain ⟨x, st', rfl, hq⟩ := pm_i1_inv hs
    clear hs; have hs := hq; clear hq
    obtain ⟨h0, hs⟩ := pm_if_inv hs
    obtain ⟨t, ht, hs⟩ := pm_to_inv hs
    have := pm_nx_inv hs; cases this
    exact lv_lookup hx hb hd h0 rfl ht (hk _ _ _ _ _ hLn hL hH hcl hsl)
  | getfield j =>
    dsimp only [pm_ins] at hs
    obtain ⟨a, st', rfl, hq⟩ := pm_r1_inv hs
    clear hs; have hs := hq; clear hq
    obtain ⟨⟨ci, k, nest, ty, fin⟩, h1, hs⟩ := pm_sm_inv hs
    obtain ⟨c0, fs, h2, hs⟩ := pm_ob_inv hs
    obtain ⟨h3, hs⟩ := pm_if_inv hs
    obtain ⟨v, h4, hs⟩ := pm_sm_inv hs
    have := pm_nx_inv hs; cases this
    cases (beq_iff_eq.mp hln : ln = 3)
    have h3 := beq_iff_eq.mp h3
    dsimp only at h3 h4
    subst h3
    obtain ⟨C, T, N, f1, f2, f3, f4, f5, f6, -⟩ := pm_fld_ok h1
    have hg := pm_W_get (cy := cy) (bs := bs) (sb := sb) h2
    have hv : (fs.map (pm_v bs sb))[k]? = some (pm_v bs sb v) := by rw [List.getElem?_map, h4]; rfl
    cases nest with
    | false => exact va_get hx hb hts (pm_cl_in _ _ f1) hown hK.1 hH.2.1 a hg f1 k f2 (by rw [hcn]; exact hts _ (f5 rfl)) (fun _ z => z) hv hd (hk _ _ _ _ _ hLn hL hH hcl hsl)
    | true => exact va_getN hx hb hts (pm_cl_in _ _ f1) hown hK.1 hH.2.1 a hg f1 k f2 (by rw [hcn]; exact va_Nw.use rfl (hK.2.1 _ (f6 rfl) rfl)) (fun _ z => z) hv hd (hk _ _ _ _ _ hLn hL hH hcl hsl)
  | iaload =>
    dsimp only [pm_ins] at hs
    obtain ⟨j, st', rfl, hq⟩ := pm_i1_inv hs
    clear hs; have hs := hq; clear hq
    rcases pm_rs_inv hs with ⟨a, st', rfl, hq⟩ | ⟨a, st', rfl, hq⟩ <;> clear hs <;> have hs := hq <;> clear hq
    · obtain ⟨n, f, h1, hs⟩ := pm_ai_inv hs
      obtain ⟨h2, hs⟩ := pm_if_inv hs
      have := pm_nx_inv hs; cases this
      cases (beq_iff_eq.mp hln : ln = 1)
      exact va_iald hx hb hK.1 hH.2.1 a 0 (pm_W_get h1) rfl (pm_ok_in h2) hd (hk _ _ _ _ _ hLn hL hH hcl hsl)
    · obtain ⟨h2, hs⟩ := pm_if_inv hs
      have := pm_nx_inv hs; cases this
      cases (beq_iff_eq.mp hln : ln = 1)
      exact va_sld hx hb hX (by omega) hbA hH.2.2 (pm_ok_in h2) hd (hk _ _ _ _ _ hLn hL hH hcl hsl)
  | laload =>
    dsimp only [pm_ins] at hs
    obtain ⟨j, st', rfl, hq⟩ := pm_i1_inv hs
    clear hs; have hs := hq; clear hq
    obtain ⟨a, st', rfl, hq⟩ := pm_r1_inv hs
    clear hs; have hs := hq; clear hq
    obtain ⟨n, f, h1, hs⟩ := pm_al_inv hs
    obtain ⟨h2, hs⟩ := pm_if_inv hs
    have := pm_nx_inv hs; cases this
    cases (beq_iff_eq.mp hln : ln = 1)
    exact va_lald hx hb hK.1 hH.2.1 a 1 (pm_W_get h1) rfl (pm_ok_in h2) hd (hk _ _ _ _ _ hLn hL hH hcl hsl)
  | aaload =>
    dsimp only [pm_ins] at hs
    obtain ⟨j, st', rfl, hq⟩ := pm_i1_inv hs
    clear hs; have hs := hq; clear hq
    obtain ⟨a, st', rfl, hq⟩ := pm_r1_inv hs
    clear hs; have hs := hq; clear hq
    obtain ⟨n, f, h1, hs⟩ := pm_aq_inv hs
    obtain ⟨h2, hs⟩ := pm_if_inv hs
    have := pm_nx_inv hs; cases this
    cases (beq_iff_eq.mp hln : ln = 1)
    have h3 := hk _ _ _ _ _ hLn hL hH hcl hsl
    have h4 : pm_v bs sb (va_rf (f j.toNatClampNeg)) = va_rf ((fun j => (f j).map (fun a => bs + a)) j.toNatClampNeg) := by
      show _ = va_rf ((f j.toNatClampNeg).map _)
      cases f j.toNatClampNeg <;> rfl
    simp only [List.map_cons, h4] at h3
    exact va_aldq hx hb hK.1 hH.2.1 a 2 (pm_W_get h1) rfl (pm_ok_in h2) hd h3
  | arraylength =>
    dsimp only [pm_ins] at hs
    rcases pm_rs_inv hs with ⟨a, st', rfl, hq⟩ | ⟨a, st', rfl, hq⟩ <;> clear hs <;> have hs := hq <;> clear hq
    · obtain ⟨n, f, h1, hs⟩ := pm_ai_inv hs
      have := pm_nx_inv hs; cases this
      cases (beq_iff_eq.mp hln : ln = 1)
      exact va_alen hx hb hK.1 hH.2.1 a 0 (pm_W_get h1) rfl rfl hd (hk _ _ _ _ _ hLn hL hH hcl hsl)
    · have := pm_nx_inv hs; cases this
      cases (beq_iff_eq.mp hln : ln = 1)
      exact va_slen hx hb hX (by omega) hbA hH.2.2 hd (hk _ _ _ _ _ hLn hL hH hcl hsl)
  | ireturn =>
    dsimp only [pm_ins] at hs
    obtain ⟨v, st', rfl, hq⟩ := pm_i1_inv hs
    clear hs; have hs := hq; clear hq
    obtain ⟨ty, -, hs⟩ := pm_sm_inv hs
    obtain ⟨-, hs⟩ := pm_if_inv hs
    cases pm_rt_inv hs
  | lreturn =>
    dsimp only [pm_ins] at hs
    obtain ⟨v, st', rfl, hq⟩ := pm_l1_inv hs
    clear hs; have hs := hq; clear hq
    obtain ⟨-, hs⟩ := pm_if_inv hs
    cases pm_rt_inv hs
  | return_ =>
    dsimp only [pm_ins] at hs
    obtain ⟨-, hs⟩ := pm_if_inv hs
    cases pm_rt_inv hs
  | putfield _ => exact absurd hez Bool.false_ne_true
  | iastore => exact absurd hez Bool.false_ne_true
  | lastore => exact absurd hez Bool.false_ne_true
  | aastore => exact absurd hez Bool.false_ne_true
  | newarray _ => exact absurd hez Bool.false_ne_true
  | anewarray _ => exact absurd hez Bool.false_ne_true
  | new _ => exact absurd hez Bool.false_ne_true
  | invokevirtual _ => exact absurd hez Bool.false_ne_true
  | invokestatic _ => exact absurd hez Bool.false_ne_true
  | invokespecial _ => exact absurd hez Bool.false_ne_true
  | _ => exact absurd hs (by simp [pm_ins])
end PMI
