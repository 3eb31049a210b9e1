/-! FROM THE PURE MACHINE TO THE REAL ONE: place i of a pure heap is the address bs + i; the script stands at sb -/
def pm_v (bs sb : Nat) : Value → Value
  | .ref a => .ref (bs + a)
  | .retAddr _ => .ref sb
  | .int x => .int x
  | .long x => .long x
  | .float x => .float x
  | .double x => .double x
  | .null => .null
def pm_xa (bs : Nat) (x : (Nat → Int32) ⊕ (Nat → Int64) ⊕ (Nat → UInt32) ⊕ (Nat → UInt64) ⊕ (Nat → Option Nat)) : (Nat → Int32) ⊕ (Nat → Int64) ⊕ (Nat → UInt32) ⊕ (Nat → UInt64) ⊕ (Nat → Option Nat) := match x with
  | .inl f => .inl f
  | .inr (.inl f) => .inr (.inl f)
  | .inr (.inr (.inl f)) => .inr (.inr (.inl f))
  | .inr (.inr (.inr (.inl f))) => .inr (.inr (.inr (.inl f)))
  | .inr (.inr (.inr (.inr f))) => .inr (.inr (.inr (.inr (fun j => (f j).map (fun a => bs + a)))))
def pm_e (cy : Nat → ClassId) (bs sb : Nat) (e : va_E) : va_E := match e with
  | .inl (c, n, x) => .inl (cy c, n, pm_xa bs x)
  | .inr (c, fs) => .inr (c, fs.map (pm_v bs sb))
def pm_W (cy : Nat → ClassId) (bs sb : Nat) (h : List va_E) : va_W := h.mapIdx fun i e => (bs + i, pm_e cy bs sb e)
theorem pm_W_get {cy : Nat → ClassId} {bs sb : Nat} {h : List va_E} {i : Nat} {e : va_E} (hi : h[i]? = some e) : (pm_W cy bs sb h)[i]? = some (bs + i, pm_e cy bs sb e) := by
  simp [pm_W, List.getElem?_mapIdx, hi]
theorem pm_W_len {cy : Nat → ClassId} {bs sb : Nat} {h : List va_E} : (pm_W cy bs sb h).length = h.length := by simp [pm_W]
theorem pm_W_of {cy : Nat → ClassId} {bs sb : Nat} {h : List va_E} {i : Nat} {q : Nat × va_E} (hi : (pm_W cy bs sb h)[i]? = some q) : ∃ e, h[i]? = some e ∧ q = (bs + i, pm_e cy bs sb e) := by
  simp only [pm_W, List.getElem?_mapIdx, Option.map_eq_some_iff] at hi
  obtain ⟨e, h1, h2⟩ := hi
  exact ⟨e, h1, h2.symm⟩
theorem pm_W_set {cy : Nat → ClassId} {bs sb : Nat} {h : List va_E} {a : Nat} {e : va_E} : pm_W cy bs sb (h.set a e) = (pm_W cy bs sb h).set a (bs + a, pm_e cy bs sb e) := by
  apply List.ext_getElem?
  intro i
  by_cases hi : i = a
  · subst hi
    by_cases hl : i < h.length
    · simp [pm_W, List.getElem?_mapIdx, List.getElem?_set, hl]
    · simp [pm_W, List.getElem?_mapIdx, List.getElem?_set, hl]
  · simp [pm_W, List.getElem?_mapIdx, List.getElem?_set, Ne.symm hi]
theorem pm_W_app {cy : Nat → ClassId} {bs sb : Nat} {h : List va_E} {e : va_E} : pm_W cy bs sb (h ++ [e]) = pm_W cy bs sb h ++ [(bs + h.length, pm_e cy bs sb e)] := by
  simp [pm_W, List.mapIdx_append]
theorem pm_W_D {cy : Nat → ClassId} {bs sb : Nat} {h : List va_E} : va_D (fun q => bs ≤ q) (pm_W cy bs sb h) := by
  refine ⟨fun i j p q hi hj hpq => ?_, fun k q hk => ?_⟩
  · obtain ⟨e, -, rfl⟩ := pm_W_of hi
    obtain ⟨f, -, rfl⟩ := pm_W_of hj
    have : bs + i = bs + j := hpq
    omega
  · obtain ⟨e, -, rfl⟩ := pm_W_of hk
    show bs ≤ bs + k
    omega
/-- the real heap holds the pure one; below bs nothing has changed since H0 -/
def pm_H (D : va_G) (cy : Nat → ClassId) (bs sb : Nat) (h : List va_E) (H0 H : Heap) (locs : List Loc) : Prop := H.size = bs + h.length ∧ va_P D vwCl (pm_W cy bs sb h) H ∧ va_S (fun q => bs ≤ q) H0 H locs
def pm_es (e : va_E) : Nat := match e with
  | .inl (_, n, _) => n
  | .inr (_, fs) => fs.length
def pm_sl (h : List va_E) : Nat := (h.map pm_es).sum
theorem pm_sl_app (h : List va_E) (e : va_E) : pm_sl (h ++ [e]) = pm_sl h + pm_es e := by simp [pm_sl]
theorem pm_sl_set : ∀ (h : List va_E) (a : Nat) (e e' : va_E), h[a]? = some e → pm_es e' = pm_es e → pm_sl (h.set a e') = pm_sl h
  | [], _, _, _, h1, _ => by simp at h1
  | x :: h, 0, e, e', h1, h2 => by
    simp only [List.getElem?_cons_zero, Option.some.injEq] at h1
    subst h1
    simp [pm_sl, h2]
  | x :: h, a + 1, e, e', h1, h2 => by
    have := pm_sl_set h a e e' (by simpa using h1) h2
    simp only [pm_sl, List.set_cons_succ, List.map_cons, List.sum_cons] at this ⊢
    omega
/-! locals -/
def pm_ll (bs sb : Nat) : Nat → List (Option Value) → List (Nat × Value)
  | _, [] => []
  | i, none :: L => pm_ll bs sb (i + 1) L
  | i, some v :: L => (i, pm_v bs sb v) :: pm_ll bs sb (i + 1) L
theorem pm_ll_mem {bs sb : Nat} : ∀ (L : List (Option Value)) (i j : Nat) (w : Value), (j, w) ∈ pm_ll bs sb i L ↔ ∃ v, i ≤ j ∧ L[j - i]? = some (some v) ∧ w = pm_v bs sb v
  | [], i, j, w => by simp [pm_ll]
  | none :: L, i, j, w => by
    rw [pm_ll, pm_ll_mem L (i + 1) j w]
    constructor
    · rintro ⟨v, h1, h2, h3⟩
      refine ⟨v, by omega, ?_, h3⟩
      rw [show j - i = (j - (i + 1)) + 1 by omega, List.getElem?_cons_succ]
      exact h2
    · rintro ⟨v, h1, h2, h3⟩
      by_cases h : j = i
      · subst h
        simp at h2
      · refine ⟨v, by omega, ?_, h3⟩
        rw [show j - i = (j - (i + 1)) + 1 by omega, List.getElem?_cons_succ] at h2
        exact h2
  | some u :: L, i, j, w => by
    rw [pm_ll, List.mem_cons, pm_ll_mem L (i + 1) j w]
    constructor
    · rintro (h | ⟨v, h1, h2, h3⟩)
      · cases h
        exact ⟨u, Nat.le_refl _, by simp, rfl⟩
      · refine ⟨v, by omega, ?_, h3⟩
        rw [show j - i = (j - (i + 1)) + 1 by omega, List.getElem?_cons_succ]
        exact h2
    · rintro ⟨v, h1, h2, h3⟩
      by_cases h : j = i
      · subst h
        simp at h2
        subst h2
        exact Or.inl (by rw [h3])
      · refine Or.inr ⟨v, by omega, ?_, h3⟩
        rw [show j - i = (j - (i + 1)) + 1 by omega, List.getElem?_cons_succ] at h2
        exact h2
def pm_L (bs sb : Nat) (L : List (Option Value)) (ls : Array Slot) : Prop := lv_has ls L.length (pm_ll bs sb 0 L)
theorem pm_L_at {bs sb : Nat} {L : List (Option Value)} {ls : Array Slot} (h : pm_L bs sb L ls) {i : Nat} {v : Value} (hi : L[i]? = some (some v)) : ls[i]? = some (.val (pm_v bs sb v)) :=
  h.2.2 (i, pm_v bs sb v) ((pm_ll_mem L 0 i _).mpr ⟨v, Nat.zero_le _, by simpa using hi, rfl⟩)
theorem pm_has_of {ls : Array Slot} {n : Nat} {l l' : List (Nat × Value)} (h : lv_has ls n l) (hm : ∀ q ∈ l', q ∈ l) : lv_has ls n l' := ⟨h.1, h.2.1, fun q hq => h.2.2 q (hm q hq)⟩
theorem pm_lo_spec {L : List (Option Value)} {i j : Nat} {v : Value} (h : pm_lo L i = true) (hj : j + 1 = i) (hv : L[j]? = some (some v)) : v.category = 1 := by
  subst hj
  simp only [pm_lo, hv, beq_iff_eq] at h
  exact h
theorem pm_v_cat {bs sb : Nat} (v : Value) : (pm_v bs sb v).category = v.category := by cases v <;> rfl
theorem pm_L_set1 {bs sb : Nat} {L : List (Option Value)} {ls : Array Slot} {i : Nat} {v : Value} (hlo : pm_lo L i = true)
    (h : lv_has ls L.length ((i, pm_v bs sb v) :: (pm_ll bs sb 0 L).filter (fun q => !(q.1 == i) && !(q.1 + 1 == i && q.2.category == 2)))) : pm_L bs sb (L.set i (some v)) ls := by
  unfold pm_L
  rw [List.length_set]
  refine pm_has_of h fun q hq => ?_
  obtain ⟨j, w⟩ := q
  obtain ⟨u, -, h2, h3⟩ := (pm_ll_mem _ 0 j w).mp hq
  rw [Nat.sub_zero] at h2
  by_cases hji : j = i
  · subst hji
    have hl : j < L.length := by
      have := (List.getElem?_eq_some_iff.mp h2).1
      simpa using this
    rw [List.getElem?_set_self hl] at h2
    cases h2
    rw [h3]
    exact List.mem_cons_self
  · rw [List.getElem?_set_ne (Ne.symm hji)] at h2
    refine List.mem_cons_of_mem _ (List.mem_filter.mpr ⟨(pm_ll_mem _ 0 j w).mpr ⟨u, Nat.zero_le _, by simpa using h2, h3⟩, ?_⟩)
    have e1 : (j == i) = false := by simp [hji]
    by_cases hj1 : j + 1 = i
    · have := pm_lo_spec hlo hj1 h2
      have e2 : (w.category == 2) = false := by rw [h3, pm_v_cat, this]; rfl
      simp [e1, e2]
    · have e2 : (j + 1 == i) = false := by simp [hj1]
      simp [e1, e2]
theorem pm_L_set2 {bs sb : Nat} {L : List (Option Value)} {ls : Array Slot} {i : Nat} {v : Value} (hlo : pm_lo L i = true)
    (h : lv_has ls L.length ((i, pm_v bs sb v) :: (pm_ll bs sb 0 L).filter (fun q => !(q.1 == i) && (!(q.1 == i + 1) && !(q.1 + 1 == i && q.2.category == 2))))) : pm_L bs sb ((L.set i (some v)).set (i + 1) none) ls := by
  unfold pm_L
  rw [List.length_set, List.length_set]
  refine pm_has_of h fun q hq => ?_
  obtain ⟨j, w⟩ := q
  obtain ⟨u, -, h2, h3⟩ := (pm_ll_mem _ 0 j w).mp hq
  rw [Nat.sub_zero] at h2
  by_cases hj2 : j = i + 1
  · subst hj2
    have hl := (List.getElem?_eq_some_iff.mp h2).1
    rw [List.getElem?_set_self (by simpa using hl)] at h2
    cases h2
  · rw [List.getElem?_set_ne (Ne.symm hj2)] at h2
    by_cases hji : j = i
    · subst hji
      have hl : j < L.length := by
        have := (List.getElem?_eq_some_iff.mp h2).1
        simpa using this
      rw [List.getElem?_set_self hl] at h2
      cases h2
      rw [h3]
      exact List.mem_cons_self
    · rw [List.getElem?_set_ne (Ne.symm hji)] at h2
      refine List.mem_cons_of_mem _ (List.mem_filter.mpr ⟨(pm_ll_mem _ 0 j w).mpr ⟨u, Nat.zero_le _, by simpa using h2, h3⟩, ?_⟩)
      have e1 : (j == i) = false := by simp [hji]
      have e3 : (j == i + 1) = false := by simp [hj2]
      by_cases hj1 : j + 1 = i
      · have := pm_lo_spec hlo hj1 h2
        have e2 : (w.category == 2) = false := by rw [h3, pm_v_cat, this]; rfl
        simp [e1, e2, e3]
      · have e2 : (j + 1 == i) = false := by simp [hj1]
        simp [e1, e2, e3]
/-! values -/
theorem pm_v_nar {bs sb : Nat} {ty : FieldType} {v : Value} (hn : narrow ty v = v) (hf : fits ty v = true) : narrow ty (pm_v bs sb v) = pm_v bs sb v ∧ fits ty (pm_v bs sb v) = true := by
  cases v with
  | ref a => cases ty <;> first | (simp [fits] at hf; done) | exact ⟨rfl, rfl⟩
  | retAddr a => cases ty <;> simp [fits] at hf
  | _ => exact ⟨hn, hf⟩
theorem pm_v_inj_int {bs sb : Nat} {x : Int32} : pm_v bs sb (.int x) = .int x := rfl
/-! the words -/
def pm_T : List Cond := lw_tbl.filter goodWord
def pm_nest (w : Cond) : Bool := match w with
  | .fieldLinkNest .. => true
  | .methodLinkNest .. => true
  | _ => false
theorem pm_T_good : ∀ w ∈ pm_T, w ∈ pm_T ∧ ((w.onTables && w.keeps) = true ∨ ∃ ty, w = .arrayClass ty) := fun w h => ⟨h, good_of_word (List.mem_filter.mp h).2⟩
theorem pm_in {w : Cond} (i : Nat) (h : lw_tbl[i]? = some w) (g : goodWord w = true) : w ∈ pm_T := List.mem_filter.mpr ⟨List.mem_of_getElem? h, g⟩
theorem pm_Nw_warm {w : Cond} (hn : pm_nest w = true) {s U : State} (hW : s.WarmedH U.vm) (h : va_Nw w s) : va_Nw w U := by
  cases w <;> first | exact va_Nw.warmF hW h | exact va_Nw.warmM hW h | (simp [pm_nest] at hn)
abbrev pm_tys (cy : Nat → ClassId) : List (ClassId × FieldType) := [(cy 0, .int), (cy 1, .long), (cy 2, .object "SixtyOneCabs$Sheet")]
/-- what every state of the run keeps: the tables -/
def pm_K (D : va_G) (cy : Nat → ClassId) (KX : State → Prop) (U : State) : Prop := va_K D vwCl (pm_tys cy) U ∧ (∀ w ∈ lw_tbl, pm_nest w = true → va_Nw w U) ∧ va_AO "SixtyOneCabs$Sheet" U ∧ KX U
def pm_X0 (bs : Nat) (KX : State → Prop) : Prop := ∀ s U : State, s.WarmedH U.vm → (∀ q, q < bs → U.heap[q]? = s.heap[q]?) → KX s → KX U
theorem pm_K_warm {D : va_G} {cy : Nat → ClassId} {bs : Nat} {KX : State → Prop} (hX : pm_X0 bs KX) {s U : State} (hW : s.WarmedH U.vm) (hq : ∀ q, q < bs → U.heap[q]? = s.heap[q]?) (h : pm_K D cy KX s) : pm_K D cy KX U :=
  ⟨va_K.moved hW.alike h.1, fun w hw hn => pm_Nw_warm hn hW (h.2.1 w hw hn), va_AO.moved hW.alike h.2.2.1, hX s U hW hq h.2.2.2⟩
def pm_ws (k : Nat) : List Cond := Cond.code (pm_y k) (pm_b k) (pm_l k) (pm_r k) :: pm_T
def pm_rm (d mc ms : Nat) : Room := { frames := d, cells := mc, slots := ms, locals := 35 * d }
def pm_P (D : va_G) (cy : Nat → ClassId) (bs sb : Nat) (KX : State → Prop) (as : List Value) (h : List va_E) : Array Value → State → Prop := fun v U => v = (as.map (pm_v bs sb)).toArray ∧ bs ≤ U.heap.size ∧ U.heap.size = bs + h.length ∧ va_P D vwCl (pm_W cy bs sb h) U.heap ∧ pm_K D cy KX U
def pm_Q (D : va_G) (cy : Nat → ClassId) (bs sb : Nat) (r : Option Value) (h : List va_E) : Array Value → State → Outcome → State → Prop := fun _ st o t => o = .returned (r.map (pm_v bs sb)) ∧ t.heap.size = bs + h.length ∧ va_P D vwCl (pm_W cy bs sb h) t.heap ∧ ∀ q, q < bs → t.heap[q]? = st.heap[q]?
def pm_Met (l : Launch) (D : va_G) (cy : Nat → ClassId) (bs sb : Nat) (KX : State → Prop) (d k : Nat) (as : List Value) (h : List va_E) (r : Option Value) (h' : List va_E) : Prop :=
  Met l (pm_y k) (pm_ws k) (pm_rm d (h'.length - h.length) (pm_sl h' - pm_sl h)) (pm_P D cy bs sb KX as h) (pm_Q D cy bs sb r h') (h'.length - h.length) (pm_sl h' - pm_sl h) (fun q => bs ≤ q)
/-- what a frame of method mi knows -/
abbrev pm_Fx (p : Program) (s : State) (m : MethodId) (args : Array Value) (meth : Method) (c : Code) (D : va_G) (cy : Nat → ClassId) (KX : State → Prop) (mi : Nat) : Prop :=
  p.tables.exec = Jvm.exec ∧ c.code = pm_b mi ∧ c.maxLocals = pm_l mi ∧ s.vm.findClass (pm_y mi).cls = some m.cls ∧ (∀ w ∈ pm_T, w.before args s = true) ∧ meth.name = (pm_y mi).name ∧ pm_K D cy KX s
