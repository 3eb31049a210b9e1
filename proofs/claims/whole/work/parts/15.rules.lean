/-! one equation an instruction: the run goes on with what the instruction leaves -/
def pv_i1 (st : List Value) (k : Int32 → List Value → pv_R) : pv_R := match st with
  | .int x :: st => k x st
  | _ => none
def pv_i2 (st : List Value) (k : Int32 → Int32 → List Value → pv_R) : pv_R := match st with
  | .int y :: .int x :: st => k x y st
  | _ => none
def pv_l1 (st : List Value) (k : Int64 → List Value → pv_R) : pv_R := match st with
  | .long x :: st => k x st
  | _ => none
def pv_l2 (st : List Value) (k : Int64 → Int64 → List Value → pv_R) : pv_R := match st with
  | .long y :: .long x :: st => k x y st
  | _ => none
def pv_r1 (st : List Value) (k : Nat → List Value → pv_R) : pv_R := match st with
  | .ref a :: st => k a st
  | _ => none
def pv_v1 (st : List Value) (k : Value → List Value → pv_R) : pv_R := match st with
  | v :: st => k v st
  | _ => none
def pv_rs (st : List Value) (k : Nat → List Value → pv_R) (k' : List Value → pv_R) : pv_R := match st with
  | .ref a :: st => k a st
  | .retAddr _ :: st => k' st
  | _ => none
def pv_if (b : Bool) (k : pv_R) : pv_R := if b = true then k else none
/-- the i-th local is read -/
def pv_gi : List (Option Value) → Nat → (Int32 → pv_R) → pv_R
  | [], _, _ => none
  | a :: _, 0, k => match a with
    | some (.int x) => k x
    | _ => none
  | _ :: L, i + 1, k => pv_gi L i k
def pv_gl : List (Option Value) → Nat → (Int64 → pv_R) → pv_R
  | [], _, _ => none
  | a :: _, 0, k => match a with
    | some (.long x) => k x
    | _ => none
  | _ :: L, i + 1, k => pv_gl L i k
def pv_ga : List (Option Value) → Nat → (Value → pv_R) → pv_R
  | [], _, _ => none
  | a :: _, 0, k => match a with
    | some (.ref x) => k (.ref x)
    | some (.retAddr x) => k (.retAddr x)
    | _ => none
  | _ :: L, i + 1, k => pv_ga L i k
def pv_c2 (v : Option Value) : Bool := match v with
  | some (.long _) => true
  | some (.double _) => true
  | _ => false
/-- the i-th local is written, in one place, or in two -/
def pv_s1 : List (Option Value) → Nat → Value → (List (Option Value) → pv_R) → pv_R
  | _ :: L, 0, v, k => k (some v :: L)
  | a :: L, i + 1, v, k => pv_if (!(i == 0 && pv_c2 a)) (pv_s1 L i v fun L => k (a :: L))
  | [], _, _, _ => none
def pv_s2 : List (Option Value) → Nat → Value → (List (Option Value) → pv_R) → pv_R
  | _ :: _ :: L, 0, v, k => k (some v :: none :: L)
  | a :: L, i + 1, v, k => pv_if (!(i == 0 && pv_c2 a)) (pv_s2 L i v fun L => k (a :: L))
  | _, _, _, _ => none
theorem pv_gi_eq : ∀ (L : List (Option Value)) (i : Nat) (k : Int32 → pm_O) (K : pm_O → pv_R), K none = none → K (pm_gi L i k) = pv_gi L i fun x => K (k x)
  | [], i, k, K, h => by simp [pm_gi, pv_gi, h]
  | a :: L, 0, k, K, h => by
    simp only [pm_gi, List.getElem?_cons_zero]
    rcases a with _ | v
    · simp [pv_gi, h]
    · cases v <;> simp [pv_gi, h]
  | a :: L, i + 1, k, K, h => by
    have := pv_gi_eq L i k K h
    simp only [pm_gi, List.getElem?_cons_succ] at this ⊢
    rw [this]
    rfl
theorem pv_gl_eq : ∀ (L : List (Option Value)) (i : Nat) (k : Int64 → pm_O) (K : pm_O → pv_R), K none = none → K (pm_gl L i k) = pv_gl L i fun x => K (k x)
  | [], i, k, K, h => by simp [pm_gl, pv_gl, h]
  | a :: L, 0, k, K, h => by
    simp only [pm_gl, List.getElem?_cons_zero]
    rcases a with _ | v
    · simp [pv_gl, h]
    · cases v <;> simp [pv_gl, h]
  | a :: L, i + 1, k, K, h => by
    have := pv_gl_eq L i k K h
    simp only [pm_gl, List.getElem?_cons_succ] at this ⊢
    rw [this]
    rfl
theorem pv_ga_eq : ∀ (L : List (Option Value)) (i : Nat) (k : Value → pm_O) (K : pm_O → pv_R), K none = none → K (pm_ga L i k) = pv_ga L i fun x => K (k x)
  | [], i, k, K, h => by simp [pm_ga, pv_ga, h]
  | a :: L, 0, k, K, h => by
    simp only [pm_ga, List.getElem?_cons_zero]
    rcases a with _ | v
    · simp [pv_ga, h]
    · cases v <;> simp [pv_ga, h]
  | a :: L, i + 1, k, K, h => by
    have := pv_ga_eq L i k K h
    simp only [pm_ga, List.getElem?_cons_succ] at this ⊢
    rw [this]
    rfl
theorem pv_lo0 (L : List (Option Value)) : pm_lo L 0 = true := rfl
theorem pv_lo1 (a : Option Value) (L : List (Option Value)) : pm_lo (a :: L) 1 = !pv_c2 a := by
  simp only [pm_lo, List.getElem?_cons_zero]
  rcases a with _ | v
  · rfl
  · cases v <;> rfl
theorem pv_lo2 (a : Option Value) (L : List (Option Value)) (i : Nat) : pm_lo (a :: L) (i + 2) = pm_lo L (i + 1) := by
  simp only [pm_lo, List.getElem?_cons_succ]
theorem pv_s1_eq : ∀ (L : List (Option Value)) (i : Nat) (v : Value) (k : List (Option Value) → pm_O) (K : pm_O → pv_R), K none = none → K (pm_s1 L i v k) = pv_s1 L i v fun L => K (k L)
  | [], i, v, k, K, h => by simp [pm_s1, pv_s1, h]
  | a :: L, 0, v, k, K, h => by simp [pm_s1, pv_s1, pv_lo0]
  | a :: L, 1, v, k, K, h => by
    have := pv_s1_eq L 0 v (fun L => k (a :: L)) K h
    simp only [pv_s1, pv_if]
    rw [← this]
    simp only [pm_s1, pv_lo1, pv_lo0, List.length_cons, List.set_cons_succ]
    cases pv_c2 a <;> simp [h]
  | a :: L, i + 2, v, k, K, h => by
    have := pv_s1_eq L (i + 1) v (fun L => k (a :: L)) K h
    rw [pv_s1]
    simp only [pv_if]
    rw [← this]
    have e : (i + 2 < L.length + 1) = (i + 1 < L.length) := propext ⟨fun h => by omega, fun h => by omega⟩
    simp only [pm_s1, pv_lo2, List.length_cons, List.set_cons_succ, e]
    simp
theorem pv_s2_eq : ∀ (L : List (Option Value)) (i : Nat) (v : Value) (k : List (Option Value) → pm_O) (K : pm_O → pv_R), K none = none → K (pm_s2 L i v k) = pv_s2 L i v fun L => K (k L)
  | [], i, v, k, K, h => by simp [pm_s2, pv_s2, h]
  | [a], 0, v, k, K, h => by simp [pm_s2, pv_s2, h]
  | a :: b :: L, 0, v, k, K, h => by simp [pm_s2, pv_s2, pv_lo0]
  | a :: L, 1, v, k, K, h => by
    have := pv_s2_eq L 0 v (fun L => k (a :: L)) K h
    rw [pv_s2]
    simp only [pv_if]
    rw [← this]
    have e : (1 + 1 < L.length + 1) = (0 + 1 < L.length) := propext ⟨fun h => by omega, fun h => by omega⟩
    simp only [pm_s2, pv_lo1, pv_lo0, List.length_cons, List.set_cons_succ, e]
    cases pv_c2 a <;> simp [h]
  | a :: L, i + 2, v, k, K, h => by
    have := pv_s2_eq L (i + 1) v (fun L => k (a :: L)) K h
    rw [pv_s2]
    simp only [pv_if]
    rw [← this]
    have e : (i + 2 + 1 < L.length + 1) = (i + 1 + 1 < L.length) := propext ⟨fun h => by omega, fun h => by omega⟩
    simp only [pm_s2, pv_lo2, List.length_cons, List.set_cons_succ, e]
    simp
theorem pv_i1_eq (st : List Value) (k : Int32 → List Value → pm_O) (K : pm_O → pv_R) (h : K none = none) : K (pm_i1 st k) = pv_i1 st fun x st => K (k x st) := by
  unfold pm_i1 pv_i1
  split <;> simp [h]
theorem pv_i2_eq (st : List Value) (k : Int32 → Int32 → List Value → pm_O) (K : pm_O → pv_R) (h : K none = none) : K (pm_i2 st k) = pv_i2 st fun x y st => K (k x y st) := by
  unfold pm_i2 pv_i2
  split <;> simp [h]
theorem pv_l1_eq (st : List Value) (k : Int64 → List Value → pm_O) (K : pm_O → pv_R) (h : K none = none) : K (pm_l1 st k) = pv_l1 st fun x st => K (k x st) := by
  unfold pm_l1 pv_l1
  split <;> simp [h]
theorem pv_l2_eq (st : List Value) (k : Int64 → Int64 → List Value → pm_O) (K : pm_O → pv_R) (h : K none = none) : K (pm_l2 st k) = pv_l2 st fun x y st => K (k x y st) := by
  unfold pm_l2 pv_l2
  split <;> simp [h]
theorem pv_r1_eq (st : List Value) (k : Nat → List Value → pm_O) (K : pm_O → pv_R) (h : K none = none) : K (pm_r1 st k) = pv_r1 st fun x st => K (k x st) := by
  unfold pm_r1 pv_r1
  split <;> simp [h]
theorem pv_v1_eq (st : List Value) (k : Value → List Value → pm_O) (K : pm_O → pv_R) (h : K none = none) : K (pm_v1 st k) = pv_v1 st fun x st => K (k x st) := by
  unfold pm_v1 pv_v1
  split <;> simp [h]
theorem pv_rs_eq (st : List Value) (k : Nat → List Value → pm_O) (k' : List Value → pm_O) (K : pm_O → pv_R) (h : K none = none) : K (pm_rs st k k') = pv_rs st (fun x st => K (k x st)) (fun st => K (k' st)) := by
  unfold pm_rs pv_rs
  split <;> simp [h]
theorem pv_if_eq (b : Bool) (k : pm_O) (K : pm_O → pv_R) (h : K none = none) : K (pm_if b k) = pv_if b (K k) := by
  unfold pm_if pv_if
  split <;> simp [h]
/-! the heap -/
/-- the field k of an object of class ci at place a -/
def pv_fg (h : List va_E) (a ci k : Nat) (F : Value → pv_R) : pv_R := match h[a]? with
  | some (.inr (c, fs)) => pv_if (c == ci) (match fs[k]? with
    | some v => F v
    | none => none)
  | _ => none
/-- it is written (its type's check aside) -/
def pv_fp (h : List va_E) (a ci k : Nat) (v : Value) (F : List va_E → pv_R) : pv_R := match h[a]? with
  | some (.inr (c, fs)) => pv_if (c == ci && decide (k < fs.length)) (F (h.set a (.inr (c, fs.set k v))))
  | _ => none
/-- the class of an object -/
def pv_oc (h : List va_E) (a : Nat) (F : Nat → pv_R) : pv_R := match h[a]? with
  | some (.inr (c, _)) => F c
  | _ => none
def pv_ai (h : List va_E) (a : Nat) (F : Nat → (Nat → Int32) → pv_R) : pv_R := match h[a]? with
  | some (.inl (0, n, .inl f)) => F n f
  | _ => none
def pv_al (h : List va_E) (a : Nat) (F : Nat → (Nat → Int64) → pv_R) : pv_R := match h[a]? with
  | some (.inl (1, n, .inr (.inl f))) => F n f
  | _ => none
def pv_aq (h : List va_E) (a : Nat) (F : Nat → (Nat → Option Nat) → pv_R) : pv_R := match h[a]? with
  | some (.inl (2, n, .inr (.inr (.inr (.inr f))))) => F n f
  | _ => none
/-- an array's element is written -/
def pv_wi (h : List va_E) (a : Nat) (j : Int32) (x : Int32) (F : List va_E → pv_R) : pv_R := pv_ai h a fun n f => pv_if (pm_ok j n) (F (h.set a (.inl (0, n, .inl (upd f j.toNatClampNeg x)))))
def pv_wl (h : List va_E) (a : Nat) (j : Int32) (x : Int64) (F : List va_E → pv_R) : pv_R := pv_al h a fun n f => pv_if (pm_ok j n) (F (h.set a (.inl (1, n, .inr (.inl (vp_updL f j.toNatClampNeg x))))))
def pv_wq (h : List va_E) (a : Nat) (j : Int32) (v : Nat) (F : List va_E → pv_R) : pv_R := pv_aq h a fun n f => pv_oc h v fun c => pv_if (pm_ok j n && c == 1) (F (h.set a (.inl (2, n, .inr (.inr (.inr (.inr (va_up f j.toNatClampNeg (some v)))))))))
/-- System.arraycopy of ints -/
def pv_cp (h : List va_E) (a0 : Nat) (sp : Int32) (a : Nat) (dp n : Int32) (F : List va_E → pv_R) : pv_R := pv_ai h a0 fun n0 f => pv_ai h a fun n1 g =>
  pv_if (!decide (sp < 0) && (!decide (dp < 0) && (!decide (n < 0) && (decide (sp.toNatClampNeg + n.toNatClampNeg ≤ n0) && decide (dp.toNatClampNeg + n.toNatClampNeg ≤ n1))))) (F (h.set a (.inl (0, n1, .inl (va_cpy f g sp.toNatClampNeg dp.toNatClampNeg n.toNatClampNeg)))))
theorem pv_ob_eq (h : List va_E) (a : Nat) (k : Nat → List Value → pm_O) (K : pm_O → pv_R) (h0 : K none = none) : K (pm_ob h a k) = (match h[a]? with
    | some (.inr (c, fs)) => K (k c fs)
    | _ => none) := by
  unfold pm_ob
  generalize h[a]? = o
  split
  next => rfl
  next hne =>
    split
    next => exact (hne _ _ rfl).elim
    next => exact h0
theorem pv_ai_eq (h : List va_E) (a : Nat) (k : Nat → (Nat → Int32) → pm_O) (K : pm_O → pv_R) (h0 : K none = none) : K (pm_ai h a k) = pv_ai h a fun n f => K (k n f) := by
  unfold pm_ai pv_ai
  generalize h[a]? = o
  split
  next => rfl
  next hne =>
    split
    next => exact (hne _ _ rfl).elim
    next => exact h0
theorem pv_al_eq (h : List va_E) (a : Nat) (k : Nat → (Nat → Int64) → pm_O) (K : pm_O → pv_R) (h0 : K none = none) : K (pm_al h a k) = pv_al h a fun n f => K (k n f) := by
  unfold pm_al pv_al
  generalize h[a]? = o
  split
  next => rfl
  next hne =>
    split
    next => exact (hne _ _ rfl).elim
    next => exact h0
theorem pv_aq_eq (h : List va_E) (a : Nat) (k : Nat → (Nat → Option Nat) → pm_O) (K : pm_O → pv_R) (h0 : K none = none) : K (pm_aq h a k) = pv_aq h a fun n f => K (k n f) := by
  unfold pm_aq pv_aq
  generalize h[a]? = o
  split
  next => rfl
  next hne =>
    split
    next => exact (hne _ _ rfl).elim
    next => exact h0
section PVI
variable {X : pm_X} {d mi pc n : Nat} {L : List (Option Value)} {st : List Value} {h : List va_E}
theorem pm_K1_none : pm_K1 X d mi none = none := rfl
theorem pv_iconst {i : Int} (hd : decode (pm_b mi) pc = .ok (.iconst i, 1)) : pm_ev X (d + 1) mi (pc, L, st, h) = pm_ev X (d + 1) mi (pc + 1, L, .int (Int32.ofInt i) :: st, h) := pm_ev_at hd rfl
theorem pv_lconst {i : Fin 2} (hd : decode (pm_b mi) pc = .ok (.lconst i, 1)) : pm_ev X (d + 1) mi (pc, L, st, h) = pm_ev X (d + 1) mi (pc + 1, L, .long (Int64.ofNat (i : Nat)) :: st, h) := pm_ev_at hd rfl
theorem pv_bipush {i : Int} (hd : decode (pm_b mi) pc = .ok (.bipush i, 2)) : pm_ev X (d + 1) mi (pc, L, st, h) = pm_ev X (d + 1) mi (pc + 2, L, .int (Int8.ofInt i).toInt32 :: st, h) := pm_ev_at hd rfl
theorem pv_sipush {i : Int} (hd : decode (pm_b mi) pc = .ok (.sipush i, 3)) : pm_ev X (d + 1) mi (pc, L, st, h) = pm_ev X (d + 1) mi (pc + 3, L, .int (Int16.ofInt i).toInt32 :: st, h) := pm_ev_at hd rfl
theorem pv_ldcw {j : Nat} {v : Int32} (hd : decode (pm_b mi) pc = .ok (.ldc_w j, 3)) (hv : pm_ki (pm_own mi) j = some v) : pm_ev X (d + 1) mi (pc, L, st, h) = pm_ev X (d + 1) mi (pc + 3, L, .int v :: st, h) := by
  rw [pm_ev_at hd rfl]; dsimp only [pm_ins]; rw [hv]; rfl
theorem pv_ldc2 {j : Nat} {v : Int64} (hd : decode (pm_b mi) pc = .ok (.ldc2_w j, 3)) (hv : pm_kl (pm_own mi) j = some v) : pm_ev X (d + 1) mi (pc, L, st, h) = pm_ev X (d + 1) mi (pc + 3, L, .long v :: st, h) := by
  rw [pm_ev_at hd rfl]; dsimp only [pm_ins]; rw [hv]; rfl
theorem pv_iload_n {k : Fin 4} (hd : decode (pm_b mi) pc = .ok (.iload_n k, 1)) : pm_ev X (d + 1) mi (pc, L, st, h) = pv_gi L k fun x => pm_ev X (d + 1) mi (pc + 1, L, .int x :: st, h) := by
  rw [pm_ev_at hd rfl]; dsimp only [pm_ins]; exact pv_gi_eq L k _ (pm_K1 X d mi) rfl
theorem pv_iload {k : Nat} (hd : decode (pm_b mi) pc = .ok (.iload k, 2)) : pm_ev X (d + 1) mi (pc, L, st, h) = pv_gi L k fun x => pm_ev X (d + 1) mi (pc + 2, L, .int x :: st, h) := by
  rw [pm_ev_at hd rfl]; dsimp only [pm_ins]; exact pv_gi_eq L k _ (pm_K1 X d mi) rfl
theorem pv_lload_n {k : Fin 4} (hd : decode (pm_b mi) pc = .ok (.lload_n k, 1)) : pm_ev X (d + 1) mi (pc, L, st, h) = pv_gl L k fun x => pm_ev X (d + 1) mi (pc + 1, L, .long x :: st, h) := by
  rw [pm_ev_at hd rfl]; dsimp only [pm_ins]; exact pv_gl_eq L k _ (pm_K1 X d mi) rfl
theorem pv_lload {k : Nat} (hd : decode (pm_b mi) pc = .ok (.lload k, 2)) : pm_ev X (d + 1) mi (pc, L, st, h) = pv_gl L k fun x => pm_ev X (d + 1) mi (pc + 2, L, .long x :: st, h) := by
  rw [pm_ev_at hd rfl]; dsimp only [pm_ins]; exact pv_gl_eq L k _ (pm_K1 X d mi) rfl
theorem pv_aload_n {k : Fin 4} (hd : decode (pm_b mi) pc = .ok (.aload_n k, 1)) : pm_ev X (d + 1) mi (pc, L, st, h) = pv_ga L k fun x => pm_ev X (d + 1) mi (pc + 1, L, x :: st, h) := by
  rw [pm_ev_at hd rfl]; dsimp only [pm_ins]; exact pv_ga_eq L k _ (pm_K1 X d mi) rfl
theorem pv_aload {k : Nat} (hd : decode (pm_b mi) pc = .ok (.aload k, 2)) : pm_ev X (d + 1) mi (pc, L, st, h) = pv_ga L k fun x => pm_ev X (d + 1) mi (pc + 2, L, x :: st, h) := by
  rw [pm_ev_at hd rfl]; dsimp only [pm_ins]; exact pv_ga_eq L k _ (pm_K1 X d mi) rfl
theorem pv_istore_n {k : Fin 4} (hd : decode (pm_b mi) pc = .ok (.istore_n k, 1)) : pm_ev X (d + 1) mi (pc, L, st, h) = pv_i1 st fun x st => pv_s1 L k (.int x) fun L => pm_ev X (d + 1) mi (pc + 1, L, st, h) := by
  rw [pm_ev_at hd rfl]; dsimp only [pm_ins]; rw [pv_i1_eq _ _ (pm_K1 X d mi) rfl]; congr 1; funext x st; exact pv_s1_eq L k _ _ (pm_K1 X d mi) rfl
theorem pv_istore {k : Nat} (hd : decode (pm_b mi) pc = .ok (.istore k, 2)) : pm_ev X (d + 1) mi (pc, L, st, h) = pv_i1 st fun x st => pv_s1 L k (.int x) fun L => pm_ev X (d + 1) mi (pc + 2, L, st, h) := by
  rw [pm_ev_at hd rfl]; dsimp only [pm_ins]; rw [pv_i1_eq _ _ (pm_K1 X d mi) rfl]; congr 1; funext x st; exact pv_s1_eq L k _ _ (pm_K1 X d mi) rfl
theorem pv_lstore_n {k : Fin 4} (hd : decode (pm_b mi) pc = .ok (.lstore_n k, 1)) : pm_ev X (d + 1) mi (pc, L, st, h) = pv_l1 st fun x st => pv_s2 L k (.long x) fun L => pm_ev X (d + 1) mi (pc + 1, L, st, h) := by
  rw [pm_ev_at hd rfl]; dsimp only [pm_ins]; rw [pv_l1_eq _ _ (pm_K1 X d mi) rfl]; congr 1; funext x st; exact pv_s2_eq L k _ _ (pm_K1 X d mi) rfl
theorem pv_lstore {k : Nat} (hd : decode (pm_b mi) pc = .ok (.lstore k, 2)) : pm_ev X (d + 1) mi (pc, L, st, h) = pv_l1 st fun x st => pv_s2 L k (.long x) fun L => pm_ev X (d + 1) mi (pc + 2, L, st, h) := by
  rw [pm_ev_at hd rfl]; dsimp only [pm_ins]; rw [pv_l1_eq _ _ (pm_K1 X d mi) rfl]; congr 1; funext x st; exact pv_s2_eq L k _ _ (pm_K1 X d mi) rfl
theorem pv_astore_n {k : Fin 4} (hd : decode (pm_b mi) pc = .ok (.astore_n k, 1)) : pm_ev X (d + 1) mi (pc, L, st, h) = pv_r1 st fun x st => pv_s1 L k (.ref x) fun L => pm_ev X (d + 1) mi (pc + 1, L, st, h) := by
  rw [pm_ev_at hd rfl]; dsimp only [pm_ins]; rw [pv_r1_eq _ _ (pm_K1 X d mi) rfl]; congr 1; funext x st; exact pv_s1_eq L k _ _ (pm_K1 X d mi) rfl
theorem pv_iinc {k : Nat} {i : Int} (hd : decode (pm_b mi) pc = .ok (.iinc k i, 3)) : pm_ev X (d + 1) mi (pc, L, st, h) = pv_gi L k fun x => pv_s1 L k (.int (x + Int32.ofInt i)) fun L => pm_ev X (d + 1) mi (pc + 3, L, st, h) := by
  rw [pm_ev_at hd rfl]; dsimp only [pm_ins]; rw [pv_gi_eq _ _ _ (pm_K1 X d mi) rfl]; congr 1; funext x; exact pv_s1_eq L k _ _ (pm_K1 X d mi) rfl
theorem pv_iadd (hd : decode (pm_b mi) pc = .ok (.iadd, 1)) : pm_ev X (d + 1) mi (pc, L, st, h) = pv_i2 st fun x y st => pm_ev X (d + 1) mi (pc + 1, L, .int (x + y) :: st, h) := by
  rw [pm_ev_at hd rfl]; dsimp only [pm_ins]; exact pv_i2_eq st _ (pm_K1 X d mi) rfl
theorem pv_isub (hd : decode (pm_b mi) pc = .ok (.isub, 1)) : pm_ev X (d + 1) mi (pc, L, st, h) = pv_i2 st fun x y st => pm_ev X (d + 1) mi (pc + 1, L, .int (x - y) :: st, h) := by
  rw [pm_ev_at hd rfl]; dsimp only [pm_ins]; exact pv_i2_eq st _ (pm_K1 X d mi) rfl
theorem pv_imul (hd : decode (pm_b mi) pc = .ok (.imul, 1)) : pm_ev X (d + 1) mi (pc, L, st, h) = pv_i2 st fun x y st => pm_ev X (d + 1) mi (pc + 1, L, .int (x * y) :: st, h) := by
  rw [pm_ev_at hd rfl]; dsimp only [pm_ins]; exact pv_i2_eq st _ (pm_K1 X d mi) rfl
theorem pv_iand (hd : decode (pm_b mi) pc = .ok (.iand, 1)) : pm_ev X (d + 1) mi (pc, L, st, h) = pv_i2 st fun x y st => pm_ev X (d + 1) mi (pc + 1, L, .int (x &&& y) :: st, h) := by
  rw [pm_ev_at hd rfl]; dsimp only [pm_ins]; exact pv_i2_eq st _ (pm_K1 X d mi) rfl
theorem pv_ior (hd : decode (pm_b mi) pc = .ok (.ior, 1)) : pm_ev X (d + 1) mi (pc, L, st, h) = pv_i2 st fun x y st => pm_ev X (d + 1) mi (pc + 1, L, .int (x ||| y) :: st, h) := by
  rw [pm_ev_at hd rfl]; dsimp only [pm_ins]; exact pv_i2_eq st _ (pm_K1 X d mi) rfl
theorem pv_ixor (hd : decode (pm_b mi) pc = .ok (.ixor, 1)) : pm_ev X (d + 1) mi (pc, L, st, h) = pv_i2 st fun x y st => pm_ev X (d + 1) mi (pc + 1, L, .int (x ^^^ y) :: st, h) := by
  rw [pm_ev_at hd rfl]; dsimp only [pm_ins]; exact pv_i2_eq st _ (pm_K1 X d mi) rfl
theorem pv_ishl (hd : decode (pm_b mi) pc = .ok (.ishl, 1)) : pm_ev X (d + 1) mi (pc, L, st, h) = pv_i2 st fun x y st => pm_ev X (d + 1) mi (pc + 1, L, .int (x <<< (y &&& 31)) :: st, h) := by
  rw [pm_ev_at hd rfl]; dsimp only [pm_ins]; exact pv_i2_eq st _ (pm_K1 X d mi) rfl
theorem pv_ishr (hd : decode (pm_b mi) pc = .ok (.ishr, 1)) : pm_ev X (d + 1) mi (pc, L, st, h) = pv_i2 st fun x y st => pm_ev X (d + 1) mi (pc + 1, L, .int (x >>> (y &&& 31)) :: st, h) := by
  rw [pm_ev_at hd rfl]; dsimp only [pm_ins]; exact pv_i2_eq st _ (pm_K1 X d mi) rfl
theorem pv_iushr (hd : decode (pm_b mi) pc = .ok (.iushr, 1)) : pm_ev X (d + 1) mi (pc, L, st, h) = pv_i2 st fun x y st => pm_ev X (d + 1) mi (pc + 1, L, .int ((x.toUInt32 >>> (y.toUInt32 &&& Int32.toUInt32 31)).toInt32) :: st, h) := by
  rw [pm_ev_at hd rfl]; dsimp only [pm_ins]; exact pv_i2_eq st _ (pm_K1 X d mi) rfl
theorem pv_ladd (hd : decode (pm_b mi) pc = .ok (.ladd, 1)) : pm_ev X (d + 1) mi (pc, L, st, h) = pv_l2 st fun x y st => pm_ev X (d + 1) mi (pc + 1, L, .long (x + y) :: st, h) := by
  rw [pm_ev_at hd rfl]; dsimp only [pm_ins]; exact pv_l2_eq st _ (pm_K1 X d mi) rfl
theorem pv_lsub (hd : decode (pm_b mi) pc = .ok (.lsub, 1)) : pm_ev X (d + 1) mi (pc, L, st, h) = pv_l2 st fun x y st => pm_ev X (d + 1) mi (pc + 1, L, .long (x - y) :: st, h) := by
  rw [pm_ev_at hd rfl]; dsimp only [pm_ins]; exact pv_l2_eq st _ (pm_K1 X d mi) rfl
theorem pv_lmul (hd : decode (pm_b mi) pc = .ok (.lmul, 1)) : pm_ev X (d + 1) mi (pc, L, st, h) = pv_l2 st fun x y st => pm_ev X (d + 1) mi (pc + 1, L, .long (x * y) :: st, h) := by
  rw [pm_ev_at hd rfl]; dsimp only [pm_ins]; exact pv_l2_eq st _ (pm_K1 X d mi) rfl
theorem pv_lcmp (hd : decode (pm_b mi) pc = .ok (.lcmp, 1)) : pm_ev X (d + 1) mi (pc, L, st, h) = pv_l2 st fun x y st => pm_ev X (d + 1) mi (pc + 1, L, .int (lg_cmp x y) :: st, h) := by
  rw [pm_ev_at hd rfl]; dsimp only [pm_ins]; exact pv_l2_eq st _ (pm_K1 X d mi) rfl
theorem pv_idiv (hd : decode (pm_b mi) pc = .ok (.idiv, 1)) : pm_ev X (d + 1) mi (pc, L, st, h) = pv_i2 st fun x y st => pv_if (!decide (y = 0)) (pm_ev X (d + 1) mi (pc + 1, L, .int (x / y) :: st, h)) := by
  rw [pm_ev_at hd rfl]; dsimp only [pm_ins]; rw [pv_i2_eq _ _ (pm_K1 X d mi) rfl]; congr 1; funext x y st; exact pv_if_eq _ _ (pm_K1 X d mi) rfl
theorem pv_irem (hd : decode (pm_b mi) pc = .ok (.irem, 1)) : pm_ev X (d + 1) mi (pc, L, st, h) = pv_i2 st fun x y st => pv_if (!decide (y = 0)) (pm_ev X (d + 1) mi (pc + 1, L, .int (x - x / y * y) :: st, h)) := by
  rw [pm_ev_at hd rfl]; dsimp only [pm_ins]; rw [pv_i2_eq _ _ (pm_K1 X d mi) rfl]; congr 1; funext x y st; exact pv_if_eq _ _ (pm_K1 X d mi) rfl
theorem pv_ldiv (hd : decode (pm_b mi) pc = .ok (.ldiv, 1)) : pm_ev X (d + 1) mi (pc, L, st, h) = pv_l2 st fun x y st => pv_if (!decide (y = 0)) (pm_ev X (d + 1) mi (pc + 1, L, .long (x / y) :: st, h)) := by
  rw [pm_ev_at hd rfl]; dsimp only [pm_ins]; rw [pv_l2_eq _ _ (pm_K1 X d mi) rfl]; congr 1; funext x y st; exact pv_if_eq _ _ (pm_K1 X d mi) rfl
theorem pv_lrem (hd : decode (pm_b mi) pc = .ok (.lrem, 1)) : pm_ev X (d + 1) mi (pc, L, st, h) = pv_l2 st fun x y st => pv_if (!decide (y = 0)) (pm_ev X (d + 1) mi (pc + 1, L, .long (x - x / y * y) :: st, h)) := by
  rw [pm_ev_at hd rfl]; dsimp only [pm_ins]; rw [pv_l2_eq _ _ (pm_K1 X d mi) rfl]; congr 1; funext x y st; exact pv_if_eq _ _ (pm_K1 X d mi) rfl
theorem pv_ineg (hd : decode (pm_b mi) pc = .ok (.ineg, 1)) : pm_ev X (d + 1) mi (pc, L, st, h) = pv_i1 st fun x st => pm_ev X (d + 1) mi (pc + 1, L, .int (-x) :: st, h) := by
  rw [pm_ev_at hd rfl]; dsimp only [pm_ins]; exact pv_i1_eq st _ (pm_K1 X d mi) rfl
theorem pv_lneg (hd : decode (pm_b mi) pc = .ok (.lneg, 1)) : pm_ev X (d + 1) mi (pc, L, st, h) = pv_l1 st fun x st => pm_ev X (d + 1) mi (pc + 1, L, .long (-x) :: st, h) := by
  rw [pm_ev_at hd rfl]; dsimp only [pm_ins]; exact pv_l1_eq st _ (pm_K1 X d mi) rfl
theorem pv_i2l (hd : decode (pm_b mi) pc = .ok (.i2l, 1)) : pm_ev X (d + 1) mi (pc, L, st, h) = pv_i1 st fun x st => pm_ev X (d + 1) mi (pc + 1, L, .long (x.toInt64) :: st, h) := by
  rw [pm_ev_at hd rfl]; dsimp only [pm_ins]; exact pv_i1_eq st _ (pm_K1 X d mi) rfl
theorem pv_ifz_eq {off : Int} {t : Nat} (hd : decode (pm_b mi) pc = .ok (.ifCond .eq off, 3)) (ht : (pc : Int) + off = t) : pm_ev X (d + 1) mi (pc, L, st, h) = pv_i1 st fun x st => if x = 0 then pm_ev X (d + 1) mi (t, L, st, h) else pm_ev X (d + 1) mi (pc + 3, L, st, h) := by
  rw [pm_ev_at hd rfl]; dsimp only [pm_ins]; rw [pv_i1_eq _ _ (pm_K1 X d mi) rfl]; congr 1; funext x st
  simp only [pm_to, ht, Int.natCast_nonneg, if_true, Int.toNat_natCast, pm_cd, decide_eq_true_eq]
  split <;> rfl
theorem pv_icmp_eq {off : Int} {t : Nat} (hd : decode (pm_b mi) pc = .ok (.if_icmp .eq off, 3)) (ht : (pc : Int) + off = t) : pm_ev X (d + 1) mi (pc, L, st, h) = pv_i2 st fun x y st => if x = y then pm_ev X (d + 1) mi (t, L, st, h) else pm_ev X (d + 1) mi (pc + 3, L, st, h) := by
  rw [pm_ev_at hd rfl]; dsimp only [pm_ins]; rw [pv_i2_eq _ _ (pm_K1 X d mi) rfl]; congr 1; funext x y st
  simp only [pm_to, ht, Int.natCast_nonneg, if_true, Int.toNat_natCast, pm_cd, decide_eq_true_eq]
  split <;> rfl
theorem pv_ifz_ne {off : Int} {t : Nat} (hd : decode (pm_b mi) pc = .ok (.ifCond .ne off, 3)) (ht : (pc : Int) + off = t) : pm_ev X (d + 1) mi (pc, L, st, h) = pv_i1 st fun x st => if ¬ x = 0 then pm_ev X (d + 1) mi (t, L, st, h) else pm_ev X (d + 1) mi (pc + 3, L, st, h) := by
  rw [pm_ev_at hd rfl]; dsimp only [pm_ins]; rw [pv_i1_eq _ _ (pm_K1 X d mi) rfl]; congr 1; funext x st
  simp only [pm_to, ht, Int.natCast_nonneg, if_true, Int.toNat_natCast, pm_cd, decide_eq_true_eq]
  split <;> rfl
theorem pv_icmp_ne {off : Int} {t : Nat} (hd : decode (pm_b mi) pc = .ok (.if_icmp .ne off, 3)) (ht : (pc : Int) + off = t) : pm_ev X (d + 1) mi (pc, L, st, h) = pv_i2 st fun x y st => if ¬ x = y then pm_ev X (d + 1) mi (t, L, st, h) else pm_ev X (d + 1) mi (pc + 3, L, st, h) := by
  rw [pm_ev_at hd rfl]; dsimp only [pm_ins]; rw [pv_i2_eq _ _ (pm_K1 X d mi) rfl]; congr 1; funext x y st
  simp only [pm_to, ht, Int.natCast_nonneg, if_true, Int.toNat_natCast, pm_cd, decide_eq_true_eq]
  split <;> rfl
theorem pv_ifz_lt {off : Int} {t : Nat} (hd : decode (pm_b mi) pc = .ok (.ifCond .lt off, 3)) (ht : (pc : Int) + off = t) : pm_ev X (d + 1) mi (pc, L, st, h) = pv_i1 st fun x st => if x < 0 then pm_ev X (d + 1) mi (t, L, st, h) else pm_ev X (d + 1) mi (pc + 3, L, st, h) := by
  rw [pm_ev_at hd rfl]; dsimp only [pm_ins]; rw [pv_i1_eq _ _ (pm_K1 X d mi) rfl]; congr 1; funext x st
  simp only [pm_to, ht, Int.natCast_nonneg, if_true, Int.toNat_natCast, pm_cd, decide_eq_true_eq]
  split <;> rfl
theorem pv_icmp_lt {off : Int} {t : Nat} (hd : decode (pm_b mi) pc = .ok (.if_icmp .lt off, 3)) (ht : (pc : Int) + off = t) : pm_ev X (d + 1) mi (pc, L, st, h) = pv_i2 st fun x y st => if x < y then pm_ev X (d + 1) mi (t, L, st, h) else pm_ev X (d + 1) mi (pc + 3, L, st, h) := by
  rw [pm_ev_at hd rfl]; dsimp only [pm_ins]; rw [pv_i2_eq _ _ (pm_K1 X d mi) rfl]; congr 1; funext x y st
  simp only [pm_to, ht, Int.natCast_nonneg, if_true, Int.toNat_natCast, pm_cd, decide_eq_true_eq]
  split <;> rfl
theorem pv_ifz_ge {off : Int} {t : Nat} (hd : decode (pm_b mi) pc = .ok (.ifCond .ge off, 3)) (ht : (pc : Int) + off = t) : pm_ev X (d + 1) mi (pc, L, st, h) = pv_i1 st fun x st => if 0 ≤ x then pm_ev X (d + 1) mi (t, L, st, h) else pm_ev X (d + 1) mi (pc + 3, L, st, h) := by
  rw [pm_ev_at hd rfl]; dsimp only [pm_ins]; rw [pv_i1_eq _ _ (pm_K1 X d mi) rfl]; congr 1; funext x st
  simp only [pm_to, ht, Int.natCast_nonneg, if_true, Int.toNat_natCast, pm_cd, decide_eq_true_eq]
  split <;> rfl
theorem pv_icmp_ge {off : Int} {t : Nat} (hd : decode (pm_b mi) pc = .ok (.if_icmp .ge off, 3)) (ht : (pc : Int) + off = t) : pm_ev X (d + 1) mi (pc, L, st, h) = pv_i2 st fun x y st => if y ≤ x then pm_ev X (d + 1) mi (t, L, st, h) else pm_ev X (d + 1) mi (pc + 3, L, st, h) := by
  rw [pm_ev_at hd rfl]; dsimp only [pm_ins]; rw [pv_i2_eq _ _ (pm_K1 X d mi) rfl]; congr 1; funext x y st
  simp only [pm_to, ht, Int.natCast_nonneg, if_true, Int.toNat_natCast, pm_cd, decide_eq_true_eq]
  split <;> rfl
theorem pv_ifz_gt {off : Int} {t : Nat} (hd : decode (pm_b mi) pc = .ok (.ifCond .gt off, 3)) (ht : (pc : Int) + off = t) : pm_ev X (d + 1) mi (pc, L, st, h) = pv_i1 st fun x st => if 0 < x then pm_ev X (d + 1) mi (t, L, st, h) else pm_ev X (d + 1) mi (pc + 3, L, st, h) := by
  rw [pm_ev_at hd rfl]; dsimp only [pm_ins]; rw [pv_i1_eq _ _ (pm_K1 X d mi) rfl]; congr 1; funext x st
  simp only [pm_to, ht, Int.natCast_nonneg, if_true, Int.toNat_natCast, pm_cd, decide_eq_true_eq]
  split <;> rfl
theorem pv_icmp_gt {off : Int} {t : Nat} (hd : decode (pm_b mi) pc = .ok (.if_icmp .gt off, 3)) (ht : (pc : Int) + off = t) : pm_ev X (d + 1) mi (pc, L, st, h) = pv_i2 st fun x y st => if y < x then pm_ev X (d + 1) mi (t, L, st, h) else pm_ev X (d + 1) mi (pc + 3, L, st, h) := by
  rw [pm_ev_at hd rfl]; dsimp only [pm_ins]; rw [pv_i2_eq _ _ (pm_K1 X d mi) rfl]; congr 1; funext x y st
  simp only [pm_to, ht, Int.natCast_nonneg, if_true, Int.toNat_natCast, pm_cd, decide_eq_true_eq]
  split <;> rfl
theorem pv_ifz_le {off : Int} {t : Nat} (hd : decode (pm_b mi) pc = .ok (.ifCond .le off, 3)) (ht : (pc : Int) + off = t) : pm_ev X (d + 1) mi (pc, L, st, h) = pv_i1 st fun x st => if x ≤ 0 then pm_ev X (d + 1) mi (t, L, st, h) else pm_ev X (d + 1) mi (pc + 3, L, st, h) := by
  rw [pm_ev_at hd rfl]; dsimp only [pm_ins]; rw [pv_i1_eq _ _ (pm_K1 X d mi) rfl]; congr 1; funext x st
  simp only [pm_to, ht, Int.natCast_nonneg, if_true, Int.toNat_natCast, pm_cd, decide_eq_true_eq]
  split <;> rfl
theorem pv_icmp_le {off : Int} {t : Nat} (hd : decode (pm_b mi) pc = .ok (.if_icmp .le off, 3)) (ht : (pc : Int) + off = t) : pm_ev X (d + 1) mi (pc, L, st, h) = pv_i2 st fun x y st => if x ≤ y then pm_ev X (d + 1) mi (t, L, st, h) else pm_ev X (d + 1) mi (pc + 3, L, st, h) := by
  rw [pm_ev_at hd rfl]; dsimp only [pm_ins]; rw [pv_i2_eq _ _ (pm_K1 X d mi) rfl]; congr 1; funext x y st
  simp only [pm_to, ht, Int.natCast_nonneg, if_true, Int.toNat_natCast, pm_cd, decide_eq_true_eq]
  split <;> rfl
theorem pv_goto {off : Int} {t : Nat} (hd : decode (pm_b mi) pc = .ok (.goto off, 3)) (ht : (pc : Int) + off = t) : pm_ev X (d + 1) mi (pc, L, st, h) = pm_ev X (d + 1) mi (t, L, st, h) := by
  rw [pm_ev_at hd rfl]; dsimp only [pm_ins]
  simp only [pm_to, ht, Int.natCast_nonneg, if_true, Int.toNat_natCast]
  rfl
theorem pv_dup (hd : decode (pm_b mi) pc = .ok (.dup, 1)) : pm_ev X (d + 1) mi (pc, L, st, h) = pv_v1 st fun v st => pv_if (v.category == 1) (pm_ev X (d + 1) mi (pc + 1, L, v :: v :: st, h)) := by
  rw [pm_ev_at hd rfl]; dsimp only [pm_ins]; rw [pv_v1_eq _ _ (pm_K1 X d mi) rfl]; congr 1; funext x st; exact pv_if_eq _ _ (pm_K1 X d mi) rfl
theorem pv_dup2 (hd : decode (pm_b mi) pc = .ok (.dup2, 1)) : pm_ev X (d + 1) mi (pc, L, st, h) = pv_v1 st fun v st => pv_v1 st fun u st => pv_if (v.category == 1 && u.category == 1) (pm_ev X (d + 1) mi (pc + 1, L, v :: u :: v :: u :: st, h)) := by
  rw [pm_ev_at hd rfl]; dsimp only [pm_ins]; rw [pv_v1_eq _ _ (pm_K1 X d mi) rfl]; congr 1; funext x st; rw [pv_v1_eq _ _ (pm_K1 X d mi) rfl]; congr 1; funext y st; exact pv_if_eq _ _ (pm_K1 X d mi) rfl
theorem pv_pop (hd : decode (pm_b mi) pc = .ok (.pop, 1)) : pm_ev X (d + 1) mi (pc, L, st, h) = pv_v1 st fun v st => pv_if (v.category == 1) (pm_ev X (d + 1) mi (pc + 1, L, st, h)) := by
  rw [pm_ev_at hd rfl]; dsimp only [pm_ins]; rw [pv_v1_eq _ _ (pm_K1 X d mi) rfl]; congr 1; funext x st; exact pv_if_eq _ _ (pm_K1 X d mi) rfl
/-- a switch: where it goes, as a function -/
theorem pv_table {dflt lo hi : Int} {offs : Array Int} {len : Nat} (T : Int32 → Nat) (hd : decode (pm_b mi) pc = .ok (.tableswitch dflt lo hi offs, len)) (hT : ∀ x : Int32, if x.toInt < lo ∨ hi < x.toInt then (pc : Int) + dflt = T x else ∃ off, offs[(x.toInt - lo).toNat]? = some off ∧ (pc : Int) + off = T x) : pm_ev X (d + 1) mi (pc, L, st, h) = pv_i1 st fun x st => pm_ev X (d + 1) mi (T x, L, st, h) := by
  rw [pm_ev_at hd rfl]; dsimp only [pm_ins]; rw [pv_i1_eq _ _ (pm_K1 X d mi) rfl]; congr 1; funext x st
  have h1 := hT x
  split at h1
  next hx =>
    rw [if_pos hx]
    simp only [pm_to, h1, Int.natCast_nonneg, if_true, Int.toNat_natCast]
    rfl
  next hx =>
    obtain ⟨off, h2, h3⟩ := h1
    rw [if_neg hx, h2]
    simp only [pm_sm, pm_to, h3, Int.natCast_nonneg, if_true, Int.toNat_natCast]
    rfl
theorem pv_lookup {dflt : Int} {ps : Array (Int × Int)} {len : Nat} (T : Int32 → Nat) (hd : decode (pm_b mi) pc = .ok (.lookupswitch dflt ps, len)) (hs : (ps.toList.zip (ps.toList.drop 1)).all (fun (a, next) => a.1 < next.1) = true) (hT : ∀ x : Int32, (pc : Int) + Op.lookupswitch.offset ps.toList dflt x.toInt = T x) : pm_ev X (d + 1) mi (pc, L, st, h) = pv_i1 st fun x st => pm_ev X (d + 1) mi (T x, L, st, h) := by
  rw [pm_ev_at hd rfl]; dsimp only [pm_ins]; rw [pv_i1_eq _ _ (pm_K1 X d mi) rfl]; congr 1; funext x st
  simp only [pm_if, hs, if_true, pm_to, hT x, Int.natCast_nonneg, Int.toNat_natCast]
  rfl
theorem pv_getfield {j ci k : Nat} {nest fin : Bool} {ty : FieldType} (hd : decode (pm_b mi) pc = .ok (.getfield j, 3)) (hf : pm_fld (pm_own mi) j = some (ci, k, nest, ty, fin)) : pm_ev X (d + 1) mi (pc, L, st, h) = pv_r1 st fun a st => pv_fg h a ci k fun v => pm_ev X (d + 1) mi (pc + 3, L, v :: st, h) := by
  rw [pm_ev_at hd rfl]; dsimp only [pm_ins]; rw [pv_r1_eq _ _ (pm_K1 X d mi) rfl]; congr 1; funext a st
  rw [hf]
  dsimp only [pm_sm]
  rw [pv_ob_eq _ _ _ (pm_K1 X d mi) rfl]
  unfold pv_fg
  split
  next c fs _ =>
    rw [pv_if_eq _ _ (pm_K1 X d mi) rfl]
    congr 1
    cases fs[k]? <;> rfl
  next => rfl
theorem pv_putfield {j ci k : Nat} {nest : Bool} {ty : FieldType} (hd : decode (pm_b mi) pc = .ok (.putfield j, 3)) (hf : pm_fld (pm_own mi) j = some (ci, k, nest, ty, false)) : pm_ev X (d + 1) mi (pc, L, st, h) = pv_v1 st fun v st => pv_r1 st fun a st => pv_if (decide (narrow ty v = v) && fits ty v) (pv_fp h a ci k v fun h => pm_ev X (d + 1) mi (pc + 3, L, st, h)) := by
  rw [pm_ev_at hd rfl]; dsimp only [pm_ins]; rw [pv_v1_eq _ _ (pm_K1 X d mi) rfl]; congr 1; funext v st
  rw [pv_r1_eq _ _ (pm_K1 X d mi) rfl]; congr 1; funext a st
  rw [hf]
  dsimp only [pm_sm]
  rw [pv_ob_eq _ _ _ (pm_K1 X d mi) rfl]
  unfold pv_fp pv_if
  split
  next c fs _ =>
    unfold pm_if
    by_cases h1 : narrow ty v = v <;> by_cases h2 : fits ty v = true <;> by_cases h3 : (c == ci) = true <;> by_cases h4 : k < fs.length <;> simp [h1, h2, h3, h4] <;> rfl
  next => simp
theorem pv_putfinal {j ci k : Nat} {ty : FieldType} (hd : decode (pm_b mi) pc = .ok (.putfield j, 3)) (hf : pm_fld (pm_own mi) j = some (ci, k, false, ty, true)) (hi : (pm_y mi).name = "<init>") : pm_ev X (d + 1) mi (pc, L, st, h) = pv_v1 st fun v st => pv_r1 st fun a st => pv_if (decide (narrow ty v = v) && fits ty v) (pv_fp h a ci k v fun h => pm_ev X (d + 1) mi (pc + 3, L, st, h)) := by
  rw [pm_ev_at hd rfl]; dsimp only [pm_ins]; rw [pv_v1_eq _ _ (pm_K1 X d mi) rfl]; congr 1; funext v st
  rw [pv_r1_eq _ _ (pm_K1 X d mi) rfl]; congr 1; funext a st
  rw [hf]
  dsimp only [pm_sm]
  rw [pv_ob_eq _ _ _ (pm_K1 X d mi) rfl]
  unfold pv_fp pv_if
  split
  next c fs _ =>
    unfold pm_if
    by_cases h1 : narrow ty v = v <;> by_cases h2 : fits ty v = true <;> by_cases h3 : (c == ci) = true <;> by_cases h4 : k < fs.length <;> simp [h1, h2, h3, h4, hi] <;> rfl
  next => simp
theorem pv_iaload (hd : decode (pm_b mi) pc = .ok (.iaload, 1)) : pm_ev X (d + 1) mi (pc, L, st, h) = pv_i1 st fun j st => pv_rs st (fun a st => pv_ai h a fun n f => pv_if (pm_ok j n) (pm_ev X (d + 1) mi (pc + 1, L, .int (f j.toNatClampNeg) :: st, h))) (fun st => pv_if (pm_ok j X.1) (pm_ev X (d + 1) mi (pc + 1, L, .int (X.2 j.toNatClampNeg) :: st, h))) := by
  rw [pm_ev_at hd rfl]; dsimp only [pm_ins]; rw [pv_i1_eq _ _ (pm_K1 X d mi) rfl]; congr 1; funext j st
  rw [pv_rs_eq _ _ _ (pm_K1 X d mi) rfl]
  congr 1
  · funext a st
    rw [pv_ai_eq _ _ _ (pm_K1 X d mi) rfl]; congr 1; funext n f
    exact pv_if_eq _ _ (pm_K1 X d mi) rfl
  · funext st
    exact pv_if_eq _ _ (pm_K1 X d mi) rfl
theorem pv_iastore (hd : decode (pm_b mi) pc = .ok (.iastore, 1)) : pm_ev X (d + 1) mi (pc, L, st, h) = pv_i2 st fun j x st => pv_r1 st fun a st => pv_wi h a j x fun h => pm_ev X (d + 1) mi (pc + 1, L, st, h) := by
  rw [pm_ev_at hd rfl]; dsimp only [pm_ins]; rw [pv_i2_eq _ _ (pm_K1 X d mi) rfl]; congr 1; funext j x st
  rw [pv_r1_eq _ _ (pm_K1 X d mi) rfl]; congr 1; funext a st
  rw [pv_ai_eq _ _ _ (pm_K1 X d mi) rfl]; unfold pv_wi; congr 1; funext n f
  exact pv_if_eq _ _ (pm_K1 X d mi) rfl
theorem pv_laload (hd : decode (pm_b mi) pc = .ok (.laload, 1)) : pm_ev X (d + 1) mi (pc, L, st, h) = pv_i1 st fun j st => pv_r1 st fun a st => pv_al h a fun n f => pv_if (pm_ok j n) (pm_ev X (d + 1) mi (pc + 1, L, .long (f j.toNatClampNeg) :: st, h)) := by
  rw [pm_ev_at hd rfl]; dsimp only [pm_ins]; rw [pv_i1_eq _ _ (pm_K1 X d mi) rfl]; congr 1; funext j st
  rw [pv_r1_eq _ _ (pm_K1 X d mi) rfl]; congr 1; funext a st
  rw [pv_al_eq _ _ _ (pm_K1 X d mi) rfl]; congr 1; funext n f
  exact pv_if_eq _ _ (pm_K1 X d mi) rfl
theorem pv_lastore (hd : decode (pm_b mi) pc = .ok (.lastore, 1)) : pm_ev X (d + 1) mi (pc, L, st, h) = pv_l1 st fun x st => pv_i1 st fun j st => pv_r1 st fun a st => pv_wl h a j x fun h => pm_ev X (d + 1) mi (pc + 1, L, st, h) := by
  rw [pm_ev_at hd rfl]; dsimp only [pm_ins]; rw [pv_l1_eq _ _ (pm_K1 X d mi) rfl]; congr 1; funext x st
  rw [pv_i1_eq _ _ (pm_K1 X d mi) rfl]; congr 1; funext j st
  rw [pv_r1_eq _ _ (pm_K1 X d mi) rfl]; congr 1; funext a st
  rw [pv_al_eq _ _ _ (pm_K1 X d mi) rfl]; unfold pv_wl; congr 1; funext n f
  exact pv_if_eq _ _ (pm_K1 X d mi) rfl
theorem pv_aaload (hd : decode (pm_b mi) pc = .ok (.aaload, 1)) : pm_ev X (d + 1) mi (pc, L, st, h) = pv_i1 st fun j st => pv_r1 st fun a st => pv_aq h a fun n f => pv_if (pm_ok j n) (pm_ev X (d + 1) mi (pc + 1, L, va_rf (f j.toNatClampNeg) :: st, h)) := by
  rw [pm_ev_at hd rfl]; dsimp only [pm_ins]; rw [pv_i1_eq _ _ (pm_K1 X d mi) rfl]; congr 1; funext j st
  rw [pv_r1_eq _ _ (pm_K1 X d mi) rfl]; congr 1; funext a st
  rw [pv_aq_eq _ _ _ (pm_K1 X d mi) rfl]; congr 1; funext n f
  exact pv_if_eq _ _ (pm_K1 X d mi) rfl
theorem pv_aastore (hd : decode (pm_b mi) pc = .ok (.aastore, 1)) : pm_ev X (d + 1) mi (pc, L, st, h) = pv_r1 st fun v st => pv_i1 st fun j st => pv_r1 st fun a st => pv_wq h a j v fun h => pm_ev X (d + 1) mi (pc + 1, L, st, h) := by
  rw [pm_ev_at hd rfl]; dsimp only [pm_ins]; rw [pv_r1_eq _ _ (pm_K1 X d mi) rfl]; congr 1; funext v st
  rw [pv_i1_eq _ _ (pm_K1 X d mi) rfl]; congr 1; funext j st
  rw [pv_r1_eq _ _ (pm_K1 X d mi) rfl]; congr 1; funext a st
  rw [pv_aq_eq _ _ _ (pm_K1 X d mi) rfl]; unfold pv_wq pv_oc; congr 1; funext n f
  rw [pv_ob_eq _ _ _ (pm_K1 X d mi) rfl]
  split
  next => exact pv_if_eq _ _ (pm_K1 X d mi) rfl
  next => rfl
theorem pv_alen (hd : decode (pm_b mi) pc = .ok (.arraylength, 1)) : pm_ev X (d + 1) mi (pc, L, st, h) = pv_rs st (fun a st => pv_ai h a fun n _ => pm_ev X (d + 1) mi (pc + 1, L, .int (Int32.ofNat n) :: st, h)) (fun st => pm_ev X (d + 1) mi (pc + 1, L, .int (Int32.ofNat X.1) :: st, h)) := by
  rw [pm_ev_at hd rfl]; dsimp only [pm_ins]; rw [pv_rs_eq _ _ _ (pm_K1 X d mi) rfl]
  congr 1
  funext a st
  rw [pv_ai_eq _ _ _ (pm_K1 X d mi) rfl]
  rfl
theorem pv_newi (hd : decode (pm_b mi) pc = .ok (.newarray .int, 2)) : pm_ev X (d + 1) mi (pc, L, st, h) = pv_i1 st fun n st => pv_if (!decide (n < 0) && decide (n.toNatClampNeg ≤ 1000)) (pm_ev X (d + 1) mi (pc + 2, L, .ref h.length :: st, h ++ [.inl (0, n.toNatClampNeg, .inl (fun _ => 0))])) := by
  rw [pm_ev_at hd rfl]; dsimp only [pm_ins]; rw [pv_i1_eq _ _ (pm_K1 X d mi) rfl]; congr 1; funext n st; exact pv_if_eq _ _ (pm_K1 X d mi) rfl
theorem pv_newl (hd : decode (pm_b mi) pc = .ok (.newarray .long, 2)) : pm_ev X (d + 1) mi (pc, L, st, h) = pv_i1 st fun n st => pv_if (!decide (n < 0) && decide (n.toNatClampNeg ≤ 1000)) (pm_ev X (d + 1) mi (pc + 2, L, .ref h.length :: st, h ++ [.inl (1, n.toNatClampNeg, .inr (.inl (fun _ => 0)))])) := by
  rw [pm_ev_at hd rfl]; dsimp only [pm_ins]; rw [pv_i1_eq _ _ (pm_K1 X d mi) rfl]; congr 1; funext n st; exact pv_if_eq _ _ (pm_K1 X d mi) rfl
theorem pv_newq {j : Nat} (hd : decode (pm_b mi) pc = .ok (.anewarray j, 3)) (hj : pm_new (pm_own mi) j = some 1) : pm_ev X (d + 1) mi (pc, L, st, h) = pv_i1 st fun n st => pv_if (!decide (n < 0) && decide (n.toNatClampNeg ≤ 1000)) (pm_ev X (d + 1) mi (pc + 3, L, .ref h.length :: st, h ++ [.inl (2, n.toNatClampNeg, .inr (.inr (.inr (.inr (fun _ => none)))))])) := by
  rw [pm_ev_at hd rfl]; dsimp only [pm_ins]; rw [pv_i1_eq _ _ (pm_K1 X d mi) rfl]; congr 1; funext n st
  rw [hj, show decide (some 1 = some 1) = true from rfl, Bool.and_true]
  exact pv_if_eq _ _ (pm_K1 X d mi) rfl
theorem pv_new {j ci : Nat} (hd : decode (pm_b mi) pc = .ok (.new j, 3)) (hj : pm_new (pm_own mi) j = some ci) : pm_ev X (d + 1) mi (pc, L, st, h) = pm_ev X (d + 1) mi (pc + 3, L, .ref h.length :: st, h ++ [.inr (ci, pm_df ci)]) := by
  rw [pm_ev_at hd rfl]; dsimp only [pm_ins]; rw [hj]; rfl
theorem pv_ireturn {ty : FieldType} (hd : decode (pm_b mi) pc = .ok (.ireturn, 1)) (hr : pm_r mi = some ty) : pm_ev X (d + 1) mi (pc, L, st, h) = pv_i1 st fun v st => pv_if (st.isEmpty && decide (narrow ty (.int v) = .int v)) (some (some (.int v), h)) := by
  rw [pm_ev_at hd rfl]; dsimp only [pm_ins]; rw [pv_i1_eq _ _ (pm_K1 X d mi) rfl]; congr 1; funext v st; rw [hr]; exact pv_if_eq _ _ (pm_K1 X d mi) rfl
theorem pv_lreturn (hd : decode (pm_b mi) pc = .ok (.lreturn, 1)) (hr : pm_r mi = some .long) : pm_ev X (d + 1) mi (pc, L, st, h) = pv_l1 st fun v st => pv_if st.isEmpty (some (some (.long v), h)) := by
  rw [pm_ev_at hd rfl]; dsimp only [pm_ins]; rw [pv_l1_eq _ _ (pm_K1 X d mi) rfl]; congr 1; funext v st
  rw [hr, show decide ((some FieldType.long) = some .long) = true from rfl, Bool.and_true]; exact pv_if_eq _ _ (pm_K1 X d mi) rfl
theorem pv_return (hd : decode (pm_b mi) pc = .ok (.return_, 1)) (hr : pm_r mi = none) : pm_ev X (d + 1) mi (pc, L, st, h) = pv_if st.isEmpty (some (none, h)) := by
  rw [pm_ev_at hd rfl]; dsimp only [pm_ins]
  rw [hr, show decide ((none : Option FieldType) = none) = true from rfl, Bool.and_true]; exact pv_if_eq _ _ (pm_K1 X d mi) rfl
end PVI
