/-! what a step of the pure machine says of its start -/
theorem pm_nx_inv {pc : Nat} {L : List (Option Value)} {st : List Value} {h : List va_E} {r} (e : pm_nx pc L st h = some r) : r = .inl (pc, L, st, h) := (Option.some.inj e).symm
theorem pm_i1_inv {st : List Value} {k : Int32 → List Value → pm_O} {r} (e : pm_i1 st k = some r) : ∃ x st', st = .int x :: st' ∧ k x st' = some r := by
  unfold pm_i1 at e
  split at e
  next x st' => exact ⟨x, st', rfl, e⟩
  next => cases e
theorem pm_i2_inv {st : List Value} {k : Int32 → Int32 → List Value → pm_O} {r} (e : pm_i2 st k = some r) : ∃ x y st', st = .int y :: .int x :: st' ∧ k x y st' = some r := by
  unfold pm_i2 at e
  split at e
  next y x st' => exact ⟨x, y, st', rfl, e⟩
  next => cases e
theorem pm_l1_inv {st : List Value} {k : Int64 → List Value → pm_O} {r} (e : pm_l1 st k = some r) : ∃ x st', st = .long x :: st' ∧ k x st' = some r := by
  unfold pm_l1 at e
  split at e
  next x st' => exact ⟨x, st', rfl, e⟩
  next => cases e
theorem pm_l2_inv {st : List Value} {k : Int64 → Int64 → List Value → pm_O} {r} (e : pm_l2 st k = some r) : ∃ x y st', st = .long y :: .long x :: st' ∧ k x y st' = some r := by
  unfold pm_l2 at e
  split at e
  next y x st' => exact ⟨x, y, st', rfl, e⟩
  next => cases e
theorem pm_gi_inv {L : List (Option Value)} {i : Nat} {k : Int32 → pm_O} {r} (e : pm_gi L i k = some r) : ∃ x, L[i]? = some (some (.int x)) ∧ k x = some r := by
  unfold pm_gi at e
  split at e
  next x hx => exact ⟨x, hx, e⟩
  next => cases e
theorem pm_gl_inv {L : List (Option Value)} {i : Nat} {k : Int64 → pm_O} {r} (e : pm_gl L i k = some r) : ∃ x, L[i]? = some (some (.long x)) ∧ k x = some r := by
  unfold pm_gl at e
  split at e
  next x hx => exact ⟨x, hx, e⟩
  next => cases e
theorem pm_ga_inv {L : List (Option Value)} {i : Nat} {k : Value → pm_O} {r} (bs sb : Nat) (e : pm_ga L i k = some r) : ∃ v a, L[i]? = some (some v) ∧ pm_v bs sb v = .ref a ∧ k v = some r := by
  unfold pm_ga at e
  split at e
  next x hx => exact ⟨_, _, hx, rfl, e⟩
  next x hx => exact ⟨_, _, hx, rfl, e⟩
  next => cases e
theorem pm_s1_inv {L : List (Option Value)} {i : Nat} {v : Value} {k : List (Option Value) → pm_O} {r} (e : pm_s1 L i v k = some r) : i < L.length ∧ pm_lo L i = true ∧ k (L.set i (some v)) = some r := by
  unfold pm_s1 at e
  split at e
  next h => exact ⟨h.1, h.2, e⟩
  next => cases e
theorem pm_s2_inv {L : List (Option Value)} {i : Nat} {v : Value} {k : List (Option Value) → pm_O} {r} (e : pm_s2 L i v k = some r) : i + 1 < L.length ∧ pm_lo L i = true ∧ k ((L.set i (some v)).set (i + 1) none) = some r := by
  unfold pm_s2 at e
  split at e
  next h => exact ⟨h.1, h.2, e⟩
  next => cases e
theorem pm_to_inv {pc : Nat} {off : Int} {k : Nat → pm_O} {r} (e : pm_to pc off k = some r) : ∃ t : Nat, (pc : Int) + off = (t : Int) ∧ k t = some r := by
  unfold pm_to at e
  split at e
  next h => exact ⟨_, (Int.toNat_of_nonneg h).symm, e⟩
  next => cases e
theorem pm_ob_inv {h : List va_E} {a : Nat} {k : Nat → List Value → pm_O} {r} (e : pm_ob h a k = some r) : ∃ c fs, h[a]? = some (.inr (c, fs)) ∧ k c fs = some r := by
  unfold pm_ob at e
  split at e
  next c fs hx => exact ⟨c, fs, hx, e⟩
  next => cases e
theorem pm_ai_inv {h : List va_E} {a : Nat} {k : Nat → (Nat → Int32) → pm_O} {r} (e : pm_ai h a k = some r) : ∃ n f, h[a]? = some (.inl (0, n, .inl f)) ∧ k n f = some r := by
  unfold pm_ai at e
  split at e
  next n f hx => exact ⟨n, f, hx, e⟩
  next => cases e
theorem pm_al_inv {h : List va_E} {a : Nat} {k : Nat → (Nat → Int64) → pm_O} {r} (e : pm_al h a k = some r) : ∃ n f, h[a]? = some (.inl (1, n, .inr (.inl f))) ∧ k n f = some r := by
  unfold pm_al at e
  split at e
  next n f hx => exact ⟨n, f, hx, e⟩
  next => cases e
theorem pm_aq_inv {h : List va_E} {a : Nat} {k : Nat → (Nat → Option Nat) → pm_O} {r} (e : pm_aq h a k = some r) : ∃ n f, h[a]? = some (.inl (2, n, .inr (.inr (.inr (.inr f))))) ∧ k n f = some r := by
  unfold pm_aq at e
  split at e
  next n f hx => exact ⟨n, f, hx, e⟩
  next => cases e
theorem pm_r1_inv {st : List Value} {k : Nat → List Value → pm_O} {r} (e : pm_r1 st k = some r) : ∃ a st', st = .ref a :: st' ∧ k a st' = some r := by
  unfold pm_r1 at e
  split at e
  next a st' => exact ⟨a, st', rfl, e⟩
  next => cases e
theorem pm_v1_inv {st : List Value} {k : Value → List Value → pm_O} {r} (e : pm_v1 st k = some r) : ∃ v st', st = v :: st' ∧ k v st' = some r := by
  unfold pm_v1 at e
  split at e
  next v st' => exact ⟨v, st', rfl, e⟩
  next => cases e
theorem pm_sm_inv {α : Type} {o : Option α} {k : α → pm_O} {r} (e : pm_sm o k = some r) : ∃ x, o = some x ∧ k x = some r := by
  unfold pm_sm at e
  split at e
  next x => exact ⟨x, rfl, e⟩
  next => cases e
theorem pm_if_inv {b : Bool} {k : pm_O} {r} (e : pm_if b k = some r) : b = true ∧ k = some r := by
  unfold pm_if at e
  split at e
  next h => exact ⟨h, e⟩
  next => cases e
theorem pm_rs_inv {st : List Value} {k : Nat → List Value → pm_O} {k' : List Value → pm_O} {r} (e : pm_rs st k k' = some r) : (∃ a st', st = .ref a :: st' ∧ k a st' = some r) ∨ (∃ a st', st = .retAddr a :: st' ∧ k' st' = some r) := by
  unfold pm_rs at e
  split at e
  next a st' => exact Or.inl ⟨a, st', rfl, e⟩
  next a st' => exact Or.inr ⟨a, st', rfl, e⟩
  next => cases e
theorem pm_cut_inv {n : Nat} {st : List Value} {k : List Value → List Value → pm_O} {r} (e : pm_cut n st k = some r) : ∃ as st', as.length = n ∧ st = as.reverse ++ st' ∧ k as st' = some r := by
  unfold pm_cut at e
  split at e
  next h => exact ⟨_, _, by simp [h], by simp, e⟩
  next => cases e
theorem pm_inv_inv {k : Nat} {as : List Value} {f : pm_F4} {r} (e : pm_inv k as f = some r) : pm_w8 f.2.2.1 = true ∧ r = .inr (.inr (k, as, f)) := by
  unfold pm_inv at e
  split at e
  next h => exact ⟨h, (Option.some.inj e).symm⟩
  next => cases e
theorem pm_rt_inv {v : Option Value} {h : List va_E} {r} (e : pm_rt v h = some r) : r = .inr (.inl (v, h)) := (Option.some.inj e).symm
theorem pm_cats {bs sb : Nat} (st : List Value) : ((st.map (pm_v bs sb)).map fun v => v.category) = st.map fun v => v.category := by
  rw [List.map_map]
  apply List.map_congr_left
  intro v _
  exact pm_v_cat v
/-! heaps -/
theorem pm_H_set {D : va_G} {cy : Nat → ClassId} {bs sb a : Nat} {h : List va_E} {e e' : va_E} {H0 H H1 : Heap} {locs locs1 : List Loc} (hH : pm_H D cy bs sb h H0 H locs) (hz : H1.size = H.size) (hP : va_P D vwCl ((pm_W cy bs sb h).set a (bs + a, pm_e cy bs sb e')) H1) (hS : va_S (fun q => bs ≤ q) H0 H1 locs1) : pm_H D cy bs sb (h.set a e') H0 H1 locs1 :=
  ⟨by rw [hz, hH.1, List.length_set], by rw [pm_W_set]; exact hP, hS⟩
