/-! THE VALUE OF A RUN: a noncomputable function, with an equation for each instruction -/
abbrev pv_R : Type := Option (Option Value × List va_E)
theorem pm_run_more (X : pm_X) : ∀ (n d mi : Nat) (f : pm_F4) (r : Option Value × List va_E), pm_run X n d mi f = some r → pm_run X (n + 1) d mi f = some r
  | 0, d, mi, f, r, e => by simp [pm_run] at e
  | n + 1, d, mi, f, r, e => by
    rw [pm_run] at e ⊢
    split at e
    next => cases e
    next hd =>
      rw [if_neg hd]
      cases hs : pm_step X mi f with
      | none => rw [hs] at e; cases e
      | some q =>
        rw [hs] at e
        rcases q with g | q | ⟨k, as, g⟩
        · exact pm_run_more X n d mi g r e
        · exact e
        · dsimp only at e ⊢
          by_cases hk : k = pm_KO
          · rw [if_pos hk] at e ⊢
            split at e
            next x =>
              split at e
              next hx => rw [if_pos hx]; exact pm_run_more X n d mi _ r e
              next => cases e
            next => cases e
          · rw [if_neg hk] at e ⊢
            by_cases hc : pm_cok k as = true
            · rw [if_pos hc] at e ⊢
              cases hr : pm_run X n (d - 1) k (pm_entry k as g.2.2.2) with
              | none => rw [hr] at e; cases e
              | some q =>
                rw [hr] at e
                rw [pm_run_more X n (d - 1) k _ q hr]
                exact pm_run_more X n d mi _ r e
            · rw [if_neg hc] at e; cases e
theorem pm_run_le (X : pm_X) {n m d mi : Nat} {f : pm_F4} {r : Option Value × List va_E} (h : n ≤ m) (e : pm_run X n d mi f = some r) : pm_run X m d mi f = some r := by
  induction h with
  | refl => exact e
  | step _ ih => exact pm_run_more X _ d mi f r ih
theorem pm_run_det (X : pm_X) {n m d mi : Nat} {f : pm_F4} {r r' : Option Value × List va_E} (e : pm_run X n d mi f = some r) (e' : pm_run X m d mi f = some r') : r = r' := by
  rcases Nat.le_total n m with h | h
  · exact Option.some.inj ((pm_run_le X h e).symm.trans e')
  · exact Option.some.inj (e.symm.trans (pm_run_le X h e'))
noncomputable def pm_ev (X : pm_X) (d mi : Nat) (f : pm_F4) : pv_R := @dite _ (∃ r n, pm_run X n d mi f = some r) (Classical.propDecidable _) (fun h => some (Classical.choose h)) (fun _ => none)
theorem pm_ev_iff {X : pm_X} {d mi : Nat} {f : pm_F4} {r : Option Value × List va_E} : pm_ev X d mi f = some r ↔ ∃ n, pm_run X n d mi f = some r := by
  unfold pm_ev
  by_cases h : ∃ r n, pm_run X n d mi f = some r
  · rw [dif_pos h]
    obtain ⟨n, hn⟩ := Classical.choose_spec h
    constructor
    · intro e
      cases e
      exact ⟨n, hn⟩
    · rintro ⟨m, hm⟩
      rw [pm_run_det X hn hm]
  · rw [dif_neg h]
    constructor
    · intro e; cases e
    · rintro ⟨m, hm⟩
      exact absurd ⟨r, m, hm⟩ h
theorem pv_ext {a b : pv_R} (h : ∀ r, a = some r ↔ b = some r) : a = b := by
  cases a with
  | none =>
    cases b with
    | none => rfl
    | some r => exact ((h r).mpr rfl)
  | some r => exact ((h r).mp rfl).symm
/-- a method at a heap -/
noncomputable def pm_call (X : pm_X) (d k : Nat) (as : List Value) (h : List va_E) : pv_R := if pm_cok k as = true then pm_ev X d k (pm_entry k as h) else none
noncomputable def pv_call (X : pm_X) (d k : Nat) (as : List Value) (h : List va_E) (F : Option Value → List va_E → pv_R) : pv_R := match pm_call X d k as h with
  | some (v, h1) => F v h1
  | none => none
theorem pv_call_of {X : pm_X} {d k : Nat} {as : List Value} {h h1 : List va_E} {v : Option Value} {F : Option Value → List va_E → pv_R} (e : pm_call X d k as h = some (v, h1)) : pv_call X d k as h F = F v h1 := by
  unfold pv_call
  rw [e]
noncomputable def pm_Kk (X : pm_X) (d mi k : Nat) (as : List Value) (g : pm_F4) : pv_R := if k = pm_KO then (match as with
    | [.int x] => if 7 ≤ d + 1 ∧ ¬ x < 0 ∧ x < 65536 then pm_ev X (d + 1) mi (g.1, g.2.1, .int (pm_kind x) :: g.2.2.1, g.2.2.2) else none
    | _ => none)
  else pv_call X d k as g.2.2.2 fun v h => pm_ev X (d + 1) mi (g.1, g.2.1, v.toList ++ g.2.2.1, h)
noncomputable def pm_K1 (X : pm_X) (d mi : Nat) (o : pm_O) : pv_R := match o with
  | none => none
  | some (.inl g) => pm_ev X (d + 1) mi g
  | some (.inr (.inl r)) => some r
  | some (.inr (.inr (k, as, g))) => pm_Kk X d mi k as g
theorem pm_run_succ (X : pm_X) (n d mi : Nat) (f : pm_F4) (r : Option Value × List va_E) : pm_run X (n + 1) (d + 1) mi f = some r ↔ (match pm_step X mi f with
    | none => False
    | some (.inl g) => pm_run X n (d + 1) mi g = some r
    | some (.inr (.inl q)) => q = r
    | some (.inr (.inr (k, as, g))) => if k = pm_KO then (match as with
      | [.int x] => (7 ≤ d + 1 ∧ ¬ x < 0 ∧ x < 65536) ∧ pm_run X n (d + 1) mi (g.1, g.2.1, .int (pm_kind x) :: g.2.2.1, g.2.2.2) = some r
      | _ => False)
      else pm_cok k as = true ∧ ∃ v h, pm_run X n d k (pm_entry k as g.2.2.2) = some (v, h) ∧ pm_run X n (d + 1) mi (g.1, g.2.1, v.toList ++ g.2.2.1, h) = some r) := by
  rw [pm_run, if_neg (by omega)]
  cases hs : pm_step X mi f with
  | none => simp
  | some q =>
    rcases q with g | q | ⟨k, as, g⟩
    · exact Iff.rfl
    · dsimp only
      exact Option.some_inj
    · dsimp only
      by_cases hk : k = pm_KO
      · rw [if_pos hk, if_pos hk]
        split
        next x =>
          split
          next hx => exact ⟨fun e => ⟨hx, e⟩, fun e => e.2⟩
          next hx => exact ⟨fun e => absurd e (by simp), fun e => absurd e.1 hx⟩
        next => simp
      · rw [if_neg hk, if_neg hk]
        by_cases hc : pm_cok k as = true
        · rw [if_pos hc, show d + 1 - 1 = d by omega]
          cases hr : pm_run X n d k (pm_entry k as g.2.2.2) with
          | none => simp
          | some q =>
            obtain ⟨v, h⟩ := q
            dsimp only
            constructor
            · intro e; exact ⟨hc, v, h, rfl, e⟩
            · rintro ⟨-, v', h', e1, e2⟩
              cases e1
              exact e2
        · rw [if_neg hc]
          simp [hc]
theorem pm_ev_step (X : pm_X) (d mi : Nat) (f : pm_F4) : pm_ev X (d + 1) mi f = pm_K1 X d mi (pm_step X mi f) := by
  apply pv_ext
  intro r
  rw [pm_ev_iff]
  have key : (∃ n, pm_run X n (d + 1) mi f = some r) ↔ ∃ n, pm_run X (n + 1) (d + 1) mi f = some r := by
    constructor
    · rintro ⟨n, h⟩
      exact ⟨n, pm_run_more X n _ _ _ _ h⟩
    · rintro ⟨n, h⟩
      exact ⟨n + 1, h⟩
  rw [key]
  simp only [pm_run_succ]
  unfold pm_K1
  cases hs : pm_step X mi f with
  | none => simp
  | some q =>
    rcases q with g | q | ⟨k, as, g⟩
    · dsimp only
      rw [pm_ev_iff]
    · dsimp only
      constructor
      · rintro ⟨-, h⟩; rw [h]
      · intro h; exact ⟨0, Option.some.inj h⟩
    · dsimp only [pm_Kk]
      by_cases hk : k = pm_KO
      · simp only [if_pos hk]
        split
        next x =>
          by_cases hx : 7 ≤ d + 1 ∧ ¬ x < 0 ∧ x < 65536
          · rw [if_pos hx, pm_ev_iff]
            constructor
            · rintro ⟨n, -, h⟩; exact ⟨n, h⟩
            · rintro ⟨n, h⟩; exact ⟨n, hx, h⟩
          · rw [if_neg hx]
            constructor
            · rintro ⟨n, h, -⟩; exact absurd h hx
            · intro h; cases h
        next =>
          constructor
          · rintro ⟨n, h⟩; exact h.elim
          · intro h; cases h
      · simp only [if_neg hk]
        unfold pv_call pm_call
        by_cases hc : pm_cok k as = true
        · rw [if_pos hc]
          constructor
          · rintro ⟨n, -, v, h, e1, e2⟩
            rw [pm_ev_iff.mpr ⟨n, e1⟩]
            exact pm_ev_iff.mpr ⟨n, e2⟩
          · intro e
            cases he : pm_ev X d k (pm_entry k as g.2.2.2) with
            | none => rw [he] at e; cases e
            | some q =>
              obtain ⟨v, h⟩ := q
              rw [he] at e
              obtain ⟨n1, e1⟩ := pm_ev_iff.mp he
              obtain ⟨n2, e2⟩ := pm_ev_iff.mp e
              exact ⟨max n1 n2, hc, v, h, pm_run_le X (Nat.le_max_left _ _) e1, pm_run_le X (Nat.le_max_right _ _) e2⟩
        · rw [if_neg hc]
          constructor
          · rintro ⟨n, h, -⟩; exact absurd h hc
          · intro h; cases h
theorem pm_ev_at {X : pm_X} {d mi pc n : Nat} {i : Instr} {L : List (Option Value)} {st : List Value} {h : List va_E} (hd : decode (pm_b mi) pc = .ok (i, n)) (hl : pm_ln i n = true) : pm_ev X (d + 1) mi (pc, L, st, h) = pm_K1 X d mi (pm_ins X mi i pc L st h) := by
  rw [pm_ev_step]
  unfold pm_step
  rw [hd]
  simp only [pm_if, hl, if_true]
