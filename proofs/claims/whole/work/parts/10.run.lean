/-! what a step gives: its kinds of results, and that heaps only grow -/
def pm_isR (i : Instr) : Bool := match i with
  | .ireturn | .lreturn | .return_ => true
  | _ => false
def pm_isI (i : Instr) : Bool := match i with
  | .invokevirtual _ | .invokestatic _ | .invokespecial _ => true
  | _ => false
set_option maxHeartbeats 4000000 in
theorem pm_ins_easy {X : pm_X} {mi : Nat} {i : Instr} {pc : Nat} {L : List (Option Value)} {st : List Value} {h : List va_E} {r} (hs : pm_ins X mi i pc L st h = some r) (hez : pm_easy i = true) (hr : pm_isR i = false) : ∃ pc' L' st', r = .inl (pc', L', st', h) := by
  cases i <;> first
    | exact absurd (show false = true from hez) (by decide)
    | exact absurd (show true = false from hr) (by decide)
    | (dsimp only [pm_ins, pm_nx, pm_i1, pm_i2, pm_l1, pm_l2, pm_gi, pm_gl, pm_ga, pm_s1, pm_s2, pm_to, pm_ob, pm_ai, pm_al, pm_aq, pm_r1, pm_v1, pm_sm, pm_if, pm_rs] at hs
       repeat' (split at hs)
       all_goals first
         | (cases hs; exact ⟨_, _, _, rfl⟩)
         | exact absurd hs (by simp))
theorem pm_mono_set {h : List va_E} {a : Nat} {e e' : va_E} (h1 : h[a]? = some e) (h2 : pm_es e' = pm_es e) : h.length ≤ (h.set a e').length ∧ pm_sl h ≤ pm_sl (h.set a e') := by
  rw [List.length_set, pm_sl_set h a e e' h1 h2]
  exact ⟨Nat.le_refl _, Nat.le_refl _⟩
theorem pm_mono_app {h : List va_E} {e : va_E} : h.length ≤ (h ++ [e]).length ∧ pm_sl h ≤ pm_sl (h ++ [e]) := by
  rw [List.length_append, pm_sl_app]
  omega
set_option maxHeartbeats 4000000 in
theorem pm_mth_same {k pc : Nat} {L : List (Option Value)} {st : List Value} {h : List va_E} {r} (hs : pm_mth k pc L st h = some r) : ∃ pc' L' st', r = .inl (pc', L', st', h) := by
  dsimp only [pm_mth, pm_nx, pm_i2, pm_l1, pm_l2] at hs
  repeat' (split at hs)
  all_goals first
    | (cases hs; exact ⟨_, _, _, rfl⟩)
    | exact absurd hs (by simp)
theorem pm_ins_mono {X : pm_X} {mi : Nat} {i : Instr} {pc : Nat} {L : List (Option Value)} {st : List Value} {h : List va_E} {g : pm_F4} (hs : pm_ins X mi i pc L st h = some (.inl g)) : h.length ≤ g.2.2.2.length ∧ pm_sl h ≤ pm_sl g.2.2.2 := by
  by_cases hez : pm_easy i = true
  · by_cases hr : pm_isR i = false
    · obtain ⟨pc', L', st', e⟩ := pm_ins_easy hs hez hr
      cases e
      exact ⟨Nat.le_refl _, Nat.le_refl _⟩
    · cases i <;> first
        | exact absurd rfl hr
        | skip
      · dsimp only [pm_ins] at hs
        obtain ⟨v, st', -, hs⟩ := pm_i1_inv hs
        obtain ⟨ty, -, hs⟩ := pm_sm_inv hs
        obtain ⟨-, hs⟩ := pm_if_inv hs
        cases pm_rt_inv hs
      · dsimp only [pm_ins] at hs
        obtain ⟨v, st', -, hs⟩ := pm_l1_inv hs
        obtain ⟨-, hs⟩ := pm_if_inv hs
        cases pm_rt_inv hs
      · dsimp only [pm_ins] at hs
        obtain ⟨-, hs⟩ := pm_if_inv hs
        cases pm_rt_inv hs
  · cases i with
    | putfield j =>
      dsimp only [pm_ins] at hs
      obtain ⟨v, st', -, hs⟩ := pm_v1_inv hs
      obtain ⟨a, st', -, hs⟩ := pm_r1_inv hs
      obtain ⟨q, h1, hs⟩ := pm_sm_inv hs
      obtain ⟨c0, fs, h2, hs⟩ := pm_ob_inv hs
      obtain ⟨h3, hs⟩ := pm_if_inv hs
      cases pm_nx_inv hs
      exact pm_mono_set h2 (by simp [pm_es])
    | iastore =>
      dsimp only [pm_ins] at hs
      obtain ⟨j, x, st', -, hs⟩ := pm_i2_inv hs
      obtain ⟨a, st', -, hs⟩ := pm_r1_inv hs
      obtain ⟨n, f, h2, hs⟩ := pm_ai_inv hs
      obtain ⟨h3, hs⟩ := pm_if_inv hs
      cases pm_nx_inv hs
      exact pm_mono_set h2 (by simp [pm_es])
    | lastore =>
      dsimp only [pm_ins] at hs
      obtain ⟨x, st', -, hs⟩ := pm_l1_inv hs
      obtain ⟨j, st', -, hs⟩ := pm_i1_inv hs
      obtain ⟨a, st', -, hs⟩ := pm_r1_inv hs
      obtain ⟨n, f, h2, hs⟩ := pm_al_inv hs
      obtain ⟨h3, hs⟩ := pm_if_inv hs
      cases pm_nx_inv hs
      exact pm_mono_set h2 (by simp [pm_es])
    | aastore =>
      dsimp only [pm_ins] at hs
      obtain ⟨v, st', -, hs⟩ := pm_r1_inv hs
      obtain ⟨j, st', -, hs⟩ := pm_i1_inv hs
      obtain ⟨a, st', -, hs⟩ := pm_r1_inv hs
      obtain ⟨n, f, h2, hs⟩ := pm_aq_inv hs
      obtain ⟨c0, fs, h4, hs⟩ := pm_ob_inv hs
      obtain ⟨h3, hs⟩ := pm_if_inv hs
      cases pm_nx_inv hs
      exact pm_mono_set h2 (by simp [pm_es])
    | newarray t =>
      dsimp only [pm_ins] at hs
      obtain ⟨n, st', -, hs⟩ := pm_i1_inv hs
      obtain ⟨h3, hs⟩ := pm_if_inv hs
      cases t <;> first
        | (cases pm_nx_inv hs; exact pm_mono_app)
        | cases hs
    | anewarray j =>
      dsimp only [pm_ins] at hs
      obtain ⟨n, st', -, hs⟩ := pm_i1_inv hs
      obtain ⟨h3, hs⟩ := pm_if_inv hs
      cases pm_nx_inv hs
      exact pm_mono_app
    | new j =>
      dsimp only [pm_ins] at hs
      obtain ⟨ci, h1, hs⟩ := pm_sm_inv hs
      cases pm_nx_inv hs
      exact pm_mono_app
    | invokevirtual j =>
      dsimp only [pm_ins] at hs
      obtain ⟨q, h1, hs⟩ := pm_sm_inv hs
      obtain ⟨h2, hs⟩ := pm_if_inv hs
      obtain ⟨as, st', -, -, hs⟩ := pm_cut_inv hs
      obtain ⟨a, st', -, hs⟩ := pm_r1_inv hs
      obtain ⟨c0, fs, h4, hs⟩ := pm_ob_inv hs
      obtain ⟨h3, hs⟩ := pm_if_inv hs
      cases (pm_inv_inv hs).2
    | invokestatic j =>
      dsimp only [pm_ins] at hs
      split at hs
      · obtain ⟨dp, n, st', -, hs⟩ := pm_i2_inv hs
        obtain ⟨a, st', -, hs⟩ := pm_r1_inv hs
        obtain ⟨sp, st', -, hs⟩ := pm_i1_inv hs
        obtain ⟨a0, st', -, hs⟩ := pm_r1_inv hs
        obtain ⟨n0, f, h1, hs⟩ := pm_ai_inv hs
        obtain ⟨n1, f1, h2, hs⟩ := pm_ai_inv hs
        obtain ⟨h3, hs⟩ := pm_if_inv hs
        cases pm_nx_inv hs
        exact pm_mono_set h2 (by simp [pm_es])
      · obtain ⟨q, h1, hs⟩ := pm_sm_inv hs
        obtain ⟨h2, hs⟩ := pm_if_inv hs
        split at hs
        · obtain ⟨h3, hs⟩ := pm_if_inv hs
          obtain ⟨pc', L', st', e⟩ := pm_mth_same hs
          cases e
          exact ⟨Nat.le_refl _, Nat.le_refl _⟩
        · obtain ⟨as, st', -, -, hs⟩ := pm_cut_inv hs
          cases (pm_inv_inv hs).2
    | invokespecial j =>
      dsimp only [pm_ins] at hs
      split at hs
      · obtain ⟨a, st', -, hs⟩ := pm_r1_inv hs
        obtain ⟨h8, hs⟩ := pm_if_inv hs
        cases pm_nx_inv hs
        exact ⟨Nat.le_refl _, Nat.le_refl _⟩
      · obtain ⟨q, h1, hs⟩ := pm_sm_inv hs
        obtain ⟨h2, hs⟩ := pm_if_inv hs
        obtain ⟨as, st', -, -, hs⟩ := pm_cut_inv hs
        obtain ⟨a, st', -, hs⟩ := pm_r1_inv hs
        cases (pm_inv_inv hs).2
    | _ => exact absurd rfl hez
/-- what returns -/
theorem pm_ins_ret {X : pm_X} {mi : Nat} {i : Instr} {pc : Nat} {L : List (Option Value)} {st : List Value} {h h1 : List va_E} {r : Option Value} (hs : pm_ins X mi i pc L st h = some (.inr (.inl (r, h1)))) : h1 = h ∧
    ((∃ v ty, i = .ireturn ∧ st = [.int v] ∧ r = some (.int v) ∧ pm_r mi = some ty ∧ narrow ty (.int v) = .int v) ∨ (∃ v, i = .lreturn ∧ st = [.long v] ∧ r = some (.long v) ∧ pm_r mi = some .long) ∨ (i = .return_ ∧ st = [] ∧ r = none ∧ pm_r mi = none)) := by
  by_cases hr : pm_isR i = false
  · exfalso
    by_cases hez : pm_easy i = true
    · obtain ⟨pc', L', st', e⟩ := pm_ins_easy hs hez hr
      cases e
    · cases i with
      | putfield j =>
        dsimp only [pm_ins] at hs
        obtain ⟨v, st', -, hs⟩ := pm_v1_inv hs
        obtain ⟨a, st', -, hs⟩ := pm_r1_inv hs
        obtain ⟨q, h1, hs⟩ := pm_sm_inv hs
        obtain ⟨c0, fs, h2, hs⟩ := pm_ob_inv hs
        obtain ⟨h3, hs⟩ := pm_if_inv hs
        cases pm_nx_inv hs
      | iastore =>
        dsimp only [pm_ins] at hs
        obtain ⟨j, x, st', -, hs⟩ := pm_i2_inv hs
        obtain ⟨a, st', -, hs⟩ := pm_r1_inv hs
        obtain ⟨n, f, h2, hs⟩ := pm_ai_inv hs
        obtain ⟨h3, hs⟩ := pm_if_inv hs
        cases pm_nx_inv hs
      | lastore =>
        dsimp only [pm_ins] at hs
        obtain ⟨x, st', -, hs⟩ := pm_l1_inv hs
        obtain ⟨j, st', -, hs⟩ := pm_i1_inv hs
        obtain ⟨a, st', -, hs⟩ := pm_r1_inv hs
        obtain ⟨n, f, h2, hs⟩ := pm_al_inv hs
        obtain ⟨h3, hs⟩ := pm_if_inv hs
        cases pm_nx_inv hs
      | aastore =>
        dsimp only [pm_ins] at hs
        obtain ⟨v, st', -, hs⟩ := pm_r1_inv hs
        obtain ⟨j, st', -, hs⟩ := pm_i1_inv hs
        obtain ⟨a, st', -, hs⟩ := pm_r1_inv hs
        obtain ⟨n, f, h2, hs⟩ := pm_aq_inv hs
        obtain ⟨c0, fs, h4, hs⟩ := pm_ob_inv hs
        obtain ⟨h3, hs⟩ := pm_if_inv hs
        cases pm_nx_inv hs
      | newarray t =>
        dsimp only [pm_ins] at hs
        obtain ⟨n, st', -, hs⟩ := pm_i1_inv hs
        obtain ⟨h3, hs⟩ := pm_if_inv hs
        cases t <;> first
          | cases pm_nx_inv hs
          | cases hs
      | anewarray j =>
        dsimp only [pm_ins] at hs
        obtain ⟨n, st', -, hs⟩ := pm_i1_inv hs
        obtain ⟨h3, hs⟩ := pm_if_inv hs
        cases pm_nx_inv hs
      | new j =>
        dsimp only [pm_ins] at hs
        obtain ⟨ci, h1, hs⟩ := pm_sm_inv hs
        cases pm_nx_inv hs
      | invokevirtual j =>
        dsimp only [pm_ins] at hs
        obtain ⟨q, h1, hs⟩ := pm_sm_inv hs
        obtain ⟨h2, hs⟩ := pm_if_inv hs
        obtain ⟨as, st', -, -, hs⟩ := pm_cut_inv hs
        obtain ⟨a, st', -, hs⟩ := pm_r1_inv hs
        obtain ⟨c0, fs, h4, hs⟩ := pm_ob_inv hs
        obtain ⟨h3, hs⟩ := pm_if_inv hs
        cases (pm_inv_inv hs).2
      | invokestatic j =>
        dsimp only [pm_ins] at hs
        split at hs
        · obtain ⟨dp, n, st', -, hs⟩ := pm_i2_inv hs
          obtain ⟨a, st', -, hs⟩ := pm_r1_inv hs
          obtain ⟨sp, st', -, hs⟩ := pm_i1_inv hs
          obtain ⟨a0, st', -, hs⟩ := pm_r1_inv hs
          obtain ⟨n0, f, h1, hs⟩ := pm_ai_inv hs
          obtain ⟨n1, f1, h2, hs⟩ := pm_ai_inv hs
          obtain ⟨h3, hs⟩ := pm_if_inv hs
          cases pm_nx_inv hs
        · obtain ⟨q, h1, hs⟩ := pm_sm_inv hs
          obtain ⟨h2, hs⟩ := pm_if_inv hs
          split at hs
          · obtain ⟨h3, hs⟩ := pm_if_inv hs
            obtain ⟨pc', L', st', e⟩ := pm_mth_same hs
            cases e
          · obtain ⟨as, st', -, -, hs⟩ := pm_cut_inv hs
            cases (pm_inv_inv hs).2
      | invokespecial j =>
        dsimp only [pm_ins] at hs
        split at hs
        · obtain ⟨a, st', -, hs⟩ := pm_r1_inv hs
          obtain ⟨h8, hs⟩ := pm_if_inv hs
          cases pm_nx_inv hs
        · obtain ⟨q, h1, hs⟩ := pm_sm_inv hs
          obtain ⟨h2, hs⟩ := pm_if_inv hs
          obtain ⟨as, st', -, -, hs⟩ := pm_cut_inv hs
          obtain ⟨a, st', -, hs⟩ := pm_r1_inv hs
          cases (pm_inv_inv hs).2
      | _ => exact absurd rfl hez
  · cases i <;> first
      | exact absurd rfl hr
      | skip
    · dsimp only [pm_ins] at hs
      obtain ⟨v, st', e, hs⟩ := pm_i1_inv hs
      obtain ⟨ty, h1, hs⟩ := pm_sm_inv hs
      obtain ⟨h2, hs⟩ := pm_if_inv hs
      cases pm_rt_inv hs
      simp only [Bool.and_eq_true, List.isEmpty_iff, decide_eq_true_eq] at h2
      exact ⟨rfl, Or.inl ⟨v, ty, rfl, by rw [e, h2.1], rfl, h1, h2.2⟩⟩
    · dsimp only [pm_ins] at hs
      obtain ⟨v, st', e, hs⟩ := pm_l1_inv hs
      obtain ⟨h2, hs⟩ := pm_if_inv hs
      cases pm_rt_inv hs
      simp only [Bool.and_eq_true, List.isEmpty_iff, decide_eq_true_eq] at h2
      exact ⟨rfl, Or.inr (Or.inl ⟨v, rfl, by rw [e, h2.1], rfl, h2.2⟩)⟩
    · dsimp only [pm_ins] at hs
      obtain ⟨h2, hs⟩ := pm_if_inv hs
      cases pm_rt_inv hs
      simp only [Bool.and_eq_true, List.isEmpty_iff, decide_eq_true_eq] at h2
      exact ⟨rfl, Or.inr (Or.inr ⟨rfl, h2.1, rfl, h2.2⟩)⟩
