/-! a run of the pure machine is a run of the real one -/
set_option maxHeartbeats 4000000 in
theorem pm_ins_nocall {X : pm_X} {mi : Nat} {i : Instr} {pc : Nat} {L : List (Option Value)} {st : List Value} {h : List va_E} {x} (hs : pm_ins X mi i pc L st h = some (.inr (.inr x))) : pm_isI i = true := by
  cases i <;> first
    | rfl
    | exfalso
      dsimp only [pm_ins, pm_nx, pm_i1, pm_i2, pm_l1, pm_l2, pm_gi, pm_gl, pm_ga, pm_s1, pm_s2, pm_to, pm_ob, pm_ai, pm_al, pm_aq, pm_r1, pm_v1, pm_sm, pm_if, pm_rs, pm_rt] at hs
      repeat' (split at hs)
      all_goals first
        | (cases hs; done)
        | exact absurd hs (by simp)
theorem pm_step_inv {X : pm_X} {mi : Nat} {f : pm_F4} {r} (hs : pm_step X mi f = some r) : ∃ i n, decode (pm_b mi) f.1 = .ok (i, n) ∧ pm_ln i n = true ∧ pm_ins X mi i f.1 f.2.1 f.2.2.1 f.2.2.2 = some r := by
  unfold pm_step at hs
  split at hs
  next i n hd =>
    obtain ⟨h1, h2⟩ := pm_if_inv hs
    exact ⟨i, n, hd, h1, h2⟩
  next => cases hs
theorem pm_call_heap {X : pm_X} {mi : Nat} {f : pm_F4} {k : Nat} {as : List Value} {g : pm_F4} (hs : pm_step X mi f = some (.inr (.inr (k, as, g)))) : g.2.2.2 = f.2.2.2 ∧ g.2.1 = f.2.1 := by
  obtain ⟨i, n, hd, hln, hs⟩ := pm_step_inv hs
  have hI := pm_ins_nocall hs
  cases i with
  | invokevirtual j =>
    dsimp only [pm_ins] at hs
    obtain ⟨q, h1, hs⟩ := pm_sm_inv hs
    obtain ⟨h2, hs⟩ := pm_if_inv hs
    obtain ⟨as, st', -, -, hs⟩ := pm_cut_inv hs
    obtain ⟨a, st', -, hs⟩ := pm_r1_inv hs
    obtain ⟨c0, fs, h4, hs⟩ := pm_ob_inv hs
    obtain ⟨h3, hs⟩ := pm_if_inv hs
    cases (pm_inv_inv hs).2
    exact ⟨rfl, rfl⟩
  | invokestatic j =>
    dsimp only [pm_ins] at hs
    split at hs
    · obtain ⟨dp, n, st', -, hs⟩ := pm_i2_inv hs
      obtain ⟨a, st', -, hs⟩ := pm_r1_inv hs
      obtain ⟨sp, st', -, hs⟩ := pm_i1_inv hs
      obtain ⟨a0, st', -, hs⟩ := pm_r1_inv hs
      obtain ⟨n0, f, h1, hs⟩ := pm_ai_inv hs
      obtain ⟨n1, f1, h2, hs⟩ := pm_ai_inv hs
      obtain ⟨h3, hs⟩ := pm_if_inv hs
      cases pm_nx_inv hs
    · obtain ⟨q, h1, hs⟩ := pm_sm_inv hs
      obtain ⟨h2, hs⟩ := pm_if_inv hs
      split at hs
      · obtain ⟨h3, hs⟩ := pm_if_inv hs
        obtain ⟨pc', L', st', e⟩ := pm_mth_same hs
        cases e
      · obtain ⟨as, st', -, -, hs⟩ := pm_cut_inv hs
        cases (pm_inv_inv hs).2
        exact ⟨rfl, rfl⟩
  | invokespecial j =>
    dsimp only [pm_ins] at hs
    split at hs
    · obtain ⟨a, st', -, hs⟩ := pm_r1_inv hs
      obtain ⟨h8, hs⟩ := pm_if_inv hs
      cases pm_nx_inv hs
    · obtain ⟨q, h1, hs⟩ := pm_sm_inv hs
      obtain ⟨h2, hs⟩ := pm_if_inv hs
      obtain ⟨as, st', -, -, hs⟩ := pm_cut_inv hs
      obtain ⟨a, st', -, hs⟩ := pm_r1_inv hs
      cases (pm_inv_inv hs).2
      exact ⟨rfl, rfl⟩
  | _ => exact absurd (show false = true from hI) (by decide)
theorem pm_mono (X : pm_X) : ∀ (n d mi : Nat) (f : pm_F4) (r : Option Value) (h' : List va_E), pm_run X n d mi f = some (r, h') → f.2.2.2.length ≤ h'.length ∧ pm_sl f.2.2.2 ≤ pm_sl h'
  | 0, d, mi, f, r, h', e => by simp [pm_run] at e
  | n + 1, d, mi, f, r, h', e => by
    rw [pm_run] at e
    split at e
    next => cases e
    next =>
      split at e
      next => cases e
      next g hs =>
        obtain ⟨i, ln, hd, hln, hs⟩ := pm_step_inv hs
        have h1 := pm_ins_mono hs
        have h2 := pm_mono X n d mi g r h' e
        omega
      next q hs =>
        obtain ⟨i, ln, hd, hln, hs⟩ := pm_step_inv hs
        cases e
        obtain ⟨rfl, -⟩ := pm_ins_ret hs
        exact ⟨Nat.le_refl _, Nat.le_refl _⟩
      next k as g hs =>
        obtain ⟨e1, e2⟩ := pm_call_heap hs
        split at e
        next =>
          split at e
          next x =>
            split at e
            next =>
              have h2 := pm_mono X n d mi _ r h' e
              dsimp only at h2
              rw [← e1]; exact h2
            next => cases e
          next => cases e
        next =>
          split at e
          next =>
            split at e
            next => cases e
            next v h1 he =>
              have h2 := pm_mono X n _ k _ v h1 he
              have h3 := pm_mono X n d mi _ r h' e
              dsimp only [pm_entry] at h2 h3
              rw [e1] at h2
              omega
          next => cases e
/-! the entry frame -/
theorem pm_args_len {bs sb : Nat} : ∀ as : List Value, (lg_sl (as.map (pm_v bs sb))).length = (pm_args as).length
  | [] => rfl
  | v :: as => by
    have h := pm_args_len (bs := bs) (sb := sb) as
    simp only [lg_sl, pm_args, List.map_cons, List.flatMap_cons, List.length_append, pm_v_cat] at h ⊢
    rw [h]
    by_cases hc : v.category = 2 <;> simp [hc]
theorem pm_args_ll {bs sb : Nat} (m : Nat) : ∀ (as : List Value) (i : Nat), pm_ll bs sb i (pm_args as ++ List.replicate m none) = lv_args i (as.map (pm_v bs sb))
  | [], i => by
    simp only [pm_args, List.flatMap_nil, List.nil_append, List.map_nil, lv_args]
    induction m generalizing i with
    | zero => rfl
    | succ m ih => rw [List.replicate_succ, pm_ll]; exact ih (i + 1)
  | v :: as, i => by
    have h := pm_args_ll (bs := bs) (sb := sb) m as
    simp only [pm_args] at h
    by_cases hc : v.category = 2
    · simp only [pm_args, List.flatMap_cons, hc, if_true, List.map_cons, lv_args, pm_v_cat, List.cons_append, List.nil_append, pm_ll]
      rw [h]
    · simp only [pm_args, List.flatMap_cons, hc, if_false, List.map_cons, lv_args, pm_v_cat, List.cons_append, List.nil_append, pm_ll]
      rw [h]
theorem pm_entry_L {bs sb k : Nat} {as : List Value} (h : (pm_args as).length ≤ pm_l k) : pm_L bs sb (pm_args as ++ List.replicate (pm_l k - (pm_args as).length) none) ((lg_sl (as.map (pm_v bs sb)) ++ List.replicate (pm_l k - (lg_sl (as.map (pm_v bs sb))).length) Slot.unset).toArray) := by
  unfold pm_L
  rw [pm_args_ll, List.length_append, List.length_replicate, show (pm_args as).length + (pm_l k - (pm_args as).length) = pm_l k by omega]
  exact lv_entry _ (by rw [pm_args_len]; exact h)
section PMS
variable {l : Launch} {D : va_G} {cy : Nat → ClassId} {bs sb : Nat} {KX : State → Prop} {X : pm_X}
theorem pm_P_blind (hX0 : pm_X0 bs KX) {as : List Value} {h : List va_E} : FrameBlind (pm_P D cy bs sb KX as h) := by
  intro a U g mk q
  obtain ⟨q1, q0, q2, q3, q4⟩ := q
  exact ⟨q1, q0, q2, q3, pm_K_warm (s := U) hX0 (State.WarmedH.refl U) (fun _ _ => rfl) q4⟩
theorem pm_cont {p : Program} {e : Env} {R : Room} {s : State} {m : MethodId} {args : Array Value} {below : List Frame} {meth : Method} {c : Code} {Q : State → Prop} {H : Heap} {locs : List Loc} {cells slots mc ms pc : Nat} {ls : Array Slot} {st0 rest : List Value} {a : Array Value} {r : Option Value} {h1 : List va_E}
    (hr : va_Run p l e R s m args below meth c H locs cells slots mc ms (F0 m pc ls st0) (rest.map (pm_v bs sb)) (pm_Q D cy bs sb r h1 a) (fun q => bs ≤ q)) (hbs : bs ≤ s.heap.size) (hS : va_S (fun q => bs ≤ q) s.heap H locs)
    (kk : ∀ (H1 : Heap) (locs1 : List Loc), pm_H D cy bs sb h1 s.heap H1 locs1 → W p l e R s m args below meth c H1 locs1 (cells + mc) (slots + ms) Q (F0 m (pc + 3) ls ((r.toList ++ rest).map (pm_v bs sb)))) : W p l e R s m args below meth c H locs cells slots Q (F0 m pc ls st0) := by
  intro T hT Y
  obtain ⟨v, st₀, t, T', L, h0, Y', hL, e1, e2, ⟨hv, hz, hP, hq⟩, st⟩ := hr T hT Y
  have hv : v = r.map (pm_v bs sb) := by
    cases hv
    rfl
  have hH1 : pm_H D cy bs sb h1 s.heap T'.heap (locs ++ L) := by
    refine ⟨by rw [e1]; exact hz, by rw [e1]; exact hP, Y'.same.2.1, fun q g1 g2 => ?_, fun q hq' => ?_⟩
    · have : q < bs := by
        have g2 : ¬ bs ≤ q := g2
        omega
      rw [e1, hq q this, h0]
      exact hS.2.1 q g1 g2
    · rcases List.mem_append.mp hq' with z | z
      · exact hS.2.2 q z
      · exact hL q z
  obtain ⟨t2, a1, b1⟩ := kk T'.heap (locs ++ L) hH1 T' rfl Y'
  refine ⟨t2, st t2 ?_, b1⟩
  have e3 : v.toList ++ rest.map (pm_v bs sb) = (r.toList ++ rest).map (pm_v bs sb) := by
    rw [hv]
    cases r <;> simp
  rw [e3]
  exact a1
end PMS
