section PMR
variable {l : Launch} {D : va_G} {cy : Nat → ClassId} {bs sb : Nat} {KX : State → Prop} {X : pm_X}
/-- what is to be shown of a run of at most n steps -/
def pm_Good (l : Launch) (D : va_G) (cy : Nat → ClassId) (bs sb : Nat) (KX : State → Prop) (X : pm_X) (n : Nat) : Prop :=
  ∀ (d mi : Nat) (f : pm_F4) (r : Option Value) (h' : List va_E), pm_run X n d mi f = some (r, h') → mi < 229 →
    ∀ (p : Program) (e : Env) (R : Room) (s : State) (m : MethodId) (args : Array Value) (below : List Frame) (meth : Method) (c : Code) (Q : State → Prop) (S0 : Nat), pm_Fx p s m args meth c D cy KX mi → bs ≤ s.heap.size → (d ≤ R.frames ∧ 35 * d ≤ R.locals) → bs + h'.length ≤ s.heap.size + R.cells → pm_sl h' ≤ R.slots + S0 →
      (∀ (pc : Nat) (L : List (Option Value)) (st : List Value), pm_step X mi (pc, L, st, h') = some (.inr (.inl (r, h'))) → pm_Wf p l e R s m args below meth c Q D cy bs sb mi S0 (pc, L, st, h')) → pm_Wf p l e R s m args below meth c Q D cy bs sb mi S0 f
theorem pm_met (F : pm_Fix l D cy bs sb KX X) {n d k : Nat} {as : List Value} {h h' : List va_E} {r : Option Value} (G : pm_Good l D cy bs sb KX X n) (hrun : pm_run X n d k (pm_entry k as h) = some (r, h')) (hk : pm_cok k as = true) :
    Met l (pm_y k) (pm_ws k) (pm_rm d (h'.length - h.length) (pm_sl h' - pm_sl h)) (pm_P D cy bs sb KX as h) (pm_Q D cy bs sb r h') (h'.length - h.length) (pm_sl h' - pm_sl h) (fun q => bs ≤ q) := by
  simp only [pm_cok, Bool.and_eq_true, decide_eq_true_eq, Bool.not_eq_true'] at hk
  obtain ⟨hlen, hM, hk⟩ := hk
  have hk : k < 228 := hk
  have hyo := pm_own_ok k (by omega)
  have hpl : plainName (pm_y k).cls = true := by
    rcases hyo.2.1 with z | z
    · rw [hM] at z; cases z
    · exact z
  have hmono := pm_mono X n d k _ r h' hrun
  dsimp only [pm_entry] at hmono
  refine Met.ofW (cc := pm_b k) (maxL := pm_l k) (ret := pm_r k) hpl rfl ?_
  intro p e s m args below meth c s₁ B hml hv
  obtain ⟨rfl, hbs, hsz, hP, hK⟩ := hv
  have hts := atoms_spec (ws := pm_ws k) B.pre
  have Fx : pm_Fx p s m ((as.map (pm_v bs sb)).toArray) meth c D cy KX k := ⟨B.exec, B.bytes, hml, findClass_of_methodNamed B.named, fun w hw => hts w (List.mem_cons_of_mem _ hw), (name_of_methodNamed B.named B.method).1, hK⟩
  rw [lg_entry_eq]
  refine G d k (pm_entry k as h) r h' hrun (by omega) p e _ s m _ below meth c _ (pm_sl h) Fx hbs ⟨Nat.le_refl _, Nat.le_refl _⟩ ?_ ?_ ?_ _ s.heap [] 0 0 ?_ ?_ ?_ ?_ ?_
  · show bs + h'.length ≤ s.heap.size + (h'.length - h.length)
    omega
  · show pm_sl h' ≤ pm_sl h' - pm_sl h + pm_sl h
    omega
  · intro pc L st hs ls H locs cells slots hLn hL hH hcl hsl
    dsimp only at hLn hL hH hcl hsl ⊢
    obtain ⟨i, ln, hd, hln, hs⟩ := pm_step_inv hs
    dsimp only at hd hs
    have hc1 : cells = h'.length - h.length := by omega
    have hc2 : slots = pm_sl h' - pm_sl h := by omega
    subst hc1; subst hc2
    have hq : ∀ t : State, t.heap = H → s.WarmedH t.vm → pm_Q D cy bs sb r h' ((as.map (pm_v bs sb)).toArray) s (.returned (r.map (pm_v bs sb))) t := by
      intro t ht _
      refine ⟨rfl, by rw [ht]; exact hH.1, by rw [ht]; exact hH.2.1, fun q hq => ?_⟩
      rw [ht]
      exact hH.2.2.2.1 q (by omega) (by show ¬ bs ≤ q; omega)
    have hf : ∀ q ∈ locs, (fun q => bs ≤ q) q.base := hH.2.2.2.2
    have hlocks := B.notSynchronized
    obtain ⟨-, ⟨v, ty, rfl, rfl, rfl, h1, h2⟩ | ⟨v, rfl, rfl, rfl, h1⟩ | ⟨rfl, rfl, rfl, h1⟩⟩ := pm_ins_ret hs
    · cases (beq_iff_eq.mp hln : ln = 1)
      exact W.zret (Qc := pm_Q D cy bs sb (some (.int v)) h') B.exec B.bytes (B.returns.trans h1) h2 hq hf hd hlocks
    · cases (beq_iff_eq.mp hln : ln = 1)
      exact W.lret (Qc := pm_Q D cy bs sb (some (.long v)) h') B.exec B.bytes (B.returns.trans h1) hq hf hd hlocks
    · cases (beq_iff_eq.mp hln : ln = 1)
      exact W.vret (Qc := pm_Q D cy bs sb none h') B.exec B.bytes (B.returns.trans h1) hq hf hd hlocks
  · show (pm_args as ++ List.replicate (pm_l k - (pm_args as).length) none).length = pm_l k
    rw [List.length_append, List.length_replicate]
    omega
  · exact pm_entry_L hlen
  · exact ⟨hsz, hP, va_S.rf⟩
  · show s.heap.size + 0 = bs + h.length
    omega
  · show 0 + pm_sl h = pm_sl h
    omega
theorem pm_sound (F : pm_Fix l D cy bs sb KX X) : ∀ n, pm_Good l D cy bs sb KX X n
  | 0 => fun d mi f r h' e => by simp [pm_run] at e
  | n + 1 => by
    intro d mi f r h' e0 hmi p e R s m args below meth c Q S0 Fx hbs hR hrc hrs hend
    have G := pm_sound F n
    obtain ⟨pc, L, st, h⟩ := f
    have hmono := pm_mono X (n + 1) d mi _ r h' e0
    rw [pm_run] at e0
    split at e0
    next => cases e0
    next hd0 =>
      split at e0
      next => cases e0
      next g hs =>
        have hk := G d mi g r h' e0 hmi p e R s m args below meth c Q S0 Fx hbs hR hrc hrs hend
        have hm2 := pm_mono X n d mi g r h' e0
        obtain ⟨i, ln, hd, hln, hs⟩ := pm_step_inv hs
        by_cases hez : pm_easy i = true
        · exact pm_ins_pure Fx hmi hbs F.1 (F.2.2.1 s Fx.2.2.2.2.2.2.2.2.2) hd hln hs hk hez
        · exact pm_ins_heap Fx hmi hbs F.1 ⟨by omega, by omega⟩ hd hln hs hk (by omega) (by omega) (by simpa using hez)
      next q hs =>
        cases e0
        have hs' := hs
        obtain ⟨i, ln, hd, hln, hs⟩ := pm_step_inv hs
        obtain ⟨rfl, -⟩ := pm_ins_ret hs
        exact hend pc L st hs'
      next k as g hs0 =>
        obtain ⟨e1, e2⟩ := pm_call_heap hs0
        obtain ⟨i, ln, hd, hln, hs⟩ := pm_step_inv hs0
        clear hs0
        dsimp only at hd hs e1 e2
        split at e0
        next hko =>
          split at e0
          next as1 x =>
            split at e0
            next hx =>
              rw [e1] at e0
              have hk := G d mi _ r h' e0 hmi p e R s m args below meth c Q S0 Fx hbs hR hrc hrs hend
              have hm2 := pm_mono X n d mi _ r h' e0
              dsimp only at hm2
              subst hko
              exact pm_call_sound (d := d - 1) (dd := 6) (mc := 0) (ms := 0) (r := some (.int (pm_kind x))) F Fx hmi hbs ⟨by omega, by omega⟩ hd hln hs (by omega) (F.2.2.2 x h hx.2.1 hx.2.2) (Nat.zero_add _) (Nat.zero_add _) hk (by omega) (by omega)
            next => cases e0
          next => cases e0
        next hko =>
          split at e0
          next hok =>
            split at e0
            next => cases e0
            next v h1 he =>
              rw [e1] at he
              have hk := G d mi _ r h' e0 hmi p e R s m args below meth c Q S0 Fx hbs hR hrc hrs hend
              have hm2 := pm_mono X n d mi _ r h' e0
              have hm3 := pm_mono X n _ k _ v h1 he
              dsimp only [pm_entry] at hm2 hm3
              exact pm_call_sound (d := d - 1) (dd := d - 1) (r := v) F Fx hmi hbs ⟨by omega, by omega⟩ hd hln hs (Nat.le_refl _) (pm_met F G he hok) (by omega) (by omega) hk (by omega) (by omega)
          next => cases e0
end PMR
