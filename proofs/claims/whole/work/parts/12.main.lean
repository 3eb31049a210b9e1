section PMM
variable {l : Launch} {D : va_G} {cy : Nat → ClassId} {bs sb : Nat} {KX : State → Prop} {X : pm_X}
/-- what is asked once: the extra of the tables is kept, holds the script, and the one method that reads a text has its contract -/
def pm_Fix (l : Launch) (D : va_G) (cy : Nat → ClassId) (bs sb : Nat) (KX : State → Prop) (X : pm_X) : Prop :=
  sb < bs ∧ pm_X0 bs KX ∧ (∀ U : State, KX U → va_X sb X.1 X.2 U U.heap) ∧ ∀ (x : Int32) (h : List va_E), ¬ x < 0 → x < 65536 →
    Met l (pm_y pm_KO) (pm_ws pm_KO) (pm_rm 6 0 0) (pm_P D cy bs sb KX [.int x] h) (pm_Q D cy bs sb (some (.int (pm_kind x))) h) 0 0 (fun q => bs ≤ q)
theorem pm_ws_in {k : Nat} (hk : k < 228) : GoodIn pm_T (pm_ws k) := by
  intro w hw
  rcases List.mem_cons.mp hw with rfl | hw
  · exact pm_T_good _ (pm_code_in k hk)
  · exact pm_T_good _ hw
/-- a call, by its contract -/
theorem pm_call_sound {p : Program} {e : Env} {R : Room} {s : State} {m : MethodId} {args : Array Value} {below : List Frame} {meth : Method} {c : Code} {Q : State → Prop} {mi S0 : Nat} (F : pm_Fix l D cy bs sb KX X) (Fx : pm_Fx p s m args meth c D cy KX mi) (hmi : mi < 229) (hbs : bs ≤ s.heap.size)
    {i : Instr} {ln pc d dd k mc ms : Nat} {L : List (Option Value)} {st : List Value} {h h1 : List va_E} {as : List Value} {g : pm_F4} {r : Option Value} (hR : d + 1 ≤ R.frames ∧ 35 * (d + 1) ≤ R.locals)
    (hd : decode (pm_b mi) pc = .ok (i, ln)) (hln : pm_ln i ln = true) (hs : pm_ins X mi i pc L st h = some (.inr (.inr (k, as, g))))
    (hdd : dd ≤ d) (hM : Met l (pm_y k) (pm_ws k) (pm_rm dd mc ms) (pm_P D cy bs sb KX as h) (pm_Q D cy bs sb r h1) mc ms (fun q => bs ≤ q)) (hmc : mc + h.length = h1.length) (hms : ms + pm_sl h = pm_sl h1)
    (hk : pm_Wf p l e R s m args below meth c Q D cy bs sb mi S0 (g.1, g.2.1, r.toList ++ g.2.2.1, h1)) (hrc : bs + h1.length ≤ s.heap.size + R.cells) (hrs : pm_sl h1 ≤ R.slots + S0) : pm_Wf p l e R s m args below meth c Q D cy bs sb mi S0 (pc, L, st, h) := by
  obtain ⟨hsb, hX0, hXs, -⟩ := F
  obtain ⟨hx, hb, hml, hown, hts, hnm, hK⟩ := Fx
  intro ls H locs cells slots hLn hL hH hcl hsl
  dsimp only at hLn hL hH hcl hsl ⊢
  have hcn : (pm_y mi).cls = pm_cn (pm_own mi) := (pm_own_ok mi hmi).1
  have hsz : ls.size = pm_l mi := by rw [← hLn]; exact hL.1
  have hI := pm_ins_nocall hs
  have hf : cells + mc ≤ R.cells ∧ slots + ms ≤ R.slots := by omega
  have hroom : ∀ k, k < 228 → (pm_rm dd mc ms).frames + 1 ≤ R.frames ∧ 8 + (pm_l k + 11) + (pm_rm dd mc ms).locals ≤ R.locals := by
    intro k hk
    have h14 := (pm_own_ok k (by omega)).2.2.2.2
    show dd + 1 ≤ R.frames ∧ 8 + (pm_l k + 11) + 35 * dd ≤ R.locals
    omega
  have hpre : ∀ U : State, U.heap = H → s.WarmedH U.vm → pm_P D cy bs sb KX as h ((as.map (pm_v bs sb)).toArray) U := by
    intro U hU hW
    refine ⟨rfl, by rw [hU, hH.1]; omega, by rw [hU]; exact hH.1, by rw [hU]; exact hH.2.1, pm_K_warm hX0 hW (fun q hq => ?_) hK⟩
    rw [hU]
    exact hH.2.2.2.1 q (by omega) (by show ¬ bs ≤ q; omega)
  have kk : ∀ (pc' : Nat) (st' : List Value), g = (pc', L, st', h) → ∀ (H1 : Heap) (locs1 : List Loc), pm_H D cy bs sb h1 s.heap H1 locs1 → W p l e R s m args below meth c H1 locs1 (cells + mc) (slots + ms) Q (F0 m pc' ls ((r.toList ++ st').map (pm_v bs sb))) := by
    intro pc' st' hg H1 locs1 hH1
    subst hg
    exact hk _ _ _ _ _ hLn hL hH1 (by show s.heap.size + (cells + mc) = bs + h1.length; omega) (by show slots + ms + S0 = pm_sl h1; omega)
  cases i with
  | invokevirtual j =>
    cases (beq_iff_eq.mp hln : ln = 3)
    dsimp only [pm_ins] at hs
    obtain ⟨⟨k0, n, kind, nest⟩, h1', q1⟩ := pm_sm_inv hs
    clear hs
    obtain ⟨h2, q2⟩ := pm_if_inv q1
    clear q1
    obtain ⟨as', st', hlen, rfl, q3⟩ := pm_cut_inv q2
    clear q2
    obtain ⟨a, st', rfl, q4⟩ := pm_r1_inv q3
    clear q3
    obtain ⟨c0, fs, h4, q5⟩ := pm_ob_inv q4
    obtain ⟨h3, q6⟩ := pm_if_inv q5
    obtain ⟨hw8, q7⟩ := pm_inv_inv q6
    cases q7
    have h2 := beq_iff_eq.mp h2
    dsimp only at h2 hlen h3 hw8
    subst h2
    obtain ⟨k1, k2, k3, k4, k5, -, k7, -⟩ := pm_cal_ok h1'
    have k7 := k7 rfl
    have hyo := pm_own_ok k0 (by omega)
    obtain ⟨q, hq⟩ : ∃ q, vwCl[c0]? = some q := by
      obtain ⟨r0, g1, -⟩ := hH.2.1 a _ (pm_W_get h4)
      exact ⟨r0, g1⟩
    have hcls : q.1 = (pm_y k0).cls := by rw [pm_cl_own _ _ hq, beq_iff_eq.mp h3, hyo.1]
    have hrecv := va_recv hK.1 hH.2.1 hq (pm_W_get h4)
    rw [hcls] at hrecv
    have hst : (as'.reverse ++ Value.ref a :: st').map (pm_v bs sb) = (as'.map (pm_v bs sb)).reverse ++ Value.ref (bs + a) :: st'.map (pm_v bs sb) := by
      simp [List.map_append, List.map_reverse, pm_v]
    rw [hst]
    cases nest with
    | false =>
      exact pm_cont (h1 := h1) (r := r) (rest := st') (va_runV (C := (pm_y k0).cls) (ret := pm_r k0) (maxL := pm_l k0) (bytes := pm_b k0) (As := as'.map (pm_v bs sb)) (rest := st'.map (pm_v bs sb)) ⟨hx, hb, hml, hown, hts⟩ hM
        ⟨callB_of n hts (pm_ws_in k1) rfl rfl rfl (hts _ k3) (by rw [hcn]; exact hts _ (k4 rfl)) ⟨hyo.2.2.1, hyo.2.2.2.1, k2⟩ (hroom k0 k1), hts _ k7.1, hts _ k7.2⟩
        ⟨pm_P_blind hX0, hrecv, hpre⟩ rfl (by rw [List.length_map]; exact hlen) hsz rfl (lv_room (pm_w8_of hw8)) hd hf) hbs hH.2.2 (kk _ _ rfl)
    | true =>
      exact pm_cont (h1 := h1) (r := r) (rest := st') (va_runVN (C := (pm_y k0).cls) (host := "SixtyOneCabs") (ret := pm_r k0) (maxL := pm_l k0) (bytes := pm_b k0) (As := as'.map (pm_v bs sb)) (rest := st'.map (pm_v bs sb)) ⟨hx, hb, hml, hown, hts⟩ hM
        ⟨va_cnB n hts (pm_ws_in k1) rfl rfl rfl (by rw [hcn]; exact hK.2.1 _ (k5 rfl) rfl) (hts _ k3) ⟨hyo.2.2.1, hyo.2.2.2.1, k2⟩ (hroom k0 k1), hts _ k7.1, hts _ k7.2⟩
        ⟨pm_P_blind hX0, hrecv, hpre⟩ rfl (by rw [List.length_map]; exact hlen) hsz rfl (lv_room (pm_w8_of hw8)) hd hf) hbs hH.2.2 (kk _ _ rfl)
  | invokestatic j =>
    cases (beq_iff_eq.mp hln : ln = 3)
    dsimp only [pm_ins] at hs
    split at hs
    · exfalso
      obtain ⟨dp, n, st', -, hs⟩ := pm_i2_inv hs
      obtain ⟨a, st', -, hs⟩ := pm_r1_inv hs
      obtain ⟨sp, st', -, hs⟩ := pm_i1_inv hs
      obtain ⟨a0, st', -, hs⟩ := pm_r1_inv hs
      obtain ⟨n0, f, h1, hs⟩ := pm_ai_inv hs
      obtain ⟨n1, f1, h2, hs⟩ := pm_ai_inv hs
      obtain ⟨h3, hs⟩ := pm_if_inv hs
      cases pm_nx_inv hs
    · obtain ⟨⟨k0, n, kind, nest⟩, h1', q1⟩ := pm_sm_inv hs
      clear hs
      obtain ⟨h2, q2⟩ := pm_if_inv q1
      clear q1
      have h2 := beq_iff_eq.mp h2
      dsimp only at h2 q2
      subst h2
      split at q2
      · exfalso
        obtain ⟨h3, hs⟩ := pm_if_inv q2
        obtain ⟨pc', L', st', e⟩ := pm_mth_same hs
        cases e
      · obtain ⟨as', st', hlen, rfl, q3⟩ := pm_cut_inv q2
        clear q2
        obtain ⟨hw8, q7⟩ := pm_inv_inv q3
        cases q7
        dsimp only at hw8
        obtain ⟨k1, k2, k3, k4, k5, k6, -, -⟩ := pm_cal_ok h1'
        have hyo := pm_own_ok k (by omega)
        have hst : (as.reverse ++ st').map (pm_v bs sb) = (as.map (pm_v bs sb)).reverse ++ st'.map (pm_v bs sb) := by
          simp [List.map_append, List.map_reverse]
        rw [hst]
        cases nest with
        | false =>
          exact pm_cont (h1 := h1) (r := r) (rest := st') (va_runS (ret := pm_r k) (maxL := pm_l k) (bytes := pm_b k) (As := as.map (pm_v bs sb)) (rest := st'.map (pm_v bs sb)) ⟨hx, hb, hml, hown, hts⟩ hM
            ⟨callB_of n hts (pm_ws_in k1) rfl rfl rfl (hts _ k3) (by rw [hcn]; exact hts _ (k4 rfl)) ⟨hyo.2.2.1, hyo.2.2.2.1, k2⟩ (hroom k k1), hts _ (k6 rfl)⟩
            ⟨pm_P_blind hX0, hpre⟩ rfl (by rw [List.length_map]; exact hlen) hsz rfl (lv_room (pm_w8_of hw8)) hd hf) hbs hH.2.2 (kk _ _ rfl)
        | true =>
          exact pm_cont (h1 := h1) (r := r) (rest := st') (va_runSN (host := "SixtyOneCabs") (ret := pm_r k) (maxL := pm_l k) (bytes := pm_b k) (As := as.map (pm_v bs sb)) (rest := st'.map (pm_v bs sb)) ⟨hx, hb, hml, hown, hts⟩ hM
            ⟨va_cnB n hts (pm_ws_in k1) rfl rfl rfl (by rw [hcn]; exact hK.2.1 _ (k5 rfl) rfl) (hts _ k3) ⟨hyo.2.2.1, hyo.2.2.2.1, k2⟩ (hroom k k1), hts _ (k6 rfl), trivial⟩
            ⟨pm_P_blind hX0, hpre⟩ rfl (by rw [List.length_map]; exact hlen) hsz rfl (lv_room (pm_w8_of hw8)) hd hf) hbs hH.2.2 (kk _ _ rfl)
  | invokespecial j =>
    cases (beq_iff_eq.mp hln : ln = 3)
    dsimp only [pm_ins] at hs
    split at hs
    · exfalso
      obtain ⟨a, st', -, hs⟩ := pm_r1_inv hs
      obtain ⟨h8, hs⟩ := pm_if_inv hs
      cases pm_nx_inv hs
    · obtain ⟨⟨k0, n, kind, nest⟩, h1', q1⟩ := pm_sm_inv hs
      clear hs
      obtain ⟨h2, q2⟩ := pm_if_inv q1
      clear q1
      have h2 := beq_iff_eq.mp h2
      dsimp only at h2 q2
      subst h2
      obtain ⟨as', st', hlen, rfl, q3⟩ := pm_cut_inv q2
      clear q2
      obtain ⟨a, st', rfl, q4⟩ := pm_r1_inv q3
      clear q3
      obtain ⟨hw8, q7⟩ := pm_inv_inv q4
      cases q7
      dsimp only at hw8
      obtain ⟨k1, k2, k3, k4, k5, -, -, k8⟩ := pm_cal_ok h1'
      obtain ⟨k8, k9, k10⟩ := k8 rfl
      have hyo := pm_own_ok k (by omega)
      have hst : (as'.reverse ++ Value.ref a :: st').map (pm_v bs sb) = (as'.map (pm_v bs sb)).reverse ++ Value.ref (bs + a) :: st'.map (pm_v bs sb) := by
        simp [List.map_append, List.map_reverse, pm_v]
      rw [hst]
      have hwk : pm_ws k = Cond.code (pm_y k) (pm_b k) (pm_l k) none :: pm_T := by rw [← k10]; rfl
      cases nest with
      | false =>
        exact pm_cont (h1 := h1) (r := r) (rest := st') (va_runI (maxL := pm_l k) (bytes := pm_b k) (As := as'.map (pm_v bs sb)) (rest := st'.map (pm_v bs sb)) ⟨hx, hb, hml, hown, hts⟩ hM
          ⟨callB_of n hts (pm_ws_in k1) hwk rfl rfl (hts _ k3) (by rw [hcn]; exact hts _ (k4 rfl)) ⟨hyo.2.2.1, hyo.2.2.2.1, k2⟩ (hroom k k1), k9, hts _ k8⟩
          ⟨pm_P_blind hX0, hpre⟩ rfl (by rw [List.length_map]; exact hlen) hsz rfl (lv_room (pm_w8_of hw8)) hd hf) hbs hH.2.2 (kk _ _ rfl)
      | true =>
        exact pm_cont (h1 := h1) (r := r) (rest := st') (va_runIN (host := "SixtyOneCabs") (maxL := pm_l k) (bytes := pm_b k) (As := as'.map (pm_v bs sb)) (rest := st'.map (pm_v bs sb)) ⟨hx, hb, hml, hown, hts⟩ hM
          ⟨va_cnB n hts (pm_ws_in k1) hwk rfl rfl (by rw [hcn]; exact hK.2.1 _ (k5 rfl) rfl) (hts _ k3) ⟨hyo.2.2.1, hyo.2.2.2.1, k2⟩ (hroom k k1), k9, hts _ k8⟩
          ⟨pm_P_blind hX0, hpre⟩ rfl (by rw [List.length_map]; exact hlen) hsz rfl (lv_room (pm_w8_of hw8)) hd hf) hbs hH.2.2 (kk _ _ rfl)
  | _ => exact absurd (show false = true from hI) (by decide)
end PMM
