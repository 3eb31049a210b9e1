/-! THE CLAIM OUT OF ONE WALK OF THE LAW'S BODY. Your part is whole_start (and what it stands on); all else here is the same for every law, but numbers. -/
def R_law : String := "SixtyOneCabsLaw"
def lw_P (b : Addr) (xs : List Int32) (args : Array Value) (s : State) : Prop := args = #[.ref b] ∧ s.IntsAt b xs ∧ xs.length ≤ 2560 ∧ (Jvm.Cond.and given_1 narrow_1).before args s = true
def lw_Q (_ : Array Value) (s : State) (o : Outcome) (t : State) : Prop := o = .returned (some (.int 1)) ∧ Framed s o t [] 600000 7302250
def lw_Z (below : List Frame) (a : Array Value) (s : State) : State → Prop := fun t => ∃ o, t.status = .running ∧ Ended t below o ∧ lw_Q a s o t
/-- the law's own end, with 1 on the stack, nothing written that was there before, its room as the claim has it -/
theorem lw_ret {p : Program} {l : Launch} {e : Env} {s : State} {m : MethodId} {below : List Frame} {meth : Method} {c : Code} {b : Nat} (hx : p.tables.exec = Jvm.exec) (hb : c.code = code) (hr : meth.sig.returnType = ret) (hlocks : meth.locks = false) {pc : Nat} {H : Heap} {ls : Array Slot} (hdg : decode code pc = .ok (.ireturn, 1)) : W p l e room_1 s m #[Value.ref b] below meth c H [] 600000 7302250 (lw_Z below #[Value.ref b] s) (F0 m pc ls [.int 1]) := by
  intro T hT X
  obtain ⟨fs, hret, hrun, hended, hW, hframe⟩ := X.leave (v := some (.int 1)) (hlocks := hlocks) (fun h => by rw [hr] at h; cases h)
  have hmeth' : T.vm.method? m = some meth := X.method'
  refine ⟨T.setFrames fs, ?_, .returned (some (.int 1)), hrun, hended, rfl, ⟨_, rfl⟩, hW, hframe⟩
  jvm_step X.here [X.here.top, hx, hb, hdg, hmeth', hr, ret, narrow_b1]
  (try refine ⟨rfl, ?_⟩); (try refine ⟨rfl, ?_⟩)
  first | (intro acts; rw [hret _ acts rfl rfl rfl]) | rw [hret _ _ rfl rfl rfl]
  exact Steps.refl _
/-- what holds at the law's entry: the machine, the code, the tables' words (any of lw_tbl by 'hts w (by decide +kernel)'), the script of L ints xs at the cell b, what the Statement gives of the start (any of its parts by flat_of_before) -/
def lw_At (p : Program) (s : State) (m : MethodId) (meth : Method) (c : Code) (b L : Nat) (xs : Nat → Int32) : Prop :=
  p.tables.exec = Jvm.exec ∧ c.code = code ∧ meth.sig.returnType = ret ∧ c.maxLocals = 4 ∧ s.vm.findClass R_law = some m.cls ∧ (∀ w ∈ lw_tbl, w.before #[Value.ref b] s = true) ∧ va_X b L xs s s.heap ∧ b < s.heap.size ∧ meth.locks = false ∧ (Jvm.Cond.and given_1 narrow_1).before #[Value.ref b] s = true ∧ meth.name = "law"
set_option maxRecDepth 40000 in
theorem sw_i0 : Cond.instantiable RX2 2 ∈ lw_tbl := List.mem_of_getElem? (i := 172) rfl
set_option maxRecDepth 40000 in
theorem sw_i1 : Cond.instantiable RX3 2 ∈ lw_tbl := List.mem_of_getElem? (i := 129) rfl
set_option maxRecDepth 40000 in
theorem sw_i2 : Cond.instantiable RX4 4 ∈ lw_tbl := List.mem_of_getElem? (i := 186) rfl
set_option maxRecDepth 40000 in
theorem sw_i3 : Cond.instantiable RX5 6 ∈ lw_tbl := List.mem_of_getElem? (i := 122) rfl
set_option maxRecDepth 40000 in
theorem sw_i4 : Cond.instantiable RX6 9 ∈ lw_tbl := List.mem_of_getElem? (i := 114) rfl
set_option maxRecDepth 40000 in
theorem sw_i5 : Cond.instantiable RX7 30 ∈ lw_tbl := List.mem_of_getElem? (i := 832) rfl
set_option maxRecDepth 40000 in
theorem sw_I : Cond.arrayClass .int ∈ lw_tbl := List.mem_of_getElem? (i := 145) rfl
set_option maxRecDepth 40000 in
theorem sw_J : Cond.arrayClass .long ∈ lw_tbl := List.mem_of_getElem? (i := 928) rfl
set_option maxRecDepth 40000 in
theorem sw_O : Cond.arrayOver (.object "SixtyOneCabs$Sheet") ∈ lw_tbl := List.mem_of_getElem? (i := 128) rfl
set_option maxRecDepth 40000 in
theorem sw_R : Cond.stringRef "SixtyOneCabs$Letters" 26 "pmtefh" ∈ lw_tbl := List.mem_of_getElem? (i := 273) rfl
set_option maxRecDepth 40000 in
theorem sw_L : Cond.laysStatic "java/lang/String" "COMPACT_STRINGS" "Z" ∈ lw_tbl := List.mem_of_getElem? (i := 287) rfl
set_option maxRecDepth 40000 in
theorem sw_S : Cond.initialized "java/lang/String" ∈ lw_tbl := List.mem_of_getElem? (i := 102) rfl
abbrev tsT : Term := Term.string "SixtyOneCabs$Letters" 26
/-- the text, out of what the Statement gives -/
theorem ts_given {s : State} {b : Nat} (hts : ∀ w ∈ lw_tbl, w.before #[Value.ref b] s = true) (hgv : (Jvm.Cond.and given_1 narrow_1).before #[Value.ref b] s = true) : ∃ aK aV : Nat → Nat, vk_R "SixtyOneCabs$Letters" 26 "pmtefh" (aK 0) s ∧ ts_S s.heap.size aK aV s s.heap := by
  have hs := flat_of_before _ hgv
  have hA : ∀ a : Nat, a < s.heap.size → ¬ (fun q => s.heap.size ≤ q) a := fun a ha h => absurd h (Nat.not_le.mpr ha)
  obtain ⟨aK, aV, hv, he⟩ := vk_Sof (args := #[Value.ref b]) (s := s) (N := 1) (tm := fun _ => tsT) (len := [6]) (byt := [tsB]) (A := fun q => s.heap.size ≤ q)
    (fun i hi => by
      have : i = 0 := by omega
      subst this
      decide)
    (fun i _ => hs (Cond.exactly tsT "java/lang/String") (by decide +kernel))
    (fun i _ => hs (Cond.eq (.field tsT "java/lang/String" "coder" "B") (.int 0)) (by decide +kernel))
    (fun i _ => hs (Cond.arrayOf (.field tsT "java/lang/String" "value" "[B") .byte) (by decide +kernel))
    (fun i hi => by
      have : i = 0 := by omega
      subst this
      exact hs (Cond.eq (.length (.field tsT "java/lang/String" "value" "[B")) (.int 6)) (by decide +kernel))
    (fun i hi j hj => by
      have : i = 0 := by omega
      subst this
      have hj : j < 6 := hj
      rcases (by omega : j = 0 ∨ j = 1 ∨ j = 2 ∨ j = 3 ∨ j = 4 ∨ j = 5) with rfl | rfl | rfl | rfl | rfl | rfl
      · exact hs (Cond.eq (.elem (.field tsT "java/lang/String" "value" "[B") (.int 0)) (.int 112)) (by decide +kernel)
      · exact hs (Cond.eq (.elem (.field tsT "java/lang/String" "value" "[B") (.int 1)) (.int 109)) (by decide +kernel)
      · exact hs (Cond.eq (.elem (.field tsT "java/lang/String" "value" "[B") (.int 2)) (.int 116)) (by decide +kernel)
      · exact hs (Cond.eq (.elem (.field tsT "java/lang/String" "value" "[B") (.int 3)) (.int 101)) (by decide +kernel)
      · exact hs (Cond.eq (.elem (.field tsT "java/lang/String" "value" "[B") (.int 4)) (.int 102)) (by decide +kernel)
      · exact hs (Cond.eq (.elem (.field tsT "java/lang/String" "value" "[B") (.int 5)) (.int 104)) (by decide +kernel))
    (fun i j hi hj h => absurd (by omega : i = j) h) hA
  exact ⟨aK, aV, vk_R.of (hts _ sw_R) (he 0 (by decide)), hv, va_Zof (hts _ sw_L) (hts _ sw_S) (va_eqt (hs (Cond.eq (.static "java/lang/String" "COMPACT_STRINGS" "Z") (.int 1)) (by decide +kernel))) hA⟩
theorem sw_nest {s : State} {b : Nat} (hts : ∀ w ∈ lw_tbl, w.before #[Value.ref b] s = true) : ∀ w ∈ lw_tbl, pm_nest w = true → va_Nw w s := by
  intro w hw hn
  have h : w.onTables = true := by
    cases w <;> first | rfl | (simp [pm_nest] at hn)
  exact va_Nw.of h (hts w hw)
theorem sl_le : ∀ (h : List va_E), (∀ e ∈ h, pm_es e ≤ 100) → pm_sl h ≤ 100 * h.length
  | [], _ => Nat.le_refl _
  | e :: h, q => by
    have ih := sl_le h (fun x hx => q x (List.mem_cons_of_mem _ hx))
    have q0 := q e List.mem_cons_self
    have e1 : pm_sl (e :: h) = pm_es e + pm_sl h := by simp [pm_sl]
    rw [e1, List.length_cons]
    omega
theorem es_c : ∀ a, a < 52 → ∀ (r : Nat → Int32) (q : Nat → Int64), pm_es (st_c a r q) ≤ 100 := fun a h r q => match a, h with
  | 0, _ => Nat.le_of_ble_eq_true rfl
  | 1, _ => Nat.le_of_ble_eq_true rfl
  | 2, _ => Nat.le_of_ble_eq_true rfl
  | 3, _ => Nat.le_of_ble_eq_true rfl
  | 4, _ => Nat.le_of_ble_eq_true rfl
  | 5, _ => Nat.le_of_ble_eq_true rfl
  | 6, _ => Nat.le_of_ble_eq_true rfl
  | 7, _ => Nat.le_of_ble_eq_true rfl
  | 8, _ => Nat.le_of_ble_eq_true rfl
  | 9, _ => Nat.le_of_ble_eq_true rfl
  | 10, _ => Nat.le_of_ble_eq_true rfl
  | 11, _ => Nat.le_of_ble_eq_true rfl
  | 12, _ => Nat.le_of_ble_eq_true rfl
  | 13, _ => Nat.le_of_ble_eq_true rfl
  | 14, _ => Nat.le_of_ble_eq_true rfl
  | 15, _ => Nat.le_of_ble_eq_true rfl
  | 16, _ => Nat.le_of_ble_eq_true rfl
  | 17, _ => Nat.le_of_ble_eq_true rfl
  | 18, _ => Nat.le_of_ble_eq_true rfl
  | 19, _ => Nat.le_of_ble_eq_true rfl
  | 20, _ => Nat.le_of_ble_eq_true rfl
  | 21, _ => Nat.le_of_ble_eq_true rfl
  | 22, _ => Nat.le_of_ble_eq_true rfl
  | 23, _ => Nat.le_of_ble_eq_true rfl
  | 24, _ => Nat.le_of_ble_eq_true rfl
  | 25, _ => Nat.le_of_ble_eq_true rfl
  | 26, _ => Nat.le_of_ble_eq_true rfl
  | 27, _ => Nat.le_of_ble_eq_true rfl
  | 28, _ => Nat.le_of_ble_eq_true rfl
  | 29, _ => Nat.le_of_ble_eq_true rfl
  | 30, _ => Nat.le_of_ble_eq_true rfl
  | 31, _ => Nat.le_of_ble_eq_true rfl
  | 32, _ => Nat.le_of_ble_eq_true rfl
  | 33, _ => Nat.le_of_ble_eq_true rfl
  | 34, _ => Nat.le_of_ble_eq_true rfl
  | 35, _ => Nat.le_of_ble_eq_true rfl
  | 36, _ => Nat.le_of_ble_eq_true rfl
  | 37, _ => Nat.le_of_ble_eq_true rfl
  | 38, _ => Nat.le_of_ble_eq_true rfl
  | 39, _ => Nat.le_of_ble_eq_true rfl
  | 40, _ => Nat.le_of_ble_eq_true rfl
  | 41, _ => Nat.le_of_ble_eq_true rfl
  | 42, _ => Nat.le_of_ble_eq_true rfl
  | 43, _ => Nat.le_of_ble_eq_true rfl
  | 44, _ => Nat.le_of_ble_eq_true rfl
  | 45, _ => Nat.le_of_ble_eq_true rfl
  | 46, _ => Nat.le_of_ble_eq_true rfl
  | 47, _ => Nat.le_of_ble_eq_true rfl
  | 48, _ => Nat.le_of_ble_eq_true rfl
  | 49, _ => Nat.le_of_ble_eq_true rfl
  | 50, _ => Nat.le_of_ble_eq_true rfl
  | 51, _ => Nat.le_of_ble_eq_true rfl
  | n + 52, h => absurd h (by omega)
theorem E_len (I : st_I) (J : st_J) : (st_E I J).length = 52 := st_len I J
theorem E_sl (I : st_I) (J : st_J) : pm_sl (st_E I J) ≤ 5200 := by
  have h := sl_le (st_E I J) (fun e he => by
    obtain ⟨a, ha, rfl⟩ := List.mem_map.mp he
    exact es_c a (List.mem_range.mp ha) _ _)
  rw [E_len] at h
  omega
/-- the law, from its entry: the run of the pure machine -/
theorem whole_start {p : Program} {e : Env} {s : State} {m : MethodId} {below : List Frame} {meth : Method} {c : Code} (l : Launch) (hflags : l.flags = flags0) {b L : Nat} {xs : Nat → Int32} (hL : L ≤ 2560) (C0 : lw_At p s m meth c b L xs) : W p l e room_1 s m #[Value.ref b] below meth c s.heap [] 0 0 (lw_Z below #[Value.ref b] s) (entryFrame m ([Value.ref b] : List Value).toArray 4) := by
  obtain ⟨hx, hb, hr, hml, hown, hts, hX, hbl, hlocks, hgv, hnm⟩ := id C0
  have hT : ∀ w ∈ pm_T, w.before #[Value.ref b] s = true := fun w hw => hts w (List.mem_filter.mp hw).1
  obtain ⟨c0, i0, u0⟩ := u_known (C := RX2) (T := TX2) (N := 2) hT (pm_cl_in 0 _ rfl) (hts _ sw_i0)
  obtain ⟨c1, i1, u1⟩ := u_known (C := RX3) (T := TX3) (N := 2) hT (pm_cl_in 1 _ rfl) (hts _ sw_i1)
  obtain ⟨c2, i2, u2⟩ := u_known (C := RX4) (T := TX4) (N := 4) hT (pm_cl_in 2 _ rfl) (hts _ sw_i2)
  obtain ⟨c3, i3, u3⟩ := u_known (C := RX5) (T := TX5) (N := 6) hT (pm_cl_in 3 _ rfl) (hts _ sw_i3)
  obtain ⟨c4, i4, u4⟩ := u_known (C := RX6) (T := TX6) (N := 9) hT (pm_cl_in 4 _ rfl) (hts _ sw_i4)
  obtain ⟨c5, i5, u5⟩ := u_known (C := RX7) (T := TX7) (N := 30) hT (pm_cl_in 5 _ rfl) (hts _ sw_i5)
  obtain ⟨dC, dI, hKc⟩ : ∃ (dC : Nat → ClassId) (dI : Nat → Nat → Nat), ∀ (k : Nat) (q : vw_C), vwCl[k]? = some q → u_Kn s q.1 q.2.1 q.2.2 (dC k) (dI k) := by
    refine ⟨fun k => if k = 0 then c0 else if k = 1 then c1 else if k = 2 then c2 else if k = 3 then c3 else if k = 4 then c4 else c5, fun k => if k = 0 then i0 else if k = 1 then i1 else if k = 2 then i2 else if k = 3 then i3 else if k = 4 then i4 else i5, ?_⟩
    intro k q hq
    match k, hq with
    | 0, hq => cases hq; exact u0
    | 1, hq => cases hq; exact u1
    | 2, hq => cases hq; exact u2
    | 3, hq => cases hq; exact u3
    | 4, hq => cases hq; exact u4
    | 5, hq => cases hq; exact u5
    | k + 6, hq => simp at hq
  obtain ⟨aI, kI, pI, fI, gI, eI⟩ := Cond.arrayClass_spec (hts _ sw_I)
  obtain ⟨aJ, kJ, pJ, fJ, gJ, eJ⟩ := Cond.arrayClass_spec (hts _ sw_J)
  obtain ⟨pO, aO, kO, fO, -, gO, eO, nO⟩ := Cond.arrayOver_spec (hts _ sw_O)
  obtain ⟨cy, e0, e1, e2⟩ : ∃ cy : Nat → ClassId, cy 0 = aI ∧ cy 1 = aJ ∧ cy 2 = aO := ⟨fun k => if k = 0 then aI else if k = 1 then aJ else aO, rfl, rfl, rfl⟩
  have hKa : va_K (dC, dI) vwCl (pm_tys cy) s := by
    refine ⟨hKc, fun k q hq => ?_⟩
    match k, hq with
    | 0, hq =>
      cases hq
      show ArrOfT s (cy 0) .int ∧ va_RA s (cy 0) .int
      rw [e0]
      exact ⟨fun n z => ⟨(fun k h => by cases h), kI, gI, pI, eI⟩, fI⟩
    | 1, hq =>
      cases hq
      show ArrOfT s (cy 1) .long ∧ va_RA s (cy 1) .long
      rw [e1]
      exact ⟨fun n z => ⟨(fun k h => by cases h), kJ, gJ, pJ, eJ⟩, fJ⟩
    | 2, hq =>
      cases hq
      show ArrOfT s (cy 2) (.object "SixtyOneCabs$Sheet") ∧ va_RA s (cy 2) (.object "SixtyOneCabs$Sheet")
      rw [e2]
      exact ⟨fun n z => ⟨(fun k h => by cases h), kO, gO, pO, eO⟩, kO, pO, gO, eO, fO, nO⟩
    | k + 3, hq => simp [pm_tys] at hq
  obtain ⟨aK, aV, hR, hTx⟩ := ts_given hts hgv
  have hK : pm_K (dC, dI) cy (ts_X s.heap.size b (L, xs) aK aV) s := ⟨hKa, sw_nest hts, va_AO.of (hts _ sw_O), hX, hR, hTx⟩
  have Fix : pm_Fix l (dC, dI) cy s.heap.size b (ts_X s.heap.size b (L, xs) aK aV) (L, xs) := ⟨hbl, ts_X0 hbl, fun U h => h.1, fun x h h0 h1 => t_ko l x h h0 h1⟩
  have Fx : pm_Fx p s m #[Value.ref b] meth c (dC, dI) cy (ts_X s.heap.size b (L, xs) aK aV) 228 := ⟨hx, hb, hml, hown, hT, hnm, hK⟩
  obtain ⟨I', J', hev⟩ := law_all (X := (L, xs)) hL
  obtain ⟨n, hrun⟩ := pm_ev_iff.mp (hev 0)
  have G := pm_sound Fix n 14 228 _ _ _ hrun (by decide) p e room_1 s m #[Value.ref b] below meth c (lw_Z below #[Value.ref b] s) 0 Fx (Nat.le_refl _) ⟨by decide, by decide⟩ (by rw [E_len]; show s.heap.size + 52 ≤ s.heap.size + 600000; omega) (by have h := E_sl I' J'; show pm_sl (st_E I' J') ≤ 7302250 + 0; omega) (by
    intro pc L1 st hs ls H locs cells slots hLn hL1 hH hcl hsl
    dsimp only at hLn hL1 hH hcl hsl ⊢
    obtain ⟨i, ln, hd, hln, hs⟩ := pm_step_inv hs
    dsimp only at hd hs
    obtain ⟨-, ⟨v, ty, rfl, rfl, h0, h1, h2⟩ | ⟨v, rfl, rfl, h0, h1⟩ | ⟨rfl, rfl, h0, h1⟩⟩ := pm_ins_ret hs
    · cases h0
      cases (beq_iff_eq.mp hln : ln = 1)
      rw [E_len] at hcl
      have hes := E_sl I' J'
      refine va_forget (fun q hq => hH.2.2.2.2 q hq) ?_
      refine W.widen (k := 600000) (n := 7302250) (by omega) (by omega) ?_
      exact lw_ret hx hb hr hlocks hd
    · cases h0
    · cases h0)
  rw [lg_entry_eq]
  exact G _ s.heap [] 0 0 rfl (pm_entry_L (as := [.retAddr 0]) (k := 228) (by decide)) ⟨rfl, fun k q h => by simp [pm_W] at h, va_S.rf⟩ rfl rfl
set_option maxHeartbeats 4000000 in
theorem lw_walk (l : Launch) (hflags : l.flags = flags0) (b : Addr) (xs : List Int32) : MetFree l x (headSpec (Jvm.Cond.code x code maxLocals ret :: tables_1) room_1) (lw_P b xs) (fun _ _ _ _ _ => True) lw_Q := by
  refine MetFree.of_bodyS (code := code) (maxLocals := maxLocals) (ret := ret) (by decide) ?_ ?_
  · intro args s m h hn
    obtain ⟨meth, c, h1, h2, h3, h4, h5, h6, -, -⟩ := Cond.code_spec hn (atoms_spec (ws := Jvm.Cond.code x code maxLocals ret :: tables_1) h _ List.mem_cons_self)
    exact ⟨meth, c, h1, h2, h3, h4, h5, h6⟩
  · intro p e s m args below meth c s₁ B hml0 hP _
    obtain ⟨rfl, hx, hbd, hgv⟩ := hP
    obtain ⟨scr, harrAt, hlist, hof, hsmall⟩ := hx
    obtain ⟨hcb, hkn, -, -⟩ := State.arrayAt?_spec harrAt
    have hown : s.vm.findClass R_law = some m.cls := findClass_of_methodNamed B.named
    have hts0 : ∀ c ∈ (Jvm.Cond.code x code maxLocals ret :: tables_1), c.before #[Value.ref b] s = true := atoms_spec (ws := Jvm.Cond.code x code maxLocals ret :: tables_1) B.pre
    have hts : ∀ w ∈ lw_tbl, w.before #[Value.ref b] s = true := k2_hts_sels lw_privs (fun w hw => hts0 w (List.mem_cons_of_mem _ hw)) lw_privs_ok
    have hml : c.maxLocals = 4 := B.maxLocals_eq (hts0 _ List.mem_cons_self)
    have X₀ : Stand p l e room_1 s m #[Value.ref b] below meth c s₁ [] 0 0 := Stand.of_body B
    have hh0 : s₁.heap = s.heap := by rw [B.state]; rfl
    have hsz : scr.slots.size = xs.length := by rw [← Array.length_toList, hlist, List.length_map]
    have hval : ∀ j : Nat, j < xs.length → scr.slots[j]? = some (.int (xs.getD j 0)) := fun j hj => by
      rw [← Array.getElem?_toList, hlist]
      simp [hj]
    have hbl : b < s.heap.size := (Array.getElem?_eq_some_iff.mp hcb).1
    have hX : va_X b xs.length (fun j => xs.getD j 0) s s.heap := ⟨scr, hcb, hof, hkn, hsz, hval⟩
    have K : W p l e room_1 s m #[Value.ref b] below meth c s₁.heap [] 0 0 (lw_Z below #[Value.ref b] s) (entryFrame m ([Value.ref b] : List Value).toArray 4) := by
      rw [hh0]
      exact whole_start l hflags hbd ⟨B.exec, B.bytes, B.returns, hml, hown, hts, hX, hbl, B.notSynchronized, hgv, (name_of_methodNamed B.named B.method).1⟩
    obtain ⟨t, a1, o, b1, b2, b3⟩ := K s₁ rfl X₀
    exact ⟨t, o, a1, b1, b2, b3⟩
theorem lw_pre_spec {args : Array Value} {s : State} (h : (Jvm.Cond.and given_1 narrow_1).before args s = true) (hr : rest_1_c.before args s = true) : ∃ (b : Addr) (xs : List Int32), lw_P b xs args s := by
  have hs := flat_of_before _ h
  have hq := flat_of_before _ hr
  have hc : (Cond.count 1).before args s = true := hs _ (by decide +kernel)
  have harr : (Cond.arrayOf (.arg 0) .int).before args s = true := hs _ (by decide +kernel)
  have hle : (Cond.le (.length (.arg 0)) (.int 2560)).before args s = true := hs _ (by decide +kernel)
  have hlen : (Cond.isInt (.length (.arg 0))).before args s = true := hq _ (by decide +kernel)
  have hall : (Cond.all (.arg 0) (.isInt (.elem (.arg 0) (.index 0)))).before args s = true := hq _ (by decide +kernel)
  obtain ⟨b, xs, hb, hx⟩ := State.ints_of_pre rfl harr hlen hall
  have hsm : xs.length < 2 ^ 31 := hx.choose_spec.2.2.2
  have hev : (Term.length (.arg 0)).eval args s none [] s = some (.int xs.length.toInt32) := hx.length_eval hb
  have hv := Cond.le_ints hev (show (Term.int 2560).eval args s none [] s = some (.int 2560) from rfl)
  have hd : xs.length.toInt32 ≤ 2560 := by
    simpa [Cond.before, Cond.holds, hv] using hle
  have hN : xs.length ≤ 2560 := (Int32.ofNat_le_ofNat hsm (by decide)).mp (show Int32.ofNat xs.length ≤ Int32.ofNat 2560 from hd)
  exact ⟨b, xs, Cond.one_arg hc (show args[0]? = some (.ref b) from hb), hx, hN, h⟩
theorem lw_comes (l : Launch) (hflags : l.flags = flags0) : Comes l x (Jvm.Cond.code x code maxLocals ret :: tables_1) room_1 (fun tb e args s => Calls_1 tb e args s ∧ rest_1 tb e args s ∧ Pre_1 tb e args s)
    (fun _ _ args s o t => lw_Q args s o t) := by
  intro p e ha hc hk s m args below hf hfit hheap happ hpre
  obtain ⟨b, xs, hP⟩ := lw_pre_spec hpre.2.2 hpre.2.1
  obtain ⟨k, o, h1, h2, h3, hQ⟩ := lw_walk l hflags b xs p e ha hc hk s m args below hf ((Spec.applies_iff_loose hf).mp happ).1 hP trivial
  exact ⟨k, o, h1, h2, h3, hQ⟩
theorem lw_frame {s t : State} {o : Outcome} {args : Array Value} (h : Framed s o t [] 600000 7302250) :
    Framed s o t (fieldLocs frame_1_writes args s ++ arrayLocs frame_1_arrays args s ++ staticLocs frame_1_statics s) 600000 7302250 := h
theorem lw_limb (L : Cond) (hL : ∀ (args : Array Value) (s t : State), L.after args s (.returned (some (.int 1))) t = true) :
    ArmFor flags0 classFile x code maxLocals ret World_1 tables_1 room_1 Calls_1 rest_1 Pre_1
      (fun tb e a s o t => postC L tb e a s o t ∧ Framed s o t (fieldLocs frame_1_writes a s ++ arrayLocs frame_1_arrays a s ++ staticLocs frame_1_statics s) 600000 7302250) := by
  intro l hflags _ _ p e ha hc hk s m args below hf hfit hheap happ hpre
  obtain ⟨k, o, h1, h2, h3, rfl, hF⟩ := lw_comes l hflags p e ha hc hk s m args below hf hfit hheap happ hpre
  exact ⟨k, _, h1, h2, h3, hL args s _, lw_frame hF⟩
theorem i_vc : Claimed_1_1 ∧ Claimed_1_2 := ⟨lw_limb limb_1_1 (fun args s t => by simp [limb_1_1, Cond.after, Cond.holds, Cond.value]), lw_limb limb_1_2 (fun args s t => Cond.after_iff.mpr (by
  first | (rw [show limb_1_2 = Cond.eq .result (.int 1) from rfl, Cond.eq_ints (x := 1) (y := 1) rfl rfl]; simp; done) | (simp [limb_1_2, Cond.value, Term.eval]; done)))⟩
