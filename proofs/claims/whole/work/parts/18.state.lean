/-! THE STATE after the objects are made: 52 cells whose shape never changes; I a k is what the cell at place a holds as its k-th int (a field, or an element), J a k its k-th long -/
abbrev st_I : Type := Nat → Nat → Int32
abbrev st_J : Type := Nat → Nat → Int64
def st_c : Nat → (Nat → Int32) → (Nat → Int64) → va_E
  | 0, r, _ => .inr (4, [.ref 1, .ref 11, .ref 21, .ref 31, .ref 33, .ref 34, .ref 35, .int (r 7), .int (r 8)])
  | 1, r, _ => .inr (3, [.ref 2, .ref 7, .ref 8, .ref 9, .ref 10, .int (r 5)])
  | 2, _, _ => .inl (2, 2, .inr (.inr (.inr (.inr (fun j => if j = 1 then some 5 else if j = 0 then some 3 else none)))))
  | 3, r, _ => .inr (1, [.ref 4, .int (r 1)])
  | 4, r, _ => .inl (0, 6, .inl r)
  | 5, r, _ => .inr (1, [.ref 6, .int (r 1)])
  | 6, r, _ => .inl (0, 6, .inl r)
  | 7, r, _ => .inl (0, 17, .inl r)
  | 8, r, _ => .inl (0, 6, .inl r)
  | 9, r, _ => .inl (0, 6, .inl r)
  | 10, r, _ => .inl (0, 6, .inl r)
  | 11, r, _ => .inr (3, [.ref 12, .ref 17, .ref 18, .ref 19, .ref 20, .int (r 5)])
  | 12, _, _ => .inl (2, 2, .inr (.inr (.inr (.inr (fun j => if j = 1 then some 15 else if j = 0 then some 13 else none)))))
  | 13, r, _ => .inr (1, [.ref 14, .int (r 1)])
  | 14, r, _ => .inl (0, 6, .inl r)
  | 15, r, _ => .inr (1, [.ref 16, .int (r 1)])
  | 16, r, _ => .inl (0, 6, .inl r)
  | 17, r, _ => .inl (0, 17, .inl r)
  | 18, r, _ => .inl (0, 6, .inl r)
  | 19, r, _ => .inl (0, 6, .inl r)
  | 20, r, _ => .inl (0, 6, .inl r)
  | 21, r, _ => .inr (3, [.ref 22, .ref 27, .ref 28, .ref 29, .ref 30, .int (r 5)])
  | 22, _, _ => .inl (2, 2, .inr (.inr (.inr (.inr (fun j => if j = 1 then some 25 else if j = 0 then some 23 else none)))))
  | 23, r, _ => .inr (1, [.ref 24, .int (r 1)])
  | 24, r, _ => .inl (0, 6, .inl r)
  | 25, r, _ => .inr (1, [.ref 26, .int (r 1)])
  | 26, r, _ => .inl (0, 6, .inl r)
  | 27, r, _ => .inl (0, 17, .inl r)
  | 28, r, _ => .inl (0, 6, .inl r)
  | 29, r, _ => .inl (0, 6, .inl r)
  | 30, r, _ => .inl (0, 6, .inl r)
  | 31, r, _ => .inr (0, [.ref 32, .int (r 1)])
  | 32, r, _ => .inl (0, 96, .inl r)
  | 33, r, _ => .inr (2, [.int (r 0), .int (r 1), .int (r 2), .int (r 3)])
  | 34, r, _ => .inl (0, 16, .inl r)
  | 35, r, _ => .inl (0, 7, .inl r)
  | 36, r, q => .inr (5, [.ref 37, .ref 38, .ref 39, .ref 40, .ref 41, .ref 42, .ref 43, .int (r 7), .ref 44, .ref 45, .ref 46, .ref 47, .int (r 12), .int (r 13), .int (r 14), .ref 48, .int (r 16), .int (r 17), .int (r 18), .int (r 19), .int (r 20), .int (r 21), .int (r 22), .long (q 23), .long (q 24), .ref 49, .ref 50, .ref 51, .int (r 28), .int (r 29)])
  | 37, r, _ => .inl (0, 7, .inl r)
  | 38, r, _ => .inl (0, 12, .inl r)
  | 39, r, _ => .inl (0, 2, .inl r)
  | 40, r, _ => .inl (0, 17, .inl r)
  | 41, r, _ => .inl (0, 6, .inl r)
  | 42, r, _ => .inl (0, 6, .inl r)
  | 43, r, _ => .inl (0, 6, .inl r)
  | 44, r, _ => .inl (0, 96, .inl r)
  | 45, r, _ => .inl (0, 48, .inl r)
  | 46, r, _ => .inl (0, 48, .inl r)
  | 47, r, _ => .inl (0, 96, .inl r)
  | 48, r, _ => .inl (0, 100, .inl r)
  | 49, _, q => .inl (1, 8, .inr (.inl q))
  | 50, _, q => .inl (1, 17, .inr (.inl q))
  | 51, r, _ => .inl (0, 16, .inl r)
  | _, _, _ => .inr (0, [])
def st_E (I : st_I) (J : st_J) : List va_E := (List.range 52).map fun a => st_c a (I a) (J a)
def st_r (I : st_I) (a : Nat) (f : Nat → Int32) : st_I := fun b => if b = a then f else I b
def st_q (J : st_J) (a : Nat) (f : Nat → Int64) : st_J := fun b => if b = a then f else J b
/-- an int is written -/
def st_u (I : st_I) (a k : Nat) (v : Int32) : st_I := st_r I a (upd (I a) k v)
def st_l (J : st_J) (a k : Nat) (v : Int64) : st_J := st_q J a (vp_updL (J a) k v)
theorem st_get (I : st_I) (J : st_J) {a : Nat} (h : a < 52) : (st_E I J)[a]? = some (st_c a (I a) (J a)) := by
  simp [st_E, List.getElem?_range, h]
theorem st_len (I : st_I) (J : st_J) : (st_E I J).length = 52 := by simp [st_E]
theorem st_set (I : st_I) (J : st_J) (a : Nat) (f : Nat → Int32) : (st_E I J).set a (st_c a f (J a)) = st_E (st_r I a f) J := by
  apply List.ext_getElem?
  intro b
  by_cases hb : b < 52
  · rw [st_get _ _ hb, List.getElem?_set, st_len]
    by_cases hab : a = b
    · subst hab
      simp [hb, st_r]
    · rw [if_neg hab, st_get _ _ hb]
      simp [st_r, Ne.symm hab]
  · rw [List.getElem?_eq_none (by rw [List.length_set, st_len]; omega), List.getElem?_eq_none (by rw [st_len]; omega)]
theorem st_setJ (I : st_I) (J : st_J) (a : Nat) (f : Nat → Int64) : (st_E I J).set a (st_c a (I a) f) = st_E I (st_q J a f) := by
  apply List.ext_getElem?
  intro b
  by_cases hb : b < 52
  · rw [st_get _ _ hb, List.getElem?_set, st_len]
    by_cases hab : a = b
    · subst hab
      simp [hb, st_q]
    · rw [if_neg hab, st_get _ _ hb]
      simp [st_q, Ne.symm hab]
  · rw [List.getElem?_eq_none (by rw [List.length_set, st_len]; omega), List.getElem?_eq_none (by rw [st_len]; omega)]
theorem st_fg {I : st_I} {J : st_J} {a c k : Nat} {fs : List Value} {v : Value} {F : Value → pv_R} (h : a < 52) (hc : st_c a (I a) (J a) = .inr (c, fs)) (hv : fs[k]? = some v) : pv_fg (st_E I J) a c k F = F v := by
  unfold pv_fg
  rw [st_get I J h, hc]
  simp [pv_if, hv]
theorem st_oc {I : st_I} {J : st_J} {a c : Nat} {fs : List Value} {F : Nat → pv_R} (h : a < 52) (hc : st_c a (I a) (J a) = .inr (c, fs)) : pv_oc (st_E I J) a F = F c := by
  unfold pv_oc
  rw [st_get I J h, hc]
theorem st_fp {I : st_I} {J : st_J} {a c k : Nat} {fs : List Value} {v : Int32} {F : List va_E → pv_R} (h : a < 52) (hc : st_c a (I a) (J a) = .inr (c, fs)) (hk : k < fs.length) (hs : st_c a (upd (I a) k v) (J a) = .inr (c, fs.set k (.int v))) : pv_fp (st_E I J) a c k (.int v) F = F (st_E (st_u I a k v) J) := by
  unfold pv_fp
  rw [st_get I J h, hc]
  simp only [pv_if, beq_self_eq_true, hk, decide_true, Bool.and_self, if_true]
  rw [← hs, st_set]
  rfl
theorem st_fpl {I : st_I} {J : st_J} {a c k : Nat} {fs : List Value} {v : Int64} {F : List va_E → pv_R} (h : a < 52) (hc : st_c a (I a) (J a) = .inr (c, fs)) (hk : k < fs.length) (hs : st_c a (I a) (vp_updL (J a) k v) = .inr (c, fs.set k (.long v))) : pv_fp (st_E I J) a c k (.long v) F = F (st_E I (st_l J a k v)) := by
  unfold pv_fp
  rw [st_get I J h, hc]
  simp only [pv_if, beq_self_eq_true, hk, decide_true, Bool.and_self, if_true]
  rw [← hs, st_setJ]
  rfl
theorem st_ai {I : st_I} {J : st_J} {a n : Nat} {F : Nat → (Nat → Int32) → pv_R} (h : a < 52) (hc : st_c a (I a) (J a) = .inl (0, n, .inl (I a))) : pv_ai (st_E I J) a F = F n (I a) := by
  unfold pv_ai
  rw [st_get I J h, hc]
  rfl
theorem st_wi {I : st_I} {J : st_J} {a n : Nat} {j v : Int32} {F : List va_E → pv_R} (h : a < 52) (hc : ∀ r, st_c a r (J a) = .inl (0, n, .inl r)) : pv_wi (st_E I J) a j v F = pv_if (pm_ok j n) (F (st_E (st_u I a j.toNatClampNeg v) J)) := by
  unfold pv_wi
  rw [st_ai h (hc _)]
  unfold st_u
  rw [← st_set, hc]
theorem st_al {I : st_I} {J : st_J} {a n : Nat} {F : Nat → (Nat → Int64) → pv_R} (h : a < 52) (hc : st_c a (I a) (J a) = .inl (1, n, .inr (.inl (J a)))) : pv_al (st_E I J) a F = F n (J a) := by
  unfold pv_al
  rw [st_get I J h, hc]
  rfl
theorem st_wl {I : st_I} {J : st_J} {a n : Nat} {j : Int32} {v : Int64} {F : List va_E → pv_R} (h : a < 52) (hc : ∀ q, st_c a (I a) q = .inl (1, n, .inr (.inl q))) : pv_wl (st_E I J) a j v F = pv_if (pm_ok j n) (F (st_E I (st_l J a j.toNatClampNeg v))) := by
  unfold pv_wl
  rw [st_al h (hc _)]
  unfold st_l
  rw [← st_setJ, hc]
theorem st_aq {I : st_I} {J : st_J} {a n : Nat} {f : Nat → Option Nat} {F : Nat → (Nat → Option Nat) → pv_R} (h : a < 52) (hc : st_c a (I a) (J a) = .inl (2, n, .inr (.inr (.inr (.inr f))))) : pv_aq (st_E I J) a F = F n f := by
  unfold pv_aq
  rw [st_get I J h, hc]
  rfl
theorem st_cp {I : st_I} {J : st_J} {a0 a n0 n1 : Nat} {sp dp n : Int32} {F : List va_E → pv_R} (h0 : a0 < 52) (hc0 : st_c a0 (I a0) (J a0) = .inl (0, n0, .inl (I a0))) (h : a < 52) (hc : ∀ r, st_c a r (J a) = .inl (0, n1, .inl r)) : pv_cp (st_E I J) a0 sp a dp n F = pv_if (!decide (sp < 0) && (!decide (dp < 0) && (!decide (n < 0) && (decide (sp.toNatClampNeg + n.toNatClampNeg ≤ n0) && decide (dp.toNatClampNeg + n.toNatClampNeg ≤ n1))))) (F (st_E (st_r I a (va_cpy (I a0) (I a) sp.toNatClampNeg dp.toNatClampNeg n.toNatClampNeg)) J)) := by
  unfold pv_cp
  rw [st_ai h0 hc0, st_ai h (hc _), ← st_set, hc]
def isW (w : Nat) : Bool := w == 1 || (w == 11 || w == 21)
def isS (a : Nat) : Bool := a == 3 || (a == 5 || (a == 13 || (a == 15 || (a == 23 || a == 25))))
theorem isW_or {w : Nat} (h : isW w = true) : w = 1 ∨ w = 11 ∨ w = 21 := by simpa [isW] using h
theorem isS_or {a : Nat} (h : isS a = true) : a = 3 ∨ a = 5 ∨ a = 13 ∨ a = 15 ∨ a = 23 ∨ a = 25 := by simpa [isS] using h
theorem isW_1 : isW 1 = true := rfl
theorem isW_11 : isW 11 = true := rfl
theorem isW_21 : isW 21 = true := rfl
theorem isS_3 : isS 3 = true := rfl
theorem isS_5 : isS 5 = true := rfl
theorem isS_13 : isS 13 = true := rfl
theorem isS_15 : isS 15 = true := rfl
theorem isS_23 : isS 23 = true := rfl
theorem isS_25 : isS 25 = true := rfl
theorem fgW_0 {I : st_I} {J : st_J} {w : Nat} {F : Value → pv_R} (h : isW w = true) : pv_fg (st_E I J) w 3 0 F = F (.ref (w + 1)) := by rcases isW_or h with rfl | rfl | rfl <;> exact st_fg (by decide) rfl rfl
theorem fgW_1 {I : st_I} {J : st_J} {w : Nat} {F : Value → pv_R} (h : isW w = true) : pv_fg (st_E I J) w 3 1 F = F (.ref (w + 6)) := by rcases isW_or h with rfl | rfl | rfl <;> exact st_fg (by decide) rfl rfl
theorem fgW_2 {I : st_I} {J : st_J} {w : Nat} {F : Value → pv_R} (h : isW w = true) : pv_fg (st_E I J) w 3 2 F = F (.ref (w + 7)) := by rcases isW_or h with rfl | rfl | rfl <;> exact st_fg (by decide) rfl rfl
theorem fgW_3 {I : st_I} {J : st_J} {w : Nat} {F : Value → pv_R} (h : isW w = true) : pv_fg (st_E I J) w 3 3 F = F (.ref (w + 8)) := by rcases isW_or h with rfl | rfl | rfl <;> exact st_fg (by decide) rfl rfl
theorem fgW_4 {I : st_I} {J : st_J} {w : Nat} {F : Value → pv_R} (h : isW w = true) : pv_fg (st_E I J) w 3 4 F = F (.ref (w + 9)) := by rcases isW_or h with rfl | rfl | rfl <;> exact st_fg (by decide) rfl rfl
theorem fgW_5 {I : st_I} {J : st_J} {w : Nat} {F : Value → pv_R} (h : isW w = true) : pv_fg (st_E I J) w 3 5 F = F (.int (I w 5)) := by rcases isW_or h with rfl | rfl | rfl <;> exact st_fg (by decide) rfl rfl
theorem fpW_5 {I : st_I} {J : st_J} {w : Nat} {v : Int32} {F : List va_E → pv_R} (h : isW w = true) : pv_fp (st_E I J) w 3 5 (.int v) F = F (st_E (st_u I w 5 v) J) := by rcases isW_or h with rfl | rfl | rfl <;> exact st_fp (by decide) rfl (Nat.le_of_ble_eq_true rfl) rfl
theorem ocW {I : st_I} {J : st_J} {w : Nat} {F : Nat → pv_R} (h : isW w = true) : pv_oc (st_E I J) w F = F 3 := by rcases isW_or h with rfl | rfl | rfl <;> exact st_oc (by decide) rfl
theorem fgS_0 {I : st_I} {J : st_J} {a : Nat} {F : Value → pv_R} (h : isS a = true) : pv_fg (st_E I J) a 1 0 F = F (.ref (a + 1)) := by rcases isS_or h with rfl | rfl | rfl | rfl | rfl | rfl <;> exact st_fg (by decide) rfl rfl
theorem fgS_1 {I : st_I} {J : st_J} {a : Nat} {F : Value → pv_R} (h : isS a = true) : pv_fg (st_E I J) a 1 1 F = F (.int (I a 1)) := by rcases isS_or h with rfl | rfl | rfl | rfl | rfl | rfl <;> exact st_fg (by decide) rfl rfl
theorem fpS_1 {I : st_I} {J : st_J} {a : Nat} {v : Int32} {F : List va_E → pv_R} (h : isS a = true) : pv_fp (st_E I J) a 1 1 (.int v) F = F (st_E (st_u I a 1 v) J) := by rcases isS_or h with rfl | rfl | rfl | rfl | rfl | rfl <;> exact st_fp (by decide) rfl (Nat.le_of_ble_eq_true rfl) rfl
theorem ocS {I : st_I} {J : st_J} {a : Nat} {F : Nat → pv_R} (h : isS a = true) : pv_oc (st_E I J) a F = F 1 := by rcases isS_or h with rfl | rfl | rfl | rfl | rfl | rfl <;> exact st_oc (by decide) rfl
theorem aiS {I : st_I} {J : st_J} {a : Nat} {F : Nat → (Nat → Int32) → pv_R} (h : isS a = true) : pv_ai (st_E I J) (a + 1) F = F 6 (I (a + 1)) := by rcases isS_or h with rfl | rfl | rfl | rfl | rfl | rfl <;> exact st_ai (by decide) rfl
theorem wiS {I : st_I} {J : st_J} {a : Nat} {j v : Int32} {F : List va_E → pv_R} (h : isS a = true) : pv_wi (st_E I J) (a + 1) j v F = pv_if (pm_ok j 6) (F (st_E (st_u I (a + 1) j.toNatClampNeg v) J)) := by rcases isS_or h with rfl | rfl | rfl | rfl | rfl | rfl <;> exact st_wi (by decide) (fun _ => rfl)
theorem aiW_6 {I : st_I} {J : st_J} {w : Nat} {F : Nat → (Nat → Int32) → pv_R} (h : isW w = true) : pv_ai (st_E I J) (w + 6) F = F 17 (I (w + 6)) := by rcases isW_or h with rfl | rfl | rfl <;> exact st_ai (by decide) rfl
theorem wiW_6 {I : st_I} {J : st_J} {w : Nat} {j v : Int32} {F : List va_E → pv_R} (h : isW w = true) : pv_wi (st_E I J) (w + 6) j v F = pv_if (pm_ok j 17) (F (st_E (st_u I (w + 6) j.toNatClampNeg v) J)) := by rcases isW_or h with rfl | rfl | rfl <;> exact st_wi (by decide) (fun _ => rfl)
theorem aiW_7 {I : st_I} {J : st_J} {w : Nat} {F : Nat → (Nat → Int32) → pv_R} (h : isW w = true) : pv_ai (st_E I J) (w + 7) F = F 6 (I (w + 7)) := by rcases isW_or h with rfl | rfl | rfl <;> exact st_ai (by decide) rfl
theorem wiW_7 {I : st_I} {J : st_J} {w : Nat} {j v : Int32} {F : List va_E → pv_R} (h : isW w = true) : pv_wi (st_E I J) (w + 7) j v F = pv_if (pm_ok j 6) (F (st_E (st_u I (w + 7) j.toNatClampNeg v) J)) := by rcases isW_or h with rfl | rfl | rfl <;> exact st_wi (by decide) (fun _ => rfl)
theorem aiW_8 {I : st_I} {J : st_J} {w : Nat} {F : Nat → (Nat → Int32) → pv_R} (h : isW w = true) : pv_ai (st_E I J) (w + 8) F = F 6 (I (w + 8)) := by rcases isW_or h with rfl | rfl | rfl <;> exact st_ai (by decide) rfl
theorem wiW_8 {I : st_I} {J : st_J} {w : Nat} {j v : Int32} {F : List va_E → pv_R} (h : isW w = true) : pv_wi (st_E I J) (w + 8) j v F = pv_if (pm_ok j 6) (F (st_E (st_u I (w + 8) j.toNatClampNeg v) J)) := by rcases isW_or h with rfl | rfl | rfl <;> exact st_wi (by decide) (fun _ => rfl)
theorem aiW_9 {I : st_I} {J : st_J} {w : Nat} {F : Nat → (Nat → Int32) → pv_R} (h : isW w = true) : pv_ai (st_E I J) (w + 9) F = F 6 (I (w + 9)) := by rcases isW_or h with rfl | rfl | rfl <;> exact st_ai (by decide) rfl
theorem wiW_9 {I : st_I} {J : st_J} {w : Nat} {j v : Int32} {F : List va_E → pv_R} (h : isW w = true) : pv_wi (st_E I J) (w + 9) j v F = pv_if (pm_ok j 6) (F (st_E (st_u I (w + 9) j.toNatClampNeg v) J)) := by rcases isW_or h with rfl | rfl | rfl <;> exact st_wi (by decide) (fun _ => rfl)
theorem aqW {I : st_I} {J : st_J} {w : Nat} {F : Nat → (Nat → Option Nat) → pv_R} (h : isW w = true) : pv_aq (st_E I J) (w + 1) F = F 2 (fun j => if j = 1 then some (w + 4) else if j = 0 then some (w + 2) else none) := by rcases isW_or h with rfl | rfl | rfl <;> exact st_aq (by decide) rfl
theorem fg_0_0 {I : st_I} {J : st_J} {F : Value → pv_R} : pv_fg (st_E I J) 0 4 0 F = F (.ref 1) := st_fg (by decide) rfl rfl
theorem fg_0_1 {I : st_I} {J : st_J} {F : Value → pv_R} : pv_fg (st_E I J) 0 4 1 F = F (.ref 11) := st_fg (by decide) rfl rfl
theorem fg_0_2 {I : st_I} {J : st_J} {F : Value → pv_R} : pv_fg (st_E I J) 0 4 2 F = F (.ref 21) := st_fg (by decide) rfl rfl
theorem fg_0_3 {I : st_I} {J : st_J} {F : Value → pv_R} : pv_fg (st_E I J) 0 4 3 F = F (.ref 31) := st_fg (by decide) rfl rfl
theorem fg_0_4 {I : st_I} {J : st_J} {F : Value → pv_R} : pv_fg (st_E I J) 0 4 4 F = F (.ref 33) := st_fg (by decide) rfl rfl
theorem fg_0_5 {I : st_I} {J : st_J} {F : Value → pv_R} : pv_fg (st_E I J) 0 4 5 F = F (.ref 34) := st_fg (by decide) rfl rfl
theorem fg_0_6 {I : st_I} {J : st_J} {F : Value → pv_R} : pv_fg (st_E I J) 0 4 6 F = F (.ref 35) := st_fg (by decide) rfl rfl
theorem fg_0_7 {I : st_I} {J : st_J} {F : Value → pv_R} : pv_fg (st_E I J) 0 4 7 F = F (.int (I 0 7)) := st_fg (by decide) rfl rfl
theorem fg_0_8 {I : st_I} {J : st_J} {F : Value → pv_R} : pv_fg (st_E I J) 0 4 8 F = F (.int (I 0 8)) := st_fg (by decide) rfl rfl
theorem fp_0_7 {I : st_I} {J : st_J} {v : Int32} {F : List va_E → pv_R} : pv_fp (st_E I J) 0 4 7 (.int v) F = F (st_E (st_u I 0 7 v) J) := st_fp (by decide) rfl (Nat.le_of_ble_eq_true rfl) rfl
theorem fp_0_8 {I : st_I} {J : st_J} {v : Int32} {F : List va_E → pv_R} : pv_fp (st_E I J) 0 4 8 (.int v) F = F (st_E (st_u I 0 8 v) J) := st_fp (by decide) rfl (Nat.le_of_ble_eq_true rfl) rfl
theorem oc_0 {I : st_I} {J : st_J} {F : Nat → pv_R} : pv_oc (st_E I J) 0 F = F 4 := st_oc (by decide) rfl
theorem fg_31_0 {I : st_I} {J : st_J} {F : Value → pv_R} : pv_fg (st_E I J) 31 0 0 F = F (.ref 32) := st_fg (by decide) rfl rfl
theorem fg_31_1 {I : st_I} {J : st_J} {F : Value → pv_R} : pv_fg (st_E I J) 31 0 1 F = F (.int (I 31 1)) := st_fg (by decide) rfl rfl
theorem fp_31_1 {I : st_I} {J : st_J} {v : Int32} {F : List va_E → pv_R} : pv_fp (st_E I J) 31 0 1 (.int v) F = F (st_E (st_u I 31 1 v) J) := st_fp (by decide) rfl (Nat.le_of_ble_eq_true rfl) rfl
theorem oc_31 {I : st_I} {J : st_J} {F : Nat → pv_R} : pv_oc (st_E I J) 31 F = F 0 := st_oc (by decide) rfl
theorem ai_32 {I : st_I} {J : st_J} {F : Nat → (Nat → Int32) → pv_R} : pv_ai (st_E I J) 32 F = F 96 (I 32) := st_ai (by decide) rfl
theorem wi_32 {I : st_I} {J : st_J} {j v : Int32} {F : List va_E → pv_R} : pv_wi (st_E I J) 32 j v F = pv_if (pm_ok j 96) (F (st_E (st_u I 32 j.toNatClampNeg v) J)) := st_wi (by decide) (fun _ => rfl)
theorem fg_33_0 {I : st_I} {J : st_J} {F : Value → pv_R} : pv_fg (st_E I J) 33 2 0 F = F (.int (I 33 0)) := st_fg (by decide) rfl rfl
theorem fp_33_0 {I : st_I} {J : st_J} {v : Int32} {F : List va_E → pv_R} : pv_fp (st_E I J) 33 2 0 (.int v) F = F (st_E (st_u I 33 0 v) J) := st_fp (by decide) rfl (Nat.le_of_ble_eq_true rfl) rfl
theorem fg_33_1 {I : st_I} {J : st_J} {F : Value → pv_R} : pv_fg (st_E I J) 33 2 1 F = F (.int (I 33 1)) := st_fg (by decide) rfl rfl
theorem fp_33_1 {I : st_I} {J : st_J} {v : Int32} {F : List va_E → pv_R} : pv_fp (st_E I J) 33 2 1 (.int v) F = F (st_E (st_u I 33 1 v) J) := st_fp (by decide) rfl (Nat.le_of_ble_eq_true rfl) rfl
theorem fg_33_2 {I : st_I} {J : st_J} {F : Value → pv_R} : pv_fg (st_E I J) 33 2 2 F = F (.int (I 33 2)) := st_fg (by decide) rfl rfl
theorem fp_33_2 {I : st_I} {J : st_J} {v : Int32} {F : List va_E → pv_R} : pv_fp (st_E I J) 33 2 2 (.int v) F = F (st_E (st_u I 33 2 v) J) := st_fp (by decide) rfl (Nat.le_of_ble_eq_true rfl) rfl
theorem fg_33_3 {I : st_I} {J : st_J} {F : Value → pv_R} : pv_fg (st_E I J) 33 2 3 F = F (.int (I 33 3)) := st_fg (by decide) rfl rfl
theorem fp_33_3 {I : st_I} {J : st_J} {v : Int32} {F : List va_E → pv_R} : pv_fp (st_E I J) 33 2 3 (.int v) F = F (st_E (st_u I 33 3 v) J) := st_fp (by decide) rfl (Nat.le_of_ble_eq_true rfl) rfl
theorem oc_33 {I : st_I} {J : st_J} {F : Nat → pv_R} : pv_oc (st_E I J) 33 F = F 2 := st_oc (by decide) rfl
theorem ai_34 {I : st_I} {J : st_J} {F : Nat → (Nat → Int32) → pv_R} : pv_ai (st_E I J) 34 F = F 16 (I 34) := st_ai (by decide) rfl
theorem wi_34 {I : st_I} {J : st_J} {j v : Int32} {F : List va_E → pv_R} : pv_wi (st_E I J) 34 j v F = pv_if (pm_ok j 16) (F (st_E (st_u I 34 j.toNatClampNeg v) J)) := st_wi (by decide) (fun _ => rfl)
theorem ai_35 {I : st_I} {J : st_J} {F : Nat → (Nat → Int32) → pv_R} : pv_ai (st_E I J) 35 F = F 7 (I 35) := st_ai (by decide) rfl
theorem wi_35 {I : st_I} {J : st_J} {j v : Int32} {F : List va_E → pv_R} : pv_wi (st_E I J) 35 j v F = pv_if (pm_ok j 7) (F (st_E (st_u I 35 j.toNatClampNeg v) J)) := st_wi (by decide) (fun _ => rfl)
theorem fg_36_0 {I : st_I} {J : st_J} {F : Value → pv_R} : pv_fg (st_E I J) 36 5 0 F = F (.ref 37) := st_fg (by decide) rfl rfl
theorem fg_36_1 {I : st_I} {J : st_J} {F : Value → pv_R} : pv_fg (st_E I J) 36 5 1 F = F (.ref 38) := st_fg (by decide) rfl rfl
theorem fg_36_2 {I : st_I} {J : st_J} {F : Value → pv_R} : pv_fg (st_E I J) 36 5 2 F = F (.ref 39) := st_fg (by decide) rfl rfl
theorem fg_36_3 {I : st_I} {J : st_J} {F : Value → pv_R} : pv_fg (st_E I J) 36 5 3 F = F (.ref 40) := st_fg (by decide) rfl rfl
theorem fg_36_4 {I : st_I} {J : st_J} {F : Value → pv_R} : pv_fg (st_E I J) 36 5 4 F = F (.ref 41) := st_fg (by decide) rfl rfl
theorem fg_36_5 {I : st_I} {J : st_J} {F : Value → pv_R} : pv_fg (st_E I J) 36 5 5 F = F (.ref 42) := st_fg (by decide) rfl rfl
theorem fg_36_6 {I : st_I} {J : st_J} {F : Value → pv_R} : pv_fg (st_E I J) 36 5 6 F = F (.ref 43) := st_fg (by decide) rfl rfl
theorem fg_36_7 {I : st_I} {J : st_J} {F : Value → pv_R} : pv_fg (st_E I J) 36 5 7 F = F (.int (I 36 7)) := st_fg (by decide) rfl rfl
theorem fp_36_7 {I : st_I} {J : st_J} {v : Int32} {F : List va_E → pv_R} : pv_fp (st_E I J) 36 5 7 (.int v) F = F (st_E (st_u I 36 7 v) J) := st_fp (by decide) rfl (Nat.le_of_ble_eq_true rfl) rfl
theorem fg_36_8 {I : st_I} {J : st_J} {F : Value → pv_R} : pv_fg (st_E I J) 36 5 8 F = F (.ref 44) := st_fg (by decide) rfl rfl
theorem fg_36_9 {I : st_I} {J : st_J} {F : Value → pv_R} : pv_fg (st_E I J) 36 5 9 F = F (.ref 45) := st_fg (by decide) rfl rfl
theorem fg_36_10 {I : st_I} {J : st_J} {F : Value → pv_R} : pv_fg (st_E I J) 36 5 10 F = F (.ref 46) := st_fg (by decide) rfl rfl
theorem fg_36_11 {I : st_I} {J : st_J} {F : Value → pv_R} : pv_fg (st_E I J) 36 5 11 F = F (.ref 47) := st_fg (by decide) rfl rfl
theorem fg_36_12 {I : st_I} {J : st_J} {F : Value → pv_R} : pv_fg (st_E I J) 36 5 12 F = F (.int (I 36 12)) := st_fg (by decide) rfl rfl
theorem fp_36_12 {I : st_I} {J : st_J} {v : Int32} {F : List va_E → pv_R} : pv_fp (st_E I J) 36 5 12 (.int v) F = F (st_E (st_u I 36 12 v) J) := st_fp (by decide) rfl (Nat.le_of_ble_eq_true rfl) rfl
theorem fg_36_13 {I : st_I} {J : st_J} {F : Value → pv_R} : pv_fg (st_E I J) 36 5 13 F = F (.int (I 36 13)) := st_fg (by decide) rfl rfl
theorem fp_36_13 {I : st_I} {J : st_J} {v : Int32} {F : List va_E → pv_R} : pv_fp (st_E I J) 36 5 13 (.int v) F = F (st_E (st_u I 36 13 v) J) := st_fp (by decide) rfl (Nat.le_of_ble_eq_true rfl) rfl
theorem fg_36_14 {I : st_I} {J : st_J} {F : Value → pv_R} : pv_fg (st_E I J) 36 5 14 F = F (.int (I 36 14)) := st_fg (by decide) rfl rfl
theorem fp_36_14 {I : st_I} {J : st_J} {v : Int32} {F : List va_E → pv_R} : pv_fp (st_E I J) 36 5 14 (.int v) F = F (st_E (st_u I 36 14 v) J) := st_fp (by decide) rfl (Nat.le_of_ble_eq_true rfl) rfl
theorem fg_36_15 {I : st_I} {J : st_J} {F : Value → pv_R} : pv_fg (st_E I J) 36 5 15 F = F (.ref 48) := st_fg (by decide) rfl rfl
theorem fg_36_16 {I : st_I} {J : st_J} {F : Value → pv_R} : pv_fg (st_E I J) 36 5 16 F = F (.int (I 36 16)) := st_fg (by decide) rfl rfl
theorem fp_36_16 {I : st_I} {J : st_J} {v : Int32} {F : List va_E → pv_R} : pv_fp (st_E I J) 36 5 16 (.int v) F = F (st_E (st_u I 36 16 v) J) := st_fp (by decide) rfl (Nat.le_of_ble_eq_true rfl) rfl
theorem fg_36_17 {I : st_I} {J : st_J} {F : Value → pv_R} : pv_fg (st_E I J) 36 5 17 F = F (.int (I 36 17)) := st_fg (by decide) rfl rfl
theorem fp_36_17 {I : st_I} {J : st_J} {v : Int32} {F : List va_E → pv_R} : pv_fp (st_E I J) 36 5 17 (.int v) F = F (st_E (st_u I 36 17 v) J) := st_fp (by decide) rfl (Nat.le_of_ble_eq_true rfl) rfl
theorem fg_36_18 {I : st_I} {J : st_J} {F : Value → pv_R} : pv_fg (st_E I J) 36 5 18 F = F (.int (I 36 18)) := st_fg (by decide) rfl rfl
theorem fp_36_18 {I : st_I} {J : st_J} {v : Int32} {F : List va_E → pv_R} : pv_fp (st_E I J) 36 5 18 (.int v) F = F (st_E (st_u I 36 18 v) J) := st_fp (by decide) rfl (Nat.le_of_ble_eq_true rfl) rfl
theorem fg_36_19 {I : st_I} {J : st_J} {F : Value → pv_R} : pv_fg (st_E I J) 36 5 19 F = F (.int (I 36 19)) := st_fg (by decide) rfl rfl
theorem fp_36_19 {I : st_I} {J : st_J} {v : Int32} {F : List va_E → pv_R} : pv_fp (st_E I J) 36 5 19 (.int v) F = F (st_E (st_u I 36 19 v) J) := st_fp (by decide) rfl (Nat.le_of_ble_eq_true rfl) rfl
theorem fg_36_20 {I : st_I} {J : st_J} {F : Value → pv_R} : pv_fg (st_E I J) 36 5 20 F = F (.int (I 36 20)) := st_fg (by decide) rfl rfl
theorem fp_36_20 {I : st_I} {J : st_J} {v : Int32} {F : List va_E → pv_R} : pv_fp (st_E I J) 36 5 20 (.int v) F = F (st_E (st_u I 36 20 v) J) := st_fp (by decide) rfl (Nat.le_of_ble_eq_true rfl) rfl
theorem fg_36_21 {I : st_I} {J : st_J} {F : Value → pv_R} : pv_fg (st_E I J) 36 5 21 F = F (.int (I 36 21)) := st_fg (by decide) rfl rfl
theorem fp_36_21 {I : st_I} {J : st_J} {v : Int32} {F : List va_E → pv_R} : pv_fp (st_E I J) 36 5 21 (.int v) F = F (st_E (st_u I 36 21 v) J) := st_fp (by decide) rfl (Nat.le_of_ble_eq_true rfl) rfl
theorem fg_36_22 {I : st_I} {J : st_J} {F : Value → pv_R} : pv_fg (st_E I J) 36 5 22 F = F (.int (I 36 22)) := st_fg (by decide) rfl rfl
theorem fp_36_22 {I : st_I} {J : st_J} {v : Int32} {F : List va_E → pv_R} : pv_fp (st_E I J) 36 5 22 (.int v) F = F (st_E (st_u I 36 22 v) J) := st_fp (by decide) rfl (Nat.le_of_ble_eq_true rfl) rfl
theorem fg_36_23 {I : st_I} {J : st_J} {F : Value → pv_R} : pv_fg (st_E I J) 36 5 23 F = F (.long (J 36 23)) := st_fg (by decide) rfl rfl
theorem fp_36_23 {I : st_I} {J : st_J} {v : Int64} {F : List va_E → pv_R} : pv_fp (st_E I J) 36 5 23 (.long v) F = F (st_E I (st_l J 36 23 v)) := st_fpl (by decide) rfl (Nat.le_of_ble_eq_true rfl) rfl
theorem fg_36_24 {I : st_I} {J : st_J} {F : Value → pv_R} : pv_fg (st_E I J) 36 5 24 F = F (.long (J 36 24)) := st_fg (by decide) rfl rfl
theorem fp_36_24 {I : st_I} {J : st_J} {v : Int64} {F : List va_E → pv_R} : pv_fp (st_E I J) 36 5 24 (.long v) F = F (st_E I (st_l J 36 24 v)) := st_fpl (by decide) rfl (Nat.le_of_ble_eq_true rfl) rfl
theorem fg_36_25 {I : st_I} {J : st_J} {F : Value → pv_R} : pv_fg (st_E I J) 36 5 25 F = F (.ref 49) := st_fg (by decide) rfl rfl
theorem fg_36_26 {I : st_I} {J : st_J} {F : Value → pv_R} : pv_fg (st_E I J) 36 5 26 F = F (.ref 50) := st_fg (by decide) rfl rfl
theorem fg_36_27 {I : st_I} {J : st_J} {F : Value → pv_R} : pv_fg (st_E I J) 36 5 27 F = F (.ref 51) := st_fg (by decide) rfl rfl
theorem fg_36_28 {I : st_I} {J : st_J} {F : Value → pv_R} : pv_fg (st_E I J) 36 5 28 F = F (.int (I 36 28)) := st_fg (by decide) rfl rfl
theorem fp_36_28 {I : st_I} {J : st_J} {v : Int32} {F : List va_E → pv_R} : pv_fp (st_E I J) 36 5 28 (.int v) F = F (st_E (st_u I 36 28 v) J) := st_fp (by decide) rfl (Nat.le_of_ble_eq_true rfl) rfl
theorem fg_36_29 {I : st_I} {J : st_J} {F : Value → pv_R} : pv_fg (st_E I J) 36 5 29 F = F (.int (I 36 29)) := st_fg (by decide) rfl rfl
theorem fp_36_29 {I : st_I} {J : st_J} {v : Int32} {F : List va_E → pv_R} : pv_fp (st_E I J) 36 5 29 (.int v) F = F (st_E (st_u I 36 29 v) J) := st_fp (by decide) rfl (Nat.le_of_ble_eq_true rfl) rfl
theorem oc_36 {I : st_I} {J : st_J} {F : Nat → pv_R} : pv_oc (st_E I J) 36 F = F 5 := st_oc (by decide) rfl
theorem ai_37 {I : st_I} {J : st_J} {F : Nat → (Nat → Int32) → pv_R} : pv_ai (st_E I J) 37 F = F 7 (I 37) := st_ai (by decide) rfl
theorem wi_37 {I : st_I} {J : st_J} {j v : Int32} {F : List va_E → pv_R} : pv_wi (st_E I J) 37 j v F = pv_if (pm_ok j 7) (F (st_E (st_u I 37 j.toNatClampNeg v) J)) := st_wi (by decide) (fun _ => rfl)
theorem ai_38 {I : st_I} {J : st_J} {F : Nat → (Nat → Int32) → pv_R} : pv_ai (st_E I J) 38 F = F 12 (I 38) := st_ai (by decide) rfl
theorem wi_38 {I : st_I} {J : st_J} {j v : Int32} {F : List va_E → pv_R} : pv_wi (st_E I J) 38 j v F = pv_if (pm_ok j 12) (F (st_E (st_u I 38 j.toNatClampNeg v) J)) := st_wi (by decide) (fun _ => rfl)
theorem ai_39 {I : st_I} {J : st_J} {F : Nat → (Nat → Int32) → pv_R} : pv_ai (st_E I J) 39 F = F 2 (I 39) := st_ai (by decide) rfl
theorem wi_39 {I : st_I} {J : st_J} {j v : Int32} {F : List va_E → pv_R} : pv_wi (st_E I J) 39 j v F = pv_if (pm_ok j 2) (F (st_E (st_u I 39 j.toNatClampNeg v) J)) := st_wi (by decide) (fun _ => rfl)
theorem ai_40 {I : st_I} {J : st_J} {F : Nat → (Nat → Int32) → pv_R} : pv_ai (st_E I J) 40 F = F 17 (I 40) := st_ai (by decide) rfl
theorem wi_40 {I : st_I} {J : st_J} {j v : Int32} {F : List va_E → pv_R} : pv_wi (st_E I J) 40 j v F = pv_if (pm_ok j 17) (F (st_E (st_u I 40 j.toNatClampNeg v) J)) := st_wi (by decide) (fun _ => rfl)
theorem ai_41 {I : st_I} {J : st_J} {F : Nat → (Nat → Int32) → pv_R} : pv_ai (st_E I J) 41 F = F 6 (I 41) := st_ai (by decide) rfl
theorem wi_41 {I : st_I} {J : st_J} {j v : Int32} {F : List va_E → pv_R} : pv_wi (st_E I J) 41 j v F = pv_if (pm_ok j 6) (F (st_E (st_u I 41 j.toNatClampNeg v) J)) := st_wi (by decide) (fun _ => rfl)
theorem ai_42 {I : st_I} {J : st_J} {F : Nat → (Nat → Int32) → pv_R} : pv_ai (st_E I J) 42 F = F 6 (I 42) := st_ai (by decide) rfl
theorem wi_42 {I : st_I} {J : st_J} {j v : Int32} {F : List va_E → pv_R} : pv_wi (st_E I J) 42 j v F = pv_if (pm_ok j 6) (F (st_E (st_u I 42 j.toNatClampNeg v) J)) := st_wi (by decide) (fun _ => rfl)
theorem ai_43 {I : st_I} {J : st_J} {F : Nat → (Nat → Int32) → pv_R} : pv_ai (st_E I J) 43 F = F 6 (I 43) := st_ai (by decide) rfl
theorem wi_43 {I : st_I} {J : st_J} {j v : Int32} {F : List va_E → pv_R} : pv_wi (st_E I J) 43 j v F = pv_if (pm_ok j 6) (F (st_E (st_u I 43 j.toNatClampNeg v) J)) := st_wi (by decide) (fun _ => rfl)
theorem ai_44 {I : st_I} {J : st_J} {F : Nat → (Nat → Int32) → pv_R} : pv_ai (st_E I J) 44 F = F 96 (I 44) := st_ai (by decide) rfl
theorem wi_44 {I : st_I} {J : st_J} {j v : Int32} {F : List va_E → pv_R} : pv_wi (st_E I J) 44 j v F = pv_if (pm_ok j 96) (F (st_E (st_u I 44 j.toNatClampNeg v) J)) := st_wi (by decide) (fun _ => rfl)
theorem ai_45 {I : st_I} {J : st_J} {F : Nat → (Nat → Int32) → pv_R} : pv_ai (st_E I J) 45 F = F 48 (I 45) := st_ai (by decide) rfl
theorem wi_45 {I : st_I} {J : st_J} {j v : Int32} {F : List va_E → pv_R} : pv_wi (st_E I J) 45 j v F = pv_if (pm_ok j 48) (F (st_E (st_u I 45 j.toNatClampNeg v) J)) := st_wi (by decide) (fun _ => rfl)
theorem ai_46 {I : st_I} {J : st_J} {F : Nat → (Nat → Int32) → pv_R} : pv_ai (st_E I J) 46 F = F 48 (I 46) := st_ai (by decide) rfl
theorem wi_46 {I : st_I} {J : st_J} {j v : Int32} {F : List va_E → pv_R} : pv_wi (st_E I J) 46 j v F = pv_if (pm_ok j 48) (F (st_E (st_u I 46 j.toNatClampNeg v) J)) := st_wi (by decide) (fun _ => rfl)
theorem ai_47 {I : st_I} {J : st_J} {F : Nat → (Nat → Int32) → pv_R} : pv_ai (st_E I J) 47 F = F 96 (I 47) := st_ai (by decide) rfl
theorem wi_47 {I : st_I} {J : st_J} {j v : Int32} {F : List va_E → pv_R} : pv_wi (st_E I J) 47 j v F = pv_if (pm_ok j 96) (F (st_E (st_u I 47 j.toNatClampNeg v) J)) := st_wi (by decide) (fun _ => rfl)
theorem ai_48 {I : st_I} {J : st_J} {F : Nat → (Nat → Int32) → pv_R} : pv_ai (st_E I J) 48 F = F 100 (I 48) := st_ai (by decide) rfl
theorem wi_48 {I : st_I} {J : st_J} {j v : Int32} {F : List va_E → pv_R} : pv_wi (st_E I J) 48 j v F = pv_if (pm_ok j 100) (F (st_E (st_u I 48 j.toNatClampNeg v) J)) := st_wi (by decide) (fun _ => rfl)
theorem ai_51 {I : st_I} {J : st_J} {F : Nat → (Nat → Int32) → pv_R} : pv_ai (st_E I J) 51 F = F 16 (I 51) := st_ai (by decide) rfl
theorem wi_51 {I : st_I} {J : st_J} {j v : Int32} {F : List va_E → pv_R} : pv_wi (st_E I J) 51 j v F = pv_if (pm_ok j 16) (F (st_E (st_u I 51 j.toNatClampNeg v) J)) := st_wi (by decide) (fun _ => rfl)
theorem al_49 {I : st_I} {J : st_J} {F : Nat → (Nat → Int64) → pv_R} : pv_al (st_E I J) 49 F = F 8 (J 49) := st_al (by decide) rfl
theorem wl_49 {I : st_I} {J : st_J} {j : Int32} {v : Int64} {F : List va_E → pv_R} : pv_wl (st_E I J) 49 j v F = pv_if (pm_ok j 8) (F (st_E I (st_l J 49 j.toNatClampNeg v))) := st_wl (by decide) (fun _ => rfl)
theorem al_50 {I : st_I} {J : st_J} {F : Nat → (Nat → Int64) → pv_R} : pv_al (st_E I J) 50 F = F 17 (J 50) := st_al (by decide) rfl
theorem wl_50 {I : st_I} {J : st_J} {j : Int32} {v : Int64} {F : List va_E → pv_R} : pv_wl (st_E I J) 50 j v F = pv_if (pm_ok j 17) (F (st_E I (st_l J 50 j.toNatClampNeg v))) := st_wl (by decide) (fun _ => rfl)
