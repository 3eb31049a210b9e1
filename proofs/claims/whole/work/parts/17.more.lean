section PVD
variable {X : pm_X} {d mi pc : Nat} {L : List (Option Value)} {st : List Value} {h : List va_E}
theorem pv_iconst2 {i : Int} {v : Int32} (hd : decode (pm_b mi) pc = .ok (.iconst i, 1)) (hv : Int32.ofInt i = v) : pm_ev X (d + 1) mi (pc, L, st, h) = pm_ev X (d + 1) mi (pc + 1, L, .int v :: st, h) := by rw [pv_iconst hd, hv]
theorem pv_lconst2 {i : Fin 2} {v : Int64} (hd : decode (pm_b mi) pc = .ok (.lconst i, 1)) (hv : Int64.ofNat (i : Nat) = v) : pm_ev X (d + 1) mi (pc, L, st, h) = pm_ev X (d + 1) mi (pc + 1, L, .long v :: st, h) := by rw [pv_lconst hd, hv]
theorem pv_bipush2 {i : Int} {v : Int32} (hd : decode (pm_b mi) pc = .ok (.bipush i, 2)) (hv : (Int8.ofInt i).toInt32 = v) : pm_ev X (d + 1) mi (pc, L, st, h) = pm_ev X (d + 1) mi (pc + 2, L, .int v :: st, h) := by rw [pv_bipush hd, hv]
theorem pv_sipush2 {i : Int} {v : Int32} (hd : decode (pm_b mi) pc = .ok (.sipush i, 3)) (hv : (Int16.ofInt i).toInt32 = v) : pm_ev X (d + 1) mi (pc, L, st, h) = pm_ev X (d + 1) mi (pc + 3, L, .int v :: st, h) := by rw [pv_sipush hd, hv]
theorem pv_iinc2 {k : Nat} {i : Int} {v : Int32} (hd : decode (pm_b mi) pc = .ok (.iinc k i, 3)) (hv : Int32.ofInt i = v) : pm_ev X (d + 1) mi (pc, L, st, h) = pv_gi L k fun x => pv_s1 L k (.int (x + v)) fun L => pm_ev X (d + 1) mi (pc + 3, L, st, h) := by rw [pv_iinc hd, hv]
end PVD
theorem pv_ne_int {x y : Int32} {n : Int} (h : ¬ x = y) (hy : y.toInt = n) : ¬ x.toInt = n ∧ ¬ n = x.toInt := ⟨fun e => h (Int32.toInt_inj.mp (e.trans hy.symm)), fun e => h (Int32.toInt_inj.mp (e.symm.trans hy.symm))⟩
theorem pv_tabin {x : Int32} {pc T : Nat} {dflt lo hi : Int} {offs : Array Int} (h : ¬ (x.toInt < lo ∨ hi < x.toInt) ∧ (offs[(x.toInt - lo).toNat]?).map (fun off => (pc : Int) + off) = some (T : Int)) : if x.toInt < lo ∨ hi < x.toInt then (pc : Int) + dflt = T else ∃ off, offs[(x.toInt - lo).toNat]? = some off ∧ (pc : Int) + off = T := by
  rw [if_neg h.1]
  exact Option.map_eq_some_iff.mp h.2
