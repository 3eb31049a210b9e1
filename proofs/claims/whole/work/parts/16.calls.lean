/-! calls -/
def pv_ar : Nat → List Value → List Value → (List Value → List Value → pv_R) → pv_R
  | 0, st, acc, F => F acc st
  | n + 1, v :: st, acc, F => pv_ar n st (v :: acc) F
  | _ + 1, [], _, _ => none
theorem pv_cut_eq : ∀ (n : Nat) (st acc : List Value) (k : List Value → List Value → pm_O) (K : pm_O → pv_R), K none = none → (if n ≤ st.length then K (k ((st.take n).reverse ++ acc) (st.drop n)) else none) = pv_ar n st acc fun as st => K (k as st)
  | 0, st, acc, k, K, h => by simp [pv_ar]
  | n + 1, [], acc, k, K, h => by simp [pv_ar]
  | n + 1, v :: st, acc, k, K, h => by
    have := pv_cut_eq n st (v :: acc) k K h
    simp only [pv_ar]
    rw [← this]
    simp [List.take_succ_cons, List.reverse_cons, List.append_assoc]
theorem pv_cut_K (n : Nat) (st : List Value) (k : List Value → List Value → pm_O) (K : pm_O → pv_R) (h : K none = none) : K (pm_cut n st k) = pv_ar n st [] fun as st => K (k as st) := by
  rw [← pv_cut_eq n st [] k K h]
  unfold pm_cut
  split <;> simp [h]
theorem pm_inv_K {X : pm_X} {d mi k : Nat} {as : List Value} {g : pm_F4} (hko : k ≠ pm_KO) : pm_K1 X d mi (pm_inv k as g) = pv_if (pm_w8 g.2.2.1) (pv_call X d k as g.2.2.2 fun v h => pm_ev X (d + 1) mi (g.1, g.2.1, v.toList ++ g.2.2.1, h)) := by
  unfold pm_inv pv_if
  split
  · show pm_Kk X d mi k as g = _
    unfold pm_Kk
    rw [if_neg hko]
  · rfl
section PVC
variable {X : pm_X} {d mi pc n : Nat} {L : List (Option Value)} {st : List Value} {h : List va_E}
theorem pv_virt {j k n : Nat} {nest : Bool} (hd : decode (pm_b mi) pc = .ok (.invokevirtual j, 3)) (hc : pm_cal (pm_own mi) j = some (k, n, 1, nest)) (hko : k ≠ pm_KO) : pm_ev X (d + 1) mi (pc, L, st, h) = pv_ar n st [] fun as st => pv_r1 st fun a st => pv_oc h a fun c => pv_if (c + 2 == pm_own k) (pv_if (pm_w8 st) (pv_call X d k (.ref a :: as) h fun v h => pm_ev X (d + 1) mi (pc + 3, L, v.toList ++ st, h))) := by
  rw [pm_ev_at hd rfl]; dsimp only [pm_ins]; rw [hc]; dsimp only [pm_sm]
  rw [show ((1 : Nat) == 1) = true from rfl]
  dsimp only [pm_if]
  rw [if_pos rfl, pv_cut_K _ _ _ (pm_K1 X d mi) rfl]; congr 1; funext as st
  rw [pv_r1_eq _ _ (pm_K1 X d mi) rfl]; congr 1; funext a st
  rw [pv_ob_eq _ _ _ (pm_K1 X d mi) rfl]
  unfold pv_oc
  split
  next c fs _ =>
    show pm_K1 X d mi (pm_if _ _) = _
    rw [pv_if_eq _ _ (pm_K1 X d mi) rfl]; congr 1
    exact pm_inv_K hko
  next => rfl
theorem pv_stat {j k n : Nat} {nest : Bool} (hd : decode (pm_b mi) pc = .ok (.invokestatic j, 3)) (ha : pm_arc (pm_own mi) j = false) (hc : pm_cal (pm_own mi) j = some (k, n, 0, nest)) (hm : pm_isM k = false) (hko : k ≠ pm_KO) : pm_ev X (d + 1) mi (pc, L, st, h) = pv_ar n st [] fun as st => pv_if (pm_w8 st) (pv_call X d k as h fun v h => pm_ev X (d + 1) mi (pc + 3, L, v.toList ++ st, h)) := by
  rw [pm_ev_at hd rfl]; dsimp only [pm_ins]; rw [hc, ha]; dsimp only [pm_sm]
  rw [show ((0 : Nat) == 0) = true from rfl, hm]
  simp only [pm_if, if_true, Bool.false_eq_true, if_false]
  rw [pv_cut_K _ _ _ (pm_K1 X d mi) rfl]; congr 1; funext as st
  exact pm_inv_K hko
theorem pv_spec {j k n : Nat} {nest : Bool} (hd : decode (pm_b mi) pc = .ok (.invokespecial j, 3)) (ha : pm_obj (pm_own mi) j = false) (hc : pm_cal (pm_own mi) j = some (k, n, 2, nest)) (hko : k ≠ pm_KO) : pm_ev X (d + 1) mi (pc, L, st, h) = pv_ar n st [] fun as st => pv_r1 st fun a st => pv_if (pm_w8 st) (pv_call X d k (.ref a :: as) h fun v h => pm_ev X (d + 1) mi (pc + 3, L, v.toList ++ st, h)) := by
  rw [pm_ev_at hd rfl]; dsimp only [pm_ins]; rw [hc, ha]; dsimp only [pm_sm]
  rw [show ((2 : Nat) == 2) = true from rfl]
  simp only [pm_if, if_true, Bool.false_eq_true, if_false]
  rw [pv_cut_K _ _ _ (pm_K1 X d mi) rfl]; congr 1; funext as st
  rw [pv_r1_eq _ _ (pm_K1 X d mi) rfl]; congr 1; funext a st
  exact pm_inv_K hko
theorem pv_objinit {j : Nat} (hd : decode (pm_b mi) pc = .ok (.invokespecial j, 3)) (ha : pm_obj (pm_own mi) j = true) : pm_ev X (d + 1) mi (pc, L, st, h) = pv_r1 st fun _ st => pv_if (pm_w8 st) (pm_ev X (d + 1) mi (pc + 3, L, st, h)) := by
  rw [pm_ev_at hd rfl]; dsimp only [pm_ins]; rw [ha, if_pos rfl]
  rw [pv_r1_eq _ _ (pm_K1 X d mi) rfl]; congr 1; funext a st
  exact pv_if_eq _ _ (pm_K1 X d mi) rfl
theorem pv_kind {j : Nat} {x1 : Int32} {nest : Bool} (hd : decode (pm_b mi) pc = .ok (.invokestatic j, 3)) (ha : pm_arc (pm_own mi) j = false) (hc : pm_cal (pm_own mi) j = some (pm_KO, 1, 0, nest)) : pm_ev X (d + 1) mi (pc, L, .int x1 :: st, h) = pv_if (pm_w8 st) (pv_if (decide (6 ≤ d) && (!decide (x1 < 0) && decide (x1 < 65536))) (pm_ev X (d + 1) mi (pc + 3, L, .int (pm_kind x1) :: st, h))) := by
  rw [pm_ev_at hd rfl]; dsimp only [pm_ins]; rw [hc, ha]; dsimp only [pm_sm]
  rw [show ((0 : Nat) == 0) = true from rfl, show pm_isM pm_KO = false from rfl]
  simp only [pm_if, if_true, Bool.false_eq_true, if_false]
  rw [pv_cut_K _ _ _ (pm_K1 X d mi) rfl]
  simp only [pv_ar, pm_inv, pv_if]
  split
  · show pm_Kk X d mi pm_KO [.int x1] _ = _
    simp only [pm_Kk, if_true, Bool.and_eq_true, decide_eq_true_eq, Bool.not_eq_true', decide_eq_false_iff_not]
    have e : (7 ≤ d + 1) = (6 ≤ d) := propext ⟨fun h => by omega, fun h => by omega⟩
    simp only [e]
  · rfl
theorem pv_mth {j k n : Nat} (hd : decode (pm_b mi) pc = .ok (.invokestatic j, 3)) (ha : pm_arc (pm_own mi) j = false) (hc : pm_cal (pm_own mi) j = some (k, n, 0, false)) (hm : pm_isM k = true) : pm_ev X (d + 1) mi (pc, L, st, h) = pm_K1 X d mi (pm_mth k pc L st h) := by
  rw [pm_ev_at hd rfl]; dsimp only [pm_ins]; rw [hc, ha]; dsimp only [pm_sm]
  rw [show ((0 : Nat) == 0) = true from rfl, hm]
  simp only [pm_if, if_true, Bool.false_eq_true, if_false, Bool.not_false]
theorem pv_mmax {j n : Nat} (hd : decode (pm_b mi) pc = .ok (.invokestatic j, 3)) (ha : pm_arc (pm_own mi) j = false) (hc : pm_cal (pm_own mi) j = some (pm_MX, n, 0, false)) : pm_ev X (d + 1) mi (pc, L, st, h) = pv_i2 st fun x y st => pv_if (pm_w8 st) (pm_ev X (d + 1) mi (pc + 3, L, .int (if x < y then y else x) :: st, h)) := by
  rw [pv_mth hd ha hc rfl]; unfold pm_mth; rw [if_pos rfl]
  rw [pv_i2_eq _ _ (pm_K1 X d mi) rfl]; congr 1; funext x y st
  unfold pv_if; split <;> rfl
theorem pv_mmin {j n : Nat} (hd : decode (pm_b mi) pc = .ok (.invokestatic j, 3)) (ha : pm_arc (pm_own mi) j = false) (hc : pm_cal (pm_own mi) j = some (pm_MN, n, 0, false)) : pm_ev X (d + 1) mi (pc, L, st, h) = pv_i2 st fun x y st => pv_if (pm_w8 st) (pm_ev X (d + 1) mi (pc + 3, L, .int (if y < x then y else x) :: st, h)) := by
  rw [pv_mth hd ha hc rfl]; unfold pm_mth; rw [if_neg (by decide), if_pos rfl]
  rw [pv_i2_eq _ _ (pm_K1 X d mi) rfl]; congr 1; funext x y st
  unfold pv_if; split <;> rfl
theorem pv_mabs {j n : Nat} (hd : decode (pm_b mi) pc = .ok (.invokestatic j, 3)) (ha : pm_arc (pm_own mi) j = false) (hc : pm_cal (pm_own mi) j = some (pm_AB, n, 0, false)) : pm_ev X (d + 1) mi (pc, L, st, h) = pv_l1 st fun x st => pv_if (pm_w8 st) (pm_ev X (d + 1) mi (pc + 3, L, .long (if 0 < x then x else -x) :: st, h)) := by
  rw [pv_mth hd ha hc rfl]; unfold pm_mth; rw [if_neg (by decide), if_neg (by decide), if_pos rfl]
  rw [pv_l1_eq _ _ (pm_K1 X d mi) rfl]; congr 1; funext x st
  unfold pv_if; split <;> rfl
theorem pv_lmax {j n : Nat} (hd : decode (pm_b mi) pc = .ok (.invokestatic j, 3)) (ha : pm_arc (pm_own mi) j = false) (hc : pm_cal (pm_own mi) j = some (pm_XL, n, 0, false)) : pm_ev X (d + 1) mi (pc, L, st, h) = pv_l2 st fun x y st => pv_if (pm_w8 st) (pm_ev X (d + 1) mi (pc + 3, L, .long (if y < x then x else y) :: st, h)) := by
  rw [pv_mth hd ha hc rfl]; unfold pm_mth; rw [if_neg (by decide), if_neg (by decide), if_neg (by decide), if_pos rfl]
  rw [pv_l2_eq _ _ (pm_K1 X d mi) rfl]; congr 1; funext x y st
  unfold pv_if; split <;> rfl
theorem pv_lmin {j n : Nat} (hd : decode (pm_b mi) pc = .ok (.invokestatic j, 3)) (ha : pm_arc (pm_own mi) j = false) (hc : pm_cal (pm_own mi) j = some (pm_NL, n, 0, false)) : pm_ev X (d + 1) mi (pc, L, st, h) = pv_l2 st fun x y st => pv_if (pm_w8 st) (pm_ev X (d + 1) mi (pc + 3, L, .long (if y < x then y else x) :: st, h)) := by
  rw [pv_mth hd ha hc rfl]; unfold pm_mth; rw [if_neg (by decide), if_neg (by decide), if_neg (by decide), if_neg (by decide), if_pos rfl]
  rw [pv_l2_eq _ _ (pm_K1 X d mi) rfl]; congr 1; funext x y st
  unfold pv_if; split <;> rfl
theorem pv_copy {j : Nat} (hd : decode (pm_b mi) pc = .ok (.invokestatic j, 3)) (ha : pm_arc (pm_own mi) j = true) : pm_ev X (d + 1) mi (pc, L, st, h) = pv_i2 st fun dp n st => pv_r1 st fun a st => pv_i1 st fun sp st => pv_r1 st fun a0 st => pv_if (pm_w8 st) (pv_cp h a0 sp a dp n fun h => pm_ev X (d + 1) mi (pc + 3, L, st, h)) := by
  rw [pm_ev_at hd rfl]; dsimp only [pm_ins]; rw [ha, if_pos rfl]
  rw [pv_i2_eq _ _ (pm_K1 X d mi) rfl]; congr 1; funext dp n st
  rw [pv_r1_eq _ _ (pm_K1 X d mi) rfl]; congr 1; funext a st
  rw [pv_i1_eq _ _ (pm_K1 X d mi) rfl]; congr 1; funext sp st
  rw [pv_r1_eq _ _ (pm_K1 X d mi) rfl]; congr 1; funext a0 st
  rw [pv_ai_eq _ _ _ (pm_K1 X d mi) rfl]
  unfold pv_cp pv_if pv_ai
  by_cases hw : pm_w8 st = true
  · rw [if_pos hw]
    split
    next n0 f hf =>
      dsimp only
      rw [pv_ai_eq _ _ _ (pm_K1 X d mi) rfl]
      unfold pv_ai
      split
      next n1 g hg =>
        dsimp only
        rw [pv_if_eq _ _ (pm_K1 X d mi) rfl]
        unfold pv_if
        rw [hw, Bool.and_true]
        rfl
      next => rfl
    next => rfl
  · rw [if_neg hw]
    split
    next n0 f hf =>
      dsimp only
      rw [pv_ai_eq _ _ _ (pm_K1 X d mi) rfl]
      unfold pv_ai
      split
      next n1 g hg =>
        dsimp only
        rw [pv_if_eq _ _ (pm_K1 X d mi) rfl]
        unfold pv_if
        simp [hw]
      next => rfl
    next => rfl
end PVC
