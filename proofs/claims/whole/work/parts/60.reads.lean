/-! the reference's reading of a whole text -/
def FrP (I I' : st_I) : Prop := (∀ b, b ≠ 36 → b ≠ 45 → b ≠ 46 → b ≠ 47 → I' b = I b) ∧ ∀ j, j ≠ 13 → j ≠ 14 → I' 36 j = I 36 j
def FrK (k : Nat) (I I' : st_I) : Prop := (∀ j, j ≠ k → I' 45 j = I 45 j ∧ I' 46 j = I 46 j) ∧ ∀ j, j < 2 * k → I' 47 j = I 47 j
theorem FrP_rf (I : st_I) : FrP I I := ⟨fun _ _ _ _ _ => rfl, fun _ _ _ => rfl⟩
theorem FrP_tr {I I' I'' : st_I} (h : FrP I I') (h' : FrP I' I'') : FrP I I'' := ⟨fun b h1 h2 h3 h4 => (h'.1 b h1 h2 h3 h4).trans (h.1 b h1 h2 h3 h4), fun j h1 h2 => (h'.2 j h1 h2).trans (h.2 j h1 h2)⟩
theorem FrP_TX {I I' : st_I} {s : Nat → Nat} {n : Nat} (h : FrP I I') (hT : TXm I s n) : TXm I' s n := by
  obtain ⟨t1, t2, t3, t4⟩ := hT
  refine ⟨t1, (h.2 12 (by decide) (by decide)).trans t2, fun k hk => ?_, t4⟩
  rw [h.1 44 (by decide) (by decide) (by decide) (by decide)]
  exact t3 k hk
/-- what a statement tells -/
def to0 (s : Nat → Nat) (a : Nat) : Nat := if s a = 98 then 10 * (s (a + 1) - 48) + (s (a + 2) - 48) else if s a = 108 then kN (s (a + 1)) else s (a + 1) - 48
def to1 (s : Nat → Nat) (a : Nat) : Nat := if s a = 115 then 10 * (s (a + 2) - 48) + (s (a + 3) - 48) else if s a = 98 then s (a + 3) - 48 else s (a + 2) - 48
def RC (I : st_I) (s : Nat → Nat) (k a : Nat) : Prop := I 45 k = nI (s a) ∧ I 46 k = nI a ∧ I 47 (2 * k) = nI (to0 s a) ∧ (s a ≠ 119 → s a ≠ 117 → I 47 (2 * k + 1) = nI (to1 s a))
theorem RC_K {I I' : st_I} {s : Nat → Nat} {j k a : Nat} (h : FrK k I I') (hj : j < k) (r : RC I s j a) : RC I' s j a := by
  obtain ⟨r1, r2, r3, r4⟩ := r
  have e := h.1 j (by omega)
  refine ⟨e.1.trans r1, e.2.trans r2, (h.2 _ (by omega)).trans r3, fun h1 h2 => (h.2 _ (by omega)).trans (r4 h1 h2)⟩
theorem RC_14 {I : st_I} {s : Nat → Nat} {k a : Nat} {v : Int32} (r : RC I s k a) : RC (st_u I 36 14 v) s k a := r
theorem sb_heads : ∀ c, sbN c ≠ 0 → c = 115 ∨ c = 98 ∨ c = 108 ∨ c = 112 ∨ c = 119 ∨ c = 117 := by
  intro c h
  unfold sbN at h
  by_cases q1 : c = 98
  · exact Or.inr (Or.inl q1)
  by_cases q2 : c = 108
  · exact Or.inr (Or.inr (Or.inl q2))
  by_cases q3 : c = 112
  · exact Or.inr (Or.inr (Or.inr (Or.inl q3)))
  by_cases q4 : c = 115
  · exact Or.inl q4
  by_cases q5 : c = 117
  · exact Or.inr (Or.inr (Or.inr (Or.inr (Or.inr q5))))
  by_cases q6 : c = 119
  · exact Or.inr (Or.inr (Or.inr (Or.inr (Or.inl q6))))
  · rw [if_neg q1, if_neg q2, if_neg q3, if_neg q4, if_neg q5, if_neg q6] at h
    exact absurd rfl h
/-- a statement is read -/
def STM (I : st_I) (s : Nat → Nat) (n a k : Nat) : Prop := ∃ I', FrP I I' ∧ FrK k I I' ∧ I' 36 14 = nI k ∧
  ((∃ q, ffN s n a (sbN (s a) + 1) 1 = some q ∧ I' 36 13 = nI q ∧ ∀ (X : pm_X) (d : Nat) (J : st_J) (F), pv_call X (d + 5) 135 [.ref 36] (st_E I J) F = F (some (.int 0)) (st_E I' J)) ∨
   (ffN s n a (sbN (s a) + 1) 1 = none ∧ I' 36 13 = nI (a + (sbN (s a) + 2)) ∧ RC I' s k a ∧ ∀ (X : pm_X) (d : Nat) (J : st_J) (F), pv_call X (d + 5) 135 [.ref 36] (st_E I J) F = F (some (.int 1)) (st_E I' J)))
theorem stm_s {I : st_I} {s : Nat → Nat} {n a k : Nat} (hT : TXm I s n) (h13 : I 36 13 = nI a) (h14 : I 36 14 = nI k) (ha : a < n) (hk : k < 48) (hh : s a = 115) : STM I s n a k := by
  have sbe : sbN (s a) = 3 := by rw [hh]; rfl
  have ef : ffN s n a (sbN (s a) + 1) 1 = (if gB s n a 1 = true then if gB s n a 2 = true then if gB s n a 3 = true then if gB s n a 4 = true then none else some (a + 4) else some (a + 3) else some (a + 2) else some (a + 1)) := by rw [sbe]; rfl
  have e1 : gB s n a 1 = dgB s n (a + 1) := by unfold gB; rw [hh]; rfl
  have e2 : gB s n a 2 = dgB s n (a + 2) := by unfold gB; rw [hh]; rfl
  have e3 : gB s n a 3 = dgB s n (a + 3) := by unfold gB; rw [hh]; rfl
  have e4 : gB s n a 4 = (decide (a + 4 < n) && decide (s (a + 4) = 59)) := by unfold gB; rw [hh]; rfl
  have q1 : ∀ j, j < 2 * k → ¬ j = 2 * k := fun j hj => by omega
  have q2 : ∀ j, j < 2 * k → ¬ j = 2 * k + 1 := fun j hj => by omega
  have q3 : ¬ 2 * k = 2 * k + 1 := by omega
  have q4 : ¬ 2 * k + 1 = 2 * k := by omega
  have n6 := hT.1
  cases h1 : dgB s n (a + 1) with
  | false =>
    refine ⟨st_u (st_u (st_u I 45 k 115) 46 k (nI a)) 36 13 (nI (a + 1)), ⟨fun b b1 b2 b3 b4 => by simp only [st_uA, b1, b2, b3, b4, if_false], fun j j1 j2 => by simp only [st_uA, updA, Nat.reduceEqDiff, if_false, if_true, j1, j2]⟩, ⟨fun j hj => ⟨by simp only [st_uA, updA, Nat.reduceEqDiff, if_false, if_true, hj], by simp only [st_uA, updA, Nat.reduceEqDiff, if_false, if_true, hj]⟩, fun j hj => by simp only [st_uA, updA, Nat.reduceEqDiff, if_false, if_true, q1 j hj, q2 j hj]⟩, h14, Or.inl ⟨a + 1, ?_, rfl, fun X d J F => c_135_s1 hT h13 h14 ha hh hk h1⟩⟩
    rw [ef, if_neg (by rw [e1, h1]; decide)]
  | true =>
    cases h2 : dgB s n (a + 2) with
    | false =>
      refine ⟨st_u (st_u (st_u (st_u (st_u I 45 k 115) 46 k (nI a)) 36 13 (nI (a + 1))) 36 13 (nI (a + 2))) 47 (2 * k) (nI (s (a + 1) - 48)), ⟨fun b b1 b2 b3 b4 => by simp only [st_uA, b1, b2, b3, b4, if_false], fun j j1 j2 => by simp only [st_uA, updA, Nat.reduceEqDiff, if_false, if_true, j1, j2]⟩, ⟨fun j hj => ⟨by simp only [st_uA, updA, Nat.reduceEqDiff, if_false, if_true, hj], by simp only [st_uA, updA, Nat.reduceEqDiff, if_false, if_true, hj]⟩, fun j hj => by simp only [st_uA, updA, Nat.reduceEqDiff, if_false, if_true, q1 j hj, q2 j hj]⟩, h14, Or.inl ⟨a + 2, ?_, rfl, fun X d J F => c_135_s2 hT h13 h14 ha hh hk h1 h2⟩⟩
      rw [ef, if_pos (e1.trans h1), if_neg (by rw [e2, h2]; decide)]
    | true =>
      cases h3 : dgB s n (a + 3) with
      | false =>
        refine ⟨st_u (st_u (st_u (st_u (st_u (st_u I 45 k 115) 46 k (nI a)) 36 13 (nI (a + 1))) 36 13 (nI (a + 2))) 47 (2 * k) (nI (s (a + 1) - 48))) 36 13 (nI (a + 3)), ⟨fun b b1 b2 b3 b4 => by simp only [st_uA, b1, b2, b3, b4, if_false], fun j j1 j2 => by simp only [st_uA, updA, Nat.reduceEqDiff, if_false, if_true, j1, j2]⟩, ⟨fun j hj => ⟨by simp only [st_uA, updA, Nat.reduceEqDiff, if_false, if_true, hj], by simp only [st_uA, updA, Nat.reduceEqDiff, if_false, if_true, hj]⟩, fun j hj => by simp only [st_uA, updA, Nat.reduceEqDiff, if_false, if_true, q1 j hj, q2 j hj]⟩, h14, Or.inl ⟨a + 3, ?_, rfl, fun X d J F => c_135_s3 hT h13 h14 ha hh hk h1 h2 h3⟩⟩
        rw [ef, if_pos (e1.trans h1), if_pos (e2.trans h2), if_neg (by rw [e3, h3]; decide)]
      | true =>
        by_cases hz : a + 4 < n ∧ s (a + 4) = 59
        · skip
          refine ⟨st_u (st_u (st_u (st_u (st_u (st_u (st_u (st_u I 45 k 115) 46 k (nI a)) 36 13 (nI (a + 1))) 36 13 (nI (a + 2))) 47 (2 * k) (nI (s (a + 1) - 48))) 36 13 (nI (a + 4))) 47 (2 * k + 1) (nI (10 * (s (a + 2) - 48) + (s (a + 3) - 48)))) 36 13 (nI (a + 5)), ⟨fun b b1 b2 b3 b4 => by simp only [st_uA, b1, b2, b3, b4, if_false], fun j j1 j2 => by simp only [st_uA, updA, Nat.reduceEqDiff, if_false, if_true, j1, j2]⟩, ⟨fun j hj => ⟨by simp only [st_uA, updA, Nat.reduceEqDiff, if_false, if_true, hj], by simp only [st_uA, updA, Nat.reduceEqDiff, if_false, if_true, hj]⟩, fun j hj => by simp only [st_uA, updA, Nat.reduceEqDiff, if_false, if_true, q1 j hj, q2 j hj]⟩, h14, Or.inr ⟨?_, ?_, ⟨?_, ?_, ?_, ?_⟩, fun X d J F => c_135_s0 hT h13 h14 ha hh hk h1 h2 h3 hz⟩⟩
          · rw [ef, if_pos (e1.trans h1), if_pos (e2.trans h2), if_pos (e3.trans h3), if_pos (by rw [e4, decide_eq_true hz.1, decide_eq_true hz.2]; rfl)]
          · rw [sbe]; rfl
          · rw [hh]; simp only [st_uA, updA, Nat.reduceEqDiff, if_false, if_true]; rfl
          · simp only [st_uA, updA, Nat.reduceEqDiff, if_false, if_true]
          · have t0 : to0 s a = s (a + 1) - 48 := by unfold to0; rw [hh]; rfl
            rw [t0]; simp only [st_uA, updA, Nat.reduceEqDiff, if_false, if_true, q3]
          · intro y1 y2
            have t1 : to1 s a = 10 * (s (a + 2) - 48) + (s (a + 3) - 48) := by unfold to1; rw [hh]; rfl
            rw [t1]; simp only [st_uA, updA, Nat.reduceEqDiff, if_false, if_true, q4]
        · skip
          refine ⟨st_u (st_u (st_u (st_u (st_u (st_u (st_u I 45 k 115) 46 k (nI a)) 36 13 (nI (a + 1))) 36 13 (nI (a + 2))) 47 (2 * k) (nI (s (a + 1) - 48))) 36 13 (nI (a + 4))) 47 (2 * k + 1) (nI (10 * (s (a + 2) - 48) + (s (a + 3) - 48))), ⟨fun b b1 b2 b3 b4 => by simp only [st_uA, b1, b2, b3, b4, if_false], fun j j1 j2 => by simp only [st_uA, updA, Nat.reduceEqDiff, if_false, if_true, j1, j2]⟩, ⟨fun j hj => ⟨by simp only [st_uA, updA, Nat.reduceEqDiff, if_false, if_true, hj], by simp only [st_uA, updA, Nat.reduceEqDiff, if_false, if_true, hj]⟩, fun j hj => by simp only [st_uA, updA, Nat.reduceEqDiff, if_false, if_true, q1 j hj, q2 j hj]⟩, h14, Or.inl ⟨a + 4, ?_, rfl, fun X d J F => c_135_s4 hT h13 h14 ha hh hk h1 h2 h3 hz⟩⟩
          rw [ef, if_pos (e1.trans h1), if_pos (e2.trans h2), if_pos (e3.trans h3), if_neg (by rw [e4]; intro z; rw [Bool.and_eq_true, decide_eq_true_eq, decide_eq_true_eq] at z; exact hz z)]
theorem stm_b {I : st_I} {s : Nat → Nat} {n a k : Nat} (hT : TXm I s n) (h13 : I 36 13 = nI a) (h14 : I 36 14 = nI k) (ha : a < n) (hk : k < 48) (hh : s a = 98) : STM I s n a k := by
  have sbe : sbN (s a) = 3 := by rw [hh]; rfl
  have ef : ffN s n a (sbN (s a) + 1) 1 = (if gB s n a 1 = true then if gB s n a 2 = true then if gB s n a 3 = true then if gB s n a 4 = true then none else some (a + 4) else some (a + 3) else some (a + 2) else some (a + 1)) := by rw [sbe]; rfl
  have e1 : gB s n a 1 = dgB s n (a + 1) := by unfold gB; rw [hh]; rfl
  have e2 : gB s n a 2 = dgB s n (a + 2) := by unfold gB; rw [hh]; rfl
  have e3 : gB s n a 3 = dgB s n (a + 3) := by unfold gB; rw [hh]; rfl
  have e4 : gB s n a 4 = (decide (a + 4 < n) && decide (s (a + 4) = 59)) := by unfold gB; rw [hh]; rfl
  have q1 : ∀ j, j < 2 * k → ¬ j = 2 * k := fun j hj => by omega
  have q2 : ∀ j, j < 2 * k → ¬ j = 2 * k + 1 := fun j hj => by omega
  have q3 : ¬ 2 * k = 2 * k + 1 := by omega
  have q4 : ¬ 2 * k + 1 = 2 * k := by omega
  have n6 := hT.1
  cases h1 : dgB s n (a + 1) with
  | false =>
    refine ⟨st_u (st_u (st_u I 45 k 98) 46 k (nI a)) 36 13 (nI (a + 1)), ⟨fun b b1 b2 b3 b4 => by simp only [st_uA, b1, b2, b3, b4, if_false], fun j j1 j2 => by simp only [st_uA, updA, Nat.reduceEqDiff, if_false, if_true, j1, j2]⟩, ⟨fun j hj => ⟨by simp only [st_uA, updA, Nat.reduceEqDiff, if_false, if_true, hj], by simp only [st_uA, updA, Nat.reduceEqDiff, if_false, if_true, hj]⟩, fun j hj => by simp only [st_uA, updA, Nat.reduceEqDiff, if_false, if_true, q1 j hj, q2 j hj]⟩, h14, Or.inl ⟨a + 1, ?_, rfl, fun X d J F => c_135_b1 hT h13 h14 ha hh hk h1⟩⟩
    rw [ef, if_neg (by rw [e1, h1]; decide)]
  | true =>
    cases h2 : dgB s n (a + 2) with
    | false =>
      refine ⟨st_u (st_u (st_u (st_u I 45 k 98) 46 k (nI a)) 36 13 (nI (a + 1))) 36 13 (nI (a + 2)), ⟨fun b b1 b2 b3 b4 => by simp only [st_uA, b1, b2, b3, b4, if_false], fun j j1 j2 => by simp only [st_uA, updA, Nat.reduceEqDiff, if_false, if_true, j1, j2]⟩, ⟨fun j hj => ⟨by simp only [st_uA, updA, Nat.reduceEqDiff, if_false, if_true, hj], by simp only [st_uA, updA, Nat.reduceEqDiff, if_false, if_true, hj]⟩, fun j hj => by simp only [st_uA, updA, Nat.reduceEqDiff, if_false, if_true, q1 j hj, q2 j hj]⟩, h14, Or.inl ⟨a + 2, ?_, rfl, fun X d J F => c_135_b2 hT h13 h14 ha hh hk h1 h2⟩⟩
      rw [ef, if_pos (e1.trans h1), if_neg (by rw [e2, h2]; decide)]
    | true =>
      cases h3 : dgB s n (a + 3) with
      | false =>
        refine ⟨st_u (st_u (st_u (st_u (st_u I 45 k 98) 46 k (nI a)) 36 13 (nI (a + 1))) 36 13 (nI (a + 3))) 47 (2 * k) (nI (10 * (s (a + 1) - 48) + (s (a + 2) - 48))), ⟨fun b b1 b2 b3 b4 => by simp only [st_uA, b1, b2, b3, b4, if_false], fun j j1 j2 => by simp only [st_uA, updA, Nat.reduceEqDiff, if_false, if_true, j1, j2]⟩, ⟨fun j hj => ⟨by simp only [st_uA, updA, Nat.reduceEqDiff, if_false, if_true, hj], by simp only [st_uA, updA, Nat.reduceEqDiff, if_false, if_true, hj]⟩, fun j hj => by simp only [st_uA, updA, Nat.reduceEqDiff, if_false, if_true, q1 j hj, q2 j hj]⟩, h14, Or.inl ⟨a + 3, ?_, rfl, fun X d J F => c_135_b3 hT h13 h14 ha hh hk h1 h2 h3⟩⟩
        rw [ef, if_pos (e1.trans h1), if_pos (e2.trans h2), if_neg (by rw [e3, h3]; decide)]
      | true =>
        by_cases hz : a + 4 < n ∧ s (a + 4) = 59
        · skip
          refine ⟨st_u (st_u (st_u (st_u (st_u (st_u (st_u (st_u I 45 k 98) 46 k (nI a)) 36 13 (nI (a + 1))) 36 13 (nI (a + 3))) 47 (2 * k) (nI (10 * (s (a + 1) - 48) + (s (a + 2) - 48)))) 36 13 (nI (a + 4))) 47 (2 * k + 1) (nI (s (a + 3) - 48))) 36 13 (nI (a + 5)), ⟨fun b b1 b2 b3 b4 => by simp only [st_uA, b1, b2, b3, b4, if_false], fun j j1 j2 => by simp only [st_uA, updA, Nat.reduceEqDiff, if_false, if_true, j1, j2]⟩, ⟨fun j hj => ⟨by simp only [st_uA, updA, Nat.reduceEqDiff, if_false, if_true, hj], by simp only [st_uA, updA, Nat.reduceEqDiff, if_false, if_true, hj]⟩, fun j hj => by simp only [st_uA, updA, Nat.reduceEqDiff, if_false, if_true, q1 j hj, q2 j hj]⟩, h14, Or.inr ⟨?_, ?_, ⟨?_, ?_, ?_, ?_⟩, fun X d J F => c_135_b0 hT h13 h14 ha hh hk h1 h2 h3 hz⟩⟩
          · rw [ef, if_pos (e1.trans h1), if_pos (e2.trans h2), if_pos (e3.trans h3), if_pos (by rw [e4, decide_eq_true hz.1, decide_eq_true hz.2]; rfl)]
          · rw [sbe]; rfl
          · rw [hh]; simp only [st_uA, updA, Nat.reduceEqDiff, if_false, if_true]; rfl
          · simp only [st_uA, updA, Nat.reduceEqDiff, if_false, if_true]
          · have t0 : to0 s a = 10 * (s (a + 1) - 48) + (s (a + 2) - 48) := by unfold to0; rw [hh]; rfl
            rw [t0]; simp only [st_uA, updA, Nat.reduceEqDiff, if_false, if_true, q3]
          · intro y1 y2
            have t1 : to1 s a = s (a + 3) - 48 := by unfold to1; rw [hh]; rfl
            rw [t1]; simp only [st_uA, updA, Nat.reduceEqDiff, if_false, if_true, q4]
        · skip
          refine ⟨st_u (st_u (st_u (st_u (st_u (st_u (st_u I 45 k 98) 46 k (nI a)) 36 13 (nI (a + 1))) 36 13 (nI (a + 3))) 47 (2 * k) (nI (10 * (s (a + 1) - 48) + (s (a + 2) - 48)))) 36 13 (nI (a + 4))) 47 (2 * k + 1) (nI (s (a + 3) - 48)), ⟨fun b b1 b2 b3 b4 => by simp only [st_uA, b1, b2, b3, b4, if_false], fun j j1 j2 => by simp only [st_uA, updA, Nat.reduceEqDiff, if_false, if_true, j1, j2]⟩, ⟨fun j hj => ⟨by simp only [st_uA, updA, Nat.reduceEqDiff, if_false, if_true, hj], by simp only [st_uA, updA, Nat.reduceEqDiff, if_false, if_true, hj]⟩, fun j hj => by simp only [st_uA, updA, Nat.reduceEqDiff, if_false, if_true, q1 j hj, q2 j hj]⟩, h14, Or.inl ⟨a + 4, ?_, rfl, fun X d J F => c_135_b4 hT h13 h14 ha hh hk h1 h2 h3 hz⟩⟩
          rw [ef, if_pos (e1.trans h1), if_pos (e2.trans h2), if_pos (e3.trans h3), if_neg (by rw [e4]; intro z; rw [Bool.and_eq_true, decide_eq_true_eq, decide_eq_true_eq] at z; exact hz z)]
theorem stm_l {I : st_I} {s : Nat → Nat} {n a k : Nat} (hT : TXm I s n) (h13 : I 36 13 = nI a) (h14 : I 36 14 = nI k) (ha : a < n) (hk : k < 48) (hh : s a = 108) : STM I s n a k := by
  have sbe : sbN (s a) = 2 := by rw [hh]; rfl
  have ef : ffN s n a (sbN (s a) + 1) 1 = (if gB s n a 1 = true then if gB s n a 2 = true then if gB s n a 3 = true then none else some (a + 3) else some (a + 2) else some (a + 1)) := by rw [sbe]; rfl
  have e1 : gB s n a 1 = kiB s n (a + 1) := by unfold gB; rw [hh]; rfl
  have e2 : gB s n a 2 = dgB s n (a + 2) := by unfold gB; rw [hh]; rfl
  have e3 : gB s n a 3 = (decide (a + 3 < n) && decide (s (a + 3) = 59)) := by unfold gB; rw [hh]; rfl
  have q1 : ∀ j, j < 2 * k → ¬ j = 2 * k := fun j hj => by omega
  have q2 : ∀ j, j < 2 * k → ¬ j = 2 * k + 1 := fun j hj => by omega
  have q3 : ¬ 2 * k = 2 * k + 1 := by omega
  have q4 : ¬ 2 * k + 1 = 2 * k := by omega
  have n6 := hT.1
  cases h1 : kiB s n (a + 1) with
  | false =>
    refine ⟨st_u (st_u (st_u (st_u I 45 k 108) 46 k (nI a)) 36 13 (nI (a + 1))) 47 (2 * k) (pm_kind (lnI s n (a + 1))), ⟨fun b b1 b2 b3 b4 => by simp only [st_uA, b1, b2, b3, b4, if_false], fun j j1 j2 => by simp only [st_uA, updA, Nat.reduceEqDiff, if_false, if_true, j1, j2]⟩, ⟨fun j hj => ⟨by simp only [st_uA, updA, Nat.reduceEqDiff, if_false, if_true, hj], by simp only [st_uA, updA, Nat.reduceEqDiff, if_false, if_true, hj]⟩, fun j hj => by simp only [st_uA, updA, Nat.reduceEqDiff, if_false, if_true, q1 j hj, q2 j hj]⟩, h14, Or.inl ⟨a + 1, ?_, rfl, fun X d J F => c_135_l1 hT h13 h14 ha hh hk h1⟩⟩
    rw [ef, if_neg (by rw [e1, h1]; decide)]
  | true =>
    cases h2 : dgB s n (a + 2) with
    | false =>
      refine ⟨st_u (st_u (st_u (st_u (st_u I 45 k 108) 46 k (nI a)) 36 13 (nI (a + 1))) 47 (2 * k) (nI (kN (s (a + 1))))) 36 13 (nI (a + 2)), ⟨fun b b1 b2 b3 b4 => by simp only [st_uA, b1, b2, b3, b4, if_false], fun j j1 j2 => by simp only [st_uA, updA, Nat.reduceEqDiff, if_false, if_true, j1, j2]⟩, ⟨fun j hj => ⟨by simp only [st_uA, updA, Nat.reduceEqDiff, if_false, if_true, hj], by simp only [st_uA, updA, Nat.reduceEqDiff, if_false, if_true, hj]⟩, fun j hj => by simp only [st_uA, updA, Nat.reduceEqDiff, if_false, if_true, q1 j hj, q2 j hj]⟩, h14, Or.inl ⟨a + 2, ?_, rfl, fun X d J F => c_135_l2 hT h13 h14 ha hh hk h1 h2⟩⟩
      rw [ef, if_pos (e1.trans h1), if_neg (by rw [e2, h2]; decide)]
    | true =>
      by_cases hz : a + 3 < n ∧ s (a + 3) = 59
      · skip
        refine ⟨st_u (st_u (st_u (st_u (st_u (st_u (st_u I 45 k 108) 46 k (nI a)) 36 13 (nI (a + 1))) 47 (2 * k) (nI (kN (s (a + 1))))) 36 13 (nI (a + 3))) 47 (2 * k + 1) (nI (s (a + 2) - 48))) 36 13 (nI (a + 4)), ⟨fun b b1 b2 b3 b4 => by simp only [st_uA, b1, b2, b3, b4, if_false], fun j j1 j2 => by simp only [st_uA, updA, Nat.reduceEqDiff, if_false, if_true, j1, j2]⟩, ⟨fun j hj => ⟨by simp only [st_uA, updA, Nat.reduceEqDiff, if_false, if_true, hj], by simp only [st_uA, updA, Nat.reduceEqDiff, if_false, if_true, hj]⟩, fun j hj => by simp only [st_uA, updA, Nat.reduceEqDiff, if_false, if_true, q1 j hj, q2 j hj]⟩, h14, Or.inr ⟨?_, ?_, ⟨?_, ?_, ?_, ?_⟩, fun X d J F => c_135_l0 hT h13 h14 ha hh hk h1 h2 hz⟩⟩
        · rw [ef, if_pos (e1.trans h1), if_pos (e2.trans h2), if_pos (by rw [e3, decide_eq_true hz.1, decide_eq_true hz.2]; rfl)]
        · rw [sbe]; rfl
        · rw [hh]; simp only [st_uA, updA, Nat.reduceEqDiff, if_false, if_true]; rfl
        · simp only [st_uA, updA, Nat.reduceEqDiff, if_false, if_true]
        · have t0 : to0 s a = kN (s (a + 1)) := by unfold to0; rw [hh]; rfl
          rw [t0]; simp only [st_uA, updA, Nat.reduceEqDiff, if_false, if_true, q3]
        · intro y1 y2
          have t1 : to1 s a = s (a + 2) - 48 := by unfold to1; rw [hh]; rfl
          rw [t1]; simp only [st_uA, updA, Nat.reduceEqDiff, if_false, if_true, q4]
      · skip
        refine ⟨st_u (st_u (st_u (st_u (st_u (st_u I 45 k 108) 46 k (nI a)) 36 13 (nI (a + 1))) 47 (2 * k) (nI (kN (s (a + 1))))) 36 13 (nI (a + 3))) 47 (2 * k + 1) (nI (s (a + 2) - 48)), ⟨fun b b1 b2 b3 b4 => by simp only [st_uA, b1, b2, b3, b4, if_false], fun j j1 j2 => by simp only [st_uA, updA, Nat.reduceEqDiff, if_false, if_true, j1, j2]⟩, ⟨fun j hj => ⟨by simp only [st_uA, updA, Nat.reduceEqDiff, if_false, if_true, hj], by simp only [st_uA, updA, Nat.reduceEqDiff, if_false, if_true, hj]⟩, fun j hj => by simp only [st_uA, updA, Nat.reduceEqDiff, if_false, if_true, q1 j hj, q2 j hj]⟩, h14, Or.inl ⟨a + 3, ?_, rfl, fun X d J F => c_135_l3 hT h13 h14 ha hh hk h1 h2 hz⟩⟩
        rw [ef, if_pos (e1.trans h1), if_pos (e2.trans h2), if_neg (by rw [e3]; intro z; rw [Bool.and_eq_true, decide_eq_true_eq, decide_eq_true_eq] at z; exact hz z)]
theorem stm_p {I : st_I} {s : Nat → Nat} {n a k : Nat} (hT : TXm I s n) (h13 : I 36 13 = nI a) (h14 : I 36 14 = nI k) (ha : a < n) (hk : k < 48) (hh : s a = 112) : STM I s n a k := by
  have sbe : sbN (s a) = 2 := by rw [hh]; rfl
  have ef : ffN s n a (sbN (s a) + 1) 1 = (if gB s n a 1 = true then if gB s n a 2 = true then if gB s n a 3 = true then none else some (a + 3) else some (a + 2) else some (a + 1)) := by rw [sbe]; rfl
  have e1 : gB s n a 1 = dgB s n (a + 1) := by unfold gB; rw [hh]; rfl
  have e2 : gB s n a 2 = dgB s n (a + 2) := by unfold gB; rw [hh]; rfl
  have e3 : gB s n a 3 = (decide (a + 3 < n) && decide (s (a + 3) = 59)) := by unfold gB; rw [hh]; rfl
  have q1 : ∀ j, j < 2 * k → ¬ j = 2 * k := fun j hj => by omega
  have q2 : ∀ j, j < 2 * k → ¬ j = 2 * k + 1 := fun j hj => by omega
  have q3 : ¬ 2 * k = 2 * k + 1 := by omega
  have q4 : ¬ 2 * k + 1 = 2 * k := by omega
  have n6 := hT.1
  cases h1 : dgB s n (a + 1) with
  | false =>
    refine ⟨st_u (st_u (st_u I 45 k 112) 46 k (nI a)) 36 13 (nI (a + 1)), ⟨fun b b1 b2 b3 b4 => by simp only [st_uA, b1, b2, b3, b4, if_false], fun j j1 j2 => by simp only [st_uA, updA, Nat.reduceEqDiff, if_false, if_true, j1, j2]⟩, ⟨fun j hj => ⟨by simp only [st_uA, updA, Nat.reduceEqDiff, if_false, if_true, hj], by simp only [st_uA, updA, Nat.reduceEqDiff, if_false, if_true, hj]⟩, fun j hj => by simp only [st_uA, updA, Nat.reduceEqDiff, if_false, if_true, q1 j hj, q2 j hj]⟩, h14, Or.inl ⟨a + 1, ?_, rfl, fun X d J F => c_135_p1 hT h13 h14 ha hh hk h1⟩⟩
    rw [ef, if_neg (by rw [e1, h1]; decide)]
  | true =>
    cases h2 : dgB s n (a + 2) with
    | false =>
      refine ⟨st_u (st_u (st_u (st_u (st_u I 45 k 112) 46 k (nI a)) 36 13 (nI (a + 1))) 36 13 (nI (a + 2))) 47 (2 * k) (nI (s (a + 1) - 48)), ⟨fun b b1 b2 b3 b4 => by simp only [st_uA, b1, b2, b3, b4, if_false], fun j j1 j2 => by simp only [st_uA, updA, Nat.reduceEqDiff, if_false, if_true, j1, j2]⟩, ⟨fun j hj => ⟨by simp only [st_uA, updA, Nat.reduceEqDiff, if_false, if_true, hj], by simp only [st_uA, updA, Nat.reduceEqDiff, if_false, if_true, hj]⟩, fun j hj => by simp only [st_uA, updA, Nat.reduceEqDiff, if_false, if_true, q1 j hj, q2 j hj]⟩, h14, Or.inl ⟨a + 2, ?_, rfl, fun X d J F => c_135_p2 hT h13 h14 ha hh hk h1 h2⟩⟩
      rw [ef, if_pos (e1.trans h1), if_neg (by rw [e2, h2]; decide)]
    | true =>
      by_cases hz : a + 3 < n ∧ s (a + 3) = 59
      · skip
        refine ⟨st_u (st_u (st_u (st_u (st_u (st_u (st_u (st_u I 45 k 112) 46 k (nI a)) 36 13 (nI (a + 1))) 36 13 (nI (a + 2))) 47 (2 * k) (nI (s (a + 1) - 48))) 36 13 (nI (a + 3))) 47 (2 * k + 1) (nI (s (a + 2) - 48))) 36 13 (nI (a + 4)), ⟨fun b b1 b2 b3 b4 => by simp only [st_uA, b1, b2, b3, b4, if_false], fun j j1 j2 => by simp only [st_uA, updA, Nat.reduceEqDiff, if_false, if_true, j1, j2]⟩, ⟨fun j hj => ⟨by simp only [st_uA, updA, Nat.reduceEqDiff, if_false, if_true, hj], by simp only [st_uA, updA, Nat.reduceEqDiff, if_false, if_true, hj]⟩, fun j hj => by simp only [st_uA, updA, Nat.reduceEqDiff, if_false, if_true, q1 j hj, q2 j hj]⟩, h14, Or.inr ⟨?_, ?_, ⟨?_, ?_, ?_, ?_⟩, fun X d J F => c_135_p0 hT h13 h14 ha hh hk h1 h2 hz⟩⟩
        · rw [ef, if_pos (e1.trans h1), if_pos (e2.trans h2), if_pos (by rw [e3, decide_eq_true hz.1, decide_eq_true hz.2]; rfl)]
        · rw [sbe]; rfl
        · rw [hh]; simp only [st_uA, updA, Nat.reduceEqDiff, if_false, if_true]; rfl
        · simp only [st_uA, updA, Nat.reduceEqDiff, if_false, if_true]
        · have t0 : to0 s a = s (a + 1) - 48 := by unfold to0; rw [hh]; rfl
          rw [t0]; simp only [st_uA, updA, Nat.reduceEqDiff, if_false, if_true, q3]
        · intro y1 y2
          have t1 : to1 s a = s (a + 2) - 48 := by unfold to1; rw [hh]; rfl
          rw [t1]; simp only [st_uA, updA, Nat.reduceEqDiff, if_false, if_true, q4]
      · skip
        refine ⟨st_u (st_u (st_u (st_u (st_u (st_u (st_u I 45 k 112) 46 k (nI a)) 36 13 (nI (a + 1))) 36 13 (nI (a + 2))) 47 (2 * k) (nI (s (a + 1) - 48))) 36 13 (nI (a + 3))) 47 (2 * k + 1) (nI (s (a + 2) - 48)), ⟨fun b b1 b2 b3 b4 => by simp only [st_uA, b1, b2, b3, b4, if_false], fun j j1 j2 => by simp only [st_uA, updA, Nat.reduceEqDiff, if_false, if_true, j1, j2]⟩, ⟨fun j hj => ⟨by simp only [st_uA, updA, Nat.reduceEqDiff, if_false, if_true, hj], by simp only [st_uA, updA, Nat.reduceEqDiff, if_false, if_true, hj]⟩, fun j hj => by simp only [st_uA, updA, Nat.reduceEqDiff, if_false, if_true, q1 j hj, q2 j hj]⟩, h14, Or.inl ⟨a + 3, ?_, rfl, fun X d J F => c_135_p3 hT h13 h14 ha hh hk h1 h2 hz⟩⟩
        rw [ef, if_pos (e1.trans h1), if_pos (e2.trans h2), if_neg (by rw [e3]; intro z; rw [Bool.and_eq_true, decide_eq_true_eq, decide_eq_true_eq] at z; exact hz z)]
theorem stm_w {I : st_I} {s : Nat → Nat} {n a k : Nat} (hT : TXm I s n) (h13 : I 36 13 = nI a) (h14 : I 36 14 = nI k) (ha : a < n) (hk : k < 48) (hh : s a = 119) : STM I s n a k := by
  have sbe : sbN (s a) = 1 := by rw [hh]; rfl
  have ef : ffN s n a (sbN (s a) + 1) 1 = (if gB s n a 1 = true then if gB s n a 2 = true then none else some (a + 2) else some (a + 1)) := by rw [sbe]; rfl
  have e1 : gB s n a 1 = dgB s n (a + 1) := by unfold gB; rw [hh]; rfl
  have e2 : gB s n a 2 = (decide (a + 2 < n) && decide (s (a + 2) = 59)) := by unfold gB; rw [hh]; rfl
  have q1 : ∀ j, j < 2 * k → ¬ j = 2 * k := fun j hj => by omega
  have q2 : ∀ j, j < 2 * k → ¬ j = 2 * k + 1 := fun j hj => by omega
  have q3 : ¬ 2 * k = 2 * k + 1 := by omega
  have q4 : ¬ 2 * k + 1 = 2 * k := by omega
  have n6 := hT.1
  cases h1 : dgB s n (a + 1) with
  | false =>
    refine ⟨st_u (st_u (st_u I 45 k 119) 46 k (nI a)) 36 13 (nI (a + 1)), ⟨fun b b1 b2 b3 b4 => by simp only [st_uA, b1, b2, b3, b4, if_false], fun j j1 j2 => by simp only [st_uA, updA, Nat.reduceEqDiff, if_false, if_true, j1, j2]⟩, ⟨fun j hj => ⟨by simp only [st_uA, updA, Nat.reduceEqDiff, if_false, if_true, hj], by simp only [st_uA, updA, Nat.reduceEqDiff, if_false, if_true, hj]⟩, fun j hj => by simp only [st_uA, updA, Nat.reduceEqDiff, if_false, if_true, q1 j hj, q2 j hj]⟩, h14, Or.inl ⟨a + 1, ?_, rfl, fun X d J F => c_135_w1 hT h13 h14 ha hh hk h1⟩⟩
    rw [ef, if_neg (by rw [e1, h1]; decide)]
  | true =>
    by_cases hz : a + 2 < n ∧ s (a + 2) = 59
    · skip
      refine ⟨st_u (st_u (st_u (st_u (st_u (st_u I 45 k 119) 46 k (nI a)) 36 13 (nI (a + 1))) 36 13 (nI (a + 2))) 47 (2 * k) (nI (s (a + 1) - 48))) 36 13 (nI (a + 3)), ⟨fun b b1 b2 b3 b4 => by simp only [st_uA, b1, b2, b3, b4, if_false], fun j j1 j2 => by simp only [st_uA, updA, Nat.reduceEqDiff, if_false, if_true, j1, j2]⟩, ⟨fun j hj => ⟨by simp only [st_uA, updA, Nat.reduceEqDiff, if_false, if_true, hj], by simp only [st_uA, updA, Nat.reduceEqDiff, if_false, if_true, hj]⟩, fun j hj => by simp only [st_uA, updA, Nat.reduceEqDiff, if_false, if_true, q1 j hj, q2 j hj]⟩, h14, Or.inr ⟨?_, ?_, ⟨?_, ?_, ?_, ?_⟩, fun X d J F => c_135_w0 hT h13 h14 ha hh hk h1 hz⟩⟩
      · rw [ef, if_pos (e1.trans h1), if_pos (by rw [e2, decide_eq_true hz.1, decide_eq_true hz.2]; rfl)]
      · rw [sbe]; rfl
      · rw [hh]; simp only [st_uA, updA, Nat.reduceEqDiff, if_false, if_true]; rfl
      · simp only [st_uA, updA, Nat.reduceEqDiff, if_false, if_true]
      · have t0 : to0 s a = s (a + 1) - 48 := by unfold to0; rw [hh]; rfl
        rw [t0]; simp only [st_uA, updA, Nat.reduceEqDiff, if_false, if_true, q3]
      · intro y1 y2; rw [hh] at y1 y2; exact absurd rfl y1
    · skip
      refine ⟨st_u (st_u (st_u (st_u (st_u I 45 k 119) 46 k (nI a)) 36 13 (nI (a + 1))) 36 13 (nI (a + 2))) 47 (2 * k) (nI (s (a + 1) - 48)), ⟨fun b b1 b2 b3 b4 => by simp only [st_uA, b1, b2, b3, b4, if_false], fun j j1 j2 => by simp only [st_uA, updA, Nat.reduceEqDiff, if_false, if_true, j1, j2]⟩, ⟨fun j hj => ⟨by simp only [st_uA, updA, Nat.reduceEqDiff, if_false, if_true, hj], by simp only [st_uA, updA, Nat.reduceEqDiff, if_false, if_true, hj]⟩, fun j hj => by simp only [st_uA, updA, Nat.reduceEqDiff, if_false, if_true, q1 j hj, q2 j hj]⟩, h14, Or.inl ⟨a + 2, ?_, rfl, fun X d J F => c_135_w2 hT h13 h14 ha hh hk h1 hz⟩⟩
      rw [ef, if_pos (e1.trans h1), if_neg (by rw [e2]; intro z; rw [Bool.and_eq_true, decide_eq_true_eq, decide_eq_true_eq] at z; exact hz z)]
theorem stm_u {I : st_I} {s : Nat → Nat} {n a k : Nat} (hT : TXm I s n) (h13 : I 36 13 = nI a) (h14 : I 36 14 = nI k) (ha : a < n) (hk : k < 48) (hh : s a = 117) : STM I s n a k := by
  have sbe : sbN (s a) = 1 := by rw [hh]; rfl
  have ef : ffN s n a (sbN (s a) + 1) 1 = (if gB s n a 1 = true then if gB s n a 2 = true then none else some (a + 2) else some (a + 1)) := by rw [sbe]; rfl
  have e1 : gB s n a 1 = dgB s n (a + 1) := by unfold gB; rw [hh]; rfl
  have e2 : gB s n a 2 = (decide (a + 2 < n) && decide (s (a + 2) = 59)) := by unfold gB; rw [hh]; rfl
  have q1 : ∀ j, j < 2 * k → ¬ j = 2 * k := fun j hj => by omega
  have q2 : ∀ j, j < 2 * k → ¬ j = 2 * k + 1 := fun j hj => by omega
  have q3 : ¬ 2 * k = 2 * k + 1 := by omega
  have q4 : ¬ 2 * k + 1 = 2 * k := by omega
  have n6 := hT.1
  cases h1 : dgB s n (a + 1) with
  | false =>
    refine ⟨st_u (st_u (st_u I 45 k 117) 46 k (nI a)) 36 13 (nI (a + 1)), ⟨fun b b1 b2 b3 b4 => by simp only [st_uA, b1, b2, b3, b4, if_false], fun j j1 j2 => by simp only [st_uA, updA, Nat.reduceEqDiff, if_false, if_true, j1, j2]⟩, ⟨fun j hj => ⟨by simp only [st_uA, updA, Nat.reduceEqDiff, if_false, if_true, hj], by simp only [st_uA, updA, Nat.reduceEqDiff, if_false, if_true, hj]⟩, fun j hj => by simp only [st_uA, updA, Nat.reduceEqDiff, if_false, if_true, q1 j hj, q2 j hj]⟩, h14, Or.inl ⟨a + 1, ?_, rfl, fun X d J F => c_135_u1 hT h13 h14 ha hh hk h1⟩⟩
    rw [ef, if_neg (by rw [e1, h1]; decide)]
  | true =>
    by_cases hz : a + 2 < n ∧ s (a + 2) = 59
    · skip
      refine ⟨st_u (st_u (st_u (st_u (st_u (st_u I 45 k 117) 46 k (nI a)) 36 13 (nI (a + 1))) 36 13 (nI (a + 2))) 47 (2 * k) (nI (s (a + 1) - 48))) 36 13 (nI (a + 3)), ⟨fun b b1 b2 b3 b4 => by simp only [st_uA, b1, b2, b3, b4, if_false], fun j j1 j2 => by simp only [st_uA, updA, Nat.reduceEqDiff, if_false, if_true, j1, j2]⟩, ⟨fun j hj => ⟨by simp only [st_uA, updA, Nat.reduceEqDiff, if_false, if_true, hj], by simp only [st_uA, updA, Nat.reduceEqDiff, if_false, if_true, hj]⟩, fun j hj => by simp only [st_uA, updA, Nat.reduceEqDiff, if_false, if_true, q1 j hj, q2 j hj]⟩, h14, Or.inr ⟨?_, ?_, ⟨?_, ?_, ?_, ?_⟩, fun X d J F => c_135_u0 hT h13 h14 ha hh hk h1 hz⟩⟩
      · rw [ef, if_pos (e1.trans h1), if_pos (by rw [e2, decide_eq_true hz.1, decide_eq_true hz.2]; rfl)]
      · rw [sbe]; rfl
      · rw [hh]; simp only [st_uA, updA, Nat.reduceEqDiff, if_false, if_true]; rfl
      · simp only [st_uA, updA, Nat.reduceEqDiff, if_false, if_true]
      · have t0 : to0 s a = s (a + 1) - 48 := by unfold to0; rw [hh]; rfl
        rw [t0]; simp only [st_uA, updA, Nat.reduceEqDiff, if_false, if_true, q3]
      · intro y1 y2; rw [hh] at y1 y2; exact absurd rfl y2
    · skip
      refine ⟨st_u (st_u (st_u (st_u (st_u I 45 k 117) 46 k (nI a)) 36 13 (nI (a + 1))) 36 13 (nI (a + 2))) 47 (2 * k) (nI (s (a + 1) - 48)), ⟨fun b b1 b2 b3 b4 => by simp only [st_uA, b1, b2, b3, b4, if_false], fun j j1 j2 => by simp only [st_uA, updA, Nat.reduceEqDiff, if_false, if_true, j1, j2]⟩, ⟨fun j hj => ⟨by simp only [st_uA, updA, Nat.reduceEqDiff, if_false, if_true, hj], by simp only [st_uA, updA, Nat.reduceEqDiff, if_false, if_true, hj]⟩, fun j hj => by simp only [st_uA, updA, Nat.reduceEqDiff, if_false, if_true, q1 j hj, q2 j hj]⟩, h14, Or.inl ⟨a + 2, ?_, rfl, fun X d J F => c_135_u2 hT h13 h14 ha hh hk h1 hz⟩⟩
      rw [ef, if_pos (e1.trans h1), if_neg (by rw [e2]; intro z; rw [Bool.and_eq_true, decide_eq_true_eq, decide_eq_true_eq] at z; exact hz z)]
theorem stm {I : st_I} {s : Nat → Nat} {n a k : Nat} (hT : TXm I s n) (h13 : I 36 13 = nI a) (h14 : I 36 14 = nI k) (ha : a < n) (hk : k < 48) (hb : sbN (s a) ≠ 0) : STM I s n a k := by
  rcases sb_heads _ hb with h | h | h | h | h | h
  · exact stm_s hT h13 h14 ha hk h
  · exact stm_b hT h13 h14 ha hk h
  · exact stm_l hT h13 h14 ha hk h
  · exact stm_p hT h13 h14 ha hk h
  · exact stm_w hT h13 h14 ha hk h
  · exact stm_u hT h13 h14 ha hk h
/-- where statements begin -/
def stN (s : Nat → Nat) : Nat → Nat
  | 0 => 0
  | j + 1 => stN s j + (sbN (s (stN s j)) + 2)
/-- the first k statements are as they must be -/
def OKT (s : Nat → Nat) (n k : Nat) : Prop := ∀ j, j < k → sbN (s (stN s j)) ≠ 0 ∧ stN s j < n ∧ ffN s n (stN s j) (sbN (s (stN s j)) + 1) 1 = none
theorem OKT_S {s : Nat → Nat} {n k : Nat} (h : OKT s n k) (h1 : sbN (s (stN s k)) ≠ 0) (h2 : stN s k < n) (h3 : ffN s n (stN s k) (sbN (s (stN s k)) + 1) 1 = none) : OKT s n (k + 1) := fun j hj => by
  by_cases e : j = k
  · rw [e]; exact ⟨h1, h2, h3⟩
  · exact h j (by omega)
theorem stN_3 {n : Nat} (s : Nat → Nat) : ∀ k, OKT s n k → 3 * k ≤ stN s k
  | 0, _ => Nat.zero_le _
  | k + 1, h => by
    have h1 := (h k (by omega)).1
    have := stN_3 s k (fun j hj => h j (by omega))
    rw [stN]
    omega
theorem stN_n {s : Nat → Nat} {n : Nat} : ∀ k, OKT s n k → stN s k ≤ n
  | 0, _ => Nat.zero_le _
  | k + 1, h => by
    obtain ⟨h1, h2, h3⟩ := h k (by omega)
    have := (gB_lt (ffN_none _ _ h3 (sbN (s (stN s k)) + 1) (by omega) (by omega))).1
    rw [stN]
    omega
theorem l_134_12 {s : Nat → Nat} {n : Nat} (n0 : 0 < n) : ∀ (f k : Nat) (I : st_I), n ≤ stN s k + f → OKT s n k → TXm I s n → I 36 13 = nI (stN s k) → I 36 14 = nI k → (∀ j, j < k → RC I s j (stN s j)) → ∃ I', FrP I I' ∧
  ((∃ q, pfN s n f (stN s k) = some q ∧ I' 36 13 = nI q ∧ ∀ (X : pm_X) (d : Nat) (J : st_J) (o2 : Option Value), pm_ev X (d + 6) 134 (12, [some (.ref 36), some (.int 1), o2], [], st_E I J) = pm_ev X (d + 6) 134 (60, [some (.ref 36), some (.int 0), o2], [], st_E I' J)) ∨
   (pfN s n f (stN s k) = none ∧ ∃ K, I' 36 14 = nI K ∧ stN s K = n ∧ OKT s n K ∧ (∀ j, j < K → RC I' s j (stN s j)) ∧ ∀ (X : pm_X) (d : Nat) (J : st_J) (o2 : Option Value), pm_ev X (d + 6) 134 (12, [some (.ref 36), some (.int 1), o2], [], st_E I J) = pm_ev X (d + 6) 134 (60, [some (.ref 36), some (.int 1), o2], [], st_E I' J)))
  | 0, k, I, hf, hO, hT, h13, h14, hR => by
    have k3 := stN_3 s k hO
    have kn := stN_n k hO
    have n6 := hT.1
    have e1 := hT.2.1
    have h1 : ¬ nI (stN s k) < nI n := nI_nl (by omega) (by omega)
    have k0 : ¬ k = 0 := by
      intro e
      subst e
      have : stN s 0 = 0 := rfl
      omega
    have h2 : ¬ nI k = 0 := nI_ne0 (by omega) (by omega)
    refine ⟨I, FrP_rf I, Or.inr ⟨rfl, k, h14, by omega, hO, hR, fun X d J o2 => ?_⟩⟩
    rw [ps_134_12]
    simp only [↓ps_134_0, ↓ps_134_1, ↓ps_134_2, ↓ps_134_5, ↓ps_134_6, ↓ps_134_7, ↓ps_134_10, ↓ps_134_11, ↓ps_134_13, ↓ps_134_16, ↓ps_134_17, ↓ps_134_20, ↓ps_134_21, ↓ps_134_24, ↓ps_134_27, ↓ps_134_28, ↓ps_134_31, ↓ps_134_34, ↓ps_134_35, ↓ps_134_38, ↓ps_134_39, ↓ps_134_40, ↓ps_134_41, ↓ps_134_44, ↓ps_134_45, ↓ps_134_48, ↓ps_134_49, ↓ps_134_52, ↓ps_134_53, ↓ps_134_54, ↓ps_134_57, ↓ps_134_61, ↓ps_134_62, ↓ps_134_65, ↓ps_134_66, ↓ps_134_69, ↓ps_134_72, ↓ps_134_73, ↓ps_134_76, ↓ps_134_77, ↓ps_134_78, ↓ps_134_79, ↓ps_134_80, ↓ps_134_81, ↓ps_134_84, ↓ps_134_85, ↓ps_134_86, ↓ps_134_87, ↓ps_134_88, ↓ps_134_91, ↓ps_134_94, ↓ps_134_95, ↓ps_134_96, ↓ps_134_99, ↓ps_134_102, ↓ps_134_105, ↓ps_134_106, ↓ps_134_107, ↓ps_134_108, ↓ps_134_111, ↓ps_134_114, ↓ps_134_115, ↓ps_134_118, ↓ps_134_119, ↓ps_134_120, ↓ps_134_121, ↓ps_134_122, ↓ps_134_125, ↓ps_134_128, ↓ps_134_129, ↓ps_134_132, ↓q_i1, ↓q_i2, ↓q_l1, ↓q_l2, ↓q_r1, ↓q_v1, ↓q_rs, ↓q_if, ↓q_gi, ↓q_gi', ↓q_gl, ↓q_gl', ↓q_ga, ↓q_ga', ↓q_s1, ↓q_s1n, ↓q_s1i, ↓q_s1r, ↓q_s1', ↓q_s2, ↓q_s2n, ↓q_s2i, ↓q_s2r, ↓q_s2', ↓q_ar0, ↓q_ar, q_w0, q_wi, q_wl, q_wr, q_wii, q_wil, q_wli, q_wll, q_wir, q_wri, q_wlr, q_wrl, q_wrr, q_wirr, q_wiir, q_wiii, q_ni, q_nl, q_fi, q_fl, q_z0, q_z1, q_fz0, q_fz1, ↓q_ts, ↓q_tn, q_e, q_ci, q_cr, ↓q_rfs, decide_true, Bool.and_true, Bool.and_self, Nat.zero_add, Nat.reduceAdd, Nat.reduceBEq, beq_self_eq_true, q_le, q_lel, q_ge, q_gel, q_gt, q_gtl, ite_not, Bool.not_eq_true', Bool.not_eq_false', ↓reduceIte, ↓fg_0_0, ↓fg_0_1, ↓fg_0_2, ↓fg_0_3, ↓fg_0_4, ↓fg_0_5, ↓fg_0_6, ↓fg_0_7, ↓fg_0_8, ↓fp_0_7, ↓fp_0_8, ↓oc_0, ↓fg_31_0, ↓fg_31_1, ↓fp_31_1, ↓oc_31, ↓ai_32, ↓wi_32, ↓fg_33_0, ↓fp_33_0, ↓fg_33_1, ↓fp_33_1, ↓fg_33_2, ↓fp_33_2, ↓fg_33_3, ↓fp_33_3, ↓oc_33, ↓ai_34, ↓wi_34, ↓ai_35, ↓wi_35, ↓fg_36_0, ↓fg_36_1, ↓fg_36_2, ↓fg_36_3, ↓fg_36_4, ↓fg_36_5, ↓fg_36_6, ↓fg_36_7, ↓fp_36_7, ↓fg_36_8, ↓fg_36_9, ↓fg_36_10, ↓fg_36_11, ↓fg_36_12, ↓fp_36_12, ↓fg_36_13, ↓fp_36_13, ↓fg_36_14, ↓fp_36_14, ↓fg_36_15, ↓fg_36_16, ↓fp_36_16, ↓fg_36_17, ↓fp_36_17, ↓fg_36_18, ↓fp_36_18, ↓fg_36_19, ↓fp_36_19, ↓fg_36_20, ↓fp_36_20, ↓fg_36_21, ↓fp_36_21, ↓fg_36_22, ↓fp_36_22, ↓fg_36_23, ↓fp_36_23, ↓fg_36_24, ↓fp_36_24, ↓fg_36_25, ↓fg_36_26, ↓fg_36_27, ↓fg_36_28, ↓fp_36_28, ↓fg_36_29, ↓fp_36_29, ↓oc_36, ↓ai_37, ↓wi_37, ↓ai_38, ↓wi_38, ↓ai_39, ↓wi_39, ↓ai_40, ↓wi_40, ↓ai_41, ↓wi_41, ↓ai_42, ↓wi_42, ↓ai_43, ↓wi_43, ↓ai_44, ↓wi_44, ↓ai_45, ↓wi_45, ↓ai_46, ↓wi_46, ↓ai_47, ↓wi_47, ↓ai_48, ↓wi_48, ↓ai_51, ↓wi_51, ↓al_49, ↓wl_49, ↓al_50, ↓wl_50, isW_1, isW_11, isW_21, isS_3, isS_5, isS_13, isS_15, isS_23, isS_25, ↓fg_1_0, ↓fg_1_1, ↓fg_1_2, ↓fg_1_3, ↓fg_1_4, ↓fg_1_5, ↓fp_1_5, ↓oc_1, ↓aq_2, ↓fg_3_0, ↓fg_3_1, ↓fp_3_1, ↓oc_3, ↓ai_4, ↓wi_4, ↓fg_5_0, ↓fg_5_1, ↓fp_5_1, ↓oc_5, ↓ai_6, ↓wi_6, ↓ai_7, ↓wi_7, ↓ai_8, ↓wi_8, ↓ai_9, ↓wi_9, ↓ai_10, ↓wi_10, ↓fg_11_0, ↓fg_11_1, ↓fg_11_2, ↓fg_11_3, ↓fg_11_4, ↓fg_11_5, ↓fp_11_5, ↓oc_11, ↓aq_12, ↓fg_13_0, ↓fg_13_1, ↓fp_13_1, ↓oc_13, ↓ai_14, ↓wi_14, ↓fg_15_0, ↓fg_15_1, ↓fp_15_1, ↓oc_15, ↓ai_16, ↓wi_16, ↓ai_17, ↓wi_17, ↓ai_18, ↓wi_18, ↓ai_19, ↓wi_19, ↓ai_20, ↓wi_20, ↓fg_21_0, ↓fg_21_1, ↓fg_21_2, ↓fg_21_3, ↓fg_21_4, ↓fg_21_5, ↓fp_21_5, ↓oc_21, ↓aq_22, ↓fg_23_0, ↓fg_23_1, ↓fp_23_1, ↓oc_23, ↓ai_24, ↓wi_24, ↓fg_25_0, ↓fg_25_1, ↓fp_25_1, ↓oc_25, ↓ai_26, ↓wi_26, ↓ai_27, ↓wi_27, ↓ai_28, ↓wi_28, ↓ai_29, ↓wi_29, ↓ai_30, ↓wi_30, tn_0, tn_1, tn_2, tn_3, tn_4, tn_5, tn_6, tn_7, tn_8, tn_9, tn_10, tn_11, tn_12, tn_13, tn_14, tn_15, tn_16, tn_17, ok_0_2, ok_1_2, ok_0_6, ok_1_6, ok_2_6, ok_3_6, ok_4_6, ok_5_6, ok_0_7, ok_1_7, ok_2_7, ok_3_7, ok_4_7, ok_5_7, ok_6_7, ok_0_12, ok_1_12, ok_2_12, ok_3_12, ok_4_12, ok_5_12, ok_6_12, ok_7_12, ok_8_12, ok_9_12, ok_10_12, ok_11_12, ok_0_17, ok_1_17, ok_2_17, ok_3_17, ok_4_17, ok_5_17, ok_6_17, ok_7_17, ok_8_17, ok_9_17, ok_10_17, ok_11_17, ok_12_17, ok_13_17, ok_14_17, ok_15_17, ok_16_17, iq_n1_1, iq_n1_2, iq_n1_3, iq_n1_4, iq_n1_5, iq_n1_6, iq_n1_7, iq_0_n1, iq_0_1, iq_0_2, iq_0_3, iq_0_4, iq_0_5, iq_0_6, iq_0_7, iq_1_n1, iq_1_0, iq_1_2, iq_1_3, iq_1_4, iq_1_5, iq_1_6, iq_1_7, iq_2_n1, iq_2_0, iq_2_1, iq_2_3, iq_2_4, iq_2_5, iq_2_6, iq_2_7, iq_3_n1, iq_3_0, iq_3_1, iq_3_2, iq_3_4, iq_3_5, iq_3_6, iq_3_7, iq_4_n1, iq_4_0, iq_4_1, iq_4_2, iq_4_3, iq_4_5, iq_4_6, iq_4_7, iq_5_n1, iq_5_0, iq_5_1, iq_5_2, iq_5_3, iq_5_4, iq_5_6, iq_5_7, iq_6_n1, iq_6_0, iq_6_1, iq_6_2, iq_6_3, iq_6_4, iq_6_5, iq_6_7, iq_7_n1, iq_7_0, iq_7_1, iq_7_2, iq_7_3, iq_7_4, iq_7_5, iq_7_6, not_false_eq_true, not_true_eq_false, decide_false, Bool.false_and, Bool.and_false, Bool.true_and, Bool.or_false, Bool.false_or, Bool.true_or, Bool.or_true, Bool.not_true, Bool.not_false, Bool.true_eq_false, Bool.false_eq_true, Int32.reduceLT, Int32.reduceAdd, Int32.reduceSub, Int32.reduceToNatClampNeg, Int64.reduceLT, zn1, zl1, zn2, zl2, zn3, zl3, zn4, zl4, zn6, zl6, zn9, zl9, z01, z10, z00, rfA, st_uA, st_rA, updA, Nat.reduceEqDiff, if_false, if_true, st_qA, st_lA, h13, h14, e1, h1, h2]
  | f + 1, k, I, hf, hO, hT, h13, h14, hR => by
    have k3 := stN_3 s k hO
    have kn := stN_n k hO
    have n6 := hT.1
    have e1 := hT.2.1
    rw [pfN]
    by_cases q : stN s k < n
    · have h1 : nI (stN s k) < nI n := nI_lt q (by omega)
      rw [if_pos q]
      by_cases z : sbN (s (stN s k)) = 0
      · rw [if_pos z]
        refine ⟨st_u I 36 14 (nI k), ⟨fun b b1 b2 b3 b4 => by simp only [st_uA, b1, if_false], fun j j1 j2 => by simp only [st_uA, updA, if_true, j2, if_false]⟩, Or.inl ⟨_, rfl, h13, fun X d J o2 => ?_⟩⟩
        have cs := fun D F => c_135_n (X := X) (d := D) (I := I) (J := J) (F := F) hT h13 (by omega) (fun _ => z)
        rw [ps_134_12]
        simp only [↓ps_134_0, ↓ps_134_1, ↓ps_134_2, ↓ps_134_5, ↓ps_134_6, ↓ps_134_7, ↓ps_134_10, ↓ps_134_11, ↓ps_134_13, ↓ps_134_16, ↓ps_134_17, ↓ps_134_20, ↓ps_134_21, ↓ps_134_24, ↓ps_134_27, ↓ps_134_28, ↓ps_134_31, ↓ps_134_34, ↓ps_134_35, ↓ps_134_38, ↓ps_134_39, ↓ps_134_40, ↓ps_134_41, ↓ps_134_44, ↓ps_134_45, ↓ps_134_48, ↓ps_134_49, ↓ps_134_52, ↓ps_134_53, ↓ps_134_54, ↓ps_134_57, ↓ps_134_61, ↓ps_134_62, ↓ps_134_65, ↓ps_134_66, ↓ps_134_69, ↓ps_134_72, ↓ps_134_73, ↓ps_134_76, ↓ps_134_77, ↓ps_134_78, ↓ps_134_79, ↓ps_134_80, ↓ps_134_81, ↓ps_134_84, ↓ps_134_85, ↓ps_134_86, ↓ps_134_87, ↓ps_134_88, ↓ps_134_91, ↓ps_134_94, ↓ps_134_95, ↓ps_134_96, ↓ps_134_99, ↓ps_134_102, ↓ps_134_105, ↓ps_134_106, ↓ps_134_107, ↓ps_134_108, ↓ps_134_111, ↓ps_134_114, ↓ps_134_115, ↓ps_134_118, ↓ps_134_119, ↓ps_134_120, ↓ps_134_121, ↓ps_134_122, ↓ps_134_125, ↓ps_134_128, ↓ps_134_129, ↓ps_134_132, ↓q_i1, ↓q_i2, ↓q_l1, ↓q_l2, ↓q_r1, ↓q_v1, ↓q_rs, ↓q_if, ↓q_gi, ↓q_gi', ↓q_gl, ↓q_gl', ↓q_ga, ↓q_ga', ↓q_s1, ↓q_s1n, ↓q_s1i, ↓q_s1r, ↓q_s1', ↓q_s2, ↓q_s2n, ↓q_s2i, ↓q_s2r, ↓q_s2', ↓q_ar0, ↓q_ar, q_w0, q_wi, q_wl, q_wr, q_wii, q_wil, q_wli, q_wll, q_wir, q_wri, q_wlr, q_wrl, q_wrr, q_wirr, q_wiir, q_wiii, q_ni, q_nl, q_fi, q_fl, q_z0, q_z1, q_fz0, q_fz1, ↓q_ts, ↓q_tn, q_e, q_ci, q_cr, ↓q_rfs, decide_true, Bool.and_true, Bool.and_self, Nat.zero_add, Nat.reduceAdd, Nat.reduceBEq, beq_self_eq_true, q_le, q_lel, q_ge, q_gel, q_gt, q_gtl, ite_not, Bool.not_eq_true', Bool.not_eq_false', ↓reduceIte, ↓fg_0_0, ↓fg_0_1, ↓fg_0_2, ↓fg_0_3, ↓fg_0_4, ↓fg_0_5, ↓fg_0_6, ↓fg_0_7, ↓fg_0_8, ↓fp_0_7, ↓fp_0_8, ↓oc_0, ↓fg_31_0, ↓fg_31_1, ↓fp_31_1, ↓oc_31, ↓ai_32, ↓wi_32, ↓fg_33_0, ↓fp_33_0, ↓fg_33_1, ↓fp_33_1, ↓fg_33_2, ↓fp_33_2, ↓fg_33_3, ↓fp_33_3, ↓oc_33, ↓ai_34, ↓wi_34, ↓ai_35, ↓wi_35, ↓fg_36_0, ↓fg_36_1, ↓fg_36_2, ↓fg_36_3, ↓fg_36_4, ↓fg_36_5, ↓fg_36_6, ↓fg_36_7, ↓fp_36_7, ↓fg_36_8, ↓fg_36_9, ↓fg_36_10, ↓fg_36_11, ↓fg_36_12, ↓fp_36_12, ↓fg_36_13, ↓fp_36_13, ↓fg_36_14, ↓fp_36_14, ↓fg_36_15, ↓fg_36_16, ↓fp_36_16, ↓fg_36_17, ↓fp_36_17, ↓fg_36_18, ↓fp_36_18, ↓fg_36_19, ↓fp_36_19, ↓fg_36_20, ↓fp_36_20, ↓fg_36_21, ↓fp_36_21, ↓fg_36_22, ↓fp_36_22, ↓fg_36_23, ↓fp_36_23, ↓fg_36_24, ↓fp_36_24, ↓fg_36_25, ↓fg_36_26, ↓fg_36_27, ↓fg_36_28, ↓fp_36_28, ↓fg_36_29, ↓fp_36_29, ↓oc_36, ↓ai_37, ↓wi_37, ↓ai_38, ↓wi_38, ↓ai_39, ↓wi_39, ↓ai_40, ↓wi_40, ↓ai_41, ↓wi_41, ↓ai_42, ↓wi_42, ↓ai_43, ↓wi_43, ↓ai_44, ↓wi_44, ↓ai_45, ↓wi_45, ↓ai_46, ↓wi_46, ↓ai_47, ↓wi_47, ↓ai_48, ↓wi_48, ↓ai_51, ↓wi_51, ↓al_49, ↓wl_49, ↓al_50, ↓wl_50, isW_1, isW_11, isW_21, isS_3, isS_5, isS_13, isS_15, isS_23, isS_25, ↓fg_1_0, ↓fg_1_1, ↓fg_1_2, ↓fg_1_3, ↓fg_1_4, ↓fg_1_5, ↓fp_1_5, ↓oc_1, ↓aq_2, ↓fg_3_0, ↓fg_3_1, ↓fp_3_1, ↓oc_3, ↓ai_4, ↓wi_4, ↓fg_5_0, ↓fg_5_1, ↓fp_5_1, ↓oc_5, ↓ai_6, ↓wi_6, ↓ai_7, ↓wi_7, ↓ai_8, ↓wi_8, ↓ai_9, ↓wi_9, ↓ai_10, ↓wi_10, ↓fg_11_0, ↓fg_11_1, ↓fg_11_2, ↓fg_11_3, ↓fg_11_4, ↓fg_11_5, ↓fp_11_5, ↓oc_11, ↓aq_12, ↓fg_13_0, ↓fg_13_1, ↓fp_13_1, ↓oc_13, ↓ai_14, ↓wi_14, ↓fg_15_0, ↓fg_15_1, ↓fp_15_1, ↓oc_15, ↓ai_16, ↓wi_16, ↓ai_17, ↓wi_17, ↓ai_18, ↓wi_18, ↓ai_19, ↓wi_19, ↓ai_20, ↓wi_20, ↓fg_21_0, ↓fg_21_1, ↓fg_21_2, ↓fg_21_3, ↓fg_21_4, ↓fg_21_5, ↓fp_21_5, ↓oc_21, ↓aq_22, ↓fg_23_0, ↓fg_23_1, ↓fp_23_1, ↓oc_23, ↓ai_24, ↓wi_24, ↓fg_25_0, ↓fg_25_1, ↓fp_25_1, ↓oc_25, ↓ai_26, ↓wi_26, ↓ai_27, ↓wi_27, ↓ai_28, ↓wi_28, ↓ai_29, ↓wi_29, ↓ai_30, ↓wi_30, tn_0, tn_1, tn_2, tn_3, tn_4, tn_5, tn_6, tn_7, tn_8, tn_9, tn_10, tn_11, tn_12, tn_13, tn_14, tn_15, tn_16, tn_17, ok_0_2, ok_1_2, ok_0_6, ok_1_6, ok_2_6, ok_3_6, ok_4_6, ok_5_6, ok_0_7, ok_1_7, ok_2_7, ok_3_7, ok_4_7, ok_5_7, ok_6_7, ok_0_12, ok_1_12, ok_2_12, ok_3_12, ok_4_12, ok_5_12, ok_6_12, ok_7_12, ok_8_12, ok_9_12, ok_10_12, ok_11_12, ok_0_17, ok_1_17, ok_2_17, ok_3_17, ok_4_17, ok_5_17, ok_6_17, ok_7_17, ok_8_17, ok_9_17, ok_10_17, ok_11_17, ok_12_17, ok_13_17, ok_14_17, ok_15_17, ok_16_17, iq_n1_1, iq_n1_2, iq_n1_3, iq_n1_4, iq_n1_5, iq_n1_6, iq_n1_7, iq_0_n1, iq_0_1, iq_0_2, iq_0_3, iq_0_4, iq_0_5, iq_0_6, iq_0_7, iq_1_n1, iq_1_0, iq_1_2, iq_1_3, iq_1_4, iq_1_5, iq_1_6, iq_1_7, iq_2_n1, iq_2_0, iq_2_1, iq_2_3, iq_2_4, iq_2_5, iq_2_6, iq_2_7, iq_3_n1, iq_3_0, iq_3_1, iq_3_2, iq_3_4, iq_3_5, iq_3_6, iq_3_7, iq_4_n1, iq_4_0, iq_4_1, iq_4_2, iq_4_3, iq_4_5, iq_4_6, iq_4_7, iq_5_n1, iq_5_0, iq_5_1, iq_5_2, iq_5_3, iq_5_4, iq_5_6, iq_5_7, iq_6_n1, iq_6_0, iq_6_1, iq_6_2, iq_6_3, iq_6_4, iq_6_5, iq_6_7, iq_7_n1, iq_7_0, iq_7_1, iq_7_2, iq_7_3, iq_7_4, iq_7_5, iq_7_6, not_false_eq_true, not_true_eq_false, decide_false, Bool.false_and, Bool.and_false, Bool.true_and, Bool.or_false, Bool.false_or, Bool.true_or, Bool.or_true, Bool.not_true, Bool.not_false, Bool.true_eq_false, Bool.false_eq_true, Int32.reduceLT, Int32.reduceAdd, Int32.reduceSub, Int32.reduceToNatClampNeg, Int64.reduceLT, zn1, zl1, zn2, zl2, zn3, zl3, zn4, zl4, zn6, zl6, zn9, zl9, z01, z10, z00, rfA, st_uA, st_rA, updA, Nat.reduceEqDiff, if_false, if_true, st_qA, st_lA, h13, h14, e1, h1, ↓cs, Int32.add_zero]
        rw [ps_134_12]
        simp only [↓ps_134_0, ↓ps_134_1, ↓ps_134_2, ↓ps_134_5, ↓ps_134_6, ↓ps_134_7, ↓ps_134_10, ↓ps_134_11, ↓ps_134_13, ↓ps_134_16, ↓ps_134_17, ↓ps_134_20, ↓ps_134_21, ↓ps_134_24, ↓ps_134_27, ↓ps_134_28, ↓ps_134_31, ↓ps_134_34, ↓ps_134_35, ↓ps_134_38, ↓ps_134_39, ↓ps_134_40, ↓ps_134_41, ↓ps_134_44, ↓ps_134_45, ↓ps_134_48, ↓ps_134_49, ↓ps_134_52, ↓ps_134_53, ↓ps_134_54, ↓ps_134_57, ↓ps_134_61, ↓ps_134_62, ↓ps_134_65, ↓ps_134_66, ↓ps_134_69, ↓ps_134_72, ↓ps_134_73, ↓ps_134_76, ↓ps_134_77, ↓ps_134_78, ↓ps_134_79, ↓ps_134_80, ↓ps_134_81, ↓ps_134_84, ↓ps_134_85, ↓ps_134_86, ↓ps_134_87, ↓ps_134_88, ↓ps_134_91, ↓ps_134_94, ↓ps_134_95, ↓ps_134_96, ↓ps_134_99, ↓ps_134_102, ↓ps_134_105, ↓ps_134_106, ↓ps_134_107, ↓ps_134_108, ↓ps_134_111, ↓ps_134_114, ↓ps_134_115, ↓ps_134_118, ↓ps_134_119, ↓ps_134_120, ↓ps_134_121, ↓ps_134_122, ↓ps_134_125, ↓ps_134_128, ↓ps_134_129, ↓ps_134_132, ↓q_i1, ↓q_i2, ↓q_l1, ↓q_l2, ↓q_r1, ↓q_v1, ↓q_rs, ↓q_if, ↓q_gi, ↓q_gi', ↓q_gl, ↓q_gl', ↓q_ga, ↓q_ga', ↓q_s1, ↓q_s1n, ↓q_s1i, ↓q_s1r, ↓q_s1', ↓q_s2, ↓q_s2n, ↓q_s2i, ↓q_s2r, ↓q_s2', ↓q_ar0, ↓q_ar, q_w0, q_wi, q_wl, q_wr, q_wii, q_wil, q_wli, q_wll, q_wir, q_wri, q_wlr, q_wrl, q_wrr, q_wirr, q_wiir, q_wiii, q_ni, q_nl, q_fi, q_fl, q_z0, q_z1, q_fz0, q_fz1, ↓q_ts, ↓q_tn, q_e, q_ci, q_cr, ↓q_rfs, decide_true, Bool.and_true, Bool.and_self, Nat.zero_add, Nat.reduceAdd, Nat.reduceBEq, beq_self_eq_true, q_le, q_lel, q_ge, q_gel, q_gt, q_gtl, ite_not, Bool.not_eq_true', Bool.not_eq_false', ↓reduceIte, ↓fg_0_0, ↓fg_0_1, ↓fg_0_2, ↓fg_0_3, ↓fg_0_4, ↓fg_0_5, ↓fg_0_6, ↓fg_0_7, ↓fg_0_8, ↓fp_0_7, ↓fp_0_8, ↓oc_0, ↓fg_31_0, ↓fg_31_1, ↓fp_31_1, ↓oc_31, ↓ai_32, ↓wi_32, ↓fg_33_0, ↓fp_33_0, ↓fg_33_1, ↓fp_33_1, ↓fg_33_2, ↓fp_33_2, ↓fg_33_3, ↓fp_33_3, ↓oc_33, ↓ai_34, ↓wi_34, ↓ai_35, ↓wi_35, ↓fg_36_0, ↓fg_36_1, ↓fg_36_2, ↓fg_36_3, ↓fg_36_4, ↓fg_36_5, ↓fg_36_6, ↓fg_36_7, ↓fp_36_7, ↓fg_36_8, ↓fg_36_9, ↓fg_36_10, ↓fg_36_11, ↓fg_36_12, ↓fp_36_12, ↓fg_36_13, ↓fp_36_13, ↓fg_36_14, ↓fp_36_14, ↓fg_36_15, ↓fg_36_16, ↓fp_36_16, ↓fg_36_17, ↓fp_36_17, ↓fg_36_18, ↓fp_36_18, ↓fg_36_19, ↓fp_36_19, ↓fg_36_20, ↓fp_36_20, ↓fg_36_21, ↓fp_36_21, ↓fg_36_22, ↓fp_36_22, ↓fg_36_23, ↓fp_36_23, ↓fg_36_24, ↓fp_36_24, ↓fg_36_25, ↓fg_36_26, ↓fg_36_27, ↓fg_36_28, ↓fp_36_28, ↓fg_36_29, ↓fp_36_29, ↓oc_36, ↓ai_37, ↓wi_37, ↓ai_38, ↓wi_38, ↓ai_39, ↓wi_39, ↓ai_40, ↓wi_40, ↓ai_41, ↓wi_41, ↓ai_42, ↓wi_42, ↓ai_43, ↓wi_43, ↓ai_44, ↓wi_44, ↓ai_45, ↓wi_45, ↓ai_46, ↓wi_46, ↓ai_47, ↓wi_47, ↓ai_48, ↓wi_48, ↓ai_51, ↓wi_51, ↓al_49, ↓wl_49, ↓al_50, ↓wl_50, isW_1, isW_11, isW_21, isS_3, isS_5, isS_13, isS_15, isS_23, isS_25, ↓fg_1_0, ↓fg_1_1, ↓fg_1_2, ↓fg_1_3, ↓fg_1_4, ↓fg_1_5, ↓fp_1_5, ↓oc_1, ↓aq_2, ↓fg_3_0, ↓fg_3_1, ↓fp_3_1, ↓oc_3, ↓ai_4, ↓wi_4, ↓fg_5_0, ↓fg_5_1, ↓fp_5_1, ↓oc_5, ↓ai_6, ↓wi_6, ↓ai_7, ↓wi_7, ↓ai_8, ↓wi_8, ↓ai_9, ↓wi_9, ↓ai_10, ↓wi_10, ↓fg_11_0, ↓fg_11_1, ↓fg_11_2, ↓fg_11_3, ↓fg_11_4, ↓fg_11_5, ↓fp_11_5, ↓oc_11, ↓aq_12, ↓fg_13_0, ↓fg_13_1, ↓fp_13_1, ↓oc_13, ↓ai_14, ↓wi_14, ↓fg_15_0, ↓fg_15_1, ↓fp_15_1, ↓oc_15, ↓ai_16, ↓wi_16, ↓ai_17, ↓wi_17, ↓ai_18, ↓wi_18, ↓ai_19, ↓wi_19, ↓ai_20, ↓wi_20, ↓fg_21_0, ↓fg_21_1, ↓fg_21_2, ↓fg_21_3, ↓fg_21_4, ↓fg_21_5, ↓fp_21_5, ↓oc_21, ↓aq_22, ↓fg_23_0, ↓fg_23_1, ↓fp_23_1, ↓oc_23, ↓ai_24, ↓wi_24, ↓fg_25_0, ↓fg_25_1, ↓fp_25_1, ↓oc_25, ↓ai_26, ↓wi_26, ↓ai_27, ↓wi_27, ↓ai_28, ↓wi_28, ↓ai_29, ↓wi_29, ↓ai_30, ↓wi_30, tn_0, tn_1, tn_2, tn_3, tn_4, tn_5, tn_6, tn_7, tn_8, tn_9, tn_10, tn_11, tn_12, tn_13, tn_14, tn_15, tn_16, tn_17, ok_0_2, ok_1_2, ok_0_6, ok_1_6, ok_2_6, ok_3_6, ok_4_6, ok_5_6, ok_0_7, ok_1_7, ok_2_7, ok_3_7, ok_4_7, ok_5_7, ok_6_7, ok_0_12, ok_1_12, ok_2_12, ok_3_12, ok_4_12, ok_5_12, ok_6_12, ok_7_12, ok_8_12, ok_9_12, ok_10_12, ok_11_12, ok_0_17, ok_1_17, ok_2_17, ok_3_17, ok_4_17, ok_5_17, ok_6_17, ok_7_17, ok_8_17, ok_9_17, ok_10_17, ok_11_17, ok_12_17, ok_13_17, ok_14_17, ok_15_17, ok_16_17, iq_n1_1, iq_n1_2, iq_n1_3, iq_n1_4, iq_n1_5, iq_n1_6, iq_n1_7, iq_0_n1, iq_0_1, iq_0_2, iq_0_3, iq_0_4, iq_0_5, iq_0_6, iq_0_7, iq_1_n1, iq_1_0, iq_1_2, iq_1_3, iq_1_4, iq_1_5, iq_1_6, iq_1_7, iq_2_n1, iq_2_0, iq_2_1, iq_2_3, iq_2_4, iq_2_5, iq_2_6, iq_2_7, iq_3_n1, iq_3_0, iq_3_1, iq_3_2, iq_3_4, iq_3_5, iq_3_6, iq_3_7, iq_4_n1, iq_4_0, iq_4_1, iq_4_2, iq_4_3, iq_4_5, iq_4_6, iq_4_7, iq_5_n1, iq_5_0, iq_5_1, iq_5_2, iq_5_3, iq_5_4, iq_5_6, iq_5_7, iq_6_n1, iq_6_0, iq_6_1, iq_6_2, iq_6_3, iq_6_4, iq_6_5, iq_6_7, iq_7_n1, iq_7_0, iq_7_1, iq_7_2, iq_7_3, iq_7_4, iq_7_5, iq_7_6, not_false_eq_true, not_true_eq_false, decide_false, Bool.false_and, Bool.and_false, Bool.true_and, Bool.or_false, Bool.false_or, Bool.true_or, Bool.or_true, Bool.not_true, Bool.not_false, Bool.true_eq_false, Bool.false_eq_true, Int32.reduceLT, Int32.reduceAdd, Int32.reduceSub, Int32.reduceToNatClampNeg, Int64.reduceLT, zn1, zl1, zn2, zl2, zn3, zl3, zn4, zl4, zn6, zl6, zn9, zl9, z01, z10, z00, rfA, st_uA, st_rA, updA, Nat.reduceEqDiff, if_false, if_true, st_qA, st_lA]
      · rw [if_neg z]
        obtain ⟨I1, f1, f2, f3, f4⟩ := stm hT h13 h14 q (by omega) z
        rcases f4 with ⟨p, y, p13, cs⟩ | ⟨y, p13, rc, cs⟩
        · rw [y]
          refine ⟨st_u I1 36 14 (nI k), FrP_tr f1 ⟨fun b b1 b2 b3 b4 => by simp only [st_uA, b1, if_false], fun j j1 j2 => by simp only [st_uA, updA, if_true, j2, if_false]⟩, Or.inl ⟨_, rfl, p13, fun X d J o2 => ?_⟩⟩
          have cs' := fun D F => cs X D J F
          rw [ps_134_12]
          simp only [↓ps_134_0, ↓ps_134_1, ↓ps_134_2, ↓ps_134_5, ↓ps_134_6, ↓ps_134_7, ↓ps_134_10, ↓ps_134_11, ↓ps_134_13, ↓ps_134_16, ↓ps_134_17, ↓ps_134_20, ↓ps_134_21, ↓ps_134_24, ↓ps_134_27, ↓ps_134_28, ↓ps_134_31, ↓ps_134_34, ↓ps_134_35, ↓ps_134_38, ↓ps_134_39, ↓ps_134_40, ↓ps_134_41, ↓ps_134_44, ↓ps_134_45, ↓ps_134_48, ↓ps_134_49, ↓ps_134_52, ↓ps_134_53, ↓ps_134_54, ↓ps_134_57, ↓ps_134_61, ↓ps_134_62, ↓ps_134_65, ↓ps_134_66, ↓ps_134_69, ↓ps_134_72, ↓ps_134_73, ↓ps_134_76, ↓ps_134_77, ↓ps_134_78, ↓ps_134_79, ↓ps_134_80, ↓ps_134_81, ↓ps_134_84, ↓ps_134_85, ↓ps_134_86, ↓ps_134_87, ↓ps_134_88, ↓ps_134_91, ↓ps_134_94, ↓ps_134_95, ↓ps_134_96, ↓ps_134_99, ↓ps_134_102, ↓ps_134_105, ↓ps_134_106, ↓ps_134_107, ↓ps_134_108, ↓ps_134_111, ↓ps_134_114, ↓ps_134_115, ↓ps_134_118, ↓ps_134_119, ↓ps_134_120, ↓ps_134_121, ↓ps_134_122, ↓ps_134_125, ↓ps_134_128, ↓ps_134_129, ↓ps_134_132, ↓q_i1, ↓q_i2, ↓q_l1, ↓q_l2, ↓q_r1, ↓q_v1, ↓q_rs, ↓q_if, ↓q_gi, ↓q_gi', ↓q_gl, ↓q_gl', ↓q_ga, ↓q_ga', ↓q_s1, ↓q_s1n, ↓q_s1i, ↓q_s1r, ↓q_s1', ↓q_s2, ↓q_s2n, ↓q_s2i, ↓q_s2r, ↓q_s2', ↓q_ar0, ↓q_ar, q_w0, q_wi, q_wl, q_wr, q_wii, q_wil, q_wli, q_wll, q_wir, q_wri, q_wlr, q_wrl, q_wrr, q_wirr, q_wiir, q_wiii, q_ni, q_nl, q_fi, q_fl, q_z0, q_z1, q_fz0, q_fz1, ↓q_ts, ↓q_tn, q_e, q_ci, q_cr, ↓q_rfs, decide_true, Bool.and_true, Bool.and_self, Nat.zero_add, Nat.reduceAdd, Nat.reduceBEq, beq_self_eq_true, q_le, q_lel, q_ge, q_gel, q_gt, q_gtl, ite_not, Bool.not_eq_true', Bool.not_eq_false', ↓reduceIte, ↓fg_0_0, ↓fg_0_1, ↓fg_0_2, ↓fg_0_3, ↓fg_0_4, ↓fg_0_5, ↓fg_0_6, ↓fg_0_7, ↓fg_0_8, ↓fp_0_7, ↓fp_0_8, ↓oc_0, ↓fg_31_0, ↓fg_31_1, ↓fp_31_1, ↓oc_31, ↓ai_32, ↓wi_32, ↓fg_33_0, ↓fp_33_0, ↓fg_33_1, ↓fp_33_1, ↓fg_33_2, ↓fp_33_2, ↓fg_33_3, ↓fp_33_3, ↓oc_33, ↓ai_34, ↓wi_34, ↓ai_35, ↓wi_35, ↓fg_36_0, ↓fg_36_1, ↓fg_36_2, ↓fg_36_3, ↓fg_36_4, ↓fg_36_5, ↓fg_36_6, ↓fg_36_7, ↓fp_36_7, ↓fg_36_8, ↓fg_36_9, ↓fg_36_10, ↓fg_36_11, ↓fg_36_12, ↓fp_36_12, ↓fg_36_13, ↓fp_36_13, ↓fg_36_14, ↓fp_36_14, ↓fg_36_15, ↓fg_36_16, ↓fp_36_16, ↓fg_36_17, ↓fp_36_17, ↓fg_36_18, ↓fp_36_18, ↓fg_36_19, ↓fp_36_19, ↓fg_36_20, ↓fp_36_20, ↓fg_36_21, ↓fp_36_21, ↓fg_36_22, ↓fp_36_22, ↓fg_36_23, ↓fp_36_23, ↓fg_36_24, ↓fp_36_24, ↓fg_36_25, ↓fg_36_26, ↓fg_36_27, ↓fg_36_28, ↓fp_36_28, ↓fg_36_29, ↓fp_36_29, ↓oc_36, ↓ai_37, ↓wi_37, ↓ai_38, ↓wi_38, ↓ai_39, ↓wi_39, ↓ai_40, ↓wi_40, ↓ai_41, ↓wi_41, ↓ai_42, ↓wi_42, ↓ai_43, ↓wi_43, ↓ai_44, ↓wi_44, ↓ai_45, ↓wi_45, ↓ai_46, ↓wi_46, ↓ai_47, ↓wi_47, ↓ai_48, ↓wi_48, ↓ai_51, ↓wi_51, ↓al_49, ↓wl_49, ↓al_50, ↓wl_50, isW_1, isW_11, isW_21, isS_3, isS_5, isS_13, isS_15, isS_23, isS_25, ↓fg_1_0, ↓fg_1_1, ↓fg_1_2, ↓fg_1_3, ↓fg_1_4, ↓fg_1_5, ↓fp_1_5, ↓oc_1, ↓aq_2, ↓fg_3_0, ↓fg_3_1, ↓fp_3_1, ↓oc_3, ↓ai_4, ↓wi_4, ↓fg_5_0, ↓fg_5_1, ↓fp_5_1, ↓oc_5, ↓ai_6, ↓wi_6, ↓ai_7, ↓wi_7, ↓ai_8, ↓wi_8, ↓ai_9, ↓wi_9, ↓ai_10, ↓wi_10, ↓fg_11_0, ↓fg_11_1, ↓fg_11_2, ↓fg_11_3, ↓fg_11_4, ↓fg_11_5, ↓fp_11_5, ↓oc_11, ↓aq_12, ↓fg_13_0, ↓fg_13_1, ↓fp_13_1, ↓oc_13, ↓ai_14, ↓wi_14, ↓fg_15_0, ↓fg_15_1, ↓fp_15_1, ↓oc_15, ↓ai_16, ↓wi_16, ↓ai_17, ↓wi_17, ↓ai_18, ↓wi_18, ↓ai_19, ↓wi_19, ↓ai_20, ↓wi_20, ↓fg_21_0, ↓fg_21_1, ↓fg_21_2, ↓fg_21_3, ↓fg_21_4, ↓fg_21_5, ↓fp_21_5, ↓oc_21, ↓aq_22, ↓fg_23_0, ↓fg_23_1, ↓fp_23_1, ↓oc_23, ↓ai_24, ↓wi_24, ↓fg_25_0, ↓fg_25_1, ↓fp_25_1, ↓oc_25, ↓ai_26, ↓wi_26, ↓ai_27, ↓wi_27, ↓ai_28, ↓wi_28, ↓ai_29, ↓wi_29, ↓ai_30, ↓wi_30, tn_0, tn_1, tn_2, tn_3, tn_4, tn_5, tn_6, tn_7, tn_8, tn_9, tn_10, tn_11, tn_12, tn_13, tn_14, tn_15, tn_16, tn_17, ok_0_2, ok_1_2, ok_0_6, ok_1_6, ok_2_6, ok_3_6, ok_4_6, ok_5_6, ok_0_7, ok_1_7, ok_2_7, ok_3_7, ok_4_7, ok_5_7, ok_6_7, ok_0_12, ok_1_12, ok_2_12, ok_3_12, ok_4_12, ok_5_12, ok_6_12, ok_7_12, ok_8_12, ok_9_12, ok_10_12, ok_11_12, ok_0_17, ok_1_17, ok_2_17, ok_3_17, ok_4_17, ok_5_17, ok_6_17, ok_7_17, ok_8_17, ok_9_17, ok_10_17, ok_11_17, ok_12_17, ok_13_17, ok_14_17, ok_15_17, ok_16_17, iq_n1_1, iq_n1_2, iq_n1_3, iq_n1_4, iq_n1_5, iq_n1_6, iq_n1_7, iq_0_n1, iq_0_1, iq_0_2, iq_0_3, iq_0_4, iq_0_5, iq_0_6, iq_0_7, iq_1_n1, iq_1_0, iq_1_2, iq_1_3, iq_1_4, iq_1_5, iq_1_6, iq_1_7, iq_2_n1, iq_2_0, iq_2_1, iq_2_3, iq_2_4, iq_2_5, iq_2_6, iq_2_7, iq_3_n1, iq_3_0, iq_3_1, iq_3_2, iq_3_4, iq_3_5, iq_3_6, iq_3_7, iq_4_n1, iq_4_0, iq_4_1, iq_4_2, iq_4_3, iq_4_5, iq_4_6, iq_4_7, iq_5_n1, iq_5_0, iq_5_1, iq_5_2, iq_5_3, iq_5_4, iq_5_6, iq_5_7, iq_6_n1, iq_6_0, iq_6_1, iq_6_2, iq_6_3, iq_6_4, iq_6_5, iq_6_7, iq_7_n1, iq_7_0, iq_7_1, iq_7_2, iq_7_3, iq_7_4, iq_7_5, iq_7_6, not_false_eq_true, not_true_eq_false, decide_false, Bool.false_and, Bool.and_false, Bool.true_and, Bool.or_false, Bool.false_or, Bool.true_or, Bool.or_true, Bool.not_true, Bool.not_false, Bool.true_eq_false, Bool.false_eq_true, Int32.reduceLT, Int32.reduceAdd, Int32.reduceSub, Int32.reduceToNatClampNeg, Int64.reduceLT, zn1, zl1, zn2, zl2, zn3, zl3, zn4, zl4, zn6, zl6, zn9, zl9, z01, z10, z00, rfA, st_uA, st_rA, updA, Nat.reduceEqDiff, if_false, if_true, st_qA, st_lA, h13, h14, e1, h1, ↓cs', f3, Int32.add_zero]
          rw [ps_134_12]
          simp only [↓ps_134_0, ↓ps_134_1, ↓ps_134_2, ↓ps_134_5, ↓ps_134_6, ↓ps_134_7, ↓ps_134_10, ↓ps_134_11, ↓ps_134_13, ↓ps_134_16, ↓ps_134_17, ↓ps_134_20, ↓ps_134_21, ↓ps_134_24, ↓ps_134_27, ↓ps_134_28, ↓ps_134_31, ↓ps_134_34, ↓ps_134_35, ↓ps_134_38, ↓ps_134_39, ↓ps_134_40, ↓ps_134_41, ↓ps_134_44, ↓ps_134_45, ↓ps_134_48, ↓ps_134_49, ↓ps_134_52, ↓ps_134_53, ↓ps_134_54, ↓ps_134_57, ↓ps_134_61, ↓ps_134_62, ↓ps_134_65, ↓ps_134_66, ↓ps_134_69, ↓ps_134_72, ↓ps_134_73, ↓ps_134_76, ↓ps_134_77, ↓ps_134_78, ↓ps_134_79, ↓ps_134_80, ↓ps_134_81, ↓ps_134_84, ↓ps_134_85, ↓ps_134_86, ↓ps_134_87, ↓ps_134_88, ↓ps_134_91, ↓ps_134_94, ↓ps_134_95, ↓ps_134_96, ↓ps_134_99, ↓ps_134_102, ↓ps_134_105, ↓ps_134_106, ↓ps_134_107, ↓ps_134_108, ↓ps_134_111, ↓ps_134_114, ↓ps_134_115, ↓ps_134_118, ↓ps_134_119, ↓ps_134_120, ↓ps_134_121, ↓ps_134_122, ↓ps_134_125, ↓ps_134_128, ↓ps_134_129, ↓ps_134_132, ↓q_i1, ↓q_i2, ↓q_l1, ↓q_l2, ↓q_r1, ↓q_v1, ↓q_rs, ↓q_if, ↓q_gi, ↓q_gi', ↓q_gl, ↓q_gl', ↓q_ga, ↓q_ga', ↓q_s1, ↓q_s1n, ↓q_s1i, ↓q_s1r, ↓q_s1', ↓q_s2, ↓q_s2n, ↓q_s2i, ↓q_s2r, ↓q_s2', ↓q_ar0, ↓q_ar, q_w0, q_wi, q_wl, q_wr, q_wii, q_wil, q_wli, q_wll, q_wir, q_wri, q_wlr, q_wrl, q_wrr, q_wirr, q_wiir, q_wiii, q_ni, q_nl, q_fi, q_fl, q_z0, q_z1, q_fz0, q_fz1, ↓q_ts, ↓q_tn, q_e, q_ci, q_cr, ↓q_rfs, decide_true, Bool.and_true, Bool.and_self, Nat.zero_add, Nat.reduceAdd, Nat.reduceBEq, beq_self_eq_true, q_le, q_lel, q_ge, q_gel, q_gt, q_gtl, ite_not, Bool.not_eq_true', Bool.not_eq_false', ↓reduceIte, ↓fg_0_0, ↓fg_0_1, ↓fg_0_2, ↓fg_0_3, ↓fg_0_4, ↓fg_0_5, ↓fg_0_6, ↓fg_0_7, ↓fg_0_8, ↓fp_0_7, ↓fp_0_8, ↓oc_0, ↓fg_31_0, ↓fg_31_1, ↓fp_31_1, ↓oc_31, ↓ai_32, ↓wi_32, ↓fg_33_0, ↓fp_33_0, ↓fg_33_1, ↓fp_33_1, ↓fg_33_2, ↓fp_33_2, ↓fg_33_3, ↓fp_33_3, ↓oc_33, ↓ai_34, ↓wi_34, ↓ai_35, ↓wi_35, ↓fg_36_0, ↓fg_36_1, ↓fg_36_2, ↓fg_36_3, ↓fg_36_4, ↓fg_36_5, ↓fg_36_6, ↓fg_36_7, ↓fp_36_7, ↓fg_36_8, ↓fg_36_9, ↓fg_36_10, ↓fg_36_11, ↓fg_36_12, ↓fp_36_12, ↓fg_36_13, ↓fp_36_13, ↓fg_36_14, ↓fp_36_14, ↓fg_36_15, ↓fg_36_16, ↓fp_36_16, ↓fg_36_17, ↓fp_36_17, ↓fg_36_18, ↓fp_36_18, ↓fg_36_19, ↓fp_36_19, ↓fg_36_20, ↓fp_36_20, ↓fg_36_21, ↓fp_36_21, ↓fg_36_22, ↓fp_36_22, ↓fg_36_23, ↓fp_36_23, ↓fg_36_24, ↓fp_36_24, ↓fg_36_25, ↓fg_36_26, ↓fg_36_27, ↓fg_36_28, ↓fp_36_28, ↓fg_36_29, ↓fp_36_29, ↓oc_36, ↓ai_37, ↓wi_37, ↓ai_38, ↓wi_38, ↓ai_39, ↓wi_39, ↓ai_40, ↓wi_40, ↓ai_41, ↓wi_41, ↓ai_42, ↓wi_42, ↓ai_43, ↓wi_43, ↓ai_44, ↓wi_44, ↓ai_45, ↓wi_45, ↓ai_46, ↓wi_46, ↓ai_47, ↓wi_47, ↓ai_48, ↓wi_48, ↓ai_51, ↓wi_51, ↓al_49, ↓wl_49, ↓al_50, ↓wl_50, isW_1, isW_11, isW_21, isS_3, isS_5, isS_13, isS_15, isS_23, isS_25, ↓fg_1_0, ↓fg_1_1, ↓fg_1_2, ↓fg_1_3, ↓fg_1_4, ↓fg_1_5, ↓fp_1_5, ↓oc_1, ↓aq_2, ↓fg_3_0, ↓fg_3_1, ↓fp_3_1, ↓oc_3, ↓ai_4, ↓wi_4, ↓fg_5_0, ↓fg_5_1, ↓fp_5_1, ↓oc_5, ↓ai_6, ↓wi_6, ↓ai_7, ↓wi_7, ↓ai_8, ↓wi_8, ↓ai_9, ↓wi_9, ↓ai_10, ↓wi_10, ↓fg_11_0, ↓fg_11_1, ↓fg_11_2, ↓fg_11_3, ↓fg_11_4, ↓fg_11_5, ↓fp_11_5, ↓oc_11, ↓aq_12, ↓fg_13_0, ↓fg_13_1, ↓fp_13_1, ↓oc_13, ↓ai_14, ↓wi_14, ↓fg_15_0, ↓fg_15_1, ↓fp_15_1, ↓oc_15, ↓ai_16, ↓wi_16, ↓ai_17, ↓wi_17, ↓ai_18, ↓wi_18, ↓ai_19, ↓wi_19, ↓ai_20, ↓wi_20, ↓fg_21_0, ↓fg_21_1, ↓fg_21_2, ↓fg_21_3, ↓fg_21_4, ↓fg_21_5, ↓fp_21_5, ↓oc_21, ↓aq_22, ↓fg_23_0, ↓fg_23_1, ↓fp_23_1, ↓oc_23, ↓ai_24, ↓wi_24, ↓fg_25_0, ↓fg_25_1, ↓fp_25_1, ↓oc_25, ↓ai_26, ↓wi_26, ↓ai_27, ↓wi_27, ↓ai_28, ↓wi_28, ↓ai_29, ↓wi_29, ↓ai_30, ↓wi_30, tn_0, tn_1, tn_2, tn_3, tn_4, tn_5, tn_6, tn_7, tn_8, tn_9, tn_10, tn_11, tn_12, tn_13, tn_14, tn_15, tn_16, tn_17, ok_0_2, ok_1_2, ok_0_6, ok_1_6, ok_2_6, ok_3_6, ok_4_6, ok_5_6, ok_0_7, ok_1_7, ok_2_7, ok_3_7, ok_4_7, ok_5_7, ok_6_7, ok_0_12, ok_1_12, ok_2_12, ok_3_12, ok_4_12, ok_5_12, ok_6_12, ok_7_12, ok_8_12, ok_9_12, ok_10_12, ok_11_12, ok_0_17, ok_1_17, ok_2_17, ok_3_17, ok_4_17, ok_5_17, ok_6_17, ok_7_17, ok_8_17, ok_9_17, ok_10_17, ok_11_17, ok_12_17, ok_13_17, ok_14_17, ok_15_17, ok_16_17, iq_n1_1, iq_n1_2, iq_n1_3, iq_n1_4, iq_n1_5, iq_n1_6, iq_n1_7, iq_0_n1, iq_0_1, iq_0_2, iq_0_3, iq_0_4, iq_0_5, iq_0_6, iq_0_7, iq_1_n1, iq_1_0, iq_1_2, iq_1_3, iq_1_4, iq_1_5, iq_1_6, iq_1_7, iq_2_n1, iq_2_0, iq_2_1, iq_2_3, iq_2_4, iq_2_5, iq_2_6, iq_2_7, iq_3_n1, iq_3_0, iq_3_1, iq_3_2, iq_3_4, iq_3_5, iq_3_6, iq_3_7, iq_4_n1, iq_4_0, iq_4_1, iq_4_2, iq_4_3, iq_4_5, iq_4_6, iq_4_7, iq_5_n1, iq_5_0, iq_5_1, iq_5_2, iq_5_3, iq_5_4, iq_5_6, iq_5_7, iq_6_n1, iq_6_0, iq_6_1, iq_6_2, iq_6_3, iq_6_4, iq_6_5, iq_6_7, iq_7_n1, iq_7_0, iq_7_1, iq_7_2, iq_7_3, iq_7_4, iq_7_5, iq_7_6, not_false_eq_true, not_true_eq_false, decide_false, Bool.false_and, Bool.and_false, Bool.true_and, Bool.or_false, Bool.false_or, Bool.true_or, Bool.or_true, Bool.not_true, Bool.not_false, Bool.true_eq_false, Bool.false_eq_true, Int32.reduceLT, Int32.reduceAdd, Int32.reduceSub, Int32.reduceToNatClampNeg, Int64.reduceLT, zn1, zl1, zn2, zl2, zn3, zl3, zn4, zl4, zn6, zl6, zn9, zl9, z01, z10, z00, rfA, st_uA, st_rA, updA, Nat.reduceEqDiff, if_false, if_true, st_qA, st_lA]
        · rw [y]
          have hO2 := OKT_S hO z q y
          have ih := l_134_12 n0 f (k + 1) (st_u I1 36 14 (nI (k + 1))) (by rw [stN]; omega) hO2 (by have t := FrP_TX f1 hT; exact t) p13 rfl (fun j hj => by
            by_cases e : j = k
            · rw [e]; exact rc
            · exact RC_14 (RC_K f2 (by omega) (hR j (by omega))))
          obtain ⟨I', g1, g2⟩ := ih
          have fr : FrP I1 (st_u I1 36 14 (nI (k + 1))) := ⟨fun b b1 b2 b3 b4 => by simp only [st_uA, b1, if_false], fun j j1 j2 => by simp only [st_uA, updA, if_true, j2, if_false]⟩
          have step : ∀ (X : pm_X) (d : Nat) (J : st_J) (o2 : Option Value), pm_ev X (d + 6) 134 (12, [some (.ref 36), some (.int 1), o2], [], st_E I J) = pm_ev X (d + 6) 134 (12, [some (.ref 36), some (.int 1), o2], [], st_E (st_u I1 36 14 (nI (k + 1))) J) := fun X d J o2 => by
            have cs' := fun D F => cs X D J F
            rw [ps_134_12]
            simp only [↓ps_134_0, ↓ps_134_1, ↓ps_134_2, ↓ps_134_5, ↓ps_134_6, ↓ps_134_7, ↓ps_134_10, ↓ps_134_11, ↓ps_134_13, ↓ps_134_16, ↓ps_134_17, ↓ps_134_20, ↓ps_134_21, ↓ps_134_24, ↓ps_134_27, ↓ps_134_28, ↓ps_134_31, ↓ps_134_34, ↓ps_134_35, ↓ps_134_38, ↓ps_134_39, ↓ps_134_40, ↓ps_134_41, ↓ps_134_44, ↓ps_134_45, ↓ps_134_48, ↓ps_134_49, ↓ps_134_52, ↓ps_134_53, ↓ps_134_54, ↓ps_134_57, ↓ps_134_61, ↓ps_134_62, ↓ps_134_65, ↓ps_134_66, ↓ps_134_69, ↓ps_134_72, ↓ps_134_73, ↓ps_134_76, ↓ps_134_77, ↓ps_134_78, ↓ps_134_79, ↓ps_134_80, ↓ps_134_81, ↓ps_134_84, ↓ps_134_85, ↓ps_134_86, ↓ps_134_87, ↓ps_134_88, ↓ps_134_91, ↓ps_134_94, ↓ps_134_95, ↓ps_134_96, ↓ps_134_99, ↓ps_134_102, ↓ps_134_105, ↓ps_134_106, ↓ps_134_107, ↓ps_134_108, ↓ps_134_111, ↓ps_134_114, ↓ps_134_115, ↓ps_134_118, ↓ps_134_119, ↓ps_134_120, ↓ps_134_121, ↓ps_134_122, ↓ps_134_125, ↓ps_134_128, ↓ps_134_129, ↓ps_134_132, ↓q_i1, ↓q_i2, ↓q_l1, ↓q_l2, ↓q_r1, ↓q_v1, ↓q_rs, ↓q_if, ↓q_gi, ↓q_gi', ↓q_gl, ↓q_gl', ↓q_ga, ↓q_ga', ↓q_s1, ↓q_s1n, ↓q_s1i, ↓q_s1r, ↓q_s1', ↓q_s2, ↓q_s2n, ↓q_s2i, ↓q_s2r, ↓q_s2', ↓q_ar0, ↓q_ar, q_w0, q_wi, q_wl, q_wr, q_wii, q_wil, q_wli, q_wll, q_wir, q_wri, q_wlr, q_wrl, q_wrr, q_wirr, q_wiir, q_wiii, q_ni, q_nl, q_fi, q_fl, q_z0, q_z1, q_fz0, q_fz1, ↓q_ts, ↓q_tn, q_e, q_ci, q_cr, ↓q_rfs, decide_true, Bool.and_true, Bool.and_self, Nat.zero_add, Nat.reduceAdd, Nat.reduceBEq, beq_self_eq_true, q_le, q_lel, q_ge, q_gel, q_gt, q_gtl, ite_not, Bool.not_eq_true', Bool.not_eq_false', ↓reduceIte, ↓fg_0_0, ↓fg_0_1, ↓fg_0_2, ↓fg_0_3, ↓fg_0_4, ↓fg_0_5, ↓fg_0_6, ↓fg_0_7, ↓fg_0_8, ↓fp_0_7, ↓fp_0_8, ↓oc_0, ↓fg_31_0, ↓fg_31_1, ↓fp_31_1, ↓oc_31, ↓ai_32, ↓wi_32, ↓fg_33_0, ↓fp_33_0, ↓fg_33_1, ↓fp_33_1, ↓fg_33_2, ↓fp_33_2, ↓fg_33_3, ↓fp_33_3, ↓oc_33, ↓ai_34, ↓wi_34, ↓ai_35, ↓wi_35, ↓fg_36_0, ↓fg_36_1, ↓fg_36_2, ↓fg_36_3, ↓fg_36_4, ↓fg_36_5, ↓fg_36_6, ↓fg_36_7, ↓fp_36_7, ↓fg_36_8, ↓fg_36_9, ↓fg_36_10, ↓fg_36_11, ↓fg_36_12, ↓fp_36_12, ↓fg_36_13, ↓fp_36_13, ↓fg_36_14, ↓fp_36_14, ↓fg_36_15, ↓fg_36_16, ↓fp_36_16, ↓fg_36_17, ↓fp_36_17, ↓fg_36_18, ↓fp_36_18, ↓fg_36_19, ↓fp_36_19, ↓fg_36_20, ↓fp_36_20, ↓fg_36_21, ↓fp_36_21, ↓fg_36_22, ↓fp_36_22, ↓fg_36_23, ↓fp_36_23, ↓fg_36_24, ↓fp_36_24, ↓fg_36_25, ↓fg_36_26, ↓fg_36_27, ↓fg_36_28, ↓fp_36_28, ↓fg_36_29, ↓fp_36_29, ↓oc_36, ↓ai_37, ↓wi_37, ↓ai_38, ↓wi_38, ↓ai_39, ↓wi_39, ↓ai_40, ↓wi_40, ↓ai_41, ↓wi_41, ↓ai_42, ↓wi_42, ↓ai_43, ↓wi_43, ↓ai_44, ↓wi_44, ↓ai_45, ↓wi_45, ↓ai_46, ↓wi_46, ↓ai_47, ↓wi_47, ↓ai_48, ↓wi_48, ↓ai_51, ↓wi_51, ↓al_49, ↓wl_49, ↓al_50, ↓wl_50, isW_1, isW_11, isW_21, isS_3, isS_5, isS_13, isS_15, isS_23, isS_25, ↓fg_1_0, ↓fg_1_1, ↓fg_1_2, ↓fg_1_3, ↓fg_1_4, ↓fg_1_5, ↓fp_1_5, ↓oc_1, ↓aq_2, ↓fg_3_0, ↓fg_3_1, ↓fp_3_1, ↓oc_3, ↓ai_4, ↓wi_4, ↓fg_5_0, ↓fg_5_1, ↓fp_5_1, ↓oc_5, ↓ai_6, ↓wi_6, ↓ai_7, ↓wi_7, ↓ai_8, ↓wi_8, ↓ai_9, ↓wi_9, ↓ai_10, ↓wi_10, ↓fg_11_0, ↓fg_11_1, ↓fg_11_2, ↓fg_11_3, ↓fg_11_4, ↓fg_11_5, ↓fp_11_5, ↓oc_11, ↓aq_12, ↓fg_13_0, ↓fg_13_1, ↓fp_13_1, ↓oc_13, ↓ai_14, ↓wi_14, ↓fg_15_0, ↓fg_15_1, ↓fp_15_1, ↓oc_15, ↓ai_16, ↓wi_16, ↓ai_17, ↓wi_17, ↓ai_18, ↓wi_18, ↓ai_19, ↓wi_19, ↓ai_20, ↓wi_20, ↓fg_21_0, ↓fg_21_1, ↓fg_21_2, ↓fg_21_3, ↓fg_21_4, ↓fg_21_5, ↓fp_21_5, ↓oc_21, ↓aq_22, ↓fg_23_0, ↓fg_23_1, ↓fp_23_1, ↓oc_23, ↓ai_24, ↓wi_24, ↓fg_25_0, ↓fg_25_1, ↓fp_25_1, ↓oc_25, ↓ai_26, ↓wi_26, ↓ai_27, ↓wi_27, ↓ai_28, ↓wi_28, ↓ai_29, ↓wi_29, ↓ai_30, ↓wi_30, tn_0, tn_1, tn_2, tn_3, tn_4, tn_5, tn_6, tn_7, tn_8, tn_9, tn_10, tn_11, tn_12, tn_13, tn_14, tn_15, tn_16, tn_17, ok_0_2, ok_1_2, ok_0_6, ok_1_6, ok_2_6, ok_3_6, ok_4_6, ok_5_6, ok_0_7, ok_1_7, ok_2_7, ok_3_7, ok_4_7, ok_5_7, ok_6_7, ok_0_12, ok_1_12, ok_2_12, ok_3_12, ok_4_12, ok_5_12, ok_6_12, ok_7_12, ok_8_12, ok_9_12, ok_10_12, ok_11_12, ok_0_17, ok_1_17, ok_2_17, ok_3_17, ok_4_17, ok_5_17, ok_6_17, ok_7_17, ok_8_17, ok_9_17, ok_10_17, ok_11_17, ok_12_17, ok_13_17, ok_14_17, ok_15_17, ok_16_17, iq_n1_1, iq_n1_2, iq_n1_3, iq_n1_4, iq_n1_5, iq_n1_6, iq_n1_7, iq_0_n1, iq_0_1, iq_0_2, iq_0_3, iq_0_4, iq_0_5, iq_0_6, iq_0_7, iq_1_n1, iq_1_0, iq_1_2, iq_1_3, iq_1_4, iq_1_5, iq_1_6, iq_1_7, iq_2_n1, iq_2_0, iq_2_1, iq_2_3, iq_2_4, iq_2_5, iq_2_6, iq_2_7, iq_3_n1, iq_3_0, iq_3_1, iq_3_2, iq_3_4, iq_3_5, iq_3_6, iq_3_7, iq_4_n1, iq_4_0, iq_4_1, iq_4_2, iq_4_3, iq_4_5, iq_4_6, iq_4_7, iq_5_n1, iq_5_0, iq_5_1, iq_5_2, iq_5_3, iq_5_4, iq_5_6, iq_5_7, iq_6_n1, iq_6_0, iq_6_1, iq_6_2, iq_6_3, iq_6_4, iq_6_5, iq_6_7, iq_7_n1, iq_7_0, iq_7_1, iq_7_2, iq_7_3, iq_7_4, iq_7_5, iq_7_6, not_false_eq_true, not_true_eq_false, decide_false, Bool.false_and, Bool.and_false, Bool.true_and, Bool.or_false, Bool.false_or, Bool.true_or, Bool.or_true, Bool.not_true, Bool.not_false, Bool.true_eq_false, Bool.false_eq_true, Int32.reduceLT, Int32.reduceAdd, Int32.reduceSub, Int32.reduceToNatClampNeg, Int64.reduceLT, zn1, zl1, zn2, zl2, zn3, zl3, zn4, zl4, zn6, zl6, zn9, zl9, z01, z10, z00, rfA, st_uA, st_rA, updA, Nat.reduceEqDiff, if_false, if_true, st_qA, st_lA, h13, h14, e1, h1, ↓cs', f3, nI_1]
          refine ⟨I', FrP_tr f1 (FrP_tr fr g1), ?_⟩
          rcases g2 with ⟨p, y1, y2, y3⟩ | ⟨y1, K, y2, y3, y4, y5, y6⟩
          · exact Or.inl ⟨p, y1, y2, fun X d J o2 => (step X d J o2).trans (y3 X d J o2)⟩
          · exact Or.inr ⟨y1, K, y2, y3, y4, y5, fun X d J o2 => (step X d J o2).trans (y6 X d J o2)⟩
    · have h1 : ¬ nI (stN s k) < nI n := nI_nl (by omega) (by omega)
      have k0 : ¬ k = 0 := by
        intro e
        subst e
        have : stN s 0 = 0 := rfl
        omega
      have h2 : ¬ nI k = 0 := nI_ne0 (by omega) (by omega)
      rw [if_neg q]
      refine ⟨I, FrP_rf I, Or.inr ⟨rfl, k, h14, by omega, hO, hR, fun X d J o2 => ?_⟩⟩
      rw [ps_134_12]
      simp only [↓ps_134_0, ↓ps_134_1, ↓ps_134_2, ↓ps_134_5, ↓ps_134_6, ↓ps_134_7, ↓ps_134_10, ↓ps_134_11, ↓ps_134_13, ↓ps_134_16, ↓ps_134_17, ↓ps_134_20, ↓ps_134_21, ↓ps_134_24, ↓ps_134_27, ↓ps_134_28, ↓ps_134_31, ↓ps_134_34, ↓ps_134_35, ↓ps_134_38, ↓ps_134_39, ↓ps_134_40, ↓ps_134_41, ↓ps_134_44, ↓ps_134_45, ↓ps_134_48, ↓ps_134_49, ↓ps_134_52, ↓ps_134_53, ↓ps_134_54, ↓ps_134_57, ↓ps_134_61, ↓ps_134_62, ↓ps_134_65, ↓ps_134_66, ↓ps_134_69, ↓ps_134_72, ↓ps_134_73, ↓ps_134_76, ↓ps_134_77, ↓ps_134_78, ↓ps_134_79, ↓ps_134_80, ↓ps_134_81, ↓ps_134_84, ↓ps_134_85, ↓ps_134_86, ↓ps_134_87, ↓ps_134_88, ↓ps_134_91, ↓ps_134_94, ↓ps_134_95, ↓ps_134_96, ↓ps_134_99, ↓ps_134_102, ↓ps_134_105, ↓ps_134_106, ↓ps_134_107, ↓ps_134_108, ↓ps_134_111, ↓ps_134_114, ↓ps_134_115, ↓ps_134_118, ↓ps_134_119, ↓ps_134_120, ↓ps_134_121, ↓ps_134_122, ↓ps_134_125, ↓ps_134_128, ↓ps_134_129, ↓ps_134_132, ↓q_i1, ↓q_i2, ↓q_l1, ↓q_l2, ↓q_r1, ↓q_v1, ↓q_rs, ↓q_if, ↓q_gi, ↓q_gi', ↓q_gl, ↓q_gl', ↓q_ga, ↓q_ga', ↓q_s1, ↓q_s1n, ↓q_s1i, ↓q_s1r, ↓q_s1', ↓q_s2, ↓q_s2n, ↓q_s2i, ↓q_s2r, ↓q_s2', ↓q_ar0, ↓q_ar, q_w0, q_wi, q_wl, q_wr, q_wii, q_wil, q_wli, q_wll, q_wir, q_wri, q_wlr, q_wrl, q_wrr, q_wirr, q_wiir, q_wiii, q_ni, q_nl, q_fi, q_fl, q_z0, q_z1, q_fz0, q_fz1, ↓q_ts, ↓q_tn, q_e, q_ci, q_cr, ↓q_rfs, decide_true, Bool.and_true, Bool.and_self, Nat.zero_add, Nat.reduceAdd, Nat.reduceBEq, beq_self_eq_true, q_le, q_lel, q_ge, q_gel, q_gt, q_gtl, ite_not, Bool.not_eq_true', Bool.not_eq_false', ↓reduceIte, ↓fg_0_0, ↓fg_0_1, ↓fg_0_2, ↓fg_0_3, ↓fg_0_4, ↓fg_0_5, ↓fg_0_6, ↓fg_0_7, ↓fg_0_8, ↓fp_0_7, ↓fp_0_8, ↓oc_0, ↓fg_31_0, ↓fg_31_1, ↓fp_31_1, ↓oc_31, ↓ai_32, ↓wi_32, ↓fg_33_0, ↓fp_33_0, ↓fg_33_1, ↓fp_33_1, ↓fg_33_2, ↓fp_33_2, ↓fg_33_3, ↓fp_33_3, ↓oc_33, ↓ai_34, ↓wi_34, ↓ai_35, ↓wi_35, ↓fg_36_0, ↓fg_36_1, ↓fg_36_2, ↓fg_36_3, ↓fg_36_4, ↓fg_36_5, ↓fg_36_6, ↓fg_36_7, ↓fp_36_7, ↓fg_36_8, ↓fg_36_9, ↓fg_36_10, ↓fg_36_11, ↓fg_36_12, ↓fp_36_12, ↓fg_36_13, ↓fp_36_13, ↓fg_36_14, ↓fp_36_14, ↓fg_36_15, ↓fg_36_16, ↓fp_36_16, ↓fg_36_17, ↓fp_36_17, ↓fg_36_18, ↓fp_36_18, ↓fg_36_19, ↓fp_36_19, ↓fg_36_20, ↓fp_36_20, ↓fg_36_21, ↓fp_36_21, ↓fg_36_22, ↓fp_36_22, ↓fg_36_23, ↓fp_36_23, ↓fg_36_24, ↓fp_36_24, ↓fg_36_25, ↓fg_36_26, ↓fg_36_27, ↓fg_36_28, ↓fp_36_28, ↓fg_36_29, ↓fp_36_29, ↓oc_36, ↓ai_37, ↓wi_37, ↓ai_38, ↓wi_38, ↓ai_39, ↓wi_39, ↓ai_40, ↓wi_40, ↓ai_41, ↓wi_41, ↓ai_42, ↓wi_42, ↓ai_43, ↓wi_43, ↓ai_44, ↓wi_44, ↓ai_45, ↓wi_45, ↓ai_46, ↓wi_46, ↓ai_47, ↓wi_47, ↓ai_48, ↓wi_48, ↓ai_51, ↓wi_51, ↓al_49, ↓wl_49, ↓al_50, ↓wl_50, isW_1, isW_11, isW_21, isS_3, isS_5, isS_13, isS_15, isS_23, isS_25, ↓fg_1_0, ↓fg_1_1, ↓fg_1_2, ↓fg_1_3, ↓fg_1_4, ↓fg_1_5, ↓fp_1_5, ↓oc_1, ↓aq_2, ↓fg_3_0, ↓fg_3_1, ↓fp_3_1, ↓oc_3, ↓ai_4, ↓wi_4, ↓fg_5_0, ↓fg_5_1, ↓fp_5_1, ↓oc_5, ↓ai_6, ↓wi_6, ↓ai_7, ↓wi_7, ↓ai_8, ↓wi_8, ↓ai_9, ↓wi_9, ↓ai_10, ↓wi_10, ↓fg_11_0, ↓fg_11_1, ↓fg_11_2, ↓fg_11_3, ↓fg_11_4, ↓fg_11_5, ↓fp_11_5, ↓oc_11, ↓aq_12, ↓fg_13_0, ↓fg_13_1, ↓fp_13_1, ↓oc_13, ↓ai_14, ↓wi_14, ↓fg_15_0, ↓fg_15_1, ↓fp_15_1, ↓oc_15, ↓ai_16, ↓wi_16, ↓ai_17, ↓wi_17, ↓ai_18, ↓wi_18, ↓ai_19, ↓wi_19, ↓ai_20, ↓wi_20, ↓fg_21_0, ↓fg_21_1, ↓fg_21_2, ↓fg_21_3, ↓fg_21_4, ↓fg_21_5, ↓fp_21_5, ↓oc_21, ↓aq_22, ↓fg_23_0, ↓fg_23_1, ↓fp_23_1, ↓oc_23, ↓ai_24, ↓wi_24, ↓fg_25_0, ↓fg_25_1, ↓fp_25_1, ↓oc_25, ↓ai_26, ↓wi_26, ↓ai_27, ↓wi_27, ↓ai_28, ↓wi_28, ↓ai_29, ↓wi_29, ↓ai_30, ↓wi_30, tn_0, tn_1, tn_2, tn_3, tn_4, tn_5, tn_6, tn_7, tn_8, tn_9, tn_10, tn_11, tn_12, tn_13, tn_14, tn_15, tn_16, tn_17, ok_0_2, ok_1_2, ok_0_6, ok_1_6, ok_2_6, ok_3_6, ok_4_6, ok_5_6, ok_0_7, ok_1_7, ok_2_7, ok_3_7, ok_4_7, ok_5_7, ok_6_7, ok_0_12, ok_1_12, ok_2_12, ok_3_12, ok_4_12, ok_5_12, ok_6_12, ok_7_12, ok_8_12, ok_9_12, ok_10_12, ok_11_12, ok_0_17, ok_1_17, ok_2_17, ok_3_17, ok_4_17, ok_5_17, ok_6_17, ok_7_17, ok_8_17, ok_9_17, ok_10_17, ok_11_17, ok_12_17, ok_13_17, ok_14_17, ok_15_17, ok_16_17, iq_n1_1, iq_n1_2, iq_n1_3, iq_n1_4, iq_n1_5, iq_n1_6, iq_n1_7, iq_0_n1, iq_0_1, iq_0_2, iq_0_3, iq_0_4, iq_0_5, iq_0_6, iq_0_7, iq_1_n1, iq_1_0, iq_1_2, iq_1_3, iq_1_4, iq_1_5, iq_1_6, iq_1_7, iq_2_n1, iq_2_0, iq_2_1, iq_2_3, iq_2_4, iq_2_5, iq_2_6, iq_2_7, iq_3_n1, iq_3_0, iq_3_1, iq_3_2, iq_3_4, iq_3_5, iq_3_6, iq_3_7, iq_4_n1, iq_4_0, iq_4_1, iq_4_2, iq_4_3, iq_4_5, iq_4_6, iq_4_7, iq_5_n1, iq_5_0, iq_5_1, iq_5_2, iq_5_3, iq_5_4, iq_5_6, iq_5_7, iq_6_n1, iq_6_0, iq_6_1, iq_6_2, iq_6_3, iq_6_4, iq_6_5, iq_6_7, iq_7_n1, iq_7_0, iq_7_1, iq_7_2, iq_7_3, iq_7_4, iq_7_5, iq_7_6, not_false_eq_true, not_true_eq_false, decide_false, Bool.false_and, Bool.and_false, Bool.true_and, Bool.or_false, Bool.false_or, Bool.true_or, Bool.or_true, Bool.not_true, Bool.not_false, Bool.true_eq_false, Bool.false_eq_true, Int32.reduceLT, Int32.reduceAdd, Int32.reduceSub, Int32.reduceToNatClampNeg, Int64.reduceLT, zn1, zl1, zn2, zl2, zn3, zl3, zn4, zl4, zn6, zl6, zn9, zl9, z01, z10, z00, rfA, st_uA, st_rA, updA, Nat.reduceEqDiff, if_false, if_true, st_qA, st_lA, h13, h14, e1, h1, h2]
