/-! what the relation says of a sheet, of beliefs and of lookers, by natural numbers -/
def bitsV (v : Nat → Nat) : Nat → Nat
  | 0 => 0
  | n + 1 => bitsV v n ||| 2 ^ v n
def grV (v : Nat → Nat) : Nat → Nat
  | 0 => 0
  | n + 1 => if grV v n < v n then v n else grV v n
def leV (v : Nat → Nat) : Nat → Nat
  | 0 => 0
  | n + 1 => if n = 0 then v n else if v n < leV v n then v n else leV v n
def toV (v : Nat → Nat) : Nat → Nat
  | 0 => 0
  | n + 1 => toV v n + v n
def riV (v : Nat → Nat) : Nat → Nat
  | 0 => 0
  | n + 1 => if grV v n < v n then riV v n + 1 else riV v n
theorem grV_le {v : Nat → Nat} {M : Nat} : ∀ n, (∀ k, k < n → v k ≤ M) → grV v n ≤ M
  | 0, _ => Nat.zero_le _
  | n + 1, h => by
    rw [grV]
    split
    · exact h n (by omega)
    · exact grV_le n (fun k hk => h k (by omega))
theorem grV_ge {v : Nat → Nat} : ∀ n k, k < n → v k ≤ grV v n
  | 0, k, h => absurd h (by omega)
  | n + 1, k, h => by
    rw [grV]
    by_cases e : k = n
    · subst e; split <;> omega
    · have := grV_ge (v := v) n k (by omega)
      split <;> omega
theorem leV_le {v : Nat → Nat} {M : Nat} : ∀ n, (∀ k, k < n → v k ≤ M) → leV v n ≤ M
  | 0, _ => Nat.zero_le _
  | n + 1, h => by
    rw [leV]
    have := leV_le (v := v) n (fun k hk => h k (by omega))
    have := h n (by omega)
    (repeat' split) <;> assumption
theorem leV_pos {v : Nat → Nat} : ∀ n, (∀ k, k < n → 1 ≤ v k) → 0 < n → 1 ≤ leV v n
  | 0, _, h => absurd h (by omega)
  | n + 1, h, _ => by
    rw [leV]
    split
    · exact h n (by omega)
    · have := leV_pos (v := v) n (fun k hk => h k (by omega)) (by omega)
      have := h n (by omega)
      split <;> omega
theorem leV_gr {v : Nat → Nat} : ∀ n, leV v n ≤ grV v n
  | 0 => Nat.le_refl _
  | n + 1 => by
    rw [leV, grV]
    have := leV_gr (v := v) n
    (repeat' split) <;> omega
theorem toV_le {v : Nat → Nat} {M : Nat} : ∀ n, (∀ k, k < n → v k ≤ M) → toV v n ≤ n * M
  | 0, _ => by rw [toV]; omega
  | n + 1, h => by
    rw [toV, Nat.add_mul]
    have := toV_le (v := v) n (fun k hk => h k (by omega))
    have := h n (by omega)
    omega
theorem toV_ge {v : Nat → Nat} : ∀ n, (∀ k, k < n → 1 ≤ v k) → n ≤ toV v n
  | 0, _ => Nat.zero_le _
  | n + 1, h => by
    rw [toV]
    have := toV_ge (v := v) n (fun k hk => h k (by omega))
    have := h n (by omega)
    omega
theorem riV_le {v : Nat → Nat} : ∀ n, riV v n ≤ n
  | 0 => Nat.le_refl _
  | n + 1 => by
    rw [riV]
    have := riV_le (v := v) n
    split <;> omega
/-- n unlike numbers from 1 to g: n is at most g -/
theorem pigeon : ∀ (g n : Nat) (v : Nat → Nat), (∀ k, k < n → 1 ≤ v k ∧ v k ≤ g) → (∀ i j, i < j → j < n → v i ≠ v j) → n ≤ g
  | 0, n, v, h, _ => by
    rcases Nat.eq_zero_or_pos n with e | e
    · omega
    · have := h 0 e; omega
  | g + 1, n, v, h, u => by
    by_cases hk : ∃ k, k < n ∧ v k = g + 1
    · obtain ⟨k, k1, k2⟩ := hk
      have hu : ∀ i, i < n → i ≠ k → v i ≠ g + 1 := fun i hi hne e => by
        rcases Nat.lt_or_gt_of_ne hne with q | q
        · exact u i k q k1 (by rw [e, k2])
        · exact u k i q hi (by rw [e, k2])
      have := pigeon g (n - 1) (fun j => if j = k then v (n - 1) else v j) (fun j hj => by
        split
        · rename_i e
          have := h (n - 1) (by omega)
          have := hu (n - 1) (by omega) (by omega)
          omega
        · rename_i e
          have := h j (by omega)
          have := hu j (by omega) e
          omega) (fun i j hij hj => by
        split
        · rename_i e
          split
          · omega
          · exact fun q => u j (n - 1) (by omega) (by omega) q.symm
        · split
          · exact u i (n - 1) (by omega) (by omega)
          · exact u i j hij (by omega))
      omega
    · have := pigeon g n v (fun k hk' => by
        have := h k hk'
        have : v k ≠ g + 1 := fun e => hk ⟨k, hk', e⟩
        omega) u
      omega
theorem grV_many {v : Nat → Nat} {n : Nat} (h : ∀ k, k < n → 1 ≤ v k) (u : ∀ i j, i < j → j < n → v i ≠ v j) : n ≤ grV v n :=
  pigeon _ n v (fun k hk => ⟨h k hk, grV_ge n k hk⟩) u
theorem grN_V {f : Nat → Int32} {v : Nat → Nat} : ∀ n, (∀ k, k < n → f k = nI (v k)) → (∀ k, k < n → v k ≤ 16) → grN f n = nI (grV v n)
  | 0, _, _ => rfl
  | n + 1, h, b => by
    rw [grN, grV, grN_V n (fun k hk => h k (by omega)) (fun k hk => b k (by omega)), h n (by omega)]
    have e1 := grV_le (v := v) (M := 16) n (fun k hk => b k (by omega))
    have e2 := b n (by omega)
    by_cases q : grV v n < v n
    · rw [if_pos q, if_pos (nI_lt q (by omega))]
    · rw [if_neg q, if_neg (nI_nl (by omega) (by omega))]
theorem leN_V {f : Nat → Int32} {v : Nat → Nat} : ∀ n, (∀ k, k < n → f k = nI (v k)) → (∀ k, k < n → v k ≤ 16) → leN f n = nI (leV v n)
  | 0, _, _ => rfl
  | n + 1, h, b => by
    rw [leN, leV, leN_V n (fun k hk => h k (by omega)) (fun k hk => b k (by omega)), h n (by omega)]
    have e1 := leV_le (v := v) (M := 16) n (fun k hk => b k (by omega))
    have e2 := b n (by omega)
    split
    · rfl
    · by_cases q : v n < leV v n
      · rw [if_pos q, if_pos (nI_lt q (by omega))]
      · rw [if_neg q, if_neg (nI_nl (by omega) (by omega))]
theorem toN_V {f : Nat → Int32} {v : Nat → Nat} : ∀ n, (∀ k, k < n → f k = nI (v k)) → toN f n = nI (toV v n)
  | 0, _ => rfl
  | n + 1, h => by rw [toN, toV, toN_V n (fun k hk => h k (by omega)), h n (by omega), nI_add]
theorem riN_V {f : Nat → Int32} {v : Nat → Nat} : ∀ n, (∀ k, k < n → f k = nI (v k)) → (∀ k, k < n → v k ≤ 16) → riN f n = nI (riV v n)
  | 0, _, _ => rfl
  | n + 1, h, b => by
    rw [riN, riV, riN_V n (fun k hk => h k (by omega)) (fun k hk => b k (by omega)), grN_V n (fun k hk => h k (by omega)) (fun k hk => b k (by omega)), h n (by omega)]
    have e1 := grV_le (v := v) (M := 16) n (fun k hk => b k (by omega))
    have e2 := b n (by omega)
    by_cases q : grV v n < v n
    · rw [if_pos q, if_pos (nI_lt q (by omega)), nI_1]
    · rw [if_neg q, if_neg (nI_nl (by omega) (by omega))]
/-- bits -/
theorem nI_or (a b : Nat) : nI a ||| nI b = nI (a ||| b) := by
  apply Int32.toBitVec_inj.mp
  rw [Int32.toBitVec_or]
  exact BitVec.ofNat_or.symm
theorem nI_and (a b : Nat) : nI a &&& nI b = nI (a &&& b) := by
  apply Int32.toBitVec_inj.mp
  rw [Int32.toBitVec_and]
  exact BitVec.ofNat_and.symm
theorem nI_shl1 : ∀ k, k < 31 → (1 : Int32) <<< (nI k &&& 31) = nI (2 ^ k) := by decide +kernel
theorem sm31 : ∀ k, k < 31 → ((nI k &&& 31).toBitVec.smod 32).toNat = k := by decide +kernel
theorem nI_bit {a k : Nat} (ha : a < 2 ^ 31) (hk : k < 31) : nI a >>> (nI k &&& 31) &&& 1 = nI (a / 2 ^ k % 2) := by
  rw [pk_shrN ha _ k (sm31 k hk)]
  exact pk_andN (Nat.lt_of_le_of_lt (Nat.div_le_self _ _) (by omega)) 1 (by decide)
theorem tb_div (a k : Nat) : a / 2 ^ k % 2 = if a.testBit k = true then 1 else 0 := by
  rw [← Nat.toNat_testBit]
  cases a.testBit k <;> rfl
theorem nI_tb {a k : Nat} (ha : a < 2 ^ 31) (hk : k < 31) : (nI a >>> (nI k &&& 31) &&& 1 = 1) = (a.testBit k = true) := by
  rw [nI_bit ha hk, tb_div]
  cases a.testBit k <;> simp <;> decide
theorem nI_tb0 {a k : Nat} (ha : a < 2 ^ 31) (hk : k < 31) : (nI a >>> (nI k &&& 31) &&& 1 = 0) = (a.testBit k = false) := by
  rw [nI_bit ha hk, tb_div]
  cases a.testBit k <;> simp <;> decide
theorem bitsN_V {f : Nat → Int32} {v : Nat → Nat} : ∀ n, (∀ k, k < n → f k = nI (v k)) → (∀ k, k < n → v k ≤ 16) → bitsN f n = nI (bitsV v n)
  | 0, _, _ => rfl
  | n + 1, h, b => by
    have := b n (by omega)
    rw [bitsN, bitsV, bitsN_V n (fun k hk => h k (by omega)) (fun k hk => b k (by omega)), h n (by omega), nI_shl1 _ (by omega), nI_or]
theorem bitsV_lt {v : Nat → Nat} : ∀ n, (∀ k, k < n → v k ≤ 16) → bitsV v n < 2 ^ 17
  | 0, _ => by rw [bitsV]; decide
  | n + 1, b => by
    rw [bitsV]
    exact Nat.or_lt_two_pow (bitsV_lt n (fun k hk => b k (by omega))) (Nat.pow_lt_pow_right (by decide) (by have := b n (by omega); omega))
theorem bitsV_tb {v : Nat → Nat} {w : Nat} : ∀ n, (bitsV v n).testBit w = true ↔ ∃ k, k < n ∧ v k = w
  | 0 => by simp [bitsV]
  | n + 1 => by
    rw [bitsV, Nat.testBit_or, Bool.or_eq_true, bitsV_tb n, Nat.testBit_two_pow, decide_eq_true_eq]
    constructor
    · rintro (⟨k, k1, k2⟩ | h)
      · exact ⟨k, by omega, k2⟩
      · exact ⟨n, by omega, h⟩
    · rintro ⟨k, k1, k2⟩
      by_cases e : k = n
      · subst e; exact Or.inr k2
      · exact Or.inl ⟨k, by omega, k2⟩
theorem colS_ok {c : Int32} {s o : Nat} (h : colS c s o) : pm_ok c 2 = true := by rcases h with ⟨rfl, -⟩ | ⟨rfl, -⟩ <;> rfl
/-- a sheet of both -/
def SV (I : st_I) (c : Int32) (s o n : Nat) (v : Nat → Nat) : Prop := n ≤ 6 ∧ I s 1 = nI n ∧ I 39 c.toNatClampNeg = nI n ∧ (∀ k, k < n → I (s + 1) k = nI (v k)) ∧ (∀ k, k < n → shM I o k = nI (v k)) ∧ (∀ k, k < n → 1 ≤ v k ∧ v k ≤ 16) ∧ ∀ i j, i < j → j < n → v i ≠ v j
theorem pickN {n : Nat} {P : Nat → Nat → Prop} (h : ∀ k, k < n → ∃ v, P k v) : ∃ f : Nat → Nat, ∀ k, k < n → P k (f k) :=
  ⟨fun k => if hk : k < n then Classical.choose (h k hk) else 0, fun k hk => by
    show P k (if hk : k < n then Classical.choose (h k hk) else 0)
    rw [dif_pos hk]
    exact Classical.choose_spec (h k hk)⟩
theorem RSh_V {n1 n2 : Int32} {f h : Nat → Int32} (r : RSh n1 n2 f h) : ∃ (n : Nat) (v : Nat → Nat), n ≤ 6 ∧ n1 = nI n ∧ n2 = nI n ∧ (∀ k, k < n → f k = nI (v k)) ∧ (∀ k, k < n → h k = nI (v k)) ∧ (∀ k, k < n → 1 ≤ v k ∧ v k ≤ 16) ∧ ∀ i j, i < j → j < n → v i ≠ v j := by
  obtain ⟨n, h1, h2, h3, h4, h5, h6⟩ := r
  obtain ⟨v, hv⟩ := pickN h5
  refine ⟨n, v, h1, h2, h3, fun k hk => (h4 k hk).trans (hv k hk).2.2, fun k hk => (hv k hk).2.2, fun k hk => ⟨(hv k hk).1, (hv k hk).2.1⟩, fun i j hij hj e => h6 i j hij hj ?_⟩
  rw [(hv i (by omega)).2.2, (hv j hj).2.2, e]
theorem R_SV {I : st_I} (h : R I) {c : Int32} {s o : Nat} (hc : colS c s o) : ∃ n v, SV I c s o n v := by
  rcases hc with ⟨rfl, rfl, rfl⟩ | ⟨rfl, rfl, rfl⟩
  · obtain ⟨n, v, h1, h2, h3, h4, h5, h6⟩ := RSh_V h.1.1
    exact ⟨n, v, h1, h2, h3, h4, by rw [shM_0]; exact h5, h6⟩
  · obtain ⟨n, v, h1, h2, h3, h4, h5, h6⟩ := RSh_V h.1.2.1
    exact ⟨n, v, h1, h2, h3, h4, h5, h6⟩
/-- lookers of both -/
def LV (I : st_I) (n : Nat) (k f b : Nat → Nat) : Prop := n ≤ 6 ∧ I 1 5 = nI n ∧ I 36 7 = nI n ∧ ∀ l, l < n → I 8 l = nI (k l) ∧ I 41 l = nI (k l) ∧ k l ≤ 5 ∧ I 9 l = nI (f l) ∧ I 42 l = nI (f l) ∧ f l ≤ 9 ∧ I 10 l = nI (b l) ∧ I 43 l = nI (b l) ∧ b l ≤ 99
theorem R_LV {I : st_I} (h : R I) : ∃ n k f b, LV I n k f b := by
  obtain ⟨n, h1, h2, h3, h4⟩ := h.1.2.2.2
  obtain ⟨k, hk⟩ := pickN (fun l hl => (h4 l hl).1.2)
  obtain ⟨f, hf⟩ := pickN (fun l hl => (h4 l hl).2.1.2)
  obtain ⟨b, hb⟩ := pickN (fun l hl => (h4 l hl).2.2.2)
  refine ⟨n, k, f, b, h1, h2, h3, fun l hl => ⟨(h4 l hl).1.1.trans (hk l hl).2, (hk l hl).2, (hk l hl).1, (h4 l hl).2.1.1.trans (hf l hl).2, (hf l hl).2, (hf l hl).1, (h4 l hl).2.2.1.trans (hb l hl).2, (hb l hl).2, (hb l hl).1⟩⟩
/-- beliefs of both -/
def BV (I : st_I) (b : Nat → Nat) : Prop := ∀ k, 1 ≤ k → k ≤ 16 → I 7 k = nI (b k) ∧ I 40 k = nI (b k) ∧ b k ≤ 9
theorem R_BV {I : st_I} (h : R I) : ∃ b, BV I b := by
  have hb := h.1.2.2.1
  obtain ⟨b, e⟩ := pickN (n := 17) (P := fun k v => 1 ≤ k → I 7 k = nI v ∧ I 40 k = nI v ∧ v ≤ 9) (fun k hk => by
    by_cases q : 1 ≤ k
    · obtain ⟨e1, v, e2, e3⟩ := hb k q (by omega)
      exact ⟨v, fun _ => ⟨e1.trans e3, e3, e2⟩⟩
    · exact ⟨0, fun q' => absurd q' q⟩)
  exact ⟨b, fun k h1 h2 => e k (by omega) h1⟩
theorem R_T {I : st_I} {m g l t : Int32} (h : R I) : R (st_T I m g l t) :=
  R_of h (fun a ha => by rcases ha with rfl | rfl | rfl | rfl | rfl | rfl | rfl | rfl | rfl | rfl | rfl | rfl | rfl | rfl | rfl | rfl | rfl | rfl | rfl | rfl | rfl | rfl | rfl | rfl | rfl | rfl | rfl | rfl | rfl | rfl | rfl | rfl <;> rfl) ⟨rfl, rfl, rfl, rfl⟩ (fun k _ => rfl)
theorem R_M {I : st_I} {m g l t : Int32} (h : R I) : R (st_M I m g l t) :=
  R_of h (fun a ha => by rcases ha with rfl | rfl | rfl | rfl | rfl | rfl | rfl | rfl | rfl | rfl | rfl | rfl | rfl | rfl | rfl | rfl | rfl | rfl | rfl | rfl | rfl | rfl | rfl | rfl | rfl | rfl | rfl | rfl | rfl | rfl | rfl | rfl <;> rfl) ⟨rfl, rfl, rfl, rfl⟩ (fun k _ => rfl)
/-- the tally of a sheet of both -/
def tV (n : Nat) (v : Nat → Nat) (I : st_I) : st_I := st_T I (nI n) (nI (grV v n)) (nI (leV v n)) (nI (toV v n))
def mV (n : Nat) (v : Nat → Nat) (I : st_I) : st_I := st_M I (nI n) (nI (grV v n)) (nI (leV v n)) (nI (toV v n))
theorem c_37V {X : pm_X} {d : Nat} {I : st_I} {J : st_J} {c : Int32} {s o n : Nat} {v : Nat → Nat} {F} (hc : colS c s o) (h : SV I c s o n v) : pv_call X (d + 3) 37 [.ref 0, .int c] (st_E I J) F = F none (st_E (tV n v I) J) := by
  obtain ⟨h1, h2, h3, h4, h5, h6, h7⟩ := h
  rw [c_37 hc h1 h2, grN_V n h4 (fun k hk => (h6 k hk).2), leN_V n h4 (fun k hk => (h6 k hk).2), toN_V n h4]
  rfl
theorem shM_ne {I : st_I} {o n : Nat} {v : Nat → Nat} (h5 : ∀ k, k < n → shM I o k = nI (v k)) (h6 : ∀ k, k < n → 1 ≤ v k ∧ v k ≤ 16) : ∀ k, k < n → ¬ shM I o k = 0 := fun k hk e => by
  have := h6 k hk
  rw [h5 k hk] at e
  exact absurd e (nI_ne0 (by omega) (by omega))
theorem c_159V {X : pm_X} {d : Nat} {I : st_I} {J : st_J} {c : Int32} {s o n : Nat} {v : Nat → Nat} {F} (hc : colS c s o) (h : SV I c s o n v) : pv_call X (d + 2) 159 [.ref 36, .int c, .int (nI n)] (st_E I J) F = F none (st_E (mV n v I) J) := by
  obtain ⟨h1, h2, h3, h4, h5, h6, h7⟩ := h
  rw [c_159 hc h1 (shM_ne h5 h6), grN_V n h5 (fun k hk => (h6 k hk).2), leN_V n h5 (fun k hk => (h6 k hk).2), toN_V n h5]
  rfl
theorem SV_T {I : st_I} {m g l t : Int32} {c : Int32} {s o n : Nat} {v : Nat → Nat} (hc : colS c s o) (h : SV I c s o n v) : SV (st_T I m g l t) c s o n v := by
  rcases hc with ⟨rfl, rfl, rfl⟩ | ⟨rfl, rfl, rfl⟩ <;> exact h
theorem SV_M {I : st_I} {m g l t : Int32} {c : Int32} {s o n : Nat} {v : Nat → Nat} (hc : colS c s o) (h : SV I c s o n v) : SV (st_M I m g l t) c s o n v := by
  rcases hc with ⟨rfl, rfl, rfl⟩ | ⟨rfl, rfl, rfl⟩ <;> exact h
theorem LV_T {I : st_I} {m g l t : Int32} {n : Nat} {k f b : Nat → Nat} (h : LV I n k f b) : LV (st_T I m g l t) n k f b := h
theorem LV_M {I : st_I} {m g l t : Int32} {n : Nat} {k f b : Nat → Nat} (h : LV I n k f b) : LV (st_M I m g l t) n k f b := h
theorem BV_T {I : st_I} {m g l t : Int32} {b : Nat → Nat} (h : BV I b) : BV (st_T I m g l t) b := h
theorem BV_M {I : st_I} {m g l t : Int32} {b : Nat → Nat} (h : BV I b) : BV (st_M I m g l t) b := h
theorem tVA (n : Nat) (v : Nat → Nat) (I : st_I) (b : Nat) : tV n v I b = if b = 33 then tyR (I 33) (nI n) (nI (grV v n)) (nI (leV v n)) (nI (toV v n)) else I b := rfl
theorem mVA (n : Nat) (v : Nat → Nat) (I : st_I) (b : Nat) : mV n v I b = if b = 36 then mtR (I 36) (nI n) (nI (grV v n)) (nI (leV v n)) (nI (toV v n)) else I b := rfl

