/-! equations for the walk -/
theorem q_i1 (x : Int32) (st : List Value) (F) : pv_i1 (.int x :: st) F = F x st := Eq.trans rfl rfl
theorem q_i2 (x y : Int32) (st : List Value) (F) : pv_i2 (.int y :: .int x :: st) F = F x y st := Eq.trans rfl rfl
theorem q_l1 (x : Int64) (st : List Value) (F) : pv_l1 (.long x :: st) F = F x st := Eq.trans rfl rfl
theorem q_l2 (x y : Int64) (st : List Value) (F) : pv_l2 (.long y :: .long x :: st) F = F x y st := Eq.trans rfl rfl
theorem q_r1 (a : Nat) (st : List Value) (F) : pv_r1 (.ref a :: st) F = F a st := Eq.trans rfl rfl
theorem q_v1 (v : Value) (st : List Value) (F) : pv_v1 (v :: st) F = F v st := Eq.trans rfl rfl
theorem q_rs (a : Nat) (st : List Value) (F G) : pv_rs (.ref a :: st) F G = F a st := Eq.trans rfl rfl
theorem q_rs2 (a : Nat) (st : List Value) (F G) : pv_rs (.retAddr a :: st) F G = G st := Eq.trans rfl rfl
theorem q_if (F : pv_R) : pv_if true F = F := Eq.trans rfl rfl
theorem q_gi (x : Int32) (L : List (Option Value)) (F) : pv_gi (some (.int x) :: L) 0 F = F x := Eq.trans rfl rfl
theorem q_gi' (a : Option Value) (L : List (Option Value)) (i : Nat) (F) : pv_gi (a :: L) (i + 1) F = pv_gi L i F := Eq.trans rfl rfl
theorem q_gl (x : Int64) (L : List (Option Value)) (F) : pv_gl (some (.long x) :: L) 0 F = F x := Eq.trans rfl rfl
theorem q_gl' (a : Option Value) (L : List (Option Value)) (i : Nat) (F) : pv_gl (a :: L) (i + 1) F = pv_gl L i F := Eq.trans rfl rfl
theorem q_ga (x : Nat) (L : List (Option Value)) (F) : pv_ga (some (.ref x) :: L) 0 F = F (.ref x) := Eq.trans rfl rfl
theorem q_ga2 (x : Nat) (L : List (Option Value)) (F) : pv_ga (some (.retAddr x) :: L) 0 F = F (.retAddr x) := Eq.trans rfl rfl
theorem q_ga' (a : Option Value) (L : List (Option Value)) (i : Nat) (F) : pv_ga (a :: L) (i + 1) F = pv_ga L i F := Eq.trans rfl rfl
theorem q_s1 (a : Option Value) (L : List (Option Value)) (v : Value) (F) : pv_s1 (a :: L) 0 v F = F (some v :: L) := Eq.trans rfl rfl
theorem q_s1n (L : List (Option Value)) (v : Value) (F) : pv_s1 (none :: L) 1 v F = pv_s1 L 0 v fun L => F (none :: L) := Eq.trans rfl rfl
theorem q_s1i (x : Int32) (L : List (Option Value)) (v : Value) (F) : pv_s1 (some (.int x) :: L) 1 v F = pv_s1 L 0 v fun L => F (some (.int x) :: L) := Eq.trans rfl rfl
theorem q_s1r (x : Nat) (L : List (Option Value)) (v : Value) (F) : pv_s1 (some (.ref x) :: L) 1 v F = pv_s1 L 0 v fun L => F (some (.ref x) :: L) := Eq.trans rfl rfl
theorem q_s1q (x : Nat) (L : List (Option Value)) (v : Value) (F) : pv_s1 (some (.retAddr x) :: L) 1 v F = pv_s1 L 0 v fun L => F (some (.retAddr x) :: L) := Eq.trans rfl rfl
theorem q_s1' (a : Option Value) (L : List (Option Value)) (i : Nat) (v : Value) (F) : pv_s1 (a :: L) (i + 2) v F = pv_s1 L (i + 1) v fun L => F (a :: L) := Eq.trans rfl rfl
theorem q_s2 (a b : Option Value) (L : List (Option Value)) (v : Value) (F) : pv_s2 (a :: b :: L) 0 v F = F (some v :: none :: L) := Eq.trans rfl rfl
theorem q_s2n (L : List (Option Value)) (v : Value) (F) : pv_s2 (none :: L) 1 v F = pv_s2 L 0 v fun L => F (none :: L) := by
  rw [pv_s2]; rfl
theorem q_s2i (x : Int32) (L : List (Option Value)) (v : Value) (F) : pv_s2 (some (.int x) :: L) 1 v F = pv_s2 L 0 v fun L => F (some (.int x) :: L) := by
  rw [pv_s2]; rfl
theorem q_s2r (x : Nat) (L : List (Option Value)) (v : Value) (F) : pv_s2 (some (.ref x) :: L) 1 v F = pv_s2 L 0 v fun L => F (some (.ref x) :: L) := by
  rw [pv_s2]; rfl
theorem q_s2' (a : Option Value) (L : List (Option Value)) (i : Nat) (v : Value) (F) : pv_s2 (a :: L) (i + 2) v F = pv_s2 L (i + 1) v fun L => F (a :: L) := by
  rw [pv_s2]; rfl
theorem q_ar0 (st acc : List Value) (F) : pv_ar 0 st acc F = F acc st := Eq.trans rfl rfl
theorem q_ar (n : Nat) (v : Value) (st acc : List Value) (F) : pv_ar (n + 1) (v :: st) acc F = pv_ar n st (v :: acc) F := Eq.trans rfl rfl
theorem q_w0 : pm_w8 [] = true := Eq.trans rfl rfl
theorem q_wi (x : Int32) : pm_w8 [.int x] = true := Eq.trans rfl rfl
theorem q_wl (x : Int64) : pm_w8 [.long x] = true := Eq.trans rfl rfl
theorem q_wr (x : Nat) : pm_w8 [.ref x] = true := Eq.trans rfl rfl
theorem q_wii (x y : Int32) : pm_w8 [.int x, .int y] = true := Eq.trans rfl rfl
theorem q_wil (x : Int32) (y : Int64) : pm_w8 [.int x, .long y] = true := Eq.trans rfl rfl
theorem q_wli (x : Int64) (y : Int32) : pm_w8 [.long x, .int y] = true := Eq.trans rfl rfl
theorem q_wll (x : Int64) (y : Int64) : pm_w8 [.long x, .long y] = true := Eq.trans rfl rfl
theorem q_wir (x : Int32) (y : Nat) : pm_w8 [.int x, .ref y] = true := Eq.trans rfl rfl
theorem q_wri (x : Nat) (y : Int32) : pm_w8 [.ref x, .int y] = true := Eq.trans rfl rfl
theorem q_wlr (x : Int64) (y : Nat) : pm_w8 [.long x, .ref y] = true := Eq.trans rfl rfl
theorem q_wrl (x : Nat) (y : Int64) : pm_w8 [.ref x, .long y] = true := Eq.trans rfl rfl
theorem q_wrr (x : Nat) (y : Nat) : pm_w8 [.ref x, .ref y] = true := Eq.trans rfl rfl
theorem q_wlll (x y z : Int64) : pm_w8 [.long x, .long y, .long z] = true := Eq.trans rfl rfl
theorem q_wlrr (x : Int64) (y z : Nat) : pm_w8 [.long x, .ref y, .ref z] = true := Eq.trans rfl rfl
theorem q_wirr (x : Int32) (y z : Nat) : pm_w8 [.int x, .ref y, .ref z] = true := Eq.trans rfl rfl
theorem q_wiir (x y : Int32) (z : Nat) : pm_w8 [.int x, .int y, .ref z] = true := Eq.trans rfl rfl
theorem q_wiii (x y z : Int32) : pm_w8 [.int x, .int y, .int z] = true := Eq.trans rfl rfl
theorem q_wlli (x y : Int64) (z : Int32) : pm_w8 [.long x, .long y, .int z] = true := Eq.trans rfl rfl
theorem q_wlil (x : Int64) (y : Int32) (z : Int64) : pm_w8 [.long x, .int y, .long z] = true := Eq.trans rfl rfl
theorem q_ni (v : Int32) : narrow .int (.int v) = .int v := Eq.trans rfl rfl
theorem q_nl (v : Int64) : narrow .long (.long v) = .long v := Eq.trans rfl rfl
theorem q_fi (v : Int32) : fits .int (.int v) = true := Eq.trans rfl rfl
theorem q_fl (v : Int64) : fits .long (.long v) = true := Eq.trans rfl rfl
theorem q_z0 : decide (narrow .boolean (.int 0) = .int 0) = true := Eq.trans rfl rfl
theorem q_z1 : decide (narrow .boolean (.int 1) = .int 1) = true := Eq.trans rfl rfl
theorem q_fz0 : fits .boolean (.int 0) = true := Eq.trans rfl rfl
theorem q_fz1 : fits .boolean (.int 1) = true := Eq.trans rfl rfl
theorem q_ts (v : Value) (st : List Value) : (some v).toList ++ st = v :: st := Eq.trans rfl rfl
theorem q_tn (st : List Value) : (none : Option Value).toList ++ st = st := Eq.trans rfl rfl
theorem q_e : ([] : List Value).isEmpty = true := Eq.trans rfl rfl
theorem q_ci (x : Int32) : ((Value.int x).category == 1) = true := Eq.trans rfl rfl
theorem q_cr (x : Nat) : ((Value.ref x).category == 1) = true := Eq.trans rfl rfl
theorem q_rfs (a : Nat) : va_rf (some a) = .ref a := Eq.trans rfl rfl
theorem pv_call_ev {X : pm_X} {d k : Nat} {as : List Value} {h h1 : List va_E} {v : Option Value} {F : Option Value → List va_E → pv_R} (hk : pm_cok k as = true) (e : pm_ev X d k (pm_entry k as h) = some (v, h1)) : pv_call X d k as h F = F v h1 := by
  unfold pv_call pm_call
  rw [if_pos hk, e]
/-- truth as an int -/
def b2i (b : Bool) : Int32 := if b = true then 1 else 0
theorem b2i_t : b2i true = 1 := rfl
theorem b2i_f : b2i false = 0 := rfl
theorem b2i_e (b : Bool) : (b2i b = 0) = (b = false) := by cases b <;> simp [b2i]
