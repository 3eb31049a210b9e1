/-! THE PURE MACHINE: a computable interpreter of the instructions that the claim's methods use. A heap is a list of cells (a reference is a place in it); a frame is (pc, locals, stack, heap); X is the script (its length, its ints), whose reference is '.retAddr 0'. -/
abbrev pm_X : Type := Nat × (Nat → Int32)
abbrev pm_F4 : Type := Nat × List (Option Value) × List Value × List va_E
abbrev pm_O : Type := Option (pm_F4 ⊕ ((Option Value × List va_E) ⊕ (Nat × List Value × pm_F4)))
def pm_nx (pc : Nat) (L : List (Option Value)) (st : List Value) (h : List va_E) : pm_O := some (.inl (pc, L, st, h))
def pm_i1 (st : List Value) (k : Int32 → List Value → pm_O) : pm_O := match st with
  | .int x :: st => k x st
  | _ => none
def pm_i2 (st : List Value) (k : Int32 → Int32 → List Value → pm_O) : pm_O := match st with
  | .int y :: .int x :: st => k x y st
  | _ => none
def pm_l1 (st : List Value) (k : Int64 → List Value → pm_O) : pm_O := match st with
  | .long x :: st => k x st
  | _ => none
def pm_l2 (st : List Value) (k : Int64 → Int64 → List Value → pm_O) : pm_O := match st with
  | .long y :: .long x :: st => k x y st
  | _ => none
def pm_gi (L : List (Option Value)) (i : Nat) (k : Int32 → pm_O) : pm_O := match L[i]? with
  | some (some (.int x)) => k x
  | _ => none
def pm_gl (L : List (Option Value)) (i : Nat) (k : Int64 → pm_O) : pm_O := match L[i]? with
  | some (some (.long x)) => k x
  | _ => none
def pm_ga (L : List (Option Value)) (i : Nat) (k : Value → pm_O) : pm_O := match L[i]? with
  | some (some (.ref x)) => k (.ref x)
  | some (some (.retAddr x)) => k (.retAddr x)
  | _ => none
/-- no long begins just below this place -/
def pm_lo (L : List (Option Value)) (i : Nat) : Bool := match i with
  | 0 => true
  | j + 1 => match L[j]? with
    | some (some v) => v.category == 1
    | _ => true
def pm_s1 (L : List (Option Value)) (i : Nat) (v : Value) (k : List (Option Value) → pm_O) : pm_O := if i < L.length ∧ pm_lo L i = true then k (L.set i (some v)) else none
def pm_s2 (L : List (Option Value)) (i : Nat) (v : Value) (k : List (Option Value) → pm_O) : pm_O := if i + 1 < L.length ∧ pm_lo L i = true then k ((L.set i (some v)).set (i + 1) none) else none
/-- where a jump goes -/
def pm_to (pc : Nat) (off : Int) (k : Nat → pm_O) : pm_O := if 0 ≤ (pc : Int) + off then k ((pc : Int) + off).toNat else none
def pm_cd (c : Jvm.ClassFile.Cond) (x y : Int32) : Bool := match c with
  | .eq => decide (x = y)
  | .ne => decide (¬ x = y)
  | .lt => decide (x < y)
  | .ge => decide (y ≤ x)
  | .gt => decide (y < x)
  | .le => decide (x ≤ y)
def pm_ok (i : Int32) (n : Nat) : Bool := decide (¬ (i < 0 ∨ n ≤ i.toNatClampNeg))
def pm_ob (h : List va_E) (a : Nat) (k : Nat → List Value → pm_O) : pm_O := match h[a]? with
  | some (.inr (c, fs)) => k c fs
  | _ => none
def pm_ai (h : List va_E) (a : Nat) (k : Nat → (Nat → Int32) → pm_O) : pm_O := match h[a]? with
  | some (.inl (0, n, .inl f)) => k n f
  | _ => none
def pm_al (h : List va_E) (a : Nat) (k : Nat → (Nat → Int64) → pm_O) : pm_O := match h[a]? with
  | some (.inl (1, n, .inr (.inl f))) => k n f
  | _ => none
def pm_aq (h : List va_E) (a : Nat) (k : Nat → (Nat → Option Nat) → pm_O) : pm_O := match h[a]? with
  | some (.inl (2, n, .inr (.inr (.inr (.inr f))))) => k n f
  | _ => none
def pm_cut (n : Nat) (st : List Value) (k : List Value → List Value → pm_O) : pm_O := if n ≤ st.length then k (st.take n).reverse (st.drop n) else none
def pm_w8 (st : List Value) : Bool := decide ((st.map fun v => v.category).sum ≤ 8)
def pm_inv (k : Nat) (as : List Value) (f : pm_F4) : pm_O := if pm_w8 f.2.2.1 = true then some (.inr (.inr (k, as, f))) else none
def pm_rt (v : Option Value) (h : List va_E) : pm_O := some (.inr (.inl (v, h)))
/-- java.lang.Math's own -/
def pm_mth (k pc : Nat) (L : List (Option Value)) (st : List Value) (h : List va_E) : pm_O :=
  if k = pm_MX then pm_i2 st fun x y st => if pm_w8 st = true then pm_nx (pc + 3) L (.int (if x < y then y else x) :: st) h else none
  else if k = pm_MN then pm_i2 st fun x y st => if pm_w8 st = true then pm_nx (pc + 3) L (.int (if y < x then y else x) :: st) h else none
  else if k = pm_AB then pm_l1 st fun x st => if pm_w8 st = true then pm_nx (pc + 3) L (.long (if 0 < x then x else -x) :: st) h else none
  else if k = pm_XL then pm_l2 st fun x y st => if pm_w8 st = true then pm_nx (pc + 3) L (.long (if y < x then x else y) :: st) h else none
  else if k = pm_NL then pm_l2 st fun x y st => if pm_w8 st = true then pm_nx (pc + 3) L (.long (if y < x then y else x) :: st) h else none
  else none
def pm_r1 (st : List Value) (k : Nat → List Value → pm_O) : pm_O := match st with
  | .ref a :: st => k a st
  | _ => none
def pm_v1 (st : List Value) (k : Value → List Value → pm_O) : pm_O := match st with
  | v :: st => k v st
  | _ => none
def pm_sm {α : Type} (o : Option α) (k : α → pm_O) : pm_O := match o with
  | some x => k x
  | none => none
def pm_if (b : Bool) (k : pm_O) : pm_O := if b = true then k else none
/-- a reference of a pure heap, or the script -/
def pm_rs (st : List Value) (k : Nat → List Value → pm_O) (k' : List Value → pm_O) : pm_O := match st with
  | .ref a :: st => k a st
  | .retAddr _ :: st => k' st
  | _ => none
/-- the length that an instruction has -/
def pm_ln (i : Instr) (n : Nat) : Bool := match i with
  | .bipush _ | .iload _ | .lload _ | .aload _ | .istore _ | .lstore _ | .newarray _ => n == 2
  | .sipush _ | .ldc_w _ | .ldc2_w _ | .iinc _ _ | .ifCond _ _ | .if_icmp _ _ | .goto _ | .getfield _ | .putfield _ | .anewarray _ | .new _ | .invokevirtual _ | .invokestatic _ | .invokespecial _ => n == 3
  | .tableswitch _ _ _ _ | .lookupswitch _ _ => true
  | _ => n == 1
/-- one instruction -/
def pm_ins (X : pm_X) (mi : Nat) (i : Instr) (pc : Nat) (L : List (Option Value)) (st : List Value) (h : List va_E) : pm_O := match i with
  | .iconst n => pm_nx (pc + 1) L (.int (Int32.ofInt n) :: st) h
  | .lconst n => pm_nx (pc + 1) L (.long (Int64.ofNat (n : Nat)) :: st) h
  | .bipush n => pm_nx (pc + 2) L (.int (Int8.ofInt n).toInt32 :: st) h
  | .sipush n => pm_nx (pc + 3) L (.int (Int16.ofInt n).toInt32 :: st) h
  | .ldc_w j => pm_sm (pm_ki (pm_own mi) j) fun v => pm_nx (pc + 3) L (.int v :: st) h
  | .ldc2_w j => pm_sm (pm_kl (pm_own mi) j) fun v => pm_nx (pc + 3) L (.long v :: st) h
  | .iload_n k => pm_gi L k fun x => pm_nx (pc + 1) L (.int x :: st) h
  | .iload k => pm_gi L k fun x => pm_nx (pc + 2) L (.int x :: st) h
  | .lload_n k => pm_gl L k fun x => pm_nx (pc + 1) L (.long x :: st) h
  | .lload k => pm_gl L k fun x => pm_nx (pc + 2) L (.long x :: st) h
  | .aload_n k => pm_ga L k fun x => pm_nx (pc + 1) L (x :: st) h
  | .aload k => pm_ga L k fun x => pm_nx (pc + 2) L (x :: st) h
  | .istore_n k => pm_i1 st fun x st => pm_s1 L k (.int x) fun L => pm_nx (pc + 1) L st h
  | .istore k => pm_i1 st fun x st => pm_s1 L k (.int x) fun L => pm_nx (pc + 2) L st h
  | .lstore_n k => pm_l1 st fun x st => pm_s2 L k (.long x) fun L => pm_nx (pc + 1) L st h
  | .lstore k => pm_l1 st fun x st => pm_s2 L k (.long x) fun L => pm_nx (pc + 2) L st h
  | .astore_n k => pm_r1 st fun x st => pm_s1 L k (.ref x) fun L => pm_nx (pc + 1) L st h
  | .iinc k n => pm_gi L k fun x => pm_s1 L k (.int (x + Int32.ofInt n)) fun L => pm_nx (pc + 3) L st h
  | .iadd => pm_i2 st fun x y st => pm_nx (pc + 1) L (.int (x + y) :: st) h
  | .isub => pm_i2 st fun x y st => pm_nx (pc + 1) L (.int (x - y) :: st) h
  | .imul => pm_i2 st fun x y st => pm_nx (pc + 1) L (.int (x * y) :: st) h
  | .idiv => pm_i2 st fun x y st => pm_if (!decide (y = 0)) (pm_nx (pc + 1) L (.int (x / y) :: st) h)
  | .irem => pm_i2 st fun x y st => pm_if (!decide (y = 0)) (pm_nx (pc + 1) L (.int (x - x / y * y) :: st) h)
  | .ineg => pm_i1 st fun x st => pm_nx (pc + 1) L (.int (-x) :: st) h
  | .iand => pm_i2 st fun x y st => pm_nx (pc + 1) L (.int (x &&& y) :: st) h
  | .ior => pm_i2 st fun x y st => pm_nx (pc + 1) L (.int (x ||| y) :: st) h
  | .ixor => pm_i2 st fun x y st => pm_nx (pc + 1) L (.int (x ^^^ y) :: st) h
  | .ishl => pm_i2 st fun x y st => pm_nx (pc + 1) L (.int (x <<< (y &&& 31)) :: st) h
  | .ishr => pm_i2 st fun x y st => pm_nx (pc + 1) L (.int (x >>> (y &&& 31)) :: st) h
  | .iushr => pm_i2 st fun x y st => pm_nx (pc + 1) L (.int (x.toUInt32 >>> (y.toUInt32 &&& Int32.toUInt32 31)).toInt32 :: st) h
  | .i2l => pm_i1 st fun x st => pm_nx (pc + 1) L (.long x.toInt64 :: st) h
  | .ladd => pm_l2 st fun x y st => pm_nx (pc + 1) L (.long (x + y) :: st) h
  | .lsub => pm_l2 st fun x y st => pm_nx (pc + 1) L (.long (x - y) :: st) h
  | .lmul => pm_l2 st fun x y st => pm_nx (pc + 1) L (.long (x * y) :: st) h
  | .ldiv => pm_l2 st fun x y st => pm_if (!decide (y = 0)) (pm_nx (pc + 1) L (.long (x / y) :: st) h)
  | .lrem => pm_l2 st fun x y st => pm_if (!decide (y = 0)) (pm_nx (pc + 1) L (.long (x - x / y * y) :: st) h)
  | .lneg => pm_l1 st fun x st => pm_nx (pc + 1) L (.long (-x) :: st) h
  | .lcmp => pm_l2 st fun x y st => pm_nx (pc + 1) L (.int (lg_cmp x y) :: st) h
  | .ifCond c off => pm_i1 st fun x st => pm_to pc off fun t => if pm_cd c x 0 = true then pm_nx t L st h else pm_nx (pc + 3) L st h
  | .if_icmp c off => pm_i2 st fun x y st => pm_to pc off fun t => if pm_cd c x y = true then pm_nx t L st h else pm_nx (pc + 3) L st h
  | .goto off => pm_to pc off fun t => pm_nx t L st h
  | .dup => pm_v1 st fun v st => pm_if (v.category == 1) (pm_nx (pc + 1) L (v :: v :: st) h)
  | .dup2 => pm_v1 st fun v st => pm_v1 st fun u st => pm_if (v.category == 1 && u.category == 1) (pm_nx (pc + 1) L (v :: u :: v :: u :: st) h)
  | .pop => pm_v1 st fun v st => pm_if (v.category == 1) (pm_nx (pc + 1) L st h)
  | .tableswitch dflt lo hi offs => pm_i1 st fun x st => if x.toInt < lo ∨ hi < x.toInt then pm_to pc dflt fun t => pm_nx t L st h else pm_sm offs[(x.toInt - lo).toNat]? fun off => pm_to pc off fun t => pm_nx t L st h
  | .lookupswitch dflt ps => pm_i1 st fun x st => pm_if ((ps.toList.zip (ps.toList.drop 1)).all (fun (a, next) => a.1 < next.1)) (pm_to pc (Op.lookupswitch.offset ps.toList dflt x.toInt) fun t => pm_nx t L st h)
  | .getfield j => pm_r1 st fun a st => pm_sm (pm_fld (pm_own mi) j) fun q => pm_ob h a fun c fs => pm_if (c == q.1) (pm_sm fs[q.2.1]? fun v => pm_nx (pc + 3) L (v :: st) h)
  | .putfield j => pm_v1 st fun v st => pm_r1 st fun a st => pm_sm (pm_fld (pm_own mi) j) fun q => pm_ob h a fun c fs => pm_if (c == q.1 && (decide (q.2.1 < fs.length) && (decide (narrow q.2.2.2.1 v = v) && (fits q.2.2.2.1 v && (!q.2.2.2.2 || (!q.2.2.1 && decide ((pm_y mi).name = "<init>"))))))) (pm_nx (pc + 3) L st (h.set a (.inr (c, fs.set q.2.1 v))))
  | .iaload => pm_i1 st fun j st => pm_rs st (fun a st => pm_ai h a fun n f => pm_if (pm_ok j n) (pm_nx (pc + 1) L (.int (f j.toNatClampNeg) :: st) h)) (fun st => pm_if (pm_ok j X.1) (pm_nx (pc + 1) L (.int (X.2 j.toNatClampNeg) :: st) h))
  | .iastore => pm_i2 st fun j x st => pm_r1 st fun a st => pm_ai h a fun n f => pm_if (pm_ok j n) (pm_nx (pc + 1) L st (h.set a (.inl (0, n, .inl (upd f j.toNatClampNeg x)))))
  | .laload => pm_i1 st fun j st => pm_r1 st fun a st => pm_al h a fun n f => pm_if (pm_ok j n) (pm_nx (pc + 1) L (.long (f j.toNatClampNeg) :: st) h)
  | .lastore => pm_l1 st fun x st => pm_i1 st fun j st => pm_r1 st fun a st => pm_al h a fun n f => pm_if (pm_ok j n) (pm_nx (pc + 1) L st (h.set a (.inl (1, n, .inr (.inl (vp_updL f j.toNatClampNeg x))))))
  | .aaload => pm_i1 st fun j st => pm_r1 st fun a st => pm_aq h a fun n f => pm_if (pm_ok j n) (pm_nx (pc + 1) L (va_rf (f j.toNatClampNeg) :: st) h)
  | .aastore => pm_r1 st fun v st => pm_i1 st fun j st => pm_r1 st fun a st => pm_aq h a fun n f => pm_ob h v fun c _ => pm_if (pm_ok j n && c == 1) (pm_nx (pc + 1) L st (h.set a (.inl (2, n, .inr (.inr (.inr (.inr (va_up f j.toNatClampNeg (some v)))))))))
  | .arraylength => pm_rs st (fun a st => pm_ai h a fun n _ => pm_nx (pc + 1) L (.int (Int32.ofNat n) :: st) h) (fun st => pm_nx (pc + 1) L (.int (Int32.ofNat X.1) :: st) h)
  | .newarray t => pm_i1 st fun n st => pm_if (!decide (n < 0) && decide (n.toNatClampNeg ≤ 1000)) (match t with
    | .int => pm_nx (pc + 2) L (.ref h.length :: st) (h ++ [.inl (0, n.toNatClampNeg, .inl (fun _ => 0))])
    | .long => pm_nx (pc + 2) L (.ref h.length :: st) (h ++ [.inl (1, n.toNatClampNeg, .inr (.inl (fun _ => 0)))])
    | _ => none)
  | .anewarray j => pm_i1 st fun n st => pm_if (!decide (n < 0) && (decide (n.toNatClampNeg ≤ 1000) && decide (pm_new (pm_own mi) j = some 1))) (pm_nx (pc + 3) L (.ref h.length :: st) (h ++ [.inl (2, n.toNatClampNeg, .inr (.inr (.inr (.inr (fun _ => none)))))]))
  | .new j => pm_sm (pm_new (pm_own mi) j) fun ci => pm_nx (pc + 3) L (.ref h.length :: st) (h ++ [.inr (ci, pm_df ci)])
  | .invokevirtual j => pm_sm (pm_cal (pm_own mi) j) fun q => pm_if (q.2.2.1 == 1) (pm_cut q.2.1 st fun as st => pm_r1 st fun a st => pm_ob h a fun c _ => pm_if (c + 2 == pm_own q.1) (pm_inv q.1 (.ref a :: as) (pc + 3, L, st, h)))
  | .invokestatic j => if pm_arc (pm_own mi) j = true then pm_i2 st fun dp n st => pm_r1 st fun a st => pm_i1 st fun sp st => pm_r1 st fun a0 st => pm_ai h a0 fun n0 f => pm_ai h a fun n1 g =>
      pm_if (!decide (sp < 0) && (!decide (dp < 0) && (!decide (n < 0) && (decide (sp.toNatClampNeg + n.toNatClampNeg ≤ n0) && (decide (dp.toNatClampNeg + n.toNatClampNeg ≤ n1) && pm_w8 st))))) (pm_nx (pc + 3) L st (h.set a (.inl (0, n1, .inl (va_cpy f g sp.toNatClampNeg dp.toNatClampNeg n.toNatClampNeg)))))
    else pm_sm (pm_cal (pm_own mi) j) fun q => pm_if (q.2.2.1 == 0) (if pm_isM q.1 = true then pm_if (!q.2.2.2) (pm_mth q.1 pc L st h) else pm_cut q.2.1 st fun as st => pm_inv q.1 as (pc + 3, L, st, h))
  | .invokespecial j => if pm_obj (pm_own mi) j = true then pm_r1 st fun _ st => pm_if (pm_w8 st) (pm_nx (pc + 3) L st h)
    else pm_sm (pm_cal (pm_own mi) j) fun q => pm_if (q.2.2.1 == 2) (pm_cut q.2.1 st fun as st => pm_r1 st fun a st => pm_inv q.1 (.ref a :: as) (pc + 3, L, st, h))
  | .ireturn => pm_i1 st fun v st => pm_sm (pm_r mi) fun ty => pm_if (st.isEmpty && decide (narrow ty (.int v) = .int v)) (pm_rt (some (.int v)) h)
  | .lreturn => pm_l1 st fun v st => pm_if (st.isEmpty && decide (pm_r mi = some .long)) (pm_rt (some (.long v)) h)
  | .return_ => pm_if (st.isEmpty && decide (pm_r mi = none)) (pm_rt none h)
  | _ => none
def pm_step (X : pm_X) (mi : Nat) (f : pm_F4) : pm_O := match decode (pm_b mi) f.1 with
  | .ok (i, n) => pm_if (pm_ln i n) (pm_ins X mi i f.1 f.2.1 f.2.2.1 f.2.2.2)
  | _ => none
/-- the locals with which a method begins -/
def pm_args (as : List Value) : List (Option Value) := as.flatMap fun v => if v.category = 2 then [some v, none] else [some v]
def pm_entry (k : Nat) (as : List Value) (h : List va_E) : pm_F4 := (0, pm_args as ++ List.replicate (pm_l k - (pm_args as).length) none, [], h)
def pm_kind (x : Int32) : Int32 := if x = 112 then 0 else if x = 109 then 1 else if x = 116 then 2 else if x = 101 then 3 else if x = 102 then 4 else if x = 104 then 5 else -1
def pm_cok (k : Nat) (as : List Value) : Bool := decide ((pm_args as).length ≤ pm_l k) && (!pm_isM k && decide (k < pm_LAW))
def pm_run (X : pm_X) : Nat → Nat → Nat → pm_F4 → Option (Option Value × List va_E)
  | 0, _, _, _ => none
  | n + 1, d, mi, f => if d = 0 then none else match pm_step X mi f with
    | none => none
    | some (.inl g) => pm_run X n d mi g
    | some (.inr (.inl r)) => some r
    | some (.inr (.inr (k, as, g))) =>
      if k = pm_KO then (match as with
        | [.int x] => if 7 ≤ d ∧ ¬ x < 0 ∧ x < 65536 then pm_run X n d mi (g.1, g.2.1, .int (pm_kind x) :: g.2.2.1, g.2.2.2) else none
        | _ => none)
      else if pm_cok k as = true then (match pm_run X n (d - 1) k (pm_entry k as g.2.2.2) with
        | none => none
        | some (v, h) => pm_run X n d mi (g.1, g.2.1, v.toList ++ g.2.2.1, h))
      else none
