/-! reads and writes at the places of worlds and sheets, by number -/
theorem fg_1_0 {I : st_I} {J : st_J} {F : Value → pv_R} : pv_fg (st_E I J) 1 3 0 F = F (.ref 2) := st_fg (by decide) rfl rfl
theorem fg_1_1 {I : st_I} {J : st_J} {F : Value → pv_R} : pv_fg (st_E I J) 1 3 1 F = F (.ref 7) := st_fg (by decide) rfl rfl
theorem fg_1_2 {I : st_I} {J : st_J} {F : Value → pv_R} : pv_fg (st_E I J) 1 3 2 F = F (.ref 8) := st_fg (by decide) rfl rfl
theorem fg_1_3 {I : st_I} {J : st_J} {F : Value → pv_R} : pv_fg (st_E I J) 1 3 3 F = F (.ref 9) := st_fg (by decide) rfl rfl
theorem fg_1_4 {I : st_I} {J : st_J} {F : Value → pv_R} : pv_fg (st_E I J) 1 3 4 F = F (.ref 10) := st_fg (by decide) rfl rfl
theorem fg_1_5 {I : st_I} {J : st_J} {F : Value → pv_R} : pv_fg (st_E I J) 1 3 5 F = F (.int (I 1 5)) := st_fg (by decide) rfl rfl
theorem fp_1_5 {I : st_I} {J : st_J} {v : Int32} {F : List va_E → pv_R} : pv_fp (st_E I J) 1 3 5 (.int v) F = F (st_E (st_u I 1 5 v) J) := st_fp (by decide) rfl (Nat.le_of_ble_eq_true rfl) rfl
theorem oc_1 {I : st_I} {J : st_J} {F : Nat → pv_R} : pv_oc (st_E I J) 1 F = F 3 := st_oc (by decide) rfl
theorem aq_2 {I : st_I} {J : st_J} {F : Nat → (Nat → Option Nat) → pv_R} : pv_aq (st_E I J) 2 F = F 2 (fun j => if j = 1 then some 5 else if j = 0 then some 3 else none) := st_aq (by decide) rfl
theorem fg_3_0 {I : st_I} {J : st_J} {F : Value → pv_R} : pv_fg (st_E I J) 3 1 0 F = F (.ref 4) := st_fg (by decide) rfl rfl
theorem fg_3_1 {I : st_I} {J : st_J} {F : Value → pv_R} : pv_fg (st_E I J) 3 1 1 F = F (.int (I 3 1)) := st_fg (by decide) rfl rfl
theorem fp_3_1 {I : st_I} {J : st_J} {v : Int32} {F : List va_E → pv_R} : pv_fp (st_E I J) 3 1 1 (.int v) F = F (st_E (st_u I 3 1 v) J) := st_fp (by decide) rfl (Nat.le_of_ble_eq_true rfl) rfl
theorem oc_3 {I : st_I} {J : st_J} {F : Nat → pv_R} : pv_oc (st_E I J) 3 F = F 1 := st_oc (by decide) rfl
theorem ai_4 {I : st_I} {J : st_J} {F : Nat → (Nat → Int32) → pv_R} : pv_ai (st_E I J) 4 F = F 6 (I 4) := st_ai (by decide) rfl
theorem wi_4 {I : st_I} {J : st_J} {j v : Int32} {F : List va_E → pv_R} : pv_wi (st_E I J) 4 j v F = pv_if (pm_ok j 6) (F (st_E (st_u I 4 j.toNatClampNeg v) J)) := st_wi (by decide) (fun _ => rfl)
theorem fg_5_0 {I : st_I} {J : st_J} {F : Value → pv_R} : pv_fg (st_E I J) 5 1 0 F = F (.ref 6) := st_fg (by decide) rfl rfl
theorem fg_5_1 {I : st_I} {J : st_J} {F : Value → pv_R} : pv_fg (st_E I J) 5 1 1 F = F (.int (I 5 1)) := st_fg (by decide) rfl rfl
theorem fp_5_1 {I : st_I} {J : st_J} {v : Int32} {F : List va_E → pv_R} : pv_fp (st_E I J) 5 1 1 (.int v) F = F (st_E (st_u I 5 1 v) J) := st_fp (by decide) rfl (Nat.le_of_ble_eq_true rfl) rfl
theorem oc_5 {I : st_I} {J : st_J} {F : Nat → pv_R} : pv_oc (st_E I J) 5 F = F 1 := st_oc (by decide) rfl
theorem ai_6 {I : st_I} {J : st_J} {F : Nat → (Nat → Int32) → pv_R} : pv_ai (st_E I J) 6 F = F 6 (I 6) := st_ai (by decide) rfl
theorem wi_6 {I : st_I} {J : st_J} {j v : Int32} {F : List va_E → pv_R} : pv_wi (st_E I J) 6 j v F = pv_if (pm_ok j 6) (F (st_E (st_u I 6 j.toNatClampNeg v) J)) := st_wi (by decide) (fun _ => rfl)
theorem ai_7 {I : st_I} {J : st_J} {F : Nat → (Nat → Int32) → pv_R} : pv_ai (st_E I J) 7 F = F 17 (I 7) := st_ai (by decide) rfl
theorem wi_7 {I : st_I} {J : st_J} {j v : Int32} {F : List va_E → pv_R} : pv_wi (st_E I J) 7 j v F = pv_if (pm_ok j 17) (F (st_E (st_u I 7 j.toNatClampNeg v) J)) := st_wi (by decide) (fun _ => rfl)
theorem ai_8 {I : st_I} {J : st_J} {F : Nat → (Nat → Int32) → pv_R} : pv_ai (st_E I J) 8 F = F 6 (I 8) := st_ai (by decide) rfl
theorem wi_8 {I : st_I} {J : st_J} {j v : Int32} {F : List va_E → pv_R} : pv_wi (st_E I J) 8 j v F = pv_if (pm_ok j 6) (F (st_E (st_u I 8 j.toNatClampNeg v) J)) := st_wi (by decide) (fun _ => rfl)
theorem ai_9 {I : st_I} {J : st_J} {F : Nat → (Nat → Int32) → pv_R} : pv_ai (st_E I J) 9 F = F 6 (I 9) := st_ai (by decide) rfl
theorem wi_9 {I : st_I} {J : st_J} {j v : Int32} {F : List va_E → pv_R} : pv_wi (st_E I J) 9 j v F = pv_if (pm_ok j 6) (F (st_E (st_u I 9 j.toNatClampNeg v) J)) := st_wi (by decide) (fun _ => rfl)
theorem ai_10 {I : st_I} {J : st_J} {F : Nat → (Nat → Int32) → pv_R} : pv_ai (st_E I J) 10 F = F 6 (I 10) := st_ai (by decide) rfl
theorem wi_10 {I : st_I} {J : st_J} {j v : Int32} {F : List va_E → pv_R} : pv_wi (st_E I J) 10 j v F = pv_if (pm_ok j 6) (F (st_E (st_u I 10 j.toNatClampNeg v) J)) := st_wi (by decide) (fun _ => rfl)
theorem fg_11_0 {I : st_I} {J : st_J} {F : Value → pv_R} : pv_fg (st_E I J) 11 3 0 F = F (.ref 12) := st_fg (by decide) rfl rfl
theorem fg_11_1 {I : st_I} {J : st_J} {F : Value → pv_R} : pv_fg (st_E I J) 11 3 1 F = F (.ref 17) := st_fg (by decide) rfl rfl
theorem fg_11_2 {I : st_I} {J : st_J} {F : Value → pv_R} : pv_fg (st_E I J) 11 3 2 F = F (.ref 18) := st_fg (by decide) rfl rfl
theorem fg_11_3 {I : st_I} {J : st_J} {F : Value → pv_R} : pv_fg (st_E I J) 11 3 3 F = F (.ref 19) := st_fg (by decide) rfl rfl
theorem fg_11_4 {I : st_I} {J : st_J} {F : Value → pv_R} : pv_fg (st_E I J) 11 3 4 F = F (.ref 20) := st_fg (by decide) rfl rfl
theorem fg_11_5 {I : st_I} {J : st_J} {F : Value → pv_R} : pv_fg (st_E I J) 11 3 5 F = F (.int (I 11 5)) := st_fg (by decide) rfl rfl
theorem fp_11_5 {I : st_I} {J : st_J} {v : Int32} {F : List va_E → pv_R} : pv_fp (st_E I J) 11 3 5 (.int v) F = F (st_E (st_u I 11 5 v) J) := st_fp (by decide) rfl (Nat.le_of_ble_eq_true rfl) rfl
theorem oc_11 {I : st_I} {J : st_J} {F : Nat → pv_R} : pv_oc (st_E I J) 11 F = F 3 := st_oc (by decide) rfl
theorem aq_12 {I : st_I} {J : st_J} {F : Nat → (Nat → Option Nat) → pv_R} : pv_aq (st_E I J) 12 F = F 2 (fun j => if j = 1 then some 15 else if j = 0 then some 13 else none) := st_aq (by decide) rfl
theorem fg_13_0 {I : st_I} {J : st_J} {F : Value → pv_R} : pv_fg (st_E I J) 13 1 0 F = F (.ref 14) := st_fg (by decide) rfl rfl
theorem fg_13_1 {I : st_I} {J : st_J} {F : Value → pv_R} : pv_fg (st_E I J) 13 1 1 F = F (.int (I 13 1)) := st_fg (by decide) rfl rfl
theorem fp_13_1 {I : st_I} {J : st_J} {v : Int32} {F : List va_E → pv_R} : pv_fp (st_E I J) 13 1 1 (.int v) F = F (st_E (st_u I 13 1 v) J) := st_fp (by decide) rfl (Nat.le_of_ble_eq_true rfl) rfl
theorem oc_13 {I : st_I} {J : st_J} {F : Nat → pv_R} : pv_oc (st_E I J) 13 F = F 1 := st_oc (by decide) rfl
theorem ai_14 {I : st_I} {J : st_J} {F : Nat → (Nat → Int32) → pv_R} : pv_ai (st_E I J) 14 F = F 6 (I 14) := st_ai (by decide) rfl
theorem wi_14 {I : st_I} {J : st_J} {j v : Int32} {F : List va_E → pv_R} : pv_wi (st_E I J) 14 j v F = pv_if (pm_ok j 6) (F (st_E (st_u I 14 j.toNatClampNeg v) J)) := st_wi (by decide) (fun _ => rfl)
theorem fg_15_0 {I : st_I} {J : st_J} {F : Value → pv_R} : pv_fg (st_E I J) 15 1 0 F = F (.ref 16) := st_fg (by decide) rfl rfl
theorem fg_15_1 {I : st_I} {J : st_J} {F : Value → pv_R} : pv_fg (st_E I J) 15 1 1 F = F (.int (I 15 1)) := st_fg (by decide) rfl rfl
theorem fp_15_1 {I : st_I} {J : st_J} {v : Int32} {F : List va_E → pv_R} : pv_fp (st_E I J) 15 1 1 (.int v) F = F (st_E (st_u I 15 1 v) J) := st_fp (by decide) rfl (Nat.le_of_ble_eq_true rfl) rfl
theorem oc_15 {I : st_I} {J : st_J} {F : Nat → pv_R} : pv_oc (st_E I J) 15 F = F 1 := st_oc (by decide) rfl
theorem ai_16 {I : st_I} {J : st_J} {F : Nat → (Nat → Int32) → pv_R} : pv_ai (st_E I J) 16 F = F 6 (I 16) := st_ai (by decide) rfl
theorem wi_16 {I : st_I} {J : st_J} {j v : Int32} {F : List va_E → pv_R} : pv_wi (st_E I J) 16 j v F = pv_if (pm_ok j 6) (F (st_E (st_u I 16 j.toNatClampNeg v) J)) := st_wi (by decide) (fun _ => rfl)
theorem ai_17 {I : st_I} {J : st_J} {F : Nat → (Nat → Int32) → pv_R} : pv_ai (st_E I J) 17 F = F 17 (I 17) := st_ai (by decide) rfl
theorem wi_17 {I : st_I} {J : st_J} {j v : Int32} {F : List va_E → pv_R} : pv_wi (st_E I J) 17 j v F = pv_if (pm_ok j 17) (F (st_E (st_u I 17 j.toNatClampNeg v) J)) := st_wi (by decide) (fun _ => rfl)
theorem ai_18 {I : st_I} {J : st_J} {F : Nat → (Nat → Int32) → pv_R} : pv_ai (st_E I J) 18 F = F 6 (I 18) := st_ai (by decide) rfl
theorem wi_18 {I : st_I} {J : st_J} {j v : Int32} {F : List va_E → pv_R} : pv_wi (st_E I J) 18 j v F = pv_if (pm_ok j 6) (F (st_E (st_u I 18 j.toNatClampNeg v) J)) := st_wi (by decide) (fun _ => rfl)
theorem ai_19 {I : st_I} {J : st_J} {F : Nat → (Nat → Int32) → pv_R} : pv_ai (st_E I J) 19 F = F 6 (I 19) := st_ai (by decide) rfl
theorem wi_19 {I : st_I} {J : st_J} {j v : Int32} {F : List va_E → pv_R} : pv_wi (st_E I J) 19 j v F = pv_if (pm_ok j 6) (F (st_E (st_u I 19 j.toNatClampNeg v) J)) := st_wi (by decide) (fun _ => rfl)
theorem ai_20 {I : st_I} {J : st_J} {F : Nat → (Nat → Int32) → pv_R} : pv_ai (st_E I J) 20 F = F 6 (I 20) := st_ai (by decide) rfl
theorem wi_20 {I : st_I} {J : st_J} {j v : Int32} {F : List va_E → pv_R} : pv_wi (st_E I J) 20 j v F = pv_if (pm_ok j 6) (F (st_E (st_u I 20 j.toNatClampNeg v) J)) := st_wi (by decide) (fun _ => rfl)
theorem fg_21_0 {I : st_I} {J : st_J} {F : Value → pv_R} : pv_fg (st_E I J) 21 3 0 F = F (.ref 22) := st_fg (by decide) rfl rfl
theorem fg_21_1 {I : st_I} {J : st_J} {F : Value → pv_R} : pv_fg (st_E I J) 21 3 1 F = F (.ref 27) := st_fg (by decide) rfl rfl
theorem fg_21_2 {I : st_I} {J : st_J} {F : Value → pv_R} : pv_fg (st_E I J) 21 3 2 F = F (.ref 28) := st_fg (by decide) rfl rfl
theorem fg_21_3 {I : st_I} {J : st_J} {F : Value → pv_R} : pv_fg (st_E I J) 21 3 3 F = F (.ref 29) := st_fg (by decide) rfl rfl
theorem fg_21_4 {I : st_I} {J : st_J} {F : Value → pv_R} : pv_fg (st_E I J) 21 3 4 F = F (.ref 30) := st_fg (by decide) rfl rfl
theorem fg_21_5 {I : st_I} {J : st_J} {F : Value → pv_R} : pv_fg (st_E I J) 21 3 5 F = F (.int (I 21 5)) := st_fg (by decide) rfl rfl
theorem fp_21_5 {I : st_I} {J : st_J} {v : Int32} {F : List va_E → pv_R} : pv_fp (st_E I J) 21 3 5 (.int v) F = F (st_E (st_u I 21 5 v) J) := st_fp (by decide) rfl (Nat.le_of_ble_eq_true rfl) rfl
theorem oc_21 {I : st_I} {J : st_J} {F : Nat → pv_R} : pv_oc (st_E I J) 21 F = F 3 := st_oc (by decide) rfl
theorem aq_22 {I : st_I} {J : st_J} {F : Nat → (Nat → Option Nat) → pv_R} : pv_aq (st_E I J) 22 F = F 2 (fun j => if j = 1 then some 25 else if j = 0 then some 23 else none) := st_aq (by decide) rfl
theorem fg_23_0 {I : st_I} {J : st_J} {F : Value → pv_R} : pv_fg (st_E I J) 23 1 0 F = F (.ref 24) := st_fg (by decide) rfl rfl
theorem fg_23_1 {I : st_I} {J : st_J} {F : Value → pv_R} : pv_fg (st_E I J) 23 1 1 F = F (.int (I 23 1)) := st_fg (by decide) rfl rfl
theorem fp_23_1 {I : st_I} {J : st_J} {v : Int32} {F : List va_E → pv_R} : pv_fp (st_E I J) 23 1 1 (.int v) F = F (st_E (st_u I 23 1 v) J) := st_fp (by decide) rfl (Nat.le_of_ble_eq_true rfl) rfl
theorem oc_23 {I : st_I} {J : st_J} {F : Nat → pv_R} : pv_oc (st_E I J) 23 F = F 1 := st_oc (by decide) rfl
theorem ai_24 {I : st_I} {J : st_J} {F : Nat → (Nat → Int32) → pv_R} : pv_ai (st_E I J) 24 F = F 6 (I 24) := st_ai (by decide) rfl
theorem wi_24 {I : st_I} {J : st_J} {j v : Int32} {F : List va_E → pv_R} : pv_wi (st_E I J) 24 j v F = pv_if (pm_ok j 6) (F (st_E (st_u I 24 j.toNatClampNeg v) J)) := st_wi (by decide) (fun _ => rfl)
theorem fg_25_0 {I : st_I} {J : st_J} {F : Value → pv_R} : pv_fg (st_E I J) 25 1 0 F = F (.ref 26) := st_fg (by decide) rfl rfl
theorem fg_25_1 {I : st_I} {J : st_J} {F : Value → pv_R} : pv_fg (st_E I J) 25 1 1 F = F (.int (I 25 1)) := st_fg (by decide) rfl rfl
theorem fp_25_1 {I : st_I} {J : st_J} {v : Int32} {F : List va_E → pv_R} : pv_fp (st_E I J) 25 1 1 (.int v) F = F (st_E (st_u I 25 1 v) J) := st_fp (by decide) rfl (Nat.le_of_ble_eq_true rfl) rfl
theorem oc_25 {I : st_I} {J : st_J} {F : Nat → pv_R} : pv_oc (st_E I J) 25 F = F 1 := st_oc (by decide) rfl
theorem ai_26 {I : st_I} {J : st_J} {F : Nat → (Nat → Int32) → pv_R} : pv_ai (st_E I J) 26 F = F 6 (I 26) := st_ai (by decide) rfl
theorem wi_26 {I : st_I} {J : st_J} {j v : Int32} {F : List va_E → pv_R} : pv_wi (st_E I J) 26 j v F = pv_if (pm_ok j 6) (F (st_E (st_u I 26 j.toNatClampNeg v) J)) := st_wi (by decide) (fun _ => rfl)
theorem ai_27 {I : st_I} {J : st_J} {F : Nat → (Nat → Int32) → pv_R} : pv_ai (st_E I J) 27 F = F 17 (I 27) := st_ai (by decide) rfl
theorem wi_27 {I : st_I} {J : st_J} {j v : Int32} {F : List va_E → pv_R} : pv_wi (st_E I J) 27 j v F = pv_if (pm_ok j 17) (F (st_E (st_u I 27 j.toNatClampNeg v) J)) := st_wi (by decide) (fun _ => rfl)
theorem ai_28 {I : st_I} {J : st_J} {F : Nat → (Nat → Int32) → pv_R} : pv_ai (st_E I J) 28 F = F 6 (I 28) := st_ai (by decide) rfl
theorem wi_28 {I : st_I} {J : st_J} {j v : Int32} {F : List va_E → pv_R} : pv_wi (st_E I J) 28 j v F = pv_if (pm_ok j 6) (F (st_E (st_u I 28 j.toNatClampNeg v) J)) := st_wi (by decide) (fun _ => rfl)
theorem ai_29 {I : st_I} {J : st_J} {F : Nat → (Nat → Int32) → pv_R} : pv_ai (st_E I J) 29 F = F 6 (I 29) := st_ai (by decide) rfl
theorem wi_29 {I : st_I} {J : st_J} {j v : Int32} {F : List va_E → pv_R} : pv_wi (st_E I J) 29 j v F = pv_if (pm_ok j 6) (F (st_E (st_u I 29 j.toNatClampNeg v) J)) := st_wi (by decide) (fun _ => rfl)
theorem ai_30 {I : st_I} {J : st_J} {F : Nat → (Nat → Int32) → pv_R} : pv_ai (st_E I J) 30 F = F 6 (I 30) := st_ai (by decide) rfl
theorem wi_30 {I : st_I} {J : st_J} {j v : Int32} {F : List va_E → pv_R} : pv_wi (st_E I J) 30 j v F = pv_if (pm_ok j 6) (F (st_E (st_u I 30 j.toNatClampNeg v) J)) := st_wi (by decide) (fun _ => rfl)
theorem cp_4_14 {I : st_I} {J : st_J} {n : Int32} {F : List va_E → pv_R} (hn : n = 6) : pv_cp (st_E I J) 4 0 14 0 n F = F (st_E (st_r I 14 (va_cpy (I 4) (I 14) 0 0 6)) J) := by subst hn; exact (st_cp (by decide) rfl (by decide) (fun _ => rfl)).trans rfl
theorem cp_6_16 {I : st_I} {J : st_J} {n : Int32} {F : List va_E → pv_R} (hn : n = 6) : pv_cp (st_E I J) 6 0 16 0 n F = F (st_E (st_r I 16 (va_cpy (I 6) (I 16) 0 0 6)) J) := by subst hn; exact (st_cp (by decide) rfl (by decide) (fun _ => rfl)).trans rfl
theorem cp_7_17 {I : st_I} {J : st_J} {n : Int32} {F : List va_E → pv_R} (hn : n = 17) : pv_cp (st_E I J) 7 0 17 0 n F = F (st_E (st_r I 17 (va_cpy (I 7) (I 17) 0 0 17)) J) := by subst hn; exact (st_cp (by decide) rfl (by decide) (fun _ => rfl)).trans rfl
theorem cp_8_18 {I : st_I} {J : st_J} {n : Int32} {F : List va_E → pv_R} (hn : n = 6) : pv_cp (st_E I J) 8 0 18 0 n F = F (st_E (st_r I 18 (va_cpy (I 8) (I 18) 0 0 6)) J) := by subst hn; exact (st_cp (by decide) rfl (by decide) (fun _ => rfl)).trans rfl
theorem cp_9_19 {I : st_I} {J : st_J} {n : Int32} {F : List va_E → pv_R} (hn : n = 6) : pv_cp (st_E I J) 9 0 19 0 n F = F (st_E (st_r I 19 (va_cpy (I 9) (I 19) 0 0 6)) J) := by subst hn; exact (st_cp (by decide) rfl (by decide) (fun _ => rfl)).trans rfl
theorem cp_10_20 {I : st_I} {J : st_J} {n : Int32} {F : List va_E → pv_R} (hn : n = 6) : pv_cp (st_E I J) 10 0 20 0 n F = F (st_E (st_r I 20 (va_cpy (I 10) (I 20) 0 0 6)) J) := by subst hn; exact (st_cp (by decide) rfl (by decide) (fun _ => rfl)).trans rfl
theorem cp_4_24 {I : st_I} {J : st_J} {n : Int32} {F : List va_E → pv_R} (hn : n = 6) : pv_cp (st_E I J) 4 0 24 0 n F = F (st_E (st_r I 24 (va_cpy (I 4) (I 24) 0 0 6)) J) := by subst hn; exact (st_cp (by decide) rfl (by decide) (fun _ => rfl)).trans rfl
theorem cp_6_26 {I : st_I} {J : st_J} {n : Int32} {F : List va_E → pv_R} (hn : n = 6) : pv_cp (st_E I J) 6 0 26 0 n F = F (st_E (st_r I 26 (va_cpy (I 6) (I 26) 0 0 6)) J) := by subst hn; exact (st_cp (by decide) rfl (by decide) (fun _ => rfl)).trans rfl
theorem cp_7_27 {I : st_I} {J : st_J} {n : Int32} {F : List va_E → pv_R} (hn : n = 17) : pv_cp (st_E I J) 7 0 27 0 n F = F (st_E (st_r I 27 (va_cpy (I 7) (I 27) 0 0 17)) J) := by subst hn; exact (st_cp (by decide) rfl (by decide) (fun _ => rfl)).trans rfl
theorem cp_8_28 {I : st_I} {J : st_J} {n : Int32} {F : List va_E → pv_R} (hn : n = 6) : pv_cp (st_E I J) 8 0 28 0 n F = F (st_E (st_r I 28 (va_cpy (I 8) (I 28) 0 0 6)) J) := by subst hn; exact (st_cp (by decide) rfl (by decide) (fun _ => rfl)).trans rfl
theorem cp_9_29 {I : st_I} {J : st_J} {n : Int32} {F : List va_E → pv_R} (hn : n = 6) : pv_cp (st_E I J) 9 0 29 0 n F = F (st_E (st_r I 29 (va_cpy (I 9) (I 29) 0 0 6)) J) := by subst hn; exact (st_cp (by decide) rfl (by decide) (fun _ => rfl)).trans rfl
theorem cp_10_30 {I : st_I} {J : st_J} {n : Int32} {F : List va_E → pv_R} (hn : n = 6) : pv_cp (st_E I J) 10 0 30 0 n F = F (st_E (st_r I 30 (va_cpy (I 10) (I 30) 0 0 6)) J) := by subst hn; exact (st_cp (by decide) rfl (by decide) (fun _ => rfl)).trans rfl
theorem cp_14_4 {I : st_I} {J : st_J} {n : Int32} {F : List va_E → pv_R} (hn : n = 6) : pv_cp (st_E I J) 14 0 4 0 n F = F (st_E (st_r I 4 (va_cpy (I 14) (I 4) 0 0 6)) J) := by subst hn; exact (st_cp (by decide) rfl (by decide) (fun _ => rfl)).trans rfl
theorem cp_16_6 {I : st_I} {J : st_J} {n : Int32} {F : List va_E → pv_R} (hn : n = 6) : pv_cp (st_E I J) 16 0 6 0 n F = F (st_E (st_r I 6 (va_cpy (I 16) (I 6) 0 0 6)) J) := by subst hn; exact (st_cp (by decide) rfl (by decide) (fun _ => rfl)).trans rfl
theorem cp_17_7 {I : st_I} {J : st_J} {n : Int32} {F : List va_E → pv_R} (hn : n = 17) : pv_cp (st_E I J) 17 0 7 0 n F = F (st_E (st_r I 7 (va_cpy (I 17) (I 7) 0 0 17)) J) := by subst hn; exact (st_cp (by decide) rfl (by decide) (fun _ => rfl)).trans rfl
theorem cp_18_8 {I : st_I} {J : st_J} {n : Int32} {F : List va_E → pv_R} (hn : n = 6) : pv_cp (st_E I J) 18 0 8 0 n F = F (st_E (st_r I 8 (va_cpy (I 18) (I 8) 0 0 6)) J) := by subst hn; exact (st_cp (by decide) rfl (by decide) (fun _ => rfl)).trans rfl
theorem cp_19_9 {I : st_I} {J : st_J} {n : Int32} {F : List va_E → pv_R} (hn : n = 6) : pv_cp (st_E I J) 19 0 9 0 n F = F (st_E (st_r I 9 (va_cpy (I 19) (I 9) 0 0 6)) J) := by subst hn; exact (st_cp (by decide) rfl (by decide) (fun _ => rfl)).trans rfl
theorem cp_20_10 {I : st_I} {J : st_J} {n : Int32} {F : List va_E → pv_R} (hn : n = 6) : pv_cp (st_E I J) 20 0 10 0 n F = F (st_E (st_r I 10 (va_cpy (I 20) (I 10) 0 0 6)) J) := by subst hn; exact (st_cp (by decide) rfl (by decide) (fun _ => rfl)).trans rfl
theorem cp_14_24 {I : st_I} {J : st_J} {n : Int32} {F : List va_E → pv_R} (hn : n = 6) : pv_cp (st_E I J) 14 0 24 0 n F = F (st_E (st_r I 24 (va_cpy (I 14) (I 24) 0 0 6)) J) := by subst hn; exact (st_cp (by decide) rfl (by decide) (fun _ => rfl)).trans rfl
theorem cp_16_26 {I : st_I} {J : st_J} {n : Int32} {F : List va_E → pv_R} (hn : n = 6) : pv_cp (st_E I J) 16 0 26 0 n F = F (st_E (st_r I 26 (va_cpy (I 16) (I 26) 0 0 6)) J) := by subst hn; exact (st_cp (by decide) rfl (by decide) (fun _ => rfl)).trans rfl
theorem cp_17_27 {I : st_I} {J : st_J} {n : Int32} {F : List va_E → pv_R} (hn : n = 17) : pv_cp (st_E I J) 17 0 27 0 n F = F (st_E (st_r I 27 (va_cpy (I 17) (I 27) 0 0 17)) J) := by subst hn; exact (st_cp (by decide) rfl (by decide) (fun _ => rfl)).trans rfl
theorem cp_18_28 {I : st_I} {J : st_J} {n : Int32} {F : List va_E → pv_R} (hn : n = 6) : pv_cp (st_E I J) 18 0 28 0 n F = F (st_E (st_r I 28 (va_cpy (I 18) (I 28) 0 0 6)) J) := by subst hn; exact (st_cp (by decide) rfl (by decide) (fun _ => rfl)).trans rfl
theorem cp_19_29 {I : st_I} {J : st_J} {n : Int32} {F : List va_E → pv_R} (hn : n = 6) : pv_cp (st_E I J) 19 0 29 0 n F = F (st_E (st_r I 29 (va_cpy (I 19) (I 29) 0 0 6)) J) := by subst hn; exact (st_cp (by decide) rfl (by decide) (fun _ => rfl)).trans rfl
theorem cp_20_30 {I : st_I} {J : st_J} {n : Int32} {F : List va_E → pv_R} (hn : n = 6) : pv_cp (st_E I J) 20 0 30 0 n F = F (st_E (st_r I 30 (va_cpy (I 20) (I 30) 0 0 6)) J) := by subst hn; exact (st_cp (by decide) rfl (by decide) (fun _ => rfl)).trans rfl
theorem cp_24_4 {I : st_I} {J : st_J} {n : Int32} {F : List va_E → pv_R} (hn : n = 6) : pv_cp (st_E I J) 24 0 4 0 n F = F (st_E (st_r I 4 (va_cpy (I 24) (I 4) 0 0 6)) J) := by subst hn; exact (st_cp (by decide) rfl (by decide) (fun _ => rfl)).trans rfl
theorem cp_26_6 {I : st_I} {J : st_J} {n : Int32} {F : List va_E → pv_R} (hn : n = 6) : pv_cp (st_E I J) 26 0 6 0 n F = F (st_E (st_r I 6 (va_cpy (I 26) (I 6) 0 0 6)) J) := by subst hn; exact (st_cp (by decide) rfl (by decide) (fun _ => rfl)).trans rfl
theorem cp_27_7 {I : st_I} {J : st_J} {n : Int32} {F : List va_E → pv_R} (hn : n = 17) : pv_cp (st_E I J) 27 0 7 0 n F = F (st_E (st_r I 7 (va_cpy (I 27) (I 7) 0 0 17)) J) := by subst hn; exact (st_cp (by decide) rfl (by decide) (fun _ => rfl)).trans rfl
theorem cp_28_8 {I : st_I} {J : st_J} {n : Int32} {F : List va_E → pv_R} (hn : n = 6) : pv_cp (st_E I J) 28 0 8 0 n F = F (st_E (st_r I 8 (va_cpy (I 28) (I 8) 0 0 6)) J) := by subst hn; exact (st_cp (by decide) rfl (by decide) (fun _ => rfl)).trans rfl
theorem cp_29_9 {I : st_I} {J : st_J} {n : Int32} {F : List va_E → pv_R} (hn : n = 6) : pv_cp (st_E I J) 29 0 9 0 n F = F (st_E (st_r I 9 (va_cpy (I 29) (I 9) 0 0 6)) J) := by subst hn; exact (st_cp (by decide) rfl (by decide) (fun _ => rfl)).trans rfl
theorem cp_30_10 {I : st_I} {J : st_J} {n : Int32} {F : List va_E → pv_R} (hn : n = 6) : pv_cp (st_E I J) 30 0 10 0 n F = F (st_E (st_r I 10 (va_cpy (I 30) (I 10) 0 0 6)) J) := by subst hn; exact (st_cp (by decide) rfl (by decide) (fun _ => rfl)).trans rfl
theorem cp_24_14 {I : st_I} {J : st_J} {n : Int32} {F : List va_E → pv_R} (hn : n = 6) : pv_cp (st_E I J) 24 0 14 0 n F = F (st_E (st_r I 14 (va_cpy (I 24) (I 14) 0 0 6)) J) := by subst hn; exact (st_cp (by decide) rfl (by decide) (fun _ => rfl)).trans rfl
theorem cp_26_16 {I : st_I} {J : st_J} {n : Int32} {F : List va_E → pv_R} (hn : n = 6) : pv_cp (st_E I J) 26 0 16 0 n F = F (st_E (st_r I 16 (va_cpy (I 26) (I 16) 0 0 6)) J) := by subst hn; exact (st_cp (by decide) rfl (by decide) (fun _ => rfl)).trans rfl
theorem cp_27_17 {I : st_I} {J : st_J} {n : Int32} {F : List va_E → pv_R} (hn : n = 17) : pv_cp (st_E I J) 27 0 17 0 n F = F (st_E (st_r I 17 (va_cpy (I 27) (I 17) 0 0 17)) J) := by subst hn; exact (st_cp (by decide) rfl (by decide) (fun _ => rfl)).trans rfl
theorem cp_28_18 {I : st_I} {J : st_J} {n : Int32} {F : List va_E → pv_R} (hn : n = 6) : pv_cp (st_E I J) 28 0 18 0 n F = F (st_E (st_r I 18 (va_cpy (I 28) (I 18) 0 0 6)) J) := by subst hn; exact (st_cp (by decide) rfl (by decide) (fun _ => rfl)).trans rfl
theorem cp_29_19 {I : st_I} {J : st_J} {n : Int32} {F : List va_E → pv_R} (hn : n = 6) : pv_cp (st_E I J) 29 0 19 0 n F = F (st_E (st_r I 19 (va_cpy (I 29) (I 19) 0 0 6)) J) := by subst hn; exact (st_cp (by decide) rfl (by decide) (fun _ => rfl)).trans rfl
theorem cp_30_20 {I : st_I} {J : st_J} {n : Int32} {F : List va_E → pv_R} (hn : n = 6) : pv_cp (st_E I J) 30 0 20 0 n F = F (st_E (st_r I 20 (va_cpy (I 30) (I 20) 0 0 6)) J) := by subst hn; exact (st_cp (by decide) rfl (by decide) (fun _ => rfl)).trans rfl
theorem tn_0 : Int32.toNatClampNeg 0 = 0 := rfl
theorem tn_1 : Int32.toNatClampNeg 1 = 1 := rfl
theorem tn_2 : Int32.toNatClampNeg 2 = 2 := rfl
theorem tn_3 : Int32.toNatClampNeg 3 = 3 := rfl
theorem tn_4 : Int32.toNatClampNeg 4 = 4 := rfl
theorem tn_5 : Int32.toNatClampNeg 5 = 5 := rfl
theorem tn_6 : Int32.toNatClampNeg 6 = 6 := rfl
theorem tn_7 : Int32.toNatClampNeg 7 = 7 := rfl
theorem tn_8 : Int32.toNatClampNeg 8 = 8 := rfl
theorem tn_9 : Int32.toNatClampNeg 9 = 9 := rfl
theorem tn_10 : Int32.toNatClampNeg 10 = 10 := rfl
theorem tn_11 : Int32.toNatClampNeg 11 = 11 := rfl
theorem tn_12 : Int32.toNatClampNeg 12 = 12 := rfl
theorem tn_13 : Int32.toNatClampNeg 13 = 13 := rfl
theorem tn_14 : Int32.toNatClampNeg 14 = 14 := rfl
theorem tn_15 : Int32.toNatClampNeg 15 = 15 := rfl
theorem tn_16 : Int32.toNatClampNeg 16 = 16 := rfl
theorem tn_17 : Int32.toNatClampNeg 17 = 17 := rfl
theorem ok_0_2 : pm_ok 0 2 = true := rfl
theorem ok_1_2 : pm_ok 1 2 = true := rfl
theorem ok_0_6 : pm_ok 0 6 = true := rfl
theorem ok_1_6 : pm_ok 1 6 = true := rfl
theorem ok_2_6 : pm_ok 2 6 = true := rfl
theorem ok_3_6 : pm_ok 3 6 = true := rfl
theorem ok_4_6 : pm_ok 4 6 = true := rfl
theorem ok_5_6 : pm_ok 5 6 = true := rfl
theorem ok_0_7 : pm_ok 0 7 = true := rfl
theorem ok_1_7 : pm_ok 1 7 = true := rfl
theorem ok_2_7 : pm_ok 2 7 = true := rfl
theorem ok_3_7 : pm_ok 3 7 = true := rfl
theorem ok_4_7 : pm_ok 4 7 = true := rfl
theorem ok_5_7 : pm_ok 5 7 = true := rfl
theorem ok_6_7 : pm_ok 6 7 = true := rfl
theorem ok_0_12 : pm_ok 0 12 = true := rfl
theorem ok_1_12 : pm_ok 1 12 = true := rfl
theorem ok_2_12 : pm_ok 2 12 = true := rfl
theorem ok_3_12 : pm_ok 3 12 = true := rfl
theorem ok_4_12 : pm_ok 4 12 = true := rfl
theorem ok_5_12 : pm_ok 5 12 = true := rfl
theorem ok_6_12 : pm_ok 6 12 = true := rfl
theorem ok_7_12 : pm_ok 7 12 = true := rfl
theorem ok_8_12 : pm_ok 8 12 = true := rfl
theorem ok_9_12 : pm_ok 9 12 = true := rfl
theorem ok_10_12 : pm_ok 10 12 = true := rfl
theorem ok_11_12 : pm_ok 11 12 = true := rfl
theorem ok_0_17 : pm_ok 0 17 = true := rfl
theorem ok_1_17 : pm_ok 1 17 = true := rfl
theorem ok_2_17 : pm_ok 2 17 = true := rfl
theorem ok_3_17 : pm_ok 3 17 = true := rfl
theorem ok_4_17 : pm_ok 4 17 = true := rfl
theorem ok_5_17 : pm_ok 5 17 = true := rfl
theorem ok_6_17 : pm_ok 6 17 = true := rfl
theorem ok_7_17 : pm_ok 7 17 = true := rfl
theorem ok_8_17 : pm_ok 8 17 = true := rfl
theorem ok_9_17 : pm_ok 9 17 = true := rfl
theorem ok_10_17 : pm_ok 10 17 = true := rfl
theorem ok_11_17 : pm_ok 11 17 = true := rfl
theorem ok_12_17 : pm_ok 12 17 = true := rfl
theorem ok_13_17 : pm_ok 13 17 = true := rfl
theorem ok_14_17 : pm_ok 14 17 = true := rfl
theorem ok_15_17 : pm_ok 15 17 = true := rfl
theorem ok_16_17 : pm_ok 16 17 = true := rfl
theorem iq_n1_1 : (((-1) : Int32) = 1) = False := by decide
theorem iq_n1_2 : (((-1) : Int32) = 2) = False := by decide
theorem iq_n1_3 : (((-1) : Int32) = 3) = False := by decide
theorem iq_n1_4 : (((-1) : Int32) = 4) = False := by decide
theorem iq_n1_5 : (((-1) : Int32) = 5) = False := by decide
theorem iq_n1_6 : (((-1) : Int32) = 6) = False := by decide
theorem iq_n1_7 : (((-1) : Int32) = 7) = False := by decide
theorem iq_0_n1 : ((0 : Int32) = (-1)) = False := by decide
theorem iq_0_1 : ((0 : Int32) = 1) = False := by decide
theorem iq_0_2 : ((0 : Int32) = 2) = False := by decide
theorem iq_0_3 : ((0 : Int32) = 3) = False := by decide
theorem iq_0_4 : ((0 : Int32) = 4) = False := by decide
theorem iq_0_5 : ((0 : Int32) = 5) = False := by decide
theorem iq_0_6 : ((0 : Int32) = 6) = False := by decide
theorem iq_0_7 : ((0 : Int32) = 7) = False := by decide
theorem iq_1_n1 : ((1 : Int32) = (-1)) = False := by decide
theorem iq_1_0 : ((1 : Int32) = 0) = False := by decide
theorem iq_1_2 : ((1 : Int32) = 2) = False := by decide
theorem iq_1_3 : ((1 : Int32) = 3) = False := by decide
theorem iq_1_4 : ((1 : Int32) = 4) = False := by decide
theorem iq_1_5 : ((1 : Int32) = 5) = False := by decide
theorem iq_1_6 : ((1 : Int32) = 6) = False := by decide
theorem iq_1_7 : ((1 : Int32) = 7) = False := by decide
theorem iq_2_n1 : ((2 : Int32) = (-1)) = False := by decide
theorem iq_2_0 : ((2 : Int32) = 0) = False := by decide
theorem iq_2_1 : ((2 : Int32) = 1) = False := by decide
theorem iq_2_3 : ((2 : Int32) = 3) = False := by decide
theorem iq_2_4 : ((2 : Int32) = 4) = False := by decide
theorem iq_2_5 : ((2 : Int32) = 5) = False := by decide
theorem iq_2_6 : ((2 : Int32) = 6) = False := by decide
theorem iq_2_7 : ((2 : Int32) = 7) = False := by decide
theorem iq_3_n1 : ((3 : Int32) = (-1)) = False := by decide
theorem iq_3_0 : ((3 : Int32) = 0) = False := by decide
theorem iq_3_1 : ((3 : Int32) = 1) = False := by decide
theorem iq_3_2 : ((3 : Int32) = 2) = False := by decide
theorem iq_3_4 : ((3 : Int32) = 4) = False := by decide
theorem iq_3_5 : ((3 : Int32) = 5) = False := by decide
theorem iq_3_6 : ((3 : Int32) = 6) = False := by decide
theorem iq_3_7 : ((3 : Int32) = 7) = False := by decide
theorem iq_4_n1 : ((4 : Int32) = (-1)) = False := by decide
theorem iq_4_0 : ((4 : Int32) = 0) = False := by decide
theorem iq_4_1 : ((4 : Int32) = 1) = False := by decide
theorem iq_4_2 : ((4 : Int32) = 2) = False := by decide
theorem iq_4_3 : ((4 : Int32) = 3) = False := by decide
theorem iq_4_5 : ((4 : Int32) = 5) = False := by decide
theorem iq_4_6 : ((4 : Int32) = 6) = False := by decide
theorem iq_4_7 : ((4 : Int32) = 7) = False := by decide
theorem iq_5_n1 : ((5 : Int32) = (-1)) = False := by decide
theorem iq_5_0 : ((5 : Int32) = 0) = False := by decide
theorem iq_5_1 : ((5 : Int32) = 1) = False := by decide
theorem iq_5_2 : ((5 : Int32) = 2) = False := by decide
theorem iq_5_3 : ((5 : Int32) = 3) = False := by decide
theorem iq_5_4 : ((5 : Int32) = 4) = False := by decide
theorem iq_5_6 : ((5 : Int32) = 6) = False := by decide
theorem iq_5_7 : ((5 : Int32) = 7) = False := by decide
theorem iq_6_n1 : ((6 : Int32) = (-1)) = False := by decide
theorem iq_6_0 : ((6 : Int32) = 0) = False := by decide
theorem iq_6_1 : ((6 : Int32) = 1) = False := by decide
theorem iq_6_2 : ((6 : Int32) = 2) = False := by decide
theorem iq_6_3 : ((6 : Int32) = 3) = False := by decide
theorem iq_6_4 : ((6 : Int32) = 4) = False := by decide
theorem iq_6_5 : ((6 : Int32) = 5) = False := by decide
theorem iq_6_7 : ((6 : Int32) = 7) = False := by decide
theorem iq_7_n1 : ((7 : Int32) = (-1)) = False := by decide
theorem iq_7_0 : ((7 : Int32) = 0) = False := by decide
theorem iq_7_1 : ((7 : Int32) = 1) = False := by decide
theorem iq_7_2 : ((7 : Int32) = 2) = False := by decide
theorem iq_7_3 : ((7 : Int32) = 3) = False := by decide
theorem iq_7_4 : ((7 : Int32) = 4) = False := by decide
theorem iq_7_5 : ((7 : Int32) = 5) = False := by decide
theorem iq_7_6 : ((7 : Int32) = 6) = False := by decide
