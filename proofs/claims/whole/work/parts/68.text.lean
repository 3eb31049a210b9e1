/-! the text "pmtefh": the place of a sign in it (String.indexOf), and Letters.kindOf -/
abbrev ty_co : MethodName := ⟨"java/lang/String", "coder", "()B"⟩
abbrev tb_co : ByteArray := prog_14_method_152_code
theorem tc_co : Cond.code ty_co tb_co 1 (some .byte) ∈ pm_T := pm_in 295 rfl rfl
theorem td_co_0 : decode tb_co 0 = .ok (.getstatic 38, 3) := by decide +kernel
theorem td_co_3 : decode tb_co 3 = .ok (.ifCond .eq 10, 3) := by decide +kernel
theorem td_co_6 : decode tb_co 6 = .ok (.aload_n 0, 1) := by decide +kernel
theorem td_co_7 : decode tb_co 7 = .ok (.getfield 15, 3) := by decide +kernel
theorem td_co_10 : decode tb_co 10 = .ok (.goto 4, 3) := by decide +kernel
theorem td_co_13 : decode tb_co 13 = .ok (.iconst 1, 1) := by decide +kernel
theorem td_co_14 : decode tb_co 14 = .ok (.ireturn, 1) := by decide +kernel
abbrev ty_la : MethodName := ⟨"java/lang/String", "isLatin1", "()Z"⟩
abbrev tb_la : ByteArray := prog_14_method_154_code
theorem tc_la : Cond.code ty_la tb_la 1 (some .boolean) ∈ pm_T := pm_in 285 rfl rfl
theorem td_la_0 : decode tb_la 0 = .ok (.getstatic 38, 3) := by decide +kernel
theorem td_la_3 : decode tb_la 3 = .ok (.ifCond .eq 14, 3) := by decide +kernel
theorem td_la_6 : decode tb_la 6 = .ok (.aload_n 0, 1) := by decide +kernel
theorem td_la_7 : decode tb_la 7 = .ok (.getfield 15, 3) := by decide +kernel
theorem td_la_10 : decode tb_la 10 = .ok (.ifCond .ne 7, 3) := by decide +kernel
theorem td_la_13 : decode tb_la 13 = .ok (.iconst 1, 1) := by decide +kernel
theorem td_la_14 : decode tb_la 14 = .ok (.goto 4, 3) := by decide +kernel
theorem td_la_17 : decode tb_la 17 = .ok (.iconst 0, 1) := by decide +kernel
theorem td_la_18 : decode tb_la 18 = .ok (.ireturn, 1) := by decide +kernel
abbrev ty_le : MethodName := ⟨"java/lang/String", "length", "()I"⟩
abbrev tb_le : ByteArray := prog_14_method_54_code
theorem tc_le : Cond.code ty_le tb_le 1 (some .int) ∈ pm_T := pm_in 291 rfl rfl
theorem td_le_0 : decode tb_le 0 = .ok (.aload_n 0, 1) := by decide +kernel
theorem td_le_1 : decode tb_le 1 = .ok (.getfield 9, 3) := by decide +kernel
theorem td_le_4 : decode tb_le 4 = .ok (.arraylength, 1) := by decide +kernel
theorem td_le_5 : decode tb_le 5 = .ok (.aload_n 0, 1) := by decide +kernel
theorem td_le_6 : decode tb_le 6 = .ok (.invokevirtual 335, 3) := by decide +kernel
theorem td_le_9 : decode tb_le 9 = .ok (.ishr, 1) := by decide +kernel
theorem td_le_10 : decode tb_le 10 = .ok (.ireturn, 1) := by decide +kernel
abbrev ty_ca : MethodName := ⟨"java/lang/StringLatin1", "canEncode", "(I)Z"⟩
abbrev tb_ca : ByteArray := prog_15_method_4_code
theorem tc_ca : Cond.code ty_ca tb_ca 1 (some .boolean) ∈ pm_T := pm_in 301 rfl rfl
theorem td_ca_0 : decode tb_ca 0 = .ok (.iload_n 0, 1) := by decide +kernel
theorem td_ca_1 : decode tb_ca 1 = .ok (.ifCond .lt 14, 3) := by decide +kernel
theorem td_ca_4 : decode tb_ca 4 = .ok (.iload_n 0, 1) := by decide +kernel
theorem td_ca_5 : decode tb_ca 5 = .ok (.sipush 255, 3) := by decide +kernel
theorem td_ca_8 : decode tb_ca 8 = .ok (.if_icmp .gt 7, 3) := by decide +kernel
theorem td_ca_11 : decode tb_ca 11 = .ok (.iconst 1, 1) := by decide +kernel
theorem td_ca_12 : decode tb_ca 12 = .ok (.goto 4, 3) := by decide +kernel
theorem td_ca_15 : decode tb_ca 15 = .ok (.iconst 0, 1) := by decide +kernel
theorem td_ca_16 : decode tb_ca 16 = .ok (.ireturn, 1) := by decide +kernel
abbrev ty_ic : MethodName := ⟨"java/lang/StringLatin1", "indexOfChar", "([BIII)I"⟩
abbrev tb_ic : ByteArray := prog_15_method_23_code
theorem tc_ic : Cond.code ty_ic tb_ic 6 (some .int) ∈ pm_T := pm_in 310 rfl rfl
theorem td_ic_0 : decode tb_ic 0 = .ok (.iload_n 1, 1) := by decide +kernel
theorem td_ic_1 : decode tb_ic 1 = .ok (.i2b, 1) := by decide +kernel
theorem td_ic_2 : decode tb_ic 2 = .ok (.istore 4, 2) := by decide +kernel
theorem td_ic_4 : decode tb_ic 4 = .ok (.iload_n 2, 1) := by decide +kernel
theorem td_ic_5 : decode tb_ic 5 = .ok (.istore 5, 2) := by decide +kernel
theorem td_ic_7 : decode tb_ic 7 = .ok (.iload 5, 2) := by decide +kernel
theorem td_ic_9 : decode tb_ic 9 = .ok (.iload_n 3, 1) := by decide +kernel
theorem td_ic_10 : decode tb_ic 10 = .ok (.if_icmp .ge 21, 3) := by decide +kernel
theorem td_ic_13 : decode tb_ic 13 = .ok (.aload_n 0, 1) := by decide +kernel
theorem td_ic_14 : decode tb_ic 14 = .ok (.iload 5, 2) := by decide +kernel
theorem td_ic_16 : decode tb_ic 16 = .ok (.baload, 1) := by decide +kernel
theorem td_ic_17 : decode tb_ic 17 = .ok (.iload 4, 2) := by decide +kernel
theorem td_ic_19 : decode tb_ic 19 = .ok (.if_icmp .ne 6, 3) := by decide +kernel
theorem td_ic_22 : decode tb_ic 22 = .ok (.iload 5, 2) := by decide +kernel
theorem td_ic_24 : decode tb_ic 24 = .ok (.ireturn, 1) := by decide +kernel
theorem td_ic_25 : decode tb_ic 25 = .ok (.iinc 5 1, 3) := by decide +kernel
theorem td_ic_28 : decode tb_ic 28 = .ok (.goto (-21), 3) := by decide +kernel
theorem td_ic_31 : decode tb_ic 31 = .ok (.iconst (-1), 1) := by decide +kernel
theorem td_ic_32 : decode tb_ic 32 = .ok (.ireturn, 1) := by decide +kernel
abbrev ty_ix : MethodName := ⟨"java/lang/StringLatin1", "indexOf", "([BIII)I"⟩
abbrev tb_ix : ByteArray := prog_15_method_22_code
theorem tc_ix : Cond.code ty_ix tb_ix 4 (some .int) ∈ pm_T := pm_in 298 rfl rfl
theorem td_ix_0 : decode tb_ix 0 = .ok (.iload_n 1, 1) := by decide +kernel
theorem td_ix_1 : decode tb_ix 1 = .ok (.invokestatic 88, 3) := by decide +kernel
theorem td_ix_4 : decode tb_ix 4 = .ok (.ifCond .ne 5, 3) := by decide +kernel
theorem td_ix_7 : decode tb_ix 7 = .ok (.iconst (-1), 1) := by decide +kernel
theorem td_ix_8 : decode tb_ix 8 = .ok (.ireturn, 1) := by decide +kernel
theorem td_ix_9 : decode tb_ix 9 = .ok (.iload_n 2, 1) := by decide +kernel
theorem td_ix_10 : decode tb_ix 10 = .ok (.iconst 0, 1) := by decide +kernel
theorem td_ix_11 : decode tb_ix 11 = .ok (.invokestatic 92, 3) := by decide +kernel
theorem td_ix_14 : decode tb_ix 14 = .ok (.istore_n 2, 1) := by decide +kernel
theorem td_ix_15 : decode tb_ix 15 = .ok (.iload_n 3, 1) := by decide +kernel
theorem td_ix_16 : decode tb_ix 16 = .ok (.aload_n 0, 1) := by decide +kernel
theorem td_ix_17 : decode tb_ix 17 = .ok (.arraylength, 1) := by decide +kernel
theorem td_ix_18 : decode tb_ix 18 = .ok (.invokestatic 38, 3) := by decide +kernel
theorem td_ix_21 : decode tb_ix 21 = .ok (.istore_n 3, 1) := by decide +kernel
theorem td_ix_22 : decode tb_ix 22 = .ok (.iload_n 2, 1) := by decide +kernel
theorem td_ix_23 : decode tb_ix 23 = .ok (.iload_n 3, 1) := by decide +kernel
theorem td_ix_24 : decode tb_ix 24 = .ok (.if_icmp .lt 5, 3) := by decide +kernel
theorem td_ix_27 : decode tb_ix 27 = .ok (.iconst (-1), 1) := by decide +kernel
theorem td_ix_28 : decode tb_ix 28 = .ok (.ireturn, 1) := by decide +kernel
theorem td_ix_29 : decode tb_ix 29 = .ok (.aload_n 0, 1) := by decide +kernel
theorem td_ix_30 : decode tb_ix 30 = .ok (.iload_n 1, 1) := by decide +kernel
theorem td_ix_31 : decode tb_ix 31 = .ok (.iload_n 2, 1) := by decide +kernel
theorem td_ix_32 : decode tb_ix 32 = .ok (.iload_n 3, 1) := by decide +kernel
theorem td_ix_33 : decode tb_ix 33 = .ok (.invokestatic 95, 3) := by decide +kernel
theorem td_ix_36 : decode tb_ix 36 = .ok (.ireturn, 1) := by decide +kernel
abbrev ty_i2 : MethodName := ⟨"java/lang/String", "indexOf", "(II)I"⟩
abbrev tb_i2 : ByteArray := prog_14_method_80_code
theorem tc_i2 : Cond.code ty_i2 tb_i2 3 (some .int) ∈ pm_T := pm_in 281 rfl rfl
theorem td_i2_0 : decode tb_i2 0 = .ok (.aload_n 0, 1) := by decide +kernel
theorem td_i2_1 : decode tb_i2 1 = .ok (.invokevirtual 492, 3) := by decide +kernel
theorem td_i2_4 : decode tb_i2 4 = .ok (.ifCond .eq 19, 3) := by decide +kernel
theorem td_i2_7 : decode tb_i2 7 = .ok (.aload_n 0, 1) := by decide +kernel
theorem td_i2_8 : decode tb_i2 8 = .ok (.getfield 9, 3) := by decide +kernel
theorem td_i2_11 : decode tb_i2 11 = .ok (.iload_n 1, 1) := by decide +kernel
theorem td_i2_12 : decode tb_i2 12 = .ok (.iload_n 2, 1) := by decide +kernel
theorem td_i2_13 : decode tb_i2 13 = .ok (.aload_n 0, 1) := by decide +kernel
theorem td_i2_14 : decode tb_i2 14 = .ok (.invokevirtual 505, 3) := by decide +kernel
theorem td_i2_17 : decode tb_i2 17 = .ok (.invokestatic 637, 3) := by decide +kernel
theorem td_i2_20 : decode tb_i2 20 = .ok (.goto 16, 3) := by decide +kernel
theorem td_i2_23 : decode tb_i2 23 = .ok (.aload_n 0, 1) := by decide +kernel
theorem td_i2_24 : decode tb_i2 24 = .ok (.getfield 9, 3) := by decide +kernel
theorem td_i2_27 : decode tb_i2 27 = .ok (.iload_n 1, 1) := by decide +kernel
theorem td_i2_28 : decode tb_i2 28 = .ok (.iload_n 2, 1) := by decide +kernel
theorem td_i2_29 : decode tb_i2 29 = .ok (.aload_n 0, 1) := by decide +kernel
theorem td_i2_30 : decode tb_i2 30 = .ok (.invokevirtual 505, 3) := by decide +kernel
theorem td_i2_33 : decode tb_i2 33 = .ok (.invokestatic 640, 3) := by decide +kernel
theorem td_i2_36 : decode tb_i2 36 = .ok (.ireturn, 1) := by decide +kernel
abbrev ty_i1 : MethodName := ⟨"java/lang/String", "indexOf", "(I)I"⟩
abbrev tb_i1 : ByteArray := prog_14_method_79_code
theorem tc_i1 : Cond.code ty_i1 tb_i1 2 (some .int) ∈ pm_T := pm_in 277 rfl rfl
theorem td_i1_0 : decode tb_i1 0 = .ok (.aload_n 0, 1) := by decide +kernel
theorem td_i1_1 : decode tb_i1 1 = .ok (.iload_n 1, 1) := by decide +kernel
theorem td_i1_2 : decode tb_i1 2 = .ok (.iconst 0, 1) := by decide +kernel
theorem td_i1_3 : decode tb_i1 3 = .ok (.invokevirtual 633, 3) := by decide +kernel
theorem td_i1_6 : decode tb_i1 6 = .ok (.ireturn, 1) := by decide +kernel
abbrev ty_ko : MethodName := ⟨"SixtyOneCabs$Letters", "kindOf", "(I)I"⟩
abbrev tb_ko : ByteArray := prog_4_method_6_code
theorem tc_ko : Cond.code ty_ko tb_ko 1 (some .int) ∈ pm_T := pm_in 272 rfl rfl
theorem td_ko_0 : decode tb_ko 0 = .ok (.ldc 26, 2) := by decide +kernel
theorem td_ko_2 : decode tb_ko 2 = .ok (.iload_n 0, 1) := by decide +kernel
theorem td_ko_3 : decode tb_ko 3 = .ok (.i2c, 1) := by decide +kernel
theorem td_ko_4 : decode tb_ko 4 = .ok (.invokevirtual 28, 3) := by decide +kernel
theorem td_ko_7 : decode tb_ko 7 = .ok (.ireturn, 1) := by decide +kernel
set_option maxRecDepth 40000 in
theorem ts_wC : Cond.fieldLink "java/lang/String" 15 "java/lang/String" "coder" "B" ∈ pm_T := pm_in 1309 rfl rfl
set_option maxRecDepth 40000 in
theorem ts_wV : Cond.fieldLink "java/lang/String" 9 "java/lang/String" "value" "[B" ∈ pm_T := pm_in 1310 rfl rfl
def tsB : List Int32 := [112, 109, 116, 101, 102, 104]
def tsF (cb : Int32) : Nat → Nat → Int32
  | 0, _ => -1
  | m + 1, i => if tsB.getD i 0 = cb then nI i else tsF cb m (i + 1)
theorem ts_kind : ∀ c, c < 256 → tsF (nI c).toInt8.toInt32 6 0 = pm_kind (nI c) := by decide +kernel
theorem ts_far {c : Nat} (h : 256 ≤ c) (h2 : c < 65536) : pm_kind (nI c) = -1 := by
  have n : ∀ k, k < 256 → ¬ nI c = nI k := fun k hk e => absurd (nI_inj (by omega) (by omega) e) (by omega)
  have n1 : ¬ nI c = 112 := n 112 (by decide)
  have n2 : ¬ nI c = 109 := n 109 (by decide)
  have n3 : ¬ nI c = 116 := n 116 (by decide)
  have n4 : ¬ nI c = 101 := n 101 (by decide)
  have n5 : ¬ nI c = 102 := n 102 (by decide)
  have n6 : ¬ nI c = 104 := n 104 (by decide)
  unfold pm_kind
  rw [if_neg n1, if_neg n2, if_neg n3, if_neg n4, if_neg n5, if_neg n6]
def ts_S (bs : Nat) (aK aV : Nat → Nat) (U : State) (H : Heap) : Prop := vk_S 1 [6] [tsB] aK aV (fun q => bs ≤ q) U H ∧ va_Z "java/lang/String" "COMPACT_STRINGS" "Z" (.int 1) (fun q => bs ≤ q) U H
theorem ts_moved {bs : Nat} {aK aV : Nat → Nat} {u U : State} {H : Heap} (hvm : u.vm.Alike U.vm) (h : ts_S bs aK aV u H) : ts_S bs aK aV U H := ⟨vk_S.moved hvm h.1, va_Z.moved hvm h.2⟩
theorem ts_SS {bs : Nat} {H0 H : Heap} {locs : List Loc} (h : va_S (fun _ => False) H0 H locs) : va_S (fun q => bs ≤ q) H0 H locs := ⟨h.1, fun q h1 _ => h.2.1 q h1 (fun z => z), fun l hl => (h.2.2 l hl).elim⟩
theorem ts_F {s t : State} (ht : t.heap = s.heap) : va_F (fun _ => False) s t := ⟨by rw [ht]; exact Nat.le_refl _, fun q _ _ => by rw [ht]⟩
abbrev ts_P (bs : Nat) (aK aV : Nat → Nat) (H0 : Heap) (as : List Value) : Array Value → State → Prop := va_Pc as (fun U => U.heap = H0 ∧ ts_S bs aK aV U U.heap)
abbrev ts_Q (H0 : Heap) (r : Int32) : Array Value → State → Outcome → State → Prop := va_Qi (fun (x : Int32) (_ : Unit) => x = r) (fun _ t => t.heap = H0) (fun _ => False)
theorem ts_blind {bs : Nat} {aK aV : Nat → Nat} {H0 : Heap} {as : List Value} : FrameBlind (ts_P bs aK aV H0 as) := fun a U g mk q => ⟨q.1, q.2.1, ts_moved (u := U) (U := U.calling g mk a) (Vm.Alike.refl U.vm) q.2.2⟩
theorem ts_pre {bs : Nat} {aK aV : Nat → Nat} {s U : State} {as : List Value} (h : ts_S bs aK aV s s.heap) (hU : U.heap = s.heap) (hW : s.WarmedH U.vm) : ts_P bs aK aV s.heap as as.toArray U := ⟨rfl, hU, by rw [hU]; exact ts_moved hW.alike h⟩
theorem ts_in {w w0 : Cond} (h : w ∈ pm_T) : w ∈ w0 :: pm_T := List.mem_cons_of_mem _ h
theorem ts_good {y : MethodName} {b : ByteArray} {n : Nat} {r : Option FieldType} {w0 : Cond} (h : Cond.code y b n r ∈ pm_T) : GoodIn (w0 :: pm_T) (Cond.code y b n r :: pm_T) := by
  intro w hw
  rcases List.mem_cons.mp hw with rfl | hw
  · exact ⟨ts_in h, (pm_T_good _ h).2⟩
  · exact ⟨ts_in hw, (pm_T_good _ hw).2⟩
theorem t_co (l : Launch) (bs : Nat) (aK aV : Nat → Nat) (H0 : Heap) : Met l ty_co (Cond.code ty_co tb_co 1 (some .byte) :: pm_T) { frames := 0, cells := 0, slots := 0, locals := 0 } (ts_P bs aK aV H0 [.ref (aK 0)]) (ts_Q H0 (0)) 0 0 (fun _ => False) := by
  refine Met.ofW (cc := tb_co) (maxL := 1) (ret := (some .byte)) (by decide) rfl ?_
  intro p e s m args below meth c s₁ B hml hv
  obtain ⟨rfl, hH, hT⟩ := hv
  have hx := B.exec
  have hb := B.bytes
  have hr := B.returns
  have hts := atoms_spec (ws := Cond.code ty_co tb_co 1 (some .byte) :: pm_T) B.pre
  have hown : s.vm.findClass "java/lang/String" = some m.cls := findClass_of_methodNamed B.named
  have hlocks := B.notSynchronized
  subst hH
  have hS0 : va_S (fun _ => False) s.heap s.heap [] := va_S.rf
  have hS : va_S (fun q => bs ≤ q) s.heap s.heap [] := ts_SS hS0
  have hl := lv_entry ([.ref (aK 0)]) (n := 1) (Nat.le_of_ble_eq_true rfl)
  rw [lg_entry_eq]
  generalize (lg_sl ([.ref (aK 0)]) ++ List.replicate (1 - (lg_sl ([.ref (aK 0)])).length) Slot.unset).toArray = ls at hl ⊢
  have hl : lv_has ls 1 [(0, .ref (aK 0))] := hl
  refine va_gets hx hb hT.2 hS hown (hts (.fieldLink "java/lang/String" 38 "java/lang/String" "COMPACT_STRINGS" "Z") (ts_in (pm_in 286 rfl rfl))) (fun _ h => h) td_co_0 ?_
  refine lv_if_eq (tgt := 13) hx hb td_co_3 (by decide) (fun h => absurd h (by decide)) (fun _ => ?_)
  refine lv_aload_n hx hb td_co_6 rfl (lv_at hl 0 rfl) ?_
  refine vk_getf hx hb (hT.1.1 0 (by decide)).2.1 hS hown (hts (.fieldLink "java/lang/String" 15 "java/lang/String" "coder" "B") (ts_in ts_wC)) (fun _ h => h) td_co_7 ?_
  refine lv_goto (tgt := 14) hx hb td_co_10 (by decide) ?_
  exact W.zret (v := 0) hx hb hr rfl (fun t ht hW => ⟨⟨_, (), rfl, rfl, ht⟩, ts_F ht⟩) (fun _ h => by cases h) td_co_14
theorem t_la (l : Launch) (bs : Nat) (aK aV : Nat → Nat) (H0 : Heap) : Met l ty_la (Cond.code ty_la tb_la 1 (some .boolean) :: pm_T) { frames := 0, cells := 0, slots := 0, locals := 0 } (ts_P bs aK aV H0 [.ref (aK 0)]) (ts_Q H0 (1)) 0 0 (fun _ => False) := by
  refine Met.ofW (cc := tb_la) (maxL := 1) (ret := (some .boolean)) (by decide) rfl ?_
  intro p e s m args below meth c s₁ B hml hv
  obtain ⟨rfl, hH, hT⟩ := hv
  have hx := B.exec
  have hb := B.bytes
  have hr := B.returns
  have hts := atoms_spec (ws := Cond.code ty_la tb_la 1 (some .boolean) :: pm_T) B.pre
  have hown : s.vm.findClass "java/lang/String" = some m.cls := findClass_of_methodNamed B.named
  have hlocks := B.notSynchronized
  subst hH
  have hS0 : va_S (fun _ => False) s.heap s.heap [] := va_S.rf
  have hS : va_S (fun q => bs ≤ q) s.heap s.heap [] := ts_SS hS0
  have hl := lv_entry ([.ref (aK 0)]) (n := 1) (Nat.le_of_ble_eq_true rfl)
  rw [lg_entry_eq]
  generalize (lg_sl ([.ref (aK 0)]) ++ List.replicate (1 - (lg_sl ([.ref (aK 0)])).length) Slot.unset).toArray = ls at hl ⊢
  have hl : lv_has ls 1 [(0, .ref (aK 0))] := hl
  refine va_gets hx hb hT.2 hS hown (hts (.fieldLink "java/lang/String" 38 "java/lang/String" "COMPACT_STRINGS" "Z") (ts_in (pm_in 286 rfl rfl))) (fun _ h => h) td_la_0 ?_
  refine lv_if_eq (tgt := 17) hx hb td_la_3 (by decide) (fun h => absurd h (by decide)) (fun _ => ?_)
  refine lv_aload_n hx hb td_la_6 rfl (lv_at hl 0 rfl) ?_
  refine vk_getf hx hb (hT.1.1 0 (by decide)).2.1 hS hown (hts (.fieldLink "java/lang/String" 15 "java/lang/String" "coder" "B") (ts_in ts_wC)) (fun _ h => h) td_la_7 ?_
  refine lv_if_ne (tgt := 17) hx hb td_la_10 (by decide) (fun h => absurd rfl h) (fun _ => ?_)
  refine lv_iconst (v := 1) hx hb td_la_13 (by decide) ?_
  refine lv_goto (tgt := 18) hx hb td_la_14 (by decide) ?_
  exact W.zret (v := 1) hx hb hr rfl (fun t ht hW => ⟨⟨_, (), rfl, rfl, ht⟩, ts_F ht⟩) (fun _ h => by cases h) td_la_18
theorem t_le (l : Launch) (bs : Nat) (aK aV : Nat → Nat) (H0 : Heap) : Met l ty_le (Cond.code ty_le tb_le 1 (some .int) :: pm_T) { frames := 1, cells := 0, slots := 0, locals := 20 } (ts_P bs aK aV H0 [.ref (aK 0)]) (ts_Q H0 (6)) 0 0 (fun _ => False) := by
  refine Met.ofW (cc := tb_le) (maxL := 1) (ret := (some .int)) (by decide) rfl ?_
  intro p e s m args below meth c s₁ B hml hv
  obtain ⟨rfl, hH, hT⟩ := hv
  have hx := B.exec
  have hb := B.bytes
  have hr := B.returns
  have hts := atoms_spec (ws := Cond.code ty_le tb_le 1 (some .int) :: pm_T) B.pre
  have hown : s.vm.findClass "java/lang/String" = some m.cls := findClass_of_methodNamed B.named
  have hlocks := B.notSynchronized
  subst hH
  have hS0 : va_S (fun _ => False) s.heap s.heap [] := va_S.rf
  have hS : va_S (fun q => bs ≤ q) s.heap s.heap [] := ts_SS hS0
  have hl := lv_entry ([.ref (aK 0)]) (n := 1) (Nat.le_of_ble_eq_true rfl)
  rw [lg_entry_eq]
  generalize (lg_sl ([.ref (aK 0)]) ++ List.replicate (1 - (lg_sl ([.ref (aK 0)])).length) Slot.unset).toArray = ls at hl ⊢
  have hl : lv_has ls 1 [(0, .ref (aK 0))] := hl
  refine lv_aload_n hx hb td_le_0 rfl (lv_at hl 0 rfl) ?_
  refine vk_getf hx hb (hT.1.1 0 (by decide)).2.2.1 hS hown (hts (.fieldLink "java/lang/String" 9 "java/lang/String" "value" "[B") (ts_in ts_wV)) (fun _ h => h) td_le_1 ?_
  refine va_tlen (v := 6) hx hb (hT.1.1 0 (by decide)).2.2.2 hS rfl td_le_4 ?_
  refine lv_aload_n hx hb td_le_5 rfl (lv_at hl 0 rfl) ?_
  refine va_calli (va_runV (As := []) (rest := [.int 6]) ⟨hx, hb, hml, hown, hts⟩ (t_co l bs aK aV s.heap) (C := "java/lang/String") (n := 0) (index := 335) ⟨callB_of 0 hts (ts_good tc_co) rfl rfl rfl (hts _ (ts_in (pm_in 102 rfl rfl))) (hts _ (ts_in (pm_in 292 rfl rfl))) (by decide +kernel) ⟨Nat.le_of_ble_eq_true rfl, Nat.le_of_ble_eq_true rfl⟩, hts _ (ts_in (pm_in 293 rfl rfl)), hts _ (ts_in (pm_in 294 rfl rfl))⟩ ⟨ts_blind, vk_recv hT.1 (i := 0) (by decide) hS, fun U hU hW => ts_pre hT hU hW⟩ rfl rfl hl.1 rfl (lv_room (Nat.le_of_ble_eq_true rfl)) td_le_6 ⟨Nat.zero_le _, Nat.zero_le _⟩) hS0 (fun _ _ h => h.elim) (fun _ h => h.elim) (fun r u t H1 locs1 ht hvm hp hB hz hk hS1 => ?_)
  obtain rfl : H1 = s.heap := ht.symm.trans hB
  subst hp
  clear hS hS0
  have hS0 := hS1
  have hS : va_S (fun q => bs ≤ q) s.heap s.heap locs1 := ts_SS hS0
  clear hS1
  refine lv_ishr hx hb td_le_9 ?_
  exact W.iret (v := ((6 : Int32) >>> ((0 : Int32) &&& 31))) hx hb hr (fun t ht hW => ⟨⟨_, (), rfl, by decide, ht⟩, ts_F ht⟩) hS0.2.2 td_le_10
theorem t_ca (l : Launch) (bs : Nat) (aK aV : Nat → Nat) (H0 : Heap) (x : Int32) (hx0 : ¬ x < 0) : Met l ty_ca (Cond.code ty_ca tb_ca 1 (some .boolean) :: pm_T) { frames := 0, cells := 0, slots := 0, locals := 0 } (ts_P bs aK aV H0 [.int x]) (ts_Q H0 (if 255 < x then 0 else 1)) 0 0 (fun _ => False) := by
  refine Met.ofW (cc := tb_ca) (maxL := 1) (ret := (some .boolean)) (by decide) rfl ?_
  intro p e s m args below meth c s₁ B hml hv
  obtain ⟨rfl, hH, hT⟩ := hv
  have hx := B.exec
  have hb := B.bytes
  have hr := B.returns
  have hts := atoms_spec (ws := Cond.code ty_ca tb_ca 1 (some .boolean) :: pm_T) B.pre
  have hown : s.vm.findClass "java/lang/StringLatin1" = some m.cls := findClass_of_methodNamed B.named
  have hlocks := B.notSynchronized
  subst hH
  have hS0 : va_S (fun _ => False) s.heap s.heap [] := va_S.rf
  have hS : va_S (fun q => bs ≤ q) s.heap s.heap [] := ts_SS hS0
  have hl := lv_entry ([.int x]) (n := 1) (Nat.le_of_ble_eq_true rfl)
  rw [lg_entry_eq]
  generalize (lg_sl ([.int x]) ++ List.replicate (1 - (lg_sl ([.int x])).length) Slot.unset).toArray = ls at hl ⊢
  have hl : lv_has ls 1 [(0, .int x)] := hl
  refine lv_iload_n hx hb td_ca_0 rfl (lv_at hl 0 rfl) ?_
  refine lv_if_lt (tgt := 15) hx hb td_ca_1 (by decide) (fun h => absurd h hx0) (fun _ => ?_)
  refine lv_iload_n hx hb td_ca_4 rfl (lv_at hl 0 rfl) ?_
  refine lv_sipush (v := 255) hx hb td_ca_5 (by decide) ?_
  refine lv_icmp_gt (tgt := 15) hx hb td_ca_8 (by decide) (fun h => ?_) (fun h => ?_)
  · refine lv_iconst (v := 0) hx hb td_ca_15 (by decide) ?_
    exact W.zret (v := 0) hx hb hr rfl (fun t ht hW => ⟨⟨_, (), rfl, (if_pos h).symm, ht⟩, ts_F ht⟩) (fun _ h => by cases h) td_ca_16
  · refine lv_iconst (v := 1) hx hb td_ca_11 (by decide) ?_
    refine lv_goto (tgt := 16) hx hb td_ca_12 (by decide) ?_
    exact W.zret (v := 1) hx hb hr rfl (fun t ht hW => ⟨⟨_, (), rfl, (if_neg h).symm, ht⟩, ts_F ht⟩) (fun _ h => by cases h) td_ca_16
theorem t_ic (l : Launch) (bs : Nat) (aK aV : Nat → Nat) (H0 : Heap) (x : Int32) : Met l ty_ic (Cond.code ty_ic tb_ic 6 (some .int) :: pm_T) { frames := 0, cells := 0, slots := 0, locals := 0 } (ts_P bs aK aV H0 [.ref (aV 0), .int x, .int 0, .int 6]) (ts_Q H0 (tsF x.toInt8.toInt32 6 0)) 0 0 (fun _ => False) := by
  refine Met.ofW (cc := tb_ic) (maxL := 6) (ret := (some .int)) (by decide) rfl ?_
  intro p e s m args below meth c s₁ B hml hv
  obtain ⟨rfl, hH, hT⟩ := hv
  have hx := B.exec
  have hb := B.bytes
  have hr := B.returns
  have hts := atoms_spec (ws := Cond.code ty_ic tb_ic 6 (some .int) :: pm_T) B.pre
  have hown : s.vm.findClass "java/lang/StringLatin1" = some m.cls := findClass_of_methodNamed B.named
  have hlocks := B.notSynchronized
  subst hH
  have hS0 : va_S (fun _ => False) s.heap s.heap [] := va_S.rf
  have hS : va_S (fun q => bs ≤ q) s.heap s.heap [] := ts_SS hS0
  have hl := lv_entry ([.ref (aV 0), .int x, .int 0, .int 6]) (n := 6) (Nat.le_of_ble_eq_true rfl)
  rw [lg_entry_eq]
  generalize (lg_sl ([.ref (aV 0), .int x, .int 0, .int 6]) ++ List.replicate (6 - (lg_sl ([.ref (aV 0), .int x, .int 0, .int 6])).length) Slot.unset).toArray = ls at hl ⊢
  have hl : lv_has ls 6 [(0, .ref (aV 0)), (1, .int x), (2, .int 0), (3, .int 6)] := hl
  refine lv_iload_n hx hb td_ic_0 rfl (lv_at hl 1 rfl) ?_
  refine lv_i2b (v := x.toInt8.toInt32) hx hb td_ic_1 rfl ?_
  refine lv_istore (lv' := [(4, .int x.toInt8.toInt32), (0, .ref (aV 0)), (1, .int x), (2, .int 0), (3, .int 6)]) hx hb td_ic_2 hl (by decide) rfl (fun ls hl => ?_)
  refine lv_iload_n hx hb td_ic_4 rfl (lv_at hl 3 rfl) ?_
  refine lv_istore (lv' := [(5, .int (nI 0)), (4, .int x.toInt8.toInt32), (0, .ref (aV 0)), (1, .int x), (2, .int 0), (3, .int 6)]) hx hb td_ic_5 hl (by decide) rfl (fun ls hl => ?_)
  have loop : ∀ (n i : Nat), i + n = 6 → tsF x.toInt8.toInt32 n i = tsF x.toInt8.toInt32 6 0 → ∀ (ls : Array Slot), lv_has ls 6 [(5, .int (nI i)), (4, .int x.toInt8.toInt32), (0, .ref (aV 0)), (1, .int x), (2, .int 0), (3, .int 6)] → W p l e { frames := 0, cells := 0, slots := 0, locals := 0 } s m #[.ref (aV 0), .int x, .int 0, .int 6] below meth c s.heap [] 0 0 (MQ below (ts_Q s.heap (tsF x.toInt8.toInt32 6 0)) #[.ref (aV 0), .int x, .int 0, .int 6] s 0 0 (fun _ => False)) (F0 m 7 ls []) := by
    intro n
    induction n with
    | zero =>
      intro i hi hv ls hl
      have hi : i = 6 := by omega
      subst hi
      refine lv_iload hx hb td_ic_7 (lv_at hl 0 rfl) ?_
      refine lv_iload_n hx hb td_ic_9 rfl (lv_at hl 5 rfl) ?_
      refine lv_icmp_ge (tgt := 31) hx hb td_ic_10 (by decide) (fun h => ?_) (fun h => absurd (by decide) h)
      refine lv_iconst (v := -1) hx hb td_ic_31 (by decide) ?_
      exact W.iret (v := -1) hx hb hr (fun t ht hW => ⟨⟨_, (), rfl, hv, ht⟩, ts_F ht⟩) (fun _ h => by cases h) td_ic_32
    | succ n ih =>
      intro i hi hv ls hl
      have hlt : nI i < 6 := nI_lt (b := 6) (by omega) (by decide)
      rw [tsF] at hv
      refine lv_iload hx hb td_ic_7 (lv_at hl 0 rfl) ?_
      refine lv_iload_n hx hb td_ic_9 rfl (lv_at hl 5 rfl) ?_
      refine lv_icmp_ge (tgt := 31) hx hb td_ic_10 (by decide) (fun h => absurd hlt (Int32.not_lt.mpr h)) (fun h => ?_)
      refine lv_aload_n hx hb td_ic_13 rfl (lv_at hl 2 rfl) ?_
      refine lv_iload hx hb td_ic_14 (lv_at hl 0 rfl) ?_
      refine va_tb (v := .int (tsB.getD i 0)) hx hb (hT.1.1 0 (by decide)).2.2.2 hS (vp_in_nI (show i < 6 by omega) (by decide)) (by rw [nI_clamp (by omega)]; rfl) td_ic_16 ?_
      refine lv_iload hx hb td_ic_17 (lv_at hl 1 rfl) ?_
      refine lv_icmp_ne (tgt := 25) hx hb td_ic_19 (by decide) (fun h => ?_) (fun h => ?_)
      · rw [if_neg h] at hv
        refine lv_iinc (v := nI (i + 1)) (lv' := [(5, .int (nI (i + 1))), (4, .int x.toInt8.toInt32), (0, .ref (aV 0)), (1, .int x), (2, .int 0), (3, .int 6)]) hx hb td_ic_25 hl (k := 0) rfl (nI_1 i) (by decide) rfl (fun ls hl => ?_)
        refine lv_goto (tgt := 7) hx hb td_ic_28 (by decide) ?_
        exact ih (i + 1) (by omega) hv ls hl
      · rw [if_pos h] at hv
        refine lv_iload hx hb td_ic_22 (lv_at hl 0 rfl) ?_
        exact W.iret (v := nI i) hx hb hr (fun t ht hW => ⟨⟨_, (), rfl, hv, ht⟩, ts_F ht⟩) (fun _ h => by cases h) td_ic_24
  exact loop 6 0 rfl rfl ls hl
theorem t_ix (l : Launch) (bs : Nat) (aK aV : Nat → Nat) (H0 : Heap) (x : Int32) (hx0 : ¬ x < 0) : Met l ty_ix (Cond.code ty_ix tb_ix 4 (some .int) :: pm_T) { frames := 1, cells := 0, slots := 0, locals := 30 } (ts_P bs aK aV H0 [.ref (aV 0), .int x, .int 0, .int 6]) (ts_Q H0 (if 255 < x then -1 else tsF x.toInt8.toInt32 6 0)) 0 0 (fun _ => False) := by
  refine Met.ofW (cc := tb_ix) (maxL := 4) (ret := (some .int)) (by decide) rfl ?_
  intro p e s m args below meth c s₁ B hml hv
  obtain ⟨rfl, hH, hT⟩ := hv
  have hx := B.exec
  have hb := B.bytes
  have hr := B.returns
  have hts := atoms_spec (ws := Cond.code ty_ix tb_ix 4 (some .int) :: pm_T) B.pre
  have hown : s.vm.findClass "java/lang/StringLatin1" = some m.cls := findClass_of_methodNamed B.named
  have hlocks := B.notSynchronized
  subst hH
  have hS0 : va_S (fun _ => False) s.heap s.heap [] := va_S.rf
  have hS : va_S (fun q => bs ≤ q) s.heap s.heap [] := ts_SS hS0
  have hl := lv_entry ([.ref (aV 0), .int x, .int 0, .int 6]) (n := 4) (Nat.le_of_ble_eq_true rfl)
  rw [lg_entry_eq]
  generalize (lg_sl ([.ref (aV 0), .int x, .int 0, .int 6]) ++ List.replicate (4 - (lg_sl ([.ref (aV 0), .int x, .int 0, .int 6])).length) Slot.unset).toArray = ls at hl ⊢
  have hl : lv_has ls 4 [(0, .ref (aV 0)), (1, .int x), (2, .int 0), (3, .int 6)] := hl
  refine lv_iload_n hx hb td_ix_0 rfl (lv_at hl 1 rfl) ?_
  refine va_calli (va_runS (As := [.int x]) (rest := []) ⟨hx, hb, hml, hown, hts⟩ (t_ca l bs aK aV s.heap x hx0) (n := 1) (index := 88) ⟨callB_of 1 hts (ts_good tc_ca) rfl rfl rfl (hts _ (ts_in (pm_in 103 rfl rfl))) (hts _ (ts_in (pm_in 299 rfl rfl))) (by decide +kernel) ⟨Nat.le_of_ble_eq_true rfl, Nat.le_of_ble_eq_true rfl⟩, hts _ (ts_in (pm_in 300 rfl rfl))⟩ ⟨ts_blind, fun U hU hW => ts_pre hT hU hW⟩ rfl rfl hl.1 rfl (lv_room (Nat.le_of_ble_eq_true rfl)) td_ix_1 ⟨Nat.zero_le _, Nat.zero_le _⟩) hS0 (fun _ _ h => h.elim) (fun _ h => h.elim) (fun r u t H1 locs1 ht hvm hp hB hz hk hS1 => ?_)
  obtain rfl : H1 = s.heap := ht.symm.trans hB
  clear hS hS0
  have hS0 := hS1
  have hS : va_S (fun q => bs ≤ q) s.heap s.heap locs1 := ts_SS hS0
  clear hS1
  by_cases h255 : 255 < x
  · rw [if_pos h255] at hp
    subst hp
    refine lv_if_ne (tgt := 9) hx hb td_ix_4 (by decide) (fun h => absurd rfl h) (fun _ => ?_)
    refine lv_iconst (v := -1) hx hb td_ix_7 (by decide) ?_
    exact W.iret (v := -1) hx hb hr (fun t ht hW => ⟨⟨_, (), rfl, (if_pos h255).symm, ht⟩, ts_F ht⟩) hS0.2.2 td_ix_8
  · rw [if_neg h255] at hp
    subst hp
    refine lv_if_ne (tgt := 9) hx hb td_ix_4 (by decide) (fun _ => ?_) (fun h => absurd h (by decide))
    refine lv_iload_n hx hb td_ix_9 rfl (lv_at hl 2 rfl) ?_
    refine lv_iconst (v := 0) hx hb td_ix_10 (by decide) ?_
    refine va_mmax hx hb (hml.trans hl.1.symm) hown (hts _ (ts_in (pm_in 302 rfl rfl))) (hts _ (ts_in (pm_in 303 rfl rfl))) (hts _ (ts_in (pm_in 104 rfl rfl))) (hts _ (ts_in (pm_in 304 rfl rfl))) (Nat.le_of_ble_eq_true rfl) (Nat.le_of_ble_eq_true rfl) (Nat.zero_le _) (Nat.zero_le _) td_ix_11 ?_
    refine lv_istore_n (lv' := [(2, .int 0), (0, .ref (aV 0)), (1, .int x), (3, .int 6)]) hx hb td_ix_14 rfl hl (by decide) rfl (fun ls hl => ?_)
    refine lv_iload_n hx hb td_ix_15 rfl (lv_at hl 3 rfl) ?_
    refine lv_aload_n hx hb td_ix_16 rfl (lv_at hl 1 rfl) ?_
    refine va_tlen (v := 6) hx hb (hT.1.1 0 (by decide)).2.2.2 hS rfl td_ix_17 ?_
    refine va_mmin hx hb (hml.trans hl.1.symm) hown (hts _ (ts_in (pm_in 305 rfl rfl))) (hts _ (ts_in (pm_in 306 rfl rfl))) (hts _ (ts_in (pm_in 104 rfl rfl))) (hts _ (ts_in (pm_in 307 rfl rfl))) (Nat.le_of_ble_eq_true rfl) (Nat.le_of_ble_eq_true rfl) (Nat.zero_le _) (Nat.zero_le _) td_ix_18 ?_
    refine lv_istore_n (lv' := [(3, .int 6), (2, .int 0), (0, .ref (aV 0)), (1, .int x)]) hx hb td_ix_21 rfl hl (by decide) rfl (fun ls hl => ?_)
    refine lv_iload_n hx hb td_ix_22 rfl (lv_at hl 1 rfl) ?_
    refine lv_iload_n hx hb td_ix_23 rfl (lv_at hl 0 rfl) ?_
    refine lv_icmp_lt (tgt := 29) hx hb td_ix_24 (by decide) (fun _ => ?_) (fun h => absurd (by decide) h)
    refine lv_aload_n hx hb td_ix_29 rfl (lv_at hl 2 rfl) ?_
    refine lv_iload_n hx hb td_ix_30 rfl (lv_at hl 3 rfl) ?_
    refine lv_iload_n hx hb td_ix_31 rfl (lv_at hl 1 rfl) ?_
    refine lv_iload_n hx hb td_ix_32 rfl (lv_at hl 0 rfl) ?_
    refine va_calli (va_runS (As := [.ref (aV 0), .int x, .int 0, .int 6]) (rest := []) ⟨hx, hb, hml, hown, hts⟩ (t_ic l bs aK aV s.heap x) (n := 4) (index := 95) ⟨callB_of 4 hts (ts_good tc_ic) rfl rfl rfl (hts _ (ts_in (pm_in 103 rfl rfl))) (hts _ (ts_in (pm_in 308 rfl rfl))) (by decide +kernel) ⟨Nat.le_of_ble_eq_true rfl, Nat.le_of_ble_eq_true rfl⟩, hts _ (ts_in (pm_in 309 rfl rfl))⟩ ⟨ts_blind, fun U hU hW => ts_pre hT hU hW⟩ rfl rfl hl.1 rfl (lv_room (Nat.le_of_ble_eq_true rfl)) td_ix_33 ⟨Nat.zero_le _, Nat.zero_le _⟩) hS0 (fun _ _ h => h.elim) (fun _ h => h.elim) (fun r u t H1 locs1 ht hvm hp hB hz hk hS1 => ?_)
    obtain rfl : H1 = s.heap := ht.symm.trans hB
    subst hp
    clear hS hS0
    have hS0 := hS1
    have hS : va_S (fun q => bs ≤ q) s.heap s.heap locs1 := ts_SS hS0
    clear hS1
    exact W.iret hx hb hr (fun t ht hW => ⟨⟨_, (), rfl, (if_neg h255).symm, ht⟩, ts_F ht⟩) hS0.2.2 td_ix_36
theorem t_i2 (l : Launch) (bs : Nat) (aK aV : Nat → Nat) (H0 : Heap) (x : Int32) (hx0 : ¬ x < 0) : Met l ty_i2 (Cond.code ty_i2 tb_i2 3 (some .int) :: pm_T) { frames := 2, cells := 0, slots := 0, locals := 60 } (ts_P bs aK aV H0 [.ref (aK 0), .int x, .int 0]) (ts_Q H0 (if 255 < x then -1 else tsF x.toInt8.toInt32 6 0)) 0 0 (fun _ => False) := by
  refine Met.ofW (cc := tb_i2) (maxL := 3) (ret := (some .int)) (by decide) rfl ?_
  intro p e s m args below meth c s₁ B hml hv
  obtain ⟨rfl, hH, hT⟩ := hv
  have hx := B.exec
  have hb := B.bytes
  have hr := B.returns
  have hts := atoms_spec (ws := Cond.code ty_i2 tb_i2 3 (some .int) :: pm_T) B.pre
  have hown : s.vm.findClass "java/lang/String" = some m.cls := findClass_of_methodNamed B.named
  have hlocks := B.notSynchronized
  subst hH
  have hS0 : va_S (fun _ => False) s.heap s.heap [] := va_S.rf
  have hS : va_S (fun q => bs ≤ q) s.heap s.heap [] := ts_SS hS0
  have hl := lv_entry ([.ref (aK 0), .int x, .int 0]) (n := 3) (Nat.le_of_ble_eq_true rfl)
  rw [lg_entry_eq]
  generalize (lg_sl ([.ref (aK 0), .int x, .int 0]) ++ List.replicate (3 - (lg_sl ([.ref (aK 0), .int x, .int 0])).length) Slot.unset).toArray = ls at hl ⊢
  have hl : lv_has ls 3 [(0, .ref (aK 0)), (1, .int x), (2, .int 0)] := hl
  refine lv_aload_n hx hb td_i2_0 rfl (lv_at hl 0 rfl) ?_
  refine va_calli (va_runV (As := []) (rest := []) ⟨hx, hb, hml, hown, hts⟩ (t_la l bs aK aV s.heap) (C := "java/lang/String") (n := 0) (index := 492) ⟨callB_of 0 hts (ts_good tc_la) rfl rfl rfl (hts _ (ts_in (pm_in 102 rfl rfl))) (hts _ (ts_in (pm_in 282 rfl rfl))) (by decide +kernel) ⟨Nat.le_of_ble_eq_true rfl, Nat.le_of_ble_eq_true rfl⟩, hts _ (ts_in (pm_in 283 rfl rfl)), hts _ (ts_in (pm_in 284 rfl rfl))⟩ ⟨ts_blind, vk_recv hT.1 (i := 0) (by decide) hS, fun U hU hW => ts_pre hT hU hW⟩ rfl rfl hl.1 rfl (lv_room (Nat.le_of_ble_eq_true rfl)) td_i2_1 ⟨Nat.zero_le _, Nat.zero_le _⟩) hS0 (fun _ _ h => h.elim) (fun _ h => h.elim) (fun r u t H1 locs1 ht hvm hp hB hz hk hS1 => ?_)
  obtain rfl : H1 = s.heap := ht.symm.trans hB
  subst hp
  clear hS hS0
  have hS0 := hS1
  have hS : va_S (fun q => bs ≤ q) s.heap s.heap locs1 := ts_SS hS0
  clear hS1
  refine lv_if_eq (tgt := 23) hx hb td_i2_4 (by decide) (fun h => absurd h (by decide)) (fun _ => ?_)
  refine lv_aload_n hx hb td_i2_7 rfl (lv_at hl 0 rfl) ?_
  refine vk_getf hx hb (hT.1.1 0 (by decide)).2.2.1 hS hown (hts (.fieldLink "java/lang/String" 9 "java/lang/String" "value" "[B") (ts_in ts_wV)) (fun _ h => h) td_i2_8 ?_
  refine lv_iload_n hx hb td_i2_11 rfl (lv_at hl 1 rfl) ?_
  refine lv_iload_n hx hb td_i2_12 rfl (lv_at hl 2 rfl) ?_
  refine lv_aload_n hx hb td_i2_13 rfl (lv_at hl 0 rfl) ?_
  refine va_calli (va_runV (As := []) (rest := [.int 0, .int x, .ref (aV 0)]) ⟨hx, hb, hml, hown, hts⟩ (t_le l bs aK aV s.heap) (C := "java/lang/String") (n := 0) (index := 505) ⟨callB_of 0 hts (ts_good tc_le) rfl rfl rfl (hts _ (ts_in (pm_in 102 rfl rfl))) (hts _ (ts_in (pm_in 288 rfl rfl))) (by decide +kernel) ⟨Nat.le_of_ble_eq_true rfl, Nat.le_of_ble_eq_true rfl⟩, hts _ (ts_in (pm_in 289 rfl rfl)), hts _ (ts_in (pm_in 290 rfl rfl))⟩ ⟨ts_blind, vk_recv hT.1 (i := 0) (by decide) hS, fun U hU hW => ts_pre hT hU hW⟩ rfl rfl hl.1 rfl (lv_room (Nat.le_of_ble_eq_true rfl)) td_i2_14 ⟨Nat.zero_le _, Nat.zero_le _⟩) hS0 (fun _ _ h => h.elim) (fun _ h => h.elim) (fun r u t H1 locs1 ht hvm hp hB hz hk hS1 => ?_)
  obtain rfl : H1 = s.heap := ht.symm.trans hB
  subst hp
  clear hS hS0
  have hS0 := hS1
  have hS : va_S (fun q => bs ≤ q) s.heap s.heap locs1 := ts_SS hS0
  clear hS1
  refine va_calli (va_runS (As := [.ref (aV 0), .int x, .int 0, .int 6]) (rest := []) ⟨hx, hb, hml, hown, hts⟩ (t_ix l bs aK aV s.heap x hx0) (n := 4) (index := 637) ⟨callB_of 4 hts (ts_good tc_ix) rfl rfl rfl (hts _ (ts_in (pm_in 103 rfl rfl))) (hts _ (ts_in (pm_in 296 rfl rfl))) (by decide +kernel) ⟨Nat.le_of_ble_eq_true rfl, Nat.le_of_ble_eq_true rfl⟩, hts _ (ts_in (pm_in 297 rfl rfl))⟩ ⟨ts_blind, fun U hU hW => ts_pre hT hU hW⟩ rfl rfl hl.1 rfl (lv_room (Nat.le_of_ble_eq_true rfl)) td_i2_17 ⟨Nat.zero_le _, Nat.zero_le _⟩) hS0 (fun _ _ h => h.elim) (fun _ h => h.elim) (fun r u t H1 locs1 ht hvm hp hB hz hk hS1 => ?_)
  obtain rfl : H1 = s.heap := ht.symm.trans hB
  subst hp
  clear hS hS0
  have hS0 := hS1
  have hS : va_S (fun q => bs ≤ q) s.heap s.heap locs1 := ts_SS hS0
  clear hS1
  refine lv_goto (tgt := 36) hx hb td_i2_20 (by decide) ?_
  exact W.iret hx hb hr (fun t ht hW => ⟨⟨_, (), rfl, rfl, ht⟩, ts_F ht⟩) hS0.2.2 td_i2_36
theorem t_i1 (l : Launch) (bs : Nat) (aK aV : Nat → Nat) (H0 : Heap) (x : Int32) (hx0 : ¬ x < 0) : Met l ty_i1 (Cond.code ty_i1 tb_i1 2 (some .int) :: pm_T) { frames := 3, cells := 0, slots := 0, locals := 90 } (ts_P bs aK aV H0 [.ref (aK 0), .int x]) (ts_Q H0 (if 255 < x then -1 else tsF x.toInt8.toInt32 6 0)) 0 0 (fun _ => False) := by
  refine Met.ofW (cc := tb_i1) (maxL := 2) (ret := (some .int)) (by decide) rfl ?_
  intro p e s m args below meth c s₁ B hml hv
  obtain ⟨rfl, hH, hT⟩ := hv
  have hx := B.exec
  have hb := B.bytes
  have hr := B.returns
  have hts := atoms_spec (ws := Cond.code ty_i1 tb_i1 2 (some .int) :: pm_T) B.pre
  have hown : s.vm.findClass "java/lang/String" = some m.cls := findClass_of_methodNamed B.named
  have hlocks := B.notSynchronized
  subst hH
  have hS0 : va_S (fun _ => False) s.heap s.heap [] := va_S.rf
  have hS : va_S (fun q => bs ≤ q) s.heap s.heap [] := ts_SS hS0
  have hl := lv_entry ([.ref (aK 0), .int x]) (n := 2) (Nat.le_of_ble_eq_true rfl)
  rw [lg_entry_eq]
  generalize (lg_sl ([.ref (aK 0), .int x]) ++ List.replicate (2 - (lg_sl ([.ref (aK 0), .int x])).length) Slot.unset).toArray = ls at hl ⊢
  have hl : lv_has ls 2 [(0, .ref (aK 0)), (1, .int x)] := hl
  refine lv_aload_n hx hb td_i1_0 rfl (lv_at hl 0 rfl) ?_
  refine lv_iload_n hx hb td_i1_1 rfl (lv_at hl 1 rfl) ?_
  refine lv_iconst (v := 0) hx hb td_i1_2 (by decide) ?_
  refine va_calli (va_runV (As := [.int x, .int 0]) (rest := []) ⟨hx, hb, hml, hown, hts⟩ (t_i2 l bs aK aV s.heap  x hx0) (C := "java/lang/String") (n := 2) (index := 633) ⟨callB_of 2 hts (ts_good tc_i2) rfl rfl rfl (hts _ (ts_in (pm_in 102 rfl rfl))) (hts _ (ts_in (pm_in 278 rfl rfl))) (by decide +kernel) ⟨Nat.le_of_ble_eq_true rfl, Nat.le_of_ble_eq_true rfl⟩, hts _ (ts_in (pm_in 279 rfl rfl)), hts _ (ts_in (pm_in 280 rfl rfl))⟩ ⟨ts_blind, vk_recv hT.1 (i := 0) (by decide) hS, fun U hU hW => ts_pre hT hU hW⟩ rfl rfl hl.1 rfl (lv_room (Nat.le_of_ble_eq_true rfl)) td_i1_3 ⟨Nat.zero_le _, Nat.zero_le _⟩) hS0 (fun _ _ h => h.elim) (fun _ h => h.elim) (fun r u t H1 locs1 ht hvm hp hB hz hk hS1 => ?_)
  obtain rfl : H1 = s.heap := ht.symm.trans hB
  subst hp
  clear hS hS0
  have hS0 := hS1
  have hS : va_S (fun q => bs ≤ q) s.heap s.heap locs1 := ts_SS hS0
  clear hS1
  exact W.iret hx hb hr (fun t ht hW => ⟨⟨_, (), rfl, rfl, ht⟩, ts_F ht⟩) hS0.2.2 td_i1_6
def ts_X (bs sb : Nat) (X : pm_X) (aK aV : Nat → Nat) : State → Prop := fun U => va_X sb X.1 X.2 U U.heap ∧ vk_R "SixtyOneCabs$Letters" 26 "pmtefh" (aK 0) U ∧ ts_S bs aK aV U U.heap
theorem ts_X0 {bs sb : Nat} {X : pm_X} {aK aV : Nat → Nat} (h : sb < bs) : pm_X0 bs (ts_X bs sb X aK aV) := by
  intro s U hW hq hs
  obtain ⟨h1, h2, h3, h4⟩ := hs
  exact ⟨va_X.moved hW.alike (va_X.kept h1 (hq sb h)), vk_R.warm hW h2, vk_S.kept (vk_S.moved hW.alike h3) (fun a _ ha => hq a (Nat.lt_of_not_le ha)), va_Z.kept (va_Z.moved hW.alike h4) (fun a _ ha => hq a (Nat.lt_of_not_le ha))⟩
theorem t_ko (l : Launch) {D : va_G} {cy : Nat → ClassId} {bs sb : Nat} {X : pm_X} {aK aV : Nat → Nat} (x : Int32) (h : List va_E) (hx0 : ¬ x < 0) (hx1 : x < 65536) : Met l (pm_y pm_KO) (pm_ws pm_KO) (pm_rm 6 0 0) (pm_P D cy bs sb (ts_X bs sb X aK aV) [.int x] h) (pm_Q D cy bs sb (some (.int (pm_kind x))) h) 0 0 (fun q => bs ≤ q) := by
  refine Met.ofW (cc := tb_ko) (maxL := 1) (ret := (some .int)) (by decide) rfl ?_
  intro p e s m args below meth c s₁ B hml hv
  obtain ⟨rfl, hbs, hsz, hP, hK⟩ := hv
  have hx := B.exec
  have hb := B.bytes
  have hr := B.returns
  have hts := atoms_spec (ws := Cond.code ty_ko tb_ko 1 (some .int) :: pm_T) B.pre
  have hown : s.vm.findClass "SixtyOneCabs$Letters" = some m.cls := findClass_of_methodNamed B.named
  have hlocks := B.notSynchronized
  obtain ⟨-, -, -, hX1, hX2, hT⟩ := hK
  have hS : va_S (fun q => bs ≤ q) s.heap s.heap [] := va_S.rf
  have hl := lv_entry ([.int x]) (n := 1) (Nat.le_of_ble_eq_true rfl)
  rw [lg_entry_eq]
  change W p l e _ s m _ below meth c _ _ _ _ _ (F0 m 0 ((lg_sl ([.int x]) ++ List.replicate (1 - (lg_sl ([.int x])).length) Slot.unset).toArray) [])
  generalize (lg_sl ([.int x]) ++ List.replicate (1 - (lg_sl ([.int x])).length) Slot.unset).toArray = ls at hl ⊢
  have hl : lv_has ls 1 [(0, .int x)] := hl
  have exk : ∃ k, k < 65536 ∧ x = nI k := by
    obtain ⟨k, k1, rfl⟩ := nI_of hx0
    refine ⟨k, ?_, rfl⟩
    rcases Nat.lt_or_ge k 65536 with q | q
    · exact q
    · exact absurd hx1 (nI_nl (m := 65536) q k1)
  refine va_ldcS hx hb hown hX2 td_ko_0 ?_
  refine lv_iload_n hx hb td_ko_2 rfl (lv_at hl 0 rfl) ?_
  refine lv_i2c (v := x) hx hb td_ko_3 (by
    obtain ⟨k, k1, rfl⟩ := exk
    rw [pk_char, pk_tn (by omega), Nat.mod_eq_of_lt k1]) ?_
  refine va_calli (va_runV (As := [.int x]) (rest := []) ⟨hx, hb, hml, hown, hts⟩ (t_i1 l bs aK aV s.heap x hx0) (C := "java/lang/String") (n := 1) (index := 28) ⟨callB_of 1 hts (ts_good tc_i1) rfl rfl rfl (hts _ (ts_in (pm_in 102 rfl rfl))) (hts _ (ts_in (pm_in 274 rfl rfl))) (by decide +kernel) ⟨Nat.le_of_ble_eq_true rfl, Nat.le_of_ble_eq_true rfl⟩, hts _ (ts_in (pm_in 275 rfl rfl)), hts _ (ts_in (pm_in 276 rfl rfl))⟩ ⟨ts_blind, vk_recv hT.1 (i := 0) (by decide) hS, fun U hU hW => ts_pre hT hU hW⟩ rfl rfl hl.1 rfl (lv_room (Nat.le_of_ble_eq_true rfl)) td_ko_4 ⟨Nat.zero_le _, Nat.zero_le _⟩) hS (fun _ _ h => h.elim) (fun _ h => h.elim) (fun r u t H1 locs1 ht hvm hp hB hz hk hS1 => ?_)
  obtain rfl : H1 = s.heap := ht.symm.trans hB
  have er : r = pm_kind x := by
    rw [hp]
    obtain ⟨k, k1, rfl⟩ := exk
    by_cases q : 255 < k
    · have q' : 255 < nI k := nI_lt (a := 255) q (by omega)
      rw [if_pos q', ts_far (by omega) k1]
    · have q' : ¬ 255 < nI k := nI_nl (n := 255) (by omega) (by decide)
      rw [if_neg q', ts_kind k (by omega)]
  subst er
  exact W.iret (v := pm_kind x) hx hb hr (fun t ht hW => ⟨rfl, by rw [ht]; exact hsz, by rw [ht]; exact hP, fun q _ => by rw [ht]⟩) hS1.2.2 td_ko_7
