/-! the constructors -/
theorem gw_of {y : MethodName} {cc : ByteArray} {nL n : Nat} {ret : Option FieldType} (hm : mOK y cc nL ret n) : GoodIn TB (gW y cc nL ret) := fun w hw => by
  refine tb_good w ?_
  simp only [gW, List.mem_cons] at hw
  rcases hw with h | h
  · rw [h]; exact hm.2.1
  · exact h
theorem oi_o : Cond.instanceMethod Lib.objectInit ∈ TB := tb_mem 73 (by decide +kernel) (by decide +kernel)
theorem oc_o : Cond.code Lib.objectInit ⟨#[0xb1]⟩ 1 none ∈ TB := tb_mem 74 (by decide +kernel) (by decide +kernel)
theorem ac_int : Cond.arrayClass .int ∈ TB := tb_mem 85 (by decide +kernel) (by decide +kernel)
theorem ac_char : Cond.arrayClass .char ∈ TB := tb_mem 112 (by decide +kernel) (by decide +kernel)
theorem is_X0 : Cond.instantiable RX0 2 ∈ TB := tb_mem 87 (by decide +kernel) (by decide +kernel)
theorem ii_X0 : Cond.instanceMethod yX0_init ∈ TB := tb_mem 89 (by decide +kernel) (by decide +kernel)
theorem cl_X0 : Cond.classLink RX7 19 RX0 ∈ TB := tb_mem 86 (by decide +kernel) (by decide +kernel)
theorem ol_X0 : Cond.methodLink RX0 3 Lib.objectInit ∈ TB := tb_mem 91 (by decide +kernel) (by decide +kernel)
theorem fl_X0_11 : Cond.fieldLink RX0 11 "StringShades$History" "cells" "[I" ∈ TB := tb_mem 92 (by decide +kernel) (by decide +kernel)
theorem fl_X0_17 : Cond.fieldLink RX0 17 "StringShades$History" "states" "I" ∈ TB := tb_mem 93 (by decide +kernel) (by decide +kernel)
theorem is_X1 : Cond.instantiable RX1 1 ∈ TB := tb_mem 76 (by decide +kernel) (by decide +kernel)
theorem ii_X1 : Cond.instanceMethod yX1_init ∈ TB := tb_mem 78 (by decide +kernel) (by decide +kernel)
theorem cl_X1 : Cond.classLink RX7 7 RX1 ∈ TB := tb_mem 75 (by decide +kernel) (by decide +kernel)
theorem ol_X1 : Cond.methodLink RX1 5 Lib.objectInit ∈ TB := tb_mem 80 (by decide +kernel) (by decide +kernel)
theorem fl_X1_11 : Cond.fieldLink RX1 11 "StringShades$House" "cells" "[I" ∈ TB := tb_mem 81 (by decide +kernel) (by decide +kernel)
theorem is_X2 : Cond.instantiable RX2 8 ∈ TB := tb_mem 133 (by decide +kernel) (by decide +kernel)
theorem ii_X2 : Cond.instanceMethod yX2_init ∈ TB := tb_mem 135 (by decide +kernel) (by decide +kernel)
theorem cl_X2 : Cond.classLink RX7 40 RX2 ∈ TB := tb_mem 132 (by decide +kernel) (by decide +kernel)
theorem ol_X2 : Cond.methodLink RX2 3 Lib.objectInit ∈ TB := tb_mem 137 (by decide +kernel) (by decide +kernel)
theorem fl_X2_9 : Cond.fieldLink RX2 9 "StringShades$Pulls" "needs" "[I" ∈ TB := tb_mem 138 (by decide +kernel) (by decide +kernel)
theorem fl_X2_15 : Cond.fieldLink RX2 15 "StringShades$Pulls" "effects" "[I" ∈ TB := tb_mem 139 (by decide +kernel) (by decide +kernel)
theorem fl_X2_18 : Cond.fieldLink RX2 18 "StringShades$Pulls" "reaches" "[I" ∈ TB := tb_mem 140 (by decide +kernel) (by decide +kernel)
theorem fl_X2_21 : Cond.fieldLink RX2 21 "StringShades$Pulls" "tried" "[I" ∈ TB := tb_mem 141 (by decide +kernel) (by decide +kernel)
theorem fl_X2_24 : Cond.fieldLink RX2 24 "StringShades$Pulls" "best" "[I" ∈ TB := tb_mem 142 (by decide +kernel) (by decide +kernel)
theorem fl_X2_27 : Cond.fieldLink RX2 27 "StringShades$Pulls" "equations" "I" ∈ TB := tb_mem 143 (by decide +kernel) (by decide +kernel)
theorem fl_X2_31 : Cond.fieldLink RX2 31 "StringShades$Pulls" "strings" "I" ∈ TB := tb_mem 144 (by decide +kernel) (by decide +kernel)
theorem fl_X2_34 : Cond.fieldLink RX2 34 "StringShades$Pulls" "leastSum" "I" ∈ TB := tb_mem 145 (by decide +kernel) (by decide +kernel)
theorem is_X3 : Cond.instantiable RX3 4 ∈ TB := tb_mem 114 (by decide +kernel) (by decide +kernel)
theorem ii_X3 : Cond.instanceMethod yX3_init ∈ TB := tb_mem 116 (by decide +kernel) (by decide +kernel)
theorem cl_X3 : Cond.classLink RX7 33 RX3 ∈ TB := tb_mem 113 (by decide +kernel) (by decide +kernel)
theorem ol_X3 : Cond.methodLink RX3 3 Lib.objectInit ∈ TB := tb_mem 118 (by decide +kernel) (by decide +kernel)
theorem fl_X3_9 : Cond.fieldLink RX3 9 "StringShades$Reading" "position" "I" ∈ TB := tb_mem 119 (by decide +kernel) (by decide +kernel)
theorem fl_X3_15 : Cond.fieldLink RX3 15 "StringShades$Reading" "reason" "I" ∈ TB := tb_mem 120 (by decide +kernel) (by decide +kernel)
theorem fl_X3_18 : Cond.fieldLink RX3 18 "StringShades$Reading" "cause" "I" ∈ TB := tb_mem 121 (by decide +kernel) (by decide +kernel)
theorem fl_X3_21 : Cond.fieldLink RX3 21 "StringShades$Reading" "orders" "I" ∈ TB := tb_mem 122 (by decide +kernel) (by decide +kernel)
theorem is_X5 : Cond.instantiable RX5 2 ∈ TB := tb_mem 100 (by decide +kernel) (by decide +kernel)
theorem ii_X5 : Cond.instanceMethod yX5_init ∈ TB := tb_mem 102 (by decide +kernel) (by decide +kernel)
theorem cl_X5 : Cond.classLink RX7 26 RX5 ∈ TB := tb_mem 99 (by decide +kernel) (by decide +kernel)
theorem ol_X5 : Cond.methodLink RX5 3 Lib.objectInit ∈ TB := tb_mem 104 (by decide +kernel) (by decide +kernel)
theorem fl_X5_9 : Cond.fieldLink RX5 9 "StringShades$Text" "signs" "[C" ∈ TB := tb_mem 105 (by decide +kernel) (by decide +kernel)
theorem fl_X5_15 : Cond.fieldLink RX5 15 "StringShades$Text" "length" "I" ∈ TB := tb_mem 106 (by decide +kernel) (by decide +kernel)
theorem is_X7 : Cond.instantiable RX7 6 ∈ TB := tb_mem 68 (by decide +kernel) (by decide +kernel)
theorem ii_X7 : Cond.instanceMethod yX7_init ∈ TB := tb_mem 70 (by decide +kernel) (by decide +kernel)
theorem cl_X7 : Cond.classLink RL 7 RX7 ∈ TB := tb_mem 67 (by decide +kernel) (by decide +kernel)
theorem ol_X7 : Cond.methodLink RX7 1 Lib.objectInit ∈ TB := tb_mem 72 (by decide +kernel) (by decide +kernel)
theorem fl_X7_10 : Cond.fieldLink RX7 10 "StringShades" "now" "LStringShades$House;" ∈ TB := tb_mem 163 (by decide +kernel) (by decide +kernel)
theorem fl_X7_16 : Cond.fieldLink RX7 16 "StringShades" "trial" "LStringShades$House;" ∈ TB := tb_mem 164 (by decide +kernel) (by decide +kernel)
theorem fl_X7_22 : Cond.fieldLink RX7 22 "StringShades" "history" "LStringShades$History;" ∈ TB := tb_mem 165 (by decide +kernel) (by decide +kernel)
theorem fl_X7_29 : Cond.fieldLink RX7 29 "StringShades" "text" "LStringShades$Text;" ∈ TB := tb_mem 166 (by decide +kernel) (by decide +kernel)
theorem fl_X7_36 : Cond.fieldLink RX7 36 "StringShades" "reading" "LStringShades$Reading;" ∈ TB := tb_mem 167 (by decide +kernel) (by decide +kernel)
theorem fl_X7_43 : Cond.fieldLink RX7 43 "StringShades" "pulls" "LStringShades$Pulls;" ∈ TB := tb_mem 168 (by decide +kernel) (by decide +kernel)
theorem is_X8 : Cond.instantiable RX8 17 ∈ TB := tb_mem 701 (by decide +kernel) (by decide +kernel)
theorem ii_X8 : Cond.instanceMethod yX8_init ∈ TB := tb_mem 703 (by decide +kernel) (by decide +kernel)
theorem cl_X8 : Cond.classLink RL 10 RX8 ∈ TB := tb_mem 700 (by decide +kernel) (by decide +kernel)
theorem ol_X8 : Cond.methodLink RX8 1 Lib.objectInit ∈ TB := tb_mem 705 (by decide +kernel) (by decide +kernel)
theorem fl_X8_7 : Cond.fieldLink RX8 7 "StringShadesModel" "s" "[I" ∈ TB := tb_mem 706 (by decide +kernel) (by decide +kernel)
theorem fl_X8_13 : Cond.fieldLink RX8 13 "StringShadesModel" "was" "[I" ∈ TB := tb_mem 707 (by decide +kernel) (by decide +kernel)
theorem fl_X8_16 : Cond.fieldLink RX8 16 "StringShadesModel" "begun" "[I" ∈ TB := tb_mem 708 (by decide +kernel) (by decide +kernel)
theorem fl_X8_19 : Cond.fieldLink RX8 19 "StringShadesModel" "aside" "[I" ∈ TB := tb_mem 709 (by decide +kernel) (by decide +kernel)
theorem fl_X8_43 : Cond.fieldLink RX8 43 "StringShadesModel" "states" "I" ∈ TB := tb_mem 710 (by decide +kernel) (by decide +kernel)
theorem fl_X8_22 : Cond.fieldLink RX8 22 "StringShadesModel" "text" "[C" ∈ TB := tb_mem 711 (by decide +kernel) (by decide +kernel)
theorem fl_X8_156 : Cond.fieldLink RX8 156 "StringShadesModel" "typed" "I" ∈ TB := tb_mem 712 (by decide +kernel) (by decide +kernel)
theorem fl_X8_159 : Cond.fieldLink RX8 159 "StringShadesModel" "at" "I" ∈ TB := tb_mem 713 (by decide +kernel) (by decide +kernel)
theorem fl_X8_196 : Cond.fieldLink RX8 196 "StringShadesModel" "reason" "I" ∈ TB := tb_mem 714 (by decide +kernel) (by decide +kernel)
theorem fl_X8_187 : Cond.fieldLink RX8 187 "StringShadesModel" "cause" "I" ∈ TB := tb_mem 715 (by decide +kernel) (by decide +kernel)
theorem fl_X8_172 : Cond.fieldLink RX8 172 "StringShadesModel" "order" "I" ∈ TB := tb_mem 716 (by decide +kernel) (by decide +kernel)
theorem fl_X8_178 : Cond.fieldLink RX8 178 "StringShadesModel" "one" "I" ∈ TB := tb_mem 717 (by decide +kernel) (by decide +kernel)
theorem fl_X8_181 : Cond.fieldLink RX8 181 "StringShadesModel" "two" "I" ∈ TB := tb_mem 718 (by decide +kernel) (by decide +kernel)
theorem fl_X8_26 : Cond.fieldLink RX8 26 "StringShadesModel" "stood" "[I" ∈ TB := tb_mem 719 (by decide +kernel) (by decide +kernel)
theorem fl_X8_29 : Cond.fieldLink RX8 29 "StringShadesModel" "moved" "[I" ∈ TB := tb_mem 720 (by decide +kernel) (by decide +kernel)
theorem fl_X8_32 : Cond.fieldLink RX8 32 "StringShadesModel" "pulls" "[I" ∈ TB := tb_mem 721 (by decide +kernel) (by decide +kernel)
theorem fl_X8_35 : Cond.fieldLink RX8 35 "StringShadesModel" "tried" "[I" ∈ TB := tb_mem 722 (by decide +kernel) (by decide +kernel)
set_option maxHeartbeats 4000000 in
set_option maxRecDepth 100000 in
theorem c_X1_init (l : Launch) (G : va_G) (cI cC : ClassId) (h0 : Nat) (sz : Nat) : Met l yX1_init (gW yX1_init cX1_init 1 none) ({ frames := 1, cells := 1, slots := 79, locals := 12 }) (va_Pc [.ref h0] (fun U => U.heap.size = sz ∧ va_P G vwCl [(h0, .inr (1, [.null]))] U.heap ∧ va_K G vwCl [(cI, .int), (cC, .char)] U ∧ va_D (fun _ => True) [(h0, .inr (1, [.null]))])) (va_Qv (fun _ : Unit => True) (fun _ t => ∃ (q1 : Nat), va_P G vwCl [(h0, .inr (1, [.ref q1])), (q1, .inl (cI, 79, .inl (upd (upd (upd (fun _ => 0) 2 6) 5 4) 6 4)))] t.heap ∧ va_D (va_A [(h0, .inr (1, [.null]))] sz) [(h0, .inr (1, [.ref q1])), (q1, .inl (cI, 79, .inl (upd (upd (upd (fun _ => 0) 2 6) 5 4) 6 4)))]) (va_A [(h0, .inr (1, [.null]))] sz)) 1 79 (va_A [(h0, .inr (1, [.null]))] sz) := by
  refine Met.ofW (cc := cX1_init) (maxL := 1) (ret := none) (by decide +kernel) rfl ?_
  intro p e s m args below meth c s₁ B hml hv
  obtain ⟨rfl, hsz, hP, hK, hD0⟩ := hv
  have hx := B.exec
  have hb := B.bytes
  have hr := B.returns
  have htb : ∀ w ∈ TB, w.before _ s = true := fun w hw => atoms_spec (ws := gW yX1_init cX1_init 1 none) B.pre w (List.mem_cons_of_mem _ hw)
  have hown : s.vm.findClass RX1 = some m.cls := findClass_of_methodNamed B.named
  have hlocks := B.notSynchronized
  have hin : meth.name = "<init>" := (name_of_methodNamed B.named B.method).1
  subst hsz
  have hD := hD0.self (sz := s.heap.size)
  generalize hAe : va_A [(h0, .inr (1, [.null]))] s.heap.size = A at hD ⊢
  have hA : ∀ q : Nat, s.heap.size ≤ q → A q := fun q h => by rw [← hAe]; exact Or.inr h
  have hS : va_S A s.heap s.heap [] := va_S.rf
  have hP : va_P G vwCl [(h0, .inr (1, [.null]))] s.heap := hP
  have hl := lv_entry ([.ref h0]) (n := 1) (Nat.le_of_ble_eq_true rfl)
  rw [lg_entry_eq]
  generalize (lg_sl ([.ref h0]) ++ List.replicate (1 - (lg_sl ([.ref h0])).length) Slot.unset).toArray = ls at hl ⊢
  have hl : lv_has ls 1 [(0, .ref h0)] := hl
  refine lv_aload_n hx hb dX1_init_0 rfl (lv_at hl 0 rfl) ?_
  refine W.objInit hx hb hown (htb _ ol_X1) (htb _ oi_o) (htb _ oc_o) rfl (by rw [hml]; exact hl.1) rfl dX1_init_1 (Nat.le_of_ble_eq_true rfl) (Nat.le_of_ble_eq_true rfl) ?_
  refine W.eq (g2 := F0 m 4 ls []) rfl ?_
  refine lv_aload_n hx hb dX1_init_4 rfl (lv_at hl 0 rfl) ?_
  refine lv_bipush (v := 79) hx hb dX1_init_5 (by decide) ?_
  refine va_newa (atype := .int) (ty := .int) (N' := 79) (a0 := (79, .inl (fun _ => 0))) hx hb (htb _ ac_int) rfl hK hP hD hS hA (fun _ => rfl) (by decide) (by decide) (Nat.le_of_ble_eq_true rfl) (Nat.le_of_ble_eq_true rfl) (Nat.le_of_ble_eq_true rfl) dX1_init_7 (fun q1 cA H hK1 hP hD hS => ?_)
  have ecA : cI = cA := Option.some.inj ((hK.2 0 _ rfl).2.symm.trans (hK1.2 2 _ rfl).2)
  subst ecA
  clear hK1
  have hP : va_P G vwCl [(h0, .inr (1, [.null])), (q1, .inl (cI, 79, .inl (fun _ => 0)))] H := hP
  have hD : va_D A [(h0, .inr (1, [.null])), (q1, .inl (cI, 79, .inl (fun _ => 0)))] := hD
  refine W.widen (k := 1) (n := 79) (Nat.le_of_ble_eq_true rfl) (Nat.le_of_ble_eq_true rfl) ?_
  refine va_putF (D := G) (ci := 1) (v := .ref q1) (ty := .array .int) (C := RX1) (T := TX1) (N := 1) hx hb htb uin_X1 tyX1 tyX1_ok nmX1 hown hK hP hD hS 0 rfl rfl 0 (by decide) (htb _ fl_X1_11) (fun _ h9 => h9) rfl hin rfl (by decide +kernel) rfl rfl (Nat.le_of_ble_eq_true rfl) dX1_init_9 (fun H locs hP hD hS => ?_)
  have hP : va_P G vwCl [(h0, .inr (1, [.ref q1])), (q1, .inl (cI, 79, .inl (fun _ => 0)))] H := hP
  have hD : va_D A [(h0, .inr (1, [.ref q1])), (q1, .inl (cI, 79, .inl (fun _ => 0)))] := hD
  refine lv_aload_n hx hb dX1_init_12 rfl (lv_at hl 0 rfl) ?_
  refine va_get (D := G) (ci := 1) (v := .ref q1) (C := RX1) (T := TX1) (N := 1) hx hb htb uin_X1 hown hK hP 0 rfl rfl 0 (by decide) (htb _ fl_X1_11) (fun _ h9 => h9) rfl dX1_init_13 ?_
  refine lv_iconst (v := 2) hx hb dX1_init_16 (by decide) ?_
  refine lv_bipush (v := 6) hx hb dX1_init_17 (by decide) ?_
  refine va_iast hx hb hK hP hD hS 1 0 rfl rfl (by unfold vp_in; decide) dX1_init_19 (fun H locs hP hD hS => ?_)
  have hP : va_P G vwCl [(h0, .inr (1, [.ref q1])), (q1, .inl (cI, 79, .inl (upd (fun _ => 0) 2 6)))] H := hP
  have hD : va_D A [(h0, .inr (1, [.ref q1])), (q1, .inl (cI, 79, .inl (upd (fun _ => 0) 2 6)))] := hD
  refine lv_aload_n hx hb dX1_init_20 rfl (lv_at hl 0 rfl) ?_
  refine va_get (D := G) (ci := 1) (v := .ref q1) (C := RX1) (T := TX1) (N := 1) hx hb htb uin_X1 hown hK hP 0 rfl rfl 0 (by decide) (htb _ fl_X1_11) (fun _ h9 => h9) rfl dX1_init_21 ?_
  refine lv_iconst (v := 5) hx hb dX1_init_24 (by decide) ?_
  refine lv_iconst (v := 4) hx hb dX1_init_25 (by decide) ?_
  refine va_iast hx hb hK hP hD hS 1 0 rfl rfl (by unfold vp_in; decide) dX1_init_26 (fun H locs hP hD hS => ?_)
  have hP : va_P G vwCl [(h0, .inr (1, [.ref q1])), (q1, .inl (cI, 79, .inl (upd (upd (fun _ => 0) 2 6) 5 4)))] H := hP
  have hD : va_D A [(h0, .inr (1, [.ref q1])), (q1, .inl (cI, 79, .inl (upd (upd (fun _ => 0) 2 6) 5 4)))] := hD
  refine lv_aload_n hx hb dX1_init_27 rfl (lv_at hl 0 rfl) ?_
  refine va_get (D := G) (ci := 1) (v := .ref q1) (C := RX1) (T := TX1) (N := 1) hx hb htb uin_X1 hown hK hP 0 rfl rfl 0 (by decide) (htb _ fl_X1_11) (fun _ h9 => h9) rfl dX1_init_28 ?_
  refine lv_bipush (v := 6) hx hb dX1_init_31 (by decide) ?_
  refine lv_iconst (v := 4) hx hb dX1_init_33 (by decide) ?_
  refine va_iast hx hb hK hP hD hS 1 0 rfl rfl (by unfold vp_in; decide) dX1_init_34 (fun H locs hP hD hS => ?_)
  have hP : va_P G vwCl [(h0, .inr (1, [.ref q1])), (q1, .inl (cI, 79, .inl (upd (upd (upd (fun _ => 0) 2 6) 5 4) 6 4)))] H := hP
  have hD : va_D A [(h0, .inr (1, [.ref q1])), (q1, .inl (cI, 79, .inl (upd (upd (upd (fun _ => 0) 2 6) 5 4) 6 4)))] := hD
  exact W.vret hx hb hr (fun t ht hW => ⟨⟨(), rfl, trivial, q1, by rw [ht]; exact hP, hD⟩, hS.F ht⟩) hS.2.2 dX1_init_35
set_option maxHeartbeats 4000000 in
set_option maxRecDepth 100000 in
theorem c_X0_init (l : Launch) (G : va_G) (cI cC : ClassId) (h0 : Nat) (sz : Nat) : Met l yX0_init (gW yX0_init cX0_init 1 none) ({ frames := 1, cells := 1, slots := 316, locals := 12 }) (va_Pc [.ref h0] (fun U => U.heap.size = sz ∧ va_P G vwCl [(h0, .inr (0, [.null, .int 0]))] U.heap ∧ va_K G vwCl [(cI, .int), (cC, .char)] U ∧ va_D (fun _ => True) [(h0, .inr (0, [.null, .int 0]))])) (va_Qv (fun _ : Unit => True) (fun _ t => ∃ (q1 : Nat), va_P G vwCl [(h0, .inr (0, [.ref q1, .int 0])), (q1, .inl (cI, 316, .inl (fun _ => 0)))] t.heap ∧ va_D (va_A [(h0, .inr (0, [.null, .int 0]))] sz) [(h0, .inr (0, [.ref q1, .int 0])), (q1, .inl (cI, 316, .inl (fun _ => 0)))]) (va_A [(h0, .inr (0, [.null, .int 0]))] sz)) 1 316 (va_A [(h0, .inr (0, [.null, .int 0]))] sz) := by
  refine Met.ofW (cc := cX0_init) (maxL := 1) (ret := none) (by decide +kernel) rfl ?_
  intro p e s m args below meth c s₁ B hml hv
  obtain ⟨rfl, hsz, hP, hK, hD0⟩ := hv
  have hx := B.exec
  have hb := B.bytes
  have hr := B.returns
  have htb : ∀ w ∈ TB, w.before _ s = true := fun w hw => atoms_spec (ws := gW yX0_init cX0_init 1 none) B.pre w (List.mem_cons_of_mem _ hw)
  have hown : s.vm.findClass RX0 = some m.cls := findClass_of_methodNamed B.named
  have hlocks := B.notSynchronized
  have hin : meth.name = "<init>" := (name_of_methodNamed B.named B.method).1
  subst hsz
  have hD := hD0.self (sz := s.heap.size)
  generalize hAe : va_A [(h0, .inr (0, [.null, .int 0]))] s.heap.size = A at hD ⊢
  have hA : ∀ q : Nat, s.heap.size ≤ q → A q := fun q h => by rw [← hAe]; exact Or.inr h
  have hS : va_S A s.heap s.heap [] := va_S.rf
  have hP : va_P G vwCl [(h0, .inr (0, [.null, .int 0]))] s.heap := hP
  have hl := lv_entry ([.ref h0]) (n := 1) (Nat.le_of_ble_eq_true rfl)
  rw [lg_entry_eq]
  generalize (lg_sl ([.ref h0]) ++ List.replicate (1 - (lg_sl ([.ref h0])).length) Slot.unset).toArray = ls at hl ⊢
  have hl : lv_has ls 1 [(0, .ref h0)] := hl
  refine lv_aload_n hx hb dX0_init_0 rfl (lv_at hl 0 rfl) ?_
  refine W.objInit hx hb hown (htb _ ol_X0) (htb _ oi_o) (htb _ oc_o) rfl (by rw [hml]; exact hl.1) rfl dX0_init_1 (Nat.le_of_ble_eq_true rfl) (Nat.le_of_ble_eq_true rfl) ?_
  refine W.eq (g2 := F0 m 4 ls []) rfl ?_
  refine lv_aload_n hx hb dX0_init_4 rfl (lv_at hl 0 rfl) ?_
  refine lv_sipush (v := 316) hx hb dX0_init_5 (by decide) ?_
  refine va_newa (atype := .int) (ty := .int) (N' := 316) (a0 := (316, .inl (fun _ => 0))) hx hb (htb _ ac_int) rfl hK hP hD hS hA (fun _ => rfl) (by decide) (by decide) (Nat.le_of_ble_eq_true rfl) (Nat.le_of_ble_eq_true rfl) (Nat.le_of_ble_eq_true rfl) dX0_init_8 (fun q1 cA H hK1 hP hD hS => ?_)
  have ecA : cI = cA := Option.some.inj ((hK.2 0 _ rfl).2.symm.trans (hK1.2 2 _ rfl).2)
  subst ecA
  clear hK1
  have hP : va_P G vwCl [(h0, .inr (0, [.null, .int 0])), (q1, .inl (cI, 316, .inl (fun _ => 0)))] H := hP
  have hD : va_D A [(h0, .inr (0, [.null, .int 0])), (q1, .inl (cI, 316, .inl (fun _ => 0)))] := hD
  refine W.widen (k := 1) (n := 316) (Nat.le_of_ble_eq_true rfl) (Nat.le_of_ble_eq_true rfl) ?_
  refine va_putF (D := G) (ci := 0) (v := .ref q1) (ty := .array .int) (C := RX0) (T := TX0) (N := 2) hx hb htb uin_X0 tyX0 tyX0_ok nmX0 hown hK hP hD hS 0 rfl rfl 0 (by decide) (htb _ fl_X0_11) (fun _ h9 => h9) rfl hin rfl (by decide +kernel) rfl rfl (Nat.le_of_ble_eq_true rfl) dX0_init_10 (fun H locs hP hD hS => ?_)
  have hP : va_P G vwCl [(h0, .inr (0, [.ref q1, .int 0])), (q1, .inl (cI, 316, .inl (fun _ => 0)))] H := hP
  have hD : va_D A [(h0, .inr (0, [.ref q1, .int 0])), (q1, .inl (cI, 316, .inl (fun _ => 0)))] := hD
  refine lv_aload_n hx hb dX0_init_13 rfl (lv_at hl 0 rfl) ?_
  refine lv_iconst (v := 0) hx hb dX0_init_14 (by decide) ?_
  refine va_put (D := G) (ci := 0) (v := .int 0) (ty := .int) (C := RX0) (T := TX0) (N := 2) hx hb htb uin_X0 tyX0 tyX0_ok nmX0 hown hK hP hD hS 0 rfl rfl 1 (by decide) (htb _ fl_X0_17) (fun _ h9 => h9) rfl (by decide +kernel) rfl rfl (Nat.le_of_ble_eq_true rfl) dX0_init_15 (fun H locs hP hD hS => ?_)
  have hP : va_P G vwCl [(h0, .inr (0, [.ref q1, .int 0])), (q1, .inl (cI, 316, .inl (fun _ => 0)))] H := hP
  have hD : va_D A [(h0, .inr (0, [.ref q1, .int 0])), (q1, .inl (cI, 316, .inl (fun _ => 0)))] := hD
  exact W.vret hx hb hr (fun t ht hW => ⟨⟨(), rfl, trivial, q1, by rw [ht]; exact hP, hD⟩, hS.F ht⟩) hS.2.2 dX0_init_18
set_option maxHeartbeats 4000000 in
set_option maxRecDepth 100000 in
theorem c_X5_init (l : Launch) (G : va_G) (cI cC : ClassId) (h0 : Nat) (sz : Nat) : Met l yX5_init (gW yX5_init cX5_init 1 none) ({ frames := 1, cells := 1, slots := 60, locals := 12 }) (va_Pc [.ref h0] (fun U => U.heap.size = sz ∧ va_P G vwCl [(h0, .inr (4, [.null, .int 0]))] U.heap ∧ va_K G vwCl [(cI, .int), (cC, .char)] U ∧ va_D (fun _ => True) [(h0, .inr (4, [.null, .int 0]))])) (va_Qv (fun _ : Unit => True) (fun _ t => ∃ (q1 : Nat), va_P G vwCl [(h0, .inr (4, [.ref q1, .int 0])), (q1, .inl (cC, 60, .inl (fun _ => 0)))] t.heap ∧ va_D (va_A [(h0, .inr (4, [.null, .int 0]))] sz) [(h0, .inr (4, [.ref q1, .int 0])), (q1, .inl (cC, 60, .inl (fun _ => 0)))]) (va_A [(h0, .inr (4, [.null, .int 0]))] sz)) 1 60 (va_A [(h0, .inr (4, [.null, .int 0]))] sz) := by
  refine Met.ofW (cc := cX5_init) (maxL := 1) (ret := none) (by decide +kernel) rfl ?_
  intro p e s m args below meth c s₁ B hml hv
  obtain ⟨rfl, hsz, hP, hK, hD0⟩ := hv
  have hx := B.exec
  have hb := B.bytes
  have hr := B.returns
  have htb : ∀ w ∈ TB, w.before _ s = true := fun w hw => atoms_spec (ws := gW yX5_init cX5_init 1 none) B.pre w (List.mem_cons_of_mem _ hw)
  have hown : s.vm.findClass RX5 = some m.cls := findClass_of_methodNamed B.named
  have hlocks := B.notSynchronized
  have hin : meth.name = "<init>" := (name_of_methodNamed B.named B.method).1
  subst hsz
  have hD := hD0.self (sz := s.heap.size)
  generalize hAe : va_A [(h0, .inr (4, [.null, .int 0]))] s.heap.size = A at hD ⊢
  have hA : ∀ q : Nat, s.heap.size ≤ q → A q := fun q h => by rw [← hAe]; exact Or.inr h
  have hS : va_S A s.heap s.heap [] := va_S.rf
  have hP : va_P G vwCl [(h0, .inr (4, [.null, .int 0]))] s.heap := hP
  have hl := lv_entry ([.ref h0]) (n := 1) (Nat.le_of_ble_eq_true rfl)
  rw [lg_entry_eq]
  generalize (lg_sl ([.ref h0]) ++ List.replicate (1 - (lg_sl ([.ref h0])).length) Slot.unset).toArray = ls at hl ⊢
  have hl : lv_has ls 1 [(0, .ref h0)] := hl
  refine lv_aload_n hx hb dX5_init_0 rfl (lv_at hl 0 rfl) ?_
  refine W.objInit hx hb hown (htb _ ol_X5) (htb _ oi_o) (htb _ oc_o) rfl (by rw [hml]; exact hl.1) rfl dX5_init_1 (Nat.le_of_ble_eq_true rfl) (Nat.le_of_ble_eq_true rfl) ?_
  refine W.eq (g2 := F0 m 4 ls []) rfl ?_
  refine lv_aload_n hx hb dX5_init_4 rfl (lv_at hl 0 rfl) ?_
  refine lv_bipush (v := 60) hx hb dX5_init_5 (by decide) ?_
  refine va_newa (atype := .char) (ty := .char) (N' := 60) (a0 := (60, .inl (fun _ => 0))) hx hb (htb _ ac_char) rfl hK hP hD hS hA (fun _ => rfl) (by decide) (by decide) (Nat.le_of_ble_eq_true rfl) (Nat.le_of_ble_eq_true rfl) (Nat.le_of_ble_eq_true rfl) dX5_init_7 (fun q1 cA H hK1 hP hD hS => ?_)
  have ecA : cC = cA := Option.some.inj ((hK.2 1 _ rfl).2.symm.trans (hK1.2 2 _ rfl).2)
  subst ecA
  clear hK1
  have hP : va_P G vwCl [(h0, .inr (4, [.null, .int 0])), (q1, .inl (cC, 60, .inl (fun _ => 0)))] H := hP
  have hD : va_D A [(h0, .inr (4, [.null, .int 0])), (q1, .inl (cC, 60, .inl (fun _ => 0)))] := hD
  refine W.widen (k := 1) (n := 60) (Nat.le_of_ble_eq_true rfl) (Nat.le_of_ble_eq_true rfl) ?_
  refine va_putF (D := G) (ci := 4) (v := .ref q1) (ty := .array .char) (C := RX5) (T := TX5) (N := 2) hx hb htb uin_X5 tyX5 tyX5_ok nmX5 hown hK hP hD hS 0 rfl rfl 0 (by decide) (htb _ fl_X5_9) (fun _ h9 => h9) rfl hin rfl (by decide +kernel) rfl rfl (Nat.le_of_ble_eq_true rfl) dX5_init_9 (fun H locs hP hD hS => ?_)
  have hP : va_P G vwCl [(h0, .inr (4, [.ref q1, .int 0])), (q1, .inl (cC, 60, .inl (fun _ => 0)))] H := hP
  have hD : va_D A [(h0, .inr (4, [.ref q1, .int 0])), (q1, .inl (cC, 60, .inl (fun _ => 0)))] := hD
  refine lv_aload_n hx hb dX5_init_12 rfl (lv_at hl 0 rfl) ?_
  refine lv_iconst (v := 0) hx hb dX5_init_13 (by decide) ?_
  refine va_put (D := G) (ci := 4) (v := .int 0) (ty := .int) (C := RX5) (T := TX5) (N := 2) hx hb htb uin_X5 tyX5 tyX5_ok nmX5 hown hK hP hD hS 0 rfl rfl 1 (by decide) (htb _ fl_X5_15) (fun _ h9 => h9) rfl (by decide +kernel) rfl rfl (Nat.le_of_ble_eq_true rfl) dX5_init_14 (fun H locs hP hD hS => ?_)
  have hP : va_P G vwCl [(h0, .inr (4, [.ref q1, .int 0])), (q1, .inl (cC, 60, .inl (fun _ => 0)))] H := hP
  have hD : va_D A [(h0, .inr (4, [.ref q1, .int 0])), (q1, .inl (cC, 60, .inl (fun _ => 0)))] := hD
  exact W.vret hx hb hr (fun t ht hW => ⟨⟨(), rfl, trivial, q1, by rw [ht]; exact hP, hD⟩, hS.F ht⟩) hS.2.2 dX5_init_17
set_option maxHeartbeats 4000000 in
set_option maxRecDepth 100000 in
theorem c_X3_init (l : Launch) (G : va_G) (cI cC : ClassId) (h0 : Nat) (sz : Nat) : Met l yX3_init (gW yX3_init cX3_init 1 none) ({ frames := 1, cells := 0, slots := 0, locals := 12 }) (va_Pc [.ref h0] (fun U => U.heap.size = sz ∧ va_P G vwCl [(h0, .inr (3, [.int 0, .int 0, .int 0, .int 0]))] U.heap ∧ va_K G vwCl [(cI, .int), (cC, .char)] U ∧ va_D (fun _ => True) [(h0, .inr (3, [.int 0, .int 0, .int 0, .int 0]))])) (va_Qv (fun _ : Unit => True) (fun _ t => va_P G vwCl [(h0, .inr (3, [.int 0, .int 0, .int 0, .int 0]))] t.heap ∧ va_D (va_A [(h0, .inr (3, [.int 0, .int 0, .int 0, .int 0]))] sz) [(h0, .inr (3, [.int 0, .int 0, .int 0, .int 0]))]) (va_A [(h0, .inr (3, [.int 0, .int 0, .int 0, .int 0]))] sz)) 0 0 (va_A [(h0, .inr (3, [.int 0, .int 0, .int 0, .int 0]))] sz) := by
  refine Met.ofW (cc := cX3_init) (maxL := 1) (ret := none) (by decide +kernel) rfl ?_
  intro p e s m args below meth c s₁ B hml hv
  obtain ⟨rfl, hsz, hP, hK, hD0⟩ := hv
  have hx := B.exec
  have hb := B.bytes
  have hr := B.returns
  have htb : ∀ w ∈ TB, w.before _ s = true := fun w hw => atoms_spec (ws := gW yX3_init cX3_init 1 none) B.pre w (List.mem_cons_of_mem _ hw)
  have hown : s.vm.findClass RX3 = some m.cls := findClass_of_methodNamed B.named
  have hlocks := B.notSynchronized
  have hin : meth.name = "<init>" := (name_of_methodNamed B.named B.method).1
  subst hsz
  have hD := hD0.self (sz := s.heap.size)
  generalize hAe : va_A [(h0, .inr (3, [.int 0, .int 0, .int 0, .int 0]))] s.heap.size = A at hD ⊢
  have hA : ∀ q : Nat, s.heap.size ≤ q → A q := fun q h => by rw [← hAe]; exact Or.inr h
  have hS : va_S A s.heap s.heap [] := va_S.rf
  have hP : va_P G vwCl [(h0, .inr (3, [.int 0, .int 0, .int 0, .int 0]))] s.heap := hP
  have hl := lv_entry ([.ref h0]) (n := 1) (Nat.le_of_ble_eq_true rfl)
  rw [lg_entry_eq]
  generalize (lg_sl ([.ref h0]) ++ List.replicate (1 - (lg_sl ([.ref h0])).length) Slot.unset).toArray = ls at hl ⊢
  have hl : lv_has ls 1 [(0, .ref h0)] := hl
  refine lv_aload_n hx hb dX3_init_0 rfl (lv_at hl 0 rfl) ?_
  refine W.objInit hx hb hown (htb _ ol_X3) (htb _ oi_o) (htb _ oc_o) rfl (by rw [hml]; exact hl.1) rfl dX3_init_1 (Nat.le_of_ble_eq_true rfl) (Nat.le_of_ble_eq_true rfl) ?_
  refine W.eq (g2 := F0 m 4 ls []) rfl ?_
  refine lv_aload_n hx hb dX3_init_4 rfl (lv_at hl 0 rfl) ?_
  refine lv_iconst (v := 0) hx hb dX3_init_5 (by decide) ?_
  refine va_put (D := G) (ci := 3) (v := .int 0) (ty := .int) (C := RX3) (T := TX3) (N := 4) hx hb htb uin_X3 tyX3 tyX3_ok nmX3 hown hK hP hD hS 0 rfl rfl 0 (by decide) (htb _ fl_X3_9) (fun _ h9 => h9) rfl (by decide +kernel) rfl rfl (Nat.le_of_ble_eq_true rfl) dX3_init_6 (fun H locs hP hD hS => ?_)
  have hP : va_P G vwCl [(h0, .inr (3, [.int 0, .int 0, .int 0, .int 0]))] H := hP
  have hD : va_D A [(h0, .inr (3, [.int 0, .int 0, .int 0, .int 0]))] := hD
  refine lv_aload_n hx hb dX3_init_9 rfl (lv_at hl 0 rfl) ?_
  refine lv_iconst (v := 0) hx hb dX3_init_10 (by decide) ?_
  refine va_put (D := G) (ci := 3) (v := .int 0) (ty := .int) (C := RX3) (T := TX3) (N := 4) hx hb htb uin_X3 tyX3 tyX3_ok nmX3 hown hK hP hD hS 0 rfl rfl 1 (by decide) (htb _ fl_X3_15) (fun _ h9 => h9) rfl (by decide +kernel) rfl rfl (Nat.le_of_ble_eq_true rfl) dX3_init_11 (fun H locs hP hD hS => ?_)
  have hP : va_P G vwCl [(h0, .inr (3, [.int 0, .int 0, .int 0, .int 0]))] H := hP
  have hD : va_D A [(h0, .inr (3, [.int 0, .int 0, .int 0, .int 0]))] := hD
  refine lv_aload_n hx hb dX3_init_14 rfl (lv_at hl 0 rfl) ?_
  refine lv_iconst (v := 0) hx hb dX3_init_15 (by decide) ?_
  refine va_put (D := G) (ci := 3) (v := .int 0) (ty := .int) (C := RX3) (T := TX3) (N := 4) hx hb htb uin_X3 tyX3 tyX3_ok nmX3 hown hK hP hD hS 0 rfl rfl 2 (by decide) (htb _ fl_X3_18) (fun _ h9 => h9) rfl (by decide +kernel) rfl rfl (Nat.le_of_ble_eq_true rfl) dX3_init_16 (fun H locs hP hD hS => ?_)
  have hP : va_P G vwCl [(h0, .inr (3, [.int 0, .int 0, .int 0, .int 0]))] H := hP
  have hD : va_D A [(h0, .inr (3, [.int 0, .int 0, .int 0, .int 0]))] := hD
  refine lv_aload_n hx hb dX3_init_19 rfl (lv_at hl 0 rfl) ?_
  refine lv_iconst (v := 0) hx hb dX3_init_20 (by decide) ?_
  refine va_put (D := G) (ci := 3) (v := .int 0) (ty := .int) (C := RX3) (T := TX3) (N := 4) hx hb htb uin_X3 tyX3 tyX3_ok nmX3 hown hK hP hD hS 0 rfl rfl 3 (by decide) (htb _ fl_X3_21) (fun _ h9 => h9) rfl (by decide +kernel) rfl rfl (Nat.le_of_ble_eq_true rfl) dX3_init_21 (fun H locs hP hD hS => ?_)
  have hP : va_P G vwCl [(h0, .inr (3, [.int 0, .int 0, .int 0, .int 0]))] H := hP
  have hD : va_D A [(h0, .inr (3, [.int 0, .int 0, .int 0, .int 0]))] := hD
  exact W.vret hx hb hr (fun t ht hW => ⟨⟨(), rfl, trivial, by rw [ht]; exact hP, hD⟩, hS.F ht⟩) hS.2.2 dX3_init_24
set_option maxHeartbeats 4000000 in
set_option maxRecDepth 100000 in
theorem c_X2_init (l : Launch) (G : va_G) (cI cC : ClassId) (h0 : Nat) (sz : Nat) : Met l yX2_init (gW yX2_init cX2_init 1 none) ({ frames := 1, cells := 5, slots := 80, locals := 12 }) (va_Pc [.ref h0] (fun U => U.heap.size = sz ∧ va_P G vwCl [(h0, .inr (2, [.null, .null, .null, .null, .null, .int 0, .int 0, .int 0]))] U.heap ∧ va_K G vwCl [(cI, .int), (cC, .char)] U ∧ va_D (fun _ => True) [(h0, .inr (2, [.null, .null, .null, .null, .null, .int 0, .int 0, .int 0]))])) (va_Qv (fun _ : Unit => True) (fun _ t => ∃ (q1 q2 q3 q4 q5 : Nat), va_P G vwCl [(h0, .inr (2, [.ref q1, .ref q2, .ref q3, .ref q4, .ref q5, .int 0, .int 0, .int 37])), (q1, .inl (cI, 8, .inl (fun _ => 0))), (q2, .inl (cI, 32, .inl (fun _ => 0))), (q3, .inl (cI, 32, .inl (fun _ => 0))), (q4, .inl (cI, 4, .inl (fun _ => 0))), (q5, .inl (cI, 4, .inl (fun _ => 0)))] t.heap ∧ va_D (va_A [(h0, .inr (2, [.null, .null, .null, .null, .null, .int 0, .int 0, .int 0]))] sz) [(h0, .inr (2, [.ref q1, .ref q2, .ref q3, .ref q4, .ref q5, .int 0, .int 0, .int 37])), (q1, .inl (cI, 8, .inl (fun _ => 0))), (q2, .inl (cI, 32, .inl (fun _ => 0))), (q3, .inl (cI, 32, .inl (fun _ => 0))), (q4, .inl (cI, 4, .inl (fun _ => 0))), (q5, .inl (cI, 4, .inl (fun _ => 0)))]) (va_A [(h0, .inr (2, [.null, .null, .null, .null, .null, .int 0, .int 0, .int 0]))] sz)) 5 80 (va_A [(h0, .inr (2, [.null, .null, .null, .null, .null, .int 0, .int 0, .int 0]))] sz) := by
  refine Met.ofW (cc := cX2_init) (maxL := 1) (ret := none) (by decide +kernel) rfl ?_
  intro p e s m args below meth c s₁ B hml hv
  obtain ⟨rfl, hsz, hP, hK, hD0⟩ := hv
  have hx := B.exec
  have hb := B.bytes
  have hr := B.returns
  have htb : ∀ w ∈ TB, w.before _ s = true := fun w hw => atoms_spec (ws := gW yX2_init cX2_init 1 none) B.pre w (List.mem_cons_of_mem _ hw)
  have hown : s.vm.findClass RX2 = some m.cls := findClass_of_methodNamed B.named
  have hlocks := B.notSynchronized
  have hin : meth.name = "<init>" := (name_of_methodNamed B.named B.method).1
  subst hsz
  have hD := hD0.self (sz := s.heap.size)
  generalize hAe : va_A [(h0, .inr (2, [.null, .null, .null, .null, .null, .int 0, .int 0, .int 0]))] s.heap.size = A at hD ⊢
  have hA : ∀ q : Nat, s.heap.size ≤ q → A q := fun q h => by rw [← hAe]; exact Or.inr h
  have hS : va_S A s.heap s.heap [] := va_S.rf
  have hP : va_P G vwCl [(h0, .inr (2, [.null, .null, .null, .null, .null, .int 0, .int 0, .int 0]))] s.heap := hP
  have hl := lv_entry ([.ref h0]) (n := 1) (Nat.le_of_ble_eq_true rfl)
  rw [lg_entry_eq]
  generalize (lg_sl ([.ref h0]) ++ List.replicate (1 - (lg_sl ([.ref h0])).length) Slot.unset).toArray = ls at hl ⊢
  have hl : lv_has ls 1 [(0, .ref h0)] := hl
  refine lv_aload_n hx hb dX2_init_0 rfl (lv_at hl 0 rfl) ?_
  refine W.objInit hx hb hown (htb _ ol_X2) (htb _ oi_o) (htb _ oc_o) rfl (by rw [hml]; exact hl.1) rfl dX2_init_1 (Nat.le_of_ble_eq_true rfl) (Nat.le_of_ble_eq_true rfl) ?_
  refine W.eq (g2 := F0 m 4 ls []) rfl ?_
  refine lv_aload_n hx hb dX2_init_4 rfl (lv_at hl 0 rfl) ?_
  refine lv_bipush (v := 8) hx hb dX2_init_5 (by decide) ?_
  refine va_newa (atype := .int) (ty := .int) (N' := 8) (a0 := (8, .inl (fun _ => 0))) hx hb (htb _ ac_int) rfl hK hP hD hS hA (fun _ => rfl) (by decide) (by decide) (Nat.le_of_ble_eq_true rfl) (Nat.le_of_ble_eq_true rfl) (Nat.le_of_ble_eq_true rfl) dX2_init_7 (fun q1 cA H hK1 hP hD hS => ?_)
  have ecA : cI = cA := Option.some.inj ((hK.2 0 _ rfl).2.symm.trans (hK1.2 2 _ rfl).2)
  subst ecA
  clear hK1
  have hP : va_P G vwCl [(h0, .inr (2, [.null, .null, .null, .null, .null, .int 0, .int 0, .int 0])), (q1, .inl (cI, 8, .inl (fun _ => 0)))] H := hP
  have hD : va_D A [(h0, .inr (2, [.null, .null, .null, .null, .null, .int 0, .int 0, .int 0])), (q1, .inl (cI, 8, .inl (fun _ => 0)))] := hD
  refine W.widen (k := 1) (n := 8) (Nat.le_of_ble_eq_true rfl) (Nat.le_of_ble_eq_true rfl) ?_
  refine va_putF (D := G) (ci := 2) (v := .ref q1) (ty := .array .int) (C := RX2) (T := TX2) (N := 8) hx hb htb uin_X2 tyX2 tyX2_ok nmX2 hown hK hP hD hS 0 rfl rfl 0 (by decide) (htb _ fl_X2_9) (fun _ h9 => h9) rfl hin rfl (by decide +kernel) rfl rfl (Nat.le_of_ble_eq_true rfl) dX2_init_9 (fun H locs hP hD hS => ?_)
  have hP : va_P G vwCl [(h0, .inr (2, [.ref q1, .null, .null, .null, .null, .int 0, .int 0, .int 0])), (q1, .inl (cI, 8, .inl (fun _ => 0)))] H := hP
  have hD : va_D A [(h0, .inr (2, [.ref q1, .null, .null, .null, .null, .int 0, .int 0, .int 0])), (q1, .inl (cI, 8, .inl (fun _ => 0)))] := hD
  refine lv_aload_n hx hb dX2_init_12 rfl (lv_at hl 0 rfl) ?_
  refine lv_bipush (v := 32) hx hb dX2_init_13 (by decide) ?_
  refine va_newa (atype := .int) (ty := .int) (N' := 32) (a0 := (32, .inl (fun _ => 0))) hx hb (htb _ ac_int) rfl hK hP hD hS hA (fun _ => rfl) (by decide) (by decide) (Nat.le_of_ble_eq_true rfl) (Nat.le_of_ble_eq_true rfl) (Nat.le_of_ble_eq_true rfl) dX2_init_15 (fun q2 cA H hK1 hP hD hS => ?_)
  have ecA : cI = cA := Option.some.inj ((hK.2 0 _ rfl).2.symm.trans (hK1.2 2 _ rfl).2)
  subst ecA
  clear hK1
  have hP : va_P G vwCl [(h0, .inr (2, [.ref q1, .null, .null, .null, .null, .int 0, .int 0, .int 0])), (q1, .inl (cI, 8, .inl (fun _ => 0))), (q2, .inl (cI, 32, .inl (fun _ => 0)))] H := hP
  have hD : va_D A [(h0, .inr (2, [.ref q1, .null, .null, .null, .null, .int 0, .int 0, .int 0])), (q1, .inl (cI, 8, .inl (fun _ => 0))), (q2, .inl (cI, 32, .inl (fun _ => 0)))] := hD
  refine W.widen (k := 2) (n := 40) (Nat.le_of_ble_eq_true rfl) (Nat.le_of_ble_eq_true rfl) ?_
  refine va_putF (D := G) (ci := 2) (v := .ref q2) (ty := .array .int) (C := RX2) (T := TX2) (N := 8) hx hb htb uin_X2 tyX2 tyX2_ok nmX2 hown hK hP hD hS 0 rfl rfl 1 (by decide) (htb _ fl_X2_15) (fun _ h9 => h9) rfl hin rfl (by decide +kernel) rfl rfl (Nat.le_of_ble_eq_true rfl) dX2_init_17 (fun H locs hP hD hS => ?_)
  have hP : va_P G vwCl [(h0, .inr (2, [.ref q1, .ref q2, .null, .null, .null, .int 0, .int 0, .int 0])), (q1, .inl (cI, 8, .inl (fun _ => 0))), (q2, .inl (cI, 32, .inl (fun _ => 0)))] H := hP
  have hD : va_D A [(h0, .inr (2, [.ref q1, .ref q2, .null, .null, .null, .int 0, .int 0, .int 0])), (q1, .inl (cI, 8, .inl (fun _ => 0))), (q2, .inl (cI, 32, .inl (fun _ => 0)))] := hD
  refine lv_aload_n hx hb dX2_init_20 rfl (lv_at hl 0 rfl) ?_
  refine lv_bipush (v := 32) hx hb dX2_init_21 (by decide) ?_
  refine va_newa (atype := .int) (ty := .int) (N' := 32) (a0 := (32, .inl (fun _ => 0))) hx hb (htb _ ac_int) rfl hK hP hD hS hA (fun _ => rfl) (by decide) (by decide) (Nat.le_of_ble_eq_true rfl) (Nat.le_of_ble_eq_true rfl) (Nat.le_of_ble_eq_true rfl) dX2_init_23 (fun q3 cA H hK1 hP hD hS => ?_)
  have ecA : cI = cA := Option.some.inj ((hK.2 0 _ rfl).2.symm.trans (hK1.2 2 _ rfl).2)
  subst ecA
  clear hK1
  have hP : va_P G vwCl [(h0, .inr (2, [.ref q1, .ref q2, .null, .null, .null, .int 0, .int 0, .int 0])), (q1, .inl (cI, 8, .inl (fun _ => 0))), (q2, .inl (cI, 32, .inl (fun _ => 0))), (q3, .inl (cI, 32, .inl (fun _ => 0)))] H := hP
  have hD : va_D A [(h0, .inr (2, [.ref q1, .ref q2, .null, .null, .null, .int 0, .int 0, .int 0])), (q1, .inl (cI, 8, .inl (fun _ => 0))), (q2, .inl (cI, 32, .inl (fun _ => 0))), (q3, .inl (cI, 32, .inl (fun _ => 0)))] := hD
  refine W.widen (k := 3) (n := 72) (Nat.le_of_ble_eq_true rfl) (Nat.le_of_ble_eq_true rfl) ?_
  refine va_putF (D := G) (ci := 2) (v := .ref q3) (ty := .array .int) (C := RX2) (T := TX2) (N := 8) hx hb htb uin_X2 tyX2 tyX2_ok nmX2 hown hK hP hD hS 0 rfl rfl 2 (by decide) (htb _ fl_X2_18) (fun _ h9 => h9) rfl hin rfl (by decide +kernel) rfl rfl (Nat.le_of_ble_eq_true rfl) dX2_init_25 (fun H locs hP hD hS => ?_)
  have hP : va_P G vwCl [(h0, .inr (2, [.ref q1, .ref q2, .ref q3, .null, .null, .int 0, .int 0, .int 0])), (q1, .inl (cI, 8, .inl (fun _ => 0))), (q2, .inl (cI, 32, .inl (fun _ => 0))), (q3, .inl (cI, 32, .inl (fun _ => 0)))] H := hP
  have hD : va_D A [(h0, .inr (2, [.ref q1, .ref q2, .ref q3, .null, .null, .int 0, .int 0, .int 0])), (q1, .inl (cI, 8, .inl (fun _ => 0))), (q2, .inl (cI, 32, .inl (fun _ => 0))), (q3, .inl (cI, 32, .inl (fun _ => 0)))] := hD
  refine lv_aload_n hx hb dX2_init_28 rfl (lv_at hl 0 rfl) ?_
  refine lv_iconst (v := 4) hx hb dX2_init_29 (by decide) ?_
  refine va_newa (atype := .int) (ty := .int) (N' := 4) (a0 := (4, .inl (fun _ => 0))) hx hb (htb _ ac_int) rfl hK hP hD hS hA (fun _ => rfl) (by decide) (by decide) (Nat.le_of_ble_eq_true rfl) (Nat.le_of_ble_eq_true rfl) (Nat.le_of_ble_eq_true rfl) dX2_init_30 (fun q4 cA H hK1 hP hD hS => ?_)
  have ecA : cI = cA := Option.some.inj ((hK.2 0 _ rfl).2.symm.trans (hK1.2 2 _ rfl).2)
  subst ecA
  clear hK1
  have hP : va_P G vwCl [(h0, .inr (2, [.ref q1, .ref q2, .ref q3, .null, .null, .int 0, .int 0, .int 0])), (q1, .inl (cI, 8, .inl (fun _ => 0))), (q2, .inl (cI, 32, .inl (fun _ => 0))), (q3, .inl (cI, 32, .inl (fun _ => 0))), (q4, .inl (cI, 4, .inl (fun _ => 0)))] H := hP
  have hD : va_D A [(h0, .inr (2, [.ref q1, .ref q2, .ref q3, .null, .null, .int 0, .int 0, .int 0])), (q1, .inl (cI, 8, .inl (fun _ => 0))), (q2, .inl (cI, 32, .inl (fun _ => 0))), (q3, .inl (cI, 32, .inl (fun _ => 0))), (q4, .inl (cI, 4, .inl (fun _ => 0)))] := hD
  refine W.widen (k := 4) (n := 76) (Nat.le_of_ble_eq_true rfl) (Nat.le_of_ble_eq_true rfl) ?_
  refine va_putF (D := G) (ci := 2) (v := .ref q4) (ty := .array .int) (C := RX2) (T := TX2) (N := 8) hx hb htb uin_X2 tyX2 tyX2_ok nmX2 hown hK hP hD hS 0 rfl rfl 3 (by decide) (htb _ fl_X2_21) (fun _ h9 => h9) rfl hin rfl (by decide +kernel) rfl rfl (Nat.le_of_ble_eq_true rfl) dX2_init_32 (fun H locs hP hD hS => ?_)
  have hP : va_P G vwCl [(h0, .inr (2, [.ref q1, .ref q2, .ref q3, .ref q4, .null, .int 0, .int 0, .int 0])), (q1, .inl (cI, 8, .inl (fun _ => 0))), (q2, .inl (cI, 32, .inl (fun _ => 0))), (q3, .inl (cI, 32, .inl (fun _ => 0))), (q4, .inl (cI, 4, .inl (fun _ => 0)))] H := hP
  have hD : va_D A [(h0, .inr (2, [.ref q1, .ref q2, .ref q3, .ref q4, .null, .int 0, .int 0, .int 0])), (q1, .inl (cI, 8, .inl (fun _ => 0))), (q2, .inl (cI, 32, .inl (fun _ => 0))), (q3, .inl (cI, 32, .inl (fun _ => 0))), (q4, .inl (cI, 4, .inl (fun _ => 0)))] := hD
  refine lv_aload_n hx hb dX2_init_35 rfl (lv_at hl 0 rfl) ?_
  refine lv_iconst (v := 4) hx hb dX2_init_36 (by decide) ?_
  refine va_newa (atype := .int) (ty := .int) (N' := 4) (a0 := (4, .inl (fun _ => 0))) hx hb (htb _ ac_int) rfl hK hP hD hS hA (fun _ => rfl) (by decide) (by decide) (Nat.le_of_ble_eq_true rfl) (Nat.le_of_ble_eq_true rfl) (Nat.le_of_ble_eq_true rfl) dX2_init_37 (fun q5 cA H hK1 hP hD hS => ?_)
  have ecA : cI = cA := Option.some.inj ((hK.2 0 _ rfl).2.symm.trans (hK1.2 2 _ rfl).2)
  subst ecA
  clear hK1
  have hP : va_P G vwCl [(h0, .inr (2, [.ref q1, .ref q2, .ref q3, .ref q4, .null, .int 0, .int 0, .int 0])), (q1, .inl (cI, 8, .inl (fun _ => 0))), (q2, .inl (cI, 32, .inl (fun _ => 0))), (q3, .inl (cI, 32, .inl (fun _ => 0))), (q4, .inl (cI, 4, .inl (fun _ => 0))), (q5, .inl (cI, 4, .inl (fun _ => 0)))] H := hP
  have hD : va_D A [(h0, .inr (2, [.ref q1, .ref q2, .ref q3, .ref q4, .null, .int 0, .int 0, .int 0])), (q1, .inl (cI, 8, .inl (fun _ => 0))), (q2, .inl (cI, 32, .inl (fun _ => 0))), (q3, .inl (cI, 32, .inl (fun _ => 0))), (q4, .inl (cI, 4, .inl (fun _ => 0))), (q5, .inl (cI, 4, .inl (fun _ => 0)))] := hD
  refine W.widen (k := 5) (n := 80) (Nat.le_of_ble_eq_true rfl) (Nat.le_of_ble_eq_true rfl) ?_
  refine va_putF (D := G) (ci := 2) (v := .ref q5) (ty := .array .int) (C := RX2) (T := TX2) (N := 8) hx hb htb uin_X2 tyX2 tyX2_ok nmX2 hown hK hP hD hS 0 rfl rfl 4 (by decide) (htb _ fl_X2_24) (fun _ h9 => h9) rfl hin rfl (by decide +kernel) rfl rfl (Nat.le_of_ble_eq_true rfl) dX2_init_39 (fun H locs hP hD hS => ?_)
  have hP : va_P G vwCl [(h0, .inr (2, [.ref q1, .ref q2, .ref q3, .ref q4, .ref q5, .int 0, .int 0, .int 0])), (q1, .inl (cI, 8, .inl (fun _ => 0))), (q2, .inl (cI, 32, .inl (fun _ => 0))), (q3, .inl (cI, 32, .inl (fun _ => 0))), (q4, .inl (cI, 4, .inl (fun _ => 0))), (q5, .inl (cI, 4, .inl (fun _ => 0)))] H := hP
  have hD : va_D A [(h0, .inr (2, [.ref q1, .ref q2, .ref q3, .ref q4, .ref q5, .int 0, .int 0, .int 0])), (q1, .inl (cI, 8, .inl (fun _ => 0))), (q2, .inl (cI, 32, .inl (fun _ => 0))), (q3, .inl (cI, 32, .inl (fun _ => 0))), (q4, .inl (cI, 4, .inl (fun _ => 0))), (q5, .inl (cI, 4, .inl (fun _ => 0)))] := hD
  refine lv_aload_n hx hb dX2_init_42 rfl (lv_at hl 0 rfl) ?_
  refine lv_iconst (v := 0) hx hb dX2_init_43 (by decide) ?_
  refine va_put (D := G) (ci := 2) (v := .int 0) (ty := .int) (C := RX2) (T := TX2) (N := 8) hx hb htb uin_X2 tyX2 tyX2_ok nmX2 hown hK hP hD hS 0 rfl rfl 5 (by decide) (htb _ fl_X2_27) (fun _ h9 => h9) rfl (by decide +kernel) rfl rfl (Nat.le_of_ble_eq_true rfl) dX2_init_44 (fun H locs hP hD hS => ?_)
  have hP : va_P G vwCl [(h0, .inr (2, [.ref q1, .ref q2, .ref q3, .ref q4, .ref q5, .int 0, .int 0, .int 0])), (q1, .inl (cI, 8, .inl (fun _ => 0))), (q2, .inl (cI, 32, .inl (fun _ => 0))), (q3, .inl (cI, 32, .inl (fun _ => 0))), (q4, .inl (cI, 4, .inl (fun _ => 0))), (q5, .inl (cI, 4, .inl (fun _ => 0)))] H := hP
  have hD : va_D A [(h0, .inr (2, [.ref q1, .ref q2, .ref q3, .ref q4, .ref q5, .int 0, .int 0, .int 0])), (q1, .inl (cI, 8, .inl (fun _ => 0))), (q2, .inl (cI, 32, .inl (fun _ => 0))), (q3, .inl (cI, 32, .inl (fun _ => 0))), (q4, .inl (cI, 4, .inl (fun _ => 0))), (q5, .inl (cI, 4, .inl (fun _ => 0)))] := hD
  refine lv_aload_n hx hb dX2_init_47 rfl (lv_at hl 0 rfl) ?_
  refine lv_iconst (v := 0) hx hb dX2_init_48 (by decide) ?_
  refine va_put (D := G) (ci := 2) (v := .int 0) (ty := .int) (C := RX2) (T := TX2) (N := 8) hx hb htb uin_X2 tyX2 tyX2_ok nmX2 hown hK hP hD hS 0 rfl rfl 6 (by decide) (htb _ fl_X2_31) (fun _ h9 => h9) rfl (by decide +kernel) rfl rfl (Nat.le_of_ble_eq_true rfl) dX2_init_49 (fun H locs hP hD hS => ?_)
  have hP : va_P G vwCl [(h0, .inr (2, [.ref q1, .ref q2, .ref q3, .ref q4, .ref q5, .int 0, .int 0, .int 0])), (q1, .inl (cI, 8, .inl (fun _ => 0))), (q2, .inl (cI, 32, .inl (fun _ => 0))), (q3, .inl (cI, 32, .inl (fun _ => 0))), (q4, .inl (cI, 4, .inl (fun _ => 0))), (q5, .inl (cI, 4, .inl (fun _ => 0)))] H := hP
  have hD : va_D A [(h0, .inr (2, [.ref q1, .ref q2, .ref q3, .ref q4, .ref q5, .int 0, .int 0, .int 0])), (q1, .inl (cI, 8, .inl (fun _ => 0))), (q2, .inl (cI, 32, .inl (fun _ => 0))), (q3, .inl (cI, 32, .inl (fun _ => 0))), (q4, .inl (cI, 4, .inl (fun _ => 0))), (q5, .inl (cI, 4, .inl (fun _ => 0)))] := hD
  refine lv_aload_n hx hb dX2_init_52 rfl (lv_at hl 0 rfl) ?_
  refine lv_bipush (v := 37) hx hb dX2_init_53 (by decide) ?_
  refine va_put (D := G) (ci := 2) (v := .int 37) (ty := .int) (C := RX2) (T := TX2) (N := 8) hx hb htb uin_X2 tyX2 tyX2_ok nmX2 hown hK hP hD hS 0 rfl rfl 7 (by decide) (htb _ fl_X2_34) (fun _ h9 => h9) rfl (by decide +kernel) rfl rfl (Nat.le_of_ble_eq_true rfl) dX2_init_55 (fun H locs hP hD hS => ?_)
  have hP : va_P G vwCl [(h0, .inr (2, [.ref q1, .ref q2, .ref q3, .ref q4, .ref q5, .int 0, .int 0, .int 37])), (q1, .inl (cI, 8, .inl (fun _ => 0))), (q2, .inl (cI, 32, .inl (fun _ => 0))), (q3, .inl (cI, 32, .inl (fun _ => 0))), (q4, .inl (cI, 4, .inl (fun _ => 0))), (q5, .inl (cI, 4, .inl (fun _ => 0)))] H := hP
  have hD : va_D A [(h0, .inr (2, [.ref q1, .ref q2, .ref q3, .ref q4, .ref q5, .int 0, .int 0, .int 37])), (q1, .inl (cI, 8, .inl (fun _ => 0))), (q2, .inl (cI, 32, .inl (fun _ => 0))), (q3, .inl (cI, 32, .inl (fun _ => 0))), (q4, .inl (cI, 4, .inl (fun _ => 0))), (q5, .inl (cI, 4, .inl (fun _ => 0)))] := hD
  exact W.vret hx hb hr (fun t ht hW => ⟨⟨(), rfl, trivial, q1, q2, q3, q4, q5, by rw [ht]; exact hP, hD⟩, hS.F ht⟩) hS.2.2 dX2_init_58
set_option maxHeartbeats 4000000 in
set_option maxRecDepth 100000 in
theorem c_X8_init (l : Launch) (G : va_G) (cI cC : ClassId) (h0 : Nat) (sz : Nat) : Met l yX8_init (gW yX8_init cX8_init 1 none) ({ frames := 1, cells := 9, slots := 637, locals := 12 }) (va_Pc [.ref h0] (fun U => U.heap.size = sz ∧ va_P G vwCl [(h0, .inr (6, [.null, .null, .null, .null, .int 0, .null, .int 0, .int 0, .int 0, .int 0, .int 0, .int 0, .int 0, .null, .null, .null, .null]))] U.heap ∧ va_K G vwCl [(cI, .int), (cC, .char)] U ∧ va_D (fun _ => True) [(h0, .inr (6, [.null, .null, .null, .null, .int 0, .null, .int 0, .int 0, .int 0, .int 0, .int 0, .int 0, .int 0, .null, .null, .null, .null]))])) (va_Qv (fun _ : Unit => True) (fun _ t => ∃ (q1 q2 q3 q4 q5 q6 q7 q8 q9 : Nat), va_P G vwCl [(h0, .inr (6, [.ref q1, .ref q2, .ref q3, .ref q4, .int 0, .ref q5, .int 0, .int 0, .int 0, .int 0, .int 0, .int 0, .int 0, .ref q6, .ref q7, .ref q8, .ref q9])), (q1, .inl (cI, 79, .inl (upd (upd (upd (fun _ => 0) 2 6) 5 4) 6 4))), (q2, .inl (cI, 316, .inl (fun _ => 0))), (q3, .inl (cI, 79, .inl (fun _ => 0))), (q4, .inl (cI, 79, .inl (fun _ => 0))), (q5, .inl (cC, 60, .inl (fun _ => 0))), (q6, .inl (cI, 8, .inl (fun _ => 0))), (q7, .inl (cI, 8, .inl (fun _ => 0))), (q8, .inl (cI, 4, .inl (fun _ => 0))), (q9, .inl (cI, 4, .inl (fun _ => 0)))] t.heap ∧ va_D (va_A [(h0, .inr (6, [.null, .null, .null, .null, .int 0, .null, .int 0, .int 0, .int 0, .int 0, .int 0, .int 0, .int 0, .null, .null, .null, .null]))] sz) [(h0, .inr (6, [.ref q1, .ref q2, .ref q3, .ref q4, .int 0, .ref q5, .int 0, .int 0, .int 0, .int 0, .int 0, .int 0, .int 0, .ref q6, .ref q7, .ref q8, .ref q9])), (q1, .inl (cI, 79, .inl (upd (upd (upd (fun _ => 0) 2 6) 5 4) 6 4))), (q2, .inl (cI, 316, .inl (fun _ => 0))), (q3, .inl (cI, 79, .inl (fun _ => 0))), (q4, .inl (cI, 79, .inl (fun _ => 0))), (q5, .inl (cC, 60, .inl (fun _ => 0))), (q6, .inl (cI, 8, .inl (fun _ => 0))), (q7, .inl (cI, 8, .inl (fun _ => 0))), (q8, .inl (cI, 4, .inl (fun _ => 0))), (q9, .inl (cI, 4, .inl (fun _ => 0)))]) (va_A [(h0, .inr (6, [.null, .null, .null, .null, .int 0, .null, .int 0, .int 0, .int 0, .int 0, .int 0, .int 0, .int 0, .null, .null, .null, .null]))] sz)) 9 637 (va_A [(h0, .inr (6, [.null, .null, .null, .null, .int 0, .null, .int 0, .int 0, .int 0, .int 0, .int 0, .int 0, .int 0, .null, .null, .null, .null]))] sz) := by
  refine Met.ofW (cc := cX8_init) (maxL := 1) (ret := none) (by decide +kernel) rfl ?_
  intro p e s m args below meth c s₁ B hml hv
  obtain ⟨rfl, hsz, hP, hK, hD0⟩ := hv
  have hx := B.exec
  have hb := B.bytes
  have hr := B.returns
  have htb : ∀ w ∈ TB, w.before _ s = true := fun w hw => atoms_spec (ws := gW yX8_init cX8_init 1 none) B.pre w (List.mem_cons_of_mem _ hw)
  have hown : s.vm.findClass RX8 = some m.cls := findClass_of_methodNamed B.named
  have hlocks := B.notSynchronized
  have hin : meth.name = "<init>" := (name_of_methodNamed B.named B.method).1
  subst hsz
  have hD := hD0.self (sz := s.heap.size)
  generalize hAe : va_A [(h0, .inr (6, [.null, .null, .null, .null, .int 0, .null, .int 0, .int 0, .int 0, .int 0, .int 0, .int 0, .int 0, .null, .null, .null, .null]))] s.heap.size = A at hD ⊢
  have hA : ∀ q : Nat, s.heap.size ≤ q → A q := fun q h => by rw [← hAe]; exact Or.inr h
  have hS : va_S A s.heap s.heap [] := va_S.rf
  have hP : va_P G vwCl [(h0, .inr (6, [.null, .null, .null, .null, .int 0, .null, .int 0, .int 0, .int 0, .int 0, .int 0, .int 0, .int 0, .null, .null, .null, .null]))] s.heap := hP
  have hl := lv_entry ([.ref h0]) (n := 1) (Nat.le_of_ble_eq_true rfl)
  rw [lg_entry_eq]
  generalize (lg_sl ([.ref h0]) ++ List.replicate (1 - (lg_sl ([.ref h0])).length) Slot.unset).toArray = ls at hl ⊢
  have hl : lv_has ls 1 [(0, .ref h0)] := hl
  refine lv_aload_n hx hb dX8_init_0 rfl (lv_at hl 0 rfl) ?_
  refine W.objInit hx hb hown (htb _ ol_X8) (htb _ oi_o) (htb _ oc_o) rfl (by rw [hml]; exact hl.1) rfl dX8_init_1 (Nat.le_of_ble_eq_true rfl) (Nat.le_of_ble_eq_true rfl) ?_
  refine W.eq (g2 := F0 m 4 ls []) rfl ?_
  refine lv_aload_n hx hb dX8_init_4 rfl (lv_at hl 0 rfl) ?_
  refine lv_bipush (v := 79) hx hb dX8_init_5 (by decide) ?_
  refine va_newa (atype := .int) (ty := .int) (N' := 79) (a0 := (79, .inl (fun _ => 0))) hx hb (htb _ ac_int) rfl hK hP hD hS hA (fun _ => rfl) (by decide) (by decide) (Nat.le_of_ble_eq_true rfl) (Nat.le_of_ble_eq_true rfl) (Nat.le_of_ble_eq_true rfl) dX8_init_7 (fun q1 cA H hK1 hP hD hS => ?_)
  have ecA : cI = cA := Option.some.inj ((hK.2 0 _ rfl).2.symm.trans (hK1.2 2 _ rfl).2)
  subst ecA
  clear hK1
  have hP : va_P G vwCl [(h0, .inr (6, [.null, .null, .null, .null, .int 0, .null, .int 0, .int 0, .int 0, .int 0, .int 0, .int 0, .int 0, .null, .null, .null, .null])), (q1, .inl (cI, 79, .inl (fun _ => 0)))] H := hP
  have hD : va_D A [(h0, .inr (6, [.null, .null, .null, .null, .int 0, .null, .int 0, .int 0, .int 0, .int 0, .int 0, .int 0, .int 0, .null, .null, .null, .null])), (q1, .inl (cI, 79, .inl (fun _ => 0)))] := hD
  refine W.widen (k := 1) (n := 79) (Nat.le_of_ble_eq_true rfl) (Nat.le_of_ble_eq_true rfl) ?_
  refine va_putF (D := G) (ci := 6) (v := .ref q1) (ty := .array .int) (C := RX8) (T := TX8) (N := 17) hx hb htb uin_X8 tyX8 tyX8_ok nmX8 hown hK hP hD hS 0 rfl rfl 0 (by decide) (htb _ fl_X8_7) (fun _ h9 => h9) rfl hin rfl (by decide +kernel) rfl rfl (Nat.le_of_ble_eq_true rfl) dX8_init_9 (fun H locs hP hD hS => ?_)
  have hP : va_P G vwCl [(h0, .inr (6, [.ref q1, .null, .null, .null, .int 0, .null, .int 0, .int 0, .int 0, .int 0, .int 0, .int 0, .int 0, .null, .null, .null, .null])), (q1, .inl (cI, 79, .inl (fun _ => 0)))] H := hP
  have hD : va_D A [(h0, .inr (6, [.ref q1, .null, .null, .null, .int 0, .null, .int 0, .int 0, .int 0, .int 0, .int 0, .int 0, .int 0, .null, .null, .null, .null])), (q1, .inl (cI, 79, .inl (fun _ => 0)))] := hD
  refine lv_aload_n hx hb dX8_init_12 rfl (lv_at hl 0 rfl) ?_
  refine lv_sipush (v := 316) hx hb dX8_init_13 (by decide) ?_
  refine va_newa (atype := .int) (ty := .int) (N' := 316) (a0 := (316, .inl (fun _ => 0))) hx hb (htb _ ac_int) rfl hK hP hD hS hA (fun _ => rfl) (by decide) (by decide) (Nat.le_of_ble_eq_true rfl) (Nat.le_of_ble_eq_true rfl) (Nat.le_of_ble_eq_true rfl) dX8_init_16 (fun q2 cA H hK1 hP hD hS => ?_)
  have ecA : cI = cA := Option.some.inj ((hK.2 0 _ rfl).2.symm.trans (hK1.2 2 _ rfl).2)
  subst ecA
  clear hK1
  have hP : va_P G vwCl [(h0, .inr (6, [.ref q1, .null, .null, .null, .int 0, .null, .int 0, .int 0, .int 0, .int 0, .int 0, .int 0, .int 0, .null, .null, .null, .null])), (q1, .inl (cI, 79, .inl (fun _ => 0))), (q2, .inl (cI, 316, .inl (fun _ => 0)))] H := hP
  have hD : va_D A [(h0, .inr (6, [.ref q1, .null, .null, .null, .int 0, .null, .int 0, .int 0, .int 0, .int 0, .int 0, .int 0, .int 0, .null, .null, .null, .null])), (q1, .inl (cI, 79, .inl (fun _ => 0))), (q2, .inl (cI, 316, .inl (fun _ => 0)))] := hD
  refine W.widen (k := 2) (n := 395) (Nat.le_of_ble_eq_true rfl) (Nat.le_of_ble_eq_true rfl) ?_
  refine va_putF (D := G) (ci := 6) (v := .ref q2) (ty := .array .int) (C := RX8) (T := TX8) (N := 17) hx hb htb uin_X8 tyX8 tyX8_ok nmX8 hown hK hP hD hS 0 rfl rfl 1 (by decide) (htb _ fl_X8_13) (fun _ h9 => h9) rfl hin rfl (by decide +kernel) rfl rfl (Nat.le_of_ble_eq_true rfl) dX8_init_18 (fun H locs hP hD hS => ?_)
  have hP : va_P G vwCl [(h0, .inr (6, [.ref q1, .ref q2, .null, .null, .int 0, .null, .int 0, .int 0, .int 0, .int 0, .int 0, .int 0, .int 0, .null, .null, .null, .null])), (q1, .inl (cI, 79, .inl (fun _ => 0))), (q2, .inl (cI, 316, .inl (fun _ => 0)))] H := hP
  have hD : va_D A [(h0, .inr (6, [.ref q1, .ref q2, .null, .null, .int 0, .null, .int 0, .int 0, .int 0, .int 0, .int 0, .int 0, .int 0, .null, .null, .null, .null])), (q1, .inl (cI, 79, .inl (fun _ => 0))), (q2, .inl (cI, 316, .inl (fun _ => 0)))] := hD
  refine lv_aload_n hx hb dX8_init_21 rfl (lv_at hl 0 rfl) ?_
  refine lv_bipush (v := 79) hx hb dX8_init_22 (by decide) ?_
  refine va_newa (atype := .int) (ty := .int) (N' := 79) (a0 := (79, .inl (fun _ => 0))) hx hb (htb _ ac_int) rfl hK hP hD hS hA (fun _ => rfl) (by decide) (by decide) (Nat.le_of_ble_eq_true rfl) (Nat.le_of_ble_eq_true rfl) (Nat.le_of_ble_eq_true rfl) dX8_init_24 (fun q3 cA H hK1 hP hD hS => ?_)
  have ecA : cI = cA := Option.some.inj ((hK.2 0 _ rfl).2.symm.trans (hK1.2 2 _ rfl).2)
  subst ecA
  clear hK1
  have hP : va_P G vwCl [(h0, .inr (6, [.ref q1, .ref q2, .null, .null, .int 0, .null, .int 0, .int 0, .int 0, .int 0, .int 0, .int 0, .int 0, .null, .null, .null, .null])), (q1, .inl (cI, 79, .inl (fun _ => 0))), (q2, .inl (cI, 316, .inl (fun _ => 0))), (q3, .inl (cI, 79, .inl (fun _ => 0)))] H := hP
  have hD : va_D A [(h0, .inr (6, [.ref q1, .ref q2, .null, .null, .int 0, .null, .int 0, .int 0, .int 0, .int 0, .int 0, .int 0, .int 0, .null, .null, .null, .null])), (q1, .inl (cI, 79, .inl (fun _ => 0))), (q2, .inl (cI, 316, .inl (fun _ => 0))), (q3, .inl (cI, 79, .inl (fun _ => 0)))] := hD
  refine W.widen (k := 3) (n := 474) (Nat.le_of_ble_eq_true rfl) (Nat.le_of_ble_eq_true rfl) ?_
  refine va_putF (D := G) (ci := 6) (v := .ref q3) (ty := .array .int) (C := RX8) (T := TX8) (N := 17) hx hb htb uin_X8 tyX8 tyX8_ok nmX8 hown hK hP hD hS 0 rfl rfl 2 (by decide) (htb _ fl_X8_16) (fun _ h9 => h9) rfl hin rfl (by decide +kernel) rfl rfl (Nat.le_of_ble_eq_true rfl) dX8_init_26 (fun H locs hP hD hS => ?_)
  have hP : va_P G vwCl [(h0, .inr (6, [.ref q1, .ref q2, .ref q3, .null, .int 0, .null, .int 0, .int 0, .int 0, .int 0, .int 0, .int 0, .int 0, .null, .null, .null, .null])), (q1, .inl (cI, 79, .inl (fun _ => 0))), (q2, .inl (cI, 316, .inl (fun _ => 0))), (q3, .inl (cI, 79, .inl (fun _ => 0)))] H := hP
  have hD : va_D A [(h0, .inr (6, [.ref q1, .ref q2, .ref q3, .null, .int 0, .null, .int 0, .int 0, .int 0, .int 0, .int 0, .int 0, .int 0, .null, .null, .null, .null])), (q1, .inl (cI, 79, .inl (fun _ => 0))), (q2, .inl (cI, 316, .inl (fun _ => 0))), (q3, .inl (cI, 79, .inl (fun _ => 0)))] := hD
  refine lv_aload_n hx hb dX8_init_29 rfl (lv_at hl 0 rfl) ?_
  refine lv_bipush (v := 79) hx hb dX8_init_30 (by decide) ?_
  refine va_newa (atype := .int) (ty := .int) (N' := 79) (a0 := (79, .inl (fun _ => 0))) hx hb (htb _ ac_int) rfl hK hP hD hS hA (fun _ => rfl) (by decide) (by decide) (Nat.le_of_ble_eq_true rfl) (Nat.le_of_ble_eq_true rfl) (Nat.le_of_ble_eq_true rfl) dX8_init_32 (fun q4 cA H hK1 hP hD hS => ?_)
  have ecA : cI = cA := Option.some.inj ((hK.2 0 _ rfl).2.symm.trans (hK1.2 2 _ rfl).2)
  subst ecA
  clear hK1
  have hP : va_P G vwCl [(h0, .inr (6, [.ref q1, .ref q2, .ref q3, .null, .int 0, .null, .int 0, .int 0, .int 0, .int 0, .int 0, .int 0, .int 0, .null, .null, .null, .null])), (q1, .inl (cI, 79, .inl (fun _ => 0))), (q2, .inl (cI, 316, .inl (fun _ => 0))), (q3, .inl (cI, 79, .inl (fun _ => 0))), (q4, .inl (cI, 79, .inl (fun _ => 0)))] H := hP
  have hD : va_D A [(h0, .inr (6, [.ref q1, .ref q2, .ref q3, .null, .int 0, .null, .int 0, .int 0, .int 0, .int 0, .int 0, .int 0, .int 0, .null, .null, .null, .null])), (q1, .inl (cI, 79, .inl (fun _ => 0))), (q2, .inl (cI, 316, .inl (fun _ => 0))), (q3, .inl (cI, 79, .inl (fun _ => 0))), (q4, .inl (cI, 79, .inl (fun _ => 0)))] := hD
  refine W.widen (k := 4) (n := 553) (Nat.le_of_ble_eq_true rfl) (Nat.le_of_ble_eq_true rfl) ?_
  refine va_putF (D := G) (ci := 6) (v := .ref q4) (ty := .array .int) (C := RX8) (T := TX8) (N := 17) hx hb htb uin_X8 tyX8 tyX8_ok nmX8 hown hK hP hD hS 0 rfl rfl 3 (by decide) (htb _ fl_X8_19) (fun _ h9 => h9) rfl hin rfl (by decide +kernel) rfl rfl (Nat.le_of_ble_eq_true rfl) dX8_init_34 (fun H locs hP hD hS => ?_)
  have hP : va_P G vwCl [(h0, .inr (6, [.ref q1, .ref q2, .ref q3, .ref q4, .int 0, .null, .int 0, .int 0, .int 0, .int 0, .int 0, .int 0, .int 0, .null, .null, .null, .null])), (q1, .inl (cI, 79, .inl (fun _ => 0))), (q2, .inl (cI, 316, .inl (fun _ => 0))), (q3, .inl (cI, 79, .inl (fun _ => 0))), (q4, .inl (cI, 79, .inl (fun _ => 0)))] H := hP
  have hD : va_D A [(h0, .inr (6, [.ref q1, .ref q2, .ref q3, .ref q4, .int 0, .null, .int 0, .int 0, .int 0, .int 0, .int 0, .int 0, .int 0, .null, .null, .null, .null])), (q1, .inl (cI, 79, .inl (fun _ => 0))), (q2, .inl (cI, 316, .inl (fun _ => 0))), (q3, .inl (cI, 79, .inl (fun _ => 0))), (q4, .inl (cI, 79, .inl (fun _ => 0)))] := hD
  refine lv_aload_n hx hb dX8_init_37 rfl (lv_at hl 0 rfl) ?_
  refine lv_bipush (v := 60) hx hb dX8_init_38 (by decide) ?_
  refine va_newa (atype := .char) (ty := .char) (N' := 60) (a0 := (60, .inl (fun _ => 0))) hx hb (htb _ ac_char) rfl hK hP hD hS hA (fun _ => rfl) (by decide) (by decide) (Nat.le_of_ble_eq_true rfl) (Nat.le_of_ble_eq_true rfl) (Nat.le_of_ble_eq_true rfl) dX8_init_40 (fun q5 cA H hK1 hP hD hS => ?_)
  have ecA : cC = cA := Option.some.inj ((hK.2 1 _ rfl).2.symm.trans (hK1.2 2 _ rfl).2)
  subst ecA
  clear hK1
  have hP : va_P G vwCl [(h0, .inr (6, [.ref q1, .ref q2, .ref q3, .ref q4, .int 0, .null, .int 0, .int 0, .int 0, .int 0, .int 0, .int 0, .int 0, .null, .null, .null, .null])), (q1, .inl (cI, 79, .inl (fun _ => 0))), (q2, .inl (cI, 316, .inl (fun _ => 0))), (q3, .inl (cI, 79, .inl (fun _ => 0))), (q4, .inl (cI, 79, .inl (fun _ => 0))), (q5, .inl (cC, 60, .inl (fun _ => 0)))] H := hP
  have hD : va_D A [(h0, .inr (6, [.ref q1, .ref q2, .ref q3, .ref q4, .int 0, .null, .int 0, .int 0, .int 0, .int 0, .int 0, .int 0, .int 0, .null, .null, .null, .null])), (q1, .inl (cI, 79, .inl (fun _ => 0))), (q2, .inl (cI, 316, .inl (fun _ => 0))), (q3, .inl (cI, 79, .inl (fun _ => 0))), (q4, .inl (cI, 79, .inl (fun _ => 0))), (q5, .inl (cC, 60, .inl (fun _ => 0)))] := hD
  refine W.widen (k := 5) (n := 613) (Nat.le_of_ble_eq_true rfl) (Nat.le_of_ble_eq_true rfl) ?_
  refine va_putF (D := G) (ci := 6) (v := .ref q5) (ty := .array .char) (C := RX8) (T := TX8) (N := 17) hx hb htb uin_X8 tyX8 tyX8_ok nmX8 hown hK hP hD hS 0 rfl rfl 5 (by decide) (htb _ fl_X8_22) (fun _ h9 => h9) rfl hin rfl (by decide +kernel) rfl rfl (Nat.le_of_ble_eq_true rfl) dX8_init_42 (fun H locs hP hD hS => ?_)
  have hP : va_P G vwCl [(h0, .inr (6, [.ref q1, .ref q2, .ref q3, .ref q4, .int 0, .ref q5, .int 0, .int 0, .int 0, .int 0, .int 0, .int 0, .int 0, .null, .null, .null, .null])), (q1, .inl (cI, 79, .inl (fun _ => 0))), (q2, .inl (cI, 316, .inl (fun _ => 0))), (q3, .inl (cI, 79, .inl (fun _ => 0))), (q4, .inl (cI, 79, .inl (fun _ => 0))), (q5, .inl (cC, 60, .inl (fun _ => 0)))] H := hP
  have hD : va_D A [(h0, .inr (6, [.ref q1, .ref q2, .ref q3, .ref q4, .int 0, .ref q5, .int 0, .int 0, .int 0, .int 0, .int 0, .int 0, .int 0, .null, .null, .null, .null])), (q1, .inl (cI, 79, .inl (fun _ => 0))), (q2, .inl (cI, 316, .inl (fun _ => 0))), (q3, .inl (cI, 79, .inl (fun _ => 0))), (q4, .inl (cI, 79, .inl (fun _ => 0))), (q5, .inl (cC, 60, .inl (fun _ => 0)))] := hD
  refine lv_aload_n hx hb dX8_init_45 rfl (lv_at hl 0 rfl) ?_
  refine lv_bipush (v := 8) hx hb dX8_init_46 (by decide) ?_
  refine va_newa (atype := .int) (ty := .int) (N' := 8) (a0 := (8, .inl (fun _ => 0))) hx hb (htb _ ac_int) rfl hK hP hD hS hA (fun _ => rfl) (by decide) (by decide) (Nat.le_of_ble_eq_true rfl) (Nat.le_of_ble_eq_true rfl) (Nat.le_of_ble_eq_true rfl) dX8_init_48 (fun q6 cA H hK1 hP hD hS => ?_)
  have ecA : cI = cA := Option.some.inj ((hK.2 0 _ rfl).2.symm.trans (hK1.2 2 _ rfl).2)
  subst ecA
  clear hK1
  have hP : va_P G vwCl [(h0, .inr (6, [.ref q1, .ref q2, .ref q3, .ref q4, .int 0, .ref q5, .int 0, .int 0, .int 0, .int 0, .int 0, .int 0, .int 0, .null, .null, .null, .null])), (q1, .inl (cI, 79, .inl (fun _ => 0))), (q2, .inl (cI, 316, .inl (fun _ => 0))), (q3, .inl (cI, 79, .inl (fun _ => 0))), (q4, .inl (cI, 79, .inl (fun _ => 0))), (q5, .inl (cC, 60, .inl (fun _ => 0))), (q6, .inl (cI, 8, .inl (fun _ => 0)))] H := hP
  have hD : va_D A [(h0, .inr (6, [.ref q1, .ref q2, .ref q3, .ref q4, .int 0, .ref q5, .int 0, .int 0, .int 0, .int 0, .int 0, .int 0, .int 0, .null, .null, .null, .null])), (q1, .inl (cI, 79, .inl (fun _ => 0))), (q2, .inl (cI, 316, .inl (fun _ => 0))), (q3, .inl (cI, 79, .inl (fun _ => 0))), (q4, .inl (cI, 79, .inl (fun _ => 0))), (q5, .inl (cC, 60, .inl (fun _ => 0))), (q6, .inl (cI, 8, .inl (fun _ => 0)))] := hD
  refine W.widen (k := 6) (n := 621) (Nat.le_of_ble_eq_true rfl) (Nat.le_of_ble_eq_true rfl) ?_
  refine va_putF (D := G) (ci := 6) (v := .ref q6) (ty := .array .int) (C := RX8) (T := TX8) (N := 17) hx hb htb uin_X8 tyX8 tyX8_ok nmX8 hown hK hP hD hS 0 rfl rfl 13 (by decide) (htb _ fl_X8_26) (fun _ h9 => h9) rfl hin rfl (by decide +kernel) rfl rfl (Nat.le_of_ble_eq_true rfl) dX8_init_50 (fun H locs hP hD hS => ?_)
  have hP : va_P G vwCl [(h0, .inr (6, [.ref q1, .ref q2, .ref q3, .ref q4, .int 0, .ref q5, .int 0, .int 0, .int 0, .int 0, .int 0, .int 0, .int 0, .ref q6, .null, .null, .null])), (q1, .inl (cI, 79, .inl (fun _ => 0))), (q2, .inl (cI, 316, .inl (fun _ => 0))), (q3, .inl (cI, 79, .inl (fun _ => 0))), (q4, .inl (cI, 79, .inl (fun _ => 0))), (q5, .inl (cC, 60, .inl (fun _ => 0))), (q6, .inl (cI, 8, .inl (fun _ => 0)))] H := hP
  have hD : va_D A [(h0, .inr (6, [.ref q1, .ref q2, .ref q3, .ref q4, .int 0, .ref q5, .int 0, .int 0, .int 0, .int 0, .int 0, .int 0, .int 0, .ref q6, .null, .null, .null])), (q1, .inl (cI, 79, .inl (fun _ => 0))), (q2, .inl (cI, 316, .inl (fun _ => 0))), (q3, .inl (cI, 79, .inl (fun _ => 0))), (q4, .inl (cI, 79, .inl (fun _ => 0))), (q5, .inl (cC, 60, .inl (fun _ => 0))), (q6, .inl (cI, 8, .inl (fun _ => 0)))] := hD
  refine lv_aload_n hx hb dX8_init_53 rfl (lv_at hl 0 rfl) ?_
  refine lv_bipush (v := 8) hx hb dX8_init_54 (by decide) ?_
  refine va_newa (atype := .int) (ty := .int) (N' := 8) (a0 := (8, .inl (fun _ => 0))) hx hb (htb _ ac_int) rfl hK hP hD hS hA (fun _ => rfl) (by decide) (by decide) (Nat.le_of_ble_eq_true rfl) (Nat.le_of_ble_eq_true rfl) (Nat.le_of_ble_eq_true rfl) dX8_init_56 (fun q7 cA H hK1 hP hD hS => ?_)
  have ecA : cI = cA := Option.some.inj ((hK.2 0 _ rfl).2.symm.trans (hK1.2 2 _ rfl).2)
  subst ecA
  clear hK1
  have hP : va_P G vwCl [(h0, .inr (6, [.ref q1, .ref q2, .ref q3, .ref q4, .int 0, .ref q5, .int 0, .int 0, .int 0, .int 0, .int 0, .int 0, .int 0, .ref q6, .null, .null, .null])), (q1, .inl (cI, 79, .inl (fun _ => 0))), (q2, .inl (cI, 316, .inl (fun _ => 0))), (q3, .inl (cI, 79, .inl (fun _ => 0))), (q4, .inl (cI, 79, .inl (fun _ => 0))), (q5, .inl (cC, 60, .inl (fun _ => 0))), (q6, .inl (cI, 8, .inl (fun _ => 0))), (q7, .inl (cI, 8, .inl (fun _ => 0)))] H := hP
  have hD : va_D A [(h0, .inr (6, [.ref q1, .ref q2, .ref q3, .ref q4, .int 0, .ref q5, .int 0, .int 0, .int 0, .int 0, .int 0, .int 0, .int 0, .ref q6, .null, .null, .null])), (q1, .inl (cI, 79, .inl (fun _ => 0))), (q2, .inl (cI, 316, .inl (fun _ => 0))), (q3, .inl (cI, 79, .inl (fun _ => 0))), (q4, .inl (cI, 79, .inl (fun _ => 0))), (q5, .inl (cC, 60, .inl (fun _ => 0))), (q6, .inl (cI, 8, .inl (fun _ => 0))), (q7, .inl (cI, 8, .inl (fun _ => 0)))] := hD
  refine W.widen (k := 7) (n := 629) (Nat.le_of_ble_eq_true rfl) (Nat.le_of_ble_eq_true rfl) ?_
  refine va_putF (D := G) (ci := 6) (v := .ref q7) (ty := .array .int) (C := RX8) (T := TX8) (N := 17) hx hb htb uin_X8 tyX8 tyX8_ok nmX8 hown hK hP hD hS 0 rfl rfl 14 (by decide) (htb _ fl_X8_29) (fun _ h9 => h9) rfl hin rfl (by decide +kernel) rfl rfl (Nat.le_of_ble_eq_true rfl) dX8_init_58 (fun H locs hP hD hS => ?_)
  have hP : va_P G vwCl [(h0, .inr (6, [.ref q1, .ref q2, .ref q3, .ref q4, .int 0, .ref q5, .int 0, .int 0, .int 0, .int 0, .int 0, .int 0, .int 0, .ref q6, .ref q7, .null, .null])), (q1, .inl (cI, 79, .inl (fun _ => 0))), (q2, .inl (cI, 316, .inl (fun _ => 0))), (q3, .inl (cI, 79, .inl (fun _ => 0))), (q4, .inl (cI, 79, .inl (fun _ => 0))), (q5, .inl (cC, 60, .inl (fun _ => 0))), (q6, .inl (cI, 8, .inl (fun _ => 0))), (q7, .inl (cI, 8, .inl (fun _ => 0)))] H := hP
  have hD : va_D A [(h0, .inr (6, [.ref q1, .ref q2, .ref q3, .ref q4, .int 0, .ref q5, .int 0, .int 0, .int 0, .int 0, .int 0, .int 0, .int 0, .ref q6, .ref q7, .null, .null])), (q1, .inl (cI, 79, .inl (fun _ => 0))), (q2, .inl (cI, 316, .inl (fun _ => 0))), (q3, .inl (cI, 79, .inl (fun _ => 0))), (q4, .inl (cI, 79, .inl (fun _ => 0))), (q5, .inl (cC, 60, .inl (fun _ => 0))), (q6, .inl (cI, 8, .inl (fun _ => 0))), (q7, .inl (cI, 8, .inl (fun _ => 0)))] := hD
  refine lv_aload_n hx hb dX8_init_61 rfl (lv_at hl 0 rfl) ?_
  refine lv_iconst (v := 4) hx hb dX8_init_62 (by decide) ?_
  refine va_newa (atype := .int) (ty := .int) (N' := 4) (a0 := (4, .inl (fun _ => 0))) hx hb (htb _ ac_int) rfl hK hP hD hS hA (fun _ => rfl) (by decide) (by decide) (Nat.le_of_ble_eq_true rfl) (Nat.le_of_ble_eq_true rfl) (Nat.le_of_ble_eq_true rfl) dX8_init_63 (fun q8 cA H hK1 hP hD hS => ?_)
  have ecA : cI = cA := Option.some.inj ((hK.2 0 _ rfl).2.symm.trans (hK1.2 2 _ rfl).2)
  subst ecA
  clear hK1
  have hP : va_P G vwCl [(h0, .inr (6, [.ref q1, .ref q2, .ref q3, .ref q4, .int 0, .ref q5, .int 0, .int 0, .int 0, .int 0, .int 0, .int 0, .int 0, .ref q6, .ref q7, .null, .null])), (q1, .inl (cI, 79, .inl (fun _ => 0))), (q2, .inl (cI, 316, .inl (fun _ => 0))), (q3, .inl (cI, 79, .inl (fun _ => 0))), (q4, .inl (cI, 79, .inl (fun _ => 0))), (q5, .inl (cC, 60, .inl (fun _ => 0))), (q6, .inl (cI, 8, .inl (fun _ => 0))), (q7, .inl (cI, 8, .inl (fun _ => 0))), (q8, .inl (cI, 4, .inl (fun _ => 0)))] H := hP
  have hD : va_D A [(h0, .inr (6, [.ref q1, .ref q2, .ref q3, .ref q4, .int 0, .ref q5, .int 0, .int 0, .int 0, .int 0, .int 0, .int 0, .int 0, .ref q6, .ref q7, .null, .null])), (q1, .inl (cI, 79, .inl (fun _ => 0))), (q2, .inl (cI, 316, .inl (fun _ => 0))), (q3, .inl (cI, 79, .inl (fun _ => 0))), (q4, .inl (cI, 79, .inl (fun _ => 0))), (q5, .inl (cC, 60, .inl (fun _ => 0))), (q6, .inl (cI, 8, .inl (fun _ => 0))), (q7, .inl (cI, 8, .inl (fun _ => 0))), (q8, .inl (cI, 4, .inl (fun _ => 0)))] := hD
  refine W.widen (k := 8) (n := 633) (Nat.le_of_ble_eq_true rfl) (Nat.le_of_ble_eq_true rfl) ?_
  refine va_putF (D := G) (ci := 6) (v := .ref q8) (ty := .array .int) (C := RX8) (T := TX8) (N := 17) hx hb htb uin_X8 tyX8 tyX8_ok nmX8 hown hK hP hD hS 0 rfl rfl 15 (by decide) (htb _ fl_X8_32) (fun _ h9 => h9) rfl hin rfl (by decide +kernel) rfl rfl (Nat.le_of_ble_eq_true rfl) dX8_init_65 (fun H locs hP hD hS => ?_)
  have hP : va_P G vwCl [(h0, .inr (6, [.ref q1, .ref q2, .ref q3, .ref q4, .int 0, .ref q5, .int 0, .int 0, .int 0, .int 0, .int 0, .int 0, .int 0, .ref q6, .ref q7, .ref q8, .null])), (q1, .inl (cI, 79, .inl (fun _ => 0))), (q2, .inl (cI, 316, .inl (fun _ => 0))), (q3, .inl (cI, 79, .inl (fun _ => 0))), (q4, .inl (cI, 79, .inl (fun _ => 0))), (q5, .inl (cC, 60, .inl (fun _ => 0))), (q6, .inl (cI, 8, .inl (fun _ => 0))), (q7, .inl (cI, 8, .inl (fun _ => 0))), (q8, .inl (cI, 4, .inl (fun _ => 0)))] H := hP
  have hD : va_D A [(h0, .inr (6, [.ref q1, .ref q2, .ref q3, .ref q4, .int 0, .ref q5, .int 0, .int 0, .int 0, .int 0, .int 0, .int 0, .int 0, .ref q6, .ref q7, .ref q8, .null])), (q1, .inl (cI, 79, .inl (fun _ => 0))), (q2, .inl (cI, 316, .inl (fun _ => 0))), (q3, .inl (cI, 79, .inl (fun _ => 0))), (q4, .inl (cI, 79, .inl (fun _ => 0))), (q5, .inl (cC, 60, .inl (fun _ => 0))), (q6, .inl (cI, 8, .inl (fun _ => 0))), (q7, .inl (cI, 8, .inl (fun _ => 0))), (q8, .inl (cI, 4, .inl (fun _ => 0)))] := hD
  refine lv_aload_n hx hb dX8_init_68 rfl (lv_at hl 0 rfl) ?_
  refine lv_iconst (v := 4) hx hb dX8_init_69 (by decide) ?_
  refine va_newa (atype := .int) (ty := .int) (N' := 4) (a0 := (4, .inl (fun _ => 0))) hx hb (htb _ ac_int) rfl hK hP hD hS hA (fun _ => rfl) (by decide) (by decide) (Nat.le_of_ble_eq_true rfl) (Nat.le_of_ble_eq_true rfl) (Nat.le_of_ble_eq_true rfl) dX8_init_70 (fun q9 cA H hK1 hP hD hS => ?_)
  have ecA : cI = cA := Option.some.inj ((hK.2 0 _ rfl).2.symm.trans (hK1.2 2 _ rfl).2)
  subst ecA
  clear hK1
  have hP : va_P G vwCl [(h0, .inr (6, [.ref q1, .ref q2, .ref q3, .ref q4, .int 0, .ref q5, .int 0, .int 0, .int 0, .int 0, .int 0, .int 0, .int 0, .ref q6, .ref q7, .ref q8, .null])), (q1, .inl (cI, 79, .inl (fun _ => 0))), (q2, .inl (cI, 316, .inl (fun _ => 0))), (q3, .inl (cI, 79, .inl (fun _ => 0))), (q4, .inl (cI, 79, .inl (fun _ => 0))), (q5, .inl (cC, 60, .inl (fun _ => 0))), (q6, .inl (cI, 8, .inl (fun _ => 0))), (q7, .inl (cI, 8, .inl (fun _ => 0))), (q8, .inl (cI, 4, .inl (fun _ => 0))), (q9, .inl (cI, 4, .inl (fun _ => 0)))] H := hP
  have hD : va_D A [(h0, .inr (6, [.ref q1, .ref q2, .ref q3, .ref q4, .int 0, .ref q5, .int 0, .int 0, .int 0, .int 0, .int 0, .int 0, .int 0, .ref q6, .ref q7, .ref q8, .null])), (q1, .inl (cI, 79, .inl (fun _ => 0))), (q2, .inl (cI, 316, .inl (fun _ => 0))), (q3, .inl (cI, 79, .inl (fun _ => 0))), (q4, .inl (cI, 79, .inl (fun _ => 0))), (q5, .inl (cC, 60, .inl (fun _ => 0))), (q6, .inl (cI, 8, .inl (fun _ => 0))), (q7, .inl (cI, 8, .inl (fun _ => 0))), (q8, .inl (cI, 4, .inl (fun _ => 0))), (q9, .inl (cI, 4, .inl (fun _ => 0)))] := hD
  refine W.widen (k := 9) (n := 637) (Nat.le_of_ble_eq_true rfl) (Nat.le_of_ble_eq_true rfl) ?_
  refine va_putF (D := G) (ci := 6) (v := .ref q9) (ty := .array .int) (C := RX8) (T := TX8) (N := 17) hx hb htb uin_X8 tyX8 tyX8_ok nmX8 hown hK hP hD hS 0 rfl rfl 16 (by decide) (htb _ fl_X8_35) (fun _ h9 => h9) rfl hin rfl (by decide +kernel) rfl rfl (Nat.le_of_ble_eq_true rfl) dX8_init_72 (fun H locs hP hD hS => ?_)
  have hP : va_P G vwCl [(h0, .inr (6, [.ref q1, .ref q2, .ref q3, .ref q4, .int 0, .ref q5, .int 0, .int 0, .int 0, .int 0, .int 0, .int 0, .int 0, .ref q6, .ref q7, .ref q8, .ref q9])), (q1, .inl (cI, 79, .inl (fun _ => 0))), (q2, .inl (cI, 316, .inl (fun _ => 0))), (q3, .inl (cI, 79, .inl (fun _ => 0))), (q4, .inl (cI, 79, .inl (fun _ => 0))), (q5, .inl (cC, 60, .inl (fun _ => 0))), (q6, .inl (cI, 8, .inl (fun _ => 0))), (q7, .inl (cI, 8, .inl (fun _ => 0))), (q8, .inl (cI, 4, .inl (fun _ => 0))), (q9, .inl (cI, 4, .inl (fun _ => 0)))] H := hP
  have hD : va_D A [(h0, .inr (6, [.ref q1, .ref q2, .ref q3, .ref q4, .int 0, .ref q5, .int 0, .int 0, .int 0, .int 0, .int 0, .int 0, .int 0, .ref q6, .ref q7, .ref q8, .ref q9])), (q1, .inl (cI, 79, .inl (fun _ => 0))), (q2, .inl (cI, 316, .inl (fun _ => 0))), (q3, .inl (cI, 79, .inl (fun _ => 0))), (q4, .inl (cI, 79, .inl (fun _ => 0))), (q5, .inl (cC, 60, .inl (fun _ => 0))), (q6, .inl (cI, 8, .inl (fun _ => 0))), (q7, .inl (cI, 8, .inl (fun _ => 0))), (q8, .inl (cI, 4, .inl (fun _ => 0))), (q9, .inl (cI, 4, .inl (fun _ => 0)))] := hD
  refine lv_aload_n hx hb dX8_init_75 rfl (lv_at hl 0 rfl) ?_
  refine va_get (D := G) (ci := 6) (v := .ref q1) (C := RX8) (T := TX8) (N := 17) hx hb htb uin_X8 hown hK hP 0 rfl rfl 0 (by decide) (htb _ fl_X8_7) (fun _ h9 => h9) rfl dX8_init_76 ?_
  refine lv_iconst (v := 2) hx hb dX8_init_79 (by decide) ?_
  refine lv_bipush (v := 6) hx hb dX8_init_80 (by decide) ?_
  refine va_iast hx hb hK hP hD hS 1 0 rfl rfl (by unfold vp_in; decide) dX8_init_82 (fun H locs hP hD hS => ?_)
  have hP : va_P G vwCl [(h0, .inr (6, [.ref q1, .ref q2, .ref q3, .ref q4, .int 0, .ref q5, .int 0, .int 0, .int 0, .int 0, .int 0, .int 0, .int 0, .ref q6, .ref q7, .ref q8, .ref q9])), (q1, .inl (cI, 79, .inl (upd (fun _ => 0) 2 6))), (q2, .inl (cI, 316, .inl (fun _ => 0))), (q3, .inl (cI, 79, .inl (fun _ => 0))), (q4, .inl (cI, 79, .inl (fun _ => 0))), (q5, .inl (cC, 60, .inl (fun _ => 0))), (q6, .inl (cI, 8, .inl (fun _ => 0))), (q7, .inl (cI, 8, .inl (fun _ => 0))), (q8, .inl (cI, 4, .inl (fun _ => 0))), (q9, .inl (cI, 4, .inl (fun _ => 0)))] H := hP
  have hD : va_D A [(h0, .inr (6, [.ref q1, .ref q2, .ref q3, .ref q4, .int 0, .ref q5, .int 0, .int 0, .int 0, .int 0, .int 0, .int 0, .int 0, .ref q6, .ref q7, .ref q8, .ref q9])), (q1, .inl (cI, 79, .inl (upd (fun _ => 0) 2 6))), (q2, .inl (cI, 316, .inl (fun _ => 0))), (q3, .inl (cI, 79, .inl (fun _ => 0))), (q4, .inl (cI, 79, .inl (fun _ => 0))), (q5, .inl (cC, 60, .inl (fun _ => 0))), (q6, .inl (cI, 8, .inl (fun _ => 0))), (q7, .inl (cI, 8, .inl (fun _ => 0))), (q8, .inl (cI, 4, .inl (fun _ => 0))), (q9, .inl (cI, 4, .inl (fun _ => 0)))] := hD
  refine lv_aload_n hx hb dX8_init_83 rfl (lv_at hl 0 rfl) ?_
  refine va_get (D := G) (ci := 6) (v := .ref q1) (C := RX8) (T := TX8) (N := 17) hx hb htb uin_X8 hown hK hP 0 rfl rfl 0 (by decide) (htb _ fl_X8_7) (fun _ h9 => h9) rfl dX8_init_84 ?_
  refine lv_iconst (v := 5) hx hb dX8_init_87 (by decide) ?_
  refine lv_iconst (v := 4) hx hb dX8_init_88 (by decide) ?_
  refine va_iast hx hb hK hP hD hS 1 0 rfl rfl (by unfold vp_in; decide) dX8_init_89 (fun H locs hP hD hS => ?_)
  have hP : va_P G vwCl [(h0, .inr (6, [.ref q1, .ref q2, .ref q3, .ref q4, .int 0, .ref q5, .int 0, .int 0, .int 0, .int 0, .int 0, .int 0, .int 0, .ref q6, .ref q7, .ref q8, .ref q9])), (q1, .inl (cI, 79, .inl (upd (upd (fun _ => 0) 2 6) 5 4))), (q2, .inl (cI, 316, .inl (fun _ => 0))), (q3, .inl (cI, 79, .inl (fun _ => 0))), (q4, .inl (cI, 79, .inl (fun _ => 0))), (q5, .inl (cC, 60, .inl (fun _ => 0))), (q6, .inl (cI, 8, .inl (fun _ => 0))), (q7, .inl (cI, 8, .inl (fun _ => 0))), (q8, .inl (cI, 4, .inl (fun _ => 0))), (q9, .inl (cI, 4, .inl (fun _ => 0)))] H := hP
  have hD : va_D A [(h0, .inr (6, [.ref q1, .ref q2, .ref q3, .ref q4, .int 0, .ref q5, .int 0, .int 0, .int 0, .int 0, .int 0, .int 0, .int 0, .ref q6, .ref q7, .ref q8, .ref q9])), (q1, .inl (cI, 79, .inl (upd (upd (fun _ => 0) 2 6) 5 4))), (q2, .inl (cI, 316, .inl (fun _ => 0))), (q3, .inl (cI, 79, .inl (fun _ => 0))), (q4, .inl (cI, 79, .inl (fun _ => 0))), (q5, .inl (cC, 60, .inl (fun _ => 0))), (q6, .inl (cI, 8, .inl (fun _ => 0))), (q7, .inl (cI, 8, .inl (fun _ => 0))), (q8, .inl (cI, 4, .inl (fun _ => 0))), (q9, .inl (cI, 4, .inl (fun _ => 0)))] := hD
  refine lv_aload_n hx hb dX8_init_90 rfl (lv_at hl 0 rfl) ?_
  refine va_get (D := G) (ci := 6) (v := .ref q1) (C := RX8) (T := TX8) (N := 17) hx hb htb uin_X8 hown hK hP 0 rfl rfl 0 (by decide) (htb _ fl_X8_7) (fun _ h9 => h9) rfl dX8_init_91 ?_
  refine lv_bipush (v := 6) hx hb dX8_init_94 (by decide) ?_
  refine lv_iconst (v := 4) hx hb dX8_init_96 (by decide) ?_
  refine va_iast hx hb hK hP hD hS 1 0 rfl rfl (by unfold vp_in; decide) dX8_init_97 (fun H locs hP hD hS => ?_)
  have hP : va_P G vwCl [(h0, .inr (6, [.ref q1, .ref q2, .ref q3, .ref q4, .int 0, .ref q5, .int 0, .int 0, .int 0, .int 0, .int 0, .int 0, .int 0, .ref q6, .ref q7, .ref q8, .ref q9])), (q1, .inl (cI, 79, .inl (upd (upd (upd (fun _ => 0) 2 6) 5 4) 6 4))), (q2, .inl (cI, 316, .inl (fun _ => 0))), (q3, .inl (cI, 79, .inl (fun _ => 0))), (q4, .inl (cI, 79, .inl (fun _ => 0))), (q5, .inl (cC, 60, .inl (fun _ => 0))), (q6, .inl (cI, 8, .inl (fun _ => 0))), (q7, .inl (cI, 8, .inl (fun _ => 0))), (q8, .inl (cI, 4, .inl (fun _ => 0))), (q9, .inl (cI, 4, .inl (fun _ => 0)))] H := hP
  have hD : va_D A [(h0, .inr (6, [.ref q1, .ref q2, .ref q3, .ref q4, .int 0, .ref q5, .int 0, .int 0, .int 0, .int 0, .int 0, .int 0, .int 0, .ref q6, .ref q7, .ref q8, .ref q9])), (q1, .inl (cI, 79, .inl (upd (upd (upd (fun _ => 0) 2 6) 5 4) 6 4))), (q2, .inl (cI, 316, .inl (fun _ => 0))), (q3, .inl (cI, 79, .inl (fun _ => 0))), (q4, .inl (cI, 79, .inl (fun _ => 0))), (q5, .inl (cC, 60, .inl (fun _ => 0))), (q6, .inl (cI, 8, .inl (fun _ => 0))), (q7, .inl (cI, 8, .inl (fun _ => 0))), (q8, .inl (cI, 4, .inl (fun _ => 0))), (q9, .inl (cI, 4, .inl (fun _ => 0)))] := hD
  exact W.vret hx hb hr (fun t ht hW => ⟨⟨(), rfl, trivial, q1, q2, q3, q4, q5, q6, q7, q8, q9, by rw [ht]; exact hP, hD⟩, hS.F ht⟩) hS.2.2 dX8_init_98
set_option maxHeartbeats 4000000 in
set_option maxRecDepth 100000 in
theorem c_X7_init (l : Launch) (G : va_G) (cI cC : ClassId) (h0 : Nat) (sz : Nat) : Met l yX7_init (gW yX7_init cX7_init 1 none) ({ frames := 2, cells := 15, slots := 632, locals := 32 }) (va_Pc [.ref h0] (fun U => U.heap.size = sz ∧ va_P G vwCl [(h0, .inr (5, [.null, .null, .null, .null, .null, .null]))] U.heap ∧ va_K G vwCl [(cI, .int), (cC, .char)] U ∧ va_D (fun _ => True) [(h0, .inr (5, [.null, .null, .null, .null, .null, .null]))] ∧ va_Nw (.methodLinkNest RX7 21 yX0_init "StringShades") U ∧ va_Nw (.methodLinkNest RX7 28 yX5_init "StringShades") U ∧ va_Nw (.methodLinkNest RX7 35 yX3_init "StringShades") U ∧ va_Nw (.methodLinkNest RX7 42 yX2_init "StringShades") U)) (va_Qv (fun _ : Unit => True) (fun _ t => ∃ (q1 q2 q3 q4 q5 q6 q7 q8 q9 q10 q11 q12 q13 q14 q15 : Nat), va_P G vwCl [(h0, .inr (5, [.ref q1, .ref q3, .ref q5, .ref q7, .ref q9, .ref q10])), (q1, .inr (1, [.ref q2])), (q2, .inl (cI, 79, .inl (upd (upd (upd (fun _ => 0) 2 6) 5 4) 6 4))), (q3, .inr (1, [.ref q4])), (q4, .inl (cI, 79, .inl (upd (upd (upd (fun _ => 0) 2 6) 5 4) 6 4))), (q5, .inr (0, [.ref q6, .int 0])), (q6, .inl (cI, 316, .inl (fun _ => 0))), (q7, .inr (4, [.ref q8, .int 0])), (q8, .inl (cC, 60, .inl (fun _ => 0))), (q9, .inr (3, [.int 0, .int 0, .int 0, .int 0])), (q10, .inr (2, [.ref q11, .ref q12, .ref q13, .ref q14, .ref q15, .int 0, .int 0, .int 37])), (q11, .inl (cI, 8, .inl (fun _ => 0))), (q12, .inl (cI, 32, .inl (fun _ => 0))), (q13, .inl (cI, 32, .inl (fun _ => 0))), (q14, .inl (cI, 4, .inl (fun _ => 0))), (q15, .inl (cI, 4, .inl (fun _ => 0)))] t.heap ∧ va_D (va_A [(h0, .inr (5, [.null, .null, .null, .null, .null, .null]))] sz) [(h0, .inr (5, [.ref q1, .ref q3, .ref q5, .ref q7, .ref q9, .ref q10])), (q1, .inr (1, [.ref q2])), (q2, .inl (cI, 79, .inl (upd (upd (upd (fun _ => 0) 2 6) 5 4) 6 4))), (q3, .inr (1, [.ref q4])), (q4, .inl (cI, 79, .inl (upd (upd (upd (fun _ => 0) 2 6) 5 4) 6 4))), (q5, .inr (0, [.ref q6, .int 0])), (q6, .inl (cI, 316, .inl (fun _ => 0))), (q7, .inr (4, [.ref q8, .int 0])), (q8, .inl (cC, 60, .inl (fun _ => 0))), (q9, .inr (3, [.int 0, .int 0, .int 0, .int 0])), (q10, .inr (2, [.ref q11, .ref q12, .ref q13, .ref q14, .ref q15, .int 0, .int 0, .int 37])), (q11, .inl (cI, 8, .inl (fun _ => 0))), (q12, .inl (cI, 32, .inl (fun _ => 0))), (q13, .inl (cI, 32, .inl (fun _ => 0))), (q14, .inl (cI, 4, .inl (fun _ => 0))), (q15, .inl (cI, 4, .inl (fun _ => 0)))]) (va_A [(h0, .inr (5, [.null, .null, .null, .null, .null, .null]))] sz)) 15 632 (va_A [(h0, .inr (5, [.null, .null, .null, .null, .null, .null]))] sz) := by
  refine Met.ofW (cc := cX7_init) (maxL := 1) (ret := none) (by decide +kernel) rfl ?_
  intro p e s m args below meth c s₁ B hml hv
  obtain ⟨rfl, hsz, hP, hK, hD0, hNX0, hNX5, hNX3, hNX2⟩ := hv
  have hx := B.exec
  have hb := B.bytes
  have hr := B.returns
  have htb : ∀ w ∈ TB, w.before _ s = true := fun w hw => atoms_spec (ws := gW yX7_init cX7_init 1 none) B.pre w (List.mem_cons_of_mem _ hw)
  have hown : s.vm.findClass RX7 = some m.cls := findClass_of_methodNamed B.named
  have hlocks := B.notSynchronized
  have hin : meth.name = "<init>" := (name_of_methodNamed B.named B.method).1
  subst hsz
  have hD := hD0.self (sz := s.heap.size)
  generalize hAe : va_A [(h0, .inr (5, [.null, .null, .null, .null, .null, .null]))] s.heap.size = A at hD ⊢
  have hA : ∀ q : Nat, s.heap.size ≤ q → A q := fun q h => by rw [← hAe]; exact Or.inr h
  have hS : va_S A s.heap s.heap [] := va_S.rf
  have hP : va_P G vwCl [(h0, .inr (5, [.null, .null, .null, .null, .null, .null]))] s.heap := hP
  have hl := lv_entry ([.ref h0]) (n := 1) (Nat.le_of_ble_eq_true rfl)
  rw [lg_entry_eq]
  generalize (lg_sl ([.ref h0]) ++ List.replicate (1 - (lg_sl ([.ref h0])).length) Slot.unset).toArray = ls at hl ⊢
  have hl : lv_has ls 1 [(0, .ref h0)] := hl
  refine lv_aload_n hx hb dX7_init_0 rfl (lv_at hl 0 rfl) ?_
  refine W.objInit hx hb hown (htb _ ol_X7) (htb _ oi_o) (htb _ oc_o) rfl (by rw [hml]; exact hl.1) rfl dX7_init_1 (Nat.le_of_ble_eq_true rfl) (Nat.le_of_ble_eq_true rfl) ?_
  refine W.eq (g2 := F0 m 4 ls []) rfl ?_
  refine lv_aload_n hx hb dX7_init_4 rfl (lv_at hl 0 rfl) ?_
  refine va_new (ci := 1) (fs := [.null]) (C := RX1) (T := TX1) (N := 1) hx hb htb uin_X1 tyX1 tyX1_ok hown (htb _ cl_X1) (htb _ is_X1) (htb _ mo_X1_init.2.2.1) hK hP hD hS hA rfl (fun j hj => by rcases (show j = 0 by omega) with rfl <;> rfl) (Nat.le_of_ble_eq_true rfl) (Nat.le_of_ble_eq_true rfl) dX7_init_5 (fun q1 H hP hD hS => ?_)
  have hP : va_P G vwCl [(h0, .inr (5, [.null, .null, .null, .null, .null, .null])), (q1, .inr (1, [.null]))] H := hP
  have hD : va_D A [(h0, .inr (5, [.null, .null, .null, .null, .null, .null])), (q1, .inr (1, [.null]))] := hD
  refine W.widen (k := 1) (n := 1) (Nat.le_of_ble_eq_true rfl) (Nat.le_of_ble_eq_true rfl) ?_
  refine lv_dup hx hb dX7_init_8 rfl ?_
  have hPc := hP.sub (ws' := [(q1, .inr (1, [.null]))]) [1] rfl
  have hDc := hD.sub (ws' := [(q1, .inr (1, [.null]))]) [1] (by decide) rfl
  have hFc := va_free (wc := [(q1, .inr (1, [.null]))]) hD hS hA [1] rfl
  refine va_callv (va_runI (As := []) (rest := [.ref q1, .ref h0]) ⟨hx, hb, hml, hown, htb⟩ (c_X1_init l G cI cC q1 H.size) (cwI 0 htb (gw_of mo_X1_init) rfl rfl rfl (htb _ mo_X1_init.2.2.1) (htb _ ln_X7_9) (htb _ ii_X1) rfl mo_X1_init.2.2.2.1 ⟨(Nat.le_of_ble_eq_true rfl), (Nat.le_of_ble_eq_true rfl)⟩) ⟨fun a U g mk q => by obtain ⟨q0, q1, qP, qK, qD⟩ := q; exact ⟨q0, q1, qP, va_K.moved (u := U) (U := U.calling g mk a) (Vm.Alike.refl U.vm) qK, qD⟩, fun U hU hW => ⟨rfl, by rw [hU], by rw [hU]; exact hPc, va_K.moved hW.alike hK, hDc.weaken (fun _ _ _ _ => trivial)⟩⟩ rfl rfl hl.1 rfl (lv_room (Nat.le_of_ble_eq_true rfl)) dX7_init_9 ⟨(Nat.le_of_ble_eq_true rfl), (Nat.le_of_ble_eq_true rfl)⟩) hS (fun q _ h => hFc q h) hFc (fun u t H1 locs ht hvm hw hB hz1 hk1 hS => ?_)
  obtain ⟨q2, hP1, hD1⟩ := hB
  rw [ht] at hP1
  obtain ⟨hP, hD⟩ := va_join (wr := [(h0, .inr (5, [.null, .null, .null, .null, .null, .null]))]) (w1 := [(q1, .inr (1, [.ref q2])), (q2, .inl (cI, 79, .inl (upd (upd (upd (fun _ => 0) 2 6) 5 4) 6 4)))]) hP hD [1] [0] rfl rfl (by decide) (by decide) hk1 hFc hP1 hD1
  generalize H1 = H at hP hS ⊢
  have hP : va_P G vwCl [(h0, .inr (5, [.null, .null, .null, .null, .null, .null])), (q1, .inr (1, [.ref q2])), (q2, .inl (cI, 79, .inl (upd (upd (upd (fun _ => 0) 2 6) 5 4) 6 4)))] H := hP
  have hD : va_D A [(h0, .inr (5, [.null, .null, .null, .null, .null, .null])), (q1, .inr (1, [.ref q2])), (q2, .inl (cI, 79, .inl (upd (upd (upd (fun _ => 0) 2 6) 5 4) 6 4)))] := hD
  refine W.widen (k := 2) (n := 80) (Nat.le_of_ble_eq_true rfl) (Nat.le_of_ble_eq_true rfl) ?_
  refine va_putF (D := G) (ci := 5) (v := .ref q1) (ty := .object "StringShades$House") (C := RX7) (T := TX7) (N := 6) hx hb htb uin_X7 tyX7 tyX7_ok nmX7 hown hK hP hD hS 0 rfl rfl 0 (by decide) (htb _ fl_X7_10) (fun _ h9 => h9) rfl hin rfl (by decide +kernel) rfl rfl (Nat.le_of_ble_eq_true rfl) dX7_init_12 (fun H locs hP hD hS => ?_)
  have hP : va_P G vwCl [(h0, .inr (5, [.ref q1, .null, .null, .null, .null, .null])), (q1, .inr (1, [.ref q2])), (q2, .inl (cI, 79, .inl (upd (upd (upd (fun _ => 0) 2 6) 5 4) 6 4)))] H := hP
  have hD : va_D A [(h0, .inr (5, [.ref q1, .null, .null, .null, .null, .null])), (q1, .inr (1, [.ref q2])), (q2, .inl (cI, 79, .inl (upd (upd (upd (fun _ => 0) 2 6) 5 4) 6 4)))] := hD
  refine lv_aload_n hx hb dX7_init_15 rfl (lv_at hl 0 rfl) ?_
  refine va_new (ci := 1) (fs := [.null]) (C := RX1) (T := TX1) (N := 1) hx hb htb uin_X1 tyX1 tyX1_ok hown (htb _ cl_X1) (htb _ is_X1) (htb _ mo_X1_init.2.2.1) hK hP hD hS hA rfl (fun j hj => by rcases (show j = 0 by omega) with rfl <;> rfl) (Nat.le_of_ble_eq_true rfl) (Nat.le_of_ble_eq_true rfl) dX7_init_16 (fun q3 H hP hD hS => ?_)
  have hP : va_P G vwCl [(h0, .inr (5, [.ref q1, .null, .null, .null, .null, .null])), (q1, .inr (1, [.ref q2])), (q2, .inl (cI, 79, .inl (upd (upd (upd (fun _ => 0) 2 6) 5 4) 6 4))), (q3, .inr (1, [.null]))] H := hP
  have hD : va_D A [(h0, .inr (5, [.ref q1, .null, .null, .null, .null, .null])), (q1, .inr (1, [.ref q2])), (q2, .inl (cI, 79, .inl (upd (upd (upd (fun _ => 0) 2 6) 5 4) 6 4))), (q3, .inr (1, [.null]))] := hD
  refine W.widen (k := 3) (n := 81) (Nat.le_of_ble_eq_true rfl) (Nat.le_of_ble_eq_true rfl) ?_
  refine lv_dup hx hb dX7_init_19 rfl ?_
  have hPc := hP.sub (ws' := [(q3, .inr (1, [.null]))]) [3] rfl
  have hDc := hD.sub (ws' := [(q3, .inr (1, [.null]))]) [3] (by decide) rfl
  have hFc := va_free (wc := [(q3, .inr (1, [.null]))]) hD hS hA [3] rfl
  refine va_callv (va_runI (As := []) (rest := [.ref q3, .ref h0]) ⟨hx, hb, hml, hown, htb⟩ (c_X1_init l G cI cC q3 H.size) (cwI 0 htb (gw_of mo_X1_init) rfl rfl rfl (htb _ mo_X1_init.2.2.1) (htb _ ln_X7_9) (htb _ ii_X1) rfl mo_X1_init.2.2.2.1 ⟨(Nat.le_of_ble_eq_true rfl), (Nat.le_of_ble_eq_true rfl)⟩) ⟨fun a U g mk q => by obtain ⟨q0, q1, qP, qK, qD⟩ := q; exact ⟨q0, q1, qP, va_K.moved (u := U) (U := U.calling g mk a) (Vm.Alike.refl U.vm) qK, qD⟩, fun U hU hW => ⟨rfl, by rw [hU], by rw [hU]; exact hPc, va_K.moved hW.alike hK, hDc.weaken (fun _ _ _ _ => trivial)⟩⟩ rfl rfl hl.1 rfl (lv_room (Nat.le_of_ble_eq_true rfl)) dX7_init_20 ⟨(Nat.le_of_ble_eq_true rfl), (Nat.le_of_ble_eq_true rfl)⟩) hS (fun q _ h => hFc q h) hFc (fun u t H1 locs ht hvm hw hB hz1 hk1 hS => ?_)
  obtain ⟨q4, hP1, hD1⟩ := hB
  rw [ht] at hP1
  obtain ⟨hP, hD⟩ := va_join (wr := [(h0, .inr (5, [.ref q1, .null, .null, .null, .null, .null])), (q1, .inr (1, [.ref q2])), (q2, .inl (cI, 79, .inl (upd (upd (upd (fun _ => 0) 2 6) 5 4) 6 4)))]) (w1 := [(q3, .inr (1, [.ref q4])), (q4, .inl (cI, 79, .inl (upd (upd (upd (fun _ => 0) 2 6) 5 4) 6 4)))]) hP hD [3] [0, 1, 2] rfl rfl (by decide) (by decide) hk1 hFc hP1 hD1
  generalize H1 = H at hP hS ⊢
  have hP : va_P G vwCl [(h0, .inr (5, [.ref q1, .null, .null, .null, .null, .null])), (q1, .inr (1, [.ref q2])), (q2, .inl (cI, 79, .inl (upd (upd (upd (fun _ => 0) 2 6) 5 4) 6 4))), (q3, .inr (1, [.ref q4])), (q4, .inl (cI, 79, .inl (upd (upd (upd (fun _ => 0) 2 6) 5 4) 6 4)))] H := hP
  have hD : va_D A [(h0, .inr (5, [.ref q1, .null, .null, .null, .null, .null])), (q1, .inr (1, [.ref q2])), (q2, .inl (cI, 79, .inl (upd (upd (upd (fun _ => 0) 2 6) 5 4) 6 4))), (q3, .inr (1, [.ref q4])), (q4, .inl (cI, 79, .inl (upd (upd (upd (fun _ => 0) 2 6) 5 4) 6 4)))] := hD
  refine W.widen (k := 4) (n := 160) (Nat.le_of_ble_eq_true rfl) (Nat.le_of_ble_eq_true rfl) ?_
  refine va_putF (D := G) (ci := 5) (v := .ref q3) (ty := .object "StringShades$House") (C := RX7) (T := TX7) (N := 6) hx hb htb uin_X7 tyX7 tyX7_ok nmX7 hown hK hP hD hS 0 rfl rfl 1 (by decide) (htb _ fl_X7_16) (fun _ h9 => h9) rfl hin rfl (by decide +kernel) rfl rfl (Nat.le_of_ble_eq_true rfl) dX7_init_23 (fun H locs hP hD hS => ?_)
  have hP : va_P G vwCl [(h0, .inr (5, [.ref q1, .ref q3, .null, .null, .null, .null])), (q1, .inr (1, [.ref q2])), (q2, .inl (cI, 79, .inl (upd (upd (upd (fun _ => 0) 2 6) 5 4) 6 4))), (q3, .inr (1, [.ref q4])), (q4, .inl (cI, 79, .inl (upd (upd (upd (fun _ => 0) 2 6) 5 4) 6 4)))] H := hP
  have hD : va_D A [(h0, .inr (5, [.ref q1, .ref q3, .null, .null, .null, .null])), (q1, .inr (1, [.ref q2])), (q2, .inl (cI, 79, .inl (upd (upd (upd (fun _ => 0) 2 6) 5 4) 6 4))), (q3, .inr (1, [.ref q4])), (q4, .inl (cI, 79, .inl (upd (upd (upd (fun _ => 0) 2 6) 5 4) 6 4)))] := hD
  refine lv_aload_n hx hb dX7_init_26 rfl (lv_at hl 0 rfl) ?_
  refine va_new (ci := 0) (fs := [.null, .int 0]) (C := RX0) (T := TX0) (N := 2) hx hb htb uin_X0 tyX0 tyX0_ok hown (htb _ cl_X0) (htb _ is_X0) (htb _ mo_X0_init.2.2.1) hK hP hD hS hA rfl (fun j hj => by rcases (show j = 0 ∨ j = 1 by omega) with rfl | rfl <;> rfl) (Nat.le_of_ble_eq_true rfl) (Nat.le_of_ble_eq_true rfl) dX7_init_27 (fun q5 H hP hD hS => ?_)
  have hP : va_P G vwCl [(h0, .inr (5, [.ref q1, .ref q3, .null, .null, .null, .null])), (q1, .inr (1, [.ref q2])), (q2, .inl (cI, 79, .inl (upd (upd (upd (fun _ => 0) 2 6) 5 4) 6 4))), (q3, .inr (1, [.ref q4])), (q4, .inl (cI, 79, .inl (upd (upd (upd (fun _ => 0) 2 6) 5 4) 6 4))), (q5, .inr (0, [.null, .int 0]))] H := hP
  have hD : va_D A [(h0, .inr (5, [.ref q1, .ref q3, .null, .null, .null, .null])), (q1, .inr (1, [.ref q2])), (q2, .inl (cI, 79, .inl (upd (upd (upd (fun _ => 0) 2 6) 5 4) 6 4))), (q3, .inr (1, [.ref q4])), (q4, .inl (cI, 79, .inl (upd (upd (upd (fun _ => 0) 2 6) 5 4) 6 4))), (q5, .inr (0, [.null, .int 0]))] := hD
  refine W.widen (k := 5) (n := 162) (Nat.le_of_ble_eq_true rfl) (Nat.le_of_ble_eq_true rfl) ?_
  refine lv_dup hx hb dX7_init_30 rfl ?_
  have hPc := hP.sub (ws' := [(q5, .inr (0, [.null, .int 0]))]) [5] rfl
  have hDc := hD.sub (ws' := [(q5, .inr (0, [.null, .int 0]))]) [5] (by decide) rfl
  have hFc := va_free (wc := [(q5, .inr (0, [.null, .int 0]))]) hD hS hA [5] rfl
  refine va_callv (va_runIN (As := []) (rest := [.ref q5, .ref h0]) ⟨hx, hb, hml, hown, htb⟩ (c_X0_init l G cI cC q5 H.size) (⟨va_cnB 0 htb (gw_of mo_X0_init) rfl rfl rfl hNX0 (htb _ mo_X0_init.2.2.1) mo_X0_init.2.2.2.1 ⟨(Nat.le_of_ble_eq_true rfl), (Nat.le_of_ble_eq_true rfl)⟩, rfl, htb _ ii_X0⟩) ⟨fun a U g mk q => by obtain ⟨q0, q1, qP, qK, qD⟩ := q; exact ⟨q0, q1, qP, va_K.moved (u := U) (U := U.calling g mk a) (Vm.Alike.refl U.vm) qK, qD⟩, fun U hU hW => ⟨rfl, by rw [hU], by rw [hU]; exact hPc, va_K.moved hW.alike hK, hDc.weaken (fun _ _ _ _ => trivial)⟩⟩ rfl rfl hl.1 rfl (lv_room (Nat.le_of_ble_eq_true rfl)) dX7_init_31 ⟨(Nat.le_of_ble_eq_true rfl), (Nat.le_of_ble_eq_true rfl)⟩) hS (fun q _ h => hFc q h) hFc (fun u t H1 locs ht hvm hw hB hz1 hk1 hS => ?_)
  obtain ⟨q6, hP1, hD1⟩ := hB
  rw [ht] at hP1
  obtain ⟨hP, hD⟩ := va_join (wr := [(h0, .inr (5, [.ref q1, .ref q3, .null, .null, .null, .null])), (q1, .inr (1, [.ref q2])), (q2, .inl (cI, 79, .inl (upd (upd (upd (fun _ => 0) 2 6) 5 4) 6 4))), (q3, .inr (1, [.ref q4])), (q4, .inl (cI, 79, .inl (upd (upd (upd (fun _ => 0) 2 6) 5 4) 6 4)))]) (w1 := [(q5, .inr (0, [.ref q6, .int 0])), (q6, .inl (cI, 316, .inl (fun _ => 0)))]) hP hD [5] [0, 1, 2, 3, 4] rfl rfl (by decide) (by decide) hk1 hFc hP1 hD1
  generalize H1 = H at hP hS ⊢
  have hP : va_P G vwCl [(h0, .inr (5, [.ref q1, .ref q3, .null, .null, .null, .null])), (q1, .inr (1, [.ref q2])), (q2, .inl (cI, 79, .inl (upd (upd (upd (fun _ => 0) 2 6) 5 4) 6 4))), (q3, .inr (1, [.ref q4])), (q4, .inl (cI, 79, .inl (upd (upd (upd (fun _ => 0) 2 6) 5 4) 6 4))), (q5, .inr (0, [.ref q6, .int 0])), (q6, .inl (cI, 316, .inl (fun _ => 0)))] H := hP
  have hD : va_D A [(h0, .inr (5, [.ref q1, .ref q3, .null, .null, .null, .null])), (q1, .inr (1, [.ref q2])), (q2, .inl (cI, 79, .inl (upd (upd (upd (fun _ => 0) 2 6) 5 4) 6 4))), (q3, .inr (1, [.ref q4])), (q4, .inl (cI, 79, .inl (upd (upd (upd (fun _ => 0) 2 6) 5 4) 6 4))), (q5, .inr (0, [.ref q6, .int 0])), (q6, .inl (cI, 316, .inl (fun _ => 0)))] := hD
  refine W.widen (k := 6) (n := 478) (Nat.le_of_ble_eq_true rfl) (Nat.le_of_ble_eq_true rfl) ?_
  refine va_putF (D := G) (ci := 5) (v := .ref q5) (ty := .object "StringShades$History") (C := RX7) (T := TX7) (N := 6) hx hb htb uin_X7 tyX7 tyX7_ok nmX7 hown hK hP hD hS 0 rfl rfl 2 (by decide) (htb _ fl_X7_22) (fun _ h9 => h9) rfl hin rfl (by decide +kernel) rfl rfl (Nat.le_of_ble_eq_true rfl) dX7_init_34 (fun H locs hP hD hS => ?_)
  have hP : va_P G vwCl [(h0, .inr (5, [.ref q1, .ref q3, .ref q5, .null, .null, .null])), (q1, .inr (1, [.ref q2])), (q2, .inl (cI, 79, .inl (upd (upd (upd (fun _ => 0) 2 6) 5 4) 6 4))), (q3, .inr (1, [.ref q4])), (q4, .inl (cI, 79, .inl (upd (upd (upd (fun _ => 0) 2 6) 5 4) 6 4))), (q5, .inr (0, [.ref q6, .int 0])), (q6, .inl (cI, 316, .inl (fun _ => 0)))] H := hP
  have hD : va_D A [(h0, .inr (5, [.ref q1, .ref q3, .ref q5, .null, .null, .null])), (q1, .inr (1, [.ref q2])), (q2, .inl (cI, 79, .inl (upd (upd (upd (fun _ => 0) 2 6) 5 4) 6 4))), (q3, .inr (1, [.ref q4])), (q4, .inl (cI, 79, .inl (upd (upd (upd (fun _ => 0) 2 6) 5 4) 6 4))), (q5, .inr (0, [.ref q6, .int 0])), (q6, .inl (cI, 316, .inl (fun _ => 0)))] := hD
  refine lv_aload_n hx hb dX7_init_37 rfl (lv_at hl 0 rfl) ?_
  refine va_new (ci := 4) (fs := [.null, .int 0]) (C := RX5) (T := TX5) (N := 2) hx hb htb uin_X5 tyX5 tyX5_ok hown (htb _ cl_X5) (htb _ is_X5) (htb _ mo_X5_init.2.2.1) hK hP hD hS hA rfl (fun j hj => by rcases (show j = 0 ∨ j = 1 by omega) with rfl | rfl <;> rfl) (Nat.le_of_ble_eq_true rfl) (Nat.le_of_ble_eq_true rfl) dX7_init_38 (fun q7 H hP hD hS => ?_)
  have hP : va_P G vwCl [(h0, .inr (5, [.ref q1, .ref q3, .ref q5, .null, .null, .null])), (q1, .inr (1, [.ref q2])), (q2, .inl (cI, 79, .inl (upd (upd (upd (fun _ => 0) 2 6) 5 4) 6 4))), (q3, .inr (1, [.ref q4])), (q4, .inl (cI, 79, .inl (upd (upd (upd (fun _ => 0) 2 6) 5 4) 6 4))), (q5, .inr (0, [.ref q6, .int 0])), (q6, .inl (cI, 316, .inl (fun _ => 0))), (q7, .inr (4, [.null, .int 0]))] H := hP
  have hD : va_D A [(h0, .inr (5, [.ref q1, .ref q3, .ref q5, .null, .null, .null])), (q1, .inr (1, [.ref q2])), (q2, .inl (cI, 79, .inl (upd (upd (upd (fun _ => 0) 2 6) 5 4) 6 4))), (q3, .inr (1, [.ref q4])), (q4, .inl (cI, 79, .inl (upd (upd (upd (fun _ => 0) 2 6) 5 4) 6 4))), (q5, .inr (0, [.ref q6, .int 0])), (q6, .inl (cI, 316, .inl (fun _ => 0))), (q7, .inr (4, [.null, .int 0]))] := hD
  refine W.widen (k := 7) (n := 480) (Nat.le_of_ble_eq_true rfl) (Nat.le_of_ble_eq_true rfl) ?_
  refine lv_dup hx hb dX7_init_41 rfl ?_
  have hPc := hP.sub (ws' := [(q7, .inr (4, [.null, .int 0]))]) [7] rfl
  have hDc := hD.sub (ws' := [(q7, .inr (4, [.null, .int 0]))]) [7] (by decide) rfl
  have hFc := va_free (wc := [(q7, .inr (4, [.null, .int 0]))]) hD hS hA [7] rfl
  refine va_callv (va_runIN (As := []) (rest := [.ref q7, .ref h0]) ⟨hx, hb, hml, hown, htb⟩ (c_X5_init l G cI cC q7 H.size) (⟨va_cnB 0 htb (gw_of mo_X5_init) rfl rfl rfl hNX5 (htb _ mo_X5_init.2.2.1) mo_X5_init.2.2.2.1 ⟨(Nat.le_of_ble_eq_true rfl), (Nat.le_of_ble_eq_true rfl)⟩, rfl, htb _ ii_X5⟩) ⟨fun a U g mk q => by obtain ⟨q0, q1, qP, qK, qD⟩ := q; exact ⟨q0, q1, qP, va_K.moved (u := U) (U := U.calling g mk a) (Vm.Alike.refl U.vm) qK, qD⟩, fun U hU hW => ⟨rfl, by rw [hU], by rw [hU]; exact hPc, va_K.moved hW.alike hK, hDc.weaken (fun _ _ _ _ => trivial)⟩⟩ rfl rfl hl.1 rfl (lv_room (Nat.le_of_ble_eq_true rfl)) dX7_init_42 ⟨(Nat.le_of_ble_eq_true rfl), (Nat.le_of_ble_eq_true rfl)⟩) hS (fun q _ h => hFc q h) hFc (fun u t H1 locs ht hvm hw hB hz1 hk1 hS => ?_)
  obtain ⟨q8, hP1, hD1⟩ := hB
  rw [ht] at hP1
  obtain ⟨hP, hD⟩ := va_join (wr := [(h0, .inr (5, [.ref q1, .ref q3, .ref q5, .null, .null, .null])), (q1, .inr (1, [.ref q2])), (q2, .inl (cI, 79, .inl (upd (upd (upd (fun _ => 0) 2 6) 5 4) 6 4))), (q3, .inr (1, [.ref q4])), (q4, .inl (cI, 79, .inl (upd (upd (upd (fun _ => 0) 2 6) 5 4) 6 4))), (q5, .inr (0, [.ref q6, .int 0])), (q6, .inl (cI, 316, .inl (fun _ => 0)))]) (w1 := [(q7, .inr (4, [.ref q8, .int 0])), (q8, .inl (cC, 60, .inl (fun _ => 0)))]) hP hD [7] [0, 1, 2, 3, 4, 5, 6] rfl rfl (by decide) (by decide) hk1 hFc hP1 hD1
  generalize H1 = H at hP hS ⊢
  have hP : va_P G vwCl [(h0, .inr (5, [.ref q1, .ref q3, .ref q5, .null, .null, .null])), (q1, .inr (1, [.ref q2])), (q2, .inl (cI, 79, .inl (upd (upd (upd (fun _ => 0) 2 6) 5 4) 6 4))), (q3, .inr (1, [.ref q4])), (q4, .inl (cI, 79, .inl (upd (upd (upd (fun _ => 0) 2 6) 5 4) 6 4))), (q5, .inr (0, [.ref q6, .int 0])), (q6, .inl (cI, 316, .inl (fun _ => 0))), (q7, .inr (4, [.ref q8, .int 0])), (q8, .inl (cC, 60, .inl (fun _ => 0)))] H := hP
  have hD : va_D A [(h0, .inr (5, [.ref q1, .ref q3, .ref q5, .null, .null, .null])), (q1, .inr (1, [.ref q2])), (q2, .inl (cI, 79, .inl (upd (upd (upd (fun _ => 0) 2 6) 5 4) 6 4))), (q3, .inr (1, [.ref q4])), (q4, .inl (cI, 79, .inl (upd (upd (upd (fun _ => 0) 2 6) 5 4) 6 4))), (q5, .inr (0, [.ref q6, .int 0])), (q6, .inl (cI, 316, .inl (fun _ => 0))), (q7, .inr (4, [.ref q8, .int 0])), (q8, .inl (cC, 60, .inl (fun _ => 0)))] := hD
  refine W.widen (k := 8) (n := 540) (Nat.le_of_ble_eq_true rfl) (Nat.le_of_ble_eq_true rfl) ?_
  refine va_putF (D := G) (ci := 5) (v := .ref q7) (ty := .object "StringShades$Text") (C := RX7) (T := TX7) (N := 6) hx hb htb uin_X7 tyX7 tyX7_ok nmX7 hown hK hP hD hS 0 rfl rfl 3 (by decide) (htb _ fl_X7_29) (fun _ h9 => h9) rfl hin rfl (by decide +kernel) rfl rfl (Nat.le_of_ble_eq_true rfl) dX7_init_45 (fun H locs hP hD hS => ?_)
  have hP : va_P G vwCl [(h0, .inr (5, [.ref q1, .ref q3, .ref q5, .ref q7, .null, .null])), (q1, .inr (1, [.ref q2])), (q2, .inl (cI, 79, .inl (upd (upd (upd (fun _ => 0) 2 6) 5 4) 6 4))), (q3, .inr (1, [.ref q4])), (q4, .inl (cI, 79, .inl (upd (upd (upd (fun _ => 0) 2 6) 5 4) 6 4))), (q5, .inr (0, [.ref q6, .int 0])), (q6, .inl (cI, 316, .inl (fun _ => 0))), (q7, .inr (4, [.ref q8, .int 0])), (q8, .inl (cC, 60, .inl (fun _ => 0)))] H := hP
  have hD : va_D A [(h0, .inr (5, [.ref q1, .ref q3, .ref q5, .ref q7, .null, .null])), (q1, .inr (1, [.ref q2])), (q2, .inl (cI, 79, .inl (upd (upd (upd (fun _ => 0) 2 6) 5 4) 6 4))), (q3, .inr (1, [.ref q4])), (q4, .inl (cI, 79, .inl (upd (upd (upd (fun _ => 0) 2 6) 5 4) 6 4))), (q5, .inr (0, [.ref q6, .int 0])), (q6, .inl (cI, 316, .inl (fun _ => 0))), (q7, .inr (4, [.ref q8, .int 0])), (q8, .inl (cC, 60, .inl (fun _ => 0)))] := hD
  refine lv_aload_n hx hb dX7_init_48 rfl (lv_at hl 0 rfl) ?_
  refine va_new (ci := 3) (fs := [.int 0, .int 0, .int 0, .int 0]) (C := RX3) (T := TX3) (N := 4) hx hb htb uin_X3 tyX3 tyX3_ok hown (htb _ cl_X3) (htb _ is_X3) (htb _ mo_X3_init.2.2.1) hK hP hD hS hA rfl (fun j hj => by rcases (show j = 0 ∨ j = 1 ∨ j = 2 ∨ j = 3 by omega) with rfl | rfl | rfl | rfl <;> rfl) (Nat.le_of_ble_eq_true rfl) (Nat.le_of_ble_eq_true rfl) dX7_init_49 (fun q9 H hP hD hS => ?_)
  have hP : va_P G vwCl [(h0, .inr (5, [.ref q1, .ref q3, .ref q5, .ref q7, .null, .null])), (q1, .inr (1, [.ref q2])), (q2, .inl (cI, 79, .inl (upd (upd (upd (fun _ => 0) 2 6) 5 4) 6 4))), (q3, .inr (1, [.ref q4])), (q4, .inl (cI, 79, .inl (upd (upd (upd (fun _ => 0) 2 6) 5 4) 6 4))), (q5, .inr (0, [.ref q6, .int 0])), (q6, .inl (cI, 316, .inl (fun _ => 0))), (q7, .inr (4, [.ref q8, .int 0])), (q8, .inl (cC, 60, .inl (fun _ => 0))), (q9, .inr (3, [.int 0, .int 0, .int 0, .int 0]))] H := hP
  have hD : va_D A [(h0, .inr (5, [.ref q1, .ref q3, .ref q5, .ref q7, .null, .null])), (q1, .inr (1, [.ref q2])), (q2, .inl (cI, 79, .inl (upd (upd (upd (fun _ => 0) 2 6) 5 4) 6 4))), (q3, .inr (1, [.ref q4])), (q4, .inl (cI, 79, .inl (upd (upd (upd (fun _ => 0) 2 6) 5 4) 6 4))), (q5, .inr (0, [.ref q6, .int 0])), (q6, .inl (cI, 316, .inl (fun _ => 0))), (q7, .inr (4, [.ref q8, .int 0])), (q8, .inl (cC, 60, .inl (fun _ => 0))), (q9, .inr (3, [.int 0, .int 0, .int 0, .int 0]))] := hD
  refine W.widen (k := 9) (n := 544) (Nat.le_of_ble_eq_true rfl) (Nat.le_of_ble_eq_true rfl) ?_
  refine lv_dup hx hb dX7_init_52 rfl ?_
  have hPc := hP.sub (ws' := [(q9, .inr (3, [.int 0, .int 0, .int 0, .int 0]))]) [9] rfl
  have hDc := hD.sub (ws' := [(q9, .inr (3, [.int 0, .int 0, .int 0, .int 0]))]) [9] (by decide) rfl
  have hFc := va_free (wc := [(q9, .inr (3, [.int 0, .int 0, .int 0, .int 0]))]) hD hS hA [9] rfl
  refine va_callv (va_runIN (As := []) (rest := [.ref q9, .ref h0]) ⟨hx, hb, hml, hown, htb⟩ (c_X3_init l G cI cC q9 H.size) (⟨va_cnB 0 htb (gw_of mo_X3_init) rfl rfl rfl hNX3 (htb _ mo_X3_init.2.2.1) mo_X3_init.2.2.2.1 ⟨(Nat.le_of_ble_eq_true rfl), (Nat.le_of_ble_eq_true rfl)⟩, rfl, htb _ ii_X3⟩) ⟨fun a U g mk q => by obtain ⟨q0, q1, qP, qK, qD⟩ := q; exact ⟨q0, q1, qP, va_K.moved (u := U) (U := U.calling g mk a) (Vm.Alike.refl U.vm) qK, qD⟩, fun U hU hW => ⟨rfl, by rw [hU], by rw [hU]; exact hPc, va_K.moved hW.alike hK, hDc.weaken (fun _ _ _ _ => trivial)⟩⟩ rfl rfl hl.1 rfl (lv_room (Nat.le_of_ble_eq_true rfl)) dX7_init_53 ⟨(Nat.le_of_ble_eq_true rfl), (Nat.le_of_ble_eq_true rfl)⟩) hS (fun q _ h => hFc q h) hFc (fun u t H1 locs ht hvm hw hB hz1 hk1 hS => ?_)
  obtain ⟨hP1, hD1⟩ := hB
  rw [ht] at hP1
  obtain ⟨hP, hD⟩ := va_join (wr := [(h0, .inr (5, [.ref q1, .ref q3, .ref q5, .ref q7, .null, .null])), (q1, .inr (1, [.ref q2])), (q2, .inl (cI, 79, .inl (upd (upd (upd (fun _ => 0) 2 6) 5 4) 6 4))), (q3, .inr (1, [.ref q4])), (q4, .inl (cI, 79, .inl (upd (upd (upd (fun _ => 0) 2 6) 5 4) 6 4))), (q5, .inr (0, [.ref q6, .int 0])), (q6, .inl (cI, 316, .inl (fun _ => 0))), (q7, .inr (4, [.ref q8, .int 0])), (q8, .inl (cC, 60, .inl (fun _ => 0)))]) (w1 := [(q9, .inr (3, [.int 0, .int 0, .int 0, .int 0]))]) hP hD [9] [0, 1, 2, 3, 4, 5, 6, 7, 8] rfl rfl (by decide) (by decide) hk1 hFc hP1 hD1
  generalize H1 = H at hP hS ⊢
  have hP : va_P G vwCl [(h0, .inr (5, [.ref q1, .ref q3, .ref q5, .ref q7, .null, .null])), (q1, .inr (1, [.ref q2])), (q2, .inl (cI, 79, .inl (upd (upd (upd (fun _ => 0) 2 6) 5 4) 6 4))), (q3, .inr (1, [.ref q4])), (q4, .inl (cI, 79, .inl (upd (upd (upd (fun _ => 0) 2 6) 5 4) 6 4))), (q5, .inr (0, [.ref q6, .int 0])), (q6, .inl (cI, 316, .inl (fun _ => 0))), (q7, .inr (4, [.ref q8, .int 0])), (q8, .inl (cC, 60, .inl (fun _ => 0))), (q9, .inr (3, [.int 0, .int 0, .int 0, .int 0]))] H := hP
  have hD : va_D A [(h0, .inr (5, [.ref q1, .ref q3, .ref q5, .ref q7, .null, .null])), (q1, .inr (1, [.ref q2])), (q2, .inl (cI, 79, .inl (upd (upd (upd (fun _ => 0) 2 6) 5 4) 6 4))), (q3, .inr (1, [.ref q4])), (q4, .inl (cI, 79, .inl (upd (upd (upd (fun _ => 0) 2 6) 5 4) 6 4))), (q5, .inr (0, [.ref q6, .int 0])), (q6, .inl (cI, 316, .inl (fun _ => 0))), (q7, .inr (4, [.ref q8, .int 0])), (q8, .inl (cC, 60, .inl (fun _ => 0))), (q9, .inr (3, [.int 0, .int 0, .int 0, .int 0]))] := hD
  refine W.widen (k := 9) (n := 544) (Nat.le_of_ble_eq_true rfl) (Nat.le_of_ble_eq_true rfl) ?_
  refine va_putF (D := G) (ci := 5) (v := .ref q9) (ty := .object "StringShades$Reading") (C := RX7) (T := TX7) (N := 6) hx hb htb uin_X7 tyX7 tyX7_ok nmX7 hown hK hP hD hS 0 rfl rfl 4 (by decide) (htb _ fl_X7_36) (fun _ h9 => h9) rfl hin rfl (by decide +kernel) rfl rfl (Nat.le_of_ble_eq_true rfl) dX7_init_56 (fun H locs hP hD hS => ?_)
  have hP : va_P G vwCl [(h0, .inr (5, [.ref q1, .ref q3, .ref q5, .ref q7, .ref q9, .null])), (q1, .inr (1, [.ref q2])), (q2, .inl (cI, 79, .inl (upd (upd (upd (fun _ => 0) 2 6) 5 4) 6 4))), (q3, .inr (1, [.ref q4])), (q4, .inl (cI, 79, .inl (upd (upd (upd (fun _ => 0) 2 6) 5 4) 6 4))), (q5, .inr (0, [.ref q6, .int 0])), (q6, .inl (cI, 316, .inl (fun _ => 0))), (q7, .inr (4, [.ref q8, .int 0])), (q8, .inl (cC, 60, .inl (fun _ => 0))), (q9, .inr (3, [.int 0, .int 0, .int 0, .int 0]))] H := hP
  have hD : va_D A [(h0, .inr (5, [.ref q1, .ref q3, .ref q5, .ref q7, .ref q9, .null])), (q1, .inr (1, [.ref q2])), (q2, .inl (cI, 79, .inl (upd (upd (upd (fun _ => 0) 2 6) 5 4) 6 4))), (q3, .inr (1, [.ref q4])), (q4, .inl (cI, 79, .inl (upd (upd (upd (fun _ => 0) 2 6) 5 4) 6 4))), (q5, .inr (0, [.ref q6, .int 0])), (q6, .inl (cI, 316, .inl (fun _ => 0))), (q7, .inr (4, [.ref q8, .int 0])), (q8, .inl (cC, 60, .inl (fun _ => 0))), (q9, .inr (3, [.int 0, .int 0, .int 0, .int 0]))] := hD
  refine lv_aload_n hx hb dX7_init_59 rfl (lv_at hl 0 rfl) ?_
  refine va_new (ci := 2) (fs := [.null, .null, .null, .null, .null, .int 0, .int 0, .int 0]) (C := RX2) (T := TX2) (N := 8) hx hb htb uin_X2 tyX2 tyX2_ok hown (htb _ cl_X2) (htb _ is_X2) (htb _ mo_X2_init.2.2.1) hK hP hD hS hA rfl (fun j hj => by rcases (show j = 0 ∨ j = 1 ∨ j = 2 ∨ j = 3 ∨ j = 4 ∨ j = 5 ∨ j = 6 ∨ j = 7 by omega) with rfl | rfl | rfl | rfl | rfl | rfl | rfl | rfl <;> rfl) (Nat.le_of_ble_eq_true rfl) (Nat.le_of_ble_eq_true rfl) dX7_init_60 (fun q10 H hP hD hS => ?_)
  have hP : va_P G vwCl [(h0, .inr (5, [.ref q1, .ref q3, .ref q5, .ref q7, .ref q9, .null])), (q1, .inr (1, [.ref q2])), (q2, .inl (cI, 79, .inl (upd (upd (upd (fun _ => 0) 2 6) 5 4) 6 4))), (q3, .inr (1, [.ref q4])), (q4, .inl (cI, 79, .inl (upd (upd (upd (fun _ => 0) 2 6) 5 4) 6 4))), (q5, .inr (0, [.ref q6, .int 0])), (q6, .inl (cI, 316, .inl (fun _ => 0))), (q7, .inr (4, [.ref q8, .int 0])), (q8, .inl (cC, 60, .inl (fun _ => 0))), (q9, .inr (3, [.int 0, .int 0, .int 0, .int 0])), (q10, .inr (2, [.null, .null, .null, .null, .null, .int 0, .int 0, .int 0]))] H := hP
  have hD : va_D A [(h0, .inr (5, [.ref q1, .ref q3, .ref q5, .ref q7, .ref q9, .null])), (q1, .inr (1, [.ref q2])), (q2, .inl (cI, 79, .inl (upd (upd (upd (fun _ => 0) 2 6) 5 4) 6 4))), (q3, .inr (1, [.ref q4])), (q4, .inl (cI, 79, .inl (upd (upd (upd (fun _ => 0) 2 6) 5 4) 6 4))), (q5, .inr (0, [.ref q6, .int 0])), (q6, .inl (cI, 316, .inl (fun _ => 0))), (q7, .inr (4, [.ref q8, .int 0])), (q8, .inl (cC, 60, .inl (fun _ => 0))), (q9, .inr (3, [.int 0, .int 0, .int 0, .int 0])), (q10, .inr (2, [.null, .null, .null, .null, .null, .int 0, .int 0, .int 0]))] := hD
  refine W.widen (k := 10) (n := 552) (Nat.le_of_ble_eq_true rfl) (Nat.le_of_ble_eq_true rfl) ?_
  refine lv_dup hx hb dX7_init_63 rfl ?_
  have hPc := hP.sub (ws' := [(q10, .inr (2, [.null, .null, .null, .null, .null, .int 0, .int 0, .int 0]))]) [10] rfl
  have hDc := hD.sub (ws' := [(q10, .inr (2, [.null, .null, .null, .null, .null, .int 0, .int 0, .int 0]))]) [10] (by decide) rfl
  have hFc := va_free (wc := [(q10, .inr (2, [.null, .null, .null, .null, .null, .int 0, .int 0, .int 0]))]) hD hS hA [10] rfl
  refine va_callv (va_runIN (As := []) (rest := [.ref q10, .ref h0]) ⟨hx, hb, hml, hown, htb⟩ (c_X2_init l G cI cC q10 H.size) (⟨va_cnB 0 htb (gw_of mo_X2_init) rfl rfl rfl hNX2 (htb _ mo_X2_init.2.2.1) mo_X2_init.2.2.2.1 ⟨(Nat.le_of_ble_eq_true rfl), (Nat.le_of_ble_eq_true rfl)⟩, rfl, htb _ ii_X2⟩) ⟨fun a U g mk q => by obtain ⟨q0, q1, qP, qK, qD⟩ := q; exact ⟨q0, q1, qP, va_K.moved (u := U) (U := U.calling g mk a) (Vm.Alike.refl U.vm) qK, qD⟩, fun U hU hW => ⟨rfl, by rw [hU], by rw [hU]; exact hPc, va_K.moved hW.alike hK, hDc.weaken (fun _ _ _ _ => trivial)⟩⟩ rfl rfl hl.1 rfl (lv_room (Nat.le_of_ble_eq_true rfl)) dX7_init_64 ⟨(Nat.le_of_ble_eq_true rfl), (Nat.le_of_ble_eq_true rfl)⟩) hS (fun q _ h => hFc q h) hFc (fun u t H1 locs ht hvm hw hB hz1 hk1 hS => ?_)
  obtain ⟨q11, q12, q13, q14, q15, hP1, hD1⟩ := hB
  rw [ht] at hP1
  obtain ⟨hP, hD⟩ := va_join (wr := [(h0, .inr (5, [.ref q1, .ref q3, .ref q5, .ref q7, .ref q9, .null])), (q1, .inr (1, [.ref q2])), (q2, .inl (cI, 79, .inl (upd (upd (upd (fun _ => 0) 2 6) 5 4) 6 4))), (q3, .inr (1, [.ref q4])), (q4, .inl (cI, 79, .inl (upd (upd (upd (fun _ => 0) 2 6) 5 4) 6 4))), (q5, .inr (0, [.ref q6, .int 0])), (q6, .inl (cI, 316, .inl (fun _ => 0))), (q7, .inr (4, [.ref q8, .int 0])), (q8, .inl (cC, 60, .inl (fun _ => 0))), (q9, .inr (3, [.int 0, .int 0, .int 0, .int 0]))]) (w1 := [(q10, .inr (2, [.ref q11, .ref q12, .ref q13, .ref q14, .ref q15, .int 0, .int 0, .int 37])), (q11, .inl (cI, 8, .inl (fun _ => 0))), (q12, .inl (cI, 32, .inl (fun _ => 0))), (q13, .inl (cI, 32, .inl (fun _ => 0))), (q14, .inl (cI, 4, .inl (fun _ => 0))), (q15, .inl (cI, 4, .inl (fun _ => 0)))]) hP hD [10] [0, 1, 2, 3, 4, 5, 6, 7, 8, 9] rfl rfl (by decide) (by decide) hk1 hFc hP1 hD1
  generalize H1 = H at hP hS ⊢
  have hP : va_P G vwCl [(h0, .inr (5, [.ref q1, .ref q3, .ref q5, .ref q7, .ref q9, .null])), (q1, .inr (1, [.ref q2])), (q2, .inl (cI, 79, .inl (upd (upd (upd (fun _ => 0) 2 6) 5 4) 6 4))), (q3, .inr (1, [.ref q4])), (q4, .inl (cI, 79, .inl (upd (upd (upd (fun _ => 0) 2 6) 5 4) 6 4))), (q5, .inr (0, [.ref q6, .int 0])), (q6, .inl (cI, 316, .inl (fun _ => 0))), (q7, .inr (4, [.ref q8, .int 0])), (q8, .inl (cC, 60, .inl (fun _ => 0))), (q9, .inr (3, [.int 0, .int 0, .int 0, .int 0])), (q10, .inr (2, [.ref q11, .ref q12, .ref q13, .ref q14, .ref q15, .int 0, .int 0, .int 37])), (q11, .inl (cI, 8, .inl (fun _ => 0))), (q12, .inl (cI, 32, .inl (fun _ => 0))), (q13, .inl (cI, 32, .inl (fun _ => 0))), (q14, .inl (cI, 4, .inl (fun _ => 0))), (q15, .inl (cI, 4, .inl (fun _ => 0)))] H := hP
  have hD : va_D A [(h0, .inr (5, [.ref q1, .ref q3, .ref q5, .ref q7, .ref q9, .null])), (q1, .inr (1, [.ref q2])), (q2, .inl (cI, 79, .inl (upd (upd (upd (fun _ => 0) 2 6) 5 4) 6 4))), (q3, .inr (1, [.ref q4])), (q4, .inl (cI, 79, .inl (upd (upd (upd (fun _ => 0) 2 6) 5 4) 6 4))), (q5, .inr (0, [.ref q6, .int 0])), (q6, .inl (cI, 316, .inl (fun _ => 0))), (q7, .inr (4, [.ref q8, .int 0])), (q8, .inl (cC, 60, .inl (fun _ => 0))), (q9, .inr (3, [.int 0, .int 0, .int 0, .int 0])), (q10, .inr (2, [.ref q11, .ref q12, .ref q13, .ref q14, .ref q15, .int 0, .int 0, .int 37])), (q11, .inl (cI, 8, .inl (fun _ => 0))), (q12, .inl (cI, 32, .inl (fun _ => 0))), (q13, .inl (cI, 32, .inl (fun _ => 0))), (q14, .inl (cI, 4, .inl (fun _ => 0))), (q15, .inl (cI, 4, .inl (fun _ => 0)))] := hD
  refine W.widen (k := 15) (n := 632) (Nat.le_of_ble_eq_true rfl) (Nat.le_of_ble_eq_true rfl) ?_
  refine va_putF (D := G) (ci := 5) (v := .ref q10) (ty := .object "StringShades$Pulls") (C := RX7) (T := TX7) (N := 6) hx hb htb uin_X7 tyX7 tyX7_ok nmX7 hown hK hP hD hS 0 rfl rfl 5 (by decide) (htb _ fl_X7_43) (fun _ h9 => h9) rfl hin rfl (by decide +kernel) rfl rfl (Nat.le_of_ble_eq_true rfl) dX7_init_67 (fun H locs hP hD hS => ?_)
  have hP : va_P G vwCl [(h0, .inr (5, [.ref q1, .ref q3, .ref q5, .ref q7, .ref q9, .ref q10])), (q1, .inr (1, [.ref q2])), (q2, .inl (cI, 79, .inl (upd (upd (upd (fun _ => 0) 2 6) 5 4) 6 4))), (q3, .inr (1, [.ref q4])), (q4, .inl (cI, 79, .inl (upd (upd (upd (fun _ => 0) 2 6) 5 4) 6 4))), (q5, .inr (0, [.ref q6, .int 0])), (q6, .inl (cI, 316, .inl (fun _ => 0))), (q7, .inr (4, [.ref q8, .int 0])), (q8, .inl (cC, 60, .inl (fun _ => 0))), (q9, .inr (3, [.int 0, .int 0, .int 0, .int 0])), (q10, .inr (2, [.ref q11, .ref q12, .ref q13, .ref q14, .ref q15, .int 0, .int 0, .int 37])), (q11, .inl (cI, 8, .inl (fun _ => 0))), (q12, .inl (cI, 32, .inl (fun _ => 0))), (q13, .inl (cI, 32, .inl (fun _ => 0))), (q14, .inl (cI, 4, .inl (fun _ => 0))), (q15, .inl (cI, 4, .inl (fun _ => 0)))] H := hP
  have hD : va_D A [(h0, .inr (5, [.ref q1, .ref q3, .ref q5, .ref q7, .ref q9, .ref q10])), (q1, .inr (1, [.ref q2])), (q2, .inl (cI, 79, .inl (upd (upd (upd (fun _ => 0) 2 6) 5 4) 6 4))), (q3, .inr (1, [.ref q4])), (q4, .inl (cI, 79, .inl (upd (upd (upd (fun _ => 0) 2 6) 5 4) 6 4))), (q5, .inr (0, [.ref q6, .int 0])), (q6, .inl (cI, 316, .inl (fun _ => 0))), (q7, .inr (4, [.ref q8, .int 0])), (q8, .inl (cC, 60, .inl (fun _ => 0))), (q9, .inr (3, [.int 0, .int 0, .int 0, .int 0])), (q10, .inr (2, [.ref q11, .ref q12, .ref q13, .ref q14, .ref q15, .int 0, .int 0, .int 37])), (q11, .inl (cI, 8, .inl (fun _ => 0))), (q12, .inl (cI, 32, .inl (fun _ => 0))), (q13, .inl (cI, 32, .inl (fun _ => 0))), (q14, .inl (cI, 4, .inl (fun _ => 0))), (q15, .inl (cI, 4, .inl (fun _ => 0)))] := hD
  exact W.vret hx hb hr (fun t ht hW => ⟨⟨(), rfl, trivial, q1, q2, q3, q4, q5, q6, q7, q8, q9, q10, q11, q12, q13, q14, q15, by rw [ht]; exact hP, hD⟩, hS.F ht⟩) hS.2.2 dX7_init_70
