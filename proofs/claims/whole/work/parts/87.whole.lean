/-! the law from its entry -/
set_option maxHeartbeats 4000000 in
set_option maxRecDepth 100000 in
theorem whole_start {p : Program} {e : Env} {s : State} {m : MethodId} {below : List Frame} {meth : Method} {c : Code} (l : Launch) (hflags : l.flags = flags0) {b L : Nat} {xs : Nat → Int32} (hL : L ≤ 2048) (C0 : lw_At p s m meth c b L xs) : W p l e room_1 s m #[Value.ref b] below meth c s.heap [] 0 0 (lw_Z below #[Value.ref b] s) (entryFrame m ([Value.ref b] : List Value).toArray 4) := by
  obtain ⟨hx, hb, hr, hml, hown0, hts, hX, hbl, hlocks, hgv⟩ := id C0
  have hown : s.vm.findClass RL = some m.cls := hown0
  have htb : ∀ w ∈ TB, w.before #[Value.ref b] s = true := fun w hw => hts w (List.mem_filter.mp hw).1
  have hs := flat_of_before _ hgv
  obtain ⟨G, cI, cC, hK⟩ := lw_known htb
  obtain ⟨adK, adV, hst1, hst2⟩ := lw_strings hs
  obtain ⟨hz1, fv, hz2, hfv⟩ := lw_static hts hs
  have hA : ∀ q : Nat, s.heap.size ≤ q → lA s q := fun _ h => h
  have hS : va_S (lA s) s.heap s.heap [] := va_S.rf
  have hP : va_P G vwCl [] s.heap := fun k q h => by simp at h
  have hD : va_D (lA s) [] := ⟨fun i j p q h => by simp at h, fun k q h => by simp at h⟩
  have hl := lv_entry ([.ref b]) (n := 4) (Nat.le_of_ble_eq_true rfl)
  rw [lg_entry_eq]
  generalize (lg_sl ([.ref b]) ++ List.replicate (4 - (lg_sl ([.ref b])).length) Slot.unset).toArray = ls at hl ⊢
  have hl : lv_has ls 4 [(0, .ref b)] := hl
  refine va_new (ci := 5) (fs := [.null, .null, .null, .null, .null, .null]) (C := RX7) (T := TX7) (N := 6) hx hb htb uin_X7 tyX7 tyX7_ok hown (htb _ cl_X7) (htb _ is_X7) (htb _ mo_X7_init.2.2.1) hK hP hD hS hA rfl (fun j hj => by rcases (show j = 0 ∨ j = 1 ∨ j = 2 ∨ j = 3 ∨ j = 4 ∨ j = 5 by omega) with rfl | rfl | rfl | rfl | rfl | rfl <;> rfl) (Nat.le_of_ble_eq_true rfl) (Nat.le_of_ble_eq_true rfl) dL_law_0 (fun x0 H hP hD hS => ?_)
  have hP : va_P G vwCl [(x0, .inr (5, [.null, .null, .null, .null, .null, .null]))] H := hP
  have hD : va_D (lA s) [(x0, .inr (5, [.null, .null, .null, .null, .null, .null]))] := hD
  refine W.widen (k := 1) (n := 6) (Nat.le_of_ble_eq_true rfl) (Nat.le_of_ble_eq_true rfl) ?_
  refine lv_dup hx hb dL_law_3 rfl ?_
  have hPc := hP.sub (ws' := [(x0, .inr (5, [.null, .null, .null, .null, .null, .null]))]) [0] rfl
  have hDc := hD.sub (ws' := [(x0, .inr (5, [.null, .null, .null, .null, .null, .null]))]) [0] (by decide) rfl
  have hFc := va_free (wc := [(x0, .inr (5, [.null, .null, .null, .null, .null, .null]))]) hD hS hA [0] rfl
  refine va_callv (va_runI (As := []) (rest := [.ref x0]) ⟨hx, hb, hml, hown, htb⟩ (c_X7_init l G cI cC x0 H.size) (cwI 0 htb (gw_of mo_X7_init) rfl rfl rfl (htb _ mo_X7_init.2.2.1) (htb _ ln_L_9) (htb _ ii_X7) rfl mo_X7_init.2.2.2.1 ⟨(Nat.le_of_ble_eq_true rfl), (Nat.le_of_ble_eq_true rfl)⟩) ⟨fun a U g mk q => by obtain ⟨q0, q1, qP, qK, qD, n1, n2, n3, n4⟩ := q; exact ⟨q0, q1, qP, va_K.moved (u := U) (U := U.calling g mk a) (Vm.Alike.refl U.vm) qK, qD, va_Nw.same (u := U) rfl rfl n1, va_Nw.same (u := U) rfl rfl n2, va_Nw.same (u := U) rfl rfl n3, va_Nw.same (u := U) rfl rfl n4⟩, fun U hU hW => ⟨rfl, by rw [hU], by rw [hU]; exact hPc, va_K.moved hW.alike hK, hDc.weaken (fun _ _ _ _ => trivial), va_Nw.warmM hW (nw_X7_21 hts), va_Nw.warmM hW (nw_X7_28 hts), va_Nw.warmM hW (nw_X7_35 hts), va_Nw.warmM hW (nw_X7_42 hts)⟩⟩ rfl rfl hl.1 rfl (lv_room (Nat.le_of_ble_eq_true rfl)) dL_law_4 ⟨(Nat.le_of_ble_eq_true rfl), (Nat.le_of_ble_eq_true rfl)⟩) hS (fun q _ h => hFc q h) hFc (fun u t H1 locs ht hvm hw hB hz3 hk1 hS => ?_)
  obtain ⟨q1, q2, q3, q4, q5, q6, q7, q8, q9, q10, q11, q12, q13, q14, q15, hP1, hD1⟩ := hB
  rw [ht] at hP1
  obtain ⟨hP, hD⟩ := va_join (wr := []) (w1 := [(x0, .inr (5, [.ref q1, .ref q3, .ref q5, .ref q7, .ref q9, .ref q10])), (q1, .inr (1, [.ref q2])), (q2, .inl (cI, 79, .inl (upd (upd (upd (fun _ => 0) 2 6) 5 4) 6 4))), (q3, .inr (1, [.ref q4])), (q4, .inl (cI, 79, .inl (upd (upd (upd (fun _ => 0) 2 6) 5 4) 6 4))), (q5, .inr (0, [.ref q6, .int 0])), (q6, .inl (cI, 316, .inl (fun _ => 0))), (q7, .inr (4, [.ref q8, .int 0])), (q8, .inl (cC, 60, .inl (fun _ => 0))), (q9, .inr (3, [.int 0, .int 0, .int 0, .int 0])), (q10, .inr (2, [.ref q11, .ref q12, .ref q13, .ref q14, .ref q15, .int 0, .int 0, .int 37])), (q11, .inl (cI, 8, .inl (fun _ => 0))), (q12, .inl (cI, 32, .inl (fun _ => 0))), (q13, .inl (cI, 32, .inl (fun _ => 0))), (q14, .inl (cI, 4, .inl (fun _ => 0))), (q15, .inl (cI, 4, .inl (fun _ => 0)))]) hP hD [0] [] rfl rfl (by decide) (by decide) hk1 hFc hP1 hD1
  generalize H1 = H at hP hS ⊢
  have hP : va_P G vwCl [(x0, .inr (5, [.ref q1, .ref q3, .ref q5, .ref q7, .ref q9, .ref q10])), (q1, .inr (1, [.ref q2])), (q2, .inl (cI, 79, .inl (upd (upd (upd (fun _ => 0) 2 6) 5 4) 6 4))), (q3, .inr (1, [.ref q4])), (q4, .inl (cI, 79, .inl (upd (upd (upd (fun _ => 0) 2 6) 5 4) 6 4))), (q5, .inr (0, [.ref q6, .int 0])), (q6, .inl (cI, 316, .inl (fun _ => 0))), (q7, .inr (4, [.ref q8, .int 0])), (q8, .inl (cC, 60, .inl (fun _ => 0))), (q9, .inr (3, [.int 0, .int 0, .int 0, .int 0])), (q10, .inr (2, [.ref q11, .ref q12, .ref q13, .ref q14, .ref q15, .int 0, .int 0, .int 37])), (q11, .inl (cI, 8, .inl (fun _ => 0))), (q12, .inl (cI, 32, .inl (fun _ => 0))), (q13, .inl (cI, 32, .inl (fun _ => 0))), (q14, .inl (cI, 4, .inl (fun _ => 0))), (q15, .inl (cI, 4, .inl (fun _ => 0)))] H := hP
  have hD : va_D (lA s) [(x0, .inr (5, [.ref q1, .ref q3, .ref q5, .ref q7, .ref q9, .ref q10])), (q1, .inr (1, [.ref q2])), (q2, .inl (cI, 79, .inl (upd (upd (upd (fun _ => 0) 2 6) 5 4) 6 4))), (q3, .inr (1, [.ref q4])), (q4, .inl (cI, 79, .inl (upd (upd (upd (fun _ => 0) 2 6) 5 4) 6 4))), (q5, .inr (0, [.ref q6, .int 0])), (q6, .inl (cI, 316, .inl (fun _ => 0))), (q7, .inr (4, [.ref q8, .int 0])), (q8, .inl (cC, 60, .inl (fun _ => 0))), (q9, .inr (3, [.int 0, .int 0, .int 0, .int 0])), (q10, .inr (2, [.ref q11, .ref q12, .ref q13, .ref q14, .ref q15, .int 0, .int 0, .int 37])), (q11, .inl (cI, 8, .inl (fun _ => 0))), (q12, .inl (cI, 32, .inl (fun _ => 0))), (q13, .inl (cI, 32, .inl (fun _ => 0))), (q14, .inl (cI, 4, .inl (fun _ => 0))), (q15, .inl (cI, 4, .inl (fun _ => 0)))] := hD
  refine W.widen (k := 16) (n := 638) (Nat.le_of_ble_eq_true rfl) (Nat.le_of_ble_eq_true rfl) ?_
  refine lv_astore_n (lv' := [(1, .ref x0), (0, .ref b)]) hx hb dL_law_7 rfl hl (by decide) rfl (fun ls hl => ?_)
  refine va_new (ci := 6) (fs := [.null, .null, .null, .null, .int 0, .null, .int 0, .int 0, .int 0, .int 0, .int 0, .int 0, .int 0, .null, .null, .null, .null]) (C := RX8) (T := TX8) (N := 17) hx hb htb uin_X8 tyX8 tyX8_ok hown (htb _ cl_X8) (htb _ is_X8) (htb _ mo_X8_init.2.2.1) hK hP hD hS hA rfl (fun j hj => by rcases (show j = 0 ∨ j = 1 ∨ j = 2 ∨ j = 3 ∨ j = 4 ∨ j = 5 ∨ j = 6 ∨ j = 7 ∨ j = 8 ∨ j = 9 ∨ j = 10 ∨ j = 11 ∨ j = 12 ∨ j = 13 ∨ j = 14 ∨ j = 15 ∨ j = 16 by omega) with rfl | rfl | rfl | rfl | rfl | rfl | rfl | rfl | rfl | rfl | rfl | rfl | rfl | rfl | rfl | rfl | rfl <;> rfl) (Nat.le_of_ble_eq_true rfl) (Nat.le_of_ble_eq_true rfl) dL_law_8 (fun y0 H hP hD hS => ?_)
  have hP : va_P G vwCl [(x0, .inr (5, [.ref q1, .ref q3, .ref q5, .ref q7, .ref q9, .ref q10])), (q1, .inr (1, [.ref q2])), (q2, .inl (cI, 79, .inl (upd (upd (upd (fun _ => 0) 2 6) 5 4) 6 4))), (q3, .inr (1, [.ref q4])), (q4, .inl (cI, 79, .inl (upd (upd (upd (fun _ => 0) 2 6) 5 4) 6 4))), (q5, .inr (0, [.ref q6, .int 0])), (q6, .inl (cI, 316, .inl (fun _ => 0))), (q7, .inr (4, [.ref q8, .int 0])), (q8, .inl (cC, 60, .inl (fun _ => 0))), (q9, .inr (3, [.int 0, .int 0, .int 0, .int 0])), (q10, .inr (2, [.ref q11, .ref q12, .ref q13, .ref q14, .ref q15, .int 0, .int 0, .int 37])), (q11, .inl (cI, 8, .inl (fun _ => 0))), (q12, .inl (cI, 32, .inl (fun _ => 0))), (q13, .inl (cI, 32, .inl (fun _ => 0))), (q14, .inl (cI, 4, .inl (fun _ => 0))), (q15, .inl (cI, 4, .inl (fun _ => 0))), (y0, .inr (6, [.null, .null, .null, .null, .int 0, .null, .int 0, .int 0, .int 0, .int 0, .int 0, .int 0, .int 0, .null, .null, .null, .null]))] H := hP
  have hD : va_D (lA s) [(x0, .inr (5, [.ref q1, .ref q3, .ref q5, .ref q7, .ref q9, .ref q10])), (q1, .inr (1, [.ref q2])), (q2, .inl (cI, 79, .inl (upd (upd (upd (fun _ => 0) 2 6) 5 4) 6 4))), (q3, .inr (1, [.ref q4])), (q4, .inl (cI, 79, .inl (upd (upd (upd (fun _ => 0) 2 6) 5 4) 6 4))), (q5, .inr (0, [.ref q6, .int 0])), (q6, .inl (cI, 316, .inl (fun _ => 0))), (q7, .inr (4, [.ref q8, .int 0])), (q8, .inl (cC, 60, .inl (fun _ => 0))), (q9, .inr (3, [.int 0, .int 0, .int 0, .int 0])), (q10, .inr (2, [.ref q11, .ref q12, .ref q13, .ref q14, .ref q15, .int 0, .int 0, .int 37])), (q11, .inl (cI, 8, .inl (fun _ => 0))), (q12, .inl (cI, 32, .inl (fun _ => 0))), (q13, .inl (cI, 32, .inl (fun _ => 0))), (q14, .inl (cI, 4, .inl (fun _ => 0))), (q15, .inl (cI, 4, .inl (fun _ => 0))), (y0, .inr (6, [.null, .null, .null, .null, .int 0, .null, .int 0, .int 0, .int 0, .int 0, .int 0, .int 0, .int 0, .null, .null, .null, .null]))] := hD
  refine W.widen (k := 17) (n := 655) (Nat.le_of_ble_eq_true rfl) (Nat.le_of_ble_eq_true rfl) ?_
  refine lv_dup hx hb dL_law_11 rfl ?_
  have hPc := hP.sub (ws' := [(y0, .inr (6, [.null, .null, .null, .null, .int 0, .null, .int 0, .int 0, .int 0, .int 0, .int 0, .int 0, .int 0, .null, .null, .null, .null]))]) [16] rfl
  have hDc := hD.sub (ws' := [(y0, .inr (6, [.null, .null, .null, .null, .int 0, .null, .int 0, .int 0, .int 0, .int 0, .int 0, .int 0, .int 0, .null, .null, .null, .null]))]) [16] (by decide) rfl
  have hFc := va_free (wc := [(y0, .inr (6, [.null, .null, .null, .null, .int 0, .null, .int 0, .int 0, .int 0, .int 0, .int 0, .int 0, .int 0, .null, .null, .null, .null]))]) hD hS hA [16] rfl
  refine va_callv (va_runI (As := []) (rest := [.ref y0]) ⟨hx, hb, hml, hown, htb⟩ (c_X8_init l G cI cC y0 H.size) (cwI 0 htb (gw_of mo_X8_init) rfl rfl rfl (htb _ mo_X8_init.2.2.1) (htb _ ln_L_12) (htb _ ii_X8) rfl mo_X8_init.2.2.2.1 ⟨(Nat.le_of_ble_eq_true rfl), (Nat.le_of_ble_eq_true rfl)⟩) ⟨fun a U g mk q => by obtain ⟨q0, q1, qP, qK, qD⟩ := q; exact ⟨q0, q1, qP, va_K.moved (u := U) (U := U.calling g mk a) (Vm.Alike.refl U.vm) qK, qD⟩, fun U hU hW => ⟨rfl, by rw [hU], by rw [hU]; exact hPc, va_K.moved hW.alike hK, hDc.weaken (fun _ _ _ _ => trivial)⟩⟩ rfl rfl hl.1 rfl (lv_room (Nat.le_of_ble_eq_true rfl)) dL_law_12 ⟨(Nat.le_of_ble_eq_true rfl), (Nat.le_of_ble_eq_true rfl)⟩) hS (fun q _ h => hFc q h) hFc (fun u t H1 locs ht hvm hw hB hz3 hk1 hS => ?_)
  obtain ⟨y1, y2, y3, y4, y5, y6, y7, y8, y9, hP1, hD1⟩ := hB
  rw [ht] at hP1
  obtain ⟨hP, hD⟩ := va_join (wr := [(x0, .inr (5, [.ref q1, .ref q3, .ref q5, .ref q7, .ref q9, .ref q10])), (q1, .inr (1, [.ref q2])), (q2, .inl (cI, 79, .inl (upd (upd (upd (fun _ => 0) 2 6) 5 4) 6 4))), (q3, .inr (1, [.ref q4])), (q4, .inl (cI, 79, .inl (upd (upd (upd (fun _ => 0) 2 6) 5 4) 6 4))), (q5, .inr (0, [.ref q6, .int 0])), (q6, .inl (cI, 316, .inl (fun _ => 0))), (q7, .inr (4, [.ref q8, .int 0])), (q8, .inl (cC, 60, .inl (fun _ => 0))), (q9, .inr (3, [.int 0, .int 0, .int 0, .int 0])), (q10, .inr (2, [.ref q11, .ref q12, .ref q13, .ref q14, .ref q15, .int 0, .int 0, .int 37])), (q11, .inl (cI, 8, .inl (fun _ => 0))), (q12, .inl (cI, 32, .inl (fun _ => 0))), (q13, .inl (cI, 32, .inl (fun _ => 0))), (q14, .inl (cI, 4, .inl (fun _ => 0))), (q15, .inl (cI, 4, .inl (fun _ => 0)))]) (w1 := [(y0, .inr (6, [.ref y1, .ref y2, .ref y3, .ref y4, .int 0, .ref y5, .int 0, .int 0, .int 0, .int 0, .int 0, .int 0, .int 0, .ref y6, .ref y7, .ref y8, .ref y9])), (y1, .inl (cI, 79, .inl (upd (upd (upd (fun _ => 0) 2 6) 5 4) 6 4))), (y2, .inl (cI, 316, .inl (fun _ => 0))), (y3, .inl (cI, 79, .inl (fun _ => 0))), (y4, .inl (cI, 79, .inl (fun _ => 0))), (y5, .inl (cC, 60, .inl (fun _ => 0))), (y6, .inl (cI, 8, .inl (fun _ => 0))), (y7, .inl (cI, 8, .inl (fun _ => 0))), (y8, .inl (cI, 4, .inl (fun _ => 0))), (y9, .inl (cI, 4, .inl (fun _ => 0)))]) hP hD [16] [0, 1, 2, 3, 4, 5, 6, 7, 8, 9, 10, 11, 12, 13, 14, 15] rfl rfl (by decide) (by decide) hk1 hFc hP1 hD1
  generalize H1 = H at hP hS ⊢
  have hP : va_P G vwCl [(x0, .inr (5, [.ref q1, .ref q3, .ref q5, .ref q7, .ref q9, .ref q10])), (q1, .inr (1, [.ref q2])), (q2, .inl (cI, 79, .inl (upd (upd (upd (fun _ => 0) 2 6) 5 4) 6 4))), (q3, .inr (1, [.ref q4])), (q4, .inl (cI, 79, .inl (upd (upd (upd (fun _ => 0) 2 6) 5 4) 6 4))), (q5, .inr (0, [.ref q6, .int 0])), (q6, .inl (cI, 316, .inl (fun _ => 0))), (q7, .inr (4, [.ref q8, .int 0])), (q8, .inl (cC, 60, .inl (fun _ => 0))), (q9, .inr (3, [.int 0, .int 0, .int 0, .int 0])), (q10, .inr (2, [.ref q11, .ref q12, .ref q13, .ref q14, .ref q15, .int 0, .int 0, .int 37])), (q11, .inl (cI, 8, .inl (fun _ => 0))), (q12, .inl (cI, 32, .inl (fun _ => 0))), (q13, .inl (cI, 32, .inl (fun _ => 0))), (q14, .inl (cI, 4, .inl (fun _ => 0))), (q15, .inl (cI, 4, .inl (fun _ => 0))), (y0, .inr (6, [.ref y1, .ref y2, .ref y3, .ref y4, .int 0, .ref y5, .int 0, .int 0, .int 0, .int 0, .int 0, .int 0, .int 0, .ref y6, .ref y7, .ref y8, .ref y9])), (y1, .inl (cI, 79, .inl (upd (upd (upd (fun _ => 0) 2 6) 5 4) 6 4))), (y2, .inl (cI, 316, .inl (fun _ => 0))), (y3, .inl (cI, 79, .inl (fun _ => 0))), (y4, .inl (cI, 79, .inl (fun _ => 0))), (y5, .inl (cC, 60, .inl (fun _ => 0))), (y6, .inl (cI, 8, .inl (fun _ => 0))), (y7, .inl (cI, 8, .inl (fun _ => 0))), (y8, .inl (cI, 4, .inl (fun _ => 0))), (y9, .inl (cI, 4, .inl (fun _ => 0)))] H := hP
  have hD : va_D (lA s) [(x0, .inr (5, [.ref q1, .ref q3, .ref q5, .ref q7, .ref q9, .ref q10])), (q1, .inr (1, [.ref q2])), (q2, .inl (cI, 79, .inl (upd (upd (upd (fun _ => 0) 2 6) 5 4) 6 4))), (q3, .inr (1, [.ref q4])), (q4, .inl (cI, 79, .inl (upd (upd (upd (fun _ => 0) 2 6) 5 4) 6 4))), (q5, .inr (0, [.ref q6, .int 0])), (q6, .inl (cI, 316, .inl (fun _ => 0))), (q7, .inr (4, [.ref q8, .int 0])), (q8, .inl (cC, 60, .inl (fun _ => 0))), (q9, .inr (3, [.int 0, .int 0, .int 0, .int 0])), (q10, .inr (2, [.ref q11, .ref q12, .ref q13, .ref q14, .ref q15, .int 0, .int 0, .int 37])), (q11, .inl (cI, 8, .inl (fun _ => 0))), (q12, .inl (cI, 32, .inl (fun _ => 0))), (q13, .inl (cI, 32, .inl (fun _ => 0))), (q14, .inl (cI, 4, .inl (fun _ => 0))), (q15, .inl (cI, 4, .inl (fun _ => 0))), (y0, .inr (6, [.ref y1, .ref y2, .ref y3, .ref y4, .int 0, .ref y5, .int 0, .int 0, .int 0, .int 0, .int 0, .int 0, .int 0, .ref y6, .ref y7, .ref y8, .ref y9])), (y1, .inl (cI, 79, .inl (upd (upd (upd (fun _ => 0) 2 6) 5 4) 6 4))), (y2, .inl (cI, 316, .inl (fun _ => 0))), (y3, .inl (cI, 79, .inl (fun _ => 0))), (y4, .inl (cI, 79, .inl (fun _ => 0))), (y5, .inl (cC, 60, .inl (fun _ => 0))), (y6, .inl (cI, 8, .inl (fun _ => 0))), (y7, .inl (cI, 8, .inl (fun _ => 0))), (y8, .inl (cI, 4, .inl (fun _ => 0))), (y9, .inl (cI, 4, .inl (fun _ => 0)))] := hD
  refine W.widen (k := 26) (n := 1292) (Nat.le_of_ble_eq_true rfl) (Nat.le_of_ble_eq_true rfl) ?_
  refine lv_astore_n (lv' := [(2, .ref y0), (1, .ref x0), (0, .ref b)]) hx hb dL_law_15 rfl hl (by decide) rfl (fun ls hl => ?_)
  refine lv_iconst (v := nI 0) hx hb dL_law_16 (by decide) ?_
  refine lv_istore_n (lv' := [(3, .int (nI 0)), (2, .ref y0), (1, .ref x0), (0, .ref b)]) hx hb dL_law_17 rfl hl (by decide) rfl (fun ls hl => ?_)
  have key : ∀ ad : gAd, ad.1 0 = x0 → ad.1 1 = q1 → ad.1 2 = q2 → ad.1 3 = q3 → ad.1 4 = q4 → ad.1 5 = q5 → ad.1 6 = q6 → ad.1 7 = q7 → ad.1 8 = q8 → ad.1 9 = q9 → ad.1 10 = q10 → ad.1 11 = q11 → ad.1 12 = q12 → ad.1 13 = q13 → ad.1 14 = q14 → ad.1 15 = q15 → ad.1 16 = y0 → ad.1 17 = y1 → ad.1 18 = y2 → ad.1 19 = y3 → ad.1 20 = y4 → ad.1 21 = y5 → ad.1 22 = y6 → ad.1 23 = y7 → ad.1 24 = y8 → ad.1 25 = y9 → ad.2 = fv → (∀ i, i < 6 → ad.1 (100 + i) = adK i) → (∀ i, i < 6 → ad.1 (200 + i) = adV i) → W p l e room_1 s m #[Value.ref b] below meth c H locs 26 1292 (lw_Z below #[Value.ref b] s) (F0 m 18 ls []) := by
    intro ad e0 e1 e2 e3 e4 e5 e6 e7 e8 e9 e10 e11 e12 e13 e14 e15 e16 e17 e18 e19 e20 e21 e22 e23 e24 e25 ef eK eV
    subst e0
    subst e1
    subst e2
    subst e3
    subst e4
    subst e5
    subst e6
    subst e7
    subst e8
    subst e9
    subst e10
    subst e11
    subst e12
    subst e13
    subst e14
    subst e15
    subst e16
    subst e17
    subst e18
    subst e19
    subst e20
    subst e21
    subst e22
    subst e23
    subst e24
    subst e25
    subst ef
    have hP : va_P G vwCl (wd ad cI cC M0) H := by rw [wd_0]; exact hP
    have hD : va_D (lA s) (wd ad cI cC M0) := by rw [wd_0]; exact hD
    have hI : gI ad := ⟨fun i j hi hj e => hD.1 i j _ _ (wd_get ad cI cC M0 hi) (wd_get ad cI cC M0 hj) e, hfv⟩
    have hAd : ∀ k, k < 26 → s.heap.size ≤ ad.1 k := fun k hk => hD.2 k _ (wd_get ad cI cC M0 hk)
    have hSt : gSt ad s s.heap := lw_gSt hts (by rintro q ⟨k, hk, rfl⟩; exact hAd k hk) eK eV hst1 hst2 hz1 hz2
    exact law_loop (L := L) (xs := xs) ⟨hx, hb, hml, hr, hlocks, hown, htb, hK, hSt, hI, hAd, hX, hbl, hL⟩ (L + 4) 0 M0 (by omega) (by omega) INV_0 H locs ls hP hS (lv_sub hl [3, 2, 1, 0] rfl)
  exact key (fun k => if k < 26 then (match k with | 0 => x0 | 1 => q1 | 2 => q2 | 3 => q3 | 4 => q4 | 5 => q5 | 6 => q6 | 7 => q7 | 8 => q8 | 9 => q9 | 10 => q10 | 11 => q11 | 12 => q12 | 13 => q13 | 14 => q14 | 15 => q15 | 16 => y0 | 17 => y1 | 18 => y2 | 19 => y3 | 20 => y4 | 21 => y5 | 22 => y6 | 23 => y7 | 24 => y8 | _ => y9) else if k < 200 then adK (k - 100) else adV (k - 200), fv) rfl rfl rfl rfl rfl rfl rfl rfl rfl rfl rfl rfl rfl rfl rfl rfl rfl rfl rfl rfl rfl rfl rfl rfl rfl rfl rfl (fun i hi => by dsimp only; rw [if_neg (by omega), if_pos (by omega), show 100 + i - 100 = i by omega]) (fun i hi => by dsimp only; rw [if_neg (by omega), if_neg (by omega), show 200 + i - 200 = i by omega])
