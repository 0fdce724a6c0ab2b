/-! the text constants: rows, length, charAt -/
def sB (i : Nat) (j : Int) : Int := ((sByt.getD i []).getD j.toNat 0).toInt
theorem fl_J0_38 : Cond.fieldLink RJ0 38 "java/lang/String" "COMPACT_STRINGS" "Z" ∈ TB := tb_mem 594 (by decide +kernel) (by decide +kernel)
theorem fl_J0_1053 : Cond.fieldLink RJ0 1053 "jdk/internal/util/Preconditions" "SIOOBE_FORMATTER" "Ljava/util/function/BiFunction;" ∈ TB := tb_mem 614 (by decide +kernel) (by decide +kernel)
theorem fl_J0_9 : Cond.fieldLink RJ0 9 "java/lang/String" "value" "[B" ∈ TB := tb_mem 1010 (by decide +kernel) (by decide +kernel)
theorem fl_J0_15 : Cond.fieldLink RJ0 15 "java/lang/String" "coder" "B" ∈ TB := tb_mem 1011 (by decide +kernel) (by decide +kernel)
section GOS
variable {d : Nat} {cc : ByteArray} {nL : Nat} {ret : Option FieldType} {pc : Nat} {L : List (Option MV)} {st : List MV} {M M' : gMem} {v : Option MV}
theorem Go_ldcS {idx i : Nat} (hi : i < 6) (hq : idx = sIdx i) (hd : decode cc pc = .ok (.ldc idx, 2)) (kk : Go d RX3 cc nL ret (pc + 2) L (.inr (100 + i) :: st) M v M') : Go d RX3 cc nL ret pc L st M v M' := by
  intro p l e s m args below meth c G ad cI cC H locs ls C hP hS hl
  have k2 := kk p l e s m args below meth c G ad cI cC H locs ls C hP hS hl
  subst hq
  rw [List.map_cons, vv_ref (by omega : 100 + i ≠ 999)] at k2
  exact va_ldcS C.1 C.2.1 C.2.2.2.2.2.1 (C.2.2.2.2.2.2.2.2.1.2.2.2.1 i hi) hd k2
theorem Go_gst38 (hd : decode cc pc = .ok (.getstatic 38, 3)) (kk : Go d RJ0 cc nL ret (pc + 3) L (.inl 1 :: st) M v M') : Go d RJ0 cc nL ret pc L st M v M' := by
  intro p l e s m args below meth c G ad cI cC H locs ls C hP hS hl
  have k2 := kk p l e s m args below meth c G ad cI cC H locs ls C hP hS hl
  exact va_gets C.1 C.2.1 C.2.2.2.2.2.2.2.2.1.2.1 hS C.2.2.2.2.2.1 (C.2.2.2.2.2.2.1 _ fl_J0_38) (fun _ h9 => h9) hd k2
theorem Go_gst1053 (hd : decode cc pc = .ok (.getstatic 1053, 3)) (kk : Go d RJ0 cc nL ret (pc + 3) L (.inr 999 :: st) M v M') : Go d RJ0 cc nL ret pc L st M v M' := by
  intro p l e s m args below meth c G ad cI cC H locs ls C hP hS hl
  have k2 := kk p l e s m args below meth c G ad cI cC H locs ls C hP hS hl
  exact va_gets C.1 C.2.1 C.2.2.2.2.2.2.2.2.1.2.2.1 hS C.2.2.2.2.2.1 (C.2.2.2.2.2.2.1 _ fl_J0_1053) (fun _ h9 => h9) hd k2
theorem Go_getSv {k i : Nat} (hk : k = 100 + i) (hi : i < 6) (hd : decode cc pc = .ok (.getfield 9, 3)) (kk : Go d RJ0 cc nL ret (pc + 3) L (.inr (200 + i) :: st) M v M') : Go d RJ0 cc nL ret pc L (.inr k :: st) M v M' := by
  intro p l e s m args below meth c G ad cI cC H locs ls C hP hS hl
  have k2 := kk p l e s m args below meth c G ad cI cC H locs ls C hP hS hl
  subst hk
  rw [List.map_cons, vv_ref (by omega : 200 + i ≠ 999)] at k2
  rw [List.map_cons, vv_ref (by omega : 100 + i ≠ 999)]
  exact vk_getf C.1 C.2.1 (C.2.2.2.2.2.2.2.2.1.1.1 i hi).2.2.1 hS C.2.2.2.2.2.1 (C.2.2.2.2.2.2.1 _ fl_J0_9) (fun _ h9 => h9) hd k2
theorem Go_getSc {k i : Nat} (hk : k = 100 + i) (hi : i < 6) (hd : decode cc pc = .ok (.getfield 15, 3)) (kk : Go d RJ0 cc nL ret (pc + 3) L (.inl 0 :: st) M v M') : Go d RJ0 cc nL ret pc L (.inr k :: st) M v M' := by
  intro p l e s m args below meth c G ad cI cC H locs ls C hP hS hl
  have k2 := kk p l e s m args below meth c G ad cI cC H locs ls C hP hS hl
  subst hk
  rw [List.map_cons, vv_ref (by omega : 100 + i ≠ 999)]
  exact vk_getf C.1 C.2.1 (C.2.2.2.2.2.2.2.2.1.1.1 i hi).2.1 hS C.2.2.2.2.2.1 (C.2.2.2.2.2.2.1 _ fl_J0_15) (fun _ h9 => h9) hd k2
variable {own : String}
theorem Go_alenS {k i : Nat} {n : Int} (hk : k = 200 + i) (hi : i < 6) (hn : iI n = Int32.ofNat (sLen.getD i 0)) (hd : decode cc pc = .ok (.arraylength, 1)) (kk : Go d own cc nL ret (pc + 1) L (.inl n :: st) M v M') : Go d own cc nL ret pc L (.inr k :: st) M v M' := by
  intro p l e s m args below meth c G ad cI cC H locs ls C hP hS hl
  have k2 := kk p l e s m args below meth c G ad cI cC H locs ls C hP hS hl
  subst hk
  rw [List.map_cons, vv_ref (by omega : 200 + i ≠ 999)]
  exact va_tlen C.1 C.2.1 (C.2.2.2.2.2.2.2.2.1.1.1 i hi).2.2.2 hS hn.symm hd k2
theorem Go_baS {k i : Nat} {j z : Int} (hk : k = 200 + i) (hi : i < 6) (h0 : 0 ≤ j) (h1 : j < (sLen.getD i 0 : Nat)) (hz : sB i j = z) (hd : decode cc pc = .ok (.baload, 1)) (kk : Go d own cc nL ret (pc + 1) L (.inl z :: st) M v M') : Go d own cc nL ret pc L (.inl j :: .inr k :: st) M v M' := by
  intro p l e s m args below meth c G ad cI cC H locs ls C hP hS hl
  have k2 := kk p l e s m args below meth c G ad cI cC H locs ls C hP hS hl
  subst hk
  subst hz
  have hn : sLen.getD i 0 < 2147483648 := by
    rcases (by omega : i = 0 ∨ i = 1 ∨ i = 2 ∨ i = 3 ∨ i = 4 ∨ i = 5) with h | h | h | h | h | h <;> subst h <;> decide
  rw [List.map_cons, List.map_cons, vv_ref (by omega : 200 + i ≠ 999)]
  refine va_tb (i := iI j) C.1 C.2.1 (C.2.2.2.2.2.2.2.2.1.1.1 i hi).2.2.2 hS (iI_in h0 h1 hn) rfl hd ?_
  rw [iI_nat h0 (by omega)]
  rw [List.map_cons, show vv ad (.inl (sB i j)) = .int ((sByt.getD i []).getD j.toNat 0) from congrArg Value.int (iI_of _)] at k2
  exact k2
end GOS
theorem s_J3_checkIndex {d : Nat} (hd : 0 ≤ d) {j n : Int} {M : gMem} (h0 : 0 ≤ j) (h1 : j < n) (hn : inR n) : Go d RJ3 cJ3_checkIndex_8e157 3 (some .int) 0 [some (.inl j), some (.inl n), some (.inr 999)] [] M (some (.inl j)) M := by
  refine Go_iload_n (pc := 0) dJ3_checkIndex_8e157_0 rfl rfl ?_
  refine Go_if_lt (pc := 1) (tgt := 9) dJ3_checkIndex_8e157_1 (by decide) (by omega) (fun c1 => ?_) (fun c1 => ?_)
  · exfalso; omega
  · refine Go_iload_n (pc := 4) dJ3_checkIndex_8e157_4 rfl rfl ?_
    refine Go_iload_n (pc := 5) dJ3_checkIndex_8e157_5 rfl rfl ?_
    refine Go_icmp_lt (pc := 6) (tgt := 16) dJ3_checkIndex_8e157_6 (by decide) (by omega) (by omega) (fun c6 => ?_) (fun c6 => ?_)
    · refine Go_iload_n (pc := 16) dJ3_checkIndex_8e157_16 rfl rfl ?_
      exact Go_ireturn (pc := 17) dJ3_checkIndex_8e157_17 rfl (by first | rfl | (simp_all; done)) rfl
    · exfalso; omega
theorem s_J0_checkIndex {d : Nat} (hd : 1 ≤ d) {j n : Int} {M : gMem} (h0 : 0 ≤ j) (h1 : j < n) (hn : inR n) : Go d RJ0 cJ0_checkIndex_df160 2 none 0 [some (.inl j), some (.inl n)] [] M none M := by
  refine Go_iload_n (pc := 0) dJ0_checkIndex_df160_0 rfl rfl ?_
  refine Go_iload_n (pc := 1) dJ0_checkIndex_df160_1 rfl rfl ?_
  refine Go_gst1053 (pc := 2) dJ0_checkIndex_df160_2 ?_
  refine Go_invS (pc := 5) (y := yJ3_checkIndex_8e157) (avs := [.inl j, .inl n, .inr 999]) (rest := []) (x := .inl j)  (d' := d - 1) dJ0_checkIndex_df160_5 ln_J0_1059 mo_J3_checkIndex_8e157 so_J3_checkIndex_8e157 rfl rfl rfl (Nat.le_of_ble_eq_true rfl) (by omega) (Nat.le_of_ble_eq_true rfl) rfl (s_J3_checkIndex (by omega) (by first | omega | (simp only [Nat.reduceAdd, setR_s]; omega) | (simp only [setR, Nat.reduceEqDiff, reduceIte]; omega)) (by omega) (by omega)) ?_
  refine Go_pop (pc := 8) dJ0_checkIndex_df160_8 ?_
  exact Go_return (pc := 9) dJ0_checkIndex_df160_9 rfl rfl rfl
theorem s_J0_isLatin1_0 {d : Nat} (hd : 0 ≤ d) {M : gMem} : Go d RJ0 cJ0_isLatin1_aae02 1 (some .boolean) 0 [some (.inr 100)] [] M (some (.inl 1)) M := by
  refine Go_gst38 (pc := 0) dJ0_isLatin1_aae02_0 ?_
  refine Go_if_eq (pc := 3) (tgt := 17) dJ0_isLatin1_aae02_3 (by decide) (by decide) (fun q => absurd q (by decide)) (fun _ => ?_)
  refine Go_aload_n (pc := 6) dJ0_isLatin1_aae02_6 rfl (by decide) rfl ?_
  refine Go_getSc (pc := 7) (i := 0) rfl (by decide) dJ0_isLatin1_aae02_7 ?_
  refine Go_if_ne (pc := 10) (tgt := 17) dJ0_isLatin1_aae02_10 (by decide) (by decide) (fun q => absurd q (by decide)) (fun _ => ?_)
  refine Go_iconst (pc := 13) dJ0_isLatin1_aae02_13 ?_
  refine Go_goto (pc := 14) (tgt := 18) dJ0_isLatin1_aae02_14 (by decide) ?_
  exact Go_zreturn (pc := 18) dJ0_isLatin1_aae02_18 rfl (by decide) (by first | rfl | (simp_all; done)) rfl
theorem s_J0_coder_0 {d : Nat} (hd : 0 ≤ d) {M : gMem} : Go d RJ0 cJ0_coder_7d493 1 (some .byte) 0 [some (.inr 100)] [] M (some (.inl 0)) M := by
  refine Go_gst38 (pc := 0) dJ0_coder_7d493_0 ?_
  refine Go_if_eq (pc := 3) (tgt := 13) dJ0_coder_7d493_3 (by decide) (by decide) (fun q => absurd q (by decide)) (fun _ => ?_)
  refine Go_aload_n (pc := 6) dJ0_coder_7d493_6 rfl (by decide) rfl ?_
  refine Go_getSc (pc := 7) (i := 0) rfl (by decide) dJ0_coder_7d493_7 ?_
  refine Go_goto (pc := 10) (tgt := 14) dJ0_coder_7d493_10 (by decide) ?_
  exact Go_breturn (pc := 14) dJ0_coder_7d493_14 rfl (by decide) (by first | rfl | (simp_all; done)) rfl
theorem s_J0_length_0 {d : Nat} (hd : 1 ≤ d) {M : gMem} : Go d RJ0 cJ0_length_8abf5 1 (some .int) 0 [some (.inr 100)] [] M (some (.inl 4)) M := by
  refine Go_aload_n (pc := 0) dJ0_length_8abf5_0 rfl (by decide) rfl ?_
  refine Go_getSv (pc := 1) (i := 0) rfl (by decide) dJ0_length_8abf5_1 ?_
  refine Go_alenS (pc := 4) (i := 0) (n := 4) rfl (by decide) (by decide) dJ0_length_8abf5_4 ?_
  refine Go_aload_n (pc := 5) dJ0_length_8abf5_5 rfl (by decide) rfl ?_
  refine Go_invV (pc := 6) (y := yJ0_coder_7d493) (avs := []) (k := 100) (rest := [.inl 4]) (x := .inl 0)  (d' := d - 1) dJ0_length_8abf5_6 ln_J0_335 mo_J0_coder_7d493 vo_J0_coder_7d493 rfl (rc_s (i := 0) (by decide)) rfl rfl (Nat.le_of_ble_eq_true rfl) (by omega) (Nat.le_of_ble_eq_true rfl) rfl (s_J0_coder_0 (by omega)) ?_
  refine Go_ishr (pc := 9) dJ0_length_8abf5_9 ?_
  refine Go_LS (st1 := [.inl 4]) rfl (congrArg (fun z : Int => (.inl z :: [] : List MV)) (by decide)) ?_
  exact Go_ireturn (pc := 10) dJ0_length_8abf5_10 rfl (by first | rfl | (simp_all; done)) rfl
theorem s_J0_isLatin1_1 {d : Nat} (hd : 0 ≤ d) {M : gMem} : Go d RJ0 cJ0_isLatin1_aae02 1 (some .boolean) 0 [some (.inr 101)] [] M (some (.inl 1)) M := by
  refine Go_gst38 (pc := 0) dJ0_isLatin1_aae02_0 ?_
  refine Go_if_eq (pc := 3) (tgt := 17) dJ0_isLatin1_aae02_3 (by decide) (by decide) (fun q => absurd q (by decide)) (fun _ => ?_)
  refine Go_aload_n (pc := 6) dJ0_isLatin1_aae02_6 rfl (by decide) rfl ?_
  refine Go_getSc (pc := 7) (i := 1) rfl (by decide) dJ0_isLatin1_aae02_7 ?_
  refine Go_if_ne (pc := 10) (tgt := 17) dJ0_isLatin1_aae02_10 (by decide) (by decide) (fun q => absurd q (by decide)) (fun _ => ?_)
  refine Go_iconst (pc := 13) dJ0_isLatin1_aae02_13 ?_
  refine Go_goto (pc := 14) (tgt := 18) dJ0_isLatin1_aae02_14 (by decide) ?_
  exact Go_zreturn (pc := 18) dJ0_isLatin1_aae02_18 rfl (by decide) (by first | rfl | (simp_all; done)) rfl
theorem s_J0_coder_1 {d : Nat} (hd : 0 ≤ d) {M : gMem} : Go d RJ0 cJ0_coder_7d493 1 (some .byte) 0 [some (.inr 101)] [] M (some (.inl 0)) M := by
  refine Go_gst38 (pc := 0) dJ0_coder_7d493_0 ?_
  refine Go_if_eq (pc := 3) (tgt := 13) dJ0_coder_7d493_3 (by decide) (by decide) (fun q => absurd q (by decide)) (fun _ => ?_)
  refine Go_aload_n (pc := 6) dJ0_coder_7d493_6 rfl (by decide) rfl ?_
  refine Go_getSc (pc := 7) (i := 1) rfl (by decide) dJ0_coder_7d493_7 ?_
  refine Go_goto (pc := 10) (tgt := 14) dJ0_coder_7d493_10 (by decide) ?_
  exact Go_breturn (pc := 14) dJ0_coder_7d493_14 rfl (by decide) (by first | rfl | (simp_all; done)) rfl
theorem s_J0_length_1 {d : Nat} (hd : 1 ≤ d) {M : gMem} : Go d RJ0 cJ0_length_8abf5 1 (some .int) 0 [some (.inr 101)] [] M (some (.inl 4)) M := by
  refine Go_aload_n (pc := 0) dJ0_length_8abf5_0 rfl (by decide) rfl ?_
  refine Go_getSv (pc := 1) (i := 1) rfl (by decide) dJ0_length_8abf5_1 ?_
  refine Go_alenS (pc := 4) (i := 1) (n := 4) rfl (by decide) (by decide) dJ0_length_8abf5_4 ?_
  refine Go_aload_n (pc := 5) dJ0_length_8abf5_5 rfl (by decide) rfl ?_
  refine Go_invV (pc := 6) (y := yJ0_coder_7d493) (avs := []) (k := 101) (rest := [.inl 4]) (x := .inl 0)  (d' := d - 1) dJ0_length_8abf5_6 ln_J0_335 mo_J0_coder_7d493 vo_J0_coder_7d493 rfl (rc_s (i := 1) (by decide)) rfl rfl (Nat.le_of_ble_eq_true rfl) (by omega) (Nat.le_of_ble_eq_true rfl) rfl (s_J0_coder_1 (by omega)) ?_
  refine Go_ishr (pc := 9) dJ0_length_8abf5_9 ?_
  refine Go_LS (st1 := [.inl 4]) rfl (congrArg (fun z : Int => (.inl z :: [] : List MV)) (by decide)) ?_
  exact Go_ireturn (pc := 10) dJ0_length_8abf5_10 rfl (by first | rfl | (simp_all; done)) rfl
theorem s_J0_isLatin1_2 {d : Nat} (hd : 0 ≤ d) {M : gMem} : Go d RJ0 cJ0_isLatin1_aae02 1 (some .boolean) 0 [some (.inr 102)] [] M (some (.inl 1)) M := by
  refine Go_gst38 (pc := 0) dJ0_isLatin1_aae02_0 ?_
  refine Go_if_eq (pc := 3) (tgt := 17) dJ0_isLatin1_aae02_3 (by decide) (by decide) (fun q => absurd q (by decide)) (fun _ => ?_)
  refine Go_aload_n (pc := 6) dJ0_isLatin1_aae02_6 rfl (by decide) rfl ?_
  refine Go_getSc (pc := 7) (i := 2) rfl (by decide) dJ0_isLatin1_aae02_7 ?_
  refine Go_if_ne (pc := 10) (tgt := 17) dJ0_isLatin1_aae02_10 (by decide) (by decide) (fun q => absurd q (by decide)) (fun _ => ?_)
  refine Go_iconst (pc := 13) dJ0_isLatin1_aae02_13 ?_
  refine Go_goto (pc := 14) (tgt := 18) dJ0_isLatin1_aae02_14 (by decide) ?_
  exact Go_zreturn (pc := 18) dJ0_isLatin1_aae02_18 rfl (by decide) (by first | rfl | (simp_all; done)) rfl
theorem s_J0_coder_2 {d : Nat} (hd : 0 ≤ d) {M : gMem} : Go d RJ0 cJ0_coder_7d493 1 (some .byte) 0 [some (.inr 102)] [] M (some (.inl 0)) M := by
  refine Go_gst38 (pc := 0) dJ0_coder_7d493_0 ?_
  refine Go_if_eq (pc := 3) (tgt := 13) dJ0_coder_7d493_3 (by decide) (by decide) (fun q => absurd q (by decide)) (fun _ => ?_)
  refine Go_aload_n (pc := 6) dJ0_coder_7d493_6 rfl (by decide) rfl ?_
  refine Go_getSc (pc := 7) (i := 2) rfl (by decide) dJ0_coder_7d493_7 ?_
  refine Go_goto (pc := 10) (tgt := 14) dJ0_coder_7d493_10 (by decide) ?_
  exact Go_breturn (pc := 14) dJ0_coder_7d493_14 rfl (by decide) (by first | rfl | (simp_all; done)) rfl
theorem s_J0_length_2 {d : Nat} (hd : 1 ≤ d) {M : gMem} : Go d RJ0 cJ0_length_8abf5 1 (some .int) 0 [some (.inr 102)] [] M (some (.inl 5)) M := by
  refine Go_aload_n (pc := 0) dJ0_length_8abf5_0 rfl (by decide) rfl ?_
  refine Go_getSv (pc := 1) (i := 2) rfl (by decide) dJ0_length_8abf5_1 ?_
  refine Go_alenS (pc := 4) (i := 2) (n := 5) rfl (by decide) (by decide) dJ0_length_8abf5_4 ?_
  refine Go_aload_n (pc := 5) dJ0_length_8abf5_5 rfl (by decide) rfl ?_
  refine Go_invV (pc := 6) (y := yJ0_coder_7d493) (avs := []) (k := 102) (rest := [.inl 5]) (x := .inl 0)  (d' := d - 1) dJ0_length_8abf5_6 ln_J0_335 mo_J0_coder_7d493 vo_J0_coder_7d493 rfl (rc_s (i := 2) (by decide)) rfl rfl (Nat.le_of_ble_eq_true rfl) (by omega) (Nat.le_of_ble_eq_true rfl) rfl (s_J0_coder_2 (by omega)) ?_
  refine Go_ishr (pc := 9) dJ0_length_8abf5_9 ?_
  refine Go_LS (st1 := [.inl 5]) rfl (congrArg (fun z : Int => (.inl z :: [] : List MV)) (by decide)) ?_
  exact Go_ireturn (pc := 10) dJ0_length_8abf5_10 rfl (by first | rfl | (simp_all; done)) rfl
theorem s_J0_isLatin1_3 {d : Nat} (hd : 0 ≤ d) {M : gMem} : Go d RJ0 cJ0_isLatin1_aae02 1 (some .boolean) 0 [some (.inr 103)] [] M (some (.inl 1)) M := by
  refine Go_gst38 (pc := 0) dJ0_isLatin1_aae02_0 ?_
  refine Go_if_eq (pc := 3) (tgt := 17) dJ0_isLatin1_aae02_3 (by decide) (by decide) (fun q => absurd q (by decide)) (fun _ => ?_)
  refine Go_aload_n (pc := 6) dJ0_isLatin1_aae02_6 rfl (by decide) rfl ?_
  refine Go_getSc (pc := 7) (i := 3) rfl (by decide) dJ0_isLatin1_aae02_7 ?_
  refine Go_if_ne (pc := 10) (tgt := 17) dJ0_isLatin1_aae02_10 (by decide) (by decide) (fun q => absurd q (by decide)) (fun _ => ?_)
  refine Go_iconst (pc := 13) dJ0_isLatin1_aae02_13 ?_
  refine Go_goto (pc := 14) (tgt := 18) dJ0_isLatin1_aae02_14 (by decide) ?_
  exact Go_zreturn (pc := 18) dJ0_isLatin1_aae02_18 rfl (by decide) (by first | rfl | (simp_all; done)) rfl
theorem s_J0_coder_3 {d : Nat} (hd : 0 ≤ d) {M : gMem} : Go d RJ0 cJ0_coder_7d493 1 (some .byte) 0 [some (.inr 103)] [] M (some (.inl 0)) M := by
  refine Go_gst38 (pc := 0) dJ0_coder_7d493_0 ?_
  refine Go_if_eq (pc := 3) (tgt := 13) dJ0_coder_7d493_3 (by decide) (by decide) (fun q => absurd q (by decide)) (fun _ => ?_)
  refine Go_aload_n (pc := 6) dJ0_coder_7d493_6 rfl (by decide) rfl ?_
  refine Go_getSc (pc := 7) (i := 3) rfl (by decide) dJ0_coder_7d493_7 ?_
  refine Go_goto (pc := 10) (tgt := 14) dJ0_coder_7d493_10 (by decide) ?_
  exact Go_breturn (pc := 14) dJ0_coder_7d493_14 rfl (by decide) (by first | rfl | (simp_all; done)) rfl
theorem s_J0_length_3 {d : Nat} (hd : 1 ≤ d) {M : gMem} : Go d RJ0 cJ0_length_8abf5 1 (some .int) 0 [some (.inr 103)] [] M (some (.inl 4)) M := by
  refine Go_aload_n (pc := 0) dJ0_length_8abf5_0 rfl (by decide) rfl ?_
  refine Go_getSv (pc := 1) (i := 3) rfl (by decide) dJ0_length_8abf5_1 ?_
  refine Go_alenS (pc := 4) (i := 3) (n := 4) rfl (by decide) (by decide) dJ0_length_8abf5_4 ?_
  refine Go_aload_n (pc := 5) dJ0_length_8abf5_5 rfl (by decide) rfl ?_
  refine Go_invV (pc := 6) (y := yJ0_coder_7d493) (avs := []) (k := 103) (rest := [.inl 4]) (x := .inl 0)  (d' := d - 1) dJ0_length_8abf5_6 ln_J0_335 mo_J0_coder_7d493 vo_J0_coder_7d493 rfl (rc_s (i := 3) (by decide)) rfl rfl (Nat.le_of_ble_eq_true rfl) (by omega) (Nat.le_of_ble_eq_true rfl) rfl (s_J0_coder_3 (by omega)) ?_
  refine Go_ishr (pc := 9) dJ0_length_8abf5_9 ?_
  refine Go_LS (st1 := [.inl 4]) rfl (congrArg (fun z : Int => (.inl z :: [] : List MV)) (by decide)) ?_
  exact Go_ireturn (pc := 10) dJ0_length_8abf5_10 rfl (by first | rfl | (simp_all; done)) rfl
theorem s_J0_isLatin1_4 {d : Nat} (hd : 0 ≤ d) {M : gMem} : Go d RJ0 cJ0_isLatin1_aae02 1 (some .boolean) 0 [some (.inr 104)] [] M (some (.inl 1)) M := by
  refine Go_gst38 (pc := 0) dJ0_isLatin1_aae02_0 ?_
  refine Go_if_eq (pc := 3) (tgt := 17) dJ0_isLatin1_aae02_3 (by decide) (by decide) (fun q => absurd q (by decide)) (fun _ => ?_)
  refine Go_aload_n (pc := 6) dJ0_isLatin1_aae02_6 rfl (by decide) rfl ?_
  refine Go_getSc (pc := 7) (i := 4) rfl (by decide) dJ0_isLatin1_aae02_7 ?_
  refine Go_if_ne (pc := 10) (tgt := 17) dJ0_isLatin1_aae02_10 (by decide) (by decide) (fun q => absurd q (by decide)) (fun _ => ?_)
  refine Go_iconst (pc := 13) dJ0_isLatin1_aae02_13 ?_
  refine Go_goto (pc := 14) (tgt := 18) dJ0_isLatin1_aae02_14 (by decide) ?_
  exact Go_zreturn (pc := 18) dJ0_isLatin1_aae02_18 rfl (by decide) (by first | rfl | (simp_all; done)) rfl
theorem s_J0_coder_4 {d : Nat} (hd : 0 ≤ d) {M : gMem} : Go d RJ0 cJ0_coder_7d493 1 (some .byte) 0 [some (.inr 104)] [] M (some (.inl 0)) M := by
  refine Go_gst38 (pc := 0) dJ0_coder_7d493_0 ?_
  refine Go_if_eq (pc := 3) (tgt := 13) dJ0_coder_7d493_3 (by decide) (by decide) (fun q => absurd q (by decide)) (fun _ => ?_)
  refine Go_aload_n (pc := 6) dJ0_coder_7d493_6 rfl (by decide) rfl ?_
  refine Go_getSc (pc := 7) (i := 4) rfl (by decide) dJ0_coder_7d493_7 ?_
  refine Go_goto (pc := 10) (tgt := 14) dJ0_coder_7d493_10 (by decide) ?_
  exact Go_breturn (pc := 14) dJ0_coder_7d493_14 rfl (by decide) (by first | rfl | (simp_all; done)) rfl
theorem s_J0_length_4 {d : Nat} (hd : 1 ≤ d) {M : gMem} : Go d RJ0 cJ0_length_8abf5 1 (some .int) 0 [some (.inr 104)] [] M (some (.inl 4)) M := by
  refine Go_aload_n (pc := 0) dJ0_length_8abf5_0 rfl (by decide) rfl ?_
  refine Go_getSv (pc := 1) (i := 4) rfl (by decide) dJ0_length_8abf5_1 ?_
  refine Go_alenS (pc := 4) (i := 4) (n := 4) rfl (by decide) (by decide) dJ0_length_8abf5_4 ?_
  refine Go_aload_n (pc := 5) dJ0_length_8abf5_5 rfl (by decide) rfl ?_
  refine Go_invV (pc := 6) (y := yJ0_coder_7d493) (avs := []) (k := 104) (rest := [.inl 4]) (x := .inl 0)  (d' := d - 1) dJ0_length_8abf5_6 ln_J0_335 mo_J0_coder_7d493 vo_J0_coder_7d493 rfl (rc_s (i := 4) (by decide)) rfl rfl (Nat.le_of_ble_eq_true rfl) (by omega) (Nat.le_of_ble_eq_true rfl) rfl (s_J0_coder_4 (by omega)) ?_
  refine Go_ishr (pc := 9) dJ0_length_8abf5_9 ?_
  refine Go_LS (st1 := [.inl 4]) rfl (congrArg (fun z : Int => (.inl z :: [] : List MV)) (by decide)) ?_
  exact Go_ireturn (pc := 10) dJ0_length_8abf5_10 rfl (by first | rfl | (simp_all; done)) rfl
theorem s_J0_isLatin1_5 {d : Nat} (hd : 0 ≤ d) {M : gMem} : Go d RJ0 cJ0_isLatin1_aae02 1 (some .boolean) 0 [some (.inr 105)] [] M (some (.inl 1)) M := by
  refine Go_gst38 (pc := 0) dJ0_isLatin1_aae02_0 ?_
  refine Go_if_eq (pc := 3) (tgt := 17) dJ0_isLatin1_aae02_3 (by decide) (by decide) (fun q => absurd q (by decide)) (fun _ => ?_)
  refine Go_aload_n (pc := 6) dJ0_isLatin1_aae02_6 rfl (by decide) rfl ?_
  refine Go_getSc (pc := 7) (i := 5) rfl (by decide) dJ0_isLatin1_aae02_7 ?_
  refine Go_if_ne (pc := 10) (tgt := 17) dJ0_isLatin1_aae02_10 (by decide) (by decide) (fun q => absurd q (by decide)) (fun _ => ?_)
  refine Go_iconst (pc := 13) dJ0_isLatin1_aae02_13 ?_
  refine Go_goto (pc := 14) (tgt := 18) dJ0_isLatin1_aae02_14 (by decide) ?_
  exact Go_zreturn (pc := 18) dJ0_isLatin1_aae02_18 rfl (by decide) (by first | rfl | (simp_all; done)) rfl
theorem s_J0_coder_5 {d : Nat} (hd : 0 ≤ d) {M : gMem} : Go d RJ0 cJ0_coder_7d493 1 (some .byte) 0 [some (.inr 105)] [] M (some (.inl 0)) M := by
  refine Go_gst38 (pc := 0) dJ0_coder_7d493_0 ?_
  refine Go_if_eq (pc := 3) (tgt := 13) dJ0_coder_7d493_3 (by decide) (by decide) (fun q => absurd q (by decide)) (fun _ => ?_)
  refine Go_aload_n (pc := 6) dJ0_coder_7d493_6 rfl (by decide) rfl ?_
  refine Go_getSc (pc := 7) (i := 5) rfl (by decide) dJ0_coder_7d493_7 ?_
  refine Go_goto (pc := 10) (tgt := 14) dJ0_coder_7d493_10 (by decide) ?_
  exact Go_breturn (pc := 14) dJ0_coder_7d493_14 rfl (by decide) (by first | rfl | (simp_all; done)) rfl
theorem s_J0_length_5 {d : Nat} (hd : 1 ≤ d) {M : gMem} : Go d RJ0 cJ0_length_8abf5 1 (some .int) 0 [some (.inr 105)] [] M (some (.inl 0)) M := by
  refine Go_aload_n (pc := 0) dJ0_length_8abf5_0 rfl (by decide) rfl ?_
  refine Go_getSv (pc := 1) (i := 5) rfl (by decide) dJ0_length_8abf5_1 ?_
  refine Go_alenS (pc := 4) (i := 5) (n := 0) rfl (by decide) (by decide) dJ0_length_8abf5_4 ?_
  refine Go_aload_n (pc := 5) dJ0_length_8abf5_5 rfl (by decide) rfl ?_
  refine Go_invV (pc := 6) (y := yJ0_coder_7d493) (avs := []) (k := 105) (rest := [.inl 0]) (x := .inl 0)  (d' := d - 1) dJ0_length_8abf5_6 ln_J0_335 mo_J0_coder_7d493 vo_J0_coder_7d493 rfl (rc_s (i := 5) (by decide)) rfl rfl (Nat.le_of_ble_eq_true rfl) (by omega) (Nat.le_of_ble_eq_true rfl) rfl (s_J0_coder_5 (by omega)) ?_
  refine Go_ishr (pc := 9) dJ0_length_8abf5_9 ?_
  refine Go_LS (st1 := [.inl 0]) rfl (congrArg (fun z : Int => (.inl z :: [] : List MV)) (by decide)) ?_
  exact Go_ireturn (pc := 10) dJ0_length_8abf5_10 rfl (by first | rfl | (simp_all; done)) rfl
theorem s_J1_charAt_0_0 {d : Nat} (hd : 2 ≤ d) {M : gMem} : Go d RJ1 cJ1_charAt_3b067 2 (some .char) 0 [some (.inr 200), some (.inl 0)] [] M (some (.inl 112)) M := by
  refine Go_iload_n (pc := 0) dJ1_charAt_3b067_0 rfl rfl ?_
  refine Go_aload_n (pc := 1) dJ1_charAt_3b067_1 rfl (by decide) rfl ?_
  refine Go_alenS (pc := 2) (i := 0) (n := 4) rfl (by decide) (by decide) dJ1_charAt_3b067_2 ?_
  refine Go_invSv (pc := 3) (y := yJ0_checkIndex_df160) (avs := [.inl 0, .inl 4]) (rest := [])   (d' := d - 1) dJ1_charAt_3b067_3 ln_J1_9 mo_J0_checkIndex_df160 so_J0_checkIndex_df160 rfl rfl rfl (Nat.le_of_ble_eq_true rfl) (by omega) (Nat.le_of_ble_eq_true rfl) rfl (s_J0_checkIndex (by omega) (by decide) (by decide) (by decide)) ?_
  refine Go_aload_n (pc := 6) dJ1_charAt_3b067_6 rfl (by decide) rfl ?_
  refine Go_iload_n (pc := 7) dJ1_charAt_3b067_7 rfl rfl ?_
  refine Go_baS (pc := 8) (i := 0) (z := 112) rfl (by decide) (by decide) (by decide) (by decide) dJ1_charAt_3b067_8 ?_
  refine Go_sipush (pc := 9) dJ1_charAt_3b067_9 (by decide) (by decide) ?_
  refine Go_iand (pc := 12) dJ1_charAt_3b067_12 ?_
  refine Go_LS (st1 := [.inl 112]) rfl (congrArg (fun z : Int => (.inl z :: [] : List MV)) (by decide)) ?_
  refine Go_i2c (pc := 13) dJ1_charAt_3b067_13 (by omega) (by omega) ?_
  exact Go_creturn (pc := 14) dJ1_charAt_3b067_14 rfl (by omega) (by omega) (by first | rfl | (simp_all; done)) rfl
theorem s_J0_charAt_0_0 {d : Nat} (hd : 3 ≤ d) {M : gMem} : Go d RJ0 cJ0_charAt_5068e 2 (some .char) 0 [some (.inr 100), some (.inl 0)] [] M (some (.inl 112)) M := by
  refine Go_aload_n (pc := 0) dJ0_charAt_5068e_0 rfl (by decide) rfl ?_
  refine Go_invV (pc := 1) (y := yJ0_isLatin1_aae02) (avs := []) (k := 100) (rest := []) (x := .inl 1)  (d' := d - 1) dJ0_charAt_5068e_1 ln_J0_492 mo_J0_isLatin1_aae02 vo_J0_isLatin1_aae02 rfl (rc_s (i := 0) (by decide)) rfl rfl (Nat.le_of_ble_eq_true rfl) (by omega) (Nat.le_of_ble_eq_true rfl) rfl (s_J0_isLatin1_0 (by omega)) ?_
  refine Go_if_eq (pc := 4) (tgt := 16) dJ0_charAt_5068e_4 (by decide) (by decide) (fun q => absurd q (by decide)) (fun _ => ?_)
  refine Go_aload_n (pc := 7) dJ0_charAt_5068e_7 rfl (by decide) rfl ?_
  refine Go_getSv (pc := 8) (i := 0) rfl (by decide) dJ0_charAt_5068e_8 ?_
  refine Go_iload_n (pc := 11) dJ0_charAt_5068e_11 rfl rfl ?_
  refine Go_invS (pc := 12) (y := yJ1_charAt_3b067) (avs := [.inr 200, .inl 0]) (rest := []) (x := .inl 112)  (d' := d - 1) dJ0_charAt_5068e_12 ln_J0_495 mo_J1_charAt_3b067 so_J1_charAt_3b067 rfl rfl rfl (Nat.le_of_ble_eq_true rfl) (by omega) (Nat.le_of_ble_eq_true rfl) rfl (s_J1_charAt_0_0 (by omega)) ?_
  exact Go_creturn (pc := 15) dJ0_charAt_5068e_15 rfl (by omega) (by omega) (by first | rfl | (simp_all; done)) rfl
theorem s_J1_charAt_0_1 {d : Nat} (hd : 2 ≤ d) {M : gMem} : Go d RJ1 cJ1_charAt_3b067 2 (some .char) 0 [some (.inr 200), some (.inl 1)] [] M (some (.inl 117)) M := by
  refine Go_iload_n (pc := 0) dJ1_charAt_3b067_0 rfl rfl ?_
  refine Go_aload_n (pc := 1) dJ1_charAt_3b067_1 rfl (by decide) rfl ?_
  refine Go_alenS (pc := 2) (i := 0) (n := 4) rfl (by decide) (by decide) dJ1_charAt_3b067_2 ?_
  refine Go_invSv (pc := 3) (y := yJ0_checkIndex_df160) (avs := [.inl 1, .inl 4]) (rest := [])   (d' := d - 1) dJ1_charAt_3b067_3 ln_J1_9 mo_J0_checkIndex_df160 so_J0_checkIndex_df160 rfl rfl rfl (Nat.le_of_ble_eq_true rfl) (by omega) (Nat.le_of_ble_eq_true rfl) rfl (s_J0_checkIndex (by omega) (by decide) (by decide) (by decide)) ?_
  refine Go_aload_n (pc := 6) dJ1_charAt_3b067_6 rfl (by decide) rfl ?_
  refine Go_iload_n (pc := 7) dJ1_charAt_3b067_7 rfl rfl ?_
  refine Go_baS (pc := 8) (i := 0) (z := 117) rfl (by decide) (by decide) (by decide) (by decide) dJ1_charAt_3b067_8 ?_
  refine Go_sipush (pc := 9) dJ1_charAt_3b067_9 (by decide) (by decide) ?_
  refine Go_iand (pc := 12) dJ1_charAt_3b067_12 ?_
  refine Go_LS (st1 := [.inl 117]) rfl (congrArg (fun z : Int => (.inl z :: [] : List MV)) (by decide)) ?_
  refine Go_i2c (pc := 13) dJ1_charAt_3b067_13 (by omega) (by omega) ?_
  exact Go_creturn (pc := 14) dJ1_charAt_3b067_14 rfl (by omega) (by omega) (by first | rfl | (simp_all; done)) rfl
theorem s_J0_charAt_0_1 {d : Nat} (hd : 3 ≤ d) {M : gMem} : Go d RJ0 cJ0_charAt_5068e 2 (some .char) 0 [some (.inr 100), some (.inl 1)] [] M (some (.inl 117)) M := by
  refine Go_aload_n (pc := 0) dJ0_charAt_5068e_0 rfl (by decide) rfl ?_
  refine Go_invV (pc := 1) (y := yJ0_isLatin1_aae02) (avs := []) (k := 100) (rest := []) (x := .inl 1)  (d' := d - 1) dJ0_charAt_5068e_1 ln_J0_492 mo_J0_isLatin1_aae02 vo_J0_isLatin1_aae02 rfl (rc_s (i := 0) (by decide)) rfl rfl (Nat.le_of_ble_eq_true rfl) (by omega) (Nat.le_of_ble_eq_true rfl) rfl (s_J0_isLatin1_0 (by omega)) ?_
  refine Go_if_eq (pc := 4) (tgt := 16) dJ0_charAt_5068e_4 (by decide) (by decide) (fun q => absurd q (by decide)) (fun _ => ?_)
  refine Go_aload_n (pc := 7) dJ0_charAt_5068e_7 rfl (by decide) rfl ?_
  refine Go_getSv (pc := 8) (i := 0) rfl (by decide) dJ0_charAt_5068e_8 ?_
  refine Go_iload_n (pc := 11) dJ0_charAt_5068e_11 rfl rfl ?_
  refine Go_invS (pc := 12) (y := yJ1_charAt_3b067) (avs := [.inr 200, .inl 1]) (rest := []) (x := .inl 117)  (d' := d - 1) dJ0_charAt_5068e_12 ln_J0_495 mo_J1_charAt_3b067 so_J1_charAt_3b067 rfl rfl rfl (Nat.le_of_ble_eq_true rfl) (by omega) (Nat.le_of_ble_eq_true rfl) rfl (s_J1_charAt_0_1 (by omega)) ?_
  exact Go_creturn (pc := 15) dJ0_charAt_5068e_15 rfl (by omega) (by omega) (by first | rfl | (simp_all; done)) rfl
theorem s_J1_charAt_0_2 {d : Nat} (hd : 2 ≤ d) {M : gMem} : Go d RJ1 cJ1_charAt_3b067 2 (some .char) 0 [some (.inr 200), some (.inl 2)] [] M (some (.inl 108)) M := by
  refine Go_iload_n (pc := 0) dJ1_charAt_3b067_0 rfl rfl ?_
  refine Go_aload_n (pc := 1) dJ1_charAt_3b067_1 rfl (by decide) rfl ?_
  refine Go_alenS (pc := 2) (i := 0) (n := 4) rfl (by decide) (by decide) dJ1_charAt_3b067_2 ?_
  refine Go_invSv (pc := 3) (y := yJ0_checkIndex_df160) (avs := [.inl 2, .inl 4]) (rest := [])   (d' := d - 1) dJ1_charAt_3b067_3 ln_J1_9 mo_J0_checkIndex_df160 so_J0_checkIndex_df160 rfl rfl rfl (Nat.le_of_ble_eq_true rfl) (by omega) (Nat.le_of_ble_eq_true rfl) rfl (s_J0_checkIndex (by omega) (by decide) (by decide) (by decide)) ?_
  refine Go_aload_n (pc := 6) dJ1_charAt_3b067_6 rfl (by decide) rfl ?_
  refine Go_iload_n (pc := 7) dJ1_charAt_3b067_7 rfl rfl ?_
  refine Go_baS (pc := 8) (i := 0) (z := 108) rfl (by decide) (by decide) (by decide) (by decide) dJ1_charAt_3b067_8 ?_
  refine Go_sipush (pc := 9) dJ1_charAt_3b067_9 (by decide) (by decide) ?_
  refine Go_iand (pc := 12) dJ1_charAt_3b067_12 ?_
  refine Go_LS (st1 := [.inl 108]) rfl (congrArg (fun z : Int => (.inl z :: [] : List MV)) (by decide)) ?_
  refine Go_i2c (pc := 13) dJ1_charAt_3b067_13 (by omega) (by omega) ?_
  exact Go_creturn (pc := 14) dJ1_charAt_3b067_14 rfl (by omega) (by omega) (by first | rfl | (simp_all; done)) rfl
theorem s_J0_charAt_0_2 {d : Nat} (hd : 3 ≤ d) {M : gMem} : Go d RJ0 cJ0_charAt_5068e 2 (some .char) 0 [some (.inr 100), some (.inl 2)] [] M (some (.inl 108)) M := by
  refine Go_aload_n (pc := 0) dJ0_charAt_5068e_0 rfl (by decide) rfl ?_
  refine Go_invV (pc := 1) (y := yJ0_isLatin1_aae02) (avs := []) (k := 100) (rest := []) (x := .inl 1)  (d' := d - 1) dJ0_charAt_5068e_1 ln_J0_492 mo_J0_isLatin1_aae02 vo_J0_isLatin1_aae02 rfl (rc_s (i := 0) (by decide)) rfl rfl (Nat.le_of_ble_eq_true rfl) (by omega) (Nat.le_of_ble_eq_true rfl) rfl (s_J0_isLatin1_0 (by omega)) ?_
  refine Go_if_eq (pc := 4) (tgt := 16) dJ0_charAt_5068e_4 (by decide) (by decide) (fun q => absurd q (by decide)) (fun _ => ?_)
  refine Go_aload_n (pc := 7) dJ0_charAt_5068e_7 rfl (by decide) rfl ?_
  refine Go_getSv (pc := 8) (i := 0) rfl (by decide) dJ0_charAt_5068e_8 ?_
  refine Go_iload_n (pc := 11) dJ0_charAt_5068e_11 rfl rfl ?_
  refine Go_invS (pc := 12) (y := yJ1_charAt_3b067) (avs := [.inr 200, .inl 2]) (rest := []) (x := .inl 108)  (d' := d - 1) dJ0_charAt_5068e_12 ln_J0_495 mo_J1_charAt_3b067 so_J1_charAt_3b067 rfl rfl rfl (Nat.le_of_ble_eq_true rfl) (by omega) (Nat.le_of_ble_eq_true rfl) rfl (s_J1_charAt_0_2 (by omega)) ?_
  exact Go_creturn (pc := 15) dJ0_charAt_5068e_15 rfl (by omega) (by omega) (by first | rfl | (simp_all; done)) rfl
theorem s_J1_charAt_0_3 {d : Nat} (hd : 2 ≤ d) {M : gMem} : Go d RJ1 cJ1_charAt_3b067 2 (some .char) 0 [some (.inr 200), some (.inl 3)] [] M (some (.inl 108)) M := by
  refine Go_iload_n (pc := 0) dJ1_charAt_3b067_0 rfl rfl ?_
  refine Go_aload_n (pc := 1) dJ1_charAt_3b067_1 rfl (by decide) rfl ?_
  refine Go_alenS (pc := 2) (i := 0) (n := 4) rfl (by decide) (by decide) dJ1_charAt_3b067_2 ?_
  refine Go_invSv (pc := 3) (y := yJ0_checkIndex_df160) (avs := [.inl 3, .inl 4]) (rest := [])   (d' := d - 1) dJ1_charAt_3b067_3 ln_J1_9 mo_J0_checkIndex_df160 so_J0_checkIndex_df160 rfl rfl rfl (Nat.le_of_ble_eq_true rfl) (by omega) (Nat.le_of_ble_eq_true rfl) rfl (s_J0_checkIndex (by omega) (by decide) (by decide) (by decide)) ?_
  refine Go_aload_n (pc := 6) dJ1_charAt_3b067_6 rfl (by decide) rfl ?_
  refine Go_iload_n (pc := 7) dJ1_charAt_3b067_7 rfl rfl ?_
  refine Go_baS (pc := 8) (i := 0) (z := 108) rfl (by decide) (by decide) (by decide) (by decide) dJ1_charAt_3b067_8 ?_
  refine Go_sipush (pc := 9) dJ1_charAt_3b067_9 (by decide) (by decide) ?_
  refine Go_iand (pc := 12) dJ1_charAt_3b067_12 ?_
  refine Go_LS (st1 := [.inl 108]) rfl (congrArg (fun z : Int => (.inl z :: [] : List MV)) (by decide)) ?_
  refine Go_i2c (pc := 13) dJ1_charAt_3b067_13 (by omega) (by omega) ?_
  exact Go_creturn (pc := 14) dJ1_charAt_3b067_14 rfl (by omega) (by omega) (by first | rfl | (simp_all; done)) rfl
theorem s_J0_charAt_0_3 {d : Nat} (hd : 3 ≤ d) {M : gMem} : Go d RJ0 cJ0_charAt_5068e 2 (some .char) 0 [some (.inr 100), some (.inl 3)] [] M (some (.inl 108)) M := by
  refine Go_aload_n (pc := 0) dJ0_charAt_5068e_0 rfl (by decide) rfl ?_
  refine Go_invV (pc := 1) (y := yJ0_isLatin1_aae02) (avs := []) (k := 100) (rest := []) (x := .inl 1)  (d' := d - 1) dJ0_charAt_5068e_1 ln_J0_492 mo_J0_isLatin1_aae02 vo_J0_isLatin1_aae02 rfl (rc_s (i := 0) (by decide)) rfl rfl (Nat.le_of_ble_eq_true rfl) (by omega) (Nat.le_of_ble_eq_true rfl) rfl (s_J0_isLatin1_0 (by omega)) ?_
  refine Go_if_eq (pc := 4) (tgt := 16) dJ0_charAt_5068e_4 (by decide) (by decide) (fun q => absurd q (by decide)) (fun _ => ?_)
  refine Go_aload_n (pc := 7) dJ0_charAt_5068e_7 rfl (by decide) rfl ?_
  refine Go_getSv (pc := 8) (i := 0) rfl (by decide) dJ0_charAt_5068e_8 ?_
  refine Go_iload_n (pc := 11) dJ0_charAt_5068e_11 rfl rfl ?_
  refine Go_invS (pc := 12) (y := yJ1_charAt_3b067) (avs := [.inr 200, .inl 3]) (rest := []) (x := .inl 108)  (d' := d - 1) dJ0_charAt_5068e_12 ln_J0_495 mo_J1_charAt_3b067 so_J1_charAt_3b067 rfl rfl rfl (Nat.le_of_ble_eq_true rfl) (by omega) (Nat.le_of_ble_eq_true rfl) rfl (s_J1_charAt_0_3 (by omega)) ?_
  exact Go_creturn (pc := 15) dJ0_charAt_5068e_15 rfl (by omega) (by omega) (by first | rfl | (simp_all; done)) rfl
theorem s_J1_charAt_1_0 {d : Nat} (hd : 2 ≤ d) {M : gMem} : Go d RJ1 cJ1_charAt_3b067 2 (some .char) 0 [some (.inr 201), some (.inl 0)] [] M (some (.inl 100)) M := by
  refine Go_iload_n (pc := 0) dJ1_charAt_3b067_0 rfl rfl ?_
  refine Go_aload_n (pc := 1) dJ1_charAt_3b067_1 rfl (by decide) rfl ?_
  refine Go_alenS (pc := 2) (i := 1) (n := 4) rfl (by decide) (by decide) dJ1_charAt_3b067_2 ?_
  refine Go_invSv (pc := 3) (y := yJ0_checkIndex_df160) (avs := [.inl 0, .inl 4]) (rest := [])   (d' := d - 1) dJ1_charAt_3b067_3 ln_J1_9 mo_J0_checkIndex_df160 so_J0_checkIndex_df160 rfl rfl rfl (Nat.le_of_ble_eq_true rfl) (by omega) (Nat.le_of_ble_eq_true rfl) rfl (s_J0_checkIndex (by omega) (by decide) (by decide) (by decide)) ?_
  refine Go_aload_n (pc := 6) dJ1_charAt_3b067_6 rfl (by decide) rfl ?_
  refine Go_iload_n (pc := 7) dJ1_charAt_3b067_7 rfl rfl ?_
  refine Go_baS (pc := 8) (i := 1) (z := 100) rfl (by decide) (by decide) (by decide) (by decide) dJ1_charAt_3b067_8 ?_
  refine Go_sipush (pc := 9) dJ1_charAt_3b067_9 (by decide) (by decide) ?_
  refine Go_iand (pc := 12) dJ1_charAt_3b067_12 ?_
  refine Go_LS (st1 := [.inl 100]) rfl (congrArg (fun z : Int => (.inl z :: [] : List MV)) (by decide)) ?_
  refine Go_i2c (pc := 13) dJ1_charAt_3b067_13 (by omega) (by omega) ?_
  exact Go_creturn (pc := 14) dJ1_charAt_3b067_14 rfl (by omega) (by omega) (by first | rfl | (simp_all; done)) rfl
theorem s_J0_charAt_1_0 {d : Nat} (hd : 3 ≤ d) {M : gMem} : Go d RJ0 cJ0_charAt_5068e 2 (some .char) 0 [some (.inr 101), some (.inl 0)] [] M (some (.inl 100)) M := by
  refine Go_aload_n (pc := 0) dJ0_charAt_5068e_0 rfl (by decide) rfl ?_
  refine Go_invV (pc := 1) (y := yJ0_isLatin1_aae02) (avs := []) (k := 101) (rest := []) (x := .inl 1)  (d' := d - 1) dJ0_charAt_5068e_1 ln_J0_492 mo_J0_isLatin1_aae02 vo_J0_isLatin1_aae02 rfl (rc_s (i := 1) (by decide)) rfl rfl (Nat.le_of_ble_eq_true rfl) (by omega) (Nat.le_of_ble_eq_true rfl) rfl (s_J0_isLatin1_1 (by omega)) ?_
  refine Go_if_eq (pc := 4) (tgt := 16) dJ0_charAt_5068e_4 (by decide) (by decide) (fun q => absurd q (by decide)) (fun _ => ?_)
  refine Go_aload_n (pc := 7) dJ0_charAt_5068e_7 rfl (by decide) rfl ?_
  refine Go_getSv (pc := 8) (i := 1) rfl (by decide) dJ0_charAt_5068e_8 ?_
  refine Go_iload_n (pc := 11) dJ0_charAt_5068e_11 rfl rfl ?_
  refine Go_invS (pc := 12) (y := yJ1_charAt_3b067) (avs := [.inr 201, .inl 0]) (rest := []) (x := .inl 100)  (d' := d - 1) dJ0_charAt_5068e_12 ln_J0_495 mo_J1_charAt_3b067 so_J1_charAt_3b067 rfl rfl rfl (Nat.le_of_ble_eq_true rfl) (by omega) (Nat.le_of_ble_eq_true rfl) rfl (s_J1_charAt_1_0 (by omega)) ?_
  exact Go_creturn (pc := 15) dJ0_charAt_5068e_15 rfl (by omega) (by omega) (by first | rfl | (simp_all; done)) rfl
theorem s_J1_charAt_1_1 {d : Nat} (hd : 2 ≤ d) {M : gMem} : Go d RJ1 cJ1_charAt_3b067 2 (some .char) 0 [some (.inr 201), some (.inl 1)] [] M (some (.inl 114)) M := by
  refine Go_iload_n (pc := 0) dJ1_charAt_3b067_0 rfl rfl ?_
  refine Go_aload_n (pc := 1) dJ1_charAt_3b067_1 rfl (by decide) rfl ?_
  refine Go_alenS (pc := 2) (i := 1) (n := 4) rfl (by decide) (by decide) dJ1_charAt_3b067_2 ?_
  refine Go_invSv (pc := 3) (y := yJ0_checkIndex_df160) (avs := [.inl 1, .inl 4]) (rest := [])   (d' := d - 1) dJ1_charAt_3b067_3 ln_J1_9 mo_J0_checkIndex_df160 so_J0_checkIndex_df160 rfl rfl rfl (Nat.le_of_ble_eq_true rfl) (by omega) (Nat.le_of_ble_eq_true rfl) rfl (s_J0_checkIndex (by omega) (by decide) (by decide) (by decide)) ?_
  refine Go_aload_n (pc := 6) dJ1_charAt_3b067_6 rfl (by decide) rfl ?_
  refine Go_iload_n (pc := 7) dJ1_charAt_3b067_7 rfl rfl ?_
  refine Go_baS (pc := 8) (i := 1) (z := 114) rfl (by decide) (by decide) (by decide) (by decide) dJ1_charAt_3b067_8 ?_
  refine Go_sipush (pc := 9) dJ1_charAt_3b067_9 (by decide) (by decide) ?_
  refine Go_iand (pc := 12) dJ1_charAt_3b067_12 ?_
  refine Go_LS (st1 := [.inl 114]) rfl (congrArg (fun z : Int => (.inl z :: [] : List MV)) (by decide)) ?_
  refine Go_i2c (pc := 13) dJ1_charAt_3b067_13 (by omega) (by omega) ?_
  exact Go_creturn (pc := 14) dJ1_charAt_3b067_14 rfl (by omega) (by omega) (by first | rfl | (simp_all; done)) rfl
theorem s_J0_charAt_1_1 {d : Nat} (hd : 3 ≤ d) {M : gMem} : Go d RJ0 cJ0_charAt_5068e 2 (some .char) 0 [some (.inr 101), some (.inl 1)] [] M (some (.inl 114)) M := by
  refine Go_aload_n (pc := 0) dJ0_charAt_5068e_0 rfl (by decide) rfl ?_
  refine Go_invV (pc := 1) (y := yJ0_isLatin1_aae02) (avs := []) (k := 101) (rest := []) (x := .inl 1)  (d' := d - 1) dJ0_charAt_5068e_1 ln_J0_492 mo_J0_isLatin1_aae02 vo_J0_isLatin1_aae02 rfl (rc_s (i := 1) (by decide)) rfl rfl (Nat.le_of_ble_eq_true rfl) (by omega) (Nat.le_of_ble_eq_true rfl) rfl (s_J0_isLatin1_1 (by omega)) ?_
  refine Go_if_eq (pc := 4) (tgt := 16) dJ0_charAt_5068e_4 (by decide) (by decide) (fun q => absurd q (by decide)) (fun _ => ?_)
  refine Go_aload_n (pc := 7) dJ0_charAt_5068e_7 rfl (by decide) rfl ?_
  refine Go_getSv (pc := 8) (i := 1) rfl (by decide) dJ0_charAt_5068e_8 ?_
  refine Go_iload_n (pc := 11) dJ0_charAt_5068e_11 rfl rfl ?_
  refine Go_invS (pc := 12) (y := yJ1_charAt_3b067) (avs := [.inr 201, .inl 1]) (rest := []) (x := .inl 114)  (d' := d - 1) dJ0_charAt_5068e_12 ln_J0_495 mo_J1_charAt_3b067 so_J1_charAt_3b067 rfl rfl rfl (Nat.le_of_ble_eq_true rfl) (by omega) (Nat.le_of_ble_eq_true rfl) rfl (s_J1_charAt_1_1 (by omega)) ?_
  exact Go_creturn (pc := 15) dJ0_charAt_5068e_15 rfl (by omega) (by omega) (by first | rfl | (simp_all; done)) rfl
theorem s_J1_charAt_1_2 {d : Nat} (hd : 2 ≤ d) {M : gMem} : Go d RJ1 cJ1_charAt_3b067 2 (some .char) 0 [some (.inr 201), some (.inl 2)] [] M (some (.inl 111)) M := by
  refine Go_iload_n (pc := 0) dJ1_charAt_3b067_0 rfl rfl ?_
  refine Go_aload_n (pc := 1) dJ1_charAt_3b067_1 rfl (by decide) rfl ?_
  refine Go_alenS (pc := 2) (i := 1) (n := 4) rfl (by decide) (by decide) dJ1_charAt_3b067_2 ?_
  refine Go_invSv (pc := 3) (y := yJ0_checkIndex_df160) (avs := [.inl 2, .inl 4]) (rest := [])   (d' := d - 1) dJ1_charAt_3b067_3 ln_J1_9 mo_J0_checkIndex_df160 so_J0_checkIndex_df160 rfl rfl rfl (Nat.le_of_ble_eq_true rfl) (by omega) (Nat.le_of_ble_eq_true rfl) rfl (s_J0_checkIndex (by omega) (by decide) (by decide) (by decide)) ?_
  refine Go_aload_n (pc := 6) dJ1_charAt_3b067_6 rfl (by decide) rfl ?_
  refine Go_iload_n (pc := 7) dJ1_charAt_3b067_7 rfl rfl ?_
  refine Go_baS (pc := 8) (i := 1) (z := 111) rfl (by decide) (by decide) (by decide) (by decide) dJ1_charAt_3b067_8 ?_
  refine Go_sipush (pc := 9) dJ1_charAt_3b067_9 (by decide) (by decide) ?_
  refine Go_iand (pc := 12) dJ1_charAt_3b067_12 ?_
  refine Go_LS (st1 := [.inl 111]) rfl (congrArg (fun z : Int => (.inl z :: [] : List MV)) (by decide)) ?_
  refine Go_i2c (pc := 13) dJ1_charAt_3b067_13 (by omega) (by omega) ?_
  exact Go_creturn (pc := 14) dJ1_charAt_3b067_14 rfl (by omega) (by omega) (by first | rfl | (simp_all; done)) rfl
theorem s_J0_charAt_1_2 {d : Nat} (hd : 3 ≤ d) {M : gMem} : Go d RJ0 cJ0_charAt_5068e 2 (some .char) 0 [some (.inr 101), some (.inl 2)] [] M (some (.inl 111)) M := by
  refine Go_aload_n (pc := 0) dJ0_charAt_5068e_0 rfl (by decide) rfl ?_
  refine Go_invV (pc := 1) (y := yJ0_isLatin1_aae02) (avs := []) (k := 101) (rest := []) (x := .inl 1)  (d' := d - 1) dJ0_charAt_5068e_1 ln_J0_492 mo_J0_isLatin1_aae02 vo_J0_isLatin1_aae02 rfl (rc_s (i := 1) (by decide)) rfl rfl (Nat.le_of_ble_eq_true rfl) (by omega) (Nat.le_of_ble_eq_true rfl) rfl (s_J0_isLatin1_1 (by omega)) ?_
  refine Go_if_eq (pc := 4) (tgt := 16) dJ0_charAt_5068e_4 (by decide) (by decide) (fun q => absurd q (by decide)) (fun _ => ?_)
  refine Go_aload_n (pc := 7) dJ0_charAt_5068e_7 rfl (by decide) rfl ?_
  refine Go_getSv (pc := 8) (i := 1) rfl (by decide) dJ0_charAt_5068e_8 ?_
  refine Go_iload_n (pc := 11) dJ0_charAt_5068e_11 rfl rfl ?_
  refine Go_invS (pc := 12) (y := yJ1_charAt_3b067) (avs := [.inr 201, .inl 2]) (rest := []) (x := .inl 111)  (d' := d - 1) dJ0_charAt_5068e_12 ln_J0_495 mo_J1_charAt_3b067 so_J1_charAt_3b067 rfl rfl rfl (Nat.le_of_ble_eq_true rfl) (by omega) (Nat.le_of_ble_eq_true rfl) rfl (s_J1_charAt_1_2 (by omega)) ?_
  exact Go_creturn (pc := 15) dJ0_charAt_5068e_15 rfl (by omega) (by omega) (by first | rfl | (simp_all; done)) rfl
theorem s_J1_charAt_1_3 {d : Nat} (hd : 2 ≤ d) {M : gMem} : Go d RJ1 cJ1_charAt_3b067 2 (some .char) 0 [some (.inr 201), some (.inl 3)] [] M (some (.inl 112)) M := by
  refine Go_iload_n (pc := 0) dJ1_charAt_3b067_0 rfl rfl ?_
  refine Go_aload_n (pc := 1) dJ1_charAt_3b067_1 rfl (by decide) rfl ?_
  refine Go_alenS (pc := 2) (i := 1) (n := 4) rfl (by decide) (by decide) dJ1_charAt_3b067_2 ?_
  refine Go_invSv (pc := 3) (y := yJ0_checkIndex_df160) (avs := [.inl 3, .inl 4]) (rest := [])   (d' := d - 1) dJ1_charAt_3b067_3 ln_J1_9 mo_J0_checkIndex_df160 so_J0_checkIndex_df160 rfl rfl rfl (Nat.le_of_ble_eq_true rfl) (by omega) (Nat.le_of_ble_eq_true rfl) rfl (s_J0_checkIndex (by omega) (by decide) (by decide) (by decide)) ?_
  refine Go_aload_n (pc := 6) dJ1_charAt_3b067_6 rfl (by decide) rfl ?_
  refine Go_iload_n (pc := 7) dJ1_charAt_3b067_7 rfl rfl ?_
  refine Go_baS (pc := 8) (i := 1) (z := 112) rfl (by decide) (by decide) (by decide) (by decide) dJ1_charAt_3b067_8 ?_
  refine Go_sipush (pc := 9) dJ1_charAt_3b067_9 (by decide) (by decide) ?_
  refine Go_iand (pc := 12) dJ1_charAt_3b067_12 ?_
  refine Go_LS (st1 := [.inl 112]) rfl (congrArg (fun z : Int => (.inl z :: [] : List MV)) (by decide)) ?_
  refine Go_i2c (pc := 13) dJ1_charAt_3b067_13 (by omega) (by omega) ?_
  exact Go_creturn (pc := 14) dJ1_charAt_3b067_14 rfl (by omega) (by omega) (by first | rfl | (simp_all; done)) rfl
theorem s_J0_charAt_1_3 {d : Nat} (hd : 3 ≤ d) {M : gMem} : Go d RJ0 cJ0_charAt_5068e 2 (some .char) 0 [some (.inr 101), some (.inl 3)] [] M (some (.inl 112)) M := by
  refine Go_aload_n (pc := 0) dJ0_charAt_5068e_0 rfl (by decide) rfl ?_
  refine Go_invV (pc := 1) (y := yJ0_isLatin1_aae02) (avs := []) (k := 101) (rest := []) (x := .inl 1)  (d' := d - 1) dJ0_charAt_5068e_1 ln_J0_492 mo_J0_isLatin1_aae02 vo_J0_isLatin1_aae02 rfl (rc_s (i := 1) (by decide)) rfl rfl (Nat.le_of_ble_eq_true rfl) (by omega) (Nat.le_of_ble_eq_true rfl) rfl (s_J0_isLatin1_1 (by omega)) ?_
  refine Go_if_eq (pc := 4) (tgt := 16) dJ0_charAt_5068e_4 (by decide) (by decide) (fun q => absurd q (by decide)) (fun _ => ?_)
  refine Go_aload_n (pc := 7) dJ0_charAt_5068e_7 rfl (by decide) rfl ?_
  refine Go_getSv (pc := 8) (i := 1) rfl (by decide) dJ0_charAt_5068e_8 ?_
  refine Go_iload_n (pc := 11) dJ0_charAt_5068e_11 rfl rfl ?_
  refine Go_invS (pc := 12) (y := yJ1_charAt_3b067) (avs := [.inr 201, .inl 3]) (rest := []) (x := .inl 112)  (d' := d - 1) dJ0_charAt_5068e_12 ln_J0_495 mo_J1_charAt_3b067 so_J1_charAt_3b067 rfl rfl rfl (Nat.le_of_ble_eq_true rfl) (by omega) (Nat.le_of_ble_eq_true rfl) rfl (s_J1_charAt_1_3 (by omega)) ?_
  exact Go_creturn (pc := 15) dJ0_charAt_5068e_15 rfl (by omega) (by omega) (by first | rfl | (simp_all; done)) rfl
theorem s_J1_charAt_2_0 {d : Nat} (hd : 2 ≤ d) {M : gMem} : Go d RJ1 cJ1_charAt_3b067 2 (some .char) 0 [some (.inr 202), some (.inl 0)] [] M (some (.inl 117)) M := by
  refine Go_iload_n (pc := 0) dJ1_charAt_3b067_0 rfl rfl ?_
  refine Go_aload_n (pc := 1) dJ1_charAt_3b067_1 rfl (by decide) rfl ?_
  refine Go_alenS (pc := 2) (i := 2) (n := 5) rfl (by decide) (by decide) dJ1_charAt_3b067_2 ?_
  refine Go_invSv (pc := 3) (y := yJ0_checkIndex_df160) (avs := [.inl 0, .inl 5]) (rest := [])   (d' := d - 1) dJ1_charAt_3b067_3 ln_J1_9 mo_J0_checkIndex_df160 so_J0_checkIndex_df160 rfl rfl rfl (Nat.le_of_ble_eq_true rfl) (by omega) (Nat.le_of_ble_eq_true rfl) rfl (s_J0_checkIndex (by omega) (by decide) (by decide) (by decide)) ?_
  refine Go_aload_n (pc := 6) dJ1_charAt_3b067_6 rfl (by decide) rfl ?_
  refine Go_iload_n (pc := 7) dJ1_charAt_3b067_7 rfl rfl ?_
  refine Go_baS (pc := 8) (i := 2) (z := 117) rfl (by decide) (by decide) (by decide) (by decide) dJ1_charAt_3b067_8 ?_
  refine Go_sipush (pc := 9) dJ1_charAt_3b067_9 (by decide) (by decide) ?_
  refine Go_iand (pc := 12) dJ1_charAt_3b067_12 ?_
  refine Go_LS (st1 := [.inl 117]) rfl (congrArg (fun z : Int => (.inl z :: [] : List MV)) (by decide)) ?_
  refine Go_i2c (pc := 13) dJ1_charAt_3b067_13 (by omega) (by omega) ?_
  exact Go_creturn (pc := 14) dJ1_charAt_3b067_14 rfl (by omega) (by omega) (by first | rfl | (simp_all; done)) rfl
theorem s_J0_charAt_2_0 {d : Nat} (hd : 3 ≤ d) {M : gMem} : Go d RJ0 cJ0_charAt_5068e 2 (some .char) 0 [some (.inr 102), some (.inl 0)] [] M (some (.inl 117)) M := by
  refine Go_aload_n (pc := 0) dJ0_charAt_5068e_0 rfl (by decide) rfl ?_
  refine Go_invV (pc := 1) (y := yJ0_isLatin1_aae02) (avs := []) (k := 102) (rest := []) (x := .inl 1)  (d' := d - 1) dJ0_charAt_5068e_1 ln_J0_492 mo_J0_isLatin1_aae02 vo_J0_isLatin1_aae02 rfl (rc_s (i := 2) (by decide)) rfl rfl (Nat.le_of_ble_eq_true rfl) (by omega) (Nat.le_of_ble_eq_true rfl) rfl (s_J0_isLatin1_2 (by omega)) ?_
  refine Go_if_eq (pc := 4) (tgt := 16) dJ0_charAt_5068e_4 (by decide) (by decide) (fun q => absurd q (by decide)) (fun _ => ?_)
  refine Go_aload_n (pc := 7) dJ0_charAt_5068e_7 rfl (by decide) rfl ?_
  refine Go_getSv (pc := 8) (i := 2) rfl (by decide) dJ0_charAt_5068e_8 ?_
  refine Go_iload_n (pc := 11) dJ0_charAt_5068e_11 rfl rfl ?_
  refine Go_invS (pc := 12) (y := yJ1_charAt_3b067) (avs := [.inr 202, .inl 0]) (rest := []) (x := .inl 117)  (d' := d - 1) dJ0_charAt_5068e_12 ln_J0_495 mo_J1_charAt_3b067 so_J1_charAt_3b067 rfl rfl rfl (Nat.le_of_ble_eq_true rfl) (by omega) (Nat.le_of_ble_eq_true rfl) rfl (s_J1_charAt_2_0 (by omega)) ?_
  exact Go_creturn (pc := 15) dJ0_charAt_5068e_15 rfl (by omega) (by omega) (by first | rfl | (simp_all; done)) rfl
theorem s_J1_charAt_2_1 {d : Nat} (hd : 2 ≤ d) {M : gMem} : Go d RJ1 cJ1_charAt_3b067 2 (some .char) 0 [some (.inr 202), some (.inl 1)] [] M (some (.inl 110)) M := by
  refine Go_iload_n (pc := 0) dJ1_charAt_3b067_0 rfl rfl ?_
  refine Go_aload_n (pc := 1) dJ1_charAt_3b067_1 rfl (by decide) rfl ?_
  refine Go_alenS (pc := 2) (i := 2) (n := 5) rfl (by decide) (by decide) dJ1_charAt_3b067_2 ?_
  refine Go_invSv (pc := 3) (y := yJ0_checkIndex_df160) (avs := [.inl 1, .inl 5]) (rest := [])   (d' := d - 1) dJ1_charAt_3b067_3 ln_J1_9 mo_J0_checkIndex_df160 so_J0_checkIndex_df160 rfl rfl rfl (Nat.le_of_ble_eq_true rfl) (by omega) (Nat.le_of_ble_eq_true rfl) rfl (s_J0_checkIndex (by omega) (by decide) (by decide) (by decide)) ?_
  refine Go_aload_n (pc := 6) dJ1_charAt_3b067_6 rfl (by decide) rfl ?_
  refine Go_iload_n (pc := 7) dJ1_charAt_3b067_7 rfl rfl ?_
  refine Go_baS (pc := 8) (i := 2) (z := 110) rfl (by decide) (by decide) (by decide) (by decide) dJ1_charAt_3b067_8 ?_
  refine Go_sipush (pc := 9) dJ1_charAt_3b067_9 (by decide) (by decide) ?_
  refine Go_iand (pc := 12) dJ1_charAt_3b067_12 ?_
  refine Go_LS (st1 := [.inl 110]) rfl (congrArg (fun z : Int => (.inl z :: [] : List MV)) (by decide)) ?_
  refine Go_i2c (pc := 13) dJ1_charAt_3b067_13 (by omega) (by omega) ?_
  exact Go_creturn (pc := 14) dJ1_charAt_3b067_14 rfl (by omega) (by omega) (by first | rfl | (simp_all; done)) rfl
theorem s_J0_charAt_2_1 {d : Nat} (hd : 3 ≤ d) {M : gMem} : Go d RJ0 cJ0_charAt_5068e 2 (some .char) 0 [some (.inr 102), some (.inl 1)] [] M (some (.inl 110)) M := by
  refine Go_aload_n (pc := 0) dJ0_charAt_5068e_0 rfl (by decide) rfl ?_
  refine Go_invV (pc := 1) (y := yJ0_isLatin1_aae02) (avs := []) (k := 102) (rest := []) (x := .inl 1)  (d' := d - 1) dJ0_charAt_5068e_1 ln_J0_492 mo_J0_isLatin1_aae02 vo_J0_isLatin1_aae02 rfl (rc_s (i := 2) (by decide)) rfl rfl (Nat.le_of_ble_eq_true rfl) (by omega) (Nat.le_of_ble_eq_true rfl) rfl (s_J0_isLatin1_2 (by omega)) ?_
  refine Go_if_eq (pc := 4) (tgt := 16) dJ0_charAt_5068e_4 (by decide) (by decide) (fun q => absurd q (by decide)) (fun _ => ?_)
  refine Go_aload_n (pc := 7) dJ0_charAt_5068e_7 rfl (by decide) rfl ?_
  refine Go_getSv (pc := 8) (i := 2) rfl (by decide) dJ0_charAt_5068e_8 ?_
  refine Go_iload_n (pc := 11) dJ0_charAt_5068e_11 rfl rfl ?_
  refine Go_invS (pc := 12) (y := yJ1_charAt_3b067) (avs := [.inr 202, .inl 1]) (rest := []) (x := .inl 110)  (d' := d - 1) dJ0_charAt_5068e_12 ln_J0_495 mo_J1_charAt_3b067 so_J1_charAt_3b067 rfl rfl rfl (Nat.le_of_ble_eq_true rfl) (by omega) (Nat.le_of_ble_eq_true rfl) rfl (s_J1_charAt_2_1 (by omega)) ?_
  exact Go_creturn (pc := 15) dJ0_charAt_5068e_15 rfl (by omega) (by omega) (by first | rfl | (simp_all; done)) rfl
theorem s_J1_charAt_2_2 {d : Nat} (hd : 2 ≤ d) {M : gMem} : Go d RJ1 cJ1_charAt_3b067 2 (some .char) 0 [some (.inr 202), some (.inl 2)] [] M (some (.inl 116)) M := by
  refine Go_iload_n (pc := 0) dJ1_charAt_3b067_0 rfl rfl ?_
  refine Go_aload_n (pc := 1) dJ1_charAt_3b067_1 rfl (by decide) rfl ?_
  refine Go_alenS (pc := 2) (i := 2) (n := 5) rfl (by decide) (by decide) dJ1_charAt_3b067_2 ?_
  refine Go_invSv (pc := 3) (y := yJ0_checkIndex_df160) (avs := [.inl 2, .inl 5]) (rest := [])   (d' := d - 1) dJ1_charAt_3b067_3 ln_J1_9 mo_J0_checkIndex_df160 so_J0_checkIndex_df160 rfl rfl rfl (Nat.le_of_ble_eq_true rfl) (by omega) (Nat.le_of_ble_eq_true rfl) rfl (s_J0_checkIndex (by omega) (by decide) (by decide) (by decide)) ?_
  refine Go_aload_n (pc := 6) dJ1_charAt_3b067_6 rfl (by decide) rfl ?_
  refine Go_iload_n (pc := 7) dJ1_charAt_3b067_7 rfl rfl ?_
  refine Go_baS (pc := 8) (i := 2) (z := 116) rfl (by decide) (by decide) (by decide) (by decide) dJ1_charAt_3b067_8 ?_
  refine Go_sipush (pc := 9) dJ1_charAt_3b067_9 (by decide) (by decide) ?_
  refine Go_iand (pc := 12) dJ1_charAt_3b067_12 ?_
  refine Go_LS (st1 := [.inl 116]) rfl (congrArg (fun z : Int => (.inl z :: [] : List MV)) (by decide)) ?_
  refine Go_i2c (pc := 13) dJ1_charAt_3b067_13 (by omega) (by omega) ?_
  exact Go_creturn (pc := 14) dJ1_charAt_3b067_14 rfl (by omega) (by omega) (by first | rfl | (simp_all; done)) rfl
theorem s_J0_charAt_2_2 {d : Nat} (hd : 3 ≤ d) {M : gMem} : Go d RJ0 cJ0_charAt_5068e 2 (some .char) 0 [some (.inr 102), some (.inl 2)] [] M (some (.inl 116)) M := by
  refine Go_aload_n (pc := 0) dJ0_charAt_5068e_0 rfl (by decide) rfl ?_
  refine Go_invV (pc := 1) (y := yJ0_isLatin1_aae02) (avs := []) (k := 102) (rest := []) (x := .inl 1)  (d' := d - 1) dJ0_charAt_5068e_1 ln_J0_492 mo_J0_isLatin1_aae02 vo_J0_isLatin1_aae02 rfl (rc_s (i := 2) (by decide)) rfl rfl (Nat.le_of_ble_eq_true rfl) (by omega) (Nat.le_of_ble_eq_true rfl) rfl (s_J0_isLatin1_2 (by omega)) ?_
  refine Go_if_eq (pc := 4) (tgt := 16) dJ0_charAt_5068e_4 (by decide) (by decide) (fun q => absurd q (by decide)) (fun _ => ?_)
  refine Go_aload_n (pc := 7) dJ0_charAt_5068e_7 rfl (by decide) rfl ?_
  refine Go_getSv (pc := 8) (i := 2) rfl (by decide) dJ0_charAt_5068e_8 ?_
  refine Go_iload_n (pc := 11) dJ0_charAt_5068e_11 rfl rfl ?_
  refine Go_invS (pc := 12) (y := yJ1_charAt_3b067) (avs := [.inr 202, .inl 2]) (rest := []) (x := .inl 116)  (d' := d - 1) dJ0_charAt_5068e_12 ln_J0_495 mo_J1_charAt_3b067 so_J1_charAt_3b067 rfl rfl rfl (Nat.le_of_ble_eq_true rfl) (by omega) (Nat.le_of_ble_eq_true rfl) rfl (s_J1_charAt_2_2 (by omega)) ?_
  exact Go_creturn (pc := 15) dJ0_charAt_5068e_15 rfl (by omega) (by omega) (by first | rfl | (simp_all; done)) rfl
theorem s_J1_charAt_2_3 {d : Nat} (hd : 2 ≤ d) {M : gMem} : Go d RJ1 cJ1_charAt_3b067 2 (some .char) 0 [some (.inr 202), some (.inl 3)] [] M (some (.inl 105)) M := by
  refine Go_iload_n (pc := 0) dJ1_charAt_3b067_0 rfl rfl ?_
  refine Go_aload_n (pc := 1) dJ1_charAt_3b067_1 rfl (by decide) rfl ?_
  refine Go_alenS (pc := 2) (i := 2) (n := 5) rfl (by decide) (by decide) dJ1_charAt_3b067_2 ?_
  refine Go_invSv (pc := 3) (y := yJ0_checkIndex_df160) (avs := [.inl 3, .inl 5]) (rest := [])   (d' := d - 1) dJ1_charAt_3b067_3 ln_J1_9 mo_J0_checkIndex_df160 so_J0_checkIndex_df160 rfl rfl rfl (Nat.le_of_ble_eq_true rfl) (by omega) (Nat.le_of_ble_eq_true rfl) rfl (s_J0_checkIndex (by omega) (by decide) (by decide) (by decide)) ?_
  refine Go_aload_n (pc := 6) dJ1_charAt_3b067_6 rfl (by decide) rfl ?_
  refine Go_iload_n (pc := 7) dJ1_charAt_3b067_7 rfl rfl ?_
  refine Go_baS (pc := 8) (i := 2) (z := 105) rfl (by decide) (by decide) (by decide) (by decide) dJ1_charAt_3b067_8 ?_
  refine Go_sipush (pc := 9) dJ1_charAt_3b067_9 (by decide) (by decide) ?_
  refine Go_iand (pc := 12) dJ1_charAt_3b067_12 ?_
  refine Go_LS (st1 := [.inl 105]) rfl (congrArg (fun z : Int => (.inl z :: [] : List MV)) (by decide)) ?_
  refine Go_i2c (pc := 13) dJ1_charAt_3b067_13 (by omega) (by omega) ?_
  exact Go_creturn (pc := 14) dJ1_charAt_3b067_14 rfl (by omega) (by omega) (by first | rfl | (simp_all; done)) rfl
theorem s_J0_charAt_2_3 {d : Nat} (hd : 3 ≤ d) {M : gMem} : Go d RJ0 cJ0_charAt_5068e 2 (some .char) 0 [some (.inr 102), some (.inl 3)] [] M (some (.inl 105)) M := by
  refine Go_aload_n (pc := 0) dJ0_charAt_5068e_0 rfl (by decide) rfl ?_
  refine Go_invV (pc := 1) (y := yJ0_isLatin1_aae02) (avs := []) (k := 102) (rest := []) (x := .inl 1)  (d' := d - 1) dJ0_charAt_5068e_1 ln_J0_492 mo_J0_isLatin1_aae02 vo_J0_isLatin1_aae02 rfl (rc_s (i := 2) (by decide)) rfl rfl (Nat.le_of_ble_eq_true rfl) (by omega) (Nat.le_of_ble_eq_true rfl) rfl (s_J0_isLatin1_2 (by omega)) ?_
  refine Go_if_eq (pc := 4) (tgt := 16) dJ0_charAt_5068e_4 (by decide) (by decide) (fun q => absurd q (by decide)) (fun _ => ?_)
  refine Go_aload_n (pc := 7) dJ0_charAt_5068e_7 rfl (by decide) rfl ?_
  refine Go_getSv (pc := 8) (i := 2) rfl (by decide) dJ0_charAt_5068e_8 ?_
  refine Go_iload_n (pc := 11) dJ0_charAt_5068e_11 rfl rfl ?_
  refine Go_invS (pc := 12) (y := yJ1_charAt_3b067) (avs := [.inr 202, .inl 3]) (rest := []) (x := .inl 105)  (d' := d - 1) dJ0_charAt_5068e_12 ln_J0_495 mo_J1_charAt_3b067 so_J1_charAt_3b067 rfl rfl rfl (Nat.le_of_ble_eq_true rfl) (by omega) (Nat.le_of_ble_eq_true rfl) rfl (s_J1_charAt_2_3 (by omega)) ?_
  exact Go_creturn (pc := 15) dJ0_charAt_5068e_15 rfl (by omega) (by omega) (by first | rfl | (simp_all; done)) rfl
theorem s_J1_charAt_2_4 {d : Nat} (hd : 2 ≤ d) {M : gMem} : Go d RJ1 cJ1_charAt_3b067 2 (some .char) 0 [some (.inr 202), some (.inl 4)] [] M (some (.inl 101)) M := by
  refine Go_iload_n (pc := 0) dJ1_charAt_3b067_0 rfl rfl ?_
  refine Go_aload_n (pc := 1) dJ1_charAt_3b067_1 rfl (by decide) rfl ?_
  refine Go_alenS (pc := 2) (i := 2) (n := 5) rfl (by decide) (by decide) dJ1_charAt_3b067_2 ?_
  refine Go_invSv (pc := 3) (y := yJ0_checkIndex_df160) (avs := [.inl 4, .inl 5]) (rest := [])   (d' := d - 1) dJ1_charAt_3b067_3 ln_J1_9 mo_J0_checkIndex_df160 so_J0_checkIndex_df160 rfl rfl rfl (Nat.le_of_ble_eq_true rfl) (by omega) (Nat.le_of_ble_eq_true rfl) rfl (s_J0_checkIndex (by omega) (by decide) (by decide) (by decide)) ?_
  refine Go_aload_n (pc := 6) dJ1_charAt_3b067_6 rfl (by decide) rfl ?_
  refine Go_iload_n (pc := 7) dJ1_charAt_3b067_7 rfl rfl ?_
  refine Go_baS (pc := 8) (i := 2) (z := 101) rfl (by decide) (by decide) (by decide) (by decide) dJ1_charAt_3b067_8 ?_
  refine Go_sipush (pc := 9) dJ1_charAt_3b067_9 (by decide) (by decide) ?_
  refine Go_iand (pc := 12) dJ1_charAt_3b067_12 ?_
  refine Go_LS (st1 := [.inl 101]) rfl (congrArg (fun z : Int => (.inl z :: [] : List MV)) (by decide)) ?_
  refine Go_i2c (pc := 13) dJ1_charAt_3b067_13 (by omega) (by omega) ?_
  exact Go_creturn (pc := 14) dJ1_charAt_3b067_14 rfl (by omega) (by omega) (by first | rfl | (simp_all; done)) rfl
theorem s_J0_charAt_2_4 {d : Nat} (hd : 3 ≤ d) {M : gMem} : Go d RJ0 cJ0_charAt_5068e 2 (some .char) 0 [some (.inr 102), some (.inl 4)] [] M (some (.inl 101)) M := by
  refine Go_aload_n (pc := 0) dJ0_charAt_5068e_0 rfl (by decide) rfl ?_
  refine Go_invV (pc := 1) (y := yJ0_isLatin1_aae02) (avs := []) (k := 102) (rest := []) (x := .inl 1)  (d' := d - 1) dJ0_charAt_5068e_1 ln_J0_492 mo_J0_isLatin1_aae02 vo_J0_isLatin1_aae02 rfl (rc_s (i := 2) (by decide)) rfl rfl (Nat.le_of_ble_eq_true rfl) (by omega) (Nat.le_of_ble_eq_true rfl) rfl (s_J0_isLatin1_2 (by omega)) ?_
  refine Go_if_eq (pc := 4) (tgt := 16) dJ0_charAt_5068e_4 (by decide) (by decide) (fun q => absurd q (by decide)) (fun _ => ?_)
  refine Go_aload_n (pc := 7) dJ0_charAt_5068e_7 rfl (by decide) rfl ?_
  refine Go_getSv (pc := 8) (i := 2) rfl (by decide) dJ0_charAt_5068e_8 ?_
  refine Go_iload_n (pc := 11) dJ0_charAt_5068e_11 rfl rfl ?_
  refine Go_invS (pc := 12) (y := yJ1_charAt_3b067) (avs := [.inr 202, .inl 4]) (rest := []) (x := .inl 101)  (d' := d - 1) dJ0_charAt_5068e_12 ln_J0_495 mo_J1_charAt_3b067 so_J1_charAt_3b067 rfl rfl rfl (Nat.le_of_ble_eq_true rfl) (by omega) (Nat.le_of_ble_eq_true rfl) rfl (s_J1_charAt_2_4 (by omega)) ?_
  exact Go_creturn (pc := 15) dJ0_charAt_5068e_15 rfl (by omega) (by omega) (by first | rfl | (simp_all; done)) rfl
theorem s_J1_charAt_3_0 {d : Nat} (hd : 2 ≤ d) {M : gMem} : Go d RJ1 cJ1_charAt_3b067 2 (some .char) 0 [some (.inr 203), some (.inl 0)] [] M (some (.inl 116)) M := by
  refine Go_iload_n (pc := 0) dJ1_charAt_3b067_0 rfl rfl ?_
  refine Go_aload_n (pc := 1) dJ1_charAt_3b067_1 rfl (by decide) rfl ?_
  refine Go_alenS (pc := 2) (i := 3) (n := 4) rfl (by decide) (by decide) dJ1_charAt_3b067_2 ?_
  refine Go_invSv (pc := 3) (y := yJ0_checkIndex_df160) (avs := [.inl 0, .inl 4]) (rest := [])   (d' := d - 1) dJ1_charAt_3b067_3 ln_J1_9 mo_J0_checkIndex_df160 so_J0_checkIndex_df160 rfl rfl rfl (Nat.le_of_ble_eq_true rfl) (by omega) (Nat.le_of_ble_eq_true rfl) rfl (s_J0_checkIndex (by omega) (by decide) (by decide) (by decide)) ?_
  refine Go_aload_n (pc := 6) dJ1_charAt_3b067_6 rfl (by decide) rfl ?_
  refine Go_iload_n (pc := 7) dJ1_charAt_3b067_7 rfl rfl ?_
  refine Go_baS (pc := 8) (i := 3) (z := 116) rfl (by decide) (by decide) (by decide) (by decide) dJ1_charAt_3b067_8 ?_
  refine Go_sipush (pc := 9) dJ1_charAt_3b067_9 (by decide) (by decide) ?_
  refine Go_iand (pc := 12) dJ1_charAt_3b067_12 ?_
  refine Go_LS (st1 := [.inl 116]) rfl (congrArg (fun z : Int => (.inl z :: [] : List MV)) (by decide)) ?_
  refine Go_i2c (pc := 13) dJ1_charAt_3b067_13 (by omega) (by omega) ?_
  exact Go_creturn (pc := 14) dJ1_charAt_3b067_14 rfl (by omega) (by omega) (by first | rfl | (simp_all; done)) rfl
theorem s_J0_charAt_3_0 {d : Nat} (hd : 3 ≤ d) {M : gMem} : Go d RJ0 cJ0_charAt_5068e 2 (some .char) 0 [some (.inr 103), some (.inl 0)] [] M (some (.inl 116)) M := by
  refine Go_aload_n (pc := 0) dJ0_charAt_5068e_0 rfl (by decide) rfl ?_
  refine Go_invV (pc := 1) (y := yJ0_isLatin1_aae02) (avs := []) (k := 103) (rest := []) (x := .inl 1)  (d' := d - 1) dJ0_charAt_5068e_1 ln_J0_492 mo_J0_isLatin1_aae02 vo_J0_isLatin1_aae02 rfl (rc_s (i := 3) (by decide)) rfl rfl (Nat.le_of_ble_eq_true rfl) (by omega) (Nat.le_of_ble_eq_true rfl) rfl (s_J0_isLatin1_3 (by omega)) ?_
  refine Go_if_eq (pc := 4) (tgt := 16) dJ0_charAt_5068e_4 (by decide) (by decide) (fun q => absurd q (by decide)) (fun _ => ?_)
  refine Go_aload_n (pc := 7) dJ0_charAt_5068e_7 rfl (by decide) rfl ?_
  refine Go_getSv (pc := 8) (i := 3) rfl (by decide) dJ0_charAt_5068e_8 ?_
  refine Go_iload_n (pc := 11) dJ0_charAt_5068e_11 rfl rfl ?_
  refine Go_invS (pc := 12) (y := yJ1_charAt_3b067) (avs := [.inr 203, .inl 0]) (rest := []) (x := .inl 116)  (d' := d - 1) dJ0_charAt_5068e_12 ln_J0_495 mo_J1_charAt_3b067 so_J1_charAt_3b067 rfl rfl rfl (Nat.le_of_ble_eq_true rfl) (by omega) (Nat.le_of_ble_eq_true rfl) rfl (s_J1_charAt_3_0 (by omega)) ?_
  exact Go_creturn (pc := 15) dJ0_charAt_5068e_15 rfl (by omega) (by omega) (by first | rfl | (simp_all; done)) rfl
theorem s_J1_charAt_3_1 {d : Nat} (hd : 2 ≤ d) {M : gMem} : Go d RJ1 cJ1_charAt_3b067 2 (some .char) 0 [some (.inr 203), some (.inl 1)] [] M (some (.inl 101)) M := by
  refine Go_iload_n (pc := 0) dJ1_charAt_3b067_0 rfl rfl ?_
  refine Go_aload_n (pc := 1) dJ1_charAt_3b067_1 rfl (by decide) rfl ?_
  refine Go_alenS (pc := 2) (i := 3) (n := 4) rfl (by decide) (by decide) dJ1_charAt_3b067_2 ?_
  refine Go_invSv (pc := 3) (y := yJ0_checkIndex_df160) (avs := [.inl 1, .inl 4]) (rest := [])   (d' := d - 1) dJ1_charAt_3b067_3 ln_J1_9 mo_J0_checkIndex_df160 so_J0_checkIndex_df160 rfl rfl rfl (Nat.le_of_ble_eq_true rfl) (by omega) (Nat.le_of_ble_eq_true rfl) rfl (s_J0_checkIndex (by omega) (by decide) (by decide) (by decide)) ?_
  refine Go_aload_n (pc := 6) dJ1_charAt_3b067_6 rfl (by decide) rfl ?_
  refine Go_iload_n (pc := 7) dJ1_charAt_3b067_7 rfl rfl ?_
  refine Go_baS (pc := 8) (i := 3) (z := 101) rfl (by decide) (by decide) (by decide) (by decide) dJ1_charAt_3b067_8 ?_
  refine Go_sipush (pc := 9) dJ1_charAt_3b067_9 (by decide) (by decide) ?_
  refine Go_iand (pc := 12) dJ1_charAt_3b067_12 ?_
  refine Go_LS (st1 := [.inl 101]) rfl (congrArg (fun z : Int => (.inl z :: [] : List MV)) (by decide)) ?_
  refine Go_i2c (pc := 13) dJ1_charAt_3b067_13 (by omega) (by omega) ?_
  exact Go_creturn (pc := 14) dJ1_charAt_3b067_14 rfl (by omega) (by omega) (by first | rfl | (simp_all; done)) rfl
theorem s_J0_charAt_3_1 {d : Nat} (hd : 3 ≤ d) {M : gMem} : Go d RJ0 cJ0_charAt_5068e 2 (some .char) 0 [some (.inr 103), some (.inl 1)] [] M (some (.inl 101)) M := by
  refine Go_aload_n (pc := 0) dJ0_charAt_5068e_0 rfl (by decide) rfl ?_
  refine Go_invV (pc := 1) (y := yJ0_isLatin1_aae02) (avs := []) (k := 103) (rest := []) (x := .inl 1)  (d' := d - 1) dJ0_charAt_5068e_1 ln_J0_492 mo_J0_isLatin1_aae02 vo_J0_isLatin1_aae02 rfl (rc_s (i := 3) (by decide)) rfl rfl (Nat.le_of_ble_eq_true rfl) (by omega) (Nat.le_of_ble_eq_true rfl) rfl (s_J0_isLatin1_3 (by omega)) ?_
  refine Go_if_eq (pc := 4) (tgt := 16) dJ0_charAt_5068e_4 (by decide) (by decide) (fun q => absurd q (by decide)) (fun _ => ?_)
  refine Go_aload_n (pc := 7) dJ0_charAt_5068e_7 rfl (by decide) rfl ?_
  refine Go_getSv (pc := 8) (i := 3) rfl (by decide) dJ0_charAt_5068e_8 ?_
  refine Go_iload_n (pc := 11) dJ0_charAt_5068e_11 rfl rfl ?_
  refine Go_invS (pc := 12) (y := yJ1_charAt_3b067) (avs := [.inr 203, .inl 1]) (rest := []) (x := .inl 101)  (d' := d - 1) dJ0_charAt_5068e_12 ln_J0_495 mo_J1_charAt_3b067 so_J1_charAt_3b067 rfl rfl rfl (Nat.le_of_ble_eq_true rfl) (by omega) (Nat.le_of_ble_eq_true rfl) rfl (s_J1_charAt_3_1 (by omega)) ?_
  exact Go_creturn (pc := 15) dJ0_charAt_5068e_15 rfl (by omega) (by omega) (by first | rfl | (simp_all; done)) rfl
theorem s_J1_charAt_3_2 {d : Nat} (hd : 2 ≤ d) {M : gMem} : Go d RJ1 cJ1_charAt_3b067 2 (some .char) 0 [some (.inr 203), some (.inl 2)] [] M (some (.inl 108)) M := by
  refine Go_iload_n (pc := 0) dJ1_charAt_3b067_0 rfl rfl ?_
  refine Go_aload_n (pc := 1) dJ1_charAt_3b067_1 rfl (by decide) rfl ?_
  refine Go_alenS (pc := 2) (i := 3) (n := 4) rfl (by decide) (by decide) dJ1_charAt_3b067_2 ?_
  refine Go_invSv (pc := 3) (y := yJ0_checkIndex_df160) (avs := [.inl 2, .inl 4]) (rest := [])   (d' := d - 1) dJ1_charAt_3b067_3 ln_J1_9 mo_J0_checkIndex_df160 so_J0_checkIndex_df160 rfl rfl rfl (Nat.le_of_ble_eq_true rfl) (by omega) (Nat.le_of_ble_eq_true rfl) rfl (s_J0_checkIndex (by omega) (by decide) (by decide) (by decide)) ?_
  refine Go_aload_n (pc := 6) dJ1_charAt_3b067_6 rfl (by decide) rfl ?_
  refine Go_iload_n (pc := 7) dJ1_charAt_3b067_7 rfl rfl ?_
  refine Go_baS (pc := 8) (i := 3) (z := 108) rfl (by decide) (by decide) (by decide) (by decide) dJ1_charAt_3b067_8 ?_
  refine Go_sipush (pc := 9) dJ1_charAt_3b067_9 (by decide) (by decide) ?_
  refine Go_iand (pc := 12) dJ1_charAt_3b067_12 ?_
  refine Go_LS (st1 := [.inl 108]) rfl (congrArg (fun z : Int => (.inl z :: [] : List MV)) (by decide)) ?_
  refine Go_i2c (pc := 13) dJ1_charAt_3b067_13 (by omega) (by omega) ?_
  exact Go_creturn (pc := 14) dJ1_charAt_3b067_14 rfl (by omega) (by omega) (by first | rfl | (simp_all; done)) rfl
theorem s_J0_charAt_3_2 {d : Nat} (hd : 3 ≤ d) {M : gMem} : Go d RJ0 cJ0_charAt_5068e 2 (some .char) 0 [some (.inr 103), some (.inl 2)] [] M (some (.inl 108)) M := by
  refine Go_aload_n (pc := 0) dJ0_charAt_5068e_0 rfl (by decide) rfl ?_
  refine Go_invV (pc := 1) (y := yJ0_isLatin1_aae02) (avs := []) (k := 103) (rest := []) (x := .inl 1)  (d' := d - 1) dJ0_charAt_5068e_1 ln_J0_492 mo_J0_isLatin1_aae02 vo_J0_isLatin1_aae02 rfl (rc_s (i := 3) (by decide)) rfl rfl (Nat.le_of_ble_eq_true rfl) (by omega) (Nat.le_of_ble_eq_true rfl) rfl (s_J0_isLatin1_3 (by omega)) ?_
  refine Go_if_eq (pc := 4) (tgt := 16) dJ0_charAt_5068e_4 (by decide) (by decide) (fun q => absurd q (by decide)) (fun _ => ?_)
  refine Go_aload_n (pc := 7) dJ0_charAt_5068e_7 rfl (by decide) rfl ?_
  refine Go_getSv (pc := 8) (i := 3) rfl (by decide) dJ0_charAt_5068e_8 ?_
  refine Go_iload_n (pc := 11) dJ0_charAt_5068e_11 rfl rfl ?_
  refine Go_invS (pc := 12) (y := yJ1_charAt_3b067) (avs := [.inr 203, .inl 2]) (rest := []) (x := .inl 108)  (d' := d - 1) dJ0_charAt_5068e_12 ln_J0_495 mo_J1_charAt_3b067 so_J1_charAt_3b067 rfl rfl rfl (Nat.le_of_ble_eq_true rfl) (by omega) (Nat.le_of_ble_eq_true rfl) rfl (s_J1_charAt_3_2 (by omega)) ?_
  exact Go_creturn (pc := 15) dJ0_charAt_5068e_15 rfl (by omega) (by omega) (by first | rfl | (simp_all; done)) rfl
theorem s_J1_charAt_3_3 {d : Nat} (hd : 2 ≤ d) {M : gMem} : Go d RJ1 cJ1_charAt_3b067 2 (some .char) 0 [some (.inr 203), some (.inl 3)] [] M (some (.inl 108)) M := by
  refine Go_iload_n (pc := 0) dJ1_charAt_3b067_0 rfl rfl ?_
  refine Go_aload_n (pc := 1) dJ1_charAt_3b067_1 rfl (by decide) rfl ?_
  refine Go_alenS (pc := 2) (i := 3) (n := 4) rfl (by decide) (by decide) dJ1_charAt_3b067_2 ?_
  refine Go_invSv (pc := 3) (y := yJ0_checkIndex_df160) (avs := [.inl 3, .inl 4]) (rest := [])   (d' := d - 1) dJ1_charAt_3b067_3 ln_J1_9 mo_J0_checkIndex_df160 so_J0_checkIndex_df160 rfl rfl rfl (Nat.le_of_ble_eq_true rfl) (by omega) (Nat.le_of_ble_eq_true rfl) rfl (s_J0_checkIndex (by omega) (by decide) (by decide) (by decide)) ?_
  refine Go_aload_n (pc := 6) dJ1_charAt_3b067_6 rfl (by decide) rfl ?_
  refine Go_iload_n (pc := 7) dJ1_charAt_3b067_7 rfl rfl ?_
  refine Go_baS (pc := 8) (i := 3) (z := 108) rfl (by decide) (by decide) (by decide) (by decide) dJ1_charAt_3b067_8 ?_
  refine Go_sipush (pc := 9) dJ1_charAt_3b067_9 (by decide) (by decide) ?_
  refine Go_iand (pc := 12) dJ1_charAt_3b067_12 ?_
  refine Go_LS (st1 := [.inl 108]) rfl (congrArg (fun z : Int => (.inl z :: [] : List MV)) (by decide)) ?_
  refine Go_i2c (pc := 13) dJ1_charAt_3b067_13 (by omega) (by omega) ?_
  exact Go_creturn (pc := 14) dJ1_charAt_3b067_14 rfl (by omega) (by omega) (by first | rfl | (simp_all; done)) rfl
theorem s_J0_charAt_3_3 {d : Nat} (hd : 3 ≤ d) {M : gMem} : Go d RJ0 cJ0_charAt_5068e 2 (some .char) 0 [some (.inr 103), some (.inl 3)] [] M (some (.inl 108)) M := by
  refine Go_aload_n (pc := 0) dJ0_charAt_5068e_0 rfl (by decide) rfl ?_
  refine Go_invV (pc := 1) (y := yJ0_isLatin1_aae02) (avs := []) (k := 103) (rest := []) (x := .inl 1)  (d' := d - 1) dJ0_charAt_5068e_1 ln_J0_492 mo_J0_isLatin1_aae02 vo_J0_isLatin1_aae02 rfl (rc_s (i := 3) (by decide)) rfl rfl (Nat.le_of_ble_eq_true rfl) (by omega) (Nat.le_of_ble_eq_true rfl) rfl (s_J0_isLatin1_3 (by omega)) ?_
  refine Go_if_eq (pc := 4) (tgt := 16) dJ0_charAt_5068e_4 (by decide) (by decide) (fun q => absurd q (by decide)) (fun _ => ?_)
  refine Go_aload_n (pc := 7) dJ0_charAt_5068e_7 rfl (by decide) rfl ?_
  refine Go_getSv (pc := 8) (i := 3) rfl (by decide) dJ0_charAt_5068e_8 ?_
  refine Go_iload_n (pc := 11) dJ0_charAt_5068e_11 rfl rfl ?_
  refine Go_invS (pc := 12) (y := yJ1_charAt_3b067) (avs := [.inr 203, .inl 3]) (rest := []) (x := .inl 108)  (d' := d - 1) dJ0_charAt_5068e_12 ln_J0_495 mo_J1_charAt_3b067 so_J1_charAt_3b067 rfl rfl rfl (Nat.le_of_ble_eq_true rfl) (by omega) (Nat.le_of_ble_eq_true rfl) rfl (s_J1_charAt_3_3 (by omega)) ?_
  exact Go_creturn (pc := 15) dJ0_charAt_5068e_15 rfl (by omega) (by omega) (by first | rfl | (simp_all; done)) rfl
theorem s_J1_charAt_4_0 {d : Nat} (hd : 2 ≤ d) {M : gMem} : Go d RJ1 cJ1_charAt_3b067 2 (some .char) 0 [some (.inr 204), some (.inl 0)] [] M (some (.inl 112)) M := by
  refine Go_iload_n (pc := 0) dJ1_charAt_3b067_0 rfl rfl ?_
  refine Go_aload_n (pc := 1) dJ1_charAt_3b067_1 rfl (by decide) rfl ?_
  refine Go_alenS (pc := 2) (i := 4) (n := 4) rfl (by decide) (by decide) dJ1_charAt_3b067_2 ?_
  refine Go_invSv (pc := 3) (y := yJ0_checkIndex_df160) (avs := [.inl 0, .inl 4]) (rest := [])   (d' := d - 1) dJ1_charAt_3b067_3 ln_J1_9 mo_J0_checkIndex_df160 so_J0_checkIndex_df160 rfl rfl rfl (Nat.le_of_ble_eq_true rfl) (by omega) (Nat.le_of_ble_eq_true rfl) rfl (s_J0_checkIndex (by omega) (by decide) (by decide) (by decide)) ?_
  refine Go_aload_n (pc := 6) dJ1_charAt_3b067_6 rfl (by decide) rfl ?_
  refine Go_iload_n (pc := 7) dJ1_charAt_3b067_7 rfl rfl ?_
  refine Go_baS (pc := 8) (i := 4) (z := 112) rfl (by decide) (by decide) (by decide) (by decide) dJ1_charAt_3b067_8 ?_
  refine Go_sipush (pc := 9) dJ1_charAt_3b067_9 (by decide) (by decide) ?_
  refine Go_iand (pc := 12) dJ1_charAt_3b067_12 ?_
  refine Go_LS (st1 := [.inl 112]) rfl (congrArg (fun z : Int => (.inl z :: [] : List MV)) (by decide)) ?_
  refine Go_i2c (pc := 13) dJ1_charAt_3b067_13 (by omega) (by omega) ?_
  exact Go_creturn (pc := 14) dJ1_charAt_3b067_14 rfl (by omega) (by omega) (by first | rfl | (simp_all; done)) rfl
theorem s_J0_charAt_4_0 {d : Nat} (hd : 3 ≤ d) {M : gMem} : Go d RJ0 cJ0_charAt_5068e 2 (some .char) 0 [some (.inr 104), some (.inl 0)] [] M (some (.inl 112)) M := by
  refine Go_aload_n (pc := 0) dJ0_charAt_5068e_0 rfl (by decide) rfl ?_
  refine Go_invV (pc := 1) (y := yJ0_isLatin1_aae02) (avs := []) (k := 104) (rest := []) (x := .inl 1)  (d' := d - 1) dJ0_charAt_5068e_1 ln_J0_492 mo_J0_isLatin1_aae02 vo_J0_isLatin1_aae02 rfl (rc_s (i := 4) (by decide)) rfl rfl (Nat.le_of_ble_eq_true rfl) (by omega) (Nat.le_of_ble_eq_true rfl) rfl (s_J0_isLatin1_4 (by omega)) ?_
  refine Go_if_eq (pc := 4) (tgt := 16) dJ0_charAt_5068e_4 (by decide) (by decide) (fun q => absurd q (by decide)) (fun _ => ?_)
  refine Go_aload_n (pc := 7) dJ0_charAt_5068e_7 rfl (by decide) rfl ?_
  refine Go_getSv (pc := 8) (i := 4) rfl (by decide) dJ0_charAt_5068e_8 ?_
  refine Go_iload_n (pc := 11) dJ0_charAt_5068e_11 rfl rfl ?_
  refine Go_invS (pc := 12) (y := yJ1_charAt_3b067) (avs := [.inr 204, .inl 0]) (rest := []) (x := .inl 112)  (d' := d - 1) dJ0_charAt_5068e_12 ln_J0_495 mo_J1_charAt_3b067 so_J1_charAt_3b067 rfl rfl rfl (Nat.le_of_ble_eq_true rfl) (by omega) (Nat.le_of_ble_eq_true rfl) rfl (s_J1_charAt_4_0 (by omega)) ?_
  exact Go_creturn (pc := 15) dJ0_charAt_5068e_15 rfl (by omega) (by omega) (by first | rfl | (simp_all; done)) rfl
theorem s_J1_charAt_4_1 {d : Nat} (hd : 2 ≤ d) {M : gMem} : Go d RJ1 cJ1_charAt_3b067 2 (some .char) 0 [some (.inr 204), some (.inl 1)] [] M (some (.inl 97)) M := by
  refine Go_iload_n (pc := 0) dJ1_charAt_3b067_0 rfl rfl ?_
  refine Go_aload_n (pc := 1) dJ1_charAt_3b067_1 rfl (by decide) rfl ?_
  refine Go_alenS (pc := 2) (i := 4) (n := 4) rfl (by decide) (by decide) dJ1_charAt_3b067_2 ?_
  refine Go_invSv (pc := 3) (y := yJ0_checkIndex_df160) (avs := [.inl 1, .inl 4]) (rest := [])   (d' := d - 1) dJ1_charAt_3b067_3 ln_J1_9 mo_J0_checkIndex_df160 so_J0_checkIndex_df160 rfl rfl rfl (Nat.le_of_ble_eq_true rfl) (by omega) (Nat.le_of_ble_eq_true rfl) rfl (s_J0_checkIndex (by omega) (by decide) (by decide) (by decide)) ?_
  refine Go_aload_n (pc := 6) dJ1_charAt_3b067_6 rfl (by decide) rfl ?_
  refine Go_iload_n (pc := 7) dJ1_charAt_3b067_7 rfl rfl ?_
  refine Go_baS (pc := 8) (i := 4) (z := 97) rfl (by decide) (by decide) (by decide) (by decide) dJ1_charAt_3b067_8 ?_
  refine Go_sipush (pc := 9) dJ1_charAt_3b067_9 (by decide) (by decide) ?_
  refine Go_iand (pc := 12) dJ1_charAt_3b067_12 ?_
  refine Go_LS (st1 := [.inl 97]) rfl (congrArg (fun z : Int => (.inl z :: [] : List MV)) (by decide)) ?_
  refine Go_i2c (pc := 13) dJ1_charAt_3b067_13 (by omega) (by omega) ?_
  exact Go_creturn (pc := 14) dJ1_charAt_3b067_14 rfl (by omega) (by omega) (by first | rfl | (simp_all; done)) rfl
theorem s_J0_charAt_4_1 {d : Nat} (hd : 3 ≤ d) {M : gMem} : Go d RJ0 cJ0_charAt_5068e 2 (some .char) 0 [some (.inr 104), some (.inl 1)] [] M (some (.inl 97)) M := by
  refine Go_aload_n (pc := 0) dJ0_charAt_5068e_0 rfl (by decide) rfl ?_
  refine Go_invV (pc := 1) (y := yJ0_isLatin1_aae02) (avs := []) (k := 104) (rest := []) (x := .inl 1)  (d' := d - 1) dJ0_charAt_5068e_1 ln_J0_492 mo_J0_isLatin1_aae02 vo_J0_isLatin1_aae02 rfl (rc_s (i := 4) (by decide)) rfl rfl (Nat.le_of_ble_eq_true rfl) (by omega) (Nat.le_of_ble_eq_true rfl) rfl (s_J0_isLatin1_4 (by omega)) ?_
  refine Go_if_eq (pc := 4) (tgt := 16) dJ0_charAt_5068e_4 (by decide) (by decide) (fun q => absurd q (by decide)) (fun _ => ?_)
  refine Go_aload_n (pc := 7) dJ0_charAt_5068e_7 rfl (by decide) rfl ?_
  refine Go_getSv (pc := 8) (i := 4) rfl (by decide) dJ0_charAt_5068e_8 ?_
  refine Go_iload_n (pc := 11) dJ0_charAt_5068e_11 rfl rfl ?_
  refine Go_invS (pc := 12) (y := yJ1_charAt_3b067) (avs := [.inr 204, .inl 1]) (rest := []) (x := .inl 97)  (d' := d - 1) dJ0_charAt_5068e_12 ln_J0_495 mo_J1_charAt_3b067 so_J1_charAt_3b067 rfl rfl rfl (Nat.le_of_ble_eq_true rfl) (by omega) (Nat.le_of_ble_eq_true rfl) rfl (s_J1_charAt_4_1 (by omega)) ?_
  exact Go_creturn (pc := 15) dJ0_charAt_5068e_15 rfl (by omega) (by omega) (by first | rfl | (simp_all; done)) rfl
theorem s_J1_charAt_4_2 {d : Nat} (hd : 2 ≤ d) {M : gMem} : Go d RJ1 cJ1_charAt_3b067 2 (some .char) 0 [some (.inr 204), some (.inl 2)] [] M (some (.inl 115)) M := by
  refine Go_iload_n (pc := 0) dJ1_charAt_3b067_0 rfl rfl ?_
  refine Go_aload_n (pc := 1) dJ1_charAt_3b067_1 rfl (by decide) rfl ?_
  refine Go_alenS (pc := 2) (i := 4) (n := 4) rfl (by decide) (by decide) dJ1_charAt_3b067_2 ?_
  refine Go_invSv (pc := 3) (y := yJ0_checkIndex_df160) (avs := [.inl 2, .inl 4]) (rest := [])   (d' := d - 1) dJ1_charAt_3b067_3 ln_J1_9 mo_J0_checkIndex_df160 so_J0_checkIndex_df160 rfl rfl rfl (Nat.le_of_ble_eq_true rfl) (by omega) (Nat.le_of_ble_eq_true rfl) rfl (s_J0_checkIndex (by omega) (by decide) (by decide) (by decide)) ?_
  refine Go_aload_n (pc := 6) dJ1_charAt_3b067_6 rfl (by decide) rfl ?_
  refine Go_iload_n (pc := 7) dJ1_charAt_3b067_7 rfl rfl ?_
  refine Go_baS (pc := 8) (i := 4) (z := 115) rfl (by decide) (by decide) (by decide) (by decide) dJ1_charAt_3b067_8 ?_
  refine Go_sipush (pc := 9) dJ1_charAt_3b067_9 (by decide) (by decide) ?_
  refine Go_iand (pc := 12) dJ1_charAt_3b067_12 ?_
  refine Go_LS (st1 := [.inl 115]) rfl (congrArg (fun z : Int => (.inl z :: [] : List MV)) (by decide)) ?_
  refine Go_i2c (pc := 13) dJ1_charAt_3b067_13 (by omega) (by omega) ?_
  exact Go_creturn (pc := 14) dJ1_charAt_3b067_14 rfl (by omega) (by omega) (by first | rfl | (simp_all; done)) rfl
theorem s_J0_charAt_4_2 {d : Nat} (hd : 3 ≤ d) {M : gMem} : Go d RJ0 cJ0_charAt_5068e 2 (some .char) 0 [some (.inr 104), some (.inl 2)] [] M (some (.inl 115)) M := by
  refine Go_aload_n (pc := 0) dJ0_charAt_5068e_0 rfl (by decide) rfl ?_
  refine Go_invV (pc := 1) (y := yJ0_isLatin1_aae02) (avs := []) (k := 104) (rest := []) (x := .inl 1)  (d' := d - 1) dJ0_charAt_5068e_1 ln_J0_492 mo_J0_isLatin1_aae02 vo_J0_isLatin1_aae02 rfl (rc_s (i := 4) (by decide)) rfl rfl (Nat.le_of_ble_eq_true rfl) (by omega) (Nat.le_of_ble_eq_true rfl) rfl (s_J0_isLatin1_4 (by omega)) ?_
  refine Go_if_eq (pc := 4) (tgt := 16) dJ0_charAt_5068e_4 (by decide) (by decide) (fun q => absurd q (by decide)) (fun _ => ?_)
  refine Go_aload_n (pc := 7) dJ0_charAt_5068e_7 rfl (by decide) rfl ?_
  refine Go_getSv (pc := 8) (i := 4) rfl (by decide) dJ0_charAt_5068e_8 ?_
  refine Go_iload_n (pc := 11) dJ0_charAt_5068e_11 rfl rfl ?_
  refine Go_invS (pc := 12) (y := yJ1_charAt_3b067) (avs := [.inr 204, .inl 2]) (rest := []) (x := .inl 115)  (d' := d - 1) dJ0_charAt_5068e_12 ln_J0_495 mo_J1_charAt_3b067 so_J1_charAt_3b067 rfl rfl rfl (Nat.le_of_ble_eq_true rfl) (by omega) (Nat.le_of_ble_eq_true rfl) rfl (s_J1_charAt_4_2 (by omega)) ?_
  exact Go_creturn (pc := 15) dJ0_charAt_5068e_15 rfl (by omega) (by omega) (by first | rfl | (simp_all; done)) rfl
theorem s_J1_charAt_4_3 {d : Nat} (hd : 2 ≤ d) {M : gMem} : Go d RJ1 cJ1_charAt_3b067 2 (some .char) 0 [some (.inr 204), some (.inl 3)] [] M (some (.inl 115)) M := by
  refine Go_iload_n (pc := 0) dJ1_charAt_3b067_0 rfl rfl ?_
  refine Go_aload_n (pc := 1) dJ1_charAt_3b067_1 rfl (by decide) rfl ?_
  refine Go_alenS (pc := 2) (i := 4) (n := 4) rfl (by decide) (by decide) dJ1_charAt_3b067_2 ?_
  refine Go_invSv (pc := 3) (y := yJ0_checkIndex_df160) (avs := [.inl 3, .inl 4]) (rest := [])   (d' := d - 1) dJ1_charAt_3b067_3 ln_J1_9 mo_J0_checkIndex_df160 so_J0_checkIndex_df160 rfl rfl rfl (Nat.le_of_ble_eq_true rfl) (by omega) (Nat.le_of_ble_eq_true rfl) rfl (s_J0_checkIndex (by omega) (by decide) (by decide) (by decide)) ?_
  refine Go_aload_n (pc := 6) dJ1_charAt_3b067_6 rfl (by decide) rfl ?_
  refine Go_iload_n (pc := 7) dJ1_charAt_3b067_7 rfl rfl ?_
  refine Go_baS (pc := 8) (i := 4) (z := 115) rfl (by decide) (by decide) (by decide) (by decide) dJ1_charAt_3b067_8 ?_
  refine Go_sipush (pc := 9) dJ1_charAt_3b067_9 (by decide) (by decide) ?_
  refine Go_iand (pc := 12) dJ1_charAt_3b067_12 ?_
  refine Go_LS (st1 := [.inl 115]) rfl (congrArg (fun z : Int => (.inl z :: [] : List MV)) (by decide)) ?_
  refine Go_i2c (pc := 13) dJ1_charAt_3b067_13 (by omega) (by omega) ?_
  exact Go_creturn (pc := 14) dJ1_charAt_3b067_14 rfl (by omega) (by omega) (by first | rfl | (simp_all; done)) rfl
theorem s_J0_charAt_4_3 {d : Nat} (hd : 3 ≤ d) {M : gMem} : Go d RJ0 cJ0_charAt_5068e 2 (some .char) 0 [some (.inr 104), some (.inl 3)] [] M (some (.inl 115)) M := by
  refine Go_aload_n (pc := 0) dJ0_charAt_5068e_0 rfl (by decide) rfl ?_
  refine Go_invV (pc := 1) (y := yJ0_isLatin1_aae02) (avs := []) (k := 104) (rest := []) (x := .inl 1)  (d' := d - 1) dJ0_charAt_5068e_1 ln_J0_492 mo_J0_isLatin1_aae02 vo_J0_isLatin1_aae02 rfl (rc_s (i := 4) (by decide)) rfl rfl (Nat.le_of_ble_eq_true rfl) (by omega) (Nat.le_of_ble_eq_true rfl) rfl (s_J0_isLatin1_4 (by omega)) ?_
  refine Go_if_eq (pc := 4) (tgt := 16) dJ0_charAt_5068e_4 (by decide) (by decide) (fun q => absurd q (by decide)) (fun _ => ?_)
  refine Go_aload_n (pc := 7) dJ0_charAt_5068e_7 rfl (by decide) rfl ?_
  refine Go_getSv (pc := 8) (i := 4) rfl (by decide) dJ0_charAt_5068e_8 ?_
  refine Go_iload_n (pc := 11) dJ0_charAt_5068e_11 rfl rfl ?_
  refine Go_invS (pc := 12) (y := yJ1_charAt_3b067) (avs := [.inr 204, .inl 3]) (rest := []) (x := .inl 115)  (d' := d - 1) dJ0_charAt_5068e_12 ln_J0_495 mo_J1_charAt_3b067 so_J1_charAt_3b067 rfl rfl rfl (Nat.le_of_ble_eq_true rfl) (by omega) (Nat.le_of_ble_eq_true rfl) rfl (s_J1_charAt_4_3 (by omega)) ?_
  exact Go_creturn (pc := 15) dJ0_charAt_5068e_15 rfl (by omega) (by omega) (by first | rfl | (simp_all; done)) rfl
