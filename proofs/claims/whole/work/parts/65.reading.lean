/-! the class: an order's form and its doing -/
def kdF (f : Int → Int) (n s : Int) : Int := if wd0 f n s then 0 else if wd1 f n s then 1 else if wd2 f n s then 2 else if wd3 f n s then 3 else if wd4 f n s then 4 else 5
theorem kd_cases (f : Int → Int) (n s : Int) : kdF f n s = 0 ∨ kdF f n s = 1 ∨ kdF f n s = 2 ∨ kdF f n s = 3 ∨ kdF f n s = 4 ∨ kdF f n s = 5 := by
  unfold kdF
  (repeat' split) <;> omega
theorem s_X3_wordOf_0 {d : Nat} (hd : 0 ≤ d) {M : gMem} : Go d RX3 cX3_wordOf 1 (some (.object "java/lang/String")) 0 [some (.inl 0)] [] M (some (.inr 100)) M := by
  refine Go_iload_n (pc := 0) dX3_wordOf_0 rfl rfl ?_
  refine Go_tsIn (pc := 1) (tgt := 36) dX3_wordOf_1 (by decide) (by decide) (by decide) rfl (by decide) ?_
  refine Go_ldcS (pc := 36) (i := 0) (by decide) rfl dX3_wordOf_36 ?_
  exact Go_areturn (pc := 38) dX3_wordOf_38 rfl (by decide) (by first | rfl | (simp_all; done)) rfl
theorem s_X3_numbersOf_0 {d : Nat} (hd : 0 ≤ d) {M : gMem} : Go d RX3 cX3_numbersOf 1 (some .int) 0 [some (.inl 0)] [] M (some (.inl 2)) M := by
  refine Go_iload_n (pc := 0) dX3_numbersOf_0 rfl rfl ?_
  refine Go_iconst (pc := 1) dX3_numbersOf_1 ?_
  refine Go_icmp_eq (pc := 2) (tgt := 10) dX3_numbersOf_2 (by decide) (by decide) (by decide) (fun q => absurd q (by decide)) (fun _ => ?_)
  refine Go_iload_n (pc := 5) dX3_numbersOf_5 rfl rfl ?_
  refine Go_iconst (pc := 6) dX3_numbersOf_6 ?_
  refine Go_icmp_ne (pc := 7) (tgt := 14) dX3_numbersOf_7 (by decide) (by decide) (by decide) (fun _ => ?_) (fun q => absurd q (by decide))
  refine Go_iconst (pc := 14) dX3_numbersOf_14 ?_
  exact Go_ireturn (pc := 15) dX3_numbersOf_15 rfl (by first | rfl | (simp_all; done)) rfl
theorem s_X3_orderLength_0 {d : Nat} (hd : 2 ≤ d) {M : gMem} : Go d RX3 cX3_orderLength 1 (some .int) 0 [some (.inl 0)] [] M (some (.inl 9)) M := by
  refine Go_iload_n (pc := 0) dX3_orderLength_0 rfl rfl ?_
  refine Go_invS (pc := 1) (y := yX3_wordOf) (avs := [.inl 0]) (rest := []) (x := .inr 100)  (d' := d - 1) dX3_orderLength_1 ln_X3_48 mo_X3_wordOf so_X3_wordOf rfl rfl rfl (Nat.le_of_ble_eq_true rfl) (by omega) (Nat.le_of_ble_eq_true rfl) rfl (s_X3_wordOf_0 (by omega)) ?_
  refine Go_invV (pc := 4) (y := yJ0_length_8abf5) (avs := []) (k := 100) (rest := []) (x := .inl 4)  (d' := d - 1) dX3_orderLength_4 ln_X3_68 mo_J0_length_8abf5 vo_J0_length_8abf5 rfl (rc_s (i := 0) (by decide)) rfl rfl (Nat.le_of_ble_eq_true rfl) (by omega) (Nat.le_of_ble_eq_true rfl) rfl (s_J0_length_0 (by omega)) ?_
  refine Go_iconst (pc := 7) dX3_orderLength_7 ?_
  refine Go_iload_n (pc := 8) dX3_orderLength_8 rfl rfl ?_
  refine Go_invS (pc := 9) (y := yX3_numbersOf) (avs := [.inl 0]) (rest := [.inl 2, .inl 4]) (x := .inl 2)  (d' := d - 1) dX3_orderLength_9 ln_X3_71 mo_X3_numbersOf so_X3_numbersOf rfl rfl rfl (Nat.le_of_ble_eq_true rfl) (by omega) (Nat.le_of_ble_eq_true rfl) rfl (s_X3_numbersOf_0 (by omega)) ?_
  refine Go_imul (pc := 12) dX3_orderLength_12 ?_
  refine Go_iadd (pc := 13) dX3_orderLength_13 ?_
  refine Go_iconst (pc := 14) dX3_orderLength_14 ?_
  refine Go_iadd (pc := 15) dX3_orderLength_15 ?_
  exact Go_ireturn (pc := 16) dX3_orderLength_16 rfl (by first | rfl | (simp_all; done)) rfl
theorem s_X3_wordOf_1 {d : Nat} (hd : 0 ≤ d) {M : gMem} : Go d RX3 cX3_wordOf 1 (some (.object "java/lang/String")) 0 [some (.inl 1)] [] M (some (.inr 101)) M := by
  refine Go_iload_n (pc := 0) dX3_wordOf_0 rfl rfl ?_
  refine Go_tsIn (pc := 1) (tgt := 39) dX3_wordOf_1 (by decide) (by decide) (by decide) rfl (by decide) ?_
  refine Go_ldcS (pc := 39) (i := 1) (by decide) rfl dX3_wordOf_39 ?_
  exact Go_areturn (pc := 41) dX3_wordOf_41 rfl (by decide) (by first | rfl | (simp_all; done)) rfl
theorem s_X3_numbersOf_1 {d : Nat} (hd : 0 ≤ d) {M : gMem} : Go d RX3 cX3_numbersOf 1 (some .int) 0 [some (.inl 1)] [] M (some (.inl 2)) M := by
  refine Go_iload_n (pc := 0) dX3_numbersOf_0 rfl rfl ?_
  refine Go_iconst (pc := 1) dX3_numbersOf_1 ?_
  refine Go_icmp_eq (pc := 2) (tgt := 10) dX3_numbersOf_2 (by decide) (by decide) (by decide) (fun q => absurd q (by decide)) (fun _ => ?_)
  refine Go_iload_n (pc := 5) dX3_numbersOf_5 rfl rfl ?_
  refine Go_iconst (pc := 6) dX3_numbersOf_6 ?_
  refine Go_icmp_ne (pc := 7) (tgt := 14) dX3_numbersOf_7 (by decide) (by decide) (by decide) (fun _ => ?_) (fun q => absurd q (by decide))
  refine Go_iconst (pc := 14) dX3_numbersOf_14 ?_
  exact Go_ireturn (pc := 15) dX3_numbersOf_15 rfl (by first | rfl | (simp_all; done)) rfl
theorem s_X3_orderLength_1 {d : Nat} (hd : 2 ≤ d) {M : gMem} : Go d RX3 cX3_orderLength 1 (some .int) 0 [some (.inl 1)] [] M (some (.inl 9)) M := by
  refine Go_iload_n (pc := 0) dX3_orderLength_0 rfl rfl ?_
  refine Go_invS (pc := 1) (y := yX3_wordOf) (avs := [.inl 1]) (rest := []) (x := .inr 101)  (d' := d - 1) dX3_orderLength_1 ln_X3_48 mo_X3_wordOf so_X3_wordOf rfl rfl rfl (Nat.le_of_ble_eq_true rfl) (by omega) (Nat.le_of_ble_eq_true rfl) rfl (s_X3_wordOf_1 (by omega)) ?_
  refine Go_invV (pc := 4) (y := yJ0_length_8abf5) (avs := []) (k := 101) (rest := []) (x := .inl 4)  (d' := d - 1) dX3_orderLength_4 ln_X3_68 mo_J0_length_8abf5 vo_J0_length_8abf5 rfl (rc_s (i := 1) (by decide)) rfl rfl (Nat.le_of_ble_eq_true rfl) (by omega) (Nat.le_of_ble_eq_true rfl) rfl (s_J0_length_1 (by omega)) ?_
  refine Go_iconst (pc := 7) dX3_orderLength_7 ?_
  refine Go_iload_n (pc := 8) dX3_orderLength_8 rfl rfl ?_
  refine Go_invS (pc := 9) (y := yX3_numbersOf) (avs := [.inl 1]) (rest := [.inl 2, .inl 4]) (x := .inl 2)  (d' := d - 1) dX3_orderLength_9 ln_X3_71 mo_X3_numbersOf so_X3_numbersOf rfl rfl rfl (Nat.le_of_ble_eq_true rfl) (by omega) (Nat.le_of_ble_eq_true rfl) rfl (s_X3_numbersOf_1 (by omega)) ?_
  refine Go_imul (pc := 12) dX3_orderLength_12 ?_
  refine Go_iadd (pc := 13) dX3_orderLength_13 ?_
  refine Go_iconst (pc := 14) dX3_orderLength_14 ?_
  refine Go_iadd (pc := 15) dX3_orderLength_15 ?_
  exact Go_ireturn (pc := 16) dX3_orderLength_16 rfl (by first | rfl | (simp_all; done)) rfl
theorem s_X3_wordOf_2 {d : Nat} (hd : 0 ≤ d) {M : gMem} : Go d RX3 cX3_wordOf 1 (some (.object "java/lang/String")) 0 [some (.inl 2)] [] M (some (.inr 102)) M := by
  refine Go_iload_n (pc := 0) dX3_wordOf_0 rfl rfl ?_
  refine Go_tsIn (pc := 1) (tgt := 42) dX3_wordOf_1 (by decide) (by decide) (by decide) rfl (by decide) ?_
  refine Go_ldcS (pc := 42) (i := 2) (by decide) rfl dX3_wordOf_42 ?_
  exact Go_areturn (pc := 44) dX3_wordOf_44 rfl (by decide) (by first | rfl | (simp_all; done)) rfl
theorem s_X3_numbersOf_2 {d : Nat} (hd : 0 ≤ d) {M : gMem} : Go d RX3 cX3_numbersOf 1 (some .int) 0 [some (.inl 2)] [] M (some (.inl 1)) M := by
  refine Go_iload_n (pc := 0) dX3_numbersOf_0 rfl rfl ?_
  refine Go_iconst (pc := 1) dX3_numbersOf_1 ?_
  refine Go_icmp_eq (pc := 2) (tgt := 10) dX3_numbersOf_2 (by decide) (by decide) (by decide) (fun _ => ?_) (fun q => absurd q (by decide))
  refine Go_iconst (pc := 10) dX3_numbersOf_10 ?_
  refine Go_goto (pc := 11) (tgt := 15) dX3_numbersOf_11 (by decide) ?_
  exact Go_ireturn (pc := 15) dX3_numbersOf_15 rfl (by first | rfl | (simp_all; done)) rfl
theorem s_X3_orderLength_2 {d : Nat} (hd : 2 ≤ d) {M : gMem} : Go d RX3 cX3_orderLength 1 (some .int) 0 [some (.inl 2)] [] M (some (.inl 8)) M := by
  refine Go_iload_n (pc := 0) dX3_orderLength_0 rfl rfl ?_
  refine Go_invS (pc := 1) (y := yX3_wordOf) (avs := [.inl 2]) (rest := []) (x := .inr 102)  (d' := d - 1) dX3_orderLength_1 ln_X3_48 mo_X3_wordOf so_X3_wordOf rfl rfl rfl (Nat.le_of_ble_eq_true rfl) (by omega) (Nat.le_of_ble_eq_true rfl) rfl (s_X3_wordOf_2 (by omega)) ?_
  refine Go_invV (pc := 4) (y := yJ0_length_8abf5) (avs := []) (k := 102) (rest := []) (x := .inl 5)  (d' := d - 1) dX3_orderLength_4 ln_X3_68 mo_J0_length_8abf5 vo_J0_length_8abf5 rfl (rc_s (i := 2) (by decide)) rfl rfl (Nat.le_of_ble_eq_true rfl) (by omega) (Nat.le_of_ble_eq_true rfl) rfl (s_J0_length_2 (by omega)) ?_
  refine Go_iconst (pc := 7) dX3_orderLength_7 ?_
  refine Go_iload_n (pc := 8) dX3_orderLength_8 rfl rfl ?_
  refine Go_invS (pc := 9) (y := yX3_numbersOf) (avs := [.inl 2]) (rest := [.inl 2, .inl 5]) (x := .inl 1)  (d' := d - 1) dX3_orderLength_9 ln_X3_71 mo_X3_numbersOf so_X3_numbersOf rfl rfl rfl (Nat.le_of_ble_eq_true rfl) (by omega) (Nat.le_of_ble_eq_true rfl) rfl (s_X3_numbersOf_2 (by omega)) ?_
  refine Go_imul (pc := 12) dX3_orderLength_12 ?_
  refine Go_iadd (pc := 13) dX3_orderLength_13 ?_
  refine Go_iconst (pc := 14) dX3_orderLength_14 ?_
  refine Go_iadd (pc := 15) dX3_orderLength_15 ?_
  exact Go_ireturn (pc := 16) dX3_orderLength_16 rfl (by first | rfl | (simp_all; done)) rfl
theorem s_X3_wordOf_3 {d : Nat} (hd : 0 ≤ d) {M : gMem} : Go d RX3 cX3_wordOf 1 (some (.object "java/lang/String")) 0 [some (.inl 3)] [] M (some (.inr 103)) M := by
  refine Go_iload_n (pc := 0) dX3_wordOf_0 rfl rfl ?_
  refine Go_tsIn (pc := 1) (tgt := 45) dX3_wordOf_1 (by decide) (by decide) (by decide) rfl (by decide) ?_
  refine Go_ldcS (pc := 45) (i := 3) (by decide) rfl dX3_wordOf_45 ?_
  exact Go_areturn (pc := 47) dX3_wordOf_47 rfl (by decide) (by first | rfl | (simp_all; done)) rfl
theorem s_X3_numbersOf_3 {d : Nat} (hd : 0 ≤ d) {M : gMem} : Go d RX3 cX3_numbersOf 1 (some .int) 0 [some (.inl 3)] [] M (some (.inl 2)) M := by
  refine Go_iload_n (pc := 0) dX3_numbersOf_0 rfl rfl ?_
  refine Go_iconst (pc := 1) dX3_numbersOf_1 ?_
  refine Go_icmp_eq (pc := 2) (tgt := 10) dX3_numbersOf_2 (by decide) (by decide) (by decide) (fun q => absurd q (by decide)) (fun _ => ?_)
  refine Go_iload_n (pc := 5) dX3_numbersOf_5 rfl rfl ?_
  refine Go_iconst (pc := 6) dX3_numbersOf_6 ?_
  refine Go_icmp_ne (pc := 7) (tgt := 14) dX3_numbersOf_7 (by decide) (by decide) (by decide) (fun _ => ?_) (fun q => absurd q (by decide))
  refine Go_iconst (pc := 14) dX3_numbersOf_14 ?_
  exact Go_ireturn (pc := 15) dX3_numbersOf_15 rfl (by first | rfl | (simp_all; done)) rfl
theorem s_X3_orderLength_3 {d : Nat} (hd : 2 ≤ d) {M : gMem} : Go d RX3 cX3_orderLength 1 (some .int) 0 [some (.inl 3)] [] M (some (.inl 9)) M := by
  refine Go_iload_n (pc := 0) dX3_orderLength_0 rfl rfl ?_
  refine Go_invS (pc := 1) (y := yX3_wordOf) (avs := [.inl 3]) (rest := []) (x := .inr 103)  (d' := d - 1) dX3_orderLength_1 ln_X3_48 mo_X3_wordOf so_X3_wordOf rfl rfl rfl (Nat.le_of_ble_eq_true rfl) (by omega) (Nat.le_of_ble_eq_true rfl) rfl (s_X3_wordOf_3 (by omega)) ?_
  refine Go_invV (pc := 4) (y := yJ0_length_8abf5) (avs := []) (k := 103) (rest := []) (x := .inl 4)  (d' := d - 1) dX3_orderLength_4 ln_X3_68 mo_J0_length_8abf5 vo_J0_length_8abf5 rfl (rc_s (i := 3) (by decide)) rfl rfl (Nat.le_of_ble_eq_true rfl) (by omega) (Nat.le_of_ble_eq_true rfl) rfl (s_J0_length_3 (by omega)) ?_
  refine Go_iconst (pc := 7) dX3_orderLength_7 ?_
  refine Go_iload_n (pc := 8) dX3_orderLength_8 rfl rfl ?_
  refine Go_invS (pc := 9) (y := yX3_numbersOf) (avs := [.inl 3]) (rest := [.inl 2, .inl 4]) (x := .inl 2)  (d' := d - 1) dX3_orderLength_9 ln_X3_71 mo_X3_numbersOf so_X3_numbersOf rfl rfl rfl (Nat.le_of_ble_eq_true rfl) (by omega) (Nat.le_of_ble_eq_true rfl) rfl (s_X3_numbersOf_3 (by omega)) ?_
  refine Go_imul (pc := 12) dX3_orderLength_12 ?_
  refine Go_iadd (pc := 13) dX3_orderLength_13 ?_
  refine Go_iconst (pc := 14) dX3_orderLength_14 ?_
  refine Go_iadd (pc := 15) dX3_orderLength_15 ?_
  exact Go_ireturn (pc := 16) dX3_orderLength_16 rfl (by first | rfl | (simp_all; done)) rfl
theorem s_X3_wordOf_4 {d : Nat} (hd : 0 ≤ d) {M : gMem} : Go d RX3 cX3_wordOf 1 (some (.object "java/lang/String")) 0 [some (.inl 4)] [] M (some (.inr 104)) M := by
  refine Go_iload_n (pc := 0) dX3_wordOf_0 rfl rfl ?_
  refine Go_tsIn (pc := 1) (tgt := 48) dX3_wordOf_1 (by decide) (by decide) (by decide) rfl (by decide) ?_
  refine Go_ldcS (pc := 48) (i := 4) (by decide) rfl dX3_wordOf_48 ?_
  exact Go_areturn (pc := 50) dX3_wordOf_50 rfl (by decide) (by first | rfl | (simp_all; done)) rfl
theorem s_X3_numbersOf_4 {d : Nat} (hd : 0 ≤ d) {M : gMem} : Go d RX3 cX3_numbersOf 1 (some .int) 0 [some (.inl 4)] [] M (some (.inl 1)) M := by
  refine Go_iload_n (pc := 0) dX3_numbersOf_0 rfl rfl ?_
  refine Go_iconst (pc := 1) dX3_numbersOf_1 ?_
  refine Go_icmp_eq (pc := 2) (tgt := 10) dX3_numbersOf_2 (by decide) (by decide) (by decide) (fun q => absurd q (by decide)) (fun _ => ?_)
  refine Go_iload_n (pc := 5) dX3_numbersOf_5 rfl rfl ?_
  refine Go_iconst (pc := 6) dX3_numbersOf_6 ?_
  refine Go_icmp_ne (pc := 7) (tgt := 14) dX3_numbersOf_7 (by decide) (by decide) (by decide) (fun q => absurd q (by decide)) (fun _ => ?_)
  refine Go_iconst (pc := 10) dX3_numbersOf_10 ?_
  refine Go_goto (pc := 11) (tgt := 15) dX3_numbersOf_11 (by decide) ?_
  exact Go_ireturn (pc := 15) dX3_numbersOf_15 rfl (by first | rfl | (simp_all; done)) rfl
theorem s_X3_orderLength_4 {d : Nat} (hd : 2 ≤ d) {M : gMem} : Go d RX3 cX3_orderLength 1 (some .int) 0 [some (.inl 4)] [] M (some (.inl 7)) M := by
  refine Go_iload_n (pc := 0) dX3_orderLength_0 rfl rfl ?_
  refine Go_invS (pc := 1) (y := yX3_wordOf) (avs := [.inl 4]) (rest := []) (x := .inr 104)  (d' := d - 1) dX3_orderLength_1 ln_X3_48 mo_X3_wordOf so_X3_wordOf rfl rfl rfl (Nat.le_of_ble_eq_true rfl) (by omega) (Nat.le_of_ble_eq_true rfl) rfl (s_X3_wordOf_4 (by omega)) ?_
  refine Go_invV (pc := 4) (y := yJ0_length_8abf5) (avs := []) (k := 104) (rest := []) (x := .inl 4)  (d' := d - 1) dX3_orderLength_4 ln_X3_68 mo_J0_length_8abf5 vo_J0_length_8abf5 rfl (rc_s (i := 4) (by decide)) rfl rfl (Nat.le_of_ble_eq_true rfl) (by omega) (Nat.le_of_ble_eq_true rfl) rfl (s_J0_length_4 (by omega)) ?_
  refine Go_iconst (pc := 7) dX3_orderLength_7 ?_
  refine Go_iload_n (pc := 8) dX3_orderLength_8 rfl rfl ?_
  refine Go_invS (pc := 9) (y := yX3_numbersOf) (avs := [.inl 4]) (rest := [.inl 2, .inl 4]) (x := .inl 1)  (d' := d - 1) dX3_orderLength_9 ln_X3_71 mo_X3_numbersOf so_X3_numbersOf rfl rfl rfl (Nat.le_of_ble_eq_true rfl) (by omega) (Nat.le_of_ble_eq_true rfl) rfl (s_X3_numbersOf_4 (by omega)) ?_
  refine Go_imul (pc := 12) dX3_orderLength_12 ?_
  refine Go_iadd (pc := 13) dX3_orderLength_13 ?_
  refine Go_iconst (pc := 14) dX3_orderLength_14 ?_
  refine Go_iadd (pc := 15) dX3_orderLength_15 ?_
  exact Go_ireturn (pc := 16) dX3_orderLength_16 rfl (by first | rfl | (simp_all; done)) rfl
theorem s_X3_wordOf_5 {d : Nat} (hd : 0 ≤ d) {M : gMem} : Go d RX3 cX3_wordOf 1 (some (.object "java/lang/String")) 0 [some (.inl 5)] [] M (some (.inr 105)) M := by
  refine Go_iload_n (pc := 0) dX3_wordOf_0 rfl rfl ?_
  refine Go_tsOut (pc := 1) (tgt := 51) dX3_wordOf_1 (by decide) (by decide) (by decide) ?_
  refine Go_ldcS (pc := 51) (i := 5) (by decide) rfl dX3_wordOf_51 ?_
  exact Go_areturn (pc := 53) dX3_wordOf_53 rfl (by decide) (by first | rfl | (simp_all; done)) rfl
theorem s_X3_numbersOf_5 {d : Nat} (hd : 0 ≤ d) {M : gMem} : Go d RX3 cX3_numbersOf 1 (some .int) 0 [some (.inl 5)] [] M (some (.inl 2)) M := by
  refine Go_iload_n (pc := 0) dX3_numbersOf_0 rfl rfl ?_
  refine Go_iconst (pc := 1) dX3_numbersOf_1 ?_
  refine Go_icmp_eq (pc := 2) (tgt := 10) dX3_numbersOf_2 (by decide) (by decide) (by decide) (fun q => absurd q (by decide)) (fun _ => ?_)
  refine Go_iload_n (pc := 5) dX3_numbersOf_5 rfl rfl ?_
  refine Go_iconst (pc := 6) dX3_numbersOf_6 ?_
  refine Go_icmp_ne (pc := 7) (tgt := 14) dX3_numbersOf_7 (by decide) (by decide) (by decide) (fun _ => ?_) (fun q => absurd q (by decide))
  refine Go_iconst (pc := 14) dX3_numbersOf_14 ?_
  exact Go_ireturn (pc := 15) dX3_numbersOf_15 rfl (by first | rfl | (simp_all; done)) rfl
theorem s_X3_orderLength_5 {d : Nat} (hd : 2 ≤ d) {M : gMem} : Go d RX3 cX3_orderLength 1 (some .int) 0 [some (.inl 5)] [] M (some (.inl 5)) M := by
  refine Go_iload_n (pc := 0) dX3_orderLength_0 rfl rfl ?_
  refine Go_invS (pc := 1) (y := yX3_wordOf) (avs := [.inl 5]) (rest := []) (x := .inr 105)  (d' := d - 1) dX3_orderLength_1 ln_X3_48 mo_X3_wordOf so_X3_wordOf rfl rfl rfl (Nat.le_of_ble_eq_true rfl) (by omega) (Nat.le_of_ble_eq_true rfl) rfl (s_X3_wordOf_5 (by omega)) ?_
  refine Go_invV (pc := 4) (y := yJ0_length_8abf5) (avs := []) (k := 105) (rest := []) (x := .inl 0)  (d' := d - 1) dX3_orderLength_4 ln_X3_68 mo_J0_length_8abf5 vo_J0_length_8abf5 rfl (rc_s (i := 5) (by decide)) rfl rfl (Nat.le_of_ble_eq_true rfl) (by omega) (Nat.le_of_ble_eq_true rfl) rfl (s_J0_length_5 (by omega)) ?_
  refine Go_iconst (pc := 7) dX3_orderLength_7 ?_
  refine Go_iload_n (pc := 8) dX3_orderLength_8 rfl rfl ?_
  refine Go_invS (pc := 9) (y := yX3_numbersOf) (avs := [.inl 5]) (rest := [.inl 2, .inl 0]) (x := .inl 2)  (d' := d - 1) dX3_orderLength_9 ln_X3_71 mo_X3_numbersOf so_X3_numbersOf rfl rfl rfl (Nat.le_of_ble_eq_true rfl) (by omega) (Nat.le_of_ble_eq_true rfl) rfl (s_X3_numbersOf_5 (by omega)) ?_
  refine Go_imul (pc := 12) dX3_orderLength_12 ?_
  refine Go_iadd (pc := 13) dX3_orderLength_13 ?_
  refine Go_iconst (pc := 14) dX3_orderLength_14 ?_
  refine Go_iadd (pc := 15) dX3_orderLength_15 ?_
  exact Go_ireturn (pc := 16) dX3_orderLength_16 rfl (by first | rfl | (simp_all; done)) rfl
theorem s_X3_kindAt {d : Nat} (hd : 5 ≤ d) {s : Int} {M : gMem} (h : TxOk (M 8) (M 7 1)) (s0 : 0 ≤ s) (s1 : s ≤ M 7 1) : Go d RX3 cX3_kindAt 3 (some .int) 0 [some (.inr 7), some (.inl s), none] [] M (some (.inl (kdF (M 8) (M 7 1) s))) M := by
  refine Go_iconst (pc := 0) dX3_kindAt_0 ?_
  refine Go_istore_n (pc := 1) (L' := [some (.inr 7), some (.inl s), some (.inl 0)]) dX3_kindAt_1 rfl (by decide) rfl ?_
  refine Go_iload_n (pc := 2) dX3_kindAt_2 rfl rfl ?_
  refine Go_iconst (pc := 3) dX3_kindAt_3 ?_
  refine Go_icmp_ge (pc := 4) (tgt := 27) dX3_kindAt_4 (by decide) (by decide) (by decide) (fun q => absurd q (by decide)) (fun _ => ?_)
  refine Go_aload_n (pc := 7) dX3_kindAt_7 rfl (by decide) rfl ?_
  refine Go_iload_n (pc := 8) dX3_kindAt_8 rfl rfl ?_
  refine Go_iload_n (pc := 9) dX3_kindAt_9 rfl rfl ?_
  refine Go_invS (pc := 10) (y := yX3_wordOf) (avs := [.inl 0]) (rest := [.inl s, .inr 7]) (x := .inr 100)  (d' := d - 1) dX3_kindAt_10 ln_X3_48 mo_X3_wordOf so_X3_wordOf rfl rfl rfl (Nat.le_of_ble_eq_true rfl) (by omega) (Nat.le_of_ble_eq_true rfl) rfl (s_X3_wordOf_0 (by omega)) ?_
  refine Go_invV (pc := 13) (y := yX5_hasWord) (avs := [.inl s, .inr 100]) (k := 7) (rest := []) (x := .inl (b2i (wd0 (M 8) (M 7 1) s)))  (d' := d - 1) dX3_kindAt_13 ln_X3_52 mo_X5_hasWord vo_X5_hasWord rfl (rc_7) rfl rfl (Nat.le_of_ble_eq_true rfl) (by omega) (Nat.le_of_ble_eq_true rfl) rfl (s_X5_hasWord_0 (by omega) h (by first | omega | (simp only [Nat.reduceAdd, setR_s]; omega) | (simp only [setR, Nat.reduceEqDiff, reduceIte]; omega)) (by first | omega | (simp only [Nat.reduceAdd, setR_s]; omega) | (simp only [setR, Nat.reduceEqDiff, reduceIte]; omega))) ?_
  refine Go_ifeqB (pc := 16) (tgt := 21) dX3_kindAt_16 (by decide) (fun c16 => ?_) (fun c16 => ?_)
  · refine Go_iinc (pc := 21) (L' := [some (.inr 7), some (.inl s), some (.inl 1)]) dX3_kindAt_21 rfl (by decide) rfl ?_
    refine Go_goto (pc := 24) (tgt := 2) dX3_kindAt_24 (by decide) ?_
    refine Go_iload_n (pc := 2) dX3_kindAt_2 rfl rfl ?_
    refine Go_iconst (pc := 3) dX3_kindAt_3 ?_
    refine Go_icmp_ge (pc := 4) (tgt := 27) dX3_kindAt_4 (by decide) (by decide) (by decide) (fun q => absurd q (by decide)) (fun _ => ?_)
    refine Go_aload_n (pc := 7) dX3_kindAt_7 rfl (by decide) rfl ?_
    refine Go_iload_n (pc := 8) dX3_kindAt_8 rfl rfl ?_
    refine Go_iload_n (pc := 9) dX3_kindAt_9 rfl rfl ?_
    refine Go_invS (pc := 10) (y := yX3_wordOf) (avs := [.inl 1]) (rest := [.inl s, .inr 7]) (x := .inr 101)  (d' := d - 1) dX3_kindAt_10 ln_X3_48 mo_X3_wordOf so_X3_wordOf rfl rfl rfl (Nat.le_of_ble_eq_true rfl) (by omega) (Nat.le_of_ble_eq_true rfl) rfl (s_X3_wordOf_1 (by omega)) ?_
    refine Go_invV (pc := 13) (y := yX5_hasWord) (avs := [.inl s, .inr 101]) (k := 7) (rest := []) (x := .inl (b2i (wd1 (M 8) (M 7 1) s)))  (d' := d - 1) dX3_kindAt_13 ln_X3_52 mo_X5_hasWord vo_X5_hasWord rfl (rc_7) rfl rfl (Nat.le_of_ble_eq_true rfl) (by omega) (Nat.le_of_ble_eq_true rfl) rfl (s_X5_hasWord_1 (by omega) h (by first | omega | (simp only [Nat.reduceAdd, setR_s]; omega) | (simp only [setR, Nat.reduceEqDiff, reduceIte]; omega)) (by first | omega | (simp only [Nat.reduceAdd, setR_s]; omega) | (simp only [setR, Nat.reduceEqDiff, reduceIte]; omega))) ?_
    refine Go_ifeqB (pc := 16) (tgt := 21) dX3_kindAt_16 (by decide) (fun c16a => ?_) (fun c16a => ?_)
    · refine Go_iinc (pc := 21) (L' := [some (.inr 7), some (.inl s), some (.inl 2)]) dX3_kindAt_21 rfl (by decide) rfl ?_
      refine Go_goto (pc := 24) (tgt := 2) dX3_kindAt_24 (by decide) ?_
      refine Go_iload_n (pc := 2) dX3_kindAt_2 rfl rfl ?_
      refine Go_iconst (pc := 3) dX3_kindAt_3 ?_
      refine Go_icmp_ge (pc := 4) (tgt := 27) dX3_kindAt_4 (by decide) (by decide) (by decide) (fun q => absurd q (by decide)) (fun _ => ?_)
      refine Go_aload_n (pc := 7) dX3_kindAt_7 rfl (by decide) rfl ?_
      refine Go_iload_n (pc := 8) dX3_kindAt_8 rfl rfl ?_
      refine Go_iload_n (pc := 9) dX3_kindAt_9 rfl rfl ?_
      refine Go_invS (pc := 10) (y := yX3_wordOf) (avs := [.inl 2]) (rest := [.inl s, .inr 7]) (x := .inr 102)  (d' := d - 1) dX3_kindAt_10 ln_X3_48 mo_X3_wordOf so_X3_wordOf rfl rfl rfl (Nat.le_of_ble_eq_true rfl) (by omega) (Nat.le_of_ble_eq_true rfl) rfl (s_X3_wordOf_2 (by omega)) ?_
      refine Go_invV (pc := 13) (y := yX5_hasWord) (avs := [.inl s, .inr 102]) (k := 7) (rest := []) (x := .inl (b2i (wd2 (M 8) (M 7 1) s)))  (d' := d - 1) dX3_kindAt_13 ln_X3_52 mo_X5_hasWord vo_X5_hasWord rfl (rc_7) rfl rfl (Nat.le_of_ble_eq_true rfl) (by omega) (Nat.le_of_ble_eq_true rfl) rfl (s_X5_hasWord_2 (by omega) h (by first | omega | (simp only [Nat.reduceAdd, setR_s]; omega) | (simp only [setR, Nat.reduceEqDiff, reduceIte]; omega)) (by first | omega | (simp only [Nat.reduceAdd, setR_s]; omega) | (simp only [setR, Nat.reduceEqDiff, reduceIte]; omega))) ?_
      refine Go_ifeqB (pc := 16) (tgt := 21) dX3_kindAt_16 (by decide) (fun c16b => ?_) (fun c16b => ?_)
      · refine Go_iinc (pc := 21) (L' := [some (.inr 7), some (.inl s), some (.inl 3)]) dX3_kindAt_21 rfl (by decide) rfl ?_
        refine Go_goto (pc := 24) (tgt := 2) dX3_kindAt_24 (by decide) ?_
        refine Go_iload_n (pc := 2) dX3_kindAt_2 rfl rfl ?_
        refine Go_iconst (pc := 3) dX3_kindAt_3 ?_
        refine Go_icmp_ge (pc := 4) (tgt := 27) dX3_kindAt_4 (by decide) (by decide) (by decide) (fun q => absurd q (by decide)) (fun _ => ?_)
        refine Go_aload_n (pc := 7) dX3_kindAt_7 rfl (by decide) rfl ?_
        refine Go_iload_n (pc := 8) dX3_kindAt_8 rfl rfl ?_
        refine Go_iload_n (pc := 9) dX3_kindAt_9 rfl rfl ?_
        refine Go_invS (pc := 10) (y := yX3_wordOf) (avs := [.inl 3]) (rest := [.inl s, .inr 7]) (x := .inr 103)  (d' := d - 1) dX3_kindAt_10 ln_X3_48 mo_X3_wordOf so_X3_wordOf rfl rfl rfl (Nat.le_of_ble_eq_true rfl) (by omega) (Nat.le_of_ble_eq_true rfl) rfl (s_X3_wordOf_3 (by omega)) ?_
        refine Go_invV (pc := 13) (y := yX5_hasWord) (avs := [.inl s, .inr 103]) (k := 7) (rest := []) (x := .inl (b2i (wd3 (M 8) (M 7 1) s)))  (d' := d - 1) dX3_kindAt_13 ln_X3_52 mo_X5_hasWord vo_X5_hasWord rfl (rc_7) rfl rfl (Nat.le_of_ble_eq_true rfl) (by omega) (Nat.le_of_ble_eq_true rfl) rfl (s_X5_hasWord_3 (by omega) h (by first | omega | (simp only [Nat.reduceAdd, setR_s]; omega) | (simp only [setR, Nat.reduceEqDiff, reduceIte]; omega)) (by first | omega | (simp only [Nat.reduceAdd, setR_s]; omega) | (simp only [setR, Nat.reduceEqDiff, reduceIte]; omega))) ?_
        refine Go_ifeqB (pc := 16) (tgt := 21) dX3_kindAt_16 (by decide) (fun c16c => ?_) (fun c16c => ?_)
        · refine Go_iinc (pc := 21) (L' := [some (.inr 7), some (.inl s), some (.inl 4)]) dX3_kindAt_21 rfl (by decide) rfl ?_
          refine Go_goto (pc := 24) (tgt := 2) dX3_kindAt_24 (by decide) ?_
          refine Go_iload_n (pc := 2) dX3_kindAt_2 rfl rfl ?_
          refine Go_iconst (pc := 3) dX3_kindAt_3 ?_
          refine Go_icmp_ge (pc := 4) (tgt := 27) dX3_kindAt_4 (by decide) (by decide) (by decide) (fun q => absurd q (by decide)) (fun _ => ?_)
          refine Go_aload_n (pc := 7) dX3_kindAt_7 rfl (by decide) rfl ?_
          refine Go_iload_n (pc := 8) dX3_kindAt_8 rfl rfl ?_
          refine Go_iload_n (pc := 9) dX3_kindAt_9 rfl rfl ?_
          refine Go_invS (pc := 10) (y := yX3_wordOf) (avs := [.inl 4]) (rest := [.inl s, .inr 7]) (x := .inr 104)  (d' := d - 1) dX3_kindAt_10 ln_X3_48 mo_X3_wordOf so_X3_wordOf rfl rfl rfl (Nat.le_of_ble_eq_true rfl) (by omega) (Nat.le_of_ble_eq_true rfl) rfl (s_X3_wordOf_4 (by omega)) ?_
          refine Go_invV (pc := 13) (y := yX5_hasWord) (avs := [.inl s, .inr 104]) (k := 7) (rest := []) (x := .inl (b2i (wd4 (M 8) (M 7 1) s)))  (d' := d - 1) dX3_kindAt_13 ln_X3_52 mo_X5_hasWord vo_X5_hasWord rfl (rc_7) rfl rfl (Nat.le_of_ble_eq_true rfl) (by omega) (Nat.le_of_ble_eq_true rfl) rfl (s_X5_hasWord_4 (by omega) h (by first | omega | (simp only [Nat.reduceAdd, setR_s]; omega) | (simp only [setR, Nat.reduceEqDiff, reduceIte]; omega)) (by first | omega | (simp only [Nat.reduceAdd, setR_s]; omega) | (simp only [setR, Nat.reduceEqDiff, reduceIte]; omega))) ?_
          refine Go_ifeqB (pc := 16) (tgt := 21) dX3_kindAt_16 (by decide) (fun c16d => ?_) (fun c16d => ?_)
          · refine Go_iinc (pc := 21) (L' := [some (.inr 7), some (.inl s), some (.inl 5)]) dX3_kindAt_21 rfl (by decide) rfl ?_
            refine Go_goto (pc := 24) (tgt := 2) dX3_kindAt_24 (by decide) ?_
            refine Go_iload_n (pc := 2) dX3_kindAt_2 rfl rfl ?_
            refine Go_iconst (pc := 3) dX3_kindAt_3 ?_
            refine Go_icmp_ge (pc := 4) (tgt := 27) dX3_kindAt_4 (by decide) (by decide) (by decide) (fun _ => ?_) (fun q => absurd q (by decide))
            refine Go_iconst (pc := 27) dX3_kindAt_27 ?_
            exact Go_ireturn (pc := 28) dX3_kindAt_28 rfl (by unfold kdF; rw [if_neg c16, if_neg c16a, if_neg c16b, if_neg c16c, if_neg c16d]) rfl
          · refine Go_iload_n (pc := 19) dX3_kindAt_19 rfl rfl ?_
            exact Go_ireturn (pc := 20) dX3_kindAt_20 rfl (by unfold kdF; rw [if_neg c16, if_neg c16a, if_neg c16b, if_neg c16c, if_pos c16d]) rfl
        · refine Go_iload_n (pc := 19) dX3_kindAt_19 rfl rfl ?_
          exact Go_ireturn (pc := 20) dX3_kindAt_20 rfl (by unfold kdF; rw [if_neg c16, if_neg c16a, if_neg c16b, if_pos c16c]) rfl
      · refine Go_iload_n (pc := 19) dX3_kindAt_19 rfl rfl ?_
        exact Go_ireturn (pc := 20) dX3_kindAt_20 rfl (by unfold kdF; rw [if_neg c16, if_neg c16a, if_pos c16b]) rfl
    · refine Go_iload_n (pc := 19) dX3_kindAt_19 rfl rfl ?_
      exact Go_ireturn (pc := 20) dX3_kindAt_20 rfl (by unfold kdF; rw [if_neg c16, if_pos c16a]) rfl
  · refine Go_iload_n (pc := 19) dX3_kindAt_19 rfl rfl ?_
    exact Go_ireturn (pc := 20) dX3_kindAt_20 rfl (by unfold kdF; rw [if_pos c16]) rfl
def br24 (f : Int → Int) (n s : Int) : Int := if cT f n (s + 4) = 32 then (if dgP f n (s + 4 + 1) then (if cT f n (s + 6) = 32 then (if dgP f n (s + 6 + 1) then (if cT f n (s + 8) = 59 then -1 else 8) else 7) else 6) else 5) else 4
def br15 (f : Int → Int) (n s : Int) : Int := if cT f n (s + 5) = 32 then (if dgP f n (s + 5 + 1) then (if cT f n (s + 7) = 59 then -1 else 7) else 6) else 5
def br14 (f : Int → Int) (n s : Int) : Int := if cT f n (s + 4) = 32 then (if dgP f n (s + 4 + 1) then (if cT f n (s + 6) = 59 then -1 else 6) else 5) else 4
def brF (f : Int → Int) (n s k : Int) : Int := if k = 5 then 0 else if k = 2 then br15 f n s else if k = 4 then br14 f n s else br24 f n s
theorem brF_b (f : Int → Int) (n s k : Int) : -1 ≤ brF f n s k ∧ brF f n s k ≤ 8 := by
  unfold brF br15 br14 br24
  (repeat' split) <;> omega
theorem s_X3_breakOf_0 {d : Nat} (hd : 2 ≤ d) {s : Int} {M : gMem} (h : TxOk (M 8) (M 7 1)) (s0 : 0 ≤ s) (s1 : s ≤ M 7 1) : Go d RX3 cX3_breakOf 5 (some .int) 0 [some (.inr 7), some (.inl s), some (.inl 0), none, none] [] M (some (.inl (brF (M 8) (M 7 1) s 0))) M := by
  have hn := h.1
  rw [show brF (M 8) (M 7 1) s 0 = br24 (M 8) (M 7 1) s from rfl]
  have b4 := cT_b h (s + 4)
  have b5 := cT_b h (s + 5)
  have b6 := cT_b h (s + 6)
  have b7 := cT_b h (s + 7)
  have b8 := cT_b h (s + 8)
  refine Go_iload_n (pc := 0) dX3_breakOf_0 rfl rfl ?_
  refine Go_invS (pc := 1) (y := yX3_wordOf) (avs := [.inl 0]) (rest := []) (x := .inr 100)  (d' := d - 1) dX3_breakOf_1 ln_X3_48 mo_X3_wordOf so_X3_wordOf rfl rfl rfl (Nat.le_of_ble_eq_true rfl) (by omega) (Nat.le_of_ble_eq_true rfl) rfl (s_X3_wordOf_0 (by omega)) ?_
  refine Go_invV (pc := 4) (y := yJ0_length_8abf5) (avs := []) (k := 100) (rest := []) (x := .inl 4)  (d' := d - 1) dX3_breakOf_4 ln_X3_68 mo_J0_length_8abf5 vo_J0_length_8abf5 rfl (rc_s (i := 0) (by decide)) rfl rfl (Nat.le_of_ble_eq_true rfl) (by omega) (Nat.le_of_ble_eq_true rfl) rfl (s_J0_length_0 (by omega)) ?_
  refine Go_istore_n (pc := 7) (L' := [some (.inr 7), some (.inl s), some (.inl 0), some (.inl 4), none]) dX3_breakOf_7 rfl (by decide) rfl ?_
  refine Go_iconst (pc := 8) dX3_breakOf_8 ?_
  refine Go_istore (pc := 9) (L' := [some (.inr 7), some (.inl s), some (.inl 0), some (.inl 4), some (.inl 0)]) dX3_breakOf_9 (by decide) rfl ?_
  refine Go_iload (pc := 11) dX3_breakOf_11 rfl ?_
  refine Go_iload_n (pc := 13) dX3_breakOf_13 rfl rfl ?_
  refine Go_invS (pc := 14) (y := yX3_numbersOf) (avs := [.inl 0]) (rest := [.inl 0]) (x := .inl 2)  (d' := d - 1) dX3_breakOf_14 ln_X3_71 mo_X3_numbersOf so_X3_numbersOf rfl rfl rfl (Nat.le_of_ble_eq_true rfl) (by omega) (Nat.le_of_ble_eq_true rfl) rfl (s_X3_numbersOf_0 (by omega)) ?_
  refine Go_icmp_ge (pc := 17) (tgt := 59) dX3_breakOf_17 (by decide) (by decide) (by decide) (fun q => absurd q (by decide)) (fun _ => ?_)
  refine Go_aload_n (pc := 20) dX3_breakOf_20 rfl (by decide) rfl ?_
  refine Go_iload_n (pc := 21) dX3_breakOf_21 rfl rfl ?_
  refine Go_iload_n (pc := 22) dX3_breakOf_22 rfl rfl ?_
  refine Go_iadd (pc := 23) dX3_breakOf_23 ?_
  refine Go_invV (pc := 24) (y := yX5_at) (avs := [.inl (s + 4)]) (k := 7) (rest := []) (x := .inl (cT (M 8) (M 7 1) (s + 4)))  (d' := d - 1) dX3_breakOf_24 ln_X3_78 mo_X5_at vo_X5_at rfl (rc_7) rfl rfl (Nat.le_of_ble_eq_true rfl) (by omega) (Nat.le_of_ble_eq_true rfl) rfl (s_X5_at (by omega) h (by omega)) ?_
  refine Go_bipush (pc := 27) dX3_breakOf_27 (by decide) (by decide) ?_
  refine Go_icmp_eq (pc := 29) (tgt := 34) dX3_breakOf_29 (by decide) (by omega) (by decide) (fun c29 => ?_) (fun c29 => ?_)
  · refine Go_aload_n (pc := 34) dX3_breakOf_34 rfl (by decide) rfl ?_
    refine Go_iload_n (pc := 35) dX3_breakOf_35 rfl rfl ?_
    refine Go_iload_n (pc := 36) dX3_breakOf_36 rfl rfl ?_
    refine Go_iadd (pc := 37) dX3_breakOf_37 ?_
    refine Go_iconst (pc := 38) dX3_breakOf_38 ?_
    refine Go_iadd (pc := 39) dX3_breakOf_39 ?_
    refine Go_invV (pc := 40) (y := yX5_isDigit) (avs := [.inl ((s + 4) + 1)]) (k := 7) (rest := []) (x := .inl (b2i (dgP (M 8) (M 7 1) ((s + 4) + 1))))  (d' := d - 1) dX3_breakOf_40 ln_X3_82 mo_X5_isDigit vo_X5_isDigit rfl (rc_7) rfl rfl (Nat.le_of_ble_eq_true rfl) (by omega) (Nat.le_of_ble_eq_true rfl) rfl (s_X5_isDigit (by omega) h (by omega)) ?_
    refine Go_ifneB (pc := 43) (tgt := 50) dX3_breakOf_43 (by decide) (fun c43 => ?_) (fun c43 => ?_)
    · refine Go_iinc (pc := 50) (L' := [some (.inr 7), some (.inl s), some (.inl 0), some (.inl 6), some (.inl 0)]) dX3_breakOf_50 rfl (by decide) rfl ?_
      refine Go_iinc (pc := 53) (L' := [some (.inr 7), some (.inl s), some (.inl 0), some (.inl 6), some (.inl 1)]) dX3_breakOf_53 rfl (by decide) rfl ?_
      refine Go_goto (pc := 56) (tgt := 11) dX3_breakOf_56 (by decide) ?_
      refine Go_iload (pc := 11) dX3_breakOf_11 rfl ?_
      refine Go_iload_n (pc := 13) dX3_breakOf_13 rfl rfl ?_
      refine Go_invS (pc := 14) (y := yX3_numbersOf) (avs := [.inl 0]) (rest := [.inl 1]) (x := .inl 2)  (d' := d - 1) dX3_breakOf_14 ln_X3_71 mo_X3_numbersOf so_X3_numbersOf rfl rfl rfl (Nat.le_of_ble_eq_true rfl) (by omega) (Nat.le_of_ble_eq_true rfl) rfl (s_X3_numbersOf_0 (by omega)) ?_
      refine Go_icmp_ge (pc := 17) (tgt := 59) dX3_breakOf_17 (by decide) (by decide) (by decide) (fun q => absurd q (by decide)) (fun _ => ?_)
      refine Go_aload_n (pc := 20) dX3_breakOf_20 rfl (by decide) rfl ?_
      refine Go_iload_n (pc := 21) dX3_breakOf_21 rfl rfl ?_
      refine Go_iload_n (pc := 22) dX3_breakOf_22 rfl rfl ?_
      refine Go_iadd (pc := 23) dX3_breakOf_23 ?_
      refine Go_invV (pc := 24) (y := yX5_at) (avs := [.inl (s + 6)]) (k := 7) (rest := []) (x := .inl (cT (M 8) (M 7 1) (s + 6)))  (d' := d - 1) dX3_breakOf_24 ln_X3_78 mo_X5_at vo_X5_at rfl (rc_7) rfl rfl (Nat.le_of_ble_eq_true rfl) (by omega) (Nat.le_of_ble_eq_true rfl) rfl (s_X5_at (by omega) h (by omega)) ?_
      refine Go_bipush (pc := 27) dX3_breakOf_27 (by decide) (by decide) ?_
      refine Go_icmp_eq (pc := 29) (tgt := 34) dX3_breakOf_29 (by decide) (by omega) (by decide) (fun c29a => ?_) (fun c29a => ?_)
      · refine Go_aload_n (pc := 34) dX3_breakOf_34 rfl (by decide) rfl ?_
        refine Go_iload_n (pc := 35) dX3_breakOf_35 rfl rfl ?_
        refine Go_iload_n (pc := 36) dX3_breakOf_36 rfl rfl ?_
        refine Go_iadd (pc := 37) dX3_breakOf_37 ?_
        refine Go_iconst (pc := 38) dX3_breakOf_38 ?_
        refine Go_iadd (pc := 39) dX3_breakOf_39 ?_
        refine Go_invV (pc := 40) (y := yX5_isDigit) (avs := [.inl ((s + 6) + 1)]) (k := 7) (rest := []) (x := .inl (b2i (dgP (M 8) (M 7 1) ((s + 6) + 1))))  (d' := d - 1) dX3_breakOf_40 ln_X3_82 mo_X5_isDigit vo_X5_isDigit rfl (rc_7) rfl rfl (Nat.le_of_ble_eq_true rfl) (by omega) (Nat.le_of_ble_eq_true rfl) rfl (s_X5_isDigit (by omega) h (by omega)) ?_
        refine Go_ifneB (pc := 43) (tgt := 50) dX3_breakOf_43 (by decide) (fun c43a => ?_) (fun c43a => ?_)
        · refine Go_iinc (pc := 50) (L' := [some (.inr 7), some (.inl s), some (.inl 0), some (.inl 8), some (.inl 1)]) dX3_breakOf_50 rfl (by decide) rfl ?_
          refine Go_iinc (pc := 53) (L' := [some (.inr 7), some (.inl s), some (.inl 0), some (.inl 8), some (.inl 2)]) dX3_breakOf_53 rfl (by decide) rfl ?_
          refine Go_goto (pc := 56) (tgt := 11) dX3_breakOf_56 (by decide) ?_
          refine Go_iload (pc := 11) dX3_breakOf_11 rfl ?_
          refine Go_iload_n (pc := 13) dX3_breakOf_13 rfl rfl ?_
          refine Go_invS (pc := 14) (y := yX3_numbersOf) (avs := [.inl 0]) (rest := [.inl 2]) (x := .inl 2)  (d' := d - 1) dX3_breakOf_14 ln_X3_71 mo_X3_numbersOf so_X3_numbersOf rfl rfl rfl (Nat.le_of_ble_eq_true rfl) (by omega) (Nat.le_of_ble_eq_true rfl) rfl (s_X3_numbersOf_0 (by omega)) ?_
          refine Go_icmp_ge (pc := 17) (tgt := 59) dX3_breakOf_17 (by decide) (by decide) (by decide) (fun _ => ?_) (fun q => absurd q (by decide))
          refine Go_aload_n (pc := 59) dX3_breakOf_59 rfl (by decide) rfl ?_
          refine Go_iload_n (pc := 60) dX3_breakOf_60 rfl rfl ?_
          refine Go_iload_n (pc := 61) dX3_breakOf_61 rfl rfl ?_
          refine Go_iadd (pc := 62) dX3_breakOf_62 ?_
          refine Go_invV (pc := 63) (y := yX5_at) (avs := [.inl (s + 8)]) (k := 7) (rest := []) (x := .inl (cT (M 8) (M 7 1) (s + 8)))  (d' := d - 1) dX3_breakOf_63 ln_X3_78 mo_X5_at vo_X5_at rfl (rc_7) rfl rfl (Nat.le_of_ble_eq_true rfl) (by omega) (Nat.le_of_ble_eq_true rfl) rfl (s_X5_at (by omega) h (by omega)) ?_
          refine Go_bipush (pc := 66) dX3_breakOf_66 (by decide) (by decide) ?_
          refine Go_icmp_ne (pc := 68) (tgt := 75) dX3_breakOf_68 (by decide) (by omega) (by decide) (fun c68 => ?_) (fun c68 => ?_)
          · refine Go_iload_n (pc := 75) dX3_breakOf_75 rfl rfl ?_
            exact Go_ireturn (pc := 76) dX3_breakOf_76 rfl (by unfold br24; (repeat' split) <;> first | rfl | (exfalso; omega)) rfl
          · refine Go_iconst (pc := 71) dX3_breakOf_71 ?_
            refine Go_goto (pc := 72) (tgt := 76) dX3_breakOf_72 (by decide) ?_
            exact Go_ireturn (pc := 76) dX3_breakOf_76 rfl (by unfold br24; (repeat' split) <;> first | rfl | (exfalso; omega)) rfl
        · refine Go_iload_n (pc := 46) dX3_breakOf_46 rfl rfl ?_
          refine Go_iconst (pc := 47) dX3_breakOf_47 ?_
          refine Go_iadd (pc := 48) dX3_breakOf_48 ?_
          exact Go_ireturn (pc := 49) dX3_breakOf_49 rfl (by unfold br24; (repeat' split) <;> first | rfl | (exfalso; omega)) rfl
      · refine Go_iload_n (pc := 32) dX3_breakOf_32 rfl rfl ?_
        exact Go_ireturn (pc := 33) dX3_breakOf_33 rfl (by unfold br24; (repeat' split) <;> first | rfl | (exfalso; omega)) rfl
    · refine Go_iload_n (pc := 46) dX3_breakOf_46 rfl rfl ?_
      refine Go_iconst (pc := 47) dX3_breakOf_47 ?_
      refine Go_iadd (pc := 48) dX3_breakOf_48 ?_
      exact Go_ireturn (pc := 49) dX3_breakOf_49 rfl (by unfold br24; (repeat' split) <;> first | rfl | (exfalso; omega)) rfl
  · refine Go_iload_n (pc := 32) dX3_breakOf_32 rfl rfl ?_
    exact Go_ireturn (pc := 33) dX3_breakOf_33 rfl (by unfold br24; (repeat' split) <;> first | rfl | (exfalso; omega)) rfl
theorem s_X3_breakOf_1 {d : Nat} (hd : 2 ≤ d) {s : Int} {M : gMem} (h : TxOk (M 8) (M 7 1)) (s0 : 0 ≤ s) (s1 : s ≤ M 7 1) : Go d RX3 cX3_breakOf 5 (some .int) 0 [some (.inr 7), some (.inl s), some (.inl 1), none, none] [] M (some (.inl (brF (M 8) (M 7 1) s 1))) M := by
  have hn := h.1
  rw [show brF (M 8) (M 7 1) s 1 = br24 (M 8) (M 7 1) s from rfl]
  have b4 := cT_b h (s + 4)
  have b5 := cT_b h (s + 5)
  have b6 := cT_b h (s + 6)
  have b7 := cT_b h (s + 7)
  have b8 := cT_b h (s + 8)
  refine Go_iload_n (pc := 0) dX3_breakOf_0 rfl rfl ?_
  refine Go_invS (pc := 1) (y := yX3_wordOf) (avs := [.inl 1]) (rest := []) (x := .inr 101)  (d' := d - 1) dX3_breakOf_1 ln_X3_48 mo_X3_wordOf so_X3_wordOf rfl rfl rfl (Nat.le_of_ble_eq_true rfl) (by omega) (Nat.le_of_ble_eq_true rfl) rfl (s_X3_wordOf_1 (by omega)) ?_
  refine Go_invV (pc := 4) (y := yJ0_length_8abf5) (avs := []) (k := 101) (rest := []) (x := .inl 4)  (d' := d - 1) dX3_breakOf_4 ln_X3_68 mo_J0_length_8abf5 vo_J0_length_8abf5 rfl (rc_s (i := 1) (by decide)) rfl rfl (Nat.le_of_ble_eq_true rfl) (by omega) (Nat.le_of_ble_eq_true rfl) rfl (s_J0_length_1 (by omega)) ?_
  refine Go_istore_n (pc := 7) (L' := [some (.inr 7), some (.inl s), some (.inl 1), some (.inl 4), none]) dX3_breakOf_7 rfl (by decide) rfl ?_
  refine Go_iconst (pc := 8) dX3_breakOf_8 ?_
  refine Go_istore (pc := 9) (L' := [some (.inr 7), some (.inl s), some (.inl 1), some (.inl 4), some (.inl 0)]) dX3_breakOf_9 (by decide) rfl ?_
  refine Go_iload (pc := 11) dX3_breakOf_11 rfl ?_
  refine Go_iload_n (pc := 13) dX3_breakOf_13 rfl rfl ?_
  refine Go_invS (pc := 14) (y := yX3_numbersOf) (avs := [.inl 1]) (rest := [.inl 0]) (x := .inl 2)  (d' := d - 1) dX3_breakOf_14 ln_X3_71 mo_X3_numbersOf so_X3_numbersOf rfl rfl rfl (Nat.le_of_ble_eq_true rfl) (by omega) (Nat.le_of_ble_eq_true rfl) rfl (s_X3_numbersOf_1 (by omega)) ?_
  refine Go_icmp_ge (pc := 17) (tgt := 59) dX3_breakOf_17 (by decide) (by decide) (by decide) (fun q => absurd q (by decide)) (fun _ => ?_)
  refine Go_aload_n (pc := 20) dX3_breakOf_20 rfl (by decide) rfl ?_
  refine Go_iload_n (pc := 21) dX3_breakOf_21 rfl rfl ?_
  refine Go_iload_n (pc := 22) dX3_breakOf_22 rfl rfl ?_
  refine Go_iadd (pc := 23) dX3_breakOf_23 ?_
  refine Go_invV (pc := 24) (y := yX5_at) (avs := [.inl (s + 4)]) (k := 7) (rest := []) (x := .inl (cT (M 8) (M 7 1) (s + 4)))  (d' := d - 1) dX3_breakOf_24 ln_X3_78 mo_X5_at vo_X5_at rfl (rc_7) rfl rfl (Nat.le_of_ble_eq_true rfl) (by omega) (Nat.le_of_ble_eq_true rfl) rfl (s_X5_at (by omega) h (by omega)) ?_
  refine Go_bipush (pc := 27) dX3_breakOf_27 (by decide) (by decide) ?_
  refine Go_icmp_eq (pc := 29) (tgt := 34) dX3_breakOf_29 (by decide) (by omega) (by decide) (fun c29 => ?_) (fun c29 => ?_)
  · refine Go_aload_n (pc := 34) dX3_breakOf_34 rfl (by decide) rfl ?_
    refine Go_iload_n (pc := 35) dX3_breakOf_35 rfl rfl ?_
    refine Go_iload_n (pc := 36) dX3_breakOf_36 rfl rfl ?_
    refine Go_iadd (pc := 37) dX3_breakOf_37 ?_
    refine Go_iconst (pc := 38) dX3_breakOf_38 ?_
    refine Go_iadd (pc := 39) dX3_breakOf_39 ?_
    refine Go_invV (pc := 40) (y := yX5_isDigit) (avs := [.inl ((s + 4) + 1)]) (k := 7) (rest := []) (x := .inl (b2i (dgP (M 8) (M 7 1) ((s + 4) + 1))))  (d' := d - 1) dX3_breakOf_40 ln_X3_82 mo_X5_isDigit vo_X5_isDigit rfl (rc_7) rfl rfl (Nat.le_of_ble_eq_true rfl) (by omega) (Nat.le_of_ble_eq_true rfl) rfl (s_X5_isDigit (by omega) h (by omega)) ?_
    refine Go_ifneB (pc := 43) (tgt := 50) dX3_breakOf_43 (by decide) (fun c43 => ?_) (fun c43 => ?_)
    · refine Go_iinc (pc := 50) (L' := [some (.inr 7), some (.inl s), some (.inl 1), some (.inl 6), some (.inl 0)]) dX3_breakOf_50 rfl (by decide) rfl ?_
      refine Go_iinc (pc := 53) (L' := [some (.inr 7), some (.inl s), some (.inl 1), some (.inl 6), some (.inl 1)]) dX3_breakOf_53 rfl (by decide) rfl ?_
      refine Go_goto (pc := 56) (tgt := 11) dX3_breakOf_56 (by decide) ?_
      refine Go_iload (pc := 11) dX3_breakOf_11 rfl ?_
      refine Go_iload_n (pc := 13) dX3_breakOf_13 rfl rfl ?_
      refine Go_invS (pc := 14) (y := yX3_numbersOf) (avs := [.inl 1]) (rest := [.inl 1]) (x := .inl 2)  (d' := d - 1) dX3_breakOf_14 ln_X3_71 mo_X3_numbersOf so_X3_numbersOf rfl rfl rfl (Nat.le_of_ble_eq_true rfl) (by omega) (Nat.le_of_ble_eq_true rfl) rfl (s_X3_numbersOf_1 (by omega)) ?_
      refine Go_icmp_ge (pc := 17) (tgt := 59) dX3_breakOf_17 (by decide) (by decide) (by decide) (fun q => absurd q (by decide)) (fun _ => ?_)
      refine Go_aload_n (pc := 20) dX3_breakOf_20 rfl (by decide) rfl ?_
      refine Go_iload_n (pc := 21) dX3_breakOf_21 rfl rfl ?_
      refine Go_iload_n (pc := 22) dX3_breakOf_22 rfl rfl ?_
      refine Go_iadd (pc := 23) dX3_breakOf_23 ?_
      refine Go_invV (pc := 24) (y := yX5_at) (avs := [.inl (s + 6)]) (k := 7) (rest := []) (x := .inl (cT (M 8) (M 7 1) (s + 6)))  (d' := d - 1) dX3_breakOf_24 ln_X3_78 mo_X5_at vo_X5_at rfl (rc_7) rfl rfl (Nat.le_of_ble_eq_true rfl) (by omega) (Nat.le_of_ble_eq_true rfl) rfl (s_X5_at (by omega) h (by omega)) ?_
      refine Go_bipush (pc := 27) dX3_breakOf_27 (by decide) (by decide) ?_
      refine Go_icmp_eq (pc := 29) (tgt := 34) dX3_breakOf_29 (by decide) (by omega) (by decide) (fun c29a => ?_) (fun c29a => ?_)
      · refine Go_aload_n (pc := 34) dX3_breakOf_34 rfl (by decide) rfl ?_
        refine Go_iload_n (pc := 35) dX3_breakOf_35 rfl rfl ?_
        refine Go_iload_n (pc := 36) dX3_breakOf_36 rfl rfl ?_
        refine Go_iadd (pc := 37) dX3_breakOf_37 ?_
        refine Go_iconst (pc := 38) dX3_breakOf_38 ?_
        refine Go_iadd (pc := 39) dX3_breakOf_39 ?_
        refine Go_invV (pc := 40) (y := yX5_isDigit) (avs := [.inl ((s + 6) + 1)]) (k := 7) (rest := []) (x := .inl (b2i (dgP (M 8) (M 7 1) ((s + 6) + 1))))  (d' := d - 1) dX3_breakOf_40 ln_X3_82 mo_X5_isDigit vo_X5_isDigit rfl (rc_7) rfl rfl (Nat.le_of_ble_eq_true rfl) (by omega) (Nat.le_of_ble_eq_true rfl) rfl (s_X5_isDigit (by omega) h (by omega)) ?_
        refine Go_ifneB (pc := 43) (tgt := 50) dX3_breakOf_43 (by decide) (fun c43a => ?_) (fun c43a => ?_)
        · refine Go_iinc (pc := 50) (L' := [some (.inr 7), some (.inl s), some (.inl 1), some (.inl 8), some (.inl 1)]) dX3_breakOf_50 rfl (by decide) rfl ?_
          refine Go_iinc (pc := 53) (L' := [some (.inr 7), some (.inl s), some (.inl 1), some (.inl 8), some (.inl 2)]) dX3_breakOf_53 rfl (by decide) rfl ?_
          refine Go_goto (pc := 56) (tgt := 11) dX3_breakOf_56 (by decide) ?_
          refine Go_iload (pc := 11) dX3_breakOf_11 rfl ?_
          refine Go_iload_n (pc := 13) dX3_breakOf_13 rfl rfl ?_
          refine Go_invS (pc := 14) (y := yX3_numbersOf) (avs := [.inl 1]) (rest := [.inl 2]) (x := .inl 2)  (d' := d - 1) dX3_breakOf_14 ln_X3_71 mo_X3_numbersOf so_X3_numbersOf rfl rfl rfl (Nat.le_of_ble_eq_true rfl) (by omega) (Nat.le_of_ble_eq_true rfl) rfl (s_X3_numbersOf_1 (by omega)) ?_
          refine Go_icmp_ge (pc := 17) (tgt := 59) dX3_breakOf_17 (by decide) (by decide) (by decide) (fun _ => ?_) (fun q => absurd q (by decide))
          refine Go_aload_n (pc := 59) dX3_breakOf_59 rfl (by decide) rfl ?_
          refine Go_iload_n (pc := 60) dX3_breakOf_60 rfl rfl ?_
          refine Go_iload_n (pc := 61) dX3_breakOf_61 rfl rfl ?_
          refine Go_iadd (pc := 62) dX3_breakOf_62 ?_
          refine Go_invV (pc := 63) (y := yX5_at) (avs := [.inl (s + 8)]) (k := 7) (rest := []) (x := .inl (cT (M 8) (M 7 1) (s + 8)))  (d' := d - 1) dX3_breakOf_63 ln_X3_78 mo_X5_at vo_X5_at rfl (rc_7) rfl rfl (Nat.le_of_ble_eq_true rfl) (by omega) (Nat.le_of_ble_eq_true rfl) rfl (s_X5_at (by omega) h (by omega)) ?_
          refine Go_bipush (pc := 66) dX3_breakOf_66 (by decide) (by decide) ?_
          refine Go_icmp_ne (pc := 68) (tgt := 75) dX3_breakOf_68 (by decide) (by omega) (by decide) (fun c68 => ?_) (fun c68 => ?_)
          · refine Go_iload_n (pc := 75) dX3_breakOf_75 rfl rfl ?_
            exact Go_ireturn (pc := 76) dX3_breakOf_76 rfl (by unfold br24; (repeat' split) <;> first | rfl | (exfalso; omega)) rfl
          · refine Go_iconst (pc := 71) dX3_breakOf_71 ?_
            refine Go_goto (pc := 72) (tgt := 76) dX3_breakOf_72 (by decide) ?_
            exact Go_ireturn (pc := 76) dX3_breakOf_76 rfl (by unfold br24; (repeat' split) <;> first | rfl | (exfalso; omega)) rfl
        · refine Go_iload_n (pc := 46) dX3_breakOf_46 rfl rfl ?_
          refine Go_iconst (pc := 47) dX3_breakOf_47 ?_
          refine Go_iadd (pc := 48) dX3_breakOf_48 ?_
          exact Go_ireturn (pc := 49) dX3_breakOf_49 rfl (by unfold br24; (repeat' split) <;> first | rfl | (exfalso; omega)) rfl
      · refine Go_iload_n (pc := 32) dX3_breakOf_32 rfl rfl ?_
        exact Go_ireturn (pc := 33) dX3_breakOf_33 rfl (by unfold br24; (repeat' split) <;> first | rfl | (exfalso; omega)) rfl
    · refine Go_iload_n (pc := 46) dX3_breakOf_46 rfl rfl ?_
      refine Go_iconst (pc := 47) dX3_breakOf_47 ?_
      refine Go_iadd (pc := 48) dX3_breakOf_48 ?_
      exact Go_ireturn (pc := 49) dX3_breakOf_49 rfl (by unfold br24; (repeat' split) <;> first | rfl | (exfalso; omega)) rfl
  · refine Go_iload_n (pc := 32) dX3_breakOf_32 rfl rfl ?_
    exact Go_ireturn (pc := 33) dX3_breakOf_33 rfl (by unfold br24; (repeat' split) <;> first | rfl | (exfalso; omega)) rfl
theorem s_X3_breakOf_2 {d : Nat} (hd : 2 ≤ d) {s : Int} {M : gMem} (h : TxOk (M 8) (M 7 1)) (s0 : 0 ≤ s) (s1 : s ≤ M 7 1) : Go d RX3 cX3_breakOf 5 (some .int) 0 [some (.inr 7), some (.inl s), some (.inl 2), none, none] [] M (some (.inl (brF (M 8) (M 7 1) s 2))) M := by
  have hn := h.1
  rw [show brF (M 8) (M 7 1) s 2 = br15 (M 8) (M 7 1) s from rfl]
  have b4 := cT_b h (s + 4)
  have b5 := cT_b h (s + 5)
  have b6 := cT_b h (s + 6)
  have b7 := cT_b h (s + 7)
  have b8 := cT_b h (s + 8)
  refine Go_iload_n (pc := 0) dX3_breakOf_0 rfl rfl ?_
  refine Go_invS (pc := 1) (y := yX3_wordOf) (avs := [.inl 2]) (rest := []) (x := .inr 102)  (d' := d - 1) dX3_breakOf_1 ln_X3_48 mo_X3_wordOf so_X3_wordOf rfl rfl rfl (Nat.le_of_ble_eq_true rfl) (by omega) (Nat.le_of_ble_eq_true rfl) rfl (s_X3_wordOf_2 (by omega)) ?_
  refine Go_invV (pc := 4) (y := yJ0_length_8abf5) (avs := []) (k := 102) (rest := []) (x := .inl 5)  (d' := d - 1) dX3_breakOf_4 ln_X3_68 mo_J0_length_8abf5 vo_J0_length_8abf5 rfl (rc_s (i := 2) (by decide)) rfl rfl (Nat.le_of_ble_eq_true rfl) (by omega) (Nat.le_of_ble_eq_true rfl) rfl (s_J0_length_2 (by omega)) ?_
  refine Go_istore_n (pc := 7) (L' := [some (.inr 7), some (.inl s), some (.inl 2), some (.inl 5), none]) dX3_breakOf_7 rfl (by decide) rfl ?_
  refine Go_iconst (pc := 8) dX3_breakOf_8 ?_
  refine Go_istore (pc := 9) (L' := [some (.inr 7), some (.inl s), some (.inl 2), some (.inl 5), some (.inl 0)]) dX3_breakOf_9 (by decide) rfl ?_
  refine Go_iload (pc := 11) dX3_breakOf_11 rfl ?_
  refine Go_iload_n (pc := 13) dX3_breakOf_13 rfl rfl ?_
  refine Go_invS (pc := 14) (y := yX3_numbersOf) (avs := [.inl 2]) (rest := [.inl 0]) (x := .inl 1)  (d' := d - 1) dX3_breakOf_14 ln_X3_71 mo_X3_numbersOf so_X3_numbersOf rfl rfl rfl (Nat.le_of_ble_eq_true rfl) (by omega) (Nat.le_of_ble_eq_true rfl) rfl (s_X3_numbersOf_2 (by omega)) ?_
  refine Go_icmp_ge (pc := 17) (tgt := 59) dX3_breakOf_17 (by decide) (by decide) (by decide) (fun q => absurd q (by decide)) (fun _ => ?_)
  refine Go_aload_n (pc := 20) dX3_breakOf_20 rfl (by decide) rfl ?_
  refine Go_iload_n (pc := 21) dX3_breakOf_21 rfl rfl ?_
  refine Go_iload_n (pc := 22) dX3_breakOf_22 rfl rfl ?_
  refine Go_iadd (pc := 23) dX3_breakOf_23 ?_
  refine Go_invV (pc := 24) (y := yX5_at) (avs := [.inl (s + 5)]) (k := 7) (rest := []) (x := .inl (cT (M 8) (M 7 1) (s + 5)))  (d' := d - 1) dX3_breakOf_24 ln_X3_78 mo_X5_at vo_X5_at rfl (rc_7) rfl rfl (Nat.le_of_ble_eq_true rfl) (by omega) (Nat.le_of_ble_eq_true rfl) rfl (s_X5_at (by omega) h (by omega)) ?_
  refine Go_bipush (pc := 27) dX3_breakOf_27 (by decide) (by decide) ?_
  refine Go_icmp_eq (pc := 29) (tgt := 34) dX3_breakOf_29 (by decide) (by omega) (by decide) (fun c29 => ?_) (fun c29 => ?_)
  · refine Go_aload_n (pc := 34) dX3_breakOf_34 rfl (by decide) rfl ?_
    refine Go_iload_n (pc := 35) dX3_breakOf_35 rfl rfl ?_
    refine Go_iload_n (pc := 36) dX3_breakOf_36 rfl rfl ?_
    refine Go_iadd (pc := 37) dX3_breakOf_37 ?_
    refine Go_iconst (pc := 38) dX3_breakOf_38 ?_
    refine Go_iadd (pc := 39) dX3_breakOf_39 ?_
    refine Go_invV (pc := 40) (y := yX5_isDigit) (avs := [.inl ((s + 5) + 1)]) (k := 7) (rest := []) (x := .inl (b2i (dgP (M 8) (M 7 1) ((s + 5) + 1))))  (d' := d - 1) dX3_breakOf_40 ln_X3_82 mo_X5_isDigit vo_X5_isDigit rfl (rc_7) rfl rfl (Nat.le_of_ble_eq_true rfl) (by omega) (Nat.le_of_ble_eq_true rfl) rfl (s_X5_isDigit (by omega) h (by omega)) ?_
    refine Go_ifneB (pc := 43) (tgt := 50) dX3_breakOf_43 (by decide) (fun c43 => ?_) (fun c43 => ?_)
    · refine Go_iinc (pc := 50) (L' := [some (.inr 7), some (.inl s), some (.inl 2), some (.inl 7), some (.inl 0)]) dX3_breakOf_50 rfl (by decide) rfl ?_
      refine Go_iinc (pc := 53) (L' := [some (.inr 7), some (.inl s), some (.inl 2), some (.inl 7), some (.inl 1)]) dX3_breakOf_53 rfl (by decide) rfl ?_
      refine Go_goto (pc := 56) (tgt := 11) dX3_breakOf_56 (by decide) ?_
      refine Go_iload (pc := 11) dX3_breakOf_11 rfl ?_
      refine Go_iload_n (pc := 13) dX3_breakOf_13 rfl rfl ?_
      refine Go_invS (pc := 14) (y := yX3_numbersOf) (avs := [.inl 2]) (rest := [.inl 1]) (x := .inl 1)  (d' := d - 1) dX3_breakOf_14 ln_X3_71 mo_X3_numbersOf so_X3_numbersOf rfl rfl rfl (Nat.le_of_ble_eq_true rfl) (by omega) (Nat.le_of_ble_eq_true rfl) rfl (s_X3_numbersOf_2 (by omega)) ?_
      refine Go_icmp_ge (pc := 17) (tgt := 59) dX3_breakOf_17 (by decide) (by decide) (by decide) (fun _ => ?_) (fun q => absurd q (by decide))
      refine Go_aload_n (pc := 59) dX3_breakOf_59 rfl (by decide) rfl ?_
      refine Go_iload_n (pc := 60) dX3_breakOf_60 rfl rfl ?_
      refine Go_iload_n (pc := 61) dX3_breakOf_61 rfl rfl ?_
      refine Go_iadd (pc := 62) dX3_breakOf_62 ?_
      refine Go_invV (pc := 63) (y := yX5_at) (avs := [.inl (s + 7)]) (k := 7) (rest := []) (x := .inl (cT (M 8) (M 7 1) (s + 7)))  (d' := d - 1) dX3_breakOf_63 ln_X3_78 mo_X5_at vo_X5_at rfl (rc_7) rfl rfl (Nat.le_of_ble_eq_true rfl) (by omega) (Nat.le_of_ble_eq_true rfl) rfl (s_X5_at (by omega) h (by omega)) ?_
      refine Go_bipush (pc := 66) dX3_breakOf_66 (by decide) (by decide) ?_
      refine Go_icmp_ne (pc := 68) (tgt := 75) dX3_breakOf_68 (by decide) (by omega) (by decide) (fun c68 => ?_) (fun c68 => ?_)
      · refine Go_iload_n (pc := 75) dX3_breakOf_75 rfl rfl ?_
        exact Go_ireturn (pc := 76) dX3_breakOf_76 rfl (by unfold br15; (repeat' split) <;> first | rfl | (exfalso; omega)) rfl
      · refine Go_iconst (pc := 71) dX3_breakOf_71 ?_
        refine Go_goto (pc := 72) (tgt := 76) dX3_breakOf_72 (by decide) ?_
        exact Go_ireturn (pc := 76) dX3_breakOf_76 rfl (by unfold br15; (repeat' split) <;> first | rfl | (exfalso; omega)) rfl
    · refine Go_iload_n (pc := 46) dX3_breakOf_46 rfl rfl ?_
      refine Go_iconst (pc := 47) dX3_breakOf_47 ?_
      refine Go_iadd (pc := 48) dX3_breakOf_48 ?_
      exact Go_ireturn (pc := 49) dX3_breakOf_49 rfl (by unfold br15; (repeat' split) <;> first | rfl | (exfalso; omega)) rfl
  · refine Go_iload_n (pc := 32) dX3_breakOf_32 rfl rfl ?_
    exact Go_ireturn (pc := 33) dX3_breakOf_33 rfl (by unfold br15; (repeat' split) <;> first | rfl | (exfalso; omega)) rfl
theorem s_X3_breakOf_3 {d : Nat} (hd : 2 ≤ d) {s : Int} {M : gMem} (h : TxOk (M 8) (M 7 1)) (s0 : 0 ≤ s) (s1 : s ≤ M 7 1) : Go d RX3 cX3_breakOf 5 (some .int) 0 [some (.inr 7), some (.inl s), some (.inl 3), none, none] [] M (some (.inl (brF (M 8) (M 7 1) s 3))) M := by
  have hn := h.1
  rw [show brF (M 8) (M 7 1) s 3 = br24 (M 8) (M 7 1) s from rfl]
  have b4 := cT_b h (s + 4)
  have b5 := cT_b h (s + 5)
  have b6 := cT_b h (s + 6)
  have b7 := cT_b h (s + 7)
  have b8 := cT_b h (s + 8)
  refine Go_iload_n (pc := 0) dX3_breakOf_0 rfl rfl ?_
  refine Go_invS (pc := 1) (y := yX3_wordOf) (avs := [.inl 3]) (rest := []) (x := .inr 103)  (d' := d - 1) dX3_breakOf_1 ln_X3_48 mo_X3_wordOf so_X3_wordOf rfl rfl rfl (Nat.le_of_ble_eq_true rfl) (by omega) (Nat.le_of_ble_eq_true rfl) rfl (s_X3_wordOf_3 (by omega)) ?_
  refine Go_invV (pc := 4) (y := yJ0_length_8abf5) (avs := []) (k := 103) (rest := []) (x := .inl 4)  (d' := d - 1) dX3_breakOf_4 ln_X3_68 mo_J0_length_8abf5 vo_J0_length_8abf5 rfl (rc_s (i := 3) (by decide)) rfl rfl (Nat.le_of_ble_eq_true rfl) (by omega) (Nat.le_of_ble_eq_true rfl) rfl (s_J0_length_3 (by omega)) ?_
  refine Go_istore_n (pc := 7) (L' := [some (.inr 7), some (.inl s), some (.inl 3), some (.inl 4), none]) dX3_breakOf_7 rfl (by decide) rfl ?_
  refine Go_iconst (pc := 8) dX3_breakOf_8 ?_
  refine Go_istore (pc := 9) (L' := [some (.inr 7), some (.inl s), some (.inl 3), some (.inl 4), some (.inl 0)]) dX3_breakOf_9 (by decide) rfl ?_
  refine Go_iload (pc := 11) dX3_breakOf_11 rfl ?_
  refine Go_iload_n (pc := 13) dX3_breakOf_13 rfl rfl ?_
  refine Go_invS (pc := 14) (y := yX3_numbersOf) (avs := [.inl 3]) (rest := [.inl 0]) (x := .inl 2)  (d' := d - 1) dX3_breakOf_14 ln_X3_71 mo_X3_numbersOf so_X3_numbersOf rfl rfl rfl (Nat.le_of_ble_eq_true rfl) (by omega) (Nat.le_of_ble_eq_true rfl) rfl (s_X3_numbersOf_3 (by omega)) ?_
  refine Go_icmp_ge (pc := 17) (tgt := 59) dX3_breakOf_17 (by decide) (by decide) (by decide) (fun q => absurd q (by decide)) (fun _ => ?_)
  refine Go_aload_n (pc := 20) dX3_breakOf_20 rfl (by decide) rfl ?_
  refine Go_iload_n (pc := 21) dX3_breakOf_21 rfl rfl ?_
  refine Go_iload_n (pc := 22) dX3_breakOf_22 rfl rfl ?_
  refine Go_iadd (pc := 23) dX3_breakOf_23 ?_
  refine Go_invV (pc := 24) (y := yX5_at) (avs := [.inl (s + 4)]) (k := 7) (rest := []) (x := .inl (cT (M 8) (M 7 1) (s + 4)))  (d' := d - 1) dX3_breakOf_24 ln_X3_78 mo_X5_at vo_X5_at rfl (rc_7) rfl rfl (Nat.le_of_ble_eq_true rfl) (by omega) (Nat.le_of_ble_eq_true rfl) rfl (s_X5_at (by omega) h (by omega)) ?_
  refine Go_bipush (pc := 27) dX3_breakOf_27 (by decide) (by decide) ?_
  refine Go_icmp_eq (pc := 29) (tgt := 34) dX3_breakOf_29 (by decide) (by omega) (by decide) (fun c29 => ?_) (fun c29 => ?_)
  · refine Go_aload_n (pc := 34) dX3_breakOf_34 rfl (by decide) rfl ?_
    refine Go_iload_n (pc := 35) dX3_breakOf_35 rfl rfl ?_
    refine Go_iload_n (pc := 36) dX3_breakOf_36 rfl rfl ?_
    refine Go_iadd (pc := 37) dX3_breakOf_37 ?_
    refine Go_iconst (pc := 38) dX3_breakOf_38 ?_
    refine Go_iadd (pc := 39) dX3_breakOf_39 ?_
    refine Go_invV (pc := 40) (y := yX5_isDigit) (avs := [.inl ((s + 4) + 1)]) (k := 7) (rest := []) (x := .inl (b2i (dgP (M 8) (M 7 1) ((s + 4) + 1))))  (d' := d - 1) dX3_breakOf_40 ln_X3_82 mo_X5_isDigit vo_X5_isDigit rfl (rc_7) rfl rfl (Nat.le_of_ble_eq_true rfl) (by omega) (Nat.le_of_ble_eq_true rfl) rfl (s_X5_isDigit (by omega) h (by omega)) ?_
    refine Go_ifneB (pc := 43) (tgt := 50) dX3_breakOf_43 (by decide) (fun c43 => ?_) (fun c43 => ?_)
    · refine Go_iinc (pc := 50) (L' := [some (.inr 7), some (.inl s), some (.inl 3), some (.inl 6), some (.inl 0)]) dX3_breakOf_50 rfl (by decide) rfl ?_
      refine Go_iinc (pc := 53) (L' := [some (.inr 7), some (.inl s), some (.inl 3), some (.inl 6), some (.inl 1)]) dX3_breakOf_53 rfl (by decide) rfl ?_
      refine Go_goto (pc := 56) (tgt := 11) dX3_breakOf_56 (by decide) ?_
      refine Go_iload (pc := 11) dX3_breakOf_11 rfl ?_
      refine Go_iload_n (pc := 13) dX3_breakOf_13 rfl rfl ?_
      refine Go_invS (pc := 14) (y := yX3_numbersOf) (avs := [.inl 3]) (rest := [.inl 1]) (x := .inl 2)  (d' := d - 1) dX3_breakOf_14 ln_X3_71 mo_X3_numbersOf so_X3_numbersOf rfl rfl rfl (Nat.le_of_ble_eq_true rfl) (by omega) (Nat.le_of_ble_eq_true rfl) rfl (s_X3_numbersOf_3 (by omega)) ?_
      refine Go_icmp_ge (pc := 17) (tgt := 59) dX3_breakOf_17 (by decide) (by decide) (by decide) (fun q => absurd q (by decide)) (fun _ => ?_)
      refine Go_aload_n (pc := 20) dX3_breakOf_20 rfl (by decide) rfl ?_
      refine Go_iload_n (pc := 21) dX3_breakOf_21 rfl rfl ?_
      refine Go_iload_n (pc := 22) dX3_breakOf_22 rfl rfl ?_
      refine Go_iadd (pc := 23) dX3_breakOf_23 ?_
      refine Go_invV (pc := 24) (y := yX5_at) (avs := [.inl (s + 6)]) (k := 7) (rest := []) (x := .inl (cT (M 8) (M 7 1) (s + 6)))  (d' := d - 1) dX3_breakOf_24 ln_X3_78 mo_X5_at vo_X5_at rfl (rc_7) rfl rfl (Nat.le_of_ble_eq_true rfl) (by omega) (Nat.le_of_ble_eq_true rfl) rfl (s_X5_at (by omega) h (by omega)) ?_
      refine Go_bipush (pc := 27) dX3_breakOf_27 (by decide) (by decide) ?_
      refine Go_icmp_eq (pc := 29) (tgt := 34) dX3_breakOf_29 (by decide) (by omega) (by decide) (fun c29a => ?_) (fun c29a => ?_)
      · refine Go_aload_n (pc := 34) dX3_breakOf_34 rfl (by decide) rfl ?_
        refine Go_iload_n (pc := 35) dX3_breakOf_35 rfl rfl ?_
        refine Go_iload_n (pc := 36) dX3_breakOf_36 rfl rfl ?_
        refine Go_iadd (pc := 37) dX3_breakOf_37 ?_
        refine Go_iconst (pc := 38) dX3_breakOf_38 ?_
        refine Go_iadd (pc := 39) dX3_breakOf_39 ?_
        refine Go_invV (pc := 40) (y := yX5_isDigit) (avs := [.inl ((s + 6) + 1)]) (k := 7) (rest := []) (x := .inl (b2i (dgP (M 8) (M 7 1) ((s + 6) + 1))))  (d' := d - 1) dX3_breakOf_40 ln_X3_82 mo_X5_isDigit vo_X5_isDigit rfl (rc_7) rfl rfl (Nat.le_of_ble_eq_true rfl) (by omega) (Nat.le_of_ble_eq_true rfl) rfl (s_X5_isDigit (by omega) h (by omega)) ?_
        refine Go_ifneB (pc := 43) (tgt := 50) dX3_breakOf_43 (by decide) (fun c43a => ?_) (fun c43a => ?_)
        · refine Go_iinc (pc := 50) (L' := [some (.inr 7), some (.inl s), some (.inl 3), some (.inl 8), some (.inl 1)]) dX3_breakOf_50 rfl (by decide) rfl ?_
          refine Go_iinc (pc := 53) (L' := [some (.inr 7), some (.inl s), some (.inl 3), some (.inl 8), some (.inl 2)]) dX3_breakOf_53 rfl (by decide) rfl ?_
          refine Go_goto (pc := 56) (tgt := 11) dX3_breakOf_56 (by decide) ?_
          refine Go_iload (pc := 11) dX3_breakOf_11 rfl ?_
          refine Go_iload_n (pc := 13) dX3_breakOf_13 rfl rfl ?_
          refine Go_invS (pc := 14) (y := yX3_numbersOf) (avs := [.inl 3]) (rest := [.inl 2]) (x := .inl 2)  (d' := d - 1) dX3_breakOf_14 ln_X3_71 mo_X3_numbersOf so_X3_numbersOf rfl rfl rfl (Nat.le_of_ble_eq_true rfl) (by omega) (Nat.le_of_ble_eq_true rfl) rfl (s_X3_numbersOf_3 (by omega)) ?_
          refine Go_icmp_ge (pc := 17) (tgt := 59) dX3_breakOf_17 (by decide) (by decide) (by decide) (fun _ => ?_) (fun q => absurd q (by decide))
          refine Go_aload_n (pc := 59) dX3_breakOf_59 rfl (by decide) rfl ?_
          refine Go_iload_n (pc := 60) dX3_breakOf_60 rfl rfl ?_
          refine Go_iload_n (pc := 61) dX3_breakOf_61 rfl rfl ?_
          refine Go_iadd (pc := 62) dX3_breakOf_62 ?_
          refine Go_invV (pc := 63) (y := yX5_at) (avs := [.inl (s + 8)]) (k := 7) (rest := []) (x := .inl (cT (M 8) (M 7 1) (s + 8)))  (d' := d - 1) dX3_breakOf_63 ln_X3_78 mo_X5_at vo_X5_at rfl (rc_7) rfl rfl (Nat.le_of_ble_eq_true rfl) (by omega) (Nat.le_of_ble_eq_true rfl) rfl (s_X5_at (by omega) h (by omega)) ?_
          refine Go_bipush (pc := 66) dX3_breakOf_66 (by decide) (by decide) ?_
          refine Go_icmp_ne (pc := 68) (tgt := 75) dX3_breakOf_68 (by decide) (by omega) (by decide) (fun c68 => ?_) (fun c68 => ?_)
          · refine Go_iload_n (pc := 75) dX3_breakOf_75 rfl rfl ?_
            exact Go_ireturn (pc := 76) dX3_breakOf_76 rfl (by unfold br24; (repeat' split) <;> first | rfl | (exfalso; omega)) rfl
          · refine Go_iconst (pc := 71) dX3_breakOf_71 ?_
            refine Go_goto (pc := 72) (tgt := 76) dX3_breakOf_72 (by decide) ?_
            exact Go_ireturn (pc := 76) dX3_breakOf_76 rfl (by unfold br24; (repeat' split) <;> first | rfl | (exfalso; omega)) rfl
        · refine Go_iload_n (pc := 46) dX3_breakOf_46 rfl rfl ?_
          refine Go_iconst (pc := 47) dX3_breakOf_47 ?_
          refine Go_iadd (pc := 48) dX3_breakOf_48 ?_
          exact Go_ireturn (pc := 49) dX3_breakOf_49 rfl (by unfold br24; (repeat' split) <;> first | rfl | (exfalso; omega)) rfl
      · refine Go_iload_n (pc := 32) dX3_breakOf_32 rfl rfl ?_
        exact Go_ireturn (pc := 33) dX3_breakOf_33 rfl (by unfold br24; (repeat' split) <;> first | rfl | (exfalso; omega)) rfl
    · refine Go_iload_n (pc := 46) dX3_breakOf_46 rfl rfl ?_
      refine Go_iconst (pc := 47) dX3_breakOf_47 ?_
      refine Go_iadd (pc := 48) dX3_breakOf_48 ?_
      exact Go_ireturn (pc := 49) dX3_breakOf_49 rfl (by unfold br24; (repeat' split) <;> first | rfl | (exfalso; omega)) rfl
  · refine Go_iload_n (pc := 32) dX3_breakOf_32 rfl rfl ?_
    exact Go_ireturn (pc := 33) dX3_breakOf_33 rfl (by unfold br24; (repeat' split) <;> first | rfl | (exfalso; omega)) rfl
theorem s_X3_breakOf_4 {d : Nat} (hd : 2 ≤ d) {s : Int} {M : gMem} (h : TxOk (M 8) (M 7 1)) (s0 : 0 ≤ s) (s1 : s ≤ M 7 1) : Go d RX3 cX3_breakOf 5 (some .int) 0 [some (.inr 7), some (.inl s), some (.inl 4), none, none] [] M (some (.inl (brF (M 8) (M 7 1) s 4))) M := by
  have hn := h.1
  rw [show brF (M 8) (M 7 1) s 4 = br14 (M 8) (M 7 1) s from rfl]
  have b4 := cT_b h (s + 4)
  have b5 := cT_b h (s + 5)
  have b6 := cT_b h (s + 6)
  have b7 := cT_b h (s + 7)
  have b8 := cT_b h (s + 8)
  refine Go_iload_n (pc := 0) dX3_breakOf_0 rfl rfl ?_
  refine Go_invS (pc := 1) (y := yX3_wordOf) (avs := [.inl 4]) (rest := []) (x := .inr 104)  (d' := d - 1) dX3_breakOf_1 ln_X3_48 mo_X3_wordOf so_X3_wordOf rfl rfl rfl (Nat.le_of_ble_eq_true rfl) (by omega) (Nat.le_of_ble_eq_true rfl) rfl (s_X3_wordOf_4 (by omega)) ?_
  refine Go_invV (pc := 4) (y := yJ0_length_8abf5) (avs := []) (k := 104) (rest := []) (x := .inl 4)  (d' := d - 1) dX3_breakOf_4 ln_X3_68 mo_J0_length_8abf5 vo_J0_length_8abf5 rfl (rc_s (i := 4) (by decide)) rfl rfl (Nat.le_of_ble_eq_true rfl) (by omega) (Nat.le_of_ble_eq_true rfl) rfl (s_J0_length_4 (by omega)) ?_
  refine Go_istore_n (pc := 7) (L' := [some (.inr 7), some (.inl s), some (.inl 4), some (.inl 4), none]) dX3_breakOf_7 rfl (by decide) rfl ?_
  refine Go_iconst (pc := 8) dX3_breakOf_8 ?_
  refine Go_istore (pc := 9) (L' := [some (.inr 7), some (.inl s), some (.inl 4), some (.inl 4), some (.inl 0)]) dX3_breakOf_9 (by decide) rfl ?_
  refine Go_iload (pc := 11) dX3_breakOf_11 rfl ?_
  refine Go_iload_n (pc := 13) dX3_breakOf_13 rfl rfl ?_
  refine Go_invS (pc := 14) (y := yX3_numbersOf) (avs := [.inl 4]) (rest := [.inl 0]) (x := .inl 1)  (d' := d - 1) dX3_breakOf_14 ln_X3_71 mo_X3_numbersOf so_X3_numbersOf rfl rfl rfl (Nat.le_of_ble_eq_true rfl) (by omega) (Nat.le_of_ble_eq_true rfl) rfl (s_X3_numbersOf_4 (by omega)) ?_
  refine Go_icmp_ge (pc := 17) (tgt := 59) dX3_breakOf_17 (by decide) (by decide) (by decide) (fun q => absurd q (by decide)) (fun _ => ?_)
  refine Go_aload_n (pc := 20) dX3_breakOf_20 rfl (by decide) rfl ?_
  refine Go_iload_n (pc := 21) dX3_breakOf_21 rfl rfl ?_
  refine Go_iload_n (pc := 22) dX3_breakOf_22 rfl rfl ?_
  refine Go_iadd (pc := 23) dX3_breakOf_23 ?_
  refine Go_invV (pc := 24) (y := yX5_at) (avs := [.inl (s + 4)]) (k := 7) (rest := []) (x := .inl (cT (M 8) (M 7 1) (s + 4)))  (d' := d - 1) dX3_breakOf_24 ln_X3_78 mo_X5_at vo_X5_at rfl (rc_7) rfl rfl (Nat.le_of_ble_eq_true rfl) (by omega) (Nat.le_of_ble_eq_true rfl) rfl (s_X5_at (by omega) h (by omega)) ?_
  refine Go_bipush (pc := 27) dX3_breakOf_27 (by decide) (by decide) ?_
  refine Go_icmp_eq (pc := 29) (tgt := 34) dX3_breakOf_29 (by decide) (by omega) (by decide) (fun c29 => ?_) (fun c29 => ?_)
  · refine Go_aload_n (pc := 34) dX3_breakOf_34 rfl (by decide) rfl ?_
    refine Go_iload_n (pc := 35) dX3_breakOf_35 rfl rfl ?_
    refine Go_iload_n (pc := 36) dX3_breakOf_36 rfl rfl ?_
    refine Go_iadd (pc := 37) dX3_breakOf_37 ?_
    refine Go_iconst (pc := 38) dX3_breakOf_38 ?_
    refine Go_iadd (pc := 39) dX3_breakOf_39 ?_
    refine Go_invV (pc := 40) (y := yX5_isDigit) (avs := [.inl ((s + 4) + 1)]) (k := 7) (rest := []) (x := .inl (b2i (dgP (M 8) (M 7 1) ((s + 4) + 1))))  (d' := d - 1) dX3_breakOf_40 ln_X3_82 mo_X5_isDigit vo_X5_isDigit rfl (rc_7) rfl rfl (Nat.le_of_ble_eq_true rfl) (by omega) (Nat.le_of_ble_eq_true rfl) rfl (s_X5_isDigit (by omega) h (by omega)) ?_
    refine Go_ifneB (pc := 43) (tgt := 50) dX3_breakOf_43 (by decide) (fun c43 => ?_) (fun c43 => ?_)
    · refine Go_iinc (pc := 50) (L' := [some (.inr 7), some (.inl s), some (.inl 4), some (.inl 6), some (.inl 0)]) dX3_breakOf_50 rfl (by decide) rfl ?_
      refine Go_iinc (pc := 53) (L' := [some (.inr 7), some (.inl s), some (.inl 4), some (.inl 6), some (.inl 1)]) dX3_breakOf_53 rfl (by decide) rfl ?_
      refine Go_goto (pc := 56) (tgt := 11) dX3_breakOf_56 (by decide) ?_
      refine Go_iload (pc := 11) dX3_breakOf_11 rfl ?_
      refine Go_iload_n (pc := 13) dX3_breakOf_13 rfl rfl ?_
      refine Go_invS (pc := 14) (y := yX3_numbersOf) (avs := [.inl 4]) (rest := [.inl 1]) (x := .inl 1)  (d' := d - 1) dX3_breakOf_14 ln_X3_71 mo_X3_numbersOf so_X3_numbersOf rfl rfl rfl (Nat.le_of_ble_eq_true rfl) (by omega) (Nat.le_of_ble_eq_true rfl) rfl (s_X3_numbersOf_4 (by omega)) ?_
      refine Go_icmp_ge (pc := 17) (tgt := 59) dX3_breakOf_17 (by decide) (by decide) (by decide) (fun _ => ?_) (fun q => absurd q (by decide))
      refine Go_aload_n (pc := 59) dX3_breakOf_59 rfl (by decide) rfl ?_
      refine Go_iload_n (pc := 60) dX3_breakOf_60 rfl rfl ?_
      refine Go_iload_n (pc := 61) dX3_breakOf_61 rfl rfl ?_
      refine Go_iadd (pc := 62) dX3_breakOf_62 ?_
      refine Go_invV (pc := 63) (y := yX5_at) (avs := [.inl (s + 6)]) (k := 7) (rest := []) (x := .inl (cT (M 8) (M 7 1) (s + 6)))  (d' := d - 1) dX3_breakOf_63 ln_X3_78 mo_X5_at vo_X5_at rfl (rc_7) rfl rfl (Nat.le_of_ble_eq_true rfl) (by omega) (Nat.le_of_ble_eq_true rfl) rfl (s_X5_at (by omega) h (by omega)) ?_
      refine Go_bipush (pc := 66) dX3_breakOf_66 (by decide) (by decide) ?_
      refine Go_icmp_ne (pc := 68) (tgt := 75) dX3_breakOf_68 (by decide) (by omega) (by decide) (fun c68 => ?_) (fun c68 => ?_)
      · refine Go_iload_n (pc := 75) dX3_breakOf_75 rfl rfl ?_
        exact Go_ireturn (pc := 76) dX3_breakOf_76 rfl (by unfold br14; (repeat' split) <;> first | rfl | (exfalso; omega)) rfl
      · refine Go_iconst (pc := 71) dX3_breakOf_71 ?_
        refine Go_goto (pc := 72) (tgt := 76) dX3_breakOf_72 (by decide) ?_
        exact Go_ireturn (pc := 76) dX3_breakOf_76 rfl (by unfold br14; (repeat' split) <;> first | rfl | (exfalso; omega)) rfl
    · refine Go_iload_n (pc := 46) dX3_breakOf_46 rfl rfl ?_
      refine Go_iconst (pc := 47) dX3_breakOf_47 ?_
      refine Go_iadd (pc := 48) dX3_breakOf_48 ?_
      exact Go_ireturn (pc := 49) dX3_breakOf_49 rfl (by unfold br14; (repeat' split) <;> first | rfl | (exfalso; omega)) rfl
  · refine Go_iload_n (pc := 32) dX3_breakOf_32 rfl rfl ?_
    exact Go_ireturn (pc := 33) dX3_breakOf_33 rfl (by unfold br14; (repeat' split) <;> first | rfl | (exfalso; omega)) rfl
theorem s_X3_checkForm_ok_0 {d : Nat} (hd : 3 ≤ d) {p : Int} {M : gMem} (h : TxOk (M 8) (M 7 1)) (s0 : 0 ≤ p) (s1 : p ≤ M 7 1) (hp : M 9 0 = p) (hb : brF (M 8) (M 7 1) p 0 = -1) : Go d RX3 cX3_checkForm 4 (some .int) 0 [some (.inr 9), some (.inr 7), some (.inl 0), none] [] M (some (.inl 0)) M := by
  have b9 := brF_b (M 8) (M 7 1) p 0
  have z5 : brF (M 8) (M 7 1) p 5 = 0 := rfl
  subst hp
  refine Go_iload_n (pc := 0) dX3_checkForm_0 rfl rfl ?_
  refine Go_iconst (pc := 1) dX3_checkForm_1 ?_
  refine Go_icmp_ne (pc := 2) (tgt := 9) dX3_checkForm_2 (by decide) (by decide) (by decide) (fun _ => ?_) (fun q => absurd q (by decide))
  refine Go_aload_n (pc := 9) dX3_checkForm_9 rfl (by decide) rfl ?_
  refine Go_aload_n (pc := 10) dX3_checkForm_10 rfl (by decide) rfl ?_
  refine Go_geti (pc := 11) (z := M 9 0) dX3_checkForm_11 fo_X3_9 (by decide) rfl rfl (rfl) ?_
  refine Go_iload_n (pc := 14) dX3_checkForm_14 rfl rfl ?_
  refine Go_invS (pc := 15) (y := yX3_breakOf) (avs := [.inr 7, .inl (M 9 0), .inl 0]) (rest := []) (x := .inl (brF (M 8) (M 7 1) (M 9 0) 0))  (d' := d - 1) dX3_checkForm_15 ln_X3_74 mo_X3_breakOf so_X3_breakOf rfl rfl rfl (Nat.le_of_ble_eq_true rfl) (by omega) (Nat.le_of_ble_eq_true rfl) rfl (s_X3_breakOf_0 (by omega) h (by first | omega | (simp only [Nat.reduceAdd, setR_s]; omega) | (simp only [setR, Nat.reduceEqDiff, reduceIte]; omega)) (by first | omega | (simp only [Nat.reduceAdd, setR_s]; omega) | (simp only [setR, Nat.reduceEqDiff, reduceIte]; omega))) ?_
  refine Go_istore_n (pc := 18) (L' := [some (.inr 9), some (.inr 7), some (.inl 0), some (.inl (brF (M 8) (M 7 1) (M 9 0) 0))]) dX3_checkForm_18 rfl (by decide) rfl ?_
  refine Go_iload_n (pc := 19) dX3_checkForm_19 rfl rfl ?_
  refine Go_iconst (pc := 20) dX3_checkForm_20 ?_
  refine Go_icmp_ne (pc := 21) (tgt := 26) dX3_checkForm_21 (by decide) (by omega) (by decide) (fun c21 => ?_) (fun c21 => ?_)
  · exfalso; omega
  · refine Go_iconst (pc := 24) dX3_checkForm_24 ?_
    first | (exfalso; omega) | exact Go_ireturn (pc := 25) dX3_checkForm_25 rfl rfl rfl
theorem s_X3_checkForm_no_0 {d : Nat} (hd : 3 ≤ d) {p : Int} {M : gMem} (h : TxOk (M 8) (M 7 1)) (s0 : 0 ≤ p) (s1 : p ≤ M 7 1) (hp : M 9 0 = p) (hb : ¬ brF (M 8) (M 7 1) p 0 = -1) : Go d RX3 cX3_checkForm 4 (some .int) 0 [some (.inr 9), some (.inr 7), some (.inl 0), none] [] M (some (.inl 1)) (setR M 9 (updI (M 9) 2 (brF (M 8) (M 7 1) p 0))) := by
  have b9 := brF_b (M 8) (M 7 1) p 0
  have z5 : brF (M 8) (M 7 1) p 5 = 0 := rfl
  subst hp
  refine Go_iload_n (pc := 0) dX3_checkForm_0 rfl rfl ?_
  refine Go_iconst (pc := 1) dX3_checkForm_1 ?_
  refine Go_icmp_ne (pc := 2) (tgt := 9) dX3_checkForm_2 (by decide) (by decide) (by decide) (fun _ => ?_) (fun q => absurd q (by decide))
  refine Go_aload_n (pc := 9) dX3_checkForm_9 rfl (by decide) rfl ?_
  refine Go_aload_n (pc := 10) dX3_checkForm_10 rfl (by decide) rfl ?_
  refine Go_geti (pc := 11) (z := M 9 0) dX3_checkForm_11 fo_X3_9 (by decide) rfl rfl (rfl) ?_
  refine Go_iload_n (pc := 14) dX3_checkForm_14 rfl rfl ?_
  refine Go_invS (pc := 15) (y := yX3_breakOf) (avs := [.inr 7, .inl (M 9 0), .inl 0]) (rest := []) (x := .inl (brF (M 8) (M 7 1) (M 9 0) 0))  (d' := d - 1) dX3_checkForm_15 ln_X3_74 mo_X3_breakOf so_X3_breakOf rfl rfl rfl (Nat.le_of_ble_eq_true rfl) (by omega) (Nat.le_of_ble_eq_true rfl) rfl (s_X3_breakOf_0 (by omega) h (by first | omega | (simp only [Nat.reduceAdd, setR_s]; omega) | (simp only [setR, Nat.reduceEqDiff, reduceIte]; omega)) (by first | omega | (simp only [Nat.reduceAdd, setR_s]; omega) | (simp only [setR, Nat.reduceEqDiff, reduceIte]; omega))) ?_
  refine Go_istore_n (pc := 18) (L' := [some (.inr 9), some (.inr 7), some (.inl 0), some (.inl (brF (M 8) (M 7 1) (M 9 0) 0))]) dX3_checkForm_18 rfl (by decide) rfl ?_
  refine Go_iload_n (pc := 19) dX3_checkForm_19 rfl rfl ?_
  refine Go_iconst (pc := 20) dX3_checkForm_20 ?_
  refine Go_icmp_ne (pc := 21) (tgt := 26) dX3_checkForm_21 (by decide) (by omega) (by decide) (fun c21 => ?_) (fun c21 => ?_)
  · refine Go_aload_n (pc := 26) dX3_checkForm_26 rfl (by decide) rfl ?_
    refine Go_iload_n (pc := 27) dX3_checkForm_27 rfl rfl ?_
    refine Go_puti (pc := 28) dX3_checkForm_28 fw_X3_18 (by decide) rfl rfl ?_
    refine Go_M (M1 := setR M 9 (updI (M 9) 2 (brF (M 8) (M 7 1) (M 9 0) 0))) rfl ?_
    refine Go_iconst (pc := 31) dX3_checkForm_31 ?_
    first | (exfalso; omega) | exact Go_ireturn (pc := 32) dX3_checkForm_32 rfl rfl rfl
  · exfalso; omega
theorem s_X3_checkForm_ok_1 {d : Nat} (hd : 3 ≤ d) {p : Int} {M : gMem} (h : TxOk (M 8) (M 7 1)) (s0 : 0 ≤ p) (s1 : p ≤ M 7 1) (hp : M 9 0 = p) (hb : brF (M 8) (M 7 1) p 1 = -1) : Go d RX3 cX3_checkForm 4 (some .int) 0 [some (.inr 9), some (.inr 7), some (.inl 1), none] [] M (some (.inl 0)) M := by
  have b9 := brF_b (M 8) (M 7 1) p 1
  have z5 : brF (M 8) (M 7 1) p 5 = 0 := rfl
  subst hp
  refine Go_iload_n (pc := 0) dX3_checkForm_0 rfl rfl ?_
  refine Go_iconst (pc := 1) dX3_checkForm_1 ?_
  refine Go_icmp_ne (pc := 2) (tgt := 9) dX3_checkForm_2 (by decide) (by decide) (by decide) (fun _ => ?_) (fun q => absurd q (by decide))
  refine Go_aload_n (pc := 9) dX3_checkForm_9 rfl (by decide) rfl ?_
  refine Go_aload_n (pc := 10) dX3_checkForm_10 rfl (by decide) rfl ?_
  refine Go_geti (pc := 11) (z := M 9 0) dX3_checkForm_11 fo_X3_9 (by decide) rfl rfl (rfl) ?_
  refine Go_iload_n (pc := 14) dX3_checkForm_14 rfl rfl ?_
  refine Go_invS (pc := 15) (y := yX3_breakOf) (avs := [.inr 7, .inl (M 9 0), .inl 1]) (rest := []) (x := .inl (brF (M 8) (M 7 1) (M 9 0) 1))  (d' := d - 1) dX3_checkForm_15 ln_X3_74 mo_X3_breakOf so_X3_breakOf rfl rfl rfl (Nat.le_of_ble_eq_true rfl) (by omega) (Nat.le_of_ble_eq_true rfl) rfl (s_X3_breakOf_1 (by omega) h (by first | omega | (simp only [Nat.reduceAdd, setR_s]; omega) | (simp only [setR, Nat.reduceEqDiff, reduceIte]; omega)) (by first | omega | (simp only [Nat.reduceAdd, setR_s]; omega) | (simp only [setR, Nat.reduceEqDiff, reduceIte]; omega))) ?_
  refine Go_istore_n (pc := 18) (L' := [some (.inr 9), some (.inr 7), some (.inl 1), some (.inl (brF (M 8) (M 7 1) (M 9 0) 1))]) dX3_checkForm_18 rfl (by decide) rfl ?_
  refine Go_iload_n (pc := 19) dX3_checkForm_19 rfl rfl ?_
  refine Go_iconst (pc := 20) dX3_checkForm_20 ?_
  refine Go_icmp_ne (pc := 21) (tgt := 26) dX3_checkForm_21 (by decide) (by omega) (by decide) (fun c21 => ?_) (fun c21 => ?_)
  · exfalso; omega
  · refine Go_iconst (pc := 24) dX3_checkForm_24 ?_
    first | (exfalso; omega) | exact Go_ireturn (pc := 25) dX3_checkForm_25 rfl rfl rfl
theorem s_X3_checkForm_no_1 {d : Nat} (hd : 3 ≤ d) {p : Int} {M : gMem} (h : TxOk (M 8) (M 7 1)) (s0 : 0 ≤ p) (s1 : p ≤ M 7 1) (hp : M 9 0 = p) (hb : ¬ brF (M 8) (M 7 1) p 1 = -1) : Go d RX3 cX3_checkForm 4 (some .int) 0 [some (.inr 9), some (.inr 7), some (.inl 1), none] [] M (some (.inl 1)) (setR M 9 (updI (M 9) 2 (brF (M 8) (M 7 1) p 1))) := by
  have b9 := brF_b (M 8) (M 7 1) p 1
  have z5 : brF (M 8) (M 7 1) p 5 = 0 := rfl
  subst hp
  refine Go_iload_n (pc := 0) dX3_checkForm_0 rfl rfl ?_
  refine Go_iconst (pc := 1) dX3_checkForm_1 ?_
  refine Go_icmp_ne (pc := 2) (tgt := 9) dX3_checkForm_2 (by decide) (by decide) (by decide) (fun _ => ?_) (fun q => absurd q (by decide))
  refine Go_aload_n (pc := 9) dX3_checkForm_9 rfl (by decide) rfl ?_
  refine Go_aload_n (pc := 10) dX3_checkForm_10 rfl (by decide) rfl ?_
  refine Go_geti (pc := 11) (z := M 9 0) dX3_checkForm_11 fo_X3_9 (by decide) rfl rfl (rfl) ?_
  refine Go_iload_n (pc := 14) dX3_checkForm_14 rfl rfl ?_
  refine Go_invS (pc := 15) (y := yX3_breakOf) (avs := [.inr 7, .inl (M 9 0), .inl 1]) (rest := []) (x := .inl (brF (M 8) (M 7 1) (M 9 0) 1))  (d' := d - 1) dX3_checkForm_15 ln_X3_74 mo_X3_breakOf so_X3_breakOf rfl rfl rfl (Nat.le_of_ble_eq_true rfl) (by omega) (Nat.le_of_ble_eq_true rfl) rfl (s_X3_breakOf_1 (by omega) h (by first | omega | (simp only [Nat.reduceAdd, setR_s]; omega) | (simp only [setR, Nat.reduceEqDiff, reduceIte]; omega)) (by first | omega | (simp only [Nat.reduceAdd, setR_s]; omega) | (simp only [setR, Nat.reduceEqDiff, reduceIte]; omega))) ?_
  refine Go_istore_n (pc := 18) (L' := [some (.inr 9), some (.inr 7), some (.inl 1), some (.inl (brF (M 8) (M 7 1) (M 9 0) 1))]) dX3_checkForm_18 rfl (by decide) rfl ?_
  refine Go_iload_n (pc := 19) dX3_checkForm_19 rfl rfl ?_
  refine Go_iconst (pc := 20) dX3_checkForm_20 ?_
  refine Go_icmp_ne (pc := 21) (tgt := 26) dX3_checkForm_21 (by decide) (by omega) (by decide) (fun c21 => ?_) (fun c21 => ?_)
  · refine Go_aload_n (pc := 26) dX3_checkForm_26 rfl (by decide) rfl ?_
    refine Go_iload_n (pc := 27) dX3_checkForm_27 rfl rfl ?_
    refine Go_puti (pc := 28) dX3_checkForm_28 fw_X3_18 (by decide) rfl rfl ?_
    refine Go_M (M1 := setR M 9 (updI (M 9) 2 (brF (M 8) (M 7 1) (M 9 0) 1))) rfl ?_
    refine Go_iconst (pc := 31) dX3_checkForm_31 ?_
    first | (exfalso; omega) | exact Go_ireturn (pc := 32) dX3_checkForm_32 rfl rfl rfl
  · exfalso; omega
theorem s_X3_checkForm_ok_2 {d : Nat} (hd : 3 ≤ d) {p : Int} {M : gMem} (h : TxOk (M 8) (M 7 1)) (s0 : 0 ≤ p) (s1 : p ≤ M 7 1) (hp : M 9 0 = p) (hb : brF (M 8) (M 7 1) p 2 = -1) : Go d RX3 cX3_checkForm 4 (some .int) 0 [some (.inr 9), some (.inr 7), some (.inl 2), none] [] M (some (.inl 0)) M := by
  have b9 := brF_b (M 8) (M 7 1) p 2
  have z5 : brF (M 8) (M 7 1) p 5 = 0 := rfl
  subst hp
  refine Go_iload_n (pc := 0) dX3_checkForm_0 rfl rfl ?_
  refine Go_iconst (pc := 1) dX3_checkForm_1 ?_
  refine Go_icmp_ne (pc := 2) (tgt := 9) dX3_checkForm_2 (by decide) (by decide) (by decide) (fun _ => ?_) (fun q => absurd q (by decide))
  refine Go_aload_n (pc := 9) dX3_checkForm_9 rfl (by decide) rfl ?_
  refine Go_aload_n (pc := 10) dX3_checkForm_10 rfl (by decide) rfl ?_
  refine Go_geti (pc := 11) (z := M 9 0) dX3_checkForm_11 fo_X3_9 (by decide) rfl rfl (rfl) ?_
  refine Go_iload_n (pc := 14) dX3_checkForm_14 rfl rfl ?_
  refine Go_invS (pc := 15) (y := yX3_breakOf) (avs := [.inr 7, .inl (M 9 0), .inl 2]) (rest := []) (x := .inl (brF (M 8) (M 7 1) (M 9 0) 2))  (d' := d - 1) dX3_checkForm_15 ln_X3_74 mo_X3_breakOf so_X3_breakOf rfl rfl rfl (Nat.le_of_ble_eq_true rfl) (by omega) (Nat.le_of_ble_eq_true rfl) rfl (s_X3_breakOf_2 (by omega) h (by first | omega | (simp only [Nat.reduceAdd, setR_s]; omega) | (simp only [setR, Nat.reduceEqDiff, reduceIte]; omega)) (by first | omega | (simp only [Nat.reduceAdd, setR_s]; omega) | (simp only [setR, Nat.reduceEqDiff, reduceIte]; omega))) ?_
  refine Go_istore_n (pc := 18) (L' := [some (.inr 9), some (.inr 7), some (.inl 2), some (.inl (brF (M 8) (M 7 1) (M 9 0) 2))]) dX3_checkForm_18 rfl (by decide) rfl ?_
  refine Go_iload_n (pc := 19) dX3_checkForm_19 rfl rfl ?_
  refine Go_iconst (pc := 20) dX3_checkForm_20 ?_
  refine Go_icmp_ne (pc := 21) (tgt := 26) dX3_checkForm_21 (by decide) (by omega) (by decide) (fun c21 => ?_) (fun c21 => ?_)
  · exfalso; omega
  · refine Go_iconst (pc := 24) dX3_checkForm_24 ?_
    first | (exfalso; omega) | exact Go_ireturn (pc := 25) dX3_checkForm_25 rfl rfl rfl
theorem s_X3_checkForm_no_2 {d : Nat} (hd : 3 ≤ d) {p : Int} {M : gMem} (h : TxOk (M 8) (M 7 1)) (s0 : 0 ≤ p) (s1 : p ≤ M 7 1) (hp : M 9 0 = p) (hb : ¬ brF (M 8) (M 7 1) p 2 = -1) : Go d RX3 cX3_checkForm 4 (some .int) 0 [some (.inr 9), some (.inr 7), some (.inl 2), none] [] M (some (.inl 1)) (setR M 9 (updI (M 9) 2 (brF (M 8) (M 7 1) p 2))) := by
  have b9 := brF_b (M 8) (M 7 1) p 2
  have z5 : brF (M 8) (M 7 1) p 5 = 0 := rfl
  subst hp
  refine Go_iload_n (pc := 0) dX3_checkForm_0 rfl rfl ?_
  refine Go_iconst (pc := 1) dX3_checkForm_1 ?_
  refine Go_icmp_ne (pc := 2) (tgt := 9) dX3_checkForm_2 (by decide) (by decide) (by decide) (fun _ => ?_) (fun q => absurd q (by decide))
  refine Go_aload_n (pc := 9) dX3_checkForm_9 rfl (by decide) rfl ?_
  refine Go_aload_n (pc := 10) dX3_checkForm_10 rfl (by decide) rfl ?_
  refine Go_geti (pc := 11) (z := M 9 0) dX3_checkForm_11 fo_X3_9 (by decide) rfl rfl (rfl) ?_
  refine Go_iload_n (pc := 14) dX3_checkForm_14 rfl rfl ?_
  refine Go_invS (pc := 15) (y := yX3_breakOf) (avs := [.inr 7, .inl (M 9 0), .inl 2]) (rest := []) (x := .inl (brF (M 8) (M 7 1) (M 9 0) 2))  (d' := d - 1) dX3_checkForm_15 ln_X3_74 mo_X3_breakOf so_X3_breakOf rfl rfl rfl (Nat.le_of_ble_eq_true rfl) (by omega) (Nat.le_of_ble_eq_true rfl) rfl (s_X3_breakOf_2 (by omega) h (by first | omega | (simp only [Nat.reduceAdd, setR_s]; omega) | (simp only [setR, Nat.reduceEqDiff, reduceIte]; omega)) (by first | omega | (simp only [Nat.reduceAdd, setR_s]; omega) | (simp only [setR, Nat.reduceEqDiff, reduceIte]; omega))) ?_
  refine Go_istore_n (pc := 18) (L' := [some (.inr 9), some (.inr 7), some (.inl 2), some (.inl (brF (M 8) (M 7 1) (M 9 0) 2))]) dX3_checkForm_18 rfl (by decide) rfl ?_
  refine Go_iload_n (pc := 19) dX3_checkForm_19 rfl rfl ?_
  refine Go_iconst (pc := 20) dX3_checkForm_20 ?_
  refine Go_icmp_ne (pc := 21) (tgt := 26) dX3_checkForm_21 (by decide) (by omega) (by decide) (fun c21 => ?_) (fun c21 => ?_)
  · refine Go_aload_n (pc := 26) dX3_checkForm_26 rfl (by decide) rfl ?_
    refine Go_iload_n (pc := 27) dX3_checkForm_27 rfl rfl ?_
    refine Go_puti (pc := 28) dX3_checkForm_28 fw_X3_18 (by decide) rfl rfl ?_
    refine Go_M (M1 := setR M 9 (updI (M 9) 2 (brF (M 8) (M 7 1) (M 9 0) 2))) rfl ?_
    refine Go_iconst (pc := 31) dX3_checkForm_31 ?_
    first | (exfalso; omega) | exact Go_ireturn (pc := 32) dX3_checkForm_32 rfl rfl rfl
  · exfalso; omega
theorem s_X3_checkForm_ok_3 {d : Nat} (hd : 3 ≤ d) {p : Int} {M : gMem} (h : TxOk (M 8) (M 7 1)) (s0 : 0 ≤ p) (s1 : p ≤ M 7 1) (hp : M 9 0 = p) (hb : brF (M 8) (M 7 1) p 3 = -1) : Go d RX3 cX3_checkForm 4 (some .int) 0 [some (.inr 9), some (.inr 7), some (.inl 3), none] [] M (some (.inl 0)) M := by
  have b9 := brF_b (M 8) (M 7 1) p 3
  have z5 : brF (M 8) (M 7 1) p 5 = 0 := rfl
  subst hp
  refine Go_iload_n (pc := 0) dX3_checkForm_0 rfl rfl ?_
  refine Go_iconst (pc := 1) dX3_checkForm_1 ?_
  refine Go_icmp_ne (pc := 2) (tgt := 9) dX3_checkForm_2 (by decide) (by decide) (by decide) (fun _ => ?_) (fun q => absurd q (by decide))
  refine Go_aload_n (pc := 9) dX3_checkForm_9 rfl (by decide) rfl ?_
  refine Go_aload_n (pc := 10) dX3_checkForm_10 rfl (by decide) rfl ?_
  refine Go_geti (pc := 11) (z := M 9 0) dX3_checkForm_11 fo_X3_9 (by decide) rfl rfl (rfl) ?_
  refine Go_iload_n (pc := 14) dX3_checkForm_14 rfl rfl ?_
  refine Go_invS (pc := 15) (y := yX3_breakOf) (avs := [.inr 7, .inl (M 9 0), .inl 3]) (rest := []) (x := .inl (brF (M 8) (M 7 1) (M 9 0) 3))  (d' := d - 1) dX3_checkForm_15 ln_X3_74 mo_X3_breakOf so_X3_breakOf rfl rfl rfl (Nat.le_of_ble_eq_true rfl) (by omega) (Nat.le_of_ble_eq_true rfl) rfl (s_X3_breakOf_3 (by omega) h (by first | omega | (simp only [Nat.reduceAdd, setR_s]; omega) | (simp only [setR, Nat.reduceEqDiff, reduceIte]; omega)) (by first | omega | (simp only [Nat.reduceAdd, setR_s]; omega) | (simp only [setR, Nat.reduceEqDiff, reduceIte]; omega))) ?_
  refine Go_istore_n (pc := 18) (L' := [some (.inr 9), some (.inr 7), some (.inl 3), some (.inl (brF (M 8) (M 7 1) (M 9 0) 3))]) dX3_checkForm_18 rfl (by decide) rfl ?_
  refine Go_iload_n (pc := 19) dX3_checkForm_19 rfl rfl ?_
  refine Go_iconst (pc := 20) dX3_checkForm_20 ?_
  refine Go_icmp_ne (pc := 21) (tgt := 26) dX3_checkForm_21 (by decide) (by omega) (by decide) (fun c21 => ?_) (fun c21 => ?_)
  · exfalso; omega
  · refine Go_iconst (pc := 24) dX3_checkForm_24 ?_
    first | (exfalso; omega) | exact Go_ireturn (pc := 25) dX3_checkForm_25 rfl rfl rfl
theorem s_X3_checkForm_no_3 {d : Nat} (hd : 3 ≤ d) {p : Int} {M : gMem} (h : TxOk (M 8) (M 7 1)) (s0 : 0 ≤ p) (s1 : p ≤ M 7 1) (hp : M 9 0 = p) (hb : ¬ brF (M 8) (M 7 1) p 3 = -1) : Go d RX3 cX3_checkForm 4 (some .int) 0 [some (.inr 9), some (.inr 7), some (.inl 3), none] [] M (some (.inl 1)) (setR M 9 (updI (M 9) 2 (brF (M 8) (M 7 1) p 3))) := by
  have b9 := brF_b (M 8) (M 7 1) p 3
  have z5 : brF (M 8) (M 7 1) p 5 = 0 := rfl
  subst hp
  refine Go_iload_n (pc := 0) dX3_checkForm_0 rfl rfl ?_
  refine Go_iconst (pc := 1) dX3_checkForm_1 ?_
  refine Go_icmp_ne (pc := 2) (tgt := 9) dX3_checkForm_2 (by decide) (by decide) (by decide) (fun _ => ?_) (fun q => absurd q (by decide))
  refine Go_aload_n (pc := 9) dX3_checkForm_9 rfl (by decide) rfl ?_
  refine Go_aload_n (pc := 10) dX3_checkForm_10 rfl (by decide) rfl ?_
  refine Go_geti (pc := 11) (z := M 9 0) dX3_checkForm_11 fo_X3_9 (by decide) rfl rfl (rfl) ?_
  refine Go_iload_n (pc := 14) dX3_checkForm_14 rfl rfl ?_
  refine Go_invS (pc := 15) (y := yX3_breakOf) (avs := [.inr 7, .inl (M 9 0), .inl 3]) (rest := []) (x := .inl (brF (M 8) (M 7 1) (M 9 0) 3))  (d' := d - 1) dX3_checkForm_15 ln_X3_74 mo_X3_breakOf so_X3_breakOf rfl rfl rfl (Nat.le_of_ble_eq_true rfl) (by omega) (Nat.le_of_ble_eq_true rfl) rfl (s_X3_breakOf_3 (by omega) h (by first | omega | (simp only [Nat.reduceAdd, setR_s]; omega) | (simp only [setR, Nat.reduceEqDiff, reduceIte]; omega)) (by first | omega | (simp only [Nat.reduceAdd, setR_s]; omega) | (simp only [setR, Nat.reduceEqDiff, reduceIte]; omega))) ?_
  refine Go_istore_n (pc := 18) (L' := [some (.inr 9), some (.inr 7), some (.inl 3), some (.inl (brF (M 8) (M 7 1) (M 9 0) 3))]) dX3_checkForm_18 rfl (by decide) rfl ?_
  refine Go_iload_n (pc := 19) dX3_checkForm_19 rfl rfl ?_
  refine Go_iconst (pc := 20) dX3_checkForm_20 ?_
  refine Go_icmp_ne (pc := 21) (tgt := 26) dX3_checkForm_21 (by decide) (by omega) (by decide) (fun c21 => ?_) (fun c21 => ?_)
  · refine Go_aload_n (pc := 26) dX3_checkForm_26 rfl (by decide) rfl ?_
    refine Go_iload_n (pc := 27) dX3_checkForm_27 rfl rfl ?_
    refine Go_puti (pc := 28) dX3_checkForm_28 fw_X3_18 (by decide) rfl rfl ?_
    refine Go_M (M1 := setR M 9 (updI (M 9) 2 (brF (M 8) (M 7 1) (M 9 0) 3))) rfl ?_
    refine Go_iconst (pc := 31) dX3_checkForm_31 ?_
    first | (exfalso; omega) | exact Go_ireturn (pc := 32) dX3_checkForm_32 rfl rfl rfl
  · exfalso; omega
theorem s_X3_checkForm_ok_4 {d : Nat} (hd : 3 ≤ d) {p : Int} {M : gMem} (h : TxOk (M 8) (M 7 1)) (s0 : 0 ≤ p) (s1 : p ≤ M 7 1) (hp : M 9 0 = p) (hb : brF (M 8) (M 7 1) p 4 = -1) : Go d RX3 cX3_checkForm 4 (some .int) 0 [some (.inr 9), some (.inr 7), some (.inl 4), none] [] M (some (.inl 0)) M := by
  have b9 := brF_b (M 8) (M 7 1) p 4
  have z5 : brF (M 8) (M 7 1) p 5 = 0 := rfl
  subst hp
  refine Go_iload_n (pc := 0) dX3_checkForm_0 rfl rfl ?_
  refine Go_iconst (pc := 1) dX3_checkForm_1 ?_
  refine Go_icmp_ne (pc := 2) (tgt := 9) dX3_checkForm_2 (by decide) (by decide) (by decide) (fun _ => ?_) (fun q => absurd q (by decide))
  refine Go_aload_n (pc := 9) dX3_checkForm_9 rfl (by decide) rfl ?_
  refine Go_aload_n (pc := 10) dX3_checkForm_10 rfl (by decide) rfl ?_
  refine Go_geti (pc := 11) (z := M 9 0) dX3_checkForm_11 fo_X3_9 (by decide) rfl rfl (rfl) ?_
  refine Go_iload_n (pc := 14) dX3_checkForm_14 rfl rfl ?_
  refine Go_invS (pc := 15) (y := yX3_breakOf) (avs := [.inr 7, .inl (M 9 0), .inl 4]) (rest := []) (x := .inl (brF (M 8) (M 7 1) (M 9 0) 4))  (d' := d - 1) dX3_checkForm_15 ln_X3_74 mo_X3_breakOf so_X3_breakOf rfl rfl rfl (Nat.le_of_ble_eq_true rfl) (by omega) (Nat.le_of_ble_eq_true rfl) rfl (s_X3_breakOf_4 (by omega) h (by first | omega | (simp only [Nat.reduceAdd, setR_s]; omega) | (simp only [setR, Nat.reduceEqDiff, reduceIte]; omega)) (by first | omega | (simp only [Nat.reduceAdd, setR_s]; omega) | (simp only [setR, Nat.reduceEqDiff, reduceIte]; omega))) ?_
  refine Go_istore_n (pc := 18) (L' := [some (.inr 9), some (.inr 7), some (.inl 4), some (.inl (brF (M 8) (M 7 1) (M 9 0) 4))]) dX3_checkForm_18 rfl (by decide) rfl ?_
  refine Go_iload_n (pc := 19) dX3_checkForm_19 rfl rfl ?_
  refine Go_iconst (pc := 20) dX3_checkForm_20 ?_
  refine Go_icmp_ne (pc := 21) (tgt := 26) dX3_checkForm_21 (by decide) (by omega) (by decide) (fun c21 => ?_) (fun c21 => ?_)
  · exfalso; omega
  · refine Go_iconst (pc := 24) dX3_checkForm_24 ?_
    first | (exfalso; omega) | exact Go_ireturn (pc := 25) dX3_checkForm_25 rfl rfl rfl
theorem s_X3_checkForm_no_4 {d : Nat} (hd : 3 ≤ d) {p : Int} {M : gMem} (h : TxOk (M 8) (M 7 1)) (s0 : 0 ≤ p) (s1 : p ≤ M 7 1) (hp : M 9 0 = p) (hb : ¬ brF (M 8) (M 7 1) p 4 = -1) : Go d RX3 cX3_checkForm 4 (some .int) 0 [some (.inr 9), some (.inr 7), some (.inl 4), none] [] M (some (.inl 1)) (setR M 9 (updI (M 9) 2 (brF (M 8) (M 7 1) p 4))) := by
  have b9 := brF_b (M 8) (M 7 1) p 4
  have z5 : brF (M 8) (M 7 1) p 5 = 0 := rfl
  subst hp
  refine Go_iload_n (pc := 0) dX3_checkForm_0 rfl rfl ?_
  refine Go_iconst (pc := 1) dX3_checkForm_1 ?_
  refine Go_icmp_ne (pc := 2) (tgt := 9) dX3_checkForm_2 (by decide) (by decide) (by decide) (fun _ => ?_) (fun q => absurd q (by decide))
  refine Go_aload_n (pc := 9) dX3_checkForm_9 rfl (by decide) rfl ?_
  refine Go_aload_n (pc := 10) dX3_checkForm_10 rfl (by decide) rfl ?_
  refine Go_geti (pc := 11) (z := M 9 0) dX3_checkForm_11 fo_X3_9 (by decide) rfl rfl (rfl) ?_
  refine Go_iload_n (pc := 14) dX3_checkForm_14 rfl rfl ?_
  refine Go_invS (pc := 15) (y := yX3_breakOf) (avs := [.inr 7, .inl (M 9 0), .inl 4]) (rest := []) (x := .inl (brF (M 8) (M 7 1) (M 9 0) 4))  (d' := d - 1) dX3_checkForm_15 ln_X3_74 mo_X3_breakOf so_X3_breakOf rfl rfl rfl (Nat.le_of_ble_eq_true rfl) (by omega) (Nat.le_of_ble_eq_true rfl) rfl (s_X3_breakOf_4 (by omega) h (by first | omega | (simp only [Nat.reduceAdd, setR_s]; omega) | (simp only [setR, Nat.reduceEqDiff, reduceIte]; omega)) (by first | omega | (simp only [Nat.reduceAdd, setR_s]; omega) | (simp only [setR, Nat.reduceEqDiff, reduceIte]; omega))) ?_
  refine Go_istore_n (pc := 18) (L' := [some (.inr 9), some (.inr 7), some (.inl 4), some (.inl (brF (M 8) (M 7 1) (M 9 0) 4))]) dX3_checkForm_18 rfl (by decide) rfl ?_
  refine Go_iload_n (pc := 19) dX3_checkForm_19 rfl rfl ?_
  refine Go_iconst (pc := 20) dX3_checkForm_20 ?_
  refine Go_icmp_ne (pc := 21) (tgt := 26) dX3_checkForm_21 (by decide) (by omega) (by decide) (fun c21 => ?_) (fun c21 => ?_)
  · refine Go_aload_n (pc := 26) dX3_checkForm_26 rfl (by decide) rfl ?_
    refine Go_iload_n (pc := 27) dX3_checkForm_27 rfl rfl ?_
    refine Go_puti (pc := 28) dX3_checkForm_28 fw_X3_18 (by decide) rfl rfl ?_
    refine Go_M (M1 := setR M 9 (updI (M 9) 2 (brF (M 8) (M 7 1) (M 9 0) 4))) rfl ?_
    refine Go_iconst (pc := 31) dX3_checkForm_31 ?_
    first | (exfalso; omega) | exact Go_ireturn (pc := 32) dX3_checkForm_32 rfl rfl rfl
  · exfalso; omega
theorem s_X3_checkForm_ok_5 {d : Nat} (hd : 3 ≤ d) {p : Int} {M : gMem} (h : TxOk (M 8) (M 7 1)) (s0 : 0 ≤ p) (s1 : p ≤ M 7 1) (hp : M 9 0 = p) (hb : brF (M 8) (M 7 1) p 5 = -1) : Go d RX3 cX3_checkForm 4 (some .int) 0 [some (.inr 9), some (.inr 7), some (.inl 5), none] [] M (some (.inl 0)) M := by
  have b9 := brF_b (M 8) (M 7 1) p 5
  have z5 : brF (M 8) (M 7 1) p 5 = 0 := rfl
  subst hp
  refine Go_iload_n (pc := 0) dX3_checkForm_0 rfl rfl ?_
  refine Go_iconst (pc := 1) dX3_checkForm_1 ?_
  refine Go_icmp_ne (pc := 2) (tgt := 9) dX3_checkForm_2 (by decide) (by decide) (by decide) (fun q => absurd q (by decide)) (fun _ => ?_)
  refine Go_iconst (pc := 5) dX3_checkForm_5 ?_
  refine Go_goto (pc := 6) (tgt := 18) dX3_checkForm_6 (by decide) ?_
  refine Go_istore_n (pc := 18) (L' := [some (.inr 9), some (.inr 7), some (.inl 5), some (.inl 0)]) dX3_checkForm_18 rfl (by decide) rfl ?_
  refine Go_iload_n (pc := 19) dX3_checkForm_19 rfl rfl ?_
  refine Go_iconst (pc := 20) dX3_checkForm_20 ?_
  refine Go_icmp_ne (pc := 21) (tgt := 26) dX3_checkForm_21 (by decide) (by decide) (by decide) (fun _ => ?_) (fun q => absurd q (by decide))
  exfalso; omega
theorem s_X3_checkForm_no_5 {d : Nat} (hd : 3 ≤ d) {p : Int} {M : gMem} (h : TxOk (M 8) (M 7 1)) (s0 : 0 ≤ p) (s1 : p ≤ M 7 1) (hp : M 9 0 = p) (hb : ¬ brF (M 8) (M 7 1) p 5 = -1) : Go d RX3 cX3_checkForm 4 (some .int) 0 [some (.inr 9), some (.inr 7), some (.inl 5), none] [] M (some (.inl 1)) (setR M 9 (updI (M 9) 2 (brF (M 8) (M 7 1) p 5))) := by
  have b9 := brF_b (M 8) (M 7 1) p 5
  have z5 : brF (M 8) (M 7 1) p 5 = 0 := rfl
  subst hp
  refine Go_iload_n (pc := 0) dX3_checkForm_0 rfl rfl ?_
  refine Go_iconst (pc := 1) dX3_checkForm_1 ?_
  refine Go_icmp_ne (pc := 2) (tgt := 9) dX3_checkForm_2 (by decide) (by decide) (by decide) (fun q => absurd q (by decide)) (fun _ => ?_)
  refine Go_iconst (pc := 5) dX3_checkForm_5 ?_
  refine Go_goto (pc := 6) (tgt := 18) dX3_checkForm_6 (by decide) ?_
  refine Go_istore_n (pc := 18) (L' := [some (.inr 9), some (.inr 7), some (.inl 5), some (.inl 0)]) dX3_checkForm_18 rfl (by decide) rfl ?_
  refine Go_iload_n (pc := 19) dX3_checkForm_19 rfl rfl ?_
  refine Go_iconst (pc := 20) dX3_checkForm_20 ?_
  refine Go_icmp_ne (pc := 21) (tgt := 26) dX3_checkForm_21 (by decide) (by decide) (by decide) (fun _ => ?_) (fun q => absurd q (by decide))
  refine Go_aload_n (pc := 26) dX3_checkForm_26 rfl (by decide) rfl ?_
  refine Go_iload_n (pc := 27) dX3_checkForm_27 rfl rfl ?_
  refine Go_puti (pc := 28) dX3_checkForm_28 fw_X3_18 (by decide) rfl rfl ?_
  refine Go_M (M1 := setR M 9 (updI (M 9) 2 0)) rfl ?_
  refine Go_iconst (pc := 31) dX3_checkForm_31 ?_
  first | (exfalso; omega) | exact Go_ireturn (pc := 32) dX3_checkForm_32 rfl rfl rfl
def rsn (z : Int) : Int := if z = -1000001 then 2 else if z < 0 then 3 else 0
theorem s_X3_reasonOf {d : Nat} (hd : 1 ≤ d) {z : Int} {M : gMem} (hz : inR z) : Go d RX3 cX3_reasonOf 1 (some .int) 0 [some (.inl z)] [] M (some (.inl (rsn z))) M := by
  refine Go_iload_n (pc := 0) dX3_reasonOf_0 rfl rfl ?_
  refine Go_ldc (pc := 1) (n := -1000001) rfl kc_X3_105 dX3_reasonOf_1 ?_
  refine Go_icmp_ne (pc := 3) (tgt := 8) dX3_reasonOf_3 (by decide) (by omega) (by decide) (fun c3 => ?_) (fun c3 => ?_)
  · refine Go_iload_n (pc := 8) dX3_reasonOf_8 rfl rfl ?_
    refine Go_invSN (pc := 9) (y := yX7_isError) (avs := [.inl z]) (rest := []) (x := .inl (b2i (z < 0)))  (d' := d - 1) dX3_reasonOf_9 nk_X3_106 mo_X7_isError so_X7_isError rfl rfl rfl (Nat.le_of_ble_eq_true rfl) (by omega) (Nat.le_of_ble_eq_true rfl) rfl (s_X7_isError (by omega) (by omega)) ?_
    refine Go_ifeqB (pc := 12) (tgt := 19) dX3_reasonOf_12 (by decide) (fun c12 => ?_) (fun c12 => ?_)
    · refine Go_iconst (pc := 19) dX3_reasonOf_19 ?_
      exact Go_ireturn (pc := 20) dX3_reasonOf_20 rfl (by unfold rsn; (repeat' split) <;> first | rfl | (exfalso; omega)) rfl
    · refine Go_iconst (pc := 15) dX3_reasonOf_15 ?_
      refine Go_goto (pc := 16) (tgt := 20) dX3_reasonOf_16 (by decide) ?_
      exact Go_ireturn (pc := 20) dX3_reasonOf_20 rfl (by unfold rsn; (repeat' split) <;> first | rfl | (exfalso; omega)) rfl
  · refine Go_iconst (pc := 6) dX3_reasonOf_6 ?_
    exact Go_ireturn (pc := 7) dX3_reasonOf_7 rfl (by unfold rsn; (repeat' split) <;> first | rfl | (exfalso; omega)) rfl
def odA (f : Int → Int) (k a b : Int) : Int × (Int → Int) := if k = 0 then (pullB f a b, pullC f a b) else if k = 1 then (pullB f a (-b), pullC f a (-b)) else if k = 2 then untieR f a else if k = 3 then tellR f a b else passR f a
theorem odA_W {f : Int → Int} (h : Wf f) (k a b : Int) : Wf (odA f k a b).2 := by
  unfold odA
  (repeat' split)
  · exact (pullC_W h a b).1
  · exact (pullC_W h a (-b)).1
  · exact untieR_W h a
  · exact tellR_W h a b
  · exact passR_W h a
theorem odA_r {f : Int → Int} (h : Wf f) (k a b : Int) : inR (odA f k a b).1 := by
  unfold odA
  (repeat' split)
  · have := pullB_b f a b
    show inR (pullB f a b)
    omega
  · have := pullB_b f a (-b)
    show inR (pullB f a (-b))
    omega
  · exact untieR_r h a
  · exact tellR_r h a b
  · exact passR_r h a
theorem s_X3_doOrder_0 {d : Nat} (hd : 7 ≤ d) {p : Int} {M : gMem} (h : TxOk (M 8) (M 7 1)) (hW : Wf (M 4)) (s0 : 0 ≤ p) (s1 : p ≤ M 7 1) (hp : M 9 0 = p) : Go d RX3 cX3_doOrder 7 (some .int) 0 [some (.inr 9), some (.inr 7), some (.inr 3), some (.inl 0), none, none, none] [] M (some (.inl ((odA (M 4) 0 (dgV (M 8) (M 7 1) (p + 4 + 1)) (dgV (M 8) (M 7 1) (p + 4 + 3))).1))) (setR M 4 (odA (M 4) 0 (dgV (M 8) (M 7 1) (p + 4 + 1)) (dgV (M 8) (M 7 1) (p + 4 + 3))).2) := by
  have hn := h.1
  subst hp
  have d1 := dgV_b (M 8) (M 7 1) (M 9 0 + 4 + 1)
  have d3 := dgV_b (M 8) (M 7 1) (M 9 0 + 4 + 3)
  refine Go_aload_n (pc := 0) dX3_doOrder_0 rfl (by decide) rfl ?_
  refine Go_geti (pc := 1) (z := M 9 0) dX3_doOrder_1 fo_X3_9 (by decide) rfl rfl (rfl) ?_
  refine Go_iload_n (pc := 4) dX3_doOrder_4 rfl rfl ?_
  refine Go_invS (pc := 5) (y := yX3_wordOf) (avs := [.inl 0]) (rest := [.inl (M 9 0)]) (x := .inr 100)  (d' := d - 1) dX3_doOrder_5 ln_X3_48 mo_X3_wordOf so_X3_wordOf rfl rfl rfl (Nat.le_of_ble_eq_true rfl) (by omega) (Nat.le_of_ble_eq_true rfl) rfl (s_X3_wordOf_0 (by omega)) ?_
  refine Go_invV (pc := 8) (y := yJ0_length_8abf5) (avs := []) (k := 100) (rest := [.inl (M 9 0)]) (x := .inl 4)  (d' := d - 1) dX3_doOrder_8 ln_X3_68 mo_J0_length_8abf5 vo_J0_length_8abf5 rfl (rc_s (i := 0) (by decide)) rfl rfl (Nat.le_of_ble_eq_true rfl) (by omega) (Nat.le_of_ble_eq_true rfl) rfl (s_J0_length_0 (by omega)) ?_
  refine Go_iadd (pc := 11) dX3_doOrder_11 ?_
  refine Go_istore (pc := 12) (L' := [some (.inr 9), some (.inr 7), some (.inr 3), some (.inl 0), some (.inl ((M 9 0) + 4)), none, none]) dX3_doOrder_12 (by decide) rfl ?_
  refine Go_aload_n (pc := 14) dX3_doOrder_14 rfl (by decide) rfl ?_
  refine Go_iload (pc := 15) dX3_doOrder_15 rfl ?_
  refine Go_iconst (pc := 17) dX3_doOrder_17 ?_
  refine Go_iadd (pc := 18) dX3_doOrder_18 ?_
  refine Go_invV (pc := 19) (y := yX5_digit) (avs := [.inl (((M 9 0) + 4) + 1)]) (k := 7) (rest := []) (x := .inl (dgV (M 8) (M 7 1) (((M 9 0) + 4) + 1)))  (d' := d - 1) dX3_doOrder_19 ln_X3_86 mo_X5_digit vo_X5_digit rfl (rc_7) rfl rfl (Nat.le_of_ble_eq_true rfl) (by omega) (Nat.le_of_ble_eq_true rfl) rfl (s_X5_digit (by omega) h (by omega)) ?_
  refine Go_istore (pc := 22) (L' := [some (.inr 9), some (.inr 7), some (.inr 3), some (.inl 0), some (.inl ((M 9 0) + 4)), some (.inl (dgV (M 8) (M 7 1) (((M 9 0) + 4) + 1))), none]) dX3_doOrder_22 (by decide) rfl ?_
  refine Go_aload_n (pc := 24) dX3_doOrder_24 rfl (by decide) rfl ?_
  refine Go_iload (pc := 25) dX3_doOrder_25 rfl ?_
  refine Go_iconst (pc := 27) dX3_doOrder_27 ?_
  refine Go_iadd (pc := 28) dX3_doOrder_28 ?_
  refine Go_invV (pc := 29) (y := yX5_digit) (avs := [.inl (((M 9 0) + 4) + 3)]) (k := 7) (rest := []) (x := .inl (dgV (M 8) (M 7 1) (((M 9 0) + 4) + 3)))  (d' := d - 1) dX3_doOrder_29 ln_X3_86 mo_X5_digit vo_X5_digit rfl (rc_7) rfl rfl (Nat.le_of_ble_eq_true rfl) (by omega) (Nat.le_of_ble_eq_true rfl) rfl (s_X5_digit (by omega) h (by omega)) ?_
  refine Go_istore (pc := 32) (L' := [some (.inr 9), some (.inr 7), some (.inr 3), some (.inl 0), some (.inl ((M 9 0) + 4)), some (.inl (dgV (M 8) (M 7 1) (((M 9 0) + 4) + 1))), some (.inl (dgV (M 8) (M 7 1) (((M 9 0) + 4) + 3)))]) dX3_doOrder_32 (by decide) rfl ?_
  refine Go_iload_n (pc := 34) dX3_doOrder_34 rfl rfl ?_
  refine Go_tsIn (pc := 35) (tgt := 68) dX3_doOrder_35 (by decide) (by decide) (by decide) rfl (by decide) ?_
  refine Go_aload_n (pc := 68) dX3_doOrder_68 rfl (by decide) rfl ?_
  refine Go_iload (pc := 69) dX3_doOrder_69 rfl ?_
  refine Go_iload (pc := 71) dX3_doOrder_71 rfl ?_
  refine Go_invS (pc := 73) (y := yX6_pullBy) (avs := [.inr 3, .inl (dgV (M 8) (M 7 1) (((M 9 0) + 4) + 1)), .inl (dgV (M 8) (M 7 1) (((M 9 0) + 4) + 3))]) (rest := []) (x := .inl (pullB (M 4) (dgV (M 8) (M 7 1) (((M 9 0) + 4) + 1)) (dgV (M 8) (M 7 1) (((M 9 0) + 4) + 3)))) (M1 := setR M 4 (pullC (M 4) (dgV (M 8) (M 7 1) (((M 9 0) + 4) + 1)) (dgV (M 8) (M 7 1) (((M 9 0) + 4) + 3)))) (d' := d - 1) dX3_doOrder_73 ln_X3_89 mo_X6_pullBy so_X6_pullBy rfl rfl rfl (Nat.le_of_ble_eq_true rfl) (by omega) (Nat.le_of_ble_eq_true rfl) rfl (s_X6_pullBy (by omega) hW (by omega) (by omega)) ?_
  exact Go_ireturn (pc := 76) dX3_doOrder_76 rfl rfl rfl
theorem s_X3_doOrder_1 {d : Nat} (hd : 7 ≤ d) {p : Int} {M : gMem} (h : TxOk (M 8) (M 7 1)) (hW : Wf (M 4)) (s0 : 0 ≤ p) (s1 : p ≤ M 7 1) (hp : M 9 0 = p) : Go d RX3 cX3_doOrder 7 (some .int) 0 [some (.inr 9), some (.inr 7), some (.inr 3), some (.inl 1), none, none, none] [] M (some (.inl ((odA (M 4) 1 (dgV (M 8) (M 7 1) (p + 4 + 1)) (dgV (M 8) (M 7 1) (p + 4 + 3))).1))) (setR M 4 (odA (M 4) 1 (dgV (M 8) (M 7 1) (p + 4 + 1)) (dgV (M 8) (M 7 1) (p + 4 + 3))).2) := by
  have hn := h.1
  subst hp
  have d1 := dgV_b (M 8) (M 7 1) (M 9 0 + 4 + 1)
  have d3 := dgV_b (M 8) (M 7 1) (M 9 0 + 4 + 3)
  refine Go_aload_n (pc := 0) dX3_doOrder_0 rfl (by decide) rfl ?_
  refine Go_geti (pc := 1) (z := M 9 0) dX3_doOrder_1 fo_X3_9 (by decide) rfl rfl (rfl) ?_
  refine Go_iload_n (pc := 4) dX3_doOrder_4 rfl rfl ?_
  refine Go_invS (pc := 5) (y := yX3_wordOf) (avs := [.inl 1]) (rest := [.inl (M 9 0)]) (x := .inr 101)  (d' := d - 1) dX3_doOrder_5 ln_X3_48 mo_X3_wordOf so_X3_wordOf rfl rfl rfl (Nat.le_of_ble_eq_true rfl) (by omega) (Nat.le_of_ble_eq_true rfl) rfl (s_X3_wordOf_1 (by omega)) ?_
  refine Go_invV (pc := 8) (y := yJ0_length_8abf5) (avs := []) (k := 101) (rest := [.inl (M 9 0)]) (x := .inl 4)  (d' := d - 1) dX3_doOrder_8 ln_X3_68 mo_J0_length_8abf5 vo_J0_length_8abf5 rfl (rc_s (i := 1) (by decide)) rfl rfl (Nat.le_of_ble_eq_true rfl) (by omega) (Nat.le_of_ble_eq_true rfl) rfl (s_J0_length_1 (by omega)) ?_
  refine Go_iadd (pc := 11) dX3_doOrder_11 ?_
  refine Go_istore (pc := 12) (L' := [some (.inr 9), some (.inr 7), some (.inr 3), some (.inl 1), some (.inl ((M 9 0) + 4)), none, none]) dX3_doOrder_12 (by decide) rfl ?_
  refine Go_aload_n (pc := 14) dX3_doOrder_14 rfl (by decide) rfl ?_
  refine Go_iload (pc := 15) dX3_doOrder_15 rfl ?_
  refine Go_iconst (pc := 17) dX3_doOrder_17 ?_
  refine Go_iadd (pc := 18) dX3_doOrder_18 ?_
  refine Go_invV (pc := 19) (y := yX5_digit) (avs := [.inl (((M 9 0) + 4) + 1)]) (k := 7) (rest := []) (x := .inl (dgV (M 8) (M 7 1) (((M 9 0) + 4) + 1)))  (d' := d - 1) dX3_doOrder_19 ln_X3_86 mo_X5_digit vo_X5_digit rfl (rc_7) rfl rfl (Nat.le_of_ble_eq_true rfl) (by omega) (Nat.le_of_ble_eq_true rfl) rfl (s_X5_digit (by omega) h (by omega)) ?_
  refine Go_istore (pc := 22) (L' := [some (.inr 9), some (.inr 7), some (.inr 3), some (.inl 1), some (.inl ((M 9 0) + 4)), some (.inl (dgV (M 8) (M 7 1) (((M 9 0) + 4) + 1))), none]) dX3_doOrder_22 (by decide) rfl ?_
  refine Go_aload_n (pc := 24) dX3_doOrder_24 rfl (by decide) rfl ?_
  refine Go_iload (pc := 25) dX3_doOrder_25 rfl ?_
  refine Go_iconst (pc := 27) dX3_doOrder_27 ?_
  refine Go_iadd (pc := 28) dX3_doOrder_28 ?_
  refine Go_invV (pc := 29) (y := yX5_digit) (avs := [.inl (((M 9 0) + 4) + 3)]) (k := 7) (rest := []) (x := .inl (dgV (M 8) (M 7 1) (((M 9 0) + 4) + 3)))  (d' := d - 1) dX3_doOrder_29 ln_X3_86 mo_X5_digit vo_X5_digit rfl (rc_7) rfl rfl (Nat.le_of_ble_eq_true rfl) (by omega) (Nat.le_of_ble_eq_true rfl) rfl (s_X5_digit (by omega) h (by omega)) ?_
  refine Go_istore (pc := 32) (L' := [some (.inr 9), some (.inr 7), some (.inr 3), some (.inl 1), some (.inl ((M 9 0) + 4)), some (.inl (dgV (M 8) (M 7 1) (((M 9 0) + 4) + 1))), some (.inl (dgV (M 8) (M 7 1) (((M 9 0) + 4) + 3)))]) dX3_doOrder_32 (by decide) rfl ?_
  refine Go_iload_n (pc := 34) dX3_doOrder_34 rfl rfl ?_
  refine Go_tsIn (pc := 35) (tgt := 77) dX3_doOrder_35 (by decide) (by decide) (by decide) rfl (by decide) ?_
  refine Go_aload_n (pc := 77) dX3_doOrder_77 rfl (by decide) rfl ?_
  refine Go_iload (pc := 78) dX3_doOrder_78 rfl ?_
  refine Go_iload (pc := 80) dX3_doOrder_80 rfl ?_
  refine Go_ineg (pc := 82) dX3_doOrder_82 ?_
  refine Go_invS (pc := 83) (y := yX6_pullBy) (avs := [.inr 3, .inl (dgV (M 8) (M 7 1) (((M 9 0) + 4) + 1)), .inl (-(dgV (M 8) (M 7 1) (((M 9 0) + 4) + 3)))]) (rest := []) (x := .inl (pullB (M 4) (dgV (M 8) (M 7 1) (((M 9 0) + 4) + 1)) (-(dgV (M 8) (M 7 1) (((M 9 0) + 4) + 3))))) (M1 := setR M 4 (pullC (M 4) (dgV (M 8) (M 7 1) (((M 9 0) + 4) + 1)) (-(dgV (M 8) (M 7 1) (((M 9 0) + 4) + 3))))) (d' := d - 1) dX3_doOrder_83 ln_X3_89 mo_X6_pullBy so_X6_pullBy rfl rfl rfl (Nat.le_of_ble_eq_true rfl) (by omega) (Nat.le_of_ble_eq_true rfl) rfl (s_X6_pullBy (by omega) hW (by omega) (by omega)) ?_
  exact Go_ireturn (pc := 86) dX3_doOrder_86 rfl rfl rfl
theorem s_X3_doOrder_2 {d : Nat} (hd : 7 ≤ d) {p : Int} {M : gMem} (h : TxOk (M 8) (M 7 1)) (hW : Wf (M 4)) (s0 : 0 ≤ p) (s1 : p ≤ M 7 1) (hp : M 9 0 = p) : Go d RX3 cX3_doOrder 7 (some .int) 0 [some (.inr 9), some (.inr 7), some (.inr 3), some (.inl 2), none, none, none] [] M (some (.inl ((odA (M 4) 2 (dgV (M 8) (M 7 1) (p + 5 + 1)) (dgV (M 8) (M 7 1) (p + 5 + 3))).1))) (setR M 4 (odA (M 4) 2 (dgV (M 8) (M 7 1) (p + 5 + 1)) (dgV (M 8) (M 7 1) (p + 5 + 3))).2) := by
  have hn := h.1
  subst hp
  have d1 := dgV_b (M 8) (M 7 1) (M 9 0 + 5 + 1)
  have d3 := dgV_b (M 8) (M 7 1) (M 9 0 + 5 + 3)
  refine Go_aload_n (pc := 0) dX3_doOrder_0 rfl (by decide) rfl ?_
  refine Go_geti (pc := 1) (z := M 9 0) dX3_doOrder_1 fo_X3_9 (by decide) rfl rfl (rfl) ?_
  refine Go_iload_n (pc := 4) dX3_doOrder_4 rfl rfl ?_
  refine Go_invS (pc := 5) (y := yX3_wordOf) (avs := [.inl 2]) (rest := [.inl (M 9 0)]) (x := .inr 102)  (d' := d - 1) dX3_doOrder_5 ln_X3_48 mo_X3_wordOf so_X3_wordOf rfl rfl rfl (Nat.le_of_ble_eq_true rfl) (by omega) (Nat.le_of_ble_eq_true rfl) rfl (s_X3_wordOf_2 (by omega)) ?_
  refine Go_invV (pc := 8) (y := yJ0_length_8abf5) (avs := []) (k := 102) (rest := [.inl (M 9 0)]) (x := .inl 5)  (d' := d - 1) dX3_doOrder_8 ln_X3_68 mo_J0_length_8abf5 vo_J0_length_8abf5 rfl (rc_s (i := 2) (by decide)) rfl rfl (Nat.le_of_ble_eq_true rfl) (by omega) (Nat.le_of_ble_eq_true rfl) rfl (s_J0_length_2 (by omega)) ?_
  refine Go_iadd (pc := 11) dX3_doOrder_11 ?_
  refine Go_istore (pc := 12) (L' := [some (.inr 9), some (.inr 7), some (.inr 3), some (.inl 2), some (.inl ((M 9 0) + 5)), none, none]) dX3_doOrder_12 (by decide) rfl ?_
  refine Go_aload_n (pc := 14) dX3_doOrder_14 rfl (by decide) rfl ?_
  refine Go_iload (pc := 15) dX3_doOrder_15 rfl ?_
  refine Go_iconst (pc := 17) dX3_doOrder_17 ?_
  refine Go_iadd (pc := 18) dX3_doOrder_18 ?_
  refine Go_invV (pc := 19) (y := yX5_digit) (avs := [.inl (((M 9 0) + 5) + 1)]) (k := 7) (rest := []) (x := .inl (dgV (M 8) (M 7 1) (((M 9 0) + 5) + 1)))  (d' := d - 1) dX3_doOrder_19 ln_X3_86 mo_X5_digit vo_X5_digit rfl (rc_7) rfl rfl (Nat.le_of_ble_eq_true rfl) (by omega) (Nat.le_of_ble_eq_true rfl) rfl (s_X5_digit (by omega) h (by omega)) ?_
  refine Go_istore (pc := 22) (L' := [some (.inr 9), some (.inr 7), some (.inr 3), some (.inl 2), some (.inl ((M 9 0) + 5)), some (.inl (dgV (M 8) (M 7 1) (((M 9 0) + 5) + 1))), none]) dX3_doOrder_22 (by decide) rfl ?_
  refine Go_aload_n (pc := 24) dX3_doOrder_24 rfl (by decide) rfl ?_
  refine Go_iload (pc := 25) dX3_doOrder_25 rfl ?_
  refine Go_iconst (pc := 27) dX3_doOrder_27 ?_
  refine Go_iadd (pc := 28) dX3_doOrder_28 ?_
  refine Go_invV (pc := 29) (y := yX5_digit) (avs := [.inl (((M 9 0) + 5) + 3)]) (k := 7) (rest := []) (x := .inl (dgV (M 8) (M 7 1) (((M 9 0) + 5) + 3)))  (d' := d - 1) dX3_doOrder_29 ln_X3_86 mo_X5_digit vo_X5_digit rfl (rc_7) rfl rfl (Nat.le_of_ble_eq_true rfl) (by omega) (Nat.le_of_ble_eq_true rfl) rfl (s_X5_digit (by omega) h (by omega)) ?_
  refine Go_istore (pc := 32) (L' := [some (.inr 9), some (.inr 7), some (.inr 3), some (.inl 2), some (.inl ((M 9 0) + 5)), some (.inl (dgV (M 8) (M 7 1) (((M 9 0) + 5) + 1))), some (.inl (dgV (M 8) (M 7 1) (((M 9 0) + 5) + 3)))]) dX3_doOrder_32 (by decide) rfl ?_
  refine Go_iload_n (pc := 34) dX3_doOrder_34 rfl rfl ?_
  refine Go_tsIn (pc := 35) (tgt := 87) dX3_doOrder_35 (by decide) (by decide) (by decide) rfl (by decide) ?_
  refine Go_aload_n (pc := 87) dX3_doOrder_87 rfl (by decide) rfl ?_
  refine Go_iload (pc := 88) dX3_doOrder_88 rfl ?_
  refine Go_invS (pc := 90) (y := yX6_untieOnce) (avs := [.inr 3, .inl (dgV (M 8) (M 7 1) (((M 9 0) + 5) + 1))]) (rest := []) (x := .inl ((untieR (M 4) (dgV (M 8) (M 7 1) (((M 9 0) + 5) + 1))).1)) (M1 := setR M 4 ((untieR (M 4) (dgV (M 8) (M 7 1) (((M 9 0) + 5) + 1))).2)) (d' := d - 1) dX3_doOrder_90 ln_X3_95 mo_X6_untieOnce so_X6_untieOnce rfl rfl rfl (Nat.le_of_ble_eq_true rfl) (by omega) (Nat.le_of_ble_eq_true rfl) rfl (s_X6_untieOnce (by omega) hW (by omega)) ?_
  exact Go_ireturn (pc := 93) dX3_doOrder_93 rfl rfl rfl
theorem s_X3_doOrder_3 {d : Nat} (hd : 7 ≤ d) {p : Int} {M : gMem} (h : TxOk (M 8) (M 7 1)) (hW : Wf (M 4)) (s0 : 0 ≤ p) (s1 : p ≤ M 7 1) (hp : M 9 0 = p) : Go d RX3 cX3_doOrder 7 (some .int) 0 [some (.inr 9), some (.inr 7), some (.inr 3), some (.inl 3), none, none, none] [] M (some (.inl ((odA (M 4) 3 (dgV (M 8) (M 7 1) (p + 4 + 1)) (dgV (M 8) (M 7 1) (p + 4 + 3))).1))) (setR M 4 (odA (M 4) 3 (dgV (M 8) (M 7 1) (p + 4 + 1)) (dgV (M 8) (M 7 1) (p + 4 + 3))).2) := by
  have hn := h.1
  subst hp
  have d1 := dgV_b (M 8) (M 7 1) (M 9 0 + 4 + 1)
  have d3 := dgV_b (M 8) (M 7 1) (M 9 0 + 4 + 3)
  refine Go_aload_n (pc := 0) dX3_doOrder_0 rfl (by decide) rfl ?_
  refine Go_geti (pc := 1) (z := M 9 0) dX3_doOrder_1 fo_X3_9 (by decide) rfl rfl (rfl) ?_
  refine Go_iload_n (pc := 4) dX3_doOrder_4 rfl rfl ?_
  refine Go_invS (pc := 5) (y := yX3_wordOf) (avs := [.inl 3]) (rest := [.inl (M 9 0)]) (x := .inr 103)  (d' := d - 1) dX3_doOrder_5 ln_X3_48 mo_X3_wordOf so_X3_wordOf rfl rfl rfl (Nat.le_of_ble_eq_true rfl) (by omega) (Nat.le_of_ble_eq_true rfl) rfl (s_X3_wordOf_3 (by omega)) ?_
  refine Go_invV (pc := 8) (y := yJ0_length_8abf5) (avs := []) (k := 103) (rest := [.inl (M 9 0)]) (x := .inl 4)  (d' := d - 1) dX3_doOrder_8 ln_X3_68 mo_J0_length_8abf5 vo_J0_length_8abf5 rfl (rc_s (i := 3) (by decide)) rfl rfl (Nat.le_of_ble_eq_true rfl) (by omega) (Nat.le_of_ble_eq_true rfl) rfl (s_J0_length_3 (by omega)) ?_
  refine Go_iadd (pc := 11) dX3_doOrder_11 ?_
  refine Go_istore (pc := 12) (L' := [some (.inr 9), some (.inr 7), some (.inr 3), some (.inl 3), some (.inl ((M 9 0) + 4)), none, none]) dX3_doOrder_12 (by decide) rfl ?_
  refine Go_aload_n (pc := 14) dX3_doOrder_14 rfl (by decide) rfl ?_
  refine Go_iload (pc := 15) dX3_doOrder_15 rfl ?_
  refine Go_iconst (pc := 17) dX3_doOrder_17 ?_
  refine Go_iadd (pc := 18) dX3_doOrder_18 ?_
  refine Go_invV (pc := 19) (y := yX5_digit) (avs := [.inl (((M 9 0) + 4) + 1)]) (k := 7) (rest := []) (x := .inl (dgV (M 8) (M 7 1) (((M 9 0) + 4) + 1)))  (d' := d - 1) dX3_doOrder_19 ln_X3_86 mo_X5_digit vo_X5_digit rfl (rc_7) rfl rfl (Nat.le_of_ble_eq_true rfl) (by omega) (Nat.le_of_ble_eq_true rfl) rfl (s_X5_digit (by omega) h (by omega)) ?_
  refine Go_istore (pc := 22) (L' := [some (.inr 9), some (.inr 7), some (.inr 3), some (.inl 3), some (.inl ((M 9 0) + 4)), some (.inl (dgV (M 8) (M 7 1) (((M 9 0) + 4) + 1))), none]) dX3_doOrder_22 (by decide) rfl ?_
  refine Go_aload_n (pc := 24) dX3_doOrder_24 rfl (by decide) rfl ?_
  refine Go_iload (pc := 25) dX3_doOrder_25 rfl ?_
  refine Go_iconst (pc := 27) dX3_doOrder_27 ?_
  refine Go_iadd (pc := 28) dX3_doOrder_28 ?_
  refine Go_invV (pc := 29) (y := yX5_digit) (avs := [.inl (((M 9 0) + 4) + 3)]) (k := 7) (rest := []) (x := .inl (dgV (M 8) (M 7 1) (((M 9 0) + 4) + 3)))  (d' := d - 1) dX3_doOrder_29 ln_X3_86 mo_X5_digit vo_X5_digit rfl (rc_7) rfl rfl (Nat.le_of_ble_eq_true rfl) (by omega) (Nat.le_of_ble_eq_true rfl) rfl (s_X5_digit (by omega) h (by omega)) ?_
  refine Go_istore (pc := 32) (L' := [some (.inr 9), some (.inr 7), some (.inr 3), some (.inl 3), some (.inl ((M 9 0) + 4)), some (.inl (dgV (M 8) (M 7 1) (((M 9 0) + 4) + 1))), some (.inl (dgV (M 8) (M 7 1) (((M 9 0) + 4) + 3)))]) dX3_doOrder_32 (by decide) rfl ?_
  refine Go_iload_n (pc := 34) dX3_doOrder_34 rfl rfl ?_
  refine Go_tsIn (pc := 35) (tgt := 94) dX3_doOrder_35 (by decide) (by decide) (by decide) rfl (by decide) ?_
  refine Go_aload_n (pc := 94) dX3_doOrder_94 rfl (by decide) rfl ?_
  refine Go_iload (pc := 95) dX3_doOrder_95 rfl ?_
  refine Go_iload (pc := 97) dX3_doOrder_97 rfl ?_
  refine Go_invS (pc := 99) (y := yX6_tellHeight) (avs := [.inr 3, .inl (dgV (M 8) (M 7 1) (((M 9 0) + 4) + 1)), .inl (dgV (M 8) (M 7 1) (((M 9 0) + 4) + 3))]) (rest := []) (x := .inl ((tellR (M 4) (dgV (M 8) (M 7 1) (((M 9 0) + 4) + 1)) (dgV (M 8) (M 7 1) (((M 9 0) + 4) + 3))).1)) (M1 := setR M 4 ((tellR (M 4) (dgV (M 8) (M 7 1) (((M 9 0) + 4) + 1)) (dgV (M 8) (M 7 1) (((M 9 0) + 4) + 3))).2)) (d' := d - 1) dX3_doOrder_99 ln_X3_99 mo_X6_tellHeight so_X6_tellHeight rfl rfl rfl (Nat.le_of_ble_eq_true rfl) (by omega) (Nat.le_of_ble_eq_true rfl) rfl (s_X6_tellHeight (by omega) hW (by omega) (by omega)) ?_
  exact Go_ireturn (pc := 102) dX3_doOrder_102 rfl rfl rfl
theorem s_X3_doOrder_4 {d : Nat} (hd : 7 ≤ d) {p : Int} {M : gMem} (h : TxOk (M 8) (M 7 1)) (hW : Wf (M 4)) (s0 : 0 ≤ p) (s1 : p ≤ M 7 1) (hp : M 9 0 = p) : Go d RX3 cX3_doOrder 7 (some .int) 0 [some (.inr 9), some (.inr 7), some (.inr 3), some (.inl 4), none, none, none] [] M (some (.inl ((odA (M 4) 4 (dgV (M 8) (M 7 1) (p + 4 + 1)) (dgV (M 8) (M 7 1) (p + 4 + 3))).1))) (setR M 4 (odA (M 4) 4 (dgV (M 8) (M 7 1) (p + 4 + 1)) (dgV (M 8) (M 7 1) (p + 4 + 3))).2) := by
  have hn := h.1
  subst hp
  have d1 := dgV_b (M 8) (M 7 1) (M 9 0 + 4 + 1)
  have d3 := dgV_b (M 8) (M 7 1) (M 9 0 + 4 + 3)
  refine Go_aload_n (pc := 0) dX3_doOrder_0 rfl (by decide) rfl ?_
  refine Go_geti (pc := 1) (z := M 9 0) dX3_doOrder_1 fo_X3_9 (by decide) rfl rfl (rfl) ?_
  refine Go_iload_n (pc := 4) dX3_doOrder_4 rfl rfl ?_
  refine Go_invS (pc := 5) (y := yX3_wordOf) (avs := [.inl 4]) (rest := [.inl (M 9 0)]) (x := .inr 104)  (d' := d - 1) dX3_doOrder_5 ln_X3_48 mo_X3_wordOf so_X3_wordOf rfl rfl rfl (Nat.le_of_ble_eq_true rfl) (by omega) (Nat.le_of_ble_eq_true rfl) rfl (s_X3_wordOf_4 (by omega)) ?_
  refine Go_invV (pc := 8) (y := yJ0_length_8abf5) (avs := []) (k := 104) (rest := [.inl (M 9 0)]) (x := .inl 4)  (d' := d - 1) dX3_doOrder_8 ln_X3_68 mo_J0_length_8abf5 vo_J0_length_8abf5 rfl (rc_s (i := 4) (by decide)) rfl rfl (Nat.le_of_ble_eq_true rfl) (by omega) (Nat.le_of_ble_eq_true rfl) rfl (s_J0_length_4 (by omega)) ?_
  refine Go_iadd (pc := 11) dX3_doOrder_11 ?_
  refine Go_istore (pc := 12) (L' := [some (.inr 9), some (.inr 7), some (.inr 3), some (.inl 4), some (.inl ((M 9 0) + 4)), none, none]) dX3_doOrder_12 (by decide) rfl ?_
  refine Go_aload_n (pc := 14) dX3_doOrder_14 rfl (by decide) rfl ?_
  refine Go_iload (pc := 15) dX3_doOrder_15 rfl ?_
  refine Go_iconst (pc := 17) dX3_doOrder_17 ?_
  refine Go_iadd (pc := 18) dX3_doOrder_18 ?_
  refine Go_invV (pc := 19) (y := yX5_digit) (avs := [.inl (((M 9 0) + 4) + 1)]) (k := 7) (rest := []) (x := .inl (dgV (M 8) (M 7 1) (((M 9 0) + 4) + 1)))  (d' := d - 1) dX3_doOrder_19 ln_X3_86 mo_X5_digit vo_X5_digit rfl (rc_7) rfl rfl (Nat.le_of_ble_eq_true rfl) (by omega) (Nat.le_of_ble_eq_true rfl) rfl (s_X5_digit (by omega) h (by omega)) ?_
  refine Go_istore (pc := 22) (L' := [some (.inr 9), some (.inr 7), some (.inr 3), some (.inl 4), some (.inl ((M 9 0) + 4)), some (.inl (dgV (M 8) (M 7 1) (((M 9 0) + 4) + 1))), none]) dX3_doOrder_22 (by decide) rfl ?_
  refine Go_aload_n (pc := 24) dX3_doOrder_24 rfl (by decide) rfl ?_
  refine Go_iload (pc := 25) dX3_doOrder_25 rfl ?_
  refine Go_iconst (pc := 27) dX3_doOrder_27 ?_
  refine Go_iadd (pc := 28) dX3_doOrder_28 ?_
  refine Go_invV (pc := 29) (y := yX5_digit) (avs := [.inl (((M 9 0) + 4) + 3)]) (k := 7) (rest := []) (x := .inl (dgV (M 8) (M 7 1) (((M 9 0) + 4) + 3)))  (d' := d - 1) dX3_doOrder_29 ln_X3_86 mo_X5_digit vo_X5_digit rfl (rc_7) rfl rfl (Nat.le_of_ble_eq_true rfl) (by omega) (Nat.le_of_ble_eq_true rfl) rfl (s_X5_digit (by omega) h (by omega)) ?_
  refine Go_istore (pc := 32) (L' := [some (.inr 9), some (.inr 7), some (.inr 3), some (.inl 4), some (.inl ((M 9 0) + 4)), some (.inl (dgV (M 8) (M 7 1) (((M 9 0) + 4) + 1))), some (.inl (dgV (M 8) (M 7 1) (((M 9 0) + 4) + 3)))]) dX3_doOrder_32 (by decide) rfl ?_
  refine Go_iload_n (pc := 34) dX3_doOrder_34 rfl rfl ?_
  refine Go_tsIn (pc := 35) (tgt := 103) dX3_doOrder_35 (by decide) (by decide) (by decide) rfl (by decide) ?_
  refine Go_aload_n (pc := 103) dX3_doOrder_103 rfl (by decide) rfl ?_
  refine Go_iload (pc := 104) dX3_doOrder_104 rfl ?_
  refine Go_invS (pc := 106) (y := yX6_letHoursGo) (avs := [.inr 3, .inl (dgV (M 8) (M 7 1) (((M 9 0) + 4) + 1))]) (rest := []) (x := .inl ((passR (M 4) (dgV (M 8) (M 7 1) (((M 9 0) + 4) + 1))).1)) (M1 := setR M 4 ((passR (M 4) (dgV (M 8) (M 7 1) (((M 9 0) + 4) + 1))).2)) (d' := d - 1) dX3_doOrder_106 ln_X3_102 mo_X6_letHoursGo so_X6_letHoursGo rfl rfl rfl (Nat.le_of_ble_eq_true rfl) (by omega) (Nat.le_of_ble_eq_true rfl) rfl (s_X6_letHoursGo (by omega) hW (by omega)) ?_
  exact Go_ireturn (pc := 109) dX3_doOrder_109 rfl rfl rfl
