/-! the class: the parts of the search -/
theorem s_X2_at_11 {d : Nat} (hd : 0 ≤ d) {i : Int} {M : gMem} (h0 : 0 ≤ i) (h1 : i < 8) : Go d RX2 cX2_at 2 (some .int) 0 [some (.inr 11), some (.inl i)] [] M (some (.inl (M 11 i))) M := by
  refine Go_iload_n (pc := 0) dX2_at_0 rfl rfl ?_
  refine Go_if_lt (pc := 1) (tgt := 16) dX2_at_1 (by decide) (by omega) (fun c1 => ?_) (fun c1 => ?_)
  · refine Go_iconst (pc := 16) dX2_at_16 ?_
    first | (exfalso; omega) | exact Go_ireturn (pc := 17) dX2_at_17 rfl rfl rfl
  · refine Go_iload_n (pc := 4) dX2_at_4 rfl rfl ?_
    refine Go_aload_n (pc := 5) dX2_at_5 rfl (by decide) rfl ?_
    refine Go_alen (pc := 6) dX2_at_6 (by decide) rfl ?_
    refine Go_icmp_ge (pc := 7) (tgt := 16) dX2_at_7 (by decide) (by omega) (by decide) (fun c7 => ?_) (fun c7 => ?_)
    · refine Go_iconst (pc := 16) dX2_at_16 ?_
      first | (exfalso; omega) | exact Go_ireturn (pc := 17) dX2_at_17 rfl rfl rfl
    · refine Go_aload_n (pc := 10) dX2_at_10 rfl (by decide) rfl ?_
      refine Go_iload_n (pc := 11) dX2_at_11 rfl rfl ?_
      refine Go_iaload (pc := 12) (z := M 11 i) dX2_at_12 (by decide) rfl (by omega) (by omega) (rfl) ?_
      refine Go_goto (pc := 13) (tgt := 17) dX2_at_13 (by decide) ?_
      first | (exfalso; omega) | exact Go_ireturn (pc := 17) dX2_at_17 rfl rfl rfl
theorem s_X2_put_11 {d : Nat} (hd : 0 ≤ d) {i v : Int} {M : gMem} (h0 : 0 ≤ i) (h1 : i < 8) : Go d RX2 cX2_put 3 none 0 [some (.inr 11), some (.inl i), some (.inl v)] [] M none (setR M 11 (updI (M 11) i v)) := by
  refine Go_iload_n (pc := 0) dX2_put_0 rfl rfl ?_
  refine Go_if_lt (pc := 1) (tgt := 14) dX2_put_1 (by decide) (by omega) (fun c1 => ?_) (fun c1 => ?_)
  · first | (exfalso; omega) | exact Go_return (pc := 14) dX2_put_14 rfl rfl rfl
  · refine Go_iload_n (pc := 4) dX2_put_4 rfl rfl ?_
    refine Go_aload_n (pc := 5) dX2_put_5 rfl (by decide) rfl ?_
    refine Go_alen (pc := 6) dX2_put_6 (by decide) rfl ?_
    refine Go_icmp_ge (pc := 7) (tgt := 14) dX2_put_7 (by decide) (by omega) (by decide) (fun c7 => ?_) (fun c7 => ?_)
    · first | (exfalso; omega) | exact Go_return (pc := 14) dX2_put_14 rfl rfl rfl
    · refine Go_aload_n (pc := 10) dX2_put_10 rfl (by decide) rfl ?_
      refine Go_iload_n (pc := 11) dX2_put_11 rfl rfl ?_
      refine Go_iload_n (pc := 12) dX2_put_12 rfl rfl ?_
      refine Go_iastore (pc := 13) dX2_put_13 (by decide) rfl (by omega) (by omega) ?_
      refine Go_M (M1 := setR M 11 (updI (M 11) i v)) rfl ?_
      first | (exfalso; omega) | exact Go_return (pc := 14) dX2_put_14 rfl rfl rfl
theorem s_X2_at_12 {d : Nat} (hd : 0 ≤ d) {i : Int} {M : gMem} (h0 : 0 ≤ i) (h1 : i < 32) : Go d RX2 cX2_at 2 (some .int) 0 [some (.inr 12), some (.inl i)] [] M (some (.inl (M 12 i))) M := by
  refine Go_iload_n (pc := 0) dX2_at_0 rfl rfl ?_
  refine Go_if_lt (pc := 1) (tgt := 16) dX2_at_1 (by decide) (by omega) (fun c1 => ?_) (fun c1 => ?_)
  · refine Go_iconst (pc := 16) dX2_at_16 ?_
    first | (exfalso; omega) | exact Go_ireturn (pc := 17) dX2_at_17 rfl rfl rfl
  · refine Go_iload_n (pc := 4) dX2_at_4 rfl rfl ?_
    refine Go_aload_n (pc := 5) dX2_at_5 rfl (by decide) rfl ?_
    refine Go_alen (pc := 6) dX2_at_6 (by decide) rfl ?_
    refine Go_icmp_ge (pc := 7) (tgt := 16) dX2_at_7 (by decide) (by omega) (by decide) (fun c7 => ?_) (fun c7 => ?_)
    · refine Go_iconst (pc := 16) dX2_at_16 ?_
      first | (exfalso; omega) | exact Go_ireturn (pc := 17) dX2_at_17 rfl rfl rfl
    · refine Go_aload_n (pc := 10) dX2_at_10 rfl (by decide) rfl ?_
      refine Go_iload_n (pc := 11) dX2_at_11 rfl rfl ?_
      refine Go_iaload (pc := 12) (z := M 12 i) dX2_at_12 (by decide) rfl (by omega) (by omega) (rfl) ?_
      refine Go_goto (pc := 13) (tgt := 17) dX2_at_13 (by decide) ?_
      first | (exfalso; omega) | exact Go_ireturn (pc := 17) dX2_at_17 rfl rfl rfl
theorem s_X2_put_12 {d : Nat} (hd : 0 ≤ d) {i v : Int} {M : gMem} (h0 : 0 ≤ i) (h1 : i < 32) : Go d RX2 cX2_put 3 none 0 [some (.inr 12), some (.inl i), some (.inl v)] [] M none (setR M 12 (updI (M 12) i v)) := by
  refine Go_iload_n (pc := 0) dX2_put_0 rfl rfl ?_
  refine Go_if_lt (pc := 1) (tgt := 14) dX2_put_1 (by decide) (by omega) (fun c1 => ?_) (fun c1 => ?_)
  · first | (exfalso; omega) | exact Go_return (pc := 14) dX2_put_14 rfl rfl rfl
  · refine Go_iload_n (pc := 4) dX2_put_4 rfl rfl ?_
    refine Go_aload_n (pc := 5) dX2_put_5 rfl (by decide) rfl ?_
    refine Go_alen (pc := 6) dX2_put_6 (by decide) rfl ?_
    refine Go_icmp_ge (pc := 7) (tgt := 14) dX2_put_7 (by decide) (by omega) (by decide) (fun c7 => ?_) (fun c7 => ?_)
    · first | (exfalso; omega) | exact Go_return (pc := 14) dX2_put_14 rfl rfl rfl
    · refine Go_aload_n (pc := 10) dX2_put_10 rfl (by decide) rfl ?_
      refine Go_iload_n (pc := 11) dX2_put_11 rfl rfl ?_
      refine Go_iload_n (pc := 12) dX2_put_12 rfl rfl ?_
      refine Go_iastore (pc := 13) dX2_put_13 (by decide) rfl (by omega) (by omega) ?_
      refine Go_M (M1 := setR M 12 (updI (M 12) i v)) rfl ?_
      first | (exfalso; omega) | exact Go_return (pc := 14) dX2_put_14 rfl rfl rfl
theorem s_X2_at_13 {d : Nat} (hd : 0 ≤ d) {i : Int} {M : gMem} (h0 : 0 ≤ i) (h1 : i < 32) : Go d RX2 cX2_at 2 (some .int) 0 [some (.inr 13), some (.inl i)] [] M (some (.inl (M 13 i))) M := by
  refine Go_iload_n (pc := 0) dX2_at_0 rfl rfl ?_
  refine Go_if_lt (pc := 1) (tgt := 16) dX2_at_1 (by decide) (by omega) (fun c1 => ?_) (fun c1 => ?_)
  · refine Go_iconst (pc := 16) dX2_at_16 ?_
    first | (exfalso; omega) | exact Go_ireturn (pc := 17) dX2_at_17 rfl rfl rfl
  · refine Go_iload_n (pc := 4) dX2_at_4 rfl rfl ?_
    refine Go_aload_n (pc := 5) dX2_at_5 rfl (by decide) rfl ?_
    refine Go_alen (pc := 6) dX2_at_6 (by decide) rfl ?_
    refine Go_icmp_ge (pc := 7) (tgt := 16) dX2_at_7 (by decide) (by omega) (by decide) (fun c7 => ?_) (fun c7 => ?_)
    · refine Go_iconst (pc := 16) dX2_at_16 ?_
      first | (exfalso; omega) | exact Go_ireturn (pc := 17) dX2_at_17 rfl rfl rfl
    · refine Go_aload_n (pc := 10) dX2_at_10 rfl (by decide) rfl ?_
      refine Go_iload_n (pc := 11) dX2_at_11 rfl rfl ?_
      refine Go_iaload (pc := 12) (z := M 13 i) dX2_at_12 (by decide) rfl (by omega) (by omega) (rfl) ?_
      refine Go_goto (pc := 13) (tgt := 17) dX2_at_13 (by decide) ?_
      first | (exfalso; omega) | exact Go_ireturn (pc := 17) dX2_at_17 rfl rfl rfl
theorem s_X2_put_13 {d : Nat} (hd : 0 ≤ d) {i v : Int} {M : gMem} (h0 : 0 ≤ i) (h1 : i < 32) : Go d RX2 cX2_put 3 none 0 [some (.inr 13), some (.inl i), some (.inl v)] [] M none (setR M 13 (updI (M 13) i v)) := by
  refine Go_iload_n (pc := 0) dX2_put_0 rfl rfl ?_
  refine Go_if_lt (pc := 1) (tgt := 14) dX2_put_1 (by decide) (by omega) (fun c1 => ?_) (fun c1 => ?_)
  · first | (exfalso; omega) | exact Go_return (pc := 14) dX2_put_14 rfl rfl rfl
  · refine Go_iload_n (pc := 4) dX2_put_4 rfl rfl ?_
    refine Go_aload_n (pc := 5) dX2_put_5 rfl (by decide) rfl ?_
    refine Go_alen (pc := 6) dX2_put_6 (by decide) rfl ?_
    refine Go_icmp_ge (pc := 7) (tgt := 14) dX2_put_7 (by decide) (by omega) (by decide) (fun c7 => ?_) (fun c7 => ?_)
    · first | (exfalso; omega) | exact Go_return (pc := 14) dX2_put_14 rfl rfl rfl
    · refine Go_aload_n (pc := 10) dX2_put_10 rfl (by decide) rfl ?_
      refine Go_iload_n (pc := 11) dX2_put_11 rfl rfl ?_
      refine Go_iload_n (pc := 12) dX2_put_12 rfl rfl ?_
      refine Go_iastore (pc := 13) dX2_put_13 (by decide) rfl (by omega) (by omega) ?_
      refine Go_M (M1 := setR M 13 (updI (M 13) i v)) rfl ?_
      first | (exfalso; omega) | exact Go_return (pc := 14) dX2_put_14 rfl rfl rfl
theorem s_X2_at_14 {d : Nat} (hd : 0 ≤ d) {i : Int} {M : gMem} (h0 : 0 ≤ i) (h1 : i < 4) : Go d RX2 cX2_at 2 (some .int) 0 [some (.inr 14), some (.inl i)] [] M (some (.inl (M 14 i))) M := by
  refine Go_iload_n (pc := 0) dX2_at_0 rfl rfl ?_
  refine Go_if_lt (pc := 1) (tgt := 16) dX2_at_1 (by decide) (by omega) (fun c1 => ?_) (fun c1 => ?_)
  · refine Go_iconst (pc := 16) dX2_at_16 ?_
    first | (exfalso; omega) | exact Go_ireturn (pc := 17) dX2_at_17 rfl rfl rfl
  · refine Go_iload_n (pc := 4) dX2_at_4 rfl rfl ?_
    refine Go_aload_n (pc := 5) dX2_at_5 rfl (by decide) rfl ?_
    refine Go_alen (pc := 6) dX2_at_6 (by decide) rfl ?_
    refine Go_icmp_ge (pc := 7) (tgt := 16) dX2_at_7 (by decide) (by omega) (by decide) (fun c7 => ?_) (fun c7 => ?_)
    · refine Go_iconst (pc := 16) dX2_at_16 ?_
      first | (exfalso; omega) | exact Go_ireturn (pc := 17) dX2_at_17 rfl rfl rfl
    · refine Go_aload_n (pc := 10) dX2_at_10 rfl (by decide) rfl ?_
      refine Go_iload_n (pc := 11) dX2_at_11 rfl rfl ?_
      refine Go_iaload (pc := 12) (z := M 14 i) dX2_at_12 (by decide) rfl (by omega) (by omega) (rfl) ?_
      refine Go_goto (pc := 13) (tgt := 17) dX2_at_13 (by decide) ?_
      first | (exfalso; omega) | exact Go_ireturn (pc := 17) dX2_at_17 rfl rfl rfl
theorem s_X2_put_14 {d : Nat} (hd : 0 ≤ d) {i v : Int} {M : gMem} (h0 : 0 ≤ i) (h1 : i < 4) : Go d RX2 cX2_put 3 none 0 [some (.inr 14), some (.inl i), some (.inl v)] [] M none (setR M 14 (updI (M 14) i v)) := by
  refine Go_iload_n (pc := 0) dX2_put_0 rfl rfl ?_
  refine Go_if_lt (pc := 1) (tgt := 14) dX2_put_1 (by decide) (by omega) (fun c1 => ?_) (fun c1 => ?_)
  · first | (exfalso; omega) | exact Go_return (pc := 14) dX2_put_14 rfl rfl rfl
  · refine Go_iload_n (pc := 4) dX2_put_4 rfl rfl ?_
    refine Go_aload_n (pc := 5) dX2_put_5 rfl (by decide) rfl ?_
    refine Go_alen (pc := 6) dX2_put_6 (by decide) rfl ?_
    refine Go_icmp_ge (pc := 7) (tgt := 14) dX2_put_7 (by decide) (by omega) (by decide) (fun c7 => ?_) (fun c7 => ?_)
    · first | (exfalso; omega) | exact Go_return (pc := 14) dX2_put_14 rfl rfl rfl
    · refine Go_aload_n (pc := 10) dX2_put_10 rfl (by decide) rfl ?_
      refine Go_iload_n (pc := 11) dX2_put_11 rfl rfl ?_
      refine Go_iload_n (pc := 12) dX2_put_12 rfl rfl ?_
      refine Go_iastore (pc := 13) dX2_put_13 (by decide) rfl (by omega) (by omega) ?_
      refine Go_M (M1 := setR M 14 (updI (M 14) i v)) rfl ?_
      first | (exfalso; omega) | exact Go_return (pc := 14) dX2_put_14 rfl rfl rfl
theorem s_X2_at_15 {d : Nat} (hd : 0 ≤ d) {i : Int} {M : gMem} (h0 : 0 ≤ i) (h1 : i < 4) : Go d RX2 cX2_at 2 (some .int) 0 [some (.inr 15), some (.inl i)] [] M (some (.inl (M 15 i))) M := by
  refine Go_iload_n (pc := 0) dX2_at_0 rfl rfl ?_
  refine Go_if_lt (pc := 1) (tgt := 16) dX2_at_1 (by decide) (by omega) (fun c1 => ?_) (fun c1 => ?_)
  · refine Go_iconst (pc := 16) dX2_at_16 ?_
    first | (exfalso; omega) | exact Go_ireturn (pc := 17) dX2_at_17 rfl rfl rfl
  · refine Go_iload_n (pc := 4) dX2_at_4 rfl rfl ?_
    refine Go_aload_n (pc := 5) dX2_at_5 rfl (by decide) rfl ?_
    refine Go_alen (pc := 6) dX2_at_6 (by decide) rfl ?_
    refine Go_icmp_ge (pc := 7) (tgt := 16) dX2_at_7 (by decide) (by omega) (by decide) (fun c7 => ?_) (fun c7 => ?_)
    · refine Go_iconst (pc := 16) dX2_at_16 ?_
      first | (exfalso; omega) | exact Go_ireturn (pc := 17) dX2_at_17 rfl rfl rfl
    · refine Go_aload_n (pc := 10) dX2_at_10 rfl (by decide) rfl ?_
      refine Go_iload_n (pc := 11) dX2_at_11 rfl rfl ?_
      refine Go_iaload (pc := 12) (z := M 15 i) dX2_at_12 (by decide) rfl (by omega) (by omega) (rfl) ?_
      refine Go_goto (pc := 13) (tgt := 17) dX2_at_13 (by decide) ?_
      first | (exfalso; omega) | exact Go_ireturn (pc := 17) dX2_at_17 rfl rfl rfl
theorem s_X2_put_15 {d : Nat} (hd : 0 ≤ d) {i v : Int} {M : gMem} (h0 : 0 ≤ i) (h1 : i < 4) : Go d RX2 cX2_put 3 none 0 [some (.inr 15), some (.inl i), some (.inl v)] [] M none (setR M 15 (updI (M 15) i v)) := by
  refine Go_iload_n (pc := 0) dX2_put_0 rfl rfl ?_
  refine Go_if_lt (pc := 1) (tgt := 14) dX2_put_1 (by decide) (by omega) (fun c1 => ?_) (fun c1 => ?_)
  · first | (exfalso; omega) | exact Go_return (pc := 14) dX2_put_14 rfl rfl rfl
  · refine Go_iload_n (pc := 4) dX2_put_4 rfl rfl ?_
    refine Go_aload_n (pc := 5) dX2_put_5 rfl (by decide) rfl ?_
    refine Go_alen (pc := 6) dX2_put_6 (by decide) rfl ?_
    refine Go_icmp_ge (pc := 7) (tgt := 14) dX2_put_7 (by decide) (by omega) (by decide) (fun c7 => ?_) (fun c7 => ?_)
    · first | (exfalso; omega) | exact Go_return (pc := 14) dX2_put_14 rfl rfl rfl
    · refine Go_aload_n (pc := 10) dX2_put_10 rfl (by decide) rfl ?_
      refine Go_iload_n (pc := 11) dX2_put_11 rfl rfl ?_
      refine Go_iload_n (pc := 12) dX2_put_12 rfl rfl ?_
      refine Go_iastore (pc := 13) dX2_put_13 (by decide) rfl (by omega) (by omega) ?_
      refine Go_M (M1 := setR M 15 (updI (M 15) i v)) rfl ?_
      first | (exfalso; omega) | exact Go_return (pc := 14) dX2_put_14 rfl rfl rfl
theorem s_X2_cell {d : Nat} (hd : 0 ≤ d) {a b : Int} {M : gMem} : Go d RX2 cX2_cell 2 (some .int) 0 [some (.inl a), some (.inl b)] [] M (some (.inl (a * 8 + b))) M := by
  refine Go_iload_n (pc := 0) dX2_cell_0 rfl rfl ?_
  refine Go_bipush (pc := 1) dX2_cell_1 (by decide) (by decide) ?_
  refine Go_imul (pc := 3) dX2_cell_3 ?_
  refine Go_iload_n (pc := 4) dX2_cell_4 rfl rfl ?_
  refine Go_iadd (pc := 5) dX2_cell_5 ?_
  exact Go_ireturn (pc := 6) dX2_cell_6 rfl (by first | rfl | (simp_all; done)) rfl
theorem s_X2_greatestNeed {d : Nat} (hd : 2 ≤ d) {M : gMem} (he : 0 ≤ M 10 5 ∧ M 10 5 ≤ 8) (hn : ∀ e, 0 ≤ e → e < M 10 5 → -45 ≤ M 11 e ∧ M 11 e ≤ 45) : Go d RX2 cX2_greatestNeed 3 (some .int) 0 [some (.inr 10), none, none] [] M (some (.inl (grZ (M 11) (M 10 5)))) M := by
  have K : ∀ i, 0 ≤ i → i ≤ M 10 5 → Go d RX2 cX2_greatestNeed 3 (some .int) 4 [some (.inr 10), some (.inl (grZ (M 11) i)), some (.inl i)] [] M (some (.inl (grZ (M 11) (M 10 5)))) M := by
    refine up_ind 0 (M 10 5) _ (fun i i0 i1 ih => ?_)
    have hb := hn i i0
    have h2 := grZ_le (f := M 11) (X := 45) (E := i) (by omega) (fun e p q => by have := hn e p (by omega); omega)
    have h3 := (grZ_ge (M 11) i).1
    rw [grZ_s _ i0] at ih
    have eE : i = M 10 5 → grZ (M 11) (M 10 5) = grZ (M 11) i := fun e => by rw [e]
    generalize grZ (M 11) i = G at ih h2 h3 eE ⊢
    refine Go_iload_n (pc := 4) dX2_greatestNeed_4 rfl rfl ?_
    refine Go_aload_n (pc := 5) dX2_greatestNeed_5 rfl (by decide) rfl ?_
    refine Go_geti (pc := 6) (z := M 10 5) dX2_greatestNeed_6 fo_X2_27 (by decide) rfl rfl (rfl) ?_
    refine Go_icmp_ge (pc := 9) (tgt := 34) dX2_greatestNeed_9 (by decide) (by omega) (by omega) (fun c9 => ?_) (fun c9 => ?_)
    · refine Go_iload_n (pc := 34) dX2_greatestNeed_34 rfl rfl ?_
      exact Go_ireturn (pc := 35) dX2_greatestNeed_35 rfl (by rw [eE (by omega)]) rfl
    · refine Go_iload_n (pc := 12) dX2_greatestNeed_12 rfl rfl ?_
      refine Go_aload_n (pc := 13) dX2_greatestNeed_13 rfl (by decide) rfl ?_
      refine Go_getr (pc := 14) (r := 11) dX2_greatestNeed_14 fo_X2_9 (by decide) rfl rfl (by decide) ?_
      refine Go_iload_n (pc := 17) dX2_greatestNeed_17 rfl rfl ?_
      refine Go_invS (pc := 18) (y := yX2_at) (avs := [.inr 11, .inl i]) (rest := [.inl G]) (x := .inl ((M 11) i))  (d' := d - 1) dX2_greatestNeed_18 ln_X2_46 mo_X2_at so_X2_at rfl rfl rfl (Nat.le_of_ble_eq_true rfl) (by omega) (Nat.le_of_ble_eq_true rfl) rfl (s_X2_at_11 (by omega) (by first | omega | (simp only [Nat.reduceAdd, setR_s]; omega) | (simp only [setR, Nat.reduceEqDiff, reduceIte]; omega)) (by first | omega | (simp only [Nat.reduceAdd, setR_s]; omega) | (simp only [setR, Nat.reduceEqDiff, reduceIte]; omega))) ?_
      refine Go_abs (pc := 21) dX2_greatestNeed_21 ln_X2_94 so_abs in_java_lang_Math co_abs (by omega) (by omega) (Nat.le_of_ble_eq_true rfl) ?_
      refine Go_max (pc := 24) dX2_greatestNeed_24 ln_X2_100 so_max in_java_lang_Math co_max (by omega) (by omega) (by omega) (Nat.le_of_ble_eq_true rfl) ?_
      refine Go_istore_n (pc := 27) (L' := [some (.inr 10), some (.inl (max G (((M 11) i).natAbs : Int))), some (.inl i)]) dX2_greatestNeed_27 rfl (by decide) rfl ?_
      refine Go_iinc (pc := 28) (L' := [some (.inr 10), some (.inl (max G (((M 11) i).natAbs : Int))), some (.inl (i + 1))]) dX2_greatestNeed_28 rfl (by decide) rfl ?_
      refine Go_goto (pc := 31) (tgt := 4) dX2_greatestNeed_31 (by decide) ?_
      exact ih (by omega)
  refine Go_iconst (pc := 0) dX2_greatestNeed_0 ?_
  refine Go_istore_n (pc := 1) (L' := [some (.inr 10), some (.inl 0), none]) dX2_greatestNeed_1 rfl (by decide) rfl ?_
  refine Go_iconst (pc := 2) dX2_greatestNeed_2 ?_
  refine Go_istore_n (pc := 3) (L' := [some (.inr 10), some (.inl 0), some (.inl 0)]) dX2_greatestNeed_3 rfl (by decide) rfl ?_
  exact K 0 (by omega) (by omega)
theorem s_X2_keepBest {d : Nat} (hd : 1 ≤ d) {s : Int} {M : gMem} : Go d RX2 cX2_keepBest 2 none 0 [some (.inr 10), some (.inl s)] [] M none (setR (setR M 10 (updI (M 10) 7 s)) 15 (cpyI (M 14) (M 15) 0 0 4)) := by
  refine Go_aload_n (pc := 0) dX2_keepBest_0 rfl (by decide) rfl ?_
  refine Go_iload_n (pc := 1) dX2_keepBest_1 rfl rfl ?_
  refine Go_puti (pc := 2) dX2_keepBest_2 fw_X2_34 (by decide) rfl rfl ?_
  refine Go_M (M1 := setR M 10 (updI (M 10) 7 s)) rfl ?_
  refine Go_aload_n (pc := 5) dX2_keepBest_5 rfl (by decide) rfl ?_
  refine Go_getr (pc := 6) (r := 14) dX2_keepBest_6 fo_X2_21 (by decide) rfl rfl (by decide) ?_
  refine Go_iconst (pc := 9) dX2_keepBest_9 ?_
  refine Go_aload_n (pc := 10) dX2_keepBest_10 rfl (by decide) rfl ?_
  refine Go_getr (pc := 11) (r := 15) dX2_keepBest_11 fo_X2_24 (by decide) rfl rfl (by decide) ?_
  refine Go_iconst (pc := 14) dX2_keepBest_14 ?_
  refine Go_iconst (pc := 15) dX2_keepBest_15 ?_
  refine Go_copy (pc := 16) dX2_keepBest_16 ln_X2_103 na_copy so_copy in_java_lang_System (by decide) (by decide) rfl rfl (by omega) (by omega) (by omega) (by omega) (by omega) (by omega) (Nat.le_of_ble_eq_true rfl) ?_
  refine Go_M (M1 := setR (setR M 10 (updI (M 10) 7 s)) 15 (cpyI (M 14) (M 15) 0 0 4)) rfl ?_
  exact Go_return (pc := 19) dX2_keepBest_19 rfl rfl (by first | rfl | (funext q; simp only [setR]; (repeat' split) <;> first | rfl | omega | simp_all))
def apZ (nd ef : Int → Int) (x i : Int) : Int → Int := fun q => if 0 ≤ q ∧ q < i then nd q - x * ef q else nd q
theorem apZ_0 (nd ef : Int → Int) (x : Int) : apZ nd ef x 0 = nd := by
  funext q
  exact if_neg (by omega)
theorem apZ_out {nd ef : Int → Int} {x i q : Int} (h : ¬ (0 ≤ q ∧ q < i)) : apZ nd ef x i q = nd q := if_neg h
theorem apZ_in {nd ef : Int → Int} {x i q : Int} (h0 : 0 ≤ q) (h1 : q < i) : apZ nd ef x i q = nd q - x * ef q := if_pos ⟨h0, h1⟩
theorem apZ_s (nd ef : Int → Int) (x : Int) {i : Int} (h : 0 ≤ i) : updI (apZ nd ef x i) i (nd i - x * ef i) = apZ nd ef x (i + 1) := by
  funext q
  by_cases z : q = i
  · subst z
    rw [updI_s, apZ_in h (by omega)]
  · rw [updI_n z]
    by_cases y : 0 ≤ q ∧ q < i
    · rw [apZ_in y.1 y.2, apZ_in y.1 (by omega)]
    · rw [apZ_out y, apZ_out (by omega)]
theorem apZ_back (nd ef : Int → Int) (x i : Int) : apZ (apZ nd ef x i) ef (-x) i = nd := by
  funext q
  by_cases y : 0 ≤ q ∧ q < i
  · rw [apZ_in y.1 y.2, apZ_in y.1 y.2, Int.neg_mul]
    omega
  · rw [apZ_out y, apZ_out y]
theorem s_X2_approach {d : Nat} (hd : 1 ≤ d) {s x : Int} {M : gMem} (he : 0 ≤ M 10 5 ∧ M 10 5 ≤ 8) (s0 : 0 ≤ s) (s1 : s < 4) : Go d RX2 cX2_approach 5 none 0 [some (.inr 10), some (.inl s), some (.inl x), none, none] [] M none (setR M 11 (apZ (M 11) (fun e => M 12 (s * 8 + e)) x (M 10 5))) := by
  have K : ∀ i, 0 ≤ i → i ≤ M 10 5 → ∀ y : Option MV, Go d RX2 cX2_approach 5 none 2 [some (.inr 10), some (.inl s), some (.inl x), some (.inl i), y] [] (setR M 11 (apZ (M 11) (fun e => M 12 (s * 8 + e)) x i)) none (setR M 11 (apZ (M 11) (fun e => M 12 (s * 8 + e)) x (M 10 5))) := by
    refine up_ind 0 (M 10 5) _ (fun i i0 i1 ih y => ?_)
    have ei : apZ (M 11) (fun e => M 12 (s * 8 + e)) x i i = M 11 i := apZ_out (by omega)
    refine Go_iload_n (pc := 2) dX2_approach_2 rfl rfl ?_
    refine Go_aload_n (pc := 3) dX2_approach_3 rfl (by decide) rfl ?_
    refine Go_geti (pc := 4) (z := M 10 5) dX2_approach_4 fo_X2_27 (by decide) rfl rfl (rfl) ?_
    refine Go_icmp_ge (pc := 7) (tgt := 51) dX2_approach_7 (by decide) (by omega) (by omega) (fun c7 => ?_) (fun c7 => ?_)
    · exact Go_return (pc := 51) dX2_approach_51 rfl rfl (by rw [show i = M 10 5 by omega])
    · refine Go_aload_n (pc := 10) dX2_approach_10 rfl (by decide) rfl ?_
      refine Go_getr (pc := 11) (r := 12) dX2_approach_11 fo_X2_15 (by decide) rfl rfl (by decide) ?_
      refine Go_iload_n (pc := 14) dX2_approach_14 rfl rfl ?_
      refine Go_iload_n (pc := 15) dX2_approach_15 rfl rfl ?_
      refine Go_invS (pc := 16) (y := yX2_cell) (avs := [.inl s, .inl i]) (rest := [.inr 12]) (x := .inl (s * 8 + i))  (d' := d - 1) dX2_approach_16 ln_X2_77 mo_X2_cell so_X2_cell rfl rfl rfl (Nat.le_of_ble_eq_true rfl) (by omega) (Nat.le_of_ble_eq_true rfl) rfl (s_X2_cell (by omega)) ?_
      refine Go_invS (pc := 19) (y := yX2_at) (avs := [.inr 12, .inl (s * 8 + i)]) (rest := []) (x := .inl ((M 12) (s * 8 + i)))  (d' := d - 1) dX2_approach_19 ln_X2_46 mo_X2_at so_X2_at rfl rfl rfl (Nat.le_of_ble_eq_true rfl) (by omega) (Nat.le_of_ble_eq_true rfl) rfl (s_X2_at_12 (by omega) (by first | omega | (simp only [Nat.reduceAdd, setR_s]; omega) | (simp only [setR, Nat.reduceEqDiff, reduceIte]; omega)) (by first | omega | (simp only [Nat.reduceAdd, setR_s]; omega) | (simp only [setR, Nat.reduceEqDiff, reduceIte]; omega))) ?_
      refine Go_istore (pc := 22) (L' := [some (.inr 10), some (.inl s), some (.inl x), some (.inl i), some (.inl ((M 12) (s * 8 + i)))]) dX2_approach_22 (by decide) rfl ?_
      refine Go_aload_n (pc := 24) dX2_approach_24 rfl (by decide) rfl ?_
      refine Go_getr (pc := 25) (r := 11) dX2_approach_25 fo_X2_9 (by decide) rfl rfl (by decide) ?_
      refine Go_iload_n (pc := 28) dX2_approach_28 rfl rfl ?_
      refine Go_aload_n (pc := 29) dX2_approach_29 rfl (by decide) rfl ?_
      refine Go_getr (pc := 30) (r := 11) dX2_approach_30 fo_X2_9 (by decide) rfl rfl (by decide) ?_
      refine Go_iload_n (pc := 33) dX2_approach_33 rfl rfl ?_
      refine Go_invS (pc := 34) (y := yX2_at) (avs := [.inr 11, .inl i]) (rest := [.inl i, .inr 11]) (x := .inl ((apZ (M 11) (fun e => M 12 (s * 8 + e)) x i) i))  (d' := d - 1) dX2_approach_34 ln_X2_46 mo_X2_at so_X2_at rfl rfl rfl (Nat.le_of_ble_eq_true rfl) (by omega) (Nat.le_of_ble_eq_true rfl) rfl (s_X2_at_11 (by omega) (by first | omega | (simp only [Nat.reduceAdd, setR_s]; omega) | (simp only [setR, Nat.reduceEqDiff, reduceIte]; omega)) (by first | omega | (simp only [Nat.reduceAdd, setR_s]; omega) | (simp only [setR, Nat.reduceEqDiff, reduceIte]; omega))) ?_
      refine Go_iload_n (pc := 37) dX2_approach_37 rfl rfl ?_
      refine Go_iload (pc := 38) dX2_approach_38 rfl ?_
      refine Go_imul (pc := 40) dX2_approach_40 ?_
      refine Go_isub (pc := 41) dX2_approach_41 ?_
      refine Go_invSv (pc := 42) (y := yX2_put) (avs := [.inr 11, .inl i, .inl (((apZ (M 11) (fun e => M 12 (s * 8 + e)) x i) i) - (x * ((M 12) (s * 8 + i))))]) (rest := [])   (d' := d - 1) dX2_approach_42 ln_X2_66 mo_X2_put so_X2_put rfl rfl rfl (Nat.le_of_ble_eq_true rfl) (by omega) (Nat.le_of_ble_eq_true rfl) rfl (s_X2_put_11 (by omega) (by first | omega | (simp only [Nat.reduceAdd, setR_s]; omega) | (simp only [setR, Nat.reduceEqDiff, reduceIte]; omega)) (by first | omega | (simp only [Nat.reduceAdd, setR_s]; omega) | (simp only [setR, Nat.reduceEqDiff, reduceIte]; omega))) ?_
      refine Go_M (M1 := setR M 11 (updI (apZ (M 11) (fun e => M 12 (s * 8 + e)) x i) i (((apZ (M 11) (fun e => M 12 (s * 8 + e)) x i) i) - (x * ((M 12) (s * 8 + i)))))) ((setR_tw _ _ _ _).trans rfl) ?_
      refine Go_iinc (pc := 45) (L' := [some (.inr 10), some (.inl s), some (.inl x), some (.inl (i + 1)), some (.inl ((M 12) (s * 8 + i)))]) dX2_approach_45 rfl (by decide) rfl ?_
      refine Go_goto (pc := 48) (tgt := 2) dX2_approach_48 (by decide) ?_
      exact Go_M (by rw [ei, apZ_s (M 11) (fun e => M 12 (s * 8 + e)) x i0]) (ih (by omega) _)
  refine Go_iconst (pc := 0) dX2_approach_0 ?_
  refine Go_istore_n (pc := 1) (L' := [some (.inr 10), some (.inl s), some (.inl x), some (.inl 0), none]) dX2_approach_1 rfl (by decide) rfl ?_
  exact Go_M (by rw [apZ_0, setR_id]) (K 0 (by omega) (by omega) _)
theorem mN_0 {nd ef rc : Int → Int} {w i most has : Int} : mN nd ef rc w 0 i most has = if has = 0 then 0 else most := rfl
theorem mN_e {nd ef rc : Int → Int} {w i most has : Int} {m : Nat} (h1 : ef i = 0) (h2 : ((nd i).natAbs : Int) ≤ rc i) : mN nd ef rc w (m + 1) i most has = mN nd ef rc w m (i + 1) most has := by
  show (if ef i = 0 then _ else _) = _
  rw [if_pos h1, if_pos h2]
theorem mN_x {nd ef rc : Int → Int} {w i most has : Int} {m : Nat} (h1 : ef i = 0) (h2 : ¬ ((nd i).natAbs : Int) ≤ rc i) : mN nd ef rc w (m + 1) i most has = -10 := by
  show (if ef i = 0 then _ else _) = _
  rw [if_pos h1, if_neg h2]
theorem mN_f {nd ef rc : Int → Int} {w i most has : Int} {m : Nat} (h1 : ¬ ef i = 0) : mN nd ef rc w (m + 1) i most has = mN nd ef rc w m (i + 1) (min most (w * ef i * nd i + rc i)) 1 := by
  show (if ef i = 0 then _ else _) = _
  rw [if_neg h1]
theorem way_mul {w a b : Int} (hw : w = 1 ∨ w = -1) (ha : a = -1 ∨ a = 0 ∨ a = 1) (hb : -45 ≤ b ∧ b ≤ 45) : -45 ≤ w * a * b ∧ w * a * b ≤ 45 := by
  rcases hw with rfl | rfl <;> rcases ha with rfl | rfl | rfl <;> omega
theorem s_X2_mostSteps {d : Nat} (hd : 2 ≤ d) {s w : Int} {M : gMem} (he : 0 ≤ M 10 5 ∧ M 10 5 ≤ 8) (s0 : 0 ≤ s) (s1 : s < 4) (hw : w = 1 ∨ w = -1) (hm : ∀ e, 0 ≤ e → e < M 10 5 → (-45 ≤ M 11 e ∧ M 11 e ≤ 45) ∧ (M 12 (s * 8 + e) = -1 ∨ M 12 (s * 8 + e) = 0 ∨ M 12 (s * 8 + e) = 1) ∧ 0 ≤ M 13 (s * 8 + e) ∧ M 13 (s * 8 + e) ≤ 72) : Go d RX2 cX2_mostSteps 9 (some .int) 0 [some (.inr 10), some (.inl s), some (.inl w), none, none, none, none, none, none] [] M (some (.inl (mN (M 11) (fun e => M 12 (s * 8 + e)) (fun e => M 13 (s * 8 + e)) w (M 10 5).toNat 0 9 0))) M := by
  have K : ∀ i, 0 ≤ i → i ≤ M 10 5 → ∀ (most has : Int) (x y z : Option MV), (-45 ≤ most ∧ most ≤ 9) → (has = 0 ∨ has = 1) → Go d RX2 cX2_mostSteps 9 (some .int) 9 [some (.inr 10), some (.inl s), some (.inl w), some (.inl most), some (.inl has), some (.inl i), x, y, z] [] M (some (.inl (mN (M 11) (fun e => M 12 (s * 8 + e)) (fun e => M 13 (s * 8 + e)) w (M 10 5 - i).toNat i most has))) M := by
    refine up_ind 0 (M 10 5) _ (fun i i0 i1 ih most has x y z hmo hha => ?_)
    have hi := hm i i0
    have hwm := fun h => way_mul hw (hi h).2.1 (hi h).1
    have eS : i < M 10 5 → (M 10 5 - i).toNat = (M 10 5 - (i + 1)).toNat + 1 := fun h => by omega
    have eZ : ¬ i < M 10 5 → (M 10 5 - i).toNat = 0 := fun h => by omega
    refine Go_iload (pc := 9) dX2_mostSteps_9 rfl ?_
    refine Go_aload_n (pc := 11) dX2_mostSteps_11 rfl (by decide) rfl ?_
    refine Go_geti (pc := 12) (z := M 10 5) dX2_mostSteps_12 fo_X2_27 (by decide) rfl rfl (rfl) ?_
    refine Go_icmp_ge (pc := 15) (tgt := 104) dX2_mostSteps_15 (by decide) (by omega) (by omega) (fun c15 => ?_) (fun c15 => ?_)
    · refine Go_iload (pc := 104) dX2_mostSteps_104 rfl ?_
      refine Go_if_eq (pc := 106) (tgt := 113) dX2_mostSteps_106 (by decide) (by omega) (fun c106 => ?_) (fun c106 => ?_)
      · refine Go_iconst (pc := 113) dX2_mostSteps_113 ?_
        exact Go_ireturn (pc := 114) dX2_mostSteps_114 rfl (by rw [eZ (by omega), mN_0]; first | rw [if_pos c106] | rw [if_neg c106]) rfl
      · refine Go_iload_n (pc := 109) dX2_mostSteps_109 rfl rfl ?_
        refine Go_goto (pc := 110) (tgt := 114) dX2_mostSteps_110 (by decide) ?_
        exact Go_ireturn (pc := 114) dX2_mostSteps_114 rfl (by rw [eZ (by omega), mN_0]; first | rw [if_pos c106] | rw [if_neg c106]) rfl
    · refine Go_aload_n (pc := 18) dX2_mostSteps_18 rfl (by decide) rfl ?_
      refine Go_getr (pc := 19) (r := 12) dX2_mostSteps_19 fo_X2_15 (by decide) rfl rfl (by decide) ?_
      refine Go_iload_n (pc := 22) dX2_mostSteps_22 rfl rfl ?_
      refine Go_iload (pc := 23) dX2_mostSteps_23 rfl ?_
      refine Go_invS (pc := 25) (y := yX2_cell) (avs := [.inl s, .inl i]) (rest := [.inr 12]) (x := .inl (s * 8 + i))  (d' := d - 1) dX2_mostSteps_25 ln_X2_77 mo_X2_cell so_X2_cell rfl rfl rfl (Nat.le_of_ble_eq_true rfl) (by omega) (Nat.le_of_ble_eq_true rfl) rfl (s_X2_cell (by omega)) ?_
      refine Go_invS (pc := 28) (y := yX2_at) (avs := [.inr 12, .inl (s * 8 + i)]) (rest := []) (x := .inl ((M 12) (s * 8 + i)))  (d' := d - 1) dX2_mostSteps_28 ln_X2_46 mo_X2_at so_X2_at rfl rfl rfl (Nat.le_of_ble_eq_true rfl) (by omega) (Nat.le_of_ble_eq_true rfl) rfl (s_X2_at_12 (by omega) (by first | omega | (simp only [Nat.reduceAdd, setR_s]; omega) | (simp only [setR, Nat.reduceEqDiff, reduceIte]; omega)) (by first | omega | (simp only [Nat.reduceAdd, setR_s]; omega) | (simp only [setR, Nat.reduceEqDiff, reduceIte]; omega))) ?_
      refine Go_istore (pc := 31) (L' := [some (.inr 10), some (.inl s), some (.inl w), some (.inl most), some (.inl has), some (.inl i), some (.inl ((M 12) (s * 8 + i))), y, z]) dX2_mostSteps_31 (by decide) rfl ?_
      refine Go_aload_n (pc := 33) dX2_mostSteps_33 rfl (by decide) rfl ?_
      refine Go_getr (pc := 34) (r := 11) dX2_mostSteps_34 fo_X2_9 (by decide) rfl rfl (by decide) ?_
      refine Go_iload (pc := 37) dX2_mostSteps_37 rfl ?_
      refine Go_invS (pc := 39) (y := yX2_at) (avs := [.inr 11, .inl i]) (rest := []) (x := .inl ((M 11) i))  (d' := d - 1) dX2_mostSteps_39 ln_X2_46 mo_X2_at so_X2_at rfl rfl rfl (Nat.le_of_ble_eq_true rfl) (by omega) (Nat.le_of_ble_eq_true rfl) rfl (s_X2_at_11 (by omega) (by first | omega | (simp only [Nat.reduceAdd, setR_s]; omega) | (simp only [setR, Nat.reduceEqDiff, reduceIte]; omega)) (by first | omega | (simp only [Nat.reduceAdd, setR_s]; omega) | (simp only [setR, Nat.reduceEqDiff, reduceIte]; omega))) ?_
      refine Go_istore (pc := 42) (L' := [some (.inr 10), some (.inl s), some (.inl w), some (.inl most), some (.inl has), some (.inl i), some (.inl ((M 12) (s * 8 + i))), some (.inl ((M 11) i)), z]) dX2_mostSteps_42 (by decide) rfl ?_
      refine Go_aload_n (pc := 44) dX2_mostSteps_44 rfl (by decide) rfl ?_
      refine Go_getr (pc := 45) (r := 13) dX2_mostSteps_45 fo_X2_18 (by decide) rfl rfl (by decide) ?_
      refine Go_iload_n (pc := 48) dX2_mostSteps_48 rfl rfl ?_
      refine Go_iload (pc := 49) dX2_mostSteps_49 rfl ?_
      refine Go_invS (pc := 51) (y := yX2_cell) (avs := [.inl s, .inl i]) (rest := [.inr 13]) (x := .inl (s * 8 + i))  (d' := d - 1) dX2_mostSteps_51 ln_X2_77 mo_X2_cell so_X2_cell rfl rfl rfl (Nat.le_of_ble_eq_true rfl) (by omega) (Nat.le_of_ble_eq_true rfl) rfl (s_X2_cell (by omega)) ?_
      refine Go_invS (pc := 54) (y := yX2_at) (avs := [.inr 13, .inl (s * 8 + i)]) (rest := []) (x := .inl ((M 13) (s * 8 + i)))  (d' := d - 1) dX2_mostSteps_54 ln_X2_46 mo_X2_at so_X2_at rfl rfl rfl (Nat.le_of_ble_eq_true rfl) (by omega) (Nat.le_of_ble_eq_true rfl) rfl (s_X2_at_13 (by omega) (by first | omega | (simp only [Nat.reduceAdd, setR_s]; omega) | (simp only [setR, Nat.reduceEqDiff, reduceIte]; omega)) (by first | omega | (simp only [Nat.reduceAdd, setR_s]; omega) | (simp only [setR, Nat.reduceEqDiff, reduceIte]; omega))) ?_
      refine Go_istore (pc := 57) (L' := [some (.inr 10), some (.inl s), some (.inl w), some (.inl most), some (.inl has), some (.inl i), some (.inl ((M 12) (s * 8 + i))), some (.inl ((M 11) i)), some (.inl ((M 13) (s * 8 + i)))]) dX2_mostSteps_57 (by decide) rfl ?_
      refine Go_iload (pc := 59) dX2_mostSteps_59 rfl ?_
      refine Go_if_eq (pc := 61) (tgt := 85) dX2_mostSteps_61 (by decide) (by omega) (fun c61 => ?_) (fun c61 => ?_)
      · refine Go_iload (pc := 85) dX2_mostSteps_85 rfl ?_
        refine Go_abs (pc := 87) dX2_mostSteps_87 ln_X2_94 so_abs in_java_lang_Math co_abs (by omega) (by omega) (Nat.le_of_ble_eq_true rfl) ?_
        refine Go_iload (pc := 90) dX2_mostSteps_90 rfl ?_
        refine Go_icmp_le (pc := 92) (tgt := 98) dX2_mostSteps_92 (by decide) (by omega) (by omega) (fun c92 => ?_) (fun c92 => ?_)
        · refine Go_iinc (pc := 98) (L' := [some (.inr 10), some (.inl s), some (.inl w), some (.inl most), some (.inl has), some (.inl (i + 1)), some (.inl ((M 12) (s * 8 + i))), some (.inl ((M 11) i)), some (.inl ((M 13) (s * 8 + i)))]) dX2_mostSteps_98 rfl (by decide) rfl ?_
          refine Go_goto (pc := 101) (tgt := 9) dX2_mostSteps_101 (by decide) ?_
          exact Go_v (by rw [eS (by omega), mN_e (nd := M 11) (ef := fun e => M 12 (s * 8 + e)) (rc := fun e => M 13 (s * 8 + e)) (i := i) c61 c92]) rfl (ih (by omega) _ _ _ _ _ hmo hha)
        · refine Go_bipush (pc := 95) dX2_mostSteps_95 (by decide) (by decide) ?_
          exact Go_ireturn (pc := 97) dX2_mostSteps_97 rfl (by rw [eS (by omega), mN_x (nd := M 11) (ef := fun e => M 12 (s * 8 + e)) (rc := fun e => M 13 (s * 8 + e)) (i := i) c61 c92]) rfl
      · refine Go_iconst (pc := 64) dX2_mostSteps_64 ?_
        refine Go_istore (pc := 65) (L' := [some (.inr 10), some (.inl s), some (.inl w), some (.inl most), some (.inl 1), some (.inl i), some (.inl ((M 12) (s * 8 + i))), some (.inl ((M 11) i)), some (.inl ((M 13) (s * 8 + i)))]) dX2_mostSteps_65 (by decide) rfl ?_
        refine Go_iload_n (pc := 67) dX2_mostSteps_67 rfl rfl ?_
        refine Go_iload_n (pc := 68) dX2_mostSteps_68 rfl rfl ?_
        refine Go_iload (pc := 69) dX2_mostSteps_69 rfl ?_
        refine Go_imul (pc := 71) dX2_mostSteps_71 ?_
        refine Go_iload (pc := 72) dX2_mostSteps_72 rfl ?_
        refine Go_imul (pc := 74) dX2_mostSteps_74 ?_
        refine Go_iload (pc := 75) dX2_mostSteps_75 rfl ?_
        refine Go_iadd (pc := 77) dX2_mostSteps_77 ?_
        refine Go_min (pc := 78) dX2_mostSteps_78 ln_X2_109 so_min in_java_lang_Math co_min (by omega) (by omega) (by omega) (Nat.le_of_ble_eq_true rfl) ?_
        refine Go_istore_n (pc := 81) (L' := [some (.inr 10), some (.inl s), some (.inl w), some (.inl (min most (((w * ((M 12) (s * 8 + i))) * ((M 11) i)) + ((M 13) (s * 8 + i))))), some (.inl 1), some (.inl i), some (.inl ((M 12) (s * 8 + i))), some (.inl ((M 11) i)), some (.inl ((M 13) (s * 8 + i)))]) dX2_mostSteps_81 rfl (by decide) rfl ?_
        refine Go_goto (pc := 82) (tgt := 98) dX2_mostSteps_82 (by decide) ?_
        refine Go_iinc (pc := 98) (L' := [some (.inr 10), some (.inl s), some (.inl w), some (.inl (min most (((w * ((M 12) (s * 8 + i))) * ((M 11) i)) + ((M 13) (s * 8 + i))))), some (.inl 1), some (.inl (i + 1)), some (.inl ((M 12) (s * 8 + i))), some (.inl ((M 11) i)), some (.inl ((M 13) (s * 8 + i)))]) dX2_mostSteps_98 rfl (by decide) rfl ?_
        refine Go_goto (pc := 101) (tgt := 9) dX2_mostSteps_101 (by decide) ?_
        have hq := hwm (by omega)
        exact Go_v (by rw [eS (by omega), mN_f (nd := M 11) (ef := fun e => M 12 (s * 8 + e)) (rc := fun e => M 13 (s * 8 + e)) (i := i) c61]) rfl (ih (by omega) _ _ _ _ _ (by omega) (by omega))
  refine Go_bipush (pc := 0) dX2_mostSteps_0 (by decide) (by decide) ?_
  refine Go_istore_n (pc := 2) (L' := [some (.inr 10), some (.inl s), some (.inl w), some (.inl 9), none, none, none, none, none]) dX2_mostSteps_2 rfl (by decide) rfl ?_
  refine Go_iconst (pc := 3) dX2_mostSteps_3 ?_
  refine Go_istore (pc := 4) (L' := [some (.inr 10), some (.inl s), some (.inl w), some (.inl 9), some (.inl 0), none, none, none, none]) dX2_mostSteps_4 (by decide) rfl ?_
  refine Go_iconst (pc := 6) dX2_mostSteps_6 ?_
  refine Go_istore (pc := 7) (L' := [some (.inr 10), some (.inl s), some (.inl w), some (.inl 9), some (.inl 0), some (.inl 0), none, none, none]) dX2_mostSteps_7 (by decide) rfl ?_
  exact Go_v (by rw [show M 10 5 - 0 = M 10 5 by omega]) rfl (K 0 (by omega) (by omega) 9 0 _ _ _ (by omega) (by omega))
