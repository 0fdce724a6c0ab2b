/-! the class: leastPulls, reallyDo -/
abbrev lpOk (f : Int → Int) (j : Int) : Prop := j = -1 ∨ (0 ≤ j ∧ j < f 1)
def lpW (l : Int) (b : Int → Int) (j : Int) : Int := if l < 37 then (if j = -1 then l else b j + 100) else -1000004
def LPA (f : Int → Int) (j v : Int) : Prop := (¬ lpOk f j ∧ v = -1000001) ∨ (lpOk f j ∧ ∃ l b, LeP f l b ∧ v = lpW l b j)
theorem LPA_one {f : Int → Int} (hW : Wf f) {j v w : Int} (h : LPA f j v) (h2 : LPA f j w) : v = w := by
  rcases h with ⟨a, e⟩ | ⟨a, l, b, g, e⟩ <;> rcases h2 with ⟨a2, e2⟩ | ⟨a2, l2, b2, g2, e2⟩
  · rw [e, e2]
  · exact absurd a2 a
  · exact absurd a a2
  · have o := LeP_one hW g g2
    rw [e, e2]
    unfold lpW
    by_cases c : l < 37
    · rw [if_pos c, if_pos (show l2 < 37 by omega)]
      by_cases z : j = -1
      · rw [if_pos z, if_pos z]; exact o.1
      · rw [if_neg z, if_neg z, o.2 c j (by omega) (by omega)]
    · rw [if_neg c, if_neg (show ¬ l2 < 37 by omega)]
theorem s_X7_leastPulls {d : Nat} (hd : 9 ≤ d) {j : Int} {M : gMem} (hW : Wf (M 2)) (hj : inR j) : ∃ M' v, Go d RX7 cX7_leastPulls 3 (some .int) 0 [some (.inr 0), some (.inl j), none] [] M (some (.inl v)) M' ∧ (∀ k, k < 10 ∨ 15 < k → M' k = M k) ∧ LPA (M 2) j v := by
  have ht := hW.t
  by_cases c : lpOk (M 2) j
  · obtain ⟨M1, g, fr, lp⟩ := s_X2_find (d := d - 1) (by omega) hW
    have lb := LeP_b hW lp
    refine ⟨M1, lpW (M1 10 7) (M1 15) j, ?_, fr, Or.inr ⟨c, _, _, lp, rfl⟩⟩
    by_cases c7 : M1 10 7 < 37
    · rw [lpV_y c7] at g
      have w1 : j = -1 → lpW (M1 10 7) (M1 15) j = M1 10 7 := fun e => by unfold lpW; rw [if_pos c7, if_pos e]
      have w2 : ¬ j = -1 → lpW (M1 10 7) (M1 15) j = M1 15 j + 100 := fun e => by unfold lpW; rw [if_pos c7, if_neg e]
      refine Go_iload_n (pc := 0) dX7_leastPulls_0 rfl rfl ?_
      refine Go_iconst (pc := 1) dX7_leastPulls_1 ?_
      refine Go_icmp_eq (pc := 2) (tgt := 19) dX7_leastPulls_2 (by decide) (by omega) (by decide) (fun c2 => ?_) (fun c2 => ?_)
      · refine Go_aload_n (pc := 19) dX7_leastPulls_19 rfl (by decide) rfl ?_
        refine Go_getr (pc := 20) (r := 10) dX7_leastPulls_20 fo_X7_43 (by decide) rfl rfl (by decide) ?_
        refine Go_aload_n (pc := 23) dX7_leastPulls_23 rfl (by decide) rfl ?_
        refine Go_getr (pc := 24) (r := 1) dX7_leastPulls_24 fo_X7_10 (by decide) rfl rfl (by decide) ?_
        refine Go_invV (pc := 27) (y := yX2_find) (avs := [.inr 1]) (k := 10) (rest := []) (x := .inl (M1 10 7)) (M1 := M1) (d' := d - 1) dX7_leastPulls_27 ln_X7_137 mo_X2_find vo_X2_find rfl (rc_10) rfl rfl (Nat.le_of_ble_eq_true rfl) (by omega) (Nat.le_of_ble_eq_true rfl) rfl (g) ?_
        refine Go_istore_n (pc := 30) (L' := [some (.inr 0), some (.inl j), some (.inl (M1 10 7))]) dX7_leastPulls_30 rfl (by decide) rfl ?_
        refine Go_iload_n (pc := 31) dX7_leastPulls_31 rfl rfl ?_
        refine Go_invS (pc := 32) (y := yX7_isError) (avs := [.inl (M1 10 7)]) (rest := []) (x := .inl (b2i ((M1 10 7) < 0)))  (d' := d - 1) dX7_leastPulls_32 ln_X7_67 mo_X7_isError so_X7_isError rfl rfl rfl (Nat.le_of_ble_eq_true rfl) (by omega) (Nat.le_of_ble_eq_true rfl) rfl (s_X7_isError (by omega) (by omega)) ?_
        refine Go_ifneB (pc := 35) (tgt := 43) dX7_leastPulls_35 (by decide) (fun c35 => ?_) (fun c35 => ?_)
        · refine Go_iload_n (pc := 43) dX7_leastPulls_43 rfl rfl ?_
          first | (exfalso; omega) | exact Go_ireturn (pc := 44) dX7_leastPulls_44 rfl (by first | rw [w1 (by omega)] | rw [w2 (by omega)]) rfl
        · refine Go_iload_n (pc := 38) dX7_leastPulls_38 rfl rfl ?_
          refine Go_iconst (pc := 39) dX7_leastPulls_39 ?_
          refine Go_icmp_ne (pc := 40) (tgt := 45) dX7_leastPulls_40 (by decide) (by omega) (by decide) (fun c40 => ?_) (fun c40 => ?_)
          · refine Go_aload_n (pc := 45) dX7_leastPulls_45 rfl (by decide) rfl ?_
            refine Go_getr (pc := 46) (r := 10) dX7_leastPulls_46 fo_X7_43 (by decide) rfl rfl (by decide) ?_
            refine Go_iload_n (pc := 49) dX7_leastPulls_49 rfl rfl ?_
            refine Go_invV (pc := 50) (y := yX2_stepsOf) (avs := [.inl j]) (k := 10) (rest := []) (x := .inl (M1 15 j))  (d' := d - 1) dX7_leastPulls_50 ln_X7_140 mo_X2_stepsOf vo_X2_stepsOf rfl (rc_10) rfl rfl (Nat.le_of_ble_eq_true rfl) (by omega) (Nat.le_of_ble_eq_true rfl) rfl (s_X2_stepsOf (by omega) (by first | omega | (simp only [Nat.reduceAdd, setR_s]; omega) | (simp only [setR, Nat.reduceEqDiff, reduceIte]; omega)) (by first | omega | (simp only [Nat.reduceAdd, setR_s]; omega) | (simp only [setR, Nat.reduceEqDiff, reduceIte]; omega))) ?_
            refine Go_bipush (pc := 53) dX7_leastPulls_53 (by decide) (by decide) ?_
            refine Go_iadd (pc := 55) dX7_leastPulls_55 ?_
            first | (exfalso; omega) | exact Go_ireturn (pc := 56) dX7_leastPulls_56 rfl (by first | rw [w1 (by omega)] | rw [w2 (by omega)]) rfl
          · refine Go_iload_n (pc := 43) dX7_leastPulls_43 rfl rfl ?_
            first | (exfalso; omega) | exact Go_ireturn (pc := 44) dX7_leastPulls_44 rfl (by first | rw [w1 (by omega)] | rw [w2 (by omega)]) rfl
      · refine Go_aload_n (pc := 5) dX7_leastPulls_5 rfl (by decide) rfl ?_
        refine Go_getr (pc := 6) (r := 1) dX7_leastPulls_6 fo_X7_10 (by decide) rfl rfl (by decide) ?_
        refine Go_iload_n (pc := 9) dX7_leastPulls_9 rfl rfl ?_
        refine Go_invV (pc := 10) (y := yX1_hasString) (avs := [.inl j]) (k := 1) (rest := []) (x := .inl (b2i (0 ≤ j ∧ j < M 2 1)))  (d' := d - 1) dX7_leastPulls_10 ln_X7_114 mo_X1_hasString vo_X1_hasString rfl (rc_1) rfl rfl (Nat.le_of_ble_eq_true rfl) (by omega) (Nat.le_of_ble_eq_true rfl) rfl (s_X1_hasString (by omega) (by decide) (by omega) hW) ?_
        refine Go_ifneB (pc := 13) (tgt := 19) dX7_leastPulls_13 (by decide) (fun c13 => ?_) (fun c13 => ?_)
        · refine Go_aload_n (pc := 19) dX7_leastPulls_19 rfl (by decide) rfl ?_
          refine Go_getr (pc := 20) (r := 10) dX7_leastPulls_20 fo_X7_43 (by decide) rfl rfl (by decide) ?_
          refine Go_aload_n (pc := 23) dX7_leastPulls_23 rfl (by decide) rfl ?_
          refine Go_getr (pc := 24) (r := 1) dX7_leastPulls_24 fo_X7_10 (by decide) rfl rfl (by decide) ?_
          refine Go_invV (pc := 27) (y := yX2_find) (avs := [.inr 1]) (k := 10) (rest := []) (x := .inl (M1 10 7)) (M1 := M1) (d' := d - 1) dX7_leastPulls_27 ln_X7_137 mo_X2_find vo_X2_find rfl (rc_10) rfl rfl (Nat.le_of_ble_eq_true rfl) (by omega) (Nat.le_of_ble_eq_true rfl) rfl (g) ?_
          refine Go_istore_n (pc := 30) (L' := [some (.inr 0), some (.inl j), some (.inl (M1 10 7))]) dX7_leastPulls_30 rfl (by decide) rfl ?_
          refine Go_iload_n (pc := 31) dX7_leastPulls_31 rfl rfl ?_
          refine Go_invS (pc := 32) (y := yX7_isError) (avs := [.inl (M1 10 7)]) (rest := []) (x := .inl (b2i ((M1 10 7) < 0)))  (d' := d - 1) dX7_leastPulls_32 ln_X7_67 mo_X7_isError so_X7_isError rfl rfl rfl (Nat.le_of_ble_eq_true rfl) (by omega) (Nat.le_of_ble_eq_true rfl) rfl (s_X7_isError (by omega) (by omega)) ?_
          refine Go_ifneB (pc := 35) (tgt := 43) dX7_leastPulls_35 (by decide) (fun c35a => ?_) (fun c35a => ?_)
          · refine Go_iload_n (pc := 43) dX7_leastPulls_43 rfl rfl ?_
            first | (exfalso; omega) | exact Go_ireturn (pc := 44) dX7_leastPulls_44 rfl (by first | rw [w1 (by omega)] | rw [w2 (by omega)]) rfl
          · refine Go_iload_n (pc := 38) dX7_leastPulls_38 rfl rfl ?_
            refine Go_iconst (pc := 39) dX7_leastPulls_39 ?_
            refine Go_icmp_ne (pc := 40) (tgt := 45) dX7_leastPulls_40 (by decide) (by omega) (by decide) (fun c40a => ?_) (fun c40a => ?_)
            · refine Go_aload_n (pc := 45) dX7_leastPulls_45 rfl (by decide) rfl ?_
              refine Go_getr (pc := 46) (r := 10) dX7_leastPulls_46 fo_X7_43 (by decide) rfl rfl (by decide) ?_
              refine Go_iload_n (pc := 49) dX7_leastPulls_49 rfl rfl ?_
              refine Go_invV (pc := 50) (y := yX2_stepsOf) (avs := [.inl j]) (k := 10) (rest := []) (x := .inl (M1 15 j))  (d' := d - 1) dX7_leastPulls_50 ln_X7_140 mo_X2_stepsOf vo_X2_stepsOf rfl (rc_10) rfl rfl (Nat.le_of_ble_eq_true rfl) (by omega) (Nat.le_of_ble_eq_true rfl) rfl (s_X2_stepsOf (by omega) (by first | omega | (simp only [Nat.reduceAdd, setR_s]; omega) | (simp only [setR, Nat.reduceEqDiff, reduceIte]; omega)) (by first | omega | (simp only [Nat.reduceAdd, setR_s]; omega) | (simp only [setR, Nat.reduceEqDiff, reduceIte]; omega))) ?_
              refine Go_bipush (pc := 53) dX7_leastPulls_53 (by decide) (by decide) ?_
              refine Go_iadd (pc := 55) dX7_leastPulls_55 ?_
              first | (exfalso; omega) | exact Go_ireturn (pc := 56) dX7_leastPulls_56 rfl (by first | rw [w1 (by omega)] | rw [w2 (by omega)]) rfl
            · refine Go_iload_n (pc := 43) dX7_leastPulls_43 rfl rfl ?_
              first | (exfalso; omega) | exact Go_ireturn (pc := 44) dX7_leastPulls_44 rfl (by first | rw [w1 (by omega)] | rw [w2 (by omega)]) rfl
        · refine Go_ldc (pc := 16) (n := -1000001) rfl kc_X7_94 dX7_leastPulls_16 ?_
          first | (exfalso; omega) | exact Go_ireturn (pc := 18) dX7_leastPulls_18 rfl (by first | rw [w1 (by omega)] | rw [w2 (by omega)]) rfl
    · rw [lpV_n c7] at g
      have w1 : lpW (M1 10 7) (M1 15) j = -1000004 := if_neg c7
      refine Go_iload_n (pc := 0) dX7_leastPulls_0 rfl rfl ?_
      refine Go_iconst (pc := 1) dX7_leastPulls_1 ?_
      refine Go_icmp_eq (pc := 2) (tgt := 19) dX7_leastPulls_2 (by decide) (by omega) (by decide) (fun c2 => ?_) (fun c2 => ?_)
      · refine Go_aload_n (pc := 19) dX7_leastPulls_19 rfl (by decide) rfl ?_
        refine Go_getr (pc := 20) (r := 10) dX7_leastPulls_20 fo_X7_43 (by decide) rfl rfl (by decide) ?_
        refine Go_aload_n (pc := 23) dX7_leastPulls_23 rfl (by decide) rfl ?_
        refine Go_getr (pc := 24) (r := 1) dX7_leastPulls_24 fo_X7_10 (by decide) rfl rfl (by decide) ?_
        refine Go_invV (pc := 27) (y := yX2_find) (avs := [.inr 1]) (k := 10) (rest := []) (x := .inl (-1000004)) (M1 := M1) (d' := d - 1) dX7_leastPulls_27 ln_X7_137 mo_X2_find vo_X2_find rfl (rc_10) rfl rfl (Nat.le_of_ble_eq_true rfl) (by omega) (Nat.le_of_ble_eq_true rfl) rfl (g) ?_
        refine Go_istore_n (pc := 30) (L' := [some (.inr 0), some (.inl j), some (.inl (-1000004))]) dX7_leastPulls_30 rfl (by decide) rfl ?_
        refine Go_iload_n (pc := 31) dX7_leastPulls_31 rfl rfl ?_
        refine Go_invS (pc := 32) (y := yX7_isError) (avs := [.inl (-1000004)]) (rest := []) (x := .inl (b2i ((-1000004) < 0)))  (d' := d - 1) dX7_leastPulls_32 ln_X7_67 mo_X7_isError so_X7_isError rfl rfl rfl (Nat.le_of_ble_eq_true rfl) (by omega) (Nat.le_of_ble_eq_true rfl) rfl (s_X7_isError (by omega) (by decide)) ?_
        refine Go_ifneB (pc := 35) (tgt := 43) dX7_leastPulls_35 (by decide) (fun c35 => ?_) (fun c35 => ?_)
        · refine Go_iload_n (pc := 43) dX7_leastPulls_43 rfl rfl ?_
          first | (exfalso; omega) | exact Go_ireturn (pc := 44) dX7_leastPulls_44 rfl (by rw [w1]) rfl
        · refine Go_iload_n (pc := 38) dX7_leastPulls_38 rfl rfl ?_
          refine Go_iconst (pc := 39) dX7_leastPulls_39 ?_
          refine Go_icmp_ne (pc := 40) (tgt := 45) dX7_leastPulls_40 (by decide) (by omega) (by decide) (fun c40 => ?_) (fun c40 => ?_)
          · refine Go_aload_n (pc := 45) dX7_leastPulls_45 rfl (by decide) rfl ?_
            refine Go_getr (pc := 46) (r := 10) dX7_leastPulls_46 fo_X7_43 (by decide) rfl rfl (by decide) ?_
            refine Go_iload_n (pc := 49) dX7_leastPulls_49 rfl rfl ?_
            refine Go_invV (pc := 50) (y := yX2_stepsOf) (avs := [.inl j]) (k := 10) (rest := []) (x := .inl (M1 15 j))  (d' := d - 1) dX7_leastPulls_50 ln_X7_140 mo_X2_stepsOf vo_X2_stepsOf rfl (rc_10) rfl rfl (Nat.le_of_ble_eq_true rfl) (by omega) (Nat.le_of_ble_eq_true rfl) rfl (s_X2_stepsOf (by omega) (by first | omega | (simp only [Nat.reduceAdd, setR_s]; omega) | (simp only [setR, Nat.reduceEqDiff, reduceIte]; omega)) (by first | omega | (simp only [Nat.reduceAdd, setR_s]; omega) | (simp only [setR, Nat.reduceEqDiff, reduceIte]; omega))) ?_
            refine Go_bipush (pc := 53) dX7_leastPulls_53 (by decide) (by decide) ?_
            refine Go_iadd (pc := 55) dX7_leastPulls_55 ?_
            first | (exfalso; omega) | exact Go_ireturn (pc := 56) dX7_leastPulls_56 rfl (by rw [w1]) rfl
          · refine Go_iload_n (pc := 43) dX7_leastPulls_43 rfl rfl ?_
            first | (exfalso; omega) | exact Go_ireturn (pc := 44) dX7_leastPulls_44 rfl (by rw [w1]) rfl
      · refine Go_aload_n (pc := 5) dX7_leastPulls_5 rfl (by decide) rfl ?_
        refine Go_getr (pc := 6) (r := 1) dX7_leastPulls_6 fo_X7_10 (by decide) rfl rfl (by decide) ?_
        refine Go_iload_n (pc := 9) dX7_leastPulls_9 rfl rfl ?_
        refine Go_invV (pc := 10) (y := yX1_hasString) (avs := [.inl j]) (k := 1) (rest := []) (x := .inl (b2i (0 ≤ j ∧ j < M 2 1)))  (d' := d - 1) dX7_leastPulls_10 ln_X7_114 mo_X1_hasString vo_X1_hasString rfl (rc_1) rfl rfl (Nat.le_of_ble_eq_true rfl) (by omega) (Nat.le_of_ble_eq_true rfl) rfl (s_X1_hasString (by omega) (by decide) (by omega) hW) ?_
        refine Go_ifneB (pc := 13) (tgt := 19) dX7_leastPulls_13 (by decide) (fun c13 => ?_) (fun c13 => ?_)
        · refine Go_aload_n (pc := 19) dX7_leastPulls_19 rfl (by decide) rfl ?_
          refine Go_getr (pc := 20) (r := 10) dX7_leastPulls_20 fo_X7_43 (by decide) rfl rfl (by decide) ?_
          refine Go_aload_n (pc := 23) dX7_leastPulls_23 rfl (by decide) rfl ?_
          refine Go_getr (pc := 24) (r := 1) dX7_leastPulls_24 fo_X7_10 (by decide) rfl rfl (by decide) ?_
          refine Go_invV (pc := 27) (y := yX2_find) (avs := [.inr 1]) (k := 10) (rest := []) (x := .inl (-1000004)) (M1 := M1) (d' := d - 1) dX7_leastPulls_27 ln_X7_137 mo_X2_find vo_X2_find rfl (rc_10) rfl rfl (Nat.le_of_ble_eq_true rfl) (by omega) (Nat.le_of_ble_eq_true rfl) rfl (g) ?_
          refine Go_istore_n (pc := 30) (L' := [some (.inr 0), some (.inl j), some (.inl (-1000004))]) dX7_leastPulls_30 rfl (by decide) rfl ?_
          refine Go_iload_n (pc := 31) dX7_leastPulls_31 rfl rfl ?_
          refine Go_invS (pc := 32) (y := yX7_isError) (avs := [.inl (-1000004)]) (rest := []) (x := .inl (b2i ((-1000004) < 0)))  (d' := d - 1) dX7_leastPulls_32 ln_X7_67 mo_X7_isError so_X7_isError rfl rfl rfl (Nat.le_of_ble_eq_true rfl) (by omega) (Nat.le_of_ble_eq_true rfl) rfl (s_X7_isError (by omega) (by decide)) ?_
          refine Go_ifneB (pc := 35) (tgt := 43) dX7_leastPulls_35 (by decide) (fun c35a => ?_) (fun c35a => ?_)
          · refine Go_iload_n (pc := 43) dX7_leastPulls_43 rfl rfl ?_
            first | (exfalso; omega) | exact Go_ireturn (pc := 44) dX7_leastPulls_44 rfl (by rw [w1]) rfl
          · refine Go_iload_n (pc := 38) dX7_leastPulls_38 rfl rfl ?_
            refine Go_iconst (pc := 39) dX7_leastPulls_39 ?_
            refine Go_icmp_ne (pc := 40) (tgt := 45) dX7_leastPulls_40 (by decide) (by omega) (by decide) (fun c40a => ?_) (fun c40a => ?_)
            · refine Go_aload_n (pc := 45) dX7_leastPulls_45 rfl (by decide) rfl ?_
              refine Go_getr (pc := 46) (r := 10) dX7_leastPulls_46 fo_X7_43 (by decide) rfl rfl (by decide) ?_
              refine Go_iload_n (pc := 49) dX7_leastPulls_49 rfl rfl ?_
              refine Go_invV (pc := 50) (y := yX2_stepsOf) (avs := [.inl j]) (k := 10) (rest := []) (x := .inl (M1 15 j))  (d' := d - 1) dX7_leastPulls_50 ln_X7_140 mo_X2_stepsOf vo_X2_stepsOf rfl (rc_10) rfl rfl (Nat.le_of_ble_eq_true rfl) (by omega) (Nat.le_of_ble_eq_true rfl) rfl (s_X2_stepsOf (by omega) (by first | omega | (simp only [Nat.reduceAdd, setR_s]; omega) | (simp only [setR, Nat.reduceEqDiff, reduceIte]; omega)) (by first | omega | (simp only [Nat.reduceAdd, setR_s]; omega) | (simp only [setR, Nat.reduceEqDiff, reduceIte]; omega))) ?_
              refine Go_bipush (pc := 53) dX7_leastPulls_53 (by decide) (by decide) ?_
              refine Go_iadd (pc := 55) dX7_leastPulls_55 ?_
              first | (exfalso; omega) | exact Go_ireturn (pc := 56) dX7_leastPulls_56 rfl (by rw [w1]) rfl
            · refine Go_iload_n (pc := 43) dX7_leastPulls_43 rfl rfl ?_
              first | (exfalso; omega) | exact Go_ireturn (pc := 44) dX7_leastPulls_44 rfl (by rw [w1]) rfl
        · refine Go_ldc (pc := 16) (n := -1000001) rfl kc_X7_94 dX7_leastPulls_16 ?_
          first | (exfalso; omega) | exact Go_ireturn (pc := 18) dX7_leastPulls_18 rfl (by rw [w1]) rfl
  · refine ⟨M, -1000001, ?_, fun k _ => rfl, Or.inl ⟨c, rfl⟩⟩
    refine Go_iload_n (pc := 0) dX7_leastPulls_0 rfl rfl ?_
    refine Go_iconst (pc := 1) dX7_leastPulls_1 ?_
    refine Go_icmp_eq (pc := 2) (tgt := 19) dX7_leastPulls_2 (by decide) (by omega) (by decide) (fun c2 => ?_) (fun c2 => ?_)
    · exfalso; omega
    · refine Go_aload_n (pc := 5) dX7_leastPulls_5 rfl (by decide) rfl ?_
      refine Go_getr (pc := 6) (r := 1) dX7_leastPulls_6 fo_X7_10 (by decide) rfl rfl (by decide) ?_
      refine Go_iload_n (pc := 9) dX7_leastPulls_9 rfl rfl ?_
      refine Go_invV (pc := 10) (y := yX1_hasString) (avs := [.inl j]) (k := 1) (rest := []) (x := .inl (b2i (0 ≤ j ∧ j < M 2 1)))  (d' := d - 1) dX7_leastPulls_10 ln_X7_114 mo_X1_hasString vo_X1_hasString rfl (rc_1) rfl rfl (Nat.le_of_ble_eq_true rfl) (by omega) (Nat.le_of_ble_eq_true rfl) rfl (s_X1_hasString (by omega) (by decide) (by omega) hW) ?_
      refine Go_ifneB (pc := 13) (tgt := 19) dX7_leastPulls_13 (by decide) (fun c13 => ?_) (fun c13 => ?_)
      · exfalso; omega
      · refine Go_ldc (pc := 16) (n := -1000001) rfl kc_X7_94 dX7_leastPulls_16 ?_
        exact Go_ireturn (pc := 18) dX7_leastPulls_18 rfl (by first | rfl | (simp_all; done)) rfl
/-- the pulls of all strings, one behind the other -/
def rdN (f b : Int → Int) : Nat → Int → Int
  | 0 => f
  | m + 1 => pullC (rdN f b m) m (b m)
def rdZ (f b : Int → Int) (i : Int) : Int → Int := rdN f b i.toNat
theorem rdZ_s (f b : Int → Int) {i : Int} (h : 0 ≤ i) : rdZ f b (i + 1) = pullC (rdZ f b i) i (b i) := by
  unfold rdZ
  rw [show (i + 1).toNat = i.toNat + 1 by omega]
  show pullC _ ((i.toNat : Nat) : Int) (b ((i.toNat : Nat) : Int)) = _
  rw [toN h]
theorem rdN_W {f : Int → Int} (h : Wf f) (b : Int → Int) : ∀ m, Wf (rdN f b m) ∧ ∀ q, q < 7 → q ≠ 4 → rdN f b m q = f q
  | 0 => ⟨h, fun _ _ _ => rfl⟩
  | m + 1 => by
    have a := rdN_W h b m
    have c := pullC_W a.1 (m : Int) (b m)
    exact ⟨c.1, fun q hq h4 => (c.2 q hq h4).trans (a.2 q hq h4)⟩
theorem rdZ_W {f : Int → Int} (h : Wf f) (b : Int → Int) (i : Int) : Wf (rdZ f b i) ∧ ∀ q, q < 7 → q ≠ 4 → rdZ f b i q = f q := rdN_W h b _
theorem rdZ_c {f b b2 : Int → Int} {n : Int} (h : agr n b b2) : rdZ f b n = rdZ f b2 n := by
  have H : ∀ m : Nat, (m : Int) ≤ n → rdN f b m = rdN f b2 m := by
    intro m
    induction m with
    | zero => intro _; rfl
    | succ m ih =>
      intro hm
      show pullC (rdN f b m) m (b m) = pullC (rdN f b2 m) m (b2 m)
      rw [ih (by omega), h m (by omega) (by omega)]
  unfold rdZ
  by_cases z : 0 ≤ n
  · exact H _ (by omega)
  · rw [show n.toNat = 0 by omega]; rfl
def rdV (f b : Int → Int) : Int := b2i (standF (rdZ f b (f 1)) = toldF (rdZ f b (f 1)))
def rdW (f : Int → Int) (l : Int) (b : Int → Int) : Int := if l < 37 then rdV f b else -1000004
def RDA (f : Int → Int) (v : Int) : Prop := ∃ l b, LeP f l b ∧ v = rdW f l b
theorem RDA_one {f : Int → Int} (hW : Wf f) {v w : Int} (h : RDA f v) (h2 : RDA f w) : v = w := by
  obtain ⟨l, b, g, e⟩ := h
  obtain ⟨l2, b2, g2, e2⟩ := h2
  have o := LeP_one hW g g2
  rw [e, e2]
  unfold rdW
  by_cases c : l < 37
  · rw [if_pos c, if_pos (show l2 < 37 by omega)]
    unfold rdV
    rw [rdZ_c (o.2 c)]
  · rw [if_neg c, if_neg (show ¬ l2 < 37 by omega)]
theorem s_X7_reallyDo {d : Nat} (hd : 9 ≤ d) {M : gMem} (hW : Wf (M 2)) (h4 : Oz (M 4)) : ∃ M' v, Go d RX7 cX7_reallyDo 5 (some .int) 0 [some (.inr 0), none, none, none, none] [] M (some (.inl v)) M' ∧ (∀ k, k ≠ 4 → k < 10 ∨ 15 < k → M' k = M k) ∧ Oz (M' 4) ∧ RDA (M 2) v := by
  have ht := hW.t
  obtain ⟨M1, g, fr, lp⟩ := s_X2_find (d := d - 1) (by omega) hW
  have lb := LeP_b hW lp
  by_cases c7 : M1 10 7 < 37
  · rw [lpV_y c7] at g
    have r2 : M1 2 = M 2 := fr 2 (by omega)
    have r4 : M1 4 = M 4 := fr 4 (by omega)
    have hb := lb.2 c7
    refine ⟨setR M1 4 (rdZ (M 2) (M1 15) (M 2 1)), rdW (M 2) (M1 10 7) (M1 15), ?_, fun k k4 hk => (setR_n k4).trans (fr k hk), (by rw [setR_s]; exact (rdZ_W hW _ _).1.o), ⟨_, _, lp, rfl⟩⟩
    have ev : rdW (M 2) (M1 10 7) (M1 15) = rdV (M 2) (M1 15) := if_pos c7
    rw [ev]
    have K : ∀ i, 0 ≤ i → i ≤ M 2 1 → ∀ x : Option MV, Go d RX7 cX7_reallyDo 5 (some .int) 28 [some (.inr 0), some (.inl (M1 10 7)), some (.inr 3), some (.inl i), x] [] (setR M1 4 (rdZ (M 2) (M1 15) i)) (some (.inl (rdV (M 2) (M1 15)))) (setR M1 4 (rdZ (M 2) (M1 15) (M 2 1))) := by
      refine up_ind 0 (M 2 1) _ (fun i i0 i1 ih x => ?_)
      obtain ⟨hP, hq⟩ := rdZ_W hW (M1 15) i
      have hbi := hb i i0
      rw [rdZ_s _ _ i0] at ih
      have eE : i = M 2 1 → rdV (M 2) (M1 15) = b2i (standF (rdZ (M 2) (M1 15) i) = toldF (rdZ (M 2) (M1 15) i)) ∧ rdZ (M 2) (M1 15) (M 2 1) = rdZ (M 2) (M1 15) i := fun e => by subst e; exact ⟨rfl, rfl⟩
      generalize rdZ (M 2) (M1 15) i = P at ih hP hq eE ⊢
      have q1 := hq 1 (by decide) (by decide)
      have b1 := standF_b hP
      have b2 := toldF_b hP
      refine Go_iload_n (pc := 28) dX7_reallyDo_28 rfl rfl ?_
      refine Go_aload_n (pc := 29) dX7_reallyDo_29 rfl (by decide) rfl ?_
      refine Go_invV (pc := 30) (y := yX1_strings) (avs := []) (k := 3) (rest := [.inl i]) (x := .inl (P 1))  (d' := d - 1) dX7_reallyDo_30 ln_X7_143 mo_X1_strings vo_X1_strings rfl (rc_3) rfl rfl (Nat.le_of_ble_eq_true rfl) (by omega) (Nat.le_of_ble_eq_true rfl) rfl (s_X1_strings (by omega) (by decide)) ?_
      refine Go_icmp_ge (pc := 33) (tgt := 65) dX7_reallyDo_33 (by decide) (by omega) (by omega) (fun c33 => ?_) (fun c33 => ?_)
      · refine Go_aload_n (pc := 65) dX7_reallyDo_65 rfl (by decide) rfl ?_
        refine Go_invV (pc := 66) (y := yX1_standing) (avs := []) (k := 3) (rest := []) (x := .inl (standF P))  (d' := d - 1) dX7_reallyDo_66 ln_X7_131 mo_X1_standing vo_X1_standing rfl (rc_3) rfl rfl (Nat.le_of_ble_eq_true rfl) (by omega) (Nat.le_of_ble_eq_true rfl) rfl (s_X1_standing (by omega) (by decide) hP) ?_
        refine Go_aload_n (pc := 69) dX7_reallyDo_69 rfl (by decide) rfl ?_
        refine Go_invV (pc := 70) (y := yX1_told) (avs := []) (k := 3) (rest := [.inl (standF P)]) (x := .inl (toldF P))  (d' := d - 1) dX7_reallyDo_70 ln_X7_146 mo_X1_told vo_X1_told rfl (rc_3) rfl rfl (Nat.le_of_ble_eq_true rfl) (by omega) (Nat.le_of_ble_eq_true rfl) rfl (s_X1_told (by omega) (by decide) hP) ?_
        refine Go_icmp_ne (pc := 73) (tgt := 80) dX7_reallyDo_73 (by decide) (by omega) (by omega) (fun c73 => ?_) (fun c73 => ?_)
        · refine Go_iconst (pc := 80) dX7_reallyDo_80 ?_
          have ee := (eE (by omega)).1
          first | rw [b2i_t (by omega)] at ee | rw [b2i_f (by omega)] at ee
          exact Go_ireturn (pc := 81) dX7_reallyDo_81 rfl (by rw [ee]) (by rw [(eE (by omega)).2])
        · refine Go_iconst (pc := 76) dX7_reallyDo_76 ?_
          refine Go_goto (pc := 77) (tgt := 81) dX7_reallyDo_77 (by decide) ?_
          have ee := (eE (by omega)).1
          first | rw [b2i_t (by omega)] at ee | rw [b2i_f (by omega)] at ee
          exact Go_ireturn (pc := 81) dX7_reallyDo_81 rfl (by rw [ee]) (by rw [(eE (by omega)).2])
      · refine Go_aload_n (pc := 36) dX7_reallyDo_36 rfl (by decide) rfl ?_
        refine Go_getr (pc := 37) (r := 10) dX7_reallyDo_37 fo_X7_43 (by decide) rfl rfl (by decide) ?_
        refine Go_iload_n (pc := 40) dX7_reallyDo_40 rfl rfl ?_
        refine Go_invV (pc := 41) (y := yX2_stepsOf) (avs := [.inl i]) (k := 10) (rest := []) (x := .inl (M1 15 i))  (d' := d - 1) dX7_reallyDo_41 ln_X7_140 mo_X2_stepsOf vo_X2_stepsOf rfl (rc_10) rfl rfl (Nat.le_of_ble_eq_true rfl) (by omega) (Nat.le_of_ble_eq_true rfl) rfl (s_X2_stepsOf (by omega) (by first | omega | (simp only [Nat.reduceAdd, setR_s]; omega) | (simp only [setR, Nat.reduceEqDiff, reduceIte]; omega)) (by first | omega | (simp only [Nat.reduceAdd, setR_s]; omega) | (simp only [setR, Nat.reduceEqDiff, reduceIte]; omega))) ?_
        refine Go_istore (pc := 44) (L' := [some (.inr 0), some (.inl (M1 10 7)), some (.inr 3), some (.inl i), some (.inl (M1 15 i))]) dX7_reallyDo_44 (by decide) rfl ?_
        refine Go_iload (pc := 46) dX7_reallyDo_46 rfl ?_
        refine Go_if_eq (pc := 48) (tgt := 59) dX7_reallyDo_48 (by decide) (by omega) (fun c48 => ?_) (fun c48 => ?_)
        · refine Go_iinc (pc := 59) (L' := [some (.inr 0), some (.inl (M1 10 7)), some (.inr 3), some (.inl (i + 1)), some (.inl (M1 15 i))]) dX7_reallyDo_59 rfl (by decide) rfl ?_
          refine Go_goto (pc := 62) (tgt := 28) dX7_reallyDo_62 (by decide) ?_
          refine Go_M ?_ (ih (by omega) _)
          first | rfl | (rw [pullC_n (fun z => z.2.1 (by omega))])
        · refine Go_aload_n (pc := 51) dX7_reallyDo_51 rfl (by decide) rfl ?_
          refine Go_iload_n (pc := 52) dX7_reallyDo_52 rfl rfl ?_
          refine Go_iload (pc := 53) dX7_reallyDo_53 rfl ?_
          refine Go_invS (pc := 55) (y := yX6_pullBy) (avs := [.inr 3, .inl i, .inl (M1 15 i)]) (rest := []) (x := .inl (pullB P i (M1 15 i)))  (d' := d - 1) dX7_reallyDo_55 ln_X7_64 mo_X6_pullBy so_X6_pullBy rfl rfl rfl (Nat.le_of_ble_eq_true rfl) (by omega) (Nat.le_of_ble_eq_true rfl) rfl (s_X6_pullBy (by omega) hP (by omega) (by omega)) ?_
          refine Go_M (M1 := setR M1 4 (pullC P i (M1 15 i))) ((setR_tw _ _ _ _).trans rfl) ?_
          refine Go_pop (pc := 58) dX7_reallyDo_58 ?_
          refine Go_iinc (pc := 59) (L' := [some (.inr 0), some (.inl (M1 10 7)), some (.inr 3), some (.inl (i + 1)), some (.inl (M1 15 i))]) dX7_reallyDo_59 rfl (by decide) rfl ?_
          refine Go_goto (pc := 62) (tgt := 28) dX7_reallyDo_62 (by decide) ?_
          refine Go_M ?_ (ih (by omega) _)
          first | rfl | (rw [pullC_n (fun z => z.2.1 (by omega))])
    refine Go_aload_n (pc := 0) dX7_reallyDo_0 rfl (by decide) rfl ?_
    refine Go_getr (pc := 1) (r := 10) dX7_reallyDo_1 fo_X7_43 (by decide) rfl rfl (by decide) ?_
    refine Go_aload_n (pc := 4) dX7_reallyDo_4 rfl (by decide) rfl ?_
    refine Go_getr (pc := 5) (r := 1) dX7_reallyDo_5 fo_X7_10 (by decide) rfl rfl (by decide) ?_
    refine Go_invV (pc := 8) (y := yX2_find) (avs := [.inr 1]) (k := 10) (rest := []) (x := .inl (M1 10 7)) (M1 := M1) (d' := d - 1) dX7_reallyDo_8 ln_X7_137 mo_X2_find vo_X2_find rfl (rc_10) rfl rfl (Nat.le_of_ble_eq_true rfl) (by omega) (Nat.le_of_ble_eq_true rfl) rfl (g) ?_
    refine Go_istore_n (pc := 11) (L' := [some (.inr 0), some (.inl (M1 10 7)), none, none, none]) dX7_reallyDo_11 rfl (by decide) rfl ?_
    refine Go_iload_n (pc := 12) dX7_reallyDo_12 rfl rfl ?_
    refine Go_invS (pc := 13) (y := yX7_isError) (avs := [.inl (M1 10 7)]) (rest := []) (x := .inl (b2i ((M1 10 7) < 0)))  (d' := d - 1) dX7_reallyDo_13 ln_X7_67 mo_X7_isError so_X7_isError rfl rfl rfl (Nat.le_of_ble_eq_true rfl) (by omega) (Nat.le_of_ble_eq_true rfl) rfl (s_X7_isError (by omega) (by omega)) ?_
    refine Go_ifeqB (pc := 16) (tgt := 21) dX7_reallyDo_16 (by decide) (fun c16 => ?_) (fun c16 => ?_)
    · refine Go_aload_n (pc := 21) dX7_reallyDo_21 rfl (by decide) rfl ?_
      refine Go_invV (pc := 22) (y := yX7_freshTrial) (avs := []) (k := 0) (rest := []) (x := .inr 3) (M1 := setR M1 4 (M1 2)) (d' := d - 1) dX7_reallyDo_22 ln_X7_47 mo_X7_freshTrial vo_X7_freshTrial rfl (rc_0) rfl rfl (Nat.le_of_ble_eq_true rfl) (by omega) (Nat.le_of_ble_eq_true rfl) rfl (s_X7_freshTrial (by omega) (show Oz (M1 2) by rw [r2]; exact hW.o) (show Oz (M1 4) by rw [r4]; exact h4)) ?_
      refine Go_astore_n (pc := 25) (L' := [some (.inr 0), some (.inl (M1 10 7)), some (.inr 3), none, none]) dX7_reallyDo_25 rfl (by decide) (by decide) rfl ?_
      refine Go_iconst (pc := 26) dX7_reallyDo_26 ?_
      refine Go_istore_n (pc := 27) (L' := [some (.inr 0), some (.inl (M1 10 7)), some (.inr 3), some (.inl 0), none]) dX7_reallyDo_27 rfl (by decide) rfl ?_
      refine Go_M ?_ (K 0 (by omega) (by omega) none)
      rw [show rdZ (M 2) (M1 15) 0 = M 2 from rfl, r2]
    · refine Go_iload_n (pc := 19) dX7_reallyDo_19 rfl rfl ?_
      exfalso; omega
  · rw [lpV_n c7] at g
    refine ⟨M1, rdW (M 2) (M1 10 7) (M1 15), ?_, fun k _ hk => fr k hk, (by rw [fr 4 (by omega)]; exact h4), ⟨_, _, lp, rfl⟩⟩
    have ev : rdW (M 2) (M1 10 7) (M1 15) = -1000004 := if_neg c7
    rw [ev]
    refine Go_aload_n (pc := 0) dX7_reallyDo_0 rfl (by decide) rfl ?_
    refine Go_getr (pc := 1) (r := 10) dX7_reallyDo_1 fo_X7_43 (by decide) rfl rfl (by decide) ?_
    refine Go_aload_n (pc := 4) dX7_reallyDo_4 rfl (by decide) rfl ?_
    refine Go_getr (pc := 5) (r := 1) dX7_reallyDo_5 fo_X7_10 (by decide) rfl rfl (by decide) ?_
    refine Go_invV (pc := 8) (y := yX2_find) (avs := [.inr 1]) (k := 10) (rest := []) (x := .inl (-1000004)) (M1 := M1) (d' := d - 1) dX7_reallyDo_8 ln_X7_137 mo_X2_find vo_X2_find rfl (rc_10) rfl rfl (Nat.le_of_ble_eq_true rfl) (by omega) (Nat.le_of_ble_eq_true rfl) rfl (g) ?_
    refine Go_istore_n (pc := 11) (L' := [some (.inr 0), some (.inl (-1000004)), none, none, none]) dX7_reallyDo_11 rfl (by decide) rfl ?_
    refine Go_iload_n (pc := 12) dX7_reallyDo_12 rfl rfl ?_
    refine Go_invS (pc := 13) (y := yX7_isError) (avs := [.inl (-1000004)]) (rest := []) (x := .inl (b2i ((-1000004) < 0)))  (d' := d - 1) dX7_reallyDo_13 ln_X7_67 mo_X7_isError so_X7_isError rfl rfl rfl (Nat.le_of_ble_eq_true rfl) (by omega) (Nat.le_of_ble_eq_true rfl) rfl (s_X7_isError (by omega) (by decide)) ?_
    refine Go_ifeqB (pc := 16) (tgt := 21) dX7_reallyDo_16 (by decide) (fun c16 => ?_) (fun c16 => ?_)
    · exfalso; omega
    · refine Go_iload_n (pc := 19) dX7_reallyDo_19 rfl rfl ?_
      exact Go_ireturn (pc := 20) dX7_reallyDo_20 rfl (by first | rfl | (simp_all; done)) rfl
