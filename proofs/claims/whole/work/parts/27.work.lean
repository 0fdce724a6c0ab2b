/-! Work on the trial; the reference's changes of its row -/
theorem s_X6_addShade {d : Nat} (hd : 1 ≤ d) {a b : Int} {M : gMem} (hW : Wf (M 4)) (ha : inR a) (hb : inR b) : Go d RX6 cX6_addShade 4 (some .int) 0 [some (.inr 3), some (.inl a), some (.inl b), none] [] M (some (.inl ((shadeR (M 4) a b).1))) (setR M 4 (shadeR (M 4) a b).2) := by
  have hn := hW.n
  refine Go_iload_n (pc := 0) dX6_addShade_0 rfl rfl ?_
  refine Go_if_lt (pc := 1) (tgt := 20) dX6_addShade_1 (by decide) (by omega) (fun c1 => ?_) (fun c1 => ?_)
  · refine Go_ldc (pc := 20) (n := -1000001) rfl kc_X6_9 dX6_addShade_20 ?_
    exact Go_ireturn (pc := 22) dX6_addShade_22 rfl (by unfold shadeR; (repeat (first | rw [if_pos (by omega)] | rw [if_neg (by omega)])); try rfl) (by unfold shadeR; (repeat (first | rw [if_pos (by omega)] | rw [if_neg (by omega)])); first | done | exact setR_id _ _ | rfl)
  · refine Go_iload_n (pc := 4) dX6_addShade_4 rfl rfl ?_
    refine Go_bipush (pc := 5) dX6_addShade_5 (by decide) (by decide) ?_
    refine Go_icmp_ge (pc := 7) (tgt := 20) dX6_addShade_7 (by decide) (by omega) (by decide) (fun c7 => ?_) (fun c7 => ?_)
    · refine Go_ldc (pc := 20) (n := -1000001) rfl kc_X6_9 dX6_addShade_20 ?_
      exact Go_ireturn (pc := 22) dX6_addShade_22 rfl (by unfold shadeR; (repeat (first | rw [if_pos (by omega)] | rw [if_neg (by omega)])); try rfl) (by unfold shadeR; (repeat (first | rw [if_pos (by omega)] | rw [if_neg (by omega)])); first | done | exact setR_id _ _ | rfl)
    · refine Go_iload_n (pc := 10) dX6_addShade_10 rfl rfl ?_
      refine Go_if_lt (pc := 11) (tgt := 20) dX6_addShade_11 (by decide) (by omega) (fun c11 => ?_) (fun c11 => ?_)
      · refine Go_ldc (pc := 20) (n := -1000001) rfl kc_X6_9 dX6_addShade_20 ?_
        exact Go_ireturn (pc := 22) dX6_addShade_22 rfl (by unfold shadeR; (repeat (first | rw [if_pos (by omega)] | rw [if_neg (by omega)])); try rfl) (by unfold shadeR; (repeat (first | rw [if_pos (by omega)] | rw [if_neg (by omega)])); first | done | exact setR_id _ _ | rfl)
      · refine Go_iload_n (pc := 14) dX6_addShade_14 rfl rfl ?_
        refine Go_bipush (pc := 15) dX6_addShade_15 (by decide) (by decide) ?_
        refine Go_icmp_le (pc := 17) (tgt := 23) dX6_addShade_17 (by decide) (by omega) (by decide) (fun c17 => ?_) (fun c17 => ?_)
        · refine Go_aload_n (pc := 23) dX6_addShade_23 rfl (by decide) rfl ?_
          refine Go_invV (pc := 24) (y := yX1_shades) (avs := []) (k := 3) (rest := []) (x := .inl (M 4 0))  (d' := d - 1) dX6_addShade_24 ln_X6_10 mo_X1_shades vo_X1_shades rfl (rc_3) rfl rfl (Nat.le_of_ble_eq_true rfl) (by omega) (Nat.le_of_ble_eq_true rfl) rfl (s_X1_shades (by omega) (by decide)) ?_
          refine Go_istore_n (pc := 27) (L' := [some (.inr 3), some (.inl a), some (.inl b), some (.inl (M 4 0))]) dX6_addShade_27 rfl (by decide) rfl ?_
          refine Go_iload_n (pc := 28) dX6_addShade_28 rfl rfl ?_
          refine Go_bipush (pc := 29) dX6_addShade_29 (by decide) (by decide) ?_
          refine Go_icmp_lt (pc := 31) (tgt := 37) dX6_addShade_31 (by decide) (by omega) (by decide) (fun c31 => ?_) (fun c31 => ?_)
          · refine Go_aload_n (pc := 37) dX6_addShade_37 rfl (by decide) rfl ?_
            refine Go_iload_n (pc := 38) dX6_addShade_38 rfl rfl ?_
            refine Go_iconst (pc := 39) dX6_addShade_39 ?_
            refine Go_iload_n (pc := 40) dX6_addShade_40 rfl rfl ?_
            refine Go_invVv (pc := 41) (y := yX1_putShade) (avs := [.inl (M 4 0), .inl 1, .inl a]) (k := 3) (rest := [])  (M1 := setR M 4 (updI (M 4) (7 + 7 * (M 4 0) + 1) a)) (d' := d - 1) dX6_addShade_41 ln_X6_17 mo_X1_putShade vo_X1_putShade rfl (rc_3) rfl rfl (Nat.le_of_ble_eq_true rfl) (by omega) (Nat.le_of_ble_eq_true rfl) rfl (s_X1_putShade (by omega) (by decide) (by first | omega | (simp only [Nat.reduceAdd]; omega)) (by first | omega | (simp only [Nat.reduceAdd]; omega)) (by decide) (by decide)) ?_
            refine Go_aload_n (pc := 44) dX6_addShade_44 rfl (by decide) rfl ?_
            refine Go_iload_n (pc := 45) dX6_addShade_45 rfl rfl ?_
            refine Go_iconst (pc := 46) dX6_addShade_46 ?_
            refine Go_iload_n (pc := 47) dX6_addShade_47 rfl rfl ?_
            refine Go_invVv (pc := 48) (y := yX1_putShade) (avs := [.inl (M 4 0), .inl 2, .inl b]) (k := 3) (rest := [])   (d' := d - 1) dX6_addShade_48 ln_X6_17 mo_X1_putShade vo_X1_putShade rfl (rc_3) rfl rfl (Nat.le_of_ble_eq_true rfl) (by omega) (Nat.le_of_ble_eq_true rfl) rfl (s_X1_putShade (by omega) (by decide) (by first | omega | (simp only [Nat.reduceAdd]; omega)) (by first | omega | (simp only [Nat.reduceAdd]; omega)) (by decide) (by decide)) ?_
            refine Go_M (M1 := setR M 4 (updI (updI (M 4) (7 + 7 * (M 4 0) + 1) a) (7 + 7 * (M 4 0) + 2) b)) ((setR_tw _ _ _ _).trans rfl) ?_
            refine Go_aload_n (pc := 51) dX6_addShade_51 rfl (by decide) rfl ?_
            refine Go_iload_n (pc := 52) dX6_addShade_52 rfl rfl ?_
            refine Go_bipush (pc := 53) dX6_addShade_53 (by decide) (by decide) ?_
            refine Go_iconst (pc := 55) dX6_addShade_55 ?_
            refine Go_invVv (pc := 56) (y := yX1_putShade) (avs := [.inl (M 4 0), .inl 6, .inl (-1)]) (k := 3) (rest := [])   (d' := d - 1) dX6_addShade_56 ln_X6_17 mo_X1_putShade vo_X1_putShade rfl (rc_3) rfl rfl (Nat.le_of_ble_eq_true rfl) (by omega) (Nat.le_of_ble_eq_true rfl) rfl (s_X1_putShade (by omega) (by decide) (by first | omega | (simp only [Nat.reduceAdd]; omega)) (by first | omega | (simp only [Nat.reduceAdd]; omega)) (by decide) (by decide)) ?_
            refine Go_M (M1 := setR M 4 (updI (updI (updI (M 4) (7 + 7 * (M 4 0) + 1) a) (7 + 7 * (M 4 0) + 2) b) (7 + 7 * (M 4 0) + 6) (-1))) ((setR_tw _ _ _ _).trans rfl) ?_
            refine Go_aload_n (pc := 59) dX6_addShade_59 rfl (by decide) rfl ?_
            refine Go_iconst (pc := 60) dX6_addShade_60 ?_
            refine Go_iload_n (pc := 61) dX6_addShade_61 rfl rfl ?_
            refine Go_iconst (pc := 62) dX6_addShade_62 ?_
            refine Go_iadd (pc := 63) dX6_addShade_63 ?_
            refine Go_invVv (pc := 64) (y := yX1_putNumber) (avs := [.inl 0, .inl ((M 4 0) + 1)]) (k := 3) (rest := [])   (d' := d - 1) dX6_addShade_64 ln_X6_21 mo_X1_putNumber vo_X1_putNumber rfl (rc_3) rfl rfl (Nat.le_of_ble_eq_true rfl) (by omega) (Nat.le_of_ble_eq_true rfl) rfl (s_X1_putNumber (by omega) (by decide) (by decide) (by decide)) ?_
            refine Go_M (M1 := setR M 4 (updI (updI (updI (updI (M 4) (7 + 7 * (M 4 0) + 1) a) (7 + 7 * (M 4 0) + 2) b) (7 + 7 * (M 4 0) + 6) (-1)) 0 ((M 4 0) + 1))) ((setR_tw _ _ _ _).trans rfl) ?_
            refine Go_iload_n (pc := 67) dX6_addShade_67 rfl rfl ?_
            exact Go_ireturn (pc := 68) dX6_addShade_68 rfl (by unfold shadeR; (repeat (first | rw [if_pos (by omega)] | rw [if_neg (by omega)])); try rfl) (by unfold shadeR; (repeat (first | rw [if_pos (by omega)] | rw [if_neg (by omega)])); first | done | exact setR_id _ _ | rfl)
          · refine Go_ldc (pc := 34) (n := -1000003) rfl kc_X6_16 dX6_addShade_34 ?_
            exact Go_ireturn (pc := 36) dX6_addShade_36 rfl (by unfold shadeR; (repeat (first | rw [if_pos (by omega)] | rw [if_neg (by omega)])); try rfl) (by unfold shadeR; (repeat (first | rw [if_pos (by omega)] | rw [if_neg (by omega)])); first | done | exact setR_id _ _ | rfl)
        · refine Go_ldc (pc := 20) (n := -1000001) rfl kc_X6_9 dX6_addShade_20 ?_
          exact Go_ireturn (pc := 22) dX6_addShade_22 rfl (by unfold shadeR; (repeat (first | rw [if_pos (by omega)] | rw [if_neg (by omega)])); try rfl) (by unfold shadeR; (repeat (first | rw [if_pos (by omega)] | rw [if_neg (by omega)])); first | done | exact setR_id _ _ | rfl)
theorem s_X6_addString {d : Nat} (hd : 1 ≤ d) {a b : Int} {M : gMem} (hW : Wf (M 4)) (ha : inR a) (hb : inR b) : Go d RX6 cX6_addString 6 (some .int) 0 [some (.inr 3), some (.inl a), some (.inl b), none, none, none] [] M (some (.inl ((stringR (M 4) a b).1))) (setR M 4 (stringR (M 4) a b).2) := by
  have hn := hW.n
  have ht := hW.t
  have hs := str_bits ha hb hn.1 hn.2
  refine Go_iload_n (pc := 0) dX6_addString_0 rfl rfl ?_
  refine Go_iload_n (pc := 1) dX6_addString_1 rfl rfl ?_
  refine Go_ior (pc := 2) dX6_addString_2 ?_
  refine Go_istore_n (pc := 3) (L' := [some (.inr 3), some (.inl a), some (.inl b), some (.inl (gor a b)), none, none]) dX6_addString_3 rfl (by decide) rfl ?_
  refine Go_aload_n (pc := 4) dX6_addString_4 rfl (by decide) rfl ?_
  refine Go_invV (pc := 5) (y := yX1_shades) (avs := []) (k := 3) (rest := []) (x := .inl (M 4 0))  (d' := d - 1) dX6_addString_5 ln_X6_10 mo_X1_shades vo_X1_shades rfl (rc_3) rfl rfl (Nat.le_of_ble_eq_true rfl) (by omega) (Nat.le_of_ble_eq_true rfl) rfl (s_X1_shades (by omega) (by decide)) ?_
  refine Go_invSN (pc := 8) (y := yX7_bitOf) (avs := [.inl (M 4 0)]) (rest := []) (x := .inl (gshl 1 (M 4 0)))  (d' := d - 1) dX6_addString_8 nk_X6_25 mo_X7_bitOf so_X7_bitOf rfl rfl rfl (Nat.le_of_ble_eq_true rfl) (by omega) (Nat.le_of_ble_eq_true rfl) rfl (s_X7_bitOf (by omega)) ?_
  refine Go_iconst (pc := 11) dX6_addString_11 ?_
  refine Go_isub (pc := 12) dX6_addString_12 ?_
  refine Go_istore (pc := 13) (L' := [some (.inr 3), some (.inl a), some (.inl b), some (.inl (gor a b)), some (.inl ((gshl 1 (M 4 0)) - 1)), none]) dX6_addString_13 (by decide) rfl ?_
  refine Go_iload_n (pc := 15) dX6_addString_15 rfl rfl ?_
  refine Go_iload (pc := 16) dX6_addString_16 rfl ?_
  refine Go_iconst (pc := 18) dX6_addString_18 ?_
  refine Go_ixor (pc := 19) dX6_addString_19 ?_
  refine Go_iand (pc := 20) dX6_addString_20 ?_
  refine Go_if_ne (pc := 21) (tgt := 34) dX6_addString_21 (by decide) (inR_gand _ _) (fun c21 => ?_) (fun c21 => ?_)
  · refine Go_ldc (pc := 34) (n := -1000001) rfl kc_X6_9 dX6_addString_34 ?_
    exact Go_ireturn (pc := 36) dX6_addString_36 rfl (by unfold stringR; (repeat (first | rw [if_pos (by omega)] | rw [if_neg (by omega)])); try rfl) (by unfold stringR; (repeat (first | rw [if_pos (by omega)] | rw [if_neg (by omega)])); first | done | exact setR_id _ _ | rfl)
  · refine Go_iload_n (pc := 24) dX6_addString_24 rfl rfl ?_
    refine Go_iload_n (pc := 25) dX6_addString_25 rfl rfl ?_
    refine Go_iand (pc := 26) dX6_addString_26 ?_
    refine Go_if_ne (pc := 27) (tgt := 34) dX6_addString_27 (by decide) (inR_gand _ _) (fun c27 => ?_) (fun c27 => ?_)
    · refine Go_ldc (pc := 34) (n := -1000001) rfl kc_X6_9 dX6_addString_34 ?_
      exact Go_ireturn (pc := 36) dX6_addString_36 rfl (by unfold stringR; (repeat (first | rw [if_pos (by omega)] | rw [if_neg (by omega)])); try rfl) (by unfold stringR; (repeat (first | rw [if_pos (by omega)] | rw [if_neg (by omega)])); first | done | exact setR_id _ _ | rfl)
    · refine Go_iload_n (pc := 30) dX6_addString_30 rfl rfl ?_
      refine Go_if_ne (pc := 31) (tgt := 37) dX6_addString_31 (by decide) (inR_gor _ _) (fun c31 => ?_) (fun c31 => ?_)
      · refine Go_aload_n (pc := 37) dX6_addString_37 rfl (by decide) rfl ?_
        refine Go_invV (pc := 38) (y := yX1_strings) (avs := []) (k := 3) (rest := []) (x := .inl (M 4 1))  (d' := d - 1) dX6_addString_38 ln_X6_29 mo_X1_strings vo_X1_strings rfl (rc_3) rfl rfl (Nat.le_of_ble_eq_true rfl) (by omega) (Nat.le_of_ble_eq_true rfl) rfl (s_X1_strings (by omega) (by decide)) ?_
        refine Go_istore (pc := 41) (L' := [some (.inr 3), some (.inl a), some (.inl b), some (.inl (gor a b)), some (.inl ((gshl 1 (M 4 0)) - 1)), some (.inl (M 4 1))]) dX6_addString_41 (by decide) rfl ?_
        refine Go_iload (pc := 43) dX6_addString_43 rfl ?_
        refine Go_iconst (pc := 45) dX6_addString_45 ?_
        refine Go_icmp_lt (pc := 46) (tgt := 52) dX6_addString_46 (by decide) (by omega) (by decide) (fun c46 => ?_) (fun c46 => ?_)
        · refine Go_aload_n (pc := 52) dX6_addString_52 rfl (by decide) rfl ?_
          refine Go_iload (pc := 53) dX6_addString_53 rfl ?_
          refine Go_iconst (pc := 55) dX6_addString_55 ?_
          refine Go_iload_n (pc := 56) dX6_addString_56 rfl rfl ?_
          refine Go_invVv (pc := 57) (y := yX1_putString) (avs := [.inl (M 4 1), .inl 0, .inl a]) (k := 3) (rest := [])  (M1 := setR M 4 (updI (M 4) (63 + 4 * (M 4 1) + 0) a)) (d' := d - 1) dX6_addString_57 ln_X6_32 mo_X1_putString vo_X1_putString rfl (rc_3) rfl rfl (Nat.le_of_ble_eq_true rfl) (by omega) (Nat.le_of_ble_eq_true rfl) rfl (s_X1_putString (by omega) (by decide) (by first | omega | (simp only [Nat.reduceAdd]; omega)) (by first | omega | (simp only [Nat.reduceAdd]; omega)) (by decide) (by decide)) ?_
          refine Go_aload_n (pc := 60) dX6_addString_60 rfl (by decide) rfl ?_
          refine Go_iload (pc := 61) dX6_addString_61 rfl ?_
          refine Go_iconst (pc := 63) dX6_addString_63 ?_
          refine Go_iload_n (pc := 64) dX6_addString_64 rfl rfl ?_
          refine Go_invVv (pc := 65) (y := yX1_putString) (avs := [.inl (M 4 1), .inl 1, .inl b]) (k := 3) (rest := [])   (d' := d - 1) dX6_addString_65 ln_X6_32 mo_X1_putString vo_X1_putString rfl (rc_3) rfl rfl (Nat.le_of_ble_eq_true rfl) (by omega) (Nat.le_of_ble_eq_true rfl) rfl (s_X1_putString (by omega) (by decide) (by first | omega | (simp only [Nat.reduceAdd]; omega)) (by first | omega | (simp only [Nat.reduceAdd]; omega)) (by decide) (by decide)) ?_
          refine Go_M (M1 := setR M 4 (updI (updI (M 4) (63 + 4 * (M 4 1) + 0) a) (63 + 4 * (M 4 1) + 1) b)) ((setR_tw _ _ _ _).trans rfl) ?_
          refine Go_aload_n (pc := 68) dX6_addString_68 rfl (by decide) rfl ?_
          refine Go_iconst (pc := 69) dX6_addString_69 ?_
          refine Go_iload (pc := 70) dX6_addString_70 rfl ?_
          refine Go_iconst (pc := 72) dX6_addString_72 ?_
          refine Go_iadd (pc := 73) dX6_addString_73 ?_
          refine Go_invVv (pc := 74) (y := yX1_putNumber) (avs := [.inl 1, .inl ((M 4 1) + 1)]) (k := 3) (rest := [])   (d' := d - 1) dX6_addString_74 ln_X6_21 mo_X1_putNumber vo_X1_putNumber rfl (rc_3) rfl rfl (Nat.le_of_ble_eq_true rfl) (by omega) (Nat.le_of_ble_eq_true rfl) rfl (s_X1_putNumber (by omega) (by decide) (by decide) (by decide)) ?_
          refine Go_M (M1 := setR M 4 (updI (updI (updI (M 4) (63 + 4 * (M 4 1) + 0) a) (63 + 4 * (M 4 1) + 1) b) 1 ((M 4 1) + 1))) ((setR_tw _ _ _ _).trans rfl) ?_
          refine Go_iload (pc := 77) dX6_addString_77 rfl ?_
          exact Go_ireturn (pc := 79) dX6_addString_79 rfl (by unfold stringR; (repeat (first | rw [if_pos (by omega)] | rw [if_neg (by omega)])); try rfl) (by unfold stringR; (repeat (first | rw [if_pos (by omega)] | rw [if_neg (by omega)])); first | done | exact setR_id _ _ | rfl)
        · refine Go_ldc (pc := 49) (n := -1000003) rfl kc_X6_16 dX6_addString_49 ?_
          exact Go_ireturn (pc := 51) dX6_addString_51 rfl (by unfold stringR; (repeat (first | rw [if_pos (by omega)] | rw [if_neg (by omega)])); try rfl) (by unfold stringR; (repeat (first | rw [if_pos (by omega)] | rw [if_neg (by omega)])); first | done | exact setR_id _ _ | rfl)
      · refine Go_ldc (pc := 34) (n := -1000001) rfl kc_X6_9 dX6_addString_34 ?_
        exact Go_ireturn (pc := 36) dX6_addString_36 rfl (by unfold stringR; (repeat (first | rw [if_pos (by omega)] | rw [if_neg (by omega)])); try rfl) (by unfold stringR; (repeat (first | rw [if_pos (by omega)] | rw [if_neg (by omega)])); first | done | exact setR_id _ _ | rfl)
theorem s_X6_tellHeight {d : Nat} (hd : 4 ≤ d) {a b : Int} {M : gMem} (hW : Wf (M 4)) (ha : inR a) (hb : inR b) : Go d RX6 cX6_tellHeight 3 (some .int) 0 [some (.inr 3), some (.inl a), some (.inl b)] [] M (some (.inl ((tellR (M 4) a b).1))) (setR M 4 (tellR (M 4) a b).2) := by
  have hn := hW.n
  by_cases hc : (0 ≤ a ∧ a < M 4 0) ∧ 0 ≤ b ∧ b ≤ 9
  · have hW2 : Wf (updI (M 4) (7 + 7 * a + 6) b) := hW.uS (by omega) (by omega) (by decide) (by decide) ⟨by omega, by omega, by omega, by omega, by omega⟩ (by omega)
    unfold tellR
    rw [if_neg (by omega)]
    refine Go_aload_n (pc := 0) dX6_tellHeight_0 rfl (by decide) rfl ?_
    refine Go_iload_n (pc := 1) dX6_tellHeight_1 rfl rfl ?_
    refine Go_invV (pc := 2) (y := yX1_hasShade) (avs := [.inl a]) (k := 3) (rest := []) (x := .inl (b2i (0 ≤ a ∧ a < M 4 0)))  (d' := d - 1) dX6_tellHeight_2 ln_X6_86 mo_X1_hasShade vo_X1_hasShade rfl (rc_3) rfl rfl (Nat.le_of_ble_eq_true rfl) (by omega) (Nat.le_of_ble_eq_true rfl) rfl (s_X1_hasShade (by omega) (by decide) (by omega) (by first | exact hW | exact hW2)) ?_
    refine Go_ifeqB (pc := 5) (tgt := 18) dX6_tellHeight_5 (by decide) (fun c5 => ?_) (fun c5 => ?_)
    · refine Go_ldc (pc := 18) (n := -1000001) rfl kc_X6_9 dX6_tellHeight_18 ?_
      first | omega | exact Go_ireturn (pc := 20) dX6_tellHeight_20 rfl rfl rfl
    · refine Go_iload_n (pc := 8) dX6_tellHeight_8 rfl rfl ?_
      refine Go_if_lt (pc := 9) (tgt := 18) dX6_tellHeight_9 (by decide) (by omega) (fun c9 => ?_) (fun c9 => ?_)
      · refine Go_ldc (pc := 18) (n := -1000001) rfl kc_X6_9 dX6_tellHeight_18 ?_
        first | omega | exact Go_ireturn (pc := 20) dX6_tellHeight_20 rfl rfl rfl
      · refine Go_iload_n (pc := 12) dX6_tellHeight_12 rfl rfl ?_
        refine Go_bipush (pc := 13) dX6_tellHeight_13 (by decide) (by decide) ?_
        refine Go_icmp_le (pc := 15) (tgt := 21) dX6_tellHeight_15 (by decide) (by omega) (by decide) (fun c15 => ?_) (fun c15 => ?_)
        · refine Go_aload_n (pc := 21) dX6_tellHeight_21 rfl (by decide) rfl ?_
          refine Go_iload_n (pc := 22) dX6_tellHeight_22 rfl rfl ?_
          refine Go_bipush (pc := 23) dX6_tellHeight_23 (by decide) (by decide) ?_
          refine Go_iload_n (pc := 25) dX6_tellHeight_25 rfl rfl ?_
          refine Go_invVv (pc := 26) (y := yX1_putShade) (avs := [.inl a, .inl 6, .inl b]) (k := 3) (rest := [])  (M1 := setR M 4 (updI (M 4) (7 + 7 * a + 6) b)) (d' := d - 1) dX6_tellHeight_26 ln_X6_17 mo_X1_putShade vo_X1_putShade rfl (rc_3) rfl rfl (Nat.le_of_ble_eq_true rfl) (by omega) (Nat.le_of_ble_eq_true rfl) rfl (s_X1_putShade (by omega) (by decide) (by first | omega | (simp only [Nat.reduceAdd]; omega)) (by first | omega | (simp only [Nat.reduceAdd]; omega)) (by decide) (by decide)) ?_
          refine Go_aload_n (pc := 29) dX6_tellHeight_29 rfl (by decide) rfl ?_
          refine Go_invV (pc := 30) (y := yX1_standing) (avs := []) (k := 3) (rest := []) (x := .inl (standF (updI (M 4) (7 + 7 * a + 6) b)))  (d' := d - 1) dX6_tellHeight_30 ln_X6_89 mo_X1_standing vo_X1_standing rfl (rc_3) rfl rfl (Nat.le_of_ble_eq_true rfl) (by omega) (Nat.le_of_ble_eq_true rfl) rfl (s_X1_standing (by omega) (by decide) (by first | exact hW | exact hW2)) ?_
          first | omega | exact Go_ireturn (pc := 33) dX6_tellHeight_33 rfl rfl rfl
        · refine Go_ldc (pc := 18) (n := -1000001) rfl kc_X6_9 dX6_tellHeight_18 ?_
          first | omega | exact Go_ireturn (pc := 20) dX6_tellHeight_20 rfl rfl rfl
  · unfold tellR
    rw [if_pos (by omega)]
    refine Go_aload_n (pc := 0) dX6_tellHeight_0 rfl (by decide) rfl ?_
    refine Go_iload_n (pc := 1) dX6_tellHeight_1 rfl rfl ?_
    refine Go_invV (pc := 2) (y := yX1_hasShade) (avs := [.inl a]) (k := 3) (rest := []) (x := .inl (b2i (0 ≤ a ∧ a < M 4 0)))  (d' := d - 1) dX6_tellHeight_2 ln_X6_86 mo_X1_hasShade vo_X1_hasShade rfl (rc_3) rfl rfl (Nat.le_of_ble_eq_true rfl) (by omega) (Nat.le_of_ble_eq_true rfl) rfl (s_X1_hasShade (by omega) (by decide) (by omega) hW) ?_
    refine Go_ifeqB (pc := 5) (tgt := 18) dX6_tellHeight_5 (by decide) (fun c5 => ?_) (fun c5 => ?_)
    · refine Go_ldc (pc := 18) (n := -1000001) rfl kc_X6_9 dX6_tellHeight_18 ?_
      exact Go_ireturn (pc := 20) dX6_tellHeight_20 rfl rfl (setR_id _ _)
    · refine Go_iload_n (pc := 8) dX6_tellHeight_8 rfl rfl ?_
      refine Go_if_lt (pc := 9) (tgt := 18) dX6_tellHeight_9 (by decide) (by omega) (fun c9 => ?_) (fun c9 => ?_)
      · refine Go_ldc (pc := 18) (n := -1000001) rfl kc_X6_9 dX6_tellHeight_18 ?_
        exact Go_ireturn (pc := 20) dX6_tellHeight_20 rfl rfl (setR_id _ _)
      · refine Go_iload_n (pc := 12) dX6_tellHeight_12 rfl rfl ?_
        refine Go_bipush (pc := 13) dX6_tellHeight_13 (by decide) (by decide) ?_
        refine Go_icmp_le (pc := 15) (tgt := 21) dX6_tellHeight_15 (by decide) (by omega) (by decide) (fun c15 => ?_) (fun c15 => ?_)
        · omega
        · refine Go_ldc (pc := 18) (n := -1000001) rfl kc_X6_9 dX6_tellHeight_18 ?_
          exact Go_ireturn (pc := 20) dX6_tellHeight_20 rfl rfl (setR_id _ _)
theorem s_X6_forgetTold {d : Nat} (hd : 4 ≤ d) {M : gMem} (hW : Wf (M 4)) : Go d RX6 cX6_forgetTold 3 (some .int) 0 [some (.inr 3), none, none] [] M (some (.inl (toldF (M 4)))) (setR M 4 (untZ (M 4) (M 4 0))) := by
  have hn := hW.n
  have K : ∀ i, 0 ≤ i → i ≤ M 4 0 → Go d RX6 cX6_forgetTold 3 (some .int) 7 [some (.inr 3), some (.inl (toldF (M 4))), some (.inl i)] [] (setR M 4 (untZ (M 4) i)) (some (.inl (toldF (M 4)))) (setR M 4 (untZ (M 4) (M 4 0))) := by
    refine up_ind 0 (M 4 0) _ (fun i h0 h1 ih => ?_)
    have hu := untZ_W hW h0 h1
    refine Go_iload_n (pc := 7) dX6_forgetTold_7 rfl rfl ?_
    refine Go_aload_n (pc := 8) dX6_forgetTold_8 rfl (by decide) rfl ?_
    refine Go_invV (pc := 9) (y := yX1_shades) (avs := []) (k := 3) (rest := [.inl i]) (x := .inl ((untZ (M 4) i) 0))  (d' := d - 1) dX6_forgetTold_9 ln_X6_10 mo_X1_shades vo_X1_shades rfl (rc_3) rfl rfl (Nat.le_of_ble_eq_true rfl) (by omega) (Nat.le_of_ble_eq_true rfl) rfl (s_X1_shades (by omega) (by decide)) ?_
    refine Go_icmp_ge (pc := 12) (tgt := 29) dX6_forgetTold_12 (by decide) (by omega) (by omega) (fun c12 => ?_) (fun c12 => ?_)
    · refine Go_iload_n (pc := 29) dX6_forgetTold_29 rfl rfl ?_
      exact Go_ireturn (pc := 30) dX6_forgetTold_30 rfl rfl (by rw [show i = M 4 0 by omega])
    · refine Go_aload_n (pc := 15) dX6_forgetTold_15 rfl (by decide) rfl ?_
      refine Go_iload_n (pc := 16) dX6_forgetTold_16 rfl rfl ?_
      refine Go_bipush (pc := 17) dX6_forgetTold_17 (by decide) (by decide) ?_
      refine Go_iconst (pc := 19) dX6_forgetTold_19 ?_
      refine Go_invVv (pc := 20) (y := yX1_putShade) (avs := [.inl i, .inl 6, .inl (-1)]) (k := 3) (rest := [])   (d' := d - 1) dX6_forgetTold_20 ln_X6_17 mo_X1_putShade vo_X1_putShade rfl (rc_3) rfl rfl (Nat.le_of_ble_eq_true rfl) (by omega) (Nat.le_of_ble_eq_true rfl) rfl (s_X1_putShade (by omega) (by decide) (by first | omega | (simp only [Nat.reduceAdd]; omega)) (by first | omega | (simp only [Nat.reduceAdd]; omega)) (by decide) (by decide)) ?_
      refine Go_M (M1 := setR M 4 (updI (untZ (M 4) i) (7 + 7 * i + 6) (-1))) ((setR_tw _ _ _ _).trans rfl) ?_
      refine Go_iinc (pc := 23) (L' := [some (.inr 3), some (.inl (toldF (M 4))), some (.inl (i + 1))]) dX6_forgetTold_23 rfl (by decide) rfl ?_
      refine Go_goto (pc := 26) (tgt := 7) dX6_forgetTold_26 (by decide) ?_
      exact Go_M (by rw [untZ_s _ h0]) (ih (by omega))
  refine Go_aload_n (pc := 0) dX6_forgetTold_0 rfl (by decide) rfl ?_
  refine Go_invV (pc := 1) (y := yX1_told) (avs := []) (k := 3) (rest := []) (x := .inl (toldF (M 4)))  (d' := d - 1) dX6_forgetTold_1 ln_X6_92 mo_X1_told vo_X1_told rfl (rc_3) rfl rfl (Nat.le_of_ble_eq_true rfl) (by omega) (Nat.le_of_ble_eq_true rfl) rfl (s_X1_told (by omega) (by decide) hW) ?_
  refine Go_istore_n (pc := 4) (L' := [some (.inr 3), some (.inl (toldF (M 4))), none]) dX6_forgetTold_4 rfl (by decide) rfl ?_
  refine Go_iconst (pc := 5) dX6_forgetTold_5 ?_
  refine Go_istore_n (pc := 6) (L' := [some (.inr 3), some (.inl (toldF (M 4))), some (.inl 0)]) dX6_forgetTold_6 rfl (by decide) rfl ?_
  exact Go_M (setR_id M 4).symm (K 0 (by omega) (by omega))
def replR (f : Int → Int) (c z a b : Int) : Int × (Int → Int) := if z < a ∨ b < z then (-1000001, f) else (f c, updI f c z)
theorem s_X6_replace {d : Nat} (hd : 1 ≤ d) {c z a b : Int} {M : gMem} (hc : 0 ≤ c ∧ c < 7) (hz : inR z) (ha : inR a) (hb : inR b) : Go d RX6 cX6_replace 6 (some .int) 0 [some (.inr 3), some (.inl c), some (.inl z), some (.inl a), some (.inl b), none] [] M (some (.inl ((replR (M 4) c z a b).1))) (setR M 4 (replR (M 4) c z a b).2) := by
  refine Go_iload_n (pc := 0) dX6_replace_0 rfl rfl ?_
  refine Go_iload_n (pc := 1) dX6_replace_1 rfl rfl ?_
  refine Go_icmp_lt (pc := 2) (tgt := 11) dX6_replace_2 (by decide) (by omega) (by omega) (fun c2 => ?_) (fun c2 => ?_)
  · refine Go_ldc (pc := 11) (n := -1000001) rfl kc_X6_9 dX6_replace_11 ?_
    exact Go_ireturn (pc := 13) dX6_replace_13 rfl (by unfold replR; (repeat (first | rw [if_pos (by omega)] | rw [if_neg (by omega)])); try rfl) (by unfold replR; (repeat (first | rw [if_pos (by omega)] | rw [if_neg (by omega)])); first | done | exact setR_id _ _ | rfl)
  · refine Go_iload_n (pc := 5) dX6_replace_5 rfl rfl ?_
    refine Go_iload (pc := 6) dX6_replace_6 rfl ?_
    refine Go_icmp_le (pc := 8) (tgt := 14) dX6_replace_8 (by decide) (by omega) (by omega) (fun c8 => ?_) (fun c8 => ?_)
    · refine Go_aload_n (pc := 14) dX6_replace_14 rfl (by decide) rfl ?_
      refine Go_iload_n (pc := 15) dX6_replace_15 rfl rfl ?_
      refine Go_invV (pc := 16) (y := yX1_number) (avs := [.inl c]) (k := 3) (rest := []) (x := .inl (M 4 c))  (d' := d - 1) dX6_replace_16 ln_X6_82 mo_X1_number vo_X1_number rfl (rc_3) rfl rfl (Nat.le_of_ble_eq_true rfl) (by omega) (Nat.le_of_ble_eq_true rfl) rfl (s_X1_number (by omega) (by decide) (by first | omega | (simp only [Nat.reduceAdd]; omega)) (by first | omega | (simp only [Nat.reduceAdd]; omega))) ?_
      refine Go_istore (pc := 19) (L' := [some (.inr 3), some (.inl c), some (.inl z), some (.inl a), some (.inl b), some (.inl (M 4 c))]) dX6_replace_19 (by decide) rfl ?_
      refine Go_aload_n (pc := 21) dX6_replace_21 rfl (by decide) rfl ?_
      refine Go_iload_n (pc := 22) dX6_replace_22 rfl rfl ?_
      refine Go_iload_n (pc := 23) dX6_replace_23 rfl rfl ?_
      refine Go_invVv (pc := 24) (y := yX1_putNumber) (avs := [.inl c, .inl z]) (k := 3) (rest := [])  (M1 := setR M 4 (updI (M 4) c z)) (d' := d - 1) dX6_replace_24 ln_X6_21 mo_X1_putNumber vo_X1_putNumber rfl (rc_3) rfl rfl (Nat.le_of_ble_eq_true rfl) (by omega) (Nat.le_of_ble_eq_true rfl) rfl (s_X1_putNumber (by omega) (by decide) (by first | omega | (simp only [Nat.reduceAdd]; omega)) (by first | omega | (simp only [Nat.reduceAdd]; omega))) ?_
      refine Go_iload (pc := 27) dX6_replace_27 rfl ?_
      exact Go_ireturn (pc := 29) dX6_replace_29 rfl (by unfold replR; (repeat (first | rw [if_pos (by omega)] | rw [if_neg (by omega)])); try rfl) (by unfold replR; (repeat (first | rw [if_pos (by omega)] | rw [if_neg (by omega)])); first | done | exact setR_id _ _ | rfl)
    · refine Go_ldc (pc := 11) (n := -1000001) rfl kc_X6_9 dX6_replace_11 ?_
      exact Go_ireturn (pc := 13) dX6_replace_13 rfl (by unfold replR; (repeat (first | rw [if_pos (by omega)] | rw [if_neg (by omega)])); try rfl) (by unfold replR; (repeat (first | rw [if_pos (by omega)] | rw [if_neg (by omega)])); first | done | exact setR_id _ _ | rfl)
theorem s_X6_changeSetting {d : Nat} (hd : 2 ≤ d) {a b : Int} {M : gMem} (hW : Wf (M 4)) (ha : inR a) (hb : inR b) : Go d RX6 cX6_changeSetting 3 (some .int) 0 [some (.inr 3), some (.inl a), some (.inl b)] [] M (some (.inl ((setR' (M 4) a b).1))) (setR M 4 (setR' (M 4) a b).2) := by
  have e0 : a = 0 → setR' (M 4) a b = replR (M 4) 5 b 1 9 := fun q => by
    unfold setR' replR
    rw [if_pos q]
    by_cases h : 1 ≤ b ∧ b ≤ 9
    · rw [if_pos h, if_neg (by omega)]
    · rw [if_neg h, if_pos (by omega)]
  have e1 : a = 1 → setR' (M 4) a b = replR (M 4) 6 b 0 36 := fun q => by
    unfold setR' replR
    rw [if_neg (by omega), if_pos q]
    by_cases h : 0 ≤ b ∧ b ≤ 36
    · rw [if_pos h, if_neg (by omega)]
    · rw [if_neg h, if_pos (by omega)]
  refine Go_iload_n (pc := 0) dX6_changeSetting_0 rfl rfl ?_
  rcases (by omega : a = 0 ∨ a = 1 ∨ (¬ a = 0 ∧ ¬ a = 1)) with c1 | c1 | c1
  · refine Go_ls (pc := 1) (tgt := 28) (off := 27) dX6_changeSetting_1 rfl (by omega) (by rw [c1]; rfl) (by decide) ?_
    refine Go_aload_n (pc := 28) dX6_changeSetting_28 rfl (by decide) rfl ?_
    refine Go_iconst (pc := 29) dX6_changeSetting_29 ?_
    refine Go_iload_n (pc := 30) dX6_changeSetting_30 rfl rfl ?_
    refine Go_iconst (pc := 31) dX6_changeSetting_31 ?_
    refine Go_bipush (pc := 32) dX6_changeSetting_32 (by decide) (by decide) ?_
    refine Go_invS (pc := 34) (y := yX6_replace) (avs := [.inr 3, .inl 5, .inl b, .inl 1, .inl 9]) (rest := []) (x := .inl ((replR (M 4) 5 b 1 9).1)) (M1 := setR M 4 ((replR (M 4) 5 b 1 9).2)) (d' := d - 1) dX6_changeSetting_34 ln_X6_107 mo_X6_replace so_X6_replace rfl rfl rfl (Nat.le_of_ble_eq_true rfl) (by omega) (Nat.le_of_ble_eq_true rfl) rfl (s_X6_replace (by omega) (by decide) (by omega) (by decide) (by decide)) ?_
    first | (rw [e0 c1]; exact Go_ireturn (pc := 37) dX6_changeSetting_37 rfl rfl rfl) | (rw [e1 c1]; exact Go_ireturn (pc := 37) dX6_changeSetting_37 rfl rfl rfl) | exact Go_ireturn (pc := 37) dX6_changeSetting_37 rfl (by unfold setR'; rw [if_neg c1.1, if_neg c1.2]) (by unfold setR'; rw [if_neg c1.1, if_neg c1.2]; exact setR_id _ _)
  · refine Go_ls (pc := 1) (tgt := 38) (off := 37) dX6_changeSetting_1 rfl (by omega) (by rw [c1]; rfl) (by decide) ?_
    refine Go_aload_n (pc := 38) dX6_changeSetting_38 rfl (by decide) rfl ?_
    refine Go_bipush (pc := 39) dX6_changeSetting_39 (by decide) (by decide) ?_
    refine Go_iload_n (pc := 41) dX6_changeSetting_41 rfl rfl ?_
    refine Go_iconst (pc := 42) dX6_changeSetting_42 ?_
    refine Go_bipush (pc := 43) dX6_changeSetting_43 (by decide) (by decide) ?_
    refine Go_invS (pc := 45) (y := yX6_replace) (avs := [.inr 3, .inl 6, .inl b, .inl 0, .inl 36]) (rest := []) (x := .inl ((replR (M 4) 6 b 0 36).1)) (M1 := setR M 4 ((replR (M 4) 6 b 0 36).2)) (d' := d - 1) dX6_changeSetting_45 ln_X6_107 mo_X6_replace so_X6_replace rfl rfl rfl (Nat.le_of_ble_eq_true rfl) (by omega) (Nat.le_of_ble_eq_true rfl) rfl (s_X6_replace (by omega) (by decide) (by omega) (by decide) (by decide)) ?_
    first | (rw [e0 c1]; exact Go_ireturn (pc := 48) dX6_changeSetting_48 rfl rfl rfl) | (rw [e1 c1]; exact Go_ireturn (pc := 48) dX6_changeSetting_48 rfl rfl rfl) | exact Go_ireturn (pc := 48) dX6_changeSetting_48 rfl (by unfold setR'; rw [if_neg c1.1, if_neg c1.2]) (by unfold setR'; rw [if_neg c1.1, if_neg c1.2]; exact setR_id _ _)
  · refine Go_ls (pc := 1) (tgt := 49) (off := 48) dX6_changeSetting_1 rfl (by omega) (by simp [Op.lookupswitch.offset_cons, Op.lookupswitch.offset, c1, eq_comm]) (by decide) ?_
    refine Go_ldc (pc := 49) (n := -1000001) rfl kc_X6_9 dX6_changeSetting_49 ?_
    first | (rw [e0 c1]; exact Go_ireturn (pc := 51) dX6_changeSetting_51 rfl rfl rfl) | (rw [e1 c1]; exact Go_ireturn (pc := 51) dX6_changeSetting_51 rfl rfl rfl) | exact Go_ireturn (pc := 51) dX6_changeSetting_51 rfl (by unfold setR'; rw [if_neg c1.1, if_neg c1.2]) (by unfold setR'; rw [if_neg c1.1, if_neg c1.2]; exact setR_id _ _)
theorem s_X6_difference {d : Nat} (hd : 1 ≤ d) {a : Int} {M : gMem} (hW : Wf (M 4)) (a0 : 0 ≤ a) (a1 : a < 7) : Go d RX6 cX6_difference 2 (some .int) 0 [some (.inr 3), some (.inl a)] [] M (some (.inl ((sc (M 4) a 0 - sc (M 4) (a + 1) 0).natAbs : Int))) M := by
  have h0 := hW.ht a
  have h1 := hW.ht (a + 1)
  refine Go_aload_n (pc := 0) dX6_difference_0 rfl (by decide) rfl ?_
  refine Go_iload_n (pc := 1) dX6_difference_1 rfl rfl ?_
  refine Go_iconst (pc := 2) dX6_difference_2 ?_
  refine Go_invV (pc := 3) (y := yX1_ofShade) (avs := [.inl a, .inl 0]) (k := 3) (rest := []) (x := .inl (sc (M 4) a 0))  (d' := d - 1) dX6_difference_3 ln_X6_72 mo_X1_ofShade vo_X1_ofShade rfl (rc_3) rfl rfl (Nat.le_of_ble_eq_true rfl) (by omega) (Nat.le_of_ble_eq_true rfl) rfl (s_X1_ofShade (by omega) (by decide) (by omega) (by decide) (by decide)) ?_
  refine Go_aload_n (pc := 6) dX6_difference_6 rfl (by decide) rfl ?_
  refine Go_iload_n (pc := 7) dX6_difference_7 rfl rfl ?_
  refine Go_iconst (pc := 8) dX6_difference_8 ?_
  refine Go_iadd (pc := 9) dX6_difference_9 ?_
  refine Go_iconst (pc := 10) dX6_difference_10 ?_
  refine Go_invV (pc := 11) (y := yX1_ofShade) (avs := [.inl (a + 1), .inl 0]) (k := 3) (rest := [.inl (sc (M 4) a 0)]) (x := .inl (sc (M 4) (a + 1) 0))  (d' := d - 1) dX6_difference_11 ln_X6_72 mo_X1_ofShade vo_X1_ofShade rfl (rc_3) rfl rfl (Nat.le_of_ble_eq_true rfl) (by omega) (Nat.le_of_ble_eq_true rfl) rfl (s_X1_ofShade (by omega) (by decide) (by omega) (by decide) (by decide)) ?_
  refine Go_isub (pc := 14) dX6_difference_14 ?_
  refine Go_abs (pc := 15) dX6_difference_15 ln_X6_43 so_abs in_java_lang_Math co_abs (by omega) (by omega) (Nat.le_of_ble_eq_true rfl) ?_
  exact Go_ireturn (pc := 18) dX6_difference_18 rfl (by first | rfl | (simp_all; done)) rfl
theorem s_X6_untieOnce {d : Nat} (hd : 2 ≤ d) {a : Int} {M : gMem} (hW : Wf (M 4)) (ha : inR a) : Go d RX6 cX6_untieOnce 3 (some .int) 0 [some (.inr 3), some (.inl a), none] [] M (some (.inl ((untieR (M 4) a).1))) (setR M 4 (untieR (M 4) a).2) := by
  have hn := hW.n
  have h0 := hW.ht a
  have h1 := hW.ht (a + 1)
  have hk := hW.kn a
  refine Go_iload_n (pc := 0) dX6_untieOnce_0 rfl rfl ?_
  refine Go_if_lt (pc := 1) (tgt := 14) dX6_untieOnce_1 (by decide) (by omega) (fun c1 => ?_) (fun c1 => ?_)
  · refine Go_ldc (pc := 14) (n := -1000001) rfl kc_X6_9 dX6_untieOnce_14 ?_
    exact Go_ireturn (pc := 16) dX6_untieOnce_16 rfl (by unfold untieR; (repeat (first | rw [if_pos (by omega)] | rw [if_neg (by omega)])); try rfl) (by unfold untieR; (repeat (first | rw [if_pos (by omega)] | rw [if_neg (by omega)])); first | done | exact setR_id _ _ | rfl)
  · refine Go_iload_n (pc := 4) dX6_untieOnce_4 rfl rfl ?_
    refine Go_aload_n (pc := 5) dX6_untieOnce_5 rfl (by decide) rfl ?_
    refine Go_invV (pc := 6) (y := yX1_shades) (avs := []) (k := 3) (rest := [.inl a]) (x := .inl (M 4 0))  (d' := d - 1) dX6_untieOnce_6 ln_X6_10 mo_X1_shades vo_X1_shades rfl (rc_3) rfl rfl (Nat.le_of_ble_eq_true rfl) (by omega) (Nat.le_of_ble_eq_true rfl) rfl (s_X1_shades (by omega) (by decide)) ?_
    refine Go_iconst (pc := 9) dX6_untieOnce_9 ?_
    refine Go_isub (pc := 10) dX6_untieOnce_10 ?_
    refine Go_icmp_lt (pc := 11) (tgt := 17) dX6_untieOnce_11 (by decide) (by omega) (by omega) (fun c11 => ?_) (fun c11 => ?_)
    · refine Go_aload_n (pc := 17) dX6_untieOnce_17 rfl (by decide) rfl ?_
      refine Go_iload_n (pc := 18) dX6_untieOnce_18 rfl rfl ?_
      refine Go_iconst (pc := 19) dX6_untieOnce_19 ?_
      refine Go_invV (pc := 20) (y := yX1_ofShade) (avs := [.inl a, .inl 3]) (k := 3) (rest := []) (x := .inl (sc (M 4) a 3))  (d' := d - 1) dX6_untieOnce_20 ln_X6_72 mo_X1_ofShade vo_X1_ofShade rfl (rc_3) rfl rfl (Nat.le_of_ble_eq_true rfl) (by omega) (Nat.le_of_ble_eq_true rfl) rfl (s_X1_ofShade (by omega) (by decide) (by omega) (by decide) (by decide)) ?_
      refine Go_istore_n (pc := 23) (L' := [some (.inr 3), some (.inl a), some (.inl (sc (M 4) a 3))]) dX6_untieOnce_23 rfl (by decide) rfl ?_
      refine Go_iload_n (pc := 24) dX6_untieOnce_24 rfl rfl ?_
      refine Go_if_eq (pc := 25) (tgt := 37) dX6_untieOnce_25 (by decide) (by first | exact hW.rs _ _ (by decide) | exact hW2.rs _ _ (by decide) | omega) (fun c25 => ?_) (fun c25 => ?_)
      · refine Go_ldc (pc := 37) (n := -1000002) rfl kc_X6_85 dX6_untieOnce_37 ?_
        exact Go_ireturn (pc := 39) dX6_untieOnce_39 rfl (by unfold untieR; (repeat (first | rw [if_pos (by omega)] | rw [if_neg (by omega)])); try rfl) (by unfold untieR; (repeat (first | rw [if_pos (by omega)] | rw [if_neg (by omega)])); first | done | exact setR_id _ _ | rfl)
      · refine Go_aload_n (pc := 28) dX6_untieOnce_28 rfl (by decide) rfl ?_
        refine Go_iload_n (pc := 29) dX6_untieOnce_29 rfl rfl ?_
        refine Go_invS (pc := 30) (y := yX6_difference) (avs := [.inr 3, .inl a]) (rest := []) (x := .inl ((sc (M 4) a 0 - sc (M 4) (a + 1) 0).natAbs : Int))  (d' := d - 1) dX6_untieOnce_30 ln_X6_78 mo_X6_difference so_X6_difference rfl rfl rfl (Nat.le_of_ble_eq_true rfl) (by omega) (Nat.le_of_ble_eq_true rfl) rfl (s_X6_difference (by omega) hW (by first | omega | (simp only [Nat.reduceAdd]; omega)) (by first | omega | (simp only [Nat.reduceAdd]; omega))) ?_
        refine Go_iconst (pc := 33) dX6_untieOnce_33 ?_
        refine Go_icmp_le (pc := 34) (tgt := 40) dX6_untieOnce_34 (by decide) (by omega) (by decide) (fun c34 => ?_) (fun c34 => ?_)
        · refine Go_aload_n (pc := 40) dX6_untieOnce_40 rfl (by decide) rfl ?_
          refine Go_iload_n (pc := 41) dX6_untieOnce_41 rfl rfl ?_
          refine Go_iconst (pc := 42) dX6_untieOnce_42 ?_
          refine Go_iload_n (pc := 43) dX6_untieOnce_43 rfl rfl ?_
          refine Go_iconst (pc := 44) dX6_untieOnce_44 ?_
          refine Go_isub (pc := 45) dX6_untieOnce_45 ?_
          refine Go_invVv (pc := 46) (y := yX1_putShade) (avs := [.inl a, .inl 3, .inl ((sc (M 4) a 3) - 1)]) (k := 3) (rest := [])  (M1 := setR M 4 (updI (M 4) (7 + 7 * a + 3) ((sc (M 4) a 3) - 1))) (d' := d - 1) dX6_untieOnce_46 ln_X6_17 mo_X1_putShade vo_X1_putShade rfl (rc_3) rfl rfl (Nat.le_of_ble_eq_true rfl) (by omega) (Nat.le_of_ble_eq_true rfl) rfl (s_X1_putShade (by omega) (by decide) (by first | omega | (simp only [Nat.reduceAdd]; omega)) (by first | omega | (simp only [Nat.reduceAdd]; omega)) (by decide) (by decide)) ?_
          refine Go_iload_n (pc := 49) dX6_untieOnce_49 rfl rfl ?_
          refine Go_iconst (pc := 50) dX6_untieOnce_50 ?_
          refine Go_isub (pc := 51) dX6_untieOnce_51 ?_
          exact Go_ireturn (pc := 52) dX6_untieOnce_52 rfl (by unfold untieR; (repeat (first | rw [if_pos (by omega)] | rw [if_neg (by omega)])); try rfl) (by unfold untieR; (repeat (first | rw [if_pos (by omega)] | rw [if_neg (by omega)])); first | done | exact setR_id _ _ | rfl)
        · refine Go_ldc (pc := 37) (n := -1000002) rfl kc_X6_85 dX6_untieOnce_37 ?_
          exact Go_ireturn (pc := 39) dX6_untieOnce_39 rfl (by unfold untieR; (repeat (first | rw [if_pos (by omega)] | rw [if_neg (by omega)])); try rfl) (by unfold untieR; (repeat (first | rw [if_pos (by omega)] | rw [if_neg (by omega)])); first | done | exact setR_id _ _ | rfl)
    · refine Go_ldc (pc := 14) (n := -1000001) rfl kc_X6_9 dX6_untieOnce_14 ?_
      exact Go_ireturn (pc := 16) dX6_untieOnce_16 rfl (by unfold untieR; (repeat (first | rw [if_pos (by omega)] | rw [if_neg (by omega)])); try rfl) (by unfold untieR; (repeat (first | rw [if_pos (by omega)] | rw [if_neg (by omega)])); first | done | exact setR_id _ _ | rfl)
