/-! the class: tying, and a step of a pull -/
def RSp (risen sunk : Int) (mv : Int → Int) : Prop := (0 ≤ risen ∧ risen < 256) ∧ (0 ≤ sunk ∧ sunk < 256) ∧ ∀ k, 0 ≤ k → k < 8 → (mv k = -1 ∨ mv k = 0 ∨ mv k = 1) ∧ ((¬ gand risen (gshl 1 k) = 0) ↔ mv k = 1) ∧ ((¬ gand sunk (gshl 1 k) = 0) ↔ mv k = -1)
theorem mv_mul {a b : Int} (ha : a = -1 ∨ a = 0 ∨ a = 1) (hb : b = -1 ∨ b = 0 ∨ b = 1) : a * b < 0 ↔ (a = 1 ∧ b = -1) ∨ (a = -1 ∧ b = 1) := by
  rcases ha with rfl | rfl | rfl <;> rcases hb with rfl | rfl | rfl <;> decide
theorem tieS_y {P mv : Int → Int} {k : Int} (h : tieP P mv k) : tieS P mv k = updI (updI P (7 + 7 * k + 3) 1) 4 (P 4 + 1) := if_pos h
theorem tieS_n {P mv : Int → Int} {k : Int} (h : ¬ tieP P mv k) : tieS P mv k = P := if_neg h
theorem s_X6_tie {d : Nat} (hd : 2 ≤ d) {risen sunk : Int} {mv : Int → Int} {M : gMem} (hW : Wf (M 4)) (hr : RSp risen sunk mv) : Go d RX6 cX6_tie 5 none 0 [some (.inr 3), some (.inl risen), some (.inl sunk), none, none] [] M none (setR M 4 (tieZ (M 4) mv (M 4 0 - 1))) := by
  have hn := hW.n
  obtain ⟨hr1, hr2, hr3⟩ := hr
  by_cases a0 : M 4 0 = 0
  · refine Go_iconst (pc := 0) dX6_tie_0 ?_
    refine Go_istore_n (pc := 1) (L' := [some (.inr 3), some (.inl risen), some (.inl sunk), some (.inl 0), none]) dX6_tie_1 rfl (by decide) rfl ?_
    refine Go_iload_n (pc := 2) dX6_tie_2 rfl rfl ?_
    refine Go_aload_n (pc := 3) dX6_tie_3 rfl (by decide) rfl ?_
    refine Go_invV (pc := 4) (y := yX1_shades) (avs := []) (k := 3) (rest := [.inl 0]) (x := .inl (M 4 0))  (d' := d - 1) dX6_tie_4 ln_X6_10 mo_X1_shades vo_X1_shades rfl (rc_3) rfl rfl (Nat.le_of_ble_eq_true rfl) (by omega) (Nat.le_of_ble_eq_true rfl) rfl (s_X1_shades (by omega) (by decide)) ?_
    refine Go_iconst (pc := 7) dX6_tie_7 ?_
    refine Go_isub (pc := 8) dX6_tie_8 ?_
    refine Go_icmp_ge (pc := 9) (tgt := 111) dX6_tie_9 (by decide) (by decide) (by omega) (fun c9 => ?_) (fun c9 => ?_)
    · exact Go_return (pc := 111) dX6_tie_111 rfl rfl (by unfold tieZ; rw [show (M 4 0 - 1).toNat = 0 by omega]; exact setR_id _ _)
    · omega
  have K : ∀ i, 0 ≤ i → i ≤ M 4 0 - 1 → ∀ x : Option MV, Go d RX6 cX6_tie 5 none 2 [some (.inr 3), some (.inl risen), some (.inl sunk), some (.inl i), x] [] (setR M 4 (tieZ (M 4) mv i)) none (setR M 4 (tieZ (M 4) mv (M 4 0 - 1))) := by
    refine up_ind 0 (M 4 0 - 1) _ (fun i h0 h1 ih x => ?_)
    have hWd := tieZ_W (mv := mv) hW (i := i) (by omega)
    have hW4 := hWd.1
    have q0 : tieZ (M 4) mv i 0 = M 4 0 := hWd.2.1 0 (by decide) (by decide)
    have d0 := hW4.ht i
    have d1 := hW4.ht (i + 1)
    have d5 := hW4.df
    have dk := hW4.kn i
    refine Go_iload_n (pc := 2) dX6_tie_2 rfl rfl ?_
    refine Go_aload_n (pc := 3) dX6_tie_3 rfl (by decide) rfl ?_
    refine Go_invV (pc := 4) (y := yX1_shades) (avs := []) (k := 3) (rest := [.inl i]) (x := .inl ((tieZ (M 4) mv i) 0))  (d' := d - 1) dX6_tie_4 ln_X6_10 mo_X1_shades vo_X1_shades rfl (rc_3) rfl rfl (Nat.le_of_ble_eq_true rfl) (by omega) (Nat.le_of_ble_eq_true rfl) rfl (s_X1_shades (by omega) (by decide)) ?_
    refine Go_iconst (pc := 7) dX6_tie_7 ?_
    refine Go_isub (pc := 8) dX6_tie_8 ?_
    refine Go_icmp_ge (pc := 9) (tgt := 111) dX6_tie_9 (by decide) (by omega) (by omega) (fun c9 => ?_) (fun c9 => ?_)
    · exact Go_return (pc := 111) dX6_tie_111 rfl rfl (by rw [show i = M 4 0 - 1 by omega])
    · refine Go_iload_n (pc := 12) dX6_tie_12 rfl rfl ?_
      refine Go_iload_n (pc := 13) dX6_tie_13 rfl rfl ?_
      refine Go_invSN (pc := 14) (y := yX7_bitOf) (avs := [.inl i]) (rest := [.inl risen]) (x := .inl (gshl 1 i))  (d' := d - 1) dX6_tie_14 nk_X6_25 mo_X7_bitOf so_X7_bitOf rfl rfl rfl (Nat.le_of_ble_eq_true rfl) (by omega) (Nat.le_of_ble_eq_true rfl) rfl (s_X7_bitOf (by omega)) ?_
      refine Go_iand (pc := 17) dX6_tie_17 ?_
      refine Go_if_eq (pc := 18) (tgt := 32) dX6_tie_18 (by decide) (inR_gand _ _) (fun c18 => ?_) (fun c18 => ?_)
      · refine Go_iload_n (pc := 32) dX6_tie_32 rfl rfl ?_
        refine Go_iload_n (pc := 33) dX6_tie_33 rfl rfl ?_
        refine Go_invSN (pc := 34) (y := yX7_bitOf) (avs := [.inl i]) (rest := [.inl sunk]) (x := .inl (gshl 1 i))  (d' := d - 1) dX6_tie_34 nk_X6_25 mo_X7_bitOf so_X7_bitOf rfl rfl rfl (Nat.le_of_ble_eq_true rfl) (by omega) (Nat.le_of_ble_eq_true rfl) rfl (s_X7_bitOf (by omega)) ?_
        refine Go_iand (pc := 37) dX6_tie_37 ?_
        refine Go_if_eq (pc := 38) (tgt := 56) dX6_tie_38 (by decide) (inR_gand _ _) (fun c38 => ?_) (fun c38 => ?_)
        · refine Go_iconst (pc := 56) dX6_tie_56 ?_
          refine Go_istore (pc := 57) (L' := [some (.inr 3), some (.inl risen), some (.inl sunk), some (.inl i), some (.inl 0)]) dX6_tie_57 (by decide) rfl ?_
          refine Go_iload (pc := 59) dX6_tie_59 rfl ?_
          refine Go_if_eq (pc := 61) (tgt := 105) dX6_tie_61 (by decide) (by decide) (fun _ => ?_) (fun q => absurd q (by decide))
          refine Go_iinc (pc := 105) (L' := [some (.inr 3), some (.inl risen), some (.inl sunk), some (.inl (i + 1)), some (.inl 0)]) dX6_tie_105 rfl (by decide) rfl ?_
          refine Go_goto (pc := 108) (tgt := 2) dX6_tie_108 (by decide) ?_
          have m0 := hr3 i h0 (by omega)
          have m1 := hr3 (i + 1) (by omega) (by omega)
          have el := mv_mul m0.1 m1.1
          refine Go_M ?_ (ih (by omega) _)
          rw [tieZ_s _ _ h0]
          first | (exfalso; omega) | (rw [tieS_n (fun z => by have z1 := z.1; have z2 := el.mp z.2.1; have z3 := z.2.2; omega)]) | (rw [tieS_y ⟨by omega, el.mpr (by omega), by omega⟩, updI_n (by omega)])
        · refine Go_iload_n (pc := 41) dX6_tie_41 rfl rfl ?_
          refine Go_iload_n (pc := 42) dX6_tie_42 rfl rfl ?_
          refine Go_iconst (pc := 43) dX6_tie_43 ?_
          refine Go_iadd (pc := 44) dX6_tie_44 ?_
          refine Go_invSN (pc := 45) (y := yX7_bitOf) (avs := [.inl (i + 1)]) (rest := [.inl risen]) (x := .inl (gshl 1 (i + 1)))  (d' := d - 1) dX6_tie_45 nk_X6_25 mo_X7_bitOf so_X7_bitOf rfl rfl rfl (Nat.le_of_ble_eq_true rfl) (by omega) (Nat.le_of_ble_eq_true rfl) rfl (s_X7_bitOf (by omega)) ?_
          refine Go_iand (pc := 48) dX6_tie_48 ?_
          refine Go_if_eq (pc := 49) (tgt := 56) dX6_tie_49 (by decide) (inR_gand _ _) (fun c49 => ?_) (fun c49 => ?_)
          · refine Go_iconst (pc := 56) dX6_tie_56 ?_
            refine Go_istore (pc := 57) (L' := [some (.inr 3), some (.inl risen), some (.inl sunk), some (.inl i), some (.inl 0)]) dX6_tie_57 (by decide) rfl ?_
            refine Go_iload (pc := 59) dX6_tie_59 rfl ?_
            refine Go_if_eq (pc := 61) (tgt := 105) dX6_tie_61 (by decide) (by decide) (fun _ => ?_) (fun q => absurd q (by decide))
            refine Go_iinc (pc := 105) (L' := [some (.inr 3), some (.inl risen), some (.inl sunk), some (.inl (i + 1)), some (.inl 0)]) dX6_tie_105 rfl (by decide) rfl ?_
            refine Go_goto (pc := 108) (tgt := 2) dX6_tie_108 (by decide) ?_
            have m0 := hr3 i h0 (by omega)
            have m1 := hr3 (i + 1) (by omega) (by omega)
            have el := mv_mul m0.1 m1.1
            refine Go_M ?_ (ih (by omega) _)
            rw [tieZ_s _ _ h0]
            first | (exfalso; omega) | (rw [tieS_n (fun z => by have z1 := z.1; have z2 := el.mp z.2.1; have z3 := z.2.2; omega)]) | (rw [tieS_y ⟨by omega, el.mpr (by omega), by omega⟩, updI_n (by omega)])
          · refine Go_iconst (pc := 52) dX6_tie_52 ?_
            refine Go_goto (pc := 53) (tgt := 57) dX6_tie_53 (by decide) ?_
            refine Go_istore (pc := 57) (L' := [some (.inr 3), some (.inl risen), some (.inl sunk), some (.inl i), some (.inl 1)]) dX6_tie_57 (by decide) rfl ?_
            refine Go_iload (pc := 59) dX6_tie_59 rfl ?_
            refine Go_if_eq (pc := 61) (tgt := 105) dX6_tie_61 (by decide) (by decide) (fun q => absurd q (by decide)) (fun _ => ?_)
            refine Go_aload_n (pc := 64) dX6_tie_64 rfl (by decide) rfl ?_
            refine Go_iload_n (pc := 65) dX6_tie_65 rfl rfl ?_
            refine Go_iconst (pc := 66) dX6_tie_66 ?_
            refine Go_invV (pc := 67) (y := yX1_ofShade) (avs := [.inl i, .inl 3]) (k := 3) (rest := []) (x := .inl (sc (tieZ (M 4) mv i) i 3))  (d' := d - 1) dX6_tie_67 ln_X6_72 mo_X1_ofShade vo_X1_ofShade rfl (rc_3) rfl rfl (Nat.le_of_ble_eq_true rfl) (by omega) (Nat.le_of_ble_eq_true rfl) rfl (s_X1_ofShade (by omega) (by decide) (by omega) (by decide) (by decide)) ?_
            refine Go_if_ne (pc := 70) (tgt := 105) dX6_tie_70 (by decide) (by first | exact hW.rs _ _ (by decide) | exact hW2.rs _ _ (by decide) | omega) (fun c70 => ?_) (fun c70 => ?_)
            · refine Go_iinc (pc := 105) (L' := [some (.inr 3), some (.inl risen), some (.inl sunk), some (.inl (i + 1)), some (.inl 1)]) dX6_tie_105 rfl (by decide) rfl ?_
              refine Go_goto (pc := 108) (tgt := 2) dX6_tie_108 (by decide) ?_
              have m0 := hr3 i h0 (by omega)
              have m1 := hr3 (i + 1) (by omega) (by omega)
              have el := mv_mul m0.1 m1.1
              refine Go_M ?_ (ih (by omega) _)
              rw [tieZ_s _ _ h0]
              first | (exfalso; omega) | (rw [tieS_n (fun z => by have z1 := z.1; have z2 := el.mp z.2.1; have z3 := z.2.2; omega)]) | (rw [tieS_y ⟨by omega, el.mpr (by omega), by omega⟩, updI_n (by omega)])
            · refine Go_aload_n (pc := 73) dX6_tie_73 rfl (by decide) rfl ?_
              refine Go_iload_n (pc := 74) dX6_tie_74 rfl rfl ?_
              refine Go_invS (pc := 75) (y := yX6_difference) (avs := [.inr 3, .inl i]) (rest := []) (x := .inl ((sc (tieZ (M 4) mv i) i 0 - sc (tieZ (M 4) mv i) (i + 1) 0).natAbs : Int))  (d' := d - 1) dX6_tie_75 ln_X6_78 mo_X6_difference so_X6_difference rfl rfl rfl (Nat.le_of_ble_eq_true rfl) (by omega) (Nat.le_of_ble_eq_true rfl) rfl (s_X6_difference (by omega) hW4 (by first | omega | (simp only [Nat.reduceAdd, setR_s]; omega)) (by first | omega | (simp only [Nat.reduceAdd, setR_s]; omega))) ?_
              refine Go_aload_n (pc := 78) dX6_tie_78 rfl (by decide) rfl ?_
              refine Go_iconst (pc := 79) dX6_tie_79 ?_
              refine Go_invV (pc := 80) (y := yX1_number) (avs := [.inl 5]) (k := 3) (rest := [.inl ((sc (tieZ (M 4) mv i) i 0 - sc (tieZ (M 4) mv i) (i + 1) 0).natAbs : Int)]) (x := .inl ((tieZ (M 4) mv i) 5))  (d' := d - 1) dX6_tie_80 ln_X6_82 mo_X1_number vo_X1_number rfl (rc_3) rfl rfl (Nat.le_of_ble_eq_true rfl) (by omega) (Nat.le_of_ble_eq_true rfl) rfl (s_X1_number (by omega) (by decide) (by decide) (by decide)) ?_
              refine Go_icmp_lt (pc := 83) (tgt := 105) dX6_tie_83 (by decide) (by omega) (by omega) (fun c83 => ?_) (fun c83 => ?_)
              · refine Go_iinc (pc := 105) (L' := [some (.inr 3), some (.inl risen), some (.inl sunk), some (.inl (i + 1)), some (.inl 1)]) dX6_tie_105 rfl (by decide) rfl ?_
                refine Go_goto (pc := 108) (tgt := 2) dX6_tie_108 (by decide) ?_
                have m0 := hr3 i h0 (by omega)
                have m1 := hr3 (i + 1) (by omega) (by omega)
                have el := mv_mul m0.1 m1.1
                refine Go_M ?_ (ih (by omega) _)
                rw [tieZ_s _ _ h0]
                first | (exfalso; omega) | (rw [tieS_n (fun z => by have z1 := z.1; have z2 := el.mp z.2.1; have z3 := z.2.2; omega)]) | (rw [tieS_y ⟨by omega, el.mpr (by omega), by omega⟩, updI_n (by omega)])
              · refine Go_aload_n (pc := 86) dX6_tie_86 rfl (by decide) rfl ?_
                refine Go_iload_n (pc := 87) dX6_tie_87 rfl rfl ?_
                refine Go_iconst (pc := 88) dX6_tie_88 ?_
                refine Go_iconst (pc := 89) dX6_tie_89 ?_
                refine Go_invVv (pc := 90) (y := yX1_putShade) (avs := [.inl i, .inl 3, .inl 1]) (k := 3) (rest := [])   (d' := d - 1) dX6_tie_90 ln_X6_17 mo_X1_putShade vo_X1_putShade rfl (rc_3) rfl rfl (Nat.le_of_ble_eq_true rfl) (by omega) (Nat.le_of_ble_eq_true rfl) rfl (s_X1_putShade (by omega) (by decide) (by first | omega | (simp only [Nat.reduceAdd, setR_s]; omega)) (by first | omega | (simp only [Nat.reduceAdd, setR_s]; omega)) (by decide) (by decide)) ?_
                refine Go_M (M1 := setR M 4 (updI (tieZ (M 4) mv i) (7 + 7 * i + 3) 1)) ((setR_tw _ _ _ _).trans rfl) ?_
                refine Go_aload_n (pc := 93) dX6_tie_93 rfl (by decide) rfl ?_
                refine Go_iconst (pc := 94) dX6_tie_94 ?_
                refine Go_aload_n (pc := 95) dX6_tie_95 rfl (by decide) rfl ?_
                refine Go_iconst (pc := 96) dX6_tie_96 ?_
                refine Go_invV (pc := 97) (y := yX1_number) (avs := [.inl 4]) (k := 3) (rest := [.inl 4, .inr 3]) (x := .inl ((updI (tieZ (M 4) mv i) (7 + 7 * i + 3) 1) 4))  (d' := d - 1) dX6_tie_97 ln_X6_82 mo_X1_number vo_X1_number rfl (rc_3) rfl rfl (Nat.le_of_ble_eq_true rfl) (by omega) (Nat.le_of_ble_eq_true rfl) rfl (s_X1_number (by omega) (by decide) (by decide) (by decide)) ?_
                refine Go_iconst (pc := 100) dX6_tie_100 ?_
                refine Go_iadd (pc := 101) dX6_tie_101 ?_
                refine Go_invVv (pc := 102) (y := yX1_putNumber) (avs := [.inl 4, .inl (((updI (tieZ (M 4) mv i) (7 + 7 * i + 3) 1) 4) + 1)]) (k := 3) (rest := [])   (d' := d - 1) dX6_tie_102 ln_X6_21 mo_X1_putNumber vo_X1_putNumber rfl (rc_3) rfl rfl (Nat.le_of_ble_eq_true rfl) (by omega) (Nat.le_of_ble_eq_true rfl) rfl (s_X1_putNumber (by omega) (by decide) (by decide) (by decide)) ?_
                refine Go_M (M1 := setR M 4 (updI (updI (tieZ (M 4) mv i) (7 + 7 * i + 3) 1) 4 (((updI (tieZ (M 4) mv i) (7 + 7 * i + 3) 1) 4) + 1))) ((setR_tw _ _ _ _).trans rfl) ?_
                refine Go_iinc (pc := 105) (L' := [some (.inr 3), some (.inl risen), some (.inl sunk), some (.inl (i + 1)), some (.inl 1)]) dX6_tie_105 rfl (by decide) rfl ?_
                refine Go_goto (pc := 108) (tgt := 2) dX6_tie_108 (by decide) ?_
                have m0 := hr3 i h0 (by omega)
                have m1 := hr3 (i + 1) (by omega) (by omega)
                have el := mv_mul m0.1 m1.1
                refine Go_M ?_ (ih (by omega) _)
                rw [tieZ_s _ _ h0]
                first | (exfalso; omega) | (rw [tieS_n (fun z => by have z1 := z.1; have z2 := el.mp z.2.1; have z3 := z.2.2; omega)]) | (rw [tieS_y ⟨by omega, el.mpr (by omega), by omega⟩, updI_n (by omega)])
      · refine Go_iload_n (pc := 21) dX6_tie_21 rfl rfl ?_
        refine Go_iload_n (pc := 22) dX6_tie_22 rfl rfl ?_
        refine Go_iconst (pc := 23) dX6_tie_23 ?_
        refine Go_iadd (pc := 24) dX6_tie_24 ?_
        refine Go_invSN (pc := 25) (y := yX7_bitOf) (avs := [.inl (i + 1)]) (rest := [.inl sunk]) (x := .inl (gshl 1 (i + 1)))  (d' := d - 1) dX6_tie_25 nk_X6_25 mo_X7_bitOf so_X7_bitOf rfl rfl rfl (Nat.le_of_ble_eq_true rfl) (by omega) (Nat.le_of_ble_eq_true rfl) rfl (s_X7_bitOf (by omega)) ?_
        refine Go_iand (pc := 28) dX6_tie_28 ?_
        refine Go_if_ne (pc := 29) (tgt := 52) dX6_tie_29 (by decide) (inR_gand _ _) (fun c29 => ?_) (fun c29 => ?_)
        · refine Go_iconst (pc := 52) dX6_tie_52 ?_
          refine Go_goto (pc := 53) (tgt := 57) dX6_tie_53 (by decide) ?_
          refine Go_istore (pc := 57) (L' := [some (.inr 3), some (.inl risen), some (.inl sunk), some (.inl i), some (.inl 1)]) dX6_tie_57 (by decide) rfl ?_
          refine Go_iload (pc := 59) dX6_tie_59 rfl ?_
          refine Go_if_eq (pc := 61) (tgt := 105) dX6_tie_61 (by decide) (by decide) (fun q => absurd q (by decide)) (fun _ => ?_)
          refine Go_aload_n (pc := 64) dX6_tie_64 rfl (by decide) rfl ?_
          refine Go_iload_n (pc := 65) dX6_tie_65 rfl rfl ?_
          refine Go_iconst (pc := 66) dX6_tie_66 ?_
          refine Go_invV (pc := 67) (y := yX1_ofShade) (avs := [.inl i, .inl 3]) (k := 3) (rest := []) (x := .inl (sc (tieZ (M 4) mv i) i 3))  (d' := d - 1) dX6_tie_67 ln_X6_72 mo_X1_ofShade vo_X1_ofShade rfl (rc_3) rfl rfl (Nat.le_of_ble_eq_true rfl) (by omega) (Nat.le_of_ble_eq_true rfl) rfl (s_X1_ofShade (by omega) (by decide) (by omega) (by decide) (by decide)) ?_
          refine Go_if_ne (pc := 70) (tgt := 105) dX6_tie_70 (by decide) (by first | exact hW.rs _ _ (by decide) | exact hW2.rs _ _ (by decide) | omega) (fun c70a => ?_) (fun c70a => ?_)
          · refine Go_iinc (pc := 105) (L' := [some (.inr 3), some (.inl risen), some (.inl sunk), some (.inl (i + 1)), some (.inl 1)]) dX6_tie_105 rfl (by decide) rfl ?_
            refine Go_goto (pc := 108) (tgt := 2) dX6_tie_108 (by decide) ?_
            have m0 := hr3 i h0 (by omega)
            have m1 := hr3 (i + 1) (by omega) (by omega)
            have el := mv_mul m0.1 m1.1
            refine Go_M ?_ (ih (by omega) _)
            rw [tieZ_s _ _ h0]
            first | (exfalso; omega) | (rw [tieS_n (fun z => by have z1 := z.1; have z2 := el.mp z.2.1; have z3 := z.2.2; omega)]) | (rw [tieS_y ⟨by omega, el.mpr (by omega), by omega⟩, updI_n (by omega)])
          · refine Go_aload_n (pc := 73) dX6_tie_73 rfl (by decide) rfl ?_
            refine Go_iload_n (pc := 74) dX6_tie_74 rfl rfl ?_
            refine Go_invS (pc := 75) (y := yX6_difference) (avs := [.inr 3, .inl i]) (rest := []) (x := .inl ((sc (tieZ (M 4) mv i) i 0 - sc (tieZ (M 4) mv i) (i + 1) 0).natAbs : Int))  (d' := d - 1) dX6_tie_75 ln_X6_78 mo_X6_difference so_X6_difference rfl rfl rfl (Nat.le_of_ble_eq_true rfl) (by omega) (Nat.le_of_ble_eq_true rfl) rfl (s_X6_difference (by omega) hW4 (by first | omega | (simp only [Nat.reduceAdd, setR_s]; omega)) (by first | omega | (simp only [Nat.reduceAdd, setR_s]; omega))) ?_
            refine Go_aload_n (pc := 78) dX6_tie_78 rfl (by decide) rfl ?_
            refine Go_iconst (pc := 79) dX6_tie_79 ?_
            refine Go_invV (pc := 80) (y := yX1_number) (avs := [.inl 5]) (k := 3) (rest := [.inl ((sc (tieZ (M 4) mv i) i 0 - sc (tieZ (M 4) mv i) (i + 1) 0).natAbs : Int)]) (x := .inl ((tieZ (M 4) mv i) 5))  (d' := d - 1) dX6_tie_80 ln_X6_82 mo_X1_number vo_X1_number rfl (rc_3) rfl rfl (Nat.le_of_ble_eq_true rfl) (by omega) (Nat.le_of_ble_eq_true rfl) rfl (s_X1_number (by omega) (by decide) (by decide) (by decide)) ?_
            refine Go_icmp_lt (pc := 83) (tgt := 105) dX6_tie_83 (by decide) (by omega) (by omega) (fun c83a => ?_) (fun c83a => ?_)
            · refine Go_iinc (pc := 105) (L' := [some (.inr 3), some (.inl risen), some (.inl sunk), some (.inl (i + 1)), some (.inl 1)]) dX6_tie_105 rfl (by decide) rfl ?_
              refine Go_goto (pc := 108) (tgt := 2) dX6_tie_108 (by decide) ?_
              have m0 := hr3 i h0 (by omega)
              have m1 := hr3 (i + 1) (by omega) (by omega)
              have el := mv_mul m0.1 m1.1
              refine Go_M ?_ (ih (by omega) _)
              rw [tieZ_s _ _ h0]
              first | (exfalso; omega) | (rw [tieS_n (fun z => by have z1 := z.1; have z2 := el.mp z.2.1; have z3 := z.2.2; omega)]) | (rw [tieS_y ⟨by omega, el.mpr (by omega), by omega⟩, updI_n (by omega)])
            · refine Go_aload_n (pc := 86) dX6_tie_86 rfl (by decide) rfl ?_
              refine Go_iload_n (pc := 87) dX6_tie_87 rfl rfl ?_
              refine Go_iconst (pc := 88) dX6_tie_88 ?_
              refine Go_iconst (pc := 89) dX6_tie_89 ?_
              refine Go_invVv (pc := 90) (y := yX1_putShade) (avs := [.inl i, .inl 3, .inl 1]) (k := 3) (rest := [])   (d' := d - 1) dX6_tie_90 ln_X6_17 mo_X1_putShade vo_X1_putShade rfl (rc_3) rfl rfl (Nat.le_of_ble_eq_true rfl) (by omega) (Nat.le_of_ble_eq_true rfl) rfl (s_X1_putShade (by omega) (by decide) (by first | omega | (simp only [Nat.reduceAdd, setR_s]; omega)) (by first | omega | (simp only [Nat.reduceAdd, setR_s]; omega)) (by decide) (by decide)) ?_
              refine Go_M (M1 := setR M 4 (updI (tieZ (M 4) mv i) (7 + 7 * i + 3) 1)) ((setR_tw _ _ _ _).trans rfl) ?_
              refine Go_aload_n (pc := 93) dX6_tie_93 rfl (by decide) rfl ?_
              refine Go_iconst (pc := 94) dX6_tie_94 ?_
              refine Go_aload_n (pc := 95) dX6_tie_95 rfl (by decide) rfl ?_
              refine Go_iconst (pc := 96) dX6_tie_96 ?_
              refine Go_invV (pc := 97) (y := yX1_number) (avs := [.inl 4]) (k := 3) (rest := [.inl 4, .inr 3]) (x := .inl ((updI (tieZ (M 4) mv i) (7 + 7 * i + 3) 1) 4))  (d' := d - 1) dX6_tie_97 ln_X6_82 mo_X1_number vo_X1_number rfl (rc_3) rfl rfl (Nat.le_of_ble_eq_true rfl) (by omega) (Nat.le_of_ble_eq_true rfl) rfl (s_X1_number (by omega) (by decide) (by decide) (by decide)) ?_
              refine Go_iconst (pc := 100) dX6_tie_100 ?_
              refine Go_iadd (pc := 101) dX6_tie_101 ?_
              refine Go_invVv (pc := 102) (y := yX1_putNumber) (avs := [.inl 4, .inl (((updI (tieZ (M 4) mv i) (7 + 7 * i + 3) 1) 4) + 1)]) (k := 3) (rest := [])   (d' := d - 1) dX6_tie_102 ln_X6_21 mo_X1_putNumber vo_X1_putNumber rfl (rc_3) rfl rfl (Nat.le_of_ble_eq_true rfl) (by omega) (Nat.le_of_ble_eq_true rfl) rfl (s_X1_putNumber (by omega) (by decide) (by decide) (by decide)) ?_
              refine Go_M (M1 := setR M 4 (updI (updI (tieZ (M 4) mv i) (7 + 7 * i + 3) 1) 4 (((updI (tieZ (M 4) mv i) (7 + 7 * i + 3) 1) 4) + 1))) ((setR_tw _ _ _ _).trans rfl) ?_
              refine Go_iinc (pc := 105) (L' := [some (.inr 3), some (.inl risen), some (.inl sunk), some (.inl (i + 1)), some (.inl 1)]) dX6_tie_105 rfl (by decide) rfl ?_
              refine Go_goto (pc := 108) (tgt := 2) dX6_tie_108 (by decide) ?_
              have m0 := hr3 i h0 (by omega)
              have m1 := hr3 (i + 1) (by omega) (by omega)
              have el := mv_mul m0.1 m1.1
              refine Go_M ?_ (ih (by omega) _)
              rw [tieZ_s _ _ h0]
              first | (exfalso; omega) | (rw [tieS_n (fun z => by have z1 := z.1; have z2 := el.mp z.2.1; have z3 := z.2.2; omega)]) | (rw [tieS_y ⟨by omega, el.mpr (by omega), by omega⟩, updI_n (by omega)])
        · refine Go_iload_n (pc := 32) dX6_tie_32 rfl rfl ?_
          refine Go_iload_n (pc := 33) dX6_tie_33 rfl rfl ?_
          refine Go_invSN (pc := 34) (y := yX7_bitOf) (avs := [.inl i]) (rest := [.inl sunk]) (x := .inl (gshl 1 i))  (d' := d - 1) dX6_tie_34 nk_X6_25 mo_X7_bitOf so_X7_bitOf rfl rfl rfl (Nat.le_of_ble_eq_true rfl) (by omega) (Nat.le_of_ble_eq_true rfl) rfl (s_X7_bitOf (by omega)) ?_
          refine Go_iand (pc := 37) dX6_tie_37 ?_
          refine Go_if_eq (pc := 38) (tgt := 56) dX6_tie_38 (by decide) (inR_gand _ _) (fun c38a => ?_) (fun c38a => ?_)
          · refine Go_iconst (pc := 56) dX6_tie_56 ?_
            refine Go_istore (pc := 57) (L' := [some (.inr 3), some (.inl risen), some (.inl sunk), some (.inl i), some (.inl 0)]) dX6_tie_57 (by decide) rfl ?_
            refine Go_iload (pc := 59) dX6_tie_59 rfl ?_
            refine Go_if_eq (pc := 61) (tgt := 105) dX6_tie_61 (by decide) (by decide) (fun _ => ?_) (fun q => absurd q (by decide))
            refine Go_iinc (pc := 105) (L' := [some (.inr 3), some (.inl risen), some (.inl sunk), some (.inl (i + 1)), some (.inl 0)]) dX6_tie_105 rfl (by decide) rfl ?_
            refine Go_goto (pc := 108) (tgt := 2) dX6_tie_108 (by decide) ?_
            have m0 := hr3 i h0 (by omega)
            have m1 := hr3 (i + 1) (by omega) (by omega)
            have el := mv_mul m0.1 m1.1
            refine Go_M ?_ (ih (by omega) _)
            rw [tieZ_s _ _ h0]
            first | (exfalso; omega) | (rw [tieS_n (fun z => by have z1 := z.1; have z2 := el.mp z.2.1; have z3 := z.2.2; omega)]) | (rw [tieS_y ⟨by omega, el.mpr (by omega), by omega⟩, updI_n (by omega)])
          · refine Go_iload_n (pc := 41) dX6_tie_41 rfl rfl ?_
            refine Go_iload_n (pc := 42) dX6_tie_42 rfl rfl ?_
            refine Go_iconst (pc := 43) dX6_tie_43 ?_
            refine Go_iadd (pc := 44) dX6_tie_44 ?_
            refine Go_invSN (pc := 45) (y := yX7_bitOf) (avs := [.inl (i + 1)]) (rest := [.inl risen]) (x := .inl (gshl 1 (i + 1)))  (d' := d - 1) dX6_tie_45 nk_X6_25 mo_X7_bitOf so_X7_bitOf rfl rfl rfl (Nat.le_of_ble_eq_true rfl) (by omega) (Nat.le_of_ble_eq_true rfl) rfl (s_X7_bitOf (by omega)) ?_
            refine Go_iand (pc := 48) dX6_tie_48 ?_
            refine Go_if_eq (pc := 49) (tgt := 56) dX6_tie_49 (by decide) (inR_gand _ _) (fun c49a => ?_) (fun c49a => ?_)
            · refine Go_iconst (pc := 56) dX6_tie_56 ?_
              refine Go_istore (pc := 57) (L' := [some (.inr 3), some (.inl risen), some (.inl sunk), some (.inl i), some (.inl 0)]) dX6_tie_57 (by decide) rfl ?_
              refine Go_iload (pc := 59) dX6_tie_59 rfl ?_
              refine Go_if_eq (pc := 61) (tgt := 105) dX6_tie_61 (by decide) (by decide) (fun _ => ?_) (fun q => absurd q (by decide))
              refine Go_iinc (pc := 105) (L' := [some (.inr 3), some (.inl risen), some (.inl sunk), some (.inl (i + 1)), some (.inl 0)]) dX6_tie_105 rfl (by decide) rfl ?_
              refine Go_goto (pc := 108) (tgt := 2) dX6_tie_108 (by decide) ?_
              have m0 := hr3 i h0 (by omega)
              have m1 := hr3 (i + 1) (by omega) (by omega)
              have el := mv_mul m0.1 m1.1
              refine Go_M ?_ (ih (by omega) _)
              rw [tieZ_s _ _ h0]
              first | (exfalso; omega) | (rw [tieS_n (fun z => by have z1 := z.1; have z2 := el.mp z.2.1; have z3 := z.2.2; omega)]) | (rw [tieS_y ⟨by omega, el.mpr (by omega), by omega⟩, updI_n (by omega)])
            · refine Go_iconst (pc := 52) dX6_tie_52 ?_
              refine Go_goto (pc := 53) (tgt := 57) dX6_tie_53 (by decide) ?_
              refine Go_istore (pc := 57) (L' := [some (.inr 3), some (.inl risen), some (.inl sunk), some (.inl i), some (.inl 1)]) dX6_tie_57 (by decide) rfl ?_
              refine Go_iload (pc := 59) dX6_tie_59 rfl ?_
              refine Go_if_eq (pc := 61) (tgt := 105) dX6_tie_61 (by decide) (by decide) (fun q => absurd q (by decide)) (fun _ => ?_)
              refine Go_aload_n (pc := 64) dX6_tie_64 rfl (by decide) rfl ?_
              refine Go_iload_n (pc := 65) dX6_tie_65 rfl rfl ?_
              refine Go_iconst (pc := 66) dX6_tie_66 ?_
              refine Go_invV (pc := 67) (y := yX1_ofShade) (avs := [.inl i, .inl 3]) (k := 3) (rest := []) (x := .inl (sc (tieZ (M 4) mv i) i 3))  (d' := d - 1) dX6_tie_67 ln_X6_72 mo_X1_ofShade vo_X1_ofShade rfl (rc_3) rfl rfl (Nat.le_of_ble_eq_true rfl) (by omega) (Nat.le_of_ble_eq_true rfl) rfl (s_X1_ofShade (by omega) (by decide) (by omega) (by decide) (by decide)) ?_
              refine Go_if_ne (pc := 70) (tgt := 105) dX6_tie_70 (by decide) (by first | exact hW.rs _ _ (by decide) | exact hW2.rs _ _ (by decide) | omega) (fun c70b => ?_) (fun c70b => ?_)
              · refine Go_iinc (pc := 105) (L' := [some (.inr 3), some (.inl risen), some (.inl sunk), some (.inl (i + 1)), some (.inl 1)]) dX6_tie_105 rfl (by decide) rfl ?_
                refine Go_goto (pc := 108) (tgt := 2) dX6_tie_108 (by decide) ?_
                have m0 := hr3 i h0 (by omega)
                have m1 := hr3 (i + 1) (by omega) (by omega)
                have el := mv_mul m0.1 m1.1
                refine Go_M ?_ (ih (by omega) _)
                rw [tieZ_s _ _ h0]
                first | (exfalso; omega) | (rw [tieS_n (fun z => by have z1 := z.1; have z2 := el.mp z.2.1; have z3 := z.2.2; omega)]) | (rw [tieS_y ⟨by omega, el.mpr (by omega), by omega⟩, updI_n (by omega)])
              · refine Go_aload_n (pc := 73) dX6_tie_73 rfl (by decide) rfl ?_
                refine Go_iload_n (pc := 74) dX6_tie_74 rfl rfl ?_
                refine Go_invS (pc := 75) (y := yX6_difference) (avs := [.inr 3, .inl i]) (rest := []) (x := .inl ((sc (tieZ (M 4) mv i) i 0 - sc (tieZ (M 4) mv i) (i + 1) 0).natAbs : Int))  (d' := d - 1) dX6_tie_75 ln_X6_78 mo_X6_difference so_X6_difference rfl rfl rfl (Nat.le_of_ble_eq_true rfl) (by omega) (Nat.le_of_ble_eq_true rfl) rfl (s_X6_difference (by omega) hW4 (by first | omega | (simp only [Nat.reduceAdd, setR_s]; omega)) (by first | omega | (simp only [Nat.reduceAdd, setR_s]; omega))) ?_
                refine Go_aload_n (pc := 78) dX6_tie_78 rfl (by decide) rfl ?_
                refine Go_iconst (pc := 79) dX6_tie_79 ?_
                refine Go_invV (pc := 80) (y := yX1_number) (avs := [.inl 5]) (k := 3) (rest := [.inl ((sc (tieZ (M 4) mv i) i 0 - sc (tieZ (M 4) mv i) (i + 1) 0).natAbs : Int)]) (x := .inl ((tieZ (M 4) mv i) 5))  (d' := d - 1) dX6_tie_80 ln_X6_82 mo_X1_number vo_X1_number rfl (rc_3) rfl rfl (Nat.le_of_ble_eq_true rfl) (by omega) (Nat.le_of_ble_eq_true rfl) rfl (s_X1_number (by omega) (by decide) (by decide) (by decide)) ?_
                refine Go_icmp_lt (pc := 83) (tgt := 105) dX6_tie_83 (by decide) (by omega) (by omega) (fun c83b => ?_) (fun c83b => ?_)
                · refine Go_iinc (pc := 105) (L' := [some (.inr 3), some (.inl risen), some (.inl sunk), some (.inl (i + 1)), some (.inl 1)]) dX6_tie_105 rfl (by decide) rfl ?_
                  refine Go_goto (pc := 108) (tgt := 2) dX6_tie_108 (by decide) ?_
                  have m0 := hr3 i h0 (by omega)
                  have m1 := hr3 (i + 1) (by omega) (by omega)
                  have el := mv_mul m0.1 m1.1
                  refine Go_M ?_ (ih (by omega) _)
                  rw [tieZ_s _ _ h0]
                  first | (exfalso; omega) | (rw [tieS_n (fun z => by have z1 := z.1; have z2 := el.mp z.2.1; have z3 := z.2.2; omega)]) | (rw [tieS_y ⟨by omega, el.mpr (by omega), by omega⟩, updI_n (by omega)])
                · refine Go_aload_n (pc := 86) dX6_tie_86 rfl (by decide) rfl ?_
                  refine Go_iload_n (pc := 87) dX6_tie_87 rfl rfl ?_
                  refine Go_iconst (pc := 88) dX6_tie_88 ?_
                  refine Go_iconst (pc := 89) dX6_tie_89 ?_
                  refine Go_invVv (pc := 90) (y := yX1_putShade) (avs := [.inl i, .inl 3, .inl 1]) (k := 3) (rest := [])   (d' := d - 1) dX6_tie_90 ln_X6_17 mo_X1_putShade vo_X1_putShade rfl (rc_3) rfl rfl (Nat.le_of_ble_eq_true rfl) (by omega) (Nat.le_of_ble_eq_true rfl) rfl (s_X1_putShade (by omega) (by decide) (by first | omega | (simp only [Nat.reduceAdd, setR_s]; omega)) (by first | omega | (simp only [Nat.reduceAdd, setR_s]; omega)) (by decide) (by decide)) ?_
                  refine Go_M (M1 := setR M 4 (updI (tieZ (M 4) mv i) (7 + 7 * i + 3) 1)) ((setR_tw _ _ _ _).trans rfl) ?_
                  refine Go_aload_n (pc := 93) dX6_tie_93 rfl (by decide) rfl ?_
                  refine Go_iconst (pc := 94) dX6_tie_94 ?_
                  refine Go_aload_n (pc := 95) dX6_tie_95 rfl (by decide) rfl ?_
                  refine Go_iconst (pc := 96) dX6_tie_96 ?_
                  refine Go_invV (pc := 97) (y := yX1_number) (avs := [.inl 4]) (k := 3) (rest := [.inl 4, .inr 3]) (x := .inl ((updI (tieZ (M 4) mv i) (7 + 7 * i + 3) 1) 4))  (d' := d - 1) dX6_tie_97 ln_X6_82 mo_X1_number vo_X1_number rfl (rc_3) rfl rfl (Nat.le_of_ble_eq_true rfl) (by omega) (Nat.le_of_ble_eq_true rfl) rfl (s_X1_number (by omega) (by decide) (by decide) (by decide)) ?_
                  refine Go_iconst (pc := 100) dX6_tie_100 ?_
                  refine Go_iadd (pc := 101) dX6_tie_101 ?_
                  refine Go_invVv (pc := 102) (y := yX1_putNumber) (avs := [.inl 4, .inl (((updI (tieZ (M 4) mv i) (7 + 7 * i + 3) 1) 4) + 1)]) (k := 3) (rest := [])   (d' := d - 1) dX6_tie_102 ln_X6_21 mo_X1_putNumber vo_X1_putNumber rfl (rc_3) rfl rfl (Nat.le_of_ble_eq_true rfl) (by omega) (Nat.le_of_ble_eq_true rfl) rfl (s_X1_putNumber (by omega) (by decide) (by decide) (by decide)) ?_
                  refine Go_M (M1 := setR M 4 (updI (updI (tieZ (M 4) mv i) (7 + 7 * i + 3) 1) 4 (((updI (tieZ (M 4) mv i) (7 + 7 * i + 3) 1) 4) + 1))) ((setR_tw _ _ _ _).trans rfl) ?_
                  refine Go_iinc (pc := 105) (L' := [some (.inr 3), some (.inl risen), some (.inl sunk), some (.inl (i + 1)), some (.inl 1)]) dX6_tie_105 rfl (by decide) rfl ?_
                  refine Go_goto (pc := 108) (tgt := 2) dX6_tie_108 (by decide) ?_
                  have m0 := hr3 i h0 (by omega)
                  have m1 := hr3 (i + 1) (by omega) (by omega)
                  have el := mv_mul m0.1 m1.1
                  refine Go_M ?_ (ih (by omega) _)
                  rw [tieZ_s _ _ h0]
                  first | (exfalso; omega) | (rw [tieS_n (fun z => by have z1 := z.1; have z2 := el.mp z.2.1; have z3 := z.2.2; omega)]) | (rw [tieS_y ⟨by omega, el.mpr (by omega), by omega⟩, updI_n (by omega)])
  refine Go_iconst (pc := 0) dX6_tie_0 ?_
  refine Go_istore_n (pc := 1) (L' := [some (.inr 3), some (.inl risen), some (.inl sunk), some (.inl 0), none]) dX6_tie_1 rfl (by decide) rfl ?_
  exact Go_M (by rw [show tieZ (M 4) mv 0 = M 4 from rfl, setR_id]) (K 0 (by omega) (by omega) _)
