/-! the reference: pull, would -/
def refP (M : gMem) (j z : Int) : gMem := if pullOk (M 17) j z then okM (setR (setR M 22 (stoodR (M 22) (M 17) (M 17 0))) 23 (pullMv (M 17) j z)) (pullG (M 17) j z) else setR M 19 (M 17)
theorem s_X8_pull {d : Nat} (hd : 6 ≤ d) {a b : Int} {M : gMem} (hS : InvR M) (ha : inR a) (hb : inR b) (h23 : ∀ q, q < 0 ∨ 8 ≤ q → M 23 q = 0) : Go d RX8 cX8_pull 3 (some .int) 0 [some (.inr 16), some (.inl a), some (.inl b)] [] M (some (.inl ((pullR (M 17) a b).1))) (refP M a b) := by
  have hW := hS.1
  have hn16 := hS.2.2.2
  by_cases c : pullOk (M 17) a b
  · have hr := pullR_r hW a b
    have hp := pullR_p hW c
    rw [show refP M a b = _ from if_pos c]
    refine Go_aload_n (pc := 0) dX8_pull_0 rfl (by decide) rfl ?_
    refine Go_invVv (pc := 1) (y := yX8_keeps) (avs := []) (k := 16) (rest := [])  (M1 := setR M 19 (M 17)) (d' := d - 1) dX8_pull_1 ln_X8_48 mo_X8_keeps vo_X8_keeps rfl (rc_16) rfl rfl (Nat.le_of_ble_eq_true rfl) (by omega) (Nat.le_of_ble_eq_true rfl) rfl (s_X8_keeps (by omega) hW.o hS.2.1) ?_
    refine Go_aload_n (pc := 4) dX8_pull_4 rfl (by decide) rfl ?_
    refine Go_aload_n (pc := 5) dX8_pull_5 rfl (by decide) rfl ?_
    refine Go_iload_n (pc := 6) dX8_pull_6 rfl rfl ?_
    refine Go_iload_n (pc := 7) dX8_pull_7 rfl rfl ?_
    refine Go_invV (pc := 8) (y := yX8_pullsOne) (avs := [.inl a, .inl b]) (k := 16) (rest := [.inr 16]) (x := .inl ((pullR (M 17) a b).1)) (M1 := setR (setR (setR (setR M 19 (M 17)) 17 (pullG (M 17) a b)) 22 (stoodR (M 22) (M 17) (M 17 0))) 23 (pullMv (M 17) a b)) (d' := d - 1) dX8_pull_8 ln_X8_80 mo_X8_pullsOne vo_X8_pullsOne rfl (rc_16) rfl rfl (Nat.le_of_ble_eq_true rfl) (by omega) (Nat.le_of_ble_eq_true rfl) rfl (s_X8_pullsOne (by omega) hW (by omega) (by omega) c h23) ?_
    refine Go_invV (pc := 11) (y := yX8_acted) (avs := [.inl ((pullR (M 17) a b).1)]) (k := 16) (rest := []) (x := .inl ((pullR (M 17) a b).1)) (M1 := setR (setR (setR (setR (setR (setR M 19 (M 17)) 17 (pullG (M 17) a b)) 22 (stoodR (M 22) (M 17) (M 17 0))) 23 (pullMv (M 17) a b)) 18 (hisR (M 18) (M 17) (M 16 4))) 16 (updI (M 16) 4 (hisN (M 16 4)))) (d' := d - 1) dX8_pull_11 ln_X8_51 mo_X8_acted vo_X8_acted rfl (rc_16) rfl rfl (Nat.le_of_ble_eq_true rfl) (by omega) (Nat.le_of_ble_eq_true rfl) rfl (s_X8_acted (by omega) (by omega) (by omega) hn16) ?_
    exact Go_ireturn (pc := 14) dX8_pull_14 rfl rfl (by unfold okM; funext q; simp only [setR]; (repeat' split) <;> first | rfl | omega | simp_all)
  · rw [show refP M a b = _ from if_neg c, pullR_n c]
    refine Go_aload_n (pc := 0) dX8_pull_0 rfl (by decide) rfl ?_
    refine Go_invVv (pc := 1) (y := yX8_keeps) (avs := []) (k := 16) (rest := [])  (M1 := setR M 19 (M 17)) (d' := d - 1) dX8_pull_1 ln_X8_48 mo_X8_keeps vo_X8_keeps rfl (rc_16) rfl rfl (Nat.le_of_ble_eq_true rfl) (by omega) (Nat.le_of_ble_eq_true rfl) rfl (s_X8_keeps (by omega) hW.o hS.2.1) ?_
    refine Go_aload_n (pc := 4) dX8_pull_4 rfl (by decide) rfl ?_
    refine Go_aload_n (pc := 5) dX8_pull_5 rfl (by decide) rfl ?_
    refine Go_iload_n (pc := 6) dX8_pull_6 rfl rfl ?_
    refine Go_iload_n (pc := 7) dX8_pull_7 rfl rfl ?_
    refine Go_invV (pc := 8) (y := yX8_pullsOne) (avs := [.inl a, .inl b]) (k := 16) (rest := [.inr 16]) (x := .inl (-1000001))  (d' := d - 1) dX8_pull_8 ln_X8_80 mo_X8_pullsOne vo_X8_pullsOne rfl (rc_16) rfl rfl (Nat.le_of_ble_eq_true rfl) (by omega) (Nat.le_of_ble_eq_true rfl) rfl (s_X8_pullsOne_no (by omega) hW (by omega) (by omega) c) ?_
    refine Go_invV (pc := 11) (y := yX8_acted) (avs := [.inl (-1000001)]) (k := 16) (rest := []) (x := .inl (-1000001))  (d' := d - 1) dX8_pull_11 ln_X8_51 mo_X8_acted vo_X8_acted rfl (rc_16) rfl rfl (Nat.le_of_ble_eq_true rfl) (by omega) (Nat.le_of_ble_eq_true rfl) rfl (s_X8_acted_no (by omega) (by omega) (by omega)) ?_
    exact Go_ireturn (pc := 14) dX8_pull_14 rfl rfl rfl
abbrev wldOk (f : Int → Int) (j z e : Int) : Prop := pullOk f j z ∧ ((0 ≤ e ∧ e ≤ 3) ∨ (10 ≤ e ∧ e - 10 < f 0))
def refW (M : gMem) (j z e : Int) : gMem := if wldOk (M 17) j z e then setR (setR (setR M 20 (M 17)) 22 (stoodR (M 22) (M 17) (M 17 0))) 23 (pullMv (M 17) j z) else M
theorem s_X8_would {d : Nat} (hd : 8 ≤ d) {a b e : Int} {M : gMem} (hS : InvR M) (ha : inR a) (hb : inR b) (he : inR e) (h23 : ∀ q, q < 0 ∨ 8 ≤ q → M 23 q = 0) : Go d RX8 cX8_would 10 (some .int) 0 [some (.inr 16), some (.inl a), some (.inl b), some (.inl e), none, none, none, none, none, none] [] M (some (.inl (wldR (M 17) a b e))) (refW M a b e) := by
  have hW := hS.1
  have hn := hW.n
  have ht := hW.t
  by_cases c : wldOk (M 17) a b e
  · have hp := pullR_p hW c.1
    have hr := pullR_r hW a b
    have hG := pullG_W hW c.1.1 (z := b)
    have hG0 := pullG_q hW c.1.1 (z := b) (q := 0) (by decide) (by decide)
    have pr := pullR_y c.1
    have pa : M 17 (63 + 4 * a + 3) = tc (M 17) a 3 := (tc_in _ _ (by omega) (by omega)).symm
    rw [show refW M a b e = _ from if_pos c, wldR_y e c.1]
    have g0 : e = 0 → wldF (M 17) (pullG (M 17) a b) a e = (pullR (M 17) a b).1 := fun q => by unfold wldF; rw [if_pos q, pr]
    have g1 : e = 1 → wldF (M 17) (pullG (M 17) a b) a e = knotsF (pullG (M 17) a b) := fun q => by unfold wldF; rw [if_neg (by omega), if_pos q]
    have g2 : e = 2 → wldF (M 17) (pullG (M 17) a b) a e = tc (pullG (M 17) a b) a 3 - M 17 (63 + 4 * a + 3) := fun q => by unfold wldF; rw [if_neg (by omega), if_neg (by omega), if_pos q, pa]
    have g3 : e = 3 → wldF (M 17) (pullG (M 17) a b) a e = standF (pullG (M 17) a b) := fun q => by unfold wldF; rw [if_neg (by omega), if_neg (by omega), if_neg (by omega), if_pos q]
    have g4 : 10 ≤ e → wldF (M 17) (pullG (M 17) a b) a e = sc (pullG (M 17) a b) (e - 10) 0 := fun q => by unfold wldF htenF; rw [if_neg (by omega), if_neg (by omega), if_neg (by omega), if_neg (by omega), if_pos (by omega)]
    refine Go_aload_n (pc := 0) dX8_would_0 rfl (by decide) rfl ?_
    refine Go_iload_n (pc := 1) dX8_would_1 rfl rfl ?_
    refine Go_invV (pc := 2) (y := yX8_isString) (avs := [.inl a]) (k := 16) (rest := []) (x := .inl (b2i (0 ≤ a ∧ a < M 17 1)))  (d' := d - 1) dX8_would_2 ln_X8_73 mo_X8_isString vo_X8_isString rfl (rc_16) rfl rfl (Nat.le_of_ble_eq_true rfl) (by omega) (Nat.le_of_ble_eq_true rfl) rfl (s_X8_isString (by omega) (by omega) (by first | exact hG | exact hW)) ?_
    refine Go_ifeqB (pc := 5) (tgt := 27) dX8_would_5 (by decide) (fun c5 => ?_) (fun c5 => ?_)
    · refine Go_iconst (pc := 27) dX8_would_27 ?_
      refine Go_istore (pc := 28) (L' := [some (.inr 16), some (.inl a), some (.inl b), some (.inl e), some (.inl 0), none, none, none, none, none]) dX8_would_28 (by decide) rfl ?_
      refine Go_iload (pc := 30) dX8_would_30 rfl ?_
      refine Go_if_eq (pc := 32) (tgt := 61) dX8_would_32 (by decide) (by decide) (fun _ => ?_) (fun q => absurd q (by decide))
      refine Go_ldc (pc := 61) (n := -1000001) rfl kc_X8_42 dX8_would_61 ?_
      first | (exfalso; omega) | exact Go_ireturn (pc := 63) dX8_would_63 rfl (by first | rw [g0 (by omega)] | rw [g1 (by omega)] | rw [g2 (by omega)] | rw [g3 (by omega)] | rw [g4 (by omega)]) (by funext q; simp only [setR]; (repeat' split) <;> first | rfl | omega | simp_all)
    · refine Go_iload_n (pc := 8) dX8_would_8 rfl rfl ?_
      refine Go_bipush (pc := 9) dX8_would_9 (by decide) (by decide) ?_
      refine Go_bipush (pc := 11) dX8_would_11 (by decide) (by decide) ?_
      refine Go_invS (pc := 13) (y := yX8_in) (avs := [.inl b, .inl (-9), .inl 9]) (rest := []) (x := .inl (b2i ((-9) ≤ b ∧ b ≤ 9)))  (d' := d - 1) dX8_would_13 ln_X8_38 mo_X8_in so_X8_in rfl rfl rfl (Nat.le_of_ble_eq_true rfl) (by omega) (Nat.le_of_ble_eq_true rfl) rfl (s_X8_in (by omega) (by omega) (by decide) (by decide)) ?_
      refine Go_ifeqB (pc := 16) (tgt := 27) dX8_would_16 (by decide) (fun c16 => ?_) (fun c16 => ?_)
      · refine Go_iconst (pc := 27) dX8_would_27 ?_
        refine Go_istore (pc := 28) (L' := [some (.inr 16), some (.inl a), some (.inl b), some (.inl e), some (.inl 0), none, none, none, none, none]) dX8_would_28 (by decide) rfl ?_
        refine Go_iload (pc := 30) dX8_would_30 rfl ?_
        refine Go_if_eq (pc := 32) (tgt := 61) dX8_would_32 (by decide) (by decide) (fun _ => ?_) (fun q => absurd q (by decide))
        refine Go_ldc (pc := 61) (n := -1000001) rfl kc_X8_42 dX8_would_61 ?_
        first | (exfalso; omega) | exact Go_ireturn (pc := 63) dX8_would_63 rfl (by first | rw [g0 (by omega)] | rw [g1 (by omega)] | rw [g2 (by omega)] | rw [g3 (by omega)] | rw [g4 (by omega)]) (by funext q; simp only [setR]; (repeat' split) <;> first | rfl | omega | simp_all)
      · refine Go_iload_n (pc := 19) dX8_would_19 rfl rfl ?_
        refine Go_if_eq (pc := 20) (tgt := 27) dX8_would_20 (by decide) (by omega) (fun c20 => ?_) (fun c20 => ?_)
        · refine Go_iconst (pc := 27) dX8_would_27 ?_
          refine Go_istore (pc := 28) (L' := [some (.inr 16), some (.inl a), some (.inl b), some (.inl e), some (.inl 0), none, none, none, none, none]) dX8_would_28 (by decide) rfl ?_
          refine Go_iload (pc := 30) dX8_would_30 rfl ?_
          refine Go_if_eq (pc := 32) (tgt := 61) dX8_would_32 (by decide) (by decide) (fun _ => ?_) (fun q => absurd q (by decide))
          refine Go_ldc (pc := 61) (n := -1000001) rfl kc_X8_42 dX8_would_61 ?_
          first | (exfalso; omega) | exact Go_ireturn (pc := 63) dX8_would_63 rfl (by first | rw [g0 (by omega)] | rw [g1 (by omega)] | rw [g2 (by omega)] | rw [g3 (by omega)] | rw [g4 (by omega)]) (by funext q; simp only [setR]; (repeat' split) <;> first | rfl | omega | simp_all)
        · refine Go_iconst (pc := 23) dX8_would_23 ?_
          refine Go_goto (pc := 24) (tgt := 28) dX8_would_24 (by decide) ?_
          refine Go_istore (pc := 28) (L' := [some (.inr 16), some (.inl a), some (.inl b), some (.inl e), some (.inl 1), none, none, none, none, none]) dX8_would_28 (by decide) rfl ?_
          refine Go_iload (pc := 30) dX8_would_30 rfl ?_
          refine Go_if_eq (pc := 32) (tgt := 61) dX8_would_32 (by decide) (by decide) (fun q => absurd q (by decide)) (fun _ => ?_)
          refine Go_iload_n (pc := 35) dX8_would_35 rfl rfl ?_
          refine Go_iconst (pc := 36) dX8_would_36 ?_
          refine Go_iconst (pc := 37) dX8_would_37 ?_
          refine Go_invS (pc := 38) (y := yX8_in) (avs := [.inl e, .inl 0, .inl 3]) (rest := []) (x := .inl (b2i (0 ≤ e ∧ e ≤ 3)))  (d' := d - 1) dX8_would_38 ln_X8_38 mo_X8_in so_X8_in rfl rfl rfl (Nat.le_of_ble_eq_true rfl) (by omega) (Nat.le_of_ble_eq_true rfl) rfl (s_X8_in (by omega) (by omega) (by decide) (by decide)) ?_
          refine Go_ifneB (pc := 41) (tgt := 64) dX8_would_41 (by decide) (fun c41 => ?_) (fun c41 => ?_)
          · refine Go_aload_n (pc := 64) dX8_would_64 rfl (by decide) rfl ?_
            refine Go_invVv (pc := 65) (y := yX8_puts) (avs := []) (k := 16) (rest := [])  (M1 := setR M 20 (M 17)) (d' := d - 1) dX8_would_65 ln_X8_128 mo_X8_puts vo_X8_puts rfl (rc_16) rfl rfl (Nat.le_of_ble_eq_true rfl) (by omega) (Nat.le_of_ble_eq_true rfl) rfl (s_X8_puts (by omega) (by first | exact hW.o | exact hG.o) (by first | exact hS.2.2.1 | exact hW.o)) ?_
            refine Go_aload_n (pc := 68) dX8_would_68 rfl (by decide) rfl ?_
            refine Go_iload_n (pc := 69) dX8_would_69 rfl rfl ?_
            refine Go_iload_n (pc := 70) dX8_would_70 rfl rfl ?_
            refine Go_invV (pc := 71) (y := yX8_pullsOne) (avs := [.inl a, .inl b]) (k := 16) (rest := []) (x := .inl ((pullR (M 17) a b).1)) (M1 := setR (setR (setR (setR M 20 (M 17)) 17 (pullG (M 17) a b)) 22 (stoodR (M 22) (M 17) (M 17 0))) 23 (pullMv (M 17) a b)) (d' := d - 1) dX8_would_71 ln_X8_80 mo_X8_pullsOne vo_X8_pullsOne rfl (rc_16) rfl rfl (Nat.le_of_ble_eq_true rfl) (by omega) (Nat.le_of_ble_eq_true rfl) rfl (s_X8_pullsOne (by omega) (by first | exact hG | exact hW) (by omega) (by omega) c.1 h23) ?_
            refine Go_istore (pc := 74) (L' := [some (.inr 16), some (.inl a), some (.inl b), some (.inl e), some (.inl 1), some (.inl ((pullR (M 17) a b).1)), none, none, none, none]) dX8_would_74 (by decide) rfl ?_
            refine Go_aload_n (pc := 76) dX8_would_76 rfl (by decide) rfl ?_
            refine Go_iload_n (pc := 77) dX8_would_77 rfl rfl ?_
            refine Go_iconst (pc := 78) dX8_would_78 ?_
            refine Go_invV (pc := 79) (y := yX8_st) (avs := [.inl a, .inl 3]) (k := 16) (rest := []) (x := .inl (tc (pullG (M 17) a b) a 3))  (d' := d - 1) dX8_would_79 ln_X8_63 mo_X8_st vo_X8_st rfl (rc_16) rfl rfl (Nat.le_of_ble_eq_true rfl) (by omega) (Nat.le_of_ble_eq_true rfl) rfl (s_X8_st (by omega) (by first | omega | (simp only [Nat.reduceAdd, setR_s]; omega) | (simp only [setR, Nat.reduceEqDiff, reduceIte]; omega)) (by first | omega | (simp only [Nat.reduceAdd, setR_s]; omega) | (simp only [setR, Nat.reduceEqDiff, reduceIte]; omega)) (by decide) (by decide)) ?_
            refine Go_aload_n (pc := 82) dX8_would_82 rfl (by decide) rfl ?_
            refine Go_getr (pc := 83) (r := 20) dX8_would_83 fo_X8_19 (by decide) rfl rfl (by decide) ?_
            refine Go_bipush (pc := 86) dX8_would_86 (by decide) (by decide) ?_
            refine Go_iconst (pc := 88) dX8_would_88 ?_
            refine Go_iload_n (pc := 89) dX8_would_89 rfl rfl ?_
            refine Go_imul (pc := 90) dX8_would_90 ?_
            refine Go_iadd (pc := 91) dX8_would_91 ?_
            refine Go_iconst (pc := 92) dX8_would_92 ?_
            refine Go_iadd (pc := 93) dX8_would_93 ?_
            refine Go_iaload (pc := 94) (z := (M 17) ((63 + (4 * a)) + 3)) dX8_would_94 (by decide) rfl (by omega) (by omega) (rfl) ?_
            refine Go_isub (pc := 95) dX8_would_95 ?_
            refine Go_istore (pc := 96) (L' := [some (.inr 16), some (.inl a), some (.inl b), some (.inl e), some (.inl 1), some (.inl ((pullR (M 17) a b).1)), some (.inl ((tc (pullG (M 17) a b) a 3) - ((M 17) ((63 + (4 * a)) + 3)))), none, none, none]) dX8_would_96 (by decide) rfl ?_
            refine Go_aload_n (pc := 98) dX8_would_98 rfl (by decide) rfl ?_
            refine Go_invV (pc := 99) (y := yX8_knots) (avs := []) (k := 16) (rest := []) (x := .inl (knotsF (pullG (M 17) a b)))  (d' := d - 1) dX8_would_99 ln_X8_131 mo_X8_knots vo_X8_knots rfl (rc_16) rfl rfl (Nat.le_of_ble_eq_true rfl) (by omega) (Nat.le_of_ble_eq_true rfl) rfl (s_X8_knots (by omega) (by first | exact hG | exact hW)) ?_
            refine Go_istore (pc := 102) (L' := [some (.inr 16), some (.inl a), some (.inl b), some (.inl e), some (.inl 1), some (.inl ((pullR (M 17) a b).1)), some (.inl ((tc (pullG (M 17) a b) a 3) - ((M 17) ((63 + (4 * a)) + 3)))), some (.inl (knotsF (pullG (M 17) a b))), none, none]) dX8_would_102 (by decide) rfl ?_
            refine Go_aload_n (pc := 104) dX8_would_104 rfl (by decide) rfl ?_
            refine Go_invV (pc := 105) (y := yX8_standing) (avs := []) (k := 16) (rest := []) (x := .inl (standF (pullG (M 17) a b)))  (d' := d - 1) dX8_would_105 ln_X8_93 mo_X8_standing vo_X8_standing rfl (rc_16) rfl rfl (Nat.le_of_ble_eq_true rfl) (by omega) (Nat.le_of_ble_eq_true rfl) rfl (s_X8_standing (by omega) (by first | exact hG | exact hW)) ?_
            refine Go_istore (pc := 108) (L' := [some (.inr 16), some (.inl a), some (.inl b), some (.inl e), some (.inl 1), some (.inl ((pullR (M 17) a b).1)), some (.inl ((tc (pullG (M 17) a b) a 3) - ((M 17) ((63 + (4 * a)) + 3)))), some (.inl (knotsF (pullG (M 17) a b))), some (.inl (standF (pullG (M 17) a b))), none]) dX8_would_108 (by decide) rfl ?_
            refine Go_iload_n (pc := 110) dX8_would_110 rfl rfl ?_
            refine Go_bipush (pc := 111) dX8_would_111 (by decide) (by decide) ?_
            refine Go_icmp_ge (pc := 113) (tgt := 120) dX8_would_113 (by decide) (by omega) (by decide) (fun c113 => ?_) (fun c113 => ?_)
            · refine Go_aload_n (pc := 120) dX8_would_120 rfl (by decide) rfl ?_
              refine Go_iload_n (pc := 121) dX8_would_121 rfl rfl ?_
              refine Go_bipush (pc := 122) dX8_would_122 (by decide) (by decide) ?_
              refine Go_isub (pc := 124) dX8_would_124 ?_
              refine Go_iconst (pc := 125) dX8_would_125 ?_
              refine Go_invV (pc := 126) (y := yX8_sh) (avs := [.inl (e - 10), .inl 0]) (k := 16) (rest := []) (x := .inl (sc (pullG (M 17) a b) (e - 10) 0))  (d' := d - 1) dX8_would_126 ln_X8_59 mo_X8_sh vo_X8_sh rfl (rc_16) rfl rfl (Nat.le_of_ble_eq_true rfl) (by omega) (Nat.le_of_ble_eq_true rfl) rfl (s_X8_sh (by omega) (by first | omega | (simp only [Nat.reduceAdd, setR_s]; omega) | (simp only [setR, Nat.reduceEqDiff, reduceIte]; omega)) (by first | omega | (simp only [Nat.reduceAdd, setR_s]; omega) | (simp only [setR, Nat.reduceEqDiff, reduceIte]; omega)) (by decide) (by decide)) ?_
              refine Go_istore (pc := 129) (L' := [some (.inr 16), some (.inl a), some (.inl b), some (.inl e), some (.inl 1), some (.inl ((pullR (M 17) a b).1)), some (.inl ((tc (pullG (M 17) a b) a 3) - ((M 17) ((63 + (4 * a)) + 3)))), some (.inl (knotsF (pullG (M 17) a b))), some (.inl (standF (pullG (M 17) a b))), some (.inl (sc (pullG (M 17) a b) (e - 10) 0))]) dX8_would_129 (by decide) rfl ?_
              refine Go_aload_n (pc := 131) dX8_would_131 rfl (by decide) rfl ?_
              refine Go_invVv (pc := 132) (y := yX8_restores) (avs := []) (k := 16) (rest := [])   (d' := d - 1) dX8_would_132 ln_X8_134 mo_X8_restores vo_X8_restores rfl (rc_16) rfl rfl (Nat.le_of_ble_eq_true rfl) (by omega) (Nat.le_of_ble_eq_true rfl) rfl (s_X8_restores (by omega) (by first | exact hS.2.2.1 | exact hW.o) (by first | exact hW.o | exact hG.o)) ?_
              refine Go_M (M1 := setR (setR (setR (setR M 20 (M 17)) 22 (stoodR (M 22) (M 17) (M 17 0))) 23 (pullMv (M 17) a b)) 17 (M 17)) (by funext q; simp only [setR]; (repeat' split) <;> first | rfl | omega | simp_all) ?_
              refine Go_iload_n (pc := 135) dX8_would_135 rfl rfl ?_
              refine Go_if_ne (pc := 136) (tgt := 144) dX8_would_136 (by decide) (by omega) (fun c136 => ?_) (fun c136 => ?_)
              · refine Go_iload_n (pc := 144) dX8_would_144 rfl rfl ?_
                refine Go_iconst (pc := 145) dX8_would_145 ?_
                refine Go_icmp_ne (pc := 146) (tgt := 154) dX8_would_146 (by decide) (by omega) (by decide) (fun c146 => ?_) (fun c146 => ?_)
                · refine Go_iload_n (pc := 154) dX8_would_154 rfl rfl ?_
                  refine Go_iconst (pc := 155) dX8_would_155 ?_
                  refine Go_icmp_ne (pc := 156) (tgt := 164) dX8_would_156 (by decide) (by omega) (by decide) (fun c156 => ?_) (fun c156 => ?_)
                  · refine Go_iload_n (pc := 164) dX8_would_164 rfl rfl ?_
                    refine Go_iconst (pc := 165) dX8_would_165 ?_
                    refine Go_icmp_ne (pc := 166) (tgt := 174) dX8_would_166 (by decide) (by omega) (by decide) (fun c166 => ?_) (fun c166 => ?_)
                    · refine Go_iload (pc := 174) dX8_would_174 rfl ?_
                      first | (exfalso; omega) | exact Go_ireturn (pc := 176) dX8_would_176 rfl (by first | rw [g0 (by omega)] | rw [g1 (by omega)] | rw [g2 (by omega)] | rw [g3 (by omega)] | rw [g4 (by omega)]) (by funext q; simp only [setR]; (repeat' split) <;> first | rfl | omega | simp_all)
                    · refine Go_iload (pc := 169) dX8_would_169 rfl ?_
                      refine Go_goto (pc := 171) (tgt := 176) dX8_would_171 (by decide) ?_
                      first | (exfalso; omega) | exact Go_ireturn (pc := 176) dX8_would_176 rfl (by first | rw [g0 (by omega)] | rw [g1 (by omega)] | rw [g2 (by omega)] | rw [g3 (by omega)] | rw [g4 (by omega)]) (by funext q; simp only [setR]; (repeat' split) <;> first | rfl | omega | simp_all)
                  · refine Go_iload (pc := 159) dX8_would_159 rfl ?_
                    refine Go_goto (pc := 161) (tgt := 176) dX8_would_161 (by decide) ?_
                    first | (exfalso; omega) | exact Go_ireturn (pc := 176) dX8_would_176 rfl (by first | rw [g0 (by omega)] | rw [g1 (by omega)] | rw [g2 (by omega)] | rw [g3 (by omega)] | rw [g4 (by omega)]) (by funext q; simp only [setR]; (repeat' split) <;> first | rfl | omega | simp_all)
                · refine Go_iload (pc := 149) dX8_would_149 rfl ?_
                  refine Go_goto (pc := 151) (tgt := 176) dX8_would_151 (by decide) ?_
                  first | (exfalso; omega) | exact Go_ireturn (pc := 176) dX8_would_176 rfl (by first | rw [g0 (by omega)] | rw [g1 (by omega)] | rw [g2 (by omega)] | rw [g3 (by omega)] | rw [g4 (by omega)]) (by funext q; simp only [setR]; (repeat' split) <;> first | rfl | omega | simp_all)
              · refine Go_iload (pc := 139) dX8_would_139 rfl ?_
                refine Go_goto (pc := 141) (tgt := 176) dX8_would_141 (by decide) ?_
                first | (exfalso; omega) | exact Go_ireturn (pc := 176) dX8_would_176 rfl (by first | rw [g0 (by omega)] | rw [g1 (by omega)] | rw [g2 (by omega)] | rw [g3 (by omega)] | rw [g4 (by omega)]) (by funext q; simp only [setR]; (repeat' split) <;> first | rfl | omega | simp_all)
            · refine Go_iconst (pc := 116) dX8_would_116 ?_
              refine Go_goto (pc := 117) (tgt := 129) dX8_would_117 (by decide) ?_
              refine Go_istore (pc := 129) (L' := [some (.inr 16), some (.inl a), some (.inl b), some (.inl e), some (.inl 1), some (.inl ((pullR (M 17) a b).1)), some (.inl ((tc (pullG (M 17) a b) a 3) - ((M 17) ((63 + (4 * a)) + 3)))), some (.inl (knotsF (pullG (M 17) a b))), some (.inl (standF (pullG (M 17) a b))), some (.inl 0)]) dX8_would_129 (by decide) rfl ?_
              refine Go_aload_n (pc := 131) dX8_would_131 rfl (by decide) rfl ?_
              refine Go_invVv (pc := 132) (y := yX8_restores) (avs := []) (k := 16) (rest := [])   (d' := d - 1) dX8_would_132 ln_X8_134 mo_X8_restores vo_X8_restores rfl (rc_16) rfl rfl (Nat.le_of_ble_eq_true rfl) (by omega) (Nat.le_of_ble_eq_true rfl) rfl (s_X8_restores (by omega) (by first | exact hS.2.2.1 | exact hW.o) (by first | exact hW.o | exact hG.o)) ?_
              refine Go_M (M1 := setR (setR (setR (setR M 20 (M 17)) 22 (stoodR (M 22) (M 17) (M 17 0))) 23 (pullMv (M 17) a b)) 17 (M 17)) (by funext q; simp only [setR]; (repeat' split) <;> first | rfl | omega | simp_all) ?_
              refine Go_iload_n (pc := 135) dX8_would_135 rfl rfl ?_
              refine Go_if_ne (pc := 136) (tgt := 144) dX8_would_136 (by decide) (by omega) (fun c136a => ?_) (fun c136a => ?_)
              · refine Go_iload_n (pc := 144) dX8_would_144 rfl rfl ?_
                refine Go_iconst (pc := 145) dX8_would_145 ?_
                refine Go_icmp_ne (pc := 146) (tgt := 154) dX8_would_146 (by decide) (by omega) (by decide) (fun c146a => ?_) (fun c146a => ?_)
                · refine Go_iload_n (pc := 154) dX8_would_154 rfl rfl ?_
                  refine Go_iconst (pc := 155) dX8_would_155 ?_
                  refine Go_icmp_ne (pc := 156) (tgt := 164) dX8_would_156 (by decide) (by omega) (by decide) (fun c156a => ?_) (fun c156a => ?_)
                  · refine Go_iload_n (pc := 164) dX8_would_164 rfl rfl ?_
                    refine Go_iconst (pc := 165) dX8_would_165 ?_
                    refine Go_icmp_ne (pc := 166) (tgt := 174) dX8_would_166 (by decide) (by omega) (by decide) (fun c166a => ?_) (fun c166a => ?_)
                    · refine Go_iload (pc := 174) dX8_would_174 rfl ?_
                      first | (exfalso; omega) | exact Go_ireturn (pc := 176) dX8_would_176 rfl (by first | rw [g0 (by omega)] | rw [g1 (by omega)] | rw [g2 (by omega)] | rw [g3 (by omega)] | rw [g4 (by omega)]) (by funext q; simp only [setR]; (repeat' split) <;> first | rfl | omega | simp_all)
                    · refine Go_iload (pc := 169) dX8_would_169 rfl ?_
                      refine Go_goto (pc := 171) (tgt := 176) dX8_would_171 (by decide) ?_
                      first | (exfalso; omega) | exact Go_ireturn (pc := 176) dX8_would_176 rfl (by first | rw [g0 (by omega)] | rw [g1 (by omega)] | rw [g2 (by omega)] | rw [g3 (by omega)] | rw [g4 (by omega)]) (by funext q; simp only [setR]; (repeat' split) <;> first | rfl | omega | simp_all)
                  · refine Go_iload (pc := 159) dX8_would_159 rfl ?_
                    refine Go_goto (pc := 161) (tgt := 176) dX8_would_161 (by decide) ?_
                    first | (exfalso; omega) | exact Go_ireturn (pc := 176) dX8_would_176 rfl (by first | rw [g0 (by omega)] | rw [g1 (by omega)] | rw [g2 (by omega)] | rw [g3 (by omega)] | rw [g4 (by omega)]) (by funext q; simp only [setR]; (repeat' split) <;> first | rfl | omega | simp_all)
                · refine Go_iload (pc := 149) dX8_would_149 rfl ?_
                  refine Go_goto (pc := 151) (tgt := 176) dX8_would_151 (by decide) ?_
                  first | (exfalso; omega) | exact Go_ireturn (pc := 176) dX8_would_176 rfl (by first | rw [g0 (by omega)] | rw [g1 (by omega)] | rw [g2 (by omega)] | rw [g3 (by omega)] | rw [g4 (by omega)]) (by funext q; simp only [setR]; (repeat' split) <;> first | rfl | omega | simp_all)
              · refine Go_iload (pc := 139) dX8_would_139 rfl ?_
                refine Go_goto (pc := 141) (tgt := 176) dX8_would_141 (by decide) ?_
                first | (exfalso; omega) | exact Go_ireturn (pc := 176) dX8_would_176 rfl (by first | rw [g0 (by omega)] | rw [g1 (by omega)] | rw [g2 (by omega)] | rw [g3 (by omega)] | rw [g4 (by omega)]) (by funext q; simp only [setR]; (repeat' split) <;> first | rfl | omega | simp_all)
          · refine Go_iload_n (pc := 44) dX8_would_44 rfl rfl ?_
            refine Go_bipush (pc := 45) dX8_would_45 (by decide) (by decide) ?_
            refine Go_icmp_lt (pc := 47) (tgt := 61) dX8_would_47 (by decide) (by omega) (by decide) (fun c47 => ?_) (fun c47 => ?_)
            · refine Go_ldc (pc := 61) (n := -1000001) rfl kc_X8_42 dX8_would_61 ?_
              first | (exfalso; omega) | exact Go_ireturn (pc := 63) dX8_would_63 rfl (by first | rw [g0 (by omega)] | rw [g1 (by omega)] | rw [g2 (by omega)] | rw [g3 (by omega)] | rw [g4 (by omega)]) (by funext q; simp only [setR]; (repeat' split) <;> first | rfl | omega | simp_all)
            · refine Go_aload_n (pc := 50) dX8_would_50 rfl (by decide) rfl ?_
              refine Go_iload_n (pc := 51) dX8_would_51 rfl rfl ?_
              refine Go_bipush (pc := 52) dX8_would_52 (by decide) (by decide) ?_
              refine Go_isub (pc := 54) dX8_would_54 ?_
              refine Go_invV (pc := 55) (y := yX8_isShade) (avs := [.inl (e - 10)]) (k := 16) (rest := []) (x := .inl (b2i (0 ≤ (e - 10) ∧ (e - 10) < M 17 0)))  (d' := d - 1) dX8_would_55 ln_X8_90 mo_X8_isShade vo_X8_isShade rfl (rc_16) rfl rfl (Nat.le_of_ble_eq_true rfl) (by omega) (Nat.le_of_ble_eq_true rfl) rfl (s_X8_isShade (by omega) (by omega) (by first | exact hG | exact hW)) ?_
              refine Go_ifneB (pc := 58) (tgt := 64) dX8_would_58 (by decide) (fun c58 => ?_) (fun c58 => ?_)
              · refine Go_aload_n (pc := 64) dX8_would_64 rfl (by decide) rfl ?_
                refine Go_invVv (pc := 65) (y := yX8_puts) (avs := []) (k := 16) (rest := [])  (M1 := setR M 20 (M 17)) (d' := d - 1) dX8_would_65 ln_X8_128 mo_X8_puts vo_X8_puts rfl (rc_16) rfl rfl (Nat.le_of_ble_eq_true rfl) (by omega) (Nat.le_of_ble_eq_true rfl) rfl (s_X8_puts (by omega) (by first | exact hW.o | exact hG.o) (by first | exact hS.2.2.1 | exact hW.o)) ?_
                refine Go_aload_n (pc := 68) dX8_would_68 rfl (by decide) rfl ?_
                refine Go_iload_n (pc := 69) dX8_would_69 rfl rfl ?_
                refine Go_iload_n (pc := 70) dX8_would_70 rfl rfl ?_
                refine Go_invV (pc := 71) (y := yX8_pullsOne) (avs := [.inl a, .inl b]) (k := 16) (rest := []) (x := .inl ((pullR (M 17) a b).1)) (M1 := setR (setR (setR (setR M 20 (M 17)) 17 (pullG (M 17) a b)) 22 (stoodR (M 22) (M 17) (M 17 0))) 23 (pullMv (M 17) a b)) (d' := d - 1) dX8_would_71 ln_X8_80 mo_X8_pullsOne vo_X8_pullsOne rfl (rc_16) rfl rfl (Nat.le_of_ble_eq_true rfl) (by omega) (Nat.le_of_ble_eq_true rfl) rfl (s_X8_pullsOne (by omega) (by first | exact hG | exact hW) (by omega) (by omega) c.1 h23) ?_
                refine Go_istore (pc := 74) (L' := [some (.inr 16), some (.inl a), some (.inl b), some (.inl e), some (.inl 1), some (.inl ((pullR (M 17) a b).1)), none, none, none, none]) dX8_would_74 (by decide) rfl ?_
                refine Go_aload_n (pc := 76) dX8_would_76 rfl (by decide) rfl ?_
                refine Go_iload_n (pc := 77) dX8_would_77 rfl rfl ?_
                refine Go_iconst (pc := 78) dX8_would_78 ?_
                refine Go_invV (pc := 79) (y := yX8_st) (avs := [.inl a, .inl 3]) (k := 16) (rest := []) (x := .inl (tc (pullG (M 17) a b) a 3))  (d' := d - 1) dX8_would_79 ln_X8_63 mo_X8_st vo_X8_st rfl (rc_16) rfl rfl (Nat.le_of_ble_eq_true rfl) (by omega) (Nat.le_of_ble_eq_true rfl) rfl (s_X8_st (by omega) (by first | omega | (simp only [Nat.reduceAdd, setR_s]; omega) | (simp only [setR, Nat.reduceEqDiff, reduceIte]; omega)) (by first | omega | (simp only [Nat.reduceAdd, setR_s]; omega) | (simp only [setR, Nat.reduceEqDiff, reduceIte]; omega)) (by decide) (by decide)) ?_
                refine Go_aload_n (pc := 82) dX8_would_82 rfl (by decide) rfl ?_
                refine Go_getr (pc := 83) (r := 20) dX8_would_83 fo_X8_19 (by decide) rfl rfl (by decide) ?_
                refine Go_bipush (pc := 86) dX8_would_86 (by decide) (by decide) ?_
                refine Go_iconst (pc := 88) dX8_would_88 ?_
                refine Go_iload_n (pc := 89) dX8_would_89 rfl rfl ?_
                refine Go_imul (pc := 90) dX8_would_90 ?_
                refine Go_iadd (pc := 91) dX8_would_91 ?_
                refine Go_iconst (pc := 92) dX8_would_92 ?_
                refine Go_iadd (pc := 93) dX8_would_93 ?_
                refine Go_iaload (pc := 94) (z := (M 17) ((63 + (4 * a)) + 3)) dX8_would_94 (by decide) rfl (by omega) (by omega) (rfl) ?_
                refine Go_isub (pc := 95) dX8_would_95 ?_
                refine Go_istore (pc := 96) (L' := [some (.inr 16), some (.inl a), some (.inl b), some (.inl e), some (.inl 1), some (.inl ((pullR (M 17) a b).1)), some (.inl ((tc (pullG (M 17) a b) a 3) - ((M 17) ((63 + (4 * a)) + 3)))), none, none, none]) dX8_would_96 (by decide) rfl ?_
                refine Go_aload_n (pc := 98) dX8_would_98 rfl (by decide) rfl ?_
                refine Go_invV (pc := 99) (y := yX8_knots) (avs := []) (k := 16) (rest := []) (x := .inl (knotsF (pullG (M 17) a b)))  (d' := d - 1) dX8_would_99 ln_X8_131 mo_X8_knots vo_X8_knots rfl (rc_16) rfl rfl (Nat.le_of_ble_eq_true rfl) (by omega) (Nat.le_of_ble_eq_true rfl) rfl (s_X8_knots (by omega) (by first | exact hG | exact hW)) ?_
                refine Go_istore (pc := 102) (L' := [some (.inr 16), some (.inl a), some (.inl b), some (.inl e), some (.inl 1), some (.inl ((pullR (M 17) a b).1)), some (.inl ((tc (pullG (M 17) a b) a 3) - ((M 17) ((63 + (4 * a)) + 3)))), some (.inl (knotsF (pullG (M 17) a b))), none, none]) dX8_would_102 (by decide) rfl ?_
                refine Go_aload_n (pc := 104) dX8_would_104 rfl (by decide) rfl ?_
                refine Go_invV (pc := 105) (y := yX8_standing) (avs := []) (k := 16) (rest := []) (x := .inl (standF (pullG (M 17) a b)))  (d' := d - 1) dX8_would_105 ln_X8_93 mo_X8_standing vo_X8_standing rfl (rc_16) rfl rfl (Nat.le_of_ble_eq_true rfl) (by omega) (Nat.le_of_ble_eq_true rfl) rfl (s_X8_standing (by omega) (by first | exact hG | exact hW)) ?_
                refine Go_istore (pc := 108) (L' := [some (.inr 16), some (.inl a), some (.inl b), some (.inl e), some (.inl 1), some (.inl ((pullR (M 17) a b).1)), some (.inl ((tc (pullG (M 17) a b) a 3) - ((M 17) ((63 + (4 * a)) + 3)))), some (.inl (knotsF (pullG (M 17) a b))), some (.inl (standF (pullG (M 17) a b))), none]) dX8_would_108 (by decide) rfl ?_
                refine Go_iload_n (pc := 110) dX8_would_110 rfl rfl ?_
                refine Go_bipush (pc := 111) dX8_would_111 (by decide) (by decide) ?_
                refine Go_icmp_ge (pc := 113) (tgt := 120) dX8_would_113 (by decide) (by omega) (by decide) (fun c113a => ?_) (fun c113a => ?_)
                · refine Go_aload_n (pc := 120) dX8_would_120 rfl (by decide) rfl ?_
                  refine Go_iload_n (pc := 121) dX8_would_121 rfl rfl ?_
                  refine Go_bipush (pc := 122) dX8_would_122 (by decide) (by decide) ?_
                  refine Go_isub (pc := 124) dX8_would_124 ?_
                  refine Go_iconst (pc := 125) dX8_would_125 ?_
                  refine Go_invV (pc := 126) (y := yX8_sh) (avs := [.inl (e - 10), .inl 0]) (k := 16) (rest := []) (x := .inl (sc (pullG (M 17) a b) (e - 10) 0))  (d' := d - 1) dX8_would_126 ln_X8_59 mo_X8_sh vo_X8_sh rfl (rc_16) rfl rfl (Nat.le_of_ble_eq_true rfl) (by omega) (Nat.le_of_ble_eq_true rfl) rfl (s_X8_sh (by omega) (by first | omega | (simp only [Nat.reduceAdd, setR_s]; omega) | (simp only [setR, Nat.reduceEqDiff, reduceIte]; omega)) (by first | omega | (simp only [Nat.reduceAdd, setR_s]; omega) | (simp only [setR, Nat.reduceEqDiff, reduceIte]; omega)) (by decide) (by decide)) ?_
                  refine Go_istore (pc := 129) (L' := [some (.inr 16), some (.inl a), some (.inl b), some (.inl e), some (.inl 1), some (.inl ((pullR (M 17) a b).1)), some (.inl ((tc (pullG (M 17) a b) a 3) - ((M 17) ((63 + (4 * a)) + 3)))), some (.inl (knotsF (pullG (M 17) a b))), some (.inl (standF (pullG (M 17) a b))), some (.inl (sc (pullG (M 17) a b) (e - 10) 0))]) dX8_would_129 (by decide) rfl ?_
                  refine Go_aload_n (pc := 131) dX8_would_131 rfl (by decide) rfl ?_
                  refine Go_invVv (pc := 132) (y := yX8_restores) (avs := []) (k := 16) (rest := [])   (d' := d - 1) dX8_would_132 ln_X8_134 mo_X8_restores vo_X8_restores rfl (rc_16) rfl rfl (Nat.le_of_ble_eq_true rfl) (by omega) (Nat.le_of_ble_eq_true rfl) rfl (s_X8_restores (by omega) (by first | exact hS.2.2.1 | exact hW.o) (by first | exact hW.o | exact hG.o)) ?_
                  refine Go_M (M1 := setR (setR (setR (setR M 20 (M 17)) 22 (stoodR (M 22) (M 17) (M 17 0))) 23 (pullMv (M 17) a b)) 17 (M 17)) (by funext q; simp only [setR]; (repeat' split) <;> first | rfl | omega | simp_all) ?_
                  refine Go_iload_n (pc := 135) dX8_would_135 rfl rfl ?_
                  refine Go_if_ne (pc := 136) (tgt := 144) dX8_would_136 (by decide) (by omega) (fun c136b => ?_) (fun c136b => ?_)
                  · refine Go_iload_n (pc := 144) dX8_would_144 rfl rfl ?_
                    refine Go_iconst (pc := 145) dX8_would_145 ?_
                    refine Go_icmp_ne (pc := 146) (tgt := 154) dX8_would_146 (by decide) (by omega) (by decide) (fun c146b => ?_) (fun c146b => ?_)
                    · refine Go_iload_n (pc := 154) dX8_would_154 rfl rfl ?_
                      refine Go_iconst (pc := 155) dX8_would_155 ?_
                      refine Go_icmp_ne (pc := 156) (tgt := 164) dX8_would_156 (by decide) (by omega) (by decide) (fun c156b => ?_) (fun c156b => ?_)
                      · refine Go_iload_n (pc := 164) dX8_would_164 rfl rfl ?_
                        refine Go_iconst (pc := 165) dX8_would_165 ?_
                        refine Go_icmp_ne (pc := 166) (tgt := 174) dX8_would_166 (by decide) (by omega) (by decide) (fun c166b => ?_) (fun c166b => ?_)
                        · refine Go_iload (pc := 174) dX8_would_174 rfl ?_
                          first | (exfalso; omega) | exact Go_ireturn (pc := 176) dX8_would_176 rfl (by first | rw [g0 (by omega)] | rw [g1 (by omega)] | rw [g2 (by omega)] | rw [g3 (by omega)] | rw [g4 (by omega)]) (by funext q; simp only [setR]; (repeat' split) <;> first | rfl | omega | simp_all)
                        · refine Go_iload (pc := 169) dX8_would_169 rfl ?_
                          refine Go_goto (pc := 171) (tgt := 176) dX8_would_171 (by decide) ?_
                          first | (exfalso; omega) | exact Go_ireturn (pc := 176) dX8_would_176 rfl (by first | rw [g0 (by omega)] | rw [g1 (by omega)] | rw [g2 (by omega)] | rw [g3 (by omega)] | rw [g4 (by omega)]) (by funext q; simp only [setR]; (repeat' split) <;> first | rfl | omega | simp_all)
                      · refine Go_iload (pc := 159) dX8_would_159 rfl ?_
                        refine Go_goto (pc := 161) (tgt := 176) dX8_would_161 (by decide) ?_
                        first | (exfalso; omega) | exact Go_ireturn (pc := 176) dX8_would_176 rfl (by first | rw [g0 (by omega)] | rw [g1 (by omega)] | rw [g2 (by omega)] | rw [g3 (by omega)] | rw [g4 (by omega)]) (by funext q; simp only [setR]; (repeat' split) <;> first | rfl | omega | simp_all)
                    · refine Go_iload (pc := 149) dX8_would_149 rfl ?_
                      refine Go_goto (pc := 151) (tgt := 176) dX8_would_151 (by decide) ?_
                      first | (exfalso; omega) | exact Go_ireturn (pc := 176) dX8_would_176 rfl (by first | rw [g0 (by omega)] | rw [g1 (by omega)] | rw [g2 (by omega)] | rw [g3 (by omega)] | rw [g4 (by omega)]) (by funext q; simp only [setR]; (repeat' split) <;> first | rfl | omega | simp_all)
                  · refine Go_iload (pc := 139) dX8_would_139 rfl ?_
                    refine Go_goto (pc := 141) (tgt := 176) dX8_would_141 (by decide) ?_
                    first | (exfalso; omega) | exact Go_ireturn (pc := 176) dX8_would_176 rfl (by first | rw [g0 (by omega)] | rw [g1 (by omega)] | rw [g2 (by omega)] | rw [g3 (by omega)] | rw [g4 (by omega)]) (by funext q; simp only [setR]; (repeat' split) <;> first | rfl | omega | simp_all)
                · refine Go_iconst (pc := 116) dX8_would_116 ?_
                  refine Go_goto (pc := 117) (tgt := 129) dX8_would_117 (by decide) ?_
                  refine Go_istore (pc := 129) (L' := [some (.inr 16), some (.inl a), some (.inl b), some (.inl e), some (.inl 1), some (.inl ((pullR (M 17) a b).1)), some (.inl ((tc (pullG (M 17) a b) a 3) - ((M 17) ((63 + (4 * a)) + 3)))), some (.inl (knotsF (pullG (M 17) a b))), some (.inl (standF (pullG (M 17) a b))), some (.inl 0)]) dX8_would_129 (by decide) rfl ?_
                  refine Go_aload_n (pc := 131) dX8_would_131 rfl (by decide) rfl ?_
                  refine Go_invVv (pc := 132) (y := yX8_restores) (avs := []) (k := 16) (rest := [])   (d' := d - 1) dX8_would_132 ln_X8_134 mo_X8_restores vo_X8_restores rfl (rc_16) rfl rfl (Nat.le_of_ble_eq_true rfl) (by omega) (Nat.le_of_ble_eq_true rfl) rfl (s_X8_restores (by omega) (by first | exact hS.2.2.1 | exact hW.o) (by first | exact hW.o | exact hG.o)) ?_
                  refine Go_M (M1 := setR (setR (setR (setR M 20 (M 17)) 22 (stoodR (M 22) (M 17) (M 17 0))) 23 (pullMv (M 17) a b)) 17 (M 17)) (by funext q; simp only [setR]; (repeat' split) <;> first | rfl | omega | simp_all) ?_
                  refine Go_iload_n (pc := 135) dX8_would_135 rfl rfl ?_
                  refine Go_if_ne (pc := 136) (tgt := 144) dX8_would_136 (by decide) (by omega) (fun c136c => ?_) (fun c136c => ?_)
                  · refine Go_iload_n (pc := 144) dX8_would_144 rfl rfl ?_
                    refine Go_iconst (pc := 145) dX8_would_145 ?_
                    refine Go_icmp_ne (pc := 146) (tgt := 154) dX8_would_146 (by decide) (by omega) (by decide) (fun c146c => ?_) (fun c146c => ?_)
                    · refine Go_iload_n (pc := 154) dX8_would_154 rfl rfl ?_
                      refine Go_iconst (pc := 155) dX8_would_155 ?_
                      refine Go_icmp_ne (pc := 156) (tgt := 164) dX8_would_156 (by decide) (by omega) (by decide) (fun c156c => ?_) (fun c156c => ?_)
                      · refine Go_iload_n (pc := 164) dX8_would_164 rfl rfl ?_
                        refine Go_iconst (pc := 165) dX8_would_165 ?_
                        refine Go_icmp_ne (pc := 166) (tgt := 174) dX8_would_166 (by decide) (by omega) (by decide) (fun c166c => ?_) (fun c166c => ?_)
                        · refine Go_iload (pc := 174) dX8_would_174 rfl ?_
                          first | (exfalso; omega) | exact Go_ireturn (pc := 176) dX8_would_176 rfl (by first | rw [g0 (by omega)] | rw [g1 (by omega)] | rw [g2 (by omega)] | rw [g3 (by omega)] | rw [g4 (by omega)]) (by funext q; simp only [setR]; (repeat' split) <;> first | rfl | omega | simp_all)
                        · refine Go_iload (pc := 169) dX8_would_169 rfl ?_
                          refine Go_goto (pc := 171) (tgt := 176) dX8_would_171 (by decide) ?_
                          first | (exfalso; omega) | exact Go_ireturn (pc := 176) dX8_would_176 rfl (by first | rw [g0 (by omega)] | rw [g1 (by omega)] | rw [g2 (by omega)] | rw [g3 (by omega)] | rw [g4 (by omega)]) (by funext q; simp only [setR]; (repeat' split) <;> first | rfl | omega | simp_all)
                      · refine Go_iload (pc := 159) dX8_would_159 rfl ?_
                        refine Go_goto (pc := 161) (tgt := 176) dX8_would_161 (by decide) ?_
                        first | (exfalso; omega) | exact Go_ireturn (pc := 176) dX8_would_176 rfl (by first | rw [g0 (by omega)] | rw [g1 (by omega)] | rw [g2 (by omega)] | rw [g3 (by omega)] | rw [g4 (by omega)]) (by funext q; simp only [setR]; (repeat' split) <;> first | rfl | omega | simp_all)
                    · refine Go_iload (pc := 149) dX8_would_149 rfl ?_
                      refine Go_goto (pc := 151) (tgt := 176) dX8_would_151 (by decide) ?_
                      first | (exfalso; omega) | exact Go_ireturn (pc := 176) dX8_would_176 rfl (by first | rw [g0 (by omega)] | rw [g1 (by omega)] | rw [g2 (by omega)] | rw [g3 (by omega)] | rw [g4 (by omega)]) (by funext q; simp only [setR]; (repeat' split) <;> first | rfl | omega | simp_all)
                  · refine Go_iload (pc := 139) dX8_would_139 rfl ?_
                    refine Go_goto (pc := 141) (tgt := 176) dX8_would_141 (by decide) ?_
                    first | (exfalso; omega) | exact Go_ireturn (pc := 176) dX8_would_176 rfl (by first | rw [g0 (by omega)] | rw [g1 (by omega)] | rw [g2 (by omega)] | rw [g3 (by omega)] | rw [g4 (by omega)]) (by funext q; simp only [setR]; (repeat' split) <;> first | rfl | omega | simp_all)
              · refine Go_ldc (pc := 61) (n := -1000001) rfl kc_X8_42 dX8_would_61 ?_
                first | (exfalso; omega) | exact Go_ireturn (pc := 63) dX8_would_63 rfl (by first | rw [g0 (by omega)] | rw [g1 (by omega)] | rw [g2 (by omega)] | rw [g3 (by omega)] | rw [g4 (by omega)]) (by funext q; simp only [setR]; (repeat' split) <;> first | rfl | omega | simp_all)
  · have ew : wldR (M 17) a b e = -1000001 := by
      unfold wldR
      by_cases p : pullOk (M 17) a b
      · have hG0 := pullG_q hW p.1 (z := b) (q := 0) (by decide) (by decide)
        rw [if_pos p]
        unfold wldF htenF
        rw [if_neg (by omega), if_neg (by omega), if_neg (by omega), if_neg (by omega), if_neg (by omega)]
      · exact if_neg p
    rw [show refW M a b e = _ from if_neg c, ew]
    refine Go_aload_n (pc := 0) dX8_would_0 rfl (by decide) rfl ?_
    refine Go_iload_n (pc := 1) dX8_would_1 rfl rfl ?_
    refine Go_invV (pc := 2) (y := yX8_isString) (avs := [.inl a]) (k := 16) (rest := []) (x := .inl (b2i (0 ≤ a ∧ a < M 17 1)))  (d' := d - 1) dX8_would_2 ln_X8_73 mo_X8_isString vo_X8_isString rfl (rc_16) rfl rfl (Nat.le_of_ble_eq_true rfl) (by omega) (Nat.le_of_ble_eq_true rfl) rfl (s_X8_isString (by omega) (by omega) hW) ?_
    refine Go_ifeqB (pc := 5) (tgt := 27) dX8_would_5 (by decide) (fun c5 => ?_) (fun c5 => ?_)
    · refine Go_iconst (pc := 27) dX8_would_27 ?_
      refine Go_istore (pc := 28) (L' := [some (.inr 16), some (.inl a), some (.inl b), some (.inl e), some (.inl 0), none, none, none, none, none]) dX8_would_28 (by decide) rfl ?_
      refine Go_iload (pc := 30) dX8_would_30 rfl ?_
      refine Go_if_eq (pc := 32) (tgt := 61) dX8_would_32 (by decide) (by decide) (fun _ => ?_) (fun q => absurd q (by decide))
      refine Go_ldc (pc := 61) (n := -1000001) rfl kc_X8_42 dX8_would_61 ?_
      exact Go_ireturn (pc := 63) dX8_would_63 rfl (by first | rfl | (simp_all; done)) rfl
    · refine Go_iload_n (pc := 8) dX8_would_8 rfl rfl ?_
      refine Go_bipush (pc := 9) dX8_would_9 (by decide) (by decide) ?_
      refine Go_bipush (pc := 11) dX8_would_11 (by decide) (by decide) ?_
      refine Go_invS (pc := 13) (y := yX8_in) (avs := [.inl b, .inl (-9), .inl 9]) (rest := []) (x := .inl (b2i ((-9) ≤ b ∧ b ≤ 9)))  (d' := d - 1) dX8_would_13 ln_X8_38 mo_X8_in so_X8_in rfl rfl rfl (Nat.le_of_ble_eq_true rfl) (by omega) (Nat.le_of_ble_eq_true rfl) rfl (s_X8_in (by omega) (by omega) (by decide) (by decide)) ?_
      refine Go_ifeqB (pc := 16) (tgt := 27) dX8_would_16 (by decide) (fun c16 => ?_) (fun c16 => ?_)
      · refine Go_iconst (pc := 27) dX8_would_27 ?_
        refine Go_istore (pc := 28) (L' := [some (.inr 16), some (.inl a), some (.inl b), some (.inl e), some (.inl 0), none, none, none, none, none]) dX8_would_28 (by decide) rfl ?_
        refine Go_iload (pc := 30) dX8_would_30 rfl ?_
        refine Go_if_eq (pc := 32) (tgt := 61) dX8_would_32 (by decide) (by decide) (fun _ => ?_) (fun q => absurd q (by decide))
        refine Go_ldc (pc := 61) (n := -1000001) rfl kc_X8_42 dX8_would_61 ?_
        exact Go_ireturn (pc := 63) dX8_would_63 rfl (by first | rfl | (simp_all; done)) rfl
      · refine Go_iload_n (pc := 19) dX8_would_19 rfl rfl ?_
        refine Go_if_eq (pc := 20) (tgt := 27) dX8_would_20 (by decide) (by omega) (fun c20 => ?_) (fun c20 => ?_)
        · refine Go_iconst (pc := 27) dX8_would_27 ?_
          refine Go_istore (pc := 28) (L' := [some (.inr 16), some (.inl a), some (.inl b), some (.inl e), some (.inl 0), none, none, none, none, none]) dX8_would_28 (by decide) rfl ?_
          refine Go_iload (pc := 30) dX8_would_30 rfl ?_
          refine Go_if_eq (pc := 32) (tgt := 61) dX8_would_32 (by decide) (by decide) (fun _ => ?_) (fun q => absurd q (by decide))
          refine Go_ldc (pc := 61) (n := -1000001) rfl kc_X8_42 dX8_would_61 ?_
          exact Go_ireturn (pc := 63) dX8_would_63 rfl (by first | rfl | (simp_all; done)) rfl
        · refine Go_iconst (pc := 23) dX8_would_23 ?_
          refine Go_goto (pc := 24) (tgt := 28) dX8_would_24 (by decide) ?_
          refine Go_istore (pc := 28) (L' := [some (.inr 16), some (.inl a), some (.inl b), some (.inl e), some (.inl 1), none, none, none, none, none]) dX8_would_28 (by decide) rfl ?_
          refine Go_iload (pc := 30) dX8_would_30 rfl ?_
          refine Go_if_eq (pc := 32) (tgt := 61) dX8_would_32 (by decide) (by decide) (fun q => absurd q (by decide)) (fun _ => ?_)
          refine Go_iload_n (pc := 35) dX8_would_35 rfl rfl ?_
          refine Go_iconst (pc := 36) dX8_would_36 ?_
          refine Go_iconst (pc := 37) dX8_would_37 ?_
          refine Go_invS (pc := 38) (y := yX8_in) (avs := [.inl e, .inl 0, .inl 3]) (rest := []) (x := .inl (b2i (0 ≤ e ∧ e ≤ 3)))  (d' := d - 1) dX8_would_38 ln_X8_38 mo_X8_in so_X8_in rfl rfl rfl (Nat.le_of_ble_eq_true rfl) (by omega) (Nat.le_of_ble_eq_true rfl) rfl (s_X8_in (by omega) (by omega) (by decide) (by decide)) ?_
          refine Go_ifneB (pc := 41) (tgt := 64) dX8_would_41 (by decide) (fun c41 => ?_) (fun c41 => ?_)
          · exfalso; omega
          · refine Go_iload_n (pc := 44) dX8_would_44 rfl rfl ?_
            refine Go_bipush (pc := 45) dX8_would_45 (by decide) (by decide) ?_
            refine Go_icmp_lt (pc := 47) (tgt := 61) dX8_would_47 (by decide) (by omega) (by decide) (fun c47 => ?_) (fun c47 => ?_)
            · refine Go_ldc (pc := 61) (n := -1000001) rfl kc_X8_42 dX8_would_61 ?_
              exact Go_ireturn (pc := 63) dX8_would_63 rfl (by first | rfl | (simp_all; done)) rfl
            · refine Go_aload_n (pc := 50) dX8_would_50 rfl (by decide) rfl ?_
              refine Go_iload_n (pc := 51) dX8_would_51 rfl rfl ?_
              refine Go_bipush (pc := 52) dX8_would_52 (by decide) (by decide) ?_
              refine Go_isub (pc := 54) dX8_would_54 ?_
              refine Go_invV (pc := 55) (y := yX8_isShade) (avs := [.inl (e - 10)]) (k := 16) (rest := []) (x := .inl (b2i (0 ≤ (e - 10) ∧ (e - 10) < M 17 0)))  (d' := d - 1) dX8_would_55 ln_X8_90 mo_X8_isShade vo_X8_isShade rfl (rc_16) rfl rfl (Nat.le_of_ble_eq_true rfl) (by omega) (Nat.le_of_ble_eq_true rfl) rfl (s_X8_isShade (by omega) (by omega) hW) ?_
              refine Go_ifneB (pc := 58) (tgt := 64) dX8_would_58 (by decide) (fun c58 => ?_) (fun c58 => ?_)
              · exfalso; omega
              · refine Go_ldc (pc := 61) (n := -1000001) rfl kc_X8_42 dX8_would_61 ?_
                exact Go_ireturn (pc := 63) dX8_would_63 rfl (by first | rfl | (simp_all; done)) rfl
