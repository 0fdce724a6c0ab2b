/-! the reference: its small changes -/
def InvR (M : gMem) : Prop := Wf (M 17) ∧ Oz (M 19) ∧ Oz (M 20) ∧ (0 ≤ M 16 4 ∧ M 16 4 ≤ 4)
def okM (M : gMem) (g : Int → Int) : gMem := setR (setR (setR (setR M 19 (M 17)) 17 g) 18 (hisR (M 18) (M 17) (M 16 4))) 16 (updI (M 16) 4 (hisN (M 16 4)))
def ref1 (M : gMem) (g : Int → Int) (r : Int) : gMem := if r < 0 then M else okM M g
def ref2 (M : gMem) (g : Int → Int) (r : Int) : gMem := if r < 0 then setR M 19 (M 17) else okM M g
theorem ref1_n {M : gMem} {g : Int → Int} {r : Int} (h : r < 0) : ref1 M g r = M := if_pos h
theorem ref1_p {M : gMem} {g : Int → Int} {r : Int} (h : ¬ r < 0) : ref1 M g r = okM M g := if_neg h
theorem ref2_n {M : gMem} {g : Int → Int} {r : Int} (h : r < 0) : ref2 M g r = setR M 19 (M 17) := if_pos h
theorem ref2_p {M : gMem} {g : Int → Int} {r : Int} (h : ¬ r < 0) : ref2 M g r = okM M g := if_neg h
theorem setR_id2 (M : gMem) {a b : Nat} (h : b ≠ a) (r : Int → Int) : setR (setR M a r) b (M b) = setR M a r := by
  funext q
  by_cases e : q = b
  · subst e; rw [setR_s, setR_n h]
  · rw [setR_n e]
theorem updI_z {f : Int → Int} {q z : Int} (h : f q = z) : updI f q z = f := by rw [← h]; exact updI_id f q
theorem shadeR_e {f : Int → Int} (hW : Wf f) {h w : Int} (hr : (shadeR f h w).1 < 0) : (shadeR f h w).1 ≤ -1000001 ∧ (shadeR f h w).2 = f := by
  have n := hW.n
  unfold shadeR at hr ⊢
  split
  · exact ⟨Int.le_refl _, rfl⟩
  · next c =>
    rw [if_neg c] at hr
    split
    · first | exact ⟨(show (-1000003 : Int) ≤ -1000001 by decide), rfl⟩ | exact ⟨(show (-1000002 : Int) ≤ -1000001 by decide), rfl⟩
    · next c2 =>
      rw [if_neg c2] at hr
      exact absurd hr (by show ¬ f 0 < 0; omega)
theorem stringR_e {f : Int → Int} (hW : Wf f) {h w : Int} (hr : (stringR f h w).1 < 0) : (stringR f h w).1 ≤ -1000001 ∧ (stringR f h w).2 = f := by
  have n := hW.t
  unfold stringR at hr ⊢
  split
  · exact ⟨Int.le_refl _, rfl⟩
  · next c =>
    rw [if_neg c] at hr
    split
    · first | exact ⟨(show (-1000003 : Int) ≤ -1000001 by decide), rfl⟩ | exact ⟨(show (-1000002 : Int) ≤ -1000001 by decide), rfl⟩
    · next c2 =>
      rw [if_neg c2] at hr
      exact absurd hr (by show ¬ f 1 < 0; omega)
theorem tellR_e {f : Int → Int} (hW : Wf f) {h w : Int} (hr : (tellR f h w).1 < 0) : (tellR f h w).1 ≤ -1000001 ∧ (tellR f h w).2 = f := by
  have hw := tellR_W hW h w
  unfold tellR at hr hw ⊢
  split
  · exact ⟨Int.le_refl _, rfl⟩
  · next c =>
    rw [if_neg c] at hr hw
    have hs : 0 ≤ standF (updI f (7 + 7 * h + 6) w) ∧ standF (updI f (7 + 7 * h + 6) w) ≤ 8 := standF_b hw
    exact absurd hr (by show ¬ standF (updI f (7 + 7 * h + 6) w) < 0; omega)
theorem untieR_e {f : Int → Int} (hW : Wf f) {k : Int} (hr : (untieR f k).1 < 0) : (untieR f k).1 ≤ -1000001 ∧ (untieR f k).2 = f := by
  have n := hW.kn k
  unfold untieR at hr ⊢
  split
  · exact ⟨Int.le_refl _, rfl⟩
  · next c =>
    rw [if_neg c] at hr
    split
    · first | exact ⟨(show (-1000003 : Int) ≤ -1000001 by decide), rfl⟩ | exact ⟨(show (-1000002 : Int) ≤ -1000001 by decide), rfl⟩
    · next c2 =>
      rw [if_neg c2] at hr
      exact absurd hr (by show ¬ sc f k 3 - 1 < 0; omega)
theorem s_X8_shade {d : Nat} (hd : 6 ≤ d) {a b : Int} {M : gMem} (hS : InvR M) (ha : inR a) (hb : inR b) : Go d RX8 cX8_shade 5 (some .int) 0 [some (.inr 16), some (.inl a), some (.inl b), none, none] [] M (some (.inl ((shadeR (M 17) a b).1))) (ref1 M (shadeR (M 17) a b).2 (shadeR (M 17) a b).1) := by
  have hW := hS.1
  have hn := hW.n
  have hn16 := hS.2.2.2
  have hz : ∀ i, 0 ≤ i → i < 7 → M 17 0 < 8 → M 17 (7 + 7 * M 17 0 + i) = 0 := fun i a b c => hW.2.2.2.2.2.2.2.2.2.1 (M 17 0) i (Int.le_refl _) c a b
  have K : (0 ≤ a ∧ a ≤ 23) → (0 ≤ b ∧ b ≤ 36) → M 17 0 < 8 → ∀ i, 0 ≤ i → i ≤ 6 → Go d RX8 cX8_shade 5 (some .int) 57 [some (.inr 16), some (.inl a), some (.inl b), some (.inl (7 + 7 * M 17 0)), some (.inl i)] [] (setR M 19 (M 17)) (some (.inl ((shadeR (M 17) a b).1))) (ref1 M (shadeR (M 17) a b).2 (shadeR (M 17) a b).1) := by
    intro ha2 hb2 hn2
    refine up_ind 0 6 _ (fun i h0 h1 ih => ?_)
    refine Go_iload (pc := 57) dX8_shade_57 rfl ?_
    refine Go_bipush (pc := 59) dX8_shade_59 (by decide) (by decide) ?_
    refine Go_icmp_ge (pc := 61) (tgt := 80) dX8_shade_61 (by decide) (by omega) (by decide) (fun c61 => ?_) (fun c61 => ?_)
    · refine Go_aload_n (pc := 80) dX8_shade_80 rfl (by decide) rfl ?_
      refine Go_getr (pc := 81) (r := 17) dX8_shade_81 fo_X8_7 (by decide) rfl rfl (by decide) ?_
      refine Go_iload_n (pc := 84) dX8_shade_84 rfl rfl ?_
      refine Go_iconst (pc := 85) dX8_shade_85 ?_
      refine Go_iadd (pc := 86) dX8_shade_86 ?_
      refine Go_iload_n (pc := 87) dX8_shade_87 rfl rfl ?_
      refine Go_iastore (pc := 88) dX8_shade_88 (by decide) rfl (by omega) (by omega) ?_
      refine Go_M (M1 := setR (setR M 19 (M 17)) 17 (updI (M 17) ((7 + 7 * M 17 0) + 1) a)) rfl ?_
      refine Go_aload_n (pc := 89) dX8_shade_89 rfl (by decide) rfl ?_
      refine Go_getr (pc := 90) (r := 17) dX8_shade_90 fo_X8_7 (by decide) rfl rfl (by decide) ?_
      refine Go_iload_n (pc := 93) dX8_shade_93 rfl rfl ?_
      refine Go_iconst (pc := 94) dX8_shade_94 ?_
      refine Go_iadd (pc := 95) dX8_shade_95 ?_
      refine Go_iload_n (pc := 96) dX8_shade_96 rfl rfl ?_
      refine Go_iastore (pc := 97) dX8_shade_97 (by decide) rfl (by omega) (by omega) ?_
      refine Go_M (M1 := setR (setR M 19 (M 17)) 17 (updI (updI (M 17) ((7 + 7 * M 17 0) + 1) a) ((7 + 7 * M 17 0) + 2) b)) (setR_top _ _ _ _ _) ?_
      refine Go_aload_n (pc := 98) dX8_shade_98 rfl (by decide) rfl ?_
      refine Go_getr (pc := 99) (r := 17) dX8_shade_99 fo_X8_7 (by decide) rfl rfl (by decide) ?_
      refine Go_iload_n (pc := 102) dX8_shade_102 rfl rfl ?_
      refine Go_bipush (pc := 103) dX8_shade_103 (by decide) (by decide) ?_
      refine Go_iadd (pc := 105) dX8_shade_105 ?_
      refine Go_iconst (pc := 106) dX8_shade_106 ?_
      refine Go_iastore (pc := 107) dX8_shade_107 (by decide) rfl (by omega) (by omega) ?_
      refine Go_M (M1 := setR (setR M 19 (M 17)) 17 (updI (updI (updI (M 17) ((7 + 7 * M 17 0) + 1) a) ((7 + 7 * M 17 0) + 2) b) ((7 + 7 * M 17 0) + 6) (-1))) (setR_top _ _ _ _ _) ?_
      refine Go_aload_n (pc := 108) dX8_shade_108 rfl (by decide) rfl ?_
      refine Go_getr (pc := 109) (r := 17) dX8_shade_109 fo_X8_7 (by decide) rfl rfl (by decide) ?_
      refine Go_iconst (pc := 112) dX8_shade_112 ?_
      refine Go_dup2 (pc := 113) dX8_shade_113 ?_
      refine Go_iaload (pc := 114) (z := M 17 0) dX8_shade_114 (by decide) rfl (by decide) (by decide) (show (updI (updI (updI (M 17) ((7 + 7 * M 17 0) + 1) a) ((7 + 7 * M 17 0) + 2) b) ((7 + 7 * M 17 0) + 6) (-1)) 0 = (M 17 0) from (updI_n (by omega)).trans ((updI_n (by omega)).trans ((updI_n (by omega)).trans (rfl)))) ?_
      refine Go_iconst (pc := 115) dX8_shade_115 ?_
      refine Go_iadd (pc := 116) dX8_shade_116 ?_
      refine Go_iastore (pc := 117) dX8_shade_117 (by decide) rfl (by decide) (by decide) ?_
      refine Go_M (M1 := setR (setR M 19 (M 17)) 17 (updI (updI (updI (updI (M 17) ((7 + 7 * M 17 0) + 1) a) ((7 + 7 * M 17 0) + 2) b) ((7 + 7 * M 17 0) + 6) (-1)) 0 ((M 17 0) + 1))) (setR_top _ _ _ _ _) ?_
      refine Go_aload_n (pc := 118) dX8_shade_118 rfl (by decide) rfl ?_
      refine Go_aload_n (pc := 119) dX8_shade_119 rfl (by decide) rfl ?_
      refine Go_getr (pc := 120) (r := 17) dX8_shade_120 fo_X8_7 (by decide) rfl rfl (by decide) ?_
      refine Go_iconst (pc := 123) dX8_shade_123 ?_
      refine Go_iaload (pc := 124) (z := (M 17 0) + 1) dX8_shade_124 (by decide) rfl (by decide) (by decide) (show (updI (updI (updI (updI (M 17) ((7 + 7 * M 17 0) + 1) a) ((7 + 7 * M 17 0) + 2) b) ((7 + 7 * M 17 0) + 6) (-1)) 0 ((M 17 0) + 1)) 0 = ((M 17 0) + 1) from updI_s _ _ _) ?_
      refine Go_iconst (pc := 125) dX8_shade_125 ?_
      refine Go_isub (pc := 126) dX8_shade_126 ?_
      refine Go_invV (pc := 127) (y := yX8_acted) (avs := [.inl (((M 17 0) + 1) - 1)]) (k := 16) (rest := []) (x := .inl (((M 17 0) + 1) - 1)) (M1 := setR (setR (setR (setR M 19 (M 17)) 17 (updI (updI (updI (updI (M 17) ((7 + 7 * M 17 0) + 1) a) ((7 + 7 * M 17 0) + 2) b) ((7 + 7 * M 17 0) + 6) (-1)) 0 ((M 17 0) + 1))) 18 (hisR (M 18) (M 17) (M 16 4))) 16 (updI (M 16) 4 (hisN (M 16 4)))) (d' := d - 1) dX8_shade_127 ln_X8_51 mo_X8_acted vo_X8_acted rfl (rc_16) rfl rfl (Nat.le_of_ble_eq_true rfl) (by omega) (Nat.le_of_ble_eq_true rfl) rfl (s_X8_acted (by omega) (by omega) (by omega) hn16) ?_
      rw [show shadeR (M 17) a b = (M 17 0, updI (updI (updI (updI (M 17) (7 + 7 * M 17 0 + 1) a) (7 + 7 * M 17 0 + 2) b) (7 + 7 * M 17 0 + 6) (-1)) 0 (M 17 0 + 1)) by unfold shadeR; rw [if_neg (by omega), if_neg (by omega)]]
      exact Go_ireturn (pc := 130) dX8_shade_130 rfl (by show some (Sum.inl (M 17 0)) = _; congr 2; omega) (ref1_p (show ¬ M 17 0 < 0 by omega))
    · refine Go_aload_n (pc := 64) dX8_shade_64 rfl (by decide) rfl ?_
      refine Go_getr (pc := 65) (r := 17) dX8_shade_65 fo_X8_7 (by decide) rfl rfl (by decide) ?_
      refine Go_iload_n (pc := 68) dX8_shade_68 rfl rfl ?_
      refine Go_iload (pc := 69) dX8_shade_69 rfl ?_
      refine Go_iadd (pc := 71) dX8_shade_71 ?_
      refine Go_iconst (pc := 72) dX8_shade_72 ?_
      refine Go_iastore (pc := 73) dX8_shade_73 (by decide) rfl (by omega) (by omega) ?_
      refine Go_M (M1 := setR (setR M 19 (M 17)) 17 (updI (M 17) ((7 + 7 * M 17 0) + i) 0)) rfl ?_
      refine Go_iinc (pc := 74) (L' := [some (.inr 16), some (.inl a), some (.inl b), some (.inl (7 + 7 * M 17 0)), some (.inl (i + 1))]) dX8_shade_74 rfl (by decide) rfl ?_
      refine Go_goto (pc := 77) (tgt := 57) dX8_shade_77 (by decide) ?_
      exact Go_M (by rw [updI_z (hz i h0 (by omega) hn2), setR_id2 M (by decide)]) (ih (by omega))
  refine Go_iload_n (pc := 0) dX8_shade_0 rfl rfl ?_
  refine Go_iconst (pc := 1) dX8_shade_1 ?_
  refine Go_bipush (pc := 2) dX8_shade_2 (by decide) (by decide) ?_
  refine Go_invS (pc := 4) (y := yX8_in) (avs := [.inl a, .inl 0, .inl 23]) (rest := []) (x := .inl (b2i (0 ≤ a ∧ a ≤ 23)))  (d' := d - 1) dX8_shade_4 ln_X8_38 mo_X8_in so_X8_in rfl rfl rfl (Nat.le_of_ble_eq_true rfl) (by omega) (Nat.le_of_ble_eq_true rfl) rfl (s_X8_in (by omega) (by omega) (by decide) (by decide)) ?_
  refine Go_ifeqB (pc := 7) (tgt := 20) dX8_shade_7 (by decide) (fun c7 => ?_) (fun c7 => ?_)
  · refine Go_ldc (pc := 20) (n := -1000001) rfl kc_X8_42 dX8_shade_20 ?_
    first | (rw [show shadeR (M 17) a b = (-1000001, M 17) by unfold shadeR; rw [if_pos (by omega)]]; exact Go_ireturn (pc := 22) dX8_shade_22 rfl rfl (ref1_n (show (-1000001 : Int) < 0 by decide))) | (rw [show shadeR (M 17) a b = (-1000003, M 17) by unfold shadeR; rw [if_neg (by omega), if_pos (by omega)]]; exact Go_ireturn (pc := 22) dX8_shade_22 rfl rfl (ref1_n (show (-1000003 : Int) < 0 by decide)))
  · refine Go_iload_n (pc := 10) dX8_shade_10 rfl rfl ?_
    refine Go_iconst (pc := 11) dX8_shade_11 ?_
    refine Go_bipush (pc := 12) dX8_shade_12 (by decide) (by decide) ?_
    refine Go_invS (pc := 14) (y := yX8_in) (avs := [.inl b, .inl 0, .inl 36]) (rest := []) (x := .inl (b2i (0 ≤ b ∧ b ≤ 36)))  (d' := d - 1) dX8_shade_14 ln_X8_38 mo_X8_in so_X8_in rfl rfl rfl (Nat.le_of_ble_eq_true rfl) (by omega) (Nat.le_of_ble_eq_true rfl) rfl (s_X8_in (by omega) (by omega) (by decide) (by decide)) ?_
    refine Go_ifneB (pc := 17) (tgt := 23) dX8_shade_17 (by decide) (fun c17 => ?_) (fun c17 => ?_)
    · refine Go_aload_n (pc := 23) dX8_shade_23 rfl (by decide) rfl ?_
      refine Go_getr (pc := 24) (r := 17) dX8_shade_24 fo_X8_7 (by decide) rfl rfl (by decide) ?_
      refine Go_iconst (pc := 27) dX8_shade_27 ?_
      refine Go_iaload (pc := 28) (z := M 17 0) dX8_shade_28 (by decide) rfl (by decide) (by decide) (rfl) ?_
      refine Go_bipush (pc := 29) dX8_shade_29 (by decide) (by decide) ?_
      refine Go_icmp_ne (pc := 31) (tgt := 37) dX8_shade_31 (by decide) (by omega) (by decide) (fun c31 => ?_) (fun c31 => ?_)
      · refine Go_aload_n (pc := 37) dX8_shade_37 rfl (by decide) rfl ?_
        refine Go_invVv (pc := 38) (y := yX8_keeps) (avs := []) (k := 16) (rest := [])  (M1 := setR M 19 (M 17)) (d' := d - 1) dX8_shade_38 ln_X8_48 mo_X8_keeps vo_X8_keeps rfl (rc_16) rfl rfl (Nat.le_of_ble_eq_true rfl) (by omega) (Nat.le_of_ble_eq_true rfl) rfl (s_X8_keeps (by omega) hW.o hS.2.1) ?_
        refine Go_bipush (pc := 41) dX8_shade_41 (by decide) (by decide) ?_
        refine Go_bipush (pc := 43) dX8_shade_43 (by decide) (by decide) ?_
        refine Go_aload_n (pc := 45) dX8_shade_45 rfl (by decide) rfl ?_
        refine Go_getr (pc := 46) (r := 17) dX8_shade_46 fo_X8_7 (by decide) rfl rfl (by decide) ?_
        refine Go_iconst (pc := 49) dX8_shade_49 ?_
        refine Go_iaload (pc := 50) (z := M 17 0) dX8_shade_50 (by decide) rfl (by decide) (by decide) (rfl) ?_
        refine Go_imul (pc := 51) dX8_shade_51 ?_
        refine Go_iadd (pc := 52) dX8_shade_52 ?_
        refine Go_istore_n (pc := 53) (L' := [some (.inr 16), some (.inl a), some (.inl b), some (.inl (7 + (7 * (M 17 0)))), none]) dX8_shade_53 rfl (by decide) rfl ?_
        refine Go_iconst (pc := 54) dX8_shade_54 ?_
        refine Go_istore (pc := 55) (L' := [some (.inr 16), some (.inl a), some (.inl b), some (.inl (7 + (7 * (M 17 0)))), some (.inl 0)]) dX8_shade_55 (by decide) rfl ?_
        exact K (by omega) (by omega) (by omega) 0 (by omega) (by omega)
      · refine Go_ldc (pc := 34) (n := -1000003) rfl kc_X8_47 dX8_shade_34 ?_
        first | (rw [show shadeR (M 17) a b = (-1000001, M 17) by unfold shadeR; rw [if_pos (by omega)]]; exact Go_ireturn (pc := 36) dX8_shade_36 rfl rfl (ref1_n (show (-1000001 : Int) < 0 by decide))) | (rw [show shadeR (M 17) a b = (-1000003, M 17) by unfold shadeR; rw [if_neg (by omega), if_pos (by omega)]]; exact Go_ireturn (pc := 36) dX8_shade_36 rfl rfl (ref1_n (show (-1000003 : Int) < 0 by decide)))
    · refine Go_ldc (pc := 20) (n := -1000001) rfl kc_X8_42 dX8_shade_20 ?_
      first | (rw [show shadeR (M 17) a b = (-1000001, M 17) by unfold shadeR; rw [if_pos (by omega)]]; exact Go_ireturn (pc := 22) dX8_shade_22 rfl rfl (ref1_n (show (-1000001 : Int) < 0 by decide))) | (rw [show shadeR (M 17) a b = (-1000003, M 17) by unfold shadeR; rw [if_neg (by omega), if_pos (by omega)]]; exact Go_ireturn (pc := 22) dX8_shade_22 rfl rfl (ref1_n (show (-1000003 : Int) < 0 by decide)))
theorem s_X8_string {d : Nat} (hd : 6 ≤ d) {a b : Int} {M : gMem} (hS : InvR M) (ha : inR a) (hb : inR b) : Go d RX8 cX8_string 4 (some .int) 0 [some (.inr 16), some (.inl a), some (.inl b), none] [] M (some (.inl ((stringR (M 17) a b).1))) (ref1 M (stringR (M 17) a b).2 (stringR (M 17) a b).1) := by
  have hW := hS.1
  have hn := hW.t
  have hn16 := hS.2.2.2
  have hz : ∀ i, 0 ≤ i → i < 4 → M 17 1 < 4 → M 17 (63 + 4 * M 17 1 + i) = 0 := fun i a b c => hW.2.2.2.2.2.2.2.2.2.2.1 (M 17 1) i (Int.le_refl _) c a b
  refine Go_aload_n (pc := 0) dX8_string_0 rfl (by decide) rfl ?_
  refine Go_iload_n (pc := 1) dX8_string_1 rfl rfl ?_
  refine Go_invV (pc := 2) (y := yX8_areShades) (avs := [.inl a]) (k := 16) (rest := []) (x := .inl (b2i (0 ≤ a ∧ a ≤ gshl 1 (M 17 0) - 1)))  (d' := d - 1) dX8_string_2 ln_X8_55 mo_X8_areShades vo_X8_areShades rfl (rc_16) rfl rfl (Nat.le_of_ble_eq_true rfl) (by omega) (Nat.le_of_ble_eq_true rfl) rfl (s_X8_areShades (by omega) (by omega) hW) ?_
  refine Go_ifeqB (pc := 5) (tgt := 28) dX8_string_5 (by decide) (fun c5 => ?_) (fun c5 => ?_)
  · refine Go_ldc (pc := 28) (n := -1000001) rfl kc_X8_42 dX8_string_28 ?_
    first | (rw [show stringR (M 17) a b = (-1000001, M 17) by unfold stringR; rw [if_pos (by omega)]]; exact Go_ireturn (pc := 30) dX8_string_30 rfl rfl (ref1_n (show (-1000001 : Int) < 0 by decide))) | (rw [show stringR (M 17) a b = (-1000003, M 17) by unfold stringR; rw [if_neg (by omega), if_pos (by omega)]]; exact Go_ireturn (pc := 30) dX8_string_30 rfl rfl (ref1_n (show (-1000003 : Int) < 0 by decide))) | (rw [show stringR (M 17) a b = (M 17 1, updI (updI (updI (M 17) (63 + 4 * M 17 1 + 0) a) (63 + 4 * M 17 1 + 1) b) 1 (M 17 1 + 1)) by unfold stringR; rw [if_neg (by omega), if_neg (by omega)]]; exact Go_ireturn (pc := 30) dX8_string_30 rfl (by show some (Sum.inl (M 17 1)) = _; congr 2; omega) ((ref1_p (show ¬ M 17 1 < 0 by omega)).trans (by unfold okM; rw [updI_z (f := updI (updI (M 17) (63 + 4 * M 17 1) a) (63 + 4 * M 17 1 + 1) b) (q := 63 + 4 * M 17 1 + 2) (z := 0) (by rw [updI_n (by omega), updI_n (by omega)]; exact hz 2 (by decide) (by decide) (by omega)), updI_z (f := updI (updI (M 17) (63 + 4 * M 17 1) a) (63 + 4 * M 17 1 + 1) b) (q := 63 + 4 * M 17 1 + 3) (z := 0) (by rw [updI_n (by omega), updI_n (by omega)]; exact hz 3 (by decide) (by decide) (by omega)), Int.add_zero])))
  · refine Go_aload_n (pc := 8) dX8_string_8 rfl (by decide) rfl ?_
    refine Go_iload_n (pc := 9) dX8_string_9 rfl rfl ?_
    refine Go_invV (pc := 10) (y := yX8_areShades) (avs := [.inl b]) (k := 16) (rest := []) (x := .inl (b2i (0 ≤ b ∧ b ≤ gshl 1 (M 17 0) - 1)))  (d' := d - 1) dX8_string_10 ln_X8_55 mo_X8_areShades vo_X8_areShades rfl (rc_16) rfl rfl (Nat.le_of_ble_eq_true rfl) (by omega) (Nat.le_of_ble_eq_true rfl) rfl (s_X8_areShades (by omega) (by omega) hW) ?_
    refine Go_ifeqB (pc := 13) (tgt := 28) dX8_string_13 (by decide) (fun c13 => ?_) (fun c13 => ?_)
    · refine Go_ldc (pc := 28) (n := -1000001) rfl kc_X8_42 dX8_string_28 ?_
      first | (rw [show stringR (M 17) a b = (-1000001, M 17) by unfold stringR; rw [if_pos (by omega)]]; exact Go_ireturn (pc := 30) dX8_string_30 rfl rfl (ref1_n (show (-1000001 : Int) < 0 by decide))) | (rw [show stringR (M 17) a b = (-1000003, M 17) by unfold stringR; rw [if_neg (by omega), if_pos (by omega)]]; exact Go_ireturn (pc := 30) dX8_string_30 rfl rfl (ref1_n (show (-1000003 : Int) < 0 by decide))) | (rw [show stringR (M 17) a b = (M 17 1, updI (updI (updI (M 17) (63 + 4 * M 17 1 + 0) a) (63 + 4 * M 17 1 + 1) b) 1 (M 17 1 + 1)) by unfold stringR; rw [if_neg (by omega), if_neg (by omega)]]; exact Go_ireturn (pc := 30) dX8_string_30 rfl (by show some (Sum.inl (M 17 1)) = _; congr 2; omega) ((ref1_p (show ¬ M 17 1 < 0 by omega)).trans (by unfold okM; rw [updI_z (f := updI (updI (M 17) (63 + 4 * M 17 1) a) (63 + 4 * M 17 1 + 1) b) (q := 63 + 4 * M 17 1 + 2) (z := 0) (by rw [updI_n (by omega), updI_n (by omega)]; exact hz 2 (by decide) (by decide) (by omega)), updI_z (f := updI (updI (M 17) (63 + 4 * M 17 1) a) (63 + 4 * M 17 1 + 1) b) (q := 63 + 4 * M 17 1 + 3) (z := 0) (by rw [updI_n (by omega), updI_n (by omega)]; exact hz 3 (by decide) (by decide) (by omega)), Int.add_zero])))
    · refine Go_iload_n (pc := 16) dX8_string_16 rfl rfl ?_
      refine Go_iload_n (pc := 17) dX8_string_17 rfl rfl ?_
      refine Go_iand (pc := 18) dX8_string_18 ?_
      refine Go_if_ne (pc := 19) (tgt := 28) dX8_string_19 (by decide) (inR_gand _ _) (fun c19 => ?_) (fun c19 => ?_)
      · refine Go_ldc (pc := 28) (n := -1000001) rfl kc_X8_42 dX8_string_28 ?_
        first | (rw [show stringR (M 17) a b = (-1000001, M 17) by unfold stringR; rw [if_pos (by omega)]]; exact Go_ireturn (pc := 30) dX8_string_30 rfl rfl (ref1_n (show (-1000001 : Int) < 0 by decide))) | (rw [show stringR (M 17) a b = (-1000003, M 17) by unfold stringR; rw [if_neg (by omega), if_pos (by omega)]]; exact Go_ireturn (pc := 30) dX8_string_30 rfl rfl (ref1_n (show (-1000003 : Int) < 0 by decide))) | (rw [show stringR (M 17) a b = (M 17 1, updI (updI (updI (M 17) (63 + 4 * M 17 1 + 0) a) (63 + 4 * M 17 1 + 1) b) 1 (M 17 1 + 1)) by unfold stringR; rw [if_neg (by omega), if_neg (by omega)]]; exact Go_ireturn (pc := 30) dX8_string_30 rfl (by show some (Sum.inl (M 17 1)) = _; congr 2; omega) ((ref1_p (show ¬ M 17 1 < 0 by omega)).trans (by unfold okM; rw [updI_z (f := updI (updI (M 17) (63 + 4 * M 17 1) a) (63 + 4 * M 17 1 + 1) b) (q := 63 + 4 * M 17 1 + 2) (z := 0) (by rw [updI_n (by omega), updI_n (by omega)]; exact hz 2 (by decide) (by decide) (by omega)), updI_z (f := updI (updI (M 17) (63 + 4 * M 17 1) a) (63 + 4 * M 17 1 + 1) b) (q := 63 + 4 * M 17 1 + 3) (z := 0) (by rw [updI_n (by omega), updI_n (by omega)]; exact hz 3 (by decide) (by decide) (by omega)), Int.add_zero])))
      · refine Go_iload_n (pc := 22) dX8_string_22 rfl rfl ?_
        refine Go_iload_n (pc := 23) dX8_string_23 rfl rfl ?_
        refine Go_ior (pc := 24) dX8_string_24 ?_
        refine Go_if_ne (pc := 25) (tgt := 31) dX8_string_25 (by decide) (inR_gor _ _) (fun c25 => ?_) (fun c25 => ?_)
        · refine Go_aload_n (pc := 31) dX8_string_31 rfl (by decide) rfl ?_
          refine Go_getr (pc := 32) (r := 17) dX8_string_32 fo_X8_7 (by decide) rfl rfl (by decide) ?_
          refine Go_iconst (pc := 35) dX8_string_35 ?_
          refine Go_iaload (pc := 36) (z := M 17 1) dX8_string_36 (by decide) rfl (by decide) (by decide) (rfl) ?_
          refine Go_iconst (pc := 37) dX8_string_37 ?_
          refine Go_icmp_ne (pc := 38) (tgt := 44) dX8_string_38 (by decide) (by omega) (by decide) (fun c38 => ?_) (fun c38 => ?_)
          · refine Go_aload_n (pc := 44) dX8_string_44 rfl (by decide) rfl ?_
            refine Go_invVv (pc := 45) (y := yX8_keeps) (avs := []) (k := 16) (rest := [])  (M1 := setR M 19 (M 17)) (d' := d - 1) dX8_string_45 ln_X8_48 mo_X8_keeps vo_X8_keeps rfl (rc_16) rfl rfl (Nat.le_of_ble_eq_true rfl) (by omega) (Nat.le_of_ble_eq_true rfl) rfl (s_X8_keeps (by omega) hW.o hS.2.1) ?_
            refine Go_bipush (pc := 48) dX8_string_48 (by decide) (by decide) ?_
            refine Go_iconst (pc := 50) dX8_string_50 ?_
            refine Go_aload_n (pc := 51) dX8_string_51 rfl (by decide) rfl ?_
            refine Go_getr (pc := 52) (r := 17) dX8_string_52 fo_X8_7 (by decide) rfl rfl (by decide) ?_
            refine Go_iconst (pc := 55) dX8_string_55 ?_
            refine Go_iaload (pc := 56) (z := M 17 1) dX8_string_56 (by decide) rfl (by decide) (by decide) (rfl) ?_
            refine Go_imul (pc := 57) dX8_string_57 ?_
            refine Go_iadd (pc := 58) dX8_string_58 ?_
            refine Go_istore_n (pc := 59) (L' := [some (.inr 16), some (.inl a), some (.inl b), some (.inl (63 + (4 * (M 17 1))))]) dX8_string_59 rfl (by decide) rfl ?_
            refine Go_aload_n (pc := 60) dX8_string_60 rfl (by decide) rfl ?_
            refine Go_getr (pc := 61) (r := 17) dX8_string_61 fo_X8_7 (by decide) rfl rfl (by decide) ?_
            refine Go_iload_n (pc := 64) dX8_string_64 rfl rfl ?_
            refine Go_iload_n (pc := 65) dX8_string_65 rfl rfl ?_
            refine Go_iastore (pc := 66) dX8_string_66 (by decide) rfl (by omega) (by omega) ?_
            refine Go_M (M1 := setR (setR M 19 (M 17)) 17 (updI (M 17) (63 + (4 * (M 17 1))) a)) rfl ?_
            refine Go_aload_n (pc := 67) dX8_string_67 rfl (by decide) rfl ?_
            refine Go_getr (pc := 68) (r := 17) dX8_string_68 fo_X8_7 (by decide) rfl rfl (by decide) ?_
            refine Go_iload_n (pc := 71) dX8_string_71 rfl rfl ?_
            refine Go_iconst (pc := 72) dX8_string_72 ?_
            refine Go_iadd (pc := 73) dX8_string_73 ?_
            refine Go_iload_n (pc := 74) dX8_string_74 rfl rfl ?_
            refine Go_iastore (pc := 75) dX8_string_75 (by decide) rfl (by omega) (by omega) ?_
            refine Go_M (M1 := setR (setR M 19 (M 17)) 17 (updI (updI (M 17) (63 + (4 * (M 17 1))) a) ((63 + (4 * (M 17 1))) + 1) b)) (setR_top _ _ _ _ _) ?_
            refine Go_aload_n (pc := 76) dX8_string_76 rfl (by decide) rfl ?_
            refine Go_getr (pc := 77) (r := 17) dX8_string_77 fo_X8_7 (by decide) rfl rfl (by decide) ?_
            refine Go_iload_n (pc := 80) dX8_string_80 rfl rfl ?_
            refine Go_iconst (pc := 81) dX8_string_81 ?_
            refine Go_iadd (pc := 82) dX8_string_82 ?_
            refine Go_iconst (pc := 83) dX8_string_83 ?_
            refine Go_iastore (pc := 84) dX8_string_84 (by decide) rfl (by omega) (by omega) ?_
            refine Go_M (M1 := setR (setR M 19 (M 17)) 17 (updI (updI (updI (M 17) (63 + (4 * (M 17 1))) a) ((63 + (4 * (M 17 1))) + 1) b) ((63 + (4 * (M 17 1))) + 2) 0)) (setR_top _ _ _ _ _) ?_
            refine Go_aload_n (pc := 85) dX8_string_85 rfl (by decide) rfl ?_
            refine Go_getr (pc := 86) (r := 17) dX8_string_86 fo_X8_7 (by decide) rfl rfl (by decide) ?_
            refine Go_iload_n (pc := 89) dX8_string_89 rfl rfl ?_
            refine Go_iconst (pc := 90) dX8_string_90 ?_
            refine Go_iadd (pc := 91) dX8_string_91 ?_
            refine Go_iconst (pc := 92) dX8_string_92 ?_
            refine Go_iastore (pc := 93) dX8_string_93 (by decide) rfl (by omega) (by omega) ?_
            refine Go_M (M1 := setR (setR M 19 (M 17)) 17 (updI (updI (updI (updI (M 17) (63 + (4 * (M 17 1))) a) ((63 + (4 * (M 17 1))) + 1) b) ((63 + (4 * (M 17 1))) + 2) 0) ((63 + (4 * (M 17 1))) + 3) 0)) (setR_top _ _ _ _ _) ?_
            refine Go_aload_n (pc := 94) dX8_string_94 rfl (by decide) rfl ?_
            refine Go_getr (pc := 95) (r := 17) dX8_string_95 fo_X8_7 (by decide) rfl rfl (by decide) ?_
            refine Go_iconst (pc := 98) dX8_string_98 ?_
            refine Go_dup2 (pc := 99) dX8_string_99 ?_
            refine Go_iaload (pc := 100) (z := M 17 1) dX8_string_100 (by decide) rfl (by decide) (by decide) (show (updI (updI (updI (updI (M 17) (63 + (4 * (M 17 1))) a) ((63 + (4 * (M 17 1))) + 1) b) ((63 + (4 * (M 17 1))) + 2) 0) ((63 + (4 * (M 17 1))) + 3) 0) 1 = (M 17 1) from (updI_n (by omega)).trans ((updI_n (by omega)).trans ((updI_n (by omega)).trans ((updI_n (by omega)).trans (rfl))))) ?_
            refine Go_iconst (pc := 101) dX8_string_101 ?_
            refine Go_iadd (pc := 102) dX8_string_102 ?_
            refine Go_iastore (pc := 103) dX8_string_103 (by decide) rfl (by decide) (by decide) ?_
            refine Go_M (M1 := setR (setR M 19 (M 17)) 17 (updI (updI (updI (updI (updI (M 17) (63 + (4 * (M 17 1))) a) ((63 + (4 * (M 17 1))) + 1) b) ((63 + (4 * (M 17 1))) + 2) 0) ((63 + (4 * (M 17 1))) + 3) 0) 1 ((M 17 1) + 1))) (setR_top _ _ _ _ _) ?_
            refine Go_aload_n (pc := 104) dX8_string_104 rfl (by decide) rfl ?_
            refine Go_aload_n (pc := 105) dX8_string_105 rfl (by decide) rfl ?_
            refine Go_getr (pc := 106) (r := 17) dX8_string_106 fo_X8_7 (by decide) rfl rfl (by decide) ?_
            refine Go_iconst (pc := 109) dX8_string_109 ?_
            refine Go_iaload (pc := 110) (z := (M 17 1) + 1) dX8_string_110 (by decide) rfl (by decide) (by decide) (show (updI (updI (updI (updI (updI (M 17) (63 + (4 * (M 17 1))) a) ((63 + (4 * (M 17 1))) + 1) b) ((63 + (4 * (M 17 1))) + 2) 0) ((63 + (4 * (M 17 1))) + 3) 0) 1 ((M 17 1) + 1)) 1 = ((M 17 1) + 1) from updI_s _ _ _) ?_
            refine Go_iconst (pc := 111) dX8_string_111 ?_
            refine Go_isub (pc := 112) dX8_string_112 ?_
            refine Go_invV (pc := 113) (y := yX8_acted) (avs := [.inl (((M 17 1) + 1) - 1)]) (k := 16) (rest := []) (x := .inl (((M 17 1) + 1) - 1)) (M1 := setR (setR (setR (setR M 19 (M 17)) 17 (updI (updI (updI (updI (updI (M 17) (63 + (4 * (M 17 1))) a) ((63 + (4 * (M 17 1))) + 1) b) ((63 + (4 * (M 17 1))) + 2) 0) ((63 + (4 * (M 17 1))) + 3) 0) 1 ((M 17 1) + 1))) 18 (hisR (M 18) (M 17) (M 16 4))) 16 (updI (M 16) 4 (hisN (M 16 4)))) (d' := d - 1) dX8_string_113 ln_X8_51 mo_X8_acted vo_X8_acted rfl (rc_16) rfl rfl (Nat.le_of_ble_eq_true rfl) (by omega) (Nat.le_of_ble_eq_true rfl) rfl (s_X8_acted (by omega) (by omega) (by omega) hn16) ?_
            first | (rw [show stringR (M 17) a b = (-1000001, M 17) by unfold stringR; rw [if_pos (by omega)]]; exact Go_ireturn (pc := 116) dX8_string_116 rfl rfl (ref1_n (show (-1000001 : Int) < 0 by decide))) | (rw [show stringR (M 17) a b = (-1000003, M 17) by unfold stringR; rw [if_neg (by omega), if_pos (by omega)]]; exact Go_ireturn (pc := 116) dX8_string_116 rfl rfl (ref1_n (show (-1000003 : Int) < 0 by decide))) | (rw [show stringR (M 17) a b = (M 17 1, updI (updI (updI (M 17) (63 + 4 * M 17 1 + 0) a) (63 + 4 * M 17 1 + 1) b) 1 (M 17 1 + 1)) by unfold stringR; rw [if_neg (by omega), if_neg (by omega)]]; exact Go_ireturn (pc := 116) dX8_string_116 rfl (by show some (Sum.inl (M 17 1)) = _; congr 2; omega) ((ref1_p (show ¬ M 17 1 < 0 by omega)).trans (by unfold okM; rw [updI_z (f := updI (updI (M 17) (63 + 4 * M 17 1) a) (63 + 4 * M 17 1 + 1) b) (q := 63 + 4 * M 17 1 + 2) (z := 0) (by rw [updI_n (by omega), updI_n (by omega)]; exact hz 2 (by decide) (by decide) (by omega)), updI_z (f := updI (updI (M 17) (63 + 4 * M 17 1) a) (63 + 4 * M 17 1 + 1) b) (q := 63 + 4 * M 17 1 + 3) (z := 0) (by rw [updI_n (by omega), updI_n (by omega)]; exact hz 3 (by decide) (by decide) (by omega)), Int.add_zero])))
          · refine Go_ldc (pc := 41) (n := -1000003) rfl kc_X8_47 dX8_string_41 ?_
            first | (rw [show stringR (M 17) a b = (-1000001, M 17) by unfold stringR; rw [if_pos (by omega)]]; exact Go_ireturn (pc := 43) dX8_string_43 rfl rfl (ref1_n (show (-1000001 : Int) < 0 by decide))) | (rw [show stringR (M 17) a b = (-1000003, M 17) by unfold stringR; rw [if_neg (by omega), if_pos (by omega)]]; exact Go_ireturn (pc := 43) dX8_string_43 rfl rfl (ref1_n (show (-1000003 : Int) < 0 by decide))) | (rw [show stringR (M 17) a b = (M 17 1, updI (updI (updI (M 17) (63 + 4 * M 17 1 + 0) a) (63 + 4 * M 17 1 + 1) b) 1 (M 17 1 + 1)) by unfold stringR; rw [if_neg (by omega), if_neg (by omega)]]; exact Go_ireturn (pc := 43) dX8_string_43 rfl (by show some (Sum.inl (M 17 1)) = _; congr 2; omega) ((ref1_p (show ¬ M 17 1 < 0 by omega)).trans (by unfold okM; rw [updI_z (f := updI (updI (M 17) (63 + 4 * M 17 1) a) (63 + 4 * M 17 1 + 1) b) (q := 63 + 4 * M 17 1 + 2) (z := 0) (by rw [updI_n (by omega), updI_n (by omega)]; exact hz 2 (by decide) (by decide) (by omega)), updI_z (f := updI (updI (M 17) (63 + 4 * M 17 1) a) (63 + 4 * M 17 1 + 1) b) (q := 63 + 4 * M 17 1 + 3) (z := 0) (by rw [updI_n (by omega), updI_n (by omega)]; exact hz 3 (by decide) (by decide) (by omega)), Int.add_zero])))
        · refine Go_ldc (pc := 28) (n := -1000001) rfl kc_X8_42 dX8_string_28 ?_
          first | (rw [show stringR (M 17) a b = (-1000001, M 17) by unfold stringR; rw [if_pos (by omega)]]; exact Go_ireturn (pc := 30) dX8_string_30 rfl rfl (ref1_n (show (-1000001 : Int) < 0 by decide))) | (rw [show stringR (M 17) a b = (-1000003, M 17) by unfold stringR; rw [if_neg (by omega), if_pos (by omega)]]; exact Go_ireturn (pc := 30) dX8_string_30 rfl rfl (ref1_n (show (-1000003 : Int) < 0 by decide))) | (rw [show stringR (M 17) a b = (M 17 1, updI (updI (updI (M 17) (63 + 4 * M 17 1 + 0) a) (63 + 4 * M 17 1 + 1) b) 1 (M 17 1 + 1)) by unfold stringR; rw [if_neg (by omega), if_neg (by omega)]]; exact Go_ireturn (pc := 30) dX8_string_30 rfl (by show some (Sum.inl (M 17 1)) = _; congr 2; omega) ((ref1_p (show ¬ M 17 1 < 0 by omega)).trans (by unfold okM; rw [updI_z (f := updI (updI (M 17) (63 + 4 * M 17 1) a) (63 + 4 * M 17 1 + 1) b) (q := 63 + 4 * M 17 1 + 2) (z := 0) (by rw [updI_n (by omega), updI_n (by omega)]; exact hz 2 (by decide) (by decide) (by omega)), updI_z (f := updI (updI (M 17) (63 + 4 * M 17 1) a) (63 + 4 * M 17 1 + 1) b) (q := 63 + 4 * M 17 1 + 3) (z := 0) (by rw [updI_n (by omega), updI_n (by omega)]; exact hz 3 (by decide) (by decide) (by omega)), Int.add_zero])))
theorem s_X8_unties {d : Nat} (hd : 2 ≤ d) {a : Int} {M : gMem} (hW : Wf (M 17)) (ha : inR a) : Go d RX8 cX8_unties 2 (some .int) 0 [some (.inr 16), some (.inl a)] [] M (some (.inl ((untieR (M 17) a).1))) (setR M 17 (untieR (M 17) a).2) := by
  have hn := hW.n
  have h0 := hW.ht a
  have h1 := hW.ht (a + 1)
  have hk := hW.kn a
  have er : ∀ z, 0 ≤ a → a < 8 → sc (updI (M 17) (7 + 7 * a + 3) z) a 3 = z := fun z a0 a1 => by rw [sc_in _ _ a0 a1, updI_s]
  have es : 0 ≤ a → a < 8 → sc (M 17) a 3 = M 17 (7 + 7 * a + 3) := fun a0 a1 => sc_in _ _ a0 a1
  refine Go_iload_n (pc := 0) dX8_unties_0 rfl rfl ?_
  refine Go_iconst (pc := 1) dX8_unties_1 ?_
  refine Go_aload_n (pc := 2) dX8_unties_2 rfl (by decide) rfl ?_
  refine Go_getr (pc := 3) (r := 17) dX8_unties_3 fo_X8_7 (by decide) rfl rfl (by decide) ?_
  refine Go_iconst (pc := 6) dX8_unties_6 ?_
  refine Go_iaload (pc := 7) (z := M 17 0) dX8_unties_7 (by decide) rfl (by decide) (by decide) (rfl) ?_
  refine Go_iconst (pc := 8) dX8_unties_8 ?_
  refine Go_isub (pc := 9) dX8_unties_9 ?_
  refine Go_invS (pc := 10) (y := yX8_in) (avs := [.inl a, .inl 0, .inl ((M 17 0) - 2)]) (rest := []) (x := .inl (b2i (0 ≤ a ∧ a ≤ ((M 17 0) - 2))))  (d' := d - 1) dX8_unties_10 ln_X8_38 mo_X8_in so_X8_in rfl rfl rfl (Nat.le_of_ble_eq_true rfl) (by omega) (Nat.le_of_ble_eq_true rfl) rfl (s_X8_in (by omega) (by omega) (by decide) (by omega)) ?_
  refine Go_ifneB (pc := 13) (tgt := 19) dX8_unties_13 (by decide) (fun c13 => ?_) (fun c13 => ?_)
  · refine Go_aload_n (pc := 19) dX8_unties_19 rfl (by decide) rfl ?_
    refine Go_iload_n (pc := 20) dX8_unties_20 rfl rfl ?_
    refine Go_iconst (pc := 21) dX8_unties_21 ?_
    refine Go_invV (pc := 22) (y := yX8_sh) (avs := [.inl a, .inl 3]) (k := 16) (rest := []) (x := .inl (sc (M 17) a 3))  (d' := d - 1) dX8_unties_22 ln_X8_59 mo_X8_sh vo_X8_sh rfl (rc_16) rfl rfl (Nat.le_of_ble_eq_true rfl) (by omega) (Nat.le_of_ble_eq_true rfl) rfl (s_X8_sh (by omega) (by first | omega | (simp only [Nat.reduceAdd]; omega)) (by first | omega | (simp only [Nat.reduceAdd]; omega)) (by decide) (by decide)) ?_
    refine Go_if_eq (pc := 25) (tgt := 51) dX8_unties_25 (by decide) (by first | exact hW.rs _ _ (by decide) | exact hW2.rs _ _ (by decide) | omega) (fun c25 => ?_) (fun c25 => ?_)
    · refine Go_ldc (pc := 51) (n := -1000002) rfl kc_X8_83 dX8_unties_51 ?_
      exact Go_ireturn (pc := 53) dX8_unties_53 rfl (by unfold untieR; (repeat (first | rw [if_pos (by omega)] | rw [if_neg (by omega)])); first | done | rfl | (rw [er _ (by omega) (by omega), es (by omega) (by omega)])) (by unfold untieR; (repeat (first | rw [if_pos (by omega)] | rw [if_neg (by omega)])); first | done | exact setR_id _ _ | rfl | (rw [es (by omega) (by omega)]))
    · refine Go_aload_n (pc := 28) dX8_unties_28 rfl (by decide) rfl ?_
      refine Go_iload_n (pc := 29) dX8_unties_29 rfl rfl ?_
      refine Go_iconst (pc := 30) dX8_unties_30 ?_
      refine Go_invV (pc := 31) (y := yX8_sh) (avs := [.inl a, .inl 0]) (k := 16) (rest := []) (x := .inl (sc (M 17) a 0))  (d' := d - 1) dX8_unties_31 ln_X8_59 mo_X8_sh vo_X8_sh rfl (rc_16) rfl rfl (Nat.le_of_ble_eq_true rfl) (by omega) (Nat.le_of_ble_eq_true rfl) rfl (s_X8_sh (by omega) (by first | omega | (simp only [Nat.reduceAdd]; omega)) (by first | omega | (simp only [Nat.reduceAdd]; omega)) (by decide) (by decide)) ?_
      refine Go_aload_n (pc := 34) dX8_unties_34 rfl (by decide) rfl ?_
      refine Go_iload_n (pc := 35) dX8_unties_35 rfl rfl ?_
      refine Go_iconst (pc := 36) dX8_unties_36 ?_
      refine Go_iadd (pc := 37) dX8_unties_37 ?_
      refine Go_iconst (pc := 38) dX8_unties_38 ?_
      refine Go_invV (pc := 39) (y := yX8_sh) (avs := [.inl (a + 1), .inl 0]) (k := 16) (rest := [.inl (sc (M 17) a 0)]) (x := .inl (sc (M 17) (a + 1) 0))  (d' := d - 1) dX8_unties_39 ln_X8_59 mo_X8_sh vo_X8_sh rfl (rc_16) rfl rfl (Nat.le_of_ble_eq_true rfl) (by omega) (Nat.le_of_ble_eq_true rfl) rfl (s_X8_sh (by omega) (by first | omega | (simp only [Nat.reduceAdd]; omega)) (by first | omega | (simp only [Nat.reduceAdd]; omega)) (by decide) (by decide)) ?_
      refine Go_isub (pc := 42) dX8_unties_42 ?_
      refine Go_iconst (pc := 43) dX8_unties_43 ?_
      refine Go_iconst (pc := 44) dX8_unties_44 ?_
      refine Go_invS (pc := 45) (y := yX8_in) (avs := [.inl ((sc (M 17) a 0) - (sc (M 17) (a + 1) 0)), .inl (-1), .inl 1]) (rest := []) (x := .inl (b2i ((-1) ≤ ((sc (M 17) a 0) - (sc (M 17) (a + 1) 0)) ∧ ((sc (M 17) a 0) - (sc (M 17) (a + 1) 0)) ≤ 1)))  (d' := d - 1) dX8_unties_45 ln_X8_38 mo_X8_in so_X8_in rfl rfl rfl (Nat.le_of_ble_eq_true rfl) (by omega) (Nat.le_of_ble_eq_true rfl) rfl (s_X8_in (by omega) (by omega) (by decide) (by decide)) ?_
      refine Go_ifneB (pc := 48) (tgt := 54) dX8_unties_48 (by decide) (fun c48 => ?_) (fun c48 => ?_)
      · refine Go_aload_n (pc := 54) dX8_unties_54 rfl (by decide) rfl ?_
        refine Go_getr (pc := 55) (r := 17) dX8_unties_55 fo_X8_7 (by decide) rfl rfl (by decide) ?_
        refine Go_bipush (pc := 58) dX8_unties_58 (by decide) (by decide) ?_
        refine Go_bipush (pc := 60) dX8_unties_60 (by decide) (by decide) ?_
        refine Go_iload_n (pc := 62) dX8_unties_62 rfl rfl ?_
        refine Go_imul (pc := 63) dX8_unties_63 ?_
        refine Go_iadd (pc := 64) dX8_unties_64 ?_
        refine Go_iconst (pc := 65) dX8_unties_65 ?_
        refine Go_iadd (pc := 66) dX8_unties_66 ?_
        refine Go_dup2 (pc := 67) dX8_unties_67 ?_
        refine Go_iaload (pc := 68) (z := M 17 ((7 + (7 * a)) + 3)) dX8_unties_68 (by decide) rfl (by omega) (by omega) (rfl) ?_
        refine Go_iconst (pc := 69) dX8_unties_69 ?_
        refine Go_isub (pc := 70) dX8_unties_70 ?_
        refine Go_iastore (pc := 71) dX8_unties_71 (by decide) rfl (by omega) (by omega) ?_
        refine Go_M (M1 := setR M 17 (updI (M 17) ((7 + (7 * a)) + 3) ((M 17 ((7 + (7 * a)) + 3)) - 1))) rfl ?_
        refine Go_aload_n (pc := 72) dX8_unties_72 rfl (by decide) rfl ?_
        refine Go_iload_n (pc := 73) dX8_unties_73 rfl rfl ?_
        refine Go_iconst (pc := 74) dX8_unties_74 ?_
        refine Go_invV (pc := 75) (y := yX8_sh) (avs := [.inl a, .inl 3]) (k := 16) (rest := []) (x := .inl (sc (updI (M 17) ((7 + (7 * a)) + 3) ((M 17 ((7 + (7 * a)) + 3)) - 1)) a 3))  (d' := d - 1) dX8_unties_75 ln_X8_59 mo_X8_sh vo_X8_sh rfl (rc_16) rfl rfl (Nat.le_of_ble_eq_true rfl) (by omega) (Nat.le_of_ble_eq_true rfl) rfl (s_X8_sh (by omega) (by first | omega | (simp only [Nat.reduceAdd]; omega)) (by first | omega | (simp only [Nat.reduceAdd]; omega)) (by decide) (by decide)) ?_
        exact Go_ireturn (pc := 78) dX8_unties_78 rfl (by unfold untieR; (repeat (first | rw [if_pos (by omega)] | rw [if_neg (by omega)])); first | done | rfl | (rw [er _ (by omega) (by omega), es (by omega) (by omega)])) (by unfold untieR; (repeat (first | rw [if_pos (by omega)] | rw [if_neg (by omega)])); first | done | exact setR_id _ _ | rfl | (rw [es (by omega) (by omega)]))
      · refine Go_ldc (pc := 51) (n := -1000002) rfl kc_X8_83 dX8_unties_51 ?_
        exact Go_ireturn (pc := 53) dX8_unties_53 rfl (by unfold untieR; (repeat (first | rw [if_pos (by omega)] | rw [if_neg (by omega)])); first | done | rfl | (rw [er _ (by omega) (by omega), es (by omega) (by omega)])) (by unfold untieR; (repeat (first | rw [if_pos (by omega)] | rw [if_neg (by omega)])); first | done | exact setR_id _ _ | rfl | (rw [es (by omega) (by omega)]))
  · refine Go_ldc (pc := 16) (n := -1000001) rfl kc_X8_42 dX8_unties_16 ?_
    exact Go_ireturn (pc := 18) dX8_unties_18 rfl (by unfold untieR; (repeat (first | rw [if_pos (by omega)] | rw [if_neg (by omega)])); first | done | rfl | (rw [er _ (by omega) (by omega), es (by omega) (by omega)])) (by unfold untieR; (repeat (first | rw [if_pos (by omega)] | rw [if_neg (by omega)])); first | done | exact setR_id _ _ | rfl | (rw [es (by omega) (by omega)]))
theorem s_X8_tells {d : Nat} (hd : 4 ≤ d) {a b : Int} {M : gMem} (hW : Wf (M 17)) (ha : inR a) (hb : inR b) : Go d RX8 cX8_tells 3 (some .int) 0 [some (.inr 16), some (.inl a), some (.inl b)] [] M (some (.inl ((tellR (M 17) a b).1))) (setR M 17 (tellR (M 17) a b).2) := by
  have hn := hW.n
  by_cases hc : (0 ≤ a ∧ a < M 17 0) ∧ 0 ≤ b ∧ b ≤ 9
  · have hW2 : Wf (updI (M 17) (7 + 7 * a + 6) b) := hW.uS (by omega) (by omega) (by decide) (by decide) ⟨by omega, by omega, by omega, by omega, by omega⟩ (by omega)
    unfold tellR
    rw [if_neg (by omega)]
    refine Go_aload_n (pc := 0) dX8_tells_0 rfl (by decide) rfl ?_
    refine Go_iload_n (pc := 1) dX8_tells_1 rfl rfl ?_
    refine Go_invV (pc := 2) (y := yX8_isShade) (avs := [.inl a]) (k := 16) (rest := []) (x := .inl (b2i (0 ≤ a ∧ a < M 17 0)))  (d' := d - 1) dX8_tells_2 ln_X8_90 mo_X8_isShade vo_X8_isShade rfl (rc_16) rfl rfl (Nat.le_of_ble_eq_true rfl) (by omega) (Nat.le_of_ble_eq_true rfl) rfl (s_X8_isShade (by omega) (by omega) (by first | exact hW | exact hW2)) ?_
    refine Go_ifeqB (pc := 5) (tgt := 18) dX8_tells_5 (by decide) (fun c5 => ?_) (fun c5 => ?_)
    · refine Go_ldc (pc := 18) (n := -1000001) rfl kc_X8_42 dX8_tells_18 ?_
      first | omega | exact Go_ireturn (pc := 20) dX8_tells_20 rfl rfl rfl
    · refine Go_iload_n (pc := 8) dX8_tells_8 rfl rfl ?_
      refine Go_iconst (pc := 9) dX8_tells_9 ?_
      refine Go_bipush (pc := 10) dX8_tells_10 (by decide) (by decide) ?_
      refine Go_invS (pc := 12) (y := yX8_in) (avs := [.inl b, .inl 0, .inl 9]) (rest := []) (x := .inl (b2i (0 ≤ b ∧ b ≤ 9)))  (d' := d - 1) dX8_tells_12 ln_X8_38 mo_X8_in so_X8_in rfl rfl rfl (Nat.le_of_ble_eq_true rfl) (by omega) (Nat.le_of_ble_eq_true rfl) rfl (s_X8_in (by omega) (by omega) (by decide) (by decide)) ?_
      refine Go_ifneB (pc := 15) (tgt := 21) dX8_tells_15 (by decide) (fun c15 => ?_) (fun c15 => ?_)
      · refine Go_aload_n (pc := 21) dX8_tells_21 rfl (by decide) rfl ?_
        refine Go_getr (pc := 22) (r := 17) dX8_tells_22 fo_X8_7 (by decide) rfl rfl (by decide) ?_
        refine Go_bipush (pc := 25) dX8_tells_25 (by decide) (by decide) ?_
        refine Go_bipush (pc := 27) dX8_tells_27 (by decide) (by decide) ?_
        refine Go_iload_n (pc := 29) dX8_tells_29 rfl rfl ?_
        refine Go_imul (pc := 30) dX8_tells_30 ?_
        refine Go_iadd (pc := 31) dX8_tells_31 ?_
        refine Go_bipush (pc := 32) dX8_tells_32 (by decide) (by decide) ?_
        refine Go_iadd (pc := 34) dX8_tells_34 ?_
        refine Go_iload_n (pc := 35) dX8_tells_35 rfl rfl ?_
        refine Go_iastore (pc := 36) dX8_tells_36 (by decide) rfl (by omega) (by omega) ?_
        refine Go_M (M1 := setR M 17 (updI (M 17) ((7 + (7 * a)) + 6) b)) rfl ?_
        refine Go_aload_n (pc := 37) dX8_tells_37 rfl (by decide) rfl ?_
        refine Go_invV (pc := 38) (y := yX8_standing) (avs := []) (k := 16) (rest := []) (x := .inl (standF (updI (M 17) ((7 + (7 * a)) + 6) b)))  (d' := d - 1) dX8_tells_38 ln_X8_93 mo_X8_standing vo_X8_standing rfl (rc_16) rfl rfl (Nat.le_of_ble_eq_true rfl) (by omega) (Nat.le_of_ble_eq_true rfl) rfl (s_X8_standing (by omega) (by first | exact hW | exact hW2)) ?_
        first | omega | exact Go_ireturn (pc := 41) dX8_tells_41 rfl rfl rfl
      · refine Go_ldc (pc := 18) (n := -1000001) rfl kc_X8_42 dX8_tells_18 ?_
        first | omega | exact Go_ireturn (pc := 20) dX8_tells_20 rfl rfl rfl
  · unfold tellR
    rw [if_pos (by omega)]
    refine Go_aload_n (pc := 0) dX8_tells_0 rfl (by decide) rfl ?_
    refine Go_iload_n (pc := 1) dX8_tells_1 rfl rfl ?_
    refine Go_invV (pc := 2) (y := yX8_isShade) (avs := [.inl a]) (k := 16) (rest := []) (x := .inl (b2i (0 ≤ a ∧ a < M 17 0)))  (d' := d - 1) dX8_tells_2 ln_X8_90 mo_X8_isShade vo_X8_isShade rfl (rc_16) rfl rfl (Nat.le_of_ble_eq_true rfl) (by omega) (Nat.le_of_ble_eq_true rfl) rfl (s_X8_isShade (by omega) (by omega) hW) ?_
    refine Go_ifeqB (pc := 5) (tgt := 18) dX8_tells_5 (by decide) (fun c5 => ?_) (fun c5 => ?_)
    · refine Go_ldc (pc := 18) (n := -1000001) rfl kc_X8_42 dX8_tells_18 ?_
      exact Go_ireturn (pc := 20) dX8_tells_20 rfl rfl (setR_id _ _)
    · refine Go_iload_n (pc := 8) dX8_tells_8 rfl rfl ?_
      refine Go_iconst (pc := 9) dX8_tells_9 ?_
      refine Go_bipush (pc := 10) dX8_tells_10 (by decide) (by decide) ?_
      refine Go_invS (pc := 12) (y := yX8_in) (avs := [.inl b, .inl 0, .inl 9]) (rest := []) (x := .inl (b2i (0 ≤ b ∧ b ≤ 9)))  (d' := d - 1) dX8_tells_12 ln_X8_38 mo_X8_in so_X8_in rfl rfl rfl (Nat.le_of_ble_eq_true rfl) (by omega) (Nat.le_of_ble_eq_true rfl) rfl (s_X8_in (by omega) (by omega) (by decide) (by decide)) ?_
      refine Go_ifneB (pc := 15) (tgt := 21) dX8_tells_15 (by decide) (fun c15 => ?_) (fun c15 => ?_)
      · omega
      · refine Go_ldc (pc := 18) (n := -1000001) rfl kc_X8_42 dX8_tells_18 ?_
        exact Go_ireturn (pc := 20) dX8_tells_20 rfl rfl (setR_id _ _)
