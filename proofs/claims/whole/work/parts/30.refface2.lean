/-! the reference: its small changes, on -/
theorem s_X8_untie {d : Nat} (hd : 6 ≤ d) {a : Int} {M : gMem} (hS : InvR M) (ha : inR a) : Go d RX8 cX8_untie 2 (some .int) 0 [some (.inr 16), some (.inl a)] [] M (some (.inl ((untieR (M 17) a).1))) (ref2 M (untieR (M 17) a).2 (untieR (M 17) a).1) := by
  have hW := hS.1
  have hn16 := hS.2.2.2
  have hr := untieR_r hW a
  by_cases c : (untieR (M 17) a).1 < 0
  · have he := untieR_e hW c
    rw [ref2_n c]
    refine Go_aload_n (pc := 0) dX8_untie_0 rfl (by decide) rfl ?_
    refine Go_invVv (pc := 1) (y := yX8_keeps) (avs := []) (k := 16) (rest := [])  (M1 := setR M 19 (M 17)) (d' := d - 1) dX8_untie_1 ln_X8_48 mo_X8_keeps vo_X8_keeps rfl (rc_16) rfl rfl (Nat.le_of_ble_eq_true rfl) (by omega) (Nat.le_of_ble_eq_true rfl) rfl (s_X8_keeps (by omega) hW.o hS.2.1) ?_
    refine Go_aload_n (pc := 4) dX8_untie_4 rfl (by decide) rfl ?_
    refine Go_aload_n (pc := 5) dX8_untie_5 rfl (by decide) rfl ?_
    refine Go_iload_n (pc := 6) dX8_untie_6 rfl rfl ?_
    refine Go_invV (pc := 7) (y := yX8_unties) (avs := [.inl a]) (k := 16) (rest := [.inr 16]) (x := .inl ((untieR (M 17) a).1)) (M1 := setR (setR M 19 (M 17)) 17 ((untieR (M 17) a).2)) (d' := d - 1) dX8_untie_7 ln_X8_84 mo_X8_unties vo_X8_unties rfl (rc_16) rfl rfl (Nat.le_of_ble_eq_true rfl) (by omega) (Nat.le_of_ble_eq_true rfl) rfl (s_X8_unties (by omega) hW (by omega)) ?_
    refine Go_invV (pc := 10) (y := yX8_acted) (avs := [.inl ((untieR (M 17) a).1)]) (k := 16) (rest := []) (x := .inl ((untieR (M 17) a).1))  (d' := d - 1) dX8_untie_10 ln_X8_51 mo_X8_acted vo_X8_acted rfl (rc_16) rfl rfl (Nat.le_of_ble_eq_true rfl) (by omega) (Nat.le_of_ble_eq_true rfl) rfl (s_X8_acted_no (by omega) (by omega) (by omega)) ?_
    exact Go_ireturn (pc := 13) dX8_untie_13 rfl rfl (by rw [he.2, setR_id2 M (by decide)])
  · rw [ref2_p c]
    refine Go_aload_n (pc := 0) dX8_untie_0 rfl (by decide) rfl ?_
    refine Go_invVv (pc := 1) (y := yX8_keeps) (avs := []) (k := 16) (rest := [])  (M1 := setR M 19 (M 17)) (d' := d - 1) dX8_untie_1 ln_X8_48 mo_X8_keeps vo_X8_keeps rfl (rc_16) rfl rfl (Nat.le_of_ble_eq_true rfl) (by omega) (Nat.le_of_ble_eq_true rfl) rfl (s_X8_keeps (by omega) hW.o hS.2.1) ?_
    refine Go_aload_n (pc := 4) dX8_untie_4 rfl (by decide) rfl ?_
    refine Go_aload_n (pc := 5) dX8_untie_5 rfl (by decide) rfl ?_
    refine Go_iload_n (pc := 6) dX8_untie_6 rfl rfl ?_
    refine Go_invV (pc := 7) (y := yX8_unties) (avs := [.inl a]) (k := 16) (rest := [.inr 16]) (x := .inl ((untieR (M 17) a).1)) (M1 := setR (setR M 19 (M 17)) 17 ((untieR (M 17) a).2)) (d' := d - 1) dX8_untie_7 ln_X8_84 mo_X8_unties vo_X8_unties rfl (rc_16) rfl rfl (Nat.le_of_ble_eq_true rfl) (by omega) (Nat.le_of_ble_eq_true rfl) rfl (s_X8_unties (by omega) hW (by omega)) ?_
    refine Go_invV (pc := 10) (y := yX8_acted) (avs := [.inl ((untieR (M 17) a).1)]) (k := 16) (rest := []) (x := .inl ((untieR (M 17) a).1)) (M1 := setR (setR (setR (setR M 19 (M 17)) 17 ((untieR (M 17) a).2)) 18 (hisR (M 18) (M 17) (M 16 4))) 16 (updI (M 16) 4 (hisN (M 16 4)))) (d' := d - 1) dX8_untie_10 ln_X8_51 mo_X8_acted vo_X8_acted rfl (rc_16) rfl rfl (Nat.le_of_ble_eq_true rfl) (by omega) (Nat.le_of_ble_eq_true rfl) rfl (s_X8_acted (by omega) (by omega) (by omega) hn16) ?_
    exact Go_ireturn (pc := 13) dX8_untie_13 rfl rfl rfl
theorem s_X8_tell {d : Nat} (hd : 6 ≤ d) {a b : Int} {M : gMem} (hS : InvR M) (ha : inR a) (hb : inR b) : Go d RX8 cX8_tell 3 (some .int) 0 [some (.inr 16), some (.inl a), some (.inl b)] [] M (some (.inl ((tellR (M 17) a b).1))) (ref2 M (tellR (M 17) a b).2 (tellR (M 17) a b).1) := by
  have hW := hS.1
  have hn16 := hS.2.2.2
  have hr := tellR_r hW a b
  by_cases c : (tellR (M 17) a b).1 < 0
  · have he := tellR_e hW c
    rw [ref2_n c]
    refine Go_aload_n (pc := 0) dX8_tell_0 rfl (by decide) rfl ?_
    refine Go_invVv (pc := 1) (y := yX8_keeps) (avs := []) (k := 16) (rest := [])  (M1 := setR M 19 (M 17)) (d' := d - 1) dX8_tell_1 ln_X8_48 mo_X8_keeps vo_X8_keeps rfl (rc_16) rfl rfl (Nat.le_of_ble_eq_true rfl) (by omega) (Nat.le_of_ble_eq_true rfl) rfl (s_X8_keeps (by omega) hW.o hS.2.1) ?_
    refine Go_aload_n (pc := 4) dX8_tell_4 rfl (by decide) rfl ?_
    refine Go_aload_n (pc := 5) dX8_tell_5 rfl (by decide) rfl ?_
    refine Go_iload_n (pc := 6) dX8_tell_6 rfl rfl ?_
    refine Go_iload_n (pc := 7) dX8_tell_7 rfl rfl ?_
    refine Go_invV (pc := 8) (y := yX8_tells) (avs := [.inl a, .inl b]) (k := 16) (rest := [.inr 16]) (x := .inl ((tellR (M 17) a b).1)) (M1 := setR (setR M 19 (M 17)) 17 ((tellR (M 17) a b).2)) (d' := d - 1) dX8_tell_8 ln_X8_97 mo_X8_tells vo_X8_tells rfl (rc_16) rfl rfl (Nat.le_of_ble_eq_true rfl) (by omega) (Nat.le_of_ble_eq_true rfl) rfl (s_X8_tells (by omega) hW (by omega) (by omega)) ?_
    refine Go_invV (pc := 11) (y := yX8_acted) (avs := [.inl ((tellR (M 17) a b).1)]) (k := 16) (rest := []) (x := .inl ((tellR (M 17) a b).1))  (d' := d - 1) dX8_tell_11 ln_X8_51 mo_X8_acted vo_X8_acted rfl (rc_16) rfl rfl (Nat.le_of_ble_eq_true rfl) (by omega) (Nat.le_of_ble_eq_true rfl) rfl (s_X8_acted_no (by omega) (by omega) (by omega)) ?_
    exact Go_ireturn (pc := 14) dX8_tell_14 rfl rfl (by rw [he.2, setR_id2 M (by decide)])
  · rw [ref2_p c]
    refine Go_aload_n (pc := 0) dX8_tell_0 rfl (by decide) rfl ?_
    refine Go_invVv (pc := 1) (y := yX8_keeps) (avs := []) (k := 16) (rest := [])  (M1 := setR M 19 (M 17)) (d' := d - 1) dX8_tell_1 ln_X8_48 mo_X8_keeps vo_X8_keeps rfl (rc_16) rfl rfl (Nat.le_of_ble_eq_true rfl) (by omega) (Nat.le_of_ble_eq_true rfl) rfl (s_X8_keeps (by omega) hW.o hS.2.1) ?_
    refine Go_aload_n (pc := 4) dX8_tell_4 rfl (by decide) rfl ?_
    refine Go_aload_n (pc := 5) dX8_tell_5 rfl (by decide) rfl ?_
    refine Go_iload_n (pc := 6) dX8_tell_6 rfl rfl ?_
    refine Go_iload_n (pc := 7) dX8_tell_7 rfl rfl ?_
    refine Go_invV (pc := 8) (y := yX8_tells) (avs := [.inl a, .inl b]) (k := 16) (rest := [.inr 16]) (x := .inl ((tellR (M 17) a b).1)) (M1 := setR (setR M 19 (M 17)) 17 ((tellR (M 17) a b).2)) (d' := d - 1) dX8_tell_8 ln_X8_97 mo_X8_tells vo_X8_tells rfl (rc_16) rfl rfl (Nat.le_of_ble_eq_true rfl) (by omega) (Nat.le_of_ble_eq_true rfl) rfl (s_X8_tells (by omega) hW (by omega) (by omega)) ?_
    refine Go_invV (pc := 11) (y := yX8_acted) (avs := [.inl ((tellR (M 17) a b).1)]) (k := 16) (rest := []) (x := .inl ((tellR (M 17) a b).1)) (M1 := setR (setR (setR (setR M 19 (M 17)) 17 ((tellR (M 17) a b).2)) 18 (hisR (M 18) (M 17) (M 16 4))) 16 (updI (M 16) 4 (hisN (M 16 4)))) (d' := d - 1) dX8_tell_11 ln_X8_51 mo_X8_acted vo_X8_acted rfl (rc_16) rfl rfl (Nat.le_of_ble_eq_true rfl) (by omega) (Nat.le_of_ble_eq_true rfl) rfl (s_X8_acted (by omega) (by omega) (by omega) hn16) ?_
    exact Go_ireturn (pc := 14) dX8_tell_14 rfl rfl rfl
theorem s_X8_untell {d : Nat} (hd : 6 ≤ d) {M : gMem} (hS : InvR M) : Go d RX8 cX8_untell 3 (some .int) 0 [some (.inr 16), none, none] [] M (some (.inl (toldF (M 17)))) (okM M (untZ (M 17) (M 17 0))) := by
  have hW := hS.1
  have hn := hW.n
  have hn16 := hS.2.2.2
  have hb := toldF_b hW
  have K : ∀ i, 0 ≤ i → i ≤ M 17 0 → Go d RX8 cX8_untell 3 (some .int) 11 [some (.inr 16), some (.inl (toldF (M 17))), some (.inl i)] [] (setR (setR M 19 (M 17)) 17 (untZ (M 17) i)) (some (.inl (toldF (M 17)))) (okM M (untZ (M 17) (M 17 0))) := by
    refine up_ind 0 (M 17 0) _ (fun i h0 h1 ih => ?_)
    have hu := (untZ_W hW h0 h1).2
    refine Go_iload_n (pc := 11) dX8_untell_11 rfl rfl ?_
    refine Go_aload_n (pc := 12) dX8_untell_12 rfl (by decide) rfl ?_
    refine Go_getr (pc := 13) (r := 17) dX8_untell_13 fo_X8_7 (by decide) rfl rfl (by decide) ?_
    refine Go_iconst (pc := 16) dX8_untell_16 ?_
    refine Go_iaload (pc := 17) (z := (untZ (M 17) i) 0) dX8_untell_17 (by decide) rfl (by decide) (by decide) (rfl) ?_
    refine Go_icmp_ge (pc := 18) (tgt := 43) dX8_untell_18 (by decide) (by omega) (by omega) (fun c18 => ?_) (fun c18 => ?_)
    · refine Go_aload_n (pc := 43) dX8_untell_43 rfl (by decide) rfl ?_
      refine Go_iload_n (pc := 44) dX8_untell_44 rfl rfl ?_
      refine Go_invV (pc := 45) (y := yX8_acted) (avs := [.inl (toldF (M 17))]) (k := 16) (rest := []) (x := .inl (toldF (M 17))) (M1 := setR (setR (setR (setR M 19 (M 17)) 17 (untZ (M 17) i)) 18 (hisR (M 18) (M 17) (M 16 4))) 16 (updI (M 16) 4 (hisN (M 16 4)))) (d' := d - 1) dX8_untell_45 ln_X8_51 mo_X8_acted vo_X8_acted rfl (rc_16) rfl rfl (Nat.le_of_ble_eq_true rfl) (by omega) (Nat.le_of_ble_eq_true rfl) rfl (s_X8_acted (by omega) (by omega) (by omega) hn16) ?_
      exact Go_ireturn (pc := 48) dX8_untell_48 rfl rfl (by rw [show i = M 17 0 by omega]; rfl)
    · refine Go_aload_n (pc := 21) dX8_untell_21 rfl (by decide) rfl ?_
      refine Go_getr (pc := 22) (r := 17) dX8_untell_22 fo_X8_7 (by decide) rfl rfl (by decide) ?_
      refine Go_bipush (pc := 25) dX8_untell_25 (by decide) (by decide) ?_
      refine Go_bipush (pc := 27) dX8_untell_27 (by decide) (by decide) ?_
      refine Go_iload_n (pc := 29) dX8_untell_29 rfl rfl ?_
      refine Go_imul (pc := 30) dX8_untell_30 ?_
      refine Go_iadd (pc := 31) dX8_untell_31 ?_
      refine Go_bipush (pc := 32) dX8_untell_32 (by decide) (by decide) ?_
      refine Go_iadd (pc := 34) dX8_untell_34 ?_
      refine Go_iconst (pc := 35) dX8_untell_35 ?_
      refine Go_iastore (pc := 36) dX8_untell_36 (by decide) rfl (by omega) (by omega) ?_
      refine Go_M (M1 := setR (setR M 19 (M 17)) 17 (updI (untZ (M 17) i) ((7 + (7 * i)) + 6) (-1))) (setR_top _ _ _ _ _) ?_
      refine Go_iinc (pc := 37) (L' := [some (.inr 16), some (.inl (toldF (M 17))), some (.inl (i + 1))]) dX8_untell_37 rfl (by decide) rfl ?_
      refine Go_goto (pc := 40) (tgt := 11) dX8_untell_40 (by decide) ?_
      exact Go_M (by rw [untZ_s _ h0]) (ih (by omega))
  refine Go_aload_n (pc := 0) dX8_untell_0 rfl (by decide) rfl ?_
  refine Go_invVv (pc := 1) (y := yX8_keeps) (avs := []) (k := 16) (rest := [])  (M1 := setR M 19 (M 17)) (d' := d - 1) dX8_untell_1 ln_X8_48 mo_X8_keeps vo_X8_keeps rfl (rc_16) rfl rfl (Nat.le_of_ble_eq_true rfl) (by omega) (Nat.le_of_ble_eq_true rfl) rfl (s_X8_keeps (by omega) hW.o hS.2.1) ?_
  refine Go_aload_n (pc := 4) dX8_untell_4 rfl (by decide) rfl ?_
  refine Go_invV (pc := 5) (y := yX8_allTold) (avs := []) (k := 16) (rest := []) (x := .inl (toldF (M 17)))  (d' := d - 1) dX8_untell_5 ln_X8_103 mo_X8_allTold vo_X8_allTold rfl (rc_16) rfl rfl (Nat.le_of_ble_eq_true rfl) (by omega) (Nat.le_of_ble_eq_true rfl) rfl (s_X8_allTold (by omega) hW) ?_
  refine Go_istore_n (pc := 8) (L' := [some (.inr 16), some (.inl (toldF (M 17))), none]) dX8_untell_8 rfl (by decide) rfl ?_
  refine Go_iconst (pc := 9) dX8_untell_9 ?_
  refine Go_istore_n (pc := 10) (L' := [some (.inr 16), some (.inl (toldF (M 17))), some (.inl 0)]) dX8_untell_10 rfl (by decide) rfl ?_
  exact Go_M (setR_id2 M (by decide) _).symm (K 0 (by omega) (by omega))
theorem s_X8_set {d : Nat} (hd : 6 ≤ d) {a b : Int} {M : gMem} (hS : InvR M) (ha : inR a) (hb : inR b) : Go d RX8 cX8_set 4 (some .int) 0 [some (.inr 16), some (.inl a), some (.inl b), none] [] M (some (.inl ((setR' (M 17) a b).1))) (ref1 M (setR' (M 17) a b).2 (setR' (M 17) a b).1) := by
  have hW := hS.1
  have h5 := hW.df
  have h6 := hW.lw
  have hn16 := hS.2.2.2
  have eE : ¬ ((a = 0 ∧ 1 ≤ b ∧ b ≤ 9) ∨ (a = 1 ∧ 0 ≤ b ∧ b ≤ 36)) → setR' (M 17) a b = (-1000001, M 17) := fun h => by
    unfold setR'
    split
    · rw [if_neg (by omega)]
    · split
      · rw [if_neg (by omega)]
      · rfl
  have e0 : a = 0 → 1 ≤ b → b ≤ 9 → setR' (M 17) a b = (M 17 5, updI (M 17) 5 b) := fun h x y => by
    unfold setR'
    rw [if_pos h, if_pos ⟨x, y⟩]
  have e1 : a = 1 → 0 ≤ b → b ≤ 36 → setR' (M 17) a b = (M 17 6, updI (M 17) 6 b) := fun h x y => by
    unfold setR'
    rw [if_neg (by omega), if_pos h, if_pos ⟨x, y⟩]
  by_cases c : (a = 0 ∧ 1 ≤ b ∧ b ≤ 9) ∨ (a = 1 ∧ 0 ≤ b ∧ b ≤ 36)
  · rcases c with c | c
    · rw [e0 c.1 (by omega) (by omega)]
      obtain ⟨rfl, c2⟩ := c
      rw [ref1_p (show ¬ M 17 5 < 0 by omega)]
      refine Go_iload_n (pc := 0) dX8_set_0 rfl rfl ?_
      refine Go_iconst (pc := 1) dX8_set_1 ?_
      refine Go_iconst (pc := 2) dX8_set_2 ?_
      refine Go_invS (pc := 3) (y := yX8_in) (avs := [.inl 0, .inl 0, .inl 1]) (rest := []) (x := .inl (b2i (0 ≤ 0 ∧ 0 ≤ 1)))  (d' := d - 1) dX8_set_3 ln_X8_38 mo_X8_in so_X8_in rfl rfl rfl (Nat.le_of_ble_eq_true rfl) (by omega) (Nat.le_of_ble_eq_true rfl) rfl (s_X8_in (by omega) (by decide) (by decide) (by decide)) ?_
      refine Go_ifeqB (pc := 6) (tgt := 36) dX8_set_6 (by decide) (fun c6 => ?_) (fun c6 => ?_)
      · refine Go_ldc (pc := 36) (n := -1000001) rfl kc_X8_42 dX8_set_36 ?_
        first | omega | exact Go_ireturn (pc := 38) dX8_set_38 rfl rfl rfl
      · refine Go_iload_n (pc := 9) dX8_set_9 rfl rfl ?_
        refine Go_iload_n (pc := 10) dX8_set_10 rfl rfl ?_
        refine Go_if_ne (pc := 11) (tgt := 18) dX8_set_11 (by decide) (by decide) (fun q => absurd q (by decide)) (fun _ => ?_)
        refine Go_iconst (pc := 14) dX8_set_14 ?_
        refine Go_goto (pc := 15) (tgt := 19) dX8_set_15 (by decide) ?_
        refine Go_iload_n (pc := 19) dX8_set_19 rfl rfl ?_
        refine Go_if_ne (pc := 20) (tgt := 28) dX8_set_20 (by decide) (by decide) (fun q => absurd q (by decide)) (fun _ => ?_)
        refine Go_bipush (pc := 23) dX8_set_23 (by decide) (by decide) ?_
        refine Go_goto (pc := 25) (tgt := 30) dX8_set_25 (by decide) ?_
        refine Go_invS (pc := 30) (y := yX8_in) (avs := [.inl b, .inl 1, .inl 9]) (rest := []) (x := .inl (b2i (1 ≤ b ∧ b ≤ 9)))  (d' := d - 1) dX8_set_30 ln_X8_38 mo_X8_in so_X8_in rfl rfl rfl (Nat.le_of_ble_eq_true rfl) (by omega) (Nat.le_of_ble_eq_true rfl) rfl (s_X8_in (by omega) (by omega) (by decide) (by decide)) ?_
        refine Go_ifneB (pc := 33) (tgt := 39) dX8_set_33 (by decide) (fun c33 => ?_) (fun c33 => ?_)
        · refine Go_aload_n (pc := 39) dX8_set_39 rfl (by decide) rfl ?_
          refine Go_invVv (pc := 40) (y := yX8_keeps) (avs := []) (k := 16) (rest := [])  (M1 := setR M 19 (M 17)) (d' := d - 1) dX8_set_40 ln_X8_48 mo_X8_keeps vo_X8_keeps rfl (rc_16) rfl rfl (Nat.le_of_ble_eq_true rfl) (by omega) (Nat.le_of_ble_eq_true rfl) rfl (s_X8_keeps (by omega) hW.o hS.2.1) ?_
          refine Go_aload_n (pc := 43) dX8_set_43 rfl (by decide) rfl ?_
          refine Go_getr (pc := 44) (r := 17) dX8_set_44 fo_X8_7 (by decide) rfl rfl (by decide) ?_
          refine Go_iconst (pc := 47) dX8_set_47 ?_
          refine Go_iload_n (pc := 48) dX8_set_48 rfl rfl ?_
          refine Go_iadd (pc := 49) dX8_set_49 ?_
          refine Go_iaload (pc := 50) (z := M 17 5) dX8_set_50 (by decide) rfl (by decide) (by decide) (rfl) ?_
          refine Go_istore_n (pc := 51) (L' := [some (.inr 16), some (.inl 0), some (.inl b), some (.inl (M 17 5))]) dX8_set_51 rfl (by decide) rfl ?_
          refine Go_aload_n (pc := 52) dX8_set_52 rfl (by decide) rfl ?_
          refine Go_getr (pc := 53) (r := 17) dX8_set_53 fo_X8_7 (by decide) rfl rfl (by decide) ?_
          refine Go_iconst (pc := 56) dX8_set_56 ?_
          refine Go_iload_n (pc := 57) dX8_set_57 rfl rfl ?_
          refine Go_iadd (pc := 58) dX8_set_58 ?_
          refine Go_iload_n (pc := 59) dX8_set_59 rfl rfl ?_
          refine Go_iastore (pc := 60) dX8_set_60 (by decide) rfl (by decide) (by decide) ?_
          refine Go_M (M1 := setR (setR M 19 (M 17)) 17 (updI (M 17) 5 b)) rfl ?_
          refine Go_aload_n (pc := 61) dX8_set_61 rfl (by decide) rfl ?_
          refine Go_iload_n (pc := 62) dX8_set_62 rfl rfl ?_
          refine Go_invV (pc := 63) (y := yX8_acted) (avs := [.inl (M 17 5)]) (k := 16) (rest := []) (x := .inl (M 17 5)) (M1 := setR (setR (setR (setR M 19 (M 17)) 17 (updI (M 17) 5 b)) 18 (hisR (M 18) (M 17) (M 16 4))) 16 (updI (M 16) 4 (hisN (M 16 4)))) (d' := d - 1) dX8_set_63 ln_X8_51 mo_X8_acted vo_X8_acted rfl (rc_16) rfl rfl (Nat.le_of_ble_eq_true rfl) (by omega) (Nat.le_of_ble_eq_true rfl) rfl (s_X8_acted (by omega) (by omega) (by omega) hn16) ?_
          first | omega | exact Go_ireturn (pc := 66) dX8_set_66 rfl rfl rfl
        · refine Go_ldc (pc := 36) (n := -1000001) rfl kc_X8_42 dX8_set_36 ?_
          first | omega | exact Go_ireturn (pc := 38) dX8_set_38 rfl rfl rfl
    · rw [e1 c.1 (by omega) (by omega)]
      obtain ⟨rfl, c2⟩ := c
      rw [ref1_p (show ¬ M 17 6 < 0 by omega)]
      refine Go_iload_n (pc := 0) dX8_set_0 rfl rfl ?_
      refine Go_iconst (pc := 1) dX8_set_1 ?_
      refine Go_iconst (pc := 2) dX8_set_2 ?_
      refine Go_invS (pc := 3) (y := yX8_in) (avs := [.inl 1, .inl 0, .inl 1]) (rest := []) (x := .inl (b2i (0 ≤ 1 ∧ 1 ≤ 1)))  (d' := d - 1) dX8_set_3 ln_X8_38 mo_X8_in so_X8_in rfl rfl rfl (Nat.le_of_ble_eq_true rfl) (by omega) (Nat.le_of_ble_eq_true rfl) rfl (s_X8_in (by omega) (by decide) (by decide) (by decide)) ?_
      refine Go_ifeqB (pc := 6) (tgt := 36) dX8_set_6 (by decide) (fun c6 => ?_) (fun c6 => ?_)
      · refine Go_ldc (pc := 36) (n := -1000001) rfl kc_X8_42 dX8_set_36 ?_
        first | omega | exact Go_ireturn (pc := 38) dX8_set_38 rfl rfl rfl
      · refine Go_iload_n (pc := 9) dX8_set_9 rfl rfl ?_
        refine Go_iload_n (pc := 10) dX8_set_10 rfl rfl ?_
        refine Go_if_ne (pc := 11) (tgt := 18) dX8_set_11 (by decide) (by decide) (fun _ => ?_) (fun q => absurd q (by decide))
        refine Go_iconst (pc := 18) dX8_set_18 ?_
        refine Go_iload_n (pc := 19) dX8_set_19 rfl rfl ?_
        refine Go_if_ne (pc := 20) (tgt := 28) dX8_set_20 (by decide) (by decide) (fun _ => ?_) (fun q => absurd q (by decide))
        refine Go_bipush (pc := 28) dX8_set_28 (by decide) (by decide) ?_
        refine Go_invS (pc := 30) (y := yX8_in) (avs := [.inl b, .inl 0, .inl 36]) (rest := []) (x := .inl (b2i (0 ≤ b ∧ b ≤ 36)))  (d' := d - 1) dX8_set_30 ln_X8_38 mo_X8_in so_X8_in rfl rfl rfl (Nat.le_of_ble_eq_true rfl) (by omega) (Nat.le_of_ble_eq_true rfl) rfl (s_X8_in (by omega) (by omega) (by decide) (by decide)) ?_
        refine Go_ifneB (pc := 33) (tgt := 39) dX8_set_33 (by decide) (fun c33 => ?_) (fun c33 => ?_)
        · refine Go_aload_n (pc := 39) dX8_set_39 rfl (by decide) rfl ?_
          refine Go_invVv (pc := 40) (y := yX8_keeps) (avs := []) (k := 16) (rest := [])  (M1 := setR M 19 (M 17)) (d' := d - 1) dX8_set_40 ln_X8_48 mo_X8_keeps vo_X8_keeps rfl (rc_16) rfl rfl (Nat.le_of_ble_eq_true rfl) (by omega) (Nat.le_of_ble_eq_true rfl) rfl (s_X8_keeps (by omega) hW.o hS.2.1) ?_
          refine Go_aload_n (pc := 43) dX8_set_43 rfl (by decide) rfl ?_
          refine Go_getr (pc := 44) (r := 17) dX8_set_44 fo_X8_7 (by decide) rfl rfl (by decide) ?_
          refine Go_iconst (pc := 47) dX8_set_47 ?_
          refine Go_iload_n (pc := 48) dX8_set_48 rfl rfl ?_
          refine Go_iadd (pc := 49) dX8_set_49 ?_
          refine Go_iaload (pc := 50) (z := M 17 6) dX8_set_50 (by decide) rfl (by decide) (by decide) (rfl) ?_
          refine Go_istore_n (pc := 51) (L' := [some (.inr 16), some (.inl 1), some (.inl b), some (.inl (M 17 6))]) dX8_set_51 rfl (by decide) rfl ?_
          refine Go_aload_n (pc := 52) dX8_set_52 rfl (by decide) rfl ?_
          refine Go_getr (pc := 53) (r := 17) dX8_set_53 fo_X8_7 (by decide) rfl rfl (by decide) ?_
          refine Go_iconst (pc := 56) dX8_set_56 ?_
          refine Go_iload_n (pc := 57) dX8_set_57 rfl rfl ?_
          refine Go_iadd (pc := 58) dX8_set_58 ?_
          refine Go_iload_n (pc := 59) dX8_set_59 rfl rfl ?_
          refine Go_iastore (pc := 60) dX8_set_60 (by decide) rfl (by decide) (by decide) ?_
          refine Go_M (M1 := setR (setR M 19 (M 17)) 17 (updI (M 17) 6 b)) rfl ?_
          refine Go_aload_n (pc := 61) dX8_set_61 rfl (by decide) rfl ?_
          refine Go_iload_n (pc := 62) dX8_set_62 rfl rfl ?_
          refine Go_invV (pc := 63) (y := yX8_acted) (avs := [.inl (M 17 6)]) (k := 16) (rest := []) (x := .inl (M 17 6)) (M1 := setR (setR (setR (setR M 19 (M 17)) 17 (updI (M 17) 6 b)) 18 (hisR (M 18) (M 17) (M 16 4))) 16 (updI (M 16) 4 (hisN (M 16 4)))) (d' := d - 1) dX8_set_63 ln_X8_51 mo_X8_acted vo_X8_acted rfl (rc_16) rfl rfl (Nat.le_of_ble_eq_true rfl) (by omega) (Nat.le_of_ble_eq_true rfl) rfl (s_X8_acted (by omega) (by omega) (by omega) hn16) ?_
          first | omega | exact Go_ireturn (pc := 66) dX8_set_66 rfl rfl rfl
        · refine Go_ldc (pc := 36) (n := -1000001) rfl kc_X8_42 dX8_set_36 ?_
          first | omega | exact Go_ireturn (pc := 38) dX8_set_38 rfl rfl rfl
  · rw [eE c]
    refine Go_iload_n (pc := 0) dX8_set_0 rfl rfl ?_
    refine Go_iconst (pc := 1) dX8_set_1 ?_
    refine Go_iconst (pc := 2) dX8_set_2 ?_
    refine Go_invS (pc := 3) (y := yX8_in) (avs := [.inl a, .inl 0, .inl 1]) (rest := []) (x := .inl (b2i (0 ≤ a ∧ a ≤ 1)))  (d' := d - 1) dX8_set_3 ln_X8_38 mo_X8_in so_X8_in rfl rfl rfl (Nat.le_of_ble_eq_true rfl) (by omega) (Nat.le_of_ble_eq_true rfl) rfl (s_X8_in (by omega) (by omega) (by decide) (by decide)) ?_
    refine Go_ifeqB (pc := 6) (tgt := 36) dX8_set_6 (by decide) (fun c6 => ?_) (fun c6 => ?_)
    · refine Go_ldc (pc := 36) (n := -1000001) rfl kc_X8_42 dX8_set_36 ?_
      exact Go_ireturn (pc := 38) dX8_set_38 rfl rfl (ref1_n (show (-1000001 : Int) < 0 by decide))
    · refine Go_iload_n (pc := 9) dX8_set_9 rfl rfl ?_
      refine Go_iload_n (pc := 10) dX8_set_10 rfl rfl ?_
      refine Go_if_ne (pc := 11) (tgt := 18) dX8_set_11 (by decide) (by omega) (fun c11 => ?_) (fun c11 => ?_)
      · refine Go_iconst (pc := 18) dX8_set_18 ?_
        refine Go_iload_n (pc := 19) dX8_set_19 rfl rfl ?_
        refine Go_if_ne (pc := 20) (tgt := 28) dX8_set_20 (by decide) (by omega) (fun c20 => ?_) (fun c20 => ?_)
        · refine Go_bipush (pc := 28) dX8_set_28 (by decide) (by decide) ?_
          refine Go_invS (pc := 30) (y := yX8_in) (avs := [.inl b, .inl 0, .inl 36]) (rest := []) (x := .inl (b2i (0 ≤ b ∧ b ≤ 36)))  (d' := d - 1) dX8_set_30 ln_X8_38 mo_X8_in so_X8_in rfl rfl rfl (Nat.le_of_ble_eq_true rfl) (by omega) (Nat.le_of_ble_eq_true rfl) rfl (s_X8_in (by omega) (by omega) (by decide) (by decide)) ?_
          refine Go_ifneB (pc := 33) (tgt := 39) dX8_set_33 (by decide) (fun c33 => ?_) (fun c33 => ?_)
          · omega
          · refine Go_ldc (pc := 36) (n := -1000001) rfl kc_X8_42 dX8_set_36 ?_
            exact Go_ireturn (pc := 38) dX8_set_38 rfl rfl (ref1_n (show (-1000001 : Int) < 0 by decide))
        · refine Go_bipush (pc := 23) dX8_set_23 (by decide) (by decide) ?_
          refine Go_goto (pc := 25) (tgt := 30) dX8_set_25 (by decide) ?_
          refine Go_invS (pc := 30) (y := yX8_in) (avs := [.inl b, .inl 0, .inl 9]) (rest := []) (x := .inl (b2i (0 ≤ b ∧ b ≤ 9)))  (d' := d - 1) dX8_set_30 ln_X8_38 mo_X8_in so_X8_in rfl rfl rfl (Nat.le_of_ble_eq_true rfl) (by omega) (Nat.le_of_ble_eq_true rfl) rfl (s_X8_in (by omega) (by omega) (by decide) (by decide)) ?_
          refine Go_ifneB (pc := 33) (tgt := 39) dX8_set_33 (by decide) (fun c33a => ?_) (fun c33a => ?_)
          · omega
          · refine Go_ldc (pc := 36) (n := -1000001) rfl kc_X8_42 dX8_set_36 ?_
            exact Go_ireturn (pc := 38) dX8_set_38 rfl rfl (ref1_n (show (-1000001 : Int) < 0 by decide))
      · refine Go_iconst (pc := 14) dX8_set_14 ?_
        refine Go_goto (pc := 15) (tgt := 19) dX8_set_15 (by decide) ?_
        refine Go_iload_n (pc := 19) dX8_set_19 rfl rfl ?_
        refine Go_if_ne (pc := 20) (tgt := 28) dX8_set_20 (by decide) (by omega) (fun c20a => ?_) (fun c20a => ?_)
        · refine Go_bipush (pc := 28) dX8_set_28 (by decide) (by decide) ?_
          refine Go_invS (pc := 30) (y := yX8_in) (avs := [.inl b, .inl 1, .inl 36]) (rest := []) (x := .inl (b2i (1 ≤ b ∧ b ≤ 36)))  (d' := d - 1) dX8_set_30 ln_X8_38 mo_X8_in so_X8_in rfl rfl rfl (Nat.le_of_ble_eq_true rfl) (by omega) (Nat.le_of_ble_eq_true rfl) rfl (s_X8_in (by omega) (by omega) (by decide) (by decide)) ?_
          refine Go_ifneB (pc := 33) (tgt := 39) dX8_set_33 (by decide) (fun c33b => ?_) (fun c33b => ?_)
          · omega
          · refine Go_ldc (pc := 36) (n := -1000001) rfl kc_X8_42 dX8_set_36 ?_
            exact Go_ireturn (pc := 38) dX8_set_38 rfl rfl (ref1_n (show (-1000001 : Int) < 0 by decide))
        · refine Go_bipush (pc := 23) dX8_set_23 (by decide) (by decide) ?_
          refine Go_goto (pc := 25) (tgt := 30) dX8_set_25 (by decide) ?_
          refine Go_invS (pc := 30) (y := yX8_in) (avs := [.inl b, .inl 1, .inl 9]) (rest := []) (x := .inl (b2i (1 ≤ b ∧ b ≤ 9)))  (d' := d - 1) dX8_set_30 ln_X8_38 mo_X8_in so_X8_in rfl rfl rfl (Nat.le_of_ble_eq_true rfl) (by omega) (Nat.le_of_ble_eq_true rfl) rfl (s_X8_in (by omega) (by omega) (by decide) (by decide)) ?_
          refine Go_ifneB (pc := 33) (tgt := 39) dX8_set_33 (by decide) (fun c33c => ?_) (fun c33c => ?_)
          · omega
          · refine Go_ldc (pc := 36) (n := -1000001) rfl kc_X8_42 dX8_set_36 ?_
            exact Go_ireturn (pc := 38) dX8_set_38 rfl rfl (ref1_n (show (-1000001 : Int) < 0 by decide))
def undoR (M : gMem) : gMem := if M 16 4 = 0 then M else setR (setR M 16 (updI (M 16) 4 (M 16 4 - 1))) 17 (cpyI (M 18) (M 17) ((M 16 4 - 1) * 79) 0 79)
theorem s_X8_undo {d : Nat} (hd : 6 ≤ d) {M : gMem} (hS : InvR M) : Go d RX8 cX8_undo 2 (some .int) 0 [some (.inr 16), none] [] M (some (.inl (if M 16 4 = 0 then -1000002 else M 16 4 - 1))) (undoR M) := by
  have hn := hS.2.2.2
  have K : ¬ M 16 4 = 0 → ∀ i, 0 ≤ i → i ≤ 79 → Go d RX8 cX8_undo 2 (some .int) 22 [some (.inr 16), some (.inl i)] [] (setR (setR M 16 (updI (M 16) 4 (M 16 4 - 1))) 17 (cpyI (M 18) (M 17) ((M 16 4 - 1) * 79) 0 i)) (some (.inl (if M 16 4 = 0 then -1000002 else M 16 4 - 1))) (undoR M) := by
    intro hz
    refine up_ind 0 79 _ (fun i h0 h1 ih => ?_)
    refine Go_iload_n (pc := 22) dX8_undo_22 rfl rfl ?_
    refine Go_bipush (pc := 23) dX8_undo_23 (by decide) (by decide) ?_
    refine Go_icmp_ge (pc := 25) (tgt := 54) dX8_undo_25 (by decide) (by omega) (by decide) (fun c25 => ?_) (fun c25 => ?_)
    · refine Go_aload_n (pc := 54) dX8_undo_54 rfl (by decide) rfl ?_
      refine Go_geti (pc := 55) (z := M 16 4 - 1) dX8_undo_55 fo_X8_43 (by decide) rfl rfl (show (updI (M 16) 4 (M 16 4 - 1)) 4 = (M 16 4 - 1) from updI_s _ _ _) ?_
      exact Go_ireturn (pc := 58) dX8_undo_58 rfl (by rw [if_neg hz]) (by unfold undoR; rw [if_neg hz, show i = 79 by omega])
    · refine Go_aload_n (pc := 28) dX8_undo_28 rfl (by decide) rfl ?_
      refine Go_getr (pc := 29) (r := 17) dX8_undo_29 fo_X8_7 (by decide) rfl rfl (by decide) ?_
      refine Go_iload_n (pc := 32) dX8_undo_32 rfl rfl ?_
      refine Go_aload_n (pc := 33) dX8_undo_33 rfl (by decide) rfl ?_
      refine Go_getr (pc := 34) (r := 18) dX8_undo_34 fo_X8_13 (by decide) rfl rfl (by decide) ?_
      refine Go_bipush (pc := 37) dX8_undo_37 (by decide) (by decide) ?_
      refine Go_aload_n (pc := 39) dX8_undo_39 rfl (by decide) rfl ?_
      refine Go_geti (pc := 40) (z := M 16 4 - 1) dX8_undo_40 fo_X8_43 (by decide) rfl rfl (show (updI (M 16) 4 (M 16 4 - 1)) 4 = (M 16 4 - 1) from updI_s _ _ _) ?_
      refine Go_imul (pc := 43) dX8_undo_43 ?_
      refine Go_iload_n (pc := 44) dX8_undo_44 rfl rfl ?_
      refine Go_iadd (pc := 45) dX8_undo_45 ?_
      refine Go_iaload (pc := 46) (z := M 18 ((79 * (M 16 4 - 1)) + i)) dX8_undo_46 (by decide) rfl (by omega) (by omega) (rfl) ?_
      refine Go_iastore (pc := 47) dX8_undo_47 (by decide) rfl (by omega) (by omega) ?_
      refine Go_M (M1 := setR (setR M 16 (updI (M 16) 4 (M 16 4 - 1))) 17 (updI (cpyI (M 18) (M 17) ((M 16 4 - 1) * 79) 0 i) i (M 18 ((79 * (M 16 4 - 1)) + i)))) (setR_top _ _ _ _ _) ?_
      refine Go_iinc (pc := 48) (L' := [some (.inr 16), some (.inl (i + 1))]) dX8_undo_48 rfl (by decide) rfl ?_
      refine Go_goto (pc := 51) (tgt := 22) dX8_undo_51 (by decide) ?_
      have e := cpyI_s (M 18) (M 17) (sp := (M 16 4 - 1) * 79) (dp := 0) h0
      rw [show (0 : Int) + i = i by omega, show (M 16 4 - 1) * 79 + i = 79 * (M 16 4 - 1) + i by omega] at e
      exact Go_M (by rw [e]) (ih (by omega))
  refine Go_aload_n (pc := 0) dX8_undo_0 rfl (by decide) rfl ?_
  refine Go_geti (pc := 1) (z := M 16 4) dX8_undo_1 fo_X8_43 (by decide) rfl rfl (rfl) ?_
  refine Go_if_ne (pc := 4) (tgt := 10) dX8_undo_4 (by decide) (by omega) (fun c4 => ?_) (fun c4 => ?_)
  · refine Go_aload_n (pc := 10) dX8_undo_10 rfl (by decide) rfl ?_
    refine Go_dup (pc := 11) dX8_undo_11 ?_
    refine Go_geti (pc := 12) (z := M 16 4) dX8_undo_12 fo_X8_43 (by decide) rfl rfl (rfl) ?_
    refine Go_iconst (pc := 15) dX8_undo_15 ?_
    refine Go_isub (pc := 16) dX8_undo_16 ?_
    refine Go_puti (pc := 17) dX8_undo_17 fw_X8_43 (by decide) rfl rfl ?_
    refine Go_M (M1 := setR M 16 (updI (M 16) 4 ((M 16 4) - 1))) rfl ?_
    refine Go_iconst (pc := 20) dX8_undo_20 ?_
    refine Go_istore_n (pc := 21) (L' := [some (.inr 16), some (.inl 0)]) dX8_undo_21 rfl (by decide) rfl ?_
    exact Go_M (by rw [cpyI_0]; exact (setR_id2 M (by decide) _).symm) (K (by omega) 0 (by omega) (by omega))
  · refine Go_ldc (pc := 7) (n := -1000002) rfl kc_X8_83 dX8_undo_7 ?_
    exact Go_ireturn (pc := 9) dX8_undo_9 rfl (by rw [if_pos (by omega)]) (by unfold undoR; rw [if_pos (by omega)])
theorem s_X8_clearText {d : Nat} (hd : 6 ≤ d) {M : gMem} : Go d RX8 cX8_clearText 2 (some .int) 0 [some (.inr 16), none] [] M (some (.inl (M 16 6))) (setR M 16 (updI (M 16) 6 0)) := by
  refine Go_aload_n (pc := 0) dX8_clearText_0 rfl (by decide) rfl ?_
  refine Go_geti (pc := 1) (z := M 16 6) dX8_clearText_1 fo_X8_156 (by decide) rfl rfl (rfl) ?_
  refine Go_istore_n (pc := 4) (L' := [some (.inr 16), some (.inl (M 16 6))]) dX8_clearText_4 rfl (by decide) rfl ?_
  refine Go_aload_n (pc := 5) dX8_clearText_5 rfl (by decide) rfl ?_
  refine Go_iconst (pc := 6) dX8_clearText_6 ?_
  refine Go_puti (pc := 7) dX8_clearText_7 fw_X8_156 (by decide) rfl rfl ?_
  refine Go_M (M1 := setR M 16 (updI (M 16) 6 0)) rfl ?_
  refine Go_iload_n (pc := 10) dX8_clearText_10 rfl rfl ?_
  exact Go_ireturn (pc := 11) dX8_clearText_11 rfl (by first | rfl | (simp_all; done)) rfl
def typeR (M : gMem) (c : Int) : gMem := if c < 32 ∨ 126 < c ∨ 60 ≤ M 16 6 then M else setR (setR M 21 (updI (M 21) (M 16 6) c)) 16 (updI (M 16) 6 (M 16 6 + 1))
theorem s_X8_type {d : Nat} (hd : 6 ≤ d) {c : Int} {M : gMem} (hc : inR c) (hn : 0 ≤ M 16 6 ∧ M 16 6 ≤ 60) : Go d RX8 cX8_type 2 (some .int) 0 [some (.inr 16), some (.inl c)] [] M (some (.inl (typeA (M 16 6) c))) (typeR M c) := by
  refine Go_iload_n (pc := 0) dX8_type_0 rfl rfl ?_
  refine Go_bipush (pc := 1) dX8_type_1 (by decide) (by decide) ?_
  refine Go_bipush (pc := 3) dX8_type_3 (by decide) (by decide) ?_
  refine Go_invS (pc := 5) (y := yX8_in) (avs := [.inl c, .inl 32, .inl 126]) (rest := []) (x := .inl (b2i (32 ≤ c ∧ c ≤ 126)))  (d' := d - 1) dX8_type_5 ln_X8_38 mo_X8_in so_X8_in rfl rfl rfl (Nat.le_of_ble_eq_true rfl) (by omega) (Nat.le_of_ble_eq_true rfl) rfl (s_X8_in (by omega) (by omega) (by decide) (by decide)) ?_
  refine Go_ifneB (pc := 8) (tgt := 14) dX8_type_8 (by decide) (fun c8 => ?_) (fun c8 => ?_)
  · refine Go_aload_n (pc := 14) dX8_type_14 rfl (by decide) rfl ?_
    refine Go_geti (pc := 15) (z := M 16 6) dX8_type_15 fo_X8_156 (by decide) rfl rfl (rfl) ?_
    refine Go_bipush (pc := 18) dX8_type_18 (by decide) (by decide) ?_
    refine Go_icmp_ne (pc := 20) (tgt := 26) dX8_type_20 (by decide) (by omega) (by decide) (fun c20 => ?_) (fun c20 => ?_)
    · refine Go_aload_n (pc := 26) dX8_type_26 rfl (by decide) rfl ?_
      refine Go_getr (pc := 27) (r := 21) dX8_type_27 fo_X8_22 (by decide) rfl rfl (by decide) ?_
      refine Go_aload_n (pc := 30) dX8_type_30 rfl (by decide) rfl ?_
      refine Go_geti (pc := 31) (z := M 16 6) dX8_type_31 fo_X8_156 (by decide) rfl rfl (rfl) ?_
      refine Go_iload_n (pc := 34) dX8_type_34 rfl rfl ?_
      refine Go_i2c (pc := 35) dX8_type_35 (by omega) (by omega) ?_
      refine Go_castore (pc := 36) dX8_type_36 (by decide) rfl (by omega) (by omega) (by omega) (by omega) ?_
      refine Go_M (M1 := setR M 21 (updI (M 21) (M 16 6) c)) rfl ?_
      refine Go_aload_n (pc := 37) dX8_type_37 rfl (by decide) rfl ?_
      refine Go_dup (pc := 38) dX8_type_38 ?_
      refine Go_geti (pc := 39) (z := M 16 6) dX8_type_39 fo_X8_156 (by decide) rfl rfl (rfl) ?_
      refine Go_iconst (pc := 42) dX8_type_42 ?_
      refine Go_iadd (pc := 43) dX8_type_43 ?_
      refine Go_puti (pc := 44) dX8_type_44 fw_X8_156 (by decide) rfl rfl ?_
      refine Go_M (M1 := setR (setR M 21 (updI (M 21) (M 16 6) c)) 16 (updI (M 16) 6 ((M 16 6) + 1))) rfl ?_
      refine Go_aload_n (pc := 47) dX8_type_47 rfl (by decide) rfl ?_
      refine Go_geti (pc := 48) (z := (M 16 6) + 1) dX8_type_48 fo_X8_156 (by decide) rfl rfl (show (updI (M 16) 6 ((M 16 6) + 1)) 6 = ((M 16 6) + 1) from updI_s _ _ _) ?_
      exact Go_ireturn (pc := 51) dX8_type_51 rfl (by unfold typeA; (repeat (first | rw [if_pos (by omega)] | rw [if_neg (by omega)])); first | done | rfl | rw [updI_s]) (by unfold typeR; first | rw [if_pos (by omega)] | rw [if_neg (by omega)])
    · refine Go_ldc (pc := 23) (n := -1000003) rfl kc_X8_47 dX8_type_23 ?_
      exact Go_ireturn (pc := 25) dX8_type_25 rfl (by unfold typeA; (repeat (first | rw [if_pos (by omega)] | rw [if_neg (by omega)])); first | done | rfl | rw [updI_s]) (by unfold typeR; first | rw [if_pos (by omega)] | rw [if_neg (by omega)])
  · refine Go_ldc (pc := 11) (n := -1000001) rfl kc_X8_42 dX8_type_11 ?_
    exact Go_ireturn (pc := 13) dX8_type_13 rfl (by unfold typeA; (repeat (first | rw [if_pos (by omega)] | rw [if_neg (by omega)])); first | done | rfl | rw [updI_s]) (by unfold typeR; first | rw [if_pos (by omega)] | rw [if_neg (by omega)])
