/-! the class: its small changes -/
theorem iRe1 : inR (-1000001) := ⟨by decide, by decide⟩
theorem iRe2 : inR (-1000002) := ⟨by decide, by decide⟩
theorem iRe3 : inR (-1000003) := ⟨by decide, by decide⟩
theorem shadeR_r {f : Int → Int} (hW : Wf f) (h w : Int) : inR (shadeR f h w).1 := by
  have n := hW.n
  unfold shadeR
  split
  · first | exact iRe1 | exact iRe2 | exact iRe3
  · split
    · first | exact iRe1 | exact iRe2 | exact iRe3
    · show inR (f 0); omega
theorem stringR_r {f : Int → Int} (hW : Wf f) (h w : Int) : inR (stringR f h w).1 := by
  have n := hW.t
  unfold stringR
  split
  · first | exact iRe1 | exact iRe2 | exact iRe3
  · split
    · first | exact iRe1 | exact iRe2 | exact iRe3
    · show inR (f 1); omega
theorem standF_b {f : Int → Int} (hW : Wf f) : 0 ≤ standF f ∧ standF f ≤ 8 := by
  have n := hW.n
  have h : 0 ≤ standF f ∧ standF f ≤ f 0 := sumZ_b01 n.1 (fun i h0 h1 => b2i_b _)
  omega
theorem toldF_b {f : Int → Int} (hW : Wf f) : 0 ≤ toldF f ∧ toldF f ≤ 8 := by
  have n := hW.n
  have h : 0 ≤ toldF f ∧ toldF f ≤ f 0 := sumZ_b01 n.1 (fun i h0 h1 => b2i_b _)
  omega
theorem tellR_r {f : Int → Int} (hW : Wf f) (k h : Int) : inR (tellR f k h).1 := by
  have hw := tellR_W hW k h
  unfold tellR at hw ⊢
  split
  · first | exact iRe1 | exact iRe2 | exact iRe3
  · next c =>
    rw [if_neg c] at hw
    have hs : 0 ≤ standF (updI f (7 + 7 * k + 6) h) ∧ standF (updI f (7 + 7 * k + 6) h) ≤ 8 := standF_b hw
    show inR (standF (updI f (7 + 7 * k + 6) h))
    exact ⟨by omega, by omega⟩
theorem setR'_r {f : Int → Int} (hW : Wf f) (c z : Int) : inR (setR' f c z).1 := by
  have h5 := hW.df
  have h6 := hW.lw
  unfold setR'
  split
  · split
    · show inR (f 5); omega
    · first | exact iRe1 | exact iRe2 | exact iRe3
  · split
    · split
      · show inR (f 6); omega
      · first | exact iRe1 | exact iRe2 | exact iRe3
    · first | exact iRe1 | exact iRe2 | exact iRe3
theorem untieR_r {f : Int → Int} (hW : Wf f) (k : Int) : inR (untieR f k).1 := by
  have h5 := hW.kn k
  unfold untieR
  split
  · first | exact iRe1 | exact iRe2 | exact iRe3
  · split
    · first | exact iRe1 | exact iRe2 | exact iRe3
    · show inR (sc f k 3 - 1); omega
/-- behind an answer: with an error nothing; else the history keeps the state, and the trial is the state -/
def setl (M : gMem) (a : Int) : gMem := if a < 0 then M else setR (setR (setR M 6 (hisR (M 6) (M 2) (M 5 1))) 5 (updI (M 5) 1 (hisN (M 5 1)))) 2 (M 4)
theorem s_X7_settle {d : Nat} (hd : 3 ≤ d) {a : Int} {M : gMem} (ha : inR a) (hn : 0 ≤ M 5 1 ∧ M 5 1 ≤ 4) (h2 : Oz (M 2)) (h4 : Oz (M 4)) : Go d RX7 cX7_settle 2 (some .int) 0 [some (.inr 0), some (.inl a)] [] M (some (.inl a)) (setl M a) := by
  refine Go_iload_n (pc := 0) dX7_settle_0 rfl rfl ?_
  refine Go_invS (pc := 1) (y := yX7_isError) (avs := [.inl a]) (rest := []) (x := .inl (b2i (a < 0)))  (d' := d - 1) dX7_settle_1 ln_X7_67 mo_X7_isError so_X7_isError rfl rfl rfl (Nat.le_of_ble_eq_true rfl) (by omega) (Nat.le_of_ble_eq_true rfl) rfl (s_X7_isError (by omega) (by omega)) ?_
  refine Go_ifneB (pc := 4) (tgt := 29) dX7_settle_4 (by decide) (fun c4 => ?_) (fun c4 => ?_)
  · refine Go_iload_n (pc := 29) dX7_settle_29 rfl rfl ?_
    exact Go_ireturn (pc := 30) dX7_settle_30 rfl rfl (by unfold setl; first | rw [if_pos (by omega)] | rw [if_neg (by omega)])
  · refine Go_aload_n (pc := 7) dX7_settle_7 rfl (by decide) rfl ?_
    refine Go_getr (pc := 8) (r := 5) dX7_settle_8 fo_X7_22 (by decide) rfl rfl (by decide) ?_
    refine Go_aload_n (pc := 11) dX7_settle_11 rfl (by decide) rfl ?_
    refine Go_getr (pc := 12) (r := 1) dX7_settle_12 fo_X7_10 (by decide) rfl rfl (by decide) ?_
    refine Go_invVv (pc := 15) (y := yX0_keep) (avs := [.inr 1]) (k := 5) (rest := [])  (M1 := setR (setR M 6 (hisR (M 6) (M 2) (M 5 1))) 5 (updI (M 5) 1 (hisN (M 5 1)))) (d' := d - 1) dX7_settle_15 ln_X7_202 mo_X0_keep vo_X0_keep rfl (rc_5) rfl rfl (Nat.le_of_ble_eq_true rfl) (by omega) (Nat.le_of_ble_eq_true rfl) rfl (s_X0_keep (by omega) hn) ?_
    refine Go_aload_n (pc := 18) dX7_settle_18 rfl (by decide) rfl ?_
    refine Go_getr (pc := 19) (r := 1) dX7_settle_19 fo_X7_10 (by decide) rfl rfl (by decide) ?_
    refine Go_aload_n (pc := 22) dX7_settle_22 rfl (by decide) rfl ?_
    refine Go_getr (pc := 23) (r := 3) dX7_settle_23 fo_X7_16 (by decide) rfl rfl (by decide) ?_
    refine Go_invVv (pc := 26) (y := yX1_copyFrom) (avs := [.inr 3]) (k := 1) (rest := [])  (M1 := setR (setR (setR M 6 (hisR (M 6) (M 2) (M 5 1))) 5 (updI (M 5) 1 (hisN (M 5 1)))) 2 (M 4)) (d' := d - 1) dX7_settle_26 ln_X7_199 mo_X1_copyFrom vo_X1_copyFrom rfl (rc_1) rfl rfl (Nat.le_of_ble_eq_true rfl) (by omega) (Nat.le_of_ble_eq_true rfl) rfl (s_X1_copyFrom_o (by omega) (by decide) (by decide) ⟨h4, h2⟩) ?_
    refine Go_iload_n (pc := 29) dX7_settle_29 rfl rfl ?_
    exact Go_ireturn (pc := 30) dX7_settle_30 rfl rfl (by unfold setl; first | rw [if_pos (by omega)] | rw [if_neg (by omega)])
theorem s_X7_freshTrial {d : Nat} (hd : 2 ≤ d) {M : gMem} (h2 : Oz (M 2)) (h4 : Oz (M 4)) : Go d RX7 cX7_freshTrial 1 (some (.object "StringShades$House")) 0 [some (.inr 0)] [] M (some (.inr 3)) (setR M 4 (M 2)) := by
  refine Go_aload_n (pc := 0) dX7_freshTrial_0 rfl (by decide) rfl ?_
  refine Go_getr (pc := 1) (r := 3) dX7_freshTrial_1 fo_X7_16 (by decide) rfl rfl (by decide) ?_
  refine Go_aload_n (pc := 4) dX7_freshTrial_4 rfl (by decide) rfl ?_
  refine Go_getr (pc := 5) (r := 1) dX7_freshTrial_5 fo_X7_10 (by decide) rfl rfl (by decide) ?_
  refine Go_invVv (pc := 8) (y := yX1_copyFrom) (avs := [.inr 1]) (k := 3) (rest := [])  (M1 := setR M 4 (M 2)) (d' := d - 1) dX7_freshTrial_8 ln_X7_199 mo_X1_copyFrom vo_X1_copyFrom rfl (rc_3) rfl rfl (Nat.le_of_ble_eq_true rfl) (by omega) (Nat.le_of_ble_eq_true rfl) rfl (s_X1_copyFrom_o (by omega) (by decide) (by decide) ⟨h2, h4⟩) ?_
  refine Go_aload_n (pc := 11) dX7_freshTrial_11 rfl (by decide) rfl ?_
  refine Go_getr (pc := 12) (r := 3) dX7_freshTrial_12 fo_X7_16 (by decide) rfl rfl (by decide) ?_
  exact Go_areturn (pc := 15) dX7_freshTrial_15 rfl (by decide) rfl rfl
def InvS (M : gMem) : Prop := Wf (M 2) ∧ Oz (M 4) ∧ (0 ≤ M 5 1 ∧ M 5 1 ≤ 4)
theorem s_X7_shade {d : Nat} (hd : 6 ≤ d) {a b : Int} {M : gMem} (hS : InvS M) (ha : inR a) (hb : inR b) : Go d RX7 cX7_shade 3 (some .int) 0 [some (.inr 0), some (.inl a), some (.inl b)] [] M (some (.inl ((shadeR (M 2) a b).1))) (setl (setR M 4 (shadeR (M 2) a b).2) (shadeR (M 2) a b).1) := by
  refine Go_aload_n (pc := 0) dX7_shade_0 rfl (by decide) rfl ?_
  refine Go_aload_n (pc := 1) dX7_shade_1 rfl (by decide) rfl ?_
  refine Go_invV (pc := 2) (y := yX7_freshTrial) (avs := []) (k := 0) (rest := [.inr 0]) (x := .inr 3) (M1 := setR M 4 (M 2)) (d' := d - 1) dX7_shade_2 ln_X7_47 mo_X7_freshTrial vo_X7_freshTrial rfl (rc_0) rfl rfl (Nat.le_of_ble_eq_true rfl) (by omega) (Nat.le_of_ble_eq_true rfl) rfl (s_X7_freshTrial (by omega) hS.1.o hS.2.1) ?_
  refine Go_iload_n (pc := 5) dX7_shade_5 rfl rfl ?_
  refine Go_iload_n (pc := 6) dX7_shade_6 rfl rfl ?_
  refine Go_invS (pc := 7) (y := yX6_addShade) (avs := [.inr 3, .inl a, .inl b]) (rest := [.inr 0]) (x := .inl ((shadeR (M 2) a b).1))  (d' := d - 1) dX7_shade_7 ln_X7_51 mo_X6_addShade so_X6_addShade rfl rfl rfl (Nat.le_of_ble_eq_true rfl) (by omega) (Nat.le_of_ble_eq_true rfl) rfl (s_X6_addShade (by omega) hS.1 (by omega) (by omega)) ?_
  refine Go_M (M1 := setR M 4 ((shadeR (M 2) a b).2)) ((setR_tw _ _ _ _).trans rfl) ?_
  refine Go_invV (pc := 10) (y := yX7_settle) (avs := [.inl ((shadeR (M 2) a b).1)]) (k := 0) (rest := []) (x := .inl ((shadeR (M 2) a b).1)) (M1 := (setl (setR M 4 ((shadeR (M 2) a b).2)) ((shadeR (M 2) a b).1))) (d' := d - 1) dX7_shade_10 ln_X7_57 mo_X7_settle vo_X7_settle rfl (rc_0) rfl rfl (Nat.le_of_ble_eq_true rfl) (by omega) (Nat.le_of_ble_eq_true rfl) rfl (s_X7_settle (by omega) (shadeR_r hS.1 _ _) hS.2.2 hS.1.o (shadeR_W hS.1 _ _).o) ?_
  exact Go_ireturn (pc := 13) dX7_shade_13 rfl (by first | rfl | (simp_all; done)) rfl
theorem s_X7_string {d : Nat} (hd : 6 ≤ d) {a b : Int} {M : gMem} (hS : InvS M) (ha : inR a) (hb : inR b) : Go d RX7 cX7_string 3 (some .int) 0 [some (.inr 0), some (.inl a), some (.inl b)] [] M (some (.inl ((stringR (M 2) a b).1))) (setl (setR M 4 (stringR (M 2) a b).2) (stringR (M 2) a b).1) := by
  refine Go_aload_n (pc := 0) dX7_string_0 rfl (by decide) rfl ?_
  refine Go_aload_n (pc := 1) dX7_string_1 rfl (by decide) rfl ?_
  refine Go_invV (pc := 2) (y := yX7_freshTrial) (avs := []) (k := 0) (rest := [.inr 0]) (x := .inr 3) (M1 := setR M 4 (M 2)) (d' := d - 1) dX7_string_2 ln_X7_47 mo_X7_freshTrial vo_X7_freshTrial rfl (rc_0) rfl rfl (Nat.le_of_ble_eq_true rfl) (by omega) (Nat.le_of_ble_eq_true rfl) rfl (s_X7_freshTrial (by omega) hS.1.o hS.2.1) ?_
  refine Go_iload_n (pc := 5) dX7_string_5 rfl rfl ?_
  refine Go_iload_n (pc := 6) dX7_string_6 rfl rfl ?_
  refine Go_invS (pc := 7) (y := yX6_addString) (avs := [.inr 3, .inl a, .inl b]) (rest := [.inr 0]) (x := .inl ((stringR (M 2) a b).1))  (d' := d - 1) dX7_string_7 ln_X7_61 mo_X6_addString so_X6_addString rfl rfl rfl (Nat.le_of_ble_eq_true rfl) (by omega) (Nat.le_of_ble_eq_true rfl) rfl (s_X6_addString (by omega) hS.1 (by omega) (by omega)) ?_
  refine Go_M (M1 := setR M 4 ((stringR (M 2) a b).2)) ((setR_tw _ _ _ _).trans rfl) ?_
  refine Go_invV (pc := 10) (y := yX7_settle) (avs := [.inl ((stringR (M 2) a b).1)]) (k := 0) (rest := []) (x := .inl ((stringR (M 2) a b).1)) (M1 := (setl (setR M 4 ((stringR (M 2) a b).2)) ((stringR (M 2) a b).1))) (d' := d - 1) dX7_string_10 ln_X7_57 mo_X7_settle vo_X7_settle rfl (rc_0) rfl rfl (Nat.le_of_ble_eq_true rfl) (by omega) (Nat.le_of_ble_eq_true rfl) rfl (s_X7_settle (by omega) (stringR_r hS.1 _ _) hS.2.2 hS.1.o (stringR_W hS.1 _ _).o) ?_
  exact Go_ireturn (pc := 13) dX7_string_13 rfl (by first | rfl | (simp_all; done)) rfl
theorem s_X7_tell {d : Nat} (hd : 6 ≤ d) {a b : Int} {M : gMem} (hS : InvS M) (ha : inR a) (hb : inR b) : Go d RX7 cX7_tell 3 (some .int) 0 [some (.inr 0), some (.inl a), some (.inl b)] [] M (some (.inl ((tellR (M 2) a b).1))) (setl (setR M 4 (tellR (M 2) a b).2) (tellR (M 2) a b).1) := by
  refine Go_aload_n (pc := 0) dX7_tell_0 rfl (by decide) rfl ?_
  refine Go_aload_n (pc := 1) dX7_tell_1 rfl (by decide) rfl ?_
  refine Go_invV (pc := 2) (y := yX7_freshTrial) (avs := []) (k := 0) (rest := [.inr 0]) (x := .inr 3) (M1 := setR M 4 (M 2)) (d' := d - 1) dX7_tell_2 ln_X7_47 mo_X7_freshTrial vo_X7_freshTrial rfl (rc_0) rfl rfl (Nat.le_of_ble_eq_true rfl) (by omega) (Nat.le_of_ble_eq_true rfl) rfl (s_X7_freshTrial (by omega) hS.1.o hS.2.1) ?_
  refine Go_iload_n (pc := 5) dX7_tell_5 rfl rfl ?_
  refine Go_iload_n (pc := 6) dX7_tell_6 rfl rfl ?_
  refine Go_invS (pc := 7) (y := yX6_tellHeight) (avs := [.inr 3, .inl a, .inl b]) (rest := [.inr 0]) (x := .inl ((tellR (M 2) a b).1))  (d' := d - 1) dX7_tell_7 ln_X7_79 mo_X6_tellHeight so_X6_tellHeight rfl rfl rfl (Nat.le_of_ble_eq_true rfl) (by omega) (Nat.le_of_ble_eq_true rfl) rfl (s_X6_tellHeight (by omega) hS.1 (by omega) (by omega)) ?_
  refine Go_M (M1 := setR M 4 ((tellR (M 2) a b).2)) ((setR_tw _ _ _ _).trans rfl) ?_
  refine Go_invV (pc := 10) (y := yX7_settle) (avs := [.inl ((tellR (M 2) a b).1)]) (k := 0) (rest := []) (x := .inl ((tellR (M 2) a b).1)) (M1 := (setl (setR M 4 ((tellR (M 2) a b).2)) ((tellR (M 2) a b).1))) (d' := d - 1) dX7_tell_10 ln_X7_57 mo_X7_settle vo_X7_settle rfl (rc_0) rfl rfl (Nat.le_of_ble_eq_true rfl) (by omega) (Nat.le_of_ble_eq_true rfl) rfl (s_X7_settle (by omega) (tellR_r hS.1 _ _) hS.2.2 hS.1.o (tellR_W hS.1 _ _).o) ?_
  exact Go_ireturn (pc := 13) dX7_tell_13 rfl (by first | rfl | (simp_all; done)) rfl
theorem s_X7_set {d : Nat} (hd : 6 ≤ d) {a b : Int} {M : gMem} (hS : InvS M) (ha : inR a) (hb : inR b) : Go d RX7 cX7_set 3 (some .int) 0 [some (.inr 0), some (.inl a), some (.inl b)] [] M (some (.inl ((setR' (M 2) a b).1))) (setl (setR M 4 (setR' (M 2) a b).2) (setR' (M 2) a b).1) := by
  refine Go_aload_n (pc := 0) dX7_set_0 rfl (by decide) rfl ?_
  refine Go_aload_n (pc := 1) dX7_set_1 rfl (by decide) rfl ?_
  refine Go_invV (pc := 2) (y := yX7_freshTrial) (avs := []) (k := 0) (rest := [.inr 0]) (x := .inr 3) (M1 := setR M 4 (M 2)) (d' := d - 1) dX7_set_2 ln_X7_47 mo_X7_freshTrial vo_X7_freshTrial rfl (rc_0) rfl rfl (Nat.le_of_ble_eq_true rfl) (by omega) (Nat.le_of_ble_eq_true rfl) rfl (s_X7_freshTrial (by omega) hS.1.o hS.2.1) ?_
  refine Go_iload_n (pc := 5) dX7_set_5 rfl rfl ?_
  refine Go_iload_n (pc := 6) dX7_set_6 rfl rfl ?_
  refine Go_invS (pc := 7) (y := yX6_changeSetting) (avs := [.inr 3, .inl a, .inl b]) (rest := [.inr 0]) (x := .inl ((setR' (M 2) a b).1))  (d' := d - 1) dX7_set_7 ln_X7_88 mo_X6_changeSetting so_X6_changeSetting rfl rfl rfl (Nat.le_of_ble_eq_true rfl) (by omega) (Nat.le_of_ble_eq_true rfl) rfl (s_X6_changeSetting (by omega) hS.1 (by omega) (by omega)) ?_
  refine Go_M (M1 := setR M 4 ((setR' (M 2) a b).2)) ((setR_tw _ _ _ _).trans rfl) ?_
  refine Go_invV (pc := 10) (y := yX7_settle) (avs := [.inl ((setR' (M 2) a b).1)]) (k := 0) (rest := []) (x := .inl ((setR' (M 2) a b).1)) (M1 := (setl (setR M 4 ((setR' (M 2) a b).2)) ((setR' (M 2) a b).1))) (d' := d - 1) dX7_set_10 ln_X7_57 mo_X7_settle vo_X7_settle rfl (rc_0) rfl rfl (Nat.le_of_ble_eq_true rfl) (by omega) (Nat.le_of_ble_eq_true rfl) rfl (s_X7_settle (by omega) (setR'_r hS.1 _ _) hS.2.2 hS.1.o (setR'_W hS.1 _ _).o) ?_
  exact Go_ireturn (pc := 13) dX7_set_13 rfl (by first | rfl | (simp_all; done)) rfl
theorem s_X7_untie {d : Nat} (hd : 6 ≤ d) {a : Int} {M : gMem} (hS : InvS M) (ha : inR a) : Go d RX7 cX7_untie 2 (some .int) 0 [some (.inr 0), some (.inl a)] [] M (some (.inl ((untieR (M 2) a).1))) (setl (setR M 4 (untieR (M 2) a).2) (untieR (M 2) a).1) := by
  refine Go_aload_n (pc := 0) dX7_untie_0 rfl (by decide) rfl ?_
  refine Go_aload_n (pc := 1) dX7_untie_1 rfl (by decide) rfl ?_
  refine Go_invV (pc := 2) (y := yX7_freshTrial) (avs := []) (k := 0) (rest := [.inr 0]) (x := .inr 3) (M1 := setR M 4 (M 2)) (d' := d - 1) dX7_untie_2 ln_X7_47 mo_X7_freshTrial vo_X7_freshTrial rfl (rc_0) rfl rfl (Nat.le_of_ble_eq_true rfl) (by omega) (Nat.le_of_ble_eq_true rfl) rfl (s_X7_freshTrial (by omega) hS.1.o hS.2.1) ?_
  refine Go_iload_n (pc := 5) dX7_untie_5 rfl rfl ?_
  refine Go_invS (pc := 6) (y := yX6_untieOnce) (avs := [.inr 3, .inl a]) (rest := [.inr 0]) (x := .inl ((untieR (M 2) a).1))  (d' := d - 1) dX7_untie_6 ln_X7_75 mo_X6_untieOnce so_X6_untieOnce rfl rfl rfl (Nat.le_of_ble_eq_true rfl) (by omega) (Nat.le_of_ble_eq_true rfl) rfl (s_X6_untieOnce (by omega) hS.1 (by omega)) ?_
  refine Go_M (M1 := setR M 4 ((untieR (M 2) a).2)) ((setR_tw _ _ _ _).trans rfl) ?_
  refine Go_invV (pc := 9) (y := yX7_settle) (avs := [.inl ((untieR (M 2) a).1)]) (k := 0) (rest := []) (x := .inl ((untieR (M 2) a).1)) (M1 := (setl (setR M 4 ((untieR (M 2) a).2)) ((untieR (M 2) a).1))) (d' := d - 1) dX7_untie_9 ln_X7_57 mo_X7_settle vo_X7_settle rfl (rc_0) rfl rfl (Nat.le_of_ble_eq_true rfl) (by omega) (Nat.le_of_ble_eq_true rfl) rfl (s_X7_settle (by omega) (untieR_r hS.1 _) hS.2.2 hS.1.o (untieR_W hS.1 _).o) ?_
  exact Go_ireturn (pc := 12) dX7_untie_12 rfl (by first | rfl | (simp_all; done)) rfl
theorem s_X7_untell {d : Nat} (hd : 6 ≤ d) {M : gMem} (hS : InvS M) : Go d RX7 cX7_untell 1 (some .int) 0 [some (.inr 0)] [] M (some (.inl (toldF (M 2)))) (setl (setR M 4 (untZ (M 2) (M 2 0))) (toldF (M 2))) := by
  have hb := toldF_b hS.1
  have hn := hS.1.n
  refine Go_aload_n (pc := 0) dX7_untell_0 rfl (by decide) rfl ?_
  refine Go_aload_n (pc := 1) dX7_untell_1 rfl (by decide) rfl ?_
  refine Go_invV (pc := 2) (y := yX7_freshTrial) (avs := []) (k := 0) (rest := [.inr 0]) (x := .inr 3) (M1 := setR M 4 (M 2)) (d' := d - 1) dX7_untell_2 ln_X7_47 mo_X7_freshTrial vo_X7_freshTrial rfl (rc_0) rfl rfl (Nat.le_of_ble_eq_true rfl) (by omega) (Nat.le_of_ble_eq_true rfl) rfl (s_X7_freshTrial (by omega) hS.1.o hS.2.1) ?_
  refine Go_invS (pc := 5) (y := yX6_forgetTold) (avs := [.inr 3]) (rest := [.inr 0]) (x := .inl (toldF (M 2)))  (d' := d - 1) dX7_untell_5 ln_X7_82 mo_X6_forgetTold so_X6_forgetTold rfl rfl rfl (Nat.le_of_ble_eq_true rfl) (by omega) (Nat.le_of_ble_eq_true rfl) rfl (s_X6_forgetTold (by omega) hS.1) ?_
  refine Go_M (M1 := setR M 4 (untZ (M 2) ((M 2) 0))) ((setR_tw _ _ _ _).trans rfl) ?_
  refine Go_invV (pc := 8) (y := yX7_settle) (avs := [.inl (toldF (M 2))]) (k := 0) (rest := []) (x := .inl (toldF (M 2))) (M1 := (setl (setR M 4 (untZ (M 2) ((M 2) 0))) (toldF (M 2)))) (d' := d - 1) dX7_untell_8 ln_X7_57 mo_X7_settle vo_X7_settle rfl (rc_0) rfl rfl (Nat.le_of_ble_eq_true rfl) (by omega) (Nat.le_of_ble_eq_true rfl) rfl (s_X7_settle (by omega) (by omega) hS.2.2 hS.1.o (untZ_W hS.1 hn.1 (Int.le_refl _)).1.o) ?_
  exact Go_ireturn (pc := 11) dX7_untell_11 rfl (by first | rfl | (simp_all; done)) rfl
def undoM (M : gMem) : gMem := if M 5 1 = 0 then M else setR (setR M 5 (updI (M 5) 1 (M 5 1 - 1))) 2 (cpyI (M 6) (M 2) ((M 5 1 - 1) * 79) 0 79)
theorem s_X7_undo {d : Nat} (hd : 6 ≤ d) {M : gMem} (hS : InvS M) : Go d RX7 cX7_undo 1 (some .int) 0 [some (.inr 0)] [] M (some (.inl (if M 5 1 = 0 then -1000002 else M 5 1 - 1))) (undoM M) := by
  have hn := hS.2.2
  refine Go_aload_n (pc := 0) dX7_undo_0 rfl (by decide) rfl ?_
  refine Go_getr (pc := 1) (r := 5) dX7_undo_1 fo_X7_22 (by decide) rfl rfl (by decide) ?_
  refine Go_invV (pc := 4) (y := yX0_states) (avs := []) (k := 5) (rest := []) (x := .inl (M 5 1))  (d' := d - 1) dX7_undo_4 ln_X7_164 mo_X0_states vo_X0_states rfl (rc_5) rfl rfl (Nat.le_of_ble_eq_true rfl) (by omega) (Nat.le_of_ble_eq_true rfl) rfl (s_X0_states (by omega)) ?_
  refine Go_if_ne (pc := 7) (tgt := 13) dX7_undo_7 (by decide) (by omega) (fun c7 => ?_) (fun c7 => ?_)
  · refine Go_aload_n (pc := 13) dX7_undo_13 rfl (by decide) rfl ?_
    refine Go_getr (pc := 14) (r := 5) dX7_undo_14 fo_X7_22 (by decide) rfl rfl (by decide) ?_
    refine Go_aload_n (pc := 17) dX7_undo_17 rfl (by decide) rfl ?_
    refine Go_getr (pc := 18) (r := 1) dX7_undo_18 fo_X7_10 (by decide) rfl rfl (by decide) ?_
    refine Go_invVv (pc := 21) (y := yX0_takeLatest) (avs := [.inr 1]) (k := 5) (rest := [])  (M1 := setR (setR M 5 (updI (M 5) 1 (M 5 1 - 1))) 2 (cpyI (M 6) (M 2) ((M 5 1 - 1) * 79) 0 79)) (d' := d - 1) dX7_undo_21 ln_X7_171 mo_X0_takeLatest vo_X0_takeLatest rfl (rc_5) rfl rfl (Nat.le_of_ble_eq_true rfl) (by omega) (Nat.le_of_ble_eq_true rfl) rfl (s_X0_takeLatest (by omega) (by omega)) ?_
    refine Go_aload_n (pc := 24) dX7_undo_24 rfl (by decide) rfl ?_
    refine Go_getr (pc := 25) (r := 5) dX7_undo_25 fo_X7_22 (by decide) rfl rfl (by decide) ?_
    refine Go_invV (pc := 28) (y := yX0_states) (avs := []) (k := 5) (rest := []) (x := .inl ((updI (M 5) 1 (M 5 1 - 1)) 1))  (d' := d - 1) dX7_undo_28 ln_X7_164 mo_X0_states vo_X0_states rfl (rc_5) rfl rfl (Nat.le_of_ble_eq_true rfl) (by omega) (Nat.le_of_ble_eq_true rfl) rfl (s_X0_states (by omega)) ?_
    exact Go_ireturn (pc := 31) dX7_undo_31 rfl (by first | rw [if_pos (by omega)] | (rw [if_neg (by omega)]; done) | (rw [if_neg (by omega), updI_s]; done)) (by unfold undoM; first | rw [if_pos (by omega)] | rw [if_neg (by omega)])
  · refine Go_ldc (pc := 10) (n := -1000002) rfl kc_X7_170 dX7_undo_10 ?_
    exact Go_ireturn (pc := 12) dX7_undo_12 rfl (by first | rw [if_pos (by omega)] | (rw [if_neg (by omega)]; done) | (rw [if_neg (by omega), updI_s]; done)) (by unfold undoM; first | rw [if_pos (by omega)] | rw [if_neg (by omega)])
theorem s_X7_clearText {d : Nat} (hd : 6 ≤ d) {M : gMem} : Go d RX7 cX7_clearText 2 (some .int) 0 [some (.inr 0), none] [] M (some (.inl (M 7 1))) (setR M 7 (updI (M 7) 1 0)) := by
  refine Go_aload_n (pc := 0) dX7_clearText_0 rfl (by decide) rfl ?_
  refine Go_getr (pc := 1) (r := 7) dX7_clearText_1 fo_X7_29 (by decide) rfl rfl (by decide) ?_
  refine Go_invV (pc := 4) (y := yX5_length) (avs := []) (k := 7) (rest := []) (x := .inl (M 7 1))  (d' := d - 1) dX7_clearText_4 ln_X7_167 mo_X5_length vo_X5_length rfl (rc_7) rfl rfl (Nat.le_of_ble_eq_true rfl) (by omega) (Nat.le_of_ble_eq_true rfl) rfl (s_X5_length (by omega)) ?_
  refine Go_istore_n (pc := 7) (L' := [some (.inr 0), some (.inl (M 7 1))]) dX7_clearText_7 rfl (by decide) rfl ?_
  refine Go_aload_n (pc := 8) dX7_clearText_8 rfl (by decide) rfl ?_
  refine Go_getr (pc := 9) (r := 7) dX7_clearText_9 fo_X7_29 (by decide) rfl rfl (by decide) ?_
  refine Go_invVv (pc := 12) (y := yX5_empty) (avs := []) (k := 7) (rest := [])  (M1 := setR M 7 (updI (M 7) 1 0)) (d' := d - 1) dX7_clearText_12 ln_X7_180 mo_X5_empty vo_X5_empty rfl (rc_7) rfl rfl (Nat.le_of_ble_eq_true rfl) (by omega) (Nat.le_of_ble_eq_true rfl) rfl (s_X5_empty (by omega)) ?_
  refine Go_iload_n (pc := 15) dX7_clearText_15 rfl rfl ?_
  exact Go_ireturn (pc := 16) dX7_clearText_16 rfl (by first | rfl | (simp_all; done)) rfl
def typeM (M : gMem) (c : Int) : gMem := if c < 32 ∨ 126 < c ∨ 60 ≤ M 7 1 then M else setR (setR M 8 (updI (M 8) (M 7 1) c)) 7 (updI (M 7) 1 (M 7 1 + 1))
def typeA (n c : Int) : Int := if c < 32 ∨ 126 < c then -1000001 else if 60 ≤ n then -1000003 else n + 1
theorem s_X7_type {d : Nat} (hd : 6 ≤ d) {c : Int} {M : gMem} (hc : inR c) (hn : 0 ≤ M 7 1 ∧ M 7 1 ≤ 60) : Go d RX7 cX7_type 2 (some .int) 0 [some (.inr 0), some (.inl c)] [] M (some (.inl (typeA (M 7 1) c))) (typeM M c) := by
  refine Go_iload_n (pc := 0) dX7_type_0 rfl rfl ?_
  refine Go_bipush (pc := 1) dX7_type_1 (by decide) (by decide) ?_
  refine Go_icmp_lt (pc := 3) (tgt := 12) dX7_type_3 (by decide) (by omega) (by decide) (fun c3 => ?_) (fun c3 => ?_)
  · refine Go_ldc (pc := 12) (n := -1000001) rfl kc_X7_94 dX7_type_12 ?_
    exact Go_ireturn (pc := 14) dX7_type_14 rfl (by unfold typeA; (repeat (first | rw [if_pos (by omega)] | rw [if_neg (by omega)])); first | done | rfl | rw [updI_s]) (by unfold typeM; first | rw [if_pos (by omega)] | rw [if_neg (by omega)])
  · refine Go_iload_n (pc := 6) dX7_type_6 rfl rfl ?_
    refine Go_bipush (pc := 7) dX7_type_7 (by decide) (by decide) ?_
    refine Go_icmp_le (pc := 9) (tgt := 15) dX7_type_9 (by decide) (by omega) (by decide) (fun c9 => ?_) (fun c9 => ?_)
    · refine Go_aload_n (pc := 15) dX7_type_15 rfl (by decide) rfl ?_
      refine Go_getr (pc := 16) (r := 7) dX7_type_16 fo_X7_29 (by decide) rfl rfl (by decide) ?_
      refine Go_invV (pc := 19) (y := yX5_length) (avs := []) (k := 7) (rest := []) (x := .inl (M 7 1))  (d' := d - 1) dX7_type_19 ln_X7_167 mo_X5_length vo_X5_length rfl (rc_7) rfl rfl (Nat.le_of_ble_eq_true rfl) (by omega) (Nat.le_of_ble_eq_true rfl) rfl (s_X5_length (by omega)) ?_
      refine Go_bipush (pc := 22) dX7_type_22 (by decide) (by decide) ?_
      refine Go_icmp_lt (pc := 24) (tgt := 30) dX7_type_24 (by decide) (by omega) (by decide) (fun c24 => ?_) (fun c24 => ?_)
      · refine Go_aload_n (pc := 30) dX7_type_30 rfl (by decide) rfl ?_
        refine Go_getr (pc := 31) (r := 7) dX7_type_31 fo_X7_29 (by decide) rfl rfl (by decide) ?_
        refine Go_iload_n (pc := 34) dX7_type_34 rfl rfl ?_
        refine Go_i2c (pc := 35) dX7_type_35 (by omega) (by omega) ?_
        refine Go_invVv (pc := 36) (y := yX5_append) (avs := [.inl c]) (k := 7) (rest := [])  (M1 := setR (setR M 8 (updI (M 8) (M 7 1) c)) 7 (updI (M 7) 1 (M 7 1 + 1))) (d' := d - 1) dX7_type_36 ln_X7_176 mo_X5_append vo_X5_append rfl (rc_7) rfl rfl (Nat.le_of_ble_eq_true rfl) (by omega) (Nat.le_of_ble_eq_true rfl) rfl (s_X5_append (by omega) (by omega) (by omega) (by omega)) ?_
        refine Go_aload_n (pc := 39) dX7_type_39 rfl (by decide) rfl ?_
        refine Go_getr (pc := 40) (r := 7) dX7_type_40 fo_X7_29 (by decide) rfl rfl (by decide) ?_
        refine Go_invV (pc := 43) (y := yX5_length) (avs := []) (k := 7) (rest := []) (x := .inl ((updI (M 7) 1 (M 7 1 + 1)) 1))  (d' := d - 1) dX7_type_43 ln_X7_167 mo_X5_length vo_X5_length rfl (rc_7) rfl rfl (Nat.le_of_ble_eq_true rfl) (by omega) (Nat.le_of_ble_eq_true rfl) rfl (s_X5_length (by omega)) ?_
        exact Go_ireturn (pc := 46) dX7_type_46 rfl (by unfold typeA; (repeat (first | rw [if_pos (by omega)] | rw [if_neg (by omega)])); first | done | rfl | rw [updI_s]) (by unfold typeM; first | rw [if_pos (by omega)] | rw [if_neg (by omega)])
      · refine Go_ldc (pc := 27) (n := -1000003) rfl kc_X7_175 dX7_type_27 ?_
        exact Go_ireturn (pc := 29) dX7_type_29 rfl (by unfold typeA; (repeat (first | rw [if_pos (by omega)] | rw [if_neg (by omega)])); first | done | rfl | rw [updI_s]) (by unfold typeM; first | rw [if_pos (by omega)] | rw [if_neg (by omega)])
    · refine Go_ldc (pc := 12) (n := -1000001) rfl kc_X7_94 dX7_type_12 ?_
      exact Go_ireturn (pc := 14) dX7_type_14 rfl (by unfold typeA; (repeat (first | rw [if_pos (by omega)] | rw [if_neg (by omega)])); first | done | rfl | rw [updI_s]) (by unfold typeM; first | rw [if_pos (by omega)] | rw [if_neg (by omega)])
