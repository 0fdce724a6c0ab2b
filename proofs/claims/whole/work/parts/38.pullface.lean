/-! the class: pull, would -/
theorem pullB_y {f : Int → Int} {j z : Int} (h : pullOk f j z) : pullB f j z = 0 := if_pos h
theorem pullB_n {f : Int → Int} {j z : Int} (h : ¬ pullOk f j z) : pullB f j z = -1000001 := if_neg h
theorem pullC_y {f : Int → Int} {j z : Int} (h : pullOk f j z) : pullC f j z = pullG f j z := if_pos h
theorem pullC_n {f : Int → Int} {j z : Int} (h : ¬ pullOk f j z) : pullC f j z = f := if_neg h
theorem pullR_y {f : Int → Int} {j z : Int} (h : pullOk f j z) : pullR f j z = (orZ (fun k => sc (pullG f j z) k 0 - sc f k 0) (f 0), pullG f j z) := if_pos h
theorem pullR_n {f : Int → Int} {j z : Int} (h : ¬ pullOk f j z) : pullR f j z = (-1000001, f) := if_neg h
theorem pullR_p {f : Int → Int} (h : Wf f) {j z : Int} (c : pullOk f j z) : ¬ (pullR f j z).1 < 0 := by
  have n := h.n
  have := orZ_b (fun k => sc (pullG f j z) k 0 - sc f k 0) n.2
  rw [pullR_y c]
  show ¬ orZ _ _ < 0
  omega
theorem s_X7_pull {d : Nat} (hd : 8 ≤ d) {a b : Int} {M : gMem} (hS : InvS M) (ha : inR a) (hb : inR b) : Go d RX7 cX7_pull 4 (some .int) 0 [some (.inr 0), some (.inl a), some (.inl b), none] [] M (some (.inl ((pullR (M 2) a b).1))) (setl (setR M 4 (pullR (M 2) a b).2) (pullR (M 2) a b).1) := by
  have hW := hS.1
  have hB := pullB_b (M 2) a b
  have hC := pullC_W hW a b
  have hn := hW.n
  have ho := orZ_b (fun k => sc (pullC (M 2) a b) k 0 - sc (M 2) k 0) (i := pullC (M 2) a b 0) (by rw [hC.2 0 (by decide) (by decide)]; omega)
  by_cases c : pullOk (M 2) a b
  · rw [pullR_y c]
    have e0 := pullB_y c
    have e1 := pullC_y c
    have e2 := hC.2 0 (by decide) (by decide)
    rw [e1] at ho e2
    refine Go_aload_n (pc := 0) dX7_pull_0 rfl (by decide) rfl ?_
    refine Go_invV (pc := 1) (y := yX7_freshTrial) (avs := []) (k := 0) (rest := []) (x := .inr 3) (M1 := setR M 4 (M 2)) (d' := d - 1) dX7_pull_1 ln_X7_47 mo_X7_freshTrial vo_X7_freshTrial rfl (rc_0) rfl rfl (Nat.le_of_ble_eq_true rfl) (by omega) (Nat.le_of_ble_eq_true rfl) rfl (s_X7_freshTrial (by omega) hS.1.o hS.2.1) ?_
    refine Go_iload_n (pc := 4) dX7_pull_4 rfl rfl ?_
    refine Go_iload_n (pc := 5) dX7_pull_5 rfl rfl ?_
    refine Go_invS (pc := 6) (y := yX6_pullBy) (avs := [.inr 3, .inl a, .inl b]) (rest := []) (x := .inl (pullB (M 2) a b))  (d' := d - 1) dX7_pull_6 ln_X7_64 mo_X6_pullBy so_X6_pullBy rfl rfl rfl (Nat.le_of_ble_eq_true rfl) (by omega) (Nat.le_of_ble_eq_true rfl) rfl (s_X6_pullBy (by omega) hS.1 (by omega) (by omega)) ?_
    refine Go_M (M1 := setR M 4 (pullC (M 2) a b)) ((setR_tw _ _ _ _).trans rfl) ?_
    refine Go_istore_n (pc := 9) (L' := [some (.inr 0), some (.inl a), some (.inl b), some (.inl (pullB (M 2) a b))]) dX7_pull_9 rfl (by decide) rfl ?_
    refine Go_aload_n (pc := 10) dX7_pull_10 rfl (by decide) rfl ?_
    refine Go_iload_n (pc := 11) dX7_pull_11 rfl rfl ?_
    refine Go_invS (pc := 12) (y := yX7_isError) (avs := [.inl (pullB (M 2) a b)]) (rest := [.inr 0]) (x := .inl (b2i ((pullB (M 2) a b) < 0)))  (d' := d - 1) dX7_pull_12 ln_X7_67 mo_X7_isError so_X7_isError rfl rfl rfl (Nat.le_of_ble_eq_true rfl) (by omega) (Nat.le_of_ble_eq_true rfl) rfl (s_X7_isError (by omega) (by omega)) ?_
    refine Go_ifeqB (pc := 15) (tgt := 22) dX7_pull_15 (by decide) (fun c15 => ?_) (fun c15 => ?_)
    · refine Go_aload_n (pc := 22) dX7_pull_22 rfl (by decide) rfl ?_
      refine Go_getr (pc := 23) (r := 3) dX7_pull_23 fo_X7_16 (by decide) rfl rfl (by decide) ?_
      refine Go_aload_n (pc := 26) dX7_pull_26 rfl (by decide) rfl ?_
      refine Go_getr (pc := 27) (r := 1) dX7_pull_27 fo_X7_10 (by decide) rfl rfl (by decide) ?_
      refine Go_invV (pc := 30) (y := yX1_heightsUnlike) (avs := [.inr 1]) (k := 3) (rest := [.inr 0]) (x := .inl (orZ (fun k => sc (pullC (M 2) a b) k 0 - sc (M 2) k 0) ((pullC (M 2) a b) 0)))  (d' := d - 1) dX7_pull_30 ln_X7_71 mo_X1_heightsUnlike vo_X1_heightsUnlike rfl (rc_3) rfl rfl (Nat.le_of_ble_eq_true rfl) (by omega) (Nat.le_of_ble_eq_true rfl) rfl (s_X1_heightsUnlike (by omega) ⟨rfl, rfl⟩ hC.1 hW) ?_
      refine Go_invV (pc := 33) (y := yX7_settle) (avs := [.inl (orZ (fun k => sc (pullC (M 2) a b) k 0 - sc (M 2) k 0) ((pullC (M 2) a b) 0))]) (k := 0) (rest := []) (x := .inl (orZ (fun k => sc (pullC (M 2) a b) k 0 - sc (M 2) k 0) ((pullC (M 2) a b) 0))) (M1 := (setl (setR M 4 (pullC (M 2) a b)) (orZ (fun k => sc (pullC (M 2) a b) k 0 - sc (M 2) k 0) ((pullC (M 2) a b) 0)))) (d' := d - 1) dX7_pull_33 ln_X7_57 mo_X7_settle vo_X7_settle rfl (rc_0) rfl rfl (Nat.le_of_ble_eq_true rfl) (by omega) (Nat.le_of_ble_eq_true rfl) rfl (s_X7_settle (by omega) (by first | omega | (rw [e1]; omega)) hS.2.2 hS.1.o hC.1.o) ?_
      first | (exfalso; omega) | exact Go_ireturn (pc := 36) dX7_pull_36 rfl (by rw [e1, e2]) (by rw [e1, e2])
    · refine Go_iload_n (pc := 18) dX7_pull_18 rfl rfl ?_
      refine Go_goto (pc := 19) (tgt := 33) dX7_pull_19 (by decide) ?_
      refine Go_invV (pc := 33) (y := yX7_settle) (avs := [.inl (pullB (M 2) a b)]) (k := 0) (rest := []) (x := .inl (pullB (M 2) a b)) (M1 := (setl (setR M 4 (pullC (M 2) a b)) (pullB (M 2) a b))) (d' := d - 1) dX7_pull_33 ln_X7_57 mo_X7_settle vo_X7_settle rfl (rc_0) rfl rfl (Nat.le_of_ble_eq_true rfl) (by omega) (Nat.le_of_ble_eq_true rfl) rfl (s_X7_settle (by omega) (by first | omega | (rw [e1]; omega)) hS.2.2 hS.1.o hC.1.o) ?_
      first | (exfalso; omega) | exact Go_ireturn (pc := 36) dX7_pull_36 rfl (by rw [e1, e2]) (by rw [e1, e2])
  · rw [pullR_n c]
    have e0 := pullB_n c
    have e1 := pullC_n c
    refine Go_aload_n (pc := 0) dX7_pull_0 rfl (by decide) rfl ?_
    refine Go_invV (pc := 1) (y := yX7_freshTrial) (avs := []) (k := 0) (rest := []) (x := .inr 3) (M1 := setR M 4 (M 2)) (d' := d - 1) dX7_pull_1 ln_X7_47 mo_X7_freshTrial vo_X7_freshTrial rfl (rc_0) rfl rfl (Nat.le_of_ble_eq_true rfl) (by omega) (Nat.le_of_ble_eq_true rfl) rfl (s_X7_freshTrial (by omega) hS.1.o hS.2.1) ?_
    refine Go_iload_n (pc := 4) dX7_pull_4 rfl rfl ?_
    refine Go_iload_n (pc := 5) dX7_pull_5 rfl rfl ?_
    refine Go_invS (pc := 6) (y := yX6_pullBy) (avs := [.inr 3, .inl a, .inl b]) (rest := []) (x := .inl (pullB (M 2) a b))  (d' := d - 1) dX7_pull_6 ln_X7_64 mo_X6_pullBy so_X6_pullBy rfl rfl rfl (Nat.le_of_ble_eq_true rfl) (by omega) (Nat.le_of_ble_eq_true rfl) rfl (s_X6_pullBy (by omega) hS.1 (by omega) (by omega)) ?_
    refine Go_M (M1 := setR M 4 (pullC (M 2) a b)) ((setR_tw _ _ _ _).trans rfl) ?_
    refine Go_istore_n (pc := 9) (L' := [some (.inr 0), some (.inl a), some (.inl b), some (.inl (pullB (M 2) a b))]) dX7_pull_9 rfl (by decide) rfl ?_
    refine Go_aload_n (pc := 10) dX7_pull_10 rfl (by decide) rfl ?_
    refine Go_iload_n (pc := 11) dX7_pull_11 rfl rfl ?_
    refine Go_invS (pc := 12) (y := yX7_isError) (avs := [.inl (pullB (M 2) a b)]) (rest := [.inr 0]) (x := .inl (b2i ((pullB (M 2) a b) < 0)))  (d' := d - 1) dX7_pull_12 ln_X7_67 mo_X7_isError so_X7_isError rfl rfl rfl (Nat.le_of_ble_eq_true rfl) (by omega) (Nat.le_of_ble_eq_true rfl) rfl (s_X7_isError (by omega) (by omega)) ?_
    refine Go_ifeqB (pc := 15) (tgt := 22) dX7_pull_15 (by decide) (fun c15 => ?_) (fun c15 => ?_)
    · refine Go_aload_n (pc := 22) dX7_pull_22 rfl (by decide) rfl ?_
      refine Go_getr (pc := 23) (r := 3) dX7_pull_23 fo_X7_16 (by decide) rfl rfl (by decide) ?_
      refine Go_aload_n (pc := 26) dX7_pull_26 rfl (by decide) rfl ?_
      refine Go_getr (pc := 27) (r := 1) dX7_pull_27 fo_X7_10 (by decide) rfl rfl (by decide) ?_
      refine Go_invV (pc := 30) (y := yX1_heightsUnlike) (avs := [.inr 1]) (k := 3) (rest := [.inr 0]) (x := .inl (orZ (fun k => sc (pullC (M 2) a b) k 0 - sc (M 2) k 0) ((pullC (M 2) a b) 0)))  (d' := d - 1) dX7_pull_30 ln_X7_71 mo_X1_heightsUnlike vo_X1_heightsUnlike rfl (rc_3) rfl rfl (Nat.le_of_ble_eq_true rfl) (by omega) (Nat.le_of_ble_eq_true rfl) rfl (s_X1_heightsUnlike (by omega) ⟨rfl, rfl⟩ hC.1 hW) ?_
      refine Go_invV (pc := 33) (y := yX7_settle) (avs := [.inl (orZ (fun k => sc (pullC (M 2) a b) k 0 - sc (M 2) k 0) ((pullC (M 2) a b) 0))]) (k := 0) (rest := []) (x := .inl (orZ (fun k => sc (pullC (M 2) a b) k 0 - sc (M 2) k 0) ((pullC (M 2) a b) 0))) (M1 := (setl (setR M 4 (pullC (M 2) a b)) (orZ (fun k => sc (pullC (M 2) a b) k 0 - sc (M 2) k 0) ((pullC (M 2) a b) 0)))) (d' := d - 1) dX7_pull_33 ln_X7_57 mo_X7_settle vo_X7_settle rfl (rc_0) rfl rfl (Nat.le_of_ble_eq_true rfl) (by omega) (Nat.le_of_ble_eq_true rfl) rfl (s_X7_settle (by omega) (by first | omega | exact ⟨by omega, by omega⟩) hS.2.2 hS.1.o hC.1.o) ?_
      first | (exfalso; omega) | exact Go_ireturn (pc := 36) dX7_pull_36 rfl (by rw [e0]) (by rw [e0, e1])
    · refine Go_iload_n (pc := 18) dX7_pull_18 rfl rfl ?_
      refine Go_goto (pc := 19) (tgt := 33) dX7_pull_19 (by decide) ?_
      refine Go_invV (pc := 33) (y := yX7_settle) (avs := [.inl (pullB (M 2) a b)]) (k := 0) (rest := []) (x := .inl (pullB (M 2) a b)) (M1 := (setl (setR M 4 (pullC (M 2) a b)) (pullB (M 2) a b))) (d' := d - 1) dX7_pull_33 ln_X7_57 mo_X7_settle vo_X7_settle rfl (rc_0) rfl rfl (Nat.le_of_ble_eq_true rfl) (by omega) (Nat.le_of_ble_eq_true rfl) rfl (s_X7_settle (by omega) (by first | omega | exact ⟨by omega, by omega⟩) hS.2.2 hS.1.o hC.1.o) ?_
      first | (exfalso; omega) | exact Go_ireturn (pc := 36) dX7_pull_36 rfl (by rw [e0]) (by rw [e0, e1])
def htenF (f : Int → Int) (e : Int) : Int := if 10 ≤ e ∧ e - 10 < f 0 then sc f (e - 10) 0 else -1000001
theorem s_X7_heightBehindTen {d : Nat} (hd : 2 ≤ d) {e : Int} {M : gMem} (hW : Wf (M 4)) (he : inR e) : Go d RX7 cX7_heightBehindTen 2 (some .int) 0 [some (.inr 3), some (.inl e)] [] M (some (.inl (htenF (M 4) e))) M := by
  have hn := hW.n
  refine Go_iload_n (pc := 0) dX7_heightBehindTen_0 rfl rfl ?_
  refine Go_bipush (pc := 1) dX7_heightBehindTen_1 (by decide) (by decide) ?_
  refine Go_icmp_lt (pc := 3) (tgt := 17) dX7_heightBehindTen_3 (by decide) (by omega) (by decide) (fun c3 => ?_) (fun c3 => ?_)
  · refine Go_ldc (pc := 17) (n := -1000001) rfl kc_X7_94 dX7_heightBehindTen_17 ?_
    exact Go_ireturn (pc := 19) dX7_heightBehindTen_19 rfl (by unfold htenF; first | rw [if_pos (by omega)] | rw [if_neg (by omega)]) rfl
  · refine Go_aload_n (pc := 6) dX7_heightBehindTen_6 rfl (by decide) rfl ?_
    refine Go_iload_n (pc := 7) dX7_heightBehindTen_7 rfl rfl ?_
    refine Go_bipush (pc := 8) dX7_heightBehindTen_8 (by decide) (by decide) ?_
    refine Go_isub (pc := 10) dX7_heightBehindTen_10 ?_
    refine Go_invV (pc := 11) (y := yX1_hasShade) (avs := [.inl (e - 10)]) (k := 3) (rest := []) (x := .inl (b2i (0 ≤ (e - 10) ∧ (e - 10) < M 4 0)))  (d' := d - 1) dX7_heightBehindTen_11 ln_X7_91 mo_X1_hasShade vo_X1_hasShade rfl (rc_3) rfl rfl (Nat.le_of_ble_eq_true rfl) (by omega) (Nat.le_of_ble_eq_true rfl) rfl (s_X1_hasShade (by omega) (by decide) (by omega) hW) ?_
    refine Go_ifneB (pc := 14) (tgt := 20) dX7_heightBehindTen_14 (by decide) (fun c14 => ?_) (fun c14 => ?_)
    · refine Go_aload_n (pc := 20) dX7_heightBehindTen_20 rfl (by decide) rfl ?_
      refine Go_iload_n (pc := 21) dX7_heightBehindTen_21 rfl rfl ?_
      refine Go_bipush (pc := 22) dX7_heightBehindTen_22 (by decide) (by decide) ?_
      refine Go_isub (pc := 24) dX7_heightBehindTen_24 ?_
      refine Go_iconst (pc := 25) dX7_heightBehindTen_25 ?_
      refine Go_invV (pc := 26) (y := yX1_ofShade) (avs := [.inl (e - 10), .inl 0]) (k := 3) (rest := []) (x := .inl (sc (M 4) (e - 10) 0))  (d' := d - 1) dX7_heightBehindTen_26 ln_X7_95 mo_X1_ofShade vo_X1_ofShade rfl (rc_3) rfl rfl (Nat.le_of_ble_eq_true rfl) (by omega) (Nat.le_of_ble_eq_true rfl) rfl (s_X1_ofShade (by omega) (by decide) (by omega) (by decide) (by decide)) ?_
      exact Go_ireturn (pc := 29) dX7_heightBehindTen_29 rfl (by unfold htenF; first | rw [if_pos (by omega)] | rw [if_neg (by omega)]) rfl
    · refine Go_ldc (pc := 17) (n := -1000001) rfl kc_X7_94 dX7_heightBehindTen_17 ?_
      exact Go_ireturn (pc := 19) dX7_heightBehindTen_19 rfl (by unfold htenF; first | rw [if_pos (by omega)] | rw [if_neg (by omega)]) rfl
/-- would: the answer -/
def wldF (f g : Int → Int) (j e : Int) : Int := if e = 0 then orZ (fun k => sc g k 0 - sc f k 0) (f 0) else if e = 1 then knotsF g else if e = 2 then tc g j 3 - tc f j 3 else if e = 3 then standF g else htenF g e
def wldR (f : Int → Int) (j z e : Int) : Int := if pullOk f j z then wldF f (pullG f j z) j e else -1000001
theorem wldR_y {f : Int → Int} {j z : Int} (e : Int) (h : pullOk f j z) : wldR f j z e = wldF f (pullG f j z) j e := if_pos h
theorem wldR_n {f : Int → Int} {j z : Int} (e : Int) (h : ¬ pullOk f j z) : wldR f j z e = -1000001 := if_neg h
theorem s_X7_would {d : Nat} (hd : 8 ≤ d) {a b e : Int} {M : gMem} (hS : InvS M) (ha : inR a) (hb : inR b) (he : inR e) : Go d RX7 cX7_would 6 (some .int) 0 [some (.inr 0), some (.inl a), some (.inl b), some (.inl e), none, none] [] M (some (.inl (wldR (M 2) a b e))) (setR M 4 (pullC (M 2) a b)) := by
  have hW := hS.1
  have hB := pullB_b (M 2) a b
  have hC := pullC_W hW a b
  by_cases c : pullOk (M 2) a b
  · rw [wldR_y e c]
    have e0 := pullB_y c
    have e1 := pullC_y c
    have e2 := hC.2 0 (by decide) (by decide)
    rw [e1] at e2
    have g0 : e = 0 → wldF (M 2) (pullG (M 2) a b) a e = orZ (fun k => sc (pullG (M 2) a b) k 0 - sc (M 2) k 0) (M 2 0) := fun q => by unfold wldF; rw [if_pos q]
    have g1 : e = 1 → wldF (M 2) (pullG (M 2) a b) a e = knotsF (pullG (M 2) a b) := fun q => by unfold wldF; rw [if_neg (by omega), if_pos q]
    have g2 : e = 2 → wldF (M 2) (pullG (M 2) a b) a e = tc (pullG (M 2) a b) a 3 - tc (M 2) a 3 := fun q => by unfold wldF; rw [if_neg (by omega), if_neg (by omega), if_pos q]
    have g3 : e = 3 → wldF (M 2) (pullG (M 2) a b) a e = standF (pullG (M 2) a b) := fun q => by unfold wldF; rw [if_neg (by omega), if_neg (by omega), if_neg (by omega), if_pos q]
    have g4 : ¬ e = 0 → ¬ e = 1 → ¬ e = 2 → ¬ e = 3 → wldF (M 2) (pullG (M 2) a b) a e = htenF (pullG (M 2) a b) e := fun q r s t => by unfold wldF; rw [if_neg q, if_neg r, if_neg s, if_neg t]
    refine Go_aload_n (pc := 0) dX7_would_0 rfl (by decide) rfl ?_
    refine Go_invV (pc := 1) (y := yX7_freshTrial) (avs := []) (k := 0) (rest := []) (x := .inr 3) (M1 := setR M 4 (M 2)) (d' := d - 1) dX7_would_1 ln_X7_47 mo_X7_freshTrial vo_X7_freshTrial rfl (rc_0) rfl rfl (Nat.le_of_ble_eq_true rfl) (by omega) (Nat.le_of_ble_eq_true rfl) rfl (s_X7_freshTrial (by omega) hS.1.o hS.2.1) ?_
    refine Go_astore (pc := 4) (L' := [some (.inr 0), some (.inl a), some (.inl b), some (.inl e), some (.inr 3), none]) dX7_would_4 (by decide) (by decide) rfl ?_
    refine Go_aload (pc := 6) dX7_would_6 (by decide) rfl ?_
    refine Go_iload_n (pc := 8) dX7_would_8 rfl rfl ?_
    refine Go_iload_n (pc := 9) dX7_would_9 rfl rfl ?_
    refine Go_invS (pc := 10) (y := yX6_pullBy) (avs := [.inr 3, .inl a, .inl b]) (rest := []) (x := .inl (pullB (M 2) a b))  (d' := d - 1) dX7_would_10 ln_X7_64 mo_X6_pullBy so_X6_pullBy rfl rfl rfl (Nat.le_of_ble_eq_true rfl) (by omega) (Nat.le_of_ble_eq_true rfl) rfl (s_X6_pullBy (by omega) hS.1 (by omega) (by omega)) ?_
    refine Go_M (M1 := setR M 4 (pullC (M 2) a b)) ((setR_tw _ _ _ _).trans rfl) ?_
    refine Go_istore (pc := 13) (L' := [some (.inr 0), some (.inl a), some (.inl b), some (.inl e), some (.inr 3), some (.inl (pullB (M 2) a b))]) dX7_would_13 (by decide) rfl ?_
    refine Go_iload (pc := 15) dX7_would_15 rfl ?_
    refine Go_invS (pc := 17) (y := yX7_isError) (avs := [.inl (pullB (M 2) a b)]) (rest := []) (x := .inl (b2i ((pullB (M 2) a b) < 0)))  (d' := d - 1) dX7_would_17 ln_X7_67 mo_X7_isError so_X7_isError rfl rfl rfl (Nat.le_of_ble_eq_true rfl) (by omega) (Nat.le_of_ble_eq_true rfl) rfl (s_X7_isError (by omega) (by omega)) ?_
    refine Go_ifeqB (pc := 20) (tgt := 26) dX7_would_20 (by decide) (fun c20 => ?_) (fun c20 => ?_)
    · refine Go_iload_n (pc := 26) dX7_would_26 rfl rfl ?_
      rcases (by omega : e = 0 ∨ e = 1 ∨ e = 2 ∨ e = 3 ∨ (e < 0 ∨ 3 < e)) with c27 | c27 | c27 | c27 | c27
      · refine Go_tsIn (pc := 27) (tgt := 56) dX7_would_27 (by omega) (by omega) (by omega) (by rw [c27]; rfl) (by decide) ?_
        refine Go_aload (pc := 56) dX7_would_56 (by decide) rfl ?_
        refine Go_aload_n (pc := 58) dX7_would_58 rfl (by decide) rfl ?_
        refine Go_getr (pc := 59) (r := 1) dX7_would_59 fo_X7_10 (by decide) rfl rfl (by decide) ?_
        refine Go_invV (pc := 62) (y := yX1_heightsUnlike) (avs := [.inr 1]) (k := 3) (rest := []) (x := .inl (orZ (fun k => sc (pullC (M 2) a b) k 0 - sc (M 2) k 0) ((pullC (M 2) a b) 0)))  (d' := d - 1) dX7_would_62 ln_X7_71 mo_X1_heightsUnlike vo_X1_heightsUnlike rfl (rc_3) rfl rfl (Nat.le_of_ble_eq_true rfl) (by omega) (Nat.le_of_ble_eq_true rfl) rfl (s_X1_heightsUnlike (by omega) ⟨rfl, rfl⟩ hC.1 hW) ?_
        first | (exfalso; omega) | exact Go_ireturn (pc := 65) dX7_would_65 rfl (by first | rw [g0 (by omega), e1, e2] | rw [g1 (by omega), e1] | rw [g2 (by omega), e1] | rw [g3 (by omega), e1] | rw [g4 (by omega) (by omega) (by omega) (by omega), e1]) rfl
      · refine Go_tsIn (pc := 27) (tgt := 66) dX7_would_27 (by omega) (by omega) (by omega) (by rw [c27]; rfl) (by decide) ?_
        refine Go_aload (pc := 66) dX7_would_66 (by decide) rfl ?_
        refine Go_invV (pc := 68) (y := yX1_knots) (avs := []) (k := 3) (rest := []) (x := .inl (knotsF (pullC (M 2) a b)))  (d' := d - 1) dX7_would_68 ln_X7_128 mo_X1_knots vo_X1_knots rfl (rc_3) rfl rfl (Nat.le_of_ble_eq_true rfl) (by omega) (Nat.le_of_ble_eq_true rfl) rfl (s_X1_knots (by omega) (by decide) hC.1) ?_
        first | (exfalso; omega) | exact Go_ireturn (pc := 71) dX7_would_71 rfl (by first | rw [g0 (by omega), e1, e2] | rw [g1 (by omega), e1] | rw [g2 (by omega), e1] | rw [g3 (by omega), e1] | rw [g4 (by omega) (by omega) (by omega) (by omega), e1]) rfl
      · refine Go_tsIn (pc := 27) (tgt := 72) dX7_would_27 (by omega) (by omega) (by omega) (by rw [c27]; rfl) (by decide) ?_
        refine Go_aload (pc := 72) dX7_would_72 (by decide) rfl ?_
        refine Go_iload_n (pc := 74) dX7_would_74 rfl rfl ?_
        refine Go_iconst (pc := 75) dX7_would_75 ?_
        refine Go_invV (pc := 76) (y := yX1_ofString) (avs := [.inl a, .inl 3]) (k := 3) (rest := []) (x := .inl (tc (pullC (M 2) a b) a 3))  (d' := d - 1) dX7_would_76 ln_X7_117 mo_X1_ofString vo_X1_ofString rfl (rc_3) rfl rfl (Nat.le_of_ble_eq_true rfl) (by omega) (Nat.le_of_ble_eq_true rfl) rfl (s_X1_ofString (by omega) (by decide) (by omega) (by decide) (by decide)) ?_
        refine Go_aload_n (pc := 79) dX7_would_79 rfl (by decide) rfl ?_
        refine Go_getr (pc := 80) (r := 1) dX7_would_80 fo_X7_10 (by decide) rfl rfl (by decide) ?_
        refine Go_iload_n (pc := 83) dX7_would_83 rfl rfl ?_
        refine Go_iconst (pc := 84) dX7_would_84 ?_
        refine Go_invV (pc := 85) (y := yX1_ofString) (avs := [.inl a, .inl 3]) (k := 1) (rest := [.inl (tc (pullC (M 2) a b) a 3)]) (x := .inl (tc (M 2) a 3))  (d' := d - 1) dX7_would_85 ln_X7_117 mo_X1_ofString vo_X1_ofString rfl (rc_1) rfl rfl (Nat.le_of_ble_eq_true rfl) (by omega) (Nat.le_of_ble_eq_true rfl) rfl (s_X1_ofString (by omega) (by decide) (by omega) (by decide) (by decide)) ?_
        refine Go_isub (pc := 88) dX7_would_88 ?_
        first | (exfalso; omega) | exact Go_ireturn (pc := 89) dX7_would_89 rfl (by first | rw [g0 (by omega), e1, e2] | rw [g1 (by omega), e1] | rw [g2 (by omega), e1] | rw [g3 (by omega), e1] | rw [g4 (by omega) (by omega) (by omega) (by omega), e1]) rfl
      · refine Go_tsIn (pc := 27) (tgt := 90) dX7_would_27 (by omega) (by omega) (by omega) (by rw [c27]; rfl) (by decide) ?_
        refine Go_aload (pc := 90) dX7_would_90 (by decide) rfl ?_
        refine Go_invV (pc := 92) (y := yX1_standing) (avs := []) (k := 3) (rest := []) (x := .inl (standF (pullC (M 2) a b)))  (d' := d - 1) dX7_would_92 ln_X7_131 mo_X1_standing vo_X1_standing rfl (rc_3) rfl rfl (Nat.le_of_ble_eq_true rfl) (by omega) (Nat.le_of_ble_eq_true rfl) rfl (s_X1_standing (by omega) (by decide) hC.1) ?_
        first | (exfalso; omega) | exact Go_ireturn (pc := 95) dX7_would_95 rfl (by first | rw [g0 (by omega), e1, e2] | rw [g1 (by omega), e1] | rw [g2 (by omega), e1] | rw [g3 (by omega), e1] | rw [g4 (by omega) (by omega) (by omega) (by omega), e1]) rfl
      · refine Go_tsOut (pc := 27) (tgt := 96) dX7_would_27 (by omega) c27 (by decide) ?_
        refine Go_aload (pc := 96) dX7_would_96 (by decide) rfl ?_
        refine Go_iload_n (pc := 98) dX7_would_98 rfl rfl ?_
        refine Go_invS (pc := 99) (y := yX7_heightBehindTen) (avs := [.inr 3, .inl e]) (rest := []) (x := .inl (htenF (pullC (M 2) a b) e))  (d' := d - 1) dX7_would_99 ln_X7_134 mo_X7_heightBehindTen so_X7_heightBehindTen rfl rfl rfl (Nat.le_of_ble_eq_true rfl) (by omega) (Nat.le_of_ble_eq_true rfl) rfl (s_X7_heightBehindTen (by omega) hC.1 (by omega)) ?_
        first | (exfalso; omega) | exact Go_ireturn (pc := 102) dX7_would_102 rfl (by first | rw [g0 (by omega), e1, e2] | rw [g1 (by omega), e1] | rw [g2 (by omega), e1] | rw [g3 (by omega), e1] | rw [g4 (by omega) (by omega) (by omega) (by omega), e1]) rfl
    · refine Go_iload (pc := 23) dX7_would_23 rfl ?_
      first | (exfalso; omega) | exact Go_ireturn (pc := 25) dX7_would_25 rfl (by first | rw [g0 (by omega), e1, e2] | rw [g1 (by omega), e1] | rw [g2 (by omega), e1] | rw [g3 (by omega), e1] | rw [g4 (by omega) (by omega) (by omega) (by omega), e1]) rfl
  · rw [wldR_n e c]
    have e0 := pullB_n c
    have e1 := pullC_n c
    refine Go_aload_n (pc := 0) dX7_would_0 rfl (by decide) rfl ?_
    refine Go_invV (pc := 1) (y := yX7_freshTrial) (avs := []) (k := 0) (rest := []) (x := .inr 3) (M1 := setR M 4 (M 2)) (d' := d - 1) dX7_would_1 ln_X7_47 mo_X7_freshTrial vo_X7_freshTrial rfl (rc_0) rfl rfl (Nat.le_of_ble_eq_true rfl) (by omega) (Nat.le_of_ble_eq_true rfl) rfl (s_X7_freshTrial (by omega) hS.1.o hS.2.1) ?_
    refine Go_astore (pc := 4) (L' := [some (.inr 0), some (.inl a), some (.inl b), some (.inl e), some (.inr 3), none]) dX7_would_4 (by decide) (by decide) rfl ?_
    refine Go_aload (pc := 6) dX7_would_6 (by decide) rfl ?_
    refine Go_iload_n (pc := 8) dX7_would_8 rfl rfl ?_
    refine Go_iload_n (pc := 9) dX7_would_9 rfl rfl ?_
    refine Go_invS (pc := 10) (y := yX6_pullBy) (avs := [.inr 3, .inl a, .inl b]) (rest := []) (x := .inl (pullB (M 2) a b))  (d' := d - 1) dX7_would_10 ln_X7_64 mo_X6_pullBy so_X6_pullBy rfl rfl rfl (Nat.le_of_ble_eq_true rfl) (by omega) (Nat.le_of_ble_eq_true rfl) rfl (s_X6_pullBy (by omega) hS.1 (by omega) (by omega)) ?_
    refine Go_M (M1 := setR M 4 (pullC (M 2) a b)) ((setR_tw _ _ _ _).trans rfl) ?_
    refine Go_istore (pc := 13) (L' := [some (.inr 0), some (.inl a), some (.inl b), some (.inl e), some (.inr 3), some (.inl (pullB (M 2) a b))]) dX7_would_13 (by decide) rfl ?_
    refine Go_iload (pc := 15) dX7_would_15 rfl ?_
    refine Go_invS (pc := 17) (y := yX7_isError) (avs := [.inl (pullB (M 2) a b)]) (rest := []) (x := .inl (b2i ((pullB (M 2) a b) < 0)))  (d' := d - 1) dX7_would_17 ln_X7_67 mo_X7_isError so_X7_isError rfl rfl rfl (Nat.le_of_ble_eq_true rfl) (by omega) (Nat.le_of_ble_eq_true rfl) rfl (s_X7_isError (by omega) (by omega)) ?_
    refine Go_ifeqB (pc := 20) (tgt := 26) dX7_would_20 (by decide) (fun c20 => ?_) (fun c20 => ?_)
    · refine Go_iload_n (pc := 26) dX7_would_26 rfl rfl ?_
      rcases (by omega : e = 0 ∨ e = 1 ∨ e = 2 ∨ e = 3 ∨ (e < 0 ∨ 3 < e)) with c27 | c27 | c27 | c27 | c27
      · refine Go_tsIn (pc := 27) (tgt := 56) dX7_would_27 (by omega) (by omega) (by omega) (by rw [c27]; rfl) (by decide) ?_
        refine Go_aload (pc := 56) dX7_would_56 (by decide) rfl ?_
        refine Go_aload_n (pc := 58) dX7_would_58 rfl (by decide) rfl ?_
        refine Go_getr (pc := 59) (r := 1) dX7_would_59 fo_X7_10 (by decide) rfl rfl (by decide) ?_
        refine Go_invV (pc := 62) (y := yX1_heightsUnlike) (avs := [.inr 1]) (k := 3) (rest := []) (x := .inl (orZ (fun k => sc (pullC (M 2) a b) k 0 - sc (M 2) k 0) ((pullC (M 2) a b) 0)))  (d' := d - 1) dX7_would_62 ln_X7_71 mo_X1_heightsUnlike vo_X1_heightsUnlike rfl (rc_3) rfl rfl (Nat.le_of_ble_eq_true rfl) (by omega) (Nat.le_of_ble_eq_true rfl) rfl (s_X1_heightsUnlike (by omega) ⟨rfl, rfl⟩ hC.1 hW) ?_
        first | (exfalso; omega) | exact Go_ireturn (pc := 65) dX7_would_65 rfl (by rw [e0]) rfl
      · refine Go_tsIn (pc := 27) (tgt := 66) dX7_would_27 (by omega) (by omega) (by omega) (by rw [c27]; rfl) (by decide) ?_
        refine Go_aload (pc := 66) dX7_would_66 (by decide) rfl ?_
        refine Go_invV (pc := 68) (y := yX1_knots) (avs := []) (k := 3) (rest := []) (x := .inl (knotsF (pullC (M 2) a b)))  (d' := d - 1) dX7_would_68 ln_X7_128 mo_X1_knots vo_X1_knots rfl (rc_3) rfl rfl (Nat.le_of_ble_eq_true rfl) (by omega) (Nat.le_of_ble_eq_true rfl) rfl (s_X1_knots (by omega) (by decide) hC.1) ?_
        first | (exfalso; omega) | exact Go_ireturn (pc := 71) dX7_would_71 rfl (by rw [e0]) rfl
      · refine Go_tsIn (pc := 27) (tgt := 72) dX7_would_27 (by omega) (by omega) (by omega) (by rw [c27]; rfl) (by decide) ?_
        refine Go_aload (pc := 72) dX7_would_72 (by decide) rfl ?_
        refine Go_iload_n (pc := 74) dX7_would_74 rfl rfl ?_
        refine Go_iconst (pc := 75) dX7_would_75 ?_
        refine Go_invV (pc := 76) (y := yX1_ofString) (avs := [.inl a, .inl 3]) (k := 3) (rest := []) (x := .inl (tc (pullC (M 2) a b) a 3))  (d' := d - 1) dX7_would_76 ln_X7_117 mo_X1_ofString vo_X1_ofString rfl (rc_3) rfl rfl (Nat.le_of_ble_eq_true rfl) (by omega) (Nat.le_of_ble_eq_true rfl) rfl (s_X1_ofString (by omega) (by decide) (by omega) (by decide) (by decide)) ?_
        refine Go_aload_n (pc := 79) dX7_would_79 rfl (by decide) rfl ?_
        refine Go_getr (pc := 80) (r := 1) dX7_would_80 fo_X7_10 (by decide) rfl rfl (by decide) ?_
        refine Go_iload_n (pc := 83) dX7_would_83 rfl rfl ?_
        refine Go_iconst (pc := 84) dX7_would_84 ?_
        refine Go_invV (pc := 85) (y := yX1_ofString) (avs := [.inl a, .inl 3]) (k := 1) (rest := [.inl (tc (pullC (M 2) a b) a 3)]) (x := .inl (tc (M 2) a 3))  (d' := d - 1) dX7_would_85 ln_X7_117 mo_X1_ofString vo_X1_ofString rfl (rc_1) rfl rfl (Nat.le_of_ble_eq_true rfl) (by omega) (Nat.le_of_ble_eq_true rfl) rfl (s_X1_ofString (by omega) (by decide) (by omega) (by decide) (by decide)) ?_
        refine Go_isub (pc := 88) dX7_would_88 ?_
        first | (exfalso; omega) | exact Go_ireturn (pc := 89) dX7_would_89 rfl (by rw [e0]) rfl
      · refine Go_tsIn (pc := 27) (tgt := 90) dX7_would_27 (by omega) (by omega) (by omega) (by rw [c27]; rfl) (by decide) ?_
        refine Go_aload (pc := 90) dX7_would_90 (by decide) rfl ?_
        refine Go_invV (pc := 92) (y := yX1_standing) (avs := []) (k := 3) (rest := []) (x := .inl (standF (pullC (M 2) a b)))  (d' := d - 1) dX7_would_92 ln_X7_131 mo_X1_standing vo_X1_standing rfl (rc_3) rfl rfl (Nat.le_of_ble_eq_true rfl) (by omega) (Nat.le_of_ble_eq_true rfl) rfl (s_X1_standing (by omega) (by decide) hC.1) ?_
        first | (exfalso; omega) | exact Go_ireturn (pc := 95) dX7_would_95 rfl (by rw [e0]) rfl
      · refine Go_tsOut (pc := 27) (tgt := 96) dX7_would_27 (by omega) c27 (by decide) ?_
        refine Go_aload (pc := 96) dX7_would_96 (by decide) rfl ?_
        refine Go_iload_n (pc := 98) dX7_would_98 rfl rfl ?_
        refine Go_invS (pc := 99) (y := yX7_heightBehindTen) (avs := [.inr 3, .inl e]) (rest := []) (x := .inl (htenF (pullC (M 2) a b) e))  (d' := d - 1) dX7_would_99 ln_X7_134 mo_X7_heightBehindTen so_X7_heightBehindTen rfl rfl rfl (Nat.le_of_ble_eq_true rfl) (by omega) (Nat.le_of_ble_eq_true rfl) rfl (s_X7_heightBehindTen (by omega) hC.1 (by omega)) ?_
        first | (exfalso; omega) | exact Go_ireturn (pc := 102) dX7_would_102 rfl (by rw [e0]) rfl
    · refine Go_iload (pc := 23) dX7_would_23 rfl ?_
      first | (exfalso; omega) | exact Go_ireturn (pc := 25) dX7_would_25 rfl (by rw [e0]) rfl
