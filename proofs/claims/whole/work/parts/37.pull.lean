/-! pulls: the rows, and the class -/
def plN (f : Int → Int) (u w : Int) : Nat → (Int → Int) × Int
  | 0 => (f, 0)
  | m + 1 => (stepR (plN f u w m).1 u w, (plN f u w m).2 + stepJ (plN f u w m).1 u w)
def plZ (f : Int → Int) (u w i : Int) : (Int → Int) × Int := plN f u w i.toNat
theorem plZ_s (f : Int → Int) (u w : Int) {i : Int} (h : 0 ≤ i) : plZ f u w (i + 1) = (stepR (plZ f u w i).1 u w, (plZ f u w i).2 + stepJ (plZ f u w i).1 u w) := by
  unfold plZ
  rw [show (i + 1).toNat = i.toNat + 1 by omega]
  rfl
theorem plN_W {f : Int → Int} (h : Wf f) (u w : Int) : ∀ m, Wf (plN f u w m).1 ∧ (∀ q, q < 7 → q ≠ 4 → (plN f u w m).1 q = f q) ∧ (∀ q, 63 ≤ q → (plN f u w m).1 q = f q)
  | 0 => ⟨h, fun _ _ _ => rfl, fun _ _ => rfl⟩
  | m + 1 => by
    have a := plN_W h u w m
    have b := stepR_W a.1 u w
    exact ⟨b.1, fun q hq h4 => (b.2.1 q hq h4).trans (a.2.1 q hq h4), fun q hq => (b.2.2.1 q hq).trans (a.2.2 q hq)⟩
theorem plZ_W {f : Int → Int} (h : Wf f) (u w i : Int) : Wf (plZ f u w i).1 ∧ (∀ q, q < 7 → q ≠ 4 → (plZ f u w i).1 q = f q) ∧ (∀ q, 63 ≤ q → (plZ f u w i).1 q = f q) := plN_W h u w _
abbrev pullOk (f : Int → Int) (j z : Int) : Prop := (0 ≤ j ∧ j < f 1) ∧ ¬ z = 0 ∧ -9 ≤ z ∧ z ≤ 9
def pullU (f : Int → Int) (j z : Int) : Int := if 0 < z then tc f j 0 else tc f j 1
def pullD (f : Int → Int) (j z : Int) : Int := if 0 < z then tc f j 1 else tc f j 0
def pullP (f : Int → Int) (j z : Int) : (Int → Int) × Int := plZ f (pullU f j z) (pullD f j z) (z.natAbs : Int)
def pullG (f : Int → Int) (j z : Int) : Int → Int := updI (updI (pullP f j z).1 (63 + 4 * j + 2) (tc f j 2 + z)) (63 + 4 * j + 3) (tc f j 3 + (pullP f j z).2)
def pullB (f : Int → Int) (j z : Int) : Int := if pullOk f j z then 0 else -1000001
def pullC (f : Int → Int) (j z : Int) : Int → Int := if pullOk f j z then pullG f j z else f
def pullR (f : Int → Int) (j z : Int) : Int × (Int → Int) := if pullOk f j z then (orZ (fun k => sc (pullG f j z) k 0 - sc f k 0) (f 0), pullG f j z) else (-1000001, f)
theorem pullB_b (f : Int → Int) (j z : Int) : pullB f j z = 0 ∨ pullB f j z = -1000001 := by
  unfold pullB
  split
  · exact Or.inl rfl
  · exact Or.inr rfl
theorem pullG_W {f : Int → Int} (h : Wf f) {j z : Int} (hj : 0 ≤ j ∧ j < f 1) : Wf (pullG f j z) := by
  have t := h.t
  have a := plZ_W h (pullU f j z) (pullD f j z) (z.natAbs : Int)
  unfold pullG pullP
  have b := a.1.uT (j := j) (c := 2) (v := tc f j 2 + z) hj.1 (by rw [a.2.1 1 (by decide) (by decide)]; omega) (by decide) (by decide)
  exact b.uT (j := j) (c := 3) hj.1 (by rw [updI_n (by omega), a.2.1 1 (by decide) (by decide)]; omega) (by decide) (by decide)
theorem pullG_q {f : Int → Int} (h : Wf f) {j z q : Int} (hj : 0 ≤ j ∧ j < f 1) (hq : q < 7) (h4 : q ≠ 4) : pullG f j z q = f q := by
  have a := plZ_W h (pullU f j z) (pullD f j z) (z.natAbs : Int)
  unfold pullG pullP
  rw [updI_n (by omega), updI_n (by omega), a.2.1 q hq h4]
theorem pullC_W {f : Int → Int} (h : Wf f) (j z : Int) : Wf (pullC f j z) ∧ ∀ q, q < 7 → q ≠ 4 → pullC f j z q = f q := by
  unfold pullC
  split
  · next c => exact ⟨pullG_W h c.1, fun q hq h4 => pullG_q h c.1 hq h4⟩
  · exact ⟨h, fun _ _ _ => rfl⟩
theorem pullR_W {f : Int → Int} (h : Wf f) (j z : Int) : Wf (pullR f j z).2 := by
  unfold pullR
  split
  · next c => exact pullG_W h c.1
  · exact h
theorem pullR_r {f : Int → Int} (h : Wf f) (j z : Int) : inR (pullR f j z).1 ∧ -1000002 ≤ (pullR f j z).1 := by
  have n := h.n
  unfold pullR
  split
  · have := orZ_b (fun k => sc (pullG f j z) k 0 - sc f k 0) n.2
    show inR (orZ _ _) ∧ -1000002 ≤ orZ _ _
    omega
  · show inR (-1000001) ∧ -1000002 ≤ (-1000001 : Int)
    omega
theorem s_X6_pullBy {d : Nat} (hd : 5 ≤ d) {j z : Int} {M : gMem} (hW : Wf (M 4)) (hj : inR j) (hz : inR z) : Go d RX6 cX6_pullBy 8 (some .int) 0 [some (.inr 3), some (.inl j), some (.inl z), none, none, none, none, none] [] M (some (.inl (pullB (M 4) j z))) (setR M 4 (pullC (M 4) j z)) := by
  have ht := hW.t
  have h0 := hW.up j
  have h1 := hW.dn j
  have K : pullOk (M 4) j z → ∀ u w : Int, u = pullU (M 4) j z → w = pullD (M 4) j z → ∀ i, 0 ≤ i → i ≤ (z.natAbs : Int) → Go d RX6 cX6_pullBy 8 (some .int) 70 [some (.inr 3), some (.inl j), some (.inl z), some (.inl u), some (.inl w), some (.inl ((plZ (M 4) u w i).2)), some (.inl (z.natAbs : Int)), some (.inl i)] [] (setR M 4 (plZ (M 4) u w i).1) (some (.inl (pullB (M 4) j z))) (setR M 4 (pullC (M 4) j z)) := by
    intro c u w eu ew
    have hu : 0 ≤ u ∧ u ≤ 255 := by rw [eu]; unfold pullU; split <;> omega
    have hw : 0 ≤ w ∧ w ≤ 255 := by rw [ew]; unfold pullD; split <;> omega
    refine up_ind 0 (z.natAbs : Int) _ (fun i i0 i1 ih => ?_)
    obtain ⟨hP, hq, hq2⟩ := plZ_W hW u w i
    rw [plZ_s _ _ _ i0] at ih
    have eE : i = (z.natAbs : Int) → pullP (M 4) j z = plZ (M 4) u w i := fun e => by unfold pullP; rw [← eu, ← ew, ← e]
    generalize plZ (M 4) u w i = Q at hP hq hq2 ih eE ⊢
    have t2 : tc Q.1 j 2 = tc (M 4) j 2 := by rw [tc_in Q.1 2 c.1.1 (by omega), tc_in (M 4) 2 c.1.1 (by omega), hq2 _ (by omega)]
    have t3 : tc (updI Q.1 (63 + 4 * j + 2) (tc (M 4) j 2 + z)) j 3 = tc (M 4) j 3 := by rw [tc_in _ 3 c.1.1 (by omega), tc_in (M 4) 3 c.1.1 (by omega), updI_n (by omega), hq2 _ (by omega)]
    refine Go_iload (pc := 70) dX6_pullBy_70 rfl ?_
    refine Go_iload (pc := 72) dX6_pullBy_72 rfl ?_
    refine Go_icmp_ge (pc := 74) (tgt := 95) dX6_pullBy_74 (by decide) (by omega) (by omega) (fun c74 => ?_) (fun c74 => ?_)
    · refine Go_aload_n (pc := 95) dX6_pullBy_95 rfl (by decide) rfl ?_
      refine Go_iload_n (pc := 96) dX6_pullBy_96 rfl rfl ?_
      refine Go_iconst (pc := 97) dX6_pullBy_97 ?_
      refine Go_aload_n (pc := 98) dX6_pullBy_98 rfl (by decide) rfl ?_
      refine Go_iload_n (pc := 99) dX6_pullBy_99 rfl rfl ?_
      refine Go_iconst (pc := 100) dX6_pullBy_100 ?_
      refine Go_invV (pc := 101) (y := yX1_ofString) (avs := [.inl j, .inl 2]) (k := 3) (rest := [.inl 2, .inl j, .inr 3]) (x := .inl (tc Q.1 j 2))  (d' := d - 1) dX6_pullBy_101 ln_X6_39 mo_X1_ofString vo_X1_ofString rfl (rc_3) rfl rfl (Nat.le_of_ble_eq_true rfl) (by omega) (Nat.le_of_ble_eq_true rfl) rfl (s_X1_ofString (by omega) (by decide) (by omega) (by decide) (by decide)) ?_
      refine Go_iload_n (pc := 104) dX6_pullBy_104 rfl rfl ?_
      refine Go_iadd (pc := 105) dX6_pullBy_105 ?_
      refine Go_invVv (pc := 106) (y := yX1_putString) (avs := [.inl j, .inl 2, .inl ((tc Q.1 j 2) + z)]) (k := 3) (rest := [])   (d' := d - 1) dX6_pullBy_106 ln_X6_32 mo_X1_putString vo_X1_putString rfl (rc_3) rfl rfl (Nat.le_of_ble_eq_true rfl) (by omega) (Nat.le_of_ble_eq_true rfl) rfl (s_X1_putString (by omega) (by decide) (by first | omega | (simp only [Nat.reduceAdd, setR_s]; omega)) (by first | omega | (simp only [Nat.reduceAdd, setR_s]; omega)) (by decide) (by decide)) ?_
      refine Go_M (M1 := setR M 4 (updI Q.1 (63 + 4 * j + 2) ((tc Q.1 j 2) + z))) ((setR_tw _ _ _ _).trans rfl) ?_
      refine Go_aload_n (pc := 109) dX6_pullBy_109 rfl (by decide) rfl ?_
      refine Go_iload_n (pc := 110) dX6_pullBy_110 rfl rfl ?_
      refine Go_iconst (pc := 111) dX6_pullBy_111 ?_
      refine Go_aload_n (pc := 112) dX6_pullBy_112 rfl (by decide) rfl ?_
      refine Go_iload_n (pc := 113) dX6_pullBy_113 rfl rfl ?_
      refine Go_iconst (pc := 114) dX6_pullBy_114 ?_
      refine Go_invV (pc := 115) (y := yX1_ofString) (avs := [.inl j, .inl 3]) (k := 3) (rest := [.inl 3, .inl j, .inr 3]) (x := .inl (tc (updI Q.1 (63 + 4 * j + 2) ((tc Q.1 j 2) + z)) j 3))  (d' := d - 1) dX6_pullBy_115 ln_X6_39 mo_X1_ofString vo_X1_ofString rfl (rc_3) rfl rfl (Nat.le_of_ble_eq_true rfl) (by omega) (Nat.le_of_ble_eq_true rfl) rfl (s_X1_ofString (by omega) (by decide) (by omega) (by decide) (by decide)) ?_
      refine Go_iload (pc := 118) dX6_pullBy_118 rfl ?_
      refine Go_iadd (pc := 120) dX6_pullBy_120 ?_
      refine Go_invVv (pc := 121) (y := yX1_putString) (avs := [.inl j, .inl 3, .inl ((tc (updI Q.1 (63 + 4 * j + 2) ((tc Q.1 j 2) + z)) j 3) + Q.2)]) (k := 3) (rest := [])   (d' := d - 1) dX6_pullBy_121 ln_X6_32 mo_X1_putString vo_X1_putString rfl (rc_3) rfl rfl (Nat.le_of_ble_eq_true rfl) (by omega) (Nat.le_of_ble_eq_true rfl) rfl (s_X1_putString (by omega) (by decide) (by first | omega | (simp only [Nat.reduceAdd, setR_s]; omega)) (by first | omega | (simp only [Nat.reduceAdd, setR_s]; omega)) (by decide) (by decide)) ?_
      refine Go_M (M1 := setR M 4 (updI (updI Q.1 (63 + 4 * j + 2) ((tc Q.1 j 2) + z)) (63 + 4 * j + 3) ((tc (updI Q.1 (63 + 4 * j + 2) ((tc Q.1 j 2) + z)) j 3) + Q.2))) ((setR_tw _ _ _ _).trans rfl) ?_
      refine Go_iconst (pc := 124) dX6_pullBy_124 ?_
      exact Go_ireturn (pc := 125) dX6_pullBy_125 rfl (by unfold pullB; rw [if_pos c]) (by unfold pullC pullG; rw [if_pos c, eE (by omega), t2, t3])
    · refine Go_iload (pc := 77) dX6_pullBy_77 rfl ?_
      refine Go_aload_n (pc := 79) dX6_pullBy_79 rfl (by decide) rfl ?_
      refine Go_iload_n (pc := 80) dX6_pullBy_80 rfl rfl ?_
      refine Go_iload (pc := 81) dX6_pullBy_81 rfl ?_
      refine Go_invS (pc := 83) (y := yX6_stepOf) (avs := [.inr 3, .inl u, .inl w]) (rest := [.inl Q.2]) (x := .inl (stepJ Q.1 u w))  (d' := d - 1) dX6_pullBy_83 ln_X6_48 mo_X6_stepOf so_X6_stepOf rfl rfl rfl (Nat.le_of_ble_eq_true rfl) (by omega) (Nat.le_of_ble_eq_true rfl) rfl (s_X6_stepOf (by omega) hP (by omega) (by omega)) ?_
      refine Go_M (M1 := setR M 4 (stepR Q.1 u w)) ((setR_tw _ _ _ _).trans rfl) ?_
      refine Go_iadd (pc := 86) dX6_pullBy_86 ?_
      refine Go_istore (pc := 87) (L' := [some (.inr 3), some (.inl j), some (.inl z), some (.inl u), some (.inl w), some (.inl (Q.2 + (stepJ Q.1 u w))), some (.inl (z.natAbs : Int)), some (.inl i)]) dX6_pullBy_87 (by decide) rfl ?_
      refine Go_iinc (pc := 89) (L' := [some (.inr 3), some (.inl j), some (.inl z), some (.inl u), some (.inl w), some (.inl (Q.2 + (stepJ Q.1 u w))), some (.inl (z.natAbs : Int)), some (.inl (i + 1))]) dX6_pullBy_89 rfl (by decide) rfl ?_
      refine Go_goto (pc := 92) (tgt := 70) dX6_pullBy_92 (by decide) ?_
      exact ih (by omega)
  refine Go_aload_n (pc := 0) dX6_pullBy_0 rfl (by decide) rfl ?_
  refine Go_iload_n (pc := 1) dX6_pullBy_1 rfl rfl ?_
  refine Go_invV (pc := 2) (y := yX1_hasString) (avs := [.inl j]) (k := 3) (rest := []) (x := .inl (b2i (0 ≤ j ∧ j < M 4 1)))  (d' := d - 1) dX6_pullBy_2 ln_X6_35 mo_X1_hasString vo_X1_hasString rfl (rc_3) rfl rfl (Nat.le_of_ble_eq_true rfl) (by omega) (Nat.le_of_ble_eq_true rfl) rfl (s_X1_hasString (by omega) (by decide) (by omega) hW) ?_
  refine Go_ifeqB (pc := 5) (tgt := 24) dX6_pullBy_5 (by decide) (fun c5 => ?_) (fun c5 => ?_)
  · refine Go_ldc (pc := 24) (n := -1000001) rfl kc_X6_9 dX6_pullBy_24 ?_
    exact Go_ireturn (pc := 26) dX6_pullBy_26 rfl (by unfold pullB; rw [if_neg (by omega)]) (by unfold pullC; rw [if_neg (by omega)]; exact setR_id _ _)
  · refine Go_iload_n (pc := 8) dX6_pullBy_8 rfl rfl ?_
    refine Go_if_eq (pc := 9) (tgt := 24) dX6_pullBy_9 (by decide) (by omega) (fun c9 => ?_) (fun c9 => ?_)
    · refine Go_ldc (pc := 24) (n := -1000001) rfl kc_X6_9 dX6_pullBy_24 ?_
      exact Go_ireturn (pc := 26) dX6_pullBy_26 rfl (by unfold pullB; rw [if_neg (by omega)]) (by unfold pullC; rw [if_neg (by omega)]; exact setR_id _ _)
    · refine Go_iload_n (pc := 12) dX6_pullBy_12 rfl rfl ?_
      refine Go_bipush (pc := 13) dX6_pullBy_13 (by decide) (by decide) ?_
      refine Go_icmp_lt (pc := 15) (tgt := 24) dX6_pullBy_15 (by decide) (by omega) (by decide) (fun c15 => ?_) (fun c15 => ?_)
      · refine Go_ldc (pc := 24) (n := -1000001) rfl kc_X6_9 dX6_pullBy_24 ?_
        exact Go_ireturn (pc := 26) dX6_pullBy_26 rfl (by unfold pullB; rw [if_neg (by omega)]) (by unfold pullC; rw [if_neg (by omega)]; exact setR_id _ _)
      · refine Go_iload_n (pc := 18) dX6_pullBy_18 rfl rfl ?_
        refine Go_bipush (pc := 19) dX6_pullBy_19 (by decide) (by decide) ?_
        refine Go_icmp_le (pc := 21) (tgt := 27) dX6_pullBy_21 (by decide) (by omega) (by decide) (fun c21 => ?_) (fun c21 => ?_)
        · refine Go_aload_n (pc := 27) dX6_pullBy_27 rfl (by decide) rfl ?_
          refine Go_iload_n (pc := 28) dX6_pullBy_28 rfl rfl ?_
          refine Go_iload_n (pc := 29) dX6_pullBy_29 rfl rfl ?_
          refine Go_if_le (pc := 30) (tgt := 37) dX6_pullBy_30 (by decide) (by omega) (fun c30 => ?_) (fun c30 => ?_)
          · refine Go_iconst (pc := 37) dX6_pullBy_37 ?_
            refine Go_invV (pc := 38) (y := yX1_ofString) (avs := [.inl j, .inl 1]) (k := 3) (rest := []) (x := .inl (tc (M 4) j 1))  (d' := d - 1) dX6_pullBy_38 ln_X6_39 mo_X1_ofString vo_X1_ofString rfl (rc_3) rfl rfl (Nat.le_of_ble_eq_true rfl) (by omega) (Nat.le_of_ble_eq_true rfl) rfl (s_X1_ofString (by omega) (by decide) (by omega) (by decide) (by decide)) ?_
            refine Go_istore_n (pc := 41) (L' := [some (.inr 3), some (.inl j), some (.inl z), some (.inl (tc (M 4) j 1)), none, none, none, none]) dX6_pullBy_41 rfl (by decide) rfl ?_
            refine Go_aload_n (pc := 42) dX6_pullBy_42 rfl (by decide) rfl ?_
            refine Go_iload_n (pc := 43) dX6_pullBy_43 rfl rfl ?_
            refine Go_iload_n (pc := 44) dX6_pullBy_44 rfl rfl ?_
            refine Go_if_le (pc := 45) (tgt := 52) dX6_pullBy_45 (by decide) (by omega) (fun c45 => ?_) (fun c45 => ?_)
            · refine Go_iconst (pc := 52) dX6_pullBy_52 ?_
              refine Go_invV (pc := 53) (y := yX1_ofString) (avs := [.inl j, .inl 0]) (k := 3) (rest := []) (x := .inl (tc (M 4) j 0))  (d' := d - 1) dX6_pullBy_53 ln_X6_39 mo_X1_ofString vo_X1_ofString rfl (rc_3) rfl rfl (Nat.le_of_ble_eq_true rfl) (by omega) (Nat.le_of_ble_eq_true rfl) rfl (s_X1_ofString (by omega) (by decide) (by omega) (by decide) (by decide)) ?_
              refine Go_istore (pc := 56) (L' := [some (.inr 3), some (.inl j), some (.inl z), some (.inl (tc (M 4) j 1)), some (.inl (tc (M 4) j 0)), none, none, none]) dX6_pullBy_56 (by decide) rfl ?_
              refine Go_iconst (pc := 58) dX6_pullBy_58 ?_
              refine Go_istore (pc := 59) (L' := [some (.inr 3), some (.inl j), some (.inl z), some (.inl (tc (M 4) j 1)), some (.inl (tc (M 4) j 0)), some (.inl 0), none, none]) dX6_pullBy_59 (by decide) rfl ?_
              refine Go_iload_n (pc := 61) dX6_pullBy_61 rfl rfl ?_
              refine Go_abs (pc := 62) dX6_pullBy_62 ln_X6_43 so_abs in_java_lang_Math co_abs (by omega) (by omega) (Nat.le_of_ble_eq_true rfl) ?_
              refine Go_istore (pc := 65) (L' := [some (.inr 3), some (.inl j), some (.inl z), some (.inl (tc (M 4) j 1)), some (.inl (tc (M 4) j 0)), some (.inl 0), some (.inl (z.natAbs : Int)), none]) dX6_pullBy_65 (by decide) rfl ?_
              refine Go_iconst (pc := 67) dX6_pullBy_67 ?_
              refine Go_istore (pc := 68) (L' := [some (.inr 3), some (.inl j), some (.inl z), some (.inl (tc (M 4) j 1)), some (.inl (tc (M 4) j 0)), some (.inl 0), some (.inl (z.natAbs : Int)), some (.inl 0)]) dX6_pullBy_68 (by decide) rfl ?_
              first | (exfalso; omega) | exact Go_M (setR_id _ _).symm (K (by omega) _ _ (by unfold pullU; first | rw [if_pos (by omega)] | rw [if_neg (by omega)]) (by unfold pullD; first | rw [if_pos (by omega)] | rw [if_neg (by omega)]) 0 (by omega) (by omega))
            · refine Go_iconst (pc := 48) dX6_pullBy_48 ?_
              refine Go_goto (pc := 49) (tgt := 53) dX6_pullBy_49 (by decide) ?_
              refine Go_invV (pc := 53) (y := yX1_ofString) (avs := [.inl j, .inl 1]) (k := 3) (rest := []) (x := .inl (tc (M 4) j 1))  (d' := d - 1) dX6_pullBy_53 ln_X6_39 mo_X1_ofString vo_X1_ofString rfl (rc_3) rfl rfl (Nat.le_of_ble_eq_true rfl) (by omega) (Nat.le_of_ble_eq_true rfl) rfl (s_X1_ofString (by omega) (by decide) (by omega) (by decide) (by decide)) ?_
              refine Go_istore (pc := 56) (L' := [some (.inr 3), some (.inl j), some (.inl z), some (.inl (tc (M 4) j 1)), some (.inl (tc (M 4) j 1)), none, none, none]) dX6_pullBy_56 (by decide) rfl ?_
              refine Go_iconst (pc := 58) dX6_pullBy_58 ?_
              refine Go_istore (pc := 59) (L' := [some (.inr 3), some (.inl j), some (.inl z), some (.inl (tc (M 4) j 1)), some (.inl (tc (M 4) j 1)), some (.inl 0), none, none]) dX6_pullBy_59 (by decide) rfl ?_
              refine Go_iload_n (pc := 61) dX6_pullBy_61 rfl rfl ?_
              refine Go_abs (pc := 62) dX6_pullBy_62 ln_X6_43 so_abs in_java_lang_Math co_abs (by omega) (by omega) (Nat.le_of_ble_eq_true rfl) ?_
              refine Go_istore (pc := 65) (L' := [some (.inr 3), some (.inl j), some (.inl z), some (.inl (tc (M 4) j 1)), some (.inl (tc (M 4) j 1)), some (.inl 0), some (.inl (z.natAbs : Int)), none]) dX6_pullBy_65 (by decide) rfl ?_
              refine Go_iconst (pc := 67) dX6_pullBy_67 ?_
              refine Go_istore (pc := 68) (L' := [some (.inr 3), some (.inl j), some (.inl z), some (.inl (tc (M 4) j 1)), some (.inl (tc (M 4) j 1)), some (.inl 0), some (.inl (z.natAbs : Int)), some (.inl 0)]) dX6_pullBy_68 (by decide) rfl ?_
              first | (exfalso; omega) | exact Go_M (setR_id _ _).symm (K (by omega) _ _ (by unfold pullU; first | rw [if_pos (by omega)] | rw [if_neg (by omega)]) (by unfold pullD; first | rw [if_pos (by omega)] | rw [if_neg (by omega)]) 0 (by omega) (by omega))
          · refine Go_iconst (pc := 33) dX6_pullBy_33 ?_
            refine Go_goto (pc := 34) (tgt := 38) dX6_pullBy_34 (by decide) ?_
            refine Go_invV (pc := 38) (y := yX1_ofString) (avs := [.inl j, .inl 0]) (k := 3) (rest := []) (x := .inl (tc (M 4) j 0))  (d' := d - 1) dX6_pullBy_38 ln_X6_39 mo_X1_ofString vo_X1_ofString rfl (rc_3) rfl rfl (Nat.le_of_ble_eq_true rfl) (by omega) (Nat.le_of_ble_eq_true rfl) rfl (s_X1_ofString (by omega) (by decide) (by omega) (by decide) (by decide)) ?_
            refine Go_istore_n (pc := 41) (L' := [some (.inr 3), some (.inl j), some (.inl z), some (.inl (tc (M 4) j 0)), none, none, none, none]) dX6_pullBy_41 rfl (by decide) rfl ?_
            refine Go_aload_n (pc := 42) dX6_pullBy_42 rfl (by decide) rfl ?_
            refine Go_iload_n (pc := 43) dX6_pullBy_43 rfl rfl ?_
            refine Go_iload_n (pc := 44) dX6_pullBy_44 rfl rfl ?_
            refine Go_if_le (pc := 45) (tgt := 52) dX6_pullBy_45 (by decide) (by omega) (fun c45a => ?_) (fun c45a => ?_)
            · refine Go_iconst (pc := 52) dX6_pullBy_52 ?_
              refine Go_invV (pc := 53) (y := yX1_ofString) (avs := [.inl j, .inl 0]) (k := 3) (rest := []) (x := .inl (tc (M 4) j 0))  (d' := d - 1) dX6_pullBy_53 ln_X6_39 mo_X1_ofString vo_X1_ofString rfl (rc_3) rfl rfl (Nat.le_of_ble_eq_true rfl) (by omega) (Nat.le_of_ble_eq_true rfl) rfl (s_X1_ofString (by omega) (by decide) (by omega) (by decide) (by decide)) ?_
              refine Go_istore (pc := 56) (L' := [some (.inr 3), some (.inl j), some (.inl z), some (.inl (tc (M 4) j 0)), some (.inl (tc (M 4) j 0)), none, none, none]) dX6_pullBy_56 (by decide) rfl ?_
              refine Go_iconst (pc := 58) dX6_pullBy_58 ?_
              refine Go_istore (pc := 59) (L' := [some (.inr 3), some (.inl j), some (.inl z), some (.inl (tc (M 4) j 0)), some (.inl (tc (M 4) j 0)), some (.inl 0), none, none]) dX6_pullBy_59 (by decide) rfl ?_
              refine Go_iload_n (pc := 61) dX6_pullBy_61 rfl rfl ?_
              refine Go_abs (pc := 62) dX6_pullBy_62 ln_X6_43 so_abs in_java_lang_Math co_abs (by omega) (by omega) (Nat.le_of_ble_eq_true rfl) ?_
              refine Go_istore (pc := 65) (L' := [some (.inr 3), some (.inl j), some (.inl z), some (.inl (tc (M 4) j 0)), some (.inl (tc (M 4) j 0)), some (.inl 0), some (.inl (z.natAbs : Int)), none]) dX6_pullBy_65 (by decide) rfl ?_
              refine Go_iconst (pc := 67) dX6_pullBy_67 ?_
              refine Go_istore (pc := 68) (L' := [some (.inr 3), some (.inl j), some (.inl z), some (.inl (tc (M 4) j 0)), some (.inl (tc (M 4) j 0)), some (.inl 0), some (.inl (z.natAbs : Int)), some (.inl 0)]) dX6_pullBy_68 (by decide) rfl ?_
              first | (exfalso; omega) | exact Go_M (setR_id _ _).symm (K (by omega) _ _ (by unfold pullU; first | rw [if_pos (by omega)] | rw [if_neg (by omega)]) (by unfold pullD; first | rw [if_pos (by omega)] | rw [if_neg (by omega)]) 0 (by omega) (by omega))
            · refine Go_iconst (pc := 48) dX6_pullBy_48 ?_
              refine Go_goto (pc := 49) (tgt := 53) dX6_pullBy_49 (by decide) ?_
              refine Go_invV (pc := 53) (y := yX1_ofString) (avs := [.inl j, .inl 1]) (k := 3) (rest := []) (x := .inl (tc (M 4) j 1))  (d' := d - 1) dX6_pullBy_53 ln_X6_39 mo_X1_ofString vo_X1_ofString rfl (rc_3) rfl rfl (Nat.le_of_ble_eq_true rfl) (by omega) (Nat.le_of_ble_eq_true rfl) rfl (s_X1_ofString (by omega) (by decide) (by omega) (by decide) (by decide)) ?_
              refine Go_istore (pc := 56) (L' := [some (.inr 3), some (.inl j), some (.inl z), some (.inl (tc (M 4) j 0)), some (.inl (tc (M 4) j 1)), none, none, none]) dX6_pullBy_56 (by decide) rfl ?_
              refine Go_iconst (pc := 58) dX6_pullBy_58 ?_
              refine Go_istore (pc := 59) (L' := [some (.inr 3), some (.inl j), some (.inl z), some (.inl (tc (M 4) j 0)), some (.inl (tc (M 4) j 1)), some (.inl 0), none, none]) dX6_pullBy_59 (by decide) rfl ?_
              refine Go_iload_n (pc := 61) dX6_pullBy_61 rfl rfl ?_
              refine Go_abs (pc := 62) dX6_pullBy_62 ln_X6_43 so_abs in_java_lang_Math co_abs (by omega) (by omega) (Nat.le_of_ble_eq_true rfl) ?_
              refine Go_istore (pc := 65) (L' := [some (.inr 3), some (.inl j), some (.inl z), some (.inl (tc (M 4) j 0)), some (.inl (tc (M 4) j 1)), some (.inl 0), some (.inl (z.natAbs : Int)), none]) dX6_pullBy_65 (by decide) rfl ?_
              refine Go_iconst (pc := 67) dX6_pullBy_67 ?_
              refine Go_istore (pc := 68) (L' := [some (.inr 3), some (.inl j), some (.inl z), some (.inl (tc (M 4) j 0)), some (.inl (tc (M 4) j 1)), some (.inl 0), some (.inl (z.natAbs : Int)), some (.inl 0)]) dX6_pullBy_68 (by decide) rfl ?_
              first | (exfalso; omega) | exact Go_M (setR_id _ _).symm (K (by omega) _ _ (by unfold pullU; first | rw [if_pos (by omega)] | rw [if_neg (by omega)]) (by unfold pullD; first | rw [if_pos (by omega)] | rw [if_neg (by omega)]) 0 (by omega) (by omega))
        · refine Go_ldc (pc := 24) (n := -1000001) rfl kc_X6_9 dX6_pullBy_24 ?_
          exact Go_ireturn (pc := 26) dX6_pullBy_26 rfl (by unfold pullB; rw [if_neg (by omega)]) (by unfold pullC; rw [if_neg (by omega)]; exact setR_id _ _)
