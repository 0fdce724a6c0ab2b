/-! the class: the parts of a step -/
theorem s_X1_groupOf_low {d : Nat} (hd : 1 ≤ d) {a : Int} {M : gMem} (hW : Wf (M 4)) (a0 : 0 ≤ a) (a1 : a < M 4 0) (hz : sc (M 4) (a - 1) 3 = 0) : Go d RX1 cX1_groupOf 4 (some .int) 0 [some (.inr 3), some (.inl a), none, none] [] M (some (.inl (gm a (endG (M 4) a)))) M := by
  have h := s_X1_groupOf (d := d) hd (h := 3) (by decide) (M := M) hW a0 a1
  rw [show begG (M (3 + 1)) a = a from begG_st (by show ¬ (0 < a ∧ 0 < sc (M 4) (a - 1) 3); omega)] at h
  exact h
theorem deepR_t {P : Int → Int} {b e q : Int} (h : (q - 10) % 7 = 0 ∧ b ≤ (q - 10) / 7 ∧ (q - 10) / 7 < e) : deepR P b e q = if P q < 3 then P q + 1 else P q := if_pos h
theorem deepR_f {P : Int → Int} {b e q : Int} (h : ¬ ((q - 10) % 7 = 0 ∧ b ≤ (q - 10) / 7 ∧ (q - 10) / 7 < e)) : deepR P b e q = P q := if_neg h
theorem movR_t {P : Int → Int} {b e by' q : Int} (h : (q - 7) % 7 = 0 ∧ b ≤ (q - 7) / 7 ∧ (q - 7) / 7 < e) : movR P b e by' q = P q + by' := if_pos h
theorem movR_f {P : Int → Int} {b e by' q : Int} (h : ¬ ((q - 7) % 7 = 0 ∧ b ≤ (q - 7) / 7 ∧ (q - 7) / 7 < e)) : movR P b e by' q = P q := if_neg h
theorem deepR_c {P : Int → Int} {b e e' : Int} (h : ∀ x, (b ≤ x ∧ x < e) ↔ (b ≤ x ∧ x < e')) : deepR P b e = deepR P b e' := by
  funext q
  have hq := h ((q - 10) / 7)
  by_cases z : (q - 10) % 7 = 0 ∧ b ≤ (q - 10) / 7 ∧ (q - 10) / 7 < e
  · rw [deepR_t z, deepR_t (by omega)]
  · rw [deepR_f z, deepR_f (by omega)]
theorem deepR_s {P : Int → Int} {b i : Int} (h : b ≤ i) : updI (deepR P b i) (7 + 7 * i + 3) (if P (7 + 7 * i + 3) < 3 then P (7 + 7 * i + 3) + 1 else P (7 + 7 * i + 3)) = deepR P b (i + 1) := by
  funext q
  by_cases z : q = 7 + 7 * i + 3
  · subst z
    rw [updI_s, deepR_t (by omega)]
  · rw [updI_n z]
    by_cases y : (q - 10) % 7 = 0 ∧ b ≤ (q - 10) / 7 ∧ (q - 10) / 7 < i
    · rw [deepR_t y, deepR_t (by omega)]
    · rw [deepR_f y, deepR_f (by omega)]
theorem movR_c {P : Int → Int} {b e e' by' : Int} (h : ∀ x, (b ≤ x ∧ x < e) ↔ (b ≤ x ∧ x < e')) : movR P b e by' = movR P b e' by' := by
  funext q
  have hq := h ((q - 7) / 7)
  by_cases z : (q - 7) % 7 = 0 ∧ b ≤ (q - 7) / 7 ∧ (q - 7) / 7 < e
  · rw [movR_t z, movR_t (by omega)]
  · rw [movR_f z, movR_f (by omega)]
theorem movR_s {P : Int → Int} {b i by' : Int} (h : b ≤ i) : updI (movR P b i by') (7 + 7 * i + 0) (P (7 + 7 * i + 0) + by') = movR P b (i + 1) by' := by
  funext q
  by_cases z : q = 7 + 7 * i + 0
  · subst z
    rw [updI_s, movR_t (by omega)]
  · rw [updI_n z]
    by_cases y : (q - 7) % 7 = 0 ∧ b ≤ (q - 7) / 7 ∧ (q - 7) / 7 < i
    · rw [movR_t y, movR_t (by omega)]
    · rw [movR_f y, movR_f (by omega)]
theorem deepR_0 (P : Int → Int) {b e : Int} (h : e ≤ b) : deepR P b e = P := by
  funext q
  rw [deepR_f (by omega)]
theorem movR_0 (P : Int → Int) {b e : Int} (by' : Int) (h : e ≤ b) : movR P b e by' = P := by
  funext q
  rw [movR_f (by omega)]
/-- b to e is a group: all knots between are there, none behind -/
def grpP (P : Int → Int) (b e : Int) : Prop := 0 ≤ b ∧ b ≤ e ∧ e < P 0 ∧ (∀ k, b ≤ k → k < e → 0 < sc P k 3) ∧ sc P e 3 = 0
theorem grp_end {P : Int → Int} (h : Wf P) {b : Int} (b0 : 0 ≤ b) (b1 : b < P 0) : grpP P b (endG P b) := ⟨b0, (endG_b b1).1, (endG_b b1).2, fun k k0 k1 => endG_kn k k0 k1, endG_kz h b1⟩
theorem s_X6_deepen {d : Nat} (hd : 1 ≤ d) {b e : Int} {M : gMem} (hW : Wf (M 4)) (hg : grpP (M 4) b e) : Go d RX6 cX6_deepen 4 none 0 [some (.inr 3), some (.inl (gm b e)), none, none] [] M none (setR M 4 (deepR (M 4) b e)) := by
  have hn := hW.n
  obtain ⟨b0, be, e1, hk, hz⟩ := hg
  have K : ∀ i, 0 ≤ i → i ≤ M 4 0 → ∀ x : Option MV, Go d RX6 cX6_deepen 4 none 2 [some (.inr 3), some (.inl (gm b e)), some (.inl i), x] [] (setR M 4 (deepR (M 4) b (min i e))) none (setR M 4 (deepR (M 4) b e)) := by
    refine up_ind 0 (M 4 0) _ (fun i h0 h1 ih x => ?_)
    have hWd : Wf (deepR (M 4) b (min i e)) := deepR_W hW b0 (by omega)
    have q0 : deepR (M 4) b (min i e) 0 = M 4 0 := deepR_o b0 (by omega) (by decide)
    have es : 0 ≤ i → i < 8 → sc (deepR (M 4) b (min i e)) i 3 = sc (M 4) i 3 := fun a c => by rw [deepR_sc a c (by decide) (by decide), if_neg (by omega)]
    have hkn := hW.kn i
    have hin : 0 ≤ i → i < 8 → sc (M 4) i 3 = M 4 (7 + 7 * i + 3) := fun a c => sc_in _ _ a c
    have hmem : i < M 4 0 → ((¬ gand (gm b e) (gshl 1 i) = 0) ↔ (b ≤ i ∧ i ≤ e)) := fun q => gm_mem b0 be (by omega) h0 (by omega)
    refine Go_iload_n (pc := 2) dX6_deepen_2 rfl rfl ?_
    refine Go_aload_n (pc := 3) dX6_deepen_3 rfl (by decide) rfl ?_
    refine Go_invV (pc := 4) (y := yX1_shades) (avs := []) (k := 3) (rest := [.inl i]) (x := .inl ((deepR (M 4) b (min i e)) 0))  (d' := d - 1) dX6_deepen_4 ln_X6_10 mo_X1_shades vo_X1_shades rfl (rc_3) rfl rfl (Nat.le_of_ble_eq_true rfl) (by omega) (Nat.le_of_ble_eq_true rfl) rfl (s_X1_shades (by omega) (by decide)) ?_
    refine Go_icmp_ge (pc := 7) (tgt := 49) dX6_deepen_7 (by decide) (by first | omega | (rw [es h0 (by omega)]; omega)) (by first | omega | (rw [es h0 (by omega)]; omega)) (fun c7 => ?_) (fun c7 => ?_)
    · exact Go_return (pc := 49) dX6_deepen_49 rfl rfl (by rw [show min i e = e by omega])
    · refine Go_aload_n (pc := 10) dX6_deepen_10 rfl (by decide) rfl ?_
      refine Go_iload_n (pc := 11) dX6_deepen_11 rfl rfl ?_
      refine Go_iconst (pc := 12) dX6_deepen_12 ?_
      refine Go_invV (pc := 13) (y := yX1_ofShade) (avs := [.inl i, .inl 3]) (k := 3) (rest := []) (x := .inl (sc (deepR (M 4) b (min i e)) i 3))  (d' := d - 1) dX6_deepen_13 ln_X6_72 mo_X1_ofShade vo_X1_ofShade rfl (rc_3) rfl rfl (Nat.le_of_ble_eq_true rfl) (by omega) (Nat.le_of_ble_eq_true rfl) rfl (s_X1_ofShade (by omega) (by decide) (by first | omega | (rw [es h0 (by omega)]; omega)) (by decide) (by decide)) ?_
      refine Go_istore_n (pc := 16) (L' := [some (.inr 3), some (.inl (gm b e)), some (.inl i), some (.inl (sc (deepR (M 4) b (min i e)) i 3))]) dX6_deepen_16 rfl (by decide) rfl ?_
      refine Go_iload_n (pc := 17) dX6_deepen_17 rfl rfl ?_
      refine Go_iload_n (pc := 18) dX6_deepen_18 rfl rfl ?_
      refine Go_invSN (pc := 19) (y := yX7_bitOf) (avs := [.inl i]) (rest := [.inl (gm b e)]) (x := .inl (gshl 1 i))  (d' := d - 1) dX6_deepen_19 nk_X6_25 mo_X7_bitOf so_X7_bitOf rfl rfl rfl (Nat.le_of_ble_eq_true rfl) (by omega) (Nat.le_of_ble_eq_true rfl) rfl (s_X7_bitOf (by omega)) ?_
      refine Go_iand (pc := 22) dX6_deepen_22 ?_
      refine Go_if_eq (pc := 23) (tgt := 43) dX6_deepen_23 (by decide) (inR_gand _ _) (fun c23 => ?_) (fun c23 => ?_)
      · refine Go_iinc (pc := 43) (L' := [some (.inr 3), some (.inl (gm b e)), some (.inl (i + 1)), some (.inl (sc (deepR (M 4) b (min i e)) i 3))]) dX6_deepen_43 rfl (by decide) rfl ?_
        refine Go_goto (pc := 46) (tgt := 2) dX6_deepen_46 (by decide) ?_
        exact Go_M (by rw [deepR_c (e := min i e) (e' := min (i + 1) e) (by have := hmem (by omega); have := hk i; have := es h0 (by omega); intro x; omega)]) (ih (by omega) _)
      · refine Go_iload_n (pc := 26) dX6_deepen_26 rfl rfl ?_
        refine Go_if_le (pc := 27) (tgt := 43) dX6_deepen_27 (by decide) (by first | exact hW.rs _ _ (by decide) | exact hW2.rs _ _ (by decide) | first | omega | (rw [es h0 (by omega)]; omega)) (fun c27 => ?_) (fun c27 => ?_)
        · refine Go_iinc (pc := 43) (L' := [some (.inr 3), some (.inl (gm b e)), some (.inl (i + 1)), some (.inl (sc (deepR (M 4) b (min i e)) i 3))]) dX6_deepen_43 rfl (by decide) rfl ?_
          refine Go_goto (pc := 46) (tgt := 2) dX6_deepen_46 (by decide) ?_
          exact Go_M (by rw [deepR_c (e := min i e) (e' := min (i + 1) e) (by have := hmem (by omega); have := hk i; have := es h0 (by omega); intro x; omega)]) (ih (by omega) _)
        · refine Go_aload_n (pc := 30) dX6_deepen_30 rfl (by decide) rfl ?_
          refine Go_iload_n (pc := 31) dX6_deepen_31 rfl rfl ?_
          refine Go_iconst (pc := 32) dX6_deepen_32 ?_
          refine Go_iload_n (pc := 33) dX6_deepen_33 rfl rfl ?_
          refine Go_iconst (pc := 34) dX6_deepen_34 ?_
          refine Go_iadd (pc := 35) dX6_deepen_35 ?_
          refine Go_iconst (pc := 36) dX6_deepen_36 ?_
          refine Go_min (pc := 37) dX6_deepen_37 ln_X6_75 so_min in_java_lang_Math co_min (by first | omega | (rw [es h0 (by omega)]; omega)) (by decide) (by omega) (Nat.le_of_ble_eq_true rfl) ?_
          refine Go_invVv (pc := 40) (y := yX1_putShade) (avs := [.inl i, .inl 3, .inl (min ((sc (deepR (M 4) b (min i e)) i 3) + 1) 3)]) (k := 3) (rest := [])   (d' := d - 1) dX6_deepen_40 ln_X6_17 mo_X1_putShade vo_X1_putShade rfl (rc_3) rfl rfl (Nat.le_of_ble_eq_true rfl) (by omega) (Nat.le_of_ble_eq_true rfl) rfl (s_X1_putShade (by omega) (by decide) (by first | omega | (simp only [Nat.reduceAdd, setR_s]; omega)) (by first | omega | (simp only [Nat.reduceAdd, setR_s]; omega)) (by decide) (by decide)) ?_
          refine Go_M (M1 := setR M 4 (updI (deepR (M 4) b (min i e)) (7 + 7 * i + 3) (min ((sc (deepR (M 4) b (min i e)) i 3) + 1) 3))) ((setR_tw _ _ _ _).trans rfl) ?_
          refine Go_iinc (pc := 43) (L' := [some (.inr 3), some (.inl (gm b e)), some (.inl (i + 1)), some (.inl (sc (deepR (M 4) b (min i e)) i 3))]) dX6_deepen_43 rfl (by decide) rfl ?_
          refine Go_goto (pc := 46) (tgt := 2) dX6_deepen_46 (by decide) ?_
          have hm := (hmem (by omega)).mp c23
          rw [es h0 (by omega)] at c27
          have hie : i < e := by
            rcases Int.lt_or_le i e with z | z
            · exact z
            · rw [show i = e by omega] at c27; omega
          refine Go_M ?_ (ih (by omega) _)
          have ed := deepR_s (P := M 4) (b := b) (i := i) hm.1
          rw [es h0 (by omega), show min i e = i by omega, show min (i + 1) e = i + 1 by omega, ← ed, hin h0 (by omega)]
          rw [hin h0 (by omega)] at hkn
          congr 2
          by_cases z : M 4 (7 + 7 * i + 3) < 3
          · rw [if_pos z]; omega
          · rw [if_neg z]; omega
  refine Go_iconst (pc := 0) dX6_deepen_0 ?_
  refine Go_istore_n (pc := 1) (L' := [some (.inr 3), some (.inl (gm b e)), some (.inl 0), none]) dX6_deepen_1 rfl (by decide) rfl ?_
  exact Go_M (by rw [deepR_0 _ (by omega), setR_id]) (K 0 (by omega) (by omega) _)
theorem s_X6_moveGroup {d : Nat} (hd : 1 ≤ d) {b e y : Int} {M : gMem} (hy : y = 1 ∨ y = -1) (hW : Wf (M 4)) (hg : grpP (M 4) b e) : Go d RX6 cX6_moveGroup 5 (some .boolean) 0 [some (.inr 3), some (.inl (gm b e)), some (.inl y), none, none] [] M (some (.inl (b2i (badZ (M 4) b e y (M 4 0) = 0)))) (setR M 4 (if badZ (M 4) b e y (M 4 0) = 0 then movR (M 4) b (e + 1) y else M 4)) := by
  have hn := hW.n
  obtain ⟨b0, be, e1, hk, hkz⟩ := hg
  have hmem : ∀ i : Int, 0 ≤ i → i < M 4 0 → ((¬ gand (gm b e) (gshl 1 i) = 0) ↔ (b ≤ i ∧ i ≤ e)) := fun i h0 q => gm_mem b0 be (by omega) h0 (by omega)
  have hgb := gm_b b0 be (by omega)
  have K2 : (∀ k, 0 ≤ k → k < M 4 0 → ¬ badP (M 4) b e y k) → ∀ E : Int, ∀ i, 0 ≤ i → i ≤ M 4 0 → Go d RX6 cX6_moveGroup 5 (some .boolean) 55 [some (.inr 3), some (.inl (gm b e)), some (.inl y), some (.inl E), some (.inl i)] [] (setR M 4 (movR (M 4) b (min i (e + 1)) y)) (some (.inl 1)) (setR M 4 (movR (M 4) b (e + 1) y)) := by
    intro hz E
    refine up_ind 0 (M 4 0) _ (fun i h0 h1 ih => ?_)
    have hWd : Wf (movR (M 4) b (min i (e + 1)) y) := movR_W hW b0 (by omega) (fun k k0 k1 => by
      have := hz k (by omega) (by omega)
      unfold badP at this
      omega)
    have q0 : movR (M 4) b (min i (e + 1)) y 0 = M 4 0 := movR_o b0 (by omega) (by decide)
    have es : 0 ≤ i → i < 8 → sc (movR (M 4) b (min i (e + 1)) y) i 0 = sc (M 4) i 0 := fun a c => by rw [movR_sc a c (by decide) (by decide), if_neg (by omega)]
    have hht := hW.ht i
    have hin : 0 ≤ i → i < 8 → sc (M 4) i 0 = M 4 (7 + 7 * i + 0) := fun a c => sc_in _ _ a c
    have hm := hmem i
    refine Go_iload (pc := 55) dX6_moveGroup_55 rfl ?_
    refine Go_aload_n (pc := 57) dX6_moveGroup_57 rfl (by decide) rfl ?_
    refine Go_invV (pc := 58) (y := yX1_shades) (avs := []) (k := 3) (rest := [.inl i]) (x := .inl ((movR (M 4) b (min i (e + 1)) y) 0))  (d' := d - 1) dX6_moveGroup_58 ln_X6_10 mo_X1_shades vo_X1_shades rfl (rc_3) rfl rfl (Nat.le_of_ble_eq_true rfl) (by omega) (Nat.le_of_ble_eq_true rfl) rfl (s_X1_shades (by omega) (by decide)) ?_
    refine Go_icmp_ge (pc := 61) (tgt := 96) dX6_moveGroup_61 (by decide) (by first | omega | (rw [es h0 (by omega)]; omega)) (by first | omega | (rw [es h0 (by omega)]; omega)) (fun c61 => ?_) (fun c61 => ?_)
    · refine Go_iconst (pc := 96) dX6_moveGroup_96 ?_
      exact Go_zreturn (pc := 97) dX6_moveGroup_97 rfl (by decide) rfl (by rw [show min i (e + 1) = e + 1 by omega])
    · refine Go_iload_n (pc := 64) dX6_moveGroup_64 rfl rfl ?_
      refine Go_iload (pc := 65) dX6_moveGroup_65 rfl ?_
      refine Go_invSN (pc := 67) (y := yX7_bitOf) (avs := [.inl i]) (rest := [.inl (gm b e)]) (x := .inl (gshl 1 i))  (d' := d - 1) dX6_moveGroup_67 nk_X6_25 mo_X7_bitOf so_X7_bitOf rfl rfl rfl (Nat.le_of_ble_eq_true rfl) (by omega) (Nat.le_of_ble_eq_true rfl) rfl (s_X7_bitOf (by omega)) ?_
      refine Go_iand (pc := 70) dX6_moveGroup_70 ?_
      refine Go_if_eq (pc := 71) (tgt := 90) dX6_moveGroup_71 (by decide) (inR_gand _ _) (fun c71 => ?_) (fun c71 => ?_)
      · refine Go_iinc (pc := 90) (L' := [some (.inr 3), some (.inl (gm b e)), some (.inl y), some (.inl E), some (.inl (i + 1))]) dX6_moveGroup_90 rfl (by decide) rfl ?_
        refine Go_goto (pc := 93) (tgt := 55) dX6_moveGroup_93 (by decide) ?_
        exact Go_M (by rw [movR_c (e := min i (e + 1)) (e' := min (i + 1) (e + 1)) (by have := hm h0 (by omega); intro x; omega)]) (ih (by omega))
      · refine Go_aload_n (pc := 74) dX6_moveGroup_74 rfl (by decide) rfl ?_
        refine Go_iload (pc := 75) dX6_moveGroup_75 rfl ?_
        refine Go_iconst (pc := 77) dX6_moveGroup_77 ?_
        refine Go_aload_n (pc := 78) dX6_moveGroup_78 rfl (by decide) rfl ?_
        refine Go_iload (pc := 79) dX6_moveGroup_79 rfl ?_
        refine Go_iconst (pc := 81) dX6_moveGroup_81 ?_
        refine Go_invV (pc := 82) (y := yX1_ofShade) (avs := [.inl i, .inl 0]) (k := 3) (rest := [.inl 0, .inl i, .inr 3]) (x := .inl (sc (movR (M 4) b (min i (e + 1)) y) i 0))  (d' := d - 1) dX6_moveGroup_82 ln_X6_72 mo_X1_ofShade vo_X1_ofShade rfl (rc_3) rfl rfl (Nat.le_of_ble_eq_true rfl) (by omega) (Nat.le_of_ble_eq_true rfl) rfl (s_X1_ofShade (by omega) (by decide) (by first | omega | (rw [es h0 (by omega)]; omega)) (by decide) (by decide)) ?_
        refine Go_iload_n (pc := 85) dX6_moveGroup_85 rfl rfl ?_
        refine Go_iadd (pc := 86) dX6_moveGroup_86 ?_
        refine Go_invVv (pc := 87) (y := yX1_putShade) (avs := [.inl i, .inl 0, .inl ((sc (movR (M 4) b (min i (e + 1)) y) i 0) + y)]) (k := 3) (rest := [])   (d' := d - 1) dX6_moveGroup_87 ln_X6_17 mo_X1_putShade vo_X1_putShade rfl (rc_3) rfl rfl (Nat.le_of_ble_eq_true rfl) (by omega) (Nat.le_of_ble_eq_true rfl) rfl (s_X1_putShade (by omega) (by decide) (by first | omega | (simp only [Nat.reduceAdd, setR_s]; omega)) (by first | omega | (simp only [Nat.reduceAdd, setR_s]; omega)) (by decide) (by decide)) ?_
        refine Go_M (M1 := setR M 4 (updI (movR (M 4) b (min i (e + 1)) y) (7 + 7 * i + 0) ((sc (movR (M 4) b (min i (e + 1)) y) i 0) + y))) ((setR_tw _ _ _ _).trans rfl) ?_
        refine Go_iinc (pc := 90) (L' := [some (.inr 3), some (.inl (gm b e)), some (.inl y), some (.inl E), some (.inl (i + 1))]) dX6_moveGroup_90 rfl (by decide) rfl ?_
        refine Go_goto (pc := 93) (tgt := 55) dX6_moveGroup_93 (by decide) ?_
        have hm2 := (hm h0 (by omega)).mp c71
        refine Go_M ?_ (ih (by omega))
        have ed := movR_s (P := M 4) (b := b) (i := i) (by' := y) hm2.1
        rw [es h0 (by omega), show min i (e + 1) = i by omega, show min (i + 1) (e + 1) = i + 1 by omega, ← ed, hin h0 (by omega)]
  have K1 : ∀ E : Int, (E = 9 ∧ y = 1 ∨ E = 0 ∧ y = -1) → ∀ i, 0 ≤ i → i ≤ M 4 0 → (∀ k, 0 ≤ k → k < i → ¬ badP (M 4) b e y k) → Go d RX6 cX6_moveGroup 5 (some .boolean) 14 [some (.inr 3), some (.inl (gm b e)), some (.inl y), some (.inl E), some (.inl i)] [] M (some (.inl (b2i (badZ (M 4) b e y (M 4 0) = 0)))) (setR M 4 (if badZ (M 4) b e y (M 4 0) = 0 then movR (M 4) b (e + 1) y else M 4)) := by
    intro E hE
    refine up_ind 0 (M 4 0) _ (fun i h0 h1 ih hb => ?_)
    have hht := hW.ht i
    have hm := hmem i
    refine Go_iload (pc := 14) dX6_moveGroup_14 rfl ?_
    refine Go_aload_n (pc := 16) dX6_moveGroup_16 rfl (by decide) rfl ?_
    refine Go_invV (pc := 17) (y := yX1_shades) (avs := []) (k := 3) (rest := [.inl i]) (x := .inl (M 4 0))  (d' := d - 1) dX6_moveGroup_17 ln_X6_10 mo_X1_shades vo_X1_shades rfl (rc_3) rfl rfl (Nat.le_of_ble_eq_true rfl) (by omega) (Nat.le_of_ble_eq_true rfl) rfl (s_X1_shades (by omega) (by decide)) ?_
    refine Go_icmp_ge (pc := 20) (tgt := 52) dX6_moveGroup_20 (by decide) (by omega) (by omega) (fun c20 => ?_) (fun c20 => ?_)
    · refine Go_iconst (pc := 52) dX6_moveGroup_52 ?_
      refine Go_istore (pc := 53) (L' := [some (.inr 3), some (.inl (gm b e)), some (.inl y), some (.inl E), some (.inl 0)]) dX6_moveGroup_53 (by decide) rfl ?_
      have hz : ∀ k, 0 ≤ k → k < M 4 0 → ¬ badP (M 4) b e y k := fun k k0 k1 => hb k k0 (by omega)
      have z := (badZ_0 (b := b) (e := e) (by' := y) (P := M 4) hn.1).mpr hz
      rw [b2i_t z, if_pos z]
      exact Go_M (by rw [movR_0 _ _ (by omega), setR_id]) (K2 hz E 0 (by omega) (by omega))
    · refine Go_iload_n (pc := 23) dX6_moveGroup_23 rfl rfl ?_
      refine Go_iload (pc := 24) dX6_moveGroup_24 rfl ?_
      refine Go_invSN (pc := 26) (y := yX7_bitOf) (avs := [.inl i]) (rest := [.inl (gm b e)]) (x := .inl (gshl 1 i))  (d' := d - 1) dX6_moveGroup_26 nk_X6_25 mo_X7_bitOf so_X7_bitOf rfl rfl rfl (Nat.le_of_ble_eq_true rfl) (by omega) (Nat.le_of_ble_eq_true rfl) rfl (s_X7_bitOf (by omega)) ?_
      refine Go_iand (pc := 29) dX6_moveGroup_29 ?_
      refine Go_if_eq (pc := 30) (tgt := 46) dX6_moveGroup_30 (by decide) (inR_gand _ _) (fun c30 => ?_) (fun c30 => ?_)
      · refine Go_iinc (pc := 46) (L' := [some (.inr 3), some (.inl (gm b e)), some (.inl y), some (.inl E), some (.inl (i + 1))]) dX6_moveGroup_46 rfl (by decide) rfl ?_
        refine Go_goto (pc := 49) (tgt := 14) dX6_moveGroup_49 (by decide) ?_
        exact ih (by omega) (fun k k0 k1 => by
        by_cases q : k = i
        · subst q
          unfold badP
          first | (have := (hm h0 (by omega)); omega) | omega
        · exact hb k k0 (by omega))
      · refine Go_aload_n (pc := 33) dX6_moveGroup_33 rfl (by decide) rfl ?_
        refine Go_iload (pc := 34) dX6_moveGroup_34 rfl ?_
        refine Go_iconst (pc := 36) dX6_moveGroup_36 ?_
        refine Go_invV (pc := 37) (y := yX1_ofShade) (avs := [.inl i, .inl 0]) (k := 3) (rest := []) (x := .inl (sc (M 4) i 0))  (d' := d - 1) dX6_moveGroup_37 ln_X6_72 mo_X1_ofShade vo_X1_ofShade rfl (rc_3) rfl rfl (Nat.le_of_ble_eq_true rfl) (by omega) (Nat.le_of_ble_eq_true rfl) rfl (s_X1_ofShade (by omega) (by decide) (by omega) (by decide) (by decide)) ?_
        refine Go_iload_n (pc := 40) dX6_moveGroup_40 rfl rfl ?_
        refine Go_icmp_ne (pc := 41) (tgt := 46) dX6_moveGroup_41 (by decide) (by first | exact hW.rs _ _ (by decide) | exact hW2.rs _ _ (by decide) | omega) (by omega) (fun c41 => ?_) (fun c41 => ?_)
        · refine Go_iinc (pc := 46) (L' := [some (.inr 3), some (.inl (gm b e)), some (.inl y), some (.inl E), some (.inl (i + 1))]) dX6_moveGroup_46 rfl (by decide) rfl ?_
          refine Go_goto (pc := 49) (tgt := 14) dX6_moveGroup_49 (by decide) ?_
          exact ih (by omega) (fun k k0 k1 => by
          by_cases q : k = i
          · subst q
            unfold badP
            first | (have := (hm h0 (by omega)); omega) | omega
          · exact hb k k0 (by omega))
        · refine Go_iconst (pc := 44) dX6_moveGroup_44 ?_
          have hm2 := (hm h0 (by omega)).mp c30
          have nz : ¬ badZ (M 4) b e y (M 4 0) = 0 := fun z => (badZ_0 hn.1).mp z i h0 (by omega) ⟨hm2.1, hm2.2, by omega⟩
          exact Go_zreturn (pc := 45) dX6_moveGroup_45 rfl (by decide) (by rw [b2i_f nz]) (by rw [if_neg nz, setR_id])
  refine Go_iload_n (pc := 0) dX6_moveGroup_0 rfl rfl ?_
  refine Go_if_le (pc := 1) (tgt := 9) dX6_moveGroup_1 (by decide) (by omega) (fun c1 => ?_) (fun c1 => ?_)
  · refine Go_iconst (pc := 9) dX6_moveGroup_9 ?_
    refine Go_istore_n (pc := 10) (L' := [some (.inr 3), some (.inl (gm b e)), some (.inl y), some (.inl 0), none]) dX6_moveGroup_10 rfl (by decide) rfl ?_
    refine Go_iconst (pc := 11) dX6_moveGroup_11 ?_
    refine Go_istore (pc := 12) (L' := [some (.inr 3), some (.inl (gm b e)), some (.inl y), some (.inl 0), some (.inl 0)]) dX6_moveGroup_12 (by decide) rfl ?_
    exact K1 _ (by omega) 0 (by omega) (by omega) (fun k k0 k1 => by omega)
  · refine Go_bipush (pc := 4) dX6_moveGroup_4 (by decide) (by decide) ?_
    refine Go_goto (pc := 6) (tgt := 10) dX6_moveGroup_6 (by decide) ?_
    refine Go_istore_n (pc := 10) (L' := [some (.inr 3), some (.inl (gm b e)), some (.inl y), some (.inl 9), none]) dX6_moveGroup_10 rfl (by decide) rfl ?_
    refine Go_iconst (pc := 11) dX6_moveGroup_11 ?_
    refine Go_istore (pc := 12) (L' := [some (.inr 3), some (.inl (gm b e)), some (.inl y), some (.inl 9), some (.inl 0)]) dX6_moveGroup_12 (by decide) rfl ?_
    exact K1 _ (by omega) 0 (by omega) (by omega) (fun k k0 k1 => by omega)
