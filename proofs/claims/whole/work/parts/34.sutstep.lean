/-! the class: the parts of a step -/
theorem s_X1_groupOf_low {d : Nat} (hd : 1 ≤ d) {a : Int} {M : gMem} (hW : Wf (M 4)) (a0 : 0 ≤ a) (a1 : a < M 4 0) (hz : sc (M 4) (a - 1) 3 = 0) : Go d RX1 cX1_groupOf 4 (some .int) 0 [some (.inr 3), some (.inl a), none, none] [] M (some (.inl (gm a (endG (M 4) a)))) M := by
  have h := s_X1_groupOf (d := d) hd (h := 3) (by decide) (M := M) hW a0 a1
  rw [show begG (M (3 + 1)) a = a from begG_st (by show ¬ (0 < a ∧ 0 < sc (M 4) (a - 1) 3); omega)] at h
  exact h
theorem deepR_t {P : Int → Int} {b e q : Int} (h : (q - 10) % 7 = 0 ∧ b ≤ (q - 10) / 7 ∧ (q - 10) / 7 < e) : deepR P b e q = if P q < 3 then P q + 1 else P q := if_pos h
theorem deepR_f {P : Int → Int} {b e q : Int} (h : ¬ ((q - 10) % 7 = 0 ∧ b ≤ (q - 10) / 7 ∧ (q - 10) / 7 < e)) : deepR P b e q = P q := if_neg h
theorem movR_t {P : Int → Int} {b e by' q : Int} (h : (q - 7) % 7 = 0 ∧ b ≤ (q - 7) / 7 ∧ (q - 7) / 7 < e) : movR P b e by' q = P q + by' := if_pos h
theorem movR_f {P : Int → Int} {b e by' q : Int} (h : ¬ ((q - 7) % 7 = 0 ∧ b ≤ (q - 7) / 7 ∧ (q - 7) / 7 < e)) : movR P b e by' q = P q := if_neg h
theorem deepR_c {P : Int → Int} {b e e' : Int} (h : ∀ x, (b ≤ x ∧ x < e) ↔ (b ≤ x ∧ x < e')) : deepR P b e = deepR P b e' := by
  funext q
  have hq := h ((q - 10) / 7)
  by_cases z : (q - 10) % 7 = 0 ∧ b ≤ (q - 10) / 7 ∧ (q - 10) / 7 < e
  · rw [deepR_t z, deepR_t (by omega)]
  · rw [deepR_f z, deepR_f (by omega)]
theorem deepR_s {P : Int → Int} {b i : Int} (h : b ≤ i) : updI (deepR P b i) (7 + 7 * i + 3) (if P (7 + 7 * i + 3) < 3 then P (7 + 7 * i + 3) + 1 else P (7 + 7 * i + 3)) = deepR P b (i + 1) := by
  funext q
  by_cases z : q = 7 + 7 * i + 3
  · subst z
    rw [updI_s, deepR_t (by omega)]
  · rw [updI_n z]
    by_cases y : (q - 10) % 7 = 0 ∧ b ≤ (q - 10) / 7 ∧ (q - 10) / 7 < i
    · rw [deepR_t y, deepR_t (by omega)]
    · rw [deepR_f y, deepR_f (by omega)]
theorem movR_c {P : Int → Int} {b e e' by' : Int} (h : ∀ x, (b ≤ x ∧ x < e) ↔ (b ≤ x ∧ x < e')) : movR P b e by' = movR P b e' by' := by
  funext q
  have hq := h ((q - 7) / 7)
  by_cases z : (q - 7) % 7 = 0 ∧ b ≤ (q - 7) / 7 ∧ (q - 7) / 7 < e
  · rw [movR_t z, movR_t (by omega)]
  · rw [movR_f z, movR_f (by omega)]
theorem movR_s {P : Int → Int} {b i by' : Int} (h : b ≤ i) : updI (movR P b i by') (7 + 7 * i + 0) (P (7 + 7 * i + 0) + by') = movR P b (i + 1) by' := by
  funext q
  by_cases z : q = 7 + 7 * i + 0
  · subst z
    rw [updI_s, movR_t (by omega)]
  · rw [updI_n z]
    by_cases y : (q - 7) % 7 = 0 ∧ b ≤ (q - 7) / 7 ∧ (q - 7) / 7 < i
    · rw [movR_t y, movR_t (by omega)]
    · rw [movR_f y, movR_f (by omega)]
theorem deepR_0 (P : Int → Int) {b e : Int} (h : e ≤ b) : deepR P b e = P := by
  funext q
  rw [deepR_f (by omega)]
theorem movR_0 (P : Int → Int) {b e : Int} (by' : Int) (h : e ≤ b) : movR P b e by' = P := by
  funext q
  rw [movR_f (by omega)]
/-- b to e is a group: all knots between are there, none behind -/
def grpP (P : Int → Int) (b e : Int) : Prop := 0 ≤ b ∧ b ≤ e ∧ e < P 0 ∧ (∀ k, b ≤ k → k < e → 0 < sc P k 3) ∧ sc P e 3 = 0
theorem grp_end {P : Int → Int} (h : Wf P) {b : Int} (b0 : 0 ≤ b) (b1 : b < P 0) : grpP P b (endG P b) := ⟨b0, (endG_b b1).1, (endG_b b1).2, fun k k0 k1 => endG_kn k k0 k1, endG_kz h b1⟩
theorem s_X6_deepen {d : Nat} (hd : 1 ≤ d) {b e : Int} {M : gMem} (hW : Wf (M 4)) (hg : grpP (M 4) b e) : Go d RX6 cX6_deepen 4 none 0 [some (.inr 3), some (.inl (gm b e)), none, none] [] M none (setR M 4 (deepR (M 4) b e)) := by
  have hn := hW.n
  obtain ⟨b0, be, e1, hk, hz⟩ := hg
  have K : ∀ i, 0 ≤ i → i ≤ M 4 0 → ∀ x : Option MV, Go d RX6 cX6_deepen 4 none 2 [some (.inr 3), some (.inl (gm b e)), some (.inl i), x] [] (setR M 4 (deepR (M 4) b (min i e))) none (setR M 4 (deepR (M 4) b e)) := by
    refine up_ind 0 (M 4 0) _ (fun i h0 h1 ih x => ?_)
    have hWd : Wf (deepR (M 4) b (min i e)) := deepR_W hW b0 (by omega)
    have q0 : deepR (M 4) b (min i e) 0 = M 4 0 := deepR_o b0 (by omega) (by decide)
    have es : 0 ≤ i → i < 8 → sc (deepR (M 4) b (min i e)) i 3 = sc (M 4) i 3 := fun a c => by rw [deepR_sc a c (by decide) (by decide), if_neg (by omega)]
    have hkn := hW.kn i
    have hin : 0 ≤ i → i < 8 → sc (M 4) i 3 = M 4 (7 + 7 * i + 3) := fun a c => sc_in _ _ a c
    have hmem : i < M 4 0 → ((¬ gand (gm b e) (gshl 1 i) = 0) ↔ (b ≤ i ∧ i ≤ e)) := fun q => gm_mem b0 be (by omega) h0 (by omega)
    refine Go_iload_n (pc := 2) dX6_deepen_2 rfl rfl ?_
    refine Go_aload_n (pc := 3) dX6_deepen_3 rfl (by decide) rfl ?_
    refine Go_invV (pc := 4) (y := yX1_shades) (avs := []) (k := 3) (rest := [.inl i]) (x := .inl ((deepR (M 4) b (min i e)) 0))  (d' := d - 1) dX6_deepen_4 ln_X6_10 mo_X1_shades vo_X1_shades rfl (rc_3) rfl rfl (Nat.le_of_ble_eq_true rfl) (by omega) (Nat.le_of_ble_eq_true rfl) rfl (s_X1_shades (by omega) (by decide)) ?_
    refine Go_icmp_ge (pc := 7) (tgt := 49) dX6_deepen_7 (by decide) (by first | omega | (rw [es h0 (by omega)]; omega)) (by first | omega | (rw [es h0 (by omega)]; omega)) (fun c7 => ?_) (fun c7 => ?_)
    · exact Go_return (pc := 49) dX6_deepen_49 rfl rfl (by rw [show min i e = e by omega])
    · refine Go_aload_n (pc := 10) dX6_deepen_10 rfl (by decide) rfl ?_
      refine Go_iload_n (pc := 11) dX6_deepen_11 rfl rfl ?_
      refine Go_iconst (pc := 12) dX6_deepen_12 ?_
      refine Go_invV (pc := 13) (y := yX1_ofShade) (avs := [.inl i, .inl 3]) (k := 3) (rest := []) (x := .inl (sc (deepR (M 4) b (min i e)) i 3))  (d' := d - 1) dX6_deepen_13 ln_X6_72 mo_X1_ofShade vo_X1_ofShade rfl (rc_3) rfl rfl (Nat.le_of_ble_eq_true rfl) (by omega) (Nat.le_of_ble_eq_true rfl) rfl (s_X1_ofShade (by omega) (by decide) (by first | omega | (rw [es h0 (by omega)]; omega)) (by decide) (by decide)) ?_
      refine Go_istore_n (pc := 16) (L' := [some (.inr 3), some (.inl (gm b e)), some (.inl i), some (.inl (sc (deepR (M 4) b (min i e)) i 3))]) dX6_deepen_16 rfl (by decide) rfl ?_
      refine Go_iload_n (pc := 17) dX6_deepen_17 rfl rfl ?_
      refine Go_iload_n (pc := 18) dX6_deepen_18 rfl rfl ?_
      refine Go_invSN (pc := 19) (y := yX7_bitOf) (avs := [.inl i]) (rest := [.inl (gm b e)]) (x := .inl (gshl 1 i))  (d' := d - 1) dX6_deepen_19 nk_X6_25 mo_X7_bitOf so_X7_bitOf rfl rfl rfl (Nat.le_of_ble_eq_true rfl) (by omega) (Nat.le_of_ble_eq_true rfl) rfl (s_X7_bitOf (by omega)) ?_
      refine Go_iand (pc := 22) dX6_deepen_22 ?_
      refine Go_if_eq (pc := 23) (tgt := 43) dX6_deepen_23 (by decide) (inR_gand _ _) (fun c23 => ?_) (fun c23 => ?_)
      · refine Go_iinc (pc := 43) (L' := [some (.inr 3), some (.inl (gm b e)), some (.inl (i + 1)), some (.inl (sc (deepR (M 4) b (min i e)) i 3))]) dX6_deepen_43 rfl (by decide) rfl ?_
        refine Go_goto (pc := 46) (tgt := 2) dX6_deepen_46 (by decide) ?_
        exact Go_M (by rw [deepR_c (e := min i e) (e' := min (i + 1) e) (by have := hmem (by omega); have := hk i; have := es h0 (by omega); intro x; omega)]) (ih (by omega) _)
      · refine Go_iload_n (pc := 26) dX6_deepen_26 rfl rfl ?_
        refine Go_if_le (pc := 27) (tgt := 43) dX6_deepen_27 (by decide) (by first | exact hW.rs _ _ (by decide) | exact hW2.rs _ _ (by decide) | first | omega | (rw [es h0 (by omega)]; omega)) (fun c27 => ?_) (fun c27 => ?_)
        · refine Go_iinc (pc := 43) (L' := [some (.inr 3), some (.inl (gm b e)), some (.inl (i + 1)), some (.inl (sc (deepR (M 4) b (min i e)) i 3))]) dX6_deepen_43 rfl (by decide) rfl ?_
          refine Go_goto (pc := 46) (tgt := 2) dX6_deepen_46 (by decide) ?_
          exact Go_M (by rw [deepR_c (e := min i e) (e' := min (i + 1) e) (by have := hmem (by omega); have := hk i; have := es h0 (by omega); intro x; omega)]) (ih (by omega) _)
        · refine Go_aload_n (pc := 30) dX6_deepen_30 rfl (by decide) rfl ?_
          refine Go_iload_n (pc := 31) dX6_deepen_31 rfl rfl ?_
          refine Go_iconst (pc := 32) dX6_deepen_32 ?_
          refine Go_iload_n (pc := 33) dX6_deepen_33 rfl rfl ?_
          refine Go_iconst (pc := 34) dX6_deepen_34 ?_
          refine Go_iadd (pc := 35) dX6_deepen_35 ?_
          refine Go_iconst (pc := 36) dX6_deepen_36 ?_
          refine Go_min (pc := 37) dX6_deepen_37 ln_X6_75 so_min in_java_lang_Math co_min (by first | omega | (rw [es h0 (by omega)]; omega)) (by decide) (by omega) (Nat.le_of_ble_eq_true rfl) ?_
          refine Go_invVv (pc := 40) (y := yX1_putShade) (avs := [.inl i, .inl 3, .inl (min ((sc (deepR (M 4) b (min i e)) i 3) + 1) 3)]) (k := 3) (rest := [])   (d' := d - 1) dX6_deepen_40 ln_X6_17 mo_X1_putShade vo_X1_putShade rfl (rc_3) rfl rfl (Nat.le_of_ble_eq_true rfl) (by omega) (Nat.le_of_ble_eq_true rfl) rfl (s_X1_putShade (by omega) (by decide) (by first | omega | (simp only [Nat.reduceAdd, setR_s]; omega)) (by first | omega | (simp only [Nat.reduceAdd, setR_s]; omega)) (by decide) (by decide)) ?_
          refine Go_M (M1 := setR M 4 (updI (deepR (M 4) b (min i e)) (7 + 7 * i + 3) (min ((sc (deepR (M 4) b (min i e)) i 3) + 1) 3))) ((setR_tw _ _ _ _).trans rfl) ?_
          refine Go_iinc (pc := 43) (L' := [some (.inr 3), some (.inl (gm b e)), some (.inl (i + 1)), some (.inl (sc (deepR (M 4) b (min i e)) i 3))]) dX6_deepen_43 rfl (by decide) rfl ?_
          refine Go_goto (pc := 46) (tgt := 2) dX6_deepen_46 (by decide) ?_
          have hm := (hmem (by omega)).mp c23
          rw [es h0 (by omega)] at c27
          have hie : i < e := by
            rcases Int.lt_or_le i e with z | z
            · exact z
            · rw [show i = e by omega] at c27; omega
          refine Go_M ?_ (ih (by omega) _)
          have ed := deepR_s (P := M 4) (b := b) (i := i) hm.1
          rw [es h0 (by omega), show min i e = i by omega, show min (i + 1) e = i + 1 by omega, ← ed, hin h0 (by omega)]
          rw [hin h0 (by omega)] at hkn
          congr 2
          by_cases z : M 4 (7 + 7 * i + 3) < 3
          · rw [if_pos z]; omega
          · rw [if_neg z]; omega
  refine Go_iconst (pc := 0) dX6_deepen_0 ?_
  refine Go_istore_n (pc := 1) (L' := [some (.inr 3), some (.inl (gm b e)), some (.inl 0), none]) dX6_deepen_1 rfl (by decide) rfl ?_
  exact Go_M (by rw [deepR_0 _ (by omega), setR_id]) (K 0 (by omega) (by omega) _)
