/-! the reference: play -/
theorem play_end {d : Nat} {M M' : gMem} {o : Int} {v : Option MV} (h : TxOk (M 21) (M 16 6)) (p0 : 0 ≤ M 16 7 ∧ M 16 7 ≤ 1000) (hE : M 16 6 ≤ M 16 7) (kk : Go d RX8 cX8_play 2 (some .int) 52 [some (.inr 16), some (.inl o)] [] M v M') : Go d RX8 cX8_play 2 (some .int) 23 [some (.inr 16), some (.inl o)] [] M v M' := by
  have hn := h.1
  refine Go_aload_n (pc := 23) dX8_play_23 rfl (by decide) rfl ?_
  refine Go_geti (pc := 24) (z := M 16 7) dX8_play_24 fo_X8_159 (by decide) rfl rfl (rfl) ?_
  refine Go_aload_n (pc := 27) dX8_play_27 rfl (by decide) rfl ?_
  refine Go_geti (pc := 28) (z := M 16 6) dX8_play_28 fo_X8_156 (by decide) rfl rfl (rfl) ?_
  refine Go_icmp_ge (pc := 31) (tgt := 52) dX8_play_31 (by decide) (by omega) (by omega) (fun c31 => ?_) (fun c31 => ?_)
  · exact kk
  · exfalso; omega
theorem play_step {d : Nat} (hd : 8 ≤ d) {M M4 M' : gMem} {o : Int} {v : Option MV} (h : TxOk (M 21) (M 16 6)) (p0 : 0 ≤ M 16 7 ∧ M 16 7 ≤ 1000) (hE : ¬ M 16 6 ≤ M 16 7) (g : Go (d - 1) RX8 cX8_doesNext 2 (some .int) 0 [some (.inr 16), none] [] M (some (.inl 0)) M4) (kk : Go d RX8 cX8_play 2 (some .int) 23 [some (.inr 16), some (.inl (o + 1))] [] M4 v M') : Go d RX8 cX8_play 2 (some .int) 23 [some (.inr 16), some (.inl o)] [] M v M' := by
  have hn := h.1
  refine Go_aload_n (pc := 23) dX8_play_23 rfl (by decide) rfl ?_
  refine Go_geti (pc := 24) (z := M 16 7) dX8_play_24 fo_X8_159 (by decide) rfl rfl (rfl) ?_
  refine Go_aload_n (pc := 27) dX8_play_27 rfl (by decide) rfl ?_
  refine Go_geti (pc := 28) (z := M 16 6) dX8_play_28 fo_X8_156 (by decide) rfl rfl (rfl) ?_
  refine Go_icmp_ge (pc := 31) (tgt := 52) dX8_play_31 (by decide) (by omega) (by omega) (fun c31 => ?_) (fun c31 => ?_)
  · exfalso; omega
  · refine Go_iload_n (pc := 34) dX8_play_34 rfl rfl ?_
    refine Go_aload_n (pc := 35) dX8_play_35 rfl (by decide) rfl ?_
    refine Go_invV (pc := 36) (y := yX8_doesNext) (avs := []) (k := 16) (rest := [.inl o]) (x := .inl 0) (M1 := M4) (d' := d - 1) dX8_play_36 ln_X8_193 mo_X8_doesNext vo_X8_doesNext rfl (rc_16) rfl rfl (Nat.le_of_ble_eq_true rfl) (by omega) (Nat.le_of_ble_eq_true rfl) rfl (g) ?_
    refine Go_if_ne (pc := 39) (tgt := 46) dX8_play_39 (by decide) (by decide) (fun q => absurd q (by decide)) (fun _ => ?_)
    refine Go_iconst (pc := 42) dX8_play_42 ?_
    refine Go_goto (pc := 43) (tgt := 47) dX8_play_43 (by decide) ?_
    refine Go_iadd (pc := 47) dX8_play_47 ?_
    refine Go_istore_n (pc := 48) (L' := [some (.inr 16), some (.inl (o + 1))]) dX8_play_48 rfl (by decide) rfl ?_
    refine Go_goto (pc := 49) (tgt := 23) dX8_play_49 (by decide) ?_
    exact kk
theorem play_loop {d : Nat} (hd : 8 ≤ d) : ∀ (m : Nat) (M : gMem) (o : Int), Wf (M 17) → TxOk (M 21) (M 16 6) → 0 ≤ M 16 7 → M 16 7 ≤ 1000 → M 16 6 - M 16 7 ≤ m → z23 M → (flN (M 21) (M 16 6) m (M 16 7) (M 17) o).1 = 0 → ∃ M', (∀ (v : Option MV) (M2 : gMem), Go d RX8 cX8_play 2 (some .int) 52 [some (.inr 16), some (.inl (flN (M 21) (M 16 6) m (M 16 7) (M 17) o).2.2.2.1)] [] M' v M2 → Go d RX8 cX8_play 2 (some .int) 23 [some (.inr 16), some (.inl o)] [] M v M2) ∧ FrR M M' ∧ z23 M' ∧ M' 17 = (flN (M 21) (M 16 6) m (M 16 7) (M 17) o).2.2.2.2 := by
  intro m
  induction m with
  | zero =>
    intro M o hW h p0 p1 hm h23 _
    exact ⟨M, fun v M2 kk => play_end h ⟨p0, p1⟩ (by omega) kk, ⟨fun _ _ _ _ _ => rfl, fun _ _ => rfl⟩, h23, rfl⟩
  | succ m IH =>
    intro M o hW h p0 p1 hm h23 hR
    have hn := h.1
    by_cases c : M 16 6 ≤ M 16 7
    · refine ⟨M, fun v M2 kk => play_end h ⟨p0, p1⟩ c ?_, ⟨fun _ _ _ _ _ => rfl, fun _ _ => rfl⟩, h23, ?_⟩
      · rw [flN_end _ c] at kk
        exact kk
      · rw [flN_end _ c]
    · obtain ⟨M4, z, g, hDN⟩ := s_X8_doesNext (d := d - 1) (by omega) hW h p0 (by omega) h23
      have hW4 := DN_W hW hDN
      obtain ⟨fr, z4, h7, hc⟩ := hDN
      rcases hc with ⟨hb, ez, ec, ew⟩ | ⟨hb, ez, ec, ew, ep⟩
      · rw [flN_form m c hb] at hR
        exact absurd hR (show ¬ (1 : Int) = 0 by decide)
      · by_cases hr : rsn (odX (M 21) (M 16 6) (M 16 7) (M 17)).1 = 0
        · rw [flN_ok m c hb hr] at hR ⊢
          have z0 : z = 0 := ez.trans hr
          subst z0
          have hl : 7 ≤ olF (kdF (M 21) (M 16 6) (M 16 7)) ∧ olF (kdF (M 21) (M 16 6) (M 16 7)) ≤ 9 := by
            unfold olF
            (repeat' split) <;> omega
          have e6 := fr.2 6 (by decide)
          have e21 := fr.1 21 (by decide) (by decide) (by decide) (by decide)
          obtain ⟨M', G, a1, a2, a3⟩ := IH M4 (o + 1) hW4 (by rw [e21, e6]; exact h) h7.1 h7.2 (by omega) z4 (by rw [e21, e6, ep, ew]; exact hR)
          rw [e21, e6, ep, ew] at G a3
          exact ⟨M', fun v M2 kk => play_step hd h ⟨p0, p1⟩ c g (G v M2 kk), FrR_t fr a1, a2, a3⟩
        · rw [flN_no m c hb hr] at hR
          exact absurd hR hr
theorem s_X8_play {d : Nat} (hd : 9 ≤ d) {M : gMem} (hS : InvR M) (h : TxOk (M 21) (M 16 6)) (h23 : z23 M) {R : FR} (hR : R = flN (M 21) (M 16 6) 60 0 (M 17) 0) : ∃ M', Go d RX8 cX8_play 2 (some .int) 0 [some (.inr 16), none] [] M (some (.inl (plV R))) M' ∧ (∀ q, q ≠ 16 → q ≠ 17 → q ≠ 18 → q ≠ 19 → q ≠ 20 → q ≠ 22 → q ≠ 23 → M' q = M q) ∧ M' 16 6 = M 16 6 ∧ Oz (M' 19) ∧ Oz (M' 20) ∧ z23 M' ∧ ((R.1 = 0 ∧ M' 17 = R.2.2.2.2 ∧ M' 18 = hisR (M 18) (M 17) (M 16 4) ∧ M' 16 4 = hisN (M 16 4)) ∨ (¬ R.1 = 0 ∧ M' 17 = M 17 ∧ M' 18 = M 18 ∧ M' 16 4 = M 16 4)) := by
  have hW := hS.1
  have hn := h.1
  obtain ⟨w1, w2, w3, w4, w5⟩ := flN_W (f := M 21) (n := M 16 6) 60 0 (M 17) 0 hW (Int.le_refl 0)
  rw [← hR] at w1 w2 w3 w4 w5
  have w6 := w5 (Int.le_refl 0)
  obtain ⟨M1, found, g, a1, a2, a3, a4, a5⟩ := s_X8_faulty (d := d - 1) (by omega) hW hS.2.2.1 h h23 hR
  have f0 := FLP_0 a5 w6.1
  have fb : inR found := by
    by_cases z : R.1 = 0
    · have := f0.1.mp z; omega
    · have := (a5.2 z).1; omega
  have m17 : M1 17 = M 17 := a1 17 (by decide) (by decide) (by decide) (by decide)
  have m18 : M1 18 = M 18 := a1 18 (by decide) (by decide) (by decide) (by decide)
  have m19 : M1 19 = M 19 := a1 19 (by decide) (by decide) (by decide) (by decide)
  have m21 : M1 21 = M 21 := a1 21 (by decide) (by decide) (by decide) (by decide)
  have m6 := a3 6 (by decide)
  have m4 := a3 4 (by decide)
  by_cases c : R.1 = 0
  · have hf := f0.1.mp c
    have x6 : (setR (setR M1 19 (M1 17)) 16 (updI (M1 16) 7 0)) 16 6 = M 16 6 := by
      show updI (M1 16) 7 0 6 = _
      rw [updI_n (by decide), m6]
    have x7 : (setR (setR M1 19 (M1 17)) 16 (updI (M1 16) 7 0)) 16 7 = 0 := by
      show updI (M1 16) 7 0 7 = _
      rw [updI_s]
    have x17 : (setR (setR M1 19 (M1 17)) 16 (updI (M1 16) 7 0)) 17 = M 17 := m17
    have x21 : (setR (setR M1 19 (M1 17)) 16 (updI (M1 16) 7 0)) 21 = M 21 := m21
    obtain ⟨M3, G, b1, b2, b3⟩ := play_loop (d := d) (by omega) 60 (setR (setR M1 19 (M1 17)) 16 (updI (M1 16) 7 0)) 0 (by rw [x17]; exact hW) (by rw [x21, x6]; exact h) (by rw [x7]; decide) (by rw [x7]; decide) (by rw [x6, x7]; omega) a4 (by rw [x21, x6, x7, x17, ← hR]; exact c)
    rw [x21, x6, x7, x17, ← hR] at G b3
    have y18 : M3 18 = M 18 := (b1.1 18 (by decide) (by decide) (by decide) (by decide)).trans m18
    have y19 : M3 19 = M 17 := (b1.1 19 (by decide) (by decide) (by decide) (by decide)).trans m17
    have y20 : M3 20 = M 17 := (b1.1 20 (by decide) (by decide) (by decide) (by decide)).trans a2
    have y4 : M3 16 4 = M 16 4 := by
      rw [b1.2 4 (by decide)]
      show updI (M1 16) 7 0 4 = _
      rw [updI_n (by decide), m4]
    have y6 : M3 16 6 = M 16 6 := (b1.2 6 (by decide)).trans x6
    have pv : plV R = R.2.2.2.1 := if_pos c
    have hn16 := hS.2.2.2
    have K52 : Go d RX8 cX8_play 2 (some .int) 52 [some (.inr 16), some (.inl R.2.2.2.1)] [] M3 (some (.inl (plV R))) (setR (setR M3 18 (hisR (M3 18) (M3 19) (M3 16 4))) 16 (updI (M3 16) 4 (hisN (M3 16 4)))) := by
      rw [pv]
      refine Go_aload_n (pc := 52) dX8_play_52 rfl (by decide) rfl ?_
      refine Go_iload_n (pc := 53) dX8_play_53 rfl rfl ?_
      refine Go_invV (pc := 54) (y := yX8_acted) (avs := [.inl R.2.2.2.1]) (k := 16) (rest := []) (x := .inl R.2.2.2.1) (M1 := setR (setR M3 18 (hisR (M3 18) (M3 19) (M3 16 4))) 16 (updI (M3 16) 4 (hisN (M3 16 4)))) (d' := d - 1) dX8_play_54 ln_X8_51 mo_X8_acted vo_X8_acted rfl (rc_16) rfl rfl (Nat.le_of_ble_eq_true rfl) (by omega) (Nat.le_of_ble_eq_true rfl) rfl (s_X8_acted (by omega) (by omega) (by omega) (by omega)) ?_
      exact Go_ireturn (pc := 57) dX8_play_57 rfl (by first | rfl | (simp_all; done)) rfl
    refine ⟨setR (setR M3 18 (hisR (M3 18) (M3 19) (M3 16 4))) 16 (updI (M3 16) 4 (hisN (M3 16 4))), ?_, fun q k16 k17 k18 k19 k20 k22 k23 => ?_, ?_, ?_, ?_, b2, Or.inl ⟨c, b3, ?_, ?_⟩⟩
    · refine Go_aload_n (pc := 0) dX8_play_0 rfl (by decide) rfl ?_
      refine Go_invV (pc := 1) (y := yX8_faulty) (avs := []) (k := 16) (rest := []) (x := .inl found) (M1 := M1) (d' := d - 1) dX8_play_1 ln_X8_199 mo_X8_faulty vo_X8_faulty rfl (rc_16) rfl rfl (Nat.le_of_ble_eq_true rfl) (by omega) (Nat.le_of_ble_eq_true rfl) rfl (g) ?_
      refine Go_ldc (pc := 4) (n := -1000004) rfl kc_X8_123 dX8_play_4 ?_
      refine Go_icmp_eq (pc := 6) (tgt := 12) dX8_play_6 (by decide) (by omega) (by decide) (fun c6 => ?_) (fun c6 => ?_)
      · refine Go_aload_n (pc := 12) dX8_play_12 rfl (by decide) rfl ?_
        refine Go_invVv (pc := 13) (y := yX8_keeps) (avs := []) (k := 16) (rest := [])  (M1 := setR M1 19 (M1 17)) (d' := d - 1) dX8_play_13 ln_X8_48 mo_X8_keeps vo_X8_keeps rfl (rc_16) rfl rfl (Nat.le_of_ble_eq_true rfl) (by omega) (Nat.le_of_ble_eq_true rfl) rfl (s_X8_keeps (by omega) (show Oz (M1 17) by rw [m17]; exact hW.o) (show Oz (M1 19) by rw [m19]; exact hS.2.1)) ?_
        refine Go_iconst (pc := 16) dX8_play_16 ?_
        refine Go_istore_n (pc := 17) (L' := [some (.inr 16), some (.inl 0)]) dX8_play_17 rfl (by decide) rfl ?_
        refine Go_aload_n (pc := 18) dX8_play_18 rfl (by decide) rfl ?_
        refine Go_iconst (pc := 19) dX8_play_19 ?_
        refine Go_puti (pc := 20) dX8_play_20 fw_X8_159 (by decide) rfl rfl ?_
        refine Go_M (M1 := setR (setR M1 19 (M1 17)) 16 (updI (M1 16) 7 0)) rfl ?_
        exact G _ _ K52
      · refine Go_ldc (pc := 9) (n := -1000002) rfl kc_X8_83 dX8_play_9 ?_
        exfalso; omega
    · rw [setR_n k16, setR_n k18, b1.1 q k16 k17 k22 k23, setR_n k16, setR_n k19, a1 q k16 k20 k22 k23]
    · show updI (M3 16) 4 (hisN (M3 16 4)) 6 = _
      rw [updI_n (by decide), y6]
    · show Oz (M3 19)
      rw [y19]; exact hW.o
    · show Oz (M3 20)
      rw [y20]; exact hW.o
    · show hisR (M3 18) (M3 19) (M3 16 4) = _
      rw [y18, y19, y4]
    · show updI (M3 16) 4 (hisN (M3 16 4)) 4 = _
      rw [updI_s, y4]
  · have hf : ¬ found = -1000004 := fun z => c (f0.1.mpr z)
    have pv : plV R = -1000002 := if_neg c
    rw [pv]
    refine ⟨M1, ?_, fun q k16 k17 k18 k19 k20 k22 k23 => a1 q k16 k20 k22 k23, m6, by rw [m19]; exact hS.2.1, by rw [a2]; exact hW.o, a4, Or.inr ⟨c, m17, m18, m4⟩⟩
    refine Go_aload_n (pc := 0) dX8_play_0 rfl (by decide) rfl ?_
    refine Go_invV (pc := 1) (y := yX8_faulty) (avs := []) (k := 16) (rest := []) (x := .inl found) (M1 := M1) (d' := d - 1) dX8_play_1 ln_X8_199 mo_X8_faulty vo_X8_faulty rfl (rc_16) rfl rfl (Nat.le_of_ble_eq_true rfl) (by omega) (Nat.le_of_ble_eq_true rfl) rfl (g) ?_
    refine Go_ldc (pc := 4) (n := -1000004) rfl kc_X8_123 dX8_play_4 ?_
    refine Go_icmp_eq (pc := 6) (tgt := 12) dX8_play_6 (by decide) (by omega) (by decide) (fun c6 => ?_) (fun c6 => ?_)
    · exfalso; omega
    · refine Go_ldc (pc := 9) (n := -1000002) rfl kc_X8_83 dX8_play_9 ?_
      exact Go_ireturn (pc := 11) dX8_play_11 rfl (by first | rfl | (simp_all; done)) rfl
