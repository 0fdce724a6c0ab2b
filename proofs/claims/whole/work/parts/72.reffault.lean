/-! the reference: the faults of a text -/
theorem DN_W {M M' : gMem} {v : Int} (hW : Wf (M 17)) (h : DN M M' v) : Wf (M' 17) := by
  obtain ⟨_, _, _, h⟩ := h
  rcases h with ⟨_, e, _, f⟩ | ⟨_, e, _, f, _⟩
  · rw [f]; exact hW
  · rw [f]; exact odX_W hW
theorem faulty_end {d : Nat} {M M' : gMem} {v : Option MV} {x : Option MV} (h : TxOk (M 21) (M 16 6)) (p0 : 0 ≤ M 16 7 ∧ M 16 7 ≤ 1000) (hE : M 16 6 ≤ M 16 7) (kk : Go d RX8 cX8_faulty 3 (some .int) 58 [some (.inr 16), some (.inl (-1000004)), x] [] M v M') : Go d RX8 cX8_faulty 3 (some .int) 12 [some (.inr 16), some (.inl (-1000004)), x] [] M v M' := by
  have hn := h.1
  refine Go_aload_n (pc := 12) dX8_faulty_12 rfl (by decide) rfl ?_
  refine Go_geti (pc := 13) (z := M 16 7) dX8_faulty_13 fo_X8_159 (by decide) rfl rfl (rfl) ?_
  refine Go_aload_n (pc := 16) dX8_faulty_16 rfl (by decide) rfl ?_
  refine Go_geti (pc := 17) (z := M 16 6) dX8_faulty_17 fo_X8_156 (by decide) rfl rfl (rfl) ?_
  refine Go_icmp_ge (pc := 20) (tgt := 58) dX8_faulty_20 (by decide) (by omega) (by omega) (fun c20 => ?_) (fun c20 => ?_)
  · exact kk
  · refine Go_iload_n (pc := 23) dX8_faulty_23 rfl rfl ?_
    refine Go_ldc (pc := 24) (n := -1000004) rfl kc_X8_123 dX8_faulty_24 ?_
    refine Go_icmp_ne (pc := 26) (tgt := 58) dX8_faulty_26 (by decide) (by decide) (by decide) (fun q => absurd q (by decide)) (fun _ => ?_)
    exfalso; omega
theorem faulty_in {d : Nat} {M M' : gMem} {v : Option MV} {x : Option MV} (h : TxOk (M 21) (M 16 6)) (p0 : 0 ≤ M 16 7 ∧ M 16 7 ≤ 1000) (hE : ¬ M 16 6 ≤ M 16 7) (kk : Go d RX8 cX8_faulty 3 (some .int) 29 [some (.inr 16), some (.inl (-1000004)), x] [] M v M') : Go d RX8 cX8_faulty 3 (some .int) 12 [some (.inr 16), some (.inl (-1000004)), x] [] M v M' := by
  have hn := h.1
  refine Go_aload_n (pc := 12) dX8_faulty_12 rfl (by decide) rfl ?_
  refine Go_geti (pc := 13) (z := M 16 7) dX8_faulty_13 fo_X8_159 (by decide) rfl rfl (rfl) ?_
  refine Go_aload_n (pc := 16) dX8_faulty_16 rfl (by decide) rfl ?_
  refine Go_geti (pc := 17) (z := M 16 6) dX8_faulty_17 fo_X8_156 (by decide) rfl rfl (rfl) ?_
  refine Go_icmp_ge (pc := 20) (tgt := 58) dX8_faulty_20 (by decide) (by omega) (by omega) (fun c20 => ?_) (fun c20 => ?_)
  · exfalso; omega
  · refine Go_iload_n (pc := 23) dX8_faulty_23 rfl rfl ?_
    refine Go_ldc (pc := 24) (n := -1000004) rfl kc_X8_123 dX8_faulty_24 ?_
    refine Go_icmp_ne (pc := 26) (tgt := 58) dX8_faulty_26 (by decide) (by decide) (by decide) (fun q => absurd q (by decide)) (fun _ => ?_)
    exact kk
theorem faulty_out {d : Nat} {M M' : gMem} {f : Int} {v : Option MV} {x : Option MV} (h : TxOk (M 21) (M 16 6)) (p0 : 0 ≤ M 16 7 ∧ M 16 7 ≤ 1000) (hf : 0 ≤ f ∧ f ≤ 1000) (kk : Go d RX8 cX8_faulty 3 (some .int) 58 [some (.inr 16), some (.inl f), x] [] M v M') : Go d RX8 cX8_faulty 3 (some .int) 12 [some (.inr 16), some (.inl f), x] [] M v M' := by
  have hn := h.1
  refine Go_aload_n (pc := 12) dX8_faulty_12 rfl (by decide) rfl ?_
  refine Go_geti (pc := 13) (z := M 16 7) dX8_faulty_13 fo_X8_159 (by decide) rfl rfl (rfl) ?_
  refine Go_aload_n (pc := 16) dX8_faulty_16 rfl (by decide) rfl ?_
  refine Go_geti (pc := 17) (z := M 16 6) dX8_faulty_17 fo_X8_156 (by decide) rfl rfl (rfl) ?_
  refine Go_icmp_ge (pc := 20) (tgt := 58) dX8_faulty_20 (by decide) (by omega) (by omega) (fun c20 => ?_) (fun c20 => ?_)
  · exact kk
  · refine Go_iload_n (pc := 23) dX8_faulty_23 rfl rfl ?_
    refine Go_ldc (pc := 24) (n := -1000004) rfl kc_X8_123 dX8_faulty_24 ?_
    refine Go_icmp_ne (pc := 26) (tgt := 58) dX8_faulty_26 (by decide) (by omega) (by decide) (fun c26 => ?_) (fun c26 => ?_)
    · exact kk
    · exfalso; omega
theorem faulty_b {d : Nat} (hd : 8 ≤ d) {M M4 M' : gMem} {z : Int} {v : Option MV} {x : Option MV} (hz : 0 < z ∧ z ≤ 3) (g : Go (d - 1) RX8 cX8_doesNext 2 (some .int) 0 [some (.inr 16), none] [] M (some (.inl z)) M4) (kk : Go d RX8 cX8_faulty 3 (some .int) 12 [some (.inr 16), some (.inl (M 16 7)), some (.inl (M 16 7))] [] (setR M4 16 (updI (M4 16) 8 z)) v M') : Go d RX8 cX8_faulty 3 (some .int) 29 [some (.inr 16), some (.inl (-1000004)), x] [] M v M' := by
  refine Go_aload_n (pc := 29) dX8_faulty_29 rfl (by decide) rfl ?_
  refine Go_geti (pc := 30) (z := M 16 7) dX8_faulty_30 fo_X8_159 (by decide) rfl rfl (rfl) ?_
  refine Go_istore_n (pc := 33) (L' := [some (.inr 16), some (.inl (-1000004)), some (.inl (M 16 7))]) dX8_faulty_33 rfl (by decide) rfl ?_
  refine Go_aload_n (pc := 34) dX8_faulty_34 rfl (by decide) rfl ?_
  refine Go_aload_n (pc := 35) dX8_faulty_35 rfl (by decide) rfl ?_
  refine Go_invV (pc := 36) (y := yX8_doesNext) (avs := []) (k := 16) (rest := [.inr 16]) (x := .inl z) (M1 := M4) (d' := d - 1) dX8_faulty_36 ln_X8_193 mo_X8_doesNext vo_X8_doesNext rfl (rc_16) rfl rfl (Nat.le_of_ble_eq_true rfl) (by omega) (Nat.le_of_ble_eq_true rfl) rfl (g) ?_
  refine Go_puti (pc := 39) dX8_faulty_39 fw_X8_196 (by decide) rfl rfl ?_
  refine Go_M (M1 := setR M4 16 (updI (M4 16) 8 z)) rfl ?_
  refine Go_aload_n (pc := 42) dX8_faulty_42 rfl (by decide) rfl ?_
  refine Go_geti (pc := 43) (z := z) dX8_faulty_43 fo_X8_196 (by decide) rfl rfl (show (updI (M4 16) 8 z) 8 = z from updI_s _ _ _) ?_
  refine Go_if_le (pc := 46) (tgt := 53) dX8_faulty_46 (by decide) (by omega) (fun c46 => ?_) (fun c46 => ?_)
  · refine Go_iload_n (pc := 53) dX8_faulty_53 rfl rfl ?_
    refine Go_istore_n (pc := 54) (L' := [some (.inr 16), some (.inl (-1000004)), some (.inl (M 16 7))]) dX8_faulty_54 rfl (by decide) rfl ?_
    refine Go_goto (pc := 55) (tgt := 12) dX8_faulty_55 (by decide) ?_
    first | (exfalso; omega) | exact kk
  · refine Go_iload_n (pc := 49) dX8_faulty_49 rfl rfl ?_
    refine Go_goto (pc := 50) (tgt := 54) dX8_faulty_50 (by decide) ?_
    refine Go_istore_n (pc := 54) (L' := [some (.inr 16), some (.inl (M 16 7)), some (.inl (M 16 7))]) dX8_faulty_54 rfl (by decide) rfl ?_
    refine Go_goto (pc := 55) (tgt := 12) dX8_faulty_55 (by decide) ?_
    first | (exfalso; omega) | exact kk
theorem faulty_o {d : Nat} (hd : 8 ≤ d) {M M4 M' : gMem} {v : Option MV} {x : Option MV} (g : Go (d - 1) RX8 cX8_doesNext 2 (some .int) 0 [some (.inr 16), none] [] M (some (.inl 0)) M4) (kk : Go d RX8 cX8_faulty 3 (some .int) 12 [some (.inr 16), some (.inl (-1000004)), some (.inl (M 16 7))] [] (setR M4 16 (updI (M4 16) 8 0)) v M') : Go d RX8 cX8_faulty 3 (some .int) 29 [some (.inr 16), some (.inl (-1000004)), x] [] M v M' := by
  refine Go_aload_n (pc := 29) dX8_faulty_29 rfl (by decide) rfl ?_
  refine Go_geti (pc := 30) (z := M 16 7) dX8_faulty_30 fo_X8_159 (by decide) rfl rfl (rfl) ?_
  refine Go_istore_n (pc := 33) (L' := [some (.inr 16), some (.inl (-1000004)), some (.inl (M 16 7))]) dX8_faulty_33 rfl (by decide) rfl ?_
  refine Go_aload_n (pc := 34) dX8_faulty_34 rfl (by decide) rfl ?_
  refine Go_aload_n (pc := 35) dX8_faulty_35 rfl (by decide) rfl ?_
  refine Go_invV (pc := 36) (y := yX8_doesNext) (avs := []) (k := 16) (rest := [.inr 16]) (x := .inl 0) (M1 := M4) (d' := d - 1) dX8_faulty_36 ln_X8_193 mo_X8_doesNext vo_X8_doesNext rfl (rc_16) rfl rfl (Nat.le_of_ble_eq_true rfl) (by omega) (Nat.le_of_ble_eq_true rfl) rfl (g) ?_
  refine Go_puti (pc := 39) dX8_faulty_39 fw_X8_196 (by decide) rfl rfl ?_
  refine Go_M (M1 := setR M4 16 (updI (M4 16) 8 0)) rfl ?_
  refine Go_aload_n (pc := 42) dX8_faulty_42 rfl (by decide) rfl ?_
  refine Go_geti (pc := 43) (z := 0) dX8_faulty_43 fo_X8_196 (by decide) rfl rfl (show (updI (M4 16) 8 0) 8 = 0 from updI_s _ _ _) ?_
  refine Go_if_le (pc := 46) (tgt := 53) dX8_faulty_46 (by decide) (by decide) (fun _ => ?_) (fun q => absurd q (by decide))
  refine Go_iload_n (pc := 53) dX8_faulty_53 rfl rfl ?_
  refine Go_istore_n (pc := 54) (L' := [some (.inr 16), some (.inl (-1000004)), some (.inl (M 16 7))]) dX8_faulty_54 rfl (by decide) rfl ?_
  refine Go_goto (pc := 55) (tgt := 12) dX8_faulty_55 (by decide) ?_
  exact kk
def FLP (M' : gMem) (found : Int) (R : FR) : Prop := (R.1 = 0 → found = -1000004) ∧ (¬ R.1 = 0 → found = R.2.1 ∧ M' 16 8 = R.1 ∧ M' 16 9 = if R.1 = 1 then R.2.2.1 else -1000004)
theorem rsn_b (z : Int) : rsn z = 0 ∨ rsn z = 2 ∨ rsn z = 3 := by
  unfold rsn
  (repeat' split) <;> omega
theorem updRow {M4 : gMem} {z : Int} : FrR M4 (setR M4 16 (updI (M4 16) 8 z)) := ⟨fun q a _ _ _ => setR_n a, fun q hq => by show updI (M4 16) 8 z q = _; rw [updI_n (by omega)]⟩
theorem faulty_loop {d : Nat} (hd : 8 ≤ d) : ∀ (m : Nat) (M : gMem) (o : Int), Wf (M 17) → TxOk (M 21) (M 16 6) → 0 ≤ M 16 7 → M 16 7 ≤ 1000 → M 16 6 - M 16 7 ≤ m → z23 M → ∃ M' found, (∀ (x v : Option MV) (M2 : gMem), (∀ y, Go d RX8 cX8_faulty 3 (some .int) 58 [some (.inr 16), some (.inl found), y] [] M' v M2) → Go d RX8 cX8_faulty 3 (some .int) 12 [some (.inr 16), some (.inl (-1000004)), x] [] M v M2) ∧ FrR M M' ∧ z23 M' ∧ Wf (M' 17) ∧ FLP M' found (flN (M 21) (M 16 6) m (M 16 7) (M 17) o) := by
  intro m
  induction m with
  | zero =>
    intro M o hW h p0 p1 hm h23
    refine ⟨M, -1000004, fun x v M2 kk => faulty_end h ⟨p0, p1⟩ (by omega) (kk _), ⟨fun _ _ _ _ _ => rfl, fun _ _ => rfl⟩, h23, hW, fun _ => rfl, fun z => absurd rfl z⟩
  | succ m IH =>
    intro M o hW h p0 p1 hm h23
    have hn := h.1
    by_cases c : M 16 6 ≤ M 16 7
    · refine ⟨M, -1000004, fun x v M2 kk => faulty_end h ⟨p0, p1⟩ c (kk _), ⟨fun _ _ _ _ _ => rfl, fun _ _ => rfl⟩, h23, hW, fun _ => rfl, fun z => ?_⟩
      rw [flN_end _ c] at z
      exact absurd rfl z
    · obtain ⟨M4, z, g, hDN⟩ := s_X8_doesNext (d := d - 1) (by omega) hW h p0 (by omega) h23
      have hW4 := DN_W hW hDN
      obtain ⟨fr, z4, h7, hc⟩ := hDN
      have f6 := fr.2 6 (by decide)
      have f21 := fr.1 21 (by decide) (by decide) (by decide) (by decide)
      have fr5 := FrR_t fr (updRow (M4 := M4) (z := z))
      have tx5 : TxOk ((setR M4 16 (updI (M4 16) 8 z)) 21) ((setR M4 16 (updI (M4 16) 8 z)) 16 6) := by
        rw [fr5.1 21 (by decide) (by decide) (by decide) (by decide), fr5.2 6 (by decide)]
        exact h
      have p5 : 0 ≤ (setR M4 16 (updI (M4 16) 8 z)) 16 7 ∧ (setR M4 16 (updI (M4 16) 8 z)) 16 7 ≤ 1000 := by
        show 0 ≤ updI (M4 16) 8 z 7 ∧ updI (M4 16) 8 z 7 ≤ 1000
        rw [updI_n (by decide)]
        exact h7
      have e8 : (setR M4 16 (updI (M4 16) 8 z)) 16 8 = z := by
        show updI (M4 16) 8 z 8 = z
        rw [updI_s]
      have e9 : (setR M4 16 (updI (M4 16) 8 z)) 16 9 = M4 16 9 := by
        show updI (M4 16) 8 z 9 = _
        rw [updI_n (by decide)]
      rcases hc with ⟨hb, ez, ec, ew⟩ | ⟨hb, ez, ec, ew, ep⟩
      · refine ⟨setR M4 16 (updI (M4 16) 8 z), M 16 7, fun x v M2 kk => faulty_in h ⟨p0, p1⟩ c (faulty_b hd (by omega) g (faulty_out tx5 p5 ⟨p0, p1⟩ (kk _))), fr5, z4, hW4, ?_⟩
        rw [flN_form m c hb]
        refine ⟨fun q => absurd q (show ¬ (1 : Int) = 0 by decide), fun _ => ⟨rfl, e8.trans ez, ?_⟩⟩
        rw [e9, ec]
        rfl
      · have hr3 := rsn_b (odX (M 21) (M 16 6) (M 16 7) (M 17)).1
        by_cases hr : rsn (odX (M 21) (M 16 6) (M 16 7) (M 17)).1 = 0
        · rw [flN_ok m c hb hr]
          have z0 : z = 0 := ez.trans hr
          subst z0
          have hl : 7 ≤ olF (kdF (M 21) (M 16 6) (M 16 7)) ∧ olF (kdF (M 21) (M 16 6) (M 16 7)) ≤ 9 := by
            unfold olF
            (repeat' split) <;> omega
          have e7 : (setR M4 16 (updI (M4 16) 8 0)) 16 7 = M 16 7 + olF (kdF (M 21) (M 16 6) (M 16 7)) := by
            show updI (M4 16) 8 0 7 = _
            rw [updI_n (by decide)]
            exact ep
          have e6 := fr5.2 6 (by decide)
          obtain ⟨M', found, G, a1, a2, a3, a4⟩ := IH (setR M4 16 (updI (M4 16) 8 0)) (o + 1) hW4 tx5 p5.1 p5.2 (by omega) z4
          refine ⟨M', found, fun x v M2 kk => faulty_in h ⟨p0, p1⟩ c (faulty_o hd g (G _ _ _ kk)), FrR_t fr5 a1, a2, a3, ?_⟩
          have e17 : (setR M4 16 (updI (M4 16) 8 0)) 17 = (odX (M 21) (M 16 6) (M 16 7) (M 17)).2 := ew
          rw [e7, e6, fr5.1 21 (by decide) (by decide) (by decide) (by decide), e17] at a4
          exact a4
        · rw [flN_no m c hb hr]
          refine ⟨setR M4 16 (updI (M4 16) 8 z), M 16 7, fun x v M2 kk => faulty_in h ⟨p0, p1⟩ c (faulty_b hd (by omega) g (faulty_out tx5 p5 ⟨p0, p1⟩ (kk _))), fr5, z4, hW4, ?_⟩
          refine ⟨fun q => absurd q hr, fun _ => ⟨rfl, e8.trans ez, ?_⟩⟩
          rw [e9, ec]
          exact (if_neg (show ¬ rsn (odX (M 21) (M 16 6) (M 16 7) (M 17)).1 = 1 by omega)).symm
theorem s_X8_faulty {d : Nat} (hd : 8 ≤ d) {M : gMem} (hW : Wf (M 17)) (h20 : Oz (M 20)) (h : TxOk (M 21) (M 16 6)) (h23 : z23 M) {R : FR} (hR : R = flN (M 21) (M 16 6) 60 0 (M 17) 0) : ∃ M' found, Go d RX8 cX8_faulty 3 (some .int) 0 [some (.inr 16), none, none] [] M (some (.inl found)) M' ∧ (∀ q, q ≠ 16 → q ≠ 20 → q ≠ 22 → q ≠ 23 → M' q = M q) ∧ M' 20 = M 17 ∧ (∀ q, q ≤ 6 → M' 16 q = M 16 q) ∧ z23 M' ∧ FLP M' found R := by
  have hn := h.1
  obtain ⟨M2, found, G, a1, a2, a3, a4⟩ := faulty_loop hd 60 (setR (setR M 20 (M 17)) 16 (updI (M 16) 7 0)) 0 hW (by show TxOk (M 21) (updI (M 16) 7 0 6); rw [updI_n (by decide)]; exact h) (by show 0 ≤ updI (M 16) 7 0 7; rw [updI_s]; decide) (by show updI (M 16) 7 0 7 ≤ 1000; rw [updI_s]; decide) (by show updI (M 16) 7 0 6 - updI (M 16) 7 0 7 ≤ ((60 : Nat) : Int); rw [updI_s, updI_n (by decide)]; omega) h23
  have m20 : M2 20 = M 17 := a1.1 20 (by decide) (by decide) (by decide) (by decide)
  have a5 : FLP M2 found R := by
    have e6 : (setR (setR M 20 (M 17)) 16 (updI (M 16) 7 0)) 16 6 = M 16 6 := by
      show updI (M 16) 7 0 6 = _
      rw [updI_n (by decide)]
    have e7 : (setR (setR M 20 (M 17)) 16 (updI (M 16) 7 0)) 16 7 = 0 := by
      show updI (M 16) 7 0 7 = _
      rw [updI_s]
    rw [e6, e7] at a4
    rw [hR]
    exact a4
  have K58 : ∀ y : Option MV, Go d RX8 cX8_faulty 3 (some .int) 58 [some (.inr 16), some (.inl found), y] [] M2 (some (.inl found)) (setR M2 17 (M 17)) := by
    intro y
    refine Go_aload_n (pc := 58) dX8_faulty_58 rfl (by decide) rfl ?_
    refine Go_invVv (pc := 59) (y := yX8_restores) (avs := []) (k := 16) (rest := [])  (M1 := setR M2 17 (M2 20)) (d' := d - 1) dX8_faulty_59 ln_X8_134 mo_X8_restores vo_X8_restores rfl (rc_16) rfl rfl (Nat.le_of_ble_eq_true rfl) (by omega) (Nat.le_of_ble_eq_true rfl) rfl (s_X8_restores (by omega) (show Oz (M2 20) by rw [m20]; exact hW.o) a3.o) ?_
    refine Go_iload_n (pc := 62) dX8_faulty_62 rfl rfl ?_
    exact Go_ireturn (pc := 63) dX8_faulty_63 rfl rfl (by rw [m20])
  refine ⟨setR M2 17 (M 17), found, ?_, fun q b16 b20 b22 b23 => ?_, m20, fun q hq => ?_, a2, a5⟩
  · refine Go_aload_n (pc := 0) dX8_faulty_0 rfl (by decide) rfl ?_
    refine Go_invVv (pc := 1) (y := yX8_puts) (avs := []) (k := 16) (rest := [])  (M1 := setR M 20 (M 17)) (d' := d - 1) dX8_faulty_1 ln_X8_128 mo_X8_puts vo_X8_puts rfl (rc_16) rfl rfl (Nat.le_of_ble_eq_true rfl) (by omega) (Nat.le_of_ble_eq_true rfl) rfl (s_X8_puts (by omega) hW.o h20) ?_
    refine Go_ldc (pc := 4) (n := -1000004) rfl kc_X8_123 dX8_faulty_4 ?_
    refine Go_istore_n (pc := 6) (L' := [some (.inr 16), some (.inl (-1000004)), none]) dX8_faulty_6 rfl (by decide) rfl ?_
    refine Go_aload_n (pc := 7) dX8_faulty_7 rfl (by decide) rfl ?_
    refine Go_iconst (pc := 8) dX8_faulty_8 ?_
    refine Go_puti (pc := 9) dX8_faulty_9 fw_X8_159 (by decide) rfl rfl ?_
    refine Go_M (M1 := setR (setR M 20 (M 17)) 16 (updI (M 16) 7 0)) rfl ?_
    exact G _ _ _ K58
  · by_cases e : q = 17
    · subst e
      exact setR_s _ _ _
    · rw [setR_n e, a1.1 q b16 e b22 b23]
      show setR (setR M 20 (M 17)) 16 (updI (M 16) 7 0) q = _
      rw [setR_n b16, setR_n b20]
  · show M2 16 q = _
    rw [a1.2 q hq]
    show updI (M 16) 7 0 q = _
    rw [updI_n (by omega)]
theorem FLP_0 {M' : gMem} {found : Int} {R : FR} (h : FLP M' found R) (hp : 0 ≤ R.2.1) : (R.1 = 0 ↔ found = -1000004) ∧ (¬ R.1 = 0 → 0 ≤ found) := by
  by_cases c : R.1 = 0
  · exact ⟨⟨fun _ => h.1 c, fun _ => c⟩, fun z => absurd c z⟩
  · have := (h.2 c).1
    exact ⟨⟨fun z => absurd z c, fun z => by omega⟩, fun _ => by omega⟩
theorem s_X8_fault {d : Nat} (hd : 9 ≤ d) {e : Int} {M : gMem} (he : inR e) (hW : Wf (M 17)) (h20 : Oz (M 20)) (h : TxOk (M 21) (M 16 6)) (h23 : z23 M) {R : FR} (hR : R = flN (M 21) (M 16 6) 60 0 (M 17) 0) : ∃ M', Go d RX8 cX8_fault 3 (some .int) 0 [some (.inr 16), some (.inl e), none] [] M (some (.inl (faF R e))) M' ∧ (∀ q, q ≠ 16 → q ≠ 20 → q ≠ 22 → q ≠ 23 → M' q = M q) ∧ Oz (M' 20) ∧ (∀ q, q ≤ 6 → M' 16 q = M 16 q) ∧ z23 M' := by
  obtain ⟨w1, w2, w3, w4, w5⟩ := flN_W (f := M 21) (n := M 16 6) 60 0 (M 17) 0 hW (Int.le_refl 0)
  rw [← hR] at w1 w2 w3 w4 w5
  have w6 := w5 (Int.le_refl 0)
  by_cases c : e < 0 ∨ 2 < e
  · refine ⟨M, ?_, fun _ _ _ _ _ => rfl, h20, fun _ _ => rfl, h23⟩
    rw [show faF R e = -1000001 from if_pos c]
    refine Go_iload_n (pc := 0) dX8_fault_0 rfl rfl ?_
    refine Go_iconst (pc := 1) dX8_fault_1 ?_
    refine Go_iconst (pc := 2) dX8_fault_2 ?_
    refine Go_invS (pc := 3) (y := yX8_in) (avs := [.inl e, .inl 0, .inl 2]) (rest := []) (x := .inl (b2i (0 ≤ e ∧ e ≤ 2)))  (d' := d - 1) dX8_fault_3 ln_X8_38 mo_X8_in so_X8_in rfl rfl rfl (Nat.le_of_ble_eq_true rfl) (by omega) (Nat.le_of_ble_eq_true rfl) rfl (s_X8_in (by omega) (by omega) (by decide) (by decide)) ?_
    refine Go_ifneB (pc := 6) (tgt := 12) dX8_fault_6 (by decide) (fun c6 => ?_) (fun c6 => ?_)
    · exfalso; omega
    · refine Go_ldc (pc := 9) (n := -1000001) rfl kc_X8_42 dX8_fault_9 ?_
      exact Go_ireturn (pc := 11) dX8_fault_11 rfl (by first | rfl | (simp_all; done)) rfl
  · obtain ⟨M1, found, g, a1, a2, a3, a4, a5⟩ := s_X8_faulty (d := d - 1) (by omega) hW h20 h h23 hR
    have f0 := FLP_0 a5 w6.1
    have f1 : ¬ R.1 = 0 → found = R.2.1 ∧ M1 16 8 = R.1 := fun z => ⟨(a5.2 z).1, (a5.2 z).2.1⟩
    have f2 : ¬ R.1 = 0 → (R.1 = 1 → M1 16 9 = R.2.2.1) ∧ (¬ R.1 = 1 → M1 16 9 = -1000004) := fun z => by
      have := (a5.2 z).2.2
      exact ⟨fun y => by rw [this, if_pos y], fun y => by rw [this, if_neg y]⟩
    refine ⟨M1, ?_, a1, (by rw [a2]; exact hW.o), a3, a4⟩
    have v0 : R.1 = 0 → faF R e = found := fun z => by unfold faF; rw [if_neg c, if_pos z]; exact (f0.1.mp z).symm
    have v1 : ¬ R.1 = 0 → e = 0 → faF R e = found := fun z y => by unfold faF; rw [if_neg c, if_neg z, if_pos y]; exact (f1 z).1.symm
    have v2 : ¬ R.1 = 0 → e = 1 → faF R e = M1 16 8 := fun z y => by unfold faF; rw [if_neg c, if_neg z, if_neg (show ¬ e = 0 by omega), if_pos y]; exact (f1 z).2.symm
    have v3 : ¬ R.1 = 0 → e = 2 → faF R e = M1 16 9 := fun z y => by
      unfold faF
      rw [if_neg c, if_neg z, if_neg (show ¬ e = 0 by omega), if_neg (show ¬ e = 1 by omega)]
      by_cases x : R.1 = 1
      · rw [if_pos x]; exact ((f2 z).1 x).symm
      · rw [if_neg x]; exact ((f2 z).2 x).symm
    have fb : inR found := by
      by_cases z : R.1 = 0
      · have := f0.1.mp z; omega
      · have := f1 z; omega
    refine Go_iload_n (pc := 0) dX8_fault_0 rfl rfl ?_
    refine Go_iconst (pc := 1) dX8_fault_1 ?_
    refine Go_iconst (pc := 2) dX8_fault_2 ?_
    refine Go_invS (pc := 3) (y := yX8_in) (avs := [.inl e, .inl 0, .inl 2]) (rest := []) (x := .inl (b2i (0 ≤ e ∧ e ≤ 2)))  (d' := d - 1) dX8_fault_3 ln_X8_38 mo_X8_in so_X8_in rfl rfl rfl (Nat.le_of_ble_eq_true rfl) (by omega) (Nat.le_of_ble_eq_true rfl) rfl (s_X8_in (by omega) (by omega) (by decide) (by decide)) ?_
    refine Go_ifneB (pc := 6) (tgt := 12) dX8_fault_6 (by decide) (fun c6 => ?_) (fun c6 => ?_)
    · refine Go_aload_n (pc := 12) dX8_fault_12 rfl (by decide) rfl ?_
      refine Go_invV (pc := 13) (y := yX8_faulty) (avs := []) (k := 16) (rest := []) (x := .inl found) (M1 := M1) (d' := d - 1) dX8_fault_13 ln_X8_199 mo_X8_faulty vo_X8_faulty rfl (rc_16) rfl rfl (Nat.le_of_ble_eq_true rfl) (by omega) (Nat.le_of_ble_eq_true rfl) rfl (g) ?_
      refine Go_istore_n (pc := 16) (L' := [some (.inr 16), some (.inl e), some (.inl found)]) dX8_fault_16 rfl (by decide) rfl ?_
      refine Go_iload_n (pc := 17) dX8_fault_17 rfl rfl ?_
      refine Go_ldc (pc := 18) (n := -1000004) rfl kc_X8_123 dX8_fault_18 ?_
      refine Go_icmp_eq (pc := 20) (tgt := 27) dX8_fault_20 (by decide) (by omega) (by decide) (fun c20 => ?_) (fun c20 => ?_)
      · refine Go_iload_n (pc := 27) dX8_fault_27 rfl rfl ?_
        refine Go_goto (pc := 28) (tgt := 47) dX8_fault_28 (by decide) ?_
        first | (exfalso; omega) | exact Go_ireturn (pc := 47) dX8_fault_47 rfl (by first | rw [v0 (by omega)] | rw [v1 (by omega) (by omega)] | rw [v2 (by omega) (by omega)] | rw [v3 (by omega) (by omega)]) rfl
      · refine Go_iload_n (pc := 23) dX8_fault_23 rfl rfl ?_
        refine Go_if_ne (pc := 24) (tgt := 31) dX8_fault_24 (by decide) (by omega) (fun c24 => ?_) (fun c24 => ?_)
        · refine Go_iload_n (pc := 31) dX8_fault_31 rfl rfl ?_
          refine Go_iconst (pc := 32) dX8_fault_32 ?_
          refine Go_icmp_ne (pc := 33) (tgt := 43) dX8_fault_33 (by decide) (by omega) (by decide) (fun c33 => ?_) (fun c33 => ?_)
          · refine Go_aload_n (pc := 43) dX8_fault_43 rfl (by decide) rfl ?_
            refine Go_geti (pc := 44) (z := M1 16 9) dX8_fault_44 fo_X8_187 (by decide) rfl rfl (rfl) ?_
            first | (exfalso; omega) | exact Go_ireturn (pc := 47) dX8_fault_47 rfl (by first | rw [v0 (by omega)] | rw [v1 (by omega) (by omega)] | rw [v2 (by omega) (by omega)] | rw [v3 (by omega) (by omega)]) rfl
          · refine Go_aload_n (pc := 36) dX8_fault_36 rfl (by decide) rfl ?_
            refine Go_geti (pc := 37) (z := M1 16 8) dX8_fault_37 fo_X8_196 (by decide) rfl rfl (rfl) ?_
            refine Go_goto (pc := 40) (tgt := 47) dX8_fault_40 (by decide) ?_
            first | (exfalso; omega) | exact Go_ireturn (pc := 47) dX8_fault_47 rfl (by first | rw [v0 (by omega)] | rw [v1 (by omega) (by omega)] | rw [v2 (by omega) (by omega)] | rw [v3 (by omega) (by omega)]) rfl
        · refine Go_iload_n (pc := 27) dX8_fault_27 rfl rfl ?_
          refine Go_goto (pc := 28) (tgt := 47) dX8_fault_28 (by decide) ?_
          first | (exfalso; omega) | exact Go_ireturn (pc := 47) dX8_fault_47 rfl (by first | rw [v0 (by omega)] | rw [v1 (by omega) (by omega)] | rw [v2 (by omega) (by omega)] | rw [v3 (by omega) (by omega)]) rfl
    · refine Go_ldc (pc := 9) (n := -1000001) rfl kc_X8_42 dX8_fault_9 ?_
      first | (exfalso; omega) | exact Go_ireturn (pc := 11) dX8_fault_11 rfl (by first | rw [v0 (by omega)] | rw [v1 (by omega) (by omega)] | rw [v2 (by omega) (by omega)] | rw [v3 (by omega) (by omega)]) rfl
