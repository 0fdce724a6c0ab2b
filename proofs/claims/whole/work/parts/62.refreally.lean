/-! the reference: reallyDo -/
theorem s_X8_reallyDo {d : Nat} (hd : 8 ≤ d) {M : gMem} (hW : Wf (M 17)) (h20 : Oz (M 20)) (h23 : ∀ q, q < 0 ∨ 8 ≤ q → M 23 q = 0) : ∃ M' v, Go d RX8 cX8_reallyDo 2 (some .int) 0 [some (.inr 16), none] [] M (some (.inl v)) M' ∧ (∀ k, k ≠ 20 → k ≠ 22 → k ≠ 23 → k ≠ 24 → k ≠ 25 → M' k = M k) ∧ Oz (M' 20) ∧ (∀ q, q < 0 ∨ 8 ≤ q → M' 23 q = 0) ∧ RDA (M 17) v := by
  have ht := hW.t
  obtain ⟨best, p, t, g, hb, lp⟩ := s_X8_finds (d := d - 1) (by omega) hW
  have bb := bsL_b hb
  by_cases c0 : best < 0
  · refine ⟨setR (setR M 24 p) 25 t, rdW (M 17) (bsL best) p, ?_, fun k _ _ _ a b => by rw [setR_n b, setR_n a], h20, h23, ⟨_, _, lp, rfl⟩⟩
    have ev : rdW (M 17) (bsL best) p = -1000004 := if_neg (bb.1 c0)
    rw [ev]
    refine Go_aload_n (pc := 0) dX8_reallyDo_0 rfl (by decide) rfl ?_
    refine Go_invV (pc := 1) (y := yX8_finds) (avs := []) (k := 16) (rest := []) (x := .inl best) (M1 := setR (setR M 24 p) 25 t) (d' := d - 1) dX8_reallyDo_1 ln_X8_144 mo_X8_finds vo_X8_finds rfl (rc_16) rfl rfl (Nat.le_of_ble_eq_true rfl) (by omega) (Nat.le_of_ble_eq_true rfl) rfl (g) ?_
    refine Go_if_ge (pc := 4) (tgt := 10) dX8_reallyDo_4 (by decide) (by omega) (fun c4 => ?_) (fun c4 => ?_)
    · exfalso; omega
    · refine Go_ldc (pc := 7) (n := -1000004) rfl kc_X8_123 dX8_reallyDo_7 ?_
      exact Go_ireturn (pc := 9) dX8_reallyDo_9 rfl (by first | rfl | (simp_all; done)) rfl
  · have ev : rdW (M 17) (bsL best) p = rdV (M 17) p := if_pos (bb.2 c0).1
    have hbx := (LeP_b hW lp).2 (bb.2 c0).1
    have K : ∀ i, 0 ≤ i → i ≤ M 17 1 → ∀ (g22 g23 : Int → Int), (∀ q, q < 0 ∨ 8 ≤ q → g23 q = 0) → ∃ h22 h23, (∀ q, q < 0 ∨ 8 ≤ q → h23 q = 0) ∧ Go d RX8 cX8_reallyDo 2 (some .int) 16 [some (.inr 16), some (.inl i)] [] (setR (setR (setR (setR (setR (setR M 24 p) 25 t) 20 (M 17)) 17 (rdZ (M 17) p i)) 22 g22) 23 g23) (some (.inl (rdV (M 17) p))) (setR (setR (setR (setR (setR M 24 p) 25 t) 20 (M 17)) 22 h22) 23 h23) := by
      refine up_ind 0 (M 17 1) _ (fun i i0 i1 ih g22 g23 hg => ?_)
      obtain ⟨hP, hq⟩ := rdZ_W hW p i
      have hbi := hbx i i0
      rw [rdZ_s _ _ i0] at ih
      have eE : i = M 17 1 → rdV (M 17) p = b2i (standF (rdZ (M 17) p i) = toldF (rdZ (M 17) p i)) := fun e => by subst e; rfl
      generalize rdZ (M 17) p i = P at ih hP hq eE ⊢
      have q1 := hq 1 (by decide) (by decide)
      have b1 := standF_b hP
      have b2 := toldF_b hP
      by_cases ci : i = M 17 1
      · refine ⟨g22, g23, hg, ?_⟩
        have ee := eE ci
        refine Go_iload_n (pc := 16) dX8_reallyDo_16 rfl rfl ?_
        refine Go_aload_n (pc := 17) dX8_reallyDo_17 rfl (by decide) rfl ?_
        refine Go_getr (pc := 18) (r := 17) dX8_reallyDo_18 fo_X8_7 (by decide) rfl rfl (by decide) ?_
        refine Go_iconst (pc := 21) dX8_reallyDo_21 ?_
        refine Go_iaload (pc := 22) (z := P 1) dX8_reallyDo_22 (by decide) rfl (by decide) (by decide) (rfl) ?_
        refine Go_icmp_ge (pc := 23) (tgt := 44) dX8_reallyDo_23 (by decide) (by omega) (by omega) (fun c23 => ?_) (fun c23 => ?_)
        · refine Go_aload_n (pc := 44) dX8_reallyDo_44 rfl (by decide) rfl ?_
          refine Go_invV (pc := 45) (y := yX8_standing) (avs := []) (k := 16) (rest := []) (x := .inl (standF P))  (d' := d - 1) dX8_reallyDo_45 ln_X8_93 mo_X8_standing vo_X8_standing rfl (rc_16) rfl rfl (Nat.le_of_ble_eq_true rfl) (by omega) (Nat.le_of_ble_eq_true rfl) rfl (s_X8_standing (by omega) hP) ?_
          refine Go_aload_n (pc := 48) dX8_reallyDo_48 rfl (by decide) rfl ?_
          refine Go_invV (pc := 49) (y := yX8_allTold) (avs := []) (k := 16) (rest := [.inl (standF P)]) (x := .inl (toldF P))  (d' := d - 1) dX8_reallyDo_49 ln_X8_103 mo_X8_allTold vo_X8_allTold rfl (rc_16) rfl rfl (Nat.le_of_ble_eq_true rfl) (by omega) (Nat.le_of_ble_eq_true rfl) rfl (s_X8_allTold (by omega) hP) ?_
          refine Go_icmp_ne (pc := 52) (tgt := 59) dX8_reallyDo_52 (by decide) (by omega) (by omega) (fun c52 => ?_) (fun c52 => ?_)
          · refine Go_iconst (pc := 59) dX8_reallyDo_59 ?_
            refine Go_istore_n (pc := 60) (L' := [some (.inr 16), some (.inl 0)]) dX8_reallyDo_60 rfl (by decide) rfl ?_
            refine Go_aload_n (pc := 61) dX8_reallyDo_61 rfl (by decide) rfl ?_
            refine Go_invVv (pc := 62) (y := yX8_restores) (avs := []) (k := 16) (rest := [])   (d' := d - 1) dX8_reallyDo_62 ln_X8_134 mo_X8_restores vo_X8_restores rfl (rc_16) rfl rfl (Nat.le_of_ble_eq_true rfl) (by omega) (Nat.le_of_ble_eq_true rfl) rfl (s_X8_restores (by omega) hW.o hP.o) ?_
            refine Go_M (M1 := setR (setR (setR (setR (setR (setR M 24 p) 25 t) 20 (M 17)) 22 g22) 23 g23) 17 (M 17)) (by funext q; simp only [setR]; (repeat' split) <;> first | rfl | omega | simp_all) ?_
            refine Go_iload_n (pc := 65) dX8_reallyDo_65 rfl rfl ?_
            refine Go_if_eq (pc := 66) (tgt := 73) dX8_reallyDo_66 (by decide) (by decide) (fun _ => ?_) (fun q => absurd q (by decide))
            refine Go_iconst (pc := 73) dX8_reallyDo_73 ?_
            first | (exfalso; omega) | skip
            first | rw [b2i_t (by omega)] at ee | rw [b2i_f (by omega)] at ee
            exact Go_ireturn (pc := 74) dX8_reallyDo_74 rfl (by rw [ee]) (by funext q; simp only [setR]; (repeat' split) <;> first | rfl | omega | simp_all)
          · refine Go_iconst (pc := 55) dX8_reallyDo_55 ?_
            refine Go_goto (pc := 56) (tgt := 60) dX8_reallyDo_56 (by decide) ?_
            refine Go_istore_n (pc := 60) (L' := [some (.inr 16), some (.inl 1)]) dX8_reallyDo_60 rfl (by decide) rfl ?_
            refine Go_aload_n (pc := 61) dX8_reallyDo_61 rfl (by decide) rfl ?_
            refine Go_invVv (pc := 62) (y := yX8_restores) (avs := []) (k := 16) (rest := [])   (d' := d - 1) dX8_reallyDo_62 ln_X8_134 mo_X8_restores vo_X8_restores rfl (rc_16) rfl rfl (Nat.le_of_ble_eq_true rfl) (by omega) (Nat.le_of_ble_eq_true rfl) rfl (s_X8_restores (by omega) hW.o hP.o) ?_
            refine Go_M (M1 := setR (setR (setR (setR (setR (setR M 24 p) 25 t) 20 (M 17)) 22 g22) 23 g23) 17 (M 17)) (by funext q; simp only [setR]; (repeat' split) <;> first | rfl | omega | simp_all) ?_
            refine Go_iload_n (pc := 65) dX8_reallyDo_65 rfl rfl ?_
            refine Go_if_eq (pc := 66) (tgt := 73) dX8_reallyDo_66 (by decide) (by decide) (fun q => absurd q (by decide)) (fun _ => ?_)
            refine Go_iconst (pc := 69) dX8_reallyDo_69 ?_
            refine Go_goto (pc := 70) (tgt := 74) dX8_reallyDo_70 (by decide) ?_
            first | (exfalso; omega) | skip
            first | rw [b2i_t (by omega)] at ee | rw [b2i_f (by omega)] at ee
            exact Go_ireturn (pc := 74) dX8_reallyDo_74 rfl (by rw [ee]) (by funext q; simp only [setR]; (repeat' split) <;> first | rfl | omega | simp_all)
        · exfalso; omega
      · by_cases cp : p i = 0
        · obtain ⟨h22, h23, hh, G⟩ := ih (by omega) g22 g23 hg
          refine ⟨h22, h23, hh, ?_⟩
          rw [pullC_n (fun z => z.2.1 cp)] at G
          have nk : ¬ pullOk P i (p i) := fun z => z.2.1 cp
          refine Go_iload_n (pc := 16) dX8_reallyDo_16 rfl rfl ?_
          refine Go_aload_n (pc := 17) dX8_reallyDo_17 rfl (by decide) rfl ?_
          refine Go_getr (pc := 18) (r := 17) dX8_reallyDo_18 fo_X8_7 (by decide) rfl rfl (by decide) ?_
          refine Go_iconst (pc := 21) dX8_reallyDo_21 ?_
          refine Go_iaload (pc := 22) (z := P 1) dX8_reallyDo_22 (by decide) rfl (by decide) (by decide) (rfl) ?_
          refine Go_icmp_ge (pc := 23) (tgt := 44) dX8_reallyDo_23 (by decide) (by omega) (by omega) (fun c23 => ?_) (fun c23 => ?_)
          · exfalso; omega
          · refine Go_aload_n (pc := 26) dX8_reallyDo_26 rfl (by decide) rfl ?_
            refine Go_iload_n (pc := 27) dX8_reallyDo_27 rfl rfl ?_
            refine Go_aload_n (pc := 28) dX8_reallyDo_28 rfl (by decide) rfl ?_
            refine Go_getr (pc := 29) (r := 24) dX8_reallyDo_29 fo_X8_32 (by decide) rfl rfl (by decide) ?_
            refine Go_iload_n (pc := 32) dX8_reallyDo_32 rfl rfl ?_
            refine Go_iaload (pc := 33) (z := p i) dX8_reallyDo_33 (by decide) rfl (by omega) (by omega) (rfl) ?_
            refine Go_invV (pc := 34) (y := yX8_pullsOne) (avs := [.inl i, .inl (p i)]) (k := 16) (rest := []) (x := .inl (-1000001))  (d' := d - 1) dX8_reallyDo_34 ln_X8_80 mo_X8_pullsOne vo_X8_pullsOne rfl (rc_16) rfl rfl (Nat.le_of_ble_eq_true rfl) (by omega) (Nat.le_of_ble_eq_true rfl) rfl (s_X8_pullsOne_no (by omega) hP (by omega) (by omega) nk) ?_
            refine Go_pop (pc := 37) dX8_reallyDo_37 ?_
            refine Go_iinc (pc := 38) (L' := [some (.inr 16), some (.inl (i + 1))]) dX8_reallyDo_38 rfl (by decide) rfl ?_
            refine Go_goto (pc := 41) (tgt := 16) dX8_reallyDo_41 (by decide) ?_
            exact G
        · have pk : pullOk P i (p i) := ⟨by omega, cp, by omega⟩
          obtain ⟨h22, h23, hh, G⟩ := ih (by omega) (stoodR g22 P (P 0)) (pullMv P i (p i)) (stepS_ok (plZ_W hP _ _ _).1 _ _).2
          refine ⟨h22, h23, hh, ?_⟩
          rw [pullC_y pk] at G
          refine Go_iload_n (pc := 16) dX8_reallyDo_16 rfl rfl ?_
          refine Go_aload_n (pc := 17) dX8_reallyDo_17 rfl (by decide) rfl ?_
          refine Go_getr (pc := 18) (r := 17) dX8_reallyDo_18 fo_X8_7 (by decide) rfl rfl (by decide) ?_
          refine Go_iconst (pc := 21) dX8_reallyDo_21 ?_
          refine Go_iaload (pc := 22) (z := P 1) dX8_reallyDo_22 (by decide) rfl (by decide) (by decide) (rfl) ?_
          refine Go_icmp_ge (pc := 23) (tgt := 44) dX8_reallyDo_23 (by decide) (by omega) (by omega) (fun c23 => ?_) (fun c23 => ?_)
          · exfalso; omega
          · refine Go_aload_n (pc := 26) dX8_reallyDo_26 rfl (by decide) rfl ?_
            refine Go_iload_n (pc := 27) dX8_reallyDo_27 rfl rfl ?_
            refine Go_aload_n (pc := 28) dX8_reallyDo_28 rfl (by decide) rfl ?_
            refine Go_getr (pc := 29) (r := 24) dX8_reallyDo_29 fo_X8_32 (by decide) rfl rfl (by decide) ?_
            refine Go_iload_n (pc := 32) dX8_reallyDo_32 rfl rfl ?_
            refine Go_iaload (pc := 33) (z := p i) dX8_reallyDo_33 (by decide) rfl (by omega) (by omega) (rfl) ?_
            refine Go_invV (pc := 34) (y := yX8_pullsOne) (avs := [.inl i, .inl (p i)]) (k := 16) (rest := []) (x := .inl ((pullR P i (p i)).1))  (d' := d - 1) dX8_reallyDo_34 ln_X8_80 mo_X8_pullsOne vo_X8_pullsOne rfl (rc_16) rfl rfl (Nat.le_of_ble_eq_true rfl) (by omega) (Nat.le_of_ble_eq_true rfl) rfl (s_X8_pullsOne (by omega) hP (by omega) (by omega) pk hg) ?_
            refine Go_M (M1 := setR (setR (setR (setR (setR (setR M 24 p) 25 t) 20 (M 17)) 17 (pullG P i (p i))) 22 (stoodR g22 P (P 0))) 23 (pullMv P i (p i))) (by funext q; simp only [setR]; (repeat' split) <;> first | rfl | omega | simp_all) ?_
            refine Go_pop (pc := 37) dX8_reallyDo_37 ?_
            refine Go_iinc (pc := 38) (L' := [some (.inr 16), some (.inl (i + 1))]) dX8_reallyDo_38 rfl (by decide) rfl ?_
            refine Go_goto (pc := 41) (tgt := 16) dX8_reallyDo_41 (by decide) ?_
            exact G
    obtain ⟨h22, h23', hh, G⟩ := K 0 (by omega) (by omega) (M 22) (M 23) h23
    refine ⟨setR (setR (setR (setR (setR M 24 p) 25 t) 20 (M 17)) 22 h22) 23 h23', rdW (M 17) (bsL best) p, ?_, fun k k20 k22 k23 k24 k25 => ?_, ?_, ?_, ⟨_, _, lp, rfl⟩⟩
    · rw [ev]
      refine Go_aload_n (pc := 0) dX8_reallyDo_0 rfl (by decide) rfl ?_
      refine Go_invV (pc := 1) (y := yX8_finds) (avs := []) (k := 16) (rest := []) (x := .inl best) (M1 := setR (setR M 24 p) 25 t) (d' := d - 1) dX8_reallyDo_1 ln_X8_144 mo_X8_finds vo_X8_finds rfl (rc_16) rfl rfl (Nat.le_of_ble_eq_true rfl) (by omega) (Nat.le_of_ble_eq_true rfl) rfl (g) ?_
      refine Go_if_ge (pc := 4) (tgt := 10) dX8_reallyDo_4 (by decide) (by omega) (fun c4 => ?_) (fun c4 => ?_)
      · refine Go_aload_n (pc := 10) dX8_reallyDo_10 rfl (by decide) rfl ?_
        refine Go_invVv (pc := 11) (y := yX8_puts) (avs := []) (k := 16) (rest := [])  (M1 := setR (setR (setR M 24 p) 25 t) 20 (M 17)) (d' := d - 1) dX8_reallyDo_11 ln_X8_128 mo_X8_puts vo_X8_puts rfl (rc_16) rfl rfl (Nat.le_of_ble_eq_true rfl) (by omega) (Nat.le_of_ble_eq_true rfl) rfl (s_X8_puts (by omega) hW.o h20) ?_
        refine Go_iconst (pc := 14) dX8_reallyDo_14 ?_
        refine Go_istore_n (pc := 15) (L' := [some (.inr 16), some (.inl 0)]) dX8_reallyDo_15 rfl (by decide) rfl ?_
        refine Go_M ?_ G
        rw [show rdZ (M 17) p 0 = M 17 from rfl]
        funext q
        simp only [setR]
        (repeat' split) <;> first | rfl | omega | simp_all
      · refine Go_ldc (pc := 7) (n := -1000004) rfl kc_X8_123 dX8_reallyDo_7 ?_
        exfalso; omega
    · rw [setR_n k23, setR_n k22, setR_n k20, setR_n k25, setR_n k24]
    · exact hW.o
    · exact hh
