/-! hours go by, on -/
theorem s_X6_letHoursGo {d : Nat} (hd : 6 ≤ d) {a : Int} {M : gMem} (hW : Wf (M 4)) (ha : inR a) : Go d RX6 cX6_letHoursGo 4 (some .int) 0 [some (.inr 3), some (.inl a), none, none] [] M (some (.inl ((passR (M 4) a).1))) (setR M 4 (passR (M 4) a).2) := by
  have hn := hW.n
  have hs := hW.hs
  have K : 1 ≤ a → a ≤ 24 → M 4 3 + a ≤ 20000 → ∀ i, 0 ≤ i → i ≤ a → Go d RX6 cX6_letHoursGo 4 (some .int) 34 [some (.inr 3), some (.inl a), some (.inl (psCZ (M 4) i)), some (.inl i)] [] (setR M 4 (psRZ (M 4) i)) (some (.inl ((passR (M 4) a).1))) (setR M 4 (passR (M 4) a).2) := by
    intro a1 a2 a3
    have eF : passR (M 4) a = (psCZ (M 4) a, psRZ (M 4) a) := by unfold passR; rw [if_neg (by omega), if_neg (by omega)]
    rw [eF]
    refine up_ind 0 a _ (fun i h0 h1 ih => ?_)
    obtain ⟨hW2, q0, q3, c0, c1⟩ := psRZ_W hW h0 (show M 4 3 + i ≤ 20000 by omega)
    rw [psRZ_s _ h0, psCZ_s _ h0] at ih
    have eE : i = a → psCZ (M 4) a = psCZ (M 4) i ∧ psRZ (M 4) a = psRZ (M 4) i := fun e => by subst e; exact ⟨rfl, rfl⟩
    generalize psCZ (M 4) i = C at ih eE c0 c1 ⊢
    generalize psRZ (M 4) i = P at ih eE hW2 q0 q3 ⊢
    have h3 : i < a → P 3 < 20000 := fun _ => by omega
    refine Go_iload_n (pc := 34) dX6_letHoursGo_34 rfl rfl ?_
    refine Go_iload_n (pc := 35) dX6_letHoursGo_35 rfl rfl ?_
    refine Go_icmp_ge (pc := 36) (tgt := 52) dX6_letHoursGo_36 (by decide) (by omega) (by omega) (fun c36 => ?_) (fun c36 => ?_)
    · refine Go_iload_n (pc := 52) dX6_letHoursGo_52 rfl rfl ?_
      rw [(eE (by omega)).1, (eE (by omega)).2]
      exact Go_ireturn (pc := 53) dX6_letHoursGo_53 rfl rfl rfl
    · refine Go_iload_n (pc := 39) dX6_letHoursGo_39 rfl rfl ?_
      refine Go_aload_n (pc := 40) dX6_letHoursGo_40 rfl (by decide) rfl ?_
      refine Go_invS (pc := 41) (y := yX6_letHourGo) (avs := [.inr 3]) (rest := [.inl C]) (x := .inl (hourC P))  (d' := d - 1) dX6_letHoursGo_41 ln_X6_95 mo_X6_letHourGo so_X6_letHourGo rfl rfl rfl (Nat.le_of_ble_eq_true rfl) (by omega) (Nat.le_of_ble_eq_true rfl) rfl (s_X6_letHourGo (by omega) hW2 (h3 (by omega))) ?_
      refine Go_M (M1 := setR M 4 (hourR P)) ((setR_tw _ _ _ _).trans rfl) ?_
      refine Go_iadd (pc := 44) dX6_letHoursGo_44 ?_
      refine Go_istore_n (pc := 45) (L' := [some (.inr 3), some (.inl a), some (.inl (C + (hourC P))), some (.inl i)]) dX6_letHoursGo_45 rfl (by decide) rfl ?_
      refine Go_iinc (pc := 46) (L' := [some (.inr 3), some (.inl a), some (.inl (C + (hourC P))), some (.inl (i + 1))]) dX6_letHoursGo_46 rfl (by decide) rfl ?_
      refine Go_goto (pc := 49) (tgt := 34) dX6_letHoursGo_49 (by decide) ?_
      exact ih (by omega)
  refine Go_iload_n (pc := 0) dX6_letHoursGo_0 rfl rfl ?_
  refine Go_iconst (pc := 1) dX6_letHoursGo_1 ?_
  refine Go_icmp_lt (pc := 2) (tgt := 11) dX6_letHoursGo_2 (by decide) (by omega) (by decide) (fun c2 => ?_) (fun c2 => ?_)
  · refine Go_ldc (pc := 11) (n := -1000001) rfl kc_X6_9 dX6_letHoursGo_11 ?_
    exact Go_ireturn (pc := 13) dX6_letHoursGo_13 rfl (by unfold passR; (repeat (first | rw [if_pos (by omega)] | rw [if_neg (by omega)])); try rfl) (by unfold passR; (repeat (first | rw [if_pos (by omega)] | rw [if_neg (by omega)])); first | done | exact setR_id _ _)
  · refine Go_iload_n (pc := 5) dX6_letHoursGo_5 rfl rfl ?_
    refine Go_bipush (pc := 6) dX6_letHoursGo_6 (by decide) (by decide) ?_
    refine Go_icmp_le (pc := 8) (tgt := 14) dX6_letHoursGo_8 (by decide) (by omega) (by decide) (fun c8 => ?_) (fun c8 => ?_)
    · refine Go_aload_n (pc := 14) dX6_letHoursGo_14 rfl (by decide) rfl ?_
      refine Go_iconst (pc := 15) dX6_letHoursGo_15 ?_
      refine Go_invV (pc := 16) (y := yX1_number) (avs := [.inl 3]) (k := 3) (rest := []) (x := .inl (M 4 3))  (d' := d - 1) dX6_letHoursGo_16 ln_X6_82 mo_X1_number vo_X1_number rfl (rc_3) rfl rfl (Nat.le_of_ble_eq_true rfl) (by omega) (Nat.le_of_ble_eq_true rfl) rfl (s_X1_number (by omega) (by decide) (by decide) (by decide)) ?_
      refine Go_iload_n (pc := 19) dX6_letHoursGo_19 rfl rfl ?_
      refine Go_iadd (pc := 20) dX6_letHoursGo_20 ?_
      refine Go_sipush (pc := 21) dX6_letHoursGo_21 (by decide) (by decide) ?_
      refine Go_icmp_le (pc := 24) (tgt := 30) dX6_letHoursGo_24 (by decide) (by omega) (by decide) (fun c24 => ?_) (fun c24 => ?_)
      · refine Go_iconst (pc := 30) dX6_letHoursGo_30 ?_
        refine Go_istore_n (pc := 31) (L' := [some (.inr 3), some (.inl a), some (.inl 0), none]) dX6_letHoursGo_31 rfl (by decide) rfl ?_
        refine Go_iconst (pc := 32) dX6_letHoursGo_32 ?_
        refine Go_istore_n (pc := 33) (L' := [some (.inr 3), some (.inl a), some (.inl 0), some (.inl 0)]) dX6_letHoursGo_33 rfl (by decide) rfl ?_
        exact Go_M (setR_id M 4).symm (K (by omega) (by omega) (by omega) 0 (by omega) (by omega))
      · refine Go_ldc (pc := 27) (n := -1000003) rfl kc_X6_16 dX6_letHoursGo_27 ?_
        exact Go_ireturn (pc := 29) dX6_letHoursGo_29 rfl (by unfold passR; (repeat (first | rw [if_pos (by omega)] | rw [if_neg (by omega)])); try rfl) (by unfold passR; (repeat (first | rw [if_pos (by omega)] | rw [if_neg (by omega)])); first | done | exact setR_id _ _)
    · refine Go_ldc (pc := 11) (n := -1000001) rfl kc_X6_9 dX6_letHoursGo_11 ?_
      exact Go_ireturn (pc := 13) dX6_letHoursGo_13 rfl (by unfold passR; (repeat (first | rw [if_pos (by omega)] | rw [if_neg (by omega)])); try rfl) (by unfold passR; (repeat (first | rw [if_pos (by omega)] | rw [if_neg (by omega)])); first | done | exact setR_id _ _)
theorem s_X7_pass {d : Nat} (hd : 8 ≤ d) {a : Int} {M : gMem} (hS : InvS M) (ha : inR a) : Go d RX7 cX7_pass 2 (some .int) 0 [some (.inr 0), some (.inl a)] [] M (some (.inl ((passR (M 2) a).1))) (setl (setR M 4 (passR (M 2) a).2) (passR (M 2) a).1) := by
  refine Go_aload_n (pc := 0) dX7_pass_0 rfl (by decide) rfl ?_
  refine Go_aload_n (pc := 1) dX7_pass_1 rfl (by decide) rfl ?_
  refine Go_invV (pc := 2) (y := yX7_freshTrial) (avs := []) (k := 0) (rest := [.inr 0]) (x := .inr 3) (M1 := setR M 4 (M 2)) (d' := d - 1) dX7_pass_2 ln_X7_47 mo_X7_freshTrial vo_X7_freshTrial rfl (rc_0) rfl rfl (Nat.le_of_ble_eq_true rfl) (by omega) (Nat.le_of_ble_eq_true rfl) rfl (s_X7_freshTrial (by omega) hS.1.o hS.2.1) ?_
  refine Go_iload_n (pc := 5) dX7_pass_5 rfl rfl ?_
  refine Go_invS (pc := 6) (y := yX6_letHoursGo) (avs := [.inr 3, .inl a]) (rest := [.inr 0]) (x := .inl ((passR (M 2) a).1))  (d' := d - 1) dX7_pass_6 ln_X7_85 mo_X6_letHoursGo so_X6_letHoursGo rfl rfl rfl (Nat.le_of_ble_eq_true rfl) (by omega) (Nat.le_of_ble_eq_true rfl) rfl (s_X6_letHoursGo (by omega) hS.1 (by omega)) ?_
  refine Go_M (M1 := setR M 4 ((passR (M 2) a).2)) ((setR_tw _ _ _ _).trans rfl) ?_
  refine Go_invV (pc := 9) (y := yX7_settle) (avs := [.inl ((passR (M 2) a).1)]) (k := 0) (rest := []) (x := .inl ((passR (M 2) a).1)) (M1 := (setl (setR M 4 ((passR (M 2) a).2)) ((passR (M 2) a).1))) (d' := d - 1) dX7_pass_9 ln_X7_57 mo_X7_settle vo_X7_settle rfl (rc_0) rfl rfl (Nat.le_of_ble_eq_true rfl) (by omega) (Nat.le_of_ble_eq_true rfl) rfl (s_X7_settle (by omega) (passR_r hS.1 _) hS.2.2 hS.1.o (passR_W hS.1 _).o) ?_
  exact Go_ireturn (pc := 12) dX7_pass_12 rfl (by first | rfl | (simp_all; done)) rfl
theorem s_X8_passes {d : Nat} (hd : 4 ≤ d) {a : Int} {M : gMem} (hW : Wf (M 17)) (ha : inR a) : Go d RX8 cX8_passes 7 (some .int) 0 [some (.inr 16), some (.inl a), none, none, none, none, none] [] M (some (.inl ((passR (M 17) a).1))) (setR M 17 (passR (M 17) a).2) := by
  have hn := hW.n
  have hs := hW.hs
  have K2 : ∀ (g : Int → Int) (C h : Int) (v : Option MV) (M' : gMem), Wf g → g 3 < 20000 → 0 ≤ h → h < a → (∀ x y z : Option MV, Go d RX8 cX8_passes 7 (some .int) 34 [some (.inr 16), some (.inl a), some (.inl (C + hourC g)), some (.inl (h + 1)), x, y, z] [] (setR M 17 (hourR g)) v M') → ∀ i, 0 ≤ i → i ≤ g 0 → ∀ y z : Option MV, Go d RX8 cX8_passes 7 (some .int) 42 [some (.inr 16), some (.inl a), some (.inl (C + hrCZ g i)), some (.inl h), some (.inl i), y, z] [] (setR M 17 (hrRZ g i)) v M' := by
    intro g C h v M' hg g3 hh0 hha kk
    have hgn := hg.n
    refine up_ind 0 (g 0) _ (fun i h0 h1 ih y z => ?_)
    obtain ⟨hW2, hq⟩ := hrRZ_W hg h0 h1
    have q0 := hq 0 (by decide)
    have q2 := hq 2 (by decide)
    have q3 := hq 3 (by decide)
    rw [hrRZ_s _ h0, hrCZ_s _ h0] at ih
    have eE : i = g 0 → hourC g = hrCZ g i ∧ hourR g = updI (updI (hrRZ g i) 2 ((g 2 + 1) % 24)) 3 (g 3 + 1) := fun e => by subst e; exact ⟨rfl, rfl⟩
    generalize hrCZ g i = D at ih eE ⊢
    generalize hrRZ g i = P at ih eE hW2 q0 q2 q3 ⊢
    have hl := hW2.hr
    have hA : 0 ≤ i → i < 8 → 0 ≤ lightF (sc P i 1) (P 2) (sc P i 0) ∧ lightF (sc P i 1) (P 2) (sc P i 0) ≤ 36 := fun _ _ => lightF_b (hW2.ah i) hl (hW2.ht i)
    have hht := hW2.ht i
    have e4 : 0 ≤ i → i < 8 → P (7 + 7 * i + 4) = sc P i 4 := fun a b => (sc_in _ _ a b).symm
    have e5 : 0 ≤ i → i < 8 → P (7 + 7 * i + 5) = sc P i 5 := fun a b => (sc_in _ _ a b).symm
    refine Go_iload (pc := 42) dX8_passes_42 rfl ?_
    refine Go_aload_n (pc := 44) dX8_passes_44 rfl (by decide) rfl ?_
    refine Go_getr (pc := 45) (r := 17) dX8_passes_45 fo_X8_7 (by decide) rfl rfl (by decide) ?_
    refine Go_iconst (pc := 48) dX8_passes_48 ?_
    refine Go_iaload (pc := 49) (z := P 0) dX8_passes_49 (by decide) rfl (by decide) (by decide) (rfl) ?_
    refine Go_icmp_ge (pc := 50) (tgt := 143) dX8_passes_50 (by decide) (by omega) (by omega) (fun c50 => ?_) (fun c50 => ?_)
    · refine Go_aload_n (pc := 143) dX8_passes_143 rfl (by decide) rfl ?_
      refine Go_getr (pc := 144) (r := 17) dX8_passes_144 fo_X8_7 (by decide) rfl rfl (by decide) ?_
      refine Go_iconst (pc := 147) dX8_passes_147 ?_
      refine Go_aload_n (pc := 148) dX8_passes_148 rfl (by decide) rfl ?_
      refine Go_getr (pc := 149) (r := 17) dX8_passes_149 fo_X8_7 (by decide) rfl rfl (by decide) ?_
      refine Go_iconst (pc := 152) dX8_passes_152 ?_
      refine Go_iaload (pc := 153) (z := P 2) dX8_passes_153 (by decide) rfl (by decide) (by decide) (rfl) ?_
      refine Go_iconst (pc := 154) dX8_passes_154 ?_
      refine Go_iadd (pc := 155) dX8_passes_155 ?_
      refine Go_bipush (pc := 156) dX8_passes_156 (by decide) (by decide) ?_
      refine Go_irem (pc := 158) dX8_passes_158 (by omega) (by omega) (by omega) (by omega) ?_
      refine Go_iastore (pc := 159) dX8_passes_159 (by decide) rfl (by decide) (by decide) ?_
      refine Go_M (M1 := setR M 17 (updI P 2 (((P 2) + 1) % 24))) (setR_top _ _ _ _ _) ?_
      refine Go_aload_n (pc := 160) dX8_passes_160 rfl (by decide) rfl ?_
      refine Go_getr (pc := 161) (r := 17) dX8_passes_161 fo_X8_7 (by decide) rfl rfl (by decide) ?_
      refine Go_iconst (pc := 164) dX8_passes_164 ?_
      refine Go_dup2 (pc := 165) dX8_passes_165 ?_
      refine Go_iaload (pc := 166) (z := P 3) dX8_passes_166 (by decide) rfl (by decide) (by decide) (show (updI P 2 (((P 2) + 1) % 24)) 3 = (P 3) from (updI_n (by decide)).trans (rfl)) ?_
      refine Go_iconst (pc := 167) dX8_passes_167 ?_
      refine Go_iadd (pc := 168) dX8_passes_168 ?_
      refine Go_iastore (pc := 169) dX8_passes_169 (by decide) rfl (by decide) (by decide) ?_
      refine Go_M (M1 := setR M 17 (updI (updI P 2 (((P 2) + 1) % 24)) 3 ((P 3) + 1))) (setR_top _ _ _ _ _) ?_
      refine Go_iinc (pc := 170) (L' := [some (.inr 16), some (.inl a), some (.inl (C + D)), some (.inl (h + 1)), some (.inl i), y, z]) dX8_passes_170 rfl (by decide) rfl ?_
      refine Go_goto (pc := 173) (tgt := 34) dX8_passes_173 (by decide) ?_
      obtain ⟨z1, z2⟩ := eE (by omega)
      rw [z1, z2] at kk
      exact Go_M (by rw [← q2, ← q3]) (kk _ _ _)
    · refine Go_aload_n (pc := 53) dX8_passes_53 rfl (by decide) rfl ?_
      refine Go_iload (pc := 54) dX8_passes_54 rfl ?_
      refine Go_aload_n (pc := 56) dX8_passes_56 rfl (by decide) rfl ?_
      refine Go_getr (pc := 57) (r := 17) dX8_passes_57 fo_X8_7 (by decide) rfl rfl (by decide) ?_
      refine Go_iconst (pc := 60) dX8_passes_60 ?_
      refine Go_iaload (pc := 61) (z := P 2) dX8_passes_61 (by decide) rfl (by decide) (by decide) (rfl) ?_
      refine Go_aload_n (pc := 62) dX8_passes_62 rfl (by decide) rfl ?_
      refine Go_iload (pc := 63) dX8_passes_63 rfl ?_
      refine Go_iconst (pc := 65) dX8_passes_65 ?_
      refine Go_invV (pc := 66) (y := yX8_sh) (avs := [.inl i, .inl 0]) (k := 16) (rest := [.inl (P 2), .inl i, .inr 16]) (x := .inl (sc P i 0))  (d' := d - 1) dX8_passes_66 ln_X8_59 mo_X8_sh vo_X8_sh rfl (rc_16) rfl rfl (Nat.le_of_ble_eq_true rfl) (by omega) (Nat.le_of_ble_eq_true rfl) rfl (s_X8_sh (by omega) (by first | omega | (simp only [Nat.reduceAdd, setR_s]; omega)) (by first | omega | (simp only [Nat.reduceAdd, setR_s]; omega)) (by decide) (by decide)) ?_
      refine Go_invV (pc := 69) (y := yX8_light) (avs := [.inl i, .inl (P 2), .inl (sc P i 0)]) (k := 16) (rest := []) (x := .inl (lightF (sc P i 1) (P 2) (sc P i 0)))  (d' := d - 1) dX8_passes_69 ln_X8_106 mo_X8_light vo_X8_light rfl (rc_16) rfl rfl (Nat.le_of_ble_eq_true rfl) (by omega) (Nat.le_of_ble_eq_true rfl) rfl (s_X8_light (by omega) hW2 (by first | omega | (simp only [Nat.reduceAdd, setR_s]; omega)) (by first | omega | (simp only [Nat.reduceAdd, setR_s]; omega)) (by omega) (by omega)) ?_
      refine Go_istore (pc := 72) (L' := [some (.inr 16), some (.inl a), some (.inl (C + D)), some (.inl h), some (.inl i), some (.inl (lightF (sc P i 1) (P 2) (sc P i 0))), z]) dX8_passes_72 (by decide) rfl ?_
      refine Go_aload_n (pc := 74) dX8_passes_74 rfl (by decide) rfl ?_
      refine Go_iload (pc := 75) dX8_passes_75 rfl ?_
      refine Go_iload (pc := 77) dX8_passes_77 rfl ?_
      refine Go_invV (pc := 79) (y := yX8_isWell) (avs := [.inl i, .inl (lightF (sc P i 1) (P 2) (sc P i 0))]) (k := 16) (rest := []) (x := .inl (b2i (wellP P i (lightF (sc P i 1) (P 2) (sc P i 0)))))  (d' := d - 1) dX8_passes_79 ln_X8_110 mo_X8_isWell vo_X8_isWell rfl (rc_16) rfl rfl (Nat.le_of_ble_eq_true rfl) (by omega) (Nat.le_of_ble_eq_true rfl) rfl (s_X8_isWell (by omega) hW2 (by first | omega | (simp only [Nat.reduceAdd, setR_s]; omega)) (by first | omega | (simp only [Nat.reduceAdd, setR_s]; omega)) (by first | omega | exact lightF_b (by omega) (by omega) (by omega))) ?_
      refine Go_ifeqB (pc := 82) (tgt := 89) dX8_passes_82 (by decide) (fun c82 => ?_) (fun c82 => ?_)
      · refine Go_iconst (pc := 89) dX8_passes_89 ?_
        refine Go_istore (pc := 90) (L' := [some (.inr 16), some (.inl a), some (.inl (C + D)), some (.inl h), some (.inl i), some (.inl (lightF (sc P i 1) (P 2) (sc P i 0))), some (.inl 0)]) dX8_passes_90 (by decide) rfl ?_
        refine Go_aload_n (pc := 92) dX8_passes_92 rfl (by decide) rfl ?_
        refine Go_getr (pc := 93) (r := 17) dX8_passes_93 fo_X8_7 (by decide) rfl rfl (by decide) ?_
        refine Go_bipush (pc := 96) dX8_passes_96 (by decide) (by decide) ?_
        refine Go_bipush (pc := 98) dX8_passes_98 (by decide) (by decide) ?_
        refine Go_iload (pc := 100) dX8_passes_100 rfl ?_
        refine Go_imul (pc := 102) dX8_passes_102 ?_
        refine Go_iadd (pc := 103) dX8_passes_103 ?_
        refine Go_iconst (pc := 104) dX8_passes_104 ?_
        refine Go_iadd (pc := 105) dX8_passes_105 ?_
        refine Go_dup2 (pc := 106) dX8_passes_106 ?_
        refine Go_iaload (pc := 107) (z := P ((7 + (7 * i)) + 4)) dX8_passes_107 (by decide) rfl (by omega) (by omega) (rfl) ?_
        refine Go_iload (pc := 108) dX8_passes_108 rfl ?_
        refine Go_iadd (pc := 110) dX8_passes_110 ?_
        refine Go_iastore (pc := 111) dX8_passes_111 (by decide) rfl (by omega) (by omega) ?_
        refine Go_M (M1 := setR M 17 (updI P ((7 + (7 * i)) + 4) ((P ((7 + (7 * i)) + 4)) + (lightF (sc P i 1) (P 2) (sc P i 0))))) (setR_top _ _ _ _ _) ?_
        refine Go_aload_n (pc := 112) dX8_passes_112 rfl (by decide) rfl ?_
        refine Go_getr (pc := 113) (r := 17) dX8_passes_113 fo_X8_7 (by decide) rfl rfl (by decide) ?_
        refine Go_bipush (pc := 116) dX8_passes_116 (by decide) (by decide) ?_
        refine Go_bipush (pc := 118) dX8_passes_118 (by decide) (by decide) ?_
        refine Go_iload (pc := 120) dX8_passes_120 rfl ?_
        refine Go_imul (pc := 122) dX8_passes_122 ?_
        refine Go_iadd (pc := 123) dX8_passes_123 ?_
        refine Go_iconst (pc := 124) dX8_passes_124 ?_
        refine Go_iadd (pc := 125) dX8_passes_125 ?_
        refine Go_dup2 (pc := 126) dX8_passes_126 ?_
        refine Go_iaload (pc := 127) (z := P ((7 + (7 * i)) + 5)) dX8_passes_127 (by decide) rfl (by omega) (by omega) (show (updI P ((7 + (7 * i)) + 4) ((P ((7 + (7 * i)) + 4)) + (lightF (sc P i 1) (P 2) (sc P i 0)))) ((7 + (7 * i)) + 5) = (P ((7 + (7 * i)) + 5)) from (updI_n (by omega)).trans (rfl)) ?_
        refine Go_iload (pc := 128) dX8_passes_128 rfl ?_
        refine Go_iadd (pc := 130) dX8_passes_130 ?_
        refine Go_iastore (pc := 131) dX8_passes_131 (by decide) rfl (by omega) (by omega) ?_
        refine Go_M (M1 := setR M 17 (updI (updI P ((7 + (7 * i)) + 4) ((P ((7 + (7 * i)) + 4)) + (lightF (sc P i 1) (P 2) (sc P i 0)))) ((7 + (7 * i)) + 5) ((P ((7 + (7 * i)) + 5)) + 0))) (setR_top _ _ _ _ _) ?_
        refine Go_iload_n (pc := 132) dX8_passes_132 rfl rfl ?_
        refine Go_iload (pc := 133) dX8_passes_133 rfl ?_
        refine Go_iadd (pc := 135) dX8_passes_135 ?_
        refine Go_istore_n (pc := 136) (L' := [some (.inr 16), some (.inl a), some (.inl ((C + D) + 0)), some (.inl h), some (.inl i), some (.inl (lightF (sc P i 1) (P 2) (sc P i 0))), some (.inl 0)]) dX8_passes_136 rfl (by decide) rfl ?_
        refine Go_iinc (pc := 137) (L' := [some (.inr 16), some (.inl a), some (.inl ((C + D) + 0)), some (.inl h), some (.inl (i + 1)), some (.inl (lightF (sc P i 1) (P 2) (sc P i 0))), some (.inl 0)]) dX8_passes_137 rfl (by decide) rfl ?_
        refine Go_goto (pc := 140) (tgt := 42) dX8_passes_140 (by decide) ?_
        have ec : hsC P i = b2i (wellP P i (lightF (sc P i 1) (P 2) (sc P i 0))) := rfl
        have er : hsR P i = updI (updI P (7 + 7 * i + 4) (sc P i 4 + lightF (sc P i 1) (P 2) (sc P i 0))) (7 + 7 * i + 5) (sc P i 5 + hsC P i) := rfl
        first | rw [b2i_t c82] at ec | rw [b2i_f c82] at ec
        rw [er, ec] at ih
        exact Go_M (by rw [e4 h0 (by omega), e5 h0 (by omega)]) (Go_LS (by rw [Int.add_assoc]) rfl (ih (by omega) _ _))
      · refine Go_iconst (pc := 85) dX8_passes_85 ?_
        refine Go_goto (pc := 86) (tgt := 90) dX8_passes_86 (by decide) ?_
        refine Go_istore (pc := 90) (L' := [some (.inr 16), some (.inl a), some (.inl (C + D)), some (.inl h), some (.inl i), some (.inl (lightF (sc P i 1) (P 2) (sc P i 0))), some (.inl 1)]) dX8_passes_90 (by decide) rfl ?_
        refine Go_aload_n (pc := 92) dX8_passes_92 rfl (by decide) rfl ?_
        refine Go_getr (pc := 93) (r := 17) dX8_passes_93 fo_X8_7 (by decide) rfl rfl (by decide) ?_
        refine Go_bipush (pc := 96) dX8_passes_96 (by decide) (by decide) ?_
        refine Go_bipush (pc := 98) dX8_passes_98 (by decide) (by decide) ?_
        refine Go_iload (pc := 100) dX8_passes_100 rfl ?_
        refine Go_imul (pc := 102) dX8_passes_102 ?_
        refine Go_iadd (pc := 103) dX8_passes_103 ?_
        refine Go_iconst (pc := 104) dX8_passes_104 ?_
        refine Go_iadd (pc := 105) dX8_passes_105 ?_
        refine Go_dup2 (pc := 106) dX8_passes_106 ?_
        refine Go_iaload (pc := 107) (z := P ((7 + (7 * i)) + 4)) dX8_passes_107 (by decide) rfl (by omega) (by omega) (rfl) ?_
        refine Go_iload (pc := 108) dX8_passes_108 rfl ?_
        refine Go_iadd (pc := 110) dX8_passes_110 ?_
        refine Go_iastore (pc := 111) dX8_passes_111 (by decide) rfl (by omega) (by omega) ?_
        refine Go_M (M1 := setR M 17 (updI P ((7 + (7 * i)) + 4) ((P ((7 + (7 * i)) + 4)) + (lightF (sc P i 1) (P 2) (sc P i 0))))) (setR_top _ _ _ _ _) ?_
        refine Go_aload_n (pc := 112) dX8_passes_112 rfl (by decide) rfl ?_
        refine Go_getr (pc := 113) (r := 17) dX8_passes_113 fo_X8_7 (by decide) rfl rfl (by decide) ?_
        refine Go_bipush (pc := 116) dX8_passes_116 (by decide) (by decide) ?_
        refine Go_bipush (pc := 118) dX8_passes_118 (by decide) (by decide) ?_
        refine Go_iload (pc := 120) dX8_passes_120 rfl ?_
        refine Go_imul (pc := 122) dX8_passes_122 ?_
        refine Go_iadd (pc := 123) dX8_passes_123 ?_
        refine Go_iconst (pc := 124) dX8_passes_124 ?_
        refine Go_iadd (pc := 125) dX8_passes_125 ?_
        refine Go_dup2 (pc := 126) dX8_passes_126 ?_
        refine Go_iaload (pc := 127) (z := P ((7 + (7 * i)) + 5)) dX8_passes_127 (by decide) rfl (by omega) (by omega) (show (updI P ((7 + (7 * i)) + 4) ((P ((7 + (7 * i)) + 4)) + (lightF (sc P i 1) (P 2) (sc P i 0)))) ((7 + (7 * i)) + 5) = (P ((7 + (7 * i)) + 5)) from (updI_n (by omega)).trans (rfl)) ?_
        refine Go_iload (pc := 128) dX8_passes_128 rfl ?_
        refine Go_iadd (pc := 130) dX8_passes_130 ?_
        refine Go_iastore (pc := 131) dX8_passes_131 (by decide) rfl (by omega) (by omega) ?_
        refine Go_M (M1 := setR M 17 (updI (updI P ((7 + (7 * i)) + 4) ((P ((7 + (7 * i)) + 4)) + (lightF (sc P i 1) (P 2) (sc P i 0)))) ((7 + (7 * i)) + 5) ((P ((7 + (7 * i)) + 5)) + 1))) (setR_top _ _ _ _ _) ?_
        refine Go_iload_n (pc := 132) dX8_passes_132 rfl rfl ?_
        refine Go_iload (pc := 133) dX8_passes_133 rfl ?_
        refine Go_iadd (pc := 135) dX8_passes_135 ?_
        refine Go_istore_n (pc := 136) (L' := [some (.inr 16), some (.inl a), some (.inl ((C + D) + 1)), some (.inl h), some (.inl i), some (.inl (lightF (sc P i 1) (P 2) (sc P i 0))), some (.inl 1)]) dX8_passes_136 rfl (by decide) rfl ?_
        refine Go_iinc (pc := 137) (L' := [some (.inr 16), some (.inl a), some (.inl ((C + D) + 1)), some (.inl h), some (.inl (i + 1)), some (.inl (lightF (sc P i 1) (P 2) (sc P i 0))), some (.inl 1)]) dX8_passes_137 rfl (by decide) rfl ?_
        refine Go_goto (pc := 140) (tgt := 42) dX8_passes_140 (by decide) ?_
        have ec : hsC P i = b2i (wellP P i (lightF (sc P i 1) (P 2) (sc P i 0))) := rfl
        have er : hsR P i = updI (updI P (7 + 7 * i + 4) (sc P i 4 + lightF (sc P i 1) (P 2) (sc P i 0))) (7 + 7 * i + 5) (sc P i 5 + hsC P i) := rfl
        first | rw [b2i_t c82] at ec | rw [b2i_f c82] at ec
        rw [er, ec] at ih
        exact Go_M (by rw [e4 h0 (by omega), e5 h0 (by omega)]) (Go_LS (by rw [Int.add_assoc]) rfl (ih (by omega) _ _))
  have K : 1 ≤ a → a ≤ 24 → M 17 3 + a ≤ 20000 → ∀ i, 0 ≤ i → i ≤ a → ∀ x y z : Option MV, Go d RX8 cX8_passes 7 (some .int) 34 [some (.inr 16), some (.inl a), some (.inl (psCZ (M 17) i)), some (.inl i), x, y, z] [] (setR M 17 (psRZ (M 17) i)) (some (.inl (passR (M 17) a).1)) (setR M 17 (passR (M 17) a).2) := by
    intro a1 a2 a3
    have eF : passR (M 17) a = (psCZ (M 17) a, psRZ (M 17) a) := by unfold passR; rw [if_neg (by omega), if_neg (by omega)]
    rw [eF]
    refine up_ind 0 a _ (fun i h0 h1 ih x y z => ?_)
    obtain ⟨hW2, q0, q3, c0, c1⟩ := psRZ_W hW h0 (show M 17 3 + i ≤ 20000 by omega)
    rw [psRZ_s _ h0, psCZ_s _ h0] at ih
    have eE : i = a → psCZ (M 17) a = psCZ (M 17) i ∧ psRZ (M 17) a = psRZ (M 17) i := fun e => by subst e; exact ⟨rfl, rfl⟩
    generalize psCZ (M 17) i = C at ih eE c0 c1 ⊢
    generalize psRZ (M 17) i = P at ih eE hW2 q0 q3 ⊢
    refine Go_iload_n (pc := 34) dX8_passes_34 rfl rfl ?_
    refine Go_iload_n (pc := 35) dX8_passes_35 rfl rfl ?_
    refine Go_icmp_ge (pc := 36) (tgt := 176) dX8_passes_36 (by decide) (by omega) (by omega) (fun c36 => ?_) (fun c36 => ?_)
    · refine Go_iload_n (pc := 176) dX8_passes_176 rfl rfl ?_
      rw [(eE (by omega)).1, (eE (by omega)).2]
      exact Go_ireturn (pc := 177) dX8_passes_177 rfl rfl rfl
    · refine Go_iconst (pc := 39) dX8_passes_39 ?_
      refine Go_istore (pc := 40) (L' := [some (.inr 16), some (.inl a), some (.inl C), some (.inl i), some (.inl 0), y, z]) dX8_passes_40 (by decide) rfl ?_
      exact Go_LS (by rw [show hrCZ P 0 = 0 from rfl, Int.add_zero]) rfl (K2 P C i _ _ hW2 (by omega) h0 (by omega) (ih (by omega)) 0 (by omega) (by have := hW2.n; omega) _ _)
  refine Go_iload_n (pc := 0) dX8_passes_0 rfl rfl ?_
  refine Go_iconst (pc := 1) dX8_passes_1 ?_
  refine Go_bipush (pc := 2) dX8_passes_2 (by decide) (by decide) ?_
  refine Go_invS (pc := 4) (y := yX8_in) (avs := [.inl a, .inl 1, .inl 24]) (rest := []) (x := .inl (b2i (1 ≤ a ∧ a ≤ 24)))  (d' := d - 1) dX8_passes_4 ln_X8_38 mo_X8_in so_X8_in rfl rfl rfl (Nat.le_of_ble_eq_true rfl) (by omega) (Nat.le_of_ble_eq_true rfl) rfl (s_X8_in (by omega) (by omega) (by decide) (by decide)) ?_
  refine Go_ifneB (pc := 7) (tgt := 13) dX8_passes_7 (by decide) (fun c7 => ?_) (fun c7 => ?_)
  · refine Go_aload_n (pc := 13) dX8_passes_13 rfl (by decide) rfl ?_
    refine Go_getr (pc := 14) (r := 17) dX8_passes_14 fo_X8_7 (by decide) rfl rfl (by decide) ?_
    refine Go_iconst (pc := 17) dX8_passes_17 ?_
    refine Go_iaload (pc := 18) (z := M 17 3) dX8_passes_18 (by decide) rfl (by decide) (by decide) (rfl) ?_
    refine Go_iload_n (pc := 19) dX8_passes_19 rfl rfl ?_
    refine Go_iadd (pc := 20) dX8_passes_20 ?_
    refine Go_sipush (pc := 21) dX8_passes_21 (by decide) (by decide) ?_
    refine Go_icmp_le (pc := 24) (tgt := 30) dX8_passes_24 (by decide) (by omega) (by decide) (fun c24 => ?_) (fun c24 => ?_)
    · refine Go_iconst (pc := 30) dX8_passes_30 ?_
      refine Go_istore_n (pc := 31) (L' := [some (.inr 16), some (.inl a), some (.inl 0), none, none, none, none]) dX8_passes_31 rfl (by decide) rfl ?_
      refine Go_iconst (pc := 32) dX8_passes_32 ?_
      refine Go_istore_n (pc := 33) (L' := [some (.inr 16), some (.inl a), some (.inl 0), some (.inl 0), none, none, none]) dX8_passes_33 rfl (by decide) rfl ?_
      exact Go_M (setR_id M 17).symm (K (by omega) (by omega) (by omega) 0 (by omega) (by omega) _ _ _)
    · refine Go_ldc (pc := 27) (n := -1000003) rfl kc_X8_47 dX8_passes_27 ?_
      exact Go_ireturn (pc := 29) dX8_passes_29 rfl (by unfold passR; (repeat (first | rw [if_pos (by omega)] | rw [if_neg (by omega)])); try rfl) (by unfold passR; (repeat (first | rw [if_pos (by omega)] | rw [if_neg (by omega)])); first | done | exact setR_id _ _)
  · refine Go_ldc (pc := 10) (n := -1000001) rfl kc_X8_42 dX8_passes_10 ?_
    exact Go_ireturn (pc := 12) dX8_passes_12 rfl (by unfold passR; (repeat (first | rw [if_pos (by omega)] | rw [if_neg (by omega)])); try rfl) (by unfold passR; (repeat (first | rw [if_pos (by omega)] | rw [if_neg (by omega)])); first | done | exact setR_id _ _)
theorem s_X8_pass {d : Nat} (hd : 6 ≤ d) {a : Int} {M : gMem} (hS : InvR M) (ha : inR a) : Go d RX8 cX8_pass 2 (some .int) 0 [some (.inr 16), some (.inl a)] [] M (some (.inl ((passR (M 17) a).1))) (ref2 M (passR (M 17) a).2 (passR (M 17) a).1) := by
  have hW := hS.1
  have hn16 := hS.2.2.2
  have hr := passR_r hW a
  by_cases c : (passR (M 17) a).1 < 0
  · have he := passR_e hW c
    rw [ref2_n c]
    refine Go_aload_n (pc := 0) dX8_pass_0 rfl (by decide) rfl ?_
    refine Go_invVv (pc := 1) (y := yX8_keeps) (avs := []) (k := 16) (rest := [])  (M1 := setR M 19 (M 17)) (d' := d - 1) dX8_pass_1 ln_X8_48 mo_X8_keeps vo_X8_keeps rfl (rc_16) rfl rfl (Nat.le_of_ble_eq_true rfl) (by omega) (Nat.le_of_ble_eq_true rfl) rfl (s_X8_keeps (by omega) hW.o hS.2.1) ?_
    refine Go_aload_n (pc := 4) dX8_pass_4 rfl (by decide) rfl ?_
    refine Go_aload_n (pc := 5) dX8_pass_5 rfl (by decide) rfl ?_
    refine Go_iload_n (pc := 6) dX8_pass_6 rfl rfl ?_
    refine Go_invV (pc := 7) (y := yX8_passes) (avs := [.inl a]) (k := 16) (rest := [.inr 16]) (x := .inl ((passR (M 17) a).1)) (M1 := setR (setR M 19 (M 17)) 17 ((passR (M 17) a).2)) (d' := d - 1) dX8_pass_7 ln_X8_114 mo_X8_passes vo_X8_passes rfl (rc_16) rfl rfl (Nat.le_of_ble_eq_true rfl) (by omega) (Nat.le_of_ble_eq_true rfl) rfl (s_X8_passes (by omega) hW (by omega)) ?_
    refine Go_invV (pc := 10) (y := yX8_acted) (avs := [.inl ((passR (M 17) a).1)]) (k := 16) (rest := []) (x := .inl ((passR (M 17) a).1))  (d' := d - 1) dX8_pass_10 ln_X8_51 mo_X8_acted vo_X8_acted rfl (rc_16) rfl rfl (Nat.le_of_ble_eq_true rfl) (by omega) (Nat.le_of_ble_eq_true rfl) rfl (s_X8_acted_no (by omega) (by omega) (by omega)) ?_
    exact Go_ireturn (pc := 13) dX8_pass_13 rfl rfl (by rw [he.2, setR_id2 M (by decide)])
  · rw [ref2_p c]
    refine Go_aload_n (pc := 0) dX8_pass_0 rfl (by decide) rfl ?_
    refine Go_invVv (pc := 1) (y := yX8_keeps) (avs := []) (k := 16) (rest := [])  (M1 := setR M 19 (M 17)) (d' := d - 1) dX8_pass_1 ln_X8_48 mo_X8_keeps vo_X8_keeps rfl (rc_16) rfl rfl (Nat.le_of_ble_eq_true rfl) (by omega) (Nat.le_of_ble_eq_true rfl) rfl (s_X8_keeps (by omega) hW.o hS.2.1) ?_
    refine Go_aload_n (pc := 4) dX8_pass_4 rfl (by decide) rfl ?_
    refine Go_aload_n (pc := 5) dX8_pass_5 rfl (by decide) rfl ?_
    refine Go_iload_n (pc := 6) dX8_pass_6 rfl rfl ?_
    refine Go_invV (pc := 7) (y := yX8_passes) (avs := [.inl a]) (k := 16) (rest := [.inr 16]) (x := .inl ((passR (M 17) a).1)) (M1 := setR (setR M 19 (M 17)) 17 ((passR (M 17) a).2)) (d' := d - 1) dX8_pass_7 ln_X8_114 mo_X8_passes vo_X8_passes rfl (rc_16) rfl rfl (Nat.le_of_ble_eq_true rfl) (by omega) (Nat.le_of_ble_eq_true rfl) rfl (s_X8_passes (by omega) hW (by omega)) ?_
    refine Go_invV (pc := 10) (y := yX8_acted) (avs := [.inl ((passR (M 17) a).1)]) (k := 16) (rest := []) (x := .inl ((passR (M 17) a).1)) (M1 := setR (setR (setR (setR M 19 (M 17)) 17 ((passR (M 17) a).2)) 18 (hisR (M 18) (M 17) (M 16 4))) 16 (updI (M 16) 4 (hisN (M 16 4)))) (d' := d - 1) dX8_pass_10 ln_X8_51 mo_X8_acted vo_X8_acted rfl (rc_16) rfl rfl (Nat.le_of_ble_eq_true rfl) (by omega) (Nat.le_of_ble_eq_true rfl) rfl (s_X8_acted (by omega) (by omega) (by omega) hn16) ?_
    exact Go_ireturn (pc := 13) dX8_pass_13 rfl rfl rfl
