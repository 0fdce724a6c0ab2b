/-! the reference: an order is read, and done -/
abbrev rdA (f : Int → Int) (n p : Int) (r : Int → Int) : Int → Int := updI (updI r 7 (letE f n p)) 10 (woF f n p)
abbrev rdB (f : Int → Int) (n p : Int) (r : Int → Int) : Int → Int := updI (updI (rdA f n p r) 7 (dga f n (letE f n p))) 11 (dgr f n (letE f n p))
abbrev rdC (f : Int → Int) (n p : Int) (r : Int → Int) : Int → Int := updI (updI (rdB f n p r) 7 (dga f n (dga f n (letE f n p)))) 12 (dgr f n (dga f n (letE f n p)))
def rdF (f : Int → Int) (n p : Int) (r : Int → Int) : Int × (Int → Int) :=
  if woF f n p < 0 then (0, rdA f n p r)
  else if dgr f n (letE f n p) < 0 then (dga f n (letE f n p) - p, rdB f n p r)
  else if woF f n p = 2 ∨ woF f n p = 4 then (if sgF f n (dga f n (letE f n p)) = 59 then (-1, updI (updI (rdB f n p r) 12 0) 7 (dga f n (letE f n p) + 1)) else (dga f n (letE f n p) - p, updI (rdB f n p r) 12 0))
  else if dgr f n (dga f n (letE f n p)) < 0 then (dga f n (dga f n (letE f n p)) - p, rdC f n p r)
  else if sgF f n (dga f n (dga f n (letE f n p))) = 59 then (-1, updI (rdC f n p r) 7 (dga f n (dga f n (letE f n p)) + 1))
  else (dga f n (dga f n (letE f n p)) - p, rdC f n p r)
theorem woF_b (f : Int → Int) (n s : Int) : -1 ≤ woF f n s ∧ woF f n s ≤ 4 := by
  unfold woF
  (repeat' split) <;> omega
theorem s_X8_reads {d : Nat} (hd : 3 ≤ d) {M : gMem} (h : TxOk (M 21) (M 16 6)) (p0 : 0 ≤ M 16 7) (p1 : M 16 7 ≤ M 16 6) : Go d RX8 cX8_reads 3 (some .int) 0 [some (.inr 16), none, none] [] M (some (.inl ((rdF (M 21) (M 16 6) (M 16 7) (M 16)).1))) (setR M 16 (rdF (M 21) (M 16 6) (M 16 7) (M 16)).2) := by
  have hn := h.1
  have hE := letE_b (f := M 21) (n := M 16 6) p1
  have hw := woF_b (M 21) (M 16 6) (M 16 7)
  have d1 := dg_b (M 21) (M 16 6) (letE (M 21) (M 16 6) (M 16 7))
  have d2 := dg_b (M 21) (M 16 6) (dga (M 21) (M 16 6) (letE (M 21) (M 16 6) (M 16 7)))
  have s1 := sg_c h (p := dga (M 21) (M 16 6) (letE (M 21) (M 16 6) (M 16 7))) (by omega)
  have s2 := sg_c h (p := dga (M 21) (M 16 6) (dga (M 21) (M 16 6) (letE (M 21) (M 16 6) (M 16 7)))) (by omega)
  have K2 : ∀ x : Option MV, Go d RX8 cX8_reads 3 (some .int) 32 [some (.inr 16), some (.inl (M 16 7)), x] [] (setR M 16 (updI (M 16) 7 (letE (M 21) (M 16 6) (M 16 7)))) (some (.inl (rdF (M 21) (M 16 6) (M 16 7) (M 16)).1)) (setR M 16 (rdF (M 21) (M 16 6) (M 16 7) (M 16)).2) := by
    intro x
    refine Go_aload_n (pc := 32) dX8_reads_32 rfl (by decide) rfl ?_
    refine Go_aload_n (pc := 33) dX8_reads_33 rfl (by decide) rfl ?_
    refine Go_iload_n (pc := 34) dX8_reads_34 rfl rfl ?_
    refine Go_invV (pc := 35) (y := yX8_wordFrom) (avs := [.inl (M 16 7)]) (k := 16) (rest := [.inr 16]) (x := .inl (woF (M 21) (M 16 6) (M 16 7)))  (d' := d - 1) dX8_reads_35 ln_X8_169 mo_X8_wordFrom vo_X8_wordFrom rfl (rc_16) rfl rfl (Nat.le_of_ble_eq_true rfl) (by omega) (Nat.le_of_ble_eq_true rfl) rfl (s_X8_wordFrom (by omega) h (by first | omega | (simp only [Nat.reduceAdd, setR_s]; omega) | (simp only [setR, Nat.reduceEqDiff, reduceIte]; omega)) (by first | omega | (simp only [Nat.reduceAdd, setR_s]; omega) | (simp only [setR, Nat.reduceEqDiff, reduceIte]; omega)) ((show (updI (M 16) 7 (letE (M 21) (M 16 6) (M 16 7))) 7 = (letE (M 21) (M 16 6) (M 16 7)) from updI_s _ _ _))) ?_
    refine Go_puti (pc := 38) dX8_reads_38 fw_X8_172 (by decide) rfl rfl ?_
    refine Go_M (M1 := setR M 16 (updI (updI (M 16) 7 (letE (M 21) (M 16 6) (M 16 7))) 10 (woF (M 21) (M 16 6) (M 16 7)))) (setR_top _ _ _ _ _) ?_
    refine Go_aload_n (pc := 41) dX8_reads_41 rfl (by decide) rfl ?_
    refine Go_geti (pc := 42) (z := woF (M 21) (M 16 6) (M 16 7)) dX8_reads_42 fo_X8_172 (by decide) rfl rfl (show (updI (updI (M 16) 7 (letE (M 21) (M 16 6) (M 16 7))) 10 (woF (M 21) (M 16 6) (M 16 7))) 10 = (woF (M 21) (M 16 6) (M 16 7)) from updI_s _ _ _) ?_
    refine Go_if_ge (pc := 45) (tgt := 50) dX8_reads_45 (by decide) (by omega) (fun c45 => ?_) (fun c45 => ?_)
    · refine Go_aload_n (pc := 50) dX8_reads_50 rfl (by decide) rfl ?_
      refine Go_aload_n (pc := 51) dX8_reads_51 rfl (by decide) rfl ?_
      refine Go_invV (pc := 52) (y := yX8_digit) (avs := []) (k := 16) (rest := [.inr 16]) (x := .inl (dgr (M 21) (M 16 6) (letE (M 21) (M 16 6) (M 16 7))))  (d' := d - 1) dX8_reads_52 ln_X8_175 mo_X8_digit vo_X8_digit rfl (rc_16) rfl rfl (Nat.le_of_ble_eq_true rfl) (by omega) (Nat.le_of_ble_eq_true rfl) rfl (s_X8_digit (n := M 16 6) (q := letE (M 21) (M 16 6) (M 16 7)) (by omega) (show (updI (updI (M 16) 7 (letE (M 21) (M 16 6) (M 16 7))) 10 (woF (M 21) (M 16 6) (M 16 7))) 6 = (M 16 6) from (updI_n (by decide)).trans ((updI_n (by decide)).trans (rfl))) (show (updI (updI (M 16) 7 (letE (M 21) (M 16 6) (M 16 7))) 10 (woF (M 21) (M 16 6) (M 16 7))) 7 = (letE (M 21) (M 16 6) (M 16 7)) from (updI_n (by decide)).trans (updI_s _ _ _)) h (by first | omega | (simp only [Nat.reduceAdd, setR_s]; omega) | (simp only [setR, Nat.reduceEqDiff, reduceIte]; omega)) (by omega)) ?_
      refine Go_M (M1 := setR M 16 (updI (updI (updI (M 16) 7 (letE (M 21) (M 16 6) (M 16 7))) 10 (woF (M 21) (M 16 6) (M 16 7))) 7 (dga (M 21) (M 16 6) (letE (M 21) (M 16 6) (M 16 7))))) ((setR_tw _ _ _ _).trans rfl) ?_
      refine Go_puti (pc := 55) dX8_reads_55 fw_X8_178 (by decide) rfl rfl ?_
      refine Go_M (M1 := setR M 16 (updI (updI (updI (updI (M 16) 7 (letE (M 21) (M 16 6) (M 16 7))) 10 (woF (M 21) (M 16 6) (M 16 7))) 7 (dga (M 21) (M 16 6) (letE (M 21) (M 16 6) (M 16 7)))) 11 (dgr (M 21) (M 16 6) (letE (M 21) (M 16 6) (M 16 7))))) (setR_top _ _ _ _ _) ?_
      refine Go_aload_n (pc := 58) dX8_reads_58 rfl (by decide) rfl ?_
      refine Go_geti (pc := 59) (z := dgr (M 21) (M 16 6) (letE (M 21) (M 16 6) (M 16 7))) dX8_reads_59 fo_X8_178 (by decide) rfl rfl (show (updI (updI (updI (updI (M 16) 7 (letE (M 21) (M 16 6) (M 16 7))) 10 (woF (M 21) (M 16 6) (M 16 7))) 7 (dga (M 21) (M 16 6) (letE (M 21) (M 16 6) (M 16 7)))) 11 (dgr (M 21) (M 16 6) (letE (M 21) (M 16 6) (M 16 7)))) 11 = (dgr (M 21) (M 16 6) (letE (M 21) (M 16 6) (M 16 7))) from updI_s _ _ _) ?_
      refine Go_if_ge (pc := 62) (tgt := 72) dX8_reads_62 (by decide) (by omega) (fun c62 => ?_) (fun c62 => ?_)
      · refine Go_aload_n (pc := 72) dX8_reads_72 rfl (by decide) rfl ?_
        refine Go_geti (pc := 73) (z := woF (M 21) (M 16 6) (M 16 7)) dX8_reads_73 fo_X8_172 (by decide) rfl rfl (show (updI (updI (updI (updI (M 16) 7 (letE (M 21) (M 16 6) (M 16 7))) 10 (woF (M 21) (M 16 6) (M 16 7))) 7 (dga (M 21) (M 16 6) (letE (M 21) (M 16 6) (M 16 7)))) 11 (dgr (M 21) (M 16 6) (letE (M 21) (M 16 6) (M 16 7)))) 10 = (woF (M 21) (M 16 6) (M 16 7)) from (updI_n (by decide)).trans ((updI_n (by decide)).trans (updI_s _ _ _))) ?_
        refine Go_iconst (pc := 76) dX8_reads_76 ?_
        refine Go_icmp_eq (pc := 77) (tgt := 92) dX8_reads_77 (by decide) (by omega) (by decide) (fun c77 => ?_) (fun c77 => ?_)
        · refine Go_iconst (pc := 92) dX8_reads_92 ?_
          refine Go_istore_n (pc := 93) (L' := [some (.inr 16), some (.inl (M 16 7)), some (.inl 0)]) dX8_reads_93 rfl (by decide) rfl ?_
          refine Go_aload_n (pc := 94) dX8_reads_94 rfl (by decide) rfl ?_
          refine Go_iload_n (pc := 95) dX8_reads_95 rfl rfl ?_
          refine Go_if_eq (pc := 96) (tgt := 106) dX8_reads_96 (by decide) (by decide) (fun _ => ?_) (fun q => absurd q (by decide))
          refine Go_iconst (pc := 106) dX8_reads_106 ?_
          refine Go_puti (pc := 107) dX8_reads_107 fw_X8_181 (by decide) rfl rfl ?_
          refine Go_M (M1 := setR M 16 (updI (updI (updI (updI (updI (M 16) 7 (letE (M 21) (M 16 6) (M 16 7))) 10 (woF (M 21) (M 16 6) (M 16 7))) 7 (dga (M 21) (M 16 6) (letE (M 21) (M 16 6) (M 16 7)))) 11 (dgr (M 21) (M 16 6) (letE (M 21) (M 16 6) (M 16 7)))) 12 0)) (setR_top _ _ _ _ _) ?_
          refine Go_aload_n (pc := 110) dX8_reads_110 rfl (by decide) rfl ?_
          refine Go_geti (pc := 111) (z := 0) dX8_reads_111 fo_X8_181 (by decide) rfl rfl (show (updI (updI (updI (updI (updI (M 16) 7 (letE (M 21) (M 16 6) (M 16 7))) 10 (woF (M 21) (M 16 6) (M 16 7))) 7 (dga (M 21) (M 16 6) (letE (M 21) (M 16 6) (M 16 7)))) 11 (dgr (M 21) (M 16 6) (letE (M 21) (M 16 6) (M 16 7)))) 12 0) 12 = 0 from updI_s _ _ _) ?_
          refine Go_if_lt (pc := 114) (tgt := 126) dX8_reads_114 (by decide) (by decide) (fun q => absurd q (by decide)) (fun _ => ?_)
          refine Go_aload_n (pc := 117) dX8_reads_117 rfl (by decide) rfl ?_
          refine Go_invV (pc := 118) (y := yX8_sign) (avs := []) (k := 16) (rest := []) (x := .inl (sgF (M 21) (M 16 6) (dga (M 21) (M 16 6) (letE (M 21) (M 16 6) (M 16 7)))))  (d' := d - 1) dX8_reads_118 ln_X8_166 mo_X8_sign vo_X8_sign rfl (rc_16) rfl rfl (Nat.le_of_ble_eq_true rfl) (by omega) (Nat.le_of_ble_eq_true rfl) rfl (s_X8_sign (n := M 16 6) (p := dga (M 21) (M 16 6) (letE (M 21) (M 16 6) (M 16 7))) (by omega) (show (updI (updI (updI (updI (updI (M 16) 7 (letE (M 21) (M 16 6) (M 16 7))) 10 (woF (M 21) (M 16 6) (M 16 7))) 7 (dga (M 21) (M 16 6) (letE (M 21) (M 16 6) (M 16 7)))) 11 (dgr (M 21) (M 16 6) (letE (M 21) (M 16 6) (M 16 7)))) 12 0) 6 = (M 16 6) from (updI_n (by decide)).trans ((updI_n (by decide)).trans ((updI_n (by decide)).trans ((updI_n (by decide)).trans ((updI_n (by decide)).trans (rfl)))))) (show (updI (updI (updI (updI (updI (M 16) 7 (letE (M 21) (M 16 6) (M 16 7))) 10 (woF (M 21) (M 16 6) (M 16 7))) 7 (dga (M 21) (M 16 6) (letE (M 21) (M 16 6) (M 16 7)))) 11 (dgr (M 21) (M 16 6) (letE (M 21) (M 16 6) (M 16 7)))) 12 0) 7 = (dga (M 21) (M 16 6) (letE (M 21) (M 16 6) (M 16 7))) from (updI_n (by decide)).trans ((updI_n (by decide)).trans (updI_s _ _ _))) h (by first | omega | (simp only [Nat.reduceAdd, setR_s]; omega) | (simp only [setR, Nat.reduceEqDiff, reduceIte]; omega)) (by omega)) ?_
          refine Go_bipush (pc := 121) dX8_reads_121 (by decide) (by decide) ?_
          refine Go_icmp_eq (pc := 123) (tgt := 133) dX8_reads_123 (by decide) (by omega) (by decide) (fun c123 => ?_) (fun c123 => ?_)
          · refine Go_aload_n (pc := 133) dX8_reads_133 rfl (by decide) rfl ?_
            refine Go_dup (pc := 134) dX8_reads_134 ?_
            refine Go_geti (pc := 135) (z := dga (M 21) (M 16 6) (letE (M 21) (M 16 6) (M 16 7))) dX8_reads_135 fo_X8_159 (by decide) rfl rfl (show (updI (updI (updI (updI (updI (M 16) 7 (letE (M 21) (M 16 6) (M 16 7))) 10 (woF (M 21) (M 16 6) (M 16 7))) 7 (dga (M 21) (M 16 6) (letE (M 21) (M 16 6) (M 16 7)))) 11 (dgr (M 21) (M 16 6) (letE (M 21) (M 16 6) (M 16 7)))) 12 0) 7 = (dga (M 21) (M 16 6) (letE (M 21) (M 16 6) (M 16 7))) from (updI_n (by decide)).trans ((updI_n (by decide)).trans (updI_s _ _ _))) ?_
            refine Go_iconst (pc := 138) dX8_reads_138 ?_
            refine Go_iadd (pc := 139) dX8_reads_139 ?_
            refine Go_puti (pc := 140) dX8_reads_140 fw_X8_159 (by decide) rfl rfl ?_
            refine Go_M (M1 := setR M 16 (updI (updI (updI (updI (updI (updI (M 16) 7 (letE (M 21) (M 16 6) (M 16 7))) 10 (woF (M 21) (M 16 6) (M 16 7))) 7 (dga (M 21) (M 16 6) (letE (M 21) (M 16 6) (M 16 7)))) 11 (dgr (M 21) (M 16 6) (letE (M 21) (M 16 6) (M 16 7)))) 12 0) 7 ((dga (M 21) (M 16 6) (letE (M 21) (M 16 6) (M 16 7))) + 1))) (setR_top _ _ _ _ _) ?_
            refine Go_iconst (pc := 143) dX8_reads_143 ?_
            exact Go_ireturn (pc := 144) dX8_reads_144 rfl (by unfold rdF; (repeat' split) <;> first | rfl | (exfalso; omega)) (by unfold rdF; (repeat' split) <;> first | rfl | (exfalso; omega))
          · refine Go_aload_n (pc := 126) dX8_reads_126 rfl (by decide) rfl ?_
            refine Go_geti (pc := 127) (z := dga (M 21) (M 16 6) (letE (M 21) (M 16 6) (M 16 7))) dX8_reads_127 fo_X8_159 (by decide) rfl rfl (show (updI (updI (updI (updI (updI (M 16) 7 (letE (M 21) (M 16 6) (M 16 7))) 10 (woF (M 21) (M 16 6) (M 16 7))) 7 (dga (M 21) (M 16 6) (letE (M 21) (M 16 6) (M 16 7)))) 11 (dgr (M 21) (M 16 6) (letE (M 21) (M 16 6) (M 16 7)))) 12 0) 7 = (dga (M 21) (M 16 6) (letE (M 21) (M 16 6) (M 16 7))) from (updI_n (by decide)).trans ((updI_n (by decide)).trans (updI_s _ _ _))) ?_
            refine Go_iload_n (pc := 130) dX8_reads_130 rfl rfl ?_
            refine Go_isub (pc := 131) dX8_reads_131 ?_
            exact Go_ireturn (pc := 132) dX8_reads_132 rfl (by unfold rdF; (repeat' split) <;> first | rfl | (exfalso; omega)) (by unfold rdF; (repeat' split) <;> first | rfl | (exfalso; omega))
        · refine Go_aload_n (pc := 80) dX8_reads_80 rfl (by decide) rfl ?_
          refine Go_geti (pc := 81) (z := woF (M 21) (M 16 6) (M 16 7)) dX8_reads_81 fo_X8_172 (by decide) rfl rfl (show (updI (updI (updI (updI (M 16) 7 (letE (M 21) (M 16 6) (M 16 7))) 10 (woF (M 21) (M 16 6) (M 16 7))) 7 (dga (M 21) (M 16 6) (letE (M 21) (M 16 6) (M 16 7)))) 11 (dgr (M 21) (M 16 6) (letE (M 21) (M 16 6) (M 16 7)))) 10 = (woF (M 21) (M 16 6) (M 16 7)) from (updI_n (by decide)).trans ((updI_n (by decide)).trans (updI_s _ _ _))) ?_
          refine Go_iconst (pc := 84) dX8_reads_84 ?_
          refine Go_icmp_eq (pc := 85) (tgt := 92) dX8_reads_85 (by decide) (by omega) (by decide) (fun c85 => ?_) (fun c85 => ?_)
          · refine Go_iconst (pc := 92) dX8_reads_92 ?_
            refine Go_istore_n (pc := 93) (L' := [some (.inr 16), some (.inl (M 16 7)), some (.inl 0)]) dX8_reads_93 rfl (by decide) rfl ?_
            refine Go_aload_n (pc := 94) dX8_reads_94 rfl (by decide) rfl ?_
            refine Go_iload_n (pc := 95) dX8_reads_95 rfl rfl ?_
            refine Go_if_eq (pc := 96) (tgt := 106) dX8_reads_96 (by decide) (by decide) (fun _ => ?_) (fun q => absurd q (by decide))
            refine Go_iconst (pc := 106) dX8_reads_106 ?_
            refine Go_puti (pc := 107) dX8_reads_107 fw_X8_181 (by decide) rfl rfl ?_
            refine Go_M (M1 := setR M 16 (updI (updI (updI (updI (updI (M 16) 7 (letE (M 21) (M 16 6) (M 16 7))) 10 (woF (M 21) (M 16 6) (M 16 7))) 7 (dga (M 21) (M 16 6) (letE (M 21) (M 16 6) (M 16 7)))) 11 (dgr (M 21) (M 16 6) (letE (M 21) (M 16 6) (M 16 7)))) 12 0)) (setR_top _ _ _ _ _) ?_
            refine Go_aload_n (pc := 110) dX8_reads_110 rfl (by decide) rfl ?_
            refine Go_geti (pc := 111) (z := 0) dX8_reads_111 fo_X8_181 (by decide) rfl rfl (show (updI (updI (updI (updI (updI (M 16) 7 (letE (M 21) (M 16 6) (M 16 7))) 10 (woF (M 21) (M 16 6) (M 16 7))) 7 (dga (M 21) (M 16 6) (letE (M 21) (M 16 6) (M 16 7)))) 11 (dgr (M 21) (M 16 6) (letE (M 21) (M 16 6) (M 16 7)))) 12 0) 12 = 0 from updI_s _ _ _) ?_
            refine Go_if_lt (pc := 114) (tgt := 126) dX8_reads_114 (by decide) (by decide) (fun q => absurd q (by decide)) (fun _ => ?_)
            refine Go_aload_n (pc := 117) dX8_reads_117 rfl (by decide) rfl ?_
            refine Go_invV (pc := 118) (y := yX8_sign) (avs := []) (k := 16) (rest := []) (x := .inl (sgF (M 21) (M 16 6) (dga (M 21) (M 16 6) (letE (M 21) (M 16 6) (M 16 7)))))  (d' := d - 1) dX8_reads_118 ln_X8_166 mo_X8_sign vo_X8_sign rfl (rc_16) rfl rfl (Nat.le_of_ble_eq_true rfl) (by omega) (Nat.le_of_ble_eq_true rfl) rfl (s_X8_sign (n := M 16 6) (p := dga (M 21) (M 16 6) (letE (M 21) (M 16 6) (M 16 7))) (by omega) (show (updI (updI (updI (updI (updI (M 16) 7 (letE (M 21) (M 16 6) (M 16 7))) 10 (woF (M 21) (M 16 6) (M 16 7))) 7 (dga (M 21) (M 16 6) (letE (M 21) (M 16 6) (M 16 7)))) 11 (dgr (M 21) (M 16 6) (letE (M 21) (M 16 6) (M 16 7)))) 12 0) 6 = (M 16 6) from (updI_n (by decide)).trans ((updI_n (by decide)).trans ((updI_n (by decide)).trans ((updI_n (by decide)).trans ((updI_n (by decide)).trans (rfl)))))) (show (updI (updI (updI (updI (updI (M 16) 7 (letE (M 21) (M 16 6) (M 16 7))) 10 (woF (M 21) (M 16 6) (M 16 7))) 7 (dga (M 21) (M 16 6) (letE (M 21) (M 16 6) (M 16 7)))) 11 (dgr (M 21) (M 16 6) (letE (M 21) (M 16 6) (M 16 7)))) 12 0) 7 = (dga (M 21) (M 16 6) (letE (M 21) (M 16 6) (M 16 7))) from (updI_n (by decide)).trans ((updI_n (by decide)).trans (updI_s _ _ _))) h (by first | omega | (simp only [Nat.reduceAdd, setR_s]; omega) | (simp only [setR, Nat.reduceEqDiff, reduceIte]; omega)) (by omega)) ?_
            refine Go_bipush (pc := 121) dX8_reads_121 (by decide) (by decide) ?_
            refine Go_icmp_eq (pc := 123) (tgt := 133) dX8_reads_123 (by decide) (by omega) (by decide) (fun c123a => ?_) (fun c123a => ?_)
            · refine Go_aload_n (pc := 133) dX8_reads_133 rfl (by decide) rfl ?_
              refine Go_dup (pc := 134) dX8_reads_134 ?_
              refine Go_geti (pc := 135) (z := dga (M 21) (M 16 6) (letE (M 21) (M 16 6) (M 16 7))) dX8_reads_135 fo_X8_159 (by decide) rfl rfl (show (updI (updI (updI (updI (updI (M 16) 7 (letE (M 21) (M 16 6) (M 16 7))) 10 (woF (M 21) (M 16 6) (M 16 7))) 7 (dga (M 21) (M 16 6) (letE (M 21) (M 16 6) (M 16 7)))) 11 (dgr (M 21) (M 16 6) (letE (M 21) (M 16 6) (M 16 7)))) 12 0) 7 = (dga (M 21) (M 16 6) (letE (M 21) (M 16 6) (M 16 7))) from (updI_n (by decide)).trans ((updI_n (by decide)).trans (updI_s _ _ _))) ?_
              refine Go_iconst (pc := 138) dX8_reads_138 ?_
              refine Go_iadd (pc := 139) dX8_reads_139 ?_
              refine Go_puti (pc := 140) dX8_reads_140 fw_X8_159 (by decide) rfl rfl ?_
              refine Go_M (M1 := setR M 16 (updI (updI (updI (updI (updI (updI (M 16) 7 (letE (M 21) (M 16 6) (M 16 7))) 10 (woF (M 21) (M 16 6) (M 16 7))) 7 (dga (M 21) (M 16 6) (letE (M 21) (M 16 6) (M 16 7)))) 11 (dgr (M 21) (M 16 6) (letE (M 21) (M 16 6) (M 16 7)))) 12 0) 7 ((dga (M 21) (M 16 6) (letE (M 21) (M 16 6) (M 16 7))) + 1))) (setR_top _ _ _ _ _) ?_
              refine Go_iconst (pc := 143) dX8_reads_143 ?_
              exact Go_ireturn (pc := 144) dX8_reads_144 rfl (by unfold rdF; (repeat' split) <;> first | rfl | (exfalso; omega)) (by unfold rdF; (repeat' split) <;> first | rfl | (exfalso; omega))
            · refine Go_aload_n (pc := 126) dX8_reads_126 rfl (by decide) rfl ?_
              refine Go_geti (pc := 127) (z := dga (M 21) (M 16 6) (letE (M 21) (M 16 6) (M 16 7))) dX8_reads_127 fo_X8_159 (by decide) rfl rfl (show (updI (updI (updI (updI (updI (M 16) 7 (letE (M 21) (M 16 6) (M 16 7))) 10 (woF (M 21) (M 16 6) (M 16 7))) 7 (dga (M 21) (M 16 6) (letE (M 21) (M 16 6) (M 16 7)))) 11 (dgr (M 21) (M 16 6) (letE (M 21) (M 16 6) (M 16 7)))) 12 0) 7 = (dga (M 21) (M 16 6) (letE (M 21) (M 16 6) (M 16 7))) from (updI_n (by decide)).trans ((updI_n (by decide)).trans (updI_s _ _ _))) ?_
              refine Go_iload_n (pc := 130) dX8_reads_130 rfl rfl ?_
              refine Go_isub (pc := 131) dX8_reads_131 ?_
              exact Go_ireturn (pc := 132) dX8_reads_132 rfl (by unfold rdF; (repeat' split) <;> first | rfl | (exfalso; omega)) (by unfold rdF; (repeat' split) <;> first | rfl | (exfalso; omega))
          · refine Go_iconst (pc := 88) dX8_reads_88 ?_
            refine Go_goto (pc := 89) (tgt := 93) dX8_reads_89 (by decide) ?_
            refine Go_istore_n (pc := 93) (L' := [some (.inr 16), some (.inl (M 16 7)), some (.inl 1)]) dX8_reads_93 rfl (by decide) rfl ?_
            refine Go_aload_n (pc := 94) dX8_reads_94 rfl (by decide) rfl ?_
            refine Go_iload_n (pc := 95) dX8_reads_95 rfl rfl ?_
            refine Go_if_eq (pc := 96) (tgt := 106) dX8_reads_96 (by decide) (by decide) (fun q => absurd q (by decide)) (fun _ => ?_)
            refine Go_aload_n (pc := 99) dX8_reads_99 rfl (by decide) rfl ?_
            refine Go_invV (pc := 100) (y := yX8_digit) (avs := []) (k := 16) (rest := [.inr 16]) (x := .inl (dgr (M 21) (M 16 6) (dga (M 21) (M 16 6) (letE (M 21) (M 16 6) (M 16 7)))))  (d' := d - 1) dX8_reads_100 ln_X8_175 mo_X8_digit vo_X8_digit rfl (rc_16) rfl rfl (Nat.le_of_ble_eq_true rfl) (by omega) (Nat.le_of_ble_eq_true rfl) rfl (s_X8_digit (n := M 16 6) (q := dga (M 21) (M 16 6) (letE (M 21) (M 16 6) (M 16 7))) (by omega) (show (updI (updI (updI (updI (M 16) 7 (letE (M 21) (M 16 6) (M 16 7))) 10 (woF (M 21) (M 16 6) (M 16 7))) 7 (dga (M 21) (M 16 6) (letE (M 21) (M 16 6) (M 16 7)))) 11 (dgr (M 21) (M 16 6) (letE (M 21) (M 16 6) (M 16 7)))) 6 = (M 16 6) from (updI_n (by decide)).trans ((updI_n (by decide)).trans ((updI_n (by decide)).trans ((updI_n (by decide)).trans (rfl))))) (show (updI (updI (updI (updI (M 16) 7 (letE (M 21) (M 16 6) (M 16 7))) 10 (woF (M 21) (M 16 6) (M 16 7))) 7 (dga (M 21) (M 16 6) (letE (M 21) (M 16 6) (M 16 7)))) 11 (dgr (M 21) (M 16 6) (letE (M 21) (M 16 6) (M 16 7)))) 7 = (dga (M 21) (M 16 6) (letE (M 21) (M 16 6) (M 16 7))) from (updI_n (by decide)).trans (updI_s _ _ _)) h (by first | omega | (simp only [Nat.reduceAdd, setR_s]; omega) | (simp only [setR, Nat.reduceEqDiff, reduceIte]; omega)) (by omega)) ?_
            refine Go_M (M1 := setR M 16 (updI (updI (updI (updI (updI (M 16) 7 (letE (M 21) (M 16 6) (M 16 7))) 10 (woF (M 21) (M 16 6) (M 16 7))) 7 (dga (M 21) (M 16 6) (letE (M 21) (M 16 6) (M 16 7)))) 11 (dgr (M 21) (M 16 6) (letE (M 21) (M 16 6) (M 16 7)))) 7 (dga (M 21) (M 16 6) (dga (M 21) (M 16 6) (letE (M 21) (M 16 6) (M 16 7)))))) ((setR_tw _ _ _ _).trans rfl) ?_
            refine Go_goto (pc := 103) (tgt := 107) dX8_reads_103 (by decide) ?_
            refine Go_puti (pc := 107) dX8_reads_107 fw_X8_181 (by decide) rfl rfl ?_
            refine Go_M (M1 := setR M 16 (updI (updI (updI (updI (updI (updI (M 16) 7 (letE (M 21) (M 16 6) (M 16 7))) 10 (woF (M 21) (M 16 6) (M 16 7))) 7 (dga (M 21) (M 16 6) (letE (M 21) (M 16 6) (M 16 7)))) 11 (dgr (M 21) (M 16 6) (letE (M 21) (M 16 6) (M 16 7)))) 7 (dga (M 21) (M 16 6) (dga (M 21) (M 16 6) (letE (M 21) (M 16 6) (M 16 7))))) 12 (dgr (M 21) (M 16 6) (dga (M 21) (M 16 6) (letE (M 21) (M 16 6) (M 16 7)))))) (setR_top _ _ _ _ _) ?_
            refine Go_aload_n (pc := 110) dX8_reads_110 rfl (by decide) rfl ?_
            refine Go_geti (pc := 111) (z := dgr (M 21) (M 16 6) (dga (M 21) (M 16 6) (letE (M 21) (M 16 6) (M 16 7)))) dX8_reads_111 fo_X8_181 (by decide) rfl rfl (show (updI (updI (updI (updI (updI (updI (M 16) 7 (letE (M 21) (M 16 6) (M 16 7))) 10 (woF (M 21) (M 16 6) (M 16 7))) 7 (dga (M 21) (M 16 6) (letE (M 21) (M 16 6) (M 16 7)))) 11 (dgr (M 21) (M 16 6) (letE (M 21) (M 16 6) (M 16 7)))) 7 (dga (M 21) (M 16 6) (dga (M 21) (M 16 6) (letE (M 21) (M 16 6) (M 16 7))))) 12 (dgr (M 21) (M 16 6) (dga (M 21) (M 16 6) (letE (M 21) (M 16 6) (M 16 7))))) 12 = (dgr (M 21) (M 16 6) (dga (M 21) (M 16 6) (letE (M 21) (M 16 6) (M 16 7)))) from updI_s _ _ _) ?_
            refine Go_if_lt (pc := 114) (tgt := 126) dX8_reads_114 (by decide) (by omega) (fun c114 => ?_) (fun c114 => ?_)
            · refine Go_aload_n (pc := 126) dX8_reads_126 rfl (by decide) rfl ?_
              refine Go_geti (pc := 127) (z := dga (M 21) (M 16 6) (dga (M 21) (M 16 6) (letE (M 21) (M 16 6) (M 16 7)))) dX8_reads_127 fo_X8_159 (by decide) rfl rfl (show (updI (updI (updI (updI (updI (updI (M 16) 7 (letE (M 21) (M 16 6) (M 16 7))) 10 (woF (M 21) (M 16 6) (M 16 7))) 7 (dga (M 21) (M 16 6) (letE (M 21) (M 16 6) (M 16 7)))) 11 (dgr (M 21) (M 16 6) (letE (M 21) (M 16 6) (M 16 7)))) 7 (dga (M 21) (M 16 6) (dga (M 21) (M 16 6) (letE (M 21) (M 16 6) (M 16 7))))) 12 (dgr (M 21) (M 16 6) (dga (M 21) (M 16 6) (letE (M 21) (M 16 6) (M 16 7))))) 7 = (dga (M 21) (M 16 6) (dga (M 21) (M 16 6) (letE (M 21) (M 16 6) (M 16 7)))) from (updI_n (by decide)).trans (updI_s _ _ _)) ?_
              refine Go_iload_n (pc := 130) dX8_reads_130 rfl rfl ?_
              refine Go_isub (pc := 131) dX8_reads_131 ?_
              exact Go_ireturn (pc := 132) dX8_reads_132 rfl (by unfold rdF; (repeat' split) <;> first | rfl | (exfalso; omega)) (by unfold rdF; (repeat' split) <;> first | rfl | (exfalso; omega))
            · refine Go_aload_n (pc := 117) dX8_reads_117 rfl (by decide) rfl ?_
              refine Go_invV (pc := 118) (y := yX8_sign) (avs := []) (k := 16) (rest := []) (x := .inl (sgF (M 21) (M 16 6) (dga (M 21) (M 16 6) (dga (M 21) (M 16 6) (letE (M 21) (M 16 6) (M 16 7))))))  (d' := d - 1) dX8_reads_118 ln_X8_166 mo_X8_sign vo_X8_sign rfl (rc_16) rfl rfl (Nat.le_of_ble_eq_true rfl) (by omega) (Nat.le_of_ble_eq_true rfl) rfl (s_X8_sign (n := M 16 6) (p := dga (M 21) (M 16 6) (dga (M 21) (M 16 6) (letE (M 21) (M 16 6) (M 16 7)))) (by omega) (show (updI (updI (updI (updI (updI (updI (M 16) 7 (letE (M 21) (M 16 6) (M 16 7))) 10 (woF (M 21) (M 16 6) (M 16 7))) 7 (dga (M 21) (M 16 6) (letE (M 21) (M 16 6) (M 16 7)))) 11 (dgr (M 21) (M 16 6) (letE (M 21) (M 16 6) (M 16 7)))) 7 (dga (M 21) (M 16 6) (dga (M 21) (M 16 6) (letE (M 21) (M 16 6) (M 16 7))))) 12 (dgr (M 21) (M 16 6) (dga (M 21) (M 16 6) (letE (M 21) (M 16 6) (M 16 7))))) 6 = (M 16 6) from (updI_n (by decide)).trans ((updI_n (by decide)).trans ((updI_n (by decide)).trans ((updI_n (by decide)).trans ((updI_n (by decide)).trans ((updI_n (by decide)).trans (rfl))))))) (show (updI (updI (updI (updI (updI (updI (M 16) 7 (letE (M 21) (M 16 6) (M 16 7))) 10 (woF (M 21) (M 16 6) (M 16 7))) 7 (dga (M 21) (M 16 6) (letE (M 21) (M 16 6) (M 16 7)))) 11 (dgr (M 21) (M 16 6) (letE (M 21) (M 16 6) (M 16 7)))) 7 (dga (M 21) (M 16 6) (dga (M 21) (M 16 6) (letE (M 21) (M 16 6) (M 16 7))))) 12 (dgr (M 21) (M 16 6) (dga (M 21) (M 16 6) (letE (M 21) (M 16 6) (M 16 7))))) 7 = (dga (M 21) (M 16 6) (dga (M 21) (M 16 6) (letE (M 21) (M 16 6) (M 16 7)))) from (updI_n (by decide)).trans (updI_s _ _ _)) h (by first | omega | (simp only [Nat.reduceAdd, setR_s]; omega) | (simp only [setR, Nat.reduceEqDiff, reduceIte]; omega)) (by omega)) ?_
              refine Go_bipush (pc := 121) dX8_reads_121 (by decide) (by decide) ?_
              refine Go_icmp_eq (pc := 123) (tgt := 133) dX8_reads_123 (by decide) (by omega) (by decide) (fun c123b => ?_) (fun c123b => ?_)
              · refine Go_aload_n (pc := 133) dX8_reads_133 rfl (by decide) rfl ?_
                refine Go_dup (pc := 134) dX8_reads_134 ?_
                refine Go_geti (pc := 135) (z := dga (M 21) (M 16 6) (dga (M 21) (M 16 6) (letE (M 21) (M 16 6) (M 16 7)))) dX8_reads_135 fo_X8_159 (by decide) rfl rfl (show (updI (updI (updI (updI (updI (updI (M 16) 7 (letE (M 21) (M 16 6) (M 16 7))) 10 (woF (M 21) (M 16 6) (M 16 7))) 7 (dga (M 21) (M 16 6) (letE (M 21) (M 16 6) (M 16 7)))) 11 (dgr (M 21) (M 16 6) (letE (M 21) (M 16 6) (M 16 7)))) 7 (dga (M 21) (M 16 6) (dga (M 21) (M 16 6) (letE (M 21) (M 16 6) (M 16 7))))) 12 (dgr (M 21) (M 16 6) (dga (M 21) (M 16 6) (letE (M 21) (M 16 6) (M 16 7))))) 7 = (dga (M 21) (M 16 6) (dga (M 21) (M 16 6) (letE (M 21) (M 16 6) (M 16 7)))) from (updI_n (by decide)).trans (updI_s _ _ _)) ?_
                refine Go_iconst (pc := 138) dX8_reads_138 ?_
                refine Go_iadd (pc := 139) dX8_reads_139 ?_
                refine Go_puti (pc := 140) dX8_reads_140 fw_X8_159 (by decide) rfl rfl ?_
                refine Go_M (M1 := setR M 16 (updI (updI (updI (updI (updI (updI (updI (M 16) 7 (letE (M 21) (M 16 6) (M 16 7))) 10 (woF (M 21) (M 16 6) (M 16 7))) 7 (dga (M 21) (M 16 6) (letE (M 21) (M 16 6) (M 16 7)))) 11 (dgr (M 21) (M 16 6) (letE (M 21) (M 16 6) (M 16 7)))) 7 (dga (M 21) (M 16 6) (dga (M 21) (M 16 6) (letE (M 21) (M 16 6) (M 16 7))))) 12 (dgr (M 21) (M 16 6) (dga (M 21) (M 16 6) (letE (M 21) (M 16 6) (M 16 7))))) 7 ((dga (M 21) (M 16 6) (dga (M 21) (M 16 6) (letE (M 21) (M 16 6) (M 16 7)))) + 1))) (setR_top _ _ _ _ _) ?_
                refine Go_iconst (pc := 143) dX8_reads_143 ?_
                exact Go_ireturn (pc := 144) dX8_reads_144 rfl (by unfold rdF; (repeat' split) <;> first | rfl | (exfalso; omega)) (by unfold rdF; (repeat' split) <;> first | rfl | (exfalso; omega))
              · refine Go_aload_n (pc := 126) dX8_reads_126 rfl (by decide) rfl ?_
                refine Go_geti (pc := 127) (z := dga (M 21) (M 16 6) (dga (M 21) (M 16 6) (letE (M 21) (M 16 6) (M 16 7)))) dX8_reads_127 fo_X8_159 (by decide) rfl rfl (show (updI (updI (updI (updI (updI (updI (M 16) 7 (letE (M 21) (M 16 6) (M 16 7))) 10 (woF (M 21) (M 16 6) (M 16 7))) 7 (dga (M 21) (M 16 6) (letE (M 21) (M 16 6) (M 16 7)))) 11 (dgr (M 21) (M 16 6) (letE (M 21) (M 16 6) (M 16 7)))) 7 (dga (M 21) (M 16 6) (dga (M 21) (M 16 6) (letE (M 21) (M 16 6) (M 16 7))))) 12 (dgr (M 21) (M 16 6) (dga (M 21) (M 16 6) (letE (M 21) (M 16 6) (M 16 7))))) 7 = (dga (M 21) (M 16 6) (dga (M 21) (M 16 6) (letE (M 21) (M 16 6) (M 16 7)))) from (updI_n (by decide)).trans (updI_s _ _ _)) ?_
                refine Go_iload_n (pc := 130) dX8_reads_130 rfl rfl ?_
                refine Go_isub (pc := 131) dX8_reads_131 ?_
                exact Go_ireturn (pc := 132) dX8_reads_132 rfl (by unfold rdF; (repeat' split) <;> first | rfl | (exfalso; omega)) (by unfold rdF; (repeat' split) <;> first | rfl | (exfalso; omega))
      · refine Go_aload_n (pc := 65) dX8_reads_65 rfl (by decide) rfl ?_
        refine Go_geti (pc := 66) (z := dga (M 21) (M 16 6) (letE (M 21) (M 16 6) (M 16 7))) dX8_reads_66 fo_X8_159 (by decide) rfl rfl (show (updI (updI (updI (updI (M 16) 7 (letE (M 21) (M 16 6) (M 16 7))) 10 (woF (M 21) (M 16 6) (M 16 7))) 7 (dga (M 21) (M 16 6) (letE (M 21) (M 16 6) (M 16 7)))) 11 (dgr (M 21) (M 16 6) (letE (M 21) (M 16 6) (M 16 7)))) 7 = (dga (M 21) (M 16 6) (letE (M 21) (M 16 6) (M 16 7))) from (updI_n (by decide)).trans (updI_s _ _ _)) ?_
        refine Go_iload_n (pc := 69) dX8_reads_69 rfl rfl ?_
        refine Go_isub (pc := 70) dX8_reads_70 ?_
        exact Go_ireturn (pc := 71) dX8_reads_71 rfl (by unfold rdF; (repeat' split) <;> first | rfl | (exfalso; omega)) (by unfold rdF; (repeat' split) <;> first | rfl | (exfalso; omega))
    · refine Go_iconst (pc := 48) dX8_reads_48 ?_
      exact Go_ireturn (pc := 49) dX8_reads_49 rfl (by unfold rdF; (repeat' split) <;> first | rfl | (exfalso; omega)) (by unfold rdF; (repeat' split) <;> first | rfl | (exfalso; omega))
  have K : ∀ i, M 16 7 ≤ i → i ≤ M 16 6 → letE (M 21) (M 16 6) i = letE (M 21) (M 16 6) (M 16 7) → ∀ x : Option MV, Go d RX8 cX8_reads 3 (some .int) 5 [some (.inr 16), some (.inl (M 16 7)), x] [] (setR M 16 (updI (M 16) 7 i)) (some (.inl (rdF (M 21) (M 16 6) (M 16 7) (M 16)).1)) (setR M 16 (rdF (M 21) (M 16 6) (M 16 7) (M 16)).2) := by
    refine up_ind (M 16 7) (M 16 6) _ (fun i i0 i1 ih he x => ?_)
    have si := sg_c h (p := i) (by omega)
    have e1 := fun c : ltP (M 21) (M 16 6) i => letE_y (f := M 21) (n := M 16 6) (p := i) (by omega) c
    have e2 := fun c : ¬ ltP (M 21) (M 16 6) i => letE_n (f := M 21) (n := M 16 6) (p := i) c
    refine Go_aload_n (pc := 5) dX8_reads_5 rfl (by decide) rfl ?_
    refine Go_invV (pc := 6) (y := yX8_sign) (avs := []) (k := 16) (rest := []) (x := .inl (sgF (M 21) (M 16 6) i))  (d' := d - 1) dX8_reads_6 ln_X8_166 mo_X8_sign vo_X8_sign rfl (rc_16) rfl rfl (Nat.le_of_ble_eq_true rfl) (by omega) (Nat.le_of_ble_eq_true rfl) rfl (s_X8_sign (n := M 16 6) (p := i) (by omega) (show (updI (M 16) 7 i) 6 = (M 16 6) from (updI_n (by decide)).trans (rfl)) (show (updI (M 16) 7 i) 7 = i from updI_s _ _ _) h (by first | omega | (simp only [Nat.reduceAdd, setR_s]; omega) | (simp only [setR, Nat.reduceEqDiff, reduceIte]; omega)) (by omega)) ?_
    refine Go_bipush (pc := 9) dX8_reads_9 (by decide) (by decide) ?_
    refine Go_bipush (pc := 11) dX8_reads_11 (by decide) (by decide) ?_
    refine Go_invS (pc := 13) (y := yX8_in) (avs := [.inl (sgF (M 21) (M 16 6) i), .inl 97, .inl 122]) (rest := []) (x := .inl (b2i (97 ≤ (sgF (M 21) (M 16 6) i) ∧ (sgF (M 21) (M 16 6) i) ≤ 122)))  (d' := d - 1) dX8_reads_13 ln_X8_38 mo_X8_in so_X8_in rfl rfl rfl (Nat.le_of_ble_eq_true rfl) (by omega) (Nat.le_of_ble_eq_true rfl) rfl (s_X8_in (by omega) (by omega) (by decide) (by decide)) ?_
    refine Go_ifeqB (pc := 16) (tgt := 32) dX8_reads_16 (by decide) (fun c16 => ?_) (fun c16 => ?_)
    · have e3 := e2 (by omega)
      rw [e3] at he
      exact Go_M (by rw [he]) (K2 _)
    · refine Go_aload_n (pc := 19) dX8_reads_19 rfl (by decide) rfl ?_
      refine Go_dup (pc := 20) dX8_reads_20 ?_
      refine Go_geti (pc := 21) (z := i) dX8_reads_21 fo_X8_159 (by decide) rfl rfl (show (updI (M 16) 7 i) 7 = i from updI_s _ _ _) ?_
      refine Go_iconst (pc := 24) dX8_reads_24 ?_
      refine Go_iadd (pc := 25) dX8_reads_25 ?_
      refine Go_puti (pc := 26) dX8_reads_26 fw_X8_159 (by decide) rfl rfl ?_
      refine Go_M (M1 := setR M 16 (updI (updI (M 16) 7 i) 7 (i + 1))) (setR_top _ _ _ _ _) ?_
      refine Go_goto (pc := 29) (tgt := 5) dX8_reads_29 (by decide) ?_
      have e3 := e1 (by omega)
      exact Go_M (by rw [updI_tw]) (ih (by omega) (by rw [← e3.1]; exact he) _)
  refine Go_aload_n (pc := 0) dX8_reads_0 rfl (by decide) rfl ?_
  refine Go_geti (pc := 1) (z := M 16 7) dX8_reads_1 fo_X8_159 (by decide) rfl rfl (rfl) ?_
  refine Go_istore_n (pc := 4) (L' := [some (.inr 16), some (.inl (M 16 7)), none]) dX8_reads_4 rfl (by decide) rfl ?_
  exact Go_M (by rw [updI_id, setR_id]) (K (M 16 7) (Int.le_refl _) p1 rfl _)
/-- what is read -/
def RdS (f : Int → Int) (n p k : Int) (r : Int → Int) : Prop := (rdF f n p r).1 = brF f n p k ∧ (brF f n p k = -1 → (rdF f n p r).2 7 = p + olF k ∧ (rdF f n p r).2 10 = k ∧ (rdF f n p r).2 11 = dgV f n (p + wlF k + 1) ∧ (¬ k = 2 → ¬ k = 4 → (rdF f n p r).2 12 = dgV f n (p + wlF k + 3)))
theorem rdF_fr (f : Int → Int) (n p : Int) (r : Int → Int) {q : Int} (h7 : q ≠ 7) (h10 : q ≠ 10) (h11 : q ≠ 11) (h12 : q ≠ 12) : (rdF f n p r).2 q = r q := by
  unfold rdF rdC rdB rdA
  (repeat' split) <;> simp only [updI, if_neg h7, if_neg h10, if_neg h11, if_neg h12]
theorem wd_len {f : Int → Int} {n p : Int} : (kdF f n p = 0 → letE f n p = p + 4) ∧ (kdF f n p = 1 → letE f n p = p + 4) ∧ (kdF f n p = 2 → letE f n p = p + 5) ∧ (kdF f n p = 3 → letE f n p = p + 4) ∧ (kdF f n p = 4 → letE f n p = p + 4) := by
  unfold kdF
  (repeat' split) <;> omega
theorem dgr_n {f : Int → Int} {n q : Int} (h : ¬ cT f n q = 32) : dgr f n q = -1 ∧ dga f n q = q := ⟨if_neg h, if_neg h⟩
theorem dgr_m {f : Int → Int} {n q : Int} (h : cT f n q = 32) (h2 : ¬ dgP f n (q + 1)) : dgr f n q = -1 ∧ dga f n q = q + 1 := ⟨(if_pos h).trans (if_neg h2), (if_pos h).trans (if_neg h2)⟩
theorem dgr_y {f : Int → Int} {n q : Int} (h : cT f n q = 32) (h2 : dgP f n (q + 1)) : dgr f n q = dgV f n (q + 1) ∧ dga f n q = q + 2 ∧ 0 ≤ dgr f n q := by
  have e1 : dgr f n q = cT f n (q + 1) - 48 := (if_pos h).trans (if_pos h2)
  have e2 : dga f n q = q + 1 + 1 := (if_pos h).trans (if_pos h2)
  have e3 : dgV f n (q + 1) = cT f n (q + 1) - 48 := if_pos h2
  unfold dgP at h2
  omega
