/-! the class: the search goes through -/
theorem sumA_u {t : Int → Int} {s : Int} (s0 : 0 ≤ s) (x : Int) : sumA (updI t s x) (s + 1) = sumA t s + (x.natAbs : Int) := by
  rw [sumA_s _ s0, updI_s, sumA_c (fun j p q => updI_n (by omega))]
theorem effS_u {eff : Int → Int → Int} {t : Int → Int} {e s : Int} (s0 : 0 ≤ s) (x : Int) : effS eff (updI t s x) e (s + 1) = effS eff t e s + eff s e * x := by
  rw [effS_s _ _ _ s0, updI_s, effS_c (fun j p q => updI_n (by omega))]
theorem mN_no {nd ef rc : Int → Int} {way : Int} : ∀ (m : Nat) (i most : Int), (∀ e, i ≤ e → e < i + (m : Int) → ef e = 0) → mN nd ef rc way m i most 0 = 0 ∨ mN nd ef rc way m i most 0 = -10 := by
  intro m
  induction m with
  | zero => exact fun i most _ => Or.inl rfl
  | succ m ih =>
    intro i most h
    have h0 := h i (Int.le_refl i) (by omega)
    by_cases z : ((nd i).natAbs : Int) ≤ rc i
    · rw [mN_e h0 z]
      exact ih (i + 1) most (fun e p q => h e (by omega) (by omega))
    · rw [mN_x h0 z]
      exact Or.inr rfl
theorem s_X2_search (need : Int → Int) : ∀ (m d : Nat) (M : gMem) (s : Int), m + 3 ≤ d → (M 10 6 - s).toNat = m → SI need M s → ∃ M', Go d RX2 cX2_search 7 none 0 [some (.inr 10), some (.inl s), some (.inl (sumA (M 14) s)), none, none, none, none] [] M none M' ∧ Inv need (cmpl (M 10 6) s (M 14)) M M' s := by
  intro m
  induction m using Nat.strongRecOn with
  | ind m IH =>
    intro d M s hd hm h
    have s4 := h.s4
    have n4 := h.q.n4
    have e8 := h.q.e8
    have ls := h.ls
    have hg := grZ_ge (M 11) (M 10 5)
    have hgb := grZ_le (f := M 11) (X := 45) (E := M 10 5) (by omega) (fun e p q => by have := h.ndb e p q; omega)
    have hS := sumA_b9 s4.1 h.tr
    by_cases cA : M 10 7 ≤ sumA (M 14) s + grZ (M 11) (M 10 5)
    · refine ⟨M, ?_, Inv.rf ls (fun v cv ov => by have := prune1 s4.1 s4.2 h.q.ef h.nd cv ov; omega)⟩
      generalize sumA (M 14) s = S at cA hS ⊢
      generalize hG : grZ (M 11) (M 10 5) = G at cA hg hgb
      refine Go_aload_n (pc := 0) dX2_search_0 rfl (by decide) rfl ?_
      refine Go_invV (pc := 1) (y := yX2_greatestNeed) (avs := []) (k := 10) (rest := []) (x := .inl (grZ (M 11) (M 10 5)))  (d' := d - 1) dX2_search_1 ln_X2_80 mo_X2_greatestNeed vo_X2_greatestNeed rfl (rc_10) rfl rfl (Nat.le_of_ble_eq_true rfl) (by omega) (Nat.le_of_ble_eq_true rfl) rfl (s_X2_greatestNeed (by omega) e8 h.ndb) ?_
      refine Go_istore_n (pc := 4) (L' := [some (.inr 10), some (.inl s), some (.inl S), some (.inl (grZ (M 11) (M 10 5))), none, none, none]) dX2_search_4 rfl (by decide) rfl ?_
      refine Go_iload_n (pc := 5) dX2_search_5 rfl rfl ?_
      refine Go_iload_n (pc := 6) dX2_search_6 rfl rfl ?_
      refine Go_iadd (pc := 7) dX2_search_7 ?_
      refine Go_aload_n (pc := 8) dX2_search_8 rfl (by decide) rfl ?_
      refine Go_geti (pc := 9) (z := M 10 7) dX2_search_9 fo_X2_34 (by decide) rfl rfl (rfl) ?_
      refine Go_icmp_lt (pc := 12) (tgt := 16) dX2_search_12 (by decide) (by first | omega | (rw [hG]; omega)) (by first | omega | (rw [hG]; omega)) (fun c12 => ?_) (fun c12 => ?_)
      · exfalso; rw [hG] at c12; omega
      · exact Go_return (pc := 15) dX2_search_15 rfl rfl rfl
    by_cases cB : M 10 6 ≤ s
    · have es : s = M 10 6 := by omega
      by_cases cG : grZ (M 11) (M 10 5) = 0
      · refine ⟨setR (setR M 10 (updI (M 10) 7 (sumA (M 14) s))) 15 (cpyI (M 14) (M 15) 0 0 4), ?_, ?_⟩
        · generalize sumA (M 14) s = S at cA hS ⊢
          generalize hG : grZ (M 11) (M 10 5) = G at cA hg hgb cG
          refine Go_aload_n (pc := 0) dX2_search_0 rfl (by decide) rfl ?_
          refine Go_invV (pc := 1) (y := yX2_greatestNeed) (avs := []) (k := 10) (rest := []) (x := .inl (grZ (M 11) (M 10 5)))  (d' := d - 1) dX2_search_1 ln_X2_80 mo_X2_greatestNeed vo_X2_greatestNeed rfl (rc_10) rfl rfl (Nat.le_of_ble_eq_true rfl) (by omega) (Nat.le_of_ble_eq_true rfl) rfl (s_X2_greatestNeed (by omega) e8 h.ndb) ?_
          refine Go_istore_n (pc := 4) (L' := [some (.inr 10), some (.inl s), some (.inl S), some (.inl (grZ (M 11) (M 10 5))), none, none, none]) dX2_search_4 rfl (by decide) rfl ?_
          refine Go_iload_n (pc := 5) dX2_search_5 rfl rfl ?_
          refine Go_iload_n (pc := 6) dX2_search_6 rfl rfl ?_
          refine Go_iadd (pc := 7) dX2_search_7 ?_
          refine Go_aload_n (pc := 8) dX2_search_8 rfl (by decide) rfl ?_
          refine Go_geti (pc := 9) (z := M 10 7) dX2_search_9 fo_X2_34 (by decide) rfl rfl (rfl) ?_
          refine Go_icmp_lt (pc := 12) (tgt := 16) dX2_search_12 (by decide) (by first | omega | (rw [hG]; omega)) (by first | omega | (rw [hG]; omega)) (fun c12 => ?_) (fun c12 => ?_)
          · refine Go_iload_n (pc := 16) dX2_search_16 rfl rfl ?_
            refine Go_aload_n (pc := 17) dX2_search_17 rfl (by decide) rfl ?_
            refine Go_geti (pc := 18) (z := M 10 6) dX2_search_18 fo_X2_31 (by decide) rfl rfl (rfl) ?_
            refine Go_icmp_ge (pc := 21) (tgt := 29) dX2_search_21 (by decide) (by first | omega | (rw [hG]; omega)) (by first | omega | (rw [hG]; omega)) (fun c21 => ?_) (fun c21 => ?_)
            · refine Go_iload_n (pc := 29) dX2_search_29 rfl rfl ?_
              refine Go_if_ne (pc := 30) (tgt := 38) dX2_search_30 (by decide) (by first | omega | (rw [hG]; omega)) (fun c30 => ?_) (fun c30 => ?_)
              · first | (exfalso; rw [hG] at c12; omega) | exact Go_return (pc := 38) dX2_search_38 rfl rfl rfl | (exfalso; rw [hG] at c30; omega)
              · refine Go_aload_n (pc := 33) dX2_search_33 rfl (by decide) rfl ?_
                refine Go_iload_n (pc := 34) dX2_search_34 rfl rfl ?_
                refine Go_invVv (pc := 35) (y := yX2_keepBest) (avs := [.inl S]) (k := 10) (rest := [])  (M1 := setR (setR M 10 (updI (M 10) 7 S)) 15 (cpyI (M 14) (M 15) 0 0 4)) (d' := d - 1) dX2_search_35 ln_X2_83 mo_X2_keepBest vo_X2_keepBest rfl (rc_10) rfl rfl (Nat.le_of_ble_eq_true rfl) (by omega) (Nat.le_of_ble_eq_true rfl) rfl (s_X2_keepBest (by omega)) ?_
                first | (exfalso; rw [hG] at c12; omega) | exact Go_return (pc := 38) dX2_search_38 rfl rfl rfl | (exfalso; rw [hG] at c30; omega)
            · refine Go_iload_n (pc := 24) dX2_search_24 rfl rfl ?_
              refine Go_iconst (pc := 25) dX2_search_25 ?_
              refine Go_icmp_lt (pc := 26) (tgt := 39) dX2_search_26 (by decide) (by first | omega | (rw [hG]; omega)) (by decide) (fun c26 => ?_) (fun c26 => ?_)
              · exfalso; omega
              · refine Go_iload_n (pc := 29) dX2_search_29 rfl rfl ?_
                refine Go_if_ne (pc := 30) (tgt := 38) dX2_search_30 (by decide) (by first | omega | (rw [hG]; omega)) (fun c30a => ?_) (fun c30a => ?_)
                · first | (exfalso; rw [hG] at c12; omega) | exact Go_return (pc := 38) dX2_search_38 rfl rfl rfl | (exfalso; rw [hG] at c30; omega)
                · refine Go_aload_n (pc := 33) dX2_search_33 rfl (by decide) rfl ?_
                  refine Go_iload_n (pc := 34) dX2_search_34 rfl rfl ?_
                  refine Go_invVv (pc := 35) (y := yX2_keepBest) (avs := [.inl S]) (k := 10) (rest := [])  (M1 := setR (setR M 10 (updI (M 10) 7 S)) 15 (cpyI (M 14) (M 15) 0 0 4)) (d' := d - 1) dX2_search_35 ln_X2_83 mo_X2_keepBest vo_X2_keepBest rfl (rc_10) rfl rfl (Nat.le_of_ble_eq_true rfl) (by omega) (Nat.le_of_ble_eq_true rfl) rfl (s_X2_keepBest (by omega)) ?_
                  first | (exfalso; rw [hG] at c12; omega) | exact Go_return (pc := 38) dX2_search_38 rfl rfl rfl | (exfalso; rw [hG] at c30; omega)
          · first | (exfalso; rw [hG] at c12; omega) | exact Go_return (pc := 15) dX2_search_15 rfl rfl rfl | (exfalso; rw [hG] at c30; omega)
        · refine ⟨fun k a b c => by simp only [setR]; rw [if_neg (by omega), if_neg (by omega)], fun i a => updI_n a, fun _ _ _ => rfl, ⟨?_, ?_⟩, ?_⟩
          · show 0 ≤ updI (M 10) 7 (sumA (M 14) s) 7
            rw [updI_s]; omega
          · show updI (M 10) 7 (sumA (M 14) s) 7 ≤ 37
            rw [updI_s]; omega
          · show Fst _ _ _ _ _ (updI (M 10) 7 (sumA (M 14) s) 7) (cpyI (M 14) (M 15) 0 0 4)
            rw [updI_s, es]
            refine Fst_leaf (fun v c => c.1) ⟨fun _ _ _ => rfl, fun j a b => by omega⟩ (fun e p q => ?_) (by rw [← es]; omega) (fun j p q => ?_)
            · have a := h.nd e p q
              have b := hg.2 e p q
              rw [es] at a
              omega
            · refine (cpyI_in (f := M 14) (g := M 15) (sp := 0) (dp := 0) (n := 4) (q := j) ⟨p, by omega⟩).trans ?_
              congr 1
              omega
      · refine ⟨M, ?_, Inv.rf ls (fun v cv ov => ?_)⟩
        · generalize sumA (M 14) s = S at cA hS ⊢
          generalize hG : grZ (M 11) (M 10 5) = G at cA hg hgb cG
          refine Go_aload_n (pc := 0) dX2_search_0 rfl (by decide) rfl ?_
          refine Go_invV (pc := 1) (y := yX2_greatestNeed) (avs := []) (k := 10) (rest := []) (x := .inl (grZ (M 11) (M 10 5)))  (d' := d - 1) dX2_search_1 ln_X2_80 mo_X2_greatestNeed vo_X2_greatestNeed rfl (rc_10) rfl rfl (Nat.le_of_ble_eq_true rfl) (by omega) (Nat.le_of_ble_eq_true rfl) rfl (s_X2_greatestNeed (by omega) e8 h.ndb) ?_
          refine Go_istore_n (pc := 4) (L' := [some (.inr 10), some (.inl s), some (.inl S), some (.inl (grZ (M 11) (M 10 5))), none, none, none]) dX2_search_4 rfl (by decide) rfl ?_
          refine Go_iload_n (pc := 5) dX2_search_5 rfl rfl ?_
          refine Go_iload_n (pc := 6) dX2_search_6 rfl rfl ?_
          refine Go_iadd (pc := 7) dX2_search_7 ?_
          refine Go_aload_n (pc := 8) dX2_search_8 rfl (by decide) rfl ?_
          refine Go_geti (pc := 9) (z := M 10 7) dX2_search_9 fo_X2_34 (by decide) rfl rfl (rfl) ?_
          refine Go_icmp_lt (pc := 12) (tgt := 16) dX2_search_12 (by decide) (by first | omega | (rw [hG]; omega)) (by first | omega | (rw [hG]; omega)) (fun c12 => ?_) (fun c12 => ?_)
          · refine Go_iload_n (pc := 16) dX2_search_16 rfl rfl ?_
            refine Go_aload_n (pc := 17) dX2_search_17 rfl (by decide) rfl ?_
            refine Go_geti (pc := 18) (z := M 10 6) dX2_search_18 fo_X2_31 (by decide) rfl rfl (rfl) ?_
            refine Go_icmp_ge (pc := 21) (tgt := 29) dX2_search_21 (by decide) (by first | omega | (rw [hG]; omega)) (by first | omega | (rw [hG]; omega)) (fun c21 => ?_) (fun c21 => ?_)
            · refine Go_iload_n (pc := 29) dX2_search_29 rfl rfl ?_
              refine Go_if_ne (pc := 30) (tgt := 38) dX2_search_30 (by decide) (by first | omega | (rw [hG]; omega)) (fun c30 => ?_) (fun c30 => ?_)
              · first | (exfalso; rw [hG] at c12; omega) | (exfalso; rw [hG] at c30; omega) | exact Go_return (pc := 38) dX2_search_38 rfl rfl rfl
              · refine Go_aload_n (pc := 33) dX2_search_33 rfl (by decide) rfl ?_
                refine Go_iload_n (pc := 34) dX2_search_34 rfl rfl ?_
                refine Go_invVv (pc := 35) (y := yX2_keepBest) (avs := [.inl S]) (k := 10) (rest := [])  (M1 := setR (setR M 10 (updI (M 10) 7 S)) 15 (cpyI (M 14) (M 15) 0 0 4)) (d' := d - 1) dX2_search_35 ln_X2_83 mo_X2_keepBest vo_X2_keepBest rfl (rc_10) rfl rfl (Nat.le_of_ble_eq_true rfl) (by omega) (Nat.le_of_ble_eq_true rfl) rfl (s_X2_keepBest (by omega)) ?_
                first | (exfalso; rw [hG] at c12; omega) | (exfalso; rw [hG] at c30; omega) | exact Go_return (pc := 38) dX2_search_38 rfl rfl rfl
            · refine Go_iload_n (pc := 24) dX2_search_24 rfl rfl ?_
              refine Go_iconst (pc := 25) dX2_search_25 ?_
              refine Go_icmp_lt (pc := 26) (tgt := 39) dX2_search_26 (by decide) (by first | omega | (rw [hG]; omega)) (by decide) (fun c26 => ?_) (fun c26 => ?_)
              · exfalso; omega
              · refine Go_iload_n (pc := 29) dX2_search_29 rfl rfl ?_
                refine Go_if_ne (pc := 30) (tgt := 38) dX2_search_30 (by decide) (by first | omega | (rw [hG]; omega)) (fun c30a => ?_) (fun c30a => ?_)
                · first | (exfalso; rw [hG] at c12; omega) | (exfalso; rw [hG] at c30; omega) | exact Go_return (pc := 38) dX2_search_38 rfl rfl rfl
                · refine Go_aload_n (pc := 33) dX2_search_33 rfl (by decide) rfl ?_
                  refine Go_iload_n (pc := 34) dX2_search_34 rfl rfl ?_
                  refine Go_invVv (pc := 35) (y := yX2_keepBest) (avs := [.inl S]) (k := 10) (rest := [])  (M1 := setR (setR M 10 (updI (M 10) 7 S)) 15 (cpyI (M 14) (M 15) 0 0 4)) (d' := d - 1) dX2_search_35 ln_X2_83 mo_X2_keepBest vo_X2_keepBest rfl (rc_10) rfl rfl (Nat.le_of_ble_eq_true rfl) (by omega) (Nat.le_of_ble_eq_true rfl) rfl (s_X2_keepBest (by omega)) ?_
                  first | (exfalso; rw [hG] at c12; omega) | (exfalso; rw [hG] at c30; omega) | exact Go_return (pc := 38) dX2_search_38 rfl rfl rfl
          · first | (exfalso; rw [hG] at c12; omega) | (exfalso; rw [hG] at c30; omega) | exact Go_return (pc := 15) dX2_search_15 rfl rfl rfl
        · exfalso
          have : grZ (M 11) (M 10 5) ≤ 0 := grZ_le (Int.le_refl 0) (fun e p q => by
            have a := h.nd e p q
            have b := ov e p q
            have c := effS_c (eff := effM (M 12)) (e := e) cv.1
            rw [es] at a c
            omega)
          omega
    -- the next string's steps
    have hs : s < M 10 6 := by omega
    have KL : ∀ (G hi lo : Int), -45 ≤ hi → hi ≤ 9 → -9 ≤ lo → lo ≤ 45 → ∀ (k : Nat) (x : Int) (M1 : gMem), (hi + 1 - x).toNat = k → lo ≤ x ∧ x ≤ 46 → Inv need (cmplB (M 10 6) s lo x (M 14)) M M1 s → ∃ M', Go d RX2 cX2_search 7 none 60 [some (.inr 10), some (.inl s), some (.inl (sumA (M 14) s)), some (.inl G), some (.inl hi), some (.inl lo), some (.inl x)] [] M1 none M' ∧ ∀ y, y = max x (hi + 1) → Inv need (cmplB (M 10 6) s lo y (M 14)) M M' s := by
      intro G hi lo b1 b2 b3 b4 k
      induction k using Nat.strongRecOn with
      | ind k ih2 =>
        intro x M1 hk hx h1
        by_cases cX : hi < x
        · refine ⟨M1, ?_, fun y hy => by rw [show y = x by omega]; exact h1⟩
          refine Go_iload (pc := 60) dX2_search_60 rfl ?_
          refine Go_iload (pc := 62) dX2_search_62 rfl ?_
          refine Go_icmp_gt (pc := 64) (tgt := 112) dX2_search_64 (by decide) (by omega) (by omega) (fun c64 => ?_) (fun c64 => ?_)
          · exact Go_return (pc := 112) dX2_search_112 rfl rfl rfl
          · exfalso; omega
        have r10 : M1 10 5 = M 10 5 := h1.ff 5 (by decide)
        have r106 : M1 10 6 = M 10 6 := h1.ff 6 (by decide)
        have r11 : M1 11 = M 11 := h1.fr 11 (by decide) (by decide) (by decide)
        have r12 : M1 12 = M 12 := h1.fr 12 (by decide) (by decide) (by decide)
        have r13 : M1 13 = M 13 := h1.fr 13 (by decide) (by decide) (by decide)
        have ag : agr (s + 1) (updI (M1 14) s x) (updI (M 14) s x) := agr_u h1.tr x
        have h3 : SI need (setR (setR M1 14 (updI (M1 14) s x)) 11 (apZ (M1 11) (fun e => (M1 12) (s * 8 + e)) x (M1 10 5))) (s + 1) := by
          refine ⟨?_, ⟨by omega, ?_⟩, h1.ls, fun j p q => ?_, fun e p q => ?_⟩
          · show EqR (M1 10 6) (M1 10 5) (M1 12) (M1 13) need
            rw [r10, r106, r12, r13]
            exact h.q
          · show s + 1 ≤ M1 10 6
            omega
          · show -9 ≤ updI (M1 14) s x j ∧ updI (M1 14) s x j ≤ 9
            by_cases z : j = s
            · rw [z, updI_s]; omega
            · rw [updI_n z, h1.tr j p (by omega)]
              exact h.tr j p (by omega)
          · show apZ (M1 11) (fun e => (M1 12) (s * 8 + e)) x (M1 10 5) e = need e - effS (effM (M1 12)) (updI (M1 14) s x) e (s + 1)
            have q2 : e < M1 10 5 := q
            rw [apZ_in p q2, effS_u s4.1, r11, r12, h.nd e p (by omega), effS_c h1.tr]
            have c1 : effM (M 12) s e * x = x * M 12 (s * 8 + e) := Int.mul_comm _ _
            omega
        obtain ⟨M4, g4, p4⟩ := IH (m - 1) (by omega) (d - 1) _ (s + 1) (by omega) (by show (M1 10 6 - (s + 1)).toNat = m - 1; omega) h3
        have p11 : M4 11 = apZ (M1 11) (fun e => (M1 12) (s * 8 + e)) x (M1 10 5) := p4.fr 11 (by decide) (by decide) (by decide)
        have p12 : M4 12 = M1 12 := p4.fr 12 (by decide) (by decide) (by decide)
        have p105 : M4 10 5 = M1 10 5 := p4.ff 5 (by decide)
        have pb : apZ (M4 11) (fun e => (M4 12) (s * 8 + e)) (-x) (M4 10 5) = M 11 := by
          rw [p11, p12, p105, apZ_back]
          exact r11
        have h5 : Inv need (cmplB (M 10 6) s lo (x + 1) (M 14)) M (setR M4 11 (apZ (M4 11) (fun e => (M4 12) (s * 8 + e)) (-x) (M4 10 5))) s := by
          refine ⟨fun k a b c => ?_, fun i a => ?_, fun j p q => ?_, p4.ls, ?_⟩
          · by_cases z : k = 11
            · rw [z]; exact pb
            · have e1 : setR M4 11 (apZ (M4 11) (fun e => (M4 12) (s * 8 + e)) (-x) (M4 10 5)) k = M4 k := if_neg z
              have e2 := p4.fr k a b c
              have e3 : setR (setR M1 14 (updI (M1 14) s x)) 11 (apZ (M1 11) (fun e => (M1 12) (s * 8 + e)) x (M1 10 5)) k = M1 k := by
                simp only [setR]
                rw [if_neg z, if_neg b]
              rw [e1, e2, e3, h1.fr k a b c]
          · exact (p4.ff i a).trans (h1.ff i a)
          · have e1 : M4 14 j = updI (M1 14) s x j := p4.tr j p (by omega)
            show M4 14 j = M 14 j
            rw [e1, updI_n (by omega)]
            exact h1.tr j p q
          · have f : Fst (M1 10 6) (okE (M1 10 6) (M1 10 5) need (effM (M1 12))) (cmpl (M1 10 6) (s + 1) (updI (M1 14) s x)) (M1 10 7) (M1 15) (M4 10 7) (M4 15) := p4.fs
            rw [r106, r10, r12] at f
            exact Fst_step s4.1 hs hx.1 (by omega) h1.fs (Fst_c f (fun v _ => cmpl_c ag))
        obtain ⟨M', g', p'⟩ := ih2 _ (by omega) (x + 1) _ rfl (by omega) h5
        have e81 : 0 ≤ M1 10 5 ∧ M1 10 5 ≤ 8 := by omega
        have e84 : 0 ≤ M4 10 5 ∧ M4 10 5 ≤ 8 := by omega
        have eS : sumA (updI (M1 14) s x) (s + 1) = sumA (M 14) s + (x.natAbs : Int) := by rw [sumA_u s4.1, sumA_c h1.tr]
        have g4 : Go (d - 1) RX2 cX2_search 7 none 0 [some (.inr 10), some (.inl (s + 1)), some (.inl (sumA (M 14) s + (x.natAbs : Int))), none, none, none, none] [] (setR (setR M1 14 (updI (M1 14) s x)) 11 (apZ (M1 11) (fun e => (M1 12) (s * 8 + e)) x (M1 10 5))) none M4 := by
          rw [← eS]
          exact g4
        refine ⟨M', ?_, fun y hy => p' y (by omega)⟩
        refine Go_iload (pc := 60) dX2_search_60 rfl ?_
        refine Go_iload (pc := 62) dX2_search_62 rfl ?_
        refine Go_icmp_gt (pc := 64) (tgt := 112) dX2_search_64 (by decide) (by omega) (by omega) (fun c64 => ?_) (fun c64 => ?_)
        · exfalso; omega
        · refine Go_aload_n (pc := 67) dX2_search_67 rfl (by decide) rfl ?_
          refine Go_getr (pc := 68) (r := 14) dX2_search_68 fo_X2_21 (by decide) rfl rfl (by decide) ?_
          refine Go_iload_n (pc := 71) dX2_search_71 rfl rfl ?_
          refine Go_iload (pc := 72) dX2_search_72 rfl ?_
          refine Go_invSv (pc := 74) (y := yX2_put) (avs := [.inr 14, .inl s, .inl x]) (rest := [])  (M1 := setR M1 14 (updI (M1 14) s x)) (d' := d - 1) dX2_search_74 ln_X2_66 mo_X2_put so_X2_put rfl rfl rfl (Nat.le_of_ble_eq_true rfl) (by omega) (Nat.le_of_ble_eq_true rfl) rfl (s_X2_put_14 (by omega) (by first | omega | (simp only [Nat.reduceAdd, setR_s]; omega) | (simp only [setR, Nat.reduceEqDiff, reduceIte]; omega)) (by first | omega | (simp only [Nat.reduceAdd, setR_s]; omega) | (simp only [setR, Nat.reduceEqDiff, reduceIte]; omega))) ?_
          refine Go_aload_n (pc := 77) dX2_search_77 rfl (by decide) rfl ?_
          refine Go_iload_n (pc := 78) dX2_search_78 rfl rfl ?_
          refine Go_iload (pc := 79) dX2_search_79 rfl ?_
          refine Go_invVv (pc := 81) (y := yX2_approach) (avs := [.inl s, .inl x]) (k := 10) (rest := [])  (M1 := setR (setR M1 14 (updI (M1 14) s x)) 11 (apZ (M1 11) (fun e => M1 12 (s * 8 + e)) x (M1 10 5))) (d' := d - 1) dX2_search_81 ln_X2_90 mo_X2_approach vo_X2_approach rfl (rc_10) rfl rfl (Nat.le_of_ble_eq_true rfl) (by omega) (Nat.le_of_ble_eq_true rfl) rfl (s_X2_approach (by omega) (by first | exact e81 | exact e84) (by first | omega | (simp only [Nat.reduceAdd, setR_s]; omega) | (simp only [setR, Nat.reduceEqDiff, reduceIte]; omega)) (by first | omega | (simp only [Nat.reduceAdd, setR_s]; omega) | (simp only [setR, Nat.reduceEqDiff, reduceIte]; omega))) ?_
          refine Go_aload_n (pc := 84) dX2_search_84 rfl (by decide) rfl ?_
          refine Go_iload_n (pc := 85) dX2_search_85 rfl rfl ?_
          refine Go_iconst (pc := 86) dX2_search_86 ?_
          refine Go_iadd (pc := 87) dX2_search_87 ?_
          refine Go_iload_n (pc := 88) dX2_search_88 rfl rfl ?_
          refine Go_iload (pc := 89) dX2_search_89 rfl ?_
          refine Go_abs (pc := 91) dX2_search_91 ln_X2_94 so_abs in_java_lang_Math co_abs (by omega) (by omega) (Nat.le_of_ble_eq_true rfl) ?_
          refine Go_iadd (pc := 94) dX2_search_94 ?_
          refine Go_invSv (pc := 95) (y := yX2_search) (avs := [.inr 10, .inl (s + 1), .inl ((sumA (M 14) s) + (x.natAbs : Int))]) (rest := [])  (M1 := M4) (d' := d - 1) dX2_search_95 ln_X2_41 mo_X2_search so_X2_search rfl rfl rfl (Nat.le_of_ble_eq_true rfl) (by omega) (Nat.le_of_ble_eq_true rfl) rfl (g4) ?_
          refine Go_aload_n (pc := 98) dX2_search_98 rfl (by decide) rfl ?_
          refine Go_iload_n (pc := 99) dX2_search_99 rfl rfl ?_
          refine Go_iload (pc := 100) dX2_search_100 rfl ?_
          refine Go_ineg (pc := 102) dX2_search_102 ?_
          refine Go_invVv (pc := 103) (y := yX2_approach) (avs := [.inl s, .inl (-x)]) (k := 10) (rest := [])  (M1 := setR M4 11 (apZ (M4 11) (fun e => M4 12 (s * 8 + e)) (-x) (M4 10 5))) (d' := d - 1) dX2_search_103 ln_X2_90 mo_X2_approach vo_X2_approach rfl (rc_10) rfl rfl (Nat.le_of_ble_eq_true rfl) (by omega) (Nat.le_of_ble_eq_true rfl) rfl (s_X2_approach (by omega) (by first | exact e81 | exact e84) (by first | omega | (simp only [Nat.reduceAdd, setR_s]; omega) | (simp only [setR, Nat.reduceEqDiff, reduceIte]; omega)) (by first | omega | (simp only [Nat.reduceAdd, setR_s]; omega) | (simp only [setR, Nat.reduceEqDiff, reduceIte]; omega))) ?_
          refine Go_iinc (pc := 106) (L' := [some (.inr 10), some (.inl s), some (.inl (sumA (M 14) s)), some (.inl G), some (.inl hi), some (.inl lo), some (.inl (x + 1))]) dX2_search_106 rfl (by decide) rfl ?_
          refine Go_goto (pc := 109) (tgt := 60) dX2_search_109 (by decide) ?_
          exact g'
    have hm1 := mN_b (nd := M 11) (ef := fun e => M 12 (s * 8 + e)) (rc := fun e => M 13 (s * 8 + e)) (way := 1) (Or.inl rfl) (M 10 5).toNat 0 9 0 (by decide) (by decide) (fun e p q => h.mb hs e p (by omega))
    have hm2 := mN_b (nd := M 11) (ef := fun e => M 12 (s * 8 + e)) (rc := fun e => M 13 (s * 8 + e)) (way := -1) (Or.inr rfl) (M 10 5).toNat 0 9 0 (by decide) (by decide) (fun e p q => h.mb hs e p (by omega))
    have pr1 := fun v cv ov => prune2 (w := 1) (v := v) h hs (Or.inl rfl) cv ov
    have pr2 := fun v cv ov => prune2 (w := -1) (v := v) h hs (Or.inr rfl) cv ov
    have no1 := mN_no (nd := M 11) (ef := fun e => M 12 (s * 8 + e)) (rc := fun e => M 13 (s * 8 + e)) (way := 1) (M 10 5).toNat 0 9
    have no2 := mN_no (nd := M 11) (ef := fun e => M 12 (s * 8 + e)) (rc := fun e => M 13 (s * 8 + e)) (way := -1) (M 10 5).toNat 0 9
    generalize e1 : mN (M 11) (fun e => M 12 (s * 8 + e)) (fun e => M 13 (s * 8 + e)) 1 (M 10 5).toNat 0 9 0 = hi at hm1 pr1 no1
    generalize e2 : mN (M 11) (fun e => M 12 (s * 8 + e)) (fun e => M 13 (s * 8 + e)) (-1) (M 10 5).toNat 0 9 0 = li at hm2 pr2 no2
    obtain ⟨M', g, p⟩ := KL (grZ (M 11) (M 10 5)) hi (-li) hm1.1 hm1.2 (by omega) (by omega) _ (-li) M rfl (by omega) (Inv.rf ls (fun v cv ov => absurd cv.2 (by omega)))
    have p := p _ rfl
    refine ⟨M', ?_, p.fr, p.ff, p.tr, p.ls, ?_⟩
    · generalize sumA (M 14) s = S at cA hS g ⊢
      generalize hG : grZ (M 11) (M 10 5) = G at cA hg hgb g
      refine Go_aload_n (pc := 0) dX2_search_0 rfl (by decide) rfl ?_
      refine Go_invV (pc := 1) (y := yX2_greatestNeed) (avs := []) (k := 10) (rest := []) (x := .inl (grZ (M 11) (M 10 5)))  (d' := d - 1) dX2_search_1 ln_X2_80 mo_X2_greatestNeed vo_X2_greatestNeed rfl (rc_10) rfl rfl (Nat.le_of_ble_eq_true rfl) (by omega) (Nat.le_of_ble_eq_true rfl) rfl (s_X2_greatestNeed (by omega) e8 h.ndb) ?_
      refine Go_istore_n (pc := 4) (L' := [some (.inr 10), some (.inl s), some (.inl S), some (.inl (grZ (M 11) (M 10 5))), none, none, none]) dX2_search_4 rfl (by decide) rfl ?_
      refine Go_iload_n (pc := 5) dX2_search_5 rfl rfl ?_
      refine Go_iload_n (pc := 6) dX2_search_6 rfl rfl ?_
      refine Go_iadd (pc := 7) dX2_search_7 ?_
      refine Go_aload_n (pc := 8) dX2_search_8 rfl (by decide) rfl ?_
      refine Go_geti (pc := 9) (z := M 10 7) dX2_search_9 fo_X2_34 (by decide) rfl rfl (rfl) ?_
      refine Go_icmp_lt (pc := 12) (tgt := 16) dX2_search_12 (by decide) (by first | omega | (rw [hG]; omega)) (by first | omega | (rw [hG]; omega)) (fun c12 => ?_) (fun c12 => ?_)
      · refine Go_iload_n (pc := 16) dX2_search_16 rfl rfl ?_
        refine Go_aload_n (pc := 17) dX2_search_17 rfl (by decide) rfl ?_
        refine Go_geti (pc := 18) (z := M 10 6) dX2_search_18 fo_X2_31 (by decide) rfl rfl (rfl) ?_
        refine Go_icmp_ge (pc := 21) (tgt := 29) dX2_search_21 (by decide) (by first | omega | (rw [hG]; omega)) (by first | omega | (rw [hG]; omega)) (fun c21 => ?_) (fun c21 => ?_)
        · refine Go_iload_n (pc := 29) dX2_search_29 rfl rfl ?_
          refine Go_if_ne (pc := 30) (tgt := 38) dX2_search_30 (by decide) (by first | omega | (rw [hG]; omega)) (fun c30 => ?_) (fun c30 => ?_)
          · first | (exfalso; rw [hG] at c12; omega) | (exfalso; omega)
          · refine Go_aload_n (pc := 33) dX2_search_33 rfl (by decide) rfl ?_
            refine Go_iload_n (pc := 34) dX2_search_34 rfl rfl ?_
            refine Go_invVv (pc := 35) (y := yX2_keepBest) (avs := [.inl S]) (k := 10) (rest := [])  (M1 := setR (setR M 10 (updI (M 10) 7 S)) 15 (cpyI (M 14) (M 15) 0 0 4)) (d' := d - 1) dX2_search_35 ln_X2_83 mo_X2_keepBest vo_X2_keepBest rfl (rc_10) rfl rfl (Nat.le_of_ble_eq_true rfl) (by omega) (Nat.le_of_ble_eq_true rfl) rfl (s_X2_keepBest (by omega)) ?_
            first | (exfalso; rw [hG] at c12; omega) | (exfalso; omega)
        · refine Go_iload_n (pc := 24) dX2_search_24 rfl rfl ?_
          refine Go_iconst (pc := 25) dX2_search_25 ?_
          refine Go_icmp_lt (pc := 26) (tgt := 39) dX2_search_26 (by decide) (by first | omega | (rw [hG]; omega)) (by decide) (fun c26 => ?_) (fun c26 => ?_)
          · refine Go_aload_n (pc := 39) dX2_search_39 rfl (by decide) rfl ?_
            refine Go_iload_n (pc := 40) dX2_search_40 rfl rfl ?_
            refine Go_iconst (pc := 41) dX2_search_41 ?_
            refine Go_invV (pc := 42) (y := yX2_mostSteps) (avs := [.inl s, .inl 1]) (k := 10) (rest := []) (x := .inl (mN (M 11) (fun e => M 12 (s * 8 + e)) (fun e => M 13 (s * 8 + e)) 1 (M 10 5).toNat 0 9 0))  (d' := d - 1) dX2_search_42 ln_X2_87 mo_X2_mostSteps vo_X2_mostSteps rfl (rc_10) rfl rfl (Nat.le_of_ble_eq_true rfl) (by omega) (Nat.le_of_ble_eq_true rfl) rfl (s_X2_mostSteps (by omega) e8 (by first | omega | (simp only [Nat.reduceAdd, setR_s]; omega) | (simp only [setR, Nat.reduceEqDiff, reduceIte]; omega)) (by first | omega | (simp only [Nat.reduceAdd, setR_s]; omega) | (simp only [setR, Nat.reduceEqDiff, reduceIte]; omega)) (by decide) (h.mb hs)) ?_
            refine Go_istore (pc := 45) (L' := [some (.inr 10), some (.inl s), some (.inl S), some (.inl (grZ (M 11) (M 10 5))), some (.inl (mN (M 11) (fun e => M 12 (s * 8 + e)) (fun e => M 13 (s * 8 + e)) 1 (M 10 5).toNat 0 9 0)), none, none]) dX2_search_45 (by decide) rfl ?_
            refine Go_aload_n (pc := 47) dX2_search_47 rfl (by decide) rfl ?_
            refine Go_iload_n (pc := 48) dX2_search_48 rfl rfl ?_
            refine Go_iconst (pc := 49) dX2_search_49 ?_
            refine Go_invV (pc := 50) (y := yX2_mostSteps) (avs := [.inl s, .inl (-1)]) (k := 10) (rest := []) (x := .inl (mN (M 11) (fun e => M 12 (s * 8 + e)) (fun e => M 13 (s * 8 + e)) (-1) (M 10 5).toNat 0 9 0))  (d' := d - 1) dX2_search_50 ln_X2_87 mo_X2_mostSteps vo_X2_mostSteps rfl (rc_10) rfl rfl (Nat.le_of_ble_eq_true rfl) (by omega) (Nat.le_of_ble_eq_true rfl) rfl (s_X2_mostSteps (by omega) e8 (by first | omega | (simp only [Nat.reduceAdd, setR_s]; omega) | (simp only [setR, Nat.reduceEqDiff, reduceIte]; omega)) (by first | omega | (simp only [Nat.reduceAdd, setR_s]; omega) | (simp only [setR, Nat.reduceEqDiff, reduceIte]; omega)) (by decide) (h.mb hs)) ?_
            refine Go_ineg (pc := 53) dX2_search_53 ?_
            refine Go_istore (pc := 54) (L' := [some (.inr 10), some (.inl s), some (.inl S), some (.inl (grZ (M 11) (M 10 5))), some (.inl (mN (M 11) (fun e => M 12 (s * 8 + e)) (fun e => M 13 (s * 8 + e)) 1 (M 10 5).toNat 0 9 0)), some (.inl (-(mN (M 11) (fun e => M 12 (s * 8 + e)) (fun e => M 13 (s * 8 + e)) (-1) (M 10 5).toNat 0 9 0))), none]) dX2_search_54 (by decide) rfl ?_
            refine Go_iload (pc := 56) dX2_search_56 rfl ?_
            refine Go_istore (pc := 58) (L' := [some (.inr 10), some (.inl s), some (.inl S), some (.inl (grZ (M 11) (M 10 5))), some (.inl (mN (M 11) (fun e => M 12 (s * 8 + e)) (fun e => M 13 (s * 8 + e)) 1 (M 10 5).toNat 0 9 0)), some (.inl (-(mN (M 11) (fun e => M 12 (s * 8 + e)) (fun e => M 13 (s * 8 + e)) (-1) (M 10 5).toNat 0 9 0))), some (.inl (-(mN (M 11) (fun e => M 12 (s * 8 + e)) (fun e => M 13 (s * 8 + e)) (-1) (M 10 5).toNat 0 9 0)))]) dX2_search_58 (by decide) rfl ?_
            first | (exfalso; omega) | (rw [hG, e1, e2]; exact g)
          · refine Go_iload_n (pc := 29) dX2_search_29 rfl rfl ?_
            refine Go_if_ne (pc := 30) (tgt := 38) dX2_search_30 (by decide) (by first | omega | (rw [hG]; omega)) (fun c30a => ?_) (fun c30a => ?_)
            · first | (exfalso; rw [hG] at c12; omega) | (exfalso; omega)
            · refine Go_aload_n (pc := 33) dX2_search_33 rfl (by decide) rfl ?_
              refine Go_iload_n (pc := 34) dX2_search_34 rfl rfl ?_
              refine Go_invVv (pc := 35) (y := yX2_keepBest) (avs := [.inl S]) (k := 10) (rest := [])  (M1 := setR (setR M 10 (updI (M 10) 7 S)) 15 (cpyI (M 14) (M 15) 0 0 4)) (d' := d - 1) dX2_search_35 ln_X2_83 mo_X2_keepBest vo_X2_keepBest rfl (rc_10) rfl rfl (Nat.le_of_ble_eq_true rfl) (by omega) (Nat.le_of_ble_eq_true rfl) rfl (s_X2_keepBest (by omega)) ?_
              first | (exfalso; rw [hG] at c12; omega) | (exfalso; omega)
      · first | (exfalso; rw [hG] at c12; omega) | (exfalso; omega)
    · by_cases hex : ∃ v, cmpl (M 10 6) s (M 14) v ∧ okE (M 10 6) (M 10 5) need (effM (M 12)) v
      · obtain ⟨v0, c0, o0⟩ := hex
        have b0 := c0.2 s (Int.le_refl s) hs
        by_cases hno : ∀ e, 0 ≤ e → e < M 10 5 → M 12 (s * 8 + e) = 0
        · have z1 := no1 (fun e p q => hno e p (by omega))
          have z2 := no2 (fun e p q => hno e p (by omega))
          have y1 := pr1 v0 c0 o0
          have y2 := pr2 v0 c0 o0
          have w1 : hi = 0 := by omega
          have w2 : li = 0 := by omega
          have f := p.fs
          rw [w1, w2] at f
          exact Fst_zero s4.1 hs (okE_0 s4.1 hno) f
        · refine Fst_c p.fs (fun v ov => ⟨fun c => c.1, fun c => ⟨c, ?_⟩⟩)
          have y1 := pr1 v c ov
          have y2 := pr2 v c ov
          rcases y1 with y1 | ⟨y1, _⟩
          · rcases y2 with y2 | ⟨y2, _⟩
            · omega
            · exact absurd y2 hno
          · exact absurd y1 hno
      · exact Fst_c p.fs (fun v ov => ⟨fun c => c.1, fun c => absurd ⟨v, c, ov⟩ hex⟩)
