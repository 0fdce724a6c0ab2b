/-! House: what it answers of itself -/
theorem Wf.rs {f : Int → Int} (h : Wf f) (k c : Int) (hc : c = 0 ∨ c = 1 ∨ c = 2 ∨ c = 3 ∨ c = 6) : inR (sc f k c) := by
  have h0 := h.ht k
  have h1 := h.ah k
  have h2 := h.wa k
  have h3 := h.kn k
  have h6 := h.to k
  rcases hc with rfl | rfl | rfl | rfl | rfl <;> omega
theorem Wf.rt {f : Int → Int} (h : Wf f) (k c : Int) (hc : c = 0 ∨ c = 1) : inR (tc f k c) := by
  have h0 := h.up k
  have h1 := h.dn k
  rcases hc with rfl | rfl <;> omega
theorem s_X1_hasShade {d h : Nat} (hd : 1 ≤ d) (hh : h = 1 ∨ h = 3) {a : Int} {M : gMem} (ha : inR a) (hW : Wf (M (h + 1))) : Go d RX1 cX1_hasShade 2 (some .boolean) 0 [some (.inr h), some (.inl a)] [] M (some (.inl (b2i (0 ≤ a ∧ a < M (h + 1) 0)))) M := by
  rcases hh with rfl | rfl
  · have hn := Wf.n (f := M 2) hW
    refine Go_iload_n (pc := 0) dX1_hasShade_0 rfl rfl ?_
    refine Go_if_lt (pc := 1) (tgt := 16) dX1_hasShade_1 (by decide) (by omega) (fun c1 => ?_) (fun c1 => ?_)
    · refine Go_iconst (pc := 16) dX1_hasShade_16 ?_
      exact Go_zreturn (pc := 17) dX1_hasShade_17 rfl (by decide) (by first | rw [b2i_t (show 0 ≤ a ∧ a < M 2 0 by omega)] | rw [b2i_f (show ¬ (0 ≤ a ∧ a < M 2 0) by omega)]) rfl
    · refine Go_iload_n (pc := 4) dX1_hasShade_4 rfl rfl ?_
      refine Go_aload_n (pc := 5) dX1_hasShade_5 rfl (by decide) rfl ?_
      refine Go_invV (pc := 6) (y := yX1_shades) (avs := []) (k := 1) (rest := [.inl a]) (x := .inl (M 2 0))  (d' := d - 1) dX1_hasShade_6 ln_X1_21 mo_X1_shades vo_X1_shades rfl (rc_1) rfl rfl (Nat.le_of_ble_eq_true rfl) (by omega) (Nat.le_of_ble_eq_true rfl) rfl (s_X1_shades (by omega) (by decide)) ?_
      refine Go_icmp_ge (pc := 9) (tgt := 16) dX1_hasShade_9 (by decide) (by omega) (by omega) (fun c9 => ?_) (fun c9 => ?_)
      · refine Go_iconst (pc := 16) dX1_hasShade_16 ?_
        exact Go_zreturn (pc := 17) dX1_hasShade_17 rfl (by decide) (by first | rw [b2i_t (show 0 ≤ a ∧ a < M 2 0 by omega)] | rw [b2i_f (show ¬ (0 ≤ a ∧ a < M 2 0) by omega)]) rfl
      · refine Go_iconst (pc := 12) dX1_hasShade_12 ?_
        refine Go_goto (pc := 13) (tgt := 17) dX1_hasShade_13 (by decide) ?_
        exact Go_zreturn (pc := 17) dX1_hasShade_17 rfl (by decide) (by first | rw [b2i_t (show 0 ≤ a ∧ a < M 2 0 by omega)] | rw [b2i_f (show ¬ (0 ≤ a ∧ a < M 2 0) by omega)]) rfl
  · have hn := Wf.n (f := M 4) hW
    refine Go_iload_n (pc := 0) dX1_hasShade_0 rfl rfl ?_
    refine Go_if_lt (pc := 1) (tgt := 16) dX1_hasShade_1 (by decide) (by omega) (fun c1 => ?_) (fun c1 => ?_)
    · refine Go_iconst (pc := 16) dX1_hasShade_16 ?_
      exact Go_zreturn (pc := 17) dX1_hasShade_17 rfl (by decide) (by first | rw [b2i_t (show 0 ≤ a ∧ a < M 4 0 by omega)] | rw [b2i_f (show ¬ (0 ≤ a ∧ a < M 4 0) by omega)]) rfl
    · refine Go_iload_n (pc := 4) dX1_hasShade_4 rfl rfl ?_
      refine Go_aload_n (pc := 5) dX1_hasShade_5 rfl (by decide) rfl ?_
      refine Go_invV (pc := 6) (y := yX1_shades) (avs := []) (k := 3) (rest := [.inl a]) (x := .inl (M 4 0))  (d' := d - 1) dX1_hasShade_6 ln_X1_21 mo_X1_shades vo_X1_shades rfl (rc_3) rfl rfl (Nat.le_of_ble_eq_true rfl) (by omega) (Nat.le_of_ble_eq_true rfl) rfl (s_X1_shades (by omega) (by decide)) ?_
      refine Go_icmp_ge (pc := 9) (tgt := 16) dX1_hasShade_9 (by decide) (by omega) (by omega) (fun c9 => ?_) (fun c9 => ?_)
      · refine Go_iconst (pc := 16) dX1_hasShade_16 ?_
        exact Go_zreturn (pc := 17) dX1_hasShade_17 rfl (by decide) (by first | rw [b2i_t (show 0 ≤ a ∧ a < M 4 0 by omega)] | rw [b2i_f (show ¬ (0 ≤ a ∧ a < M 4 0) by omega)]) rfl
      · refine Go_iconst (pc := 12) dX1_hasShade_12 ?_
        refine Go_goto (pc := 13) (tgt := 17) dX1_hasShade_13 (by decide) ?_
        exact Go_zreturn (pc := 17) dX1_hasShade_17 rfl (by decide) (by first | rw [b2i_t (show 0 ≤ a ∧ a < M 4 0 by omega)] | rw [b2i_f (show ¬ (0 ≤ a ∧ a < M 4 0) by omega)]) rfl
theorem s_X1_hasString {d h : Nat} (hd : 1 ≤ d) (hh : h = 1 ∨ h = 3) {a : Int} {M : gMem} (ha : inR a) (hW : Wf (M (h + 1))) : Go d RX1 cX1_hasString 2 (some .boolean) 0 [some (.inr h), some (.inl a)] [] M (some (.inl (b2i (0 ≤ a ∧ a < M (h + 1) 1)))) M := by
  rcases hh with rfl | rfl
  · have hn := Wf.t (f := M 2) hW
    refine Go_iload_n (pc := 0) dX1_hasString_0 rfl rfl ?_
    refine Go_if_lt (pc := 1) (tgt := 16) dX1_hasString_1 (by decide) (by omega) (fun c1 => ?_) (fun c1 => ?_)
    · refine Go_iconst (pc := 16) dX1_hasString_16 ?_
      exact Go_zreturn (pc := 17) dX1_hasString_17 rfl (by decide) (by first | rw [b2i_t (show 0 ≤ a ∧ a < M 2 1 by omega)] | rw [b2i_f (show ¬ (0 ≤ a ∧ a < M 2 1) by omega)]) rfl
    · refine Go_iload_n (pc := 4) dX1_hasString_4 rfl rfl ?_
      refine Go_aload_n (pc := 5) dX1_hasString_5 rfl (by decide) rfl ?_
      refine Go_invV (pc := 6) (y := yX1_strings) (avs := []) (k := 1) (rest := [.inl a]) (x := .inl (M 2 1))  (d' := d - 1) dX1_hasString_6 ln_X1_25 mo_X1_strings vo_X1_strings rfl (rc_1) rfl rfl (Nat.le_of_ble_eq_true rfl) (by omega) (Nat.le_of_ble_eq_true rfl) rfl (s_X1_strings (by omega) (by decide)) ?_
      refine Go_icmp_ge (pc := 9) (tgt := 16) dX1_hasString_9 (by decide) (by omega) (by omega) (fun c9 => ?_) (fun c9 => ?_)
      · refine Go_iconst (pc := 16) dX1_hasString_16 ?_
        exact Go_zreturn (pc := 17) dX1_hasString_17 rfl (by decide) (by first | rw [b2i_t (show 0 ≤ a ∧ a < M 2 1 by omega)] | rw [b2i_f (show ¬ (0 ≤ a ∧ a < M 2 1) by omega)]) rfl
      · refine Go_iconst (pc := 12) dX1_hasString_12 ?_
        refine Go_goto (pc := 13) (tgt := 17) dX1_hasString_13 (by decide) ?_
        exact Go_zreturn (pc := 17) dX1_hasString_17 rfl (by decide) (by first | rw [b2i_t (show 0 ≤ a ∧ a < M 2 1 by omega)] | rw [b2i_f (show ¬ (0 ≤ a ∧ a < M 2 1) by omega)]) rfl
  · have hn := Wf.t (f := M 4) hW
    refine Go_iload_n (pc := 0) dX1_hasString_0 rfl rfl ?_
    refine Go_if_lt (pc := 1) (tgt := 16) dX1_hasString_1 (by decide) (by omega) (fun c1 => ?_) (fun c1 => ?_)
    · refine Go_iconst (pc := 16) dX1_hasString_16 ?_
      exact Go_zreturn (pc := 17) dX1_hasString_17 rfl (by decide) (by first | rw [b2i_t (show 0 ≤ a ∧ a < M 4 1 by omega)] | rw [b2i_f (show ¬ (0 ≤ a ∧ a < M 4 1) by omega)]) rfl
    · refine Go_iload_n (pc := 4) dX1_hasString_4 rfl rfl ?_
      refine Go_aload_n (pc := 5) dX1_hasString_5 rfl (by decide) rfl ?_
      refine Go_invV (pc := 6) (y := yX1_strings) (avs := []) (k := 3) (rest := [.inl a]) (x := .inl (M 4 1))  (d' := d - 1) dX1_hasString_6 ln_X1_25 mo_X1_strings vo_X1_strings rfl (rc_3) rfl rfl (Nat.le_of_ble_eq_true rfl) (by omega) (Nat.le_of_ble_eq_true rfl) rfl (s_X1_strings (by omega) (by decide)) ?_
      refine Go_icmp_ge (pc := 9) (tgt := 16) dX1_hasString_9 (by decide) (by omega) (by omega) (fun c9 => ?_) (fun c9 => ?_)
      · refine Go_iconst (pc := 16) dX1_hasString_16 ?_
        exact Go_zreturn (pc := 17) dX1_hasString_17 rfl (by decide) (by first | rw [b2i_t (show 0 ≤ a ∧ a < M 4 1 by omega)] | rw [b2i_f (show ¬ (0 ≤ a ∧ a < M 4 1) by omega)]) rfl
      · refine Go_iconst (pc := 12) dX1_hasString_12 ?_
        refine Go_goto (pc := 13) (tgt := 17) dX1_hasString_13 (by decide) ?_
        exact Go_zreturn (pc := 17) dX1_hasString_17 rfl (by decide) (by first | rw [b2i_t (show 0 ≤ a ∧ a < M 4 1 by omega)] | rw [b2i_f (show ¬ (0 ≤ a ∧ a < M 4 1) by omega)]) rfl
theorem s_X1_isTold {d h : Nat} (hd : 2 ≤ d) (hh : h = 1 ∨ h = 3) {a : Int} {M : gMem} (ha : inR a) (hW : Wf (M (h + 1))) : Go d RX1 cX1_isTold 2 (some .boolean) 0 [some (.inr h), some (.inl a)] [] M (some (.inl (b2i ((0 ≤ a ∧ a < M (h + 1) 0) ∧ 0 ≤ sc (M (h + 1)) a 6)))) M := by
  rcases hh with rfl | rfl
  · have hn := Wf.n (f := M 2) hW
    have ht := Wf.to (f := M 2) hW a
    refine Go_aload_n (pc := 0) dX1_isTold_0 rfl (by decide) rfl ?_
    refine Go_iload_n (pc := 1) dX1_isTold_1 rfl rfl ?_
    refine Go_invV (pc := 2) (y := yX1_hasShade) (avs := [.inl a]) (k := 1) (rest := []) (x := .inl (b2i (0 ≤ a ∧ a < M 2 0)))  (d' := d - 1) dX1_isTold_2 ln_X1_28 mo_X1_hasShade vo_X1_hasShade rfl (rc_1) rfl rfl (Nat.le_of_ble_eq_true rfl) (by omega) (Nat.le_of_ble_eq_true rfl) rfl (s_X1_hasShade (by omega) (by decide) (by omega) hW) ?_
    refine Go_ifeqB (pc := 5) (tgt := 23) dX1_isTold_5 (by decide) (fun c5 => ?_) (fun c5 => ?_)
    · refine Go_iconst (pc := 23) dX1_isTold_23 ?_
      exact Go_zreturn (pc := 24) dX1_isTold_24 rfl (by decide) (by first | rw [b2i_t (show (0 ≤ a ∧ a < M 2 0) ∧ 0 ≤ sc (M 2) a 6 by omega)] | rw [b2i_f (show ¬ ((0 ≤ a ∧ a < M 2 0) ∧ 0 ≤ sc (M 2) a 6) by omega)]) rfl
    · refine Go_aload_n (pc := 8) dX1_isTold_8 rfl (by decide) rfl ?_
      refine Go_iload_n (pc := 9) dX1_isTold_9 rfl rfl ?_
      refine Go_bipush (pc := 10) dX1_isTold_10 (by decide) (by decide) ?_
      refine Go_invV (pc := 12) (y := yX1_ofShade) (avs := [.inl a, .inl 6]) (k := 1) (rest := []) (x := .inl (sc (M 2) a 6))  (d' := d - 1) dX1_isTold_12 ln_X1_32 mo_X1_ofShade vo_X1_ofShade rfl (rc_1) rfl rfl (Nat.le_of_ble_eq_true rfl) (by omega) (Nat.le_of_ble_eq_true rfl) rfl (s_X1_ofShade (by omega) (by decide) (by omega) (by decide) (by decide)) ?_
      refine Go_iconst (pc := 15) dX1_isTold_15 ?_
      refine Go_icmp_eq (pc := 16) (tgt := 23) dX1_isTold_16 (by decide) (by first | exact hW.rs _ _ (by decide) | exact hW2.rs _ _ (by decide) | omega) (by decide) (fun c16 => ?_) (fun c16 => ?_)
      · refine Go_iconst (pc := 23) dX1_isTold_23 ?_
        exact Go_zreturn (pc := 24) dX1_isTold_24 rfl (by decide) (by first | rw [b2i_t (show (0 ≤ a ∧ a < M 2 0) ∧ 0 ≤ sc (M 2) a 6 by omega)] | rw [b2i_f (show ¬ ((0 ≤ a ∧ a < M 2 0) ∧ 0 ≤ sc (M 2) a 6) by omega)]) rfl
      · refine Go_iconst (pc := 19) dX1_isTold_19 ?_
        refine Go_goto (pc := 20) (tgt := 24) dX1_isTold_20 (by decide) ?_
        exact Go_zreturn (pc := 24) dX1_isTold_24 rfl (by decide) (by first | rw [b2i_t (show (0 ≤ a ∧ a < M 2 0) ∧ 0 ≤ sc (M 2) a 6 by omega)] | rw [b2i_f (show ¬ ((0 ≤ a ∧ a < M 2 0) ∧ 0 ≤ sc (M 2) a 6) by omega)]) rfl
  · have hn := Wf.n (f := M 4) hW
    have ht := Wf.to (f := M 4) hW a
    refine Go_aload_n (pc := 0) dX1_isTold_0 rfl (by decide) rfl ?_
    refine Go_iload_n (pc := 1) dX1_isTold_1 rfl rfl ?_
    refine Go_invV (pc := 2) (y := yX1_hasShade) (avs := [.inl a]) (k := 3) (rest := []) (x := .inl (b2i (0 ≤ a ∧ a < M 4 0)))  (d' := d - 1) dX1_isTold_2 ln_X1_28 mo_X1_hasShade vo_X1_hasShade rfl (rc_3) rfl rfl (Nat.le_of_ble_eq_true rfl) (by omega) (Nat.le_of_ble_eq_true rfl) rfl (s_X1_hasShade (by omega) (by decide) (by omega) hW) ?_
    refine Go_ifeqB (pc := 5) (tgt := 23) dX1_isTold_5 (by decide) (fun c5 => ?_) (fun c5 => ?_)
    · refine Go_iconst (pc := 23) dX1_isTold_23 ?_
      exact Go_zreturn (pc := 24) dX1_isTold_24 rfl (by decide) (by first | rw [b2i_t (show (0 ≤ a ∧ a < M 4 0) ∧ 0 ≤ sc (M 4) a 6 by omega)] | rw [b2i_f (show ¬ ((0 ≤ a ∧ a < M 4 0) ∧ 0 ≤ sc (M 4) a 6) by omega)]) rfl
    · refine Go_aload_n (pc := 8) dX1_isTold_8 rfl (by decide) rfl ?_
      refine Go_iload_n (pc := 9) dX1_isTold_9 rfl rfl ?_
      refine Go_bipush (pc := 10) dX1_isTold_10 (by decide) (by decide) ?_
      refine Go_invV (pc := 12) (y := yX1_ofShade) (avs := [.inl a, .inl 6]) (k := 3) (rest := []) (x := .inl (sc (M 4) a 6))  (d' := d - 1) dX1_isTold_12 ln_X1_32 mo_X1_ofShade vo_X1_ofShade rfl (rc_3) rfl rfl (Nat.le_of_ble_eq_true rfl) (by omega) (Nat.le_of_ble_eq_true rfl) rfl (s_X1_ofShade (by omega) (by decide) (by omega) (by decide) (by decide)) ?_
      refine Go_iconst (pc := 15) dX1_isTold_15 ?_
      refine Go_icmp_eq (pc := 16) (tgt := 23) dX1_isTold_16 (by decide) (by first | exact hW.rs _ _ (by decide) | exact hW2.rs _ _ (by decide) | omega) (by decide) (fun c16 => ?_) (fun c16 => ?_)
      · refine Go_iconst (pc := 23) dX1_isTold_23 ?_
        exact Go_zreturn (pc := 24) dX1_isTold_24 rfl (by decide) (by first | rw [b2i_t (show (0 ≤ a ∧ a < M 4 0) ∧ 0 ≤ sc (M 4) a 6 by omega)] | rw [b2i_f (show ¬ ((0 ≤ a ∧ a < M 4 0) ∧ 0 ≤ sc (M 4) a 6) by omega)]) rfl
      · refine Go_iconst (pc := 19) dX1_isTold_19 ?_
        refine Go_goto (pc := 20) (tgt := 24) dX1_isTold_20 (by decide) ?_
        exact Go_zreturn (pc := 24) dX1_isTold_24 rfl (by decide) (by first | rw [b2i_t (show (0 ≤ a ∧ a < M 4 0) ∧ 0 ≤ sc (M 4) a 6 by omega)] | rw [b2i_f (show ¬ ((0 ≤ a ∧ a < M 4 0) ∧ 0 ≤ sc (M 4) a 6) by omega)]) rfl
theorem s_X1_isStanding {d h : Nat} (hd : 1 ≤ d) (hh : h = 1 ∨ h = 3) {a : Int} {M : gMem} (ha : inR a) (hW : Wf (M (h + 1))) : Go d RX1 cX1_isStanding 2 (some .boolean) 0 [some (.inr h), some (.inl a)] [] M (some (.inl (b2i (sc (M (h + 1)) a 0 = sc (M (h + 1)) a 6)))) M := by
  rcases hh with rfl | rfl
  · refine Go_aload_n (pc := 0) dX1_isStanding_0 rfl (by decide) rfl ?_
    refine Go_iload_n (pc := 1) dX1_isStanding_1 rfl rfl ?_
    refine Go_iconst (pc := 2) dX1_isStanding_2 ?_
    refine Go_invV (pc := 3) (y := yX1_ofShade) (avs := [.inl a, .inl 0]) (k := 1) (rest := []) (x := .inl (sc (M 2) a 0))  (d' := d - 1) dX1_isStanding_3 ln_X1_32 mo_X1_ofShade vo_X1_ofShade rfl (rc_1) rfl rfl (Nat.le_of_ble_eq_true rfl) (by omega) (Nat.le_of_ble_eq_true rfl) rfl (s_X1_ofShade (by omega) (by decide) (by omega) (by decide) (by decide)) ?_
    refine Go_aload_n (pc := 6) dX1_isStanding_6 rfl (by decide) rfl ?_
    refine Go_iload_n (pc := 7) dX1_isStanding_7 rfl rfl ?_
    refine Go_bipush (pc := 8) dX1_isStanding_8 (by decide) (by decide) ?_
    refine Go_invV (pc := 10) (y := yX1_ofShade) (avs := [.inl a, .inl 6]) (k := 1) (rest := [.inl (sc (M 2) a 0)]) (x := .inl (sc (M 2) a 6))  (d' := d - 1) dX1_isStanding_10 ln_X1_32 mo_X1_ofShade vo_X1_ofShade rfl (rc_1) rfl rfl (Nat.le_of_ble_eq_true rfl) (by omega) (Nat.le_of_ble_eq_true rfl) rfl (s_X1_ofShade (by omega) (by decide) (by omega) (by decide) (by decide)) ?_
    refine Go_icmp_ne (pc := 13) (tgt := 20) dX1_isStanding_13 (by decide) (by first | exact hW.rs _ _ (by decide) | exact hW2.rs _ _ (by decide) | omega) (by first | exact hW.rs _ _ (by decide) | exact hW2.rs _ _ (by decide) | omega) (fun c13 => ?_) (fun c13 => ?_)
    · refine Go_iconst (pc := 20) dX1_isStanding_20 ?_
      exact Go_zreturn (pc := 21) dX1_isStanding_21 rfl (by decide) (by first | rw [b2i_t (show sc (M 2) a 0 = sc (M 2) a 6 by omega)] | rw [b2i_f (show ¬ (sc (M 2) a 0 = sc (M 2) a 6) by omega)]) rfl
    · refine Go_iconst (pc := 16) dX1_isStanding_16 ?_
      refine Go_goto (pc := 17) (tgt := 21) dX1_isStanding_17 (by decide) ?_
      exact Go_zreturn (pc := 21) dX1_isStanding_21 rfl (by decide) (by first | rw [b2i_t (show sc (M 2) a 0 = sc (M 2) a 6 by omega)] | rw [b2i_f (show ¬ (sc (M 2) a 0 = sc (M 2) a 6) by omega)]) rfl
  · refine Go_aload_n (pc := 0) dX1_isStanding_0 rfl (by decide) rfl ?_
    refine Go_iload_n (pc := 1) dX1_isStanding_1 rfl rfl ?_
    refine Go_iconst (pc := 2) dX1_isStanding_2 ?_
    refine Go_invV (pc := 3) (y := yX1_ofShade) (avs := [.inl a, .inl 0]) (k := 3) (rest := []) (x := .inl (sc (M 4) a 0))  (d' := d - 1) dX1_isStanding_3 ln_X1_32 mo_X1_ofShade vo_X1_ofShade rfl (rc_3) rfl rfl (Nat.le_of_ble_eq_true rfl) (by omega) (Nat.le_of_ble_eq_true rfl) rfl (s_X1_ofShade (by omega) (by decide) (by omega) (by decide) (by decide)) ?_
    refine Go_aload_n (pc := 6) dX1_isStanding_6 rfl (by decide) rfl ?_
    refine Go_iload_n (pc := 7) dX1_isStanding_7 rfl rfl ?_
    refine Go_bipush (pc := 8) dX1_isStanding_8 (by decide) (by decide) ?_
    refine Go_invV (pc := 10) (y := yX1_ofShade) (avs := [.inl a, .inl 6]) (k := 3) (rest := [.inl (sc (M 4) a 0)]) (x := .inl (sc (M 4) a 6))  (d' := d - 1) dX1_isStanding_10 ln_X1_32 mo_X1_ofShade vo_X1_ofShade rfl (rc_3) rfl rfl (Nat.le_of_ble_eq_true rfl) (by omega) (Nat.le_of_ble_eq_true rfl) rfl (s_X1_ofShade (by omega) (by decide) (by omega) (by decide) (by decide)) ?_
    refine Go_icmp_ne (pc := 13) (tgt := 20) dX1_isStanding_13 (by decide) (by first | exact hW.rs _ _ (by decide) | exact hW2.rs _ _ (by decide) | omega) (by first | exact hW.rs _ _ (by decide) | exact hW2.rs _ _ (by decide) | omega) (fun c13 => ?_) (fun c13 => ?_)
    · refine Go_iconst (pc := 20) dX1_isStanding_20 ?_
      exact Go_zreturn (pc := 21) dX1_isStanding_21 rfl (by decide) (by first | rw [b2i_t (show sc (M 4) a 0 = sc (M 4) a 6 by omega)] | rw [b2i_f (show ¬ (sc (M 4) a 0 = sc (M 4) a 6) by omega)]) rfl
    · refine Go_iconst (pc := 16) dX1_isStanding_16 ?_
      refine Go_goto (pc := 17) (tgt := 21) dX1_isStanding_17 (by decide) ?_
      exact Go_zreturn (pc := 21) dX1_isStanding_21 rfl (by decide) (by first | rw [b2i_t (show sc (M 4) a 0 = sc (M 4) a 6 by omega)] | rw [b2i_f (show ¬ (sc (M 4) a 0 = sc (M 4) a 6) by omega)]) rfl
theorem s_X1_isTangled {d h : Nat} (hd : 1 ≤ d) (hh : h = 1 ∨ h = 3) {a : Int} {M : gMem} (a0 : 0 ≤ a) (a1 : a < 8) (hW : Wf (M (h + 1))) : Go d RX1 cX1_isTangled 2 (some .boolean) 0 [some (.inr h), some (.inl a)] [] M (some (.inl (b2i (0 < sc (M (h + 1)) (a - 1) 3 ∨ 0 < sc (M (h + 1)) a 3)))) M := by
  rcases hh with rfl | rfl
  · refine Go_aload_n (pc := 0) dX1_isTangled_0 rfl (by decide) rfl ?_
    refine Go_iload_n (pc := 1) dX1_isTangled_1 rfl rfl ?_
    refine Go_iconst (pc := 2) dX1_isTangled_2 ?_
    refine Go_isub (pc := 3) dX1_isTangled_3 ?_
    refine Go_iconst (pc := 4) dX1_isTangled_4 ?_
    refine Go_invV (pc := 5) (y := yX1_ofShade) (avs := [.inl (a - 1), .inl 3]) (k := 1) (rest := []) (x := .inl (sc (M 2) (a - 1) 3))  (d' := d - 1) dX1_isTangled_5 ln_X1_32 mo_X1_ofShade vo_X1_ofShade rfl (rc_1) rfl rfl (Nat.le_of_ble_eq_true rfl) (by omega) (Nat.le_of_ble_eq_true rfl) rfl (s_X1_ofShade (by omega) (by decide) (by omega) (by decide) (by decide)) ?_
    refine Go_if_gt (pc := 8) (tgt := 20) dX1_isTangled_8 (by decide) (by first | exact hW.rs _ _ (by decide) | exact hW2.rs _ _ (by decide) | omega) (fun c8 => ?_) (fun c8 => ?_)
    · refine Go_iconst (pc := 20) dX1_isTangled_20 ?_
      refine Go_goto (pc := 21) (tgt := 25) dX1_isTangled_21 (by decide) ?_
      exact Go_zreturn (pc := 25) dX1_isTangled_25 rfl (by decide) (by first | rw [b2i_t (show 0 < sc (M 2) (a - 1) 3 ∨ 0 < sc (M 2) a 3 by omega)] | rw [b2i_f (show ¬ (0 < sc (M 2) (a - 1) 3 ∨ 0 < sc (M 2) a 3) by omega)]) rfl
    · refine Go_aload_n (pc := 11) dX1_isTangled_11 rfl (by decide) rfl ?_
      refine Go_iload_n (pc := 12) dX1_isTangled_12 rfl rfl ?_
      refine Go_iconst (pc := 13) dX1_isTangled_13 ?_
      refine Go_invV (pc := 14) (y := yX1_ofShade) (avs := [.inl a, .inl 3]) (k := 1) (rest := []) (x := .inl (sc (M 2) a 3))  (d' := d - 1) dX1_isTangled_14 ln_X1_32 mo_X1_ofShade vo_X1_ofShade rfl (rc_1) rfl rfl (Nat.le_of_ble_eq_true rfl) (by omega) (Nat.le_of_ble_eq_true rfl) rfl (s_X1_ofShade (by omega) (by decide) (by omega) (by decide) (by decide)) ?_
      refine Go_if_le (pc := 17) (tgt := 24) dX1_isTangled_17 (by decide) (by first | exact hW.rs _ _ (by decide) | exact hW2.rs _ _ (by decide) | omega) (fun c17 => ?_) (fun c17 => ?_)
      · refine Go_iconst (pc := 24) dX1_isTangled_24 ?_
        exact Go_zreturn (pc := 25) dX1_isTangled_25 rfl (by decide) (by first | rw [b2i_t (show 0 < sc (M 2) (a - 1) 3 ∨ 0 < sc (M 2) a 3 by omega)] | rw [b2i_f (show ¬ (0 < sc (M 2) (a - 1) 3 ∨ 0 < sc (M 2) a 3) by omega)]) rfl
      · refine Go_iconst (pc := 20) dX1_isTangled_20 ?_
        refine Go_goto (pc := 21) (tgt := 25) dX1_isTangled_21 (by decide) ?_
        exact Go_zreturn (pc := 25) dX1_isTangled_25 rfl (by decide) (by first | rw [b2i_t (show 0 < sc (M 2) (a - 1) 3 ∨ 0 < sc (M 2) a 3 by omega)] | rw [b2i_f (show ¬ (0 < sc (M 2) (a - 1) 3 ∨ 0 < sc (M 2) a 3) by omega)]) rfl
  · refine Go_aload_n (pc := 0) dX1_isTangled_0 rfl (by decide) rfl ?_
    refine Go_iload_n (pc := 1) dX1_isTangled_1 rfl rfl ?_
    refine Go_iconst (pc := 2) dX1_isTangled_2 ?_
    refine Go_isub (pc := 3) dX1_isTangled_3 ?_
    refine Go_iconst (pc := 4) dX1_isTangled_4 ?_
    refine Go_invV (pc := 5) (y := yX1_ofShade) (avs := [.inl (a - 1), .inl 3]) (k := 3) (rest := []) (x := .inl (sc (M 4) (a - 1) 3))  (d' := d - 1) dX1_isTangled_5 ln_X1_32 mo_X1_ofShade vo_X1_ofShade rfl (rc_3) rfl rfl (Nat.le_of_ble_eq_true rfl) (by omega) (Nat.le_of_ble_eq_true rfl) rfl (s_X1_ofShade (by omega) (by decide) (by omega) (by decide) (by decide)) ?_
    refine Go_if_gt (pc := 8) (tgt := 20) dX1_isTangled_8 (by decide) (by first | exact hW.rs _ _ (by decide) | exact hW2.rs _ _ (by decide) | omega) (fun c8 => ?_) (fun c8 => ?_)
    · refine Go_iconst (pc := 20) dX1_isTangled_20 ?_
      refine Go_goto (pc := 21) (tgt := 25) dX1_isTangled_21 (by decide) ?_
      exact Go_zreturn (pc := 25) dX1_isTangled_25 rfl (by decide) (by first | rw [b2i_t (show 0 < sc (M 4) (a - 1) 3 ∨ 0 < sc (M 4) a 3 by omega)] | rw [b2i_f (show ¬ (0 < sc (M 4) (a - 1) 3 ∨ 0 < sc (M 4) a 3) by omega)]) rfl
    · refine Go_aload_n (pc := 11) dX1_isTangled_11 rfl (by decide) rfl ?_
      refine Go_iload_n (pc := 12) dX1_isTangled_12 rfl rfl ?_
      refine Go_iconst (pc := 13) dX1_isTangled_13 ?_
      refine Go_invV (pc := 14) (y := yX1_ofShade) (avs := [.inl a, .inl 3]) (k := 3) (rest := []) (x := .inl (sc (M 4) a 3))  (d' := d - 1) dX1_isTangled_14 ln_X1_32 mo_X1_ofShade vo_X1_ofShade rfl (rc_3) rfl rfl (Nat.le_of_ble_eq_true rfl) (by omega) (Nat.le_of_ble_eq_true rfl) rfl (s_X1_ofShade (by omega) (by decide) (by omega) (by decide) (by decide)) ?_
      refine Go_if_le (pc := 17) (tgt := 24) dX1_isTangled_17 (by decide) (by first | exact hW.rs _ _ (by decide) | exact hW2.rs _ _ (by decide) | omega) (fun c17 => ?_) (fun c17 => ?_)
      · refine Go_iconst (pc := 24) dX1_isTangled_24 ?_
        exact Go_zreturn (pc := 25) dX1_isTangled_25 rfl (by decide) (by first | rw [b2i_t (show 0 < sc (M 4) (a - 1) 3 ∨ 0 < sc (M 4) a 3 by omega)] | rw [b2i_f (show ¬ (0 < sc (M 4) (a - 1) 3 ∨ 0 < sc (M 4) a 3) by omega)]) rfl
      · refine Go_iconst (pc := 20) dX1_isTangled_20 ?_
        refine Go_goto (pc := 21) (tgt := 25) dX1_isTangled_21 (by decide) ?_
        exact Go_zreturn (pc := 25) dX1_isTangled_25 rfl (by decide) (by first | rw [b2i_t (show 0 < sc (M 4) (a - 1) 3 ∨ 0 < sc (M 4) a 3 by omega)] | rw [b2i_f (show ¬ (0 < sc (M 4) (a - 1) 3 ∨ 0 < sc (M 4) a 3) by omega)]) rfl
theorem s_X1_isLowestOfGroup {d h : Nat} (hd : 1 ≤ d) (hh : h = 1 ∨ h = 3) {a : Int} {M : gMem} (a0 : 0 ≤ a) (a1 : a < 8) (hW : Wf (M (h + 1))) : Go d RX1 cX1_isLowestOfGroup 2 (some .boolean) 0 [some (.inr h), some (.inl a)] [] M (some (.inl (b2i (sc (M (h + 1)) (a - 1) 3 = 0)))) M := by
  rcases hh with rfl | rfl
  · refine Go_aload_n (pc := 0) dX1_isLowestOfGroup_0 rfl (by decide) rfl ?_
    refine Go_iload_n (pc := 1) dX1_isLowestOfGroup_1 rfl rfl ?_
    refine Go_iconst (pc := 2) dX1_isLowestOfGroup_2 ?_
    refine Go_isub (pc := 3) dX1_isLowestOfGroup_3 ?_
    refine Go_iconst (pc := 4) dX1_isLowestOfGroup_4 ?_
    refine Go_invV (pc := 5) (y := yX1_ofShade) (avs := [.inl (a - 1), .inl 3]) (k := 1) (rest := []) (x := .inl (sc (M 2) (a - 1) 3))  (d' := d - 1) dX1_isLowestOfGroup_5 ln_X1_32 mo_X1_ofShade vo_X1_ofShade rfl (rc_1) rfl rfl (Nat.le_of_ble_eq_true rfl) (by omega) (Nat.le_of_ble_eq_true rfl) rfl (s_X1_ofShade (by omega) (by decide) (by omega) (by decide) (by decide)) ?_
    refine Go_if_ne (pc := 8) (tgt := 15) dX1_isLowestOfGroup_8 (by decide) (by first | exact hW.rs _ _ (by decide) | exact hW2.rs _ _ (by decide) | omega) (fun c8 => ?_) (fun c8 => ?_)
    · refine Go_iconst (pc := 15) dX1_isLowestOfGroup_15 ?_
      exact Go_zreturn (pc := 16) dX1_isLowestOfGroup_16 rfl (by decide) (by first | rw [b2i_t (show sc (M 2) (a - 1) 3 = 0 by omega)] | rw [b2i_f (show ¬ (sc (M 2) (a - 1) 3 = 0) by omega)]) rfl
    · refine Go_iconst (pc := 11) dX1_isLowestOfGroup_11 ?_
      refine Go_goto (pc := 12) (tgt := 16) dX1_isLowestOfGroup_12 (by decide) ?_
      exact Go_zreturn (pc := 16) dX1_isLowestOfGroup_16 rfl (by decide) (by first | rw [b2i_t (show sc (M 2) (a - 1) 3 = 0 by omega)] | rw [b2i_f (show ¬ (sc (M 2) (a - 1) 3 = 0) by omega)]) rfl
  · refine Go_aload_n (pc := 0) dX1_isLowestOfGroup_0 rfl (by decide) rfl ?_
    refine Go_iload_n (pc := 1) dX1_isLowestOfGroup_1 rfl rfl ?_
    refine Go_iconst (pc := 2) dX1_isLowestOfGroup_2 ?_
    refine Go_isub (pc := 3) dX1_isLowestOfGroup_3 ?_
    refine Go_iconst (pc := 4) dX1_isLowestOfGroup_4 ?_
    refine Go_invV (pc := 5) (y := yX1_ofShade) (avs := [.inl (a - 1), .inl 3]) (k := 3) (rest := []) (x := .inl (sc (M 4) (a - 1) 3))  (d' := d - 1) dX1_isLowestOfGroup_5 ln_X1_32 mo_X1_ofShade vo_X1_ofShade rfl (rc_3) rfl rfl (Nat.le_of_ble_eq_true rfl) (by omega) (Nat.le_of_ble_eq_true rfl) rfl (s_X1_ofShade (by omega) (by decide) (by omega) (by decide) (by decide)) ?_
    refine Go_if_ne (pc := 8) (tgt := 15) dX1_isLowestOfGroup_8 (by decide) (by first | exact hW.rs _ _ (by decide) | exact hW2.rs _ _ (by decide) | omega) (fun c8 => ?_) (fun c8 => ?_)
    · refine Go_iconst (pc := 15) dX1_isLowestOfGroup_15 ?_
      exact Go_zreturn (pc := 16) dX1_isLowestOfGroup_16 rfl (by decide) (by first | rw [b2i_t (show sc (M 4) (a - 1) 3 = 0 by omega)] | rw [b2i_f (show ¬ (sc (M 4) (a - 1) 3 = 0) by omega)]) rfl
    · refine Go_iconst (pc := 11) dX1_isLowestOfGroup_11 ?_
      refine Go_goto (pc := 12) (tgt := 16) dX1_isLowestOfGroup_12 (by decide) ?_
      exact Go_zreturn (pc := 16) dX1_isLowestOfGroup_16 rfl (by decide) (by first | rw [b2i_t (show sc (M 4) (a - 1) 3 = 0 by omega)] | rw [b2i_f (show ¬ (sc (M 4) (a - 1) 3 = 0) by omega)]) rfl
