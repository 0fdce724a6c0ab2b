/-! Sun; the best height -/
theorem s_X4_light {d : Nat} (hd : 1 ≤ d) {a h z : Int} {M : gMem} (ha : 0 ≤ a ∧ a ≤ 23) (hh : 0 ≤ h ∧ h ≤ 23) (hz : 0 ≤ z ∧ z ≤ 9) : Go d RX4 cX4_light 6 (some .int) 0 [some (.inl a), some (.inl h), some (.inl z), none, none, none] [] M (some (.inl (lightF a h z))) M := by
  have hb := mul_b (s := max 0 (12 - 3 * min (((a - h).natAbs : Nat) : Int) (24 - (((a - h).natAbs : Nat) : Int)))) (t := 9 - z) (by omega) (by omega) (by omega) (by omega)
  refine Go_iload_n (pc := 0) dX4_light_0 rfl rfl ?_
  refine Go_iload_n (pc := 1) dX4_light_1 rfl rfl ?_
  refine Go_isub (pc := 2) dX4_light_2 ?_
  refine Go_abs (pc := 3) dX4_light_3 ln_X4_9 so_abs in_java_lang_Math co_abs (by omega) (by omega) (Nat.le_of_ble_eq_true rfl) ?_
  refine Go_istore_n (pc := 6) (L' := [some (.inl a), some (.inl h), some (.inl z), some (.inl ((a - h).natAbs : Int)), none, none]) dX4_light_6 rfl (by decide) rfl ?_
  refine Go_iload_n (pc := 7) dX4_light_7 rfl rfl ?_
  refine Go_bipush (pc := 8) dX4_light_8 (by decide) (by decide) ?_
  refine Go_iload_n (pc := 10) dX4_light_10 rfl rfl ?_
  refine Go_isub (pc := 11) dX4_light_11 ?_
  refine Go_min (pc := 12) dX4_light_12 ln_X4_15 so_min in_java_lang_Math co_min (by omega) (by omega) (by omega) (Nat.le_of_ble_eq_true rfl) ?_
  refine Go_istore (pc := 15) (L' := [some (.inl a), some (.inl h), some (.inl z), some (.inl ((a - h).natAbs : Int)), some (.inl (min ((a - h).natAbs : Int) (24 - ((a - h).natAbs : Int)))), none]) dX4_light_15 (by decide) rfl ?_
  refine Go_iconst (pc := 17) dX4_light_17 ?_
  refine Go_bipush (pc := 18) dX4_light_18 (by decide) (by decide) ?_
  refine Go_iconst (pc := 20) dX4_light_20 ?_
  refine Go_iload (pc := 21) dX4_light_21 rfl ?_
  refine Go_imul (pc := 23) dX4_light_23 ?_
  refine Go_isub (pc := 24) dX4_light_24 ?_
  refine Go_max (pc := 25) dX4_light_25 ln_X4_19 so_max in_java_lang_Math co_max (by decide) (by omega) (by omega) (Nat.le_of_ble_eq_true rfl) ?_
  refine Go_istore (pc := 28) (L' := [some (.inl a), some (.inl h), some (.inl z), some (.inl ((a - h).natAbs : Int)), some (.inl (min ((a - h).natAbs : Int) (24 - ((a - h).natAbs : Int)))), some (.inl (max 0 (12 - (3 * (min ((a - h).natAbs : Int) (24 - ((a - h).natAbs : Int)))))))]) dX4_light_28 (by decide) rfl ?_
  refine Go_iload (pc := 30) dX4_light_30 rfl ?_
  refine Go_bipush (pc := 32) dX4_light_32 (by decide) (by decide) ?_
  refine Go_iload_n (pc := 34) dX4_light_34 rfl rfl ?_
  refine Go_isub (pc := 35) dX4_light_35 ?_
  refine Go_imul (pc := 36) dX4_light_36 ?_
  refine Go_iconst (pc := 37) dX4_light_37 ?_
  refine Go_idiv (pc := 38) dX4_light_38 (by omega) (by omega) (by omega) (by omega) ?_
  exact Go_ireturn (pc := 39) dX4_light_39 rfl (by first | rfl | (simp_all; done)) rfl
theorem s_X4_lightBehind {d h : Nat} (hd : 2 ≤ d) (hh : h = 1 ∨ h = 3) {a : Int} {M : gMem} (hW : Wf (M (h + 1))) (a0 : 0 ≤ a) (a1 : a < M (h + 1) 0) : Go d RX4 cX4_lightBehind 2 (some .int) 0 [some (.inr h), some (.inl a)] [] M (some (.inl (lightF (sc (M (h + 1)) a 1) (M (h + 1) 2) (sc (M (h + 1)) a 0)))) M := by
  rcases hh with rfl | rfl
  · have hn := Wf.n (f := M 2) hW
    have h1 := Wf.ah (f := M 2) hW a
    have h2 := Wf.hr (f := M 2) hW
    have h3 := Wf.ht (f := M 2) hW a
    have a1 : a < M 2 0 := a1
    refine Go_aload_n (pc := 0) dX4_lightBehind_0 rfl (by decide) rfl ?_
    refine Go_iload_n (pc := 1) dX4_lightBehind_1 rfl rfl ?_
    refine Go_iconst (pc := 2) dX4_lightBehind_2 ?_
    refine Go_invV (pc := 3) (y := yX1_ofShade) (avs := [.inl a, .inl 1]) (k := 1) (rest := []) (x := .inl (sc (M 2) a 1))  (d' := d - 1) dX4_lightBehind_3 ln_X4_24 mo_X1_ofShade vo_X1_ofShade rfl (rc_1) rfl rfl (Nat.le_of_ble_eq_true rfl) (by omega) (Nat.le_of_ble_eq_true rfl) rfl (s_X1_ofShade (by omega) (by decide) (by omega) (by decide) (by decide)) ?_
    refine Go_aload_n (pc := 6) dX4_lightBehind_6 rfl (by decide) rfl ?_
    refine Go_iconst (pc := 7) dX4_lightBehind_7 ?_
    refine Go_invV (pc := 8) (y := yX1_number) (avs := [.inl 2]) (k := 1) (rest := [.inl (sc (M 2) a 1)]) (x := .inl (M 2 2))  (d' := d - 1) dX4_lightBehind_8 ln_X4_27 mo_X1_number vo_X1_number rfl (rc_1) rfl rfl (Nat.le_of_ble_eq_true rfl) (by omega) (Nat.le_of_ble_eq_true rfl) rfl (s_X1_number (by omega) (by decide) (by decide) (by decide)) ?_
    refine Go_aload_n (pc := 11) dX4_lightBehind_11 rfl (by decide) rfl ?_
    refine Go_iload_n (pc := 12) dX4_lightBehind_12 rfl rfl ?_
    refine Go_iconst (pc := 13) dX4_lightBehind_13 ?_
    refine Go_invV (pc := 14) (y := yX1_ofShade) (avs := [.inl a, .inl 0]) (k := 1) (rest := [.inl (M 2 2), .inl (sc (M 2) a 1)]) (x := .inl (sc (M 2) a 0))  (d' := d - 1) dX4_lightBehind_14 ln_X4_24 mo_X1_ofShade vo_X1_ofShade rfl (rc_1) rfl rfl (Nat.le_of_ble_eq_true rfl) (by omega) (Nat.le_of_ble_eq_true rfl) rfl (s_X1_ofShade (by omega) (by decide) (by omega) (by decide) (by decide)) ?_
    refine Go_invS (pc := 17) (y := yX4_light) (avs := [.inl (sc (M 2) a 1), .inl (M 2 2), .inl (sc (M 2) a 0)]) (rest := []) (x := .inl (lightF (sc (M 2) a 1) (M 2 2) (sc (M 2) a 0)))  (d' := d - 1) dX4_lightBehind_17 ln_X4_30 mo_X4_light so_X4_light rfl rfl rfl (Nat.le_of_ble_eq_true rfl) (by omega) (Nat.le_of_ble_eq_true rfl) rfl (s_X4_light (by omega) (by omega) (by omega) (by omega)) ?_
    exact Go_ireturn (pc := 20) dX4_lightBehind_20 rfl (by first | rfl | (simp_all; done)) rfl
  · have hn := Wf.n (f := M 4) hW
    have h1 := Wf.ah (f := M 4) hW a
    have h2 := Wf.hr (f := M 4) hW
    have h3 := Wf.ht (f := M 4) hW a
    have a1 : a < M 4 0 := a1
    refine Go_aload_n (pc := 0) dX4_lightBehind_0 rfl (by decide) rfl ?_
    refine Go_iload_n (pc := 1) dX4_lightBehind_1 rfl rfl ?_
    refine Go_iconst (pc := 2) dX4_lightBehind_2 ?_
    refine Go_invV (pc := 3) (y := yX1_ofShade) (avs := [.inl a, .inl 1]) (k := 3) (rest := []) (x := .inl (sc (M 4) a 1))  (d' := d - 1) dX4_lightBehind_3 ln_X4_24 mo_X1_ofShade vo_X1_ofShade rfl (rc_3) rfl rfl (Nat.le_of_ble_eq_true rfl) (by omega) (Nat.le_of_ble_eq_true rfl) rfl (s_X1_ofShade (by omega) (by decide) (by omega) (by decide) (by decide)) ?_
    refine Go_aload_n (pc := 6) dX4_lightBehind_6 rfl (by decide) rfl ?_
    refine Go_iconst (pc := 7) dX4_lightBehind_7 ?_
    refine Go_invV (pc := 8) (y := yX1_number) (avs := [.inl 2]) (k := 3) (rest := [.inl (sc (M 4) a 1)]) (x := .inl (M 4 2))  (d' := d - 1) dX4_lightBehind_8 ln_X4_27 mo_X1_number vo_X1_number rfl (rc_3) rfl rfl (Nat.le_of_ble_eq_true rfl) (by omega) (Nat.le_of_ble_eq_true rfl) rfl (s_X1_number (by omega) (by decide) (by decide) (by decide)) ?_
    refine Go_aload_n (pc := 11) dX4_lightBehind_11 rfl (by decide) rfl ?_
    refine Go_iload_n (pc := 12) dX4_lightBehind_12 rfl rfl ?_
    refine Go_iconst (pc := 13) dX4_lightBehind_13 ?_
    refine Go_invV (pc := 14) (y := yX1_ofShade) (avs := [.inl a, .inl 0]) (k := 3) (rest := [.inl (M 4 2), .inl (sc (M 4) a 1)]) (x := .inl (sc (M 4) a 0))  (d' := d - 1) dX4_lightBehind_14 ln_X4_24 mo_X1_ofShade vo_X1_ofShade rfl (rc_3) rfl rfl (Nat.le_of_ble_eq_true rfl) (by omega) (Nat.le_of_ble_eq_true rfl) rfl (s_X1_ofShade (by omega) (by decide) (by omega) (by decide) (by decide)) ?_
    refine Go_invS (pc := 17) (y := yX4_light) (avs := [.inl (sc (M 4) a 1), .inl (M 4 2), .inl (sc (M 4) a 0)]) (rest := []) (x := .inl (lightF (sc (M 4) a 1) (M 4 2) (sc (M 4) a 0)))  (d' := d - 1) dX4_lightBehind_17 ln_X4_30 mo_X4_light so_X4_light rfl rfl rfl (Nat.le_of_ble_eq_true rfl) (by omega) (Nat.le_of_ble_eq_true rfl) rfl (s_X4_light (by omega) (by omega) (by omega) (by omega)) ?_
    exact Go_ireturn (pc := 20) dX4_lightBehind_20 rfl (by first | rfl | (simp_all; done)) rfl
theorem s_X4_isWell {d h : Nat} (hd : 1 ≤ d) (hh : h = 1 ∨ h = 3) {a l : Int} {M : gMem} (hW : Wf (M (h + 1))) (a0 : 0 ≤ a) (a1 : a < M (h + 1) 0) (hl : 0 ≤ l ∧ l ≤ 36) : Go d RX4 cX4_isWell 3 (some .boolean) 0 [some (.inr h), some (.inl a), some (.inl l)] [] M (some (.inl (b2i (wellP (M (h + 1)) a l)))) M := by
  rcases hh with rfl | rfl
  · have hn := Wf.n (f := M 2) hW
    have h1 := Wf.wa (f := M 2) hW a
    have h2 := Wf.lw (f := M 2) hW
    have a1 : a < M 2 0 := a1
    refine Go_iload_n (pc := 0) dX4_isWell_0 rfl rfl ?_
    refine Go_aload_n (pc := 1) dX4_isWell_1 rfl (by decide) rfl ?_
    refine Go_iload_n (pc := 2) dX4_isWell_2 rfl rfl ?_
    refine Go_iconst (pc := 3) dX4_isWell_3 ?_
    refine Go_invV (pc := 4) (y := yX1_ofShade) (avs := [.inl a, .inl 2]) (k := 1) (rest := [.inl l]) (x := .inl (sc (M 2) a 2))  (d' := d - 1) dX4_isWell_4 ln_X4_24 mo_X1_ofShade vo_X1_ofShade rfl (rc_1) rfl rfl (Nat.le_of_ble_eq_true rfl) (by omega) (Nat.le_of_ble_eq_true rfl) rfl (s_X1_ofShade (by omega) (by decide) (by omega) (by decide) (by decide)) ?_
    refine Go_isub (pc := 7) dX4_isWell_7 ?_
    refine Go_abs (pc := 8) dX4_isWell_8 ln_X4_9 so_abs in_java_lang_Math co_abs (by omega) (by omega) (Nat.le_of_ble_eq_true rfl) ?_
    refine Go_aload_n (pc := 11) dX4_isWell_11 rfl (by decide) rfl ?_
    refine Go_bipush (pc := 12) dX4_isWell_12 (by decide) (by decide) ?_
    refine Go_invV (pc := 14) (y := yX1_number) (avs := [.inl 6]) (k := 1) (rest := [.inl ((l - (sc (M 2) a 2)).natAbs : Int)]) (x := .inl (M 2 6))  (d' := d - 1) dX4_isWell_14 ln_X4_27 mo_X1_number vo_X1_number rfl (rc_1) rfl rfl (Nat.le_of_ble_eq_true rfl) (by omega) (Nat.le_of_ble_eq_true rfl) rfl (s_X1_number (by omega) (by decide) (by decide) (by decide)) ?_
    refine Go_icmp_gt (pc := 17) (tgt := 24) dX4_isWell_17 (by decide) (by omega) (by omega) (fun c17 => ?_) (fun c17 => ?_)
    · refine Go_iconst (pc := 24) dX4_isWell_24 ?_
      exact Go_zreturn (pc := 25) dX4_isWell_25 rfl (by decide) (by first | rw [b2i_t (show wellP (M 2) a l by unfold wellP; omega)] | rw [b2i_f (show ¬ wellP (M 2) a l by unfold wellP; omega)]) rfl
    · refine Go_iconst (pc := 20) dX4_isWell_20 ?_
      refine Go_goto (pc := 21) (tgt := 25) dX4_isWell_21 (by decide) ?_
      exact Go_zreturn (pc := 25) dX4_isWell_25 rfl (by decide) (by first | rw [b2i_t (show wellP (M 2) a l by unfold wellP; omega)] | rw [b2i_f (show ¬ wellP (M 2) a l by unfold wellP; omega)]) rfl
  · have hn := Wf.n (f := M 4) hW
    have h1 := Wf.wa (f := M 4) hW a
    have h2 := Wf.lw (f := M 4) hW
    have a1 : a < M 4 0 := a1
    refine Go_iload_n (pc := 0) dX4_isWell_0 rfl rfl ?_
    refine Go_aload_n (pc := 1) dX4_isWell_1 rfl (by decide) rfl ?_
    refine Go_iload_n (pc := 2) dX4_isWell_2 rfl rfl ?_
    refine Go_iconst (pc := 3) dX4_isWell_3 ?_
    refine Go_invV (pc := 4) (y := yX1_ofShade) (avs := [.inl a, .inl 2]) (k := 3) (rest := [.inl l]) (x := .inl (sc (M 4) a 2))  (d' := d - 1) dX4_isWell_4 ln_X4_24 mo_X1_ofShade vo_X1_ofShade rfl (rc_3) rfl rfl (Nat.le_of_ble_eq_true rfl) (by omega) (Nat.le_of_ble_eq_true rfl) rfl (s_X1_ofShade (by omega) (by decide) (by omega) (by decide) (by decide)) ?_
    refine Go_isub (pc := 7) dX4_isWell_7 ?_
    refine Go_abs (pc := 8) dX4_isWell_8 ln_X4_9 so_abs in_java_lang_Math co_abs (by omega) (by omega) (Nat.le_of_ble_eq_true rfl) ?_
    refine Go_aload_n (pc := 11) dX4_isWell_11 rfl (by decide) rfl ?_
    refine Go_bipush (pc := 12) dX4_isWell_12 (by decide) (by decide) ?_
    refine Go_invV (pc := 14) (y := yX1_number) (avs := [.inl 6]) (k := 3) (rest := [.inl ((l - (sc (M 4) a 2)).natAbs : Int)]) (x := .inl (M 4 6))  (d' := d - 1) dX4_isWell_14 ln_X4_27 mo_X1_number vo_X1_number rfl (rc_3) rfl rfl (Nat.le_of_ble_eq_true rfl) (by omega) (Nat.le_of_ble_eq_true rfl) rfl (s_X1_number (by omega) (by decide) (by decide) (by decide)) ?_
    refine Go_icmp_gt (pc := 17) (tgt := 24) dX4_isWell_17 (by decide) (by omega) (by omega) (fun c17 => ?_) (fun c17 => ?_)
    · refine Go_iconst (pc := 24) dX4_isWell_24 ?_
      exact Go_zreturn (pc := 25) dX4_isWell_25 rfl (by decide) (by first | rw [b2i_t (show wellP (M 4) a l by unfold wellP; omega)] | rw [b2i_f (show ¬ wellP (M 4) a l by unfold wellP; omega)]) rfl
    · refine Go_iconst (pc := 20) dX4_isWell_20 ?_
      refine Go_goto (pc := 21) (tgt := 25) dX4_isWell_21 (by decide) ?_
      exact Go_zreturn (pc := 25) dX4_isWell_25 rfl (by decide) (by first | rw [b2i_t (show wellP (M 4) a l by unfold wellP; omega)] | rw [b2i_f (show ¬ wellP (M 4) a l by unfold wellP; omega)]) rfl
/-- in how many hours of a day the plants of a shade are well at a height -/
def hoursF (f : Int → Int) (a z : Int) : Int := sumZ (fun t => b2i (wellP f a (lightF (sc f a 1) t z))) 24
theorem hoursF_b (f : Int → Int) (a z : Int) : 0 ≤ hoursF f a z ∧ hoursF f a z ≤ 24 := sumZ_b01 (by decide) (fun i h0 h1 => b2i_b _)
theorem s_X4_hoursWellAt {d : Nat} (hd : 2 ≤ d) {a z : Int} {M : gMem} (hW : Wf (M 2)) (a0 : 0 ≤ a) (a1 : a < M 2 0) (hz : 0 ≤ z ∧ z ≤ 9) : Go d RX4 cX4_hoursWellAt 5 (some .int) 0 [some (.inr 1), some (.inl a), some (.inl z), none, none] [] M (some (.inl (hoursF (M 2) a z))) M := by
  have hn := hW.n
  have hA := hW.ah a
  have K : ∀ i, 0 ≤ i → i ≤ 24 → Go d RX4 cX4_hoursWellAt 5 (some .int) 5 [some (.inr 1), some (.inl a), some (.inl z), some (.inl (sumZ (fun t => b2i (wellP (M 2) a (lightF (sc (M 2) a 1) t z))) i)), some (.inl i)] [] M (some (.inl (hoursF (M 2) a z))) M := by
    refine up_ind 0 24 _ (fun i h0 h1 ih => ?_)
    have e : sumZ (fun t => b2i (wellP (M 2) a (lightF (sc (M 2) a 1) t z))) (i + 1) = sumZ (fun t => b2i (wellP (M 2) a (lightF (sc (M 2) a 1) t z))) i + b2i (wellP (M 2) a (lightF (sc (M 2) a 1) i z)) := sumZ_s _ h0
    rw [e] at ih
    generalize hS : sumZ (fun t => b2i (wellP (M 2) a (lightF (sc (M 2) a 1) t z))) i = S at ih ⊢
    refine Go_iload (pc := 5) dX4_hoursWellAt_5 rfl ?_
    refine Go_bipush (pc := 7) dX4_hoursWellAt_7 (by decide) (by decide) ?_
    refine Go_icmp_ge (pc := 9) (tgt := 41) dX4_hoursWellAt_9 (by decide) (by omega) (by decide) (fun c9 => ?_) (fun c9 => ?_)
    · refine Go_iload_n (pc := 41) dX4_hoursWellAt_41 rfl rfl ?_
      exact Go_ireturn (pc := 42) dX4_hoursWellAt_42 rfl (by rw [← hS, show i = 24 by omega]; rfl) rfl
    · refine Go_aload_n (pc := 12) dX4_hoursWellAt_12 rfl (by decide) rfl ?_
      refine Go_iload_n (pc := 13) dX4_hoursWellAt_13 rfl rfl ?_
      refine Go_aload_n (pc := 14) dX4_hoursWellAt_14 rfl (by decide) rfl ?_
      refine Go_iload_n (pc := 15) dX4_hoursWellAt_15 rfl rfl ?_
      refine Go_iconst (pc := 16) dX4_hoursWellAt_16 ?_
      refine Go_invV (pc := 17) (y := yX1_ofShade) (avs := [.inl a, .inl 1]) (k := 1) (rest := [.inl a, .inr 1]) (x := .inl (sc (M 2) a 1))  (d' := d - 1) dX4_hoursWellAt_17 ln_X4_24 mo_X1_ofShade vo_X1_ofShade rfl (rc_1) rfl rfl (Nat.le_of_ble_eq_true rfl) (by omega) (Nat.le_of_ble_eq_true rfl) rfl (s_X1_ofShade (by omega) (by decide) (by omega) (by decide) (by decide)) ?_
      refine Go_iload (pc := 20) dX4_hoursWellAt_20 rfl ?_
      refine Go_iload_n (pc := 22) dX4_hoursWellAt_22 rfl rfl ?_
      refine Go_invS (pc := 23) (y := yX4_light) (avs := [.inl (sc (M 2) a 1), .inl i, .inl z]) (rest := [.inl a, .inr 1]) (x := .inl (lightF (sc (M 2) a 1) i z))  (d' := d - 1) dX4_hoursWellAt_23 ln_X4_30 mo_X4_light so_X4_light rfl rfl rfl (Nat.le_of_ble_eq_true rfl) (by omega) (Nat.le_of_ble_eq_true rfl) rfl (s_X4_light (by omega) (by omega) (by omega) (by omega)) ?_
      refine Go_invS (pc := 26) (y := yX4_isWell) (avs := [.inr 1, .inl a, .inl (lightF (sc (M 2) a 1) i z)]) (rest := []) (x := .inl (b2i (wellP (M 2) a (lightF (sc (M 2) a 1) i z))))  (d' := d - 1) dX4_hoursWellAt_26 ln_X4_36 mo_X4_isWell so_X4_isWell rfl rfl rfl (Nat.le_of_ble_eq_true rfl) (by omega) (Nat.le_of_ble_eq_true rfl) rfl (s_X4_isWell (by omega) (by decide) hW (by omega) (by omega) (by first | omega | exact lightF_b (by omega) (by omega) (by omega))) ?_
      refine Go_ifeqB (pc := 29) (tgt := 35) dX4_hoursWellAt_29 (by decide) (fun c29 => ?_) (fun c29 => ?_)
      · refine Go_iinc (pc := 35) (L' := [some (.inr 1), some (.inl a), some (.inl z), some (.inl S), some (.inl (i + 1))]) dX4_hoursWellAt_35 rfl (by decide) rfl ?_
        refine Go_goto (pc := 38) (tgt := 5) dX4_hoursWellAt_38 (by decide) ?_
        exact Go_LS (by first | rw [b2i_t (by assumption)] | rw [b2i_f (by assumption), Int.add_zero]) rfl (ih (by omega))
      · refine Go_iinc (pc := 32) (L' := [some (.inr 1), some (.inl a), some (.inl z), some (.inl (S + 1)), some (.inl i)]) dX4_hoursWellAt_32 rfl (by decide) rfl ?_
        refine Go_iinc (pc := 35) (L' := [some (.inr 1), some (.inl a), some (.inl z), some (.inl (S + 1)), some (.inl (i + 1))]) dX4_hoursWellAt_35 rfl (by decide) rfl ?_
        refine Go_goto (pc := 38) (tgt := 5) dX4_hoursWellAt_38 (by decide) ?_
        exact Go_LS (by first | rw [b2i_t (by assumption)] | rw [b2i_f (by assumption), Int.add_zero]) rfl (ih (by omega))
  refine Go_iconst (pc := 0) dX4_hoursWellAt_0 ?_
  refine Go_istore_n (pc := 1) (L' := [some (.inr 1), some (.inl a), some (.inl z), some (.inl 0), none]) dX4_hoursWellAt_1 rfl (by decide) rfl ?_
  refine Go_iconst (pc := 2) dX4_hoursWellAt_2 ?_
  refine Go_istore (pc := 3) (L' := [some (.inr 1), some (.inl a), some (.inl z), some (.inl 0), some (.inl 0)]) dX4_hoursWellAt_3 (by decide) rfl ?_
  exact K 0 (by omega) (by omega)
def mostN (g : Int → Int) : Nat → Int
  | 0 => 0
  | m + 1 => max (mostN g m) (g m)
def bestN (g : Int → Int) : Nat → Int
  | 0 => 0
  | m + 1 => if mostN g m < g m then (m : Int) else bestN g m
def mostZ (g : Int → Int) (i : Int) : Int := mostN g i.toNat
def bestZ (g : Int → Int) (i : Int) : Int := bestN g i.toNat
theorem mostZ_s (g : Int → Int) {i : Int} (h : 0 ≤ i) : mostZ g (i + 1) = max (mostZ g i) (g i) := by
  unfold mostZ
  rw [show (i + 1).toNat = i.toNat + 1 by omega]
  show max _ (g (i.toNat : Int)) = _
  rw [toN h]
theorem bestZ_s (g : Int → Int) {i : Int} (h : 0 ≤ i) : bestZ g (i + 1) = if mostZ g i < g i then i else bestZ g i := by
  unfold bestZ mostZ
  rw [show (i + 1).toNat = i.toNat + 1 by omega]
  show (if mostN g i.toNat < g (i.toNat : Int) then ((i.toNat : Nat) : Int) else _) = _
  rw [toN h]
theorem mostN_b (g : Int → Int) (hg : ∀ i, 0 ≤ g i ∧ g i ≤ 24) (m : Nat) : 0 ≤ mostN g m ∧ mostN g m ≤ 24 := by
  induction m with
  | zero => exact ⟨Int.le_refl 0, (by decide : (0 : Int) ≤ 24)⟩
  | succ m ih =>
    have := hg m
    show 0 ≤ max (mostN g m) (g m) ∧ max (mostN g m) (g m) ≤ 24
    omega
theorem mostZ_b (g : Int → Int) (hg : ∀ i, 0 ≤ g i ∧ g i ≤ 24) (i : Int) : 0 ≤ mostZ g i ∧ mostZ g i ≤ 24 := mostN_b g hg _
def bestF (f : Int → Int) (a c : Int) : Int := if ¬ (0 ≤ a ∧ a < f 0) ∨ c < 0 ∨ 1 < c then -1000001 else if c = 0 then bestZ (fun z => hoursF f a z) 10 else mostZ (fun z => hoursF f a z) 10
theorem s_X7_bestHeight {d : Nat} (hd : 4 ≤ d) {a c : Int} {M : gMem} (hW : Wf (M 2)) (ha : inR a) (hc : inR c) : Go d RX7 cX7_bestHeight 7 (some .int) 0 [some (.inr 0), some (.inl a), some (.inl c), none, none, none, none] [] M (some (.inl (bestF (M 2) a c))) M := by
  have hn := hW.n
  have K : 0 ≤ a → a < M 2 0 → 0 ≤ c → c ≤ 1 → ∀ i, 0 ≤ i → i ≤ 10 → ∀ x : Option MV, Go d RX7 cX7_bestHeight 7 (some .int) 31 [some (.inr 0), some (.inl a), some (.inl c), some (.inl (bestZ (fun z => hoursF (M 2) a z) i)), some (.inl (mostZ (fun z => hoursF (M 2) a z) i)), some (.inl i), x] [] M (some (.inl (bestF (M 2) a c))) M := by
    intro a0 a1 c0 c1
    refine up_ind 0 10 _ (fun i h0 h1 ih x => ?_)
    have e1 : bestZ (fun z => hoursF (M 2) a z) (i + 1) = if mostZ (fun z => hoursF (M 2) a z) i < hoursF (M 2) a i then i else bestZ (fun z => hoursF (M 2) a z) i := bestZ_s _ h0
    have e2 : mostZ (fun z => hoursF (M 2) a z) (i + 1) = max (mostZ (fun z => hoursF (M 2) a z) i) (hoursF (M 2) a i) := mostZ_s _ h0
    have hb := mostZ_b (fun z => hoursF (M 2) a z) (fun i => hoursF_b _ _ _) i
    have hb2 := hoursF_b (M 2) a i
    rw [e1, e2] at ih
    generalize hS : bestZ (fun z => hoursF (M 2) a z) i = S at ih ⊢
    generalize hT : mostZ (fun z => hoursF (M 2) a z) i = T at ih hb ⊢
    refine Go_iload (pc := 31) dX7_bestHeight_31 rfl ?_
    refine Go_bipush (pc := 33) dX7_bestHeight_33 (by decide) (by decide) ?_
    refine Go_icmp_gt (pc := 35) (tgt := 70) dX7_bestHeight_35 (by decide) (by omega) (by decide) (fun c35 => ?_) (fun c35 => ?_)
    · refine Go_iload_n (pc := 70) dX7_bestHeight_70 rfl rfl ?_
      refine Go_if_ne (pc := 71) (tgt := 78) dX7_bestHeight_71 (by decide) (by omega) (fun c71 => ?_) (fun c71 => ?_)
      · refine Go_iload (pc := 78) dX7_bestHeight_78 rfl ?_
        exact Go_ireturn (pc := 80) dX7_bestHeight_80 rfl (by unfold bestF; rw [if_neg (by omega)]; first | rw [if_pos (by omega), ← hS, show i = 10 by omega] | rw [if_neg (by omega), ← hT, show i = 10 by omega]) rfl
      · refine Go_iload_n (pc := 74) dX7_bestHeight_74 rfl rfl ?_
        refine Go_goto (pc := 75) (tgt := 80) dX7_bestHeight_75 (by decide) ?_
        exact Go_ireturn (pc := 80) dX7_bestHeight_80 rfl (by unfold bestF; rw [if_neg (by omega)]; first | rw [if_pos (by omega), ← hS, show i = 10 by omega] | rw [if_neg (by omega), ← hT, show i = 10 by omega]) rfl
    · refine Go_aload_n (pc := 38) dX7_bestHeight_38 rfl (by decide) rfl ?_
      refine Go_getr (pc := 39) (r := 1) dX7_bestHeight_39 fo_X7_10 (by decide) rfl rfl (by decide) ?_
      refine Go_iload_n (pc := 42) dX7_bestHeight_42 rfl rfl ?_
      refine Go_iload (pc := 43) dX7_bestHeight_43 rfl ?_
      refine Go_invS (pc := 45) (y := yX4_hoursWellAt) (avs := [.inr 1, .inl a, .inl i]) (rest := []) (x := .inl (hoursF (M 2) a i))  (d' := d - 1) dX7_bestHeight_45 ln_X7_149 mo_X4_hoursWellAt so_X4_hoursWellAt rfl rfl rfl (Nat.le_of_ble_eq_true rfl) (by omega) (Nat.le_of_ble_eq_true rfl) rfl (s_X4_hoursWellAt (by omega) hW (by omega) (by omega) (by omega)) ?_
      refine Go_istore (pc := 48) (L' := [some (.inr 0), some (.inl a), some (.inl c), some (.inl S), some (.inl T), some (.inl i), some (.inl (hoursF (M 2) a i))]) dX7_bestHeight_48 (by decide) rfl ?_
      refine Go_iload (pc := 50) dX7_bestHeight_50 rfl ?_
      refine Go_iload (pc := 52) dX7_bestHeight_52 rfl ?_
      refine Go_icmp_le (pc := 54) (tgt := 64) dX7_bestHeight_54 (by decide) (by omega) (by omega) (fun c54 => ?_) (fun c54 => ?_)
      · refine Go_iinc (pc := 64) (L' := [some (.inr 0), some (.inl a), some (.inl c), some (.inl S), some (.inl T), some (.inl (i + 1)), some (.inl (hoursF (M 2) a i))]) dX7_bestHeight_64 rfl (by decide) rfl ?_
        refine Go_goto (pc := 67) (tgt := 31) dX7_bestHeight_67 (by decide) ?_
        exact Go_LS (by first | rw [if_pos (by omega), Int.max_eq_right (by omega)] | rw [if_neg (by omega), Int.max_eq_left (by omega)]) rfl (ih (by omega) _)
      · refine Go_iload (pc := 57) dX7_bestHeight_57 rfl ?_
        refine Go_istore (pc := 59) (L' := [some (.inr 0), some (.inl a), some (.inl c), some (.inl S), some (.inl (hoursF (M 2) a i)), some (.inl i), some (.inl (hoursF (M 2) a i))]) dX7_bestHeight_59 (by decide) rfl ?_
        refine Go_iload (pc := 61) dX7_bestHeight_61 rfl ?_
        refine Go_istore_n (pc := 63) (L' := [some (.inr 0), some (.inl a), some (.inl c), some (.inl i), some (.inl (hoursF (M 2) a i)), some (.inl i), some (.inl (hoursF (M 2) a i))]) dX7_bestHeight_63 rfl (by decide) rfl ?_
        refine Go_iinc (pc := 64) (L' := [some (.inr 0), some (.inl a), some (.inl c), some (.inl i), some (.inl (hoursF (M 2) a i)), some (.inl (i + 1)), some (.inl (hoursF (M 2) a i))]) dX7_bestHeight_64 rfl (by decide) rfl ?_
        refine Go_goto (pc := 67) (tgt := 31) dX7_bestHeight_67 (by decide) ?_
        exact Go_LS (by first | rw [if_pos (by omega), Int.max_eq_right (by omega)] | rw [if_neg (by omega), Int.max_eq_left (by omega)]) rfl (ih (by omega) _)
  refine Go_aload_n (pc := 0) dX7_bestHeight_0 rfl (by decide) rfl ?_
  refine Go_getr (pc := 1) (r := 1) dX7_bestHeight_1 fo_X7_10 (by decide) rfl rfl (by decide) ?_
  refine Go_iload_n (pc := 4) dX7_bestHeight_4 rfl rfl ?_
  refine Go_invV (pc := 5) (y := yX1_hasShade) (avs := [.inl a]) (k := 1) (rest := []) (x := .inl (b2i (0 ≤ a ∧ a < M 2 0)))  (d' := d - 1) dX7_bestHeight_5 ln_X7_91 mo_X1_hasShade vo_X1_hasShade rfl (rc_1) rfl rfl (Nat.le_of_ble_eq_true rfl) (by omega) (Nat.le_of_ble_eq_true rfl) rfl (s_X1_hasShade (by omega) (by decide) (by omega) hW) ?_
  refine Go_ifeqB (pc := 8) (tgt := 20) dX7_bestHeight_8 (by decide) (fun c8 => ?_) (fun c8 => ?_)
  · refine Go_ldc (pc := 20) (n := -1000001) rfl kc_X7_94 dX7_bestHeight_20 ?_
    exact Go_ireturn (pc := 22) dX7_bestHeight_22 rfl (by unfold bestF; rw [if_pos (by omega)]) rfl
  · refine Go_iload_n (pc := 11) dX7_bestHeight_11 rfl rfl ?_
    refine Go_if_lt (pc := 12) (tgt := 20) dX7_bestHeight_12 (by decide) (by omega) (fun c12 => ?_) (fun c12 => ?_)
    · refine Go_ldc (pc := 20) (n := -1000001) rfl kc_X7_94 dX7_bestHeight_20 ?_
      exact Go_ireturn (pc := 22) dX7_bestHeight_22 rfl (by unfold bestF; rw [if_pos (by omega)]) rfl
    · refine Go_iload_n (pc := 15) dX7_bestHeight_15 rfl rfl ?_
      refine Go_iconst (pc := 16) dX7_bestHeight_16 ?_
      refine Go_icmp_le (pc := 17) (tgt := 23) dX7_bestHeight_17 (by decide) (by omega) (by decide) (fun c17 => ?_) (fun c17 => ?_)
      · refine Go_iconst (pc := 23) dX7_bestHeight_23 ?_
        refine Go_istore_n (pc := 24) (L' := [some (.inr 0), some (.inl a), some (.inl c), some (.inl 0), none, none, none]) dX7_bestHeight_24 rfl (by decide) rfl ?_
        refine Go_iconst (pc := 25) dX7_bestHeight_25 ?_
        refine Go_istore (pc := 26) (L' := [some (.inr 0), some (.inl a), some (.inl c), some (.inl 0), some (.inl 0), none, none]) dX7_bestHeight_26 (by decide) rfl ?_
        refine Go_iconst (pc := 28) dX7_bestHeight_28 ?_
        refine Go_istore (pc := 29) (L' := [some (.inr 0), some (.inl a), some (.inl c), some (.inl 0), some (.inl 0), some (.inl 0), none]) dX7_bestHeight_29 (by decide) rfl ?_
        exact K (by omega) (by omega) (by omega) (by omega) 0 (by omega) (by omega) _
      · refine Go_ldc (pc := 20) (n := -1000001) rfl kc_X7_94 dX7_bestHeight_20 ?_
        exact Go_ireturn (pc := 22) dX7_bestHeight_22 rfl (by unfold bestF; rw [if_pos (by omega)]) rfl
