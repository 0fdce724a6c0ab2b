/-! the reference: its leaves, its sums -/
theorem s_X8_in {d : Nat} (hd : 0 ≤ d) {a b c : Int} {M : gMem} (ha : inR a) (hb : inR b) (hc : inR c) : Go d RX8 cX8_in 3 (some .boolean) 0 [some (.inl a), some (.inl b), some (.inl c)] [] M (some (.inl (b2i (b ≤ a ∧ a ≤ c)))) M := by
  refine Go_iload_n (pc := 0) dX8_in_0 rfl rfl ?_
  refine Go_iload_n (pc := 1) dX8_in_1 rfl rfl ?_
  refine Go_icmp_lt (pc := 2) (tgt := 14) dX8_in_2 (by decide) (by omega) (by omega) (fun c2 => ?_) (fun c2 => ?_)
  · refine Go_iconst (pc := 14) dX8_in_14 ?_
    exact Go_zreturn (pc := 15) dX8_in_15 rfl (by decide) (by first | rw [b2i_t (show b ≤ a ∧ a ≤ c by omega)] | rw [b2i_f (show ¬ (b ≤ a ∧ a ≤ c) by omega)]) rfl
  · refine Go_iload_n (pc := 5) dX8_in_5 rfl rfl ?_
    refine Go_iload_n (pc := 6) dX8_in_6 rfl rfl ?_
    refine Go_icmp_gt (pc := 7) (tgt := 14) dX8_in_7 (by decide) (by omega) (by omega) (fun c7 => ?_) (fun c7 => ?_)
    · refine Go_iconst (pc := 14) dX8_in_14 ?_
      exact Go_zreturn (pc := 15) dX8_in_15 rfl (by decide) (by first | rw [b2i_t (show b ≤ a ∧ a ≤ c by omega)] | rw [b2i_f (show ¬ (b ≤ a ∧ a ≤ c) by omega)]) rfl
    · refine Go_iconst (pc := 10) dX8_in_10 ?_
      refine Go_goto (pc := 11) (tgt := 15) dX8_in_11 (by decide) ?_
      exact Go_zreturn (pc := 15) dX8_in_15 rfl (by decide) (by first | rw [b2i_t (show b ≤ a ∧ a ≤ c by omega)] | rw [b2i_f (show ¬ (b ≤ a ∧ a ≤ c) by omega)]) rfl
theorem s_X8_sh {d : Nat} (hd : 0 ≤ d) {a b : Int} {M : gMem} (a0 : 0 ≤ a) (a1 : a < 8) (h0 : 0 ≤ b) (h1 : b < 7) : Go d RX8 cX8_sh 3 (some .int) 0 [some (.inr 16), some (.inl a), some (.inl b)] [] M (some (.inl (sc (M 17) a b))) M := by
  refine Go_aload_n (pc := 0) dX8_sh_0 rfl (by decide) rfl ?_
  refine Go_getr (pc := 1) (r := 17) dX8_sh_1 fo_X8_7 (by decide) rfl rfl (by decide) ?_
  refine Go_bipush (pc := 4) dX8_sh_4 (by decide) (by decide) ?_
  refine Go_bipush (pc := 6) dX8_sh_6 (by decide) (by decide) ?_
  refine Go_iload_n (pc := 8) dX8_sh_8 rfl rfl ?_
  refine Go_imul (pc := 9) dX8_sh_9 ?_
  refine Go_iadd (pc := 10) dX8_sh_10 ?_
  refine Go_iload_n (pc := 11) dX8_sh_11 rfl rfl ?_
  refine Go_iadd (pc := 12) dX8_sh_12 ?_
  refine Go_iaload (pc := 13) (z := M 17 ((7 + (7 * a)) + b)) dX8_sh_13 (by decide) rfl (by omega) (by omega) (rfl) ?_
  exact Go_ireturn (pc := 14) dX8_sh_14 rfl (by rw [sc_in _ _ a0 a1]) rfl
theorem s_X8_st {d : Nat} (hd : 0 ≤ d) {a b : Int} {M : gMem} (a0 : 0 ≤ a) (a1 : a < 4) (h0 : 0 ≤ b) (h1 : b < 4) : Go d RX8 cX8_st 3 (some .int) 0 [some (.inr 16), some (.inl a), some (.inl b)] [] M (some (.inl (tc (M 17) a b))) M := by
  refine Go_aload_n (pc := 0) dX8_st_0 rfl (by decide) rfl ?_
  refine Go_getr (pc := 1) (r := 17) dX8_st_1 fo_X8_7 (by decide) rfl rfl (by decide) ?_
  refine Go_bipush (pc := 4) dX8_st_4 (by decide) (by decide) ?_
  refine Go_iconst (pc := 6) dX8_st_6 ?_
  refine Go_iload_n (pc := 7) dX8_st_7 rfl rfl ?_
  refine Go_imul (pc := 8) dX8_st_8 ?_
  refine Go_iadd (pc := 9) dX8_st_9 ?_
  refine Go_iload_n (pc := 10) dX8_st_10 rfl rfl ?_
  refine Go_iadd (pc := 11) dX8_st_11 ?_
  refine Go_iaload (pc := 12) (z := M 17 ((63 + (4 * a)) + b)) dX8_st_12 (by decide) rfl (by omega) (by omega) (rfl) ?_
  exact Go_ireturn (pc := 13) dX8_st_13 rfl (by rw [tc_in _ _ a0 a1]) rfl
theorem s_X8_isShade {d : Nat} (hd : 1 ≤ d) {a : Int} {M : gMem} (ha : inR a) (hW : Wf (M 17)) : Go d RX8 cX8_isShade 2 (some .boolean) 0 [some (.inr 16), some (.inl a)] [] M (some (.inl (b2i (0 ≤ a ∧ a < M 17 0)))) M := by
  have hn := hW.n
  refine Go_iload_n (pc := 0) dX8_isShade_0 rfl rfl ?_
  refine Go_iconst (pc := 1) dX8_isShade_1 ?_
  refine Go_aload_n (pc := 2) dX8_isShade_2 rfl (by decide) rfl ?_
  refine Go_getr (pc := 3) (r := 17) dX8_isShade_3 fo_X8_7 (by decide) rfl rfl (by decide) ?_
  refine Go_iconst (pc := 6) dX8_isShade_6 ?_
  refine Go_iaload (pc := 7) (z := M 17 0) dX8_isShade_7 (by decide) rfl (by decide) (by decide) (rfl) ?_
  refine Go_iconst (pc := 8) dX8_isShade_8 ?_
  refine Go_isub (pc := 9) dX8_isShade_9 ?_
  refine Go_invS (pc := 10) (y := yX8_in) (avs := [.inl a, .inl 0, .inl ((M 17 0) - 1)]) (rest := []) (x := .inl (b2i (0 ≤ a ∧ a ≤ ((M 17 0) - 1))))  (d' := d - 1) dX8_isShade_10 ln_X8_38 mo_X8_in so_X8_in rfl rfl rfl (Nat.le_of_ble_eq_true rfl) (by omega) (Nat.le_of_ble_eq_true rfl) rfl (s_X8_in (by omega) (by omega) (by decide) (by omega)) ?_
  exact Go_zreturn (pc := 13) dX8_isShade_13 rfl (b2i_01 _) (by rw [b2i_c (P := 0 ≤ a ∧ a < M 17 0) (Q := 0 ≤ a ∧ a ≤ M 17 0 - 1) (by omega)]) rfl
theorem s_X8_isString {d : Nat} (hd : 1 ≤ d) {a : Int} {M : gMem} (ha : inR a) (hW : Wf (M 17)) : Go d RX8 cX8_isString 2 (some .boolean) 0 [some (.inr 16), some (.inl a)] [] M (some (.inl (b2i (0 ≤ a ∧ a < M 17 1)))) M := by
  have hn := hW.t
  refine Go_iload_n (pc := 0) dX8_isString_0 rfl rfl ?_
  refine Go_iconst (pc := 1) dX8_isString_1 ?_
  refine Go_aload_n (pc := 2) dX8_isString_2 rfl (by decide) rfl ?_
  refine Go_getr (pc := 3) (r := 17) dX8_isString_3 fo_X8_7 (by decide) rfl rfl (by decide) ?_
  refine Go_iconst (pc := 6) dX8_isString_6 ?_
  refine Go_iaload (pc := 7) (z := M 17 1) dX8_isString_7 (by decide) rfl (by decide) (by decide) (rfl) ?_
  refine Go_iconst (pc := 8) dX8_isString_8 ?_
  refine Go_isub (pc := 9) dX8_isString_9 ?_
  refine Go_invS (pc := 10) (y := yX8_in) (avs := [.inl a, .inl 0, .inl ((M 17 1) - 1)]) (rest := []) (x := .inl (b2i (0 ≤ a ∧ a ≤ ((M 17 1) - 1))))  (d' := d - 1) dX8_isString_10 ln_X8_38 mo_X8_in so_X8_in rfl rfl rfl (Nat.le_of_ble_eq_true rfl) (by omega) (Nat.le_of_ble_eq_true rfl) rfl (s_X8_in (by omega) (by omega) (by decide) (by omega)) ?_
  exact Go_zreturn (pc := 13) dX8_isString_13 rfl (b2i_01 _) (by rw [b2i_c (P := 0 ≤ a ∧ a < M 17 1) (Q := 0 ≤ a ∧ a ≤ M 17 1 - 1) (by omega)]) rfl
theorem gshl1_b : ∀ k : Nat, k < 9 → 1 ≤ gshl 1 (k : Int) ∧ gshl 1 (k : Int) ≤ 256 := by decide +kernel
theorem gshl1_r {k : Int} (h0 : 0 ≤ k) (h1 : k < 9) : 1 ≤ gshl 1 k ∧ gshl 1 k ≤ 256 := by
  obtain ⟨m, hm, rfl⟩ := nat_of h0 h1
  exact gshl1_b m (by omega)
theorem s_X8_areShades {d : Nat} (hd : 1 ≤ d) {a : Int} {M : gMem} (ha : inR a) (hW : Wf (M 17)) : Go d RX8 cX8_areShades 2 (some .boolean) 0 [some (.inr 16), some (.inl a)] [] M (some (.inl (b2i (0 ≤ a ∧ a ≤ gshl 1 (M 17 0) - 1)))) M := by
  have hn := hW.n
  have hg := gshl1_r hn.1 (show M 17 0 < 9 by omega)
  refine Go_iload_n (pc := 0) dX8_areShades_0 rfl rfl ?_
  refine Go_iconst (pc := 1) dX8_areShades_1 ?_
  refine Go_iconst (pc := 2) dX8_areShades_2 ?_
  refine Go_aload_n (pc := 3) dX8_areShades_3 rfl (by decide) rfl ?_
  refine Go_getr (pc := 4) (r := 17) dX8_areShades_4 fo_X8_7 (by decide) rfl rfl (by decide) ?_
  refine Go_iconst (pc := 7) dX8_areShades_7 ?_
  refine Go_iaload (pc := 8) (z := M 17 0) dX8_areShades_8 (by decide) rfl (by decide) (by decide) (rfl) ?_
  refine Go_ishl (pc := 9) dX8_areShades_9 ?_
  refine Go_iconst (pc := 10) dX8_areShades_10 ?_
  refine Go_isub (pc := 11) dX8_areShades_11 ?_
  refine Go_invS (pc := 12) (y := yX8_in) (avs := [.inl a, .inl 0, .inl ((gshl 1 (M 17 0)) - 1)]) (rest := []) (x := .inl (b2i (0 ≤ a ∧ a ≤ ((gshl 1 (M 17 0)) - 1))))  (d' := d - 1) dX8_areShades_12 ln_X8_38 mo_X8_in so_X8_in rfl rfl rfl (Nat.le_of_ble_eq_true rfl) (by omega) (Nat.le_of_ble_eq_true rfl) rfl (s_X8_in (by omega) (by omega) (by decide) (by omega)) ?_
  exact Go_zreturn (pc := 15) dX8_areShades_15 rfl (b2i_01 _) (by first | rfl | (simp_all; done)) rfl
theorem s_X8_endOf {d : Nat} (hd : 1 ≤ d) {a : Int} {M : gMem} (hW : Wf (M 17)) (a0 : 0 ≤ a) (a1 : a < M 17 0) : Go d RX8 cX8_endOf 3 (some .int) 0 [some (.inr 16), some (.inl a), none] [] M (some (.inl (endG (M 17) a))) M := by
  have hn := hW.n
  have K : ∀ e, a ≤ e → e ≤ M 17 0 - 1 → Go d RX8 cX8_endOf 3 (some .int) 2 [some (.inr 16), some (.inl a), some (.inl e)] [] M (some (.inl (endG (M 17) e))) M := by
    refine up_ind a (M 17 0 - 1) _ (fun e h0 h1 ih => ?_)
    refine Go_iload_n (pc := 2) dX8_endOf_2 rfl rfl ?_
    refine Go_iconst (pc := 3) dX8_endOf_3 ?_
    refine Go_iadd (pc := 4) dX8_endOf_4 ?_
    refine Go_aload_n (pc := 5) dX8_endOf_5 rfl (by decide) rfl ?_
    refine Go_getr (pc := 6) (r := 17) dX8_endOf_6 fo_X8_7 (by decide) rfl rfl (by decide) ?_
    refine Go_iconst (pc := 9) dX8_endOf_9 ?_
    refine Go_iaload (pc := 10) (z := M 17 0) dX8_endOf_10 (by decide) rfl (by decide) (by decide) (rfl) ?_
    refine Go_icmp_ge (pc := 11) (tgt := 29) dX8_endOf_11 (by decide) (by omega) (by omega) (fun c11 => ?_) (fun c11 => ?_)
    · refine Go_iload_n (pc := 29) dX8_endOf_29 rfl rfl ?_
      exact Go_ireturn (pc := 30) dX8_endOf_30 rfl (by rw [endG_st (by omega)]) rfl
    · refine Go_aload_n (pc := 14) dX8_endOf_14 rfl (by decide) rfl ?_
      refine Go_iload_n (pc := 15) dX8_endOf_15 rfl rfl ?_
      refine Go_iconst (pc := 16) dX8_endOf_16 ?_
      refine Go_invV (pc := 17) (y := yX8_sh) (avs := [.inl e, .inl 3]) (k := 16) (rest := []) (x := .inl (sc (M 17) e 3))  (d' := d - 1) dX8_endOf_17 ln_X8_59 mo_X8_sh vo_X8_sh rfl (rc_16) rfl rfl (Nat.le_of_ble_eq_true rfl) (by omega) (Nat.le_of_ble_eq_true rfl) rfl (s_X8_sh (by omega) (by omega) (by omega) (by decide) (by decide)) ?_
      refine Go_if_le (pc := 20) (tgt := 29) dX8_endOf_20 (by decide) (by first | exact hW.rs _ _ (by decide) | exact hW2.rs _ _ (by decide) | omega) (fun c20 => ?_) (fun c20 => ?_)
      · refine Go_iload_n (pc := 29) dX8_endOf_29 rfl rfl ?_
        exact Go_ireturn (pc := 30) dX8_endOf_30 rfl (by rw [endG_st (by omega)]) rfl
      · refine Go_iinc (pc := 23) (L' := [some (.inr 16), some (.inl a), some (.inl (e + 1))]) dX8_endOf_23 rfl (by decide) rfl ?_
        refine Go_goto (pc := 26) (tgt := 2) dX8_endOf_26 (by decide) ?_
        exact Go_v (by rw [endG_go (k := e) (by omega) (by omega)]) rfl (ih (by omega))
  refine Go_iload_n (pc := 0) dX8_endOf_0 rfl rfl ?_
  refine Go_istore_n (pc := 1) (L' := [some (.inr 16), some (.inl a), some (.inl a)]) dX8_endOf_1 rfl (by decide) rfl ?_
  exact K a (by omega) (by omega)
theorem s_X8_beginOf {d : Nat} (hd : 1 ≤ d) {a : Int} {M : gMem} (hW : Wf (M 17)) (a0 : 0 ≤ a) (a1 : a < M 17 0) : Go d RX8 cX8_beginOf 3 (some .int) 0 [some (.inr 16), some (.inl a), none] [] M (some (.inl (begG (M 17) a))) M := by
  have hn := hW.n
  have K : ∀ e, 0 ≤ e → e ≤ a → Go d RX8 cX8_beginOf 3 (some .int) 2 [some (.inr 16), some (.inl a), some (.inl e)] [] M (some (.inl (begG (M 17) e))) M := by
    refine dn_ind 0 a _ (fun e h0 h1 ih => ?_)
    refine Go_iload_n (pc := 2) dX8_beginOf_2 rfl rfl ?_
    refine Go_if_le (pc := 3) (tgt := 23) dX8_beginOf_3 (by decide) (by omega) (fun c3 => ?_) (fun c3 => ?_)
    · refine Go_iload_n (pc := 23) dX8_beginOf_23 rfl rfl ?_
      exact Go_ireturn (pc := 24) dX8_beginOf_24 rfl (by rw [begG_st (by omega)]) rfl
    · refine Go_aload_n (pc := 6) dX8_beginOf_6 rfl (by decide) rfl ?_
      refine Go_iload_n (pc := 7) dX8_beginOf_7 rfl rfl ?_
      refine Go_iconst (pc := 8) dX8_beginOf_8 ?_
      refine Go_isub (pc := 9) dX8_beginOf_9 ?_
      refine Go_iconst (pc := 10) dX8_beginOf_10 ?_
      refine Go_invV (pc := 11) (y := yX8_sh) (avs := [.inl (e - 1), .inl 3]) (k := 16) (rest := []) (x := .inl (sc (M 17) (e - 1) 3))  (d' := d - 1) dX8_beginOf_11 ln_X8_59 mo_X8_sh vo_X8_sh rfl (rc_16) rfl rfl (Nat.le_of_ble_eq_true rfl) (by omega) (Nat.le_of_ble_eq_true rfl) rfl (s_X8_sh (by omega) (by omega) (by omega) (by decide) (by decide)) ?_
      refine Go_if_le (pc := 14) (tgt := 23) dX8_beginOf_14 (by decide) (by first | exact hW.rs _ _ (by decide) | exact hW2.rs _ _ (by decide) | omega) (fun c14 => ?_) (fun c14 => ?_)
      · refine Go_iload_n (pc := 23) dX8_beginOf_23 rfl rfl ?_
        exact Go_ireturn (pc := 24) dX8_beginOf_24 rfl (by rw [begG_st (by omega)]) rfl
      · refine Go_iinc (pc := 17) (L' := [some (.inr 16), some (.inl a), some (.inl (e + (-1)))]) dX8_beginOf_17 rfl (by decide) rfl ?_
        refine Go_goto (pc := 20) (tgt := 2) dX8_beginOf_20 (by decide) ?_
        exact Go_v (by rw [begG_go (k := e) (by omega) (by omega)]) rfl (ih (by omega))
  refine Go_iload_n (pc := 0) dX8_beginOf_0 rfl rfl ?_
  refine Go_istore_n (pc := 1) (L' := [some (.inr 16), some (.inl a), some (.inl a)]) dX8_beginOf_1 rfl (by decide) rfl ?_
  exact K a (by omega) (by omega)
theorem s_X8_groupOf {d : Nat} (hd : 2 ≤ d) {a : Int} {M : gMem} (hW : Wf (M 17)) (a0 : 0 ≤ a) (a1 : a < M 17 0) : Go d RX8 cX8_groupOf 2 (some .int) 0 [some (.inr 16), some (.inl a)] [] M (some (.inl (gm (begG (M 17) a) (endG (M 17) a)))) M := by
  have hn := hW.n
  refine Go_iconst (pc := 0) dX8_groupOf_0 ?_
  refine Go_aload_n (pc := 1) dX8_groupOf_1 rfl (by decide) rfl ?_
  refine Go_iload_n (pc := 2) dX8_groupOf_2 rfl rfl ?_
  refine Go_invV (pc := 3) (y := yX8_endOf) (avs := [.inl a]) (k := 16) (rest := [.inl 2]) (x := .inl (endG (M 17) a))  (d' := d - 1) dX8_groupOf_3 ln_X8_66 mo_X8_endOf vo_X8_endOf rfl (rc_16) rfl rfl (Nat.le_of_ble_eq_true rfl) (by omega) (Nat.le_of_ble_eq_true rfl) rfl (s_X8_endOf (by omega) hW (by omega) (by omega)) ?_
  refine Go_ishl (pc := 6) dX8_groupOf_6 ?_
  refine Go_iconst (pc := 7) dX8_groupOf_7 ?_
  refine Go_aload_n (pc := 8) dX8_groupOf_8 rfl (by decide) rfl ?_
  refine Go_iload_n (pc := 9) dX8_groupOf_9 rfl rfl ?_
  refine Go_invV (pc := 10) (y := yX8_beginOf) (avs := [.inl a]) (k := 16) (rest := [.inl 1, .inl (gshl 2 (endG (M 17) a))]) (x := .inl (begG (M 17) a))  (d' := d - 1) dX8_groupOf_10 ln_X8_117 mo_X8_beginOf vo_X8_beginOf rfl (rc_16) rfl rfl (Nat.le_of_ble_eq_true rfl) (by omega) (Nat.le_of_ble_eq_true rfl) rfl (s_X8_beginOf (by omega) hW (by omega) (by omega)) ?_
  refine Go_ishl (pc := 13) dX8_groupOf_13 ?_
  refine Go_isub (pc := 14) dX8_groupOf_14 ?_
  exact Go_ireturn (pc := 15) dX8_groupOf_15 rfl (by first | rfl | (simp_all; done)) rfl
theorem s_X8_isTold {d : Nat} (hd : 1 ≤ d) {a : Int} {M : gMem} (hW : Wf (M 17)) (a0 : 0 ≤ a) (a1 : a < M 17 0) : Go d RX8 cX8_isTold 2 (some .boolean) 0 [some (.inr 16), some (.inl a)] [] M (some (.inl (b2i (0 ≤ sc (M 17) a 6)))) M := by
  have hn := hW.n
  refine Go_aload_n (pc := 0) dX8_isTold_0 rfl (by decide) rfl ?_
  refine Go_iload_n (pc := 1) dX8_isTold_1 rfl rfl ?_
  refine Go_bipush (pc := 2) dX8_isTold_2 (by decide) (by decide) ?_
  refine Go_invV (pc := 4) (y := yX8_sh) (avs := [.inl a, .inl 6]) (k := 16) (rest := []) (x := .inl (sc (M 17) a 6))  (d' := d - 1) dX8_isTold_4 ln_X8_59 mo_X8_sh vo_X8_sh rfl (rc_16) rfl rfl (Nat.le_of_ble_eq_true rfl) (by omega) (Nat.le_of_ble_eq_true rfl) rfl (s_X8_sh (by omega) (by omega) (by omega) (by decide) (by decide)) ?_
  refine Go_if_lt (pc := 7) (tgt := 14) dX8_isTold_7 (by decide) (by first | exact hW.rs _ _ (by decide) | exact hW2.rs _ _ (by decide) | omega) (fun c7 => ?_) (fun c7 => ?_)
  · refine Go_iconst (pc := 14) dX8_isTold_14 ?_
    exact Go_zreturn (pc := 15) dX8_isTold_15 rfl (by decide) (by first | rw [b2i_t (show 0 ≤ sc (M 17) a 6 by omega)] | rw [b2i_f (show ¬ (0 ≤ sc (M 17) a 6) by omega)]) rfl
  · refine Go_iconst (pc := 10) dX8_isTold_10 ?_
    refine Go_goto (pc := 11) (tgt := 15) dX8_isTold_11 (by decide) ?_
    exact Go_zreturn (pc := 15) dX8_isTold_15 rfl (by decide) (by first | rw [b2i_t (show 0 ≤ sc (M 17) a 6 by omega)] | rw [b2i_f (show ¬ (0 ≤ sc (M 17) a 6) by omega)]) rfl
theorem s_X8_stands {d : Nat} (hd : 1 ≤ d) {a : Int} {M : gMem} (hW : Wf (M 17)) (a0 : 0 ≤ a) (a1 : a < M 17 0) : Go d RX8 cX8_stands 2 (some .boolean) 0 [some (.inr 16), some (.inl a)] [] M (some (.inl (b2i (sc (M 17) a 0 = sc (M 17) a 6)))) M := by
  have hn := hW.n
  refine Go_aload_n (pc := 0) dX8_stands_0 rfl (by decide) rfl ?_
  refine Go_iload_n (pc := 1) dX8_stands_1 rfl rfl ?_
  refine Go_bipush (pc := 2) dX8_stands_2 (by decide) (by decide) ?_
  refine Go_invV (pc := 4) (y := yX8_sh) (avs := [.inl a, .inl 6]) (k := 16) (rest := []) (x := .inl (sc (M 17) a 6))  (d' := d - 1) dX8_stands_4 ln_X8_59 mo_X8_sh vo_X8_sh rfl (rc_16) rfl rfl (Nat.le_of_ble_eq_true rfl) (by omega) (Nat.le_of_ble_eq_true rfl) rfl (s_X8_sh (by omega) (by omega) (by omega) (by decide) (by decide)) ?_
  refine Go_aload_n (pc := 7) dX8_stands_7 rfl (by decide) rfl ?_
  refine Go_iload_n (pc := 8) dX8_stands_8 rfl rfl ?_
  refine Go_iconst (pc := 9) dX8_stands_9 ?_
  refine Go_invV (pc := 10) (y := yX8_sh) (avs := [.inl a, .inl 0]) (k := 16) (rest := [.inl (sc (M 17) a 6)]) (x := .inl (sc (M 17) a 0))  (d' := d - 1) dX8_stands_10 ln_X8_59 mo_X8_sh vo_X8_sh rfl (rc_16) rfl rfl (Nat.le_of_ble_eq_true rfl) (by omega) (Nat.le_of_ble_eq_true rfl) rfl (s_X8_sh (by omega) (by omega) (by omega) (by decide) (by decide)) ?_
  refine Go_icmp_ne (pc := 13) (tgt := 20) dX8_stands_13 (by decide) (by first | exact hW.rs _ _ (by decide) | exact hW2.rs _ _ (by decide) | omega) (by first | exact hW.rs _ _ (by decide) | exact hW2.rs _ _ (by decide) | omega) (fun c13 => ?_) (fun c13 => ?_)
  · refine Go_iconst (pc := 20) dX8_stands_20 ?_
    exact Go_zreturn (pc := 21) dX8_stands_21 rfl (by decide) (by first | rw [b2i_t (show sc (M 17) a 0 = sc (M 17) a 6 by omega)] | rw [b2i_f (show ¬ (sc (M 17) a 0 = sc (M 17) a 6) by omega)]) rfl
  · refine Go_iconst (pc := 16) dX8_stands_16 ?_
    refine Go_goto (pc := 17) (tgt := 21) dX8_stands_17 (by decide) ?_
    exact Go_zreturn (pc := 21) dX8_stands_21 rfl (by decide) (by first | rw [b2i_t (show sc (M 17) a 0 = sc (M 17) a 6 by omega)] | rw [b2i_f (show ¬ (sc (M 17) a 0 = sc (M 17) a 6) by omega)]) rfl
theorem s_X8_isTangled {d : Nat} (hd : 1 ≤ d) {a : Int} {M : gMem} (hW : Wf (M 17)) (a0 : 0 ≤ a) (a1 : a < M 17 0) : Go d RX8 cX8_isTangled 2 (some .boolean) 0 [some (.inr 16), some (.inl a)] [] M (some (.inl (b2i (0 < sc (M 17) (a - 1) 3 ∨ 0 < sc (M 17) a 3)))) M := by
  have hn := hW.n
  have hz : a = 0 → sc (M 17) (a - 1) 3 = 0 := fun e => sc_out _ _ (by omega)
  refine Go_aload_n (pc := 0) dX8_isTangled_0 rfl (by decide) rfl ?_
  refine Go_iload_n (pc := 1) dX8_isTangled_1 rfl rfl ?_
  refine Go_iconst (pc := 2) dX8_isTangled_2 ?_
  refine Go_invV (pc := 3) (y := yX8_sh) (avs := [.inl a, .inl 3]) (k := 16) (rest := []) (x := .inl (sc (M 17) a 3))  (d' := d - 1) dX8_isTangled_3 ln_X8_59 mo_X8_sh vo_X8_sh rfl (rc_16) rfl rfl (Nat.le_of_ble_eq_true rfl) (by omega) (Nat.le_of_ble_eq_true rfl) rfl (s_X8_sh (by omega) (by omega) (by omega) (by decide) (by decide)) ?_
  refine Go_if_gt (pc := 6) (tgt := 24) dX8_isTangled_6 (by decide) (by first | exact hW.rs _ _ (by decide) | exact hW2.rs _ _ (by decide) | omega) (fun c6 => ?_) (fun c6 => ?_)
  · refine Go_iconst (pc := 24) dX8_isTangled_24 ?_
    refine Go_goto (pc := 25) (tgt := 29) dX8_isTangled_25 (by decide) ?_
    exact Go_zreturn (pc := 29) dX8_isTangled_29 rfl (by decide) (by first | rw [b2i_t (show 0 < sc (M 17) (a - 1) 3 ∨ 0 < sc (M 17) a 3 by omega)] | rw [b2i_f (show ¬ (0 < sc (M 17) (a - 1) 3 ∨ 0 < sc (M 17) a 3) by omega)]) rfl
  · refine Go_iload_n (pc := 9) dX8_isTangled_9 rfl rfl ?_
    refine Go_if_le (pc := 10) (tgt := 28) dX8_isTangled_10 (by decide) (by omega) (fun c10 => ?_) (fun c10 => ?_)
    · refine Go_iconst (pc := 28) dX8_isTangled_28 ?_
      exact Go_zreturn (pc := 29) dX8_isTangled_29 rfl (by decide) (by first | rw [b2i_t (show 0 < sc (M 17) (a - 1) 3 ∨ 0 < sc (M 17) a 3 by omega)] | rw [b2i_f (show ¬ (0 < sc (M 17) (a - 1) 3 ∨ 0 < sc (M 17) a 3) by omega)]) rfl
    · refine Go_aload_n (pc := 13) dX8_isTangled_13 rfl (by decide) rfl ?_
      refine Go_iload_n (pc := 14) dX8_isTangled_14 rfl rfl ?_
      refine Go_iconst (pc := 15) dX8_isTangled_15 ?_
      refine Go_isub (pc := 16) dX8_isTangled_16 ?_
      refine Go_iconst (pc := 17) dX8_isTangled_17 ?_
      refine Go_invV (pc := 18) (y := yX8_sh) (avs := [.inl (a - 1), .inl 3]) (k := 16) (rest := []) (x := .inl (sc (M 17) (a - 1) 3))  (d' := d - 1) dX8_isTangled_18 ln_X8_59 mo_X8_sh vo_X8_sh rfl (rc_16) rfl rfl (Nat.le_of_ble_eq_true rfl) (by omega) (Nat.le_of_ble_eq_true rfl) rfl (s_X8_sh (by omega) (by omega) (by omega) (by decide) (by decide)) ?_
      refine Go_if_le (pc := 21) (tgt := 28) dX8_isTangled_21 (by decide) (by first | exact hW.rs _ _ (by decide) | exact hW2.rs _ _ (by decide) | omega) (fun c21 => ?_) (fun c21 => ?_)
      · refine Go_iconst (pc := 28) dX8_isTangled_28 ?_
        exact Go_zreturn (pc := 29) dX8_isTangled_29 rfl (by decide) (by first | rw [b2i_t (show 0 < sc (M 17) (a - 1) 3 ∨ 0 < sc (M 17) a 3 by omega)] | rw [b2i_f (show ¬ (0 < sc (M 17) (a - 1) 3 ∨ 0 < sc (M 17) a 3) by omega)]) rfl
      · refine Go_iconst (pc := 24) dX8_isTangled_24 ?_
        refine Go_goto (pc := 25) (tgt := 29) dX8_isTangled_25 (by decide) ?_
        exact Go_zreturn (pc := 29) dX8_isTangled_29 rfl (by decide) (by first | rw [b2i_t (show 0 < sc (M 17) (a - 1) 3 ∨ 0 < sc (M 17) a 3 by omega)] | rw [b2i_f (show ¬ (0 < sc (M 17) (a - 1) 3 ∨ 0 < sc (M 17) a 3) by omega)]) rfl
theorem s_X8_knots {d : Nat} (hd : 3 ≤ d) {M : gMem} (hW : Wf (M 17)) : Go d RX8 cX8_knots 3 (some .int) 0 [some (.inr 16), none, none] [] M (some (.inl (knotsF (M 17)))) M := by
  have hn := hW.n
  have K : ∀ i, 0 ≤ i → i ≤ M 17 0 → Go d RX8 cX8_knots 3 (some .int) 4 [some (.inr 16), some (.inl (sumZ (fun k => b2i (0 < sc (M 17) k 3)) i)), some (.inl i)] [] M (some (.inl (sumZ (fun k => b2i (0 < sc (M 17) k 3)) (M 17 0)))) M := by
    refine up_ind 0 (M 17 0) _ (fun i h0 h1 ih => ?_)
    have e : sumZ (fun k => b2i (0 < sc (M 17) k 3)) (i + 1) = sumZ (fun k => b2i (0 < sc (M 17) k 3)) i + b2i (0 < sc (M 17) i 3) := sumZ_s _ h0
    rw [e] at ih
    generalize hS : sumZ (fun k => b2i (0 < sc (M 17) k 3)) i = S at ih ⊢
    refine Go_iload_n (pc := 4) dX8_knots_4 rfl rfl ?_
    refine Go_aload_n (pc := 5) dX8_knots_5 rfl (by decide) rfl ?_
    refine Go_getr (pc := 6) (r := 17) dX8_knots_6 fo_X8_7 (by decide) rfl rfl (by decide) ?_
    refine Go_iconst (pc := 9) dX8_knots_9 ?_
    refine Go_iaload (pc := 10) (z := M 17 0) dX8_knots_10 (by decide) rfl (by decide) (by decide) (rfl) ?_
    refine Go_icmp_ge (pc := 11) (tgt := 37) dX8_knots_11 (by decide) (by omega) (by omega) (fun c11 => ?_) (fun c11 => ?_)
    · refine Go_iload_n (pc := 37) dX8_knots_37 rfl rfl ?_
      exact Go_ireturn (pc := 38) dX8_knots_38 rfl (by rw [← hS, show i = M 17 0 by omega]) rfl
    · refine Go_iload_n (pc := 14) dX8_knots_14 rfl rfl ?_
      refine Go_aload_n (pc := 15) dX8_knots_15 rfl (by decide) rfl ?_
      refine Go_iload_n (pc := 16) dX8_knots_16 rfl rfl ?_
      refine Go_iconst (pc := 17) dX8_knots_17 ?_
      refine Go_invV (pc := 18) (y := yX8_sh) (avs := [.inl i, .inl 3]) (k := 16) (rest := [.inl S]) (x := .inl (sc (M 17) i 3))  (d' := d - 1) dX8_knots_18 ln_X8_59 mo_X8_sh vo_X8_sh rfl (rc_16) rfl rfl (Nat.le_of_ble_eq_true rfl) (by omega) (Nat.le_of_ble_eq_true rfl) rfl (s_X8_sh (by omega) (by omega) (by omega) (by decide) (by decide)) ?_
      refine Go_if_le (pc := 21) (tgt := 28) dX8_knots_21 (by decide) (by first | exact hW.rs _ _ (by decide) | exact hW2.rs _ _ (by decide) | omega) (fun c21 => ?_) (fun c21 => ?_)
      · refine Go_iconst (pc := 28) dX8_knots_28 ?_
        refine Go_iadd (pc := 29) dX8_knots_29 ?_
        refine Go_istore_n (pc := 30) (L' := [some (.inr 16), some (.inl (S + 0)), some (.inl i)]) dX8_knots_30 rfl (by decide) rfl ?_
        refine Go_iinc (pc := 31) (L' := [some (.inr 16), some (.inl (S + 0)), some (.inl (i + 1))]) dX8_knots_31 rfl (by decide) rfl ?_
        refine Go_goto (pc := 34) (tgt := 4) dX8_knots_34 (by decide) ?_
        exact Go_LS (by first | rfl | rw [b2i_t (by omega)] | rw [b2i_f (by omega)]) rfl (ih (by omega))
      · refine Go_iconst (pc := 24) dX8_knots_24 ?_
        refine Go_goto (pc := 25) (tgt := 29) dX8_knots_25 (by decide) ?_
        refine Go_iadd (pc := 29) dX8_knots_29 ?_
        refine Go_istore_n (pc := 30) (L' := [some (.inr 16), some (.inl (S + 1)), some (.inl i)]) dX8_knots_30 rfl (by decide) rfl ?_
        refine Go_iinc (pc := 31) (L' := [some (.inr 16), some (.inl (S + 1)), some (.inl (i + 1))]) dX8_knots_31 rfl (by decide) rfl ?_
        refine Go_goto (pc := 34) (tgt := 4) dX8_knots_34 (by decide) ?_
        exact Go_LS (by first | rfl | rw [b2i_t (by omega)] | rw [b2i_f (by omega)]) rfl (ih (by omega))
  refine Go_iconst (pc := 0) dX8_knots_0 ?_
  refine Go_istore_n (pc := 1) (L' := [some (.inr 16), some (.inl 0), none]) dX8_knots_1 rfl (by decide) rfl ?_
  refine Go_iconst (pc := 2) dX8_knots_2 ?_
  refine Go_istore_n (pc := 3) (L' := [some (.inr 16), some (.inl 0), some (.inl 0)]) dX8_knots_3 rfl (by decide) rfl ?_
  exact K 0 (by omega) (by omega)
theorem s_X8_depths {d : Nat} (hd : 3 ≤ d) {M : gMem} (hW : Wf (M 17)) : Go d RX8 cX8_depths 3 (some .int) 0 [some (.inr 16), none, none] [] M (some (.inl (depthsF (M 17)))) M := by
  have hn := hW.n
  have K : ∀ i, 0 ≤ i → i ≤ M 17 0 → Go d RX8 cX8_depths 3 (some .int) 4 [some (.inr 16), some (.inl (sumZ (fun k => sc (M 17) k 3) i)), some (.inl i)] [] M (some (.inl (sumZ (fun k => sc (M 17) k 3) (M 17 0)))) M := by
    refine up_ind 0 (M 17 0) _ (fun i h0 h1 ih => ?_)
    have e : sumZ (fun k => sc (M 17) k 3) (i + 1) = sumZ (fun k => sc (M 17) k 3) i + sc (M 17) i 3 := sumZ_s _ h0
    rw [e] at ih
    generalize hS : sumZ (fun k => sc (M 17) k 3) i = S at ih ⊢
    refine Go_iload_n (pc := 4) dX8_depths_4 rfl rfl ?_
    refine Go_aload_n (pc := 5) dX8_depths_5 rfl (by decide) rfl ?_
    refine Go_getr (pc := 6) (r := 17) dX8_depths_6 fo_X8_7 (by decide) rfl rfl (by decide) ?_
    refine Go_iconst (pc := 9) dX8_depths_9 ?_
    refine Go_iaload (pc := 10) (z := M 17 0) dX8_depths_10 (by decide) rfl (by decide) (by decide) (rfl) ?_
    refine Go_icmp_ge (pc := 11) (tgt := 29) dX8_depths_11 (by decide) (by omega) (by omega) (fun c11 => ?_) (fun c11 => ?_)
    · refine Go_iload_n (pc := 29) dX8_depths_29 rfl rfl ?_
      exact Go_ireturn (pc := 30) dX8_depths_30 rfl (by rw [← hS, show i = M 17 0 by omega]) rfl
    · refine Go_iload_n (pc := 14) dX8_depths_14 rfl rfl ?_
      refine Go_aload_n (pc := 15) dX8_depths_15 rfl (by decide) rfl ?_
      refine Go_iload_n (pc := 16) dX8_depths_16 rfl rfl ?_
      refine Go_iconst (pc := 17) dX8_depths_17 ?_
      refine Go_invV (pc := 18) (y := yX8_sh) (avs := [.inl i, .inl 3]) (k := 16) (rest := [.inl S]) (x := .inl (sc (M 17) i 3))  (d' := d - 1) dX8_depths_18 ln_X8_59 mo_X8_sh vo_X8_sh rfl (rc_16) rfl rfl (Nat.le_of_ble_eq_true rfl) (by omega) (Nat.le_of_ble_eq_true rfl) rfl (s_X8_sh (by omega) (by omega) (by omega) (by decide) (by decide)) ?_
      refine Go_iadd (pc := 21) dX8_depths_21 ?_
      refine Go_istore_n (pc := 22) (L' := [some (.inr 16), some (.inl (S + (sc (M 17) i 3))), some (.inl i)]) dX8_depths_22 rfl (by decide) rfl ?_
      refine Go_iinc (pc := 23) (L' := [some (.inr 16), some (.inl (S + (sc (M 17) i 3))), some (.inl (i + 1))]) dX8_depths_23 rfl (by decide) rfl ?_
      refine Go_goto (pc := 26) (tgt := 4) dX8_depths_26 (by decide) ?_
      exact Go_LS (by first | rfl | rw [b2i_t (by omega)] | rw [b2i_f (by omega)]) rfl (ih (by omega))
  refine Go_iconst (pc := 0) dX8_depths_0 ?_
  refine Go_istore_n (pc := 1) (L' := [some (.inr 16), some (.inl 0), none]) dX8_depths_1 rfl (by decide) rfl ?_
  refine Go_iconst (pc := 2) dX8_depths_2 ?_
  refine Go_istore_n (pc := 3) (L' := [some (.inr 16), some (.inl 0), some (.inl 0)]) dX8_depths_3 rfl (by decide) rfl ?_
  exact K 0 (by omega) (by omega)
theorem s_X8_allTold {d : Nat} (hd : 3 ≤ d) {M : gMem} (hW : Wf (M 17)) : Go d RX8 cX8_allTold 3 (some .int) 0 [some (.inr 16), none, none] [] M (some (.inl (toldF (M 17)))) M := by
  have hn := hW.n
  have K : ∀ i, 0 ≤ i → i ≤ M 17 0 → Go d RX8 cX8_allTold 3 (some .int) 4 [some (.inr 16), some (.inl (sumZ (fun k => b2i (0 ≤ sc (M 17) k 6)) i)), some (.inl i)] [] M (some (.inl (sumZ (fun k => b2i (0 ≤ sc (M 17) k 6)) (M 17 0)))) M := by
    refine up_ind 0 (M 17 0) _ (fun i h0 h1 ih => ?_)
    have e : sumZ (fun k => b2i (0 ≤ sc (M 17) k 6)) (i + 1) = sumZ (fun k => b2i (0 ≤ sc (M 17) k 6)) i + b2i (0 ≤ sc (M 17) i 6) := sumZ_s _ h0
    rw [e] at ih
    generalize hS : sumZ (fun k => b2i (0 ≤ sc (M 17) k 6)) i = S at ih ⊢
    refine Go_iload_n (pc := 4) dX8_allTold_4 rfl rfl ?_
    refine Go_aload_n (pc := 5) dX8_allTold_5 rfl (by decide) rfl ?_
    refine Go_getr (pc := 6) (r := 17) dX8_allTold_6 fo_X8_7 (by decide) rfl rfl (by decide) ?_
    refine Go_iconst (pc := 9) dX8_allTold_9 ?_
    refine Go_iaload (pc := 10) (z := M 17 0) dX8_allTold_10 (by decide) rfl (by decide) (by decide) (rfl) ?_
    refine Go_icmp_ge (pc := 11) (tgt := 36) dX8_allTold_11 (by decide) (by omega) (by omega) (fun c11 => ?_) (fun c11 => ?_)
    · refine Go_iload_n (pc := 36) dX8_allTold_36 rfl rfl ?_
      exact Go_ireturn (pc := 37) dX8_allTold_37 rfl (by rw [← hS, show i = M 17 0 by omega]) rfl
    · refine Go_iload_n (pc := 14) dX8_allTold_14 rfl rfl ?_
      refine Go_aload_n (pc := 15) dX8_allTold_15 rfl (by decide) rfl ?_
      refine Go_iload_n (pc := 16) dX8_allTold_16 rfl rfl ?_
      refine Go_invV (pc := 17) (y := yX8_isTold) (avs := [.inl i]) (k := 16) (rest := [.inl S]) (x := .inl (b2i (0 ≤ sc (M 17) i 6)))  (d' := d - 1) dX8_allTold_17 ln_X8_100 mo_X8_isTold vo_X8_isTold rfl (rc_16) rfl rfl (Nat.le_of_ble_eq_true rfl) (by omega) (Nat.le_of_ble_eq_true rfl) rfl (s_X8_isTold (by omega) hW (by omega) (by omega)) ?_
      refine Go_ifeqB (pc := 20) (tgt := 27) dX8_allTold_20 (by decide) (fun c20 => ?_) (fun c20 => ?_)
      · refine Go_iconst (pc := 27) dX8_allTold_27 ?_
        refine Go_iadd (pc := 28) dX8_allTold_28 ?_
        refine Go_istore_n (pc := 29) (L' := [some (.inr 16), some (.inl (S + 0)), some (.inl i)]) dX8_allTold_29 rfl (by decide) rfl ?_
        refine Go_iinc (pc := 30) (L' := [some (.inr 16), some (.inl (S + 0)), some (.inl (i + 1))]) dX8_allTold_30 rfl (by decide) rfl ?_
        refine Go_goto (pc := 33) (tgt := 4) dX8_allTold_33 (by decide) ?_
        exact Go_LS (by first | rfl | rw [b2i_t (by omega)] | rw [b2i_f (by omega)]) rfl (ih (by omega))
      · refine Go_iconst (pc := 23) dX8_allTold_23 ?_
        refine Go_goto (pc := 24) (tgt := 28) dX8_allTold_24 (by decide) ?_
        refine Go_iadd (pc := 28) dX8_allTold_28 ?_
        refine Go_istore_n (pc := 29) (L' := [some (.inr 16), some (.inl (S + 1)), some (.inl i)]) dX8_allTold_29 rfl (by decide) rfl ?_
        refine Go_iinc (pc := 30) (L' := [some (.inr 16), some (.inl (S + 1)), some (.inl (i + 1))]) dX8_allTold_30 rfl (by decide) rfl ?_
        refine Go_goto (pc := 33) (tgt := 4) dX8_allTold_33 (by decide) ?_
        exact Go_LS (by first | rfl | rw [b2i_t (by omega)] | rw [b2i_f (by omega)]) rfl (ih (by omega))
  refine Go_iconst (pc := 0) dX8_allTold_0 ?_
  refine Go_istore_n (pc := 1) (L' := [some (.inr 16), some (.inl 0), none]) dX8_allTold_1 rfl (by decide) rfl ?_
  refine Go_iconst (pc := 2) dX8_allTold_2 ?_
  refine Go_istore_n (pc := 3) (L' := [some (.inr 16), some (.inl 0), some (.inl 0)]) dX8_allTold_3 rfl (by decide) rfl ?_
  exact K 0 (by omega) (by omega)
theorem s_X8_standing {d : Nat} (hd : 3 ≤ d) {M : gMem} (hW : Wf (M 17)) : Go d RX8 cX8_standing 3 (some .int) 0 [some (.inr 16), none, none] [] M (some (.inl (standF (M 17)))) M := by
  have hn := hW.n
  have K : ∀ i, 0 ≤ i → i ≤ M 17 0 → Go d RX8 cX8_standing 3 (some .int) 4 [some (.inr 16), some (.inl (sumZ (fun k => b2i (sc (M 17) k 0 = sc (M 17) k 6)) i)), some (.inl i)] [] M (some (.inl (sumZ (fun k => b2i (sc (M 17) k 0 = sc (M 17) k 6)) (M 17 0)))) M := by
    refine up_ind 0 (M 17 0) _ (fun i h0 h1 ih => ?_)
    have e : sumZ (fun k => b2i (sc (M 17) k 0 = sc (M 17) k 6)) (i + 1) = sumZ (fun k => b2i (sc (M 17) k 0 = sc (M 17) k 6)) i + b2i (sc (M 17) i 0 = sc (M 17) i 6) := sumZ_s _ h0
    rw [e] at ih
    generalize hS : sumZ (fun k => b2i (sc (M 17) k 0 = sc (M 17) k 6)) i = S at ih ⊢
    refine Go_iload_n (pc := 4) dX8_standing_4 rfl rfl ?_
    refine Go_aload_n (pc := 5) dX8_standing_5 rfl (by decide) rfl ?_
    refine Go_getr (pc := 6) (r := 17) dX8_standing_6 fo_X8_7 (by decide) rfl rfl (by decide) ?_
    refine Go_iconst (pc := 9) dX8_standing_9 ?_
    refine Go_iaload (pc := 10) (z := M 17 0) dX8_standing_10 (by decide) rfl (by decide) (by decide) (rfl) ?_
    refine Go_icmp_ge (pc := 11) (tgt := 36) dX8_standing_11 (by decide) (by omega) (by omega) (fun c11 => ?_) (fun c11 => ?_)
    · refine Go_iload_n (pc := 36) dX8_standing_36 rfl rfl ?_
      exact Go_ireturn (pc := 37) dX8_standing_37 rfl (by rw [← hS, show i = M 17 0 by omega]) rfl
    · refine Go_iload_n (pc := 14) dX8_standing_14 rfl rfl ?_
      refine Go_aload_n (pc := 15) dX8_standing_15 rfl (by decide) rfl ?_
      refine Go_iload_n (pc := 16) dX8_standing_16 rfl rfl ?_
      refine Go_invV (pc := 17) (y := yX8_stands) (avs := [.inl i]) (k := 16) (rest := [.inl S]) (x := .inl (b2i (sc (M 17) i 0 = sc (M 17) i 6)))  (d' := d - 1) dX8_standing_17 ln_X8_87 mo_X8_stands vo_X8_stands rfl (rc_16) rfl rfl (Nat.le_of_ble_eq_true rfl) (by omega) (Nat.le_of_ble_eq_true rfl) rfl (s_X8_stands (by omega) hW (by omega) (by omega)) ?_
      refine Go_ifeqB (pc := 20) (tgt := 27) dX8_standing_20 (by decide) (fun c20 => ?_) (fun c20 => ?_)
      · refine Go_iconst (pc := 27) dX8_standing_27 ?_
        refine Go_iadd (pc := 28) dX8_standing_28 ?_
        refine Go_istore_n (pc := 29) (L' := [some (.inr 16), some (.inl (S + 0)), some (.inl i)]) dX8_standing_29 rfl (by decide) rfl ?_
        refine Go_iinc (pc := 30) (L' := [some (.inr 16), some (.inl (S + 0)), some (.inl (i + 1))]) dX8_standing_30 rfl (by decide) rfl ?_
        refine Go_goto (pc := 33) (tgt := 4) dX8_standing_33 (by decide) ?_
        exact Go_LS (by first | rfl | rw [b2i_t (by omega)] | rw [b2i_f (by omega)]) rfl (ih (by omega))
      · refine Go_iconst (pc := 23) dX8_standing_23 ?_
        refine Go_goto (pc := 24) (tgt := 28) dX8_standing_24 (by decide) ?_
        refine Go_iadd (pc := 28) dX8_standing_28 ?_
        refine Go_istore_n (pc := 29) (L' := [some (.inr 16), some (.inl (S + 1)), some (.inl i)]) dX8_standing_29 rfl (by decide) rfl ?_
        refine Go_iinc (pc := 30) (L' := [some (.inr 16), some (.inl (S + 1)), some (.inl (i + 1))]) dX8_standing_30 rfl (by decide) rfl ?_
        refine Go_goto (pc := 33) (tgt := 4) dX8_standing_33 (by decide) ?_
        exact Go_LS (by first | rfl | rw [b2i_t (by omega)] | rw [b2i_f (by omega)]) rfl (ih (by omega))
  refine Go_iconst (pc := 0) dX8_standing_0 ?_
  refine Go_istore_n (pc := 1) (L' := [some (.inr 16), some (.inl 0), none]) dX8_standing_1 rfl (by decide) rfl ?_
  refine Go_iconst (pc := 2) dX8_standing_2 ?_
  refine Go_istore_n (pc := 3) (L' := [some (.inr 16), some (.inl 0), some (.inl 0)]) dX8_standing_3 rfl (by decide) rfl ?_
  exact K 0 (by omega) (by omega)
theorem s_X8_tangled {d : Nat} (hd : 3 ≤ d) {M : gMem} (hW : Wf (M 17)) : Go d RX8 cX8_tangled 3 (some .int) 0 [some (.inr 16), none, none] [] M (some (.inl (astrayF (M 17)))) M := by
  have hn := hW.n
  have K : ∀ i, 0 ≤ i → i ≤ M 17 0 → Go d RX8 cX8_tangled 3 (some .int) 4 [some (.inr 16), some (.inl (sumZ (fun k => b2i (0 ≤ sc (M 17) k 6 ∧ ¬ sc (M 17) k 0 = sc (M 17) k 6 ∧ (0 < sc (M 17) (k - 1) 3 ∨ 0 < sc (M 17) k 3))) i)), some (.inl i)] [] M (some (.inl (sumZ (fun k => b2i (0 ≤ sc (M 17) k 6 ∧ ¬ sc (M 17) k 0 = sc (M 17) k 6 ∧ (0 < sc (M 17) (k - 1) 3 ∨ 0 < sc (M 17) k 3))) (M 17 0)))) M := by
    refine up_ind 0 (M 17 0) _ (fun i h0 h1 ih => ?_)
    have e : sumZ (fun k => b2i (0 ≤ sc (M 17) k 6 ∧ ¬ sc (M 17) k 0 = sc (M 17) k 6 ∧ (0 < sc (M 17) (k - 1) 3 ∨ 0 < sc (M 17) k 3))) (i + 1) = sumZ (fun k => b2i (0 ≤ sc (M 17) k 6 ∧ ¬ sc (M 17) k 0 = sc (M 17) k 6 ∧ (0 < sc (M 17) (k - 1) 3 ∨ 0 < sc (M 17) k 3))) i + b2i (0 ≤ sc (M 17) i 6 ∧ ¬ sc (M 17) i 0 = sc (M 17) i 6 ∧ (0 < sc (M 17) (i - 1) 3 ∨ 0 < sc (M 17) i 3)) := sumZ_s _ h0
    rw [e] at ih
    generalize hS : sumZ (fun k => b2i (0 ≤ sc (M 17) k 6 ∧ ¬ sc (M 17) k 0 = sc (M 17) k 6 ∧ (0 < sc (M 17) (k - 1) 3 ∨ 0 < sc (M 17) k 3))) i = S at ih ⊢
    refine Go_iload_n (pc := 4) dX8_tangled_4 rfl rfl ?_
    refine Go_aload_n (pc := 5) dX8_tangled_5 rfl (by decide) rfl ?_
    refine Go_getr (pc := 6) (r := 17) dX8_tangled_6 fo_X8_7 (by decide) rfl rfl (by decide) ?_
    refine Go_iconst (pc := 9) dX8_tangled_9 ?_
    refine Go_iaload (pc := 10) (z := M 17 0) dX8_tangled_10 (by decide) rfl (by decide) (by decide) (rfl) ?_
    refine Go_icmp_ge (pc := 11) (tgt := 52) dX8_tangled_11 (by decide) (by omega) (by omega) (fun c11 => ?_) (fun c11 => ?_)
    · refine Go_iload_n (pc := 52) dX8_tangled_52 rfl rfl ?_
      exact Go_ireturn (pc := 53) dX8_tangled_53 rfl (by rw [← hS, show i = M 17 0 by omega]) rfl
    · refine Go_iload_n (pc := 14) dX8_tangled_14 rfl rfl ?_
      refine Go_aload_n (pc := 15) dX8_tangled_15 rfl (by decide) rfl ?_
      refine Go_iload_n (pc := 16) dX8_tangled_16 rfl rfl ?_
      refine Go_invV (pc := 17) (y := yX8_isTold) (avs := [.inl i]) (k := 16) (rest := [.inl S]) (x := .inl (b2i (0 ≤ sc (M 17) i 6)))  (d' := d - 1) dX8_tangled_17 ln_X8_100 mo_X8_isTold vo_X8_isTold rfl (rc_16) rfl rfl (Nat.le_of_ble_eq_true rfl) (by omega) (Nat.le_of_ble_eq_true rfl) rfl (s_X8_isTold (by omega) hW (by omega) (by omega)) ?_
      refine Go_ifeqB (pc := 20) (tgt := 43) dX8_tangled_20 (by decide) (fun c20 => ?_) (fun c20 => ?_)
      · refine Go_iconst (pc := 43) dX8_tangled_43 ?_
        refine Go_iadd (pc := 44) dX8_tangled_44 ?_
        refine Go_istore_n (pc := 45) (L' := [some (.inr 16), some (.inl (S + 0)), some (.inl i)]) dX8_tangled_45 rfl (by decide) rfl ?_
        refine Go_iinc (pc := 46) (L' := [some (.inr 16), some (.inl (S + 0)), some (.inl (i + 1))]) dX8_tangled_46 rfl (by decide) rfl ?_
        refine Go_goto (pc := 49) (tgt := 4) dX8_tangled_49 (by decide) ?_
        exact Go_LS (by first | rfl | rw [b2i_t (by omega)] | rw [b2i_f (by omega)]) rfl (ih (by omega))
      · refine Go_aload_n (pc := 23) dX8_tangled_23 rfl (by decide) rfl ?_
        refine Go_iload_n (pc := 24) dX8_tangled_24 rfl rfl ?_
        refine Go_invV (pc := 25) (y := yX8_stands) (avs := [.inl i]) (k := 16) (rest := [.inl S]) (x := .inl (b2i (sc (M 17) i 0 = sc (M 17) i 6)))  (d' := d - 1) dX8_tangled_25 ln_X8_87 mo_X8_stands vo_X8_stands rfl (rc_16) rfl rfl (Nat.le_of_ble_eq_true rfl) (by omega) (Nat.le_of_ble_eq_true rfl) rfl (s_X8_stands (by omega) hW (by omega) (by omega)) ?_
        refine Go_ifneB (pc := 28) (tgt := 43) dX8_tangled_28 (by decide) (fun c28 => ?_) (fun c28 => ?_)
        · refine Go_iconst (pc := 43) dX8_tangled_43 ?_
          refine Go_iadd (pc := 44) dX8_tangled_44 ?_
          refine Go_istore_n (pc := 45) (L' := [some (.inr 16), some (.inl (S + 0)), some (.inl i)]) dX8_tangled_45 rfl (by decide) rfl ?_
          refine Go_iinc (pc := 46) (L' := [some (.inr 16), some (.inl (S + 0)), some (.inl (i + 1))]) dX8_tangled_46 rfl (by decide) rfl ?_
          refine Go_goto (pc := 49) (tgt := 4) dX8_tangled_49 (by decide) ?_
          exact Go_LS (by first | rfl | rw [b2i_t (by omega)] | rw [b2i_f (by omega)]) rfl (ih (by omega))
        · refine Go_aload_n (pc := 31) dX8_tangled_31 rfl (by decide) rfl ?_
          refine Go_iload_n (pc := 32) dX8_tangled_32 rfl rfl ?_
          refine Go_invV (pc := 33) (y := yX8_isTangled) (avs := [.inl i]) (k := 16) (rest := [.inl S]) (x := .inl (b2i (0 < sc (M 17) (i - 1) 3 ∨ 0 < sc (M 17) i 3)))  (d' := d - 1) dX8_tangled_33 ln_X8_124 mo_X8_isTangled vo_X8_isTangled rfl (rc_16) rfl rfl (Nat.le_of_ble_eq_true rfl) (by omega) (Nat.le_of_ble_eq_true rfl) rfl (s_X8_isTangled (by omega) hW (by omega) (by omega)) ?_
          refine Go_ifeqB (pc := 36) (tgt := 43) dX8_tangled_36 (by decide) (fun c36 => ?_) (fun c36 => ?_)
          · refine Go_iconst (pc := 43) dX8_tangled_43 ?_
            refine Go_iadd (pc := 44) dX8_tangled_44 ?_
            refine Go_istore_n (pc := 45) (L' := [some (.inr 16), some (.inl (S + 0)), some (.inl i)]) dX8_tangled_45 rfl (by decide) rfl ?_
            refine Go_iinc (pc := 46) (L' := [some (.inr 16), some (.inl (S + 0)), some (.inl (i + 1))]) dX8_tangled_46 rfl (by decide) rfl ?_
            refine Go_goto (pc := 49) (tgt := 4) dX8_tangled_49 (by decide) ?_
            exact Go_LS (by first | rfl | rw [b2i_t (by omega)] | rw [b2i_f (by omega)]) rfl (ih (by omega))
          · refine Go_iconst (pc := 39) dX8_tangled_39 ?_
            refine Go_goto (pc := 40) (tgt := 44) dX8_tangled_40 (by decide) ?_
            refine Go_iadd (pc := 44) dX8_tangled_44 ?_
            refine Go_istore_n (pc := 45) (L' := [some (.inr 16), some (.inl (S + 1)), some (.inl i)]) dX8_tangled_45 rfl (by decide) rfl ?_
            refine Go_iinc (pc := 46) (L' := [some (.inr 16), some (.inl (S + 1)), some (.inl (i + 1))]) dX8_tangled_46 rfl (by decide) rfl ?_
            refine Go_goto (pc := 49) (tgt := 4) dX8_tangled_49 (by decide) ?_
            exact Go_LS (by first | rfl | rw [b2i_t (by omega)] | rw [b2i_f (by omega)]) rfl (ih (by omega))
  refine Go_iconst (pc := 0) dX8_tangled_0 ?_
  refine Go_istore_n (pc := 1) (L' := [some (.inr 16), some (.inl 0), none]) dX8_tangled_1 rfl (by decide) rfl ?_
  refine Go_iconst (pc := 2) dX8_tangled_2 ?_
  refine Go_istore_n (pc := 3) (L' := [some (.inr 16), some (.inl 0), some (.inl 0)]) dX8_tangled_3 rfl (by decide) rfl ?_
  exact K 0 (by omega) (by omega)
/-- the light behind a shade; whether its plants are well -/
def lightF (a h z : Int) : Int := max 0 (12 - 3 * min (((a - h).natAbs : Nat) : Int) (24 - (((a - h).natAbs : Nat) : Int))) * (9 - z) / 3
abbrev wellP (f : Int → Int) (k l : Int) : Prop := - f 6 ≤ l - sc f k 2 ∧ l - sc f k 2 ≤ f 6
theorem mul_b {s t : Int} (h0 : 0 ≤ s) (h1 : s ≤ 12) (h2 : 0 ≤ t) (h3 : t ≤ 9) : 0 ≤ s * t ∧ s * t ≤ 108 := by
  have a := Int.mul_nonneg h0 h2
  have b := Int.mul_le_mul h1 h3 h2 (by decide)
  exact ⟨a, by omega⟩
theorem lightF_b {a h z : Int} (ha : 0 ≤ a ∧ a ≤ 23) (hh : 0 ≤ h ∧ h ≤ 23) (hz : 0 ≤ z ∧ z ≤ 9) : 0 ≤ lightF a h z ∧ lightF a h z ≤ 36 := by
  unfold lightF
  have := mul_b (s := max 0 (12 - 3 * min (((a - h).natAbs : Nat) : Int) (24 - (((a - h).natAbs : Nat) : Int)))) (t := 9 - z) (by omega) (by omega) (by omega) (by omega)
  omega
theorem s_X8_light {d : Nat} (hd : 1 ≤ d) {a h z : Int} {M : gMem} (hW : Wf (M 17)) (a0 : 0 ≤ a) (a1 : a < M 17 0) (hh : 0 ≤ h ∧ h ≤ 23) (hz : 0 ≤ z ∧ z ≤ 9) : Go d RX8 cX8_light 6 (some .int) 0 [some (.inr 16), some (.inl a), some (.inl h), some (.inl z), none, none] [] M (some (.inl (lightF (sc (M 17) a 1) h z))) M := by
  have hn := hW.n
  have hA := hW.ah a
  have hb := mul_b (s := max 0 (12 - 3 * min (((sc (M 17) a 1 - h).natAbs : Nat) : Int) (24 - (((sc (M 17) a 1 - h).natAbs : Nat) : Int)))) (t := 9 - z) (by omega) (by omega) (by omega) (by omega)
  have Kd : ∀ ap : Int, Go d RX8 cX8_light 6 (some .int) 61 [some (.inr 16), some (.inl a), some (.inl h), some (.inl z), some (.inl ap), none] [.inl (max 0 (12 - 3 * min (((sc (M 17) a 1 - h).natAbs : Nat) : Int) (24 - (((sc (M 17) a 1 - h).natAbs : Nat) : Int))))] M (some (.inl (lightF (sc (M 17) a 1) h z))) M := by
    intro ap
    refine Go_istore (pc := 61) (L' := [some (.inr 16), some (.inl a), some (.inl h), some (.inl z), some (.inl ap), some (.inl (max 0 (12 - 3 * min (((sc (M 17) a 1 - h).natAbs : Nat) : Int) (24 - (((sc (M 17) a 1 - h).natAbs : Nat) : Int)))))]) dX8_light_61 (by decide) rfl ?_
    refine Go_iload (pc := 63) dX8_light_63 rfl ?_
    refine Go_bipush (pc := 65) dX8_light_65 (by decide) (by decide) ?_
    refine Go_iload_n (pc := 67) dX8_light_67 rfl rfl ?_
    refine Go_isub (pc := 68) dX8_light_68 ?_
    refine Go_imul (pc := 69) dX8_light_69 ?_
    refine Go_iconst (pc := 70) dX8_light_70 ?_
    refine Go_idiv (pc := 71) dX8_light_71 (by omega) (by omega) (by omega) (by omega) ?_
    exact Go_ireturn (pc := 72) dX8_light_72 rfl (by first | rfl | (simp_all; done)) rfl
  refine Go_aload_n (pc := 0) dX8_light_0 rfl (by decide) rfl ?_
  refine Go_iload_n (pc := 1) dX8_light_1 rfl rfl ?_
  refine Go_iconst (pc := 2) dX8_light_2 ?_
  refine Go_invV (pc := 3) (y := yX8_sh) (avs := [.inl a, .inl 1]) (k := 16) (rest := []) (x := .inl (sc (M 17) a 1))  (d' := d - 1) dX8_light_3 ln_X8_59 mo_X8_sh vo_X8_sh rfl (rc_16) rfl rfl (Nat.le_of_ble_eq_true rfl) (by omega) (Nat.le_of_ble_eq_true rfl) rfl (s_X8_sh (by omega) (by omega) (by omega) (by decide) (by decide)) ?_
  refine Go_iload_n (pc := 6) dX8_light_6 rfl rfl ?_
  refine Go_isub (pc := 7) dX8_light_7 ?_
  refine Go_istore (pc := 8) (L' := [some (.inr 16), some (.inl a), some (.inl h), some (.inl z), some (.inl ((sc (M 17) a 1) - h)), none]) dX8_light_8 (by decide) rfl ?_
  refine Go_iload (pc := 10) dX8_light_10 rfl ?_
  refine Go_if_ge (pc := 12) (tgt := 21) dX8_light_12 (by decide) (by omega) (fun c12 => ?_) (fun c12 => ?_)
  · refine Go_iload (pc := 21) dX8_light_21 rfl ?_
    refine Go_istore (pc := 23) (L' := [some (.inr 16), some (.inl a), some (.inl h), some (.inl z), some (.inl ((sc (M 17) a 1) - h)), none]) dX8_light_23 (by decide) rfl ?_
    refine Go_iload (pc := 25) dX8_light_25 rfl ?_
    refine Go_bipush (pc := 27) dX8_light_27 (by decide) (by decide) ?_
    refine Go_icmp_le (pc := 29) (tgt := 40) dX8_light_29 (by decide) (by omega) (by decide) (fun c29 => ?_) (fun c29 => ?_)
    · refine Go_iload (pc := 40) dX8_light_40 rfl ?_
      refine Go_istore (pc := 42) (L' := [some (.inr 16), some (.inl a), some (.inl h), some (.inl z), some (.inl ((sc (M 17) a 1) - h)), none]) dX8_light_42 (by decide) rfl ?_
      refine Go_iload (pc := 44) dX8_light_44 rfl ?_
      refine Go_iconst (pc := 46) dX8_light_46 ?_
      refine Go_icmp_le (pc := 47) (tgt := 54) dX8_light_47 (by decide) (by omega) (by decide) (fun c47 => ?_) (fun c47 => ?_)
      · refine Go_bipush (pc := 54) dX8_light_54 (by decide) (by decide) ?_
        refine Go_iconst (pc := 56) dX8_light_56 ?_
        refine Go_iload (pc := 57) dX8_light_57 rfl ?_
        refine Go_imul (pc := 59) dX8_light_59 ?_
        refine Go_isub (pc := 60) dX8_light_60 ?_
        exact Go_LS rfl (List.cons_eq_cons.mpr ⟨congrArg Sum.inl (by omega), rfl⟩) (Kd _)
      · refine Go_iconst (pc := 50) dX8_light_50 ?_
        refine Go_goto (pc := 51) (tgt := 61) dX8_light_51 (by decide) ?_
        exact Go_LS rfl (List.cons_eq_cons.mpr ⟨congrArg Sum.inl (by omega), rfl⟩) (Kd _)
    · refine Go_bipush (pc := 32) dX8_light_32 (by decide) (by decide) ?_
      refine Go_iload (pc := 34) dX8_light_34 rfl ?_
      refine Go_isub (pc := 36) dX8_light_36 ?_
      refine Go_goto (pc := 37) (tgt := 42) dX8_light_37 (by decide) ?_
      refine Go_istore (pc := 42) (L' := [some (.inr 16), some (.inl a), some (.inl h), some (.inl z), some (.inl (24 - ((sc (M 17) a 1) - h))), none]) dX8_light_42 (by decide) rfl ?_
      refine Go_iload (pc := 44) dX8_light_44 rfl ?_
      refine Go_iconst (pc := 46) dX8_light_46 ?_
      refine Go_icmp_le (pc := 47) (tgt := 54) dX8_light_47 (by decide) (by omega) (by decide) (fun c47a => ?_) (fun c47a => ?_)
      · refine Go_bipush (pc := 54) dX8_light_54 (by decide) (by decide) ?_
        refine Go_iconst (pc := 56) dX8_light_56 ?_
        refine Go_iload (pc := 57) dX8_light_57 rfl ?_
        refine Go_imul (pc := 59) dX8_light_59 ?_
        refine Go_isub (pc := 60) dX8_light_60 ?_
        exact Go_LS rfl (List.cons_eq_cons.mpr ⟨congrArg Sum.inl (by omega), rfl⟩) (Kd _)
      · refine Go_iconst (pc := 50) dX8_light_50 ?_
        refine Go_goto (pc := 51) (tgt := 61) dX8_light_51 (by decide) ?_
        exact Go_LS rfl (List.cons_eq_cons.mpr ⟨congrArg Sum.inl (by omega), rfl⟩) (Kd _)
  · refine Go_iload (pc := 15) dX8_light_15 rfl ?_
    refine Go_ineg (pc := 17) dX8_light_17 ?_
    refine Go_goto (pc := 18) (tgt := 23) dX8_light_18 (by decide) ?_
    refine Go_istore (pc := 23) (L' := [some (.inr 16), some (.inl a), some (.inl h), some (.inl z), some (.inl (-((sc (M 17) a 1) - h))), none]) dX8_light_23 (by decide) rfl ?_
    refine Go_iload (pc := 25) dX8_light_25 rfl ?_
    refine Go_bipush (pc := 27) dX8_light_27 (by decide) (by decide) ?_
    refine Go_icmp_le (pc := 29) (tgt := 40) dX8_light_29 (by decide) (by omega) (by decide) (fun c29a => ?_) (fun c29a => ?_)
    · refine Go_iload (pc := 40) dX8_light_40 rfl ?_
      refine Go_istore (pc := 42) (L' := [some (.inr 16), some (.inl a), some (.inl h), some (.inl z), some (.inl (-((sc (M 17) a 1) - h))), none]) dX8_light_42 (by decide) rfl ?_
      refine Go_iload (pc := 44) dX8_light_44 rfl ?_
      refine Go_iconst (pc := 46) dX8_light_46 ?_
      refine Go_icmp_le (pc := 47) (tgt := 54) dX8_light_47 (by decide) (by omega) (by decide) (fun c47b => ?_) (fun c47b => ?_)
      · refine Go_bipush (pc := 54) dX8_light_54 (by decide) (by decide) ?_
        refine Go_iconst (pc := 56) dX8_light_56 ?_
        refine Go_iload (pc := 57) dX8_light_57 rfl ?_
        refine Go_imul (pc := 59) dX8_light_59 ?_
        refine Go_isub (pc := 60) dX8_light_60 ?_
        exact Go_LS rfl (List.cons_eq_cons.mpr ⟨congrArg Sum.inl (by omega), rfl⟩) (Kd _)
      · refine Go_iconst (pc := 50) dX8_light_50 ?_
        refine Go_goto (pc := 51) (tgt := 61) dX8_light_51 (by decide) ?_
        exact Go_LS rfl (List.cons_eq_cons.mpr ⟨congrArg Sum.inl (by omega), rfl⟩) (Kd _)
    · refine Go_bipush (pc := 32) dX8_light_32 (by decide) (by decide) ?_
      refine Go_iload (pc := 34) dX8_light_34 rfl ?_
      refine Go_isub (pc := 36) dX8_light_36 ?_
      refine Go_goto (pc := 37) (tgt := 42) dX8_light_37 (by decide) ?_
      refine Go_istore (pc := 42) (L' := [some (.inr 16), some (.inl a), some (.inl h), some (.inl z), some (.inl (24 - (-((sc (M 17) a 1) - h)))), none]) dX8_light_42 (by decide) rfl ?_
      refine Go_iload (pc := 44) dX8_light_44 rfl ?_
      refine Go_iconst (pc := 46) dX8_light_46 ?_
      refine Go_icmp_le (pc := 47) (tgt := 54) dX8_light_47 (by decide) (by omega) (by decide) (fun c47c => ?_) (fun c47c => ?_)
      · refine Go_bipush (pc := 54) dX8_light_54 (by decide) (by decide) ?_
        refine Go_iconst (pc := 56) dX8_light_56 ?_
        refine Go_iload (pc := 57) dX8_light_57 rfl ?_
        refine Go_imul (pc := 59) dX8_light_59 ?_
        refine Go_isub (pc := 60) dX8_light_60 ?_
        exact Go_LS rfl (List.cons_eq_cons.mpr ⟨congrArg Sum.inl (by omega), rfl⟩) (Kd _)
      · refine Go_iconst (pc := 50) dX8_light_50 ?_
        refine Go_goto (pc := 51) (tgt := 61) dX8_light_51 (by decide) ?_
        exact Go_LS rfl (List.cons_eq_cons.mpr ⟨congrArg Sum.inl (by omega), rfl⟩) (Kd _)
theorem s_X8_isWell {d : Nat} (hd : 1 ≤ d) {a l : Int} {M : gMem} (hW : Wf (M 17)) (a0 : 0 ≤ a) (a1 : a < M 17 0) (hl : 0 ≤ l ∧ l ≤ 36) : Go d RX8 cX8_isWell 3 (some .boolean) 0 [some (.inr 16), some (.inl a), some (.inl l)] [] M (some (.inl (b2i (wellP (M 17) a l)))) M := by
  have hn := hW.n
  have hA := hW.wa a
  have hL := hW.lw
  refine Go_iload_n (pc := 0) dX8_isWell_0 rfl rfl ?_
  refine Go_aload_n (pc := 1) dX8_isWell_1 rfl (by decide) rfl ?_
  refine Go_iload_n (pc := 2) dX8_isWell_2 rfl rfl ?_
  refine Go_iconst (pc := 3) dX8_isWell_3 ?_
  refine Go_invV (pc := 4) (y := yX8_sh) (avs := [.inl a, .inl 2]) (k := 16) (rest := [.inl l]) (x := .inl (sc (M 17) a 2))  (d' := d - 1) dX8_isWell_4 ln_X8_59 mo_X8_sh vo_X8_sh rfl (rc_16) rfl rfl (Nat.le_of_ble_eq_true rfl) (by omega) (Nat.le_of_ble_eq_true rfl) rfl (s_X8_sh (by omega) (by omega) (by omega) (by decide) (by decide)) ?_
  refine Go_isub (pc := 7) dX8_isWell_7 ?_
  refine Go_aload_n (pc := 8) dX8_isWell_8 rfl (by decide) rfl ?_
  refine Go_getr (pc := 9) (r := 17) dX8_isWell_9 fo_X8_7 (by decide) rfl rfl (by decide) ?_
  refine Go_bipush (pc := 12) dX8_isWell_12 (by decide) (by decide) ?_
  refine Go_iaload (pc := 14) (z := M 17 6) dX8_isWell_14 (by decide) rfl (by decide) (by decide) (rfl) ?_
  refine Go_ineg (pc := 15) dX8_isWell_15 ?_
  refine Go_aload_n (pc := 16) dX8_isWell_16 rfl (by decide) rfl ?_
  refine Go_getr (pc := 17) (r := 17) dX8_isWell_17 fo_X8_7 (by decide) rfl rfl (by decide) ?_
  refine Go_bipush (pc := 20) dX8_isWell_20 (by decide) (by decide) ?_
  refine Go_iaload (pc := 22) (z := M 17 6) dX8_isWell_22 (by decide) rfl (by decide) (by decide) (rfl) ?_
  refine Go_invS (pc := 23) (y := yX8_in) (avs := [.inl (l - (sc (M 17) a 2)), .inl (-(M 17 6)), .inl (M 17 6)]) (rest := []) (x := .inl (b2i ((-(M 17 6)) ≤ (l - (sc (M 17) a 2)) ∧ (l - (sc (M 17) a 2)) ≤ (M 17 6))))  (d' := d - 1) dX8_isWell_23 ln_X8_38 mo_X8_in so_X8_in rfl rfl rfl (Nat.le_of_ble_eq_true rfl) (by omega) (Nat.le_of_ble_eq_true rfl) rfl (s_X8_in (by omega) (by omega) (by omega) (by omega)) ?_
  exact Go_zreturn (pc := 26) dX8_isWell_26 rfl (b2i_01 _) (by first | rfl | (simp_all; done)) rfl
