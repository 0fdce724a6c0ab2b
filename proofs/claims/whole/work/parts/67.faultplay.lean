/-! the class: fault, play -/
theorem s_X3_position {d : Nat} (hd : 0 ≤ d) {z : Int} {M : gMem} (hz : M 9 0 = z) : Go d RX3 cX3_position 1 (some .int) 0 [some (.inr 9)] [] M (some (.inl z)) M := by
  subst hz
  refine Go_aload_n (pc := 0) dX3_position_0 rfl (by decide) rfl ?_
  refine Go_geti (pc := 1) (z := M 9 0) dX3_position_1 fo_X3_9 (by decide) rfl rfl (rfl) ?_
  exact Go_ireturn (pc := 4) dX3_position_4 rfl (by first | rfl | (simp_all; done)) rfl
theorem s_X3_reason {d : Nat} (hd : 0 ≤ d) {z : Int} {M : gMem} (hz : M 9 1 = z) : Go d RX3 cX3_reason 1 (some .int) 0 [some (.inr 9)] [] M (some (.inl z)) M := by
  subst hz
  refine Go_aload_n (pc := 0) dX3_reason_0 rfl (by decide) rfl ?_
  refine Go_geti (pc := 1) (z := M 9 1) dX3_reason_1 fo_X3_15 (by decide) rfl rfl (rfl) ?_
  exact Go_ireturn (pc := 4) dX3_reason_4 rfl (by first | rfl | (simp_all; done)) rfl
theorem s_X3_cause {d : Nat} (hd : 0 ≤ d) {z : Int} {M : gMem} (hz : M 9 2 = z) : Go d RX3 cX3_cause 1 (some .int) 0 [some (.inr 9)] [] M (some (.inl z)) M := by
  subst hz
  refine Go_aload_n (pc := 0) dX3_cause_0 rfl (by decide) rfl ?_
  refine Go_geti (pc := 1) (z := M 9 2) dX3_cause_1 fo_X3_18 (by decide) rfl rfl (rfl) ?_
  exact Go_ireturn (pc := 4) dX3_cause_4 rfl (by first | rfl | (simp_all; done)) rfl
theorem s_X3_orders {d : Nat} (hd : 0 ≤ d) {z : Int} {M : gMem} (hz : M 9 3 = z) : Go d RX3 cX3_orders 1 (some .int) 0 [some (.inr 9)] [] M (some (.inl z)) M := by
  subst hz
  refine Go_aload_n (pc := 0) dX3_orders_0 rfl (by decide) rfl ?_
  refine Go_geti (pc := 1) (z := M 9 3) dX3_orders_1 fo_X3_21 (by decide) rfl rfl (rfl) ?_
  exact Go_ireturn (pc := 4) dX3_orders_4 rfl (by first | rfl | (simp_all; done)) rfl
abbrev FR : Type := Int × Int × Int × Int × (Int → Int)
def faF (R : FR) (e : Int) : Int := if e < 0 ∨ 2 < e then -1000001 else if R.1 = 0 then -1000004 else if e = 0 then R.2.1 else if e = 1 then R.1 else if R.1 = 1 then R.2.2.1 else -1000004
def plV (R : FR) : Int := if R.1 = 0 then R.2.2.2.1 else -1000002
theorem s_X7_fault {d : Nat} (hd : 10 ≤ d) {e : Int} {M : gMem} (hS : InvS M) (h : TxOk (M 8) (M 7 1)) (he : inR e) {R : FR} (hR : R = flN (M 8) (M 7 1) 60 0 (M 2) 0) : Go d RX7 cX7_fault 2 (some .int) 0 [some (.inr 0), some (.inl e)] [] M (some (.inl (faF R e))) (if e < 0 ∨ 2 < e then M else flM M (M 9) R) := by
  obtain ⟨w1, w2, w3, w4, w5⟩ := flN_W (f := M 8) (n := M 7 1) 60 0 (M 2) 0 hS.1 (Int.le_refl 0)
  rw [← hR] at w1 w2 w3 w4 w5
  have hF : ∀ d, 9 ≤ d → Go d RX3 cX3_follow 5 none 0 [some (.inr 9), some (.inr 7), some (.inr 3), none, none] [] (setR M 4 (M 2)) none (setR (setR (setR M 4 (M 2)) 4 R.2.2.2.2) 9 (updI (updI (updI (updI (M 9) 0 R.2.1) 1 R.1) 2 R.2.2.1) 3 R.2.2.2.1)) := fun d hd => by
    rw [hR]
    exact s_X3_follow hd hS.1 h
  have w6 := w5 (Int.le_refl 0)
  refine Go_iload_n (pc := 0) dX7_fault_0 rfl rfl ?_
  refine Go_if_lt (pc := 1) (tgt := 9) dX7_fault_1 (by decide) (by omega) (fun c1 => ?_) (fun c1 => ?_)
  · refine Go_ldc (pc := 9) (n := -1000001) rfl kc_X7_94 dX7_fault_9 ?_
    first | (exfalso; omega) | exact Go_ireturn (pc := 11) dX7_fault_11 rfl (by unfold faF; (repeat' split) <;> first | rfl | (exfalso; omega)) (by (repeat' split) <;> first | rfl | (exfalso; omega))
  · refine Go_iload_n (pc := 4) dX7_fault_4 rfl rfl ?_
    refine Go_iconst (pc := 5) dX7_fault_5 ?_
    refine Go_icmp_le (pc := 6) (tgt := 12) dX7_fault_6 (by decide) (by omega) (by decide) (fun c6 => ?_) (fun c6 => ?_)
    · refine Go_aload_n (pc := 12) dX7_fault_12 rfl (by decide) rfl ?_
      refine Go_getr (pc := 13) (r := 9) dX7_fault_13 fo_X7_36 (by decide) rfl rfl (by decide) ?_
      refine Go_aload_n (pc := 16) dX7_fault_16 rfl (by decide) rfl ?_
      refine Go_getr (pc := 17) (r := 7) dX7_fault_17 fo_X7_29 (by decide) rfl rfl (by decide) ?_
      refine Go_aload_n (pc := 20) dX7_fault_20 rfl (by decide) rfl ?_
      refine Go_invV (pc := 21) (y := yX7_freshTrial) (avs := []) (k := 0) (rest := [.inr 7, .inr 9]) (x := .inr 3) (M1 := setR M 4 (M 2)) (d' := d - 1) dX7_fault_21 ln_X7_47 mo_X7_freshTrial vo_X7_freshTrial rfl (rc_0) rfl rfl (Nat.le_of_ble_eq_true rfl) (by omega) (Nat.le_of_ble_eq_true rfl) rfl (s_X7_freshTrial (by omega) hS.1.o hS.2.1) ?_
      refine Go_invVv (pc := 24) (y := yX3_follow) (avs := [.inr 7, .inr 3]) (k := 9) (rest := [])   (d' := d - 1) dX7_fault_24 ln_X7_183 mo_X3_follow vo_X3_follow rfl (rc_9) rfl rfl (Nat.le_of_ble_eq_true rfl) (by omega) (Nat.le_of_ble_eq_true rfl) rfl (hF _ (by omega)) ?_
      refine Go_M (M1 := setR (setR M 4 R.2.2.2.2) 9 (updI (updI (updI (updI (M 9) 0 R.2.1) 1 R.1) 2 R.2.2.1) 3 R.2.2.2.1)) (by funext q; simp only [setR]; (repeat' split) <;> first | rfl | omega | simp_all) ?_
      refine Go_aload_n (pc := 27) dX7_fault_27 rfl (by decide) rfl ?_
      refine Go_getr (pc := 28) (r := 9) dX7_fault_28 fo_X7_36 (by decide) rfl rfl (by decide) ?_
      refine Go_invV (pc := 31) (y := yX3_reason) (avs := []) (k := 9) (rest := []) (x := .inl R.1)  (d' := d - 1) dX7_fault_31 ln_X7_187 mo_X3_reason vo_X3_reason rfl (rc_9) rfl rfl (Nat.le_of_ble_eq_true rfl) (by omega) (Nat.le_of_ble_eq_true rfl) rfl (s_X3_reason (by omega) (show (updI (updI (updI (updI (M 9) 0 R.2.1) 1 R.1) 2 R.2.2.1) 3 R.2.2.2.1) 1 = R.1 from (updI_n (by decide)).trans ((updI_n (by decide)).trans (updI_s _ _ _)))) ?_
      refine Go_if_ne (pc := 34) (tgt := 40) dX7_fault_34 (by decide) (by omega) (fun c34 => ?_) (fun c34 => ?_)
      · refine Go_iload_n (pc := 40) dX7_fault_40 rfl rfl ?_
        rcases (by omega : e = 0 ∨ e = 1 ∨ (¬ e = 0 ∧ ¬ e = 1)) with c41 | c41 | c41
        · refine Go_ls (pc := 41) (tgt := 68) (off := 27) dX7_fault_41 rfl (by omega) (by rw [c41]; rfl) (by decide) ?_
          refine Go_aload_n (pc := 68) dX7_fault_68 rfl (by decide) rfl ?_
          refine Go_getr (pc := 69) (r := 9) dX7_fault_69 fo_X7_36 (by decide) rfl rfl (by decide) ?_
          refine Go_invV (pc := 72) (y := yX3_position) (avs := []) (k := 9) (rest := []) (x := .inl R.2.1)  (d' := d - 1) dX7_fault_72 ln_X7_190 mo_X3_position vo_X3_position rfl (rc_9) rfl rfl (Nat.le_of_ble_eq_true rfl) (by omega) (Nat.le_of_ble_eq_true rfl) rfl (s_X3_position (by omega) (show (updI (updI (updI (updI (M 9) 0 R.2.1) 1 R.1) 2 R.2.2.1) 3 R.2.2.2.1) 0 = R.2.1 from (updI_n (by decide)).trans ((updI_n (by decide)).trans ((updI_n (by decide)).trans (updI_s _ _ _))))) ?_
          first | (exfalso; omega) | exact Go_ireturn (pc := 75) dX7_fault_75 rfl (by unfold faF; (repeat' split) <;> first | rfl | (exfalso; omega)) (by (repeat' split) <;> first | rfl | (exfalso; omega))
        · refine Go_ls (pc := 41) (tgt := 76) (off := 35) dX7_fault_41 rfl (by omega) (by rw [c41]; rfl) (by decide) ?_
          refine Go_aload_n (pc := 76) dX7_fault_76 rfl (by decide) rfl ?_
          refine Go_getr (pc := 77) (r := 9) dX7_fault_77 fo_X7_36 (by decide) rfl rfl (by decide) ?_
          refine Go_invV (pc := 80) (y := yX3_reason) (avs := []) (k := 9) (rest := []) (x := .inl R.1)  (d' := d - 1) dX7_fault_80 ln_X7_187 mo_X3_reason vo_X3_reason rfl (rc_9) rfl rfl (Nat.le_of_ble_eq_true rfl) (by omega) (Nat.le_of_ble_eq_true rfl) rfl (s_X3_reason (by omega) (show (updI (updI (updI (updI (M 9) 0 R.2.1) 1 R.1) 2 R.2.2.1) 3 R.2.2.2.1) 1 = R.1 from (updI_n (by decide)).trans ((updI_n (by decide)).trans (updI_s _ _ _)))) ?_
          first | (exfalso; omega) | exact Go_ireturn (pc := 83) dX7_fault_83 rfl (by unfold faF; (repeat' split) <;> first | rfl | (exfalso; omega)) (by (repeat' split) <;> first | rfl | (exfalso; omega))
        · refine Go_ls (pc := 41) (tgt := 84) (off := 43) dX7_fault_41 rfl (by omega) (by simp [Op.lookupswitch.offset_cons, Op.lookupswitch.offset, c41, eq_comm]) (by decide) ?_
          refine Go_aload_n (pc := 84) dX7_fault_84 rfl (by decide) rfl ?_
          refine Go_getr (pc := 85) (r := 9) dX7_fault_85 fo_X7_36 (by decide) rfl rfl (by decide) ?_
          refine Go_invV (pc := 88) (y := yX3_reason) (avs := []) (k := 9) (rest := []) (x := .inl R.1)  (d' := d - 1) dX7_fault_88 ln_X7_187 mo_X3_reason vo_X3_reason rfl (rc_9) rfl rfl (Nat.le_of_ble_eq_true rfl) (by omega) (Nat.le_of_ble_eq_true rfl) rfl (s_X3_reason (by omega) (show (updI (updI (updI (updI (M 9) 0 R.2.1) 1 R.1) 2 R.2.2.1) 3 R.2.2.2.1) 1 = R.1 from (updI_n (by decide)).trans ((updI_n (by decide)).trans (updI_s _ _ _)))) ?_
          refine Go_iconst (pc := 91) dX7_fault_91 ?_
          refine Go_icmp_ne (pc := 92) (tgt := 105) dX7_fault_92 (by decide) (by omega) (by decide) (fun c92 => ?_) (fun c92 => ?_)
          · refine Go_ldc (pc := 105) (n := -1000004) rfl kc_X7_110 dX7_fault_105 ?_
            first | (exfalso; omega) | exact Go_ireturn (pc := 107) dX7_fault_107 rfl (by unfold faF; (repeat' split) <;> first | rfl | (exfalso; omega)) (by (repeat' split) <;> first | rfl | (exfalso; omega))
          · refine Go_aload_n (pc := 95) dX7_fault_95 rfl (by decide) rfl ?_
            refine Go_getr (pc := 96) (r := 9) dX7_fault_96 fo_X7_36 (by decide) rfl rfl (by decide) ?_
            refine Go_invV (pc := 99) (y := yX3_cause) (avs := []) (k := 9) (rest := []) (x := .inl R.2.2.1)  (d' := d - 1) dX7_fault_99 ln_X7_193 mo_X3_cause vo_X3_cause rfl (rc_9) rfl rfl (Nat.le_of_ble_eq_true rfl) (by omega) (Nat.le_of_ble_eq_true rfl) rfl (s_X3_cause (by omega) (show (updI (updI (updI (updI (M 9) 0 R.2.1) 1 R.1) 2 R.2.2.1) 3 R.2.2.2.1) 2 = R.2.2.1 from (updI_n (by decide)).trans (updI_s _ _ _))) ?_
            refine Go_goto (pc := 102) (tgt := 107) dX7_fault_102 (by decide) ?_
            first | (exfalso; omega) | exact Go_ireturn (pc := 107) dX7_fault_107 rfl (by unfold faF; (repeat' split) <;> first | rfl | (exfalso; omega)) (by (repeat' split) <;> first | rfl | (exfalso; omega))
      · refine Go_ldc (pc := 37) (n := -1000004) rfl kc_X7_110 dX7_fault_37 ?_
        first | (exfalso; omega) | exact Go_ireturn (pc := 39) dX7_fault_39 rfl (by unfold faF; (repeat' split) <;> first | rfl | (exfalso; omega)) (by (repeat' split) <;> first | rfl | (exfalso; omega))
    · refine Go_ldc (pc := 9) (n := -1000001) rfl kc_X7_94 dX7_fault_9 ?_
      first | (exfalso; omega) | exact Go_ireturn (pc := 11) dX7_fault_11 rfl (by unfold faF; (repeat' split) <;> first | rfl | (exfalso; omega)) (by (repeat' split) <;> first | rfl | (exfalso; omega))
theorem s_X7_play {d : Nat} (hd : 10 ≤ d) {M : gMem} (hS : InvS M) (h : TxOk (M 8) (M 7 1)) {R : FR} (hR : R = flN (M 8) (M 7 1) 60 0 (M 2) 0) : Go d RX7 cX7_play 1 (some .int) 0 [some (.inr 0)] [] M (some (.inl (plV R))) (setl (flM M (M 9) R) (plV R)) := by
  obtain ⟨w1, w2, w3, w4, w5⟩ := flN_W (f := M 8) (n := M 7 1) 60 0 (M 2) 0 hS.1 (Int.le_refl 0)
  rw [← hR] at w1 w2 w3 w4 w5
  have hF : ∀ d, 9 ≤ d → Go d RX3 cX3_follow 5 none 0 [some (.inr 9), some (.inr 7), some (.inr 3), none, none] [] (setR M 4 (M 2)) none (setR (setR (setR M 4 (M 2)) 4 R.2.2.2.2) 9 (updI (updI (updI (updI (M 9) 0 R.2.1) 1 R.1) 2 R.2.2.1) 3 R.2.2.2.1)) := fun d hd => by
    rw [hR]
    exact s_X3_follow hd hS.1 h
  have e1 : R.1 = 0 → plV R = R.2.2.2.1 := fun c => if_pos c
  have e2 : ¬ R.1 = 0 → plV R = -1000002 := fun c => if_neg c
  refine Go_aload_n (pc := 0) dX7_play_0 rfl (by decide) rfl ?_
  refine Go_getr (pc := 1) (r := 9) dX7_play_1 fo_X7_36 (by decide) rfl rfl (by decide) ?_
  refine Go_aload_n (pc := 4) dX7_play_4 rfl (by decide) rfl ?_
  refine Go_getr (pc := 5) (r := 7) dX7_play_5 fo_X7_29 (by decide) rfl rfl (by decide) ?_
  refine Go_aload_n (pc := 8) dX7_play_8 rfl (by decide) rfl ?_
  refine Go_invV (pc := 9) (y := yX7_freshTrial) (avs := []) (k := 0) (rest := [.inr 7, .inr 9]) (x := .inr 3) (M1 := setR M 4 (M 2)) (d' := d - 1) dX7_play_9 ln_X7_47 mo_X7_freshTrial vo_X7_freshTrial rfl (rc_0) rfl rfl (Nat.le_of_ble_eq_true rfl) (by omega) (Nat.le_of_ble_eq_true rfl) rfl (s_X7_freshTrial (by omega) hS.1.o hS.2.1) ?_
  refine Go_invVv (pc := 12) (y := yX3_follow) (avs := [.inr 7, .inr 3]) (k := 9) (rest := [])   (d' := d - 1) dX7_play_12 ln_X7_183 mo_X3_follow vo_X3_follow rfl (rc_9) rfl rfl (Nat.le_of_ble_eq_true rfl) (by omega) (Nat.le_of_ble_eq_true rfl) rfl (hF _ (by omega)) ?_
  refine Go_M (M1 := setR (setR M 4 R.2.2.2.2) 9 (updI (updI (updI (updI (M 9) 0 R.2.1) 1 R.1) 2 R.2.2.1) 3 R.2.2.2.1)) (by funext q; simp only [setR]; (repeat' split) <;> first | rfl | omega | simp_all) ?_
  refine Go_aload_n (pc := 15) dX7_play_15 rfl (by decide) rfl ?_
  refine Go_aload_n (pc := 16) dX7_play_16 rfl (by decide) rfl ?_
  refine Go_getr (pc := 17) (r := 9) dX7_play_17 fo_X7_36 (by decide) rfl rfl (by decide) ?_
  refine Go_invV (pc := 20) (y := yX3_reason) (avs := []) (k := 9) (rest := [.inr 0]) (x := .inl R.1)  (d' := d - 1) dX7_play_20 ln_X7_187 mo_X3_reason vo_X3_reason rfl (rc_9) rfl rfl (Nat.le_of_ble_eq_true rfl) (by omega) (Nat.le_of_ble_eq_true rfl) rfl (s_X3_reason (by omega) (show (updI (updI (updI (updI (M 9) 0 R.2.1) 1 R.1) 2 R.2.2.1) 3 R.2.2.2.1) 1 = R.1 from (updI_n (by decide)).trans ((updI_n (by decide)).trans (updI_s _ _ _)))) ?_
  refine Go_if_ne (pc := 23) (tgt := 36) dX7_play_23 (by decide) (by omega) (fun c23 => ?_) (fun c23 => ?_)
  · refine Go_ldc (pc := 36) (n := -1000002) rfl kc_X7_170 dX7_play_36 ?_
    refine Go_invV (pc := 38) (y := yX7_settle) (avs := [.inl (-1000002)]) (k := 0) (rest := []) (x := .inl (-1000002)) (M1 := (setl (setR (setR M 4 R.2.2.2.2) 9 (updI (updI (updI (updI (M 9) 0 R.2.1) 1 R.1) 2 R.2.2.1) 3 R.2.2.2.1)) (-1000002))) (d' := d - 1) dX7_play_38 ln_X7_57 mo_X7_settle vo_X7_settle rfl (rc_0) rfl rfl (Nat.le_of_ble_eq_true rfl) (by omega) (Nat.le_of_ble_eq_true rfl) rfl (s_X7_settle (by omega) (by omega) hS.2.2 hS.1.o w1.o) ?_
    first | (exfalso; omega) | exact Go_ireturn (pc := 41) dX7_play_41 rfl (by first | rw [e1 (by omega)] | rw [e2 (by omega)]) (by first | rw [e1 (by omega)] | rw [e2 (by omega)])
  · refine Go_aload_n (pc := 26) dX7_play_26 rfl (by decide) rfl ?_
    refine Go_getr (pc := 27) (r := 9) dX7_play_27 fo_X7_36 (by decide) rfl rfl (by decide) ?_
    refine Go_invV (pc := 30) (y := yX3_orders) (avs := []) (k := 9) (rest := [.inr 0]) (x := .inl R.2.2.2.1)  (d' := d - 1) dX7_play_30 ln_X7_196 mo_X3_orders vo_X3_orders rfl (rc_9) rfl rfl (Nat.le_of_ble_eq_true rfl) (by omega) (Nat.le_of_ble_eq_true rfl) rfl (s_X3_orders (by omega) (show (updI (updI (updI (updI (M 9) 0 R.2.1) 1 R.1) 2 R.2.2.1) 3 R.2.2.2.1) 3 = R.2.2.2.1 from updI_s _ _ _)) ?_
    refine Go_goto (pc := 33) (tgt := 38) dX7_play_33 (by decide) ?_
    refine Go_invV (pc := 38) (y := yX7_settle) (avs := [.inl R.2.2.2.1]) (k := 0) (rest := []) (x := .inl R.2.2.2.1) (M1 := (setl (setR (setR M 4 R.2.2.2.2) 9 (updI (updI (updI (updI (M 9) 0 R.2.1) 1 R.1) 2 R.2.2.1) 3 R.2.2.2.1)) R.2.2.2.1)) (d' := d - 1) dX7_play_38 ln_X7_57 mo_X7_settle vo_X7_settle rfl (rc_0) rfl rfl (Nat.le_of_ble_eq_true rfl) (by omega) (Nat.le_of_ble_eq_true rfl) rfl (s_X7_settle (by omega) (by omega) hS.2.2 hS.1.o w1.o) ?_
    first | (exfalso; omega) | exact Go_ireturn (pc := 41) dX7_play_41 rfl (by first | rw [e1 (by omega)] | rw [e2 (by omega)]) (by first | rw [e1 (by omega)] | rw [e2 (by omega)])
