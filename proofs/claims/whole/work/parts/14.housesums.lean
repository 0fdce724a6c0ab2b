/-! House: its sums, its sets -/
def knotsF (f : Int → Int) : Int := sumZ (fun k => b2i (0 < sc f k 3)) (f 0)
def depthsF (f : Int → Int) : Int := sumZ (fun k => sc f k 3) (f 0)
def toldF (f : Int → Int) : Int := sumZ (fun k => b2i (0 ≤ sc f k 6)) (f 0)
def standF (f : Int → Int) : Int := sumZ (fun k => b2i (sc f k 0 = sc f k 6)) (f 0)
def astrayF (f : Int → Int) : Int := sumZ (fun k => b2i (0 ≤ sc f k 6 ∧ ¬ sc f k 0 = sc f k 6 ∧ (0 < sc f (k - 1) 3 ∨ 0 < sc f k 3))) (f 0)
theorem s_X1_knots {d h : Nat} (hd : 3 ≤ d) (hh : h = 1 ∨ h = 3) {M : gMem} (hW : Wf (M (h + 1))) : Go d RX1 cX1_knots 3 (some .int) 0 [some (.inr h), none, none] [] M (some (.inl (knotsF (M (h + 1))))) M := by
  rcases hh with rfl | rfl
  · have hn := Wf.n (f := M 2) hW
    have hW : Wf (M 2) := hW
    have K : ∀ i, 0 ≤ i → i ≤ M 2 0 → Go d RX1 cX1_knots 3 (some .int) 4 [some (.inr 1), some (.inl (sumZ (fun k => b2i (0 < sc (M 2) k 3)) i)), some (.inl i)] [] M (some (.inl (sumZ (fun k => b2i (0 < sc (M 2) k 3)) (M 2 0)))) M := by
      refine up_ind 0 (M 2 0) _ (fun i h0 h1 ih => ?_)
      have ht := hW.to i
      have e : sumZ (fun k => b2i (0 < sc (M 2) k 3)) (i + 1) = sumZ (fun k => b2i (0 < sc (M 2) k 3)) i + b2i (0 < sc (M 2) i 3) := sumZ_s _ h0
      rw [e] at ih
      generalize hS : sumZ (fun k => b2i (0 < sc (M 2) k 3)) i = S at ih ⊢
      refine Go_iload_n (pc := 4) dX1_knots_4 rfl rfl ?_
      refine Go_aload_n (pc := 5) dX1_knots_5 rfl (by decide) rfl ?_
      refine Go_invV (pc := 6) (y := yX1_shades) (avs := []) (k := 1) (rest := [.inl i]) (x := .inl (M 2 0))  (d' := d - 1) dX1_knots_6 ln_X1_21 mo_X1_shades vo_X1_shades rfl (rc_1) rfl rfl (Nat.le_of_ble_eq_true rfl) (by omega) (Nat.le_of_ble_eq_true rfl) rfl (s_X1_shades (by omega) (by decide)) ?_
      refine Go_icmp_ge (pc := 9) (tgt := 30) dX1_knots_9 (by decide) (by omega) (by omega) (fun c9 => ?_) (fun c9 => ?_)
      · refine Go_iload_n (pc := 30) dX1_knots_30 rfl rfl ?_
        exact Go_ireturn (pc := 31) dX1_knots_31 rfl (by rw [← hS, show i = M 2 0 by omega]) rfl
      · refine Go_aload_n (pc := 12) dX1_knots_12 rfl (by decide) rfl ?_
        refine Go_iload_n (pc := 13) dX1_knots_13 rfl rfl ?_
        refine Go_iconst (pc := 14) dX1_knots_14 ?_
        refine Go_invV (pc := 15) (y := yX1_ofShade) (avs := [.inl i, .inl 3]) (k := 1) (rest := []) (x := .inl (sc (M 2) i 3))  (d' := d - 1) dX1_knots_15 ln_X1_32 mo_X1_ofShade vo_X1_ofShade rfl (rc_1) rfl rfl (Nat.le_of_ble_eq_true rfl) (by omega) (Nat.le_of_ble_eq_true rfl) rfl (s_X1_ofShade (by omega) (by decide) (by omega) (by decide) (by decide)) ?_
        refine Go_if_le (pc := 18) (tgt := 24) dX1_knots_18 (by decide) (by first | exact hW.rs _ _ (by decide) | exact hW2.rs _ _ (by decide) | omega) (fun c18 => ?_) (fun c18 => ?_)
        · refine Go_iinc (pc := 24) (L' := [some (.inr 1), some (.inl S), some (.inl (i + 1))]) dX1_knots_24 rfl (by decide) rfl ?_
          refine Go_goto (pc := 27) (tgt := 4) dX1_knots_27 (by decide) ?_
          exact Go_LS (by first | rfl | rw [b2i_t (by omega)] | rw [b2i_f (by omega), Int.add_zero]) rfl (ih (by omega))
        · refine Go_iinc (pc := 21) (L' := [some (.inr 1), some (.inl (S + 1)), some (.inl i)]) dX1_knots_21 rfl (by decide) rfl ?_
          refine Go_iinc (pc := 24) (L' := [some (.inr 1), some (.inl (S + 1)), some (.inl (i + 1))]) dX1_knots_24 rfl (by decide) rfl ?_
          refine Go_goto (pc := 27) (tgt := 4) dX1_knots_27 (by decide) ?_
          exact Go_LS (by first | rfl | rw [b2i_t (by omega)] | rw [b2i_f (by omega), Int.add_zero]) rfl (ih (by omega))
    refine Go_iconst (pc := 0) dX1_knots_0 ?_
    refine Go_istore_n (pc := 1) (L' := [some (.inr 1), some (.inl 0), none]) dX1_knots_1 rfl (by decide) rfl ?_
    refine Go_iconst (pc := 2) dX1_knots_2 ?_
    refine Go_istore_n (pc := 3) (L' := [some (.inr 1), some (.inl 0), some (.inl 0)]) dX1_knots_3 rfl (by decide) rfl ?_
    exact K 0 (by omega) (by omega)
  · have hn := Wf.n (f := M 4) hW
    have hW : Wf (M 4) := hW
    have K : ∀ i, 0 ≤ i → i ≤ M 4 0 → Go d RX1 cX1_knots 3 (some .int) 4 [some (.inr 3), some (.inl (sumZ (fun k => b2i (0 < sc (M 4) k 3)) i)), some (.inl i)] [] M (some (.inl (sumZ (fun k => b2i (0 < sc (M 4) k 3)) (M 4 0)))) M := by
      refine up_ind 0 (M 4 0) _ (fun i h0 h1 ih => ?_)
      have ht := hW.to i
      have e : sumZ (fun k => b2i (0 < sc (M 4) k 3)) (i + 1) = sumZ (fun k => b2i (0 < sc (M 4) k 3)) i + b2i (0 < sc (M 4) i 3) := sumZ_s _ h0
      rw [e] at ih
      generalize hS : sumZ (fun k => b2i (0 < sc (M 4) k 3)) i = S at ih ⊢
      refine Go_iload_n (pc := 4) dX1_knots_4 rfl rfl ?_
      refine Go_aload_n (pc := 5) dX1_knots_5 rfl (by decide) rfl ?_
      refine Go_invV (pc := 6) (y := yX1_shades) (avs := []) (k := 3) (rest := [.inl i]) (x := .inl (M 4 0))  (d' := d - 1) dX1_knots_6 ln_X1_21 mo_X1_shades vo_X1_shades rfl (rc_3) rfl rfl (Nat.le_of_ble_eq_true rfl) (by omega) (Nat.le_of_ble_eq_true rfl) rfl (s_X1_shades (by omega) (by decide)) ?_
      refine Go_icmp_ge (pc := 9) (tgt := 30) dX1_knots_9 (by decide) (by omega) (by omega) (fun c9 => ?_) (fun c9 => ?_)
      · refine Go_iload_n (pc := 30) dX1_knots_30 rfl rfl ?_
        exact Go_ireturn (pc := 31) dX1_knots_31 rfl (by rw [← hS, show i = M 4 0 by omega]) rfl
      · refine Go_aload_n (pc := 12) dX1_knots_12 rfl (by decide) rfl ?_
        refine Go_iload_n (pc := 13) dX1_knots_13 rfl rfl ?_
        refine Go_iconst (pc := 14) dX1_knots_14 ?_
        refine Go_invV (pc := 15) (y := yX1_ofShade) (avs := [.inl i, .inl 3]) (k := 3) (rest := []) (x := .inl (sc (M 4) i 3))  (d' := d - 1) dX1_knots_15 ln_X1_32 mo_X1_ofShade vo_X1_ofShade rfl (rc_3) rfl rfl (Nat.le_of_ble_eq_true rfl) (by omega) (Nat.le_of_ble_eq_true rfl) rfl (s_X1_ofShade (by omega) (by decide) (by omega) (by decide) (by decide)) ?_
        refine Go_if_le (pc := 18) (tgt := 24) dX1_knots_18 (by decide) (by first | exact hW.rs _ _ (by decide) | exact hW2.rs _ _ (by decide) | omega) (fun c18 => ?_) (fun c18 => ?_)
        · refine Go_iinc (pc := 24) (L' := [some (.inr 3), some (.inl S), some (.inl (i + 1))]) dX1_knots_24 rfl (by decide) rfl ?_
          refine Go_goto (pc := 27) (tgt := 4) dX1_knots_27 (by decide) ?_
          exact Go_LS (by first | rfl | rw [b2i_t (by omega)] | rw [b2i_f (by omega), Int.add_zero]) rfl (ih (by omega))
        · refine Go_iinc (pc := 21) (L' := [some (.inr 3), some (.inl (S + 1)), some (.inl i)]) dX1_knots_21 rfl (by decide) rfl ?_
          refine Go_iinc (pc := 24) (L' := [some (.inr 3), some (.inl (S + 1)), some (.inl (i + 1))]) dX1_knots_24 rfl (by decide) rfl ?_
          refine Go_goto (pc := 27) (tgt := 4) dX1_knots_27 (by decide) ?_
          exact Go_LS (by first | rfl | rw [b2i_t (by omega)] | rw [b2i_f (by omega), Int.add_zero]) rfl (ih (by omega))
    refine Go_iconst (pc := 0) dX1_knots_0 ?_
    refine Go_istore_n (pc := 1) (L' := [some (.inr 3), some (.inl 0), none]) dX1_knots_1 rfl (by decide) rfl ?_
    refine Go_iconst (pc := 2) dX1_knots_2 ?_
    refine Go_istore_n (pc := 3) (L' := [some (.inr 3), some (.inl 0), some (.inl 0)]) dX1_knots_3 rfl (by decide) rfl ?_
    exact K 0 (by omega) (by omega)
theorem s_X1_depths {d h : Nat} (hd : 3 ≤ d) (hh : h = 1 ∨ h = 3) {M : gMem} (hW : Wf (M (h + 1))) : Go d RX1 cX1_depths 3 (some .int) 0 [some (.inr h), none, none] [] M (some (.inl (depthsF (M (h + 1))))) M := by
  rcases hh with rfl | rfl
  · have hn := Wf.n (f := M 2) hW
    have hW : Wf (M 2) := hW
    have K : ∀ i, 0 ≤ i → i ≤ M 2 0 → Go d RX1 cX1_depths 3 (some .int) 4 [some (.inr 1), some (.inl (sumZ (fun k => sc (M 2) k 3) i)), some (.inl i)] [] M (some (.inl (sumZ (fun k => sc (M 2) k 3) (M 2 0)))) M := by
      refine up_ind 0 (M 2 0) _ (fun i h0 h1 ih => ?_)
      have ht := hW.to i
      have e : sumZ (fun k => sc (M 2) k 3) (i + 1) = sumZ (fun k => sc (M 2) k 3) i + sc (M 2) i 3 := sumZ_s _ h0
      rw [e] at ih
      generalize hS : sumZ (fun k => sc (M 2) k 3) i = S at ih ⊢
      refine Go_iload_n (pc := 4) dX1_depths_4 rfl rfl ?_
      refine Go_aload_n (pc := 5) dX1_depths_5 rfl (by decide) rfl ?_
      refine Go_invV (pc := 6) (y := yX1_shades) (avs := []) (k := 1) (rest := [.inl i]) (x := .inl (M 2 0))  (d' := d - 1) dX1_depths_6 ln_X1_21 mo_X1_shades vo_X1_shades rfl (rc_1) rfl rfl (Nat.le_of_ble_eq_true rfl) (by omega) (Nat.le_of_ble_eq_true rfl) rfl (s_X1_shades (by omega) (by decide)) ?_
      refine Go_icmp_ge (pc := 9) (tgt := 27) dX1_depths_9 (by decide) (by omega) (by omega) (fun c9 => ?_) (fun c9 => ?_)
      · refine Go_iload_n (pc := 27) dX1_depths_27 rfl rfl ?_
        exact Go_ireturn (pc := 28) dX1_depths_28 rfl (by rw [← hS, show i = M 2 0 by omega]) rfl
      · refine Go_iload_n (pc := 12) dX1_depths_12 rfl rfl ?_
        refine Go_aload_n (pc := 13) dX1_depths_13 rfl (by decide) rfl ?_
        refine Go_iload_n (pc := 14) dX1_depths_14 rfl rfl ?_
        refine Go_iconst (pc := 15) dX1_depths_15 ?_
        refine Go_invV (pc := 16) (y := yX1_ofShade) (avs := [.inl i, .inl 3]) (k := 1) (rest := [.inl S]) (x := .inl (sc (M 2) i 3))  (d' := d - 1) dX1_depths_16 ln_X1_32 mo_X1_ofShade vo_X1_ofShade rfl (rc_1) rfl rfl (Nat.le_of_ble_eq_true rfl) (by omega) (Nat.le_of_ble_eq_true rfl) rfl (s_X1_ofShade (by omega) (by decide) (by omega) (by decide) (by decide)) ?_
        refine Go_iadd (pc := 19) dX1_depths_19 ?_
        refine Go_istore_n (pc := 20) (L' := [some (.inr 1), some (.inl (S + (sc (M 2) i 3))), some (.inl i)]) dX1_depths_20 rfl (by decide) rfl ?_
        refine Go_iinc (pc := 21) (L' := [some (.inr 1), some (.inl (S + (sc (M 2) i 3))), some (.inl (i + 1))]) dX1_depths_21 rfl (by decide) rfl ?_
        refine Go_goto (pc := 24) (tgt := 4) dX1_depths_24 (by decide) ?_
        exact Go_LS (by first | rfl | rw [b2i_t (by omega)] | rw [b2i_f (by omega), Int.add_zero]) rfl (ih (by omega))
    refine Go_iconst (pc := 0) dX1_depths_0 ?_
    refine Go_istore_n (pc := 1) (L' := [some (.inr 1), some (.inl 0), none]) dX1_depths_1 rfl (by decide) rfl ?_
    refine Go_iconst (pc := 2) dX1_depths_2 ?_
    refine Go_istore_n (pc := 3) (L' := [some (.inr 1), some (.inl 0), some (.inl 0)]) dX1_depths_3 rfl (by decide) rfl ?_
    exact K 0 (by omega) (by omega)
  · have hn := Wf.n (f := M 4) hW
    have hW : Wf (M 4) := hW
    have K : ∀ i, 0 ≤ i → i ≤ M 4 0 → Go d RX1 cX1_depths 3 (some .int) 4 [some (.inr 3), some (.inl (sumZ (fun k => sc (M 4) k 3) i)), some (.inl i)] [] M (some (.inl (sumZ (fun k => sc (M 4) k 3) (M 4 0)))) M := by
      refine up_ind 0 (M 4 0) _ (fun i h0 h1 ih => ?_)
      have ht := hW.to i
      have e : sumZ (fun k => sc (M 4) k 3) (i + 1) = sumZ (fun k => sc (M 4) k 3) i + sc (M 4) i 3 := sumZ_s _ h0
      rw [e] at ih
      generalize hS : sumZ (fun k => sc (M 4) k 3) i = S at ih ⊢
      refine Go_iload_n (pc := 4) dX1_depths_4 rfl rfl ?_
      refine Go_aload_n (pc := 5) dX1_depths_5 rfl (by decide) rfl ?_
      refine Go_invV (pc := 6) (y := yX1_shades) (avs := []) (k := 3) (rest := [.inl i]) (x := .inl (M 4 0))  (d' := d - 1) dX1_depths_6 ln_X1_21 mo_X1_shades vo_X1_shades rfl (rc_3) rfl rfl (Nat.le_of_ble_eq_true rfl) (by omega) (Nat.le_of_ble_eq_true rfl) rfl (s_X1_shades (by omega) (by decide)) ?_
      refine Go_icmp_ge (pc := 9) (tgt := 27) dX1_depths_9 (by decide) (by omega) (by omega) (fun c9 => ?_) (fun c9 => ?_)
      · refine Go_iload_n (pc := 27) dX1_depths_27 rfl rfl ?_
        exact Go_ireturn (pc := 28) dX1_depths_28 rfl (by rw [← hS, show i = M 4 0 by omega]) rfl
      · refine Go_iload_n (pc := 12) dX1_depths_12 rfl rfl ?_
        refine Go_aload_n (pc := 13) dX1_depths_13 rfl (by decide) rfl ?_
        refine Go_iload_n (pc := 14) dX1_depths_14 rfl rfl ?_
        refine Go_iconst (pc := 15) dX1_depths_15 ?_
        refine Go_invV (pc := 16) (y := yX1_ofShade) (avs := [.inl i, .inl 3]) (k := 3) (rest := [.inl S]) (x := .inl (sc (M 4) i 3))  (d' := d - 1) dX1_depths_16 ln_X1_32 mo_X1_ofShade vo_X1_ofShade rfl (rc_3) rfl rfl (Nat.le_of_ble_eq_true rfl) (by omega) (Nat.le_of_ble_eq_true rfl) rfl (s_X1_ofShade (by omega) (by decide) (by omega) (by decide) (by decide)) ?_
        refine Go_iadd (pc := 19) dX1_depths_19 ?_
        refine Go_istore_n (pc := 20) (L' := [some (.inr 3), some (.inl (S + (sc (M 4) i 3))), some (.inl i)]) dX1_depths_20 rfl (by decide) rfl ?_
        refine Go_iinc (pc := 21) (L' := [some (.inr 3), some (.inl (S + (sc (M 4) i 3))), some (.inl (i + 1))]) dX1_depths_21 rfl (by decide) rfl ?_
        refine Go_goto (pc := 24) (tgt := 4) dX1_depths_24 (by decide) ?_
        exact Go_LS (by first | rfl | rw [b2i_t (by omega)] | rw [b2i_f (by omega), Int.add_zero]) rfl (ih (by omega))
    refine Go_iconst (pc := 0) dX1_depths_0 ?_
    refine Go_istore_n (pc := 1) (L' := [some (.inr 3), some (.inl 0), none]) dX1_depths_1 rfl (by decide) rfl ?_
    refine Go_iconst (pc := 2) dX1_depths_2 ?_
    refine Go_istore_n (pc := 3) (L' := [some (.inr 3), some (.inl 0), some (.inl 0)]) dX1_depths_3 rfl (by decide) rfl ?_
    exact K 0 (by omega) (by omega)
theorem s_X1_told {d h : Nat} (hd : 3 ≤ d) (hh : h = 1 ∨ h = 3) {M : gMem} (hW : Wf (M (h + 1))) : Go d RX1 cX1_told 3 (some .int) 0 [some (.inr h), none, none] [] M (some (.inl (toldF (M (h + 1))))) M := by
  rcases hh with rfl | rfl
  · have hn := Wf.n (f := M 2) hW
    have hW : Wf (M 2) := hW
    have K : ∀ i, 0 ≤ i → i ≤ M 2 0 → Go d RX1 cX1_told 3 (some .int) 4 [some (.inr 1), some (.inl (sumZ (fun k => b2i (0 ≤ sc (M 2) k 6)) i)), some (.inl i)] [] M (some (.inl (sumZ (fun k => b2i (0 ≤ sc (M 2) k 6)) (M 2 0)))) M := by
      refine up_ind 0 (M 2 0) _ (fun i h0 h1 ih => ?_)
      have ht := hW.to i
      have e : sumZ (fun k => b2i (0 ≤ sc (M 2) k 6)) (i + 1) = sumZ (fun k => b2i (0 ≤ sc (M 2) k 6)) i + b2i (0 ≤ sc (M 2) i 6) := sumZ_s _ h0
      rw [e] at ih
      generalize hS : sumZ (fun k => b2i (0 ≤ sc (M 2) k 6)) i = S at ih ⊢
      refine Go_iload_n (pc := 4) dX1_told_4 rfl rfl ?_
      refine Go_aload_n (pc := 5) dX1_told_5 rfl (by decide) rfl ?_
      refine Go_invV (pc := 6) (y := yX1_shades) (avs := []) (k := 1) (rest := [.inl i]) (x := .inl (M 2 0))  (d' := d - 1) dX1_told_6 ln_X1_21 mo_X1_shades vo_X1_shades rfl (rc_1) rfl rfl (Nat.le_of_ble_eq_true rfl) (by omega) (Nat.le_of_ble_eq_true rfl) rfl (s_X1_shades (by omega) (by decide)) ?_
      refine Go_icmp_ge (pc := 9) (tgt := 29) dX1_told_9 (by decide) (by omega) (by omega) (fun c9 => ?_) (fun c9 => ?_)
      · refine Go_iload_n (pc := 29) dX1_told_29 rfl rfl ?_
        exact Go_ireturn (pc := 30) dX1_told_30 rfl (by rw [← hS, show i = M 2 0 by omega]) rfl
      · refine Go_aload_n (pc := 12) dX1_told_12 rfl (by decide) rfl ?_
        refine Go_iload_n (pc := 13) dX1_told_13 rfl rfl ?_
        refine Go_invV (pc := 14) (y := yX1_isTold) (avs := [.inl i]) (k := 1) (rest := []) (x := .inl (b2i ((0 ≤ i ∧ i < M 2 0) ∧ 0 ≤ sc (M 2) i 6)))  (d' := d - 1) dX1_told_14 ln_X1_43 mo_X1_isTold vo_X1_isTold rfl (rc_1) rfl rfl (Nat.le_of_ble_eq_true rfl) (by omega) (Nat.le_of_ble_eq_true rfl) rfl (s_X1_isTold (by omega) (by decide) (by omega) hW) ?_
        refine Go_ifeqB (pc := 17) (tgt := 23) dX1_told_17 (by decide) (fun c17 => ?_) (fun c17 => ?_)
        · refine Go_iinc (pc := 23) (L' := [some (.inr 1), some (.inl S), some (.inl (i + 1))]) dX1_told_23 rfl (by decide) rfl ?_
          refine Go_goto (pc := 26) (tgt := 4) dX1_told_26 (by decide) ?_
          exact Go_LS (by first | rfl | rw [b2i_t (by omega)] | rw [b2i_f (by omega), Int.add_zero]) rfl (ih (by omega))
        · refine Go_iinc (pc := 20) (L' := [some (.inr 1), some (.inl (S + 1)), some (.inl i)]) dX1_told_20 rfl (by decide) rfl ?_
          refine Go_iinc (pc := 23) (L' := [some (.inr 1), some (.inl (S + 1)), some (.inl (i + 1))]) dX1_told_23 rfl (by decide) rfl ?_
          refine Go_goto (pc := 26) (tgt := 4) dX1_told_26 (by decide) ?_
          exact Go_LS (by first | rfl | rw [b2i_t (by omega)] | rw [b2i_f (by omega), Int.add_zero]) rfl (ih (by omega))
    refine Go_iconst (pc := 0) dX1_told_0 ?_
    refine Go_istore_n (pc := 1) (L' := [some (.inr 1), some (.inl 0), none]) dX1_told_1 rfl (by decide) rfl ?_
    refine Go_iconst (pc := 2) dX1_told_2 ?_
    refine Go_istore_n (pc := 3) (L' := [some (.inr 1), some (.inl 0), some (.inl 0)]) dX1_told_3 rfl (by decide) rfl ?_
    exact K 0 (by omega) (by omega)
  · have hn := Wf.n (f := M 4) hW
    have hW : Wf (M 4) := hW
    have K : ∀ i, 0 ≤ i → i ≤ M 4 0 → Go d RX1 cX1_told 3 (some .int) 4 [some (.inr 3), some (.inl (sumZ (fun k => b2i (0 ≤ sc (M 4) k 6)) i)), some (.inl i)] [] M (some (.inl (sumZ (fun k => b2i (0 ≤ sc (M 4) k 6)) (M 4 0)))) M := by
      refine up_ind 0 (M 4 0) _ (fun i h0 h1 ih => ?_)
      have ht := hW.to i
      have e : sumZ (fun k => b2i (0 ≤ sc (M 4) k 6)) (i + 1) = sumZ (fun k => b2i (0 ≤ sc (M 4) k 6)) i + b2i (0 ≤ sc (M 4) i 6) := sumZ_s _ h0
      rw [e] at ih
      generalize hS : sumZ (fun k => b2i (0 ≤ sc (M 4) k 6)) i = S at ih ⊢
      refine Go_iload_n (pc := 4) dX1_told_4 rfl rfl ?_
      refine Go_aload_n (pc := 5) dX1_told_5 rfl (by decide) rfl ?_
      refine Go_invV (pc := 6) (y := yX1_shades) (avs := []) (k := 3) (rest := [.inl i]) (x := .inl (M 4 0))  (d' := d - 1) dX1_told_6 ln_X1_21 mo_X1_shades vo_X1_shades rfl (rc_3) rfl rfl (Nat.le_of_ble_eq_true rfl) (by omega) (Nat.le_of_ble_eq_true rfl) rfl (s_X1_shades (by omega) (by decide)) ?_
      refine Go_icmp_ge (pc := 9) (tgt := 29) dX1_told_9 (by decide) (by omega) (by omega) (fun c9 => ?_) (fun c9 => ?_)
      · refine Go_iload_n (pc := 29) dX1_told_29 rfl rfl ?_
        exact Go_ireturn (pc := 30) dX1_told_30 rfl (by rw [← hS, show i = M 4 0 by omega]) rfl
      · refine Go_aload_n (pc := 12) dX1_told_12 rfl (by decide) rfl ?_
        refine Go_iload_n (pc := 13) dX1_told_13 rfl rfl ?_
        refine Go_invV (pc := 14) (y := yX1_isTold) (avs := [.inl i]) (k := 3) (rest := []) (x := .inl (b2i ((0 ≤ i ∧ i < M 4 0) ∧ 0 ≤ sc (M 4) i 6)))  (d' := d - 1) dX1_told_14 ln_X1_43 mo_X1_isTold vo_X1_isTold rfl (rc_3) rfl rfl (Nat.le_of_ble_eq_true rfl) (by omega) (Nat.le_of_ble_eq_true rfl) rfl (s_X1_isTold (by omega) (by decide) (by omega) hW) ?_
        refine Go_ifeqB (pc := 17) (tgt := 23) dX1_told_17 (by decide) (fun c17 => ?_) (fun c17 => ?_)
        · refine Go_iinc (pc := 23) (L' := [some (.inr 3), some (.inl S), some (.inl (i + 1))]) dX1_told_23 rfl (by decide) rfl ?_
          refine Go_goto (pc := 26) (tgt := 4) dX1_told_26 (by decide) ?_
          exact Go_LS (by first | rfl | rw [b2i_t (by omega)] | rw [b2i_f (by omega), Int.add_zero]) rfl (ih (by omega))
        · refine Go_iinc (pc := 20) (L' := [some (.inr 3), some (.inl (S + 1)), some (.inl i)]) dX1_told_20 rfl (by decide) rfl ?_
          refine Go_iinc (pc := 23) (L' := [some (.inr 3), some (.inl (S + 1)), some (.inl (i + 1))]) dX1_told_23 rfl (by decide) rfl ?_
          refine Go_goto (pc := 26) (tgt := 4) dX1_told_26 (by decide) ?_
          exact Go_LS (by first | rfl | rw [b2i_t (by omega)] | rw [b2i_f (by omega), Int.add_zero]) rfl (ih (by omega))
    refine Go_iconst (pc := 0) dX1_told_0 ?_
    refine Go_istore_n (pc := 1) (L' := [some (.inr 3), some (.inl 0), none]) dX1_told_1 rfl (by decide) rfl ?_
    refine Go_iconst (pc := 2) dX1_told_2 ?_
    refine Go_istore_n (pc := 3) (L' := [some (.inr 3), some (.inl 0), some (.inl 0)]) dX1_told_3 rfl (by decide) rfl ?_
    exact K 0 (by omega) (by omega)
theorem s_X1_standing {d h : Nat} (hd : 3 ≤ d) (hh : h = 1 ∨ h = 3) {M : gMem} (hW : Wf (M (h + 1))) : Go d RX1 cX1_standing 3 (some .int) 0 [some (.inr h), none, none] [] M (some (.inl (standF (M (h + 1))))) M := by
  rcases hh with rfl | rfl
  · have hn := Wf.n (f := M 2) hW
    have hW : Wf (M 2) := hW
    have K : ∀ i, 0 ≤ i → i ≤ M 2 0 → Go d RX1 cX1_standing 3 (some .int) 4 [some (.inr 1), some (.inl (sumZ (fun k => b2i (sc (M 2) k 0 = sc (M 2) k 6)) i)), some (.inl i)] [] M (some (.inl (sumZ (fun k => b2i (sc (M 2) k 0 = sc (M 2) k 6)) (M 2 0)))) M := by
      refine up_ind 0 (M 2 0) _ (fun i h0 h1 ih => ?_)
      have ht := hW.to i
      have e : sumZ (fun k => b2i (sc (M 2) k 0 = sc (M 2) k 6)) (i + 1) = sumZ (fun k => b2i (sc (M 2) k 0 = sc (M 2) k 6)) i + b2i (sc (M 2) i 0 = sc (M 2) i 6) := sumZ_s _ h0
      rw [e] at ih
      generalize hS : sumZ (fun k => b2i (sc (M 2) k 0 = sc (M 2) k 6)) i = S at ih ⊢
      refine Go_iload_n (pc := 4) dX1_standing_4 rfl rfl ?_
      refine Go_aload_n (pc := 5) dX1_standing_5 rfl (by decide) rfl ?_
      refine Go_invV (pc := 6) (y := yX1_shades) (avs := []) (k := 1) (rest := [.inl i]) (x := .inl (M 2 0))  (d' := d - 1) dX1_standing_6 ln_X1_21 mo_X1_shades vo_X1_shades rfl (rc_1) rfl rfl (Nat.le_of_ble_eq_true rfl) (by omega) (Nat.le_of_ble_eq_true rfl) rfl (s_X1_shades (by omega) (by decide)) ?_
      refine Go_icmp_ge (pc := 9) (tgt := 29) dX1_standing_9 (by decide) (by omega) (by omega) (fun c9 => ?_) (fun c9 => ?_)
      · refine Go_iload_n (pc := 29) dX1_standing_29 rfl rfl ?_
        exact Go_ireturn (pc := 30) dX1_standing_30 rfl (by rw [← hS, show i = M 2 0 by omega]) rfl
      · refine Go_aload_n (pc := 12) dX1_standing_12 rfl (by decide) rfl ?_
        refine Go_iload_n (pc := 13) dX1_standing_13 rfl rfl ?_
        refine Go_invV (pc := 14) (y := yX1_isStanding) (avs := [.inl i]) (k := 1) (rest := []) (x := .inl (b2i (sc (M 2) i 0 = sc (M 2) i 6)))  (d' := d - 1) dX1_standing_14 ln_X1_46 mo_X1_isStanding vo_X1_isStanding rfl (rc_1) rfl rfl (Nat.le_of_ble_eq_true rfl) (by omega) (Nat.le_of_ble_eq_true rfl) rfl (s_X1_isStanding (by omega) (by decide) (by omega) hW) ?_
        refine Go_ifeqB (pc := 17) (tgt := 23) dX1_standing_17 (by decide) (fun c17 => ?_) (fun c17 => ?_)
        · refine Go_iinc (pc := 23) (L' := [some (.inr 1), some (.inl S), some (.inl (i + 1))]) dX1_standing_23 rfl (by decide) rfl ?_
          refine Go_goto (pc := 26) (tgt := 4) dX1_standing_26 (by decide) ?_
          exact Go_LS (by first | rfl | rw [b2i_t (by omega)] | rw [b2i_f (by omega), Int.add_zero]) rfl (ih (by omega))
        · refine Go_iinc (pc := 20) (L' := [some (.inr 1), some (.inl (S + 1)), some (.inl i)]) dX1_standing_20 rfl (by decide) rfl ?_
          refine Go_iinc (pc := 23) (L' := [some (.inr 1), some (.inl (S + 1)), some (.inl (i + 1))]) dX1_standing_23 rfl (by decide) rfl ?_
          refine Go_goto (pc := 26) (tgt := 4) dX1_standing_26 (by decide) ?_
          exact Go_LS (by first | rfl | rw [b2i_t (by omega)] | rw [b2i_f (by omega), Int.add_zero]) rfl (ih (by omega))
    refine Go_iconst (pc := 0) dX1_standing_0 ?_
    refine Go_istore_n (pc := 1) (L' := [some (.inr 1), some (.inl 0), none]) dX1_standing_1 rfl (by decide) rfl ?_
    refine Go_iconst (pc := 2) dX1_standing_2 ?_
    refine Go_istore_n (pc := 3) (L' := [some (.inr 1), some (.inl 0), some (.inl 0)]) dX1_standing_3 rfl (by decide) rfl ?_
    exact K 0 (by omega) (by omega)
  · have hn := Wf.n (f := M 4) hW
    have hW : Wf (M 4) := hW
    have K : ∀ i, 0 ≤ i → i ≤ M 4 0 → Go d RX1 cX1_standing 3 (some .int) 4 [some (.inr 3), some (.inl (sumZ (fun k => b2i (sc (M 4) k 0 = sc (M 4) k 6)) i)), some (.inl i)] [] M (some (.inl (sumZ (fun k => b2i (sc (M 4) k 0 = sc (M 4) k 6)) (M 4 0)))) M := by
      refine up_ind 0 (M 4 0) _ (fun i h0 h1 ih => ?_)
      have ht := hW.to i
      have e : sumZ (fun k => b2i (sc (M 4) k 0 = sc (M 4) k 6)) (i + 1) = sumZ (fun k => b2i (sc (M 4) k 0 = sc (M 4) k 6)) i + b2i (sc (M 4) i 0 = sc (M 4) i 6) := sumZ_s _ h0
      rw [e] at ih
      generalize hS : sumZ (fun k => b2i (sc (M 4) k 0 = sc (M 4) k 6)) i = S at ih ⊢
      refine Go_iload_n (pc := 4) dX1_standing_4 rfl rfl ?_
      refine Go_aload_n (pc := 5) dX1_standing_5 rfl (by decide) rfl ?_
      refine Go_invV (pc := 6) (y := yX1_shades) (avs := []) (k := 3) (rest := [.inl i]) (x := .inl (M 4 0))  (d' := d - 1) dX1_standing_6 ln_X1_21 mo_X1_shades vo_X1_shades rfl (rc_3) rfl rfl (Nat.le_of_ble_eq_true rfl) (by omega) (Nat.le_of_ble_eq_true rfl) rfl (s_X1_shades (by omega) (by decide)) ?_
      refine Go_icmp_ge (pc := 9) (tgt := 29) dX1_standing_9 (by decide) (by omega) (by omega) (fun c9 => ?_) (fun c9 => ?_)
      · refine Go_iload_n (pc := 29) dX1_standing_29 rfl rfl ?_
        exact Go_ireturn (pc := 30) dX1_standing_30 rfl (by rw [← hS, show i = M 4 0 by omega]) rfl
      · refine Go_aload_n (pc := 12) dX1_standing_12 rfl (by decide) rfl ?_
        refine Go_iload_n (pc := 13) dX1_standing_13 rfl rfl ?_
        refine Go_invV (pc := 14) (y := yX1_isStanding) (avs := [.inl i]) (k := 3) (rest := []) (x := .inl (b2i (sc (M 4) i 0 = sc (M 4) i 6)))  (d' := d - 1) dX1_standing_14 ln_X1_46 mo_X1_isStanding vo_X1_isStanding rfl (rc_3) rfl rfl (Nat.le_of_ble_eq_true rfl) (by omega) (Nat.le_of_ble_eq_true rfl) rfl (s_X1_isStanding (by omega) (by decide) (by omega) hW) ?_
        refine Go_ifeqB (pc := 17) (tgt := 23) dX1_standing_17 (by decide) (fun c17 => ?_) (fun c17 => ?_)
        · refine Go_iinc (pc := 23) (L' := [some (.inr 3), some (.inl S), some (.inl (i + 1))]) dX1_standing_23 rfl (by decide) rfl ?_
          refine Go_goto (pc := 26) (tgt := 4) dX1_standing_26 (by decide) ?_
          exact Go_LS (by first | rfl | rw [b2i_t (by omega)] | rw [b2i_f (by omega), Int.add_zero]) rfl (ih (by omega))
        · refine Go_iinc (pc := 20) (L' := [some (.inr 3), some (.inl (S + 1)), some (.inl i)]) dX1_standing_20 rfl (by decide) rfl ?_
          refine Go_iinc (pc := 23) (L' := [some (.inr 3), some (.inl (S + 1)), some (.inl (i + 1))]) dX1_standing_23 rfl (by decide) rfl ?_
          refine Go_goto (pc := 26) (tgt := 4) dX1_standing_26 (by decide) ?_
          exact Go_LS (by first | rfl | rw [b2i_t (by omega)] | rw [b2i_f (by omega), Int.add_zero]) rfl (ih (by omega))
    refine Go_iconst (pc := 0) dX1_standing_0 ?_
    refine Go_istore_n (pc := 1) (L' := [some (.inr 3), some (.inl 0), none]) dX1_standing_1 rfl (by decide) rfl ?_
    refine Go_iconst (pc := 2) dX1_standing_2 ?_
    refine Go_istore_n (pc := 3) (L' := [some (.inr 3), some (.inl 0), some (.inl 0)]) dX1_standing_3 rfl (by decide) rfl ?_
    exact K 0 (by omega) (by omega)
theorem s_X1_astrayAndTangled {d h : Nat} (hd : 3 ≤ d) (hh : h = 1 ∨ h = 3) {M : gMem} (hW : Wf (M (h + 1))) : Go d RX1 cX1_astrayAndTangled 3 (some .int) 0 [some (.inr h), none, none] [] M (some (.inl (astrayF (M (h + 1))))) M := by
  rcases hh with rfl | rfl
  · have hn := Wf.n (f := M 2) hW
    have hW : Wf (M 2) := hW
    have K : ∀ i, 0 ≤ i → i ≤ M 2 0 → Go d RX1 cX1_astrayAndTangled 3 (some .int) 4 [some (.inr 1), some (.inl (sumZ (fun k => b2i (0 ≤ sc (M 2) k 6 ∧ ¬ sc (M 2) k 0 = sc (M 2) k 6 ∧ (0 < sc (M 2) (k - 1) 3 ∨ 0 < sc (M 2) k 3))) i)), some (.inl i)] [] M (some (.inl (sumZ (fun k => b2i (0 ≤ sc (M 2) k 6 ∧ ¬ sc (M 2) k 0 = sc (M 2) k 6 ∧ (0 < sc (M 2) (k - 1) 3 ∨ 0 < sc (M 2) k 3))) (M 2 0)))) M := by
      refine up_ind 0 (M 2 0) _ (fun i h0 h1 ih => ?_)
      have ht := hW.to i
      have e : sumZ (fun k => b2i (0 ≤ sc (M 2) k 6 ∧ ¬ sc (M 2) k 0 = sc (M 2) k 6 ∧ (0 < sc (M 2) (k - 1) 3 ∨ 0 < sc (M 2) k 3))) (i + 1) = sumZ (fun k => b2i (0 ≤ sc (M 2) k 6 ∧ ¬ sc (M 2) k 0 = sc (M 2) k 6 ∧ (0 < sc (M 2) (k - 1) 3 ∨ 0 < sc (M 2) k 3))) i + b2i (0 ≤ sc (M 2) i 6 ∧ ¬ sc (M 2) i 0 = sc (M 2) i 6 ∧ (0 < sc (M 2) (i - 1) 3 ∨ 0 < sc (M 2) i 3)) := sumZ_s _ h0
      rw [e] at ih
      generalize hS : sumZ (fun k => b2i (0 ≤ sc (M 2) k 6 ∧ ¬ sc (M 2) k 0 = sc (M 2) k 6 ∧ (0 < sc (M 2) (k - 1) 3 ∨ 0 < sc (M 2) k 3))) i = S at ih ⊢
      refine Go_iload_n (pc := 4) dX1_astrayAndTangled_4 rfl rfl ?_
      refine Go_aload_n (pc := 5) dX1_astrayAndTangled_5 rfl (by decide) rfl ?_
      refine Go_invV (pc := 6) (y := yX1_shades) (avs := []) (k := 1) (rest := [.inl i]) (x := .inl (M 2 0))  (d' := d - 1) dX1_astrayAndTangled_6 ln_X1_21 mo_X1_shades vo_X1_shades rfl (rc_1) rfl rfl (Nat.le_of_ble_eq_true rfl) (by omega) (Nat.le_of_ble_eq_true rfl) rfl (s_X1_shades (by omega) (by decide)) ?_
      refine Go_icmp_ge (pc := 9) (tgt := 45) dX1_astrayAndTangled_9 (by decide) (by omega) (by omega) (fun c9 => ?_) (fun c9 => ?_)
      · refine Go_iload_n (pc := 45) dX1_astrayAndTangled_45 rfl rfl ?_
        exact Go_ireturn (pc := 46) dX1_astrayAndTangled_46 rfl (by rw [← hS, show i = M 2 0 by omega]) rfl
      · refine Go_aload_n (pc := 12) dX1_astrayAndTangled_12 rfl (by decide) rfl ?_
        refine Go_iload_n (pc := 13) dX1_astrayAndTangled_13 rfl rfl ?_
        refine Go_invV (pc := 14) (y := yX1_isTold) (avs := [.inl i]) (k := 1) (rest := []) (x := .inl (b2i ((0 ≤ i ∧ i < M 2 0) ∧ 0 ≤ sc (M 2) i 6)))  (d' := d - 1) dX1_astrayAndTangled_14 ln_X1_43 mo_X1_isTold vo_X1_isTold rfl (rc_1) rfl rfl (Nat.le_of_ble_eq_true rfl) (by omega) (Nat.le_of_ble_eq_true rfl) rfl (s_X1_isTold (by omega) (by decide) (by omega) hW) ?_
        refine Go_ifeqB (pc := 17) (tgt := 39) dX1_astrayAndTangled_17 (by decide) (fun c17 => ?_) (fun c17 => ?_)
        · refine Go_iinc (pc := 39) (L' := [some (.inr 1), some (.inl S), some (.inl (i + 1))]) dX1_astrayAndTangled_39 rfl (by decide) rfl ?_
          refine Go_goto (pc := 42) (tgt := 4) dX1_astrayAndTangled_42 (by decide) ?_
          exact Go_LS (by first | rfl | rw [b2i_t (by omega)] | rw [b2i_f (by omega), Int.add_zero]) rfl (ih (by omega))
        · refine Go_aload_n (pc := 20) dX1_astrayAndTangled_20 rfl (by decide) rfl ?_
          refine Go_iload_n (pc := 21) dX1_astrayAndTangled_21 rfl rfl ?_
          refine Go_invV (pc := 22) (y := yX1_isStanding) (avs := [.inl i]) (k := 1) (rest := []) (x := .inl (b2i (sc (M 2) i 0 = sc (M 2) i 6)))  (d' := d - 1) dX1_astrayAndTangled_22 ln_X1_46 mo_X1_isStanding vo_X1_isStanding rfl (rc_1) rfl rfl (Nat.le_of_ble_eq_true rfl) (by omega) (Nat.le_of_ble_eq_true rfl) rfl (s_X1_isStanding (by omega) (by decide) (by omega) hW) ?_
          refine Go_ifneB (pc := 25) (tgt := 39) dX1_astrayAndTangled_25 (by decide) (fun c25 => ?_) (fun c25 => ?_)
          · refine Go_iinc (pc := 39) (L' := [some (.inr 1), some (.inl S), some (.inl (i + 1))]) dX1_astrayAndTangled_39 rfl (by decide) rfl ?_
            refine Go_goto (pc := 42) (tgt := 4) dX1_astrayAndTangled_42 (by decide) ?_
            exact Go_LS (by first | rfl | rw [b2i_t (by omega)] | rw [b2i_f (by omega), Int.add_zero]) rfl (ih (by omega))
          · refine Go_aload_n (pc := 28) dX1_astrayAndTangled_28 rfl (by decide) rfl ?_
            refine Go_iload_n (pc := 29) dX1_astrayAndTangled_29 rfl rfl ?_
            refine Go_invV (pc := 30) (y := yX1_isTangled) (avs := [.inl i]) (k := 1) (rest := []) (x := .inl (b2i (0 < sc (M 2) (i - 1) 3 ∨ 0 < sc (M 2) i 3)))  (d' := d - 1) dX1_astrayAndTangled_30 ln_X1_49 mo_X1_isTangled vo_X1_isTangled rfl (rc_1) rfl rfl (Nat.le_of_ble_eq_true rfl) (by omega) (Nat.le_of_ble_eq_true rfl) rfl (s_X1_isTangled (by omega) (by decide) (by first | omega | (simp only [Nat.reduceAdd]; omega)) (by first | omega | (simp only [Nat.reduceAdd]; omega)) hW) ?_
            refine Go_ifeqB (pc := 33) (tgt := 39) dX1_astrayAndTangled_33 (by decide) (fun c33 => ?_) (fun c33 => ?_)
            · refine Go_iinc (pc := 39) (L' := [some (.inr 1), some (.inl S), some (.inl (i + 1))]) dX1_astrayAndTangled_39 rfl (by decide) rfl ?_
              refine Go_goto (pc := 42) (tgt := 4) dX1_astrayAndTangled_42 (by decide) ?_
              exact Go_LS (by first | rfl | rw [b2i_t (by omega)] | rw [b2i_f (by omega), Int.add_zero]) rfl (ih (by omega))
            · refine Go_iinc (pc := 36) (L' := [some (.inr 1), some (.inl (S + 1)), some (.inl i)]) dX1_astrayAndTangled_36 rfl (by decide) rfl ?_
              refine Go_iinc (pc := 39) (L' := [some (.inr 1), some (.inl (S + 1)), some (.inl (i + 1))]) dX1_astrayAndTangled_39 rfl (by decide) rfl ?_
              refine Go_goto (pc := 42) (tgt := 4) dX1_astrayAndTangled_42 (by decide) ?_
              exact Go_LS (by first | rfl | rw [b2i_t (by omega)] | rw [b2i_f (by omega), Int.add_zero]) rfl (ih (by omega))
    refine Go_iconst (pc := 0) dX1_astrayAndTangled_0 ?_
    refine Go_istore_n (pc := 1) (L' := [some (.inr 1), some (.inl 0), none]) dX1_astrayAndTangled_1 rfl (by decide) rfl ?_
    refine Go_iconst (pc := 2) dX1_astrayAndTangled_2 ?_
    refine Go_istore_n (pc := 3) (L' := [some (.inr 1), some (.inl 0), some (.inl 0)]) dX1_astrayAndTangled_3 rfl (by decide) rfl ?_
    exact K 0 (by omega) (by omega)
  · have hn := Wf.n (f := M 4) hW
    have hW : Wf (M 4) := hW
    have K : ∀ i, 0 ≤ i → i ≤ M 4 0 → Go d RX1 cX1_astrayAndTangled 3 (some .int) 4 [some (.inr 3), some (.inl (sumZ (fun k => b2i (0 ≤ sc (M 4) k 6 ∧ ¬ sc (M 4) k 0 = sc (M 4) k 6 ∧ (0 < sc (M 4) (k - 1) 3 ∨ 0 < sc (M 4) k 3))) i)), some (.inl i)] [] M (some (.inl (sumZ (fun k => b2i (0 ≤ sc (M 4) k 6 ∧ ¬ sc (M 4) k 0 = sc (M 4) k 6 ∧ (0 < sc (M 4) (k - 1) 3 ∨ 0 < sc (M 4) k 3))) (M 4 0)))) M := by
      refine up_ind 0 (M 4 0) _ (fun i h0 h1 ih => ?_)
      have ht := hW.to i
      have e : sumZ (fun k => b2i (0 ≤ sc (M 4) k 6 ∧ ¬ sc (M 4) k 0 = sc (M 4) k 6 ∧ (0 < sc (M 4) (k - 1) 3 ∨ 0 < sc (M 4) k 3))) (i + 1) = sumZ (fun k => b2i (0 ≤ sc (M 4) k 6 ∧ ¬ sc (M 4) k 0 = sc (M 4) k 6 ∧ (0 < sc (M 4) (k - 1) 3 ∨ 0 < sc (M 4) k 3))) i + b2i (0 ≤ sc (M 4) i 6 ∧ ¬ sc (M 4) i 0 = sc (M 4) i 6 ∧ (0 < sc (M 4) (i - 1) 3 ∨ 0 < sc (M 4) i 3)) := sumZ_s _ h0
      rw [e] at ih
      generalize hS : sumZ (fun k => b2i (0 ≤ sc (M 4) k 6 ∧ ¬ sc (M 4) k 0 = sc (M 4) k 6 ∧ (0 < sc (M 4) (k - 1) 3 ∨ 0 < sc (M 4) k 3))) i = S at ih ⊢
      refine Go_iload_n (pc := 4) dX1_astrayAndTangled_4 rfl rfl ?_
      refine Go_aload_n (pc := 5) dX1_astrayAndTangled_5 rfl (by decide) rfl ?_
      refine Go_invV (pc := 6) (y := yX1_shades) (avs := []) (k := 3) (rest := [.inl i]) (x := .inl (M 4 0))  (d' := d - 1) dX1_astrayAndTangled_6 ln_X1_21 mo_X1_shades vo_X1_shades rfl (rc_3) rfl rfl (Nat.le_of_ble_eq_true rfl) (by omega) (Nat.le_of_ble_eq_true rfl) rfl (s_X1_shades (by omega) (by decide)) ?_
      refine Go_icmp_ge (pc := 9) (tgt := 45) dX1_astrayAndTangled_9 (by decide) (by omega) (by omega) (fun c9 => ?_) (fun c9 => ?_)
      · refine Go_iload_n (pc := 45) dX1_astrayAndTangled_45 rfl rfl ?_
        exact Go_ireturn (pc := 46) dX1_astrayAndTangled_46 rfl (by rw [← hS, show i = M 4 0 by omega]) rfl
      · refine Go_aload_n (pc := 12) dX1_astrayAndTangled_12 rfl (by decide) rfl ?_
        refine Go_iload_n (pc := 13) dX1_astrayAndTangled_13 rfl rfl ?_
        refine Go_invV (pc := 14) (y := yX1_isTold) (avs := [.inl i]) (k := 3) (rest := []) (x := .inl (b2i ((0 ≤ i ∧ i < M 4 0) ∧ 0 ≤ sc (M 4) i 6)))  (d' := d - 1) dX1_astrayAndTangled_14 ln_X1_43 mo_X1_isTold vo_X1_isTold rfl (rc_3) rfl rfl (Nat.le_of_ble_eq_true rfl) (by omega) (Nat.le_of_ble_eq_true rfl) rfl (s_X1_isTold (by omega) (by decide) (by omega) hW) ?_
        refine Go_ifeqB (pc := 17) (tgt := 39) dX1_astrayAndTangled_17 (by decide) (fun c17 => ?_) (fun c17 => ?_)
        · refine Go_iinc (pc := 39) (L' := [some (.inr 3), some (.inl S), some (.inl (i + 1))]) dX1_astrayAndTangled_39 rfl (by decide) rfl ?_
          refine Go_goto (pc := 42) (tgt := 4) dX1_astrayAndTangled_42 (by decide) ?_
          exact Go_LS (by first | rfl | rw [b2i_t (by omega)] | rw [b2i_f (by omega), Int.add_zero]) rfl (ih (by omega))
        · refine Go_aload_n (pc := 20) dX1_astrayAndTangled_20 rfl (by decide) rfl ?_
          refine Go_iload_n (pc := 21) dX1_astrayAndTangled_21 rfl rfl ?_
          refine Go_invV (pc := 22) (y := yX1_isStanding) (avs := [.inl i]) (k := 3) (rest := []) (x := .inl (b2i (sc (M 4) i 0 = sc (M 4) i 6)))  (d' := d - 1) dX1_astrayAndTangled_22 ln_X1_46 mo_X1_isStanding vo_X1_isStanding rfl (rc_3) rfl rfl (Nat.le_of_ble_eq_true rfl) (by omega) (Nat.le_of_ble_eq_true rfl) rfl (s_X1_isStanding (by omega) (by decide) (by omega) hW) ?_
          refine Go_ifneB (pc := 25) (tgt := 39) dX1_astrayAndTangled_25 (by decide) (fun c25 => ?_) (fun c25 => ?_)
          · refine Go_iinc (pc := 39) (L' := [some (.inr 3), some (.inl S), some (.inl (i + 1))]) dX1_astrayAndTangled_39 rfl (by decide) rfl ?_
            refine Go_goto (pc := 42) (tgt := 4) dX1_astrayAndTangled_42 (by decide) ?_
            exact Go_LS (by first | rfl | rw [b2i_t (by omega)] | rw [b2i_f (by omega), Int.add_zero]) rfl (ih (by omega))
          · refine Go_aload_n (pc := 28) dX1_astrayAndTangled_28 rfl (by decide) rfl ?_
            refine Go_iload_n (pc := 29) dX1_astrayAndTangled_29 rfl rfl ?_
            refine Go_invV (pc := 30) (y := yX1_isTangled) (avs := [.inl i]) (k := 3) (rest := []) (x := .inl (b2i (0 < sc (M 4) (i - 1) 3 ∨ 0 < sc (M 4) i 3)))  (d' := d - 1) dX1_astrayAndTangled_30 ln_X1_49 mo_X1_isTangled vo_X1_isTangled rfl (rc_3) rfl rfl (Nat.le_of_ble_eq_true rfl) (by omega) (Nat.le_of_ble_eq_true rfl) rfl (s_X1_isTangled (by omega) (by decide) (by first | omega | (simp only [Nat.reduceAdd]; omega)) (by first | omega | (simp only [Nat.reduceAdd]; omega)) hW) ?_
            refine Go_ifeqB (pc := 33) (tgt := 39) dX1_astrayAndTangled_33 (by decide) (fun c33 => ?_) (fun c33 => ?_)
            · refine Go_iinc (pc := 39) (L' := [some (.inr 3), some (.inl S), some (.inl (i + 1))]) dX1_astrayAndTangled_39 rfl (by decide) rfl ?_
              refine Go_goto (pc := 42) (tgt := 4) dX1_astrayAndTangled_42 (by decide) ?_
              exact Go_LS (by first | rfl | rw [b2i_t (by omega)] | rw [b2i_f (by omega), Int.add_zero]) rfl (ih (by omega))
            · refine Go_iinc (pc := 36) (L' := [some (.inr 3), some (.inl (S + 1)), some (.inl i)]) dX1_astrayAndTangled_36 rfl (by decide) rfl ?_
              refine Go_iinc (pc := 39) (L' := [some (.inr 3), some (.inl (S + 1)), some (.inl (i + 1))]) dX1_astrayAndTangled_39 rfl (by decide) rfl ?_
              refine Go_goto (pc := 42) (tgt := 4) dX1_astrayAndTangled_42 (by decide) ?_
              exact Go_LS (by first | rfl | rw [b2i_t (by omega)] | rw [b2i_f (by omega), Int.add_zero]) rfl (ih (by omega))
    refine Go_iconst (pc := 0) dX1_astrayAndTangled_0 ?_
    refine Go_istore_n (pc := 1) (L' := [some (.inr 3), some (.inl 0), none]) dX1_astrayAndTangled_1 rfl (by decide) rfl ?_
    refine Go_iconst (pc := 2) dX1_astrayAndTangled_2 ?_
    refine Go_istore_n (pc := 3) (L' := [some (.inr 3), some (.inl 0), some (.inl 0)]) dX1_astrayAndTangled_3 rfl (by decide) rfl ?_
    exact K 0 (by omega) (by omega)
theorem s_X1_groups {d h : Nat} (hd : 4 ≤ d) (hh : h = 1 ∨ h = 3) {M : gMem} (hW : Wf (M (h + 1))) : Go d RX1 cX1_groups 1 (some .int) 0 [some (.inr h)] [] M (some (.inl (M (h + 1) 0 - knotsF (M (h + 1))))) M := by
  rcases hh with rfl | rfl
  · have hW : Wf (M 2) := hW
    refine Go_aload_n (pc := 0) dX1_groups_0 rfl (by decide) rfl ?_
    refine Go_invV (pc := 1) (y := yX1_shades) (avs := []) (k := 1) (rest := []) (x := .inl (M 2 0))  (d' := d - 1) dX1_groups_1 ln_X1_21 mo_X1_shades vo_X1_shades rfl (rc_1) rfl rfl (Nat.le_of_ble_eq_true rfl) (by omega) (Nat.le_of_ble_eq_true rfl) rfl (s_X1_shades (by omega) (by decide)) ?_
    refine Go_aload_n (pc := 4) dX1_groups_4 rfl (by decide) rfl ?_
    refine Go_invV (pc := 5) (y := yX1_knots) (avs := []) (k := 1) (rest := [.inl (M 2 0)]) (x := .inl (knotsF (M 2)))  (d' := d - 1) dX1_groups_5 ln_X1_40 mo_X1_knots vo_X1_knots rfl (rc_1) rfl rfl (Nat.le_of_ble_eq_true rfl) (by omega) (Nat.le_of_ble_eq_true rfl) rfl (s_X1_knots (by omega) (by decide) hW) ?_
    refine Go_isub (pc := 8) dX1_groups_8 ?_
    exact Go_ireturn (pc := 9) dX1_groups_9 rfl (by first | rfl | (simp_all; done)) rfl
  · have hW : Wf (M 4) := hW
    refine Go_aload_n (pc := 0) dX1_groups_0 rfl (by decide) rfl ?_
    refine Go_invV (pc := 1) (y := yX1_shades) (avs := []) (k := 3) (rest := []) (x := .inl (M 4 0))  (d' := d - 1) dX1_groups_1 ln_X1_21 mo_X1_shades vo_X1_shades rfl (rc_3) rfl rfl (Nat.le_of_ble_eq_true rfl) (by omega) (Nat.le_of_ble_eq_true rfl) rfl (s_X1_shades (by omega) (by decide)) ?_
    refine Go_aload_n (pc := 4) dX1_groups_4 rfl (by decide) rfl ?_
    refine Go_invV (pc := 5) (y := yX1_knots) (avs := []) (k := 3) (rest := [.inl (M 4 0)]) (x := .inl (knotsF (M 4)))  (d' := d - 1) dX1_groups_5 ln_X1_40 mo_X1_knots vo_X1_knots rfl (rc_3) rfl rfl (Nat.le_of_ble_eq_true rfl) (by omega) (Nat.le_of_ble_eq_true rfl) rfl (s_X1_knots (by omega) (by decide) hW) ?_
    refine Go_isub (pc := 8) dX1_groups_8 ?_
    exact Go_ireturn (pc := 9) dX1_groups_9 rfl (by first | rfl | (simp_all; done)) rfl
theorem s_X1_groupOf {d h : Nat} (hd : 1 ≤ d) (hh : h = 1 ∨ h = 3) {a : Int} {M : gMem} (hW : Wf (M (h + 1))) (a0 : 0 ≤ a) (a1 : a < M (h + 1) 0) : Go d RX1 cX1_groupOf 4 (some .int) 0 [some (.inr h), some (.inl a), none, none] [] M (some (.inl (gm (begG (M (h + 1)) a) (endG (M (h + 1)) a)))) M := by
  rcases hh with rfl | rfl
  · have hn := Wf.n (f := M 2) hW
    have hW : Wf (M 2) := hW
    have a1 : a < M 2 0 := a1
    have K2 : ∀ b, 0 ≤ b → b ≤ a → ∀ u, a ≤ u → u ≤ M 2 0 - 1 → Go d RX1 cX1_groupOf 4 (some .int) 39 [some (.inr 1), some (.inl a), some (.inl (gm b u)), some (.inl (u + 1))] [] M (some (.inl (gm b (endG (M 2) u)))) M := by
      intro b b0 b1
      refine up_ind a (M 2 0 - 1) _ (fun u h0 h1 ih => ?_)
      have e1 : u + 1 - 1 = u := by omega
      refine Go_iload_n (pc := 39) dX1_groupOf_39 rfl rfl ?_
      refine Go_aload_n (pc := 40) dX1_groupOf_40 rfl (by decide) rfl ?_
      refine Go_invV (pc := 41) (y := yX1_shades) (avs := []) (k := 1) (rest := [.inl (u + 1)]) (x := .inl (M 2 0))  (d' := d - 1) dX1_groupOf_41 ln_X1_21 mo_X1_shades vo_X1_shades rfl (rc_1) rfl rfl (Nat.le_of_ble_eq_true rfl) (by omega) (Nat.le_of_ble_eq_true rfl) rfl (s_X1_shades (by omega) (by decide)) ?_
      refine Go_icmp_ge (pc := 44) (tgt := 71) dX1_groupOf_44 (by decide) (by omega) (by omega) (fun c44 => ?_) (fun c44 => ?_)
      · refine Go_iload_n (pc := 71) dX1_groupOf_71 rfl rfl ?_
        exact Go_ireturn (pc := 72) dX1_groupOf_72 rfl (by rw [endG_st (by (try rw [e1] at *); omega)]) rfl
      · refine Go_aload_n (pc := 47) dX1_groupOf_47 rfl (by decide) rfl ?_
        refine Go_iload_n (pc := 48) dX1_groupOf_48 rfl rfl ?_
        refine Go_iconst (pc := 49) dX1_groupOf_49 ?_
        refine Go_isub (pc := 50) dX1_groupOf_50 ?_
        refine Go_iconst (pc := 51) dX1_groupOf_51 ?_
        refine Go_invV (pc := 52) (y := yX1_ofShade) (avs := [.inl ((u + 1) - 1), .inl 3]) (k := 1) (rest := []) (x := .inl (sc (M 2) ((u + 1) - 1) 3))  (d' := d - 1) dX1_groupOf_52 ln_X1_32 mo_X1_ofShade vo_X1_ofShade rfl (rc_1) rfl rfl (Nat.le_of_ble_eq_true rfl) (by omega) (Nat.le_of_ble_eq_true rfl) rfl (s_X1_ofShade (by omega) (by decide) (by omega) (by decide) (by decide)) ?_
        refine Go_if_le (pc := 55) (tgt := 71) dX1_groupOf_55 (by decide) (by first | exact hW.rs _ _ (by decide) | exact hW2.rs _ _ (by decide) | omega) (fun c55 => ?_) (fun c55 => ?_)
        · refine Go_iload_n (pc := 71) dX1_groupOf_71 rfl rfl ?_
          exact Go_ireturn (pc := 72) dX1_groupOf_72 rfl (by rw [endG_st (by (try rw [e1] at *); omega)]) rfl
        · refine Go_iload_n (pc := 58) dX1_groupOf_58 rfl rfl ?_
          refine Go_iload_n (pc := 59) dX1_groupOf_59 rfl rfl ?_
          refine Go_invSN (pc := 60) (y := yX7_bitOf) (avs := [.inl (u + 1)]) (rest := [.inl (gm b u)]) (x := .inl (gshl 1 (u + 1)))  (d' := d - 1) dX1_groupOf_60 nk_X1_36 mo_X7_bitOf so_X7_bitOf rfl rfl rfl (Nat.le_of_ble_eq_true rfl) (by omega) (Nat.le_of_ble_eq_true rfl) rfl (s_X7_bitOf (by omega)) ?_
          refine Go_ior (pc := 63) dX1_groupOf_63 ?_
          refine Go_istore_n (pc := 64) (L' := [some (.inr 1), some (.inl a), some (.inl (gor (gm b u) (gshl 1 (u + 1)))), some (.inl (u + 1))]) dX1_groupOf_64 rfl (by decide) rfl ?_
          refine Go_iinc (pc := 65) (L' := [some (.inr 1), some (.inl a), some (.inl (gor (gm b u) (gshl 1 (u + 1)))), some (.inl ((u + 1) + 1))]) dX1_groupOf_65 rfl (by decide) rfl ?_
          refine Go_goto (pc := 68) (tgt := 39) dX1_groupOf_68 (by decide) ?_
          rw [e1] at *
          exact Go_LS (by rw [gm_up b0 (by omega) (by omega)]) rfl (Go_v (by rw [endG_go (k := u) (by omega) (by omega)]) rfl (ih (by omega)))
    have K1 : ∀ l, 0 ≤ l → l ≤ a → Go d RX1 cX1_groupOf 4 (some .int) 9 [some (.inr 1), some (.inl a), some (.inl (gm l a)), some (.inl (l - 1))] [] M (some (.inl (gm (begG (M 2) l) (endG (M 2) a)))) M := by
      refine dn_ind 0 a _ (fun l h0 h1 ih => ?_)
      refine Go_iload_n (pc := 9) dX1_groupOf_9 rfl rfl ?_
      refine Go_if_lt (pc := 10) (tgt := 35) dX1_groupOf_10 (by decide) (by omega) (fun c10 => ?_) (fun c10 => ?_)
      · refine Go_iload_n (pc := 35) dX1_groupOf_35 rfl rfl ?_
        refine Go_iconst (pc := 36) dX1_groupOf_36 ?_
        refine Go_iadd (pc := 37) dX1_groupOf_37 ?_
        refine Go_istore_n (pc := 38) (L' := [some (.inr 1), some (.inl a), some (.inl (gm l a)), some (.inl (a + 1))]) dX1_groupOf_38 rfl (by decide) rfl ?_
        exact Go_v (by rw [begG_st (by omega)]) rfl (K2 l (by omega) (by omega) a (by omega) (by omega))
      · refine Go_aload_n (pc := 13) dX1_groupOf_13 rfl (by decide) rfl ?_
        refine Go_iload_n (pc := 14) dX1_groupOf_14 rfl rfl ?_
        refine Go_iconst (pc := 15) dX1_groupOf_15 ?_
        refine Go_invV (pc := 16) (y := yX1_ofShade) (avs := [.inl (l - 1), .inl 3]) (k := 1) (rest := []) (x := .inl (sc (M 2) (l - 1) 3))  (d' := d - 1) dX1_groupOf_16 ln_X1_32 mo_X1_ofShade vo_X1_ofShade rfl (rc_1) rfl rfl (Nat.le_of_ble_eq_true rfl) (by omega) (Nat.le_of_ble_eq_true rfl) rfl (s_X1_ofShade (by omega) (by decide) (by omega) (by decide) (by decide)) ?_
        refine Go_if_le (pc := 19) (tgt := 35) dX1_groupOf_19 (by decide) (by first | exact hW.rs _ _ (by decide) | exact hW2.rs _ _ (by decide) | omega) (fun c19 => ?_) (fun c19 => ?_)
        · refine Go_iload_n (pc := 35) dX1_groupOf_35 rfl rfl ?_
          refine Go_iconst (pc := 36) dX1_groupOf_36 ?_
          refine Go_iadd (pc := 37) dX1_groupOf_37 ?_
          refine Go_istore_n (pc := 38) (L' := [some (.inr 1), some (.inl a), some (.inl (gm l a)), some (.inl (a + 1))]) dX1_groupOf_38 rfl (by decide) rfl ?_
          exact Go_v (by rw [begG_st (by omega)]) rfl (K2 l (by omega) (by omega) a (by omega) (by omega))
        · refine Go_iload_n (pc := 22) dX1_groupOf_22 rfl rfl ?_
          refine Go_iload_n (pc := 23) dX1_groupOf_23 rfl rfl ?_
          refine Go_invSN (pc := 24) (y := yX7_bitOf) (avs := [.inl (l - 1)]) (rest := [.inl (gm l a)]) (x := .inl (gshl 1 (l - 1)))  (d' := d - 1) dX1_groupOf_24 nk_X1_36 mo_X7_bitOf so_X7_bitOf rfl rfl rfl (Nat.le_of_ble_eq_true rfl) (by omega) (Nat.le_of_ble_eq_true rfl) rfl (s_X7_bitOf (by omega)) ?_
          refine Go_ior (pc := 27) dX1_groupOf_27 ?_
          refine Go_istore_n (pc := 28) (L' := [some (.inr 1), some (.inl a), some (.inl (gor (gm l a) (gshl 1 (l - 1)))), some (.inl (l - 1))]) dX1_groupOf_28 rfl (by decide) rfl ?_
          refine Go_iinc (pc := 29) (L' := [some (.inr 1), some (.inl a), some (.inl (gor (gm l a) (gshl 1 (l - 1)))), some (.inl ((l - 1) + (-1)))]) dX1_groupOf_29 rfl (by decide) rfl ?_
          refine Go_goto (pc := 32) (tgt := 9) dX1_groupOf_32 (by decide) ?_
          exact Go_LS (by rw [gm_dn2 (by omega) h1 (by omega)]; rfl) rfl (Go_v (by rw [begG_go (k := l) (by omega) (by omega)]) rfl (ih (by omega)))
    refine Go_iload_n (pc := 0) dX1_groupOf_0 rfl rfl ?_
    refine Go_invSN (pc := 1) (y := yX7_bitOf) (avs := [.inl a]) (rest := []) (x := .inl (gshl 1 a))  (d' := d - 1) dX1_groupOf_1 nk_X1_36 mo_X7_bitOf so_X7_bitOf rfl rfl rfl (Nat.le_of_ble_eq_true rfl) (by omega) (Nat.le_of_ble_eq_true rfl) rfl (s_X7_bitOf (by omega)) ?_
    refine Go_istore_n (pc := 4) (L' := [some (.inr 1), some (.inl a), some (.inl (gshl 1 a)), none]) dX1_groupOf_4 rfl (by decide) rfl ?_
    refine Go_iload_n (pc := 5) dX1_groupOf_5 rfl rfl ?_
    refine Go_iconst (pc := 6) dX1_groupOf_6 ?_
    refine Go_isub (pc := 7) dX1_groupOf_7 ?_
    refine Go_istore_n (pc := 8) (L' := [some (.inr 1), some (.inl a), some (.inl (gshl 1 a)), some (.inl (a - 1))]) dX1_groupOf_8 rfl (by decide) rfl ?_
    exact Go_LS (by rw [gm_self a0 (by omega)]) rfl (K1 a a0 (by omega))
  · have hn := Wf.n (f := M 4) hW
    have hW : Wf (M 4) := hW
    have a1 : a < M 4 0 := a1
    have K2 : ∀ b, 0 ≤ b → b ≤ a → ∀ u, a ≤ u → u ≤ M 4 0 - 1 → Go d RX1 cX1_groupOf 4 (some .int) 39 [some (.inr 3), some (.inl a), some (.inl (gm b u)), some (.inl (u + 1))] [] M (some (.inl (gm b (endG (M 4) u)))) M := by
      intro b b0 b1
      refine up_ind a (M 4 0 - 1) _ (fun u h0 h1 ih => ?_)
      have e1 : u + 1 - 1 = u := by omega
      refine Go_iload_n (pc := 39) dX1_groupOf_39 rfl rfl ?_
      refine Go_aload_n (pc := 40) dX1_groupOf_40 rfl (by decide) rfl ?_
      refine Go_invV (pc := 41) (y := yX1_shades) (avs := []) (k := 3) (rest := [.inl (u + 1)]) (x := .inl (M 4 0))  (d' := d - 1) dX1_groupOf_41 ln_X1_21 mo_X1_shades vo_X1_shades rfl (rc_3) rfl rfl (Nat.le_of_ble_eq_true rfl) (by omega) (Nat.le_of_ble_eq_true rfl) rfl (s_X1_shades (by omega) (by decide)) ?_
      refine Go_icmp_ge (pc := 44) (tgt := 71) dX1_groupOf_44 (by decide) (by omega) (by omega) (fun c44 => ?_) (fun c44 => ?_)
      · refine Go_iload_n (pc := 71) dX1_groupOf_71 rfl rfl ?_
        exact Go_ireturn (pc := 72) dX1_groupOf_72 rfl (by rw [endG_st (by (try rw [e1] at *); omega)]) rfl
      · refine Go_aload_n (pc := 47) dX1_groupOf_47 rfl (by decide) rfl ?_
        refine Go_iload_n (pc := 48) dX1_groupOf_48 rfl rfl ?_
        refine Go_iconst (pc := 49) dX1_groupOf_49 ?_
        refine Go_isub (pc := 50) dX1_groupOf_50 ?_
        refine Go_iconst (pc := 51) dX1_groupOf_51 ?_
        refine Go_invV (pc := 52) (y := yX1_ofShade) (avs := [.inl ((u + 1) - 1), .inl 3]) (k := 3) (rest := []) (x := .inl (sc (M 4) ((u + 1) - 1) 3))  (d' := d - 1) dX1_groupOf_52 ln_X1_32 mo_X1_ofShade vo_X1_ofShade rfl (rc_3) rfl rfl (Nat.le_of_ble_eq_true rfl) (by omega) (Nat.le_of_ble_eq_true rfl) rfl (s_X1_ofShade (by omega) (by decide) (by omega) (by decide) (by decide)) ?_
        refine Go_if_le (pc := 55) (tgt := 71) dX1_groupOf_55 (by decide) (by first | exact hW.rs _ _ (by decide) | exact hW2.rs _ _ (by decide) | omega) (fun c55 => ?_) (fun c55 => ?_)
        · refine Go_iload_n (pc := 71) dX1_groupOf_71 rfl rfl ?_
          exact Go_ireturn (pc := 72) dX1_groupOf_72 rfl (by rw [endG_st (by (try rw [e1] at *); omega)]) rfl
        · refine Go_iload_n (pc := 58) dX1_groupOf_58 rfl rfl ?_
          refine Go_iload_n (pc := 59) dX1_groupOf_59 rfl rfl ?_
          refine Go_invSN (pc := 60) (y := yX7_bitOf) (avs := [.inl (u + 1)]) (rest := [.inl (gm b u)]) (x := .inl (gshl 1 (u + 1)))  (d' := d - 1) dX1_groupOf_60 nk_X1_36 mo_X7_bitOf so_X7_bitOf rfl rfl rfl (Nat.le_of_ble_eq_true rfl) (by omega) (Nat.le_of_ble_eq_true rfl) rfl (s_X7_bitOf (by omega)) ?_
          refine Go_ior (pc := 63) dX1_groupOf_63 ?_
          refine Go_istore_n (pc := 64) (L' := [some (.inr 3), some (.inl a), some (.inl (gor (gm b u) (gshl 1 (u + 1)))), some (.inl (u + 1))]) dX1_groupOf_64 rfl (by decide) rfl ?_
          refine Go_iinc (pc := 65) (L' := [some (.inr 3), some (.inl a), some (.inl (gor (gm b u) (gshl 1 (u + 1)))), some (.inl ((u + 1) + 1))]) dX1_groupOf_65 rfl (by decide) rfl ?_
          refine Go_goto (pc := 68) (tgt := 39) dX1_groupOf_68 (by decide) ?_
          rw [e1] at *
          exact Go_LS (by rw [gm_up b0 (by omega) (by omega)]) rfl (Go_v (by rw [endG_go (k := u) (by omega) (by omega)]) rfl (ih (by omega)))
    have K1 : ∀ l, 0 ≤ l → l ≤ a → Go d RX1 cX1_groupOf 4 (some .int) 9 [some (.inr 3), some (.inl a), some (.inl (gm l a)), some (.inl (l - 1))] [] M (some (.inl (gm (begG (M 4) l) (endG (M 4) a)))) M := by
      refine dn_ind 0 a _ (fun l h0 h1 ih => ?_)
      refine Go_iload_n (pc := 9) dX1_groupOf_9 rfl rfl ?_
      refine Go_if_lt (pc := 10) (tgt := 35) dX1_groupOf_10 (by decide) (by omega) (fun c10 => ?_) (fun c10 => ?_)
      · refine Go_iload_n (pc := 35) dX1_groupOf_35 rfl rfl ?_
        refine Go_iconst (pc := 36) dX1_groupOf_36 ?_
        refine Go_iadd (pc := 37) dX1_groupOf_37 ?_
        refine Go_istore_n (pc := 38) (L' := [some (.inr 3), some (.inl a), some (.inl (gm l a)), some (.inl (a + 1))]) dX1_groupOf_38 rfl (by decide) rfl ?_
        exact Go_v (by rw [begG_st (by omega)]) rfl (K2 l (by omega) (by omega) a (by omega) (by omega))
      · refine Go_aload_n (pc := 13) dX1_groupOf_13 rfl (by decide) rfl ?_
        refine Go_iload_n (pc := 14) dX1_groupOf_14 rfl rfl ?_
        refine Go_iconst (pc := 15) dX1_groupOf_15 ?_
        refine Go_invV (pc := 16) (y := yX1_ofShade) (avs := [.inl (l - 1), .inl 3]) (k := 3) (rest := []) (x := .inl (sc (M 4) (l - 1) 3))  (d' := d - 1) dX1_groupOf_16 ln_X1_32 mo_X1_ofShade vo_X1_ofShade rfl (rc_3) rfl rfl (Nat.le_of_ble_eq_true rfl) (by omega) (Nat.le_of_ble_eq_true rfl) rfl (s_X1_ofShade (by omega) (by decide) (by omega) (by decide) (by decide)) ?_
        refine Go_if_le (pc := 19) (tgt := 35) dX1_groupOf_19 (by decide) (by first | exact hW.rs _ _ (by decide) | exact hW2.rs _ _ (by decide) | omega) (fun c19 => ?_) (fun c19 => ?_)
        · refine Go_iload_n (pc := 35) dX1_groupOf_35 rfl rfl ?_
          refine Go_iconst (pc := 36) dX1_groupOf_36 ?_
          refine Go_iadd (pc := 37) dX1_groupOf_37 ?_
          refine Go_istore_n (pc := 38) (L' := [some (.inr 3), some (.inl a), some (.inl (gm l a)), some (.inl (a + 1))]) dX1_groupOf_38 rfl (by decide) rfl ?_
          exact Go_v (by rw [begG_st (by omega)]) rfl (K2 l (by omega) (by omega) a (by omega) (by omega))
        · refine Go_iload_n (pc := 22) dX1_groupOf_22 rfl rfl ?_
          refine Go_iload_n (pc := 23) dX1_groupOf_23 rfl rfl ?_
          refine Go_invSN (pc := 24) (y := yX7_bitOf) (avs := [.inl (l - 1)]) (rest := [.inl (gm l a)]) (x := .inl (gshl 1 (l - 1)))  (d' := d - 1) dX1_groupOf_24 nk_X1_36 mo_X7_bitOf so_X7_bitOf rfl rfl rfl (Nat.le_of_ble_eq_true rfl) (by omega) (Nat.le_of_ble_eq_true rfl) rfl (s_X7_bitOf (by omega)) ?_
          refine Go_ior (pc := 27) dX1_groupOf_27 ?_
          refine Go_istore_n (pc := 28) (L' := [some (.inr 3), some (.inl a), some (.inl (gor (gm l a) (gshl 1 (l - 1)))), some (.inl (l - 1))]) dX1_groupOf_28 rfl (by decide) rfl ?_
          refine Go_iinc (pc := 29) (L' := [some (.inr 3), some (.inl a), some (.inl (gor (gm l a) (gshl 1 (l - 1)))), some (.inl ((l - 1) + (-1)))]) dX1_groupOf_29 rfl (by decide) rfl ?_
          refine Go_goto (pc := 32) (tgt := 9) dX1_groupOf_32 (by decide) ?_
          exact Go_LS (by rw [gm_dn2 (by omega) h1 (by omega)]; rfl) rfl (Go_v (by rw [begG_go (k := l) (by omega) (by omega)]) rfl (ih (by omega)))
    refine Go_iload_n (pc := 0) dX1_groupOf_0 rfl rfl ?_
    refine Go_invSN (pc := 1) (y := yX7_bitOf) (avs := [.inl a]) (rest := []) (x := .inl (gshl 1 a))  (d' := d - 1) dX1_groupOf_1 nk_X1_36 mo_X7_bitOf so_X7_bitOf rfl rfl rfl (Nat.le_of_ble_eq_true rfl) (by omega) (Nat.le_of_ble_eq_true rfl) rfl (s_X7_bitOf (by omega)) ?_
    refine Go_istore_n (pc := 4) (L' := [some (.inr 3), some (.inl a), some (.inl (gshl 1 a)), none]) dX1_groupOf_4 rfl (by decide) rfl ?_
    refine Go_iload_n (pc := 5) dX1_groupOf_5 rfl rfl ?_
    refine Go_iconst (pc := 6) dX1_groupOf_6 ?_
    refine Go_isub (pc := 7) dX1_groupOf_7 ?_
    refine Go_istore_n (pc := 8) (L' := [some (.inr 3), some (.inl a), some (.inl (gshl 1 a)), some (.inl (a - 1))]) dX1_groupOf_8 rfl (by decide) rfl ?_
    exact Go_LS (by rw [gm_self a0 (by omega)]) rfl (K1 a a0 (by omega))
theorem s_X1_heightsUnlike {d h g : Nat} (hd : 1 ≤ d) (hh : h = 3 ∧ g = 1) {M : gMem} (hW : Wf (M (h + 1))) (hW2 : Wf (M (g + 1))) : Go d RX1 cX1_heightsUnlike 4 (some .int) 0 [some (.inr h), some (.inr g), none, none] [] M (some (.inl (orZ (fun k => sc (M (h + 1)) k 0 - sc (M (g + 1)) k 0) (M (h + 1) 0)))) M := by
  obtain ⟨rfl, rfl⟩ := hh
  have hn := Wf.n (f := M 4) hW
  have hW : Wf (M 4) := hW
  have hW2 : Wf (M 2) := hW2
  have K : ∀ i, 0 ≤ i → i ≤ M 4 0 → Go d RX1 cX1_heightsUnlike 4 (some .int) 4 [some (.inr 3), some (.inr 1), some (.inl (orZ (fun k => sc (M 4) k 0 - sc (M 2) k 0) i)), some (.inl i)] [] M (some (.inl (orZ (fun k => sc (M 4) k 0 - sc (M 2) k 0) (M 4 0)))) M := by
    refine up_ind 0 (M 4 0) _ (fun i h0 h1 ih => ?_)
    have e : orZ (fun k => sc (M 4) k 0 - sc (M 2) k 0) (i + 1) = if sc (M 4) i 0 - sc (M 2) i 0 = 0 then orZ (fun k => sc (M 4) k 0 - sc (M 2) k 0) i else gor (orZ (fun k => sc (M 4) k 0 - sc (M 2) k 0) i) (gshl 1 i) := orZ_s _ h0
    rw [e] at ih
    generalize hS : orZ (fun k => sc (M 4) k 0 - sc (M 2) k 0) i = S at ih ⊢
    refine Go_iload_n (pc := 4) dX1_heightsUnlike_4 rfl rfl ?_
    refine Go_aload_n (pc := 5) dX1_heightsUnlike_5 rfl (by decide) rfl ?_
    refine Go_invV (pc := 6) (y := yX1_shades) (avs := []) (k := 3) (rest := [.inl i]) (x := .inl (M 4 0))  (d' := d - 1) dX1_heightsUnlike_6 ln_X1_21 mo_X1_shades vo_X1_shades rfl (rc_3) rfl rfl (Nat.le_of_ble_eq_true rfl) (by omega) (Nat.le_of_ble_eq_true rfl) rfl (s_X1_shades (by omega) (by decide)) ?_
    refine Go_icmp_ge (pc := 9) (tgt := 40) dX1_heightsUnlike_9 (by decide) (by omega) (by omega) (fun c9 => ?_) (fun c9 => ?_)
    · refine Go_iload_n (pc := 40) dX1_heightsUnlike_40 rfl rfl ?_
      exact Go_ireturn (pc := 41) dX1_heightsUnlike_41 rfl (by rw [← hS, show i = M 4 0 by omega]) rfl
    · refine Go_aload_n (pc := 12) dX1_heightsUnlike_12 rfl (by decide) rfl ?_
      refine Go_iload_n (pc := 13) dX1_heightsUnlike_13 rfl rfl ?_
      refine Go_iconst (pc := 14) dX1_heightsUnlike_14 ?_
      refine Go_invV (pc := 15) (y := yX1_ofShade) (avs := [.inl i, .inl 0]) (k := 3) (rest := []) (x := .inl (sc (M 4) i 0))  (d' := d - 1) dX1_heightsUnlike_15 ln_X1_32 mo_X1_ofShade vo_X1_ofShade rfl (rc_3) rfl rfl (Nat.le_of_ble_eq_true rfl) (by omega) (Nat.le_of_ble_eq_true rfl) rfl (s_X1_ofShade (by omega) (by decide) (by omega) (by decide) (by decide)) ?_
      refine Go_aload_n (pc := 18) dX1_heightsUnlike_18 rfl (by decide) rfl ?_
      refine Go_iload_n (pc := 19) dX1_heightsUnlike_19 rfl rfl ?_
      refine Go_iconst (pc := 20) dX1_heightsUnlike_20 ?_
      refine Go_invV (pc := 21) (y := yX1_ofShade) (avs := [.inl i, .inl 0]) (k := 1) (rest := [.inl (sc (M 4) i 0)]) (x := .inl (sc (M 2) i 0))  (d' := d - 1) dX1_heightsUnlike_21 ln_X1_32 mo_X1_ofShade vo_X1_ofShade rfl (rc_1) rfl rfl (Nat.le_of_ble_eq_true rfl) (by omega) (Nat.le_of_ble_eq_true rfl) rfl (s_X1_ofShade (by omega) (by decide) (by omega) (by decide) (by decide)) ?_
      refine Go_icmp_eq (pc := 24) (tgt := 34) dX1_heightsUnlike_24 (by decide) (by first | exact hW.rs _ _ (by decide) | exact hW2.rs _ _ (by decide) | omega) (by first | exact hW.rs _ _ (by decide) | exact hW2.rs _ _ (by decide) | omega) (fun c24 => ?_) (fun c24 => ?_)
      · refine Go_iinc (pc := 34) (L' := [some (.inr 3), some (.inr 1), some (.inl S), some (.inl (i + 1))]) dX1_heightsUnlike_34 rfl (by decide) rfl ?_
        refine Go_goto (pc := 37) (tgt := 4) dX1_heightsUnlike_37 (by decide) ?_
        exact Go_LS (by first | rw [if_pos (by omega)] | rw [if_neg (by omega)]) rfl (ih (by omega))
      · refine Go_iload_n (pc := 27) dX1_heightsUnlike_27 rfl rfl ?_
        refine Go_iload_n (pc := 28) dX1_heightsUnlike_28 rfl rfl ?_
        refine Go_invSN (pc := 29) (y := yX7_bitOf) (avs := [.inl i]) (rest := [.inl S]) (x := .inl (gshl 1 i))  (d' := d - 1) dX1_heightsUnlike_29 nk_X1_36 mo_X7_bitOf so_X7_bitOf rfl rfl rfl (Nat.le_of_ble_eq_true rfl) (by omega) (Nat.le_of_ble_eq_true rfl) rfl (s_X7_bitOf (by omega)) ?_
        refine Go_ior (pc := 32) dX1_heightsUnlike_32 ?_
        refine Go_istore_n (pc := 33) (L' := [some (.inr 3), some (.inr 1), some (.inl (gor S (gshl 1 i))), some (.inl i)]) dX1_heightsUnlike_33 rfl (by decide) rfl ?_
        refine Go_iinc (pc := 34) (L' := [some (.inr 3), some (.inr 1), some (.inl (gor S (gshl 1 i))), some (.inl (i + 1))]) dX1_heightsUnlike_34 rfl (by decide) rfl ?_
        refine Go_goto (pc := 37) (tgt := 4) dX1_heightsUnlike_37 (by decide) ?_
        exact Go_LS (by first | rw [if_pos (by omega)] | rw [if_neg (by omega)]) rfl (ih (by omega))
  refine Go_iconst (pc := 0) dX1_heightsUnlike_0 ?_
  refine Go_istore_n (pc := 1) (L' := [some (.inr 3), some (.inr 1), some (.inl 0), none]) dX1_heightsUnlike_1 rfl (by decide) rfl ?_
  refine Go_iconst (pc := 2) dX1_heightsUnlike_2 ?_
  refine Go_istore_n (pc := 3) (L' := [some (.inr 3), some (.inr 1), some (.inl 0), some (.inl 0)]) dX1_heightsUnlike_3 rfl (by decide) rfl ?_
  exact K 0 (by omega) (by omega)
