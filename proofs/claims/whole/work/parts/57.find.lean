/-! the class: the least pulls -/
def boxV (n : Int) (v : Int → Int) : Prop := ∀ j, 0 ≤ j → j < n → -9 ≤ v j ∧ v j ≤ 9
def LeP (f : Int → Int) (l : Int) (b : Int → Int) : Prop := ∃ b0, Fst (f 1) (okH f (f 0)) (boxV (f 1)) 37 b0 l b
def lpV (l : Int) : Int := if l < 37 then l else -1000004
theorem lpV_y {l : Int} (h : l < 37) : lpV l = l := if_pos h
theorem lpV_n {l : Int} (h : ¬ l < 37) : lpV l = -1000004 := if_neg h
theorem LeP_b {f : Int → Int} (hW : Wf f) {l : Int} {b : Int → Int} (h : LeP f l b) : (0 ≤ l ∧ l ≤ 37) ∧ (l < 37 → boxV (f 1) b) := by
  have t := hW.t
  obtain ⟨b0, h⟩ := h
  rcases h with ⟨e, g, a⟩ | ⟨v, c, o, s, e, g, a⟩
  · exact ⟨by omega, fun h => by omega⟩
  · have := (sumA_b9 (s := f 1) t.1 (fun j p q => c j p q)).1
    exact ⟨by omega, fun _ j p q => by rw [g j p q]; exact c j p q⟩
theorem LeP_one {f : Int → Int} (hW : Wf f) {l l2 : Int} {b b2 : Int → Int} (h : LeP f l b) (h2 : LeP f l2 b2) : l = l2 ∧ (l < 37 → agr (f 1) b b2) := by
  obtain ⟨c, h⟩ := h
  obtain ⟨c2, h2⟩ := h2
  exact Fst_one hW.t.1 h h2
theorem s_X2_find {d : Nat} (hd : 8 ≤ d) {M : gMem} (hW : Wf (M 2)) : ∃ M', Go d RX2 cX2_find 2 (some .int) 0 [some (.inr 10), some (.inr 1)] [] M (some (.inl (lpV (M' 10 7)))) M' ∧ (∀ k, k < 10 ∨ 15 < k → M' k = M k) ∧ LeP (M 2) (M' 10 7) (M' 15) := by
  have ht := hW.t
  obtain ⟨M1, g1, p1⟩ := s_X2_writeEquations (d := d - 1) (by omega) (M := setR M 10 (updI (M 10) 7 37)) hW
  have r2 : (setR M 10 (updI (M 10) 7 37)) 2 = M 2 := rfl
  rw [r2] at p1
  have e7 : M1 10 7 = 37 := (p1.2.1 7 (by decide) (by decide)).trans (by show updI (M 10) 7 37 7 = 37; rw [updI_s])
  have e6 : M1 10 6 = M 2 1 := p1.2.2.1
  have h5 := p1.2.2.2.1
  obtain ⟨M2, g2, p2⟩ := s_X2_search (M1 11) (M1 10 6 - 0).toNat (d - 1) M1 0 (by omega) rfl ⟨p1.2.2.2.2.1, ⟨Int.le_refl 0, by omega⟩, by omega, fun j a b => by omega, fun e a b => by show M1 11 e = M1 11 e - 0; omega⟩
  have ls := p2.ls
  have fs := p2.fs
  have eo : okE (M1 10 6) (M1 10 5) (M1 11) (effM (M1 12)) = okH (M 2) (M 2 0) := funext fun v => propext (p1.2.2.2.2.2 v)
  have ec : cmpl (M1 10 6) 0 (M1 14) = boxV (M1 10 6) := funext fun v => propext ⟨fun h => h.2, fun h => ⟨fun j a b => by omega, h⟩⟩
  rw [eo, ec, e7, e6] at fs
  refine ⟨M2, ?_, fun k hk => ?_, ⟨_, fs⟩⟩
  · refine Go_aload_n (pc := 0) dX2_find_0 rfl (by decide) rfl ?_
    refine Go_bipush (pc := 1) dX2_find_1 (by decide) (by decide) ?_
    refine Go_puti (pc := 3) dX2_find_3 fw_X2_34 (by decide) rfl rfl ?_
    refine Go_M (M1 := setR M 10 (updI (M 10) 7 37)) rfl ?_
    refine Go_aload_n (pc := 6) dX2_find_6 rfl (by decide) rfl ?_
    refine Go_aload_n (pc := 7) dX2_find_7 rfl (by decide) rfl ?_
    refine Go_invVv (pc := 8) (y := yX2_writeEquations) (avs := [.inr 1]) (k := 10) (rest := [])  (M1 := M1) (d' := d - 1) dX2_find_8 ln_X2_37 mo_X2_writeEquations vo_X2_writeEquations rfl (rc_10) rfl rfl (Nat.le_of_ble_eq_true rfl) (by omega) (Nat.le_of_ble_eq_true rfl) rfl (g1) ?_
    refine Go_aload_n (pc := 11) dX2_find_11 rfl (by decide) rfl ?_
    refine Go_iconst (pc := 12) dX2_find_12 ?_
    refine Go_iconst (pc := 13) dX2_find_13 ?_
    refine Go_invSv (pc := 14) (y := yX2_search) (avs := [.inr 10, .inl 0, .inl 0]) (rest := [])  (M1 := M2) (d' := d - 1) dX2_find_14 ln_X2_41 mo_X2_search so_X2_search rfl rfl rfl (Nat.le_of_ble_eq_true rfl) (by omega) (Nat.le_of_ble_eq_true rfl) rfl (g2) ?_
    refine Go_aload_n (pc := 17) dX2_find_17 rfl (by decide) rfl ?_
    refine Go_geti (pc := 18) (z := M2 10 7) dX2_find_18 fo_X2_34 (by decide) rfl rfl (rfl) ?_
    refine Go_bipush (pc := 21) dX2_find_21 (by decide) (by decide) ?_
    refine Go_icmp_ge (pc := 23) (tgt := 33) dX2_find_23 (by decide) (by omega) (by decide) (fun c23 => ?_) (fun c23 => ?_)
    · refine Go_ldc (pc := 33) (n := -1000004) rfl kc_X2_45 dX2_find_33 ?_
      exact Go_ireturn (pc := 35) dX2_find_35 rfl (by first | rw [lpV_y (by omega)] | rw [lpV_n (by omega)]) rfl
    · refine Go_aload_n (pc := 26) dX2_find_26 rfl (by decide) rfl ?_
      refine Go_geti (pc := 27) (z := M2 10 7) dX2_find_27 fo_X2_34 (by decide) rfl rfl (rfl) ?_
      refine Go_goto (pc := 30) (tgt := 35) dX2_find_30 (by decide) ?_
      exact Go_ireturn (pc := 35) dX2_find_35 rfl (by first | rw [lpV_y (by omega)] | rw [lpV_n (by omega)]) rfl
  · rw [p2.fr k (by omega) (by omega) (by omega), p1.1 k (by omega) (by omega) (by omega) (by omega)]
    exact setR_n (by omega)
theorem s_X2_stepsOf {d : Nat} (hd : 1 ≤ d) {j : Int} {M : gMem} (h0 : 0 ≤ j) (h1 : j < 4) : Go d RX2 cX2_stepsOf 2 (some .int) 0 [some (.inr 10), some (.inl j)] [] M (some (.inl (M 15 j))) M := by
  refine Go_aload_n (pc := 0) dX2_stepsOf_0 rfl (by decide) rfl ?_
  refine Go_getr (pc := 1) (r := 15) dX2_stepsOf_1 fo_X2_24 (by decide) rfl rfl (by decide) ?_
  refine Go_iload_n (pc := 4) dX2_stepsOf_4 rfl rfl ?_
  refine Go_invS (pc := 5) (y := yX2_at) (avs := [.inr 15, .inl j]) (rest := []) (x := .inl ((M 15) j))  (d' := d - 1) dX2_stepsOf_5 ln_X2_46 mo_X2_at so_X2_at rfl rfl rfl (Nat.le_of_ble_eq_true rfl) (by omega) (Nat.le_of_ble_eq_true rfl) rfl (s_X2_at_15 (by omega) (by first | omega | (simp only [Nat.reduceAdd, setR_s]; omega) | (simp only [setR, Nat.reduceEqDiff, reduceIte]; omega)) (by first | omega | (simp only [Nat.reduceAdd, setR_s]; omega) | (simp only [setR, Nat.reduceEqDiff, reduceIte]; omega))) ?_
  exact Go_ireturn (pc := 8) dX2_stepsOf_8 rfl (by first | rfl | (simp_all; done)) rfl
